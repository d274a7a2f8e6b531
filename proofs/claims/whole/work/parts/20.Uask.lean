/-! 20.Upriv (laid by wip/whole/gen/methods_u.py): private methods that ask. -/
set_option maxHeartbeats 4000000 in
theorem k_U_isColumn (l : Launch) (D : va_G) (sz : Nat) (x : Int32) : us_Ci l yU_isColumn cU_isColumn 1 (some .boolean) 0 0 [.int x] D [] [] sz (po_b (∃ c, c < 3 ∧ x = nI c)) (fun _ => []) := by
  refine us_enter (own := RU) rfl (by decide) (Nat.le_of_ble_eq_true rfl) ?_
  intro p e s m below meth c ls X Y hr hlk hl
  generalize va_A [] sz = A at X Y ⊢
  have hl : lv_has ls 1 [(0, .int x)] := hl
  refine lv_iload_n X.x X.b dU_isColumn_0 rfl (lv_at hl 0 rfl) ?_
  refine lv_if_lt (tgt := 13) X.x X.b dU_isColumn_1 (by decide) (fun h1 => ?_) (fun h1 => ?_)
  · refine lv_iconst (v := nI 0) X.x X.b dU_isColumn_13 (by decide) ?_
    exact us_zret (u := ()) X Y hr hlk rfl (Or.inr ⟨rfl, fun ⟨c, h2, h3⟩ => nI_pos (n := c) (by omega) (h3 ▸ h1)⟩) dU_isColumn_14
  · refine lv_iload_n X.x X.b dU_isColumn_4 rfl (lv_at hl 0 rfl) ?_
    refine lv_iconst (v := nI 3) X.x X.b dU_isColumn_5 (by decide) ?_
    refine lv_icmp_ge (tgt := 13) X.x X.b dU_isColumn_6 (by decide) (fun h2 => ?_) (fun h2 => ?_)
    · refine lv_iconst (v := nI 0) X.x X.b dU_isColumn_13 (by decide) ?_
      exact us_zret (u := ()) X Y hr hlk rfl (Or.inr ⟨rfl, fun ⟨c, h3, h4⟩ => absurd h2 (by rw [h4]; exact nI_ge h3 (by decide))⟩) dU_isColumn_14
    · refine lv_iconst (v := nI 1) X.x X.b dU_isColumn_9 (by decide) ?_
      refine lv_goto (tgt := 14) X.x X.b dU_isColumn_10 (by decide) ?_
      exact us_zret (u := ()) X Y hr hlk rfl (Or.inl ⟨rfl, us_lt3 h1 h2⟩) dU_isColumn_14
set_option maxHeartbeats 4000000 in
set_option maxRecDepth 100000 in
theorem k_U_isRow (l : Launch) (D : va_G) (ad : Nat → Nat) (cI : ClassId) (sz : Nat) (C PN CA CK CR CB : Nat → Int32) (n np k : Nat) (x : Int32) (hn : n ≤ 120) : us_Ci l yU_isRow cU_isRow 2 (some .boolean) 0 0 [.ref (ad 0), .int x] D (tyU cI) (uW ad cI C n PN CA np CK CR CB k) sz (po_b (∃ i, i < n ∧ x = nI i)) (fun _ => uW ad cI C n PN CA np CK CR CB k) := by
  refine us_enter (own := RU) rfl (by decide) (Nat.le_of_ble_eq_true rfl) ?_
  intro p e s m below meth c ls X Y hr hlk hl
  generalize va_A (uW ad cI C n PN CA np CK CR CB k) sz = A at X Y ⊢
  have hl : lv_has ls 2 [(0, .ref (ad 0)), (1, .int x)] := hl
  refine lv_iload_n X.x X.b dU_isRow_0 rfl (lv_at hl 1 rfl) ?_
  refine lv_if_lt (tgt := 16) X.x X.b dU_isRow_1 (by decide) (fun h1 => ?_) (fun h1 => ?_)
  · refine lv_iconst (v := nI 0) X.x X.b dU_isRow_16 (by decide) ?_
    exact us_zret (u := ()) X Y hr hlk rfl (Or.inr ⟨rfl, fun ⟨i, h2, h3⟩ => nI_pos (n := i) (by omega) (h3 ▸ h1)⟩) dU_isRow_17
  · refine lv_iload_n X.x X.b dU_isRow_4 rfl (lv_at hl 1 rfl) ?_
    refine lv_aload_n X.x X.b dU_isRow_5 rfl (lv_at hl 0 rfl) ?_
    refine us_gU X Y 0 rfl 1 (by decide) mB_fl_U_13 rfl dU_isRow_6 ?_
    refine lv_icmp_ge (tgt := 16) X.x X.b dU_isRow_9 (by decide) (fun h2 => ?_) (fun h2 => ?_)
    · refine lv_iconst (v := nI 0) X.x X.b dU_isRow_16 (by decide) ?_
      exact us_zret (u := ()) X Y hr hlk rfl (Or.inr ⟨rfl, fun ⟨i, h3, h4⟩ => absurd h2 (by rw [h4]; exact nI_ge h3 (by omega))⟩) dU_isRow_17
    · refine lv_iconst (v := nI 1) X.x X.b dU_isRow_12 (by decide) ?_
      refine lv_goto (tgt := 17) X.x X.b dU_isRow_13 (by decide) ?_
      exact us_zret (u := ()) X Y hr hlk rfl (Or.inl ⟨rfl, us_lt3 h1 h2⟩) dU_isRow_17
set_option maxHeartbeats 4000000 in
set_option maxRecDepth 100000 in
theorem k_U_isNone (l : Launch) (D : va_G) (ad : Nat → Nat) (cI : ClassId) (sz : Nat) (C PN CA CK CR CB : Nat → Int32) (n np k : Nat) (r co : Nat) (hr0 : r < 120) (hco : co < 3) : us_Ci l yU_isNone cU_isNone 3 (some .boolean) 0 0 [.ref (ad 0), .int (nI r), .int (nI co)] D (tyU cI) (uW ad cI C n PN CA np CK CR CB k) sz (po_b (us_tu C r co = none)) (fun _ => uW ad cI C n PN CA np CK CR CB k) := by
  refine us_enter (own := RU) rfl (by decide) (Nat.le_of_ble_eq_true rfl) ?_
  intro p e s m below meth c ls X Y hr hlk hl
  generalize va_A (uW ad cI C n PN CA np CK CR CB k) sz = A at X Y ⊢
  have hl : lv_has ls 3 [(0, .ref (ad 0)), (1, .int (nI r)), (2, .int (nI co))] := hl
  refine lv_aload_n X.x X.b dU_isNone_0 rfl (lv_at hl 0 rfl) ?_
  refine us_gU X Y 0 rfl 0 (by decide) mB_fl_U_9 rfl dU_isNone_1 ?_
  refine lv_iload_n X.x X.b dU_isNone_4 rfl (lv_at hl 1 rfl) ?_
  refine lv_iconst (v := nI 4) X.x X.b dU_isNone_5 (by decide) ?_
  refine us_imul X dU_isNone_6 ?_
  refine lv_iconst (v := nI 3) X.x X.b dU_isNone_7 (by decide) ?_
  refine us_iadd X dU_isNone_8 ?_
  refine us_ia X Y 1 0 rfl rfl (i := (r * 4) + 3) (by omega) (by decide) dU_isNone_9 ?_
  refine lv_iconst (v := (1 : Int32)) X.x X.b dU_isNone_10 (by decide) ?_
  refine lv_iload_n X.x X.b dU_isNone_11 rfl (lv_at hl 2 rfl) ?_
  refine lv_ishl X.x X.b dU_isNone_12 ?_
  refine lv_iand X.x X.b dU_isNone_13 ?_
  refine lv_if_ne (tgt := 21) X.x X.b dU_isNone_14 (by decide) (fun h1 => ?_) (fun h1 => ?_)
  · refine lv_iconst (v := nI 0) X.x X.b dU_isNone_21 (by decide) ?_
    exact us_zret (u := ()) X Y hr hlk rfl (Or.inr ⟨rfl, fun z => nomatch ((show us_tu C r co = some (C (r * 4 + co)) from if_neg h1).symm.trans z)⟩) dU_isNone_22
  · refine lv_iconst (v := nI 1) X.x X.b dU_isNone_17 (by decide) ?_
    refine lv_goto (tgt := 22) X.x X.b dU_isNone_18 (by decide) ?_
    exact us_zret (u := ()) X Y hr hlk rfl (Or.inl ⟨rfl, if_pos h1⟩) dU_isNone_22
set_option maxHeartbeats 4000000 in
set_option maxRecDepth 100000 in
theorem k_U_holds (l : Launch) (D : va_G) (ad : Nat → Nat) (cI : ClassId) (sz : Nat) (C PN CA CK CR CB : Nat → Int32) (n np k : Nat) (r co : Nat) (v : Int32) (hr0 : r < 120) (hco : co < 3) : us_Ci l yU_holds cU_holds 4 (some .boolean) 1 22 [.ref (ad 0), .int (nI r), .int (nI co), .int v] D (tyU cI) (uW ad cI C n PN CA np CK CR CB k) sz (po_b (us_tu C r co = some v)) (fun _ => uW ad cI C n PN CA np CK CR CB k) := by
  refine us_enter (own := RU) rfl (by decide) (Nat.le_of_ble_eq_true rfl) ?_
  intro p e s m below meth c ls X Y hr hlk hl
  generalize va_A (uW ad cI C n PN CA np CK CR CB k) sz = A at X Y ⊢
  have hl : lv_has ls 4 [(0, .ref (ad 0)), (1, .int (nI r)), (2, .int (nI co)), (3, .int v)] := hl
  refine lv_aload_n X.x X.b dU_holds_0 rfl (lv_at hl 0 rfl) ?_
  refine lv_iload_n X.x X.b dU_holds_1 rfl (lv_at hl 1 rfl) ?_
  refine lv_iload_n X.x X.b dU_holds_2 rfl (lv_at hl 2 rfl) ?_
  refine us_vi (rest := []) X Y (k_U_isNone l D ad cI s.heap.size C PN CA CK CR CB n np k r co hr0 hco) us_I7 0 rfl rfl cv_U_83 rfl ⟨by decide, by decide⟩ ⟨by decide, by decide⟩ hl.1 rfl (Nat.le_of_ble_eq_true rfl) dU_holds_3 (fun rr u H locs hw Y => ?_)
  have Y : us_Y D A (uW ad cI C n PN CA np CK CR CB k) s H locs := Y
  rcases hw with ⟨rfl, hw⟩ | ⟨rfl, hw⟩
  · refine us_ne1 (tgt := 27) X dU_holds_6 (by decide) ?_
    refine lv_iconst (v := nI 0) X.x X.b dU_holds_27 (by decide) ?_
    exact us_zret (u := ()) X Y hr hlk rfl (Or.inr ⟨rfl, fun z => by rw [hw] at z; cases z⟩) dU_holds_28
  · refine us_ne0 (tgt := 27) X dU_holds_6 (by decide) ?_
    refine lv_aload_n X.x X.b dU_holds_9 rfl (lv_at hl 0 rfl) ?_
    refine us_gU X Y 0 rfl 0 (by decide) mB_fl_U_9 rfl dU_holds_10 ?_
    refine lv_iload_n X.x X.b dU_holds_13 rfl (lv_at hl 1 rfl) ?_
    refine lv_iconst (v := nI 4) X.x X.b dU_holds_14 (by decide) ?_
    refine us_imul X dU_holds_15 ?_
    refine lv_iload_n X.x X.b dU_holds_16 rfl (lv_at hl 2 rfl) ?_
    refine us_iadd X dU_holds_17 ?_
    refine us_ia X Y 1 0 rfl rfl (i := (r * 4) + co) (by omega) (by decide) dU_holds_18 ?_
    refine lv_iload_n X.x X.b dU_holds_19 rfl (lv_at hl 3 rfl) ?_
    refine lv_icmp_ne (tgt := 27) X.x X.b dU_holds_20 (by decide) (fun h1 => ?_) (fun h1 => ?_)
    · have e0 : us_tu C r co = some (C (r * 4 + co)) := us_tu_some hw
      refine lv_iconst (v := nI 0) X.x X.b dU_holds_27 (by decide) ?_
      exact us_zret (u := ()) X Y hr hlk rfl (Or.inr ⟨rfl, fun z => h1 (Option.some.inj (e0.symm.trans z))⟩) dU_holds_28
    · have e0 : us_tu C r co = some (C (r * 4 + co)) := us_tu_some hw
      refine lv_iconst (v := nI 1) X.x X.b dU_holds_23 (by decide) ?_
      refine lv_goto (tgt := 28) X.x X.b dU_holds_24 (by decide) ?_
      exact us_zret (u := ()) X Y hr hlk rfl (Or.inl ⟨rfl, by rw [e0, h1]⟩) dU_holds_28
set_option maxHeartbeats 4000000 in
set_option maxRecDepth 100000 in
theorem k_U_rowWithKey (l : Launch) (D : va_G) (ad : Nat → Nat) (cI : ClassId) (sz : Nat) (C PN CA CK CR CB : Nat → Int32) (n np k : Nat) (co : Nat) (v : Int32) (hn : n ≤ 120) (hco : co < 3) : us_Ci l yU_rowWithKey cU_rowWithKey 4 (some .int) 2 45 [.ref (ad 0), .int (nI co), .int v] D (tyU cI) (uW ad cI C n PN CA np CK CR CB k) sz (fun r (_ : Unit) => us_fd (us_tu C) co v n r) (fun _ => uW ad cI C n PN CA np CK CR CB k) := by
  refine us_enter (own := RU) rfl (by decide) (Nat.le_of_ble_eq_true rfl) ?_
  intro p e s m below meth c ls X Y hr hlk hl
  generalize va_A (uW ad cI C n PN CA np CK CR CB k) sz = A at X Y ⊢
  have hl : lv_has ls 4 [(0, .ref (ad 0)), (1, .int (nI co)), (2, .int v)] := hl
  have loop : ∀ (d i : Nat) (H : Heap) (locs : List Loc) (ls : Array Slot), i + d = n → (∀ j, j < i → us_tu C j co ≠ some v) → us_Y D A (uW ad cI C n PN CA np CK CR CB k) s H locs → lv_has ls 4 [(3, .int (nI i)), (0, .ref (ad 0)), (1, .int (nI co)), (2, .int v)] → W p l e { frames := 2, cells := 0, slots := 0, locals := 45 } s m [.ref (ad 0), .int (nI co), .int v].toArray below meth c H locs 0 0 (us_Qi below (fun r (_ : Unit) => us_fd (us_tu C) co v n r) D (tyU cI) A (fun _ => uW ad cI C n PN CA np CK CR CB k) [.ref (ad 0), .int (nI co), .int v] s) (F0 m 2 ls []) := by
    intro d
    induction d with
    | zero =>
      intro i H locs ls hi hno Y hl
      refine lv_iload_n X.x X.b dU_rowWithKey_2 rfl (lv_at hl 0 rfl) ?_
      refine lv_aload_n X.x X.b dU_rowWithKey_3 rfl (lv_at hl 1 rfl) ?_
      refine us_gU X Y 0 rfl 1 (by decide) mB_fl_U_13 rfl dU_rowWithKey_4 ?_
      refine us_cge (tgt := 28) X (by omega) (by omega) dU_rowWithKey_7 (by decide) (fun h1 => ?_) (fun h1 => ?_)
      · refine lv_iconst (v := (-1 : Int32)) X.x X.b dU_rowWithKey_28 (by decide) ?_
        exact us_iret (u := ()) X Y hr hlk (Or.inr ⟨rfl, fun j hj => hno j (by omega)⟩) dU_rowWithKey_29
      · exact absurd h1 (by omega)
    | succ d ih =>
      intro i H locs ls hi hno Y hl
      refine lv_iload_n X.x X.b dU_rowWithKey_2 rfl (lv_at hl 0 rfl) ?_
      refine lv_aload_n X.x X.b dU_rowWithKey_3 rfl (lv_at hl 1 rfl) ?_
      refine us_gU X Y 0 rfl 1 (by decide) mB_fl_U_13 rfl dU_rowWithKey_4 ?_
      refine us_cge (tgt := 28) X (by omega) (by omega) dU_rowWithKey_7 (by decide) (fun h1 => ?_) (fun h1 => ?_)
      · exact absurd h1 (by omega)
      · refine lv_aload_n X.x X.b dU_rowWithKey_10 rfl (lv_at hl 1 rfl) ?_
        refine lv_iload_n X.x X.b dU_rowWithKey_11 rfl (lv_at hl 0 rfl) ?_
        refine lv_iload_n X.x X.b dU_rowWithKey_12 rfl (lv_at hl 2 rfl) ?_
        refine lv_iload_n X.x X.b dU_rowWithKey_13 rfl (lv_at hl 3 rfl) ?_
        refine us_vi (rest := []) X Y (k_U_holds l D ad cI H.size C PN CA CK CR CB n np k i co v (by omega) hco) us_I7 0 rfl rfl cv_U_77 rfl ⟨by decide, by decide⟩ ⟨by decide, by decide⟩ hl.1 rfl (Nat.le_of_ble_eq_true rfl) dU_rowWithKey_14 (fun rr u H locs hw Y => ?_)
        have Y : us_Y D A (uW ad cI C n PN CA np CK CR CB k) s H locs := Y
        rcases hw with ⟨rfl, hw⟩ | ⟨rfl, hw⟩
        · refine us_eq1 (tgt := 22) X dU_rowWithKey_17 (by decide) ?_
          refine lv_iload_n X.x X.b dU_rowWithKey_20 rfl (lv_at hl 0 rfl) ?_
          exact us_iret (u := ()) X Y hr hlk (Or.inl ⟨i, h1, rfl, hw, hno⟩) dU_rowWithKey_21
        · refine us_eq0 (tgt := 22) X dU_rowWithKey_17 (by decide) ?_
          refine lv_iinc (v := (nI (i + 1))) (lv' := [(3, .int (nI (i + 1))), (0, .ref (ad 0)), (1, .int (nI co)), (2, .int v)]) X.x X.b dU_rowWithKey_22 hl (k := 0) rfl (us_inc _) (by decide) rfl (fun ls hl => ?_)
          refine lv_goto (tgt := 2) X.x X.b dU_rowWithKey_25 (by decide) ?_
          exact ih (i + 1) H locs ls (by omega) (lt_s hno hw) Y hl
  refine lv_iconst (v := nI 0) X.x X.b dU_rowWithKey_0 (by decide) ?_
  refine lv_istore_n (lv' := [(3, .int (nI 0)), (0, .ref (ad 0)), (1, .int (nI co)), (2, .int v)]) X.x X.b dU_rowWithKey_1 rfl hl (by decide) rfl (fun ls hl => ?_)
  exact loop n 0 s.heap [] ls (by omega) lt_0 Y hl
set_option maxHeartbeats 4000000 in
set_option maxRecDepth 100000 in
theorem k_U_countRowsWith (l : Launch) (D : va_G) (ad : Nat → Nat) (cI : ClassId) (sz : Nat) (C PN CA CK CR CB : Nat → Int32) (n np k : Nat) (co : Nat) (v : Int32) (hn : n ≤ 120) (hco : co < 3) : us_Ci l yU_countRowsWith cU_countRowsWith 5 (some .int) 2 45 [.ref (ad 0), .int (nI co), .int v] D (tyU cI) (uW ad cI C n PN CA np CK CR CB k) sz (fun r (_ : Unit) => r = nI (us_ct (us_tu C) co v n)) (fun _ => uW ad cI C n PN CA np CK CR CB k) := by
  refine us_enter (own := RU) rfl (by decide) (Nat.le_of_ble_eq_true rfl) ?_
  intro p e s m below meth c ls X Y hr hlk hl
  generalize va_A (uW ad cI C n PN CA np CK CR CB k) sz = A at X Y ⊢
  have hl : lv_has ls 5 [(0, .ref (ad 0)), (1, .int (nI co)), (2, .int v)] := hl
  have loop : ∀ (d i : Nat) (H : Heap) (locs : List Loc) (ls : Array Slot), i + d = n → us_Y D A (uW ad cI C n PN CA np CK CR CB k) s H locs → lv_has ls 5 [(4, .int (nI i)), (3, .int (nI (us_ct (us_tu C) co v i))), (0, .ref (ad 0)), (1, .int (nI co)), (2, .int v)] → W p l e { frames := 2, cells := 0, slots := 0, locals := 45 } s m [.ref (ad 0), .int (nI co), .int v].toArray below meth c H locs 0 0 (us_Qi below (fun r (_ : Unit) => r = nI (us_ct (us_tu C) co v n)) D (tyU cI) A (fun _ => uW ad cI C n PN CA np CK CR CB k) [.ref (ad 0), .int (nI co), .int v] s) (F0 m 5 ls []) := by
    intro d
    induction d with
    | zero =>
      intro i H locs ls hi Y hl
      refine lv_iload X.x X.b dU_countRowsWith_5 (lv_at hl 0 rfl) ?_
      refine lv_aload_n X.x X.b dU_countRowsWith_7 rfl (lv_at hl 2 rfl) ?_
      refine us_gU X Y 0 rfl 1 (by decide) mB_fl_U_13 rfl dU_countRowsWith_8 ?_
      refine us_cge (tgt := 34) X (by omega) (by omega) dU_countRowsWith_11 (by decide) (fun h1 => ?_) (fun h1 => ?_)
      · refine lv_iload_n X.x X.b dU_countRowsWith_34 rfl (lv_at hl 1 rfl) ?_
        exact us_iret (u := ()) X Y hr hlk (by rw [show n = i by omega]) dU_countRowsWith_35
      · exact absurd h1 (by omega)
    | succ d ih =>
      intro i H locs ls hi Y hl
      refine lv_iload X.x X.b dU_countRowsWith_5 (lv_at hl 0 rfl) ?_
      refine lv_aload_n X.x X.b dU_countRowsWith_7 rfl (lv_at hl 2 rfl) ?_
      refine us_gU X Y 0 rfl 1 (by decide) mB_fl_U_13 rfl dU_countRowsWith_8 ?_
      refine us_cge (tgt := 34) X (by omega) (by omega) dU_countRowsWith_11 (by decide) (fun h1 => ?_) (fun h1 => ?_)
      · exact absurd h1 (by omega)
      · refine lv_aload_n X.x X.b dU_countRowsWith_14 rfl (lv_at hl 2 rfl) ?_
        refine lv_iload X.x X.b dU_countRowsWith_15 (lv_at hl 0 rfl) ?_
        refine lv_iload_n X.x X.b dU_countRowsWith_17 rfl (lv_at hl 3 rfl) ?_
        refine lv_iload_n X.x X.b dU_countRowsWith_18 rfl (lv_at hl 4 rfl) ?_
        refine us_vi (rest := []) X Y (k_U_holds l D ad cI H.size C PN CA CK CR CB n np k i co v (by omega) hco) us_I7 0 rfl rfl cv_U_77 rfl ⟨by decide, by decide⟩ ⟨by decide, by decide⟩ hl.1 rfl (Nat.le_of_ble_eq_true rfl) dU_countRowsWith_19 (fun rr u H locs hw Y => ?_)
        have Y : us_Y D A (uW ad cI C n PN CA np CK CR CB k) s H locs := Y
        rcases hw with ⟨rfl, hw⟩ | ⟨rfl, hw⟩
        · refine us_eq1 (tgt := 28) X dU_countRowsWith_22 (by decide) ?_
          refine lv_iinc (v := (nI ((us_ct (us_tu C) co v i) + 1))) (lv' := [(3, .int (nI ((us_ct (us_tu C) co v i) + 1))), (4, .int (nI i)), (0, .ref (ad 0)), (1, .int (nI co)), (2, .int v)]) X.x X.b dU_countRowsWith_25 hl (k := 1) rfl (us_inc _) (by decide) rfl (fun ls hl => ?_)
          refine lv_iinc (v := (nI (i + 1))) (lv' := [(4, .int (nI (i + 1))), (3, .int (nI ((us_ct (us_tu C) co v i) + 1))), (0, .ref (ad 0)), (1, .int (nI co)), (2, .int v)]) X.x X.b dU_countRowsWith_28 hl (k := 1) rfl (us_inc _) (by decide) rfl (fun ls hl => ?_)
          refine lv_goto (tgt := 5) X.x X.b dU_countRowsWith_31 (by decide) ?_
          rw [← us_ct_1 hw] at hl
          exact ih (i + 1) H locs ls (by omega) Y hl
        · refine us_eq0 (tgt := 28) X dU_countRowsWith_22 (by decide) ?_
          refine lv_iinc (v := (nI (i + 1))) (lv' := [(4, .int (nI (i + 1))), (3, .int (nI (us_ct (us_tu C) co v i))), (0, .ref (ad 0)), (1, .int (nI co)), (2, .int v)]) X.x X.b dU_countRowsWith_28 hl (k := 0) rfl (us_inc _) (by decide) rfl (fun ls hl => ?_)
          refine lv_goto (tgt := 5) X.x X.b dU_countRowsWith_31 (by decide) ?_
          rw [← us_ct_0 hw] at hl
          exact ih (i + 1) H locs ls (by omega) Y hl
  refine lv_iconst (v := nI 0) X.x X.b dU_countRowsWith_0 (by decide) ?_
  refine lv_istore_n (lv' := [(3, .int (nI 0)), (0, .ref (ad 0)), (1, .int (nI co)), (2, .int v)]) X.x X.b dU_countRowsWith_1 rfl hl (by decide) rfl (fun ls hl => ?_)
  refine lv_iconst (v := nI 0) X.x X.b dU_countRowsWith_2 (by decide) ?_
  refine lv_istore (lv' := [(4, .int (nI 0)), (3, .int (nI 0)), (0, .ref (ad 0)), (1, .int (nI co)), (2, .int v)]) X.x X.b dU_countRowsWith_3 hl (by decide) rfl (fun ls hl => ?_)
  exact loop n 0 s.heap [] ls (by omega) Y hl
set_option maxHeartbeats 4000000 in
set_option maxRecDepth 100000 in
theorem k_U_countNone (l : Launch) (D : va_G) (ad : Nat → Nat) (cI : ClassId) (sz : Nat) (C PN CA CK CR CB : Nat → Int32) (n np k : Nat) (co : Nat) (hn : n ≤ 120) (hco : co < 3) : us_Ci l yU_countNone cU_countNone 4 (some .int) 1 22 [.ref (ad 0), .int (nI co)] D (tyU cI) (uW ad cI C n PN CA np CK CR CB k) sz (fun r (_ : Unit) => r = nI (us_cn (us_tu C) co n)) (fun _ => uW ad cI C n PN CA np CK CR CB k) := by
  refine us_enter (own := RU) rfl (by decide) (Nat.le_of_ble_eq_true rfl) ?_
  intro p e s m below meth c ls X Y hr hlk hl
  generalize va_A (uW ad cI C n PN CA np CK CR CB k) sz = A at X Y ⊢
  have hl : lv_has ls 4 [(0, .ref (ad 0)), (1, .int (nI co))] := hl
  have loop : ∀ (d i : Nat) (H : Heap) (locs : List Loc) (ls : Array Slot), i + d = n → us_Y D A (uW ad cI C n PN CA np CK CR CB k) s H locs → lv_has ls 4 [(3, .int (nI i)), (2, .int (nI (us_cn (us_tu C) co i))), (0, .ref (ad 0)), (1, .int (nI co))] → W p l e { frames := 1, cells := 0, slots := 0, locals := 22 } s m [.ref (ad 0), .int (nI co)].toArray below meth c H locs 0 0 (us_Qi below (fun r (_ : Unit) => r = nI (us_cn (us_tu C) co n)) D (tyU cI) A (fun _ => uW ad cI C n PN CA np CK CR CB k) [.ref (ad 0), .int (nI co)] s) (F0 m 4 ls []) := by
    intro d
    induction d with
    | zero =>
      intro i H locs ls hi Y hl
      refine lv_iload_n X.x X.b dU_countNone_4 rfl (lv_at hl 0 rfl) ?_
      refine lv_aload_n X.x X.b dU_countNone_5 rfl (lv_at hl 2 rfl) ?_
      refine us_gU X Y 0 rfl 1 (by decide) mB_fl_U_13 rfl dU_countNone_6 ?_
      refine us_cge (tgt := 30) X (by omega) (by omega) dU_countNone_9 (by decide) (fun h1 => ?_) (fun h1 => ?_)
      · refine lv_iload_n X.x X.b dU_countNone_30 rfl (lv_at hl 1 rfl) ?_
        exact us_iret (u := ()) X Y hr hlk (by rw [show n = i by omega]) dU_countNone_31
      · exact absurd h1 (by omega)
    | succ d ih =>
      intro i H locs ls hi Y hl
      refine lv_iload_n X.x X.b dU_countNone_4 rfl (lv_at hl 0 rfl) ?_
      refine lv_aload_n X.x X.b dU_countNone_5 rfl (lv_at hl 2 rfl) ?_
      refine us_gU X Y 0 rfl 1 (by decide) mB_fl_U_13 rfl dU_countNone_6 ?_
      refine us_cge (tgt := 30) X (by omega) (by omega) dU_countNone_9 (by decide) (fun h1 => ?_) (fun h1 => ?_)
      · exact absurd h1 (by omega)
      · refine lv_aload_n X.x X.b dU_countNone_12 rfl (lv_at hl 2 rfl) ?_
        refine lv_iload_n X.x X.b dU_countNone_13 rfl (lv_at hl 0 rfl) ?_
        refine lv_iload_n X.x X.b dU_countNone_14 rfl (lv_at hl 3 rfl) ?_
        refine us_vi (rest := []) X Y (k_U_isNone l D ad cI H.size C PN CA CK CR CB n np k i co (by omega) hco) us_I7 0 rfl rfl cv_U_83 rfl ⟨by decide, by decide⟩ ⟨by decide, by decide⟩ hl.1 rfl (Nat.le_of_ble_eq_true rfl) dU_countNone_15 (fun rr u H locs hw Y => ?_)
        have Y : us_Y D A (uW ad cI C n PN CA np CK CR CB k) s H locs := Y
        rcases hw with ⟨rfl, hw⟩ | ⟨rfl, hw⟩
        · refine us_eq1 (tgt := 24) X dU_countNone_18 (by decide) ?_
          refine lv_iinc (v := (nI ((us_cn (us_tu C) co i) + 1))) (lv' := [(2, .int (nI ((us_cn (us_tu C) co i) + 1))), (3, .int (nI i)), (0, .ref (ad 0)), (1, .int (nI co))]) X.x X.b dU_countNone_21 hl (k := 1) rfl (us_inc _) (by decide) rfl (fun ls hl => ?_)
          refine lv_iinc (v := (nI (i + 1))) (lv' := [(3, .int (nI (i + 1))), (2, .int (nI ((us_cn (us_tu C) co i) + 1))), (0, .ref (ad 0)), (1, .int (nI co))]) X.x X.b dU_countNone_24 hl (k := 1) rfl (us_inc _) (by decide) rfl (fun ls hl => ?_)
          refine lv_goto (tgt := 4) X.x X.b dU_countNone_27 (by decide) ?_
          rw [← us_cn_1 hw] at hl
          exact ih (i + 1) H locs ls (by omega) Y hl
        · refine us_eq0 (tgt := 24) X dU_countNone_18 (by decide) ?_
          refine lv_iinc (v := (nI (i + 1))) (lv' := [(3, .int (nI (i + 1))), (2, .int (nI (us_cn (us_tu C) co i))), (0, .ref (ad 0)), (1, .int (nI co))]) X.x X.b dU_countNone_24 hl (k := 0) rfl (us_inc _) (by decide) rfl (fun ls hl => ?_)
          refine lv_goto (tgt := 4) X.x X.b dU_countNone_27 (by decide) ?_
          rw [← us_cn_0 hw] at hl
          exact ih (i + 1) H locs ls (by omega) Y hl
  refine lv_iconst (v := nI 0) X.x X.b dU_countNone_0 (by decide) ?_
  refine lv_istore_n (lv' := [(2, .int (nI 0)), (0, .ref (ad 0)), (1, .int (nI co))]) X.x X.b dU_countNone_1 rfl hl (by decide) rfl (fun ls hl => ?_)
  refine lv_iconst (v := nI 0) X.x X.b dU_countNone_2 (by decide) ?_
  refine lv_istore_n (lv' := [(3, .int (nI 0)), (2, .int (nI 0)), (0, .ref (ad 0)), (1, .int (nI co))]) X.x X.b dU_countNone_3 rfl hl (by decide) rfl (fun ls hl => ?_)
  exact loop n 0 s.heap [] ls (by omega) Y hl
set_option maxHeartbeats 4000000 in
set_option maxRecDepth 100000 in
theorem k_U_mayBeInserted (l : Launch) (D : va_G) (ad : Nat → Nat) (cI : ClassId) (sz : Nat) (C PN CA CK CR CB : Nat → Int32) (n np k : Nat) (a b x : Int32) (hn : n ≤ 120) : us_Ci l yU_mayBeInserted cU_mayBeInserted 4 (some .boolean) 3 68 [.ref (ad 0), .int a, .int b, .int x] D (tyU cI) (uW ad cI C n PN CA np CK CR CB k) sz (po_b (us_mq (us_tu C) n a b x)) (fun _ => uW ad cI C n PN CA np CK CR CB k) := by
  refine us_enter (own := RU) rfl (by decide) (Nat.le_of_ble_eq_true rfl) ?_
  intro p e s m below meth c ls X Y hr hlk hl
  generalize va_A (uW ad cI C n PN CA np CK CR CB k) sz = A at X Y ⊢
  have hl : lv_has ls 4 [(0, .ref (ad 0)), (1, .int a), (2, .int b), (3, .int x)] := hl
  refine lv_iload_n X.x X.b dU_mayBeInserted_0 rfl (lv_at hl 3 rfl) ?_
  refine lv_iconst (v := (1 : Int32)) X.x X.b dU_mayBeInserted_1 (by decide) ?_
  refine lv_iand X.x X.b dU_mayBeInserted_2 ?_
  refine lv_if_eq (tgt := 15) X.x X.b dU_mayBeInserted_3 (by decide) (fun h1 => ?_) (fun h1 => ?_)
  · refine lv_iconst (v := nI 0) X.x X.b dU_mayBeInserted_15 (by decide) ?_
    exact us_zret (u := ()) X Y hr hlk rfl (Or.inr ⟨rfl, fun z => z.1.1 h1⟩) dU_mayBeInserted_16
  · refine lv_aload_n X.x X.b dU_mayBeInserted_6 rfl (lv_at hl 0 rfl) ?_
    refine lv_iconst (v := nI 0) X.x X.b dU_mayBeInserted_7 (by decide) ?_
    refine lv_iload_n X.x X.b dU_mayBeInserted_8 rfl (lv_at hl 1 rfl) ?_
    refine us_vi (rest := []) X Y (k_U_rowWithKey l D ad cI s.heap.size C PN CA CK CR CB n np k 0 a hn (by decide)) us_I7 0 rfl rfl cv_U_80 rfl ⟨by decide, by decide⟩ ⟨by decide, by decide⟩ hl.1 rfl (Nat.le_of_ble_eq_true rfl) dU_mayBeInserted_9 (fun rr u H locs f1 Y => ?_)
    have Y : us_Y D A (uW ad cI C n PN CA np CK CR CB k) s H locs := Y
    refine lv_if_lt (tgt := 17) X.x X.b dU_mayBeInserted_12 (by decide) (fun h2 => ?_) (fun h2 => ?_)
    · refine lv_iload_n X.x X.b dU_mayBeInserted_17 rfl (lv_at hl 3 rfl) ?_
      refine lv_iconst (v := (2 : Int32)) X.x X.b dU_mayBeInserted_18 (by decide) ?_
      refine lv_iand X.x X.b dU_mayBeInserted_19 ?_
      refine lv_if_eq (tgt := 32) X.x X.b dU_mayBeInserted_20 (by decide) (fun h3 => ?_) (fun h3 => ?_)
      · refine lv_iconst (v := nI 1) X.x X.b dU_mayBeInserted_32 (by decide) ?_
        refine lv_goto (tgt := 37) X.x X.b dU_mayBeInserted_33 (by decide) ?_
        exact us_zret (u := ()) X Y hr hlk rfl (Or.inl ⟨rfl, ⟨h1, (f1.neg (by omega)).mp h2⟩, Or.inl h3⟩) dU_mayBeInserted_37
      · refine lv_aload_n X.x X.b dU_mayBeInserted_23 rfl (lv_at hl 0 rfl) ?_
        refine lv_iconst (v := nI 1) X.x X.b dU_mayBeInserted_24 (by decide) ?_
        refine lv_iload_n X.x X.b dU_mayBeInserted_25 rfl (lv_at hl 2 rfl) ?_
        refine us_vi (rest := []) X Y (k_U_rowWithKey l D ad cI H.size C PN CA CK CR CB n np k 1 b hn (by decide)) us_I7 0 rfl rfl cv_U_80 rfl ⟨by decide, by decide⟩ ⟨by decide, by decide⟩ hl.1 rfl (Nat.le_of_ble_eq_true rfl) dU_mayBeInserted_26 (fun rr u H locs f2 Y => ?_)
        have Y : us_Y D A (uW ad cI C n PN CA np CK CR CB k) s H locs := Y
        refine lv_if_ge (tgt := 36) X.x X.b dU_mayBeInserted_29 (by decide) (fun h4 => ?_) (fun h4 => ?_)
        · refine lv_iconst (v := nI 0) X.x X.b dU_mayBeInserted_36 (by decide) ?_
          exact us_zret (u := ()) X Y hr hlk rfl (Or.inr ⟨rfl, fun z => z.2.elim h3 (fun q => us_nneg h4 ((f2.neg (by omega)).mpr q))⟩) dU_mayBeInserted_37
        · refine lv_iconst (v := nI 1) X.x X.b dU_mayBeInserted_32 (by decide) ?_
          refine lv_goto (tgt := 37) X.x X.b dU_mayBeInserted_33 (by decide) ?_
          exact us_zret (u := ()) X Y hr hlk rfl (Or.inl ⟨rfl, ⟨h1, (f1.neg (by omega)).mp h2⟩, Or.inr ((f2.neg (by omega)).mp (us_neg h4))⟩) dU_mayBeInserted_37
    · refine lv_iconst (v := nI 0) X.x X.b dU_mayBeInserted_15 (by decide) ?_
      exact us_zret (u := ()) X Y hr hlk rfl (Or.inr ⟨rfl, fun z => h2 ((f1.neg (by omega)).mpr z.1.2)⟩) dU_mayBeInserted_16
set_option maxHeartbeats 4000000 in
set_option maxRecDepth 100000 in
theorem k_U_maySet (l : Launch) (D : va_G) (ad : Nat → Nat) (cI : ClassId) (sz : Nat) (C PN CA CK CR CB : Nat → Int32) (n np k : Nat) (r co : Nat) (v z : Int32) (hn : n ≤ 120) (hr0 : r < n) (hco : co < 3) : us_Ci l yU_maySet cU_maySet 6 (some .boolean) 3 68 [.ref (ad 0), .int (nI r), .int (nI co), .int v, .int z] D (tyU cI) (uW ad cI C n PN CA np CK CR CB k) sz (po_b (¬ us_sc0 (us_tu C) n r co v z)) (fun _ => uW ad cI C n PN CA np CK CR CB k) := by
  refine us_enter (own := RU) rfl (by decide) (Nat.le_of_ble_eq_true rfl) ?_
  intro p e s m below meth c ls X Y hr hlk hl
  generalize va_A (uW ad cI C n PN CA np CK CR CB k) sz = A at X Y ⊢
  have hl : lv_has ls 6 [(0, .ref (ad 0)), (1, .int (nI r)), (2, .int (nI co)), (3, .int v), (4, .int z)] := hl
  refine lv_iload X.x X.b dU_maySet_0 (lv_at hl 4 rfl) ?_
  refine lv_if_eq (tgt := 15) X.x X.b dU_maySet_2 (by decide) (fun h1 => ?_) (fun h1 => ?_)
  · refine lv_iload_n X.x X.b dU_maySet_15 rfl (lv_at hl 2 rfl) ?_
    refine lv_iconst (v := nI 2) X.x X.b dU_maySet_16 (by decide) ?_
    refine us_clt (tgt := 22) X (by omega) (by omega) dU_maySet_17 (by decide) (fun h2 => ?_) (fun h2 => ?_)
    · refine lv_aload_n X.x X.b dU_maySet_22 rfl (lv_at hl 0 rfl) ?_
      refine lv_iload_n X.x X.b dU_maySet_23 rfl (lv_at hl 2 rfl) ?_
      refine lv_iload_n X.x X.b dU_maySet_24 rfl (lv_at hl 3 rfl) ?_
      refine us_vi (rest := []) X Y (k_U_rowWithKey l D ad cI s.heap.size C PN CA CK CR CB n np k co v hn hco) us_I7 0 rfl rfl cv_U_80 rfl ⟨by decide, by decide⟩ ⟨by decide, by decide⟩ hl.1 rfl (Nat.le_of_ble_eq_true rfl) dU_maySet_25 (fun rr u H locs f1 Y => ?_)
      have Y : us_Y D A (uW ad cI C n PN CA np CK CR CB k) s H locs := Y
      refine lv_istore (lv' := [(5, .int rr), (0, .ref (ad 0)), (1, .int (nI r)), (2, .int (nI co)), (3, .int v), (4, .int z)]) X.x X.b dU_maySet_28 hl (by decide) rfl (fun ls hl => ?_)
      refine lv_iload X.x X.b dU_maySet_30 (lv_at hl 0 rfl) ?_
      refine lv_if_lt (tgt := 41) X.x X.b dU_maySet_32 (by decide) (fun h3 => ?_) (fun h3 => ?_)
      · refine lv_iconst (v := nI 1) X.x X.b dU_maySet_41 (by decide) ?_
        refine lv_goto (tgt := 46) X.x X.b dU_maySet_42 (by decide) ?_
        exact us_zret (u := ()) X Y hr hlk rfl (Or.inl ⟨rfl, fun q => q.elim (fun q => q.1 h1) (fun q => ((f1.oth (by omega) hr0).mp q.2.2) (Or.inl h3))⟩) dU_maySet_46
      · refine lv_iload X.x X.b dU_maySet_35 (lv_at hl 0 rfl) ?_
        refine lv_iload_n X.x X.b dU_maySet_37 rfl (lv_at hl 2 rfl) ?_
        refine lv_icmp_ne (tgt := 45) X.x X.b dU_maySet_38 (by decide) (fun h4 => ?_) (fun h4 => ?_)
        · refine lv_iconst (v := nI 0) X.x X.b dU_maySet_45 (by decide) ?_
          exact us_zret (u := ()) X Y hr hlk rfl (Or.inr ⟨rfl, fun q => q (Or.inr ⟨h1, h2, (f1.oth (by omega) hr0).mpr (fun y => y.elim h3 h4)⟩)⟩) dU_maySet_46
        · refine lv_iconst (v := nI 1) X.x X.b dU_maySet_41 (by decide) ?_
          refine lv_goto (tgt := 46) X.x X.b dU_maySet_42 (by decide) ?_
          exact us_zret (u := ()) X Y hr hlk rfl (Or.inl ⟨rfl, fun q => q.elim (fun q => q.1 h1) (fun q => ((f1.oth (by omega) hr0).mp q.2.2) (Or.inr h4))⟩) dU_maySet_46
    · refine lv_iconst (v := nI 1) X.x X.b dU_maySet_20 (by decide) ?_
      exact us_zret (u := ()) X Y hr hlk rfl (Or.inl ⟨rfl, fun q => q.elim (fun q => q.1 h1) (fun q => absurd q.2.1 (by omega))⟩) dU_maySet_21
  · refine lv_iload_n X.x X.b dU_maySet_5 rfl (lv_at hl 2 rfl) ?_
    refine us_zeq (tgt := 13) X (by omega) dU_maySet_6 (by decide) (fun h2 => ?_) (fun h2 => ?_)
    · refine lv_iconst (v := nI 0) X.x X.b dU_maySet_13 (by decide) ?_
      exact us_zret (u := ()) X Y hr hlk rfl (Or.inr ⟨rfl, fun q => q (Or.inl ⟨h1, h2⟩)⟩) dU_maySet_14
    · refine lv_iconst (v := nI 1) X.x X.b dU_maySet_9 (by decide) ?_
      refine lv_goto (tgt := 14) X.x X.b dU_maySet_10 (by decide) ?_
      exact us_zret (u := ()) X Y hr hlk rfl (Or.inl ⟨rfl, fun q => q.elim (fun q => absurd q.2 (by omega)) (fun q => h1 q.1)⟩) dU_maySet_14
set_option maxHeartbeats 4000000 in
set_option maxRecDepth 100000 in
theorem k_U_hasRoomFor (l : Launch) (D : va_G) (ad : Nat → Nat) (cI : ClassId) (sz : Nat) (C PN CA CK CR CB : Nat → Int32) (n np k : Nat) (x : Nat) (hnp : np ≤ 20) (hk : k ≤ 200) (hx : x ≤ 120) : us_Ci l yU_hasRoomFor cU_hasRoomFor 2 (some .boolean) 0 0 [.ref (ad 0), .int (nI x)] D (tyU cI) (uW ad cI C n PN CA np CK CR CB k) sz (po_b (np = 0 ∨ k + x ≤ 200)) (fun _ => uW ad cI C n PN CA np CK CR CB k) := by
  refine us_enter (own := RU) rfl (by decide) (Nat.le_of_ble_eq_true rfl) ?_
  intro p e s m below meth c ls X Y hr hlk hl
  generalize va_A (uW ad cI C n PN CA np CK CR CB k) sz = A at X Y ⊢
  have hl : lv_has ls 2 [(0, .ref (ad 0)), (1, .int (nI x))] := hl
  refine lv_aload_n X.x X.b dU_hasRoomFor_0 rfl (lv_at hl 0 rfl) ?_
  refine us_gU X Y 0 rfl 4 (by decide) mB_fl_U_23 rfl dU_hasRoomFor_1 ?_
  refine us_zeq (tgt := 19) X (by omega) dU_hasRoomFor_4 (by decide) (fun h1 => ?_) (fun h1 => ?_)
  · refine lv_iconst (v := nI 1) X.x X.b dU_hasRoomFor_19 (by decide) ?_
    refine lv_goto (tgt := 24) X.x X.b dU_hasRoomFor_20 (by decide) ?_
    exact us_zret (u := ()) X Y hr hlk rfl (Or.inl ⟨rfl, Or.inl h1⟩) dU_hasRoomFor_24
  · refine lv_aload_n X.x X.b dU_hasRoomFor_7 rfl (lv_at hl 0 rfl) ?_
    refine us_gU X Y 0 rfl 8 (by decide) mB_fl_U_35 rfl dU_hasRoomFor_8 ?_
    refine lv_iload_n X.x X.b dU_hasRoomFor_11 rfl (lv_at hl 1 rfl) ?_
    refine us_iadd X dU_hasRoomFor_12 ?_
    refine lv_sipush (v := nI 200) X.x X.b dU_hasRoomFor_13 (by decide) ?_
    refine us_cgt (tgt := 23) X (by omega) (by omega) dU_hasRoomFor_16 (by decide) (fun h2 => ?_) (fun h2 => ?_)
    · refine lv_iconst (v := nI 0) X.x X.b dU_hasRoomFor_23 (by decide) ?_
      exact us_zret (u := ()) X Y hr hlk rfl (Or.inr ⟨rfl, fun z => by omega⟩) dU_hasRoomFor_24
    · refine lv_iconst (v := nI 1) X.x X.b dU_hasRoomFor_19 (by decide) ?_
      refine lv_goto (tgt := 24) X.x X.b dU_hasRoomFor_20 (by decide) ?_
      exact us_zret (u := ()) X Y hr hlk rfl (Or.inl ⟨rfl, Or.inr h2⟩) dU_hasRoomFor_24
set_option maxHeartbeats 4000000 in
set_option maxRecDepth 100000 in
theorem k_U_latestPoint (l : Launch) (D : va_G) (ad : Nat → Nat) (cI : ClassId) (sz : Nat) (C PN CA CK CR CB : Nat → Int32) (n np k : Nat) (x : Int32) (hnp : np ≤ 20) : us_Ci l yU_latestPoint cU_latestPoint 3 (some .int) 0 0 [.ref (ad 0), .int x] D (tyU cI) (uW ad cI C n PN CA np CK CR CB k) sz (fun r (_ : Unit) => us_pt PN x np r) (fun _ => uW ad cI C n PN CA np CK CR CB k) := by
  refine us_enter (own := RU) rfl (by decide) (Nat.le_of_ble_eq_true rfl) ?_
  intro p e s m below meth c ls X Y hr hlk hl
  generalize va_A (uW ad cI C n PN CA np CK CR CB k) sz = A at X Y ⊢
  have hl : lv_has ls 3 [(0, .ref (ad 0)), (1, .int x)] := hl
  have loop : ∀ (d : Nat) (H : Heap) (locs : List Loc) (ls : Array Slot), d ≤ np → (∀ q, d ≤ q → q < np → PN q ≠ x) → us_Y D A (uW ad cI C n PN CA np CK CR CB k) s H locs → lv_has ls 3 [(2, .int (nI d - 1)), (0, .ref (ad 0)), (1, .int x)] → W p l e { frames := 0, cells := 0, slots := 0, locals := 0 } s m [.ref (ad 0), .int x].toArray below meth c H locs 0 0 (us_Qi below (fun r (_ : Unit) => us_pt PN x np r) D (tyU cI) A (fun _ => uW ad cI C n PN CA np CK CR CB k) [.ref (ad 0), .int x] s) (F0 m 7 ls []) := by
    intro d
    induction d with
    | zero =>
      intro H locs ls hd hno Y hl
      refine lv_iload_n X.x X.b dU_latestPoint_7 rfl (lv_at hl 0 rfl) ?_
      refine lv_if_lt (tgt := 29) X.x X.b dU_latestPoint_8 (by decide) (fun h1 => ?_) (fun h1 => ?_)
      · refine lv_iconst (v := (-1 : Int32)) X.x X.b dU_latestPoint_29 (by decide) ?_
        exact us_iret (u := ()) X Y hr hlk (Or.inr ⟨rfl, fun q hq => hno q (by omega) hq⟩) dU_latestPoint_30
      · exact absurd (by decide) h1
    | succ d ih =>
      intro H locs ls hd hno Y hl
      rw [nI_pred] at hl
      refine lv_iload_n X.x X.b dU_latestPoint_7 rfl (lv_at hl 0 rfl) ?_
      refine lv_if_lt (tgt := 29) X.x X.b dU_latestPoint_8 (by decide) (fun h1 => ?_) (fun h1 => ?_)
      · exact absurd h1 (nI_pos (by omega))
      · refine lv_aload_n X.x X.b dU_latestPoint_11 rfl (lv_at hl 1 rfl) ?_
        refine us_gU X Y 0 rfl 2 (by decide) mB_fl_U_17 rfl dU_latestPoint_12 ?_
        refine lv_iload_n X.x X.b dU_latestPoint_15 rfl (lv_at hl 0 rfl) ?_
        refine us_ia X Y 2 0 rfl rfl (i := d) (by omega) (by decide) dU_latestPoint_16 ?_
        refine lv_iload_n X.x X.b dU_latestPoint_17 rfl (lv_at hl 2 rfl) ?_
        refine lv_icmp_ne (tgt := 23) X.x X.b dU_latestPoint_18 (by decide) (fun h2 => ?_) (fun h2 => ?_)
        · refine lv_iinc (v := (nI d - 1)) (lv' := [(2, .int (nI d - 1)), (0, .ref (ad 0)), (1, .int x)]) X.x X.b dU_latestPoint_23 hl (k := 0) rfl (us_dec _) (by decide) rfl (fun ls hl => ?_)
          refine lv_goto (tgt := 7) X.x X.b dU_latestPoint_26 (by decide) ?_
          exact ih H locs ls (by omega) (fun q h3 h4 => by rcases Nat.lt_or_ge d q with e | e; exact hno q e h4; rw [show q = d by omega]; exact h2) Y hl
        · refine lv_iload_n X.x X.b dU_latestPoint_21 rfl (lv_at hl 0 rfl) ?_
          exact us_iret (u := ()) X Y hr hlk (Or.inl ⟨d, by omega, rfl, h2, fun q h3 h4 => hno q (by omega) h4⟩) dU_latestPoint_22
  refine lv_aload_n X.x X.b dU_latestPoint_0 rfl (lv_at hl 0 rfl) ?_
  refine us_gU X Y 0 rfl 4 (by decide) mB_fl_U_23 rfl dU_latestPoint_1 ?_
  refine lv_iconst (v := (1 : Int32)) X.x X.b dU_latestPoint_4 (by decide) ?_
  refine lv_isub X.x X.b dU_latestPoint_5 ?_
  refine lv_istore_n (lv' := [(2, .int ((nI np) - ((1 : Int32)))), (0, .ref (ad 0)), (1, .int x)]) X.x X.b dU_latestPoint_6 rfl hl (by decide) rfl (fun ls hl => ?_)
  exact loop np s.heap [] ls (Nat.le_refl _) (fun q h1 h2 => absurd h2 (by omega)) Y hl
