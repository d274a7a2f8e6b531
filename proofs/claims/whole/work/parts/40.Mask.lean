/-! 40.Mask (laid by wip/whole/gen/methods_m.py): the reference, private methods. -/
set_option maxHeartbeats 4000000 in
set_option maxRecDepth 100000 in
theorem k_M_thrown (l : Launch) (D : va_G) (ad : Nat → Nat) (cI cZ : ClassId) (sz : Nat) (th : Int32) (n np k : Nat) (V KV I KI PN KR KC : Nat → Int32)  : us_Ci l yM_thrown cM_thrown 1 (some .int) 0 0 [.ref (ad 0)] D (tyM cI cZ) (mW ad cI cZ th n np k V KV I KI PN KR KC) sz (fun r (_ : Unit) => r = th) (fun _ => mW ad cI cZ th n np k V KV I KI PN KR KC) := by
  refine us_enter (own := RM) rfl (by decide) (Nat.le_of_ble_eq_true rfl) ?_
  intro p e s m below meth c ls X Y hr hlk hl
  generalize va_A (mW ad cI cZ th n np k V KV I KI PN KR KC) sz = A at X Y ⊢
  have hl : lv_has ls 1 [(0, .ref (ad 0))] := hl
  refine lv_aload_n X.x X.b dM_thrown_0 rfl (lv_at hl 0 rfl) ?_
  refine us_gM X Y 0 rfl 0 (by decide) mB_fl_M_32 rfl dM_thrown_1 ?_
  exact us_iret (u := ()) X Y hr hlk rfl dM_thrown_4
set_option maxHeartbeats 4000000 in
set_option maxRecDepth 100000 in
theorem k_M_no (l : Launch) (D : va_G) (ad : Nat → Nat) (cI cZ : ClassId) (sz : Nat) (th : Int32) (n np k : Nat) (V KV I KI PN KR KC : Nat → Int32) (x : Int32) : us_Ci l yM_no cM_no 2 (some .int) 0 0 [.ref (ad 0), .int x] D (tyM cI cZ) (mW ad cI cZ th n np k V KV I KI PN KR KC) sz (fun _ (_ : Unit) => True) (fun _ => mW ad cI cZ x n np k V KV I KI PN KR KC) := by
  refine us_enter (own := RM) rfl (by decide) (Nat.le_of_ble_eq_true rfl) ?_
  intro p e s m below meth c ls X Y hr hlk hl
  generalize va_A (mW ad cI cZ th n np k V KV I KI PN KR KC) sz = A at X Y ⊢
  have hl : lv_has ls 2 [(0, .ref (ad 0)), (1, .int x)] := hl
  refine lv_aload_n X.x X.b dM_no_0 rfl (lv_at hl 0 rfl) ?_
  refine lv_iload_n X.x X.b dM_no_1 rfl (lv_at hl 1 rfl) ?_
  refine us_pM X Y 0 rfl 0 (by decide) mB_fl_M_32 rfl rfl rfl (Nat.le_of_ble_eq_true rfl) dM_no_2 (fun H locs Y => ?_)
  have Y : us_Y D A (mW ad cI cZ x n np k V KV I KI PN KR KC) s H locs := Y
  refine lv_iconst (v := nI 0) X.x X.b dM_no_5 (by decide) ?_
  exact us_iret (u := ()) X Y hr hlk trivial dM_no_6
set_option maxHeartbeats 4000000 in
set_option maxRecDepth 100000 in
theorem k_M_row (l : Launch) (D : va_G) (ad : Nat → Nat) (cI cZ : ClassId) (sz : Nat) (th : Int32) (n np k : Nat) (V KV I KI PN KR KC : Nat → Int32) (co : Nat) (v : Int32) (hn : n ≤ 120) (hco : co < 3) : us_Ci l yM_row cM_row 4 (some .int) 0 0 [.ref (ad 0), .int (nI co), .int v] D (tyM cI cZ) (mW ad cI cZ th n np k V KV I KI PN KR KC) sz (fun r (_ : Unit) => us_fd (us_tm V I) co v n r) (fun _ => mW ad cI cZ th n np k V KV I KI PN KR KC) := by
  refine us_enter (own := RM) rfl (by decide) (Nat.le_of_ble_eq_true rfl) ?_
  intro p e s m below meth c ls X Y hr hlk hl
  generalize va_A (mW ad cI cZ th n np k V KV I KI PN KR KC) sz = A at X Y ⊢
  have hl : lv_has ls 4 [(0, .ref (ad 0)), (1, .int (nI co)), (2, .int v)] := hl
  have loop : ∀ (d i : Nat) (H : Heap) (locs : List Loc) (ls : Array Slot), i + d = n → (∀ j, j < i → us_tm V I j co ≠ some v) → us_Y D A (mW ad cI cZ th n np k V KV I KI PN KR KC) s H locs → lv_has ls 4 [(3, .int (nI i)), (0, .ref (ad 0)), (1, .int (nI co)), (2, .int v)] → W p l e { frames := 0, cells := 0, slots := 0, locals := 0 } s m [.ref (ad 0), .int (nI co), .int v].toArray below meth c H locs 0 0 (us_Qi below (fun r (_ : Unit) => us_fd (us_tm V I) co v n r) D (tyM cI cZ) A (fun _ => mW ad cI cZ th n np k V KV I KI PN KR KC) [.ref (ad 0), .int (nI co), .int v] s) (F0 m 2 ls []) := by
    intro d
    induction d with
    | zero =>
      intro i H locs ls hi hno Y hl
      refine lv_iload_n X.x X.b dM_row_2 rfl (lv_at hl 0 rfl) ?_
      refine lv_aload_n X.x X.b dM_row_3 rfl (lv_at hl 1 rfl) ?_
      refine us_gM X Y 0 rfl 1 (by decide) mB_fl_M_36 rfl dM_row_4 ?_
      refine us_cge (tgt := 45) X (by omega) (by omega) dM_row_7 (by decide) (fun h1 => ?_) (fun h1 => ?_)
      · refine lv_iconst (v := (-1 : Int32)) X.x X.b dM_row_45 (by decide) ?_
        exact us_iret (u := ()) X Y hr hlk (Or.inr ⟨rfl, fun j hj => hno j (by omega)⟩) dM_row_46
      · exact absurd h1 (by omega)
    | succ d ih =>
      intro i H locs ls hi hno Y hl
      refine lv_iload_n X.x X.b dM_row_2 rfl (lv_at hl 0 rfl) ?_
      refine lv_aload_n X.x X.b dM_row_3 rfl (lv_at hl 1 rfl) ?_
      refine us_gM X Y 0 rfl 1 (by decide) mB_fl_M_36 rfl dM_row_4 ?_
      refine us_cge (tgt := 45) X (by omega) (by omega) dM_row_7 (by decide) (fun h1 => ?_) (fun h1 => ?_)
      · exact absurd h1 (by omega)
      · refine lv_aload_n X.x X.b dM_row_10 rfl (lv_at hl 1 rfl) ?_
        refine us_gM X Y 0 rfl 6 (by decide) mB_fl_M_16 rfl dM_row_11 ?_
        refine lv_iconst (v := nI 3) X.x X.b dM_row_14 (by decide) ?_
        refine lv_iload_n X.x X.b dM_row_15 rfl (lv_at hl 0 rfl) ?_
        refine us_imul X dM_row_16 ?_
        refine lv_iload_n X.x X.b dM_row_17 rfl (lv_at hl 2 rfl) ?_
        refine us_iadd X dM_row_18 ?_
        refine us_za X Y 3 1 rfl rfl (i := (3 * i) + co) (by omega) (by decide) dM_row_19 ?_
        refine lv_if_eq (tgt := 39) X.x X.b dM_row_20 (by decide) (fun h2 => ?_) (fun h2 => ?_)
        · refine lv_iinc (v := (nI (i + 1))) (lv' := [(3, .int (nI (i + 1))), (0, .ref (ad 0)), (1, .int (nI co)), (2, .int v)]) X.x X.b dM_row_39 hl (k := 0) rfl (us_inc _) (by decide) rfl (fun ls hl => ?_)
          refine lv_goto (tgt := 2) X.x X.b dM_row_42 (by decide) ?_
          exact ih (i + 1) H locs ls (by omega) (lt_s hno (us_tm_n h2)) Y hl
        · refine lv_aload_n X.x X.b dM_row_23 rfl (lv_at hl 1 rfl) ?_
          refine us_gM X Y 0 rfl 4 (by decide) mB_fl_M_9 rfl dM_row_24 ?_
          refine lv_iconst (v := nI 3) X.x X.b dM_row_27 (by decide) ?_
          refine lv_iload_n X.x X.b dM_row_28 rfl (lv_at hl 0 rfl) ?_
          refine us_imul X dM_row_29 ?_
          refine lv_iload_n X.x X.b dM_row_30 rfl (lv_at hl 2 rfl) ?_
          refine us_iadd X dM_row_31 ?_
          refine us_ia X Y 1 0 rfl rfl (i := (3 * i) + co) (by omega) (by decide) dM_row_32 ?_
          refine lv_iload_n X.x X.b dM_row_33 rfl (lv_at hl 3 rfl) ?_
          refine lv_icmp_ne (tgt := 39) X.x X.b dM_row_34 (by decide) (fun h3 => ?_) (fun h3 => ?_)
          · refine lv_iinc (v := (nI (i + 1))) (lv' := [(3, .int (nI (i + 1))), (0, .ref (ad 0)), (1, .int (nI co)), (2, .int v)]) X.x X.b dM_row_39 hl (k := 0) rfl (us_inc _) (by decide) rfl (fun ls hl => ?_)
            refine lv_goto (tgt := 2) X.x X.b dM_row_42 (by decide) ?_
            exact ih (i + 1) H locs ls (by omega) (lt_s hno (us_tm_v h2 h3)) Y hl
          · refine lv_iload_n X.x X.b dM_row_37 rfl (lv_at hl 0 rfl) ?_
            exact us_iret (u := ()) X Y hr hlk (Or.inl ⟨i, h1, rfl, us_tm_y h2 h3, hno⟩) dM_row_38
  refine lv_iconst (v := nI 0) X.x X.b dM_row_0 (by decide) ?_
  refine lv_istore_n (lv' := [(3, .int (nI 0)), (0, .ref (ad 0)), (1, .int (nI co)), (2, .int v)]) X.x X.b dM_row_1 rfl hl (by decide) rfl (fun ls hl => ?_)
  exact loop n 0 s.heap [] ls (by omega) lt_0 Y hl
set_option maxHeartbeats 4000000 in
set_option maxRecDepth 100000 in
theorem k_M_isFull (l : Launch) (D : va_G) (ad : Nat → Nat) (cI cZ : ClassId) (sz : Nat) (th : Int32) (n np k : Nat) (V KV I KI PN KR KC : Nat → Int32) (x : Nat) (hnp : np ≤ 20) (hk : k ≤ 200) (hx : x ≤ 120) : us_Ci l yM_isFull cM_isFull 2 (some .boolean) 0 0 [.ref (ad 0), .int (nI x)] D (tyM cI cZ) (mW ad cI cZ th n np k V KV I KI PN KR KC) sz (po_b (us_ful np k x)) (fun _ => mW ad cI cZ th n np k V KV I KI PN KR KC) := by
  refine us_enter (own := RM) rfl (by decide) (Nat.le_of_ble_eq_true rfl) ?_
  intro p e s m below meth c ls X Y hr hlk hl
  generalize va_A (mW ad cI cZ th n np k V KV I KI PN KR KC) sz = A at X Y ⊢
  have hl : lv_has ls 2 [(0, .ref (ad 0)), (1, .int (nI x))] := hl
  refine lv_aload_n X.x X.b dM_isFull_0 rfl (lv_at hl 0 rfl) ?_
  refine us_gM X Y 0 rfl 2 (by decide) mB_fl_M_39 rfl dM_isFull_1 ?_
  refine us_zle (tgt := 23) X (by omega) dM_isFull_4 (by decide) (fun h1 => ?_) (fun h1 => ?_)
  · refine lv_iconst (v := nI 0) X.x X.b dM_isFull_23 (by decide) ?_
    exact us_zret (u := ()) X Y hr hlk rfl (Or.inr ⟨rfl, us_ful.out (Or.inl h1)⟩) dM_isFull_24
  · refine lv_aload_n X.x X.b dM_isFull_7 rfl (lv_at hl 0 rfl) ?_
    refine us_gM X Y 0 rfl 3 (by decide) mB_fl_M_42 rfl dM_isFull_8 ?_
    refine lv_iload_n X.x X.b dM_isFull_11 rfl (lv_at hl 1 rfl) ?_
    refine us_iadd X dM_isFull_12 ?_
    refine lv_sipush (v := nI 200) X.x X.b dM_isFull_13 (by decide) ?_
    refine us_cle (tgt := 23) X (by omega) (by omega) dM_isFull_16 (by decide) (fun h2 => ?_) (fun h2 => ?_)
    · refine lv_iconst (v := nI 0) X.x X.b dM_isFull_23 (by decide) ?_
      exact us_zret (u := ()) X Y hr hlk rfl (Or.inr ⟨rfl, us_ful.out (Or.inr h2)⟩) dM_isFull_24
    · refine lv_iconst (v := nI 1) X.x X.b dM_isFull_19 (by decide) ?_
      refine lv_goto (tgt := 24) X.x X.b dM_isFull_20 (by decide) ?_
      exact us_zret (u := ()) X Y hr hlk rfl (Or.inl ⟨rfl, h1, h2⟩) dM_isFull_24
set_option maxHeartbeats 4000000 in
set_option maxRecDepth 100000 in
theorem k_M_changed (l : Launch) (D : va_G) (ad : Nat → Nat) (cI cZ : ClassId) (sz : Nat) (th : Int32) (n np k : Nat) (V KV I KI PN KR KC : Nat → Int32) (hnp : np ≤ 20) : us_Cv l yM_changed cM_changed 1 0 0 [.ref (ad 0)] D (tyM cI cZ) (mW ad cI cZ th n np k V KV I KI PN KR KC) sz (fun (_ : Unit) => True) (fun _ => mW ad cI cZ th n np (us_k1 np k) V KV I KI PN KR KC) := by
  by_cases hz : np = 0
  · rw [us_k1_z hz]
    refine us_enter (own := RM) rfl (by decide) (Nat.le_of_ble_eq_true rfl) ?_
    intro p e s m below meth c ls X Y hr hlk hl
    generalize va_A (mW ad cI cZ th n np k V KV I KI PN KR KC) sz = A at X Y ⊢
    have hl : lv_has ls 1 [(0, .ref (ad 0))] := hl
    refine lv_aload_n X.x X.b dM_changed_0 rfl (lv_at hl 0 rfl) ?_
    refine us_gM X Y 0 rfl 2 (by decide) mB_fl_M_39 rfl dM_changed_1 ?_
    refine us_zle (tgt := 17) X (by omega) dM_changed_4 (by decide) (fun h1 => ?_) (fun h1 => ?_)
    · exact us_vret (u := ()) X Y hr hlk trivial dM_changed_17
    · exact absurd hz (by omega)
  · rw [us_k1_n hz]
    refine us_enter (own := RM) rfl (by decide) (Nat.le_of_ble_eq_true rfl) ?_
    intro p e s m below meth c ls X Y hr hlk hl
    generalize va_A (mW ad cI cZ th n np k V KV I KI PN KR KC) sz = A at X Y ⊢
    have hl : lv_has ls 1 [(0, .ref (ad 0))] := hl
    refine lv_aload_n X.x X.b dM_changed_0 rfl (lv_at hl 0 rfl) ?_
    refine us_gM X Y 0 rfl 2 (by decide) mB_fl_M_39 rfl dM_changed_1 ?_
    refine us_zle (tgt := 17) X (by omega) dM_changed_4 (by decide) (fun h1 => ?_) (fun h1 => ?_)
    · exact absurd h1 hz
    · refine lv_aload_n X.x X.b dM_changed_7 rfl (lv_at hl 0 rfl) ?_
      refine lv_dup X.x X.b dM_changed_8 rfl ?_
      refine us_gM X Y 0 rfl 3 (by decide) mB_fl_M_42 rfl dM_changed_9 ?_
      refine lv_iconst (v := nI 1) X.x X.b dM_changed_12 (by decide) ?_
      refine us_iadd X dM_changed_13 ?_
      refine us_pM X Y 0 rfl 3 (by decide) mB_fl_M_42 rfl rfl rfl (Nat.le_of_ble_eq_true rfl) dM_changed_14 (fun H locs Y => ?_)
      have Y : us_Y D A (mW ad cI cZ th n np (k + 1) V KV I KI PN KR KC) s H locs := Y
      exact us_vret (u := ()) X Y hr hlk trivial dM_changed_17
set_option maxHeartbeats 4000000 in
set_option maxRecDepth 100000 in
theorem k_M_isRow (l : Launch) (D : va_G) (ad : Nat → Nat) (cI cZ : ClassId) (sz : Nat) (th : Int32) (n np k : Nat) (V KV I KI PN KR KC : Nat → Int32) (x : Int32) (hn : n ≤ 120) : us_Ci l yM_isRow cM_isRow 2 (some .boolean) 0 0 [.ref (ad 0), .int x] D (tyM cI cZ) (mW ad cI cZ th n np k V KV I KI PN KR KC) sz (po_b (∃ i, i < n ∧ x = nI i)) (fun _ => mW ad cI cZ th n np k V KV I KI PN KR KC) := by
  refine us_enter (own := RM) rfl (by decide) (Nat.le_of_ble_eq_true rfl) ?_
  intro p e s m below meth c ls X Y hr hlk hl
  generalize va_A (mW ad cI cZ th n np k V KV I KI PN KR KC) sz = A at X Y ⊢
  have hl : lv_has ls 2 [(0, .ref (ad 0)), (1, .int x)] := hl
  refine lv_iload_n X.x X.b dM_isRow_0 rfl (lv_at hl 1 rfl) ?_
  refine lv_if_lt (tgt := 16) X.x X.b dM_isRow_1 (by decide) (fun h1 => ?_) (fun h1 => ?_)
  · refine lv_iconst (v := nI 0) X.x X.b dM_isRow_16 (by decide) ?_
    exact us_zret (u := ()) X Y hr hlk rfl (Or.inr ⟨rfl, fun ⟨i, h2, h3⟩ => nI_pos (n := i) (by omega) (h3 ▸ h1)⟩) dM_isRow_17
  · refine lv_iload_n X.x X.b dM_isRow_4 rfl (lv_at hl 1 rfl) ?_
    refine lv_aload_n X.x X.b dM_isRow_5 rfl (lv_at hl 0 rfl) ?_
    refine us_gM X Y 0 rfl 1 (by decide) mB_fl_M_36 rfl dM_isRow_6 ?_
    refine lv_icmp_ge (tgt := 16) X.x X.b dM_isRow_9 (by decide) (fun h2 => ?_) (fun h2 => ?_)
    · refine lv_iconst (v := nI 0) X.x X.b dM_isRow_16 (by decide) ?_
      exact us_zret (u := ()) X Y hr hlk rfl (Or.inr ⟨rfl, fun ⟨i, h3, h4⟩ => absurd h2 (by rw [h4]; exact nI_ge h3 (by omega))⟩) dM_isRow_17
    · refine lv_iconst (v := nI 1) X.x X.b dM_isRow_12 (by decide) ?_
      refine lv_goto (tgt := 17) X.x X.b dM_isRow_13 (by decide) ?_
      exact us_zret (u := ()) X Y hr hlk rfl (Or.inl ⟨rfl, us_lt3 h1 h2⟩) dM_isRow_17
set_option maxHeartbeats 4000000 in
set_option maxRecDepth 100000 in
theorem k_M_take (l : Launch) (D : va_G) (ad : Nat → Nat) (cI cZ : ClassId) (sz : Nat) (th : Int32) (n np k : Nat) (V KV I KI PN KR KC : Nat → Int32) (r : Nat) (hn : n ≤ 120) (hr0 : r < n) (hnp : np ≤ 20) (hI : ∀ j, I j = 0 ∨ I j = 1) : us_Cv l yM_take cM_take 3 1 20 [.ref (ad 0), .int (nI r)] D (tyM cI cZ) (mW ad cI cZ th n np k V KV I KI PN KR KC) sz (fun (_ : Unit) => True) (fun _ => mW ad cI cZ th (n - 1) np (us_k1 np k) (us_tk V r (3 * (n - 1))) KV (us_tk I r (3 * (n - 1))) KI PN KR KC) := by
  refine us_enter (own := RM) rfl (by decide) (Nat.le_of_ble_eq_true rfl) ?_
  intro p e s m below meth c ls X Y hr hlk hl
  generalize va_A (mW ad cI cZ th n np k V KV I KI PN KR KC) sz = A at X Y ⊢
  have hl : lv_has ls 3 [(0, .ref (ad 0)), (1, .int (nI r))] := hl
  have loop : ∀ (d j : Nat) (H : Heap) (locs : List Loc) (ls : Array Slot), j + d = 3 * (n - 1) → 3 * r ≤ j → us_Y D A (mW ad cI cZ th (n - 1) np k (us_tk V r j) KV (us_tk I r j) KI PN KR KC) s H locs → lv_has ls 3 [(2, .int (nI j)), (0, .ref (ad 0)), (1, .int (nI r))] → W p l e { frames := 1, cells := 0, slots := 0, locals := 20 } s m [.ref (ad 0), .int (nI r)].toArray below meth c H locs 0 0 (us_Qv below (fun (_ : Unit) => True) D (tyM cI cZ) A (fun _ => mW ad cI cZ th (n - 1) np (us_k1 np k) (us_tk V r (3 * (n - 1))) KV (us_tk I r (3 * (n - 1))) KI PN KR KC) [.ref (ad 0), .int (nI r)] s) (F0 m 14 ls []) := by
    intro d
    induction d with
    | zero =>
      intro j H locs ls hj hj2 Y hl
      have ej : j = 3 * (n - 1) := by omega
      subst ej
      refine lv_iload_n X.x X.b dM_take_14 rfl (lv_at hl 0 rfl) ?_
      refine lv_iconst (v := nI 3) X.x X.b dM_take_15 (by decide) ?_
      refine lv_aload_n X.x X.b dM_take_16 rfl (lv_at hl 1 rfl) ?_
      refine us_gM X Y 0 rfl 1 (by decide) mB_fl_M_36 rfl dM_take_17 ?_
      refine us_imul X dM_take_20 ?_
      refine us_cge (tgt := 58) X (by omega) (by omega) dM_take_21 (by decide) (fun h1 => ?_) (fun h1 => ?_)
      · refine lv_aload_n X.x X.b dM_take_58 rfl (lv_at hl 1 rfl) ?_
        refine us_vv (rest := []) X Y (k_M_changed l D ad cI cZ H.size th (n - 1) np k ((us_tk V r (3 * (n - 1)))) KV ((us_tk I r (3 * (n - 1)))) KI PN KR KC hnp) us_I8 0 rfl rfl cv_M_57 rfl ⟨by decide, by decide⟩ ⟨by decide, by decide⟩ hl.1 rfl (Nat.le_of_ble_eq_true rfl) dM_take_59 (fun u H locs _ Y => ?_)
        have Y : us_Y D A (mW ad cI cZ th (n - 1) np (us_k1 np k) ((us_tk V r (3 * (n - 1)))) KV ((us_tk I r (3 * (n - 1)))) KI PN KR KC) s H locs := Y
        exact us_vret (u := ()) X Y hr hlk trivial dM_take_62
      · exact absurd h1 (by omega)
    | succ d ih =>
      intro j H locs ls hj hj2 Y hl
      refine lv_iload_n X.x X.b dM_take_14 rfl (lv_at hl 0 rfl) ?_
      refine lv_iconst (v := nI 3) X.x X.b dM_take_15 (by decide) ?_
      refine lv_aload_n X.x X.b dM_take_16 rfl (lv_at hl 1 rfl) ?_
      refine us_gM X Y 0 rfl 1 (by decide) mB_fl_M_36 rfl dM_take_17 ?_
      refine us_imul X dM_take_20 ?_
      refine us_cge (tgt := 58) X (by omega) (by omega) dM_take_21 (by decide) (fun h1 => ?_) (fun h1 => ?_)
      · exact absurd h1 (by omega)
      · refine lv_aload_n X.x X.b dM_take_24 rfl (lv_at hl 1 rfl) ?_
        refine us_gM X Y 0 rfl 6 (by decide) mB_fl_M_16 rfl dM_take_25 ?_
        refine lv_iload_n X.x X.b dM_take_28 rfl (lv_at hl 0 rfl) ?_
        refine lv_aload_n X.x X.b dM_take_29 rfl (lv_at hl 1 rfl) ?_
        refine us_gM X Y 0 rfl 6 (by decide) mB_fl_M_16 rfl dM_take_30 ?_
        refine lv_iload_n X.x X.b dM_take_33 rfl (lv_at hl 0 rfl) ?_
        refine lv_iconst (v := nI 3) X.x X.b dM_take_34 (by decide) ?_
        refine us_iadd X dM_take_35 ?_
        refine us_za X Y 3 1 rfl rfl (i := j + 3) (by omega) (by decide) dM_take_36 ?_
        refine us_zs X Y 3 1 rfl rfl (i := j) (by omega) (by decide) dM_take_37 (fun H locs Y => ?_)
        have Y : us_Y D A (mW ad cI cZ th (n - 1) np k ((us_tk V r j)) KV ((upd (us_tk I r j) j (vp_nar .boolean ((us_tk I r j) (j + 3))))) KI PN KR KC) s H locs := Y
        refine lv_aload_n X.x X.b dM_take_38 rfl (lv_at hl 1 rfl) ?_
        refine us_gM X Y 0 rfl 4 (by decide) mB_fl_M_9 rfl dM_take_39 ?_
        refine lv_iload_n X.x X.b dM_take_42 rfl (lv_at hl 0 rfl) ?_
        refine lv_aload_n X.x X.b dM_take_43 rfl (lv_at hl 1 rfl) ?_
        refine us_gM X Y 0 rfl 4 (by decide) mB_fl_M_9 rfl dM_take_44 ?_
        refine lv_iload_n X.x X.b dM_take_47 rfl (lv_at hl 0 rfl) ?_
        refine lv_iconst (v := nI 3) X.x X.b dM_take_48 (by decide) ?_
        refine us_iadd X dM_take_49 ?_
        refine us_ia X Y 1 0 rfl rfl (i := j + 3) (by omega) (by decide) dM_take_50 ?_
        refine us_is X Y 1 0 rfl rfl (i := j) (by omega) (by decide) dM_take_51 (fun H locs Y => ?_)
        have Y : us_Y D A (mW ad cI cZ th (n - 1) np k ((upd (us_tk V r j) j ((us_tk V r j) (j + 3)))) KV ((upd (us_tk I r j) j (vp_nar .boolean ((us_tk I r j) (j + 3))))) KI PN KR KC) s H locs := Y
        rw [us_tk_r, us_tk_r, us_nb (hI _), us_tk_s hj2, us_tk_s hj2] at Y
        refine lv_iinc (v := (nI (j + 1))) (lv' := [(2, .int (nI (j + 1))), (0, .ref (ad 0)), (1, .int (nI r))]) X.x X.b dM_take_52 hl (k := 0) rfl (us_inc _) (by decide) rfl (fun ls hl => ?_)
        refine lv_goto (tgt := 14) X.x X.b dM_take_55 (by decide) ?_
        exact ih (j + 1) H locs ls (by omega) (by omega) Y hl
  refine lv_aload_n X.x X.b dM_take_0 rfl (lv_at hl 0 rfl) ?_
  refine lv_dup X.x X.b dM_take_1 rfl ?_
  refine us_gM X Y 0 rfl 1 (by decide) mB_fl_M_36 rfl dM_take_2 ?_
  refine lv_iconst (v := nI 1) X.x X.b dM_take_5 (by decide) ?_
  refine us_isub X (by omega) dM_take_6 ?_
  refine us_pM X Y 0 rfl 1 (by decide) mB_fl_M_36 rfl rfl rfl (Nat.le_of_ble_eq_true rfl) dM_take_7 (fun H locs Y => ?_)
  have Y : us_Y D A (mW ad cI cZ th (n - 1) np k V KV I KI PN KR KC) s H locs := Y
  refine lv_iconst (v := nI 3) X.x X.b dM_take_10 (by decide) ?_
  refine lv_iload_n X.x X.b dM_take_11 rfl (lv_at hl 1 rfl) ?_
  refine us_imul X dM_take_12 ?_
  refine lv_istore_n (lv' := [(2, .int (nI (3 * r))), (0, .ref (ad 0)), (1, .int (nI r))]) X.x X.b dM_take_13 rfl hl (by decide) rfl (fun ls hl => ?_)
  exact loop (3 * (n - 1) - 3 * r) (3 * r) H locs ls (by omega) (Nat.le_refl _) (by rw [us_tk_0, us_tk_0]; exact Y) hl
set_option maxHeartbeats 4000000 in
set_option maxRecDepth 100000 in
theorem k_M_point (l : Launch) (D : va_G) (ad : Nat → Nat) (cI cZ : ClassId) (sz : Nat) (th : Int32) (n np k : Nat) (V KV I KI PN KR KC : Nat → Int32) (x : Int32) (hnp : np ≤ 20) : us_Ci l yM_point cM_point 3 (some .int) 0 0 [.ref (ad 0), .int x] D (tyM cI cZ) (mW ad cI cZ th n np k V KV I KI PN KR KC) sz (fun r (u : Int32) => (∃ q, q < np ∧ r = nI q ∧ PN q = x ∧ (∀ t, q < t → t < np → PN t ≠ x) ∧ u = nI 0) ∨ (r = -1 ∧ (∀ t, t < np → PN t ≠ x) ∧ u = nI 1)) (fun u => mW ad cI cZ u n np k V KV I KI PN KR KC) := by
  refine us_enter (own := RM) rfl (by decide) (Nat.le_of_ble_eq_true rfl) ?_
  intro p e s m below meth c ls X Y hr hlk hl
  generalize va_A (mW ad cI cZ th n np k V KV I KI PN KR KC) sz = A at X Y ⊢
  have hl : lv_has ls 3 [(0, .ref (ad 0)), (1, .int x)] := hl
  have loop : ∀ (d : Nat) (H : Heap) (locs : List Loc) (ls : Array Slot), d ≤ np → (∀ q, d ≤ q → q < np → PN q ≠ x) → us_Y D A (mW ad cI cZ th n np k V KV I KI PN KR KC) s H locs → lv_has ls 3 [(2, .int (nI d - 1)), (0, .ref (ad 0)), (1, .int x)] → W p l e { frames := 0, cells := 0, slots := 0, locals := 0 } s m [.ref (ad 0), .int x].toArray below meth c H locs 0 0 (us_Qi below (fun r (u : Int32) => (∃ q, q < np ∧ r = nI q ∧ PN q = x ∧ (∀ t, q < t → t < np → PN t ≠ x) ∧ u = nI 0) ∨ (r = -1 ∧ (∀ t, t < np → PN t ≠ x) ∧ u = nI 1)) D (tyM cI cZ) A (fun u => mW ad cI cZ u n np k V KV I KI PN KR KC) [.ref (ad 0), .int x] s) (F0 m 7 ls []) := by
    intro d
    induction d with
    | zero =>
      intro H locs ls hd hno Y hl
      refine lv_iload_n X.x X.b dM_point_7 rfl (lv_at hl 0 rfl) ?_
      refine lv_if_lt (tgt := 27) X.x X.b dM_point_8 (by decide) (fun h1 => ?_) (fun h1 => ?_)
      · refine lv_aload_n X.x X.b dM_point_27 rfl (lv_at hl 1 rfl) ?_
        refine lv_iload_n X.x X.b dM_point_28 rfl (lv_at hl 0 rfl) ?_
        refine lv_if_ge (tgt := 36) X.x X.b dM_point_29 (by decide) (fun h2 => ?_) (fun h2 => ?_)
        · exact absurd h2 (by decide)
        · refine lv_iconst (v := nI 1) X.x X.b dM_point_32 (by decide) ?_
          refine lv_goto (tgt := 37) X.x X.b dM_point_33 (by decide) ?_
          refine us_pM X Y 0 rfl 0 (by decide) mB_fl_M_32 rfl rfl rfl (Nat.le_of_ble_eq_true rfl) dM_point_37 (fun H locs Y => ?_)
          have Y : us_Y D A (mW ad cI cZ (nI 1) n np k V KV I KI PN KR KC) s H locs := Y
          refine lv_iload_n X.x X.b dM_point_40 rfl (lv_at hl 0 rfl) ?_
          exact us_iret (u := nI 1) X Y hr hlk (Or.inr ⟨rfl, fun t ht => hno t (by omega) ht, rfl⟩) dM_point_41
      · exact absurd (by decide) h1
    | succ d ih =>
      intro H locs ls hd hno Y hl
      rw [nI_pred] at hl
      refine lv_iload_n X.x X.b dM_point_7 rfl (lv_at hl 0 rfl) ?_
      refine lv_if_lt (tgt := 27) X.x X.b dM_point_8 (by decide) (fun h1 => ?_) (fun h1 => ?_)
      · exact absurd h1 (nI_pos (by omega))
      · refine lv_aload_n X.x X.b dM_point_11 rfl (lv_at hl 1 rfl) ?_
        refine us_gM X Y 0 rfl 8 (by decide) mB_fl_M_23 rfl dM_point_12 ?_
        refine lv_iload_n X.x X.b dM_point_15 rfl (lv_at hl 0 rfl) ?_
        refine us_ia X Y 5 0 rfl rfl (i := d) (by omega) (by decide) dM_point_16 ?_
        refine lv_iload_n X.x X.b dM_point_17 rfl (lv_at hl 2 rfl) ?_
        refine lv_icmp_eq (tgt := 27) X.x X.b dM_point_18 (by decide) (fun h2 => ?_) (fun h2 => ?_)
        · refine lv_aload_n X.x X.b dM_point_27 rfl (lv_at hl 1 rfl) ?_
          refine lv_iload_n X.x X.b dM_point_28 rfl (lv_at hl 0 rfl) ?_
          refine lv_if_ge (tgt := 36) X.x X.b dM_point_29 (by decide) (fun h3 => ?_) (fun h3 => ?_)
          · refine lv_iconst (v := nI 0) X.x X.b dM_point_36 (by decide) ?_
            refine us_pM X Y 0 rfl 0 (by decide) mB_fl_M_32 rfl rfl rfl (Nat.le_of_ble_eq_true rfl) dM_point_37 (fun H locs Y => ?_)
            have Y : us_Y D A (mW ad cI cZ (nI 0) n np k V KV I KI PN KR KC) s H locs := Y
            refine lv_iload_n X.x X.b dM_point_40 rfl (lv_at hl 0 rfl) ?_
            exact us_iret (u := nI 0) X Y hr hlk (Or.inl ⟨d, by omega, rfl, h2, fun q h3 h4 => hno q (by omega) h4, rfl⟩) dM_point_41
          · exact absurd (nI_pos' (by omega)) h3
        · refine lv_iinc (v := (nI d - 1)) (lv' := [(2, .int (nI d - 1)), (0, .ref (ad 0)), (1, .int x)]) X.x X.b dM_point_21 hl (k := 0) rfl (us_dec _) (by decide) rfl (fun ls hl => ?_)
          refine lv_goto (tgt := 7) X.x X.b dM_point_24 (by decide) ?_
          exact ih H locs ls (by omega) (fun q h3 h4 => by rcases Nat.lt_or_ge d q with e | e; exact hno q e h4; rw [show q = d by omega]; exact h2) Y hl
  refine lv_aload_n X.x X.b dM_point_0 rfl (lv_at hl 0 rfl) ?_
  refine us_gM X Y 0 rfl 2 (by decide) mB_fl_M_39 rfl dM_point_1 ?_
  refine lv_iconst (v := (1 : Int32)) X.x X.b dM_point_4 (by decide) ?_
  refine lv_isub X.x X.b dM_point_5 ?_
  refine lv_istore_n (lv' := [(2, .int ((nI np) - ((1 : Int32)))), (0, .ref (ad 0)), (1, .int x)]) X.x X.b dM_point_6 rfl hl (by decide) rfl (fun ls hl => ?_)
  exact loop np s.heap [] ls (Nat.le_refl _) (fun q h1 h2 => absurd h2 (by omega)) Y hl
set_option maxHeartbeats 4000000 in
set_option maxRecDepth 100000 in
theorem k_M_nones (l : Launch) (D : va_G) (ad : Nat → Nat) (cI cZ : ClassId) (sz : Nat) (th : Int32) (n np k : Nat) (V KV I KI PN KR KC : Nat → Int32) (co : Nat) (hn : n ≤ 120) (hco : co < 3) : us_Ci l yM_nones cM_nones 4 (some .int) 0 0 [.ref (ad 0), .int (nI co)] D (tyM cI cZ) (mW ad cI cZ th n np k V KV I KI PN KR KC) sz (fun r (_ : Unit) => r = nI (us_cn (us_tm V I) co n)) (fun _ => mW ad cI cZ th n np k V KV I KI PN KR KC) := by
  refine us_enter (own := RM) rfl (by decide) (Nat.le_of_ble_eq_true rfl) ?_
  intro p e s m below meth c ls X Y hr hlk hl
  generalize va_A (mW ad cI cZ th n np k V KV I KI PN KR KC) sz = A at X Y ⊢
  have hl : lv_has ls 4 [(0, .ref (ad 0)), (1, .int (nI co))] := hl
  have loop : ∀ (d i : Nat) (H : Heap) (locs : List Loc) (ls : Array Slot), i + d = n → us_Y D A (mW ad cI cZ th n np k V KV I KI PN KR KC) s H locs → lv_has ls 4 [(3, .int (nI i)), (2, .int (nI (us_cn (us_tm V I) co i))), (0, .ref (ad 0)), (1, .int (nI co))] → W p l e { frames := 0, cells := 0, slots := 0, locals := 0 } s m [.ref (ad 0), .int (nI co)].toArray below meth c H locs 0 0 (us_Qi below (fun r (_ : Unit) => r = nI (us_cn (us_tm V I) co n)) D (tyM cI cZ) A (fun _ => mW ad cI cZ th n np k V KV I KI PN KR KC) [.ref (ad 0), .int (nI co)] s) (F0 m 4 ls []) := by
    intro d
    induction d with
    | zero =>
      intro i H locs ls hi Y hl
      refine lv_iload_n X.x X.b dM_nones_4 rfl (lv_at hl 0 rfl) ?_
      refine lv_aload_n X.x X.b dM_nones_5 rfl (lv_at hl 2 rfl) ?_
      refine us_gM X Y 0 rfl 1 (by decide) mB_fl_M_36 rfl dM_nones_6 ?_
      refine us_cge (tgt := 34) X (by omega) (by omega) dM_nones_9 (by decide) (fun h1 => ?_) (fun h1 => ?_)
      · refine lv_iload_n X.x X.b dM_nones_34 rfl (lv_at hl 1 rfl) ?_
        exact us_iret (u := ()) X Y hr hlk (by rw [show n = i by omega]) dM_nones_35
      · exact absurd h1 (by omega)
    | succ d ih =>
      intro i H locs ls hi Y hl
      refine lv_iload_n X.x X.b dM_nones_4 rfl (lv_at hl 0 rfl) ?_
      refine lv_aload_n X.x X.b dM_nones_5 rfl (lv_at hl 2 rfl) ?_
      refine us_gM X Y 0 rfl 1 (by decide) mB_fl_M_36 rfl dM_nones_6 ?_
      refine us_cge (tgt := 34) X (by omega) (by omega) dM_nones_9 (by decide) (fun h1 => ?_) (fun h1 => ?_)
      · exact absurd h1 (by omega)
      · refine lv_aload_n X.x X.b dM_nones_12 rfl (lv_at hl 2 rfl) ?_
        refine us_gM X Y 0 rfl 6 (by decide) mB_fl_M_16 rfl dM_nones_13 ?_
        refine lv_iconst (v := nI 3) X.x X.b dM_nones_16 (by decide) ?_
        refine lv_iload_n X.x X.b dM_nones_17 rfl (lv_at hl 0 rfl) ?_
        refine us_imul X dM_nones_18 ?_
        refine lv_iload_n X.x X.b dM_nones_19 rfl (lv_at hl 3 rfl) ?_
        refine us_iadd X dM_nones_20 ?_
        refine us_za X Y 3 1 rfl rfl (i := (3 * i) + co) (by omega) (by decide) dM_nones_21 ?_
        refine lv_if_ne (tgt := 28) X.x X.b dM_nones_22 (by decide) (fun h2 => ?_) (fun h2 => ?_)
        · have hw : ¬ us_tm V I i co = none := by rw [us_tm_1 h2]; exact fun z => nomatch z
          refine lv_iinc (v := (nI (i + 1))) (lv' := [(3, .int (nI (i + 1))), (2, .int (nI (us_cn (us_tm V I) co i))), (0, .ref (ad 0)), (1, .int (nI co))]) X.x X.b dM_nones_28 hl (k := 0) rfl (us_inc _) (by decide) rfl (fun ls hl => ?_)
          refine lv_goto (tgt := 4) X.x X.b dM_nones_31 (by decide) ?_
          rw [← us_cn_0 hw] at hl
          exact ih (i + 1) H locs ls (by omega) Y hl
        · have hw : us_tm V I i co = none := us_tm_0 h2
          refine lv_iinc (v := (nI ((us_cn (us_tm V I) co i) + 1))) (lv' := [(2, .int (nI ((us_cn (us_tm V I) co i) + 1))), (3, .int (nI i)), (0, .ref (ad 0)), (1, .int (nI co))]) X.x X.b dM_nones_25 hl (k := 1) rfl (us_inc _) (by decide) rfl (fun ls hl => ?_)
          refine lv_iinc (v := (nI (i + 1))) (lv' := [(3, .int (nI (i + 1))), (2, .int (nI ((us_cn (us_tm V I) co i) + 1))), (0, .ref (ad 0)), (1, .int (nI co))]) X.x X.b dM_nones_28 hl (k := 1) rfl (us_inc _) (by decide) rfl (fun ls hl => ?_)
          refine lv_goto (tgt := 4) X.x X.b dM_nones_31 (by decide) ?_
          rw [← us_cn_1 hw] at hl
          exact ih (i + 1) H locs ls (by omega) Y hl
  refine lv_iconst (v := nI 0) X.x X.b dM_nones_0 (by decide) ?_
  refine lv_istore_n (lv' := [(2, .int (nI 0)), (0, .ref (ad 0)), (1, .int (nI co))]) X.x X.b dM_nones_1 rfl hl (by decide) rfl (fun ls hl => ?_)
  refine lv_iconst (v := nI 0) X.x X.b dM_nones_2 (by decide) ?_
  refine lv_istore_n (lv' := [(3, .int (nI 0)), (2, .int (nI 0)), (0, .ref (ad 0)), (1, .int (nI co))]) X.x X.b dM_nones_3 rfl hl (by decide) rfl (fun ls hl => ?_)
  exact loop n 0 s.heap [] ls (by omega) Y hl
