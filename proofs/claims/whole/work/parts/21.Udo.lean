/-! 21.Udo (laid by wip/whole/gen/methods_u.py): private methods that change cells. -/
set_option maxHeartbeats 4000000 in
set_option maxRecDepth 100000 in
theorem k_U_keepChange (l : Launch) (D : va_G) (ad : Nat → Nat) (cI : ClassId) (sz : Nat) (C PN CA CK CR CB : Nat → Int32) (n np k : Nat) (kd r : Nat) (hr0 : r < 120) (hnp : np ≤ 20) (hk : np = 0 ∨ k + 1 ≤ 200) : us_Cv l yU_keepChange cU_keepChange 3 1 18 [.ref (ad 0), .int (nI kd), .int (nI r)] D (tyU cI) (uW ad cI C n PN CA np CK CR CB k) sz (fun (_ : Unit) => True) (fun _ => uW ad cI C n PN CA np (us_ku np k CK (nI kd)) (us_ku np k CR (nI r)) (us_kc np k C CB r) (us_k1 np k)) := by
  by_cases hz : np = 0
  · rw [us_k1_z hz, us_ku_z hz, us_ku_z hz, us_kc_z hz]
    refine us_enter (own := RU) rfl (by decide) (Nat.le_of_ble_eq_true rfl) ?_
    intro p e s m below meth c ls X Y hr hlk hl
    generalize va_A (uW ad cI C n PN CA np CK CR CB k) sz = A at X Y ⊢
    have hl : lv_has ls 3 [(0, .ref (ad 0)), (1, .int (nI kd)), (2, .int (nI r))] := hl
    refine lv_aload_n X.x X.b dU_keepChange_0 rfl (lv_at hl 0 rfl) ?_
    refine us_gU X Y 0 rfl 4 (by decide) mB_fl_U_23 rfl dU_keepChange_1 ?_
    refine us_zne (tgt := 8) X (by omega) dU_keepChange_4 (by decide) (fun h1 => ?_) (fun h1 => ?_)
    · exact absurd hz (by omega)
    · exact us_vret (u := ()) X Y hr hlk trivial dU_keepChange_7
  · rw [us_k1_n hz, us_ku_n hz, us_ku_n hz, us_kc_n hz]
    refine us_enter (own := RU) rfl (by decide) (Nat.le_of_ble_eq_true rfl) ?_
    intro p e s m below meth c ls X Y hr hlk hl
    generalize va_A (uW ad cI C n PN CA np CK CR CB k) sz = A at X Y ⊢
    have hl : lv_has ls 3 [(0, .ref (ad 0)), (1, .int (nI kd)), (2, .int (nI r))] := hl
    refine lv_aload_n X.x X.b dU_keepChange_0 rfl (lv_at hl 0 rfl) ?_
    refine us_gU X Y 0 rfl 4 (by decide) mB_fl_U_23 rfl dU_keepChange_1 ?_
    refine us_zne (tgt := 8) X (by omega) dU_keepChange_4 (by decide) (fun h1 => ?_) (fun h1 => ?_)
    · refine lv_aload_n X.x X.b dU_keepChange_8 rfl (lv_at hl 0 rfl) ?_
      refine us_gU X Y 0 rfl 5 (by decide) mB_fl_U_26 rfl dU_keepChange_9 ?_
      refine lv_aload_n X.x X.b dU_keepChange_12 rfl (lv_at hl 0 rfl) ?_
      refine us_gU X Y 0 rfl 8 (by decide) mB_fl_U_35 rfl dU_keepChange_13 ?_
      refine lv_iload_n X.x X.b dU_keepChange_16 rfl (lv_at hl 1 rfl) ?_
      refine us_is X Y 4 0 rfl rfl (i := k) (by omega) (by decide) dU_keepChange_17 (fun H locs Y => ?_)
      have Y : us_Y D A (uW ad cI C n PN CA np ((upd CK k (nI kd))) CR CB k) s H locs := Y
      refine lv_aload_n X.x X.b dU_keepChange_18 rfl (lv_at hl 0 rfl) ?_
      refine us_gU X Y 0 rfl 6 (by decide) mB_fl_U_29 rfl dU_keepChange_19 ?_
      refine lv_aload_n X.x X.b dU_keepChange_22 rfl (lv_at hl 0 rfl) ?_
      refine us_gU X Y 0 rfl 8 (by decide) mB_fl_U_35 rfl dU_keepChange_23 ?_
      refine lv_iload_n X.x X.b dU_keepChange_26 rfl (lv_at hl 2 rfl) ?_
      refine us_is X Y 5 0 rfl rfl (i := k) (by omega) (by decide) dU_keepChange_27 (fun H locs Y => ?_)
      have Y : us_Y D A (uW ad cI C n PN CA np ((upd CK k (nI kd))) ((upd CR k (nI r))) CB k) s H locs := Y
      refine lv_aload_n X.x X.b dU_keepChange_28 rfl (lv_at hl 0 rfl) ?_
      refine us_gU X Y 0 rfl 0 (by decide) mB_fl_U_9 rfl dU_keepChange_29 ?_
      refine lv_iload_n X.x X.b dU_keepChange_32 rfl (lv_at hl 2 rfl) ?_
      refine lv_iconst (v := nI 4) X.x X.b dU_keepChange_33 (by decide) ?_
      refine us_imul X dU_keepChange_34 ?_
      refine lv_aload_n X.x X.b dU_keepChange_35 rfl (lv_at hl 0 rfl) ?_
      refine us_gU X Y 0 rfl 7 (by decide) mB_fl_U_32 rfl dU_keepChange_36 ?_
      refine lv_aload_n X.x X.b dU_keepChange_39 rfl (lv_at hl 0 rfl) ?_
      refine us_gU X Y 0 rfl 8 (by decide) mB_fl_U_35 rfl dU_keepChange_40 ?_
      refine lv_iconst (v := nI 4) X.x X.b dU_keepChange_43 (by decide) ?_
      refine us_imul X dU_keepChange_44 ?_
      refine lv_iconst (v := nI 4) X.x X.b dU_keepChange_45 (by decide) ?_
      refine us_cp X Y 1 6 0 0 rfl rfl rfl rfl mB_ml_U_100 (sp := r * 4) (dp := k * 4) (n := 4) (by omega) (by omega) (by decide) (by decide) hl.1 (by decide) (by decide) dU_keepChange_46 (fun H locs Y => ?_)
      have Y : us_Y D A (uW ad cI C n PN CA np ((upd CK k (nI kd))) ((upd CR k (nI r))) ((va_cpy C CB (r * 4) (k * 4) 4)) k) s H locs := Y
      refine lv_aload_n X.x X.b dU_keepChange_49 rfl (lv_at hl 0 rfl) ?_
      refine lv_dup X.x X.b dU_keepChange_50 rfl ?_
      refine us_gU X Y 0 rfl 8 (by decide) mB_fl_U_35 rfl dU_keepChange_51 ?_
      refine lv_iconst (v := nI 1) X.x X.b dU_keepChange_54 (by decide) ?_
      refine us_iadd X dU_keepChange_55 ?_
      refine us_pU X Y 0 rfl 8 (by decide) mB_fl_U_35 rfl rfl rfl (Nat.le_of_ble_eq_true rfl) dU_keepChange_56 (fun H locs Y => ?_)
      have Y : us_Y D A (uW ad cI C n PN CA np ((upd CK k (nI kd))) ((upd CR k (nI r))) ((va_cpy C CB (r * 4) (k * 4) 4)) (k + 1)) s H locs := Y
      exact us_vret (u := ()) X Y hr hlk trivial dU_keepChange_59
    · exact absurd h1 hz
set_option maxHeartbeats 4000000 in
set_option maxRecDepth 100000 in
theorem k_U_closeRow (l : Launch) (D : va_G) (ad : Nat → Nat) (cI : ClassId) (sz : Nat) (C PN CA CK CR CB : Nat → Int32) (n np k : Nat) (r : Nat) (hn : n ≤ 120) (hr0 : r < n) : us_Cv l yU_closeRow cU_closeRow 3 1 18 [.ref (ad 0), .int (nI r)] D (tyU cI) (uW ad cI C n PN CA np CK CR CB k) sz (fun (_ : Unit) => True) (fun _ => uW ad cI (va_cpy C C ((r + 1) * 4) (r * 4) ((n - r - 1) * 4)) (n - 1) PN CA np CK CR CB k) := by
  refine us_enter (own := RU) rfl (by decide) (Nat.le_of_ble_eq_true rfl) ?_
  intro p e s m below meth c ls X Y hr hlk hl
  generalize va_A (uW ad cI C n PN CA np CK CR CB k) sz = A at X Y ⊢
  have hl : lv_has ls 3 [(0, .ref (ad 0)), (1, .int (nI r))] := hl
  refine lv_aload_n X.x X.b dU_closeRow_0 rfl (lv_at hl 0 rfl) ?_
  refine us_gU X Y 0 rfl 1 (by decide) mB_fl_U_13 rfl dU_closeRow_1 ?_
  refine lv_iload_n X.x X.b dU_closeRow_4 rfl (lv_at hl 1 rfl) ?_
  refine us_isub X (by omega) dU_closeRow_5 ?_
  refine lv_iconst (v := nI 1) X.x X.b dU_closeRow_6 (by decide) ?_
  refine us_isub X (by omega) dU_closeRow_7 ?_
  refine lv_istore_n (lv' := [(2, .int (nI ((n - r) - 1))), (0, .ref (ad 0)), (1, .int (nI r))]) X.x X.b dU_closeRow_8 rfl hl (by decide) rfl (fun ls hl => ?_)
  refine lv_aload_n X.x X.b dU_closeRow_9 rfl (lv_at hl 1 rfl) ?_
  refine us_gU X Y 0 rfl 0 (by decide) mB_fl_U_9 rfl dU_closeRow_10 ?_
  refine lv_iload_n X.x X.b dU_closeRow_13 rfl (lv_at hl 2 rfl) ?_
  refine lv_iconst (v := nI 1) X.x X.b dU_closeRow_14 (by decide) ?_
  refine us_iadd X dU_closeRow_15 ?_
  refine lv_iconst (v := nI 4) X.x X.b dU_closeRow_16 (by decide) ?_
  refine us_imul X dU_closeRow_17 ?_
  refine lv_aload_n X.x X.b dU_closeRow_18 rfl (lv_at hl 1 rfl) ?_
  refine us_gU X Y 0 rfl 0 (by decide) mB_fl_U_9 rfl dU_closeRow_19 ?_
  refine lv_iload_n X.x X.b dU_closeRow_22 rfl (lv_at hl 2 rfl) ?_
  refine lv_iconst (v := nI 4) X.x X.b dU_closeRow_23 (by decide) ?_
  refine us_imul X dU_closeRow_24 ?_
  refine lv_iload_n X.x X.b dU_closeRow_25 rfl (lv_at hl 0 rfl) ?_
  refine lv_iconst (v := nI 4) X.x X.b dU_closeRow_26 (by decide) ?_
  refine us_imul X dU_closeRow_27 ?_
  refine us_cp X Y 1 1 0 0 rfl rfl rfl rfl mB_ml_U_100 (sp := (r + 1) * 4) (dp := r * 4) (n := ((n - r) - 1) * 4) (by omega) (by omega) (by decide) (by decide) hl.1 (by decide) (by decide) dU_closeRow_28 (fun H locs Y => ?_)
  have Y : us_Y D A (uW ad cI ((va_cpy C C ((r + 1) * 4) (r * 4) (((n - r) - 1) * 4))) n PN CA np CK CR CB k) s H locs := Y
  refine lv_aload_n X.x X.b dU_closeRow_31 rfl (lv_at hl 1 rfl) ?_
  refine lv_dup X.x X.b dU_closeRow_32 rfl ?_
  refine us_gU X Y 0 rfl 1 (by decide) mB_fl_U_13 rfl dU_closeRow_33 ?_
  refine lv_iconst (v := nI 1) X.x X.b dU_closeRow_36 (by decide) ?_
  refine us_isub X (by omega) dU_closeRow_37 ?_
  refine us_pU X Y 0 rfl 1 (by decide) mB_fl_U_13 rfl rfl rfl (Nat.le_of_ble_eq_true rfl) dU_closeRow_38 (fun H locs Y => ?_)
  have Y : us_Y D A (uW ad cI ((va_cpy C C ((r + 1) * 4) (r * 4) (((n - r) - 1) * 4))) (n - 1) PN CA np CK CR CB k) s H locs := Y
  exact us_vret (u := ()) X Y hr hlk trivial dU_closeRow_41
set_option maxHeartbeats 4000000 in
set_option maxRecDepth 100000 in
theorem k_U_openRow (l : Launch) (D : va_G) (ad : Nat → Nat) (cI : ClassId) (sz : Nat) (C PN CA CK CR CB : Nat → Int32) (n np k : Nat) (r : Nat) (hn : n < 120) (hr0 : r ≤ n) : us_Cv l yU_openRow cU_openRow 3 1 18 [.ref (ad 0), .int (nI r)] D (tyU cI) (uW ad cI C n PN CA np CK CR CB k) sz (fun (_ : Unit) => True) (fun _ => uW ad cI (va_cpy C C (r * 4) ((r + 1) * 4) ((n - r) * 4)) (n + 1) PN CA np CK CR CB k) := by
  refine us_enter (own := RU) rfl (by decide) (Nat.le_of_ble_eq_true rfl) ?_
  intro p e s m below meth c ls X Y hr hlk hl
  generalize va_A (uW ad cI C n PN CA np CK CR CB k) sz = A at X Y ⊢
  have hl : lv_has ls 3 [(0, .ref (ad 0)), (1, .int (nI r))] := hl
  refine lv_aload_n X.x X.b dU_openRow_0 rfl (lv_at hl 0 rfl) ?_
  refine us_gU X Y 0 rfl 1 (by decide) mB_fl_U_13 rfl dU_openRow_1 ?_
  refine lv_iload_n X.x X.b dU_openRow_4 rfl (lv_at hl 1 rfl) ?_
  refine us_isub X (by omega) dU_openRow_5 ?_
  refine lv_istore_n (lv' := [(2, .int (nI (n - r))), (0, .ref (ad 0)), (1, .int (nI r))]) X.x X.b dU_openRow_6 rfl hl (by decide) rfl (fun ls hl => ?_)
  refine lv_aload_n X.x X.b dU_openRow_7 rfl (lv_at hl 1 rfl) ?_
  refine us_gU X Y 0 rfl 0 (by decide) mB_fl_U_9 rfl dU_openRow_8 ?_
  refine lv_iload_n X.x X.b dU_openRow_11 rfl (lv_at hl 2 rfl) ?_
  refine lv_iconst (v := nI 4) X.x X.b dU_openRow_12 (by decide) ?_
  refine us_imul X dU_openRow_13 ?_
  refine lv_aload_n X.x X.b dU_openRow_14 rfl (lv_at hl 1 rfl) ?_
  refine us_gU X Y 0 rfl 0 (by decide) mB_fl_U_9 rfl dU_openRow_15 ?_
  refine lv_iload_n X.x X.b dU_openRow_18 rfl (lv_at hl 2 rfl) ?_
  refine lv_iconst (v := nI 1) X.x X.b dU_openRow_19 (by decide) ?_
  refine us_iadd X dU_openRow_20 ?_
  refine lv_iconst (v := nI 4) X.x X.b dU_openRow_21 (by decide) ?_
  refine us_imul X dU_openRow_22 ?_
  refine lv_iload_n X.x X.b dU_openRow_23 rfl (lv_at hl 0 rfl) ?_
  refine lv_iconst (v := nI 4) X.x X.b dU_openRow_24 (by decide) ?_
  refine us_imul X dU_openRow_25 ?_
  refine us_cp X Y 1 1 0 0 rfl rfl rfl rfl mB_ml_U_100 (sp := r * 4) (dp := (r + 1) * 4) (n := (n - r) * 4) (by omega) (by omega) (by decide) (by decide) hl.1 (by decide) (by decide) dU_openRow_26 (fun H locs Y => ?_)
  have Y : us_Y D A (uW ad cI ((va_cpy C C (r * 4) ((r + 1) * 4) ((n - r) * 4))) n PN CA np CK CR CB k) s H locs := Y
  refine lv_aload_n X.x X.b dU_openRow_29 rfl (lv_at hl 1 rfl) ?_
  refine lv_dup X.x X.b dU_openRow_30 rfl ?_
  refine us_gU X Y 0 rfl 1 (by decide) mB_fl_U_13 rfl dU_openRow_31 ?_
  refine lv_iconst (v := nI 1) X.x X.b dU_openRow_34 (by decide) ?_
  refine us_iadd X dU_openRow_35 ?_
  refine us_pU X Y 0 rfl 1 (by decide) mB_fl_U_13 rfl rfl rfl (Nat.le_of_ble_eq_true rfl) dU_openRow_36 (fun H locs Y => ?_)
  have Y : us_Y D A (uW ad cI ((va_cpy C C (r * 4) ((r + 1) * 4) ((n - r) * 4))) (n + 1) PN CA np CK CR CB k) s H locs := Y
  exact us_vret (u := ()) X Y hr hlk trivial dU_openRow_39
set_option maxHeartbeats 4000000 in
set_option maxRecDepth 100000 in
theorem k_U_takeOut (l : Launch) (D : va_G) (ad : Nat → Nat) (cI : ClassId) (sz : Nat) (C PN CA CK CR CB : Nat → Int32) (n np k : Nat) (r : Nat) (hn : n ≤ 120) (hr0 : r < n) (hnp : np ≤ 20) (hk : np = 0 ∨ k + 1 ≤ 200) : us_Cv l yU_takeOut cU_takeOut 2 2 40 [.ref (ad 0), .int (nI r)] D (tyU cI) (uW ad cI C n PN CA np CK CR CB k) sz (fun (_ : Unit) => True) (fun _ => uW ad cI (va_cpy C C ((r + 1) * 4) (r * 4) ((n - r - 1) * 4)) (n - 1) PN CA np (us_ku np k CK (nI 2)) (us_ku np k CR (nI r)) (us_kc np k C CB r) (us_k1 np k)) := by
  refine us_enter (own := RU) rfl (by decide) (Nat.le_of_ble_eq_true rfl) ?_
  intro p e s m below meth c ls X Y hr hlk hl
  generalize va_A (uW ad cI C n PN CA np CK CR CB k) sz = A at X Y ⊢
  have hl : lv_has ls 2 [(0, .ref (ad 0)), (1, .int (nI r))] := hl
  refine lv_aload_n X.x X.b dU_takeOut_0 rfl (lv_at hl 0 rfl) ?_
  refine lv_iconst (v := nI 2) X.x X.b dU_takeOut_1 (by decide) ?_
  refine lv_iload_n X.x X.b dU_takeOut_2 rfl (lv_at hl 1 rfl) ?_
  refine us_vv (rest := []) X Y (k_U_keepChange l D ad cI s.heap.size C PN CA CK CR CB n np k 2 r (by omega) hnp hk) us_I7 0 rfl rfl cv_U_52 rfl ⟨by decide, by decide⟩ ⟨by decide, by decide⟩ hl.1 rfl (Nat.le_of_ble_eq_true rfl) dU_takeOut_3 (fun u H locs _ Y => ?_)
  have Y : us_Y D A (uW ad cI C n PN CA np ((us_ku np k CK (nI 2))) ((us_ku np k CR (nI r))) ((us_kc np k C CB r)) (us_k1 np k)) s H locs := Y
  refine lv_aload_n X.x X.b dU_takeOut_6 rfl (lv_at hl 0 rfl) ?_
  refine lv_iload_n X.x X.b dU_takeOut_7 rfl (lv_at hl 1 rfl) ?_
  refine us_vv (rest := []) X Y (k_U_closeRow l D ad cI H.size C PN CA ((us_ku np k CK (nI 2))) ((us_ku np k CR (nI r))) ((us_kc np k C CB r)) n np (us_k1 np k) r hn hr0) us_I7 0 rfl rfl cv_U_97 rfl ⟨by decide, by decide⟩ ⟨by decide, by decide⟩ hl.1 rfl (Nat.le_of_ble_eq_true rfl) dU_takeOut_8 (fun u H locs _ Y => ?_)
  have Y : us_Y D A (uW ad cI ((va_cpy C C ((r + 1) * 4) (r * 4) ((n - r - 1) * 4))) (n - 1) PN CA np ((us_ku np k CK (nI 2))) ((us_ku np k CR (nI r))) ((us_kc np k C CB r)) (us_k1 np k)) s H locs := Y
  exact us_vret (u := ()) X Y hr hlk trivial dU_takeOut_11
set_option maxHeartbeats 4000000 in
set_option maxRecDepth 100000 in
theorem k_U_undo (l : Launch) (D : va_G) (ad : Nat → Nat) (cI : ClassId) (sz : Nat) (C PN CA CK CR CB : Nat → Int32) (n np k : Nat) (j n0 : Nat) (Tz : us_T) (hj : j < 200) (hn : n ≤ 120) (hu : us_undo (CK j) (CR j) (us_tu CB j) n (us_tu C) n0 Tz) : us_Cv l yU_undo cU_undo 3 2 40 [.ref (ad 0), .int (nI j)] D (tyU cI) (uW ad cI C n PN CA np CK CR CB k) sz (fun (C' : Nat → Int32) => us_eq n0 (us_tu C') Tz) (fun C' => uW ad cI C' n0 PN CA np CK CR CB k) := by
  refine us_enter (own := RU) rfl (by decide) (Nat.le_of_ble_eq_true rfl) ?_
  intro p e s m below meth c ls X Y hr hlk hl
  generalize va_A (uW ad cI C n PN CA np CK CR CB k) sz = A at X Y ⊢
  have hl : lv_has ls 3 [(0, .ref (ad 0)), (1, .int (nI j))] := hl
  rcases hu with ⟨e1, e2, e3, e4⟩ | ⟨e1, e2, r, e3, e4, e5⟩ | ⟨e1, e2, e3, r, e4, e5, e6⟩
  · refine lv_aload_n X.x X.b dU_undo_0 rfl (lv_at hl 0 rfl) ?_
    refine us_gU X Y 0 rfl 6 (by decide) mB_fl_U_29 rfl dU_undo_1 ?_
    refine lv_iload_n X.x X.b dU_undo_4 rfl (lv_at hl 1 rfl) ?_
    refine us_ia X Y 5 0 rfl rfl (i := j) (by omega) (by decide) dU_undo_5 ?_
    rw [e2]
    refine lv_istore_n (lv' := [(2, .int (nI n0)), (0, .ref (ad 0)), (1, .int (nI j))]) X.x X.b dU_undo_6 rfl hl (by decide) rfl (fun ls hl => ?_)
    refine lv_aload_n X.x X.b dU_undo_7 rfl (lv_at hl 1 rfl) ?_
    refine us_gU X Y 0 rfl 5 (by decide) mB_fl_U_26 rfl dU_undo_8 ?_
    refine lv_iload_n X.x X.b dU_undo_11 rfl (lv_at hl 2 rfl) ?_
    refine us_ia X Y 4 0 rfl rfl (i := j) (by omega) (by decide) dU_undo_12 ?_
    refine lv_if_ne (tgt := 22) X.x X.b dU_undo_13 (by decide) (fun h1 => ?_) (fun h1 => ?_)
    · exact absurd e1 h1
    · refine lv_aload_n X.x X.b dU_undo_16 rfl (lv_at hl 1 rfl) ?_
      refine lv_iload_n X.x X.b dU_undo_17 rfl (lv_at hl 0 rfl) ?_
      refine us_vv (rest := []) X Y (k_U_closeRow l D ad cI s.heap.size C PN CA CK CR CB n np k n0 hn (by omega)) us_I7 0 rfl rfl cv_U_97 rfl ⟨by decide, by decide⟩ ⟨by decide, by decide⟩ hl.1 rfl (Nat.le_of_ble_eq_true rfl) dU_undo_18 (fun u H locs _ Y => ?_)
      have Y : us_Y D A (uW ad cI ((va_cpy C C ((n0 + 1) * 4) (n0 * 4) ((n - n0 - 1) * 4))) (n - 1) PN CA np CK CR CB k) s H locs := Y
      have en : n - 1 = n0 := by omega
      rw [en] at Y
      exact us_vret (u := _) X Y hr hlk (fun i c hi hc => by have h9 := us_close (C := C) (n := n) (r := n0) (by omega) i c (by omega) hc; rw [h9]; unfold us_del; rw [if_pos hi]; exact e4 i c hi hc) dU_undo_21
  · refine lv_aload_n X.x X.b dU_undo_0 rfl (lv_at hl 0 rfl) ?_
    refine us_gU X Y 0 rfl 6 (by decide) mB_fl_U_29 rfl dU_undo_1 ?_
    refine lv_iload_n X.x X.b dU_undo_4 rfl (lv_at hl 1 rfl) ?_
    refine us_ia X Y 5 0 rfl rfl (i := j) (by omega) (by decide) dU_undo_5 ?_
    rw [e4]
    refine lv_istore_n (lv' := [(2, .int (nI r)), (0, .ref (ad 0)), (1, .int (nI j))]) X.x X.b dU_undo_6 rfl hl (by decide) rfl (fun ls hl => ?_)
    refine lv_aload_n X.x X.b dU_undo_7 rfl (lv_at hl 1 rfl) ?_
    refine us_gU X Y 0 rfl 5 (by decide) mB_fl_U_26 rfl dU_undo_8 ?_
    refine lv_iload_n X.x X.b dU_undo_11 rfl (lv_at hl 2 rfl) ?_
    refine us_ia X Y 4 0 rfl rfl (i := j) (by omega) (by decide) dU_undo_12 ?_
    refine lv_if_ne (tgt := 22) X.x X.b dU_undo_13 (by decide) (fun h1 => ?_) (fun h1 => ?_)
    · refine lv_aload_n X.x X.b dU_undo_22 rfl (lv_at hl 1 rfl) ?_
      refine us_gU X Y 0 rfl 5 (by decide) mB_fl_U_26 rfl dU_undo_23 ?_
      refine lv_iload_n X.x X.b dU_undo_26 rfl (lv_at hl 2 rfl) ?_
      refine us_ia X Y 4 0 rfl rfl (i := j) (by omega) (by decide) dU_undo_27 ?_
      refine lv_iconst (v := (2 : Int32)) X.x X.b dU_undo_28 (by decide) ?_
      refine lv_icmp_ne (tgt := 37) X.x X.b dU_undo_29 (by decide) (fun h2 => ?_) (fun h2 => ?_)
      · refine lv_aload_n X.x X.b dU_undo_37 rfl (lv_at hl 1 rfl) ?_
        refine us_gU X Y 0 rfl 7 (by decide) mB_fl_U_32 rfl dU_undo_38 ?_
        refine lv_iload_n X.x X.b dU_undo_41 rfl (lv_at hl 2 rfl) ?_
        refine lv_iconst (v := nI 4) X.x X.b dU_undo_42 (by decide) ?_
        refine us_imul X dU_undo_43 ?_
        refine lv_aload_n X.x X.b dU_undo_44 rfl (lv_at hl 1 rfl) ?_
        refine us_gU X Y 0 rfl 0 (by decide) mB_fl_U_9 rfl dU_undo_45 ?_
        refine lv_iload_n X.x X.b dU_undo_48 rfl (lv_at hl 0 rfl) ?_
        refine lv_iconst (v := nI 4) X.x X.b dU_undo_49 (by decide) ?_
        refine us_imul X dU_undo_50 ?_
        refine lv_iconst (v := nI 4) X.x X.b dU_undo_51 (by decide) ?_
        refine us_cp X Y 6 1 0 0 rfl rfl rfl rfl mB_ml_U_100 (sp := j * 4) (dp := r * 4) (n := 4) (by omega) (by omega) (by decide) (by decide) hl.1 (by decide) (by decide) dU_undo_52 (fun H locs Y => ?_)
        have Y : us_Y D A (uW ad cI ((va_cpy CB C (j * 4) (r * 4) 4)) n PN CA np CK CR CB k) s H locs := Y
        rw [e2] at Y
        exact us_vret (u := _) X Y hr hlk ((us_back1 (n := n0)).tr e5) dU_undo_55
      · exact absurd (e1.symm.trans h2) (by decide)
    · exact absurd (e1.symm.trans h1) (by decide)
  · refine lv_aload_n X.x X.b dU_undo_0 rfl (lv_at hl 0 rfl) ?_
    refine us_gU X Y 0 rfl 6 (by decide) mB_fl_U_29 rfl dU_undo_1 ?_
    refine lv_iload_n X.x X.b dU_undo_4 rfl (lv_at hl 1 rfl) ?_
    refine us_ia X Y 5 0 rfl rfl (i := j) (by omega) (by decide) dU_undo_5 ?_
    rw [e5]
    refine lv_istore_n (lv' := [(2, .int (nI r)), (0, .ref (ad 0)), (1, .int (nI j))]) X.x X.b dU_undo_6 rfl hl (by decide) rfl (fun ls hl => ?_)
    refine lv_aload_n X.x X.b dU_undo_7 rfl (lv_at hl 1 rfl) ?_
    refine us_gU X Y 0 rfl 5 (by decide) mB_fl_U_26 rfl dU_undo_8 ?_
    refine lv_iload_n X.x X.b dU_undo_11 rfl (lv_at hl 2 rfl) ?_
    refine us_ia X Y 4 0 rfl rfl (i := j) (by omega) (by decide) dU_undo_12 ?_
    refine lv_if_ne (tgt := 22) X.x X.b dU_undo_13 (by decide) (fun h1 => ?_) (fun h1 => ?_)
    · refine lv_aload_n X.x X.b dU_undo_22 rfl (lv_at hl 1 rfl) ?_
      refine us_gU X Y 0 rfl 5 (by decide) mB_fl_U_26 rfl dU_undo_23 ?_
      refine lv_iload_n X.x X.b dU_undo_26 rfl (lv_at hl 2 rfl) ?_
      refine us_ia X Y 4 0 rfl rfl (i := j) (by omega) (by decide) dU_undo_27 ?_
      refine lv_iconst (v := (2 : Int32)) X.x X.b dU_undo_28 (by decide) ?_
      refine lv_icmp_ne (tgt := 37) X.x X.b dU_undo_29 (by decide) (fun h2 => ?_) (fun h2 => ?_)
      · exact absurd e1 h2
      · refine lv_aload_n X.x X.b dU_undo_32 rfl (lv_at hl 1 rfl) ?_
        refine lv_iload_n X.x X.b dU_undo_33 rfl (lv_at hl 0 rfl) ?_
        refine us_vv (rest := []) X Y (k_U_openRow l D ad cI s.heap.size C PN CA CK CR CB n np k r (by omega) (by omega)) us_I7 0 rfl rfl cv_U_106 rfl ⟨by decide, by decide⟩ ⟨by decide, by decide⟩ hl.1 rfl (Nat.le_of_ble_eq_true rfl) dU_undo_34 (fun u H locs _ Y => ?_)
        have Y : us_Y D A (uW ad cI ((va_cpy C C (r * 4) ((r + 1) * 4) ((n - r) * 4))) (n + 1) PN CA np CK CR CB k) s H locs := Y
        refine lv_aload_n X.x X.b dU_undo_37 rfl (lv_at hl 1 rfl) ?_
        refine us_gU X Y 0 rfl 7 (by decide) mB_fl_U_32 rfl dU_undo_38 ?_
        refine lv_iload_n X.x X.b dU_undo_41 rfl (lv_at hl 2 rfl) ?_
        refine lv_iconst (v := nI 4) X.x X.b dU_undo_42 (by decide) ?_
        refine us_imul X dU_undo_43 ?_
        refine lv_aload_n X.x X.b dU_undo_44 rfl (lv_at hl 1 rfl) ?_
        refine us_gU X Y 0 rfl 0 (by decide) mB_fl_U_9 rfl dU_undo_45 ?_
        refine lv_iload_n X.x X.b dU_undo_48 rfl (lv_at hl 0 rfl) ?_
        refine lv_iconst (v := nI 4) X.x X.b dU_undo_49 (by decide) ?_
        refine us_imul X dU_undo_50 ?_
        refine lv_iconst (v := nI 4) X.x X.b dU_undo_51 (by decide) ?_
        refine us_cp X Y 6 1 0 0 rfl rfl rfl rfl mB_ml_U_100 (sp := j * 4) (dp := r * 4) (n := 4) (by omega) (by omega) (by decide) (by decide) hl.1 (by decide) (by decide) dU_undo_52 (fun H locs Y => ?_)
        have Y : us_Y D A (uW ad cI ((va_cpy CB ((va_cpy C C (r * 4) ((r + 1) * 4) ((n - r) * 4))) (j * 4) (r * 4) 4)) (n + 1) PN CA np CK CR CB k) s H locs := Y
        rw [← e2] at Y
        exact us_vret (u := _) X Y hr hlk (by rw [e2] at e6 ⊢; exact (us_open (by omega)).tr e6) dU_undo_55
    · exact absurd (e1.symm.trans h1) (by decide)
