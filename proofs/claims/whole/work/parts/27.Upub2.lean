/-! 27.Upub2 (laid by wip/whole/gen/methods_up.py): the public methods. -/
set_option maxHeartbeats 4000000 in
set_option maxRecDepth 100000 in
theorem k_U_removeAll (l : Launch) (D : va_G) (ad : Nat → Nat) (cI : ClassId) (sz : Nat) (C PN CA CK CR CB : Nat → Int32) (n np k : Nat) (T : us_T) (nm : Nat → Int32) (sn : Nat → Nat) (sT : Nat → us_T) (sk : Nat → Nat) (hU : us_U n T k np nm sn sT sk C PN CA CK CR CB) (hl9 : l.stackTraces = false) (vco vv : Int32) : us_Xi l yU_removeAll cU_removeAll 5 (some .int) 6 81 [.ref (ad 0), .int vco, .int vv] D (tyU cI) (uW ad cI C n PN CA np CK CR CB k) sz (fun r (u : us_SU) => ∃ n' T' k', us_aR n T k np vco vv 0 r n' T' k' ∧ us_us u n' T' k' np nm sn sT sk) (fun (u : us_SU) => uWS ad cI u) (fun E => (E = EIA ∧ us_aR n T k np vco vv 1 0 n T k) ∨ (E = EIS ∧ us_aR n T k np vco vv 2 0 n T k)) := by
  refine us_enterX (own := RU) rfl (by decide) (Nat.le_of_ble_eq_true rfl) ?_
  intro p e s m below meth c ls X Y hE htb hr hlk hl
  generalize va_A (uW ad cI C n PN CA np CK CR CB k) sz = A at X Y hE ⊢
  have hl : lv_has ls 5 [(0, .ref (ad 0)), (1, .int vco), (2, .int vv)] := hl
  have h1n := hU.1
  have h1p := hU.2.1
  have h1k := hU.2.2.1
  have h5 := hU.2.2.2.2.1
  refine lv_iload_n X.x X.b dU_removeAll_0 rfl (lv_at hl 1 rfl) ?_
  refine us_si (n := 1) (rest := []) X Y (k_U_isColumn l D s.heap.size vco) us_I0 mB_ml_U_56 mB_st_U_isColumn mB_ini_U mB_code_U_isColumn (by decide +kernel) rfl ⟨by decide, by decide⟩ ⟨by decide, by decide⟩ hl.1 rfl (Nat.le_of_ble_eq_true rfl) dU_removeAll_1 (fun rr H locs g1 Y => ?_)
  have Y : us_Y D A (uW ad cI C n PN CA np CK CR CB k) s H locs := Y
  rcases g1 with ⟨rfl, g1⟩ | ⟨rfl, g1⟩
  · refine us_ne1 (tgt := 15) X dU_removeAll_4 (by decide) ?_
    obtain ⟨co, hco, rfl⟩ := g1
    refine lv_aload_n X.x X.b dU_removeAll_15 rfl (lv_at hl 0 rfl) ?_
    refine lv_iload_n X.x X.b dU_removeAll_16 rfl (lv_at hl 1 rfl) ?_
    refine lv_iload_n X.x X.b dU_removeAll_17 rfl (lv_at hl 2 rfl) ?_
    refine us_vi (rest := []) X Y (k_U_countRowsWith l D ad cI H.size C PN CA CK CR CB n np k co vv h1n hco) us_I7 0 rfl rfl cv_U_73 rfl ⟨by decide, by decide⟩ ⟨by decide, by decide⟩ hl.1 rfl (Nat.le_of_ble_eq_true rfl) dU_removeAll_18 (fun rr u H locs g2 Y => ?_)
    have Y : us_Y D A (uW ad cI C n PN CA np CK CR CB k) s H locs := Y
    rw [us_ct_eq hco h5] at g2
    subst g2
    have hct := us_ct_le (T := T) (c := co) (v := vv) n
    refine lv_istore_n (lv' := [(3, .int (nI (us_ct T co vv n))), (0, .ref (ad 0)), (1, .int (nI co)), (2, .int vv)]) X.x X.b dU_removeAll_21 rfl hl (by decide) rfl (fun ls hl => ?_)
    refine lv_aload_n X.x X.b dU_removeAll_22 rfl (lv_at hl 1 rfl) ?_
    refine lv_iload_n X.x X.b dU_removeAll_23 rfl (lv_at hl 0 rfl) ?_
    refine us_vi (rest := []) X Y (k_U_hasRoomFor l D ad cI H.size C PN CA CK CR CB n np k (us_ct T co vv n) h1p h1k (by omega)) us_I7 0 rfl rfl cv_U_41 rfl ⟨by decide, by decide⟩ ⟨by decide, by decide⟩ hl.1 rfl (Nat.le_of_ble_eq_true rfl) dU_removeAll_24 (fun rr u H locs g3 Y => ?_)
    have Y : us_Y D A (uW ad cI C n PN CA np CK CR CB k) s H locs := Y
    rcases g3 with ⟨rfl, g3⟩ | ⟨rfl, g3⟩
    · refine us_ne1 (tgt := 38) X dU_removeAll_27 (by decide) ?_
      have loop : ∀ (d : Nat) (nc : Nat) (Tc : us_T) (kc : Nat) (C1 CK1 CR1 CB1 : Nat → Int32) (H : Heap) (locs : List Loc) (ls : Array Slot), d ≤ nc → us_U nc Tc kc np nm sn sT sk C1 PN CA CK1 CR1 CB1 → us_ra co vv np d (nc, Tc, kc) = us_ra co vv np n (n, T, k) → (np = 0 ∨ kc + us_ct Tc co vv d ≤ 200) → us_Y D A (uW ad cI C1 nc PN CA np CK1 CR1 CB1 kc) s H locs → lv_has ls 5 [(4, .int (nI d - 1)), (3, .int (nI (us_ct T co vv n))), (0, .ref (ad 0)), (1, .int (nI co)), (2, .int vv)] → W p l e { frames := 6, cells := 1, slots := 6, locals := 81 } s m [.ref (ad 0), .int (nI co), .int vv].toArray below meth c H locs 0 0 (us_QXi below (fun r (u : us_SU) => ∃ n' T' k', us_aR n T k np (nI co) vv 0 r n' T' k' ∧ us_us u n' T' k' np nm sn sT sk) D (tyU cI) A (uW ad cI C n PN CA np CK CR CB k) (fun (u : us_SU) => uWS ad cI u) (fun E => (E = EIA ∧ us_aR n T k np (nI co) vv 1 0 n T k) ∨ (E = EIS ∧ us_aR n T k np (nI co) vv 2 0 n T k)) [.ref (ad 0), .int (nI co), .int vv] s) (F0 m 46 ls []) := by
        intro d
        induction d with
        | zero =>
          intro nc Tc kc C1 CK1 CR1 CB1 H locs ls hd hUc hra hrm Y hl
          refine lv_iload X.x X.b dU_removeAll_46 (lv_at hl 0 rfl) ?_
          refine lv_if_lt (tgt := 74) X.x X.b dU_removeAll_48 (by decide) (fun h1 => ?_) (fun h1 => ?_)
          · refine lv_iload_n X.x X.b dU_removeAll_74 rfl (lv_at hl 1 rfl) ?_
            exact us_ireX (u := (nc, np, kc, C1, PN, CA, CK1, CR1, CB1)) X Y hr hlk (⟨nc, Tc, kc, Or.inr ⟨co, hco, rfl, Or.inr ⟨rfl, us_ful.out g3, rfl, hra⟩⟩, rfl, rfl, rfl, hUc⟩) dU_removeAll_75
          · exact absurd (by decide) h1
        | succ d ih =>
          intro nc Tc kc C1 CK1 CR1 CB1 H locs ls hd hUc hra hrm Y hl
          rw [nI_pred] at hl
          have hnc := hUc.1
          have e5 := hUc.2.2.2.2.1 d co (by omega) hco
          refine lv_iload X.x X.b dU_removeAll_46 (lv_at hl 0 rfl) ?_
          refine lv_if_lt (tgt := 74) X.x X.b dU_removeAll_48 (by decide) (fun h1 => ?_) (fun h1 => ?_)
          · exact absurd h1 (nI_pos (by omega))
          · refine lv_aload_n X.x X.b dU_removeAll_51 rfl (lv_at hl 2 rfl) ?_
            refine lv_iload X.x X.b dU_removeAll_52 (lv_at hl 0 rfl) ?_
            refine lv_iload_n X.x X.b dU_removeAll_54 rfl (lv_at hl 3 rfl) ?_
            refine lv_iload_n X.x X.b dU_removeAll_55 rfl (lv_at hl 4 rfl) ?_
            refine us_vi (rest := []) X Y (k_U_holds l D ad cI H.size C1 PN CA CK1 CR1 CB1 nc np kc d co vv (by omega) hco) us_I7 0 rfl rfl cv_U_77 rfl ⟨by decide, by decide⟩ ⟨by decide, by decide⟩ hl.1 rfl (Nat.le_of_ble_eq_true rfl) dU_removeAll_56 (fun rr u H locs g4 Y => ?_)
            have Y : us_Y D A (uW ad cI C1 nc PN CA np CK1 CR1 CB1 kc) s H locs := Y
            rcases g4 with ⟨rfl, g4⟩ | ⟨rfl, g4⟩
            · refine us_eq1 (tgt := 68) X dU_removeAll_59 (by decide) ?_
              rw [e5] at g4
              have hroom := us_room_1 hrm hco g4
              refine lv_aload_n X.x X.b dU_removeAll_62 rfl (lv_at hl 2 rfl) ?_
              refine lv_iload X.x X.b dU_removeAll_63 (lv_at hl 0 rfl) ?_
              refine us_vv (rest := []) X Y (k_U_takeOut l D ad cI H.size C1 PN CA CK1 CR1 CB1 nc np kc d hnc (by omega) h1p hroom.1) us_I7 0 rfl rfl cv_U_69 rfl ⟨by decide, by decide⟩ ⟨by decide, by decide⟩ hl.1 rfl (Nat.le_of_ble_eq_true rfl) dU_removeAll_65 (fun u H locs _ Y => ?_)
              have Y : us_Y D A (uW ad cI ((va_cpy C1 C1 ((d + 1) * 4) (d * 4) ((nc - d - 1) * 4))) (nc - 1) PN CA np ((us_ku np kc CK1 (nI 2))) ((us_ku np kc CR1 (nI d))) ((us_kc np kc C1 CB1 d)) (us_k1 np kc)) s H locs := Y
              refine lv_iinc (v := (nI d - 1)) (lv' := [(4, .int (nI d - 1)), (3, .int (nI (us_ct T co vv n))), (0, .ref (ad 0)), (1, .int (nI co)), (2, .int vv)]) X.x X.b dU_removeAll_68 hl (k := 0) rfl (us_dec _) (by decide) rfl (fun ls hl => ?_)
              refine lv_goto (tgt := 46) X.x X.b dU_removeAll_71 (by decide) ?_
              exact ih (nc - 1) (us_del Tc d) (us_k1 np kc) ((va_cpy C1 C1 ((d + 1) * 4) (d * 4) ((nc - d - 1) * 4))) ((us_ku np kc CK1 (nI 2))) ((us_ku np kc CR1 (nI d))) ((us_kc np kc C1 CB1 d)) H locs ls (by omega) (hUc.del hroom.1 (by omega)) ((us_ra_1 g4).symm.trans hra) hroom.2 Y hl
            · refine us_eq0 (tgt := 68) X dU_removeAll_59 (by decide) ?_
              rw [e5] at g4
              refine lv_iinc (v := (nI d - 1)) (lv' := [(4, .int (nI d - 1)), (3, .int (nI (us_ct T co vv n))), (0, .ref (ad 0)), (1, .int (nI co)), (2, .int vv)]) X.x X.b dU_removeAll_68 hl (k := 0) rfl (us_dec _) (by decide) rfl (fun ls hl => ?_)
              refine lv_goto (tgt := 46) X.x X.b dU_removeAll_71 (by decide) ?_
              exact ih nc Tc kc C1 CK1 CR1 CB1 H locs ls (by omega) hUc ((us_ra_0 g4).symm.trans hra) (us_room_0 hrm g4) Y hl
      refine lv_aload_n X.x X.b dU_removeAll_38 rfl (lv_at hl 1 rfl) ?_
      refine us_gU X Y 0 rfl 1 (by decide) mB_fl_U_13 rfl dU_removeAll_39 ?_
      refine lv_iconst (v := (1 : Int32)) X.x X.b dU_removeAll_42 (by decide) ?_
      refine lv_isub X.x X.b dU_removeAll_43 ?_
      refine lv_istore (lv' := [(4, .int ((nI n) - ((1 : Int32)))), (3, .int (nI (us_ct T co vv n))), (0, .ref (ad 0)), (1, .int (nI co)), (2, .int vv)]) X.x X.b dU_removeAll_44 hl (by decide) rfl (fun ls hl => ?_)
      exact loop n n T k C CK CR CB H locs ls (Nat.le_refl _) hU rfl g3 Y hl
    · refine us_ne0 (tgt := 38) X dU_removeAll_27 (by decide) ?_
      exact us_thr X Y hE hl9 htb hlk hl.1 tw_IS dU_removeAll_30 dU_removeAll_33 dU_removeAll_34 dU_removeAll_37 (by decide) (by decide) (by decide) (by decide) (Or.inr ⟨rfl, Or.inr ⟨co, hco, rfl, Or.inl ⟨rfl, us_ful.of g3, rfl, rfl, rfl⟩⟩⟩)
  · refine us_ne0 (tgt := 15) X dU_removeAll_4 (by decide) ?_
    exact us_thr X Y hE hl9 htb hlk hl.1 tw_IA dU_removeAll_7 dU_removeAll_10 dU_removeAll_11 dU_removeAll_14 (by decide) (by decide) (by decide) (by decide) (Or.inl ⟨rfl, Or.inl ⟨rfl, g1, rfl, rfl, rfl⟩⟩)
set_option maxHeartbeats 4000000 in
set_option maxRecDepth 100000 in
theorem k_U_find (l : Launch) (D : va_G) (ad : Nat → Nat) (cI : ClassId) (sz : Nat) (C PN CA CK CR CB : Nat → Int32) (n np k : Nat) (T : us_T) (nm : Nat → Int32) (sn : Nat → Nat) (sT : Nat → us_T) (sk : Nat → Nat) (hU : us_U n T k np nm sn sT sk C PN CA CK CR CB) (hl9 : l.stackTraces = false) (vco vv : Int32) : us_Xi l yU_find cU_find 3 (some .int) 6 81 [.ref (ad 0), .int vco, .int vv] D (tyU cI) (uW ad cI C n PN CA np CK CR CB k) sz (fun r (u : us_SU) => us_fR n T vco vv 0 r ∧ us_us u n T k np nm sn sT sk) (fun (u : us_SU) => uWS ad cI u) (fun E => E = EIA ∧ us_fR n T vco vv 1 0) := by
  refine us_enterX (own := RU) rfl (by decide) (Nat.le_of_ble_eq_true rfl) ?_
  intro p e s m below meth c ls X Y hE htb hr hlk hl
  generalize va_A (uW ad cI C n PN CA np CK CR CB k) sz = A at X Y hE ⊢
  have hl : lv_has ls 3 [(0, .ref (ad 0)), (1, .int vco), (2, .int vv)] := hl
  have h1n := hU.1
  have h1p := hU.2.1
  have h1k := hU.2.2.1
  have h5 := hU.2.2.2.2.1
  refine lv_iload_n X.x X.b dU_find_0 rfl (lv_at hl 1 rfl) ?_
  refine lv_if_lt (tgt := 9) X.x X.b dU_find_1 (by decide) (fun h1 => ?_) (fun h1 => ?_)
  · exact us_thr X Y hE hl9 htb hlk hl.1 tw_IA dU_find_9 dU_find_12 dU_find_13 dU_find_16 (by decide) (by decide) (by decide) (by decide) (⟨rfl, Or.inl ⟨rfl, fun ⟨c, h3, h4⟩ => nI_pos (n := c) (by omega) (h4 ▸ h1)⟩⟩)
  · refine lv_iload_n X.x X.b dU_find_4 rfl (lv_at hl 1 rfl) ?_
    refine lv_iconst (v := nI 2) X.x X.b dU_find_5 (by decide) ?_
    refine lv_icmp_lt (tgt := 17) X.x X.b dU_find_6 (by decide) (fun h2 => ?_) (fun h2 => ?_)
    · obtain ⟨co, hco, rfl⟩ := us_lt3 h1 (Int32.not_le.mpr h2)
      refine lv_aload_n X.x X.b dU_find_17 rfl (lv_at hl 0 rfl) ?_
      refine lv_iload_n X.x X.b dU_find_18 rfl (lv_at hl 1 rfl) ?_
      refine lv_iload_n X.x X.b dU_find_19 rfl (lv_at hl 2 rfl) ?_
      refine us_vi (rest := []) X Y (k_U_rowWithKey l D ad cI s.heap.size C PN CA CK CR CB n np k co vv h1n (by omega)) us_I7 0 rfl rfl cv_U_80 rfl ⟨by decide, by decide⟩ ⟨by decide, by decide⟩ hl.1 rfl (Nat.le_of_ble_eq_true rfl) dU_find_20 (fun rr u H locs g1 Y => ?_)
      have Y : us_Y D A (uW ad cI C n PN CA np CK CR CB k) s H locs := Y
      exact us_ireX (u := (n, np, k, C, PN, CA, CK, CR, CB)) X Y hr hlk (⟨Or.inr ⟨co, hco, rfl, rfl, g1.eq (by omega) h5⟩, rfl, rfl, rfl, hU⟩) dU_find_23
    · exact us_thr X Y hE hl9 htb hlk hl.1 tw_IA dU_find_9 dU_find_12 dU_find_13 dU_find_16 (by decide) (by decide) (by decide) (by decide) (⟨rfl, Or.inl ⟨rfl, fun ⟨c, h3, h4⟩ => h2 (by rw [h4]; exact nI_lt h3 (by decide))⟩⟩)
set_option maxHeartbeats 4000000 in
set_option maxRecDepth 100000 in
theorem k_U_value (l : Launch) (D : va_G) (ad : Nat → Nat) (cI : ClassId) (sz : Nat) (C PN CA CK CR CB : Nat → Int32) (n np k : Nat) (T : us_T) (nm : Nat → Int32) (sn : Nat → Nat) (sT : Nat → us_T) (sk : Nat → Nat) (hU : us_U n T k np nm sn sT sk C PN CA CK CR CB) (hl9 : l.stackTraces = false) (vr vco : Int32) : us_Xi l yU_value cU_value 3 (some .int) 6 81 [.ref (ad 0), .int vr, .int vco] D (tyU cI) (uW ad cI C n PN CA np CK CR CB k) sz (fun r (u : us_SU) => us_vR n T vr vco 0 r ∧ us_us u n T k np nm sn sT sk) (fun (u : us_SU) => uWS ad cI u) (fun E => (E = EIA ∧ us_vR n T vr vco 1 0) ∨ (E = ENS ∧ us_vR n T vr vco 2 0)) := by
  refine us_enterX (own := RU) rfl (by decide) (Nat.le_of_ble_eq_true rfl) ?_
  intro p e s m below meth c ls X Y hE htb hr hlk hl
  generalize va_A (uW ad cI C n PN CA np CK CR CB k) sz = A at X Y hE ⊢
  have hl : lv_has ls 3 [(0, .ref (ad 0)), (1, .int vr), (2, .int vco)] := hl
  have h1n := hU.1
  have h1p := hU.2.1
  have h1k := hU.2.2.1
  have h5 := hU.2.2.2.2.1
  refine lv_iload_n X.x X.b dU_value_0 rfl (lv_at hl 2 rfl) ?_
  refine us_si (n := 1) (rest := []) X Y (k_U_isColumn l D s.heap.size vco) us_I0 mB_ml_U_56 mB_st_U_isColumn mB_ini_U mB_code_U_isColumn (by decide +kernel) rfl ⟨by decide, by decide⟩ ⟨by decide, by decide⟩ hl.1 rfl (Nat.le_of_ble_eq_true rfl) dU_value_1 (fun rr H locs g1 Y => ?_)
  have Y : us_Y D A (uW ad cI C n PN CA np CK CR CB k) s H locs := Y
  rcases g1 with ⟨rfl, g1⟩ | ⟨rfl, g1⟩
  · refine us_ne1 (tgt := 15) X dU_value_4 (by decide) ?_
    obtain ⟨co, hco, rfl⟩ := g1
    refine lv_aload_n X.x X.b dU_value_15 rfl (lv_at hl 0 rfl) ?_
    refine lv_iload_n X.x X.b dU_value_16 rfl (lv_at hl 1 rfl) ?_
    refine us_vi (rest := []) X Y (k_U_isRow l D ad cI H.size C PN CA CK CR CB n np k vr h1n) us_I7 0 rfl rfl cv_U_59 rfl ⟨by decide, by decide⟩ ⟨by decide, by decide⟩ hl.1 rfl (Nat.le_of_ble_eq_true rfl) dU_value_17 (fun rr u H locs g2 Y => ?_)
    have Y : us_Y D A (uW ad cI C n PN CA np CK CR CB k) s H locs := Y
    rcases g2 with ⟨rfl, g2⟩ | ⟨rfl, g2⟩
    · refine us_eq1 (tgt := 32) X dU_value_20 (by decide) ?_
      obtain ⟨ir, hir, rfl⟩ := g2
      refine lv_aload_n X.x X.b dU_value_23 rfl (lv_at hl 0 rfl) ?_
      refine lv_iload_n X.x X.b dU_value_24 rfl (lv_at hl 1 rfl) ?_
      refine lv_iload_n X.x X.b dU_value_25 rfl (lv_at hl 2 rfl) ?_
      refine us_vi (rest := []) X Y (k_U_isNone l D ad cI H.size C PN CA CK CR CB n np k ir co (by omega) hco) us_I7 0 rfl rfl cv_U_83 rfl ⟨by decide, by decide⟩ ⟨by decide, by decide⟩ hl.1 rfl (Nat.le_of_ble_eq_true rfl) dU_value_26 (fun rr u H locs g3 Y => ?_)
      have Y : us_Y D A (uW ad cI C n PN CA np CK CR CB k) s H locs := Y
      rcases g3 with ⟨rfl, g3⟩ | ⟨rfl, g3⟩
      · refine us_eq1 (tgt := 40) X dU_value_29 (by decide) ?_
        exact us_thr X Y hE hl9 htb hlk hl.1 tw_NS dU_value_32 dU_value_35 dU_value_36 dU_value_39 (by decide) (by decide) (by decide) (by decide) (Or.inr ⟨rfl, Or.inr ⟨co, hco, rfl, Or.inl ⟨rfl, fun ⟨i, h3, h4, h6⟩ => h6 (by rw [← us_nI (by omega) (by omega) h4, ← h5 ir co hir hco]; exact g3)⟩⟩⟩)
      · refine us_eq0 (tgt := 40) X dU_value_29 (by decide) ?_
        refine lv_aload_n X.x X.b dU_value_40 rfl (lv_at hl 0 rfl) ?_
        refine us_gU X Y 0 rfl 0 (by decide) mB_fl_U_9 rfl dU_value_41 ?_
        refine lv_iload_n X.x X.b dU_value_44 rfl (lv_at hl 1 rfl) ?_
        refine lv_iconst (v := nI 4) X.x X.b dU_value_45 (by decide) ?_
        refine us_imul X dU_value_46 ?_
        refine lv_iload_n X.x X.b dU_value_47 rfl (lv_at hl 2 rfl) ?_
        refine us_iadd X dU_value_48 ?_
        refine us_ia X Y 1 0 rfl rfl (i := (ir * 4) + co) (by omega) (by decide) dU_value_49 ?_
        exact us_ireX (u := (n, np, k, C, PN, CA, CK, CR, CB)) X Y hr hlk (⟨Or.inr ⟨co, hco, rfl, Or.inr ⟨ir, hir, rfl, (h5 ir co hir hco).symm.trans (us_tu_some g3), rfl⟩⟩, rfl, rfl, rfl, hU⟩) dU_value_50
    · refine us_eq0 (tgt := 32) X dU_value_20 (by decide) ?_
      exact us_thr X Y hE hl9 htb hlk hl.1 tw_NS dU_value_32 dU_value_35 dU_value_36 dU_value_39 (by decide) (by decide) (by decide) (by decide) (Or.inr ⟨rfl, Or.inr ⟨co, hco, rfl, Or.inl ⟨rfl, fun ⟨i, h3, h4, _⟩ => g2 ⟨i, h3, h4⟩⟩⟩⟩)
  · refine us_ne0 (tgt := 15) X dU_value_4 (by decide) ?_
    exact us_thr X Y hE hl9 htb hlk hl.1 tw_IA dU_value_7 dU_value_10 dU_value_11 dU_value_14 (by decide) (by decide) (by decide) (by decide) (Or.inl ⟨rfl, Or.inl ⟨rfl, g1⟩⟩)
set_option maxHeartbeats 4000000 in
set_option maxRecDepth 100000 in
theorem k_U_mark (l : Launch) (D : va_G) (ad : Nat → Nat) (cI : ClassId) (sz : Nat) (C PN CA CK CR CB : Nat → Int32) (n np k : Nat) (T : us_T) (nm : Nat → Int32) (sn : Nat → Nat) (sT : Nat → us_T) (sk : Nat → Nat) (hU : us_U n T k np nm sn sT sk C PN CA CK CR CB) (hl9 : l.stackTraces = false) (x : Int32) : us_Xv l yU_mark cU_mark 2 6 81 [.ref (ad 0), .int x] D (tyU cI) (uW ad cI C n PN CA np CK CR CB k) sz (fun (u : us_SU) => ∃ np' nm' sn' sT' sk', us_mR n T k np nm sn sT sk x 0 np' nm' sn' sT' sk' ∧ us_us u n T k np' nm' sn' sT' sk') (fun (u : us_SU) => uWS ad cI u) (fun E => E = EIS ∧ us_mR n T k np nm sn sT sk x 1 np nm sn sT sk) := by
  refine us_enterX (own := RU) rfl (by decide) (Nat.le_of_ble_eq_true rfl) ?_
  intro p e s m below meth c ls X Y hE htb hr hlk hl
  generalize va_A (uW ad cI C n PN CA np CK CR CB k) sz = A at X Y hE ⊢
  have hl : lv_has ls 2 [(0, .ref (ad 0)), (1, .int x)] := hl
  have h1n := hU.1
  have h1p := hU.2.1
  have h1k := hU.2.2.1
  have h5 := hU.2.2.2.2.1
  refine lv_aload_n X.x X.b dU_mark_0 rfl (lv_at hl 0 rfl) ?_
  refine us_gU X Y 0 rfl 4 (by decide) mB_fl_U_23 rfl dU_mark_1 ?_
  refine lv_bipush (v := nI 20) X.x X.b dU_mark_4 (by decide) ?_
  refine us_clt (tgt := 17) X (by omega) (by omega) dU_mark_6 (by decide) (fun h1 => ?_) (fun h1 => ?_)
  · refine lv_aload_n X.x X.b dU_mark_17 rfl (lv_at hl 0 rfl) ?_
    refine us_gU X Y 0 rfl 2 (by decide) mB_fl_U_17 rfl dU_mark_18 ?_
    refine lv_aload_n X.x X.b dU_mark_21 rfl (lv_at hl 0 rfl) ?_
    refine us_gU X Y 0 rfl 4 (by decide) mB_fl_U_23 rfl dU_mark_22 ?_
    refine lv_iload_n X.x X.b dU_mark_25 rfl (lv_at hl 1 rfl) ?_
    refine us_is X Y 2 0 rfl rfl (i := np) (by omega) (by decide) dU_mark_26 (fun H locs Y => ?_)
    have Y : us_Y D A (uW ad cI C n ((upd PN np x)) CA np CK CR CB k) s H locs := Y
    refine lv_aload_n X.x X.b dU_mark_27 rfl (lv_at hl 0 rfl) ?_
    refine us_gU X Y 0 rfl 3 (by decide) mB_fl_U_20 rfl dU_mark_28 ?_
    refine lv_aload_n X.x X.b dU_mark_31 rfl (lv_at hl 0 rfl) ?_
    refine us_gU X Y 0 rfl 4 (by decide) mB_fl_U_23 rfl dU_mark_32 ?_
    refine lv_aload_n X.x X.b dU_mark_35 rfl (lv_at hl 0 rfl) ?_
    refine us_gU X Y 0 rfl 8 (by decide) mB_fl_U_35 rfl dU_mark_36 ?_
    refine us_is X Y 3 0 rfl rfl (i := np) (by omega) (by decide) dU_mark_39 (fun H locs Y => ?_)
    have Y : us_Y D A (uW ad cI C n ((upd PN np x)) ((upd CA np (nI k))) np CK CR CB k) s H locs := Y
    refine lv_aload_n X.x X.b dU_mark_40 rfl (lv_at hl 0 rfl) ?_
    refine lv_dup X.x X.b dU_mark_41 rfl ?_
    refine us_gU X Y 0 rfl 4 (by decide) mB_fl_U_23 rfl dU_mark_42 ?_
    refine lv_iconst (v := nI 1) X.x X.b dU_mark_45 (by decide) ?_
    refine us_iadd X dU_mark_46 ?_
    refine us_pU X Y 0 rfl 4 (by decide) mB_fl_U_23 rfl rfl rfl (Nat.le_of_ble_eq_true rfl) dU_mark_47 (fun H locs Y => ?_)
    have Y : us_Y D A (uW ad cI C n ((upd PN np x)) ((upd CA np (nI k))) (np + 1) CK CR CB k) s H locs := Y
    exact us_vreX (u := (n, (np + 1), k, C, ((upd PN np x)), ((upd CA np (nI k))), CK, CR, CB)) X Y hr hlk (⟨np + 1, _, _, _, _, Or.inr ⟨rfl, by omega, rfl, rfl, rfl, rfl, rfl⟩, rfl, rfl, rfl, hU.mark h1 x⟩) dU_mark_50
  · exact us_thr X Y hE hl9 htb hlk hl.1 tw_IS dU_mark_9 dU_mark_12 dU_mark_13 dU_mark_16 (by decide) (by decide) (by decide) (by decide) (⟨rfl, Or.inl ⟨rfl, by omega, rfl, rfl, rfl, rfl, rfl⟩⟩)
set_option maxHeartbeats 4000000 in
set_option maxRecDepth 100000 in
theorem k_U_back (l : Launch) (D : va_G) (ad : Nat → Nat) (cI : ClassId) (sz : Nat) (C PN CA CK CR CB : Nat → Int32) (n np k : Nat) (T : us_T) (nm : Nat → Int32) (sn : Nat → Nat) (sT : Nat → us_T) (sk : Nat → Nat) (hU : us_U n T k np nm sn sT sk C PN CA CK CR CB) (hl9 : l.stackTraces = false) (x : Int32) : us_Xv l yU_back cU_back 5 6 81 [.ref (ad 0), .int x] D (tyU cI) (uW ad cI C n PN CA np CK CR CB k) sz (fun (u : us_SU) => ∃ n' T' k' np', us_bR n T k np nm sn sT sk x 0 n' T' k' np' ∧ us_us u n' T' k' np' nm sn sT sk) (fun (u : us_SU) => uWS ad cI u) (fun E => E = ENS ∧ us_bR n T k np nm sn sT sk x 1 n T k np) := by
  refine us_enterX (own := RU) rfl (by decide) (Nat.le_of_ble_eq_true rfl) ?_
  intro p e s m below meth c ls X Y hE htb hr hlk hl
  generalize va_A (uW ad cI C n PN CA np CK CR CB k) sz = A at X Y hE ⊢
  have hl : lv_has ls 5 [(0, .ref (ad 0)), (1, .int x)] := hl
  have h1n := hU.1
  have h1p := hU.2.1
  have h1k := hU.2.2.1
  have h5 := hU.2.2.2.2.1
  have hnm : ∀ q, q < np → PN q = nm q := fun q hq => (hU.2.2.2.2.2.1 q hq).1
  obtain ⟨hn, hT, eh1, eh2, hlog, hs⟩ := hU.2.2.2.2.2.2.2
  refine lv_aload_n X.x X.b dU_back_0 rfl (lv_at hl 0 rfl) ?_
  refine lv_iload_n X.x X.b dU_back_1 rfl (lv_at hl 1 rfl) ?_
  refine us_vi (rest := []) X Y (k_U_latestPoint l D ad cI s.heap.size C PN CA CK CR CB n np k x h1p) us_I7 0 rfl rfl cv_U_87 rfl ⟨by decide, by decide⟩ ⟨by decide, by decide⟩ hl.1 rfl (Nat.le_of_ble_eq_true rfl) dU_back_2 (fun rr u H locs g1 Y => ?_)
  have Y : us_Y D A (uW ad cI C n PN CA np CK CR CB k) s H locs := Y
  rcases g1.eq hnm with ⟨pt, hp, rfl, hp2, hp3⟩ | ⟨rfl, hno⟩
  · refine lv_istore_n (lv' := [(2, .int (nI pt)), (0, .ref (ad 0)), (1, .int x)]) X.x X.b dU_back_5 rfl hl (by decide) rfl (fun ls hl => ?_)
    refine lv_iload_n X.x X.b dU_back_6 rfl (lv_at hl 0 rfl) ?_
    refine lv_if_ge (tgt := 18) X.x X.b dU_back_7 (by decide) (fun h1 => ?_) (fun h1 => ?_)
    · obtain ⟨-, eCA, hsk⟩ := hU.2.2.2.2.2.1 pt hp
      refine lv_aload_n X.x X.b dU_back_18 rfl (lv_at hl 1 rfl) ?_
      refine us_gU X Y 0 rfl 3 (by decide) mB_fl_U_20 rfl dU_back_19 ?_
      refine lv_iload_n X.x X.b dU_back_22 rfl (lv_at hl 0 rfl) ?_
      refine us_ia X Y 3 0 rfl rfl (i := pt) (by omega) (by decide) dU_back_23 ?_
      rw [eCA]
      have loop : ∀ (j : Nat) (C1 : Nat → Int32) (H : Heap) (locs : List Loc) (ls : Array Slot), sk pt + j ≤ k → us_eq (hn (sk pt + j)) (us_tu C1) (hT (sk pt + j)) → us_Y D A (uW ad cI C1 (hn (sk pt + j)) PN CA np CK CR CB k) s H locs → lv_has ls 5 [(4, .int (nI (sk pt + j) - 1)), (3, .int (nI (sk pt))), (2, .int (nI pt)), (0, .ref (ad 0)), (1, .int x)] → W p l e { frames := 6, cells := 1, slots := 6, locals := 81 } s m [.ref (ad 0), .int x].toArray below meth c H locs 0 0 (us_QXv below (fun (u : us_SU) => ∃ n' T' k' np', us_bR n T k np nm sn sT sk x 0 n' T' k' np' ∧ us_us u n' T' k' np' nm sn sT sk) D (tyU cI) A (uW ad cI C n PN CA np CK CR CB k) (fun (u : us_SU) => uWS ad cI u) (fun E => E = ENS ∧ us_bR n T k np nm sn sT sk x 1 n T k np) [.ref (ad 0), .int x] s) (F0 m 33 ls []) := by
        intro j
        induction j with
        | zero =>
          intro C1 H locs ls hj hq Y hl
          rw [Nat.add_zero] at hq Y hl
          refine lv_iload X.x X.b dU_back_33 (lv_at hl 0 rfl) ?_
          refine lv_iload_n X.x X.b dU_back_35 rfl (lv_at hl 1 rfl) ?_
          refine lv_icmp_lt (tgt := 51) X.x X.b dU_back_36 (by decide) (fun h2 => ?_) (fun h2 => ?_)
          · refine lv_aload_n X.x X.b dU_back_51 rfl (lv_at hl 3 rfl) ?_
            refine lv_iload_n X.x X.b dU_back_52 rfl (lv_at hl 1 rfl) ?_
            refine us_pU X Y 0 rfl 8 (by decide) mB_fl_U_35 rfl rfl rfl (Nat.le_of_ble_eq_true rfl) dU_back_53 (fun H locs Y => ?_)
            have Y : us_Y D A (uW ad cI C1 (hn (sk pt)) PN CA np CK CR CB (sk pt)) s H locs := Y
            refine lv_aload_n X.x X.b dU_back_56 rfl (lv_at hl 3 rfl) ?_
            refine lv_iload_n X.x X.b dU_back_57 rfl (lv_at hl 2 rfl) ?_
            refine lv_iconst (v := nI 1) X.x X.b dU_back_58 (by decide) ?_
            refine us_iadd X dU_back_59 ?_
            refine us_pU X Y 0 rfl 4 (by decide) mB_fl_U_23 rfl rfl rfl (Nat.le_of_ble_eq_true rfl) dU_back_60 (fun H locs Y => ?_)
            have Y : us_Y D A (uW ad cI C1 (hn (sk pt)) PN CA (pt + 1) CK CR CB (sk pt)) s H locs := Y
            have e6 := (hs pt hp).1
            rw [← e6] at Y hq
            exact us_vreX (u := ((sn pt), (pt + 1), (sk pt), C1, PN, CA, CK, CR, CB)) X Y hr hlk (⟨sn pt, _, _, _, Or.inr ⟨pt, ⟨hp, hp2, hp3⟩, rfl, rfl, rfl, rfl, rfl⟩, rfl, rfl, rfl, hU.back hp (hq.tr (hs pt hp).2.sy)⟩) dU_back_63
          · exact absurd (us_plt (by omega)) h2
        | succ j ih =>
          intro C1 H locs ls hj hq Y hl
          rw [← Nat.add_assoc] at hq Y hl
          rw [nI_pred] at hl
          have hb1 : hn (sk pt + j + 1) ≤ 120 := us_log.le hlog (by rw [eh1]; exact h1n) (k - (sk pt + j + 1)) (sk pt + j + 1) (by omega)
          have hun := (hlog (sk pt + j) (by omega)).eq (fun _ _ => rfl) hq.sy
          refine lv_iload X.x X.b dU_back_33 (lv_at hl 0 rfl) ?_
          refine lv_iload_n X.x X.b dU_back_35 rfl (lv_at hl 1 rfl) ?_
          refine us_clt (tgt := 51) X (by omega) (by omega) dU_back_36 (by decide) (fun h2 => ?_) (fun h2 => ?_)
          · exact absurd h2 (by omega)
          · refine lv_aload_n X.x X.b dU_back_39 rfl (lv_at hl 3 rfl) ?_
            refine lv_iload X.x X.b dU_back_40 (lv_at hl 0 rfl) ?_
            refine us_vv (rest := []) X Y (k_U_undo l D ad cI H.size C1 PN CA CK CR CB (hn (sk pt + j + 1)) np k (sk pt + j) (hn (sk pt + j)) (hT (sk pt + j)) (by omega) hb1 hun) us_I7 0 rfl rfl cv_U_91 rfl ⟨by decide, by decide⟩ ⟨by decide, by decide⟩ hl.1 rfl (Nat.le_of_ble_eq_true rfl) dU_back_42 (fun C2 H locs hq Y => ?_)
            have Y : us_Y D A (uW ad cI C2 (hn (sk pt + j)) PN CA np CK CR CB k) s H locs := Y
            refine lv_iinc (v := (nI (sk pt + j) - 1)) (lv' := [(4, .int (nI (sk pt + j) - 1)), (3, .int (nI (sk pt))), (2, .int (nI pt)), (0, .ref (ad 0)), (1, .int x)]) X.x X.b dU_back_45 hl (k := 0) rfl (us_dec _) (by decide) rfl (fun ls hl => ?_)
            refine lv_goto (tgt := 33) X.x X.b dU_back_48 (by decide) ?_
            exact ih C2 H locs ls (by omega) hq Y hl
      refine lv_istore_n (lv' := [(3, .int (nI (sk pt))), (2, .int (nI pt)), (0, .ref (ad 0)), (1, .int x)]) X.x X.b dU_back_24 rfl hl (by decide) rfl (fun ls hl => ?_)
      refine lv_aload_n X.x X.b dU_back_25 rfl (lv_at hl 2 rfl) ?_
      refine us_gU X Y 0 rfl 8 (by decide) mB_fl_U_35 rfl dU_back_26 ?_
      refine lv_iconst (v := (1 : Int32)) X.x X.b dU_back_29 (by decide) ?_
      refine lv_isub X.x X.b dU_back_30 ?_
      refine lv_istore (lv' := [(4, .int ((nI k) - ((1 : Int32)))), (3, .int (nI (sk pt))), (2, .int (nI pt)), (0, .ref (ad 0)), (1, .int x)]) X.x X.b dU_back_31 hl (by decide) rfl (fun ls hl => ?_)
      have ek : sk pt + (k - sk pt) = k := by omega
      refine loop (k - sk pt) C H locs ls (by omega) ?_ ?_ ?_
      · rw [ek, eh1]; exact h5.tr eh2
      · rw [ek, eh1]; exact Y
      · rw [ek]; exact hl
    · exact absurd (nI_pos' (by omega)) h1
  · refine lv_istore_n (lv' := [(2, .int ((-1 : Int32))), (0, .ref (ad 0)), (1, .int x)]) X.x X.b dU_back_5 rfl hl (by decide) rfl (fun ls hl => ?_)
    refine lv_iload_n X.x X.b dU_back_6 rfl (lv_at hl 0 rfl) ?_
    refine lv_if_ge (tgt := 18) X.x X.b dU_back_7 (by decide) (fun h1 => ?_) (fun h1 => ?_)
    · exact absurd h1 (by decide)
    · exact us_thr X Y hE hl9 htb hlk hl.1 tw_NS dU_back_10 dU_back_13 dU_back_14 dU_back_17 (by decide) (by decide) (by decide) (by decide) (⟨rfl, Or.inl ⟨rfl, hno, rfl, rfl, rfl, rfl⟩⟩)
set_option maxHeartbeats 4000000 in
set_option maxRecDepth 100000 in
theorem k_U_release (l : Launch) (D : va_G) (ad : Nat → Nat) (cI : ClassId) (sz : Nat) (C PN CA CK CR CB : Nat → Int32) (n np k : Nat) (T : us_T) (nm : Nat → Int32) (sn : Nat → Nat) (sT : Nat → us_T) (sk : Nat → Nat) (hU : us_U n T k np nm sn sT sk C PN CA CK CR CB) (hl9 : l.stackTraces = false) (x : Int32) : us_Xv l yU_release cU_release 3 6 81 [.ref (ad 0), .int x] D (tyU cI) (uW ad cI C n PN CA np CK CR CB k) sz (fun (u : us_SU) => ∃ k' np', us_lR k np nm x 0 k' np' ∧ us_us u n T k' np' nm sn sT sk) (fun (u : us_SU) => uWS ad cI u) (fun E => E = ENS ∧ us_lR k np nm x 1 k np) := by
  refine us_enterX (own := RU) rfl (by decide) (Nat.le_of_ble_eq_true rfl) ?_
  intro p e s m below meth c ls X Y hE htb hr hlk hl
  generalize va_A (uW ad cI C n PN CA np CK CR CB k) sz = A at X Y hE ⊢
  have hl : lv_has ls 3 [(0, .ref (ad 0)), (1, .int x)] := hl
  have h1n := hU.1
  have h1p := hU.2.1
  have h1k := hU.2.2.1
  have h5 := hU.2.2.2.2.1
  have hnm : ∀ q, q < np → PN q = nm q := fun q hq => (hU.2.2.2.2.2.1 q hq).1
  refine lv_aload_n X.x X.b dU_release_0 rfl (lv_at hl 0 rfl) ?_
  refine lv_iload_n X.x X.b dU_release_1 rfl (lv_at hl 1 rfl) ?_
  refine us_vi (rest := []) X Y (k_U_latestPoint l D ad cI s.heap.size C PN CA CK CR CB n np k x h1p) us_I7 0 rfl rfl cv_U_87 rfl ⟨by decide, by decide⟩ ⟨by decide, by decide⟩ hl.1 rfl (Nat.le_of_ble_eq_true rfl) dU_release_2 (fun rr u H locs g1 Y => ?_)
  have Y : us_Y D A (uW ad cI C n PN CA np CK CR CB k) s H locs := Y
  rcases g1.eq hnm with ⟨pt, hp, rfl, hp2, hp3⟩ | ⟨rfl, hno⟩
  · refine lv_istore_n (lv' := [(2, .int (nI pt)), (0, .ref (ad 0)), (1, .int x)]) X.x X.b dU_release_5 rfl hl (by decide) rfl (fun ls hl => ?_)
    refine lv_iload_n X.x X.b dU_release_6 rfl (lv_at hl 0 rfl) ?_
    refine lv_if_ge (tgt := 18) X.x X.b dU_release_7 (by decide) (fun h1 => ?_) (fun h1 => ?_)
    · refine lv_aload_n X.x X.b dU_release_18 rfl (lv_at hl 1 rfl) ?_
      refine lv_iload_n X.x X.b dU_release_19 rfl (lv_at hl 0 rfl) ?_
      refine us_pU X Y 0 rfl 4 (by decide) mB_fl_U_23 rfl rfl rfl (Nat.le_of_ble_eq_true rfl) dU_release_20 (fun H locs Y => ?_)
      have Y : us_Y D A (uW ad cI C n PN CA pt CK CR CB k) s H locs := Y
      refine lv_aload_n X.x X.b dU_release_23 rfl (lv_at hl 1 rfl) ?_
      refine us_gU X Y 0 rfl 4 (by decide) mB_fl_U_23 rfl dU_release_24 ?_
      refine us_zne (tgt := 35) X (by omega) dU_release_27 (by decide) (fun h2 => ?_) (fun h2 => ?_)
      · exact us_vreX (u := (n, pt, k, C, PN, CA, CK, CR, CB)) X Y hr hlk (⟨_, pt, Or.inr ⟨pt, ⟨hp, hp2, hp3⟩, rfl, rfl, rfl⟩, rfl, rfl, (if_neg (by omega)).symm, hU.rel hp⟩) dU_release_35
      · refine lv_aload_n X.x X.b dU_release_30 rfl (lv_at hl 1 rfl) ?_
        refine lv_iconst (v := nI 0) X.x X.b dU_release_31 (by decide) ?_
        refine us_pU X Y 0 rfl 8 (by decide) mB_fl_U_35 rfl rfl rfl (Nat.le_of_ble_eq_true rfl) dU_release_32 (fun H locs Y => ?_)
        have Y : us_Y D A (uW ad cI C n PN CA pt CK CR CB 0) s H locs := Y
        exact us_vreX (u := (n, pt, 0, C, PN, CA, CK, CR, CB)) X Y hr hlk (⟨_, pt, Or.inr ⟨pt, ⟨hp, hp2, hp3⟩, rfl, rfl, rfl⟩, rfl, rfl, (if_pos h2).symm, hU.rel hp⟩) dU_release_35
    · exact absurd (nI_pos' (by omega)) h1
  · refine lv_istore_n (lv' := [(2, .int ((-1 : Int32))), (0, .ref (ad 0)), (1, .int x)]) X.x X.b dU_release_5 rfl hl (by decide) rfl (fun ls hl => ?_)
    refine lv_iload_n X.x X.b dU_release_6 rfl (lv_at hl 0 rfl) ?_
    refine lv_if_ge (tgt := 18) X.x X.b dU_release_7 (by decide) (fun h1 => ?_) (fun h1 => ?_)
    · exact absurd h1 (by decide)
    · exact us_thr X Y hE hl9 htb hlk hl.1 tw_NS dU_release_10 dU_release_13 dU_release_14 dU_release_17 (by decide) (by decide) (by decide) (by decide) (⟨rfl, Or.inl ⟨rfl, hno, rfl, rfl⟩⟩)
set_option maxHeartbeats 4000000 in
set_option maxRecDepth 100000 in
theorem k_U_count (l : Launch) (D : va_G) (ad : Nat → Nat) (cI : ClassId) (sz : Nat) (C PN CA CK CR CB : Nat → Int32) (n np k : Nat) (T : us_T) (x : Int32) (hn : n ≤ 120) (h5 : us_eq n (us_tu C) T) : us_Ci l yU_count cU_count 2 (some .int) 2 45 [.ref (ad 0), .int x] D (tyU cI) (uW ad cI C n PN CA np CK CR CB k) sz (fun r (_ : Unit) => r = us_cnt n T k np x) (fun _ => uW ad cI C n PN CA np CK CR CB k) := by
  refine us_enter (own := RU) rfl (by decide) (Nat.le_of_ble_eq_true rfl) ?_
  intro p e s m below meth c ls X Y hr hlk hl
  generalize va_A (uW ad cI C n PN CA np CK CR CB k) sz = A at X Y ⊢
  have hl : lv_has ls 2 [(0, .ref (ad 0)), (1, .int x)] := hl
  refine lv_iload_n X.x X.b dU_count_0 rfl (lv_at hl 1 rfl) ?_
  rcases us_c5 x with rfl | rfl | rfl | rfl | rfl | h1
  · refine lv_tableIn (x := nI 0) (off := 35) (tgt := 36) X.x X.b dU_count_1 (by decide) (by decide) (by decide) (by decide) ?_
    refine lv_aload_n X.x X.b dU_count_36 rfl (lv_at hl 0 rfl) ?_
    refine us_gU X Y 0 rfl 1 (by decide) mB_fl_U_13 rfl dU_count_37 ?_
    exact us_iret (u := ()) X Y hr hlk ((us_cnt_0 n T k np).symm) dU_count_40
  · refine lv_tableIn (x := nI 1) (off := 40) (tgt := 41) X.x X.b dU_count_1 (by decide) (by decide) (by decide) (by decide) ?_
    refine lv_aload_n X.x X.b dU_count_41 rfl (lv_at hl 0 rfl) ?_
    refine us_gU X Y 0 rfl 4 (by decide) mB_fl_U_23 rfl dU_count_42 ?_
    exact us_iret (u := ()) X Y hr hlk ((us_cnt_1 n T k np).symm) dU_count_45
  · refine lv_tableIn (x := nI 2) (off := 45) (tgt := 46) X.x X.b dU_count_1 (by decide) (by decide) (by decide) (by decide) ?_
    refine lv_aload_n X.x X.b dU_count_46 rfl (lv_at hl 0 rfl) ?_
    refine us_gU X Y 0 rfl 8 (by decide) mB_fl_U_35 rfl dU_count_47 ?_
    exact us_iret (u := ()) X Y hr hlk ((us_cnt_2 n T k np).symm) dU_count_50
  · refine lv_tableIn (x := nI 3) (off := 50) (tgt := 51) X.x X.b dU_count_1 (by decide) (by decide) (by decide) (by decide) ?_
    refine lv_aload_n X.x X.b dU_count_51 rfl (lv_at hl 0 rfl) ?_
    refine lv_iconst (v := nI 1) X.x X.b dU_count_52 (by decide) ?_
    refine us_vi (rest := []) X Y (k_U_countNone l D ad cI s.heap.size C PN CA CK CR CB n np k 1 hn (by decide)) us_I7 0 rfl rfl cv_U_94 rfl ⟨by decide, by decide⟩ ⟨by decide, by decide⟩ hl.1 rfl (Nat.le_of_ble_eq_true rfl) dU_count_53 (fun rr u H locs g1 Y => ?_)
    have Y : us_Y D A (uW ad cI C n PN CA np CK CR CB k) s H locs := Y
    exact us_iret (u := ()) X Y hr hlk (by rw [g1, us_cn_eq (by decide) h5]; exact (us_cnt_3 n T k np).symm) dU_count_56
  · refine lv_tableIn (x := nI 4) (off := 56) (tgt := 57) X.x X.b dU_count_1 (by decide) (by decide) (by decide) (by decide) ?_
    refine lv_aload_n X.x X.b dU_count_57 rfl (lv_at hl 0 rfl) ?_
    refine lv_iconst (v := nI 2) X.x X.b dU_count_58 (by decide) ?_
    refine us_vi (rest := []) X Y (k_U_countNone l D ad cI s.heap.size C PN CA CK CR CB n np k 2 hn (by decide)) us_I7 0 rfl rfl cv_U_94 rfl ⟨by decide, by decide⟩ ⟨by decide, by decide⟩ hl.1 rfl (Nat.le_of_ble_eq_true rfl) dU_count_59 (fun rr u H locs g1 Y => ?_)
    have Y : us_Y D A (uW ad cI C n PN CA np CK CR CB k) s H locs := Y
    exact us_iret (u := ()) X Y hr hlk (by rw [g1, us_cn_eq (by decide) h5]; exact (us_cnt_4 n T k np).symm) dU_count_62
  · refine lv_tableOut (tgt := 63) X.x X.b dU_count_1 h1 (by decide) ?_
    refine lv_iconst (v := (-1 : Int32)) X.x X.b dU_count_63 (by decide) ?_
    exact us_iret (u := ()) X Y hr hlk ((us_cnt_o h1).symm) dU_count_64
