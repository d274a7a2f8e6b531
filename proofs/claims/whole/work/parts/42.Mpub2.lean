/-! 42.Mpub2 (laid by wip/whole/gen/methods_m.py): the reference, the other calls. -/
set_option maxHeartbeats 4000000 in
set_option maxRecDepth 100000 in
theorem k_M_remove (l : Launch) (D : va_G) (ad : Nat → Nat) (cI cZ : ClassId) (sz : Nat) (th : Int32) (n np k : Nat) (V KV I KI PN KR KC : Nat → Int32) (T : us_T) (nm : Nat → Int32) (sn : Nat → Nat) (sT : Nat → us_T) (sk : Nat → Nat) (hM : us_M n T k np nm sn sT sk V KV I KI PN KR KC) (vr : Int32) : us_Cv l yM_remove cM_remove 2 2 42 [.ref (ad 0), .int vr] D (tyM cI cZ) (mW ad cI cZ th n np k V KV I KI PN KR KC) sz (fun (u : us_SM) => ∃ cd n' T' k', us_rR n T k np vr cd n' T' k' ∧ us_ms u (nI cd) n' T' k' np nm sn sT sk) (fun (u : us_SM) => mWS ad cI cZ u) := by
  refine us_enter (own := RM) rfl (by decide) (Nat.le_of_ble_eq_true rfl) ?_
  intro p e s m below meth c ls X Y hr hlk hl
  generalize va_A (mW ad cI cZ th n np k V KV I KI PN KR KC) sz = A at X Y ⊢
  have hl : lv_has ls 2 [(0, .ref (ad 0)), (1, .int vr)] := hl
  have h1n := hM.1
  have h1p := hM.2.1
  have h1k := hM.2.2.1
  have h4 := hM.2.2.2.1
  have hI := hM.2.2.2.2.1
  have hKI := hM.2.2.2.2.2.1
  refine lv_aload_n X.x X.b dM_remove_0 rfl (lv_at hl 0 rfl) ?_
  refine lv_aload_n X.x X.b dM_remove_1 rfl (lv_at hl 0 rfl) ?_
  refine lv_iload_n X.x X.b dM_remove_2 rfl (lv_at hl 1 rfl) ?_
  refine us_vi (rest := [.ref (ad 0)]) X Y (k_M_isRow l D ad cI cZ s.heap.size th n np k V KV I KI PN KR KC vr h1n) us_I8 0 rfl rfl cv_M_60 rfl ⟨by decide, by decide⟩ ⟨by decide, by decide⟩ hl.1 rfl (Nat.le_of_ble_eq_true rfl) dM_remove_3 (fun rr u H locs g1 Y => ?_)
  have Y : us_Y D A (mW ad cI cZ th n np k V KV I KI PN KR KC) s H locs := Y
  rcases g1 with ⟨rfl, g1⟩ | ⟨rfl, g1⟩
  · refine us_ne1 (tgt := 13) X dM_remove_6 (by decide) ?_
    obtain ⟨ir, hir, rfl⟩ := g1
    refine lv_aload_n X.x X.b dM_remove_13 rfl (lv_at hl 0 rfl) ?_
    refine lv_iconst (v := nI 1) X.x X.b dM_remove_14 (by decide) ?_
    refine us_vi (rest := [.ref (ad 0)]) X Y (k_M_isFull l D ad cI cZ H.size th n np k V KV I KI PN KR KC 1 h1p h1k (by decide)) us_I8 0 rfl rfl cv_M_49 rfl ⟨by decide, by decide⟩ ⟨by decide, by decide⟩ hl.1 rfl (Nat.le_of_ble_eq_true rfl) dM_remove_15 (fun rr u H locs g2 Y => ?_)
    have Y : us_Y D A (mW ad cI cZ th n np k V KV I KI PN KR KC) s H locs := Y
    rcases g2 with ⟨rfl, g2⟩ | ⟨rfl, g2⟩
    · refine us_eq1 (tgt := 25) X dM_remove_18 (by decide) ?_
      refine lv_iconst (v := nI 1) X.x X.b dM_remove_21 (by decide) ?_
      refine lv_goto (tgt := 26) X.x X.b dM_remove_22 (by decide) ?_
      refine us_pM X Y 0 rfl 0 (by decide) mB_fl_M_32 rfl rfl rfl (Nat.le_of_ble_eq_true rfl) dM_remove_26 (fun H locs Y => ?_)
      have Y : us_Y D A (mW ad cI cZ (nI 1) n np k V KV I KI PN KR KC) s H locs := Y
      refine lv_aload_n X.x X.b dM_remove_29 rfl (lv_at hl 0 rfl) ?_
      refine us_gM X Y 0 rfl 0 (by decide) mB_fl_M_32 rfl dM_remove_30 ?_
      refine us_ne1 (tgt := 41) X dM_remove_33 (by decide) ?_
      exact us_vret (u := ((nI 1), n, np, k, V, KV, I, KI, PN, KR, KC)) X Y hr hlk (⟨1, n, T, k, Or.inr ⟨ir, hir, rfl, Or.inl ⟨rfl, g2, rfl, rfl, rfl⟩⟩, rfl, rfl, rfl, rfl, hM⟩) dM_remove_41
    · refine us_eq0 (tgt := 25) X dM_remove_18 (by decide) ?_
      refine lv_iconst (v := nI 0) X.x X.b dM_remove_25 (by decide) ?_
      refine us_pM X Y 0 rfl 0 (by decide) mB_fl_M_32 rfl rfl rfl (Nat.le_of_ble_eq_true rfl) dM_remove_26 (fun H locs Y => ?_)
      have Y : us_Y D A (mW ad cI cZ (nI 0) n np k V KV I KI PN KR KC) s H locs := Y
      refine lv_aload_n X.x X.b dM_remove_29 rfl (lv_at hl 0 rfl) ?_
      refine us_gM X Y 0 rfl 0 (by decide) mB_fl_M_32 rfl dM_remove_30 ?_
      refine us_ne0 (tgt := 41) X dM_remove_33 (by decide) ?_
      refine lv_aload_n X.x X.b dM_remove_36 rfl (lv_at hl 0 rfl) ?_
      refine lv_iload_n X.x X.b dM_remove_37 rfl (lv_at hl 1 rfl) ?_
      refine us_vv (rest := []) X Y (k_M_take l D ad cI cZ H.size (nI 0) n np k V KV I KI PN KR KC ir h1n hir h1p hI) us_I8 0 rfl rfl cv_M_63 rfl ⟨by decide, by decide⟩ ⟨by decide, by decide⟩ hl.1 rfl (Nat.le_of_ble_eq_true rfl) dM_remove_38 (fun u H locs _ Y => ?_)
      have Y : us_Y D A (mW ad cI cZ (nI 0) (n - 1) np (us_k1 np k) ((us_tk V ir (3 * (n - 1)))) KV ((us_tk I ir (3 * (n - 1)))) KI PN KR KC) s H locs := Y
      exact us_vret (u := ((nI 0), (n - 1), np, (us_k1 np k), ((us_tk V ir (3 * (n - 1)))), KV, ((us_tk I ir (3 * (n - 1)))), KI, PN, KR, KC)) X Y hr hlk (⟨0, n - 1, _, _, Or.inr ⟨ir, hir, rfl, Or.inr ⟨rfl, g2, rfl, rfl, rfl⟩⟩, rfl, rfl, rfl, rfl, hM.tab (by omega) (us_k1_le h1k g2) ((us_tk_del hir).tr (us_del_eq h4)) (us_tk_b hI)⟩) dM_remove_41
  · refine us_ne0 (tgt := 13) X dM_remove_6 (by decide) ?_
    refine lv_iconst (v := nI 2) X.x X.b dM_remove_9 (by decide) ?_
    refine lv_goto (tgt := 26) X.x X.b dM_remove_10 (by decide) ?_
    refine us_pM X Y 0 rfl 0 (by decide) mB_fl_M_32 rfl rfl rfl (Nat.le_of_ble_eq_true rfl) dM_remove_26 (fun H locs Y => ?_)
    have Y : us_Y D A (mW ad cI cZ (nI 2) n np k V KV I KI PN KR KC) s H locs := Y
    refine lv_aload_n X.x X.b dM_remove_29 rfl (lv_at hl 0 rfl) ?_
    refine us_gM X Y 0 rfl 0 (by decide) mB_fl_M_32 rfl dM_remove_30 ?_
    refine us_zne (tgt := 41) X (by decide) dM_remove_33 (by decide) (fun _ => ?_) (fun h0 => absurd h0 (by decide))
    exact us_vret (u := ((nI 2), n, np, k, V, KV, I, KI, PN, KR, KC)) X Y hr hlk (⟨2, n, T, k, Or.inl ⟨rfl, g1, rfl, rfl, rfl⟩, rfl, rfl, rfl, rfl, hM⟩) dM_remove_41
set_option maxHeartbeats 4000000 in
set_option maxRecDepth 100000 in
theorem k_M_removeAll (l : Launch) (D : va_G) (ad : Nat → Nat) (cI cZ : ClassId) (sz : Nat) (th : Int32) (n np k : Nat) (V KV I KI PN KR KC : Nat → Int32) (T : us_T) (nm : Nat → Int32) (sn : Nat → Nat) (sT : Nat → us_T) (sk : Nat → Nat) (hM : us_M n T k np nm sn sT sk V KV I KI PN KR KC) (vco vv : Int32) : us_Ci l yM_removeAll cM_removeAll 5 (some .int) 2 42 [.ref (ad 0), .int vco, .int vv] D (tyM cI cZ) (mW ad cI cZ th n np k V KV I KI PN KR KC) sz (fun r (u : us_SM) => ∃ cd n' T' k', us_aR n T k np vco vv cd r n' T' k' ∧ us_ms u (nI cd) n' T' k' np nm sn sT sk) (fun (u : us_SM) => mWS ad cI cZ u) := by
  refine us_enter (own := RM) rfl (by decide) (Nat.le_of_ble_eq_true rfl) ?_
  intro p e s m below meth c ls X Y hr hlk hl
  generalize va_A (mW ad cI cZ th n np k V KV I KI PN KR KC) sz = A at X Y ⊢
  have hl : lv_has ls 5 [(0, .ref (ad 0)), (1, .int vco), (2, .int vv)] := hl
  have h1n := hM.1
  have h1p := hM.2.1
  have h1k := hM.2.2.1
  have h4 := hM.2.2.2.1
  have hI := hM.2.2.2.2.1
  have hKI := hM.2.2.2.2.2.1
  refine lv_iload_n X.x X.b dM_removeAll_0 rfl (lv_at hl 1 rfl) ?_
  refine lv_if_lt (tgt := 9) X.x X.b dM_removeAll_1 (by decide) (fun h1 => ?_) (fun h1 => ?_)
  · refine lv_aload_n X.x X.b dM_removeAll_9 rfl (lv_at hl 0 rfl) ?_
    refine lv_iconst (v := nI 1) X.x X.b dM_removeAll_10 (by decide) ?_
    refine us_vi (rest := []) X Y (k_M_no l D ad cI cZ s.heap.size th n np k V KV I KI PN KR KC (nI 1)) us_I8 0 rfl rfl cv_M_45 rfl ⟨by decide, by decide⟩ ⟨by decide, by decide⟩ hl.1 rfl (Nat.le_of_ble_eq_true rfl) dM_removeAll_11 (fun rr u H locs _ Y => ?_)
    have Y : us_Y D A (mW ad cI cZ (nI 1) n np k V KV I KI PN KR KC) s H locs := Y
    exact us_iret (u := ((nI 1), n, np, k, V, KV, I, KI, PN, KR, KC)) X Y hr hlk (⟨1, n, T, k, Or.inl ⟨rfl, fun ⟨j, h3, h4⟩ => nI_pos (n := j) (by omega) (h4 ▸ h1), rfl, rfl, rfl⟩, rfl, rfl, rfl, rfl, hM⟩) dM_removeAll_14
  · refine lv_iload_n X.x X.b dM_removeAll_4 rfl (lv_at hl 1 rfl) ?_
    refine lv_iconst (v := nI 2) X.x X.b dM_removeAll_5 (by decide) ?_
    refine lv_icmp_le (tgt := 15) X.x X.b dM_removeAll_6 (by decide) (fun h2 => ?_) (fun h2 => ?_)
    · obtain ⟨co, hco, rfl⟩ := us_le2 (by decide) h1 h2
      have loop2 : ∀ (d nc : Nat) (Tc : us_T) (kc : Nat) (V1 I1 : Nat → Int32) (H : Heap) (locs : List Loc) (ls : Array Slot), ¬ us_ful np k (us_ct T co vv n) → d ≤ nc → us_M nc Tc kc np nm sn sT sk V1 KV I1 KI PN KR KC → us_ra co vv np d (nc, Tc, kc) = us_ra co vv np n (n, T, k) → (np = 0 ∨ kc + us_ct Tc co vv d ≤ 200) → us_Y D A (mW ad cI cZ (nI 0) nc np kc V1 KV I1 KI PN KR KC) s H locs → lv_has ls 5 [(4, .int (nI d - 1)), (3, .int (nI (us_ct T co vv n))), (0, .ref (ad 0)), (1, .int (nI co)), (2, .int vv)] → W p l e { frames := 2, cells := 0, slots := 0, locals := 42 } s m [.ref (ad 0), .int (nI co), .int vv].toArray below meth c H locs 0 0 (us_Qi below (fun r (u : us_SM) => ∃ cd n' T' k', us_aR n T k np (nI co) vv cd r n' T' k' ∧ us_ms u (nI cd) n' T' k' np nm sn sT sk) D (tyM cI cZ) A (fun (u : us_SM) => mWS ad cI cZ u) [.ref (ad 0), .int (nI co), .int vv] s) (F0 m 94 ls []) := by
        intro d
        induction d with
        | zero =>
          intro nc Tc kc V1 I1 H locs ls hnf hd hMc hra hrm Y hl
          refine lv_iload X.x X.b dM_removeAll_94 (lv_at hl 0 rfl) ?_
          refine lv_if_lt (tgt := 140) X.x X.b dM_removeAll_96 (by decide) (fun h3 => ?_) (fun h3 => ?_)
          · refine lv_iload_n X.x X.b dM_removeAll_140 rfl (lv_at hl 1 rfl) ?_
            exact us_iret (u := ((nI 0), nc, np, kc, V1, KV, I1, KI, PN, KR, KC)) X Y hr hlk (⟨0, nc, Tc, kc, Or.inr ⟨co, hco, rfl, Or.inr ⟨rfl, hnf, rfl, hra⟩⟩, rfl, rfl, rfl, rfl, hMc⟩) dM_removeAll_141
          · exact absurd (by decide) h3
        | succ d ih =>
          intro nc Tc kc V1 I1 H locs ls hnf hd hMc hra hrm Y hl
          rw [nI_pred] at hl
          have hnc := hMc.1
          have e5 := hMc.2.2.2.1 d co (by omega) hco
          refine lv_iload X.x X.b dM_removeAll_94 (lv_at hl 0 rfl) ?_
          refine lv_if_lt (tgt := 140) X.x X.b dM_removeAll_96 (by decide) (fun h3 => ?_) (fun h3 => ?_)
          · exact absurd h3 (nI_pos (by omega))
          · refine lv_aload_n X.x X.b dM_removeAll_99 rfl (lv_at hl 2 rfl) ?_
            refine us_gM X Y 0 rfl 6 (by decide) mB_fl_M_16 rfl dM_removeAll_100 ?_
            refine lv_iconst (v := nI 3) X.x X.b dM_removeAll_103 (by decide) ?_
            refine lv_iload X.x X.b dM_removeAll_104 (lv_at hl 0 rfl) ?_
            refine us_imul X dM_removeAll_106 ?_
            refine lv_iload_n X.x X.b dM_removeAll_107 rfl (lv_at hl 3 rfl) ?_
            refine us_iadd X dM_removeAll_108 ?_
            refine us_za X Y 3 1 rfl rfl (i := (3 * d) + co) (by omega) (by decide) dM_removeAll_109 ?_
            refine lv_if_eq (tgt := 134) X.x X.b dM_removeAll_110 (by decide) (fun h5 => ?_) (fun h5 => ?_)
            · have g4 : ¬ Tc d co = some vv := by rw [← e5]; exact us_tm_n h5
              refine lv_iinc (v := (nI d - 1)) (lv' := [(4, .int (nI d - 1)), (3, .int (nI (us_ct T co vv n))), (0, .ref (ad 0)), (1, .int (nI co)), (2, .int vv)]) X.x X.b dM_removeAll_134 hl (k := 0) rfl (us_dec _) (by decide) rfl (fun ls hl => ?_)
              refine lv_goto (tgt := 94) X.x X.b dM_removeAll_137 (by decide) ?_
              exact ih nc Tc kc V1 I1 H locs ls hnf (by omega) hMc ((us_ra_0 g4).symm.trans hra) (us_room_0 hrm g4) Y hl
            · refine lv_aload_n X.x X.b dM_removeAll_113 rfl (lv_at hl 2 rfl) ?_
              refine us_gM X Y 0 rfl 4 (by decide) mB_fl_M_9 rfl dM_removeAll_114 ?_
              refine lv_iconst (v := nI 3) X.x X.b dM_removeAll_117 (by decide) ?_
              refine lv_iload X.x X.b dM_removeAll_118 (lv_at hl 0 rfl) ?_
              refine us_imul X dM_removeAll_120 ?_
              refine lv_iload_n X.x X.b dM_removeAll_121 rfl (lv_at hl 3 rfl) ?_
              refine us_iadd X dM_removeAll_122 ?_
              refine us_ia X Y 1 0 rfl rfl (i := (3 * d) + co) (by omega) (by decide) dM_removeAll_123 ?_
              refine lv_iload_n X.x X.b dM_removeAll_124 rfl (lv_at hl 4 rfl) ?_
              refine lv_icmp_ne (tgt := 134) X.x X.b dM_removeAll_125 (by decide) (fun h6 => ?_) (fun h6 => ?_)
              · have g4 : ¬ Tc d co = some vv := by rw [← e5]; exact us_tm_v h5 h6
                refine lv_iinc (v := (nI d - 1)) (lv' := [(4, .int (nI d - 1)), (3, .int (nI (us_ct T co vv n))), (0, .ref (ad 0)), (1, .int (nI co)), (2, .int vv)]) X.x X.b dM_removeAll_134 hl (k := 0) rfl (us_dec _) (by decide) rfl (fun ls hl => ?_)
                refine lv_goto (tgt := 94) X.x X.b dM_removeAll_137 (by decide) ?_
                exact ih nc Tc kc V1 I1 H locs ls hnf (by omega) hMc ((us_ra_0 g4).symm.trans hra) (us_room_0 hrm g4) Y hl
              · have g4 : Tc d co = some vv := by rw [← e5]; exact us_tm_y h5 h6
                have hroom := us_room_1 hrm hco g4
                refine lv_aload_n X.x X.b dM_removeAll_128 rfl (lv_at hl 2 rfl) ?_
                refine lv_iload X.x X.b dM_removeAll_129 (lv_at hl 0 rfl) ?_
                refine us_vv (rest := []) X Y (k_M_take l D ad cI cZ H.size (nI 0) nc np kc V1 KV I1 KI PN KR KC d hnc (by omega) h1p hMc.2.2.2.2.1) us_I8 0 rfl rfl cv_M_63 rfl ⟨by decide, by decide⟩ ⟨by decide, by decide⟩ hl.1 rfl (Nat.le_of_ble_eq_true rfl) dM_removeAll_131 (fun u H locs _ Y => ?_)
                have Y : us_Y D A (mW ad cI cZ (nI 0) (nc - 1) np (us_k1 np kc) ((us_tk V1 d (3 * (nc - 1)))) KV ((us_tk I1 d (3 * (nc - 1)))) KI PN KR KC) s H locs := Y
                refine lv_iinc (v := (nI d - 1)) (lv' := [(4, .int (nI d - 1)), (3, .int (nI (us_ct T co vv n))), (0, .ref (ad 0)), (1, .int (nI co)), (2, .int vv)]) X.x X.b dM_removeAll_134 hl (k := 0) rfl (us_dec _) (by decide) rfl (fun ls hl => ?_)
                refine lv_goto (tgt := 94) X.x X.b dM_removeAll_137 (by decide) ?_
                exact ih (nc - 1) (us_del Tc d) (us_k1 np kc) ((us_tk V1 d (3 * (nc - 1)))) ((us_tk I1 d (3 * (nc - 1)))) H locs ls hnf (by omega) (hMc.tab (by omega) (us_k1_le hMc.2.2.1 (us_ful.out hroom.1)) ((us_tk_del (by omega)).tr (us_del_eq hMc.2.2.2.1)) (us_tk_b hMc.2.2.2.2.1)) ((us_ra_1 g4).symm.trans hra) hroom.2 Y hl
      have loop1 : ∀ (d i : Nat) (H : Heap) (locs : List Loc) (ls : Array Slot), i + d = n → us_Y D A (mW ad cI cZ th n np k V KV I KI PN KR KC) s H locs → lv_has ls 5 [(4, .int (nI i)), (3, .int (nI (us_ct (us_tm V I) co vv i))), (0, .ref (ad 0)), (1, .int (nI co)), (2, .int vv)] → W p l e { frames := 2, cells := 0, slots := 0, locals := 42 } s m [.ref (ad 0), .int (nI co), .int vv].toArray below meth c H locs 0 0 (us_Qi below (fun r (u : us_SM) => ∃ cd n' T' k', us_aR n T k np (nI co) vv cd r n' T' k' ∧ us_ms u (nI cd) n' T' k' np nm sn sT sk) D (tyM cI cZ) A (fun (u : us_SM) => mWS ad cI cZ u) [.ref (ad 0), .int (nI co), .int vv] s) (F0 m 20 ls []) := by
        intro d
        induction d with
        | zero =>
          intro i H locs ls hi Y hl
          have ei : i = n := by omega
          rw [ei, us_ct_eq hco h4] at hl
          have hct := us_ct_le (T := T) (c := co) (v := vv) n
          refine lv_iload X.x X.b dM_removeAll_20 (lv_at hl 0 rfl) ?_
          refine lv_aload_n X.x X.b dM_removeAll_22 rfl (lv_at hl 2 rfl) ?_
          refine us_gM X Y 0 rfl 1 (by decide) mB_fl_M_36 rfl dM_removeAll_23 ?_
          refine us_cge (tgt := 67) X (by omega) (by omega) dM_removeAll_26 (by decide) (fun h3 => ?_) (fun h3 => ?_)
          · refine lv_aload_n X.x X.b dM_removeAll_67 rfl (lv_at hl 2 rfl) ?_
            refine lv_iload_n X.x X.b dM_removeAll_68 rfl (lv_at hl 1 rfl) ?_
            refine us_vi (rest := []) X Y (k_M_isFull l D ad cI cZ H.size th n np k V KV I KI PN KR KC (us_ct T co vv n) h1p h1k (by omega)) us_I8 0 rfl rfl cv_M_49 rfl ⟨by decide, by decide⟩ ⟨by decide, by decide⟩ hl.1 rfl (Nat.le_of_ble_eq_true rfl) dM_removeAll_69 (fun rr u H locs g2 Y => ?_)
            have Y : us_Y D A (mW ad cI cZ th n np k V KV I KI PN KR KC) s H locs := Y
            rcases g2 with ⟨rfl, g2⟩ | ⟨rfl, g2⟩
            · refine us_eq1 (tgt := 81) X dM_removeAll_72 (by decide) ?_
              refine lv_aload_n X.x X.b dM_removeAll_75 rfl (lv_at hl 2 rfl) ?_
              refine lv_iconst (v := nI 2) X.x X.b dM_removeAll_76 (by decide) ?_
              refine us_vi (rest := []) X Y (k_M_no l D ad cI cZ H.size th n np k V KV I KI PN KR KC (nI 2)) us_I8 0 rfl rfl cv_M_45 rfl ⟨by decide, by decide⟩ ⟨by decide, by decide⟩ hl.1 rfl (Nat.le_of_ble_eq_true rfl) dM_removeAll_77 (fun rr u H locs _ Y => ?_)
              have Y : us_Y D A (mW ad cI cZ (nI 2) n np k V KV I KI PN KR KC) s H locs := Y
              exact us_iret (u := ((nI 2), n, np, k, V, KV, I, KI, PN, KR, KC)) X Y hr hlk (⟨2, n, T, k, Or.inr ⟨co, hco, rfl, Or.inl ⟨rfl, g2, rfl, rfl, rfl⟩⟩, rfl, rfl, rfl, rfl, hM⟩) dM_removeAll_80
            · refine us_eq0 (tgt := 81) X dM_removeAll_72 (by decide) ?_
              refine lv_aload_n X.x X.b dM_removeAll_81 rfl (lv_at hl 2 rfl) ?_
              refine lv_iconst (v := nI 0) X.x X.b dM_removeAll_82 (by decide) ?_
              refine us_pM X Y 0 rfl 0 (by decide) mB_fl_M_32 rfl rfl rfl (Nat.le_of_ble_eq_true rfl) dM_removeAll_83 (fun H locs Y => ?_)
              have Y : us_Y D A (mW ad cI cZ (nI 0) n np k V KV I KI PN KR KC) s H locs := Y
              refine lv_aload_n X.x X.b dM_removeAll_86 rfl (lv_at hl 2 rfl) ?_
              refine us_gM X Y 0 rfl 1 (by decide) mB_fl_M_36 rfl dM_removeAll_87 ?_
              refine lv_iconst (v := (1 : Int32)) X.x X.b dM_removeAll_90 (by decide) ?_
              refine lv_isub X.x X.b dM_removeAll_91 ?_
              refine lv_istore (lv' := [(4, .int ((nI n) - ((1 : Int32)))), (3, .int (nI (us_ct T co vv n))), (0, .ref (ad 0)), (1, .int (nI co)), (2, .int vv)]) X.x X.b dM_removeAll_92 hl (by decide) rfl (fun ls hl => ?_)
              exact loop2 n n T k V I H locs ls g2 (Nat.le_refl _) hM rfl (us_ful.no g2) Y hl
          · exact absurd h3 (by omega)
        | succ d ih =>
          intro i H locs ls hi Y hl
          refine lv_iload X.x X.b dM_removeAll_20 (lv_at hl 0 rfl) ?_
          refine lv_aload_n X.x X.b dM_removeAll_22 rfl (lv_at hl 2 rfl) ?_
          refine us_gM X Y 0 rfl 1 (by decide) mB_fl_M_36 rfl dM_removeAll_23 ?_
          refine us_cge (tgt := 67) X (by omega) (by omega) dM_removeAll_26 (by decide) (fun h3 => ?_) (fun h3 => ?_)
          · exact absurd h3 (by omega)
          · refine lv_aload_n X.x X.b dM_removeAll_29 rfl (lv_at hl 2 rfl) ?_
            refine us_gM X Y 0 rfl 6 (by decide) mB_fl_M_16 rfl dM_removeAll_30 ?_
            refine lv_iconst (v := nI 3) X.x X.b dM_removeAll_33 (by decide) ?_
            refine lv_iload X.x X.b dM_removeAll_34 (lv_at hl 0 rfl) ?_
            refine us_imul X dM_removeAll_36 ?_
            refine lv_iload_n X.x X.b dM_removeAll_37 rfl (lv_at hl 3 rfl) ?_
            refine us_iadd X dM_removeAll_38 ?_
            refine us_za X Y 3 1 rfl rfl (i := (3 * i) + co) (by omega) (by decide) dM_removeAll_39 ?_
            refine lv_if_eq (tgt := 61) X.x X.b dM_removeAll_40 (by decide) (fun h5 => ?_) (fun h5 => ?_)
            · have g4 := us_tm_n (V := V) (v := vv) h5
              refine lv_iinc (v := (nI (i + 1))) (lv' := [(4, .int (nI (i + 1))), (3, .int (nI (us_ct (us_tm V I) co vv i))), (0, .ref (ad 0)), (1, .int (nI co)), (2, .int vv)]) X.x X.b dM_removeAll_61 hl (k := 0) rfl (us_inc _) (by decide) rfl (fun ls hl => ?_)
              refine lv_goto (tgt := 20) X.x X.b dM_removeAll_64 (by decide) ?_
              rw [← us_ct_0 g4] at hl
              exact ih (i + 1) H locs ls (by omega) Y hl
            · refine lv_aload_n X.x X.b dM_removeAll_43 rfl (lv_at hl 2 rfl) ?_
              refine us_gM X Y 0 rfl 4 (by decide) mB_fl_M_9 rfl dM_removeAll_44 ?_
              refine lv_iconst (v := nI 3) X.x X.b dM_removeAll_47 (by decide) ?_
              refine lv_iload X.x X.b dM_removeAll_48 (lv_at hl 0 rfl) ?_
              refine us_imul X dM_removeAll_50 ?_
              refine lv_iload_n X.x X.b dM_removeAll_51 rfl (lv_at hl 3 rfl) ?_
              refine us_iadd X dM_removeAll_52 ?_
              refine us_ia X Y 1 0 rfl rfl (i := (3 * i) + co) (by omega) (by decide) dM_removeAll_53 ?_
              refine lv_iload_n X.x X.b dM_removeAll_54 rfl (lv_at hl 4 rfl) ?_
              refine lv_icmp_ne (tgt := 61) X.x X.b dM_removeAll_55 (by decide) (fun h6 => ?_) (fun h6 => ?_)
              · have g4 := us_tm_v h5 h6
                refine lv_iinc (v := (nI (i + 1))) (lv' := [(4, .int (nI (i + 1))), (3, .int (nI (us_ct (us_tm V I) co vv i))), (0, .ref (ad 0)), (1, .int (nI co)), (2, .int vv)]) X.x X.b dM_removeAll_61 hl (k := 0) rfl (us_inc _) (by decide) rfl (fun ls hl => ?_)
                refine lv_goto (tgt := 20) X.x X.b dM_removeAll_64 (by decide) ?_
                rw [← us_ct_0 g4] at hl
                exact ih (i + 1) H locs ls (by omega) Y hl
              · have g4 := us_tm_y h5 h6
                refine lv_iinc (v := (nI ((us_ct (us_tm V I) co vv i) + 1))) (lv' := [(3, .int (nI ((us_ct (us_tm V I) co vv i) + 1))), (4, .int (nI i)), (0, .ref (ad 0)), (1, .int (nI co)), (2, .int vv)]) X.x X.b dM_removeAll_58 hl (k := 1) rfl (us_inc _) (by decide) rfl (fun ls hl => ?_)
                refine lv_iinc (v := (nI (i + 1))) (lv' := [(4, .int (nI (i + 1))), (3, .int (nI ((us_ct (us_tm V I) co vv i) + 1))), (0, .ref (ad 0)), (1, .int (nI co)), (2, .int vv)]) X.x X.b dM_removeAll_61 hl (k := 1) rfl (us_inc _) (by decide) rfl (fun ls hl => ?_)
                refine lv_goto (tgt := 20) X.x X.b dM_removeAll_64 (by decide) ?_
                rw [← us_ct_1 g4] at hl
                exact ih (i + 1) H locs ls (by omega) Y hl
      refine lv_iconst (v := nI 0) X.x X.b dM_removeAll_15 (by decide) ?_
      refine lv_istore_n (lv' := [(3, .int (nI 0)), (0, .ref (ad 0)), (1, .int (nI co)), (2, .int vv)]) X.x X.b dM_removeAll_16 rfl hl (by decide) rfl (fun ls hl => ?_)
      refine lv_iconst (v := nI 0) X.x X.b dM_removeAll_17 (by decide) ?_
      refine lv_istore (lv' := [(4, .int (nI 0)), (3, .int (nI 0)), (0, .ref (ad 0)), (1, .int (nI co)), (2, .int vv)]) X.x X.b dM_removeAll_18 hl (by decide) rfl (fun ls hl => ?_)
      exact loop1 n 0 s.heap [] ls (by omega) Y hl
    · refine lv_aload_n X.x X.b dM_removeAll_9 rfl (lv_at hl 0 rfl) ?_
      refine lv_iconst (v := nI 1) X.x X.b dM_removeAll_10 (by decide) ?_
      refine us_vi (rest := []) X Y (k_M_no l D ad cI cZ s.heap.size th n np k V KV I KI PN KR KC (nI 1)) us_I8 0 rfl rfl cv_M_45 rfl ⟨by decide, by decide⟩ ⟨by decide, by decide⟩ hl.1 rfl (Nat.le_of_ble_eq_true rfl) dM_removeAll_11 (fun rr u H locs _ Y => ?_)
      have Y : us_Y D A (mW ad cI cZ (nI 1) n np k V KV I KI PN KR KC) s H locs := Y
      exact us_iret (u := ((nI 1), n, np, k, V, KV, I, KI, PN, KR, KC)) X Y hr hlk (⟨1, n, T, k, Or.inl ⟨rfl, fun ⟨j, h3, h4⟩ => h2 (by rw [h4]; exact nI_le (by omega) (by decide)), rfl, rfl, rfl⟩, rfl, rfl, rfl, rfl, hM⟩) dM_removeAll_14
set_option maxHeartbeats 4000000 in
set_option maxRecDepth 100000 in
theorem k_M_find (l : Launch) (D : va_G) (ad : Nat → Nat) (cI cZ : ClassId) (sz : Nat) (th : Int32) (n np k : Nat) (V KV I KI PN KR KC : Nat → Int32) (T : us_T) (nm : Nat → Int32) (sn : Nat → Nat) (sT : Nat → us_T) (sk : Nat → Nat) (hM : us_M n T k np nm sn sT sk V KV I KI PN KR KC) (vco vv : Int32) : us_Ci l yM_find cM_find 3 (some .int) 1 23 [.ref (ad 0), .int vco, .int vv] D (tyM cI cZ) (mW ad cI cZ th n np k V KV I KI PN KR KC) sz (fun r (u : us_SM) => ∃ cd, us_fR n T vco vv cd r ∧ us_ms u (nI cd) n T k np nm sn sT sk) (fun (u : us_SM) => mWS ad cI cZ u) := by
  refine us_enter (own := RM) rfl (by decide) (Nat.le_of_ble_eq_true rfl) ?_
  intro p e s m below meth c ls X Y hr hlk hl
  generalize va_A (mW ad cI cZ th n np k V KV I KI PN KR KC) sz = A at X Y ⊢
  have hl : lv_has ls 3 [(0, .ref (ad 0)), (1, .int vco), (2, .int vv)] := hl
  have h1n := hM.1
  have h1p := hM.2.1
  have h1k := hM.2.2.1
  have h4 := hM.2.2.2.1
  have hI := hM.2.2.2.2.1
  have hKI := hM.2.2.2.2.2.1
  refine lv_iload_n X.x X.b dM_find_0 rfl (lv_at hl 1 rfl) ?_
  refine lv_if_eq (tgt := 15) X.x X.b dM_find_1 (by decide) (fun h1 => ?_) (fun h1 => ?_)
  · obtain rfl : vco = nI 0 := h1.trans nI_0.symm
    refine lv_aload_n X.x X.b dM_find_15 rfl (lv_at hl 0 rfl) ?_
    refine lv_iconst (v := nI 0) X.x X.b dM_find_16 (by decide) ?_
    refine us_pM X Y 0 rfl 0 (by decide) mB_fl_M_32 rfl rfl rfl (Nat.le_of_ble_eq_true rfl) dM_find_17 (fun H locs Y => ?_)
    have Y : us_Y D A (mW ad cI cZ (nI 0) n np k V KV I KI PN KR KC) s H locs := Y
    refine lv_aload_n X.x X.b dM_find_20 rfl (lv_at hl 0 rfl) ?_
    refine lv_iload_n X.x X.b dM_find_21 rfl (lv_at hl 1 rfl) ?_
    refine lv_iload_n X.x X.b dM_find_22 rfl (lv_at hl 2 rfl) ?_
    refine us_vi (rest := []) X Y (k_M_row l D ad cI cZ H.size (nI 0) n np k V KV I KI PN KR KC 0 vv h1n (by decide)) us_I8 0 rfl rfl cv_M_53 rfl ⟨by decide, by decide⟩ ⟨by decide, by decide⟩ hl.1 rfl (Nat.le_of_ble_eq_true rfl) dM_find_23 (fun rr u H locs r1 Y => ?_)
    have Y : us_Y D A (mW ad cI cZ (nI 0) n np k V KV I KI PN KR KC) s H locs := Y
    exact us_iret (u := ((nI 0), n, np, k, V, KV, I, KI, PN, KR, KC)) X Y hr hlk (⟨0, Or.inr ⟨0, by decide, rfl, rfl, r1.eq (by decide) h4⟩, rfl, rfl, rfl, rfl, hM⟩) dM_find_26
  · refine lv_iload_n X.x X.b dM_find_4 rfl (lv_at hl 1 rfl) ?_
    refine lv_iconst (v := nI 1) X.x X.b dM_find_5 (by decide) ?_
    refine lv_icmp_eq (tgt := 15) X.x X.b dM_find_6 (by decide) (fun h2 => ?_) (fun h2 => ?_)
    · obtain rfl : vco = nI 1 := h2
      refine lv_aload_n X.x X.b dM_find_15 rfl (lv_at hl 0 rfl) ?_
      refine lv_iconst (v := nI 0) X.x X.b dM_find_16 (by decide) ?_
      refine us_pM X Y 0 rfl 0 (by decide) mB_fl_M_32 rfl rfl rfl (Nat.le_of_ble_eq_true rfl) dM_find_17 (fun H locs Y => ?_)
      have Y : us_Y D A (mW ad cI cZ (nI 0) n np k V KV I KI PN KR KC) s H locs := Y
      refine lv_aload_n X.x X.b dM_find_20 rfl (lv_at hl 0 rfl) ?_
      refine lv_iload_n X.x X.b dM_find_21 rfl (lv_at hl 1 rfl) ?_
      refine lv_iload_n X.x X.b dM_find_22 rfl (lv_at hl 2 rfl) ?_
      refine us_vi (rest := []) X Y (k_M_row l D ad cI cZ H.size (nI 0) n np k V KV I KI PN KR KC 1 vv h1n (by decide)) us_I8 0 rfl rfl cv_M_53 rfl ⟨by decide, by decide⟩ ⟨by decide, by decide⟩ hl.1 rfl (Nat.le_of_ble_eq_true rfl) dM_find_23 (fun rr u H locs r1 Y => ?_)
      have Y : us_Y D A (mW ad cI cZ (nI 0) n np k V KV I KI PN KR KC) s H locs := Y
      exact us_iret (u := ((nI 0), n, np, k, V, KV, I, KI, PN, KR, KC)) X Y hr hlk (⟨0, Or.inr ⟨1, by decide, rfl, rfl, r1.eq (by decide) h4⟩, rfl, rfl, rfl, rfl, hM⟩) dM_find_26
    · refine lv_aload_n X.x X.b dM_find_9 rfl (lv_at hl 0 rfl) ?_
      refine lv_iconst (v := nI 1) X.x X.b dM_find_10 (by decide) ?_
      refine us_vi (rest := []) X Y (k_M_no l D ad cI cZ s.heap.size th n np k V KV I KI PN KR KC (nI 1)) us_I8 0 rfl rfl cv_M_45 rfl ⟨by decide, by decide⟩ ⟨by decide, by decide⟩ hl.1 rfl (Nat.le_of_ble_eq_true rfl) dM_find_11 (fun rr u H locs _ Y => ?_)
      have Y : us_Y D A (mW ad cI cZ (nI 1) n np k V KV I KI PN KR KC) s H locs := Y
      exact us_iret (u := ((nI 1), n, np, k, V, KV, I, KI, PN, KR, KC)) X Y hr hlk (⟨1, Or.inl ⟨rfl, fun ⟨j, h3, h4⟩ => by rcases (show j = 0 ∨ j = 1 by omega) with e | e; exact h1 (by rw [h4, e]; exact nI_0); exact h2 (by rw [h4, e])⟩, rfl, rfl, rfl, rfl, hM⟩) dM_find_14
set_option maxHeartbeats 4000000 in
set_option maxRecDepth 100000 in
theorem k_M_value (l : Launch) (D : va_G) (ad : Nat → Nat) (cI cZ : ClassId) (sz : Nat) (th : Int32) (n np k : Nat) (V KV I KI PN KR KC : Nat → Int32) (T : us_T) (nm : Nat → Int32) (sn : Nat → Nat) (sT : Nat → us_T) (sk : Nat → Nat) (hM : us_M n T k np nm sn sT sk V KV I KI PN KR KC) (vr vco : Int32) : us_Ci l yM_value cM_value 3 (some .int) 1 21 [.ref (ad 0), .int vr, .int vco] D (tyM cI cZ) (mW ad cI cZ th n np k V KV I KI PN KR KC) sz (fun r (u : us_SM) => ∃ cd, us_vR n T vr vco cd r ∧ us_ms u (nI cd) n T k np nm sn sT sk) (fun (u : us_SM) => mWS ad cI cZ u) := by
  refine us_enter (own := RM) rfl (by decide) (Nat.le_of_ble_eq_true rfl) ?_
  intro p e s m below meth c ls X Y hr hlk hl
  generalize va_A (mW ad cI cZ th n np k V KV I KI PN KR KC) sz = A at X Y ⊢
  have hl : lv_has ls 3 [(0, .ref (ad 0)), (1, .int vr), (2, .int vco)] := hl
  have h1n := hM.1
  have h1p := hM.2.1
  have h1k := hM.2.2.1
  have h4 := hM.2.2.2.1
  have hI := hM.2.2.2.2.1
  have hKI := hM.2.2.2.2.2.1
  refine lv_aload_n X.x X.b dM_value_0 rfl (lv_at hl 0 rfl) ?_
  refine lv_iload_n X.x X.b dM_value_1 rfl (lv_at hl 2 rfl) ?_
  refine lv_if_lt (tgt := 10) X.x X.b dM_value_2 (by decide) (fun h1 => ?_) (fun h1 => ?_)
  · refine lv_iconst (v := nI 1) X.x X.b dM_value_10 (by decide) ?_
    refine lv_goto (tgt := 40) X.x X.b dM_value_11 (by decide) ?_
    refine us_pM X Y 0 rfl 0 (by decide) mB_fl_M_32 rfl rfl rfl (Nat.le_of_ble_eq_true rfl) dM_value_40 (fun H locs Y => ?_)
    have Y : us_Y D A (mW ad cI cZ (nI 1) n np k V KV I KI PN KR KC) s H locs := Y
    refine lv_aload_n X.x X.b dM_value_43 rfl (lv_at hl 0 rfl) ?_
    refine us_gM X Y 0 rfl 0 (by decide) mB_fl_M_32 rfl dM_value_44 ?_
    refine us_eq1 (tgt := 54) X dM_value_47 (by decide) ?_
    refine lv_iconst (v := nI 0) X.x X.b dM_value_50 (by decide) ?_
    refine lv_goto (tgt := 64) X.x X.b dM_value_51 (by decide) ?_
    exact us_iret (u := ((nI 1), n, np, k, V, KV, I, KI, PN, KR, KC)) X Y hr hlk (⟨1, Or.inl ⟨rfl, fun ⟨c, h3, h4⟩ => nI_pos (n := c) (by omega) (h4 ▸ h1)⟩, rfl, rfl, rfl, rfl, hM⟩) dM_value_64
  · refine lv_iload_n X.x X.b dM_value_5 rfl (lv_at hl 2 rfl) ?_
    refine lv_iconst (v := nI 2) X.x X.b dM_value_6 (by decide) ?_
    refine lv_icmp_le (tgt := 14) X.x X.b dM_value_7 (by decide) (fun h2 => ?_) (fun h2 => ?_)
    · obtain ⟨co, hco, rfl⟩ := us_le2 (by decide) h1 h2
      refine lv_aload_n X.x X.b dM_value_14 rfl (lv_at hl 0 rfl) ?_
      refine lv_iload_n X.x X.b dM_value_15 rfl (lv_at hl 1 rfl) ?_
      refine us_vi (rest := [.ref (ad 0)]) X Y (k_M_isRow l D ad cI cZ s.heap.size th n np k V KV I KI PN KR KC vr h1n) us_I8 0 rfl rfl cv_M_60 rfl ⟨by decide, by decide⟩ ⟨by decide, by decide⟩ hl.1 rfl (Nat.le_of_ble_eq_true rfl) dM_value_16 (fun rr u H locs g1 Y => ?_)
      have Y : us_Y D A (mW ad cI cZ th n np k V KV I KI PN KR KC) s H locs := Y
      rcases g1 with ⟨rfl, g1⟩ | ⟨rfl, g1⟩
      · refine us_eq1 (tgt := 35) X dM_value_19 (by decide) ?_
        obtain ⟨ir, hir, rfl⟩ := g1
        refine lv_aload_n X.x X.b dM_value_22 rfl (lv_at hl 0 rfl) ?_
        refine us_gM X Y 0 rfl 6 (by decide) mB_fl_M_16 rfl dM_value_23 ?_
        refine lv_iconst (v := nI 3) X.x X.b dM_value_26 (by decide) ?_
        refine lv_iload_n X.x X.b dM_value_27 rfl (lv_at hl 1 rfl) ?_
        refine us_imul X dM_value_28 ?_
        refine lv_iload_n X.x X.b dM_value_29 rfl (lv_at hl 2 rfl) ?_
        refine us_iadd X dM_value_30 ?_
        refine us_za X Y 3 1 rfl rfl (i := (3 * ir) + co) (by omega) (by decide) dM_value_31 ?_
        refine lv_if_ne (tgt := 39) X.x X.b dM_value_32 (by decide) (fun h3 => ?_) (fun h3 => ?_)
        · refine lv_iconst (v := nI 0) X.x X.b dM_value_39 (by decide) ?_
          refine us_pM X Y 0 rfl 0 (by decide) mB_fl_M_32 rfl rfl rfl (Nat.le_of_ble_eq_true rfl) dM_value_40 (fun H locs Y => ?_)
          have Y : us_Y D A (mW ad cI cZ (nI 0) n np k V KV I KI PN KR KC) s H locs := Y
          refine lv_aload_n X.x X.b dM_value_43 rfl (lv_at hl 0 rfl) ?_
          refine us_gM X Y 0 rfl 0 (by decide) mB_fl_M_32 rfl dM_value_44 ?_
          refine us_eq0 (tgt := 54) X dM_value_47 (by decide) ?_
          refine lv_aload_n X.x X.b dM_value_54 rfl (lv_at hl 0 rfl) ?_
          refine us_gM X Y 0 rfl 4 (by decide) mB_fl_M_9 rfl dM_value_55 ?_
          refine lv_iconst (v := nI 3) X.x X.b dM_value_58 (by decide) ?_
          refine lv_iload_n X.x X.b dM_value_59 rfl (lv_at hl 1 rfl) ?_
          refine us_imul X dM_value_60 ?_
          refine lv_iload_n X.x X.b dM_value_61 rfl (lv_at hl 2 rfl) ?_
          refine us_iadd X dM_value_62 ?_
          refine us_ia X Y 1 0 rfl rfl (i := (3 * ir) + co) (by omega) (by decide) dM_value_63 ?_
          exact us_iret (u := ((nI 0), n, np, k, V, KV, I, KI, PN, KR, KC)) X Y hr hlk (⟨0, Or.inr ⟨co, hco, rfl, Or.inr ⟨ir, hir, rfl, (h4 ir co hir hco).symm.trans (us_tm_1 h3), rfl⟩⟩, rfl, rfl, rfl, rfl, hM⟩) dM_value_64
        · refine lv_iconst (v := nI 2) X.x X.b dM_value_35 (by decide) ?_
          refine lv_goto (tgt := 40) X.x X.b dM_value_36 (by decide) ?_
          refine us_pM X Y 0 rfl 0 (by decide) mB_fl_M_32 rfl rfl rfl (Nat.le_of_ble_eq_true rfl) dM_value_40 (fun H locs Y => ?_)
          have Y : us_Y D A (mW ad cI cZ (nI 2) n np k V KV I KI PN KR KC) s H locs := Y
          refine lv_aload_n X.x X.b dM_value_43 rfl (lv_at hl 0 rfl) ?_
          refine us_gM X Y 0 rfl 0 (by decide) mB_fl_M_32 rfl dM_value_44 ?_
          refine us_zeq (tgt := 54) X (by decide) dM_value_47 (by decide) (fun h0 => absurd h0 (by decide)) (fun _ => ?_)
          refine lv_iconst (v := nI 0) X.x X.b dM_value_50 (by decide) ?_
          refine lv_goto (tgt := 64) X.x X.b dM_value_51 (by decide) ?_
          exact us_iret (u := ((nI 2), n, np, k, V, KV, I, KI, PN, KR, KC)) X Y hr hlk (⟨2, Or.inr ⟨co, hco, rfl, Or.inl ⟨rfl, fun ⟨i, h6, h7, h8⟩ => h8 (by rw [← us_nI (by omega) (by omega) h7, ← h4 ir co hir hco]; exact us_tm_0 h3)⟩⟩, rfl, rfl, rfl, rfl, hM⟩) dM_value_64
      · refine us_eq0 (tgt := 35) X dM_value_19 (by decide) ?_
        refine lv_iconst (v := nI 2) X.x X.b dM_value_35 (by decide) ?_
        refine lv_goto (tgt := 40) X.x X.b dM_value_36 (by decide) ?_
        refine us_pM X Y 0 rfl 0 (by decide) mB_fl_M_32 rfl rfl rfl (Nat.le_of_ble_eq_true rfl) dM_value_40 (fun H locs Y => ?_)
        have Y : us_Y D A (mW ad cI cZ (nI 2) n np k V KV I KI PN KR KC) s H locs := Y
        refine lv_aload_n X.x X.b dM_value_43 rfl (lv_at hl 0 rfl) ?_
        refine us_gM X Y 0 rfl 0 (by decide) mB_fl_M_32 rfl dM_value_44 ?_
        refine us_zeq (tgt := 54) X (by decide) dM_value_47 (by decide) (fun h0 => absurd h0 (by decide)) (fun _ => ?_)
        refine lv_iconst (v := nI 0) X.x X.b dM_value_50 (by decide) ?_
        refine lv_goto (tgt := 64) X.x X.b dM_value_51 (by decide) ?_
        exact us_iret (u := ((nI 2), n, np, k, V, KV, I, KI, PN, KR, KC)) X Y hr hlk (⟨2, Or.inr ⟨co, hco, rfl, Or.inl ⟨rfl, fun ⟨i, h3, h4, _⟩ => g1 ⟨i, h3, h4⟩⟩⟩, rfl, rfl, rfl, rfl, hM⟩) dM_value_64
    · refine lv_iconst (v := nI 1) X.x X.b dM_value_10 (by decide) ?_
      refine lv_goto (tgt := 40) X.x X.b dM_value_11 (by decide) ?_
      refine us_pM X Y 0 rfl 0 (by decide) mB_fl_M_32 rfl rfl rfl (Nat.le_of_ble_eq_true rfl) dM_value_40 (fun H locs Y => ?_)
      have Y : us_Y D A (mW ad cI cZ (nI 1) n np k V KV I KI PN KR KC) s H locs := Y
      refine lv_aload_n X.x X.b dM_value_43 rfl (lv_at hl 0 rfl) ?_
      refine us_gM X Y 0 rfl 0 (by decide) mB_fl_M_32 rfl dM_value_44 ?_
      refine us_eq1 (tgt := 54) X dM_value_47 (by decide) ?_
      refine lv_iconst (v := nI 0) X.x X.b dM_value_50 (by decide) ?_
      refine lv_goto (tgt := 64) X.x X.b dM_value_51 (by decide) ?_
      exact us_iret (u := ((nI 1), n, np, k, V, KV, I, KI, PN, KR, KC)) X Y hr hlk (⟨1, Or.inl ⟨rfl, fun ⟨c, h3, h4⟩ => h2 (by rw [h4]; exact nI_le (by omega) (by decide))⟩, rfl, rfl, rfl, rfl, hM⟩) dM_value_64
set_option maxHeartbeats 4000000 in
set_option maxRecDepth 100000 in
theorem k_M_mark (l : Launch) (D : va_G) (ad : Nat → Nat) (cI cZ : ClassId) (sz : Nat) (th : Int32) (n np k : Nat) (V KV I KI PN KR KC : Nat → Int32) (T : us_T) (nm : Nat → Int32) (sn : Nat → Nat) (sT : Nat → us_T) (sk : Nat → Nat) (hM : us_M n T k np nm sn sT sk V KV I KI PN KR KC) (x : Int32) : us_Cv l yM_mark cM_mark 3 0 0 [.ref (ad 0), .int x] D (tyM cI cZ) (mW ad cI cZ th n np k V KV I KI PN KR KC) sz (fun (u : us_SM) => ∃ cd np' nm' sn' sT' sk', us_mR n T k np nm sn sT sk x cd np' nm' sn' sT' sk' ∧ us_ms u (nI cd) n T k np' nm' sn' sT' sk') (fun (u : us_SM) => mWS ad cI cZ u) := by
  refine us_enter (own := RM) rfl (by decide) (Nat.le_of_ble_eq_true rfl) ?_
  intro p e s m below meth c ls X Y hr hlk hl
  generalize va_A (mW ad cI cZ th n np k V KV I KI PN KR KC) sz = A at X Y ⊢
  have hl : lv_has ls 3 [(0, .ref (ad 0)), (1, .int x)] := hl
  have h1n := hM.1
  have h1p := hM.2.1
  have h1k := hM.2.2.1
  have h4 := hM.2.2.2.1
  have hI := hM.2.2.2.2.1
  have hKI := hM.2.2.2.2.2.1
  have loop : ∀ (d i : Nat) (H : Heap) (locs : List Loc) (ls : Array Slot), np < 20 → i + d = 360 → us_Y D A (mW ad cI cZ (nI 0) n np k V (us_ck KV V (360 * np) i) I (us_ck KI I (360 * np) i) PN KR KC) s H locs → lv_has ls 3 [(2, .int (nI i)), (0, .ref (ad 0)), (1, .int x)] → W p l e { frames := 0, cells := 0, slots := 0, locals := 0 } s m [.ref (ad 0), .int x].toArray below meth c H locs 0 0 (us_Qv below (fun (u : us_SM) => ∃ cd np' nm' sn' sT' sk', us_mR n T k np nm sn sT sk x cd np' nm' sn' sT' sk' ∧ us_ms u (nI cd) n T k np' nm' sn' sT' sk') D (tyM cI cZ) A (fun (u : us_SM) => mWS ad cI cZ u) [.ref (ad 0), .int x] s) (F0 m 28 ls []) := by
    intro d
    induction d with
    | zero =>
      intro i H locs ls hp hi Y hl
      have ei : i = 360 := by omega
      subst ei
      refine lv_iload_n X.x X.b dM_mark_28 rfl (lv_at hl 0 rfl) ?_
      refine lv_sipush (v := nI 360) X.x X.b dM_mark_29 (by decide) ?_
      refine us_cge (tgt := 83) X (by decide) (by decide) dM_mark_32 (by decide) (fun _ => ?_) (fun h0 => absurd h0 (by decide))
      refine lv_aload_n X.x X.b dM_mark_83 rfl (lv_at hl 1 rfl) ?_
      refine us_gM X Y 0 rfl 8 (by decide) mB_fl_M_23 rfl dM_mark_84 ?_
      refine lv_aload_n X.x X.b dM_mark_87 rfl (lv_at hl 1 rfl) ?_
      refine us_gM X Y 0 rfl 2 (by decide) mB_fl_M_39 rfl dM_mark_88 ?_
      refine lv_iload_n X.x X.b dM_mark_91 rfl (lv_at hl 2 rfl) ?_
      refine us_is X Y 5 0 rfl rfl (i := np) (by omega) (by decide) dM_mark_92 (fun H locs Y => ?_)
      have Y : us_Y D A (mW ad cI cZ (nI 0) n np k V ((us_ck KV V (360 * np) 360)) I ((us_ck KI I (360 * np) 360)) ((upd PN np x)) KR KC) s H locs := Y
      refine lv_aload_n X.x X.b dM_mark_93 rfl (lv_at hl 1 rfl) ?_
      refine us_gM X Y 0 rfl 9 (by decide) mB_fl_M_26 rfl dM_mark_94 ?_
      refine lv_aload_n X.x X.b dM_mark_97 rfl (lv_at hl 1 rfl) ?_
      refine us_gM X Y 0 rfl 2 (by decide) mB_fl_M_39 rfl dM_mark_98 ?_
      refine lv_aload_n X.x X.b dM_mark_101 rfl (lv_at hl 1 rfl) ?_
      refine us_gM X Y 0 rfl 1 (by decide) mB_fl_M_36 rfl dM_mark_102 ?_
      refine us_is X Y 6 0 rfl rfl (i := np) (by omega) (by decide) dM_mark_105 (fun H locs Y => ?_)
      have Y : us_Y D A (mW ad cI cZ (nI 0) n np k V ((us_ck KV V (360 * np) 360)) I ((us_ck KI I (360 * np) 360)) ((upd PN np x)) ((upd KR np (nI n))) KC) s H locs := Y
      refine lv_aload_n X.x X.b dM_mark_106 rfl (lv_at hl 1 rfl) ?_
      refine us_gM X Y 0 rfl 10 (by decide) mB_fl_M_29 rfl dM_mark_107 ?_
      refine lv_aload_n X.x X.b dM_mark_110 rfl (lv_at hl 1 rfl) ?_
      refine us_gM X Y 0 rfl 2 (by decide) mB_fl_M_39 rfl dM_mark_111 ?_
      refine lv_aload_n X.x X.b dM_mark_114 rfl (lv_at hl 1 rfl) ?_
      refine us_gM X Y 0 rfl 3 (by decide) mB_fl_M_42 rfl dM_mark_115 ?_
      refine us_is X Y 7 0 rfl rfl (i := np) (by omega) (by decide) dM_mark_118 (fun H locs Y => ?_)
      have Y : us_Y D A (mW ad cI cZ (nI 0) n np k V ((us_ck KV V (360 * np) 360)) I ((us_ck KI I (360 * np) 360)) ((upd PN np x)) ((upd KR np (nI n))) ((upd KC np (nI k)))) s H locs := Y
      refine lv_aload_n X.x X.b dM_mark_119 rfl (lv_at hl 1 rfl) ?_
      refine lv_dup X.x X.b dM_mark_120 rfl ?_
      refine us_gM X Y 0 rfl 2 (by decide) mB_fl_M_39 rfl dM_mark_121 ?_
      refine lv_iconst (v := nI 1) X.x X.b dM_mark_124 (by decide) ?_
      refine us_iadd X dM_mark_125 ?_
      refine us_pM X Y 0 rfl 2 (by decide) mB_fl_M_39 rfl rfl rfl (Nat.le_of_ble_eq_true rfl) dM_mark_126 (fun H locs Y => ?_)
      have Y : us_Y D A (mW ad cI cZ (nI 0) n (np + 1) k V ((us_ck KV V (360 * np) 360)) I ((us_ck KI I (360 * np) 360)) ((upd PN np x)) ((upd KR np (nI n))) ((upd KC np (nI k)))) s H locs := Y
      exact us_vret (u := ((nI 0), n, (np + 1), k, V, ((us_ck KV V (360 * np) 360)), I, ((us_ck KI I (360 * np) 360)), ((upd PN np x)), ((upd KR np (nI n))), ((upd KC np (nI k))))) X Y hr hlk (⟨0, np + 1, _, _, _, _, Or.inr ⟨rfl, by omega, rfl, rfl, rfl, rfl, rfl⟩, rfl, rfl, rfl, rfl, hM.mark hp x⟩) dM_mark_129
    | succ d ih =>
      intro i H locs ls hp hi Y hl
      refine lv_iload_n X.x X.b dM_mark_28 rfl (lv_at hl 0 rfl) ?_
      refine lv_sipush (v := nI 360) X.x X.b dM_mark_29 (by decide) ?_
      refine us_cge (tgt := 83) X (by omega) (by omega) dM_mark_32 (by decide) (fun h1 => ?_) (fun h1 => ?_)
      · exact absurd h1 (by omega)
      · refine lv_aload_n X.x X.b dM_mark_35 rfl (lv_at hl 1 rfl) ?_
        refine us_gM X Y 0 rfl 5 (by decide) mB_fl_M_13 rfl dM_mark_36 ?_
        refine lv_sipush (v := nI 360) X.x X.b dM_mark_39 (by decide) ?_
        refine lv_aload_n X.x X.b dM_mark_42 rfl (lv_at hl 1 rfl) ?_
        refine us_gM X Y 0 rfl 2 (by decide) mB_fl_M_39 rfl dM_mark_43 ?_
        refine us_imul X dM_mark_46 ?_
        refine lv_iload_n X.x X.b dM_mark_47 rfl (lv_at hl 0 rfl) ?_
        refine us_iadd X dM_mark_48 ?_
        refine lv_aload_n X.x X.b dM_mark_49 rfl (lv_at hl 1 rfl) ?_
        refine us_gM X Y 0 rfl 4 (by decide) mB_fl_M_9 rfl dM_mark_50 ?_
        refine lv_iload_n X.x X.b dM_mark_53 rfl (lv_at hl 0 rfl) ?_
        refine us_ia X Y 1 0 rfl rfl (i := i) (by omega) (by decide) dM_mark_54 ?_
        refine us_is X Y 2 0 rfl rfl (i := (360 * np) + i) (by omega) (by decide) dM_mark_55 (fun H locs Y => ?_)
        have Y : us_Y D A (mW ad cI cZ (nI 0) n np k V ((upd (us_ck KV V (360 * np) i) ((360 * np) + i) (V i))) I ((us_ck KI I (360 * np) i)) PN KR KC) s H locs := Y
        refine lv_aload_n X.x X.b dM_mark_56 rfl (lv_at hl 1 rfl) ?_
        refine us_gM X Y 0 rfl 7 (by decide) mB_fl_M_20 rfl dM_mark_57 ?_
        refine lv_sipush (v := nI 360) X.x X.b dM_mark_60 (by decide) ?_
        refine lv_aload_n X.x X.b dM_mark_63 rfl (lv_at hl 1 rfl) ?_
        refine us_gM X Y 0 rfl 2 (by decide) mB_fl_M_39 rfl dM_mark_64 ?_
        refine us_imul X dM_mark_67 ?_
        refine lv_iload_n X.x X.b dM_mark_68 rfl (lv_at hl 0 rfl) ?_
        refine us_iadd X dM_mark_69 ?_
        refine lv_aload_n X.x X.b dM_mark_70 rfl (lv_at hl 1 rfl) ?_
        refine us_gM X Y 0 rfl 6 (by decide) mB_fl_M_16 rfl dM_mark_71 ?_
        refine lv_iload_n X.x X.b dM_mark_74 rfl (lv_at hl 0 rfl) ?_
        refine us_za X Y 3 1 rfl rfl (i := i) (by omega) (by decide) dM_mark_75 ?_
        refine us_zs X Y 4 1 rfl rfl (i := (360 * np) + i) (by omega) (by decide) dM_mark_76 (fun H locs Y => ?_)
        have Y : us_Y D A (mW ad cI cZ (nI 0) n np k V ((upd (us_ck KV V (360 * np) i) ((360 * np) + i) (V i))) I ((upd (us_ck KI I (360 * np) i) ((360 * np) + i) (vp_nar .boolean (I i)))) PN KR KC) s H locs := Y
        rw [us_nb (hI _), us_ck_s, us_ck_s] at Y
        refine lv_iinc (v := (nI (i + 1))) (lv' := [(2, .int (nI (i + 1))), (0, .ref (ad 0)), (1, .int x)]) X.x X.b dM_mark_77 hl (k := 0) rfl (us_inc _) (by decide) rfl (fun ls hl => ?_)
        refine lv_goto (tgt := 28) X.x X.b dM_mark_80 (by decide) ?_
        exact ih (i + 1) H locs ls hp (by omega) Y hl
  refine lv_aload_n X.x X.b dM_mark_0 rfl (lv_at hl 0 rfl) ?_
  refine lv_aload_n X.x X.b dM_mark_1 rfl (lv_at hl 0 rfl) ?_
  refine us_gM X Y 0 rfl 2 (by decide) mB_fl_M_39 rfl dM_mark_2 ?_
  refine lv_bipush (v := nI 20) X.x X.b dM_mark_5 (by decide) ?_
  refine us_cne (tgt := 14) X (by omega) (by omega) dM_mark_7 (by decide) (fun h1 => ?_) (fun h1 => ?_)
  · refine lv_iconst (v := nI 0) X.x X.b dM_mark_14 (by decide) ?_
    refine us_pM X Y 0 rfl 0 (by decide) mB_fl_M_32 rfl rfl rfl (Nat.le_of_ble_eq_true rfl) dM_mark_15 (fun H locs Y => ?_)
    have Y : us_Y D A (mW ad cI cZ (nI 0) n np k V KV I KI PN KR KC) s H locs := Y
    refine lv_aload_n X.x X.b dM_mark_18 rfl (lv_at hl 0 rfl) ?_
    refine us_gM X Y 0 rfl 0 (by decide) mB_fl_M_32 rfl dM_mark_19 ?_
    refine us_eq0 (tgt := 26) X dM_mark_22 (by decide) ?_
    refine lv_iconst (v := nI 0) X.x X.b dM_mark_26 (by decide) ?_
    refine lv_istore_n (lv' := [(2, .int (nI 0)), (0, .ref (ad 0)), (1, .int x)]) X.x X.b dM_mark_27 rfl hl (by decide) rfl (fun ls hl => ?_)
    exact loop 360 0 H locs ls (by omega) rfl (by rw [us_ck_0, us_ck_0]; exact Y) hl
  · refine lv_iconst (v := nI 1) X.x X.b dM_mark_10 (by decide) ?_
    refine lv_goto (tgt := 15) X.x X.b dM_mark_11 (by decide) ?_
    refine us_pM X Y 0 rfl 0 (by decide) mB_fl_M_32 rfl rfl rfl (Nat.le_of_ble_eq_true rfl) dM_mark_15 (fun H locs Y => ?_)
    have Y : us_Y D A (mW ad cI cZ (nI 1) n np k V KV I KI PN KR KC) s H locs := Y
    refine lv_aload_n X.x X.b dM_mark_18 rfl (lv_at hl 0 rfl) ?_
    refine us_gM X Y 0 rfl 0 (by decide) mB_fl_M_32 rfl dM_mark_19 ?_
    refine us_eq1 (tgt := 26) X dM_mark_22 (by decide) ?_
    exact us_vret (u := ((nI 1), n, np, k, V, KV, I, KI, PN, KR, KC)) X Y hr hlk (⟨1, np, nm, sn, sT, sk, Or.inl ⟨rfl, h1, rfl, rfl, rfl, rfl, rfl⟩, rfl, rfl, rfl, rfl, hM⟩) dM_mark_25
set_option maxHeartbeats 4000000 in
set_option maxRecDepth 100000 in
theorem k_M_back (l : Launch) (D : va_G) (ad : Nat → Nat) (cI cZ : ClassId) (sz : Nat) (th : Int32) (n np k : Nat) (V KV I KI PN KR KC : Nat → Int32) (T : us_T) (nm : Nat → Int32) (sn : Nat → Nat) (sT : Nat → us_T) (sk : Nat → Nat) (hM : us_M n T k np nm sn sT sk V KV I KI PN KR KC) (x : Int32) : us_Cv l yM_back cM_back 4 1 22 [.ref (ad 0), .int x] D (tyM cI cZ) (mW ad cI cZ th n np k V KV I KI PN KR KC) sz (fun (u : us_SM) => ∃ cd n' T' k' np', us_bR n T k np nm sn sT sk x cd n' T' k' np' ∧ us_ms u (nI cd) n' T' k' np' nm sn sT sk) (fun (u : us_SM) => mWS ad cI cZ u) := by
  refine us_enter (own := RM) rfl (by decide) (Nat.le_of_ble_eq_true rfl) ?_
  intro p e s m below meth c ls X Y hr hlk hl
  generalize va_A (mW ad cI cZ th n np k V KV I KI PN KR KC) sz = A at X Y ⊢
  have hl : lv_has ls 4 [(0, .ref (ad 0)), (1, .int x)] := hl
  have h1n := hM.1
  have h1p := hM.2.1
  have h1k := hM.2.2.1
  have h4 := hM.2.2.2.1
  have hI := hM.2.2.2.2.1
  have hKI := hM.2.2.2.2.2.1
  have hnm : ∀ q, q < np → PN q = nm q := fun q hq => (hM.2.2.2.2.2.2 q hq).1
  refine lv_aload_n X.x X.b dM_back_0 rfl (lv_at hl 0 rfl) ?_
  refine lv_iload_n X.x X.b dM_back_1 rfl (lv_at hl 1 rfl) ?_
  refine us_vi (rest := []) X Y (k_M_point l D ad cI cZ s.heap.size th n np k V KV I KI PN KR KC x h1p) us_I8 0 rfl rfl cv_M_67 rfl ⟨by decide, by decide⟩ ⟨by decide, by decide⟩ hl.1 rfl (Nat.le_of_ble_eq_true rfl) dM_back_2 (fun rr u H locs g1 Y => ?_)
  have Y : us_Y D A (mW ad cI cZ u n np k V KV I KI PN KR KC) s H locs := Y
  rcases g1 with ⟨pt, hp, rfl, hp2, hp3, rfl⟩ | ⟨rfl, hno, rfl⟩
  · have hlp : us_lp np nm x pt := ⟨hp, (hnm pt hp).symm.trans hp2, fun q h3 h4 => by rw [← hnm q h4]; exact hp3 q h3 h4⟩
    refine lv_istore_n (lv' := [(2, .int (nI pt)), (0, .ref (ad 0)), (1, .int x)]) X.x X.b dM_back_5 rfl hl (by decide) rfl (fun ls hl => ?_)
    refine lv_iload_n X.x X.b dM_back_6 rfl (lv_at hl 0 rfl) ?_
    refine lv_if_ge (tgt := 11) X.x X.b dM_back_7 (by decide) (fun h1 => ?_) (fun h1 => ?_)
    · obtain ⟨-, hb1, eKR, hb2, eKC, -⟩ := hM.2.2.2.2.2.2 pt hp
      have loop : ∀ (d i : Nat) (H : Heap) (locs : List Loc) (ls : Array Slot), i + d = 360 → us_Y D A (mW ad cI cZ (nI 0) n np k (us_cb V KV (360 * pt) i) KV (us_cb I KI (360 * pt) i) KI PN KR KC) s H locs → lv_has ls 4 [(3, .int (nI i)), (2, .int (nI pt)), (0, .ref (ad 0)), (1, .int x)] → W p l e { frames := 1, cells := 0, slots := 0, locals := 22 } s m [.ref (ad 0), .int x].toArray below meth c H locs 0 0 (us_Qv below (fun (u : us_SM) => ∃ cd n' T' k' np', us_bR n T k np nm sn sT sk x cd n' T' k' np' ∧ us_ms u (nI cd) n' T' k' np' nm sn sT sk) D (tyM cI cZ) A (fun (u : us_SM) => mWS ad cI cZ u) [.ref (ad 0), .int x] s) (F0 m 13 ls []) := by
        intro d
        induction d with
        | zero =>
          intro i H locs ls hi Y hl
          have ei : i = 360 := by omega
          subst ei
          refine lv_iload_n X.x X.b dM_back_13 rfl (lv_at hl 0 rfl) ?_
          refine lv_sipush (v := nI 360) X.x X.b dM_back_14 (by decide) ?_
          refine us_cge (tgt := 62) X (by decide) (by decide) dM_back_17 (by decide) (fun _ => ?_) (fun h0 => absurd h0 (by decide))
          refine lv_aload_n X.x X.b dM_back_62 rfl (lv_at hl 2 rfl) ?_
          refine lv_aload_n X.x X.b dM_back_63 rfl (lv_at hl 2 rfl) ?_
          refine us_gM X Y 0 rfl 9 (by decide) mB_fl_M_26 rfl dM_back_64 ?_
          refine lv_iload_n X.x X.b dM_back_67 rfl (lv_at hl 1 rfl) ?_
          refine us_ia X Y 6 0 rfl rfl (i := pt) (by omega) (by decide) dM_back_68 ?_
          rw [eKR]
          refine us_pM X Y 0 rfl 1 (by decide) mB_fl_M_36 rfl rfl rfl (Nat.le_of_ble_eq_true rfl) dM_back_69 (fun H locs Y => ?_)
          have Y : us_Y D A (mW ad cI cZ (nI 0) (sn pt) np k ((us_cb V KV (360 * pt) 360)) KV ((us_cb I KI (360 * pt) 360)) KI PN KR KC) s H locs := Y
          refine lv_aload_n X.x X.b dM_back_72 rfl (lv_at hl 2 rfl) ?_
          refine lv_aload_n X.x X.b dM_back_73 rfl (lv_at hl 2 rfl) ?_
          refine us_gM X Y 0 rfl 10 (by decide) mB_fl_M_29 rfl dM_back_74 ?_
          refine lv_iload_n X.x X.b dM_back_77 rfl (lv_at hl 1 rfl) ?_
          refine us_ia X Y 7 0 rfl rfl (i := pt) (by omega) (by decide) dM_back_78 ?_
          rw [eKC]
          refine us_pM X Y 0 rfl 3 (by decide) mB_fl_M_42 rfl rfl rfl (Nat.le_of_ble_eq_true rfl) dM_back_79 (fun H locs Y => ?_)
          have Y : us_Y D A (mW ad cI cZ (nI 0) (sn pt) np (sk pt) ((us_cb V KV (360 * pt) 360)) KV ((us_cb I KI (360 * pt) 360)) KI PN KR KC) s H locs := Y
          refine lv_aload_n X.x X.b dM_back_82 rfl (lv_at hl 2 rfl) ?_
          refine lv_iload_n X.x X.b dM_back_83 rfl (lv_at hl 1 rfl) ?_
          refine lv_iconst (v := nI 1) X.x X.b dM_back_84 (by decide) ?_
          refine us_iadd X dM_back_85 ?_
          refine us_pM X Y 0 rfl 2 (by decide) mB_fl_M_39 rfl rfl rfl (Nat.le_of_ble_eq_true rfl) dM_back_86 (fun H locs Y => ?_)
          have Y : us_Y D A (mW ad cI cZ (nI 0) (sn pt) (pt + 1) (sk pt) ((us_cb V KV (360 * pt) 360)) KV ((us_cb I KI (360 * pt) 360)) KI PN KR KC) s H locs := Y
          exact us_vret (u := ((nI 0), (sn pt), (pt + 1), (sk pt), ((us_cb V KV (360 * pt) 360)), KV, ((us_cb I KI (360 * pt) 360)), KI, PN, KR, KC)) X Y hr hlk (⟨0, sn pt, _, _, _, Or.inr ⟨pt, hlp, rfl, rfl, rfl, rfl, rfl⟩, rfl, rfl, rfl, rfl, hM.back hp⟩) dM_back_89
        | succ d ih =>
          intro i H locs ls hi Y hl
          refine lv_iload_n X.x X.b dM_back_13 rfl (lv_at hl 0 rfl) ?_
          refine lv_sipush (v := nI 360) X.x X.b dM_back_14 (by decide) ?_
          refine us_cge (tgt := 62) X (by omega) (by omega) dM_back_17 (by decide) (fun h3 => ?_) (fun h3 => ?_)
          · exact absurd h3 (by omega)
          · refine lv_aload_n X.x X.b dM_back_20 rfl (lv_at hl 2 rfl) ?_
            refine us_gM X Y 0 rfl 4 (by decide) mB_fl_M_9 rfl dM_back_21 ?_
            refine lv_iload_n X.x X.b dM_back_24 rfl (lv_at hl 0 rfl) ?_
            refine lv_aload_n X.x X.b dM_back_25 rfl (lv_at hl 2 rfl) ?_
            refine us_gM X Y 0 rfl 5 (by decide) mB_fl_M_13 rfl dM_back_26 ?_
            refine lv_sipush (v := nI 360) X.x X.b dM_back_29 (by decide) ?_
            refine lv_iload_n X.x X.b dM_back_32 rfl (lv_at hl 1 rfl) ?_
            refine us_imul X dM_back_33 ?_
            refine lv_iload_n X.x X.b dM_back_34 rfl (lv_at hl 0 rfl) ?_
            refine us_iadd X dM_back_35 ?_
            refine us_ia X Y 2 0 rfl rfl (i := (360 * pt) + i) (by omega) (by decide) dM_back_36 ?_
            refine us_is X Y 1 0 rfl rfl (i := i) (by omega) (by decide) dM_back_37 (fun H locs Y => ?_)
            have Y : us_Y D A (mW ad cI cZ (nI 0) n np k ((upd (us_cb V KV (360 * pt) i) i (KV ((360 * pt) + i)))) KV ((us_cb I KI (360 * pt) i)) KI PN KR KC) s H locs := Y
            refine lv_aload_n X.x X.b dM_back_38 rfl (lv_at hl 2 rfl) ?_
            refine us_gM X Y 0 rfl 6 (by decide) mB_fl_M_16 rfl dM_back_39 ?_
            refine lv_iload_n X.x X.b dM_back_42 rfl (lv_at hl 0 rfl) ?_
            refine lv_aload_n X.x X.b dM_back_43 rfl (lv_at hl 2 rfl) ?_
            refine us_gM X Y 0 rfl 7 (by decide) mB_fl_M_20 rfl dM_back_44 ?_
            refine lv_sipush (v := nI 360) X.x X.b dM_back_47 (by decide) ?_
            refine lv_iload_n X.x X.b dM_back_50 rfl (lv_at hl 1 rfl) ?_
            refine us_imul X dM_back_51 ?_
            refine lv_iload_n X.x X.b dM_back_52 rfl (lv_at hl 0 rfl) ?_
            refine us_iadd X dM_back_53 ?_
            refine us_za X Y 4 1 rfl rfl (i := (360 * pt) + i) (by omega) (by decide) dM_back_54 ?_
            refine us_zs X Y 3 1 rfl rfl (i := i) (by omega) (by decide) dM_back_55 (fun H locs Y => ?_)
            have Y : us_Y D A (mW ad cI cZ (nI 0) n np k ((upd (us_cb V KV (360 * pt) i) i (KV ((360 * pt) + i)))) KV ((upd (us_cb I KI (360 * pt) i) i (vp_nar .boolean (KI ((360 * pt) + i))))) KI PN KR KC) s H locs := Y
            rw [us_nb (hKI _), us_cb_s, us_cb_s] at Y
            refine lv_iinc (v := (nI (i + 1))) (lv' := [(3, .int (nI (i + 1))), (2, .int (nI pt)), (0, .ref (ad 0)), (1, .int x)]) X.x X.b dM_back_56 hl (k := 0) rfl (us_inc _) (by decide) rfl (fun ls hl => ?_)
            refine lv_goto (tgt := 13) X.x X.b dM_back_59 (by decide) ?_
            exact ih (i + 1) H locs ls (by omega) Y hl
      refine lv_iconst (v := nI 0) X.x X.b dM_back_11 (by decide) ?_
      refine lv_istore_n (lv' := [(3, .int (nI 0)), (2, .int (nI pt)), (0, .ref (ad 0)), (1, .int x)]) X.x X.b dM_back_12 rfl hl (by decide) rfl (fun ls hl => ?_)
      exact loop 360 0 H locs ls rfl (by rw [us_cb_0, us_cb_0]; exact Y) hl
    · exact absurd (nI_pos' (by omega)) h1
  · refine lv_istore_n (lv' := [(2, .int ((-1 : Int32))), (0, .ref (ad 0)), (1, .int x)]) X.x X.b dM_back_5 rfl hl (by decide) rfl (fun ls hl => ?_)
    refine lv_iload_n X.x X.b dM_back_6 rfl (lv_at hl 0 rfl) ?_
    refine lv_if_ge (tgt := 11) X.x X.b dM_back_7 (by decide) (fun h1 => ?_) (fun h1 => ?_)
    · exact absurd h1 (by decide)
    · exact us_vret (u := ((nI 1), n, np, k, V, KV, I, KI, PN, KR, KC)) X Y hr hlk (⟨1, n, T, k, np, Or.inl ⟨rfl, fun q hq => by rw [← hnm q hq]; exact hno q hq, rfl, rfl, rfl, rfl⟩, rfl, rfl, rfl, rfl, hM⟩) dM_back_10
set_option maxHeartbeats 4000000 in
set_option maxRecDepth 100000 in
theorem k_M_release (l : Launch) (D : va_G) (ad : Nat → Nat) (cI cZ : ClassId) (sz : Nat) (th : Int32) (n np k : Nat) (V KV I KI PN KR KC : Nat → Int32) (T : us_T) (nm : Nat → Int32) (sn : Nat → Nat) (sT : Nat → us_T) (sk : Nat → Nat) (hM : us_M n T k np nm sn sT sk V KV I KI PN KR KC) (x : Int32) : us_Cv l yM_release cM_release 3 1 22 [.ref (ad 0), .int x] D (tyM cI cZ) (mW ad cI cZ th n np k V KV I KI PN KR KC) sz (fun (u : us_SM) => ∃ cd k' np', us_lR k np nm x cd k' np' ∧ us_ms u (nI cd) n T k' np' nm sn sT sk) (fun (u : us_SM) => mWS ad cI cZ u) := by
  refine us_enter (own := RM) rfl (by decide) (Nat.le_of_ble_eq_true rfl) ?_
  intro p e s m below meth c ls X Y hr hlk hl
  generalize va_A (mW ad cI cZ th n np k V KV I KI PN KR KC) sz = A at X Y ⊢
  have hl : lv_has ls 3 [(0, .ref (ad 0)), (1, .int x)] := hl
  have h1n := hM.1
  have h1p := hM.2.1
  have h1k := hM.2.2.1
  have h4 := hM.2.2.2.1
  have hI := hM.2.2.2.2.1
  have hKI := hM.2.2.2.2.2.1
  have hnm : ∀ q, q < np → PN q = nm q := fun q hq => (hM.2.2.2.2.2.2 q hq).1
  refine lv_aload_n X.x X.b dM_release_0 rfl (lv_at hl 0 rfl) ?_
  refine lv_iload_n X.x X.b dM_release_1 rfl (lv_at hl 1 rfl) ?_
  refine us_vi (rest := []) X Y (k_M_point l D ad cI cZ s.heap.size th n np k V KV I KI PN KR KC x h1p) us_I8 0 rfl rfl cv_M_67 rfl ⟨by decide, by decide⟩ ⟨by decide, by decide⟩ hl.1 rfl (Nat.le_of_ble_eq_true rfl) dM_release_2 (fun rr u H locs g1 Y => ?_)
  have Y : us_Y D A (mW ad cI cZ u n np k V KV I KI PN KR KC) s H locs := Y
  rcases g1 with ⟨pt, hp, rfl, hp2, hp3, rfl⟩ | ⟨rfl, hno, rfl⟩
  · have hlp : us_lp np nm x pt := ⟨hp, (hnm pt hp).symm.trans hp2, fun q h3 h4 => by rw [← hnm q h4]; exact hp3 q h3 h4⟩
    refine lv_istore_n (lv' := [(2, .int (nI pt)), (0, .ref (ad 0)), (1, .int x)]) X.x X.b dM_release_5 rfl hl (by decide) rfl (fun ls hl => ?_)
    refine lv_iload_n X.x X.b dM_release_6 rfl (lv_at hl 0 rfl) ?_
    refine lv_if_ge (tgt := 11) X.x X.b dM_release_7 (by decide) (fun h1 => ?_) (fun h1 => ?_)
    · refine lv_aload_n X.x X.b dM_release_11 rfl (lv_at hl 1 rfl) ?_
      refine lv_iload_n X.x X.b dM_release_12 rfl (lv_at hl 0 rfl) ?_
      refine us_pM X Y 0 rfl 2 (by decide) mB_fl_M_39 rfl rfl rfl (Nat.le_of_ble_eq_true rfl) dM_release_13 (fun H locs Y => ?_)
      have Y : us_Y D A (mW ad cI cZ (nI 0) n pt k V KV I KI PN KR KC) s H locs := Y
      refine lv_iload_n X.x X.b dM_release_16 rfl (lv_at hl 0 rfl) ?_
      refine us_zne (tgt := 25) X (by omega) dM_release_17 (by decide) (fun h2 => ?_) (fun h2 => ?_)
      · exact us_vret (u := ((nI 0), n, pt, k, V, KV, I, KI, PN, KR, KC)) X Y hr hlk (⟨0, _, pt, Or.inr ⟨pt, hlp, rfl, rfl, rfl⟩, rfl, rfl, rfl, (if_neg (by omega)).symm, hM.rel hp⟩) dM_release_25
      · refine lv_aload_n X.x X.b dM_release_20 rfl (lv_at hl 1 rfl) ?_
        refine lv_iconst (v := nI 0) X.x X.b dM_release_21 (by decide) ?_
        refine us_pM X Y 0 rfl 3 (by decide) mB_fl_M_42 rfl rfl rfl (Nat.le_of_ble_eq_true rfl) dM_release_22 (fun H locs Y => ?_)
        have Y : us_Y D A (mW ad cI cZ (nI 0) n pt 0 V KV I KI PN KR KC) s H locs := Y
        exact us_vret (u := ((nI 0), n, pt, 0, V, KV, I, KI, PN, KR, KC)) X Y hr hlk (⟨0, _, pt, Or.inr ⟨pt, hlp, rfl, rfl, rfl⟩, rfl, rfl, rfl, (if_pos h2).symm, hM.rel hp⟩) dM_release_25
    · exact absurd (nI_pos' (by omega)) h1
  · refine lv_istore_n (lv' := [(2, .int ((-1 : Int32))), (0, .ref (ad 0)), (1, .int x)]) X.x X.b dM_release_5 rfl hl (by decide) rfl (fun ls hl => ?_)
    refine lv_iload_n X.x X.b dM_release_6 rfl (lv_at hl 0 rfl) ?_
    refine lv_if_ge (tgt := 11) X.x X.b dM_release_7 (by decide) (fun h1 => ?_) (fun h1 => ?_)
    · exact absurd h1 (by decide)
    · exact us_vret (u := ((nI 1), n, np, k, V, KV, I, KI, PN, KR, KC)) X Y hr hlk (⟨1, k, np, Or.inl ⟨rfl, fun q hq => by rw [← hnm q hq]; exact hno q hq, rfl, rfl⟩, rfl, rfl, rfl, rfl, hM⟩) dM_release_10
set_option maxHeartbeats 4000000 in
set_option maxRecDepth 100000 in
theorem k_M_count (l : Launch) (D : va_G) (ad : Nat → Nat) (cI cZ : ClassId) (sz : Nat) (th : Int32) (n np k : Nat) (V KV I KI PN KR KC : Nat → Int32) (T : us_T) (x : Int32) (hn : n ≤ 120) (h4 : us_eq n (us_tm V I) T) : us_Ci l yM_count cM_count 2 (some .int) 1 23 [.ref (ad 0), .int x] D (tyM cI cZ) (mW ad cI cZ th n np k V KV I KI PN KR KC) sz (fun r (_ : Unit) => r = us_cnt n T k np x) (fun _ => mW ad cI cZ (nI 0) n np k V KV I KI PN KR KC) := by
  refine us_enter (own := RM) rfl (by decide) (Nat.le_of_ble_eq_true rfl) ?_
  intro p e s m below meth c ls X Y hr hlk hl
  generalize va_A (mW ad cI cZ th n np k V KV I KI PN KR KC) sz = A at X Y ⊢
  have hl : lv_has ls 2 [(0, .ref (ad 0)), (1, .int x)] := hl
  refine lv_aload_n X.x X.b dM_count_0 rfl (lv_at hl 0 rfl) ?_
  refine lv_iconst (v := nI 0) X.x X.b dM_count_1 (by decide) ?_
  refine us_pM X Y 0 rfl 0 (by decide) mB_fl_M_32 rfl rfl rfl (Nat.le_of_ble_eq_true rfl) dM_count_2 (fun H locs Y => ?_)
  have Y : us_Y D A (mW ad cI cZ (nI 0) n np k V KV I KI PN KR KC) s H locs := Y
  refine lv_iload_n X.x X.b dM_count_5 rfl (lv_at hl 1 rfl) ?_
  rcases us_c5 x with rfl | rfl | rfl | rfl | rfl | h1
  · refine lv_tableIn (x := nI 0) (off := 34) (tgt := 40) X.x X.b dM_count_6 (by decide) (by decide) (by decide) (by decide) ?_
    refine lv_aload_n X.x X.b dM_count_40 rfl (lv_at hl 0 rfl) ?_
    refine us_gM X Y 0 rfl 1 (by decide) mB_fl_M_36 rfl dM_count_41 ?_
    exact us_iret (u := ()) X Y hr hlk ((us_cnt_0 n T k np).symm) dM_count_44
  · refine lv_tableIn (x := nI 1) (off := 39) (tgt := 45) X.x X.b dM_count_6 (by decide) (by decide) (by decide) (by decide) ?_
    refine lv_aload_n X.x X.b dM_count_45 rfl (lv_at hl 0 rfl) ?_
    refine us_gM X Y 0 rfl 2 (by decide) mB_fl_M_39 rfl dM_count_46 ?_
    exact us_iret (u := ()) X Y hr hlk ((us_cnt_1 n T k np).symm) dM_count_49
  · refine lv_tableIn (x := nI 2) (off := 44) (tgt := 50) X.x X.b dM_count_6 (by decide) (by decide) (by decide) (by decide) ?_
    refine lv_aload_n X.x X.b dM_count_50 rfl (lv_at hl 0 rfl) ?_
    refine us_gM X Y 0 rfl 3 (by decide) mB_fl_M_42 rfl dM_count_51 ?_
    exact us_iret (u := ()) X Y hr hlk ((us_cnt_2 n T k np).symm) dM_count_54
  · refine lv_tableIn (x := nI 3) (off := 49) (tgt := 55) X.x X.b dM_count_6 (by decide) (by decide) (by decide) (by decide) ?_
    refine lv_aload_n X.x X.b dM_count_55 rfl (lv_at hl 0 rfl) ?_
    refine lv_iconst (v := nI 1) X.x X.b dM_count_56 (by decide) ?_
    refine us_vi (rest := []) X Y (k_M_nones l D ad cI cZ H.size (nI 0) n np k V KV I KI PN KR KC 1 hn (by decide)) us_I8 0 rfl rfl cv_M_70 rfl ⟨by decide, by decide⟩ ⟨by decide, by decide⟩ hl.1 rfl (Nat.le_of_ble_eq_true rfl) dM_count_57 (fun rr u H locs g1 Y => ?_)
    have Y : us_Y D A (mW ad cI cZ (nI 0) n np k V KV I KI PN KR KC) s H locs := Y
    exact us_iret (u := ()) X Y hr hlk (by rw [g1, us_cn_eq (by decide) h4]; exact (us_cnt_3 n T k np).symm) dM_count_60
  · refine lv_tableIn (x := nI 4) (off := 55) (tgt := 61) X.x X.b dM_count_6 (by decide) (by decide) (by decide) (by decide) ?_
    refine lv_aload_n X.x X.b dM_count_61 rfl (lv_at hl 0 rfl) ?_
    refine lv_iconst (v := nI 2) X.x X.b dM_count_62 (by decide) ?_
    refine us_vi (rest := []) X Y (k_M_nones l D ad cI cZ H.size (nI 0) n np k V KV I KI PN KR KC 2 hn (by decide)) us_I8 0 rfl rfl cv_M_70 rfl ⟨by decide, by decide⟩ ⟨by decide, by decide⟩ hl.1 rfl (Nat.le_of_ble_eq_true rfl) dM_count_63 (fun rr u H locs g1 Y => ?_)
    have Y : us_Y D A (mW ad cI cZ (nI 0) n np k V KV I KI PN KR KC) s H locs := Y
    exact us_iret (u := ()) X Y hr hlk (by rw [g1, us_cn_eq (by decide) h4]; exact (us_cnt_4 n T k np).symm) dM_count_66
  · refine lv_tableOut (tgt := 67) X.x X.b dM_count_6 h1 (by decide) ?_
    refine lv_iconst (v := (-1 : Int32)) X.x X.b dM_count_67 (by decide) ?_
    exact us_iret (u := ()) X Y hr hlk ((us_cnt_o h1).symm) dM_count_68
