/-! 51.help (laid by wip/whole/gen/help.py): the law's helpers: what a call throws, as a number. -/
set_option maxHeartbeats 4000000 in
set_option maxRecDepth 100000 in
theorem k_L_insert (l : Launch) (D : va_G) (ad : Nat → Nat) (cI : ClassId) (sz : Nat) (C PN CA CK CR CB : Nat → Int32) (n np k : Nat) (cJ : ClassId) (O : Nat → Int64) (T : us_T) (nm : Nat → Int32) (sn : Nat → Nat) (sT : Nat → us_T) (sk : Nat → Nat) (hU : us_U n T k np nm sn sT sk C PN CA CK CR CB) (hl9 : l.stackTraces = false) (va vb vc vh : Int32) : us_Hi l yL_insert cL_insert 7 [(0, 14, 17, 13), (0, 14, 21, 15)] 7 126 [.ref (ad 0), .int va, .int vb, .int vc, .int vh, .ref (ad 7)] D (tyO cI cJ) (oW ad cJ O :: uW ad cI C n PN CA np CK CR CB k) sz (fun r (u : us_SU × (Nat → Int64)) => ∃ cd ans n' T' k', r = nI cd ∧ us_iR n T k np va vb vc vh cd ans n' T' k' ∧ us_us u.1 n' T' k' np nm sn sT sk ∧ (cd = 0 → u.2 0 = ans.toInt64)) (fun (u : us_SU × (Nat → Int64)) => oW ad cJ u.2 :: uWS ad cI u.1) := by
  refine us_enterH (own := RL) rfl (by decide) (Nat.le_of_ble_eq_true rfl) ?_
  intro p e s m below meth c ls X Y hE htab hr hlk hl
  generalize va_A (oW ad cJ O :: uW ad cI C n PN CA np CK CR CB k) sz = A at X Y hE ⊢
  have hl : lv_has ls 7 [(0, .ref (ad 0)), (1, .int va), (2, .int vb), (3, .int vc), (4, .int vh), (5, .ref (ad 7))] := hl
  refine lv_aload X.x X.b dL_insert_0 (lv_at hl 5 rfl) ?_
  refine lv_iconst (v := nI 0) X.x X.b dL_insert_2 (by decide) ?_
  refine lv_aload_n X.x X.b dL_insert_3 rfl (lv_at hl 0 rfl) ?_
  refine lv_iload_n X.x X.b dL_insert_4 rfl (lv_at hl 1 rfl) ?_
  refine lv_iload_n X.x X.b dL_insert_5 rfl (lv_at hl 2 rfl) ?_
  refine lv_iload_n X.x X.b dL_insert_6 rfl (lv_at hl 3 rfl) ?_
  refine lv_iload X.x X.b dL_insert_7 (lv_at hl 4 rfl) ?_
  refine us_xi (rest := [.int (nI 0), .ref (ad 7)]) X Y hE (k_U_insert l D ad cI s.heap.size C PN CA CK CR CB n np k T nm sn sT sk hU hl9 va vb vc vh) us_IO 0 rfl rfl cv_L_7 rfl ⟨by decide, by decide⟩ ⟨by decide, by decide⟩ hl.1 rfl (Nat.le_of_ble_eq_true rfl) dL_insert_9 (fun E ce q9 H locs hpx Y hce hcv hcl => ?_) (fun rr u H locs hw Y => ?_)
  · have Y : us_Y D A (oW ad cJ O :: uW ad cI C n PN CA np CK CR CB k) s H locs := Y
    rcases hpx with ⟨rfl, hR⟩ | ⟨rfl, hR⟩
    · refine vx_catch (own := RL) (name := EIA) X.o [] ⟨0, 14, 17, 13⟩ [⟨0, 14, 21, 15⟩] (by rw [htab]; rfl) (fun z hz => nomatch hz) (by decide) (by decide) (X.w mB_cl_L_13) (va_Nw.use rfl (hE.1 _ us_bIA)) hce hcv hcl ?_
      refine lv_astore (lv' := [(6, .ref q9), (0, .ref (ad 0)), (1, .int va), (2, .int vb), (3, .int vc), (4, .int vh), (5, .ref (ad 7))]) X.x X.b dL_insert_17 hl (by decide) rfl (fun ls hl => ?_)
      refine lv_iconst (v := nI 1) X.x X.b dL_insert_19 (by decide) ?_
      exact us_iret (u := ((n, np, k, C, PN, CA, CK, CR, CB), O)) X Y hr hlk ⟨1, 0, n, T, k, rfl, hR, ⟨rfl, rfl, rfl, hU⟩, fun z => absurd z (by decide)⟩ dL_insert_20
    · refine vx_catch (own := RL) (name := EIS) X.o [⟨0, 14, 17, 13⟩] ⟨0, 14, 21, 15⟩ [] (by rw [htab]; rfl) (fun z hz => by cases List.mem_singleton.mp hz; exact Or.inr ⟨by decide, EIA, X.w mB_cl_L_13, hE.2.1.1⟩) (by decide) (by decide) (X.w mB_cl_L_15) (va_Nw.use rfl (hE.1 _ us_bIS)) hce hcv hcl ?_
      refine lv_astore (lv' := [(6, .ref q9), (0, .ref (ad 0)), (1, .int va), (2, .int vb), (3, .int vc), (4, .int vh), (5, .ref (ad 7))]) X.x X.b dL_insert_21 hl (by decide) rfl (fun ls hl => ?_)
      refine lv_iconst (v := nI 2) X.x X.b dL_insert_23 (by decide) ?_
      exact us_iret (u := ((n, np, k, C, PN, CA, CK, CR, CB), O)) X Y hr hlk ⟨2, 0, n, T, k, rfl, hR, ⟨rfl, rfl, rfl, hU⟩, fun z => absurd z (by decide)⟩ dL_insert_24
  · obtain ⟨n', T', k', hR, hu⟩ := hw
    have Y : us_Y D A (oW ad cJ O :: uWS ad cI u) s H locs := Y
    refine lv_i2l (v := rr.toInt64) X.x X.b dL_insert_12 rfl ?_
    refine us_ls X Y 0 1 rfl rfl (i := 0) (by decide) (by decide) dL_insert_13 (fun H locs Y => ?_)
    have Y : us_Y D A (oW ad cJ (vp_updL O 0 rr.toInt64) :: uWS ad cI u) s H locs := Y
    refine lv_goto (tgt := 25) X.x X.b dL_insert_14 (by decide) ?_
    refine lv_iconst (v := nI 0) X.x X.b dL_insert_25 (by decide) ?_
    exact us_iret (u := (u, vp_updL O 0 rr.toInt64)) X Y hr hlk ⟨0, rr, n', T', k', rfl, hR, hu, fun _ => pk_uLs (f := O) (k := 0) (x := rr.toInt64)⟩ dL_insert_26
set_option maxHeartbeats 4000000 in
set_option maxRecDepth 100000 in
theorem k_L_set (l : Launch) (D : va_G) (ad : Nat → Nat) (cI : ClassId) (sz : Nat) (C PN CA CK CR CB : Nat → Int32) (n np k : Nat) (T : us_T) (nm : Nat → Int32) (sn : Nat → Nat) (sT : Nat → us_T) (sk : Nat → Nat) (hU : us_U n T k np nm sn sT sk C PN CA CK CR CB) (hl9 : l.stackTraces = false) (vr vco vv vz : Int32) : us_Hi l yL_set cL_set 6 [(0, 9, 12, 13), (0, 9, 16, 15), (0, 9, 20, 21)] 7 126 [.ref (ad 0), .int vr, .int vco, .int vv, .int vz] D (tyU cI) (uW ad cI C n PN CA np CK CR CB k) sz (fun r (u : us_SU) => ∃ cd T' k', r = nI cd ∧ us_sR n T k np vr vco vv vz cd T' k' ∧ us_us u n T' k' np nm sn sT sk) (fun (u : us_SU) => uWS ad cI u) := by
  refine us_enterH (own := RL) rfl (by decide) (Nat.le_of_ble_eq_true rfl) ?_
  intro p e s m below meth c ls X Y hE htab hr hlk hl
  generalize va_A (uW ad cI C n PN CA np CK CR CB k) sz = A at X Y hE ⊢
  have hl : lv_has ls 6 [(0, .ref (ad 0)), (1, .int vr), (2, .int vco), (3, .int vv), (4, .int vz)] := hl
  refine lv_aload_n X.x X.b dL_set_0 rfl (lv_at hl 0 rfl) ?_
  refine lv_iload_n X.x X.b dL_set_1 rfl (lv_at hl 1 rfl) ?_
  refine lv_iload_n X.x X.b dL_set_2 rfl (lv_at hl 2 rfl) ?_
  refine lv_iload_n X.x X.b dL_set_3 rfl (lv_at hl 3 rfl) ?_
  refine lv_iload X.x X.b dL_set_4 (lv_at hl 4 rfl) ?_
  refine us_xv (rest := []) X Y hE (k_U_set l D ad cI s.heap.size C PN CA CK CR CB n np k T nm sn sT sk hU hl9 vr vco vv vz) us_I7 0 rfl rfl cv_L_17 rfl ⟨by decide, by decide⟩ ⟨by decide, by decide⟩ hl.1 rfl (Nat.le_of_ble_eq_true rfl) dL_set_6 (fun E ce q9 H locs hpx Y hce hcv hcl => ?_) (fun u H locs hw Y => ?_)
  · have Y : us_Y D A (uW ad cI C n PN CA np CK CR CB k) s H locs := Y
    rcases hpx with ⟨rfl, hR⟩ | ⟨rfl, hR⟩ | ⟨rfl, hR⟩
    · refine vx_catch (own := RL) (name := EIA) X.o [] ⟨0, 9, 12, 13⟩ [⟨0, 9, 16, 15⟩, ⟨0, 9, 20, 21⟩] (by rw [htab]; rfl) (fun z hz => nomatch hz) (by decide) (by decide) (X.w mB_cl_L_13) (va_Nw.use rfl (hE.1 _ us_bIA)) hce hcv hcl ?_
      refine lv_astore (lv' := [(5, .ref q9), (0, .ref (ad 0)), (1, .int vr), (2, .int vco), (3, .int vv), (4, .int vz)]) X.x X.b dL_set_12 hl (by decide) rfl (fun ls hl => ?_)
      refine lv_iconst (v := nI 1) X.x X.b dL_set_14 (by decide) ?_
      exact us_iret (u := (n, np, k, C, PN, CA, CK, CR, CB)) X Y hr hlk ⟨1, T, k, rfl, hR, ⟨rfl, rfl, rfl, hU⟩⟩ dL_set_15
    · refine vx_catch (own := RL) (name := EIS) X.o [⟨0, 9, 12, 13⟩] ⟨0, 9, 16, 15⟩ [⟨0, 9, 20, 21⟩] (by rw [htab]; rfl) (fun z hz => by cases List.mem_singleton.mp hz; exact Or.inr ⟨by decide, EIA, X.w mB_cl_L_13, hE.2.1.1⟩) (by decide) (by decide) (X.w mB_cl_L_15) (va_Nw.use rfl (hE.1 _ us_bIS)) hce hcv hcl ?_
      refine lv_astore (lv' := [(5, .ref q9), (0, .ref (ad 0)), (1, .int vr), (2, .int vco), (3, .int vv), (4, .int vz)]) X.x X.b dL_set_16 hl (by decide) rfl (fun ls hl => ?_)
      refine lv_iconst (v := nI 2) X.x X.b dL_set_18 (by decide) ?_
      exact us_iret (u := (n, np, k, C, PN, CA, CK, CR, CB)) X Y hr hlk ⟨2, T, k, rfl, hR, ⟨rfl, rfl, rfl, hU⟩⟩ dL_set_19
    · refine vx_catch (own := RL) (name := ENS) X.o [⟨0, 9, 12, 13⟩, ⟨0, 9, 16, 15⟩] ⟨0, 9, 20, 21⟩ [] (by rw [htab]; rfl) (fun z hz => by rcases List.mem_cons.mp hz with rfl | hz; exact Or.inr ⟨by decide, EIA, X.w mB_cl_L_13, hE.2.1.2.1⟩; cases List.mem_singleton.mp hz; exact Or.inr ⟨by decide, EIS, X.w mB_cl_L_15, hE.2.1.2.2⟩) (by decide) (by decide) (X.w mB_cl_L_21) (va_Nw.use rfl (hE.1 _ us_bNS)) hce hcv hcl ?_
      refine lv_astore (lv' := [(5, .ref q9), (0, .ref (ad 0)), (1, .int vr), (2, .int vco), (3, .int vv), (4, .int vz)]) X.x X.b dL_set_20 hl (by decide) rfl (fun ls hl => ?_)
      refine lv_iconst (v := nI 3) X.x X.b dL_set_22 (by decide) ?_
      exact us_iret (u := (n, np, k, C, PN, CA, CK, CR, CB)) X Y hr hlk ⟨3, T, k, rfl, hR, ⟨rfl, rfl, rfl, hU⟩⟩ dL_set_23
  · obtain ⟨T', k', hR, hu⟩ := hw
    have Y : us_Y D A (uWS ad cI u) s H locs := Y
    refine lv_goto (tgt := 24) X.x X.b dL_set_9 (by decide) ?_
    refine lv_iconst (v := nI 0) X.x X.b dL_set_24 (by decide) ?_
    exact us_iret (u := u) X Y hr hlk ⟨0, T', k', rfl, hR, hu⟩ dL_set_25
set_option maxHeartbeats 4000000 in
set_option maxRecDepth 100000 in
theorem k_L_remove (l : Launch) (D : va_G) (ad : Nat → Nat) (cI : ClassId) (sz : Nat) (C PN CA CK CR CB : Nat → Int32) (n np k : Nat) (T : us_T) (nm : Nat → Int32) (sn : Nat → Nat) (sT : Nat → us_T) (sk : Nat → Nat) (hU : us_U n T k np nm sn sT sk C PN CA CK CR CB) (hl9 : l.stackTraces = false) (vr : Int32) : us_Hi l yL_remove cL_remove 3 [(0, 5, 8, 15), (0, 5, 11, 21)] 7 126 [.ref (ad 0), .int vr] D (tyU cI) (uW ad cI C n PN CA np CK CR CB k) sz (fun r (u : us_SU) => ∃ cd n' T' k', r = nI cd ∧ us_rR n T k np vr cd n' T' k' ∧ us_us u n' T' k' np nm sn sT sk) (fun (u : us_SU) => uWS ad cI u) := by
  refine us_enterH (own := RL) rfl (by decide) (Nat.le_of_ble_eq_true rfl) ?_
  intro p e s m below meth c ls X Y hE htab hr hlk hl
  generalize va_A (uW ad cI C n PN CA np CK CR CB k) sz = A at X Y hE ⊢
  have hl : lv_has ls 3 [(0, .ref (ad 0)), (1, .int vr)] := hl
  refine lv_aload_n X.x X.b dL_remove_0 rfl (lv_at hl 0 rfl) ?_
  refine lv_iload_n X.x X.b dL_remove_1 rfl (lv_at hl 1 rfl) ?_
  refine us_xv (rest := []) X Y hE (k_U_remove l D ad cI s.heap.size C PN CA CK CR CB n np k T nm sn sT sk hU hl9 vr) us_I7 0 rfl rfl cv_L_23 rfl ⟨by decide, by decide⟩ ⟨by decide, by decide⟩ hl.1 rfl (Nat.le_of_ble_eq_true rfl) dL_remove_2 (fun E ce q9 H locs hpx Y hce hcv hcl => ?_) (fun u H locs hw Y => ?_)
  · have Y : us_Y D A (uW ad cI C n PN CA np CK CR CB k) s H locs := Y
    rcases hpx with ⟨rfl, hR⟩ | ⟨rfl, hR⟩
    · refine vx_catch (own := RL) (name := EIS) X.o [] ⟨0, 5, 8, 15⟩ [⟨0, 5, 11, 21⟩] (by rw [htab]; rfl) (fun z hz => nomatch hz) (by decide) (by decide) (X.w mB_cl_L_15) (va_Nw.use rfl (hE.1 _ us_bIS)) hce hcv hcl ?_
      refine lv_astore_n (lv' := [(2, .ref q9), (0, .ref (ad 0)), (1, .int vr)]) X.x X.b dL_remove_8 rfl hl (by decide) rfl (fun ls hl => ?_)
      refine lv_iconst (v := nI 1) X.x X.b dL_remove_9 (by decide) ?_
      exact us_iret (u := (n, np, k, C, PN, CA, CK, CR, CB)) X Y hr hlk ⟨1, n, T, k, rfl, hR, ⟨rfl, rfl, rfl, hU⟩⟩ dL_remove_10
    · refine vx_catch (own := RL) (name := ENS) X.o [⟨0, 5, 8, 15⟩] ⟨0, 5, 11, 21⟩ [] (by rw [htab]; rfl) (fun z hz => by cases List.mem_singleton.mp hz; exact Or.inr ⟨by decide, EIS, X.w mB_cl_L_15, hE.2.1.2.2⟩) (by decide) (by decide) (X.w mB_cl_L_21) (va_Nw.use rfl (hE.1 _ us_bNS)) hce hcv hcl ?_
      refine lv_astore_n (lv' := [(2, .ref q9), (0, .ref (ad 0)), (1, .int vr)]) X.x X.b dL_remove_11 rfl hl (by decide) rfl (fun ls hl => ?_)
      refine lv_iconst (v := nI 2) X.x X.b dL_remove_12 (by decide) ?_
      exact us_iret (u := (n, np, k, C, PN, CA, CK, CR, CB)) X Y hr hlk ⟨2, n, T, k, rfl, hR, ⟨rfl, rfl, rfl, hU⟩⟩ dL_remove_13
  · obtain ⟨n', T', k', hR, hu⟩ := hw
    have Y : us_Y D A (uWS ad cI u) s H locs := Y
    refine lv_goto (tgt := 14) X.x X.b dL_remove_5 (by decide) ?_
    refine lv_iconst (v := nI 0) X.x X.b dL_remove_14 (by decide) ?_
    exact us_iret (u := u) X Y hr hlk ⟨0, n', T', k', rfl, hR, hu⟩ dL_remove_15
set_option maxHeartbeats 4000000 in
set_option maxRecDepth 100000 in
theorem k_L_removeAll (l : Launch) (D : va_G) (ad : Nat → Nat) (cI : ClassId) (sz : Nat) (C PN CA CK CR CB : Nat → Int32) (n np k : Nat) (cJ : ClassId) (O : Nat → Int64) (T : us_T) (nm : Nat → Int32) (sn : Nat → Nat) (sT : Nat → us_T) (sk : Nat → Nat) (hU : us_U n T k np nm sn sT sk C PN CA CK CR CB) (hl9 : l.stackTraces = false) (vco vv : Int32) : us_Hi l yL_removeAll cL_removeAll 5 [(0, 10, 13, 13), (0, 10, 17, 15)] 7 126 [.ref (ad 0), .int vco, .int vv, .ref (ad 7)] D (tyO cI cJ) (oW ad cJ O :: uW ad cI C n PN CA np CK CR CB k) sz (fun r (u : us_SU × (Nat → Int64)) => ∃ cd ans n' T' k', r = nI cd ∧ us_aR n T k np vco vv cd ans n' T' k' ∧ us_us u.1 n' T' k' np nm sn sT sk ∧ (cd = 0 → u.2 0 = ans.toInt64)) (fun (u : us_SU × (Nat → Int64)) => oW ad cJ u.2 :: uWS ad cI u.1) := by
  refine us_enterH (own := RL) rfl (by decide) (Nat.le_of_ble_eq_true rfl) ?_
  intro p e s m below meth c ls X Y hE htab hr hlk hl
  generalize va_A (oW ad cJ O :: uW ad cI C n PN CA np CK CR CB k) sz = A at X Y hE ⊢
  have hl : lv_has ls 5 [(0, .ref (ad 0)), (1, .int vco), (2, .int vv), (3, .ref (ad 7))] := hl
  refine lv_aload_n X.x X.b dL_removeAll_0 rfl (lv_at hl 3 rfl) ?_
  refine lv_iconst (v := nI 0) X.x X.b dL_removeAll_1 (by decide) ?_
  refine lv_aload_n X.x X.b dL_removeAll_2 rfl (lv_at hl 0 rfl) ?_
  refine lv_iload_n X.x X.b dL_removeAll_3 rfl (lv_at hl 1 rfl) ?_
  refine lv_iload_n X.x X.b dL_removeAll_4 rfl (lv_at hl 2 rfl) ?_
  refine us_xi (rest := [.int (nI 0), .ref (ad 7)]) X Y hE (k_U_removeAll l D ad cI s.heap.size C PN CA CK CR CB n np k T nm sn sT sk hU hl9 vco vv) us_IO 0 rfl rfl cv_L_27 rfl ⟨by decide, by decide⟩ ⟨by decide, by decide⟩ hl.1 rfl (Nat.le_of_ble_eq_true rfl) dL_removeAll_5 (fun E ce q9 H locs hpx Y hce hcv hcl => ?_) (fun rr u H locs hw Y => ?_)
  · have Y : us_Y D A (oW ad cJ O :: uW ad cI C n PN CA np CK CR CB k) s H locs := Y
    rcases hpx with ⟨rfl, hR⟩ | ⟨rfl, hR⟩
    · refine vx_catch (own := RL) (name := EIA) X.o [] ⟨0, 10, 13, 13⟩ [⟨0, 10, 17, 15⟩] (by rw [htab]; rfl) (fun z hz => nomatch hz) (by decide) (by decide) (X.w mB_cl_L_13) (va_Nw.use rfl (hE.1 _ us_bIA)) hce hcv hcl ?_
      refine lv_astore (lv' := [(4, .ref q9), (0, .ref (ad 0)), (1, .int vco), (2, .int vv), (3, .ref (ad 7))]) X.x X.b dL_removeAll_13 hl (by decide) rfl (fun ls hl => ?_)
      refine lv_iconst (v := nI 1) X.x X.b dL_removeAll_15 (by decide) ?_
      exact us_iret (u := ((n, np, k, C, PN, CA, CK, CR, CB), O)) X Y hr hlk ⟨1, 0, n, T, k, rfl, hR, ⟨rfl, rfl, rfl, hU⟩, fun z => absurd z (by decide)⟩ dL_removeAll_16
    · refine vx_catch (own := RL) (name := EIS) X.o [⟨0, 10, 13, 13⟩] ⟨0, 10, 17, 15⟩ [] (by rw [htab]; rfl) (fun z hz => by cases List.mem_singleton.mp hz; exact Or.inr ⟨by decide, EIA, X.w mB_cl_L_13, hE.2.1.1⟩) (by decide) (by decide) (X.w mB_cl_L_15) (va_Nw.use rfl (hE.1 _ us_bIS)) hce hcv hcl ?_
      refine lv_astore (lv' := [(4, .ref q9), (0, .ref (ad 0)), (1, .int vco), (2, .int vv), (3, .ref (ad 7))]) X.x X.b dL_removeAll_17 hl (by decide) rfl (fun ls hl => ?_)
      refine lv_iconst (v := nI 2) X.x X.b dL_removeAll_19 (by decide) ?_
      exact us_iret (u := ((n, np, k, C, PN, CA, CK, CR, CB), O)) X Y hr hlk ⟨2, 0, n, T, k, rfl, hR, ⟨rfl, rfl, rfl, hU⟩, fun z => absurd z (by decide)⟩ dL_removeAll_20
  · obtain ⟨n', T', k', hR, hu⟩ := hw
    have Y : us_Y D A (oW ad cJ O :: uWS ad cI u) s H locs := Y
    refine lv_i2l (v := rr.toInt64) X.x X.b dL_removeAll_8 rfl ?_
    refine us_ls X Y 0 1 rfl rfl (i := 0) (by decide) (by decide) dL_removeAll_9 (fun H locs Y => ?_)
    have Y : us_Y D A (oW ad cJ (vp_updL O 0 rr.toInt64) :: uWS ad cI u) s H locs := Y
    refine lv_goto (tgt := 21) X.x X.b dL_removeAll_10 (by decide) ?_
    refine lv_iconst (v := nI 0) X.x X.b dL_removeAll_21 (by decide) ?_
    exact us_iret (u := (u, vp_updL O 0 rr.toInt64)) X Y hr hlk ⟨0, rr, n', T', k', rfl, hR, hu, fun _ => pk_uLs (f := O) (k := 0) (x := rr.toInt64)⟩ dL_removeAll_22
set_option maxHeartbeats 4000000 in
set_option maxRecDepth 100000 in
theorem k_L_find (l : Launch) (D : va_G) (ad : Nat → Nat) (cI : ClassId) (sz : Nat) (C PN CA CK CR CB : Nat → Int32) (n np k : Nat) (cJ : ClassId) (O : Nat → Int64) (T : us_T) (nm : Nat → Int32) (sn : Nat → Nat) (sT : Nat → us_T) (sk : Nat → Nat) (hU : us_U n T k np nm sn sT sk C PN CA CK CR CB) (hl9 : l.stackTraces = false) (vco vv : Int32) : us_Hi l yL_find cL_find 5 [(0, 10, 13, 13)] 7 126 [.ref (ad 0), .int vco, .int vv, .ref (ad 7)] D (tyO cI cJ) (oW ad cJ O :: uW ad cI C n PN CA np CK CR CB k) sz (fun r (u : us_SU × (Nat → Int64)) => ∃ cd ans, r = nI cd ∧ us_fR n T vco vv cd ans ∧ us_us u.1 n T k np nm sn sT sk ∧ (cd = 0 → u.2 0 = ans.toInt64)) (fun (u : us_SU × (Nat → Int64)) => oW ad cJ u.2 :: uWS ad cI u.1) := by
  refine us_enterH (own := RL) rfl (by decide) (Nat.le_of_ble_eq_true rfl) ?_
  intro p e s m below meth c ls X Y hE htab hr hlk hl
  generalize va_A (oW ad cJ O :: uW ad cI C n PN CA np CK CR CB k) sz = A at X Y hE ⊢
  have hl : lv_has ls 5 [(0, .ref (ad 0)), (1, .int vco), (2, .int vv), (3, .ref (ad 7))] := hl
  refine lv_aload_n X.x X.b dL_find_0 rfl (lv_at hl 3 rfl) ?_
  refine lv_iconst (v := nI 0) X.x X.b dL_find_1 (by decide) ?_
  refine lv_aload_n X.x X.b dL_find_2 rfl (lv_at hl 0 rfl) ?_
  refine lv_iload_n X.x X.b dL_find_3 rfl (lv_at hl 1 rfl) ?_
  refine lv_iload_n X.x X.b dL_find_4 rfl (lv_at hl 2 rfl) ?_
  refine us_xi (rest := [.int (nI 0), .ref (ad 7)]) X Y hE (k_U_find l D ad cI s.heap.size C PN CA CK CR CB n np k T nm sn sT sk hU hl9 vco vv) us_IO 0 rfl rfl cv_L_31 rfl ⟨by decide, by decide⟩ ⟨by decide, by decide⟩ hl.1 rfl (Nat.le_of_ble_eq_true rfl) dL_find_5 (fun E ce q9 H locs hpx Y hce hcv hcl => ?_) (fun rr u H locs hw Y => ?_)
  · have Y : us_Y D A (oW ad cJ O :: uW ad cI C n PN CA np CK CR CB k) s H locs := Y
    obtain ⟨rfl, hR⟩ := hpx
    refine vx_catch (own := RL) (name := EIA) X.o [] ⟨0, 10, 13, 13⟩ [] (by rw [htab]; rfl) (fun z hz => nomatch hz) (by decide) (by decide) (X.w mB_cl_L_13) (va_Nw.use rfl (hE.1 _ us_bIA)) hce hcv hcl ?_
    refine lv_astore (lv' := [(4, .ref q9), (0, .ref (ad 0)), (1, .int vco), (2, .int vv), (3, .ref (ad 7))]) X.x X.b dL_find_13 hl (by decide) rfl (fun ls hl => ?_)
    refine lv_iconst (v := nI 1) X.x X.b dL_find_15 (by decide) ?_
    exact us_iret (u := ((n, np, k, C, PN, CA, CK, CR, CB), O)) X Y hr hlk ⟨1, 0, rfl, hR, ⟨rfl, rfl, rfl, hU⟩, fun z => absurd z (by decide)⟩ dL_find_16
  · obtain ⟨hR, hu⟩ := hw
    have Y : us_Y D A (oW ad cJ O :: uWS ad cI u) s H locs := Y
    refine lv_i2l (v := rr.toInt64) X.x X.b dL_find_8 rfl ?_
    refine us_ls X Y 0 1 rfl rfl (i := 0) (by decide) (by decide) dL_find_9 (fun H locs Y => ?_)
    have Y : us_Y D A (oW ad cJ (vp_updL O 0 rr.toInt64) :: uWS ad cI u) s H locs := Y
    refine lv_goto (tgt := 17) X.x X.b dL_find_10 (by decide) ?_
    refine lv_iconst (v := nI 0) X.x X.b dL_find_17 (by decide) ?_
    exact us_iret (u := (u, vp_updL O 0 rr.toInt64)) X Y hr hlk ⟨0, rr, rfl, hR, hu, fun _ => pk_uLs (f := O) (k := 0) (x := rr.toInt64)⟩ dL_find_18
set_option maxHeartbeats 4000000 in
set_option maxRecDepth 100000 in
theorem k_L_value (l : Launch) (D : va_G) (ad : Nat → Nat) (cI : ClassId) (sz : Nat) (C PN CA CK CR CB : Nat → Int32) (n np k : Nat) (cJ : ClassId) (O : Nat → Int64) (T : us_T) (nm : Nat → Int32) (sn : Nat → Nat) (sT : Nat → us_T) (sk : Nat → Nat) (hU : us_U n T k np nm sn sT sk C PN CA CK CR CB) (hl9 : l.stackTraces = false) (vr vco : Int32) : us_Hi l yL_value cL_value 5 [(0, 10, 13, 13), (0, 10, 17, 21)] 7 126 [.ref (ad 0), .int vr, .int vco, .ref (ad 7)] D (tyO cI cJ) (oW ad cJ O :: uW ad cI C n PN CA np CK CR CB k) sz (fun r (u : us_SU × (Nat → Int64)) => ∃ cd ans, r = nI cd ∧ us_vR n T vr vco cd ans ∧ us_us u.1 n T k np nm sn sT sk ∧ (cd = 0 → u.2 0 = ans.toInt64)) (fun (u : us_SU × (Nat → Int64)) => oW ad cJ u.2 :: uWS ad cI u.1) := by
  refine us_enterH (own := RL) rfl (by decide) (Nat.le_of_ble_eq_true rfl) ?_
  intro p e s m below meth c ls X Y hE htab hr hlk hl
  generalize va_A (oW ad cJ O :: uW ad cI C n PN CA np CK CR CB k) sz = A at X Y hE ⊢
  have hl : lv_has ls 5 [(0, .ref (ad 0)), (1, .int vr), (2, .int vco), (3, .ref (ad 7))] := hl
  refine lv_aload_n X.x X.b dL_value_0 rfl (lv_at hl 3 rfl) ?_
  refine lv_iconst (v := nI 0) X.x X.b dL_value_1 (by decide) ?_
  refine lv_aload_n X.x X.b dL_value_2 rfl (lv_at hl 0 rfl) ?_
  refine lv_iload_n X.x X.b dL_value_3 rfl (lv_at hl 1 rfl) ?_
  refine lv_iload_n X.x X.b dL_value_4 rfl (lv_at hl 2 rfl) ?_
  refine us_xi (rest := [.int (nI 0), .ref (ad 7)]) X Y hE (k_U_value l D ad cI s.heap.size C PN CA CK CR CB n np k T nm sn sT sk hU hl9 vr vco) us_IO 0 rfl rfl cv_L_34 rfl ⟨by decide, by decide⟩ ⟨by decide, by decide⟩ hl.1 rfl (Nat.le_of_ble_eq_true rfl) dL_value_5 (fun E ce q9 H locs hpx Y hce hcv hcl => ?_) (fun rr u H locs hw Y => ?_)
  · have Y : us_Y D A (oW ad cJ O :: uW ad cI C n PN CA np CK CR CB k) s H locs := Y
    rcases hpx with ⟨rfl, hR⟩ | ⟨rfl, hR⟩
    · refine vx_catch (own := RL) (name := EIA) X.o [] ⟨0, 10, 13, 13⟩ [⟨0, 10, 17, 21⟩] (by rw [htab]; rfl) (fun z hz => nomatch hz) (by decide) (by decide) (X.w mB_cl_L_13) (va_Nw.use rfl (hE.1 _ us_bIA)) hce hcv hcl ?_
      refine lv_astore (lv' := [(4, .ref q9), (0, .ref (ad 0)), (1, .int vr), (2, .int vco), (3, .ref (ad 7))]) X.x X.b dL_value_13 hl (by decide) rfl (fun ls hl => ?_)
      refine lv_iconst (v := nI 1) X.x X.b dL_value_15 (by decide) ?_
      exact us_iret (u := ((n, np, k, C, PN, CA, CK, CR, CB), O)) X Y hr hlk ⟨1, 0, rfl, hR, ⟨rfl, rfl, rfl, hU⟩, fun z => absurd z (by decide)⟩ dL_value_16
    · refine vx_catch (own := RL) (name := ENS) X.o [⟨0, 10, 13, 13⟩] ⟨0, 10, 17, 21⟩ [] (by rw [htab]; rfl) (fun z hz => by cases List.mem_singleton.mp hz; exact Or.inr ⟨by decide, EIA, X.w mB_cl_L_13, hE.2.1.2.1⟩) (by decide) (by decide) (X.w mB_cl_L_21) (va_Nw.use rfl (hE.1 _ us_bNS)) hce hcv hcl ?_
      refine lv_astore (lv' := [(4, .ref q9), (0, .ref (ad 0)), (1, .int vr), (2, .int vco), (3, .ref (ad 7))]) X.x X.b dL_value_17 hl (by decide) rfl (fun ls hl => ?_)
      refine lv_iconst (v := nI 2) X.x X.b dL_value_19 (by decide) ?_
      exact us_iret (u := ((n, np, k, C, PN, CA, CK, CR, CB), O)) X Y hr hlk ⟨2, 0, rfl, hR, ⟨rfl, rfl, rfl, hU⟩, fun z => absurd z (by decide)⟩ dL_value_20
  · obtain ⟨hR, hu⟩ := hw
    have Y : us_Y D A (oW ad cJ O :: uWS ad cI u) s H locs := Y
    refine lv_i2l (v := rr.toInt64) X.x X.b dL_value_8 rfl ?_
    refine us_ls X Y 0 1 rfl rfl (i := 0) (by decide) (by decide) dL_value_9 (fun H locs Y => ?_)
    have Y : us_Y D A (oW ad cJ (vp_updL O 0 rr.toInt64) :: uWS ad cI u) s H locs := Y
    refine lv_goto (tgt := 21) X.x X.b dL_value_10 (by decide) ?_
    refine lv_iconst (v := nI 0) X.x X.b dL_value_21 (by decide) ?_
    exact us_iret (u := (u, vp_updL O 0 rr.toInt64)) X Y hr hlk ⟨0, rr, rfl, hR, hu, fun _ => pk_uLs (f := O) (k := 0) (x := rr.toInt64)⟩ dL_value_22
set_option maxHeartbeats 4000000 in
set_option maxRecDepth 100000 in
theorem k_L_mark (l : Launch) (D : va_G) (ad : Nat → Nat) (cI : ClassId) (sz : Nat) (C PN CA CK CR CB : Nat → Int32) (n np k : Nat) (T : us_T) (nm : Nat → Int32) (sn : Nat → Nat) (sT : Nat → us_T) (sk : Nat → Nat) (hU : us_U n T k np nm sn sT sk C PN CA CK CR CB) (hl9 : l.stackTraces = false) (x : Int32) : us_Hi l yL_mark cL_mark 3 [(0, 5, 8, 15)] 7 126 [.ref (ad 0), .int x] D (tyU cI) (uW ad cI C n PN CA np CK CR CB k) sz (fun r (u : us_SU) => ∃ cd np' nm' sn' sT' sk', r = nI cd ∧ us_mR n T k np nm sn sT sk x cd np' nm' sn' sT' sk' ∧ us_us u n T k np' nm' sn' sT' sk') (fun (u : us_SU) => uWS ad cI u) := by
  refine us_enterH (own := RL) rfl (by decide) (Nat.le_of_ble_eq_true rfl) ?_
  intro p e s m below meth c ls X Y hE htab hr hlk hl
  generalize va_A (uW ad cI C n PN CA np CK CR CB k) sz = A at X Y hE ⊢
  have hl : lv_has ls 3 [(0, .ref (ad 0)), (1, .int x)] := hl
  refine lv_aload_n X.x X.b dL_mark_0 rfl (lv_at hl 0 rfl) ?_
  refine lv_iload_n X.x X.b dL_mark_1 rfl (lv_at hl 1 rfl) ?_
  refine us_xv (rest := []) X Y hE (k_U_mark l D ad cI s.heap.size C PN CA CK CR CB n np k T nm sn sT sk hU hl9 x) us_I7 0 rfl rfl cv_L_37 rfl ⟨by decide, by decide⟩ ⟨by decide, by decide⟩ hl.1 rfl (Nat.le_of_ble_eq_true rfl) dL_mark_2 (fun E ce q9 H locs hpx Y hce hcv hcl => ?_) (fun u H locs hw Y => ?_)
  · have Y : us_Y D A (uW ad cI C n PN CA np CK CR CB k) s H locs := Y
    obtain ⟨rfl, hR⟩ := hpx
    refine vx_catch (own := RL) (name := EIS) X.o [] ⟨0, 5, 8, 15⟩ [] (by rw [htab]; rfl) (fun z hz => nomatch hz) (by decide) (by decide) (X.w mB_cl_L_15) (va_Nw.use rfl (hE.1 _ us_bIS)) hce hcv hcl ?_
    refine lv_astore_n (lv' := [(2, .ref q9), (0, .ref (ad 0)), (1, .int x)]) X.x X.b dL_mark_8 rfl hl (by decide) rfl (fun ls hl => ?_)
    refine lv_iconst (v := nI 1) X.x X.b dL_mark_9 (by decide) ?_
    exact us_iret (u := (n, np, k, C, PN, CA, CK, CR, CB)) X Y hr hlk ⟨1, np, nm, sn, sT, sk, rfl, hR, ⟨rfl, rfl, rfl, hU⟩⟩ dL_mark_10
  · obtain ⟨np', nm', sn', sT', sk', hR, hu⟩ := hw
    have Y : us_Y D A (uWS ad cI u) s H locs := Y
    refine lv_goto (tgt := 11) X.x X.b dL_mark_5 (by decide) ?_
    refine lv_iconst (v := nI 0) X.x X.b dL_mark_11 (by decide) ?_
    exact us_iret (u := u) X Y hr hlk ⟨0, np', nm', sn', sT', sk', rfl, hR, hu⟩ dL_mark_12
set_option maxHeartbeats 4000000 in
set_option maxRecDepth 100000 in
theorem k_L_back (l : Launch) (D : va_G) (ad : Nat → Nat) (cI : ClassId) (sz : Nat) (C PN CA CK CR CB : Nat → Int32) (n np k : Nat) (T : us_T) (nm : Nat → Int32) (sn : Nat → Nat) (sT : Nat → us_T) (sk : Nat → Nat) (hU : us_U n T k np nm sn sT sk C PN CA CK CR CB) (hl9 : l.stackTraces = false) (x : Int32) : us_Hi l yL_back cL_back 3 [(0, 5, 8, 21)] 7 126 [.ref (ad 0), .int x] D (tyU cI) (uW ad cI C n PN CA np CK CR CB k) sz (fun r (u : us_SU) => ∃ cd n' T' k' np', r = nI cd ∧ us_bR n T k np nm sn sT sk x cd n' T' k' np' ∧ us_us u n' T' k' np' nm sn sT sk) (fun (u : us_SU) => uWS ad cI u) := by
  refine us_enterH (own := RL) rfl (by decide) (Nat.le_of_ble_eq_true rfl) ?_
  intro p e s m below meth c ls X Y hE htab hr hlk hl
  generalize va_A (uW ad cI C n PN CA np CK CR CB k) sz = A at X Y hE ⊢
  have hl : lv_has ls 3 [(0, .ref (ad 0)), (1, .int x)] := hl
  refine lv_aload_n X.x X.b dL_back_0 rfl (lv_at hl 0 rfl) ?_
  refine lv_iload_n X.x X.b dL_back_1 rfl (lv_at hl 1 rfl) ?_
  refine us_xv (rest := []) X Y hE (k_U_back l D ad cI s.heap.size C PN CA CK CR CB n np k T nm sn sT sk hU hl9 x) us_I7 0 rfl rfl cv_L_40 rfl ⟨by decide, by decide⟩ ⟨by decide, by decide⟩ hl.1 rfl (Nat.le_of_ble_eq_true rfl) dL_back_2 (fun E ce q9 H locs hpx Y hce hcv hcl => ?_) (fun u H locs hw Y => ?_)
  · have Y : us_Y D A (uW ad cI C n PN CA np CK CR CB k) s H locs := Y
    obtain ⟨rfl, hR⟩ := hpx
    refine vx_catch (own := RL) (name := ENS) X.o [] ⟨0, 5, 8, 21⟩ [] (by rw [htab]; rfl) (fun z hz => nomatch hz) (by decide) (by decide) (X.w mB_cl_L_21) (va_Nw.use rfl (hE.1 _ us_bNS)) hce hcv hcl ?_
    refine lv_astore_n (lv' := [(2, .ref q9), (0, .ref (ad 0)), (1, .int x)]) X.x X.b dL_back_8 rfl hl (by decide) rfl (fun ls hl => ?_)
    refine lv_iconst (v := nI 1) X.x X.b dL_back_9 (by decide) ?_
    exact us_iret (u := (n, np, k, C, PN, CA, CK, CR, CB)) X Y hr hlk ⟨1, n, T, k, np, rfl, hR, ⟨rfl, rfl, rfl, hU⟩⟩ dL_back_10
  · obtain ⟨n', T', k', np', hR, hu⟩ := hw
    have Y : us_Y D A (uWS ad cI u) s H locs := Y
    refine lv_goto (tgt := 11) X.x X.b dL_back_5 (by decide) ?_
    refine lv_iconst (v := nI 0) X.x X.b dL_back_11 (by decide) ?_
    exact us_iret (u := u) X Y hr hlk ⟨0, n', T', k', np', rfl, hR, hu⟩ dL_back_12
set_option maxHeartbeats 4000000 in
set_option maxRecDepth 100000 in
theorem k_L_release (l : Launch) (D : va_G) (ad : Nat → Nat) (cI : ClassId) (sz : Nat) (C PN CA CK CR CB : Nat → Int32) (n np k : Nat) (T : us_T) (nm : Nat → Int32) (sn : Nat → Nat) (sT : Nat → us_T) (sk : Nat → Nat) (hU : us_U n T k np nm sn sT sk C PN CA CK CR CB) (hl9 : l.stackTraces = false) (x : Int32) : us_Hi l yL_release cL_release 3 [(0, 5, 8, 21)] 7 126 [.ref (ad 0), .int x] D (tyU cI) (uW ad cI C n PN CA np CK CR CB k) sz (fun r (u : us_SU) => ∃ cd k' np', r = nI cd ∧ us_lR k np nm x cd k' np' ∧ us_us u n T k' np' nm sn sT sk) (fun (u : us_SU) => uWS ad cI u) := by
  refine us_enterH (own := RL) rfl (by decide) (Nat.le_of_ble_eq_true rfl) ?_
  intro p e s m below meth c ls X Y hE htab hr hlk hl
  generalize va_A (uW ad cI C n PN CA np CK CR CB k) sz = A at X Y hE ⊢
  have hl : lv_has ls 3 [(0, .ref (ad 0)), (1, .int x)] := hl
  refine lv_aload_n X.x X.b dL_release_0 rfl (lv_at hl 0 rfl) ?_
  refine lv_iload_n X.x X.b dL_release_1 rfl (lv_at hl 1 rfl) ?_
  refine us_xv (rest := []) X Y hE (k_U_release l D ad cI s.heap.size C PN CA CK CR CB n np k T nm sn sT sk hU hl9 x) us_I7 0 rfl rfl cv_L_43 rfl ⟨by decide, by decide⟩ ⟨by decide, by decide⟩ hl.1 rfl (Nat.le_of_ble_eq_true rfl) dL_release_2 (fun E ce q9 H locs hpx Y hce hcv hcl => ?_) (fun u H locs hw Y => ?_)
  · have Y : us_Y D A (uW ad cI C n PN CA np CK CR CB k) s H locs := Y
    obtain ⟨rfl, hR⟩ := hpx
    refine vx_catch (own := RL) (name := ENS) X.o [] ⟨0, 5, 8, 21⟩ [] (by rw [htab]; rfl) (fun z hz => nomatch hz) (by decide) (by decide) (X.w mB_cl_L_21) (va_Nw.use rfl (hE.1 _ us_bNS)) hce hcv hcl ?_
    refine lv_astore_n (lv' := [(2, .ref q9), (0, .ref (ad 0)), (1, .int x)]) X.x X.b dL_release_8 rfl hl (by decide) rfl (fun ls hl => ?_)
    refine lv_iconst (v := nI 1) X.x X.b dL_release_9 (by decide) ?_
    exact us_iret (u := (n, np, k, C, PN, CA, CK, CR, CB)) X Y hr hlk ⟨1, k, np, rfl, hR, ⟨rfl, rfl, rfl, hU⟩⟩ dL_release_10
  · obtain ⟨k', np', hR, hu⟩ := hw
    have Y : us_Y D A (uWS ad cI u) s H locs := Y
    refine lv_goto (tgt := 11) X.x X.b dL_release_5 (by decide) ?_
    refine lv_iconst (v := nI 0) X.x X.b dL_release_11 (by decide) ?_
    exact us_iret (u := u) X Y hr hlk ⟨0, k', np', rfl, hR, hu⟩ dL_release_12
