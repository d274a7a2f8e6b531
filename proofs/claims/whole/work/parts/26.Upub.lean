/-! 26.Upub (laid by wip/whole/gen/methods_up.py): the public methods. -/
set_option maxHeartbeats 4000000 in
set_option maxRecDepth 100000 in
theorem k_U_insert (l : Launch) (D : va_G) (ad : Nat → Nat) (cI : ClassId) (sz : Nat) (C PN CA CK CR CB : Nat → Int32) (n np k : Nat) (T : us_T) (nm : Nat → Int32) (sn : Nat → Nat) (sT : Nat → us_T) (sk : Nat → Nat) (hU : us_U n T k np nm sn sT sk C PN CA CK CR CB) (hl9 : l.stackTraces = false) (va vb vc vh : Int32) : us_Xi l yU_insert cU_insert 7 (some .int) 6 91 [.ref (ad 0), .int va, .int vb, .int vc, .int vh] D (tyU cI) (uW ad cI C n PN CA np CK CR CB k) sz (fun r (u : us_SU) => ∃ n' T' k', us_iR n T k np va vb vc vh 0 r n' T' k' ∧ us_us u n' T' k' np nm sn sT sk) (fun (u : us_SU) => uWS ad cI u) (fun E => (E = EIA ∧ us_iR n T k np va vb vc vh 1 0 n T k) ∨ (E = EIS ∧ us_iR n T k np va vb vc vh 2 0 n T k)) := by
  refine us_enterX (own := RU) rfl (by decide) (Nat.le_of_ble_eq_true rfl) ?_
  intro p e s m below meth c ls X Y hE htb hr hlk hl
  generalize va_A (uW ad cI C n PN CA np CK CR CB k) sz = A at X Y hE ⊢
  have hl : lv_has ls 7 [(0, .ref (ad 0)), (1, .int va), (2, .int vb), (3, .int vc), (4, .int vh)] := hl
  have h1n := hU.1
  have h1p := hU.2.1
  have h1k := hU.2.2.1
  have h5 := hU.2.2.2.2.1
  refine lv_iload X.x X.b dU_insert_0 (lv_at hl 4 rfl) ?_
  refine lv_bipush (v := (-8 : Int32)) X.x X.b dU_insert_2 (by decide) ?_
  refine lv_iand X.x X.b dU_insert_4 ?_
  refine lv_if_eq (tgt := 16) X.x X.b dU_insert_5 (by decide) (fun h1 => ?_) (fun h1 => ?_)
  · have hok : us_ok vh := (us_has _).mp h1
    refine lv_aload_n X.x X.b dU_insert_16 rfl (lv_at hl 0 rfl) ?_
    refine us_gU X Y 0 rfl 1 (by decide) mB_fl_U_13 rfl dU_insert_17 ?_
    refine lv_bipush (v := nI 120) X.x X.b dU_insert_20 (by decide) ?_
    refine us_cge (tgt := 44) X (by omega) (by omega) dU_insert_22 (by decide) (fun h2 => ?_) (fun h2 => ?_)
    · exact us_thr X Y hE hl9 htb hlk hl.1 tw_IS dU_insert_44 dU_insert_47 dU_insert_48 dU_insert_51 (by decide) (by decide) (by decide) (by decide) (Or.inr ⟨rfl, Or.inr (Or.inl ⟨rfl, hok, Or.inl (by omega), rfl, rfl, rfl⟩)⟩)
    · refine lv_aload_n X.x X.b dU_insert_25 rfl (lv_at hl 0 rfl) ?_
      refine lv_iconst (v := nI 1) X.x X.b dU_insert_26 (by decide) ?_
      refine us_vi (rest := []) X Y (k_U_hasRoomFor l D ad cI s.heap.size C PN CA CK CR CB n np k 1 h1p h1k (by decide)) us_I7 0 rfl rfl cv_U_41 rfl ⟨by decide, by decide⟩ ⟨by decide, by decide⟩ hl.1 rfl (Nat.le_of_ble_eq_true rfl) dU_insert_27 (fun rr u H locs g1 Y => ?_)
      have Y : us_Y D A (uW ad cI C n PN CA np CK CR CB k) s H locs := Y
      rcases g1 with ⟨rfl, g1⟩ | ⟨rfl, g1⟩
      · refine us_eq1 (tgt := 44) X dU_insert_30 (by decide) ?_
        refine lv_aload_n X.x X.b dU_insert_33 rfl (lv_at hl 0 rfl) ?_
        refine lv_iload_n X.x X.b dU_insert_34 rfl (lv_at hl 1 rfl) ?_
        refine lv_iload_n X.x X.b dU_insert_35 rfl (lv_at hl 2 rfl) ?_
        refine lv_iload X.x X.b dU_insert_36 (lv_at hl 4 rfl) ?_
        refine us_vi (rest := []) X Y (k_U_mayBeInserted l D ad cI H.size C PN CA CK CR CB n np k va vb vh h1n) us_I7 0 rfl rfl cv_U_45 rfl ⟨by decide, by decide⟩ ⟨by decide, by decide⟩ hl.1 rfl (Nat.le_of_ble_eq_true rfl) dU_insert_38 (fun rr u H locs g2 Y => ?_)
        have Y : us_Y D A (uW ad cI C n PN CA np CK CR CB k) s H locs := Y
        rcases g2 with ⟨rfl, g2⟩ | ⟨rfl, g2⟩
        · refine us_ne1 (tgt := 52) X dU_insert_41 (by decide) ?_
          refine lv_aload_n X.x X.b dU_insert_52 rfl (lv_at hl 0 rfl) ?_
          refine us_gU X Y 0 rfl 1 (by decide) mB_fl_U_13 rfl dU_insert_53 ?_
          refine lv_istore (lv' := [(5, .int (nI n)), (0, .ref (ad 0)), (1, .int va), (2, .int vb), (3, .int vc), (4, .int vh)]) X.x X.b dU_insert_56 hl (by decide) rfl (fun ls hl => ?_)
          refine lv_aload_n X.x X.b dU_insert_58 rfl (lv_at hl 1 rfl) ?_
          refine lv_iconst (v := nI 0) X.x X.b dU_insert_59 (by decide) ?_
          refine lv_iload X.x X.b dU_insert_60 (lv_at hl 0 rfl) ?_
          refine us_vv (rest := []) X Y (k_U_keepChange l D ad cI H.size C PN CA CK CR CB n np k 0 n h2 h1p g1) us_I7 0 rfl rfl cv_U_52 rfl ⟨by decide, by decide⟩ ⟨by decide, by decide⟩ hl.1 rfl (Nat.le_of_ble_eq_true rfl) dU_insert_62 (fun u H locs _ Y => ?_)
          have Y : us_Y D A (uW ad cI C n PN CA np ((us_ku np k CK (nI 0))) ((us_ku np k CR (nI n))) ((us_kc np k C CB n)) (us_k1 np k)) s H locs := Y
          refine lv_iload X.x X.b dU_insert_65 (lv_at hl 0 rfl) ?_
          refine lv_iconst (v := nI 4) X.x X.b dU_insert_67 (by decide) ?_
          refine us_imul X dU_insert_68 ?_
          refine lv_istore (lv' := [(6, .int (nI (n * 4))), (5, .int (nI n)), (0, .ref (ad 0)), (1, .int va), (2, .int vb), (3, .int vc), (4, .int vh)]) X.x X.b dU_insert_69 hl (by decide) rfl (fun ls hl => ?_)
          refine lv_aload_n X.x X.b dU_insert_71 rfl (lv_at hl 2 rfl) ?_
          refine us_gU X Y 0 rfl 0 (by decide) mB_fl_U_9 rfl dU_insert_72 ?_
          refine lv_iload X.x X.b dU_insert_75 (lv_at hl 0 rfl) ?_
          refine lv_iload_n X.x X.b dU_insert_77 rfl (lv_at hl 3 rfl) ?_
          refine us_is X Y 1 0 rfl rfl (i := n * 4) (by omega) (by decide) dU_insert_78 (fun H locs Y => ?_)
          have Y : us_Y D A (uW ad cI ((upd C (n * 4) va)) n PN CA np ((us_ku np k CK (nI 0))) ((us_ku np k CR (nI n))) ((us_kc np k C CB n)) (us_k1 np k)) s H locs := Y
          refine lv_aload_n X.x X.b dU_insert_79 rfl (lv_at hl 2 rfl) ?_
          refine us_gU X Y 0 rfl 0 (by decide) mB_fl_U_9 rfl dU_insert_80 ?_
          refine lv_iload X.x X.b dU_insert_83 (lv_at hl 0 rfl) ?_
          refine lv_iconst (v := nI 1) X.x X.b dU_insert_85 (by decide) ?_
          refine us_iadd X dU_insert_86 ?_
          refine lv_iload_n X.x X.b dU_insert_87 rfl (lv_at hl 4 rfl) ?_
          refine us_is X Y 1 0 rfl rfl (i := (n * 4) + 1) (by omega) (by decide) dU_insert_88 (fun H locs Y => ?_)
          have Y : us_Y D A (uW ad cI ((upd (upd C (n * 4) va) ((n * 4) + 1) vb)) n PN CA np ((us_ku np k CK (nI 0))) ((us_ku np k CR (nI n))) ((us_kc np k C CB n)) (us_k1 np k)) s H locs := Y
          refine lv_aload_n X.x X.b dU_insert_89 rfl (lv_at hl 2 rfl) ?_
          refine us_gU X Y 0 rfl 0 (by decide) mB_fl_U_9 rfl dU_insert_90 ?_
          refine lv_iload X.x X.b dU_insert_93 (lv_at hl 0 rfl) ?_
          refine lv_iconst (v := nI 2) X.x X.b dU_insert_95 (by decide) ?_
          refine us_iadd X dU_insert_96 ?_
          refine lv_iload_n X.x X.b dU_insert_97 rfl (lv_at hl 5 rfl) ?_
          refine us_is X Y 1 0 rfl rfl (i := (n * 4) + 2) (by omega) (by decide) dU_insert_98 (fun H locs Y => ?_)
          have Y : us_Y D A (uW ad cI ((upd (upd (upd C (n * 4) va) ((n * 4) + 1) vb) ((n * 4) + 2) vc)) n PN CA np ((us_ku np k CK (nI 0))) ((us_ku np k CR (nI n))) ((us_kc np k C CB n)) (us_k1 np k)) s H locs := Y
          refine lv_aload_n X.x X.b dU_insert_99 rfl (lv_at hl 2 rfl) ?_
          refine us_gU X Y 0 rfl 0 (by decide) mB_fl_U_9 rfl dU_insert_100 ?_
          refine lv_iload X.x X.b dU_insert_103 (lv_at hl 0 rfl) ?_
          refine lv_iconst (v := nI 3) X.x X.b dU_insert_105 (by decide) ?_
          refine us_iadd X dU_insert_106 ?_
          refine lv_iload X.x X.b dU_insert_107 (lv_at hl 6 rfl) ?_
          refine us_is X Y 1 0 rfl rfl (i := (n * 4) + 3) (by omega) (by decide) dU_insert_109 (fun H locs Y => ?_)
          have Y : us_Y D A (uW ad cI ((upd (upd (upd (upd C (n * 4) va) ((n * 4) + 1) vb) ((n * 4) + 2) vc) ((n * 4) + 3) vh)) n PN CA np ((us_ku np k CK (nI 0))) ((us_ku np k CR (nI n))) ((us_kc np k C CB n)) (us_k1 np k)) s H locs := Y
          refine lv_aload_n X.x X.b dU_insert_110 rfl (lv_at hl 2 rfl) ?_
          refine lv_iload X.x X.b dU_insert_111 (lv_at hl 1 rfl) ?_
          refine lv_iconst (v := nI 1) X.x X.b dU_insert_113 (by decide) ?_
          refine us_iadd X dU_insert_114 ?_
          refine us_pU X Y 0 rfl 1 (by decide) mB_fl_U_13 rfl rfl rfl (Nat.le_of_ble_eq_true rfl) dU_insert_115 (fun H locs Y => ?_)
          have Y : us_Y D A (uW ad cI ((upd (upd (upd (upd C (n * 4) va) ((n * 4) + 1) vb) ((n * 4) + 2) vc) ((n * 4) + 3) vh)) (n + 1) PN CA np ((us_ku np k CK (nI 0))) ((us_ku np k CR (nI n))) ((us_kc np k C CB n)) (us_k1 np k)) s H locs := Y
          refine lv_iload X.x X.b dU_insert_118 (lv_at hl 1 rfl) ?_
          exact us_ireX (u := ((n + 1), np, (us_k1 np k), ((upd (upd (upd (upd C (n * 4) va) ((n * 4) + 1) vb) ((n * 4) + 2) vc) ((n * 4) + 3) vh)), PN, CA, ((us_ku np k CK (nI 0))), ((us_ku np k CR (nI n))), ((us_kc np k C CB n)))) X Y hr hlk (⟨n + 1, _, _, Or.inr (Or.inr ⟨rfl, hok, g2.no h5 h2 g1, rfl, rfl, rfl, rfl⟩), rfl, rfl, rfl, hU.ins h2 g1 va vb vc vh⟩) dU_insert_120
        · refine us_ne0 (tgt := 52) X dU_insert_41 (by decide) ?_
          exact us_thr X Y hE hl9 htb hlk hl.1 tw_IS dU_insert_44 dU_insert_47 dU_insert_48 dU_insert_51 (by decide) (by decide) (by decide) (by decide) (Or.inr ⟨rfl, Or.inr (Or.inl ⟨rfl, hok, us_mq.of h5 g2, rfl, rfl, rfl⟩)⟩)
      · refine us_eq0 (tgt := 44) X dU_insert_30 (by decide) ?_
        exact us_thr X Y hE hl9 htb hlk hl.1 tw_IS dU_insert_44 dU_insert_47 dU_insert_48 dU_insert_51 (by decide) (by decide) (by decide) (by decide) (Or.inr ⟨rfl, Or.inr (Or.inl ⟨rfl, hok, Or.inr (Or.inl (us_ful.of g1)), rfl, rfl, rfl⟩)⟩)
  · exact us_thr X Y hE hl9 htb hlk hl.1 tw_IA dU_insert_8 dU_insert_11 dU_insert_12 dU_insert_15 (by decide) (by decide) (by decide) (by decide) (Or.inl ⟨rfl, Or.inl ⟨rfl, fun z => h1 ((us_has _).mpr z), rfl, rfl, rfl⟩⟩)
set_option maxHeartbeats 4000000 in
set_option maxRecDepth 100000 in
theorem k_U_set (l : Launch) (D : va_G) (ad : Nat → Nat) (cI : ClassId) (sz : Nat) (C PN CA CK CR CB : Nat → Int32) (n np k : Nat) (T : us_T) (nm : Nat → Int32) (sn : Nat → Nat) (sT : Nat → us_T) (sk : Nat → Nat) (hU : us_U n T k np nm sn sT sk C PN CA CK CR CB) (hl9 : l.stackTraces = false) (vr vco vv vz : Int32) : us_Xv l yU_set cU_set 6 6 93 [.ref (ad 0), .int vr, .int vco, .int vv, .int vz] D (tyU cI) (uW ad cI C n PN CA np CK CR CB k) sz (fun (u : us_SU) => ∃ T' k', us_sR n T k np vr vco vv vz 0 T' k' ∧ us_us u n T' k' np nm sn sT sk) (fun (u : us_SU) => uWS ad cI u) (fun E => (E = EIA ∧ us_sR n T k np vr vco vv vz 1 T k) ∨ (E = EIS ∧ us_sR n T k np vr vco vv vz 2 T k) ∨ (E = ENS ∧ us_sR n T k np vr vco vv vz 3 T k)) := by
  refine us_enterX (own := RU) rfl (by decide) (Nat.le_of_ble_eq_true rfl) ?_
  intro p e s m below meth c ls X Y hE htb hr hlk hl
  generalize va_A (uW ad cI C n PN CA np CK CR CB k) sz = A at X Y hE ⊢
  have hl : lv_has ls 6 [(0, .ref (ad 0)), (1, .int vr), (2, .int vco), (3, .int vv), (4, .int vz)] := hl
  have h1n := hU.1
  have h1p := hU.2.1
  have h1k := hU.2.2.1
  have h5 := hU.2.2.2.2.1
  refine lv_iload_n X.x X.b dU_set_0 rfl (lv_at hl 2 rfl) ?_
  refine us_si (n := 1) (rest := []) X Y (k_U_isColumn l D s.heap.size vco) us_I0 mB_ml_U_56 mB_st_U_isColumn mB_ini_U mB_code_U_isColumn (by decide +kernel) rfl ⟨by decide, by decide⟩ ⟨by decide, by decide⟩ hl.1 rfl (Nat.le_of_ble_eq_true rfl) dU_set_1 (fun rr H locs g1 Y => ?_)
  have Y : us_Y D A (uW ad cI C n PN CA np CK CR CB k) s H locs := Y
  rcases g1 with ⟨rfl, g1⟩ | ⟨rfl, g1⟩
  · refine us_ne1 (tgt := 15) X dU_set_4 (by decide) ?_
    obtain ⟨co, hco, rfl⟩ := g1
    refine lv_aload_n X.x X.b dU_set_15 rfl (lv_at hl 0 rfl) ?_
    refine lv_iload_n X.x X.b dU_set_16 rfl (lv_at hl 1 rfl) ?_
    refine us_vi (rest := []) X Y (k_U_isRow l D ad cI H.size C PN CA CK CR CB n np k vr h1n) us_I7 0 rfl rfl cv_U_59 rfl ⟨by decide, by decide⟩ ⟨by decide, by decide⟩ hl.1 rfl (Nat.le_of_ble_eq_true rfl) dU_set_17 (fun rr u H locs g2 Y => ?_)
    have Y : us_Y D A (uW ad cI C n PN CA np CK CR CB k) s H locs := Y
    rcases g2 with ⟨rfl, g2⟩ | ⟨rfl, g2⟩
    · refine us_ne1 (tgt := 31) X dU_set_20 (by decide) ?_
      obtain ⟨ir, hir, rfl⟩ := g2
      refine lv_aload_n X.x X.b dU_set_31 rfl (lv_at hl 0 rfl) ?_
      refine lv_iconst (v := nI 1) X.x X.b dU_set_32 (by decide) ?_
      refine us_vi (rest := []) X Y (k_U_hasRoomFor l D ad cI H.size C PN CA CK CR CB n np k 1 h1p h1k (by decide)) us_I7 0 rfl rfl cv_U_41 rfl ⟨by decide, by decide⟩ ⟨by decide, by decide⟩ hl.1 rfl (Nat.le_of_ble_eq_true rfl) dU_set_33 (fun rr u H locs g3 Y => ?_)
      have Y : us_Y D A (uW ad cI C n PN CA np CK CR CB k) s H locs := Y
      rcases g3 with ⟨rfl, g3⟩ | ⟨rfl, g3⟩
      · refine us_eq1 (tgt := 51) X dU_set_36 (by decide) ?_
        refine lv_aload_n X.x X.b dU_set_39 rfl (lv_at hl 0 rfl) ?_
        refine lv_iload_n X.x X.b dU_set_40 rfl (lv_at hl 1 rfl) ?_
        refine lv_iload_n X.x X.b dU_set_41 rfl (lv_at hl 2 rfl) ?_
        refine lv_iload_n X.x X.b dU_set_42 rfl (lv_at hl 3 rfl) ?_
        refine lv_iload X.x X.b dU_set_43 (lv_at hl 4 rfl) ?_
        refine us_vi (rest := []) X Y (k_U_maySet l D ad cI H.size C PN CA CK CR CB n np k ir co vv vz h1n hir hco) us_I7 0 rfl rfl cv_U_65 rfl ⟨by decide, by decide⟩ ⟨by decide, by decide⟩ hl.1 rfl (Nat.le_of_ble_eq_true rfl) dU_set_45 (fun rr u H locs g4 Y => ?_)
        have Y : us_Y D A (uW ad cI C n PN CA np CK CR CB k) s H locs := Y
        rcases g4 with ⟨rfl, g4⟩ | ⟨rfl, g4⟩
        · refine us_ne1 (tgt := 59) X dU_set_48 (by decide) ?_
          refine lv_aload_n X.x X.b dU_set_59 rfl (lv_at hl 0 rfl) ?_
          refine lv_iconst (v := nI 1) X.x X.b dU_set_60 (by decide) ?_
          refine lv_iload_n X.x X.b dU_set_61 rfl (lv_at hl 1 rfl) ?_
          refine us_vv (rest := []) X Y (k_U_keepChange l D ad cI H.size C PN CA CK CR CB n np k 1 ir (by omega) h1p g3) us_I7 0 rfl rfl cv_U_52 rfl ⟨by decide, by decide⟩ ⟨by decide, by decide⟩ hl.1 rfl (Nat.le_of_ble_eq_true rfl) dU_set_62 (fun u H locs _ Y => ?_)
          have Y : us_Y D A (uW ad cI C n PN CA np ((us_ku np k CK (nI 1))) ((us_ku np k CR (nI ir))) ((us_kc np k C CB ir)) (us_k1 np k)) s H locs := Y
          refine lv_iload_n X.x X.b dU_set_65 rfl (lv_at hl 1 rfl) ?_
          refine lv_iconst (v := nI 4) X.x X.b dU_set_66 (by decide) ?_
          refine us_imul X dU_set_67 ?_
          refine lv_istore (lv' := [(5, .int (nI (ir * 4))), (0, .ref (ad 0)), (1, .int (nI ir)), (2, .int (nI co)), (3, .int vv), (4, .int vz)]) X.x X.b dU_set_68 hl (by decide) rfl (fun ls hl => ?_)
          refine lv_iload X.x X.b dU_set_70 (lv_at hl 5 rfl) ?_
          refine lv_if_eq (tgt := 95) X.x X.b dU_set_72 (by decide) (fun h1 => ?_) (fun h1 => ?_)
          · refine lv_aload_n X.x X.b dU_set_95 rfl (lv_at hl 1 rfl) ?_
            refine us_gU X Y 0 rfl 0 (by decide) mB_fl_U_9 rfl dU_set_96 ?_
            refine lv_iload X.x X.b dU_set_99 (lv_at hl 0 rfl) ?_
            refine lv_iload_n X.x X.b dU_set_101 rfl (lv_at hl 3 rfl) ?_
            refine us_iadd X dU_set_102 ?_
            refine lv_iload_n X.x X.b dU_set_103 rfl (lv_at hl 4 rfl) ?_
            refine us_is X Y 1 0 rfl rfl (i := (ir * 4) + co) (by omega) (by decide) dU_set_104 (fun H locs Y => ?_)
            have Y : us_Y D A (uW ad cI ((upd C ((ir * 4) + co) vv)) n PN CA np ((us_ku np k CK (nI 1))) ((us_ku np k CR (nI ir))) ((us_kc np k C CB ir)) (us_k1 np k)) s H locs := Y
            refine lv_aload_n X.x X.b dU_set_105 rfl (lv_at hl 1 rfl) ?_
            refine us_gU X Y 0 rfl 0 (by decide) mB_fl_U_9 rfl dU_set_106 ?_
            refine lv_iload X.x X.b dU_set_109 (lv_at hl 0 rfl) ?_
            refine lv_iconst (v := nI 3) X.x X.b dU_set_111 (by decide) ?_
            refine us_iadd X dU_set_112 ?_
            refine lv_dup2_11 X.x X.b dU_set_113 rfl rfl ?_
            refine us_ia X Y 1 0 rfl rfl (i := (ir * 4) + 3) (by omega) (by decide) dU_set_114 ?_
            refine lv_iconst (v := (1 : Int32)) X.x X.b dU_set_115 (by decide) ?_
            refine lv_iload_n X.x X.b dU_set_116 rfl (lv_at hl 3 rfl) ?_
            refine lv_ishl X.x X.b dU_set_117 ?_
            refine lv_ior X.x X.b dU_set_118 ?_
            refine us_is X Y 1 0 rfl rfl (i := (ir * 4) + 3) (by omega) (by decide) dU_set_119 (fun H locs Y => ?_)
            have Y : us_Y D A (uW ad cI ((upd (upd C ((ir * 4) + co) vv) ((ir * 4) + 3) (((upd C ((ir * 4) + co) vv) ((ir * 4) + 3)) ||| (((1 : Int32)) <<< ((nI co) &&& 31))))) n PN CA np ((us_ku np k CK (nI 1))) ((us_ku np k CR (nI ir))) ((us_kc np k C CB ir)) (us_k1 np k)) s H locs := Y
            exact us_vreX (u := (n, np, (us_k1 np k), ((upd (upd C ((ir * 4) + co) vv) ((ir * 4) + 3) (((upd C ((ir * 4) + co) vv) ((ir * 4) + 3)) ||| (((1 : Int32)) <<< ((nI co) &&& 31))))), PN, CA, ((us_ku np k CK (nI 1))), ((us_ku np k CR (nI ir))), ((us_kc np k C CB ir)))) X Y hr hlk (⟨_, _, Or.inr (Or.inr ⟨ir, co, hir, rfl, hco, rfl, Or.inr ⟨rfl, fun z => z.elim (us_ful.out g3) (fun z => g4 (z.eq hco h5.sy)), rfl, rfl⟩⟩), rfl, rfl, rfl, hU.st g3 hir (us_putv hco h1)⟩) dU_set_120
          · refine lv_aload_n X.x X.b dU_set_75 rfl (lv_at hl 1 rfl) ?_
            refine us_gU X Y 0 rfl 0 (by decide) mB_fl_U_9 rfl dU_set_76 ?_
            refine lv_iload X.x X.b dU_set_79 (lv_at hl 0 rfl) ?_
            refine lv_iconst (v := nI 3) X.x X.b dU_set_81 (by decide) ?_
            refine us_iadd X dU_set_82 ?_
            refine lv_dup2_11 X.x X.b dU_set_83 rfl rfl ?_
            refine us_ia X Y 1 0 rfl rfl (i := (ir * 4) + 3) (by omega) (by decide) dU_set_84 ?_
            refine lv_iconst (v := (1 : Int32)) X.x X.b dU_set_85 (by decide) ?_
            refine lv_iload_n X.x X.b dU_set_86 rfl (lv_at hl 3 rfl) ?_
            refine lv_ishl X.x X.b dU_set_87 ?_
            refine lv_iconst (v := (-1 : Int32)) X.x X.b dU_set_88 (by decide) ?_
            refine lv_ixor X.x X.b dU_set_89 ?_
            refine lv_iand X.x X.b dU_set_90 ?_
            refine us_is X Y 1 0 rfl rfl (i := (ir * 4) + 3) (by omega) (by decide) dU_set_91 (fun H locs Y => ?_)
            have Y : us_Y D A (uW ad cI ((upd C ((ir * 4) + 3) ((C ((ir * 4) + 3)) &&& ((((1 : Int32)) <<< ((nI co) &&& 31)) ^^^ ((-1 : Int32)))))) n PN CA np ((us_ku np k CK (nI 1))) ((us_ku np k CR (nI ir))) ((us_kc np k C CB ir)) (us_k1 np k)) s H locs := Y
            refine lv_goto (tgt := 120) X.x X.b dU_set_92 (by decide) ?_
            exact us_vreX (u := (n, np, (us_k1 np k), ((upd C ((ir * 4) + 3) ((C ((ir * 4) + 3)) &&& ((((1 : Int32)) <<< ((nI co) &&& 31)) ^^^ ((-1 : Int32)))))), PN, CA, ((us_ku np k CK (nI 1))), ((us_ku np k CR (nI ir))), ((us_kc np k C CB ir)))) X Y hr hlk (⟨_, _, Or.inr (Or.inr ⟨ir, co, hir, rfl, hco, rfl, Or.inr ⟨rfl, fun z => z.elim (us_ful.out g3) (fun z => g4 (z.eq hco h5.sy)), rfl, rfl⟩⟩), rfl, rfl, rfl, hU.st g3 hir (us_putn hco h1)⟩) dU_set_120
        · refine us_ne0 (tgt := 59) X dU_set_48 (by decide) ?_
          exact us_thr X Y hE hl9 htb hlk hl.1 tw_IS dU_set_51 dU_set_54 dU_set_55 dU_set_58 (by decide) (by decide) (by decide) (by decide) (Or.inr (Or.inl ⟨rfl, Or.inr (Or.inr ⟨ir, co, hir, rfl, hco, rfl, Or.inl ⟨rfl, Or.inr ((Classical.not_not.mp g4).eq hco h5), rfl, rfl⟩⟩)⟩))
      · refine us_eq0 (tgt := 51) X dU_set_36 (by decide) ?_
        exact us_thr X Y hE hl9 htb hlk hl.1 tw_IS dU_set_51 dU_set_54 dU_set_55 dU_set_58 (by decide) (by decide) (by decide) (by decide) (Or.inr (Or.inl ⟨rfl, Or.inr (Or.inr ⟨ir, co, hir, rfl, hco, rfl, Or.inl ⟨rfl, Or.inl (us_ful.of g3), rfl, rfl⟩⟩)⟩))
    · refine us_ne0 (tgt := 31) X dU_set_20 (by decide) ?_
      exact us_thr X Y hE hl9 htb hlk hl.1 tw_NS dU_set_23 dU_set_26 dU_set_27 dU_set_30 (by decide) (by decide) (by decide) (by decide) (Or.inr (Or.inr ⟨rfl, Or.inr (Or.inl ⟨rfl, ⟨co, hco, rfl⟩, g2, rfl, rfl⟩)⟩))
  · refine us_ne0 (tgt := 15) X dU_set_4 (by decide) ?_
    exact us_thr X Y hE hl9 htb hlk hl.1 tw_IA dU_set_7 dU_set_10 dU_set_11 dU_set_14 (by decide) (by decide) (by decide) (by decide) (Or.inl ⟨rfl, Or.inl ⟨rfl, g1, rfl, rfl⟩⟩)
set_option maxHeartbeats 4000000 in
set_option maxRecDepth 100000 in
theorem k_U_remove (l : Launch) (D : va_G) (ad : Nat → Nat) (cI : ClassId) (sz : Nat) (C PN CA CK CR CB : Nat → Int32) (n np k : Nat) (T : us_T) (nm : Nat → Int32) (sn : Nat → Nat) (sT : Nat → us_T) (sk : Nat → Nat) (hU : us_U n T k np nm sn sT sk C PN CA CK CR CB) (hl9 : l.stackTraces = false) (vr : Int32) : us_Xv l yU_remove cU_remove 2 6 81 [.ref (ad 0), .int vr] D (tyU cI) (uW ad cI C n PN CA np CK CR CB k) sz (fun (u : us_SU) => ∃ n' T' k', us_rR n T k np vr 0 n' T' k' ∧ us_us u n' T' k' np nm sn sT sk) (fun (u : us_SU) => uWS ad cI u) (fun E => (E = EIS ∧ us_rR n T k np vr 1 n T k) ∨ (E = ENS ∧ us_rR n T k np vr 2 n T k)) := by
  refine us_enterX (own := RU) rfl (by decide) (Nat.le_of_ble_eq_true rfl) ?_
  intro p e s m below meth c ls X Y hE htb hr hlk hl
  generalize va_A (uW ad cI C n PN CA np CK CR CB k) sz = A at X Y hE ⊢
  have hl : lv_has ls 2 [(0, .ref (ad 0)), (1, .int vr)] := hl
  have h1n := hU.1
  have h1p := hU.2.1
  have h1k := hU.2.2.1
  have h5 := hU.2.2.2.2.1
  refine lv_aload_n X.x X.b dU_remove_0 rfl (lv_at hl 0 rfl) ?_
  refine lv_iload_n X.x X.b dU_remove_1 rfl (lv_at hl 1 rfl) ?_
  refine us_vi (rest := []) X Y (k_U_isRow l D ad cI s.heap.size C PN CA CK CR CB n np k vr h1n) us_I7 0 rfl rfl cv_U_59 rfl ⟨by decide, by decide⟩ ⟨by decide, by decide⟩ hl.1 rfl (Nat.le_of_ble_eq_true rfl) dU_remove_2 (fun rr u H locs g2 Y => ?_)
  have Y : us_Y D A (uW ad cI C n PN CA np CK CR CB k) s H locs := Y
  rcases g2 with ⟨rfl, g2⟩ | ⟨rfl, g2⟩
  · refine us_ne1 (tgt := 16) X dU_remove_5 (by decide) ?_
    obtain ⟨ir, hir, rfl⟩ := g2
    refine lv_aload_n X.x X.b dU_remove_16 rfl (lv_at hl 0 rfl) ?_
    refine lv_iconst (v := nI 1) X.x X.b dU_remove_17 (by decide) ?_
    refine us_vi (rest := []) X Y (k_U_hasRoomFor l D ad cI H.size C PN CA CK CR CB n np k 1 h1p h1k (by decide)) us_I7 0 rfl rfl cv_U_41 rfl ⟨by decide, by decide⟩ ⟨by decide, by decide⟩ hl.1 rfl (Nat.le_of_ble_eq_true rfl) dU_remove_18 (fun rr u H locs g3 Y => ?_)
    have Y : us_Y D A (uW ad cI C n PN CA np CK CR CB k) s H locs := Y
    rcases g3 with ⟨rfl, g3⟩ | ⟨rfl, g3⟩
    · refine us_ne1 (tgt := 32) X dU_remove_21 (by decide) ?_
      refine lv_aload_n X.x X.b dU_remove_32 rfl (lv_at hl 0 rfl) ?_
      refine lv_iload_n X.x X.b dU_remove_33 rfl (lv_at hl 1 rfl) ?_
      refine us_vv (rest := []) X Y (k_U_takeOut l D ad cI H.size C PN CA CK CR CB n np k ir h1n hir h1p g3) us_I7 0 rfl rfl cv_U_69 rfl ⟨by decide, by decide⟩ ⟨by decide, by decide⟩ hl.1 rfl (Nat.le_of_ble_eq_true rfl) dU_remove_34 (fun u H locs _ Y => ?_)
      have Y : us_Y D A (uW ad cI ((va_cpy C C ((ir + 1) * 4) (ir * 4) ((n - ir - 1) * 4))) (n - 1) PN CA np ((us_ku np k CK (nI 2))) ((us_ku np k CR (nI ir))) ((us_kc np k C CB ir)) (us_k1 np k)) s H locs := Y
      exact us_vreX (u := ((n - 1), np, (us_k1 np k), ((va_cpy C C ((ir + 1) * 4) (ir * 4) ((n - ir - 1) * 4))), PN, CA, ((us_ku np k CK (nI 2))), ((us_ku np k CR (nI ir))), ((us_kc np k C CB ir)))) X Y hr hlk (⟨n - 1, _, _, Or.inr ⟨ir, hir, rfl, Or.inr ⟨rfl, us_ful.out g3, rfl, rfl, rfl⟩⟩, rfl, rfl, rfl, hU.del g3 hir⟩) dU_remove_37
    · refine us_ne0 (tgt := 32) X dU_remove_21 (by decide) ?_
      exact us_thr X Y hE hl9 htb hlk hl.1 tw_IS dU_remove_24 dU_remove_27 dU_remove_28 dU_remove_31 (by decide) (by decide) (by decide) (by decide) (Or.inl ⟨rfl, Or.inr ⟨ir, hir, rfl, Or.inl ⟨rfl, us_ful.of g3, rfl, rfl, rfl⟩⟩⟩)
  · refine us_ne0 (tgt := 16) X dU_remove_5 (by decide) ?_
    exact us_thr X Y hE hl9 htb hlk hl.1 tw_NS dU_remove_8 dU_remove_11 dU_remove_12 dU_remove_15 (by decide) (by decide) (by decide) (by decide) (Or.inr ⟨rfl, Or.inl ⟨rfl, g2, rfl, rfl, rfl⟩⟩)
