/-! 31.inits (laid by wip/whole/gen/inits.py): the two constructors. -/
set_option maxHeartbeats 4000000 in
set_option maxRecDepth 100000 in
theorem k_U_init (l : Launch) (D : va_G) (a0 sz : Nat) : Met l yU_init (.code yU_init cU_init 1 none :: wB) { frames := 1, cells := 6, slots := 1720, locals := 12 } (va_Pc [.ref a0] (us_P D [] [(a0, .inr (0, [.null, .int 0, .null, .null, .int 0, .null, .null, .null, .int 0]))] sz)) (va_Qv (fun u : (Nat → Nat) × ClassId => u.1 0 = a0) (fun u t => us_Z D (tyU u.2) (va_A [(a0, .inr (0, [.null, .int 0, .null, .null, .int 0, .null, .null, .null, .int 0]))] sz) (uW u.1 u.2 (fun _ => 0) 0 (fun _ => 0) (fun _ => 0) 0 (fun _ => 0) (fun _ => 0) (fun _ => 0) 0) t) (va_A [(a0, .inr (0, [.null, .int 0, .null, .null, .int 0, .null, .null, .null, .int 0]))] sz)) 6 1720 (va_A [(a0, .inr (0, [.null, .int 0, .null, .null, .int 0, .null, .null, .null, .int 0]))] sz) := by
  refine us_enterN (own := RU) rfl (by decide) (Nat.le_of_ble_eq_true rfl) ?_
  intro p e s m below meth c ls X Y hin hr hlk hl
  generalize va_A [(a0, .inr (0, [.null, .int 0, .null, .null, .int 0, .null, .null, .null, .int 0]))] sz = A at X Y ⊢
  have hl : lv_has ls 1 [(0, .ref a0)] := hl
  refine lv_aload_n X.x X.b dU_init_0 rfl (lv_at hl 0 rfl) ?_
  refine us_oi X mB_ml_U_1 mB_im_Ob_init mB_code_Ob_init hl.1 dU_init_1 (by decide) (by decide) ?_
  refine lv_aload_n X.x X.b dU_init_4 rfl (lv_at hl 0 rfl) ?_
  refine lv_sipush (v := nI 480) X.x X.b dU_init_5 (by decide) ?_
  refine us_new1 (atype := .int) (ty := .int) X Y mB_arr_int rfl (by decide) rfl (by decide) (by decide) (by decide) dU_init_8 (fun q1 cI H X Y => ?_)
  have X : us_X p s m _ c _ _ _ D [(cI, .int)] A := X
  have Y : us_Y D A [(a0, .inr (0, [.null, .int 0, .null, .null, .int 0, .null, .null, .null, .int 0])), (q1, .inl (cI, 480, .inl (fun _ => 0)))] s H [] := Y
  refine us_pUF X Y hin 0 rfl 0 (by decide) mB_fl_U_9 rfl rfl rfl rfl (Nat.le_of_ble_eq_true rfl) dU_init_10 (fun H locs Y => ?_)
  have Y : us_Y D A [(a0, .inr (0, [.ref q1, .int 0, .null, .null, .int 0, .null, .null, .null, .int 0])), (q1, .inl (cI, 480, .inl (fun _ => 0)))] s H locs := Y
  refine lv_aload_n X.x X.b dU_init_13 rfl (lv_at hl 0 rfl) ?_
  refine lv_iconst (v := nI 0) X.x X.b dU_init_14 (by decide) ?_
  refine us_pU X Y 0 rfl 1 (by decide) mB_fl_U_13 rfl rfl rfl (Nat.le_of_ble_eq_true rfl) dU_init_15 (fun H locs Y => ?_)
  have Y : us_Y D A [(a0, .inr (0, [.ref q1, .int (nI 0), .null, .null, .int 0, .null, .null, .null, .int 0])), (q1, .inl (cI, 480, .inl (fun _ => 0)))] s H locs := Y
  refine lv_aload_n X.x X.b dU_init_18 rfl (lv_at hl 0 rfl) ?_
  refine lv_bipush (v := nI 20) X.x X.b dU_init_19 (by decide) ?_
  refine us_new2 (atype := .int) (ty := .int) X Y mB_arr_int rfl 0 rfl us_ria (by decide) rfl (by decide) (by decide) (by decide) dU_init_21 (fun q2 H Y => ?_)
  have Y : us_Y D A [(a0, .inr (0, [.ref q1, .int (nI 0), .null, .null, .int 0, .null, .null, .null, .int 0])), (q1, .inl (cI, 480, .inl (fun _ => 0))), (q2, .inl (cI, 20, .inl (fun _ => 0)))] s H locs := Y
  refine us_pUF X Y hin 0 rfl 2 (by decide) mB_fl_U_17 rfl rfl rfl rfl (Nat.le_of_ble_eq_true rfl) dU_init_23 (fun H locs Y => ?_)
  have Y : us_Y D A [(a0, .inr (0, [.ref q1, .int (nI 0), .ref q2, .null, .int 0, .null, .null, .null, .int 0])), (q1, .inl (cI, 480, .inl (fun _ => 0))), (q2, .inl (cI, 20, .inl (fun _ => 0)))] s H locs := Y
  refine lv_aload_n X.x X.b dU_init_26 rfl (lv_at hl 0 rfl) ?_
  refine lv_bipush (v := nI 20) X.x X.b dU_init_27 (by decide) ?_
  refine us_new2 (atype := .int) (ty := .int) X Y mB_arr_int rfl 0 rfl us_ria (by decide) rfl (by decide) (by decide) (by decide) dU_init_29 (fun q3 H Y => ?_)
  have Y : us_Y D A [(a0, .inr (0, [.ref q1, .int (nI 0), .ref q2, .null, .int 0, .null, .null, .null, .int 0])), (q1, .inl (cI, 480, .inl (fun _ => 0))), (q2, .inl (cI, 20, .inl (fun _ => 0))), (q3, .inl (cI, 20, .inl (fun _ => 0)))] s H locs := Y
  refine us_pUF X Y hin 0 rfl 3 (by decide) mB_fl_U_20 rfl rfl rfl rfl (Nat.le_of_ble_eq_true rfl) dU_init_31 (fun H locs Y => ?_)
  have Y : us_Y D A [(a0, .inr (0, [.ref q1, .int (nI 0), .ref q2, .ref q3, .int 0, .null, .null, .null, .int 0])), (q1, .inl (cI, 480, .inl (fun _ => 0))), (q2, .inl (cI, 20, .inl (fun _ => 0))), (q3, .inl (cI, 20, .inl (fun _ => 0)))] s H locs := Y
  refine lv_aload_n X.x X.b dU_init_34 rfl (lv_at hl 0 rfl) ?_
  refine lv_iconst (v := nI 0) X.x X.b dU_init_35 (by decide) ?_
  refine us_pU X Y 0 rfl 4 (by decide) mB_fl_U_23 rfl rfl rfl (Nat.le_of_ble_eq_true rfl) dU_init_36 (fun H locs Y => ?_)
  have Y : us_Y D A [(a0, .inr (0, [.ref q1, .int (nI 0), .ref q2, .ref q3, .int (nI 0), .null, .null, .null, .int 0])), (q1, .inl (cI, 480, .inl (fun _ => 0))), (q2, .inl (cI, 20, .inl (fun _ => 0))), (q3, .inl (cI, 20, .inl (fun _ => 0)))] s H locs := Y
  refine lv_aload_n X.x X.b dU_init_39 rfl (lv_at hl 0 rfl) ?_
  refine lv_sipush (v := nI 200) X.x X.b dU_init_40 (by decide) ?_
  refine us_new2 (atype := .int) (ty := .int) X Y mB_arr_int rfl 0 rfl us_ria (by decide) rfl (by decide) (by decide) (by decide) dU_init_43 (fun q4 H Y => ?_)
  have Y : us_Y D A [(a0, .inr (0, [.ref q1, .int (nI 0), .ref q2, .ref q3, .int (nI 0), .null, .null, .null, .int 0])), (q1, .inl (cI, 480, .inl (fun _ => 0))), (q2, .inl (cI, 20, .inl (fun _ => 0))), (q3, .inl (cI, 20, .inl (fun _ => 0))), (q4, .inl (cI, 200, .inl (fun _ => 0)))] s H locs := Y
  refine us_pUF X Y hin 0 rfl 5 (by decide) mB_fl_U_26 rfl rfl rfl rfl (Nat.le_of_ble_eq_true rfl) dU_init_45 (fun H locs Y => ?_)
  have Y : us_Y D A [(a0, .inr (0, [.ref q1, .int (nI 0), .ref q2, .ref q3, .int (nI 0), .ref q4, .null, .null, .int 0])), (q1, .inl (cI, 480, .inl (fun _ => 0))), (q2, .inl (cI, 20, .inl (fun _ => 0))), (q3, .inl (cI, 20, .inl (fun _ => 0))), (q4, .inl (cI, 200, .inl (fun _ => 0)))] s H locs := Y
  refine lv_aload_n X.x X.b dU_init_48 rfl (lv_at hl 0 rfl) ?_
  refine lv_sipush (v := nI 200) X.x X.b dU_init_49 (by decide) ?_
  refine us_new2 (atype := .int) (ty := .int) X Y mB_arr_int rfl 0 rfl us_ria (by decide) rfl (by decide) (by decide) (by decide) dU_init_52 (fun q5 H Y => ?_)
  have Y : us_Y D A [(a0, .inr (0, [.ref q1, .int (nI 0), .ref q2, .ref q3, .int (nI 0), .ref q4, .null, .null, .int 0])), (q1, .inl (cI, 480, .inl (fun _ => 0))), (q2, .inl (cI, 20, .inl (fun _ => 0))), (q3, .inl (cI, 20, .inl (fun _ => 0))), (q4, .inl (cI, 200, .inl (fun _ => 0))), (q5, .inl (cI, 200, .inl (fun _ => 0)))] s H locs := Y
  refine us_pUF X Y hin 0 rfl 6 (by decide) mB_fl_U_29 rfl rfl rfl rfl (Nat.le_of_ble_eq_true rfl) dU_init_54 (fun H locs Y => ?_)
  have Y : us_Y D A [(a0, .inr (0, [.ref q1, .int (nI 0), .ref q2, .ref q3, .int (nI 0), .ref q4, .ref q5, .null, .int 0])), (q1, .inl (cI, 480, .inl (fun _ => 0))), (q2, .inl (cI, 20, .inl (fun _ => 0))), (q3, .inl (cI, 20, .inl (fun _ => 0))), (q4, .inl (cI, 200, .inl (fun _ => 0))), (q5, .inl (cI, 200, .inl (fun _ => 0)))] s H locs := Y
  refine lv_aload_n X.x X.b dU_init_57 rfl (lv_at hl 0 rfl) ?_
  refine lv_sipush (v := nI 800) X.x X.b dU_init_58 (by decide) ?_
  refine us_new2 (atype := .int) (ty := .int) X Y mB_arr_int rfl 0 rfl us_ria (by decide) rfl (by decide) (by decide) (by decide) dU_init_61 (fun q6 H Y => ?_)
  have Y : us_Y D A [(a0, .inr (0, [.ref q1, .int (nI 0), .ref q2, .ref q3, .int (nI 0), .ref q4, .ref q5, .null, .int 0])), (q1, .inl (cI, 480, .inl (fun _ => 0))), (q2, .inl (cI, 20, .inl (fun _ => 0))), (q3, .inl (cI, 20, .inl (fun _ => 0))), (q4, .inl (cI, 200, .inl (fun _ => 0))), (q5, .inl (cI, 200, .inl (fun _ => 0))), (q6, .inl (cI, 800, .inl (fun _ => 0)))] s H locs := Y
  refine us_pUF X Y hin 0 rfl 7 (by decide) mB_fl_U_32 rfl rfl rfl rfl (Nat.le_of_ble_eq_true rfl) dU_init_63 (fun H locs Y => ?_)
  have Y : us_Y D A [(a0, .inr (0, [.ref q1, .int (nI 0), .ref q2, .ref q3, .int (nI 0), .ref q4, .ref q5, .ref q6, .int 0])), (q1, .inl (cI, 480, .inl (fun _ => 0))), (q2, .inl (cI, 20, .inl (fun _ => 0))), (q3, .inl (cI, 20, .inl (fun _ => 0))), (q4, .inl (cI, 200, .inl (fun _ => 0))), (q5, .inl (cI, 200, .inl (fun _ => 0))), (q6, .inl (cI, 800, .inl (fun _ => 0)))] s H locs := Y
  refine lv_aload_n X.x X.b dU_init_66 rfl (lv_at hl 0 rfl) ?_
  refine lv_iconst (v := nI 0) X.x X.b dU_init_67 (by decide) ?_
  refine us_pU X Y 0 rfl 8 (by decide) mB_fl_U_35 rfl rfl rfl (Nat.le_of_ble_eq_true rfl) dU_init_68 (fun H locs Y => ?_)
  have Y : us_Y D A [(a0, .inr (0, [.ref q1, .int (nI 0), .ref q2, .ref q3, .int (nI 0), .ref q4, .ref q5, .ref q6, .int (nI 0)])), (q1, .inl (cI, 480, .inl (fun _ => 0))), (q2, .inl (cI, 20, .inl (fun _ => 0))), (q3, .inl (cI, 20, .inl (fun _ => 0))), (q4, .inl (cI, 200, .inl (fun _ => 0))), (q5, .inl (cI, 200, .inl (fun _ => 0))), (q6, .inl (cI, 800, .inl (fun _ => 0)))] s H locs := Y
  exact W.vret X.x X.b hr (fun t ht hW => ⟨⟨(us_ad a0 q1 q2 q3 q4 q5 q6 q6, cI), rfl, rfl, by rw [ht]; exact Y.1, va_K.moved hW.alike X.2.1, Y.2.1⟩, Y.2.2.F ht⟩) Y.2.2.2.2 dU_init_71 hlk
set_option maxHeartbeats 4000000 in
set_option maxRecDepth 100000 in
theorem k_M_init (l : Launch) (D : va_G) (a0 sz : Nat) : Met l yM_init (.code yM_init cM_init 1 none :: wB) { frames := 1, cells := 7, slots := 15186, locals := 12 } (va_Pc [.ref a0] (us_P D [] [(a0, .inr (1, [.int 0, .int 0, .int 0, .int 0, .null, .null, .null, .null, .null, .null, .null]))] sz)) (va_Qv (fun u : (Nat → Nat) × ClassId × ClassId => u.1 0 = a0) (fun u t => us_Z D (tyM u.2.1 u.2.2) (va_A [(a0, .inr (1, [.int 0, .int 0, .int 0, .int 0, .null, .null, .null, .null, .null, .null, .null]))] sz) (mW u.1 u.2.1 u.2.2 (nI 0) 0 0 0 (fun _ => 0) (fun _ => 0) (fun _ => 0) (fun _ => 0) (fun _ => 0) (fun _ => 0) (fun _ => 0)) t) (va_A [(a0, .inr (1, [.int 0, .int 0, .int 0, .int 0, .null, .null, .null, .null, .null, .null, .null]))] sz)) 7 15186 (va_A [(a0, .inr (1, [.int 0, .int 0, .int 0, .int 0, .null, .null, .null, .null, .null, .null, .null]))] sz) := by
  refine us_enterN (own := RM) rfl (by decide) (Nat.le_of_ble_eq_true rfl) ?_
  intro p e s m below meth c ls X Y hin hr hlk hl
  generalize va_A [(a0, .inr (1, [.int 0, .int 0, .int 0, .int 0, .null, .null, .null, .null, .null, .null, .null]))] sz = A at X Y ⊢
  have hl : lv_has ls 1 [(0, .ref a0)] := hl
  refine lv_aload_n X.x X.b dM_init_0 rfl (lv_at hl 0 rfl) ?_
  refine us_oi X mB_ml_M_3 mB_im_Ob_init mB_code_Ob_init hl.1 dM_init_1 (by decide) (by decide) ?_
  refine lv_aload_n X.x X.b dM_init_4 rfl (lv_at hl 0 rfl) ?_
  refine lv_sipush (v := nI 363) X.x X.b dM_init_5 (by decide) ?_
  refine us_new1 (atype := .int) (ty := .int) X Y mB_arr_int rfl (by decide) rfl (by decide) (by decide) (by decide) dM_init_8 (fun q1 cI H X Y => ?_)
  have X : us_X p s m _ c _ _ _ D [(cI, .int)] A := X
  have Y : us_Y D A [(a0, .inr (1, [.int 0, .int 0, .int 0, .int 0, .null, .null, .null, .null, .null, .null, .null])), (q1, .inl (cI, 363, .inl (fun _ => 0)))] s H [] := Y
  refine us_pMF X Y hin 0 rfl 4 (by decide) mB_fl_M_9 rfl rfl rfl rfl (Nat.le_of_ble_eq_true rfl) dM_init_10 (fun H locs Y => ?_)
  have Y : us_Y D A [(a0, .inr (1, [.int 0, .int 0, .int 0, .int 0, .ref q1, .null, .null, .null, .null, .null, .null])), (q1, .inl (cI, 363, .inl (fun _ => 0)))] s H locs := Y
  refine lv_aload_n X.x X.b dM_init_13 rfl (lv_at hl 0 rfl) ?_
  refine lv_sipush (v := nI 7200) X.x X.b dM_init_14 (by decide) ?_
  refine us_new2 (atype := .int) (ty := .int) X Y mB_arr_int rfl 0 rfl us_ria (by decide) rfl (by decide) (by decide) (by decide) dM_init_17 (fun q2 H Y => ?_)
  have Y : us_Y D A [(a0, .inr (1, [.int 0, .int 0, .int 0, .int 0, .ref q1, .null, .null, .null, .null, .null, .null])), (q1, .inl (cI, 363, .inl (fun _ => 0))), (q2, .inl (cI, 7200, .inl (fun _ => 0)))] s H locs := Y
  refine us_pMF X Y hin 0 rfl 5 (by decide) mB_fl_M_13 rfl rfl rfl rfl (Nat.le_of_ble_eq_true rfl) dM_init_19 (fun H locs Y => ?_)
  have Y : us_Y D A [(a0, .inr (1, [.int 0, .int 0, .int 0, .int 0, .ref q1, .ref q2, .null, .null, .null, .null, .null])), (q1, .inl (cI, 363, .inl (fun _ => 0))), (q2, .inl (cI, 7200, .inl (fun _ => 0)))] s H locs := Y
  refine lv_aload_n X.x X.b dM_init_22 rfl (lv_at hl 0 rfl) ?_
  refine lv_sipush (v := nI 363) X.x X.b dM_init_23 (by decide) ?_
  refine us_new1 (atype := .boolean) (ty := .boolean) X Y mB_arr_boolean rfl (by decide) rfl (by decide) (by decide) (by decide) dM_init_26 (fun q3 cZ H X Y => ?_)
  have X : us_X p s m _ c _ _ _ D [(cI, .int), (cZ, .boolean)] A := X
  have Y : us_Y D A [(a0, .inr (1, [.int 0, .int 0, .int 0, .int 0, .ref q1, .ref q2, .null, .null, .null, .null, .null])), (q1, .inl (cI, 363, .inl (fun _ => 0))), (q2, .inl (cI, 7200, .inl (fun _ => 0))), (q3, .inl (cZ, 363, .inl (fun _ => 0)))] s H locs := Y
  refine us_pMF X Y hin 0 rfl 6 (by decide) mB_fl_M_16 rfl rfl rfl rfl (Nat.le_of_ble_eq_true rfl) dM_init_28 (fun H locs Y => ?_)
  have Y : us_Y D A [(a0, .inr (1, [.int 0, .int 0, .int 0, .int 0, .ref q1, .ref q2, .ref q3, .null, .null, .null, .null])), (q1, .inl (cI, 363, .inl (fun _ => 0))), (q2, .inl (cI, 7200, .inl (fun _ => 0))), (q3, .inl (cZ, 363, .inl (fun _ => 0)))] s H locs := Y
  refine lv_aload_n X.x X.b dM_init_31 rfl (lv_at hl 0 rfl) ?_
  refine lv_sipush (v := nI 7200) X.x X.b dM_init_32 (by decide) ?_
  refine us_new2 (atype := .boolean) (ty := .boolean) X Y mB_arr_boolean rfl 1 rfl us_riz (by decide) rfl (by decide) (by decide) (by decide) dM_init_35 (fun q4 H Y => ?_)
  have Y : us_Y D A [(a0, .inr (1, [.int 0, .int 0, .int 0, .int 0, .ref q1, .ref q2, .ref q3, .null, .null, .null, .null])), (q1, .inl (cI, 363, .inl (fun _ => 0))), (q2, .inl (cI, 7200, .inl (fun _ => 0))), (q3, .inl (cZ, 363, .inl (fun _ => 0))), (q4, .inl (cZ, 7200, .inl (fun _ => 0)))] s H locs := Y
  refine us_pMF X Y hin 0 rfl 7 (by decide) mB_fl_M_20 rfl rfl rfl rfl (Nat.le_of_ble_eq_true rfl) dM_init_37 (fun H locs Y => ?_)
  have Y : us_Y D A [(a0, .inr (1, [.int 0, .int 0, .int 0, .int 0, .ref q1, .ref q2, .ref q3, .ref q4, .null, .null, .null])), (q1, .inl (cI, 363, .inl (fun _ => 0))), (q2, .inl (cI, 7200, .inl (fun _ => 0))), (q3, .inl (cZ, 363, .inl (fun _ => 0))), (q4, .inl (cZ, 7200, .inl (fun _ => 0)))] s H locs := Y
  refine lv_aload_n X.x X.b dM_init_40 rfl (lv_at hl 0 rfl) ?_
  refine lv_bipush (v := nI 20) X.x X.b dM_init_41 (by decide) ?_
  refine us_new2 (atype := .int) (ty := .int) X Y mB_arr_int rfl 0 rfl us_ria (by decide) rfl (by decide) (by decide) (by decide) dM_init_43 (fun q5 H Y => ?_)
  have Y : us_Y D A [(a0, .inr (1, [.int 0, .int 0, .int 0, .int 0, .ref q1, .ref q2, .ref q3, .ref q4, .null, .null, .null])), (q1, .inl (cI, 363, .inl (fun _ => 0))), (q2, .inl (cI, 7200, .inl (fun _ => 0))), (q3, .inl (cZ, 363, .inl (fun _ => 0))), (q4, .inl (cZ, 7200, .inl (fun _ => 0))), (q5, .inl (cI, 20, .inl (fun _ => 0)))] s H locs := Y
  refine us_pMF X Y hin 0 rfl 8 (by decide) mB_fl_M_23 rfl rfl rfl rfl (Nat.le_of_ble_eq_true rfl) dM_init_45 (fun H locs Y => ?_)
  have Y : us_Y D A [(a0, .inr (1, [.int 0, .int 0, .int 0, .int 0, .ref q1, .ref q2, .ref q3, .ref q4, .ref q5, .null, .null])), (q1, .inl (cI, 363, .inl (fun _ => 0))), (q2, .inl (cI, 7200, .inl (fun _ => 0))), (q3, .inl (cZ, 363, .inl (fun _ => 0))), (q4, .inl (cZ, 7200, .inl (fun _ => 0))), (q5, .inl (cI, 20, .inl (fun _ => 0)))] s H locs := Y
  refine lv_aload_n X.x X.b dM_init_48 rfl (lv_at hl 0 rfl) ?_
  refine lv_bipush (v := nI 20) X.x X.b dM_init_49 (by decide) ?_
  refine us_new2 (atype := .int) (ty := .int) X Y mB_arr_int rfl 0 rfl us_ria (by decide) rfl (by decide) (by decide) (by decide) dM_init_51 (fun q6 H Y => ?_)
  have Y : us_Y D A [(a0, .inr (1, [.int 0, .int 0, .int 0, .int 0, .ref q1, .ref q2, .ref q3, .ref q4, .ref q5, .null, .null])), (q1, .inl (cI, 363, .inl (fun _ => 0))), (q2, .inl (cI, 7200, .inl (fun _ => 0))), (q3, .inl (cZ, 363, .inl (fun _ => 0))), (q4, .inl (cZ, 7200, .inl (fun _ => 0))), (q5, .inl (cI, 20, .inl (fun _ => 0))), (q6, .inl (cI, 20, .inl (fun _ => 0)))] s H locs := Y
  refine us_pMF X Y hin 0 rfl 9 (by decide) mB_fl_M_26 rfl rfl rfl rfl (Nat.le_of_ble_eq_true rfl) dM_init_53 (fun H locs Y => ?_)
  have Y : us_Y D A [(a0, .inr (1, [.int 0, .int 0, .int 0, .int 0, .ref q1, .ref q2, .ref q3, .ref q4, .ref q5, .ref q6, .null])), (q1, .inl (cI, 363, .inl (fun _ => 0))), (q2, .inl (cI, 7200, .inl (fun _ => 0))), (q3, .inl (cZ, 363, .inl (fun _ => 0))), (q4, .inl (cZ, 7200, .inl (fun _ => 0))), (q5, .inl (cI, 20, .inl (fun _ => 0))), (q6, .inl (cI, 20, .inl (fun _ => 0)))] s H locs := Y
  refine lv_aload_n X.x X.b dM_init_56 rfl (lv_at hl 0 rfl) ?_
  refine lv_bipush (v := nI 20) X.x X.b dM_init_57 (by decide) ?_
  refine us_new2 (atype := .int) (ty := .int) X Y mB_arr_int rfl 0 rfl us_ria (by decide) rfl (by decide) (by decide) (by decide) dM_init_59 (fun q7 H Y => ?_)
  have Y : us_Y D A [(a0, .inr (1, [.int 0, .int 0, .int 0, .int 0, .ref q1, .ref q2, .ref q3, .ref q4, .ref q5, .ref q6, .null])), (q1, .inl (cI, 363, .inl (fun _ => 0))), (q2, .inl (cI, 7200, .inl (fun _ => 0))), (q3, .inl (cZ, 363, .inl (fun _ => 0))), (q4, .inl (cZ, 7200, .inl (fun _ => 0))), (q5, .inl (cI, 20, .inl (fun _ => 0))), (q6, .inl (cI, 20, .inl (fun _ => 0))), (q7, .inl (cI, 20, .inl (fun _ => 0)))] s H locs := Y
  refine us_pMF X Y hin 0 rfl 10 (by decide) mB_fl_M_29 rfl rfl rfl rfl (Nat.le_of_ble_eq_true rfl) dM_init_61 (fun H locs Y => ?_)
  have Y : us_Y D A [(a0, .inr (1, [.int 0, .int 0, .int 0, .int 0, .ref q1, .ref q2, .ref q3, .ref q4, .ref q5, .ref q6, .ref q7])), (q1, .inl (cI, 363, .inl (fun _ => 0))), (q2, .inl (cI, 7200, .inl (fun _ => 0))), (q3, .inl (cZ, 363, .inl (fun _ => 0))), (q4, .inl (cZ, 7200, .inl (fun _ => 0))), (q5, .inl (cI, 20, .inl (fun _ => 0))), (q6, .inl (cI, 20, .inl (fun _ => 0))), (q7, .inl (cI, 20, .inl (fun _ => 0)))] s H locs := Y
  exact W.vret X.x X.b hr (fun t ht hW => ⟨⟨(us_ad a0 q1 q2 q3 q4 q5 q6 q7, cI, cZ), rfl, rfl, by rw [ht]; exact Y.1, va_K.moved hW.alike X.2.1, Y.2.1⟩, Y.2.2.F ht⟩) Y.2.2.2.2 dM_init_64 hlk
