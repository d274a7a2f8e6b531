/-! 60.law (laid by wip/whole/gen/law.py): one turn of the law, case by case. -/
/-! what the law's calls of its helpers need of the words -/
theorem sw_insert : us_SW 50 6 yL_insert cL_insert 7 [(0, 14, 17, 13), (0, 14, 21, 15)] := ⟨mB_ml_L_50, mB_st_L_insert, mB_ini_L, mB_code_L_insert, by decide +kernel⟩
theorem sw_set : us_SW 60 5 yL_set cL_set 6 [(0, 9, 12, 13), (0, 9, 16, 15), (0, 9, 20, 21)] := ⟨mB_ml_L_60, mB_st_L_set, mB_ini_L, mB_code_L_set, by decide +kernel⟩
theorem sw_remove : us_SW 64 2 yL_remove cL_remove 3 [(0, 5, 8, 15), (0, 5, 11, 21)] := ⟨mB_ml_L_64, mB_st_L_remove, mB_ini_L, mB_code_L_remove, by decide +kernel⟩
theorem sw_removeAll : us_SW 68 4 yL_removeAll cL_removeAll 5 [(0, 10, 13, 13), (0, 10, 17, 15)] := ⟨mB_ml_L_68, mB_st_L_removeAll, mB_ini_L, mB_code_L_removeAll, by decide +kernel⟩
theorem sw_find : us_SW 72 4 yL_find cL_find 5 [(0, 10, 13, 13)] := ⟨mB_ml_L_72, mB_st_L_find, mB_ini_L, mB_code_L_find, by decide +kernel⟩
theorem sw_value : us_SW 75 4 yL_value cL_value 5 [(0, 10, 13, 13), (0, 10, 17, 21)] := ⟨mB_ml_L_75, mB_st_L_value, mB_ini_L, mB_code_L_value, by decide +kernel⟩
theorem sw_mark : us_SW 78 2 yL_mark cL_mark 3 [(0, 5, 8, 15)] := ⟨mB_ml_L_78, mB_st_L_mark, mB_ini_L, mB_code_L_mark, by decide +kernel⟩
theorem sw_back : us_SW 81 2 yL_back cL_back 3 [(0, 5, 8, 21)] := ⟨mB_ml_L_81, mB_st_L_back, mB_ini_L, mB_code_L_back, by decide +kernel⟩
theorem sw_release : us_SW 84 2 yL_release cL_release 3 [(0, 5, 8, 21)] := ⟨mB_ml_L_84, mB_st_L_release, mB_ini_L, mB_code_L_release, by decide +kernel⟩
section USW
variable {p : Program} {l : Launch} {e : Env} {s : State} {m : MethodId} {below : List Frame} {meth : Method} {c : Code} {H : Heap} {locs : List Loc} {cells slots : Nat} {Q : State → Prop} {ls : Array Slot} {D : va_G} {A : Nat → Prop} {b L i : Nat} {xs : Nat → Int32} {ad md : Nat → Nat} {cI cZ cJ : ClassId}
variable {th : Int32} {n : Nat} {T : us_T} {k np : Nat} {nm : Nat → Int32} {sn : Nat → Nat} {sT : Nat → us_T} {sk : Nat → Nat} {C PN CA CK CR CB V KV I KI PM KR KC : Nat → Int32} {O : Nat → Int64}
set_option maxHeartbeats 4000000 in
set_option maxRecDepth 100000 in
theorem law_c0 (X : us_X p s m #[Value.ref b] c code 7 RL D (tyL cI cZ cJ) A) (hE : us_E A s) (hl9 : l.stackTraces = false) (hX : va_X b L xs s s.heap) (hbl : b < s.heap.size) (hbA : ¬ A b) (hL : L ≤ 2560) (hi : i + 5 ≤ L) (hc : cells + 1 ≤ 1055) (hs : slots + 6 ≤ 25209) (hU : us_U n T k np nm sn sT sk C PN CA CK CR CB) (hM : us_M n T k np nm sn sT sk V KV I KI PM KR KC) (Y : us_Y D A (lW ad md cI cZ cJ (n, np, k, C, PN, CA, CK, CR, CB) (th, n, np, k, V, KV, I, KI, PM, KR, KC) O) s H locs) (hl : lv_has ls 7 [(4, .int (nI i)), (3, .ref (ad 7)), (2, .ref (md 0)), (1, .ref (ad 0)), (0, .ref b)]) (kk : ∀ (u : us_SU) (w : us_SM) (O : Nat → Int64) (H : Heap) (locs : List Loc) (ls : Array Slot), us_LI u w → us_Y D A (lW ad md cI cZ cJ u w O) s H locs → lv_has ls 7 [(4, .int (nI i)), (3, .ref (ad 7)), (2, .ref (md 0)), (1, .ref (ad 0)), (0, .ref b)] → W p l e room_1 s m #[Value.ref b] below meth c H locs (cells + 1) (slots + 6) Q (F0 m 645 ls [])) : W p l e room_1 s m #[Value.ref b] below meth c H locs cells slots Q (F0 m 92 ls []) := by
  have hL31 : L < 2 ^ 31 := by omega
  refine lv_aload_n X.x X.b dL_law_92 rfl (lv_at hl 3 rfl) ?_
  refine lv_aload_n X.x X.b dL_law_93 rfl (lv_at hl 4 rfl) ?_
  refine lv_iload X.x X.b dL_law_94 (lv_at hl 0 rfl) ?_
  refine lv_iconst (v := nI 1) X.x X.b dL_law_96 (by decide) ?_
  refine us_iadd X dL_law_97 ?_
  refine us_sc X Y hX hbl hbA (i := i + 1) (by omega) (by omega) dL_law_98 ?_
  refine lv_aload_n X.x X.b dL_law_99 rfl (lv_at hl 4 rfl) ?_
  refine lv_iload X.x X.b dL_law_100 (lv_at hl 0 rfl) ?_
  refine lv_iconst (v := nI 2) X.x X.b dL_law_102 (by decide) ?_
  refine us_iadd X dL_law_103 ?_
  refine us_sc X Y hX hbl hbA (i := i + 2) (by omega) (by omega) dL_law_104 ?_
  refine lv_aload_n X.x X.b dL_law_105 rfl (lv_at hl 4 rfl) ?_
  refine lv_iload X.x X.b dL_law_106 (lv_at hl 0 rfl) ?_
  refine lv_iconst (v := nI 3) X.x X.b dL_law_108 (by decide) ?_
  refine us_iadd X dL_law_109 ?_
  refine us_sc X Y hX hbl hbA (i := i + 3) (by omega) (by omega) dL_law_110 ?_
  refine lv_aload_n X.x X.b dL_law_111 rfl (lv_at hl 4 rfl) ?_
  refine lv_iload X.x X.b dL_law_112 (lv_at hl 0 rfl) ?_
  refine lv_iconst (v := nI 4) X.x X.b dL_law_114 (by decide) ?_
  refine us_iadd X dL_law_115 ?_
  refine us_sc X Y hX hbl hbA (i := i + 4) (by omega) (by omega) dL_law_116 ?_
  refine lv_aload_n X.x X.b dL_law_117 rfl (lv_at hl 1 rfl) ?_
  refine us_hi (rest := []) X Y hE (k_L_insert l D ad cI H.size C PN CA CK CR CB n np k cJ O T nm sn sT sk hU hl9 (xs (i + 1)) (xs (i + 2)) (xs (i + 3)) (xs (i + 4))) us_Lo sw_insert rfl ⟨by decide, by decide⟩ ⟨hc, hs⟩ hl.1 rfl (Nat.le_of_ble_eq_true rfl) dL_law_118 (fun rr u H locs hw Y => ?_)
  obtain ⟨cd, ans, n', T', k', rfl, hR, hu, hO⟩ := hw
  have Y : us_Y D A (lW ad md cI cZ cJ u.1 (th, n, np, k, V, KV, I, KI, PM, KR, KC) u.2) s H locs := Y.perm [8, 9, 10, 11, 12, 13, 14, 15, 0, 1, 2, 3, 4, 5, 6, 7] rfl rfl
  refine lv_istore (lv' := [(5, .int (nI cd)), (4, .int (nI i)), (3, .ref (ad 7)), (2, .ref (md 0)), (1, .ref (ad 0)), (0, .ref b)]) X.x X.b dL_law_121 hl (by decide) rfl (fun ls hl => ?_)
  refine lv_aload_n X.x X.b dL_law_123 rfl (lv_at hl 3 rfl) ?_
  refine lv_aload_n X.x X.b dL_law_124 rfl (lv_at hl 5 rfl) ?_
  refine lv_iload X.x X.b dL_law_125 (lv_at hl 1 rfl) ?_
  refine lv_iconst (v := nI 1) X.x X.b dL_law_127 (by decide) ?_
  refine us_iadd X dL_law_128 ?_
  refine us_sc X Y hX hbl hbA (i := i + 1) (by omega) (by omega) dL_law_129 ?_
  refine lv_aload_n X.x X.b dL_law_130 rfl (lv_at hl 5 rfl) ?_
  refine lv_iload X.x X.b dL_law_131 (lv_at hl 1 rfl) ?_
  refine lv_iconst (v := nI 2) X.x X.b dL_law_133 (by decide) ?_
  refine us_iadd X dL_law_134 ?_
  refine us_sc X Y hX hbl hbA (i := i + 2) (by omega) (by omega) dL_law_135 ?_
  refine lv_aload_n X.x X.b dL_law_136 rfl (lv_at hl 5 rfl) ?_
  refine lv_iload X.x X.b dL_law_137 (lv_at hl 1 rfl) ?_
  refine lv_iconst (v := nI 3) X.x X.b dL_law_139 (by decide) ?_
  refine us_iadd X dL_law_140 ?_
  refine us_sc X Y hX hbl hbA (i := i + 3) (by omega) (by omega) dL_law_141 ?_
  refine lv_aload_n X.x X.b dL_law_142 rfl (lv_at hl 5 rfl) ?_
  refine lv_iload X.x X.b dL_law_143 (lv_at hl 1 rfl) ?_
  refine lv_iconst (v := nI 4) X.x X.b dL_law_145 (by decide) ?_
  refine us_iadd X dL_law_146 ?_
  refine us_sc X Y hX hbl hbA (i := i + 4) (by omega) (by omega) dL_law_147 ?_
  refine us_vi (rest := []) X Y (k_M_insert l D md cI cZ H.size th n np k V KV I KI PM KR KC T nm sn sT sk hM (xs (i + 1)) (xs (i + 2)) (xs (i + 3)) (xs (i + 4))) us_Lm 0 rfl rfl cv_L_55 rfl ⟨by decide, by decide⟩ ⟨hc, hs⟩ hl.1 rfl (Nat.le_of_ble_eq_true rfl) dL_law_148 (fun r2 w H locs hw Y => ?_)
  obtain ⟨cd2, n2, T2, k2, hR2, hw2⟩ := hw
  have Y : us_Y D A (lW ad md cI cZ cJ u.1 w u.2) s H locs := Y
  obtain ⟨ec, ea, e0, e1, e2⟩ := hR.one hR2
  rw [← ec] at hw2
  rw [← e0] at hw2
  rw [← e1] at hw2
  rw [← e2] at hw2
  refine lv_istore (lv' := [(6, .int r2), (5, .int (nI cd)), (4, .int (nI i)), (3, .ref (ad 7)), (2, .ref (md 0)), (1, .ref (ad 0)), (0, .ref b)]) X.x X.b dL_law_151 hl (by decide) rfl (fun ls hl => ?_)
  refine lv_aload_n X.x X.b dL_law_153 rfl (lv_at hl 4 rfl) ?_
  refine us_vi (rest := []) X Y (k_M_thrown l D md cI cZ H.size w.1 w.2.1 w.2.2.1 w.2.2.2.1 w.2.2.2.2.1 w.2.2.2.2.2.1 w.2.2.2.2.2.2.1 w.2.2.2.2.2.2.2.1 w.2.2.2.2.2.2.2.2.1 w.2.2.2.2.2.2.2.2.2.1 w.2.2.2.2.2.2.2.2.2.2) us_Lm 0 rfl rfl cv_L_56 rfl ⟨by decide, by decide⟩ ⟨hc, hs⟩ hl.1 rfl (Nat.le_of_ble_eq_true rfl) dL_law_154 (fun r3 _ H locs h3 Y => ?_)
  rw [hw2.1] at h3
  subst h3
  have Y : us_Y D A (lW ad md cI cZ cJ u.1 w u.2) s H locs := Y
  refine lv_iload X.x X.b dL_law_157 (lv_at hl 1 rfl) ?_
  refine lv_icmp_eq (tgt := 164) X.x X.b dL_law_159 (by decide) (fun _ => ?_) (fun h0 => absurd rfl h0)
  refine lv_iload X.x X.b dL_law_164 (lv_at hl 1 rfl) ?_
  refine lv_if_ne (tgt := 181) X.x X.b dL_law_166 (by decide) (fun h0 => ?_) (fun h0 => ?_)
  · refine lv_goto (tgt := 645) X.x X.b dL_law_181 (by decide) ?_
    exact kk u.1 w u.2 H locs ls ⟨nI cd, n', T', k', np, nm, sn, sT, sk, hu, hw2⟩ Y (lv_sub hl [2, 3, 4, 5, 6] rfl)
  · have hcd : cd = 0 := us_nI (by have := hR.cd; omega) (by decide) (h0.trans nI_0.symm)
    refine lv_aload_n X.x X.b dL_law_169 rfl (lv_at hl 3 rfl) ?_
    refine lv_iconst (v := nI 0) X.x X.b dL_law_170 (by decide) ?_
    refine us_ll X Y 0 2 rfl rfl (i := 0) (by decide) (by decide) dL_law_171 ?_
    refine lv_iload X.x X.b dL_law_172 (lv_at hl 0 rfl) ?_
    refine lv_i2l (v := r2.toInt64) X.x X.b dL_law_174 rfl ?_
    refine us_lc X (by rw [hO hcd, ea hcd]) dL_law_175 ?_
    refine us_eq0 (tgt := 181) X dL_law_176 (by decide) ?_
    refine lv_goto (tgt := 645) X.x X.b dL_law_181 (by decide) ?_
    exact kk u.1 w u.2 H locs ls ⟨nI cd, n', T', k', np, nm, sn, sT, sk, hu, hw2⟩ Y (lv_sub hl [2, 3, 4, 5, 6] rfl)
set_option maxHeartbeats 4000000 in
set_option maxRecDepth 100000 in
theorem law_c1 (X : us_X p s m #[Value.ref b] c code 7 RL D (tyL cI cZ cJ) A) (hE : us_E A s) (hl9 : l.stackTraces = false) (hX : va_X b L xs s s.heap) (hbl : b < s.heap.size) (hbA : ¬ A b) (hL : L ≤ 2560) (hi : i + 5 ≤ L) (hc : cells + 1 ≤ 1055) (hs : slots + 6 ≤ 25209) (hU : us_U n T k np nm sn sT sk C PN CA CK CR CB) (hM : us_M n T k np nm sn sT sk V KV I KI PM KR KC) (Y : us_Y D A (lW ad md cI cZ cJ (n, np, k, C, PN, CA, CK, CR, CB) (th, n, np, k, V, KV, I, KI, PM, KR, KC) O) s H locs) (hl : lv_has ls 7 [(4, .int (nI i)), (3, .ref (ad 7)), (2, .ref (md 0)), (1, .ref (ad 0)), (0, .ref b)]) (kk : ∀ (u : us_SU) (w : us_SM) (O : Nat → Int64) (H : Heap) (locs : List Loc) (ls : Array Slot), us_LI u w → us_Y D A (lW ad md cI cZ cJ u w O) s H locs → lv_has ls 7 [(4, .int (nI i)), (3, .ref (ad 7)), (2, .ref (md 0)), (1, .ref (ad 0)), (0, .ref b)] → W p l e room_1 s m #[Value.ref b] below meth c H locs (cells + 1) (slots + 6) Q (F0 m 645 ls [])) : W p l e room_1 s m #[Value.ref b] below meth c H locs cells slots Q (F0 m 184 ls []) := by
  have hL31 : L < 2 ^ 31 := by omega
  refine lv_aload_n X.x X.b dL_law_184 rfl (lv_at hl 3 rfl) ?_
  refine lv_aload_n X.x X.b dL_law_185 rfl (lv_at hl 4 rfl) ?_
  refine lv_iload X.x X.b dL_law_186 (lv_at hl 0 rfl) ?_
  refine lv_iconst (v := nI 1) X.x X.b dL_law_188 (by decide) ?_
  refine us_iadd X dL_law_189 ?_
  refine us_sc X Y hX hbl hbA (i := i + 1) (by omega) (by omega) dL_law_190 ?_
  refine lv_aload_n X.x X.b dL_law_191 rfl (lv_at hl 4 rfl) ?_
  refine lv_iload X.x X.b dL_law_192 (lv_at hl 0 rfl) ?_
  refine lv_iconst (v := nI 2) X.x X.b dL_law_194 (by decide) ?_
  refine us_iadd X dL_law_195 ?_
  refine us_sc X Y hX hbl hbA (i := i + 2) (by omega) (by omega) dL_law_196 ?_
  refine lv_aload_n X.x X.b dL_law_197 rfl (lv_at hl 4 rfl) ?_
  refine lv_iload X.x X.b dL_law_198 (lv_at hl 0 rfl) ?_
  refine lv_iconst (v := nI 3) X.x X.b dL_law_200 (by decide) ?_
  refine us_iadd X dL_law_201 ?_
  refine us_sc X Y hX hbl hbA (i := i + 3) (by omega) (by omega) dL_law_202 ?_
  refine lv_aload_n X.x X.b dL_law_203 rfl (lv_at hl 4 rfl) ?_
  refine lv_iload X.x X.b dL_law_204 (lv_at hl 0 rfl) ?_
  refine lv_iconst (v := nI 4) X.x X.b dL_law_206 (by decide) ?_
  refine us_iadd X dL_law_207 ?_
  refine us_sc X Y hX hbl hbA (i := i + 4) (by omega) (by omega) dL_law_208 ?_
  refine us_beq (t := 216) X dL_law_209 (by decide) dL_law_212 dL_law_213 (by decide) dL_law_216 (fun y1 hy1 => ?_)
  refine us_hi (rest := []) X Y hE (k_L_set l D ad cI H.size C PN CA CK CR CB n np k T nm sn sT sk hU hl9 (xs (i + 1)) (xs (i + 2)) (xs (i + 3)) y1) us_Lu sw_set rfl ⟨by decide, by decide⟩ ⟨hc, hs⟩ hl.1 rfl (Nat.le_of_ble_eq_true rfl) dL_law_217 (fun rr u H locs hw Y => ?_)
  obtain ⟨cd, T', k', rfl, hR, hu⟩ := hw
  have Y : us_Y D A (lW ad md cI cZ cJ u (th, n, np, k, V, KV, I, KI, PM, KR, KC) O) s H locs := Y.perm [0, 9, 10, 11, 12, 13, 14, 15, 1, 2, 3, 4, 5, 6, 7, 8] rfl rfl
  refine lv_istore (lv' := [(5, .int (nI cd)), (4, .int (nI i)), (3, .ref (ad 7)), (2, .ref (md 0)), (1, .ref (ad 0)), (0, .ref b)]) X.x X.b dL_law_220 hl (by decide) rfl (fun ls hl => ?_)
  refine lv_aload_n X.x X.b dL_law_222 rfl (lv_at hl 3 rfl) ?_
  refine lv_aload_n X.x X.b dL_law_223 rfl (lv_at hl 5 rfl) ?_
  refine lv_iload X.x X.b dL_law_224 (lv_at hl 1 rfl) ?_
  refine lv_iconst (v := nI 1) X.x X.b dL_law_226 (by decide) ?_
  refine us_iadd X dL_law_227 ?_
  refine us_sc X Y hX hbl hbA (i := i + 1) (by omega) (by omega) dL_law_228 ?_
  refine lv_aload_n X.x X.b dL_law_229 rfl (lv_at hl 5 rfl) ?_
  refine lv_iload X.x X.b dL_law_230 (lv_at hl 1 rfl) ?_
  refine lv_iconst (v := nI 2) X.x X.b dL_law_232 (by decide) ?_
  refine us_iadd X dL_law_233 ?_
  refine us_sc X Y hX hbl hbA (i := i + 2) (by omega) (by omega) dL_law_234 ?_
  refine lv_aload_n X.x X.b dL_law_235 rfl (lv_at hl 5 rfl) ?_
  refine lv_iload X.x X.b dL_law_236 (lv_at hl 1 rfl) ?_
  refine lv_iconst (v := nI 3) X.x X.b dL_law_238 (by decide) ?_
  refine us_iadd X dL_law_239 ?_
  refine us_sc X Y hX hbl hbA (i := i + 3) (by omega) (by omega) dL_law_240 ?_
  refine lv_aload_n X.x X.b dL_law_241 rfl (lv_at hl 5 rfl) ?_
  refine lv_iload X.x X.b dL_law_242 (lv_at hl 1 rfl) ?_
  refine lv_iconst (v := nI 4) X.x X.b dL_law_244 (by decide) ?_
  refine us_iadd X dL_law_245 ?_
  refine us_sc X Y hX hbl hbA (i := i + 4) (by omega) (by omega) dL_law_246 ?_
  refine us_beq (t := 254) X dL_law_247 (by decide) dL_law_250 dL_law_251 (by decide) dL_law_254 (fun y2 hy2 => ?_)
  have ey := us_yy hy1 hy2
  subst ey
  refine us_vv (rest := []) X Y (k_M_set l D md cI cZ H.size th n np k V KV I KI PM KR KC T nm sn sT sk hM (xs (i + 1)) (xs (i + 2)) (xs (i + 3)) _) us_Lm 0 rfl rfl cv_L_63 rfl ⟨by decide, by decide⟩ ⟨hc, hs⟩ hl.1 rfl (Nat.le_of_ble_eq_true rfl) dL_law_255 (fun w H locs hw Y => ?_)
  obtain ⟨cd2, T2, k2, hR2, hw2⟩ := hw
  have Y : us_Y D A (lW ad md cI cZ cJ u w O) s H locs := Y
  obtain ⟨ec, e0, e1⟩ := hR.one hU.1 hR2
  rw [← ec] at hw2
  rw [← e0] at hw2
  rw [← e1] at hw2
  refine lv_aload_n X.x X.b dL_law_258 rfl (lv_at hl 3 rfl) ?_
  refine us_vi (rest := []) X Y (k_M_thrown l D md cI cZ H.size w.1 w.2.1 w.2.2.1 w.2.2.2.1 w.2.2.2.2.1 w.2.2.2.2.2.1 w.2.2.2.2.2.2.1 w.2.2.2.2.2.2.2.1 w.2.2.2.2.2.2.2.2.1 w.2.2.2.2.2.2.2.2.2.1 w.2.2.2.2.2.2.2.2.2.2) us_Lm 0 rfl rfl cv_L_56 rfl ⟨by decide, by decide⟩ ⟨hc, hs⟩ hl.1 rfl (Nat.le_of_ble_eq_true rfl) dL_law_259 (fun r3 _ H locs h3 Y => ?_)
  rw [hw2.1] at h3
  subst h3
  have Y : us_Y D A (lW ad md cI cZ cJ u w O) s H locs := Y
  refine lv_iload X.x X.b dL_law_262 (lv_at hl 0 rfl) ?_
  refine lv_icmp_eq (tgt := 269) X.x X.b dL_law_264 (by decide) (fun _ => ?_) (fun h0 => absurd rfl h0)
  refine lv_goto (tgt := 645) X.x X.b dL_law_269 (by decide) ?_
  exact kk u w O H locs ls ⟨nI cd, n, T', k', np, nm, sn, sT, sk, hu, hw2⟩ Y (lv_sub hl [1, 2, 3, 4, 5] rfl)
set_option maxHeartbeats 4000000 in
set_option maxRecDepth 100000 in
theorem law_c2 (X : us_X p s m #[Value.ref b] c code 7 RL D (tyL cI cZ cJ) A) (hE : us_E A s) (hl9 : l.stackTraces = false) (hX : va_X b L xs s s.heap) (hbl : b < s.heap.size) (hbA : ¬ A b) (hL : L ≤ 2560) (hi : i + 5 ≤ L) (hc : cells + 1 ≤ 1055) (hs : slots + 6 ≤ 25209) (hU : us_U n T k np nm sn sT sk C PN CA CK CR CB) (hM : us_M n T k np nm sn sT sk V KV I KI PM KR KC) (Y : us_Y D A (lW ad md cI cZ cJ (n, np, k, C, PN, CA, CK, CR, CB) (th, n, np, k, V, KV, I, KI, PM, KR, KC) O) s H locs) (hl : lv_has ls 7 [(4, .int (nI i)), (3, .ref (ad 7)), (2, .ref (md 0)), (1, .ref (ad 0)), (0, .ref b)]) (kk : ∀ (u : us_SU) (w : us_SM) (O : Nat → Int64) (H : Heap) (locs : List Loc) (ls : Array Slot), us_LI u w → us_Y D A (lW ad md cI cZ cJ u w O) s H locs → lv_has ls 7 [(4, .int (nI i)), (3, .ref (ad 7)), (2, .ref (md 0)), (1, .ref (ad 0)), (0, .ref b)] → W p l e room_1 s m #[Value.ref b] below meth c H locs (cells + 1) (slots + 6) Q (F0 m 645 ls [])) : W p l e room_1 s m #[Value.ref b] below meth c H locs cells slots Q (F0 m 272 ls []) := by
  have hL31 : L < 2 ^ 31 := by omega
  refine lv_aload_n X.x X.b dL_law_272 rfl (lv_at hl 3 rfl) ?_
  refine lv_aload_n X.x X.b dL_law_273 rfl (lv_at hl 4 rfl) ?_
  refine lv_iload X.x X.b dL_law_274 (lv_at hl 0 rfl) ?_
  refine lv_iconst (v := nI 1) X.x X.b dL_law_276 (by decide) ?_
  refine us_iadd X dL_law_277 ?_
  refine us_sc X Y hX hbl hbA (i := i + 1) (by omega) (by omega) dL_law_278 ?_
  refine us_hi (rest := []) X Y hE (k_L_remove l D ad cI H.size C PN CA CK CR CB n np k T nm sn sT sk hU hl9 (xs (i + 1))) us_Lu sw_remove rfl ⟨by decide, by decide⟩ ⟨hc, hs⟩ hl.1 rfl (Nat.le_of_ble_eq_true rfl) dL_law_279 (fun rr u H locs hw Y => ?_)
  obtain ⟨cd, n', T', k', rfl, hR, hu⟩ := hw
  have Y : us_Y D A (lW ad md cI cZ cJ u (th, n, np, k, V, KV, I, KI, PM, KR, KC) O) s H locs := Y.perm [0, 9, 10, 11, 12, 13, 14, 15, 1, 2, 3, 4, 5, 6, 7, 8] rfl rfl
  refine lv_istore (lv' := [(5, .int (nI cd)), (4, .int (nI i)), (3, .ref (ad 7)), (2, .ref (md 0)), (1, .ref (ad 0)), (0, .ref b)]) X.x X.b dL_law_282 hl (by decide) rfl (fun ls hl => ?_)
  refine lv_aload_n X.x X.b dL_law_284 rfl (lv_at hl 3 rfl) ?_
  refine lv_aload_n X.x X.b dL_law_285 rfl (lv_at hl 5 rfl) ?_
  refine lv_iload X.x X.b dL_law_286 (lv_at hl 1 rfl) ?_
  refine lv_iconst (v := nI 1) X.x X.b dL_law_288 (by decide) ?_
  refine us_iadd X dL_law_289 ?_
  refine us_sc X Y hX hbl hbA (i := i + 1) (by omega) (by omega) dL_law_290 ?_
  refine us_vv (rest := []) X Y (k_M_remove l D md cI cZ H.size th n np k V KV I KI PM KR KC T nm sn sT sk hM (xs (i + 1))) us_Lm 0 rfl rfl cv_L_67 rfl ⟨by decide, by decide⟩ ⟨hc, hs⟩ hl.1 rfl (Nat.le_of_ble_eq_true rfl) dL_law_291 (fun w H locs hw Y => ?_)
  obtain ⟨cd2, n2, T2, k2, hR2, hw2⟩ := hw
  have Y : us_Y D A (lW ad md cI cZ cJ u w O) s H locs := Y
  obtain ⟨ec, e0, e1, e2⟩ := hR.one hU.1 hR2
  rw [← ec] at hw2
  rw [← e0] at hw2
  rw [← e1] at hw2
  rw [← e2] at hw2
  refine lv_aload_n X.x X.b dL_law_294 rfl (lv_at hl 3 rfl) ?_
  refine us_vi (rest := []) X Y (k_M_thrown l D md cI cZ H.size w.1 w.2.1 w.2.2.1 w.2.2.2.1 w.2.2.2.2.1 w.2.2.2.2.2.1 w.2.2.2.2.2.2.1 w.2.2.2.2.2.2.2.1 w.2.2.2.2.2.2.2.2.1 w.2.2.2.2.2.2.2.2.2.1 w.2.2.2.2.2.2.2.2.2.2) us_Lm 0 rfl rfl cv_L_56 rfl ⟨by decide, by decide⟩ ⟨hc, hs⟩ hl.1 rfl (Nat.le_of_ble_eq_true rfl) dL_law_295 (fun r3 _ H locs h3 Y => ?_)
  rw [hw2.1] at h3
  subst h3
  have Y : us_Y D A (lW ad md cI cZ cJ u w O) s H locs := Y
  refine lv_iload X.x X.b dL_law_298 (lv_at hl 0 rfl) ?_
  refine lv_icmp_eq (tgt := 305) X.x X.b dL_law_300 (by decide) (fun _ => ?_) (fun h0 => absurd rfl h0)
  refine lv_goto (tgt := 645) X.x X.b dL_law_305 (by decide) ?_
  exact kk u w O H locs ls ⟨nI cd, n', T', k', np, nm, sn, sT, sk, hu, hw2⟩ Y (lv_sub hl [1, 2, 3, 4, 5] rfl)
set_option maxHeartbeats 4000000 in
set_option maxRecDepth 100000 in
theorem law_c3 (X : us_X p s m #[Value.ref b] c code 7 RL D (tyL cI cZ cJ) A) (hE : us_E A s) (hl9 : l.stackTraces = false) (hX : va_X b L xs s s.heap) (hbl : b < s.heap.size) (hbA : ¬ A b) (hL : L ≤ 2560) (hi : i + 5 ≤ L) (hc : cells + 1 ≤ 1055) (hs : slots + 6 ≤ 25209) (hU : us_U n T k np nm sn sT sk C PN CA CK CR CB) (hM : us_M n T k np nm sn sT sk V KV I KI PM KR KC) (Y : us_Y D A (lW ad md cI cZ cJ (n, np, k, C, PN, CA, CK, CR, CB) (th, n, np, k, V, KV, I, KI, PM, KR, KC) O) s H locs) (hl : lv_has ls 7 [(4, .int (nI i)), (3, .ref (ad 7)), (2, .ref (md 0)), (1, .ref (ad 0)), (0, .ref b)]) (kk : ∀ (u : us_SU) (w : us_SM) (O : Nat → Int64) (H : Heap) (locs : List Loc) (ls : Array Slot), us_LI u w → us_Y D A (lW ad md cI cZ cJ u w O) s H locs → lv_has ls 7 [(4, .int (nI i)), (3, .ref (ad 7)), (2, .ref (md 0)), (1, .ref (ad 0)), (0, .ref b)] → W p l e room_1 s m #[Value.ref b] below meth c H locs (cells + 1) (slots + 6) Q (F0 m 645 ls [])) : W p l e room_1 s m #[Value.ref b] below meth c H locs cells slots Q (F0 m 308 ls []) := by
  have hL31 : L < 2 ^ 31 := by omega
  refine lv_aload_n X.x X.b dL_law_308 rfl (lv_at hl 3 rfl) ?_
  refine lv_aload_n X.x X.b dL_law_309 rfl (lv_at hl 4 rfl) ?_
  refine lv_iload X.x X.b dL_law_310 (lv_at hl 0 rfl) ?_
  refine lv_iconst (v := nI 1) X.x X.b dL_law_312 (by decide) ?_
  refine us_iadd X dL_law_313 ?_
  refine us_sc X Y hX hbl hbA (i := i + 1) (by omega) (by omega) dL_law_314 ?_
  refine lv_aload_n X.x X.b dL_law_315 rfl (lv_at hl 4 rfl) ?_
  refine lv_iload X.x X.b dL_law_316 (lv_at hl 0 rfl) ?_
  refine lv_iconst (v := nI 2) X.x X.b dL_law_318 (by decide) ?_
  refine us_iadd X dL_law_319 ?_
  refine us_sc X Y hX hbl hbA (i := i + 2) (by omega) (by omega) dL_law_320 ?_
  refine lv_aload_n X.x X.b dL_law_321 rfl (lv_at hl 1 rfl) ?_
  refine us_hi (rest := []) X Y hE (k_L_removeAll l D ad cI H.size C PN CA CK CR CB n np k cJ O T nm sn sT sk hU hl9 (xs (i + 1)) (xs (i + 2))) us_Lo sw_removeAll rfl ⟨by decide, by decide⟩ ⟨hc, hs⟩ hl.1 rfl (Nat.le_of_ble_eq_true rfl) dL_law_322 (fun rr u H locs hw Y => ?_)
  obtain ⟨cd, ans, n', T', k', rfl, hR, hu, hO⟩ := hw
  have Y : us_Y D A (lW ad md cI cZ cJ u.1 (th, n, np, k, V, KV, I, KI, PM, KR, KC) u.2) s H locs := Y.perm [8, 9, 10, 11, 12, 13, 14, 15, 0, 1, 2, 3, 4, 5, 6, 7] rfl rfl
  refine lv_istore (lv' := [(5, .int (nI cd)), (4, .int (nI i)), (3, .ref (ad 7)), (2, .ref (md 0)), (1, .ref (ad 0)), (0, .ref b)]) X.x X.b dL_law_325 hl (by decide) rfl (fun ls hl => ?_)
  refine lv_aload_n X.x X.b dL_law_327 rfl (lv_at hl 3 rfl) ?_
  refine lv_aload_n X.x X.b dL_law_328 rfl (lv_at hl 5 rfl) ?_
  refine lv_iload X.x X.b dL_law_329 (lv_at hl 1 rfl) ?_
  refine lv_iconst (v := nI 1) X.x X.b dL_law_331 (by decide) ?_
  refine us_iadd X dL_law_332 ?_
  refine us_sc X Y hX hbl hbA (i := i + 1) (by omega) (by omega) dL_law_333 ?_
  refine lv_aload_n X.x X.b dL_law_334 rfl (lv_at hl 5 rfl) ?_
  refine lv_iload X.x X.b dL_law_335 (lv_at hl 1 rfl) ?_
  refine lv_iconst (v := nI 2) X.x X.b dL_law_337 (by decide) ?_
  refine us_iadd X dL_law_338 ?_
  refine us_sc X Y hX hbl hbA (i := i + 2) (by omega) (by omega) dL_law_339 ?_
  refine us_vi (rest := []) X Y (k_M_removeAll l D md cI cZ H.size th n np k V KV I KI PM KR KC T nm sn sT sk hM (xs (i + 1)) (xs (i + 2))) us_Lm 0 rfl rfl cv_L_71 rfl ⟨by decide, by decide⟩ ⟨hc, hs⟩ hl.1 rfl (Nat.le_of_ble_eq_true rfl) dL_law_340 (fun r2 w H locs hw Y => ?_)
  obtain ⟨cd2, n2, T2, k2, hR2, hw2⟩ := hw
  have Y : us_Y D A (lW ad md cI cZ cJ u.1 w u.2) s H locs := Y
  obtain ⟨ec, ea, e0, e1, e2⟩ := hR.one hR2
  rw [← ec] at hw2
  rw [← e0] at hw2
  rw [← e1] at hw2
  rw [← e2] at hw2
  refine lv_istore (lv' := [(6, .int r2), (5, .int (nI cd)), (4, .int (nI i)), (3, .ref (ad 7)), (2, .ref (md 0)), (1, .ref (ad 0)), (0, .ref b)]) X.x X.b dL_law_343 hl (by decide) rfl (fun ls hl => ?_)
  refine lv_aload_n X.x X.b dL_law_345 rfl (lv_at hl 4 rfl) ?_
  refine us_vi (rest := []) X Y (k_M_thrown l D md cI cZ H.size w.1 w.2.1 w.2.2.1 w.2.2.2.1 w.2.2.2.2.1 w.2.2.2.2.2.1 w.2.2.2.2.2.2.1 w.2.2.2.2.2.2.2.1 w.2.2.2.2.2.2.2.2.1 w.2.2.2.2.2.2.2.2.2.1 w.2.2.2.2.2.2.2.2.2.2) us_Lm 0 rfl rfl cv_L_56 rfl ⟨by decide, by decide⟩ ⟨hc, hs⟩ hl.1 rfl (Nat.le_of_ble_eq_true rfl) dL_law_346 (fun r3 _ H locs h3 Y => ?_)
  rw [hw2.1] at h3
  subst h3
  have Y : us_Y D A (lW ad md cI cZ cJ u.1 w u.2) s H locs := Y
  refine lv_iload X.x X.b dL_law_349 (lv_at hl 1 rfl) ?_
  refine lv_icmp_eq (tgt := 356) X.x X.b dL_law_351 (by decide) (fun _ => ?_) (fun h0 => absurd rfl h0)
  refine lv_iload X.x X.b dL_law_356 (lv_at hl 1 rfl) ?_
  refine lv_if_ne (tgt := 373) X.x X.b dL_law_358 (by decide) (fun h0 => ?_) (fun h0 => ?_)
  · refine lv_goto (tgt := 645) X.x X.b dL_law_373 (by decide) ?_
    exact kk u.1 w u.2 H locs ls ⟨nI cd, n', T', k', np, nm, sn, sT, sk, hu, hw2⟩ Y (lv_sub hl [2, 3, 4, 5, 6] rfl)
  · have hcd : cd = 0 := us_nI (by have := hR.cd; omega) (by decide) (h0.trans nI_0.symm)
    refine lv_aload_n X.x X.b dL_law_361 rfl (lv_at hl 3 rfl) ?_
    refine lv_iconst (v := nI 0) X.x X.b dL_law_362 (by decide) ?_
    refine us_ll X Y 0 2 rfl rfl (i := 0) (by decide) (by decide) dL_law_363 ?_
    refine lv_iload X.x X.b dL_law_364 (lv_at hl 0 rfl) ?_
    refine lv_i2l (v := r2.toInt64) X.x X.b dL_law_366 rfl ?_
    refine us_lc X (by rw [hO hcd, ea hcd]) dL_law_367 ?_
    refine us_eq0 (tgt := 373) X dL_law_368 (by decide) ?_
    refine lv_goto (tgt := 645) X.x X.b dL_law_373 (by decide) ?_
    exact kk u.1 w u.2 H locs ls ⟨nI cd, n', T', k', np, nm, sn, sT, sk, hu, hw2⟩ Y (lv_sub hl [2, 3, 4, 5, 6] rfl)
set_option maxHeartbeats 4000000 in
set_option maxRecDepth 100000 in
theorem law_c4 (X : us_X p s m #[Value.ref b] c code 7 RL D (tyL cI cZ cJ) A) (hE : us_E A s) (hl9 : l.stackTraces = false) (hX : va_X b L xs s s.heap) (hbl : b < s.heap.size) (hbA : ¬ A b) (hL : L ≤ 2560) (hi : i + 5 ≤ L) (hc : cells + 1 ≤ 1055) (hs : slots + 6 ≤ 25209) (hU : us_U n T k np nm sn sT sk C PN CA CK CR CB) (hM : us_M n T k np nm sn sT sk V KV I KI PM KR KC) (Y : us_Y D A (lW ad md cI cZ cJ (n, np, k, C, PN, CA, CK, CR, CB) (th, n, np, k, V, KV, I, KI, PM, KR, KC) O) s H locs) (hl : lv_has ls 7 [(4, .int (nI i)), (3, .ref (ad 7)), (2, .ref (md 0)), (1, .ref (ad 0)), (0, .ref b)]) (kk : ∀ (u : us_SU) (w : us_SM) (O : Nat → Int64) (H : Heap) (locs : List Loc) (ls : Array Slot), us_LI u w → us_Y D A (lW ad md cI cZ cJ u w O) s H locs → lv_has ls 7 [(4, .int (nI i)), (3, .ref (ad 7)), (2, .ref (md 0)), (1, .ref (ad 0)), (0, .ref b)] → W p l e room_1 s m #[Value.ref b] below meth c H locs (cells + 1) (slots + 6) Q (F0 m 645 ls [])) : W p l e room_1 s m #[Value.ref b] below meth c H locs cells slots Q (F0 m 376 ls []) := by
  have hL31 : L < 2 ^ 31 := by omega
  refine lv_aload_n X.x X.b dL_law_376 rfl (lv_at hl 3 rfl) ?_
  refine lv_aload_n X.x X.b dL_law_377 rfl (lv_at hl 4 rfl) ?_
  refine lv_iload X.x X.b dL_law_378 (lv_at hl 0 rfl) ?_
  refine lv_iconst (v := nI 1) X.x X.b dL_law_380 (by decide) ?_
  refine us_iadd X dL_law_381 ?_
  refine us_sc X Y hX hbl hbA (i := i + 1) (by omega) (by omega) dL_law_382 ?_
  refine lv_aload_n X.x X.b dL_law_383 rfl (lv_at hl 4 rfl) ?_
  refine lv_iload X.x X.b dL_law_384 (lv_at hl 0 rfl) ?_
  refine lv_iconst (v := nI 2) X.x X.b dL_law_386 (by decide) ?_
  refine us_iadd X dL_law_387 ?_
  refine us_sc X Y hX hbl hbA (i := i + 2) (by omega) (by omega) dL_law_388 ?_
  refine lv_aload_n X.x X.b dL_law_389 rfl (lv_at hl 1 rfl) ?_
  refine us_hi (rest := []) X Y hE (k_L_find l D ad cI H.size C PN CA CK CR CB n np k cJ O T nm sn sT sk hU hl9 (xs (i + 1)) (xs (i + 2))) us_Lo sw_find rfl ⟨by decide, by decide⟩ ⟨hc, hs⟩ hl.1 rfl (Nat.le_of_ble_eq_true rfl) dL_law_390 (fun rr u H locs hw Y => ?_)
  obtain ⟨cd, ans, rfl, hR, hu, hO⟩ := hw
  have Y : us_Y D A (lW ad md cI cZ cJ u.1 (th, n, np, k, V, KV, I, KI, PM, KR, KC) u.2) s H locs := Y.perm [8, 9, 10, 11, 12, 13, 14, 15, 0, 1, 2, 3, 4, 5, 6, 7] rfl rfl
  refine lv_istore (lv' := [(5, .int (nI cd)), (4, .int (nI i)), (3, .ref (ad 7)), (2, .ref (md 0)), (1, .ref (ad 0)), (0, .ref b)]) X.x X.b dL_law_393 hl (by decide) rfl (fun ls hl => ?_)
  refine lv_aload_n X.x X.b dL_law_395 rfl (lv_at hl 3 rfl) ?_
  refine lv_aload_n X.x X.b dL_law_396 rfl (lv_at hl 5 rfl) ?_
  refine lv_iload X.x X.b dL_law_397 (lv_at hl 1 rfl) ?_
  refine lv_iconst (v := nI 1) X.x X.b dL_law_399 (by decide) ?_
  refine us_iadd X dL_law_400 ?_
  refine us_sc X Y hX hbl hbA (i := i + 1) (by omega) (by omega) dL_law_401 ?_
  refine lv_aload_n X.x X.b dL_law_402 rfl (lv_at hl 5 rfl) ?_
  refine lv_iload X.x X.b dL_law_403 (lv_at hl 1 rfl) ?_
  refine lv_iconst (v := nI 2) X.x X.b dL_law_405 (by decide) ?_
  refine us_iadd X dL_law_406 ?_
  refine us_sc X Y hX hbl hbA (i := i + 2) (by omega) (by omega) dL_law_407 ?_
  refine us_vi (rest := []) X Y (k_M_find l D md cI cZ H.size th n np k V KV I KI PM KR KC T nm sn sT sk hM (xs (i + 1)) (xs (i + 2))) us_Lm 0 rfl rfl cv_L_74 rfl ⟨by decide, by decide⟩ ⟨hc, hs⟩ hl.1 rfl (Nat.le_of_ble_eq_true rfl) dL_law_408 (fun r2 w H locs hw Y => ?_)
  obtain ⟨cd2, hR2, hw2⟩ := hw
  have Y : us_Y D A (lW ad md cI cZ cJ u.1 w u.2) s H locs := Y
  obtain ⟨ec, ea⟩ := hR.one hR2
  rw [← ec] at hw2
  refine lv_istore (lv' := [(6, .int r2), (5, .int (nI cd)), (4, .int (nI i)), (3, .ref (ad 7)), (2, .ref (md 0)), (1, .ref (ad 0)), (0, .ref b)]) X.x X.b dL_law_411 hl (by decide) rfl (fun ls hl => ?_)
  refine lv_aload_n X.x X.b dL_law_413 rfl (lv_at hl 4 rfl) ?_
  refine us_vi (rest := []) X Y (k_M_thrown l D md cI cZ H.size w.1 w.2.1 w.2.2.1 w.2.2.2.1 w.2.2.2.2.1 w.2.2.2.2.2.1 w.2.2.2.2.2.2.1 w.2.2.2.2.2.2.2.1 w.2.2.2.2.2.2.2.2.1 w.2.2.2.2.2.2.2.2.2.1 w.2.2.2.2.2.2.2.2.2.2) us_Lm 0 rfl rfl cv_L_56 rfl ⟨by decide, by decide⟩ ⟨hc, hs⟩ hl.1 rfl (Nat.le_of_ble_eq_true rfl) dL_law_414 (fun r3 _ H locs h3 Y => ?_)
  rw [hw2.1] at h3
  subst h3
  have Y : us_Y D A (lW ad md cI cZ cJ u.1 w u.2) s H locs := Y
  refine lv_iload X.x X.b dL_law_417 (lv_at hl 1 rfl) ?_
  refine lv_icmp_eq (tgt := 424) X.x X.b dL_law_419 (by decide) (fun _ => ?_) (fun h0 => absurd rfl h0)
  refine lv_iload X.x X.b dL_law_424 (lv_at hl 1 rfl) ?_
  refine lv_if_ne (tgt := 441) X.x X.b dL_law_426 (by decide) (fun h0 => ?_) (fun h0 => ?_)
  · refine lv_goto (tgt := 645) X.x X.b dL_law_441 (by decide) ?_
    exact kk u.1 w u.2 H locs ls ⟨nI cd, n, T, k, np, nm, sn, sT, sk, hu, hw2⟩ Y (lv_sub hl [2, 3, 4, 5, 6] rfl)
  · have hcd : cd = 0 := us_nI (by have := hR.cd; omega) (by decide) (h0.trans nI_0.symm)
    refine lv_aload_n X.x X.b dL_law_429 rfl (lv_at hl 3 rfl) ?_
    refine lv_iconst (v := nI 0) X.x X.b dL_law_430 (by decide) ?_
    refine us_ll X Y 0 2 rfl rfl (i := 0) (by decide) (by decide) dL_law_431 ?_
    refine lv_iload X.x X.b dL_law_432 (lv_at hl 0 rfl) ?_
    refine lv_i2l (v := r2.toInt64) X.x X.b dL_law_434 rfl ?_
    refine us_lc X (by rw [hO hcd, ea hcd]) dL_law_435 ?_
    refine us_eq0 (tgt := 441) X dL_law_436 (by decide) ?_
    refine lv_goto (tgt := 645) X.x X.b dL_law_441 (by decide) ?_
    exact kk u.1 w u.2 H locs ls ⟨nI cd, n, T, k, np, nm, sn, sT, sk, hu, hw2⟩ Y (lv_sub hl [2, 3, 4, 5, 6] rfl)
set_option maxHeartbeats 4000000 in
set_option maxRecDepth 100000 in
theorem law_c5 (X : us_X p s m #[Value.ref b] c code 7 RL D (tyL cI cZ cJ) A) (hE : us_E A s) (hl9 : l.stackTraces = false) (hX : va_X b L xs s s.heap) (hbl : b < s.heap.size) (hbA : ¬ A b) (hL : L ≤ 2560) (hi : i + 5 ≤ L) (hc : cells + 1 ≤ 1055) (hs : slots + 6 ≤ 25209) (hU : us_U n T k np nm sn sT sk C PN CA CK CR CB) (hM : us_M n T k np nm sn sT sk V KV I KI PM KR KC) (Y : us_Y D A (lW ad md cI cZ cJ (n, np, k, C, PN, CA, CK, CR, CB) (th, n, np, k, V, KV, I, KI, PM, KR, KC) O) s H locs) (hl : lv_has ls 7 [(4, .int (nI i)), (3, .ref (ad 7)), (2, .ref (md 0)), (1, .ref (ad 0)), (0, .ref b)]) (kk : ∀ (u : us_SU) (w : us_SM) (O : Nat → Int64) (H : Heap) (locs : List Loc) (ls : Array Slot), us_LI u w → us_Y D A (lW ad md cI cZ cJ u w O) s H locs → lv_has ls 7 [(4, .int (nI i)), (3, .ref (ad 7)), (2, .ref (md 0)), (1, .ref (ad 0)), (0, .ref b)] → W p l e room_1 s m #[Value.ref b] below meth c H locs (cells + 1) (slots + 6) Q (F0 m 645 ls [])) : W p l e room_1 s m #[Value.ref b] below meth c H locs cells slots Q (F0 m 444 ls []) := by
  have hL31 : L < 2 ^ 31 := by omega
  refine lv_aload_n X.x X.b dL_law_444 rfl (lv_at hl 3 rfl) ?_
  refine lv_aload_n X.x X.b dL_law_445 rfl (lv_at hl 4 rfl) ?_
  refine lv_iload X.x X.b dL_law_446 (lv_at hl 0 rfl) ?_
  refine lv_iconst (v := nI 1) X.x X.b dL_law_448 (by decide) ?_
  refine us_iadd X dL_law_449 ?_
  refine us_sc X Y hX hbl hbA (i := i + 1) (by omega) (by omega) dL_law_450 ?_
  refine lv_aload_n X.x X.b dL_law_451 rfl (lv_at hl 4 rfl) ?_
  refine lv_iload X.x X.b dL_law_452 (lv_at hl 0 rfl) ?_
  refine lv_iconst (v := nI 2) X.x X.b dL_law_454 (by decide) ?_
  refine us_iadd X dL_law_455 ?_
  refine us_sc X Y hX hbl hbA (i := i + 2) (by omega) (by omega) dL_law_456 ?_
  refine lv_aload_n X.x X.b dL_law_457 rfl (lv_at hl 1 rfl) ?_
  refine us_hi (rest := []) X Y hE (k_L_value l D ad cI H.size C PN CA CK CR CB n np k cJ O T nm sn sT sk hU hl9 (xs (i + 1)) (xs (i + 2))) us_Lo sw_value rfl ⟨by decide, by decide⟩ ⟨hc, hs⟩ hl.1 rfl (Nat.le_of_ble_eq_true rfl) dL_law_458 (fun rr u H locs hw Y => ?_)
  obtain ⟨cd, ans, rfl, hR, hu, hO⟩ := hw
  have Y : us_Y D A (lW ad md cI cZ cJ u.1 (th, n, np, k, V, KV, I, KI, PM, KR, KC) u.2) s H locs := Y.perm [8, 9, 10, 11, 12, 13, 14, 15, 0, 1, 2, 3, 4, 5, 6, 7] rfl rfl
  refine lv_istore (lv' := [(5, .int (nI cd)), (4, .int (nI i)), (3, .ref (ad 7)), (2, .ref (md 0)), (1, .ref (ad 0)), (0, .ref b)]) X.x X.b dL_law_461 hl (by decide) rfl (fun ls hl => ?_)
  refine lv_aload_n X.x X.b dL_law_463 rfl (lv_at hl 3 rfl) ?_
  refine lv_aload_n X.x X.b dL_law_464 rfl (lv_at hl 5 rfl) ?_
  refine lv_iload X.x X.b dL_law_465 (lv_at hl 1 rfl) ?_
  refine lv_iconst (v := nI 1) X.x X.b dL_law_467 (by decide) ?_
  refine us_iadd X dL_law_468 ?_
  refine us_sc X Y hX hbl hbA (i := i + 1) (by omega) (by omega) dL_law_469 ?_
  refine lv_aload_n X.x X.b dL_law_470 rfl (lv_at hl 5 rfl) ?_
  refine lv_iload X.x X.b dL_law_471 (lv_at hl 1 rfl) ?_
  refine lv_iconst (v := nI 2) X.x X.b dL_law_473 (by decide) ?_
  refine us_iadd X dL_law_474 ?_
  refine us_sc X Y hX hbl hbA (i := i + 2) (by omega) (by omega) dL_law_475 ?_
  refine us_vi (rest := []) X Y (k_M_value l D md cI cZ H.size th n np k V KV I KI PM KR KC T nm sn sT sk hM (xs (i + 1)) (xs (i + 2))) us_Lm 0 rfl rfl cv_L_77 rfl ⟨by decide, by decide⟩ ⟨hc, hs⟩ hl.1 rfl (Nat.le_of_ble_eq_true rfl) dL_law_476 (fun r2 w H locs hw Y => ?_)
  obtain ⟨cd2, hR2, hw2⟩ := hw
  have Y : us_Y D A (lW ad md cI cZ cJ u.1 w u.2) s H locs := Y
  obtain ⟨ec, ea⟩ := hR.one hU.1 hR2
  rw [← ec] at hw2
  refine lv_istore (lv' := [(6, .int r2), (5, .int (nI cd)), (4, .int (nI i)), (3, .ref (ad 7)), (2, .ref (md 0)), (1, .ref (ad 0)), (0, .ref b)]) X.x X.b dL_law_479 hl (by decide) rfl (fun ls hl => ?_)
  refine lv_aload_n X.x X.b dL_law_481 rfl (lv_at hl 4 rfl) ?_
  refine us_vi (rest := []) X Y (k_M_thrown l D md cI cZ H.size w.1 w.2.1 w.2.2.1 w.2.2.2.1 w.2.2.2.2.1 w.2.2.2.2.2.1 w.2.2.2.2.2.2.1 w.2.2.2.2.2.2.2.1 w.2.2.2.2.2.2.2.2.1 w.2.2.2.2.2.2.2.2.2.1 w.2.2.2.2.2.2.2.2.2.2) us_Lm 0 rfl rfl cv_L_56 rfl ⟨by decide, by decide⟩ ⟨hc, hs⟩ hl.1 rfl (Nat.le_of_ble_eq_true rfl) dL_law_482 (fun r3 _ H locs h3 Y => ?_)
  rw [hw2.1] at h3
  subst h3
  have Y : us_Y D A (lW ad md cI cZ cJ u.1 w u.2) s H locs := Y
  refine lv_iload X.x X.b dL_law_485 (lv_at hl 1 rfl) ?_
  refine lv_icmp_eq (tgt := 492) X.x X.b dL_law_487 (by decide) (fun _ => ?_) (fun h0 => absurd rfl h0)
  refine lv_iload X.x X.b dL_law_492 (lv_at hl 1 rfl) ?_
  refine lv_if_ne (tgt := 509) X.x X.b dL_law_494 (by decide) (fun h0 => ?_) (fun h0 => ?_)
  · refine lv_goto (tgt := 645) X.x X.b dL_law_509 (by decide) ?_
    exact kk u.1 w u.2 H locs ls ⟨nI cd, n, T, k, np, nm, sn, sT, sk, hu, hw2⟩ Y (lv_sub hl [2, 3, 4, 5, 6] rfl)
  · have hcd : cd = 0 := us_nI (by have := hR.cd; omega) (by decide) (h0.trans nI_0.symm)
    refine lv_aload_n X.x X.b dL_law_497 rfl (lv_at hl 3 rfl) ?_
    refine lv_iconst (v := nI 0) X.x X.b dL_law_498 (by decide) ?_
    refine us_ll X Y 0 2 rfl rfl (i := 0) (by decide) (by decide) dL_law_499 ?_
    refine lv_iload X.x X.b dL_law_500 (lv_at hl 0 rfl) ?_
    refine lv_i2l (v := r2.toInt64) X.x X.b dL_law_502 rfl ?_
    refine us_lc X (by rw [hO hcd, ea hcd]) dL_law_503 ?_
    refine us_eq0 (tgt := 509) X dL_law_504 (by decide) ?_
    refine lv_goto (tgt := 645) X.x X.b dL_law_509 (by decide) ?_
    exact kk u.1 w u.2 H locs ls ⟨nI cd, n, T, k, np, nm, sn, sT, sk, hu, hw2⟩ Y (lv_sub hl [2, 3, 4, 5, 6] rfl)
set_option maxHeartbeats 4000000 in
set_option maxRecDepth 100000 in
theorem law_c6 (X : us_X p s m #[Value.ref b] c code 7 RL D (tyL cI cZ cJ) A) (hE : us_E A s) (hl9 : l.stackTraces = false) (hX : va_X b L xs s s.heap) (hbl : b < s.heap.size) (hbA : ¬ A b) (hL : L ≤ 2560) (hi : i + 5 ≤ L) (hc : cells + 1 ≤ 1055) (hs : slots + 6 ≤ 25209) (hU : us_U n T k np nm sn sT sk C PN CA CK CR CB) (hM : us_M n T k np nm sn sT sk V KV I KI PM KR KC) (Y : us_Y D A (lW ad md cI cZ cJ (n, np, k, C, PN, CA, CK, CR, CB) (th, n, np, k, V, KV, I, KI, PM, KR, KC) O) s H locs) (hl : lv_has ls 7 [(4, .int (nI i)), (3, .ref (ad 7)), (2, .ref (md 0)), (1, .ref (ad 0)), (0, .ref b)]) (kk : ∀ (u : us_SU) (w : us_SM) (O : Nat → Int64) (H : Heap) (locs : List Loc) (ls : Array Slot), us_LI u w → us_Y D A (lW ad md cI cZ cJ u w O) s H locs → lv_has ls 7 [(4, .int (nI i)), (3, .ref (ad 7)), (2, .ref (md 0)), (1, .ref (ad 0)), (0, .ref b)] → W p l e room_1 s m #[Value.ref b] below meth c H locs (cells + 1) (slots + 6) Q (F0 m 645 ls [])) : W p l e room_1 s m #[Value.ref b] below meth c H locs cells slots Q (F0 m 512 ls []) := by
  have hL31 : L < 2 ^ 31 := by omega
  refine lv_aload_n X.x X.b dL_law_512 rfl (lv_at hl 3 rfl) ?_
  refine lv_aload_n X.x X.b dL_law_513 rfl (lv_at hl 4 rfl) ?_
  refine lv_iload X.x X.b dL_law_514 (lv_at hl 0 rfl) ?_
  refine lv_iconst (v := nI 1) X.x X.b dL_law_516 (by decide) ?_
  refine us_iadd X dL_law_517 ?_
  refine us_sc X Y hX hbl hbA (i := i + 1) (by omega) (by omega) dL_law_518 ?_
  refine us_hi (rest := []) X Y hE (k_L_mark l D ad cI H.size C PN CA CK CR CB n np k T nm sn sT sk hU hl9 (xs (i + 1))) us_Lu sw_mark rfl ⟨by decide, by decide⟩ ⟨hc, hs⟩ hl.1 rfl (Nat.le_of_ble_eq_true rfl) dL_law_519 (fun rr u H locs hw Y => ?_)
  obtain ⟨cd, np', nm', sn', sT', sk', rfl, hR, hu⟩ := hw
  have Y : us_Y D A (lW ad md cI cZ cJ u (th, n, np, k, V, KV, I, KI, PM, KR, KC) O) s H locs := Y.perm [0, 9, 10, 11, 12, 13, 14, 15, 1, 2, 3, 4, 5, 6, 7, 8] rfl rfl
  refine lv_istore (lv' := [(5, .int (nI cd)), (4, .int (nI i)), (3, .ref (ad 7)), (2, .ref (md 0)), (1, .ref (ad 0)), (0, .ref b)]) X.x X.b dL_law_522 hl (by decide) rfl (fun ls hl => ?_)
  refine lv_aload_n X.x X.b dL_law_524 rfl (lv_at hl 3 rfl) ?_
  refine lv_aload_n X.x X.b dL_law_525 rfl (lv_at hl 5 rfl) ?_
  refine lv_iload X.x X.b dL_law_526 (lv_at hl 1 rfl) ?_
  refine lv_iconst (v := nI 1) X.x X.b dL_law_528 (by decide) ?_
  refine us_iadd X dL_law_529 ?_
  refine us_sc X Y hX hbl hbA (i := i + 1) (by omega) (by omega) dL_law_530 ?_
  refine us_vv (rest := []) X Y (k_M_mark l D md cI cZ H.size th n np k V KV I KI PM KR KC T nm sn sT sk hM (xs (i + 1))) us_Lm 0 rfl rfl cv_L_80 rfl ⟨by decide, by decide⟩ ⟨hc, hs⟩ hl.1 rfl (Nat.le_of_ble_eq_true rfl) dL_law_531 (fun w H locs hw Y => ?_)
  obtain ⟨cd2, np2, nm2, sn2, sT2, sk2, hR2, hw2⟩ := hw
  have Y : us_Y D A (lW ad md cI cZ cJ u w O) s H locs := Y
  obtain ⟨ec, e0, e1, e2, e3, e4⟩ := hR.one hR2
  rw [← ec] at hw2
  rw [← e0] at hw2
  rw [← e1] at hw2
  rw [← e2] at hw2
  rw [← e3] at hw2
  rw [← e4] at hw2
  refine lv_aload_n X.x X.b dL_law_534 rfl (lv_at hl 3 rfl) ?_
  refine us_vi (rest := []) X Y (k_M_thrown l D md cI cZ H.size w.1 w.2.1 w.2.2.1 w.2.2.2.1 w.2.2.2.2.1 w.2.2.2.2.2.1 w.2.2.2.2.2.2.1 w.2.2.2.2.2.2.2.1 w.2.2.2.2.2.2.2.2.1 w.2.2.2.2.2.2.2.2.2.1 w.2.2.2.2.2.2.2.2.2.2) us_Lm 0 rfl rfl cv_L_56 rfl ⟨by decide, by decide⟩ ⟨hc, hs⟩ hl.1 rfl (Nat.le_of_ble_eq_true rfl) dL_law_535 (fun r3 _ H locs h3 Y => ?_)
  rw [hw2.1] at h3
  subst h3
  have Y : us_Y D A (lW ad md cI cZ cJ u w O) s H locs := Y
  refine lv_iload X.x X.b dL_law_538 (lv_at hl 0 rfl) ?_
  refine lv_icmp_eq (tgt := 545) X.x X.b dL_law_540 (by decide) (fun _ => ?_) (fun h0 => absurd rfl h0)
  refine lv_goto (tgt := 645) X.x X.b dL_law_545 (by decide) ?_
  exact kk u w O H locs ls ⟨nI cd, n, T, k, np', nm', sn', sT', sk', hu, hw2⟩ Y (lv_sub hl [1, 2, 3, 4, 5] rfl)
set_option maxHeartbeats 4000000 in
set_option maxRecDepth 100000 in
theorem law_c7 (X : us_X p s m #[Value.ref b] c code 7 RL D (tyL cI cZ cJ) A) (hE : us_E A s) (hl9 : l.stackTraces = false) (hX : va_X b L xs s s.heap) (hbl : b < s.heap.size) (hbA : ¬ A b) (hL : L ≤ 2560) (hi : i + 5 ≤ L) (hc : cells + 1 ≤ 1055) (hs : slots + 6 ≤ 25209) (hU : us_U n T k np nm sn sT sk C PN CA CK CR CB) (hM : us_M n T k np nm sn sT sk V KV I KI PM KR KC) (Y : us_Y D A (lW ad md cI cZ cJ (n, np, k, C, PN, CA, CK, CR, CB) (th, n, np, k, V, KV, I, KI, PM, KR, KC) O) s H locs) (hl : lv_has ls 7 [(4, .int (nI i)), (3, .ref (ad 7)), (2, .ref (md 0)), (1, .ref (ad 0)), (0, .ref b)]) (kk : ∀ (u : us_SU) (w : us_SM) (O : Nat → Int64) (H : Heap) (locs : List Loc) (ls : Array Slot), us_LI u w → us_Y D A (lW ad md cI cZ cJ u w O) s H locs → lv_has ls 7 [(4, .int (nI i)), (3, .ref (ad 7)), (2, .ref (md 0)), (1, .ref (ad 0)), (0, .ref b)] → W p l e room_1 s m #[Value.ref b] below meth c H locs (cells + 1) (slots + 6) Q (F0 m 645 ls [])) : W p l e room_1 s m #[Value.ref b] below meth c H locs cells slots Q (F0 m 548 ls []) := by
  have hL31 : L < 2 ^ 31 := by omega
  refine lv_aload_n X.x X.b dL_law_548 rfl (lv_at hl 3 rfl) ?_
  refine lv_aload_n X.x X.b dL_law_549 rfl (lv_at hl 4 rfl) ?_
  refine lv_iload X.x X.b dL_law_550 (lv_at hl 0 rfl) ?_
  refine lv_iconst (v := nI 1) X.x X.b dL_law_552 (by decide) ?_
  refine us_iadd X dL_law_553 ?_
  refine us_sc X Y hX hbl hbA (i := i + 1) (by omega) (by omega) dL_law_554 ?_
  refine us_hi (rest := []) X Y hE (k_L_back l D ad cI H.size C PN CA CK CR CB n np k T nm sn sT sk hU hl9 (xs (i + 1))) us_Lu sw_back rfl ⟨by decide, by decide⟩ ⟨hc, hs⟩ hl.1 rfl (Nat.le_of_ble_eq_true rfl) dL_law_555 (fun rr u H locs hw Y => ?_)
  obtain ⟨cd, n', T', k', np', rfl, hR, hu⟩ := hw
  have Y : us_Y D A (lW ad md cI cZ cJ u (th, n, np, k, V, KV, I, KI, PM, KR, KC) O) s H locs := Y.perm [0, 9, 10, 11, 12, 13, 14, 15, 1, 2, 3, 4, 5, 6, 7, 8] rfl rfl
  refine lv_istore (lv' := [(5, .int (nI cd)), (4, .int (nI i)), (3, .ref (ad 7)), (2, .ref (md 0)), (1, .ref (ad 0)), (0, .ref b)]) X.x X.b dL_law_558 hl (by decide) rfl (fun ls hl => ?_)
  refine lv_aload_n X.x X.b dL_law_560 rfl (lv_at hl 3 rfl) ?_
  refine lv_aload_n X.x X.b dL_law_561 rfl (lv_at hl 5 rfl) ?_
  refine lv_iload X.x X.b dL_law_562 (lv_at hl 1 rfl) ?_
  refine lv_iconst (v := nI 1) X.x X.b dL_law_564 (by decide) ?_
  refine us_iadd X dL_law_565 ?_
  refine us_sc X Y hX hbl hbA (i := i + 1) (by omega) (by omega) dL_law_566 ?_
  refine us_vv (rest := []) X Y (k_M_back l D md cI cZ H.size th n np k V KV I KI PM KR KC T nm sn sT sk hM (xs (i + 1))) us_Lm 0 rfl rfl cv_L_83 rfl ⟨by decide, by decide⟩ ⟨hc, hs⟩ hl.1 rfl (Nat.le_of_ble_eq_true rfl) dL_law_567 (fun w H locs hw Y => ?_)
  obtain ⟨cd2, n2, T2, k2, np2, hR2, hw2⟩ := hw
  have Y : us_Y D A (lW ad md cI cZ cJ u w O) s H locs := Y
  obtain ⟨ec, e0, e1, e2, e3⟩ := hR.one hR2
  rw [← ec] at hw2
  rw [← e0] at hw2
  rw [← e1] at hw2
  rw [← e2] at hw2
  rw [← e3] at hw2
  refine lv_aload_n X.x X.b dL_law_570 rfl (lv_at hl 3 rfl) ?_
  refine us_vi (rest := []) X Y (k_M_thrown l D md cI cZ H.size w.1 w.2.1 w.2.2.1 w.2.2.2.1 w.2.2.2.2.1 w.2.2.2.2.2.1 w.2.2.2.2.2.2.1 w.2.2.2.2.2.2.2.1 w.2.2.2.2.2.2.2.2.1 w.2.2.2.2.2.2.2.2.2.1 w.2.2.2.2.2.2.2.2.2.2) us_Lm 0 rfl rfl cv_L_56 rfl ⟨by decide, by decide⟩ ⟨hc, hs⟩ hl.1 rfl (Nat.le_of_ble_eq_true rfl) dL_law_571 (fun r3 _ H locs h3 Y => ?_)
  rw [hw2.1] at h3
  subst h3
  have Y : us_Y D A (lW ad md cI cZ cJ u w O) s H locs := Y
  refine lv_iload X.x X.b dL_law_574 (lv_at hl 0 rfl) ?_
  refine lv_icmp_eq (tgt := 581) X.x X.b dL_law_576 (by decide) (fun _ => ?_) (fun h0 => absurd rfl h0)
  refine lv_goto (tgt := 645) X.x X.b dL_law_581 (by decide) ?_
  exact kk u w O H locs ls ⟨nI cd, n', T', k', np', nm, sn, sT, sk, hu, hw2⟩ Y (lv_sub hl [1, 2, 3, 4, 5] rfl)
set_option maxHeartbeats 4000000 in
set_option maxRecDepth 100000 in
theorem law_c8 (X : us_X p s m #[Value.ref b] c code 7 RL D (tyL cI cZ cJ) A) (hE : us_E A s) (hl9 : l.stackTraces = false) (hX : va_X b L xs s s.heap) (hbl : b < s.heap.size) (hbA : ¬ A b) (hL : L ≤ 2560) (hi : i + 5 ≤ L) (hc : cells + 1 ≤ 1055) (hs : slots + 6 ≤ 25209) (hU : us_U n T k np nm sn sT sk C PN CA CK CR CB) (hM : us_M n T k np nm sn sT sk V KV I KI PM KR KC) (Y : us_Y D A (lW ad md cI cZ cJ (n, np, k, C, PN, CA, CK, CR, CB) (th, n, np, k, V, KV, I, KI, PM, KR, KC) O) s H locs) (hl : lv_has ls 7 [(4, .int (nI i)), (3, .ref (ad 7)), (2, .ref (md 0)), (1, .ref (ad 0)), (0, .ref b)]) (kk : ∀ (u : us_SU) (w : us_SM) (O : Nat → Int64) (H : Heap) (locs : List Loc) (ls : Array Slot), us_LI u w → us_Y D A (lW ad md cI cZ cJ u w O) s H locs → lv_has ls 7 [(4, .int (nI i)), (3, .ref (ad 7)), (2, .ref (md 0)), (1, .ref (ad 0)), (0, .ref b)] → W p l e room_1 s m #[Value.ref b] below meth c H locs (cells + 1) (slots + 6) Q (F0 m 645 ls [])) : W p l e room_1 s m #[Value.ref b] below meth c H locs cells slots Q (F0 m 584 ls []) := by
  have hL31 : L < 2 ^ 31 := by omega
  refine lv_aload_n X.x X.b dL_law_584 rfl (lv_at hl 3 rfl) ?_
  refine lv_aload_n X.x X.b dL_law_585 rfl (lv_at hl 4 rfl) ?_
  refine lv_iload X.x X.b dL_law_586 (lv_at hl 0 rfl) ?_
  refine lv_iconst (v := nI 1) X.x X.b dL_law_588 (by decide) ?_
  refine us_iadd X dL_law_589 ?_
  refine us_sc X Y hX hbl hbA (i := i + 1) (by omega) (by omega) dL_law_590 ?_
  refine us_hi (rest := []) X Y hE (k_L_release l D ad cI H.size C PN CA CK CR CB n np k T nm sn sT sk hU hl9 (xs (i + 1))) us_Lu sw_release rfl ⟨by decide, by decide⟩ ⟨hc, hs⟩ hl.1 rfl (Nat.le_of_ble_eq_true rfl) dL_law_591 (fun rr u H locs hw Y => ?_)
  obtain ⟨cd, k', np', rfl, hR, hu⟩ := hw
  have Y : us_Y D A (lW ad md cI cZ cJ u (th, n, np, k, V, KV, I, KI, PM, KR, KC) O) s H locs := Y.perm [0, 9, 10, 11, 12, 13, 14, 15, 1, 2, 3, 4, 5, 6, 7, 8] rfl rfl
  refine lv_istore (lv' := [(5, .int (nI cd)), (4, .int (nI i)), (3, .ref (ad 7)), (2, .ref (md 0)), (1, .ref (ad 0)), (0, .ref b)]) X.x X.b dL_law_594 hl (by decide) rfl (fun ls hl => ?_)
  refine lv_aload_n X.x X.b dL_law_596 rfl (lv_at hl 3 rfl) ?_
  refine lv_aload_n X.x X.b dL_law_597 rfl (lv_at hl 5 rfl) ?_
  refine lv_iload X.x X.b dL_law_598 (lv_at hl 1 rfl) ?_
  refine lv_iconst (v := nI 1) X.x X.b dL_law_600 (by decide) ?_
  refine us_iadd X dL_law_601 ?_
  refine us_sc X Y hX hbl hbA (i := i + 1) (by omega) (by omega) dL_law_602 ?_
  refine us_vv (rest := []) X Y (k_M_release l D md cI cZ H.size th n np k V KV I KI PM KR KC T nm sn sT sk hM (xs (i + 1))) us_Lm 0 rfl rfl cv_L_86 rfl ⟨by decide, by decide⟩ ⟨hc, hs⟩ hl.1 rfl (Nat.le_of_ble_eq_true rfl) dL_law_603 (fun w H locs hw Y => ?_)
  obtain ⟨cd2, k2, np2, hR2, hw2⟩ := hw
  have Y : us_Y D A (lW ad md cI cZ cJ u w O) s H locs := Y
  obtain ⟨ec, e0, e1⟩ := hR.one hR2
  rw [← ec] at hw2
  rw [← e0] at hw2
  rw [← e1] at hw2
  refine lv_aload_n X.x X.b dL_law_606 rfl (lv_at hl 3 rfl) ?_
  refine us_vi (rest := []) X Y (k_M_thrown l D md cI cZ H.size w.1 w.2.1 w.2.2.1 w.2.2.2.1 w.2.2.2.2.1 w.2.2.2.2.2.1 w.2.2.2.2.2.2.1 w.2.2.2.2.2.2.2.1 w.2.2.2.2.2.2.2.2.1 w.2.2.2.2.2.2.2.2.2.1 w.2.2.2.2.2.2.2.2.2.2) us_Lm 0 rfl rfl cv_L_56 rfl ⟨by decide, by decide⟩ ⟨hc, hs⟩ hl.1 rfl (Nat.le_of_ble_eq_true rfl) dL_law_607 (fun r3 _ H locs h3 Y => ?_)
  rw [hw2.1] at h3
  subst h3
  have Y : us_Y D A (lW ad md cI cZ cJ u w O) s H locs := Y
  refine lv_iload X.x X.b dL_law_610 (lv_at hl 0 rfl) ?_
  refine lv_icmp_eq (tgt := 617) X.x X.b dL_law_612 (by decide) (fun _ => ?_) (fun h0 => absurd rfl h0)
  refine lv_goto (tgt := 645) X.x X.b dL_law_617 (by decide) ?_
  exact kk u w O H locs ls ⟨nI cd, n, T, k', np', nm, sn, sT, sk, hu, hw2⟩ Y (lv_sub hl [1, 2, 3, 4, 5] rfl)
set_option maxHeartbeats 4000000 in
set_option maxRecDepth 100000 in
theorem law_c9 (X : us_X p s m #[Value.ref b] c code 7 RL D (tyL cI cZ cJ) A) (hE : us_E A s) (hl9 : l.stackTraces = false) (hX : va_X b L xs s s.heap) (hbl : b < s.heap.size) (hbA : ¬ A b) (hL : L ≤ 2560) (hi : i + 5 ≤ L) (hc : cells + 1 ≤ 1055) (hs : slots + 6 ≤ 25209) (hU : us_U n T k np nm sn sT sk C PN CA CK CR CB) (hM : us_M n T k np nm sn sT sk V KV I KI PM KR KC) (Y : us_Y D A (lW ad md cI cZ cJ (n, np, k, C, PN, CA, CK, CR, CB) (th, n, np, k, V, KV, I, KI, PM, KR, KC) O) s H locs) (hl : lv_has ls 7 [(4, .int (nI i)), (3, .ref (ad 7)), (2, .ref (md 0)), (1, .ref (ad 0)), (0, .ref b)]) (kk : ∀ (u : us_SU) (w : us_SM) (O : Nat → Int64) (H : Heap) (locs : List Loc) (ls : Array Slot), us_LI u w → us_Y D A (lW ad md cI cZ cJ u w O) s H locs → lv_has ls 7 [(4, .int (nI i)), (3, .ref (ad 7)), (2, .ref (md 0)), (1, .ref (ad 0)), (0, .ref b)] → W p l e room_1 s m #[Value.ref b] below meth c H locs (cells + 1) (slots + 6) Q (F0 m 645 ls [])) : W p l e room_1 s m #[Value.ref b] below meth c H locs cells slots Q (F0 m 620 ls []) := by
  have hL31 : L < 2 ^ 31 := by omega
  refine lv_aload_n X.x X.b dL_law_620 rfl (lv_at hl 3 rfl) ?_
  refine lv_aload_n X.x X.b dL_law_621 rfl (lv_at hl 4 rfl) ?_
  refine lv_iload X.x X.b dL_law_622 (lv_at hl 0 rfl) ?_
  refine lv_iconst (v := nI 1) X.x X.b dL_law_624 (by decide) ?_
  refine us_iadd X dL_law_625 ?_
  refine us_sc X Y hX hbl hbA (i := i + 1) (by omega) (by omega) dL_law_626 ?_
  refine us_vi (rest := []) X Y (k_U_count l D ad cI H.size C PN CA CK CR CB n np k T (xs (i + 1)) hU.1 hU.2.2.2.2.1) us_Lu 0 rfl rfl cv_L_87 rfl ⟨by decide, by decide⟩ ⟨Nat.le_of_succ_le hc, Nat.le_trans (Nat.le_add_right _ 6) hs⟩ hl.1 rfl (Nat.le_of_ble_eq_true rfl) dL_law_627 (fun rr _ H locs h1 Y => ?_)
  have Y : us_Y D A (lW ad md cI cZ cJ (n, np, k, C, PN, CA, CK, CR, CB) (th, n, np, k, V, KV, I, KI, PM, KR, KC) O) s H locs := Y.perm [0, 9, 10, 11, 12, 13, 14, 15, 1, 2, 3, 4, 5, 6, 7, 8] rfl rfl
  refine lv_aload_n X.x X.b dL_law_630 rfl (lv_at hl 2 rfl) ?_
  refine lv_aload_n X.x X.b dL_law_631 rfl (lv_at hl 4 rfl) ?_
  refine lv_iload X.x X.b dL_law_632 (lv_at hl 0 rfl) ?_
  refine lv_iconst (v := nI 1) X.x X.b dL_law_634 (by decide) ?_
  refine us_iadd X dL_law_635 ?_
  refine us_sc X Y hX hbl hbA (i := i + 1) (by omega) (by omega) dL_law_636 ?_
  refine us_vi (rest := [.int rr]) X Y (k_M_count l D md cI cZ H.size th n np k V KV I KI PM KR KC T (xs (i + 1)) hM.1 hM.2.2.2.1) us_Lm 0 rfl rfl cv_L_91 rfl ⟨by decide, by decide⟩ ⟨Nat.le_of_succ_le hc, Nat.le_trans (Nat.le_add_right _ 6) hs⟩ hl.1 rfl (Nat.le_of_ble_eq_true rfl) dL_law_637 (fun r2 _ H locs h2 Y => ?_)
  have Y : us_Y D A (lW ad md cI cZ cJ (n, np, k, C, PN, CA, CK, CR, CB) (nI 0, n, np, k, V, KV, I, KI, PM, KR, KC) O) s H locs := Y
  refine lv_icmp_eq (tgt := 645) X.x X.b dL_law_640 (by decide) (fun _ => ?_) (fun h0 => absurd (h1.trans h2.symm) h0)
  refine W.widen (k := cells + 1) (n := slots + 6) (by omega) (by omega) ?_
  exact kk _ _ O H locs ls ⟨nI 0, n, T, k, np, nm, sn, sT, sk, ⟨rfl, rfl, rfl, hU⟩, ⟨rfl, rfl, rfl, rfl, hM⟩⟩ Y hl
end USW
