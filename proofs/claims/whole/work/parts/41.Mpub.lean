/-! 41.Mpub (laid by wip/whole/gen/methods_m.py): the reference, insert and set. -/
set_option maxHeartbeats 4000000 in
set_option maxRecDepth 100000 in
theorem k_M_insert (l : Launch) (D : va_G) (ad : Nat → Nat) (cI cZ : ClassId) (sz : Nat) (th : Int32) (n np k : Nat) (V KV I KI PN KR KC : Nat → Int32) (T : us_T) (nm : Nat → Int32) (sn : Nat → Nat) (sT : Nat → us_T) (sk : Nat → Nat) (hM : us_M n T k np nm sn sT sk V KV I KI PN KR KC) (va vb vc vh : Int32) : us_Ci l yM_insert cM_insert 7 (some .int) 1 23 [.ref (ad 0), .int va, .int vb, .int vc, .int vh] D (tyM cI cZ) (mW ad cI cZ th n np k V KV I KI PN KR KC) sz (fun r (u : us_SM) => ∃ cd n' T' k', us_iR n T k np va vb vc vh cd r n' T' k' ∧ us_ms u (nI cd) n' T' k' np nm sn sT sk) (fun (u : us_SM) => mWS ad cI cZ u) := by
  refine us_enter (own := RM) rfl (by decide) (Nat.le_of_ble_eq_true rfl) ?_
  intro p e s m below meth c ls X Y hr hlk hl
  generalize va_A (mW ad cI cZ th n np k V KV I KI PN KR KC) sz = A at X Y ⊢
  have hl : lv_has ls 7 [(0, .ref (ad 0)), (1, .int va), (2, .int vb), (3, .int vc), (4, .int vh)] := hl
  have h1n := hM.1
  have h1p := hM.2.1
  have h1k := hM.2.2.1
  have h4 := hM.2.2.2.1
  have hI := hM.2.2.2.2.1
  have hKI := hM.2.2.2.2.2.1
  refine lv_iload X.x X.b dM_insert_0 (lv_at hl 4 rfl) ?_
  refine lv_if_lt (tgt := 12) X.x X.b dM_insert_2 (by decide) (fun h1 => ?_) (fun h1 => ?_)
  · refine lv_aload_n X.x X.b dM_insert_12 rfl (lv_at hl 0 rfl) ?_
    refine lv_iconst (v := nI 1) X.x X.b dM_insert_13 (by decide) ?_
    refine us_vi (rest := []) X Y (k_M_no l D ad cI cZ s.heap.size th n np k V KV I KI PN KR KC (nI 1)) us_I8 0 rfl rfl cv_M_45 rfl ⟨by decide, by decide⟩ ⟨by decide, by decide⟩ hl.1 rfl (Nat.le_of_ble_eq_true rfl) dM_insert_14 (fun rr u H locs _ Y => ?_)
    have Y : us_Y D A (mW ad cI cZ (nI 1) n np k V KV I KI PN KR KC) s H locs := Y
    exact us_iret (u := ((nI 1), n, np, k, V, KV, I, KI, PN, KR, KC)) X Y hr hlk (⟨1, n, T, k, Or.inl ⟨rfl, fun ⟨j, h3, h4⟩ => nI_pos (n := j) (by omega) (h4 ▸ h1), rfl, rfl, rfl⟩, rfl, rfl, rfl, rfl, hM⟩) dM_insert_17
  · refine lv_iload X.x X.b dM_insert_5 (lv_at hl 4 rfl) ?_
    refine lv_bipush (v := nI 7) X.x X.b dM_insert_7 (by decide) ?_
    refine lv_icmp_le (tgt := 18) X.x X.b dM_insert_9 (by decide) (fun h2 => ?_) (fun h2 => ?_)
    · obtain ⟨j, hj, rfl⟩ := us_le2 (by decide) h1 h2
      have hok : us_ok (nI j) := ⟨j, hj, rfl⟩
      have tail : ∀ (H : Heap) (locs : List Loc) (ls : Array Slot), ¬ us_icf n T k np va vb (nI j) → us_Y D A (mW ad cI cZ th n np k V KV I KI PN KR KC) s H locs → lv_has ls 7 [(0, .ref (ad 0)), (1, .int va), (2, .int vb), (3, .int vc), (4, .int (nI j))] → W p l e { frames := 1, cells := 0, slots := 0, locals := 23 } s m [.ref (ad 0), .int va, .int vb, .int vc, .int (nI j)].toArray below meth c H locs 0 0 (us_Qi below (fun r (u : us_SM) => ∃ cd n' T' k', us_iR n T k np va vb vc (nI j) cd r n' T' k' ∧ us_ms u (nI cd) n' T' k' np nm sn sT sk) D (tyM cI cZ) A (fun (u : us_SM) => mWS ad cI cZ u) [.ref (ad 0), .int va, .int vb, .int vc, .int (nI j)] s) (F0 m 71 ls []) := by
        intro H locs ls hcf Y hl
        have hful : ¬ us_ful np k 1 := fun z => hcf (Or.inr (Or.inl z))
        have hnn : n < 120 := by have : n ≠ 120 := fun z => hcf (Or.inl z); omega
        refine lv_iconst (v := nI 0) X.x X.b dM_insert_71 (by decide) ?_
        refine lv_istore (lv' := [(5, .int (nI 0)), (0, .ref (ad 0)), (1, .int va), (2, .int vb), (3, .int vc), (4, .int (nI j))]) X.x X.b dM_insert_72 hl (by decide) rfl (fun ls hl => ?_)
        refine lv_iload X.x X.b dM_insert_74 (lv_at hl 0 rfl) ?_
        refine us_eq0 (tgt := 85) X dM_insert_76 (by decide) ?_
        refine lv_aload_n X.x X.b dM_insert_85 rfl (lv_at hl 1 rfl) ?_
        refine lv_iconst (v := nI 0) X.x X.b dM_insert_86 (by decide) ?_
        refine us_pM X Y 0 rfl 0 (by decide) mB_fl_M_32 rfl rfl rfl (Nat.le_of_ble_eq_true rfl) dM_insert_87 (fun H locs Y => ?_)
        have Y : us_Y D A (mW ad cI cZ (nI 0) n np k V KV I KI PN KR KC) s H locs := Y
        refine lv_iconst (v := nI 0) X.x X.b dM_insert_90 (by decide) ?_
        refine lv_istore (lv' := [(6, .int (nI 0)), (5, .int (nI 0)), (0, .ref (ad 0)), (1, .int va), (2, .int vb), (3, .int vc), (4, .int (nI j))]) X.x X.b dM_insert_91 hl (by decide) rfl (fun ls hl => ?_)
        refine lv_iload X.x X.b dM_insert_93 (lv_at hl 0 rfl) ?_
        refine lv_iconst (v := nI 3) X.x X.b dM_insert_95 (by decide) ?_
        refine us_cge (tgt := 168) X (by decide) (by decide) dM_insert_96 (by decide) (fun h0 => absurd h0 (by decide)) (fun _ => ?_)
        refine lv_aload_n X.x X.b dM_insert_99 rfl (lv_at hl 2 rfl) ?_
        refine us_gM X Y 0 rfl 6 (by decide) mB_fl_M_16 rfl dM_insert_100 ?_
        refine lv_iconst (v := nI 3) X.x X.b dM_insert_103 (by decide) ?_
        refine lv_aload_n X.x X.b dM_insert_104 rfl (lv_at hl 2 rfl) ?_
        refine us_gM X Y 0 rfl 1 (by decide) mB_fl_M_36 rfl dM_insert_105 ?_
        refine us_imul X dM_insert_108 ?_
        refine lv_iload X.x X.b dM_insert_109 (lv_at hl 0 rfl) ?_
        refine us_iadd X dM_insert_111 ?_
        refine lv_iload X.x X.b dM_insert_112 (lv_at hl 6 rfl) ?_
        refine lv_iload X.x X.b dM_insert_114 (lv_at hl 0 rfl) ?_
        refine lv_ishr X.x X.b dM_insert_116 ?_
        refine lv_iconst (v := (1 : Int32)) X.x X.b dM_insert_117 (by decide) ?_
        refine lv_iand X.x X.b dM_insert_118 ?_
        refine us_beq (t := 126) X dM_insert_119 (by decide) dM_insert_122 dM_insert_123 (by decide) dM_insert_126 (fun y0 hy0 => ?_)
        refine us_zs X Y 3 1 rfl rfl (i := (3 * n) + 0) (by omega) (by decide) dM_insert_127 (fun H locs Y => ?_)
        have Y : us_Y D A (mW ad cI cZ (nI 0) n np k V KV ((upd I ((3 * n) + 0) (vp_nar .boolean y0))) KI PN KR KC) s H locs := Y
        refine lv_aload_n X.x X.b dM_insert_128 rfl (lv_at hl 2 rfl) ?_
        refine us_gM X Y 0 rfl 4 (by decide) mB_fl_M_9 rfl dM_insert_129 ?_
        refine lv_iconst (v := nI 3) X.x X.b dM_insert_132 (by decide) ?_
        refine lv_aload_n X.x X.b dM_insert_133 rfl (lv_at hl 2 rfl) ?_
        refine us_gM X Y 0 rfl 1 (by decide) mB_fl_M_36 rfl dM_insert_134 ?_
        refine us_imul X dM_insert_137 ?_
        refine lv_iload X.x X.b dM_insert_138 (lv_at hl 0 rfl) ?_
        refine us_iadd X dM_insert_140 ?_
        refine lv_iload X.x X.b dM_insert_141 (lv_at hl 0 rfl) ?_
        refine us_ne0 (tgt := 150) X dM_insert_143 (by decide) ?_
        refine lv_iload_n X.x X.b dM_insert_146 rfl (lv_at hl 3 rfl) ?_
        refine lv_goto (tgt := 161) X.x X.b dM_insert_147 (by decide) ?_
        refine us_is X Y 1 0 rfl rfl (i := (3 * n) + 0) (by omega) (by decide) dM_insert_161 (fun H locs Y => ?_)
        have Y : us_Y D A (mW ad cI cZ (nI 0) n np k ((upd V ((3 * n) + 0) va)) KV ((upd I ((3 * n) + 0) (vp_nar .boolean y0))) KI PN KR KC) s H locs := Y
        refine lv_iinc (v := (nI 1)) (lv' := [(6, .int (nI 1)), (5, .int (nI 0)), (0, .ref (ad 0)), (1, .int va), (2, .int vb), (3, .int vc), (4, .int (nI j))]) X.x X.b dM_insert_162 hl (k := 0) rfl (us_inc _) (by decide) rfl (fun ls hl => ?_)
        refine lv_goto (tgt := 93) X.x X.b dM_insert_165 (by decide) ?_
        refine lv_iload X.x X.b dM_insert_93 (lv_at hl 0 rfl) ?_
        refine lv_iconst (v := nI 3) X.x X.b dM_insert_95 (by decide) ?_
        refine us_cge (tgt := 168) X (by decide) (by decide) dM_insert_96 (by decide) (fun h0 => absurd h0 (by decide)) (fun _ => ?_)
        refine lv_aload_n X.x X.b dM_insert_99 rfl (lv_at hl 2 rfl) ?_
        refine us_gM X Y 0 rfl 6 (by decide) mB_fl_M_16 rfl dM_insert_100 ?_
        refine lv_iconst (v := nI 3) X.x X.b dM_insert_103 (by decide) ?_
        refine lv_aload_n X.x X.b dM_insert_104 rfl (lv_at hl 2 rfl) ?_
        refine us_gM X Y 0 rfl 1 (by decide) mB_fl_M_36 rfl dM_insert_105 ?_
        refine us_imul X dM_insert_108 ?_
        refine lv_iload X.x X.b dM_insert_109 (lv_at hl 0 rfl) ?_
        refine us_iadd X dM_insert_111 ?_
        refine lv_iload X.x X.b dM_insert_112 (lv_at hl 6 rfl) ?_
        refine lv_iload X.x X.b dM_insert_114 (lv_at hl 0 rfl) ?_
        refine lv_ishr X.x X.b dM_insert_116 ?_
        refine lv_iconst (v := (1 : Int32)) X.x X.b dM_insert_117 (by decide) ?_
        refine lv_iand X.x X.b dM_insert_118 ?_
        refine us_beq (t := 126) X dM_insert_119 (by decide) dM_insert_122 dM_insert_123 (by decide) dM_insert_126 (fun y1 hy1 => ?_)
        refine us_zs X Y 3 1 rfl rfl (i := (3 * n) + 1) (by omega) (by decide) dM_insert_127 (fun H locs Y => ?_)
        have Y : us_Y D A (mW ad cI cZ (nI 0) n np k ((upd V ((3 * n) + 0) va)) KV ((upd (upd I ((3 * n) + 0) (vp_nar .boolean y0)) ((3 * n) + 1) (vp_nar .boolean y1))) KI PN KR KC) s H locs := Y
        refine lv_aload_n X.x X.b dM_insert_128 rfl (lv_at hl 2 rfl) ?_
        refine us_gM X Y 0 rfl 4 (by decide) mB_fl_M_9 rfl dM_insert_129 ?_
        refine lv_iconst (v := nI 3) X.x X.b dM_insert_132 (by decide) ?_
        refine lv_aload_n X.x X.b dM_insert_133 rfl (lv_at hl 2 rfl) ?_
        refine us_gM X Y 0 rfl 1 (by decide) mB_fl_M_36 rfl dM_insert_134 ?_
        refine us_imul X dM_insert_137 ?_
        refine lv_iload X.x X.b dM_insert_138 (lv_at hl 0 rfl) ?_
        refine us_iadd X dM_insert_140 ?_
        refine lv_iload X.x X.b dM_insert_141 (lv_at hl 0 rfl) ?_
        refine us_ne1 (tgt := 150) X dM_insert_143 (by decide) ?_
        refine lv_iload X.x X.b dM_insert_150 (lv_at hl 0 rfl) ?_
        refine lv_iconst (v := nI 1) X.x X.b dM_insert_152 (by decide) ?_
        refine us_cne (tgt := 160) X (by decide) (by decide) dM_insert_153 (by decide) (fun h0 => absurd h0 (by decide)) (fun _ => ?_)
        refine lv_iload_n X.x X.b dM_insert_156 rfl (lv_at hl 4 rfl) ?_
        refine lv_goto (tgt := 161) X.x X.b dM_insert_157 (by decide) ?_
        refine us_is X Y 1 0 rfl rfl (i := (3 * n) + 1) (by omega) (by decide) dM_insert_161 (fun H locs Y => ?_)
        have Y : us_Y D A (mW ad cI cZ (nI 0) n np k ((upd (upd V ((3 * n) + 0) va) ((3 * n) + 1) vb)) KV ((upd (upd I ((3 * n) + 0) (vp_nar .boolean y0)) ((3 * n) + 1) (vp_nar .boolean y1))) KI PN KR KC) s H locs := Y
        refine lv_iinc (v := (nI 2)) (lv' := [(6, .int (nI 2)), (5, .int (nI 0)), (0, .ref (ad 0)), (1, .int va), (2, .int vb), (3, .int vc), (4, .int (nI j))]) X.x X.b dM_insert_162 hl (k := 0) rfl (us_inc _) (by decide) rfl (fun ls hl => ?_)
        refine lv_goto (tgt := 93) X.x X.b dM_insert_165 (by decide) ?_
        refine lv_iload X.x X.b dM_insert_93 (lv_at hl 0 rfl) ?_
        refine lv_iconst (v := nI 3) X.x X.b dM_insert_95 (by decide) ?_
        refine us_cge (tgt := 168) X (by decide) (by decide) dM_insert_96 (by decide) (fun h0 => absurd h0 (by decide)) (fun _ => ?_)
        refine lv_aload_n X.x X.b dM_insert_99 rfl (lv_at hl 2 rfl) ?_
        refine us_gM X Y 0 rfl 6 (by decide) mB_fl_M_16 rfl dM_insert_100 ?_
        refine lv_iconst (v := nI 3) X.x X.b dM_insert_103 (by decide) ?_
        refine lv_aload_n X.x X.b dM_insert_104 rfl (lv_at hl 2 rfl) ?_
        refine us_gM X Y 0 rfl 1 (by decide) mB_fl_M_36 rfl dM_insert_105 ?_
        refine us_imul X dM_insert_108 ?_
        refine lv_iload X.x X.b dM_insert_109 (lv_at hl 0 rfl) ?_
        refine us_iadd X dM_insert_111 ?_
        refine lv_iload X.x X.b dM_insert_112 (lv_at hl 6 rfl) ?_
        refine lv_iload X.x X.b dM_insert_114 (lv_at hl 0 rfl) ?_
        refine lv_ishr X.x X.b dM_insert_116 ?_
        refine lv_iconst (v := (1 : Int32)) X.x X.b dM_insert_117 (by decide) ?_
        refine lv_iand X.x X.b dM_insert_118 ?_
        refine us_beq (t := 126) X dM_insert_119 (by decide) dM_insert_122 dM_insert_123 (by decide) dM_insert_126 (fun y2 hy2 => ?_)
        refine us_zs X Y 3 1 rfl rfl (i := (3 * n) + 2) (by omega) (by decide) dM_insert_127 (fun H locs Y => ?_)
        have Y : us_Y D A (mW ad cI cZ (nI 0) n np k ((upd (upd V ((3 * n) + 0) va) ((3 * n) + 1) vb)) KV ((upd (upd (upd I ((3 * n) + 0) (vp_nar .boolean y0)) ((3 * n) + 1) (vp_nar .boolean y1)) ((3 * n) + 2) (vp_nar .boolean y2))) KI PN KR KC) s H locs := Y
        refine lv_aload_n X.x X.b dM_insert_128 rfl (lv_at hl 2 rfl) ?_
        refine us_gM X Y 0 rfl 4 (by decide) mB_fl_M_9 rfl dM_insert_129 ?_
        refine lv_iconst (v := nI 3) X.x X.b dM_insert_132 (by decide) ?_
        refine lv_aload_n X.x X.b dM_insert_133 rfl (lv_at hl 2 rfl) ?_
        refine us_gM X Y 0 rfl 1 (by decide) mB_fl_M_36 rfl dM_insert_134 ?_
        refine us_imul X dM_insert_137 ?_
        refine lv_iload X.x X.b dM_insert_138 (lv_at hl 0 rfl) ?_
        refine us_iadd X dM_insert_140 ?_
        refine lv_iload X.x X.b dM_insert_141 (lv_at hl 0 rfl) ?_
        refine us_zne (tgt := 150) X (by decide) dM_insert_143 (by decide) (fun _ => ?_) (fun h0 => absurd h0 (by decide))
        refine lv_iload X.x X.b dM_insert_150 (lv_at hl 0 rfl) ?_
        refine lv_iconst (v := nI 1) X.x X.b dM_insert_152 (by decide) ?_
        refine us_cne (tgt := 160) X (by decide) (by decide) dM_insert_153 (by decide) (fun _ => ?_) (fun h0 => absurd h0 (by decide))
        refine lv_iload_n X.x X.b dM_insert_160 rfl (lv_at hl 5 rfl) ?_
        refine us_is X Y 1 0 rfl rfl (i := (3 * n) + 2) (by omega) (by decide) dM_insert_161 (fun H locs Y => ?_)
        have Y : us_Y D A (mW ad cI cZ (nI 0) n np k ((upd (upd (upd V ((3 * n) + 0) va) ((3 * n) + 1) vb) ((3 * n) + 2) vc)) KV ((upd (upd (upd I ((3 * n) + 0) (vp_nar .boolean y0)) ((3 * n) + 1) (vp_nar .boolean y1)) ((3 * n) + 2) (vp_nar .boolean y2))) KI PN KR KC) s H locs := Y
        refine lv_iinc (v := (nI 3)) (lv' := [(6, .int (nI 3)), (5, .int (nI 0)), (0, .ref (ad 0)), (1, .int va), (2, .int vb), (3, .int vc), (4, .int (nI j))]) X.x X.b dM_insert_162 hl (k := 0) rfl (us_inc _) (by decide) rfl (fun ls hl => ?_)
        refine lv_goto (tgt := 93) X.x X.b dM_insert_165 (by decide) ?_
        refine lv_iload X.x X.b dM_insert_93 (lv_at hl 0 rfl) ?_
        refine lv_iconst (v := nI 3) X.x X.b dM_insert_95 (by decide) ?_
        refine us_cge (tgt := 168) X (by decide) (by decide) dM_insert_96 (by decide) (fun _ => ?_) (fun h0 => absurd h0 (by decide))
        refine lv_aload_n X.x X.b dM_insert_168 rfl (lv_at hl 2 rfl) ?_
        refine lv_dup X.x X.b dM_insert_169 rfl ?_
        refine us_gM X Y 0 rfl 1 (by decide) mB_fl_M_36 rfl dM_insert_170 ?_
        refine lv_iconst (v := nI 1) X.x X.b dM_insert_173 (by decide) ?_
        refine us_iadd X dM_insert_174 ?_
        refine us_pM X Y 0 rfl 1 (by decide) mB_fl_M_36 rfl rfl rfl (Nat.le_of_ble_eq_true rfl) dM_insert_175 (fun H locs Y => ?_)
        have Y : us_Y D A (mW ad cI cZ (nI 0) (n + 1) np k ((upd (upd (upd V ((3 * n) + 0) va) ((3 * n) + 1) vb) ((3 * n) + 2) vc)) KV ((upd (upd (upd I ((3 * n) + 0) (vp_nar .boolean y0)) ((3 * n) + 1) (vp_nar .boolean y1)) ((3 * n) + 2) (vp_nar .boolean y2))) KI PN KR KC) s H locs := Y
        refine lv_aload_n X.x X.b dM_insert_178 rfl (lv_at hl 2 rfl) ?_
        refine us_vv (rest := []) X Y (k_M_changed l D ad cI cZ H.size (nI 0) (n + 1) np k ((upd (upd (upd V ((3 * n) + 0) va) ((3 * n) + 1) vb) ((3 * n) + 2) vc)) KV ((upd (upd (upd I ((3 * n) + 0) (vp_nar .boolean y0)) ((3 * n) + 1) (vp_nar .boolean y1)) ((3 * n) + 2) (vp_nar .boolean y2))) KI PN KR KC h1p) us_I8 0 rfl rfl cv_M_57 rfl ⟨by decide, by decide⟩ ⟨by decide, by decide⟩ hl.1 rfl (Nat.le_of_ble_eq_true rfl) dM_insert_179 (fun u H locs _ Y => ?_)
        have Y : us_Y D A (mW ad cI cZ (nI 0) (n + 1) np (us_k1 np k) ((upd (upd (upd V ((3 * n) + 0) va) ((3 * n) + 1) vb) ((3 * n) + 2) vc)) KV ((upd (upd (upd I ((3 * n) + 0) (vp_nar .boolean y0)) ((3 * n) + 1) (vp_nar .boolean y1)) ((3 * n) + 2) (vp_nar .boolean y2))) KI PN KR KC) s H locs := Y
        refine lv_aload_n X.x X.b dM_insert_182 rfl (lv_at hl 2 rfl) ?_
        refine us_gM X Y 0 rfl 1 (by decide) mB_fl_M_36 rfl dM_insert_183 ?_
        refine lv_iconst (v := nI 1) X.x X.b dM_insert_186 (by decide) ?_
        refine us_isub X (by omega) dM_insert_187 ?_
        exact us_iret (u := ((nI 0), (n + 1), np, (us_k1 np k), ((upd (upd (upd V ((3 * n) + 0) va) ((3 * n) + 1) vb) ((3 * n) + 2) vc)), KV, ((upd (upd (upd I ((3 * n) + 0) (vp_nar .boolean y0)) ((3 * n) + 1) (vp_nar .boolean y1)) ((3 * n) + 2) (vp_nar .boolean y2))), KI, PN, KR, KC)) X Y hr hlk (⟨0, n + 1, _, _, Or.inr (Or.inr ⟨rfl, hok, hcf, rfl, rfl, rfl, rfl⟩), rfl, rfl, rfl, rfl, hM.tab (by omega) (us_k1_le h1k hful) ((us_putM (us_hb hj (by decide) hy0) (us_hb hj (by decide) hy1) (us_hb hj (by decide) hy2)).tr (us_set_top h4)) (us_bool_upd (us_bool_upd (us_bool_upd hI (us_y01 hy0)) (us_y01 hy1)) (us_y01 hy2))⟩) dM_insert_188
      refine lv_aload_n X.x X.b dM_insert_18 rfl (lv_at hl 0 rfl) ?_
      refine us_gM X Y 0 rfl 1 (by decide) mB_fl_M_36 rfl dM_insert_19 ?_
      refine lv_bipush (v := nI 120) X.x X.b dM_insert_22 (by decide) ?_
      refine us_ceq (tgt := 67) X (by omega) (by omega) dM_insert_24 (by decide) (fun h3 => ?_) (fun h3 => ?_)
      · refine lv_iconst (v := nI 1) X.x X.b dM_insert_67 (by decide) ?_
        refine lv_goto (tgt := 72) X.x X.b dM_insert_68 (by decide) ?_
        refine lv_istore (lv' := [(5, .int (nI 1)), (0, .ref (ad 0)), (1, .int va), (2, .int vb), (3, .int vc), (4, .int (nI j))]) X.x X.b dM_insert_72 hl (by decide) rfl (fun ls hl => ?_)
        refine lv_iload X.x X.b dM_insert_74 (lv_at hl 0 rfl) ?_
        refine us_eq1 (tgt := 85) X dM_insert_76 (by decide) ?_
        refine lv_aload_n X.x X.b dM_insert_79 rfl (lv_at hl 1 rfl) ?_
        refine lv_iconst (v := nI 2) X.x X.b dM_insert_80 (by decide) ?_
        refine us_vi (rest := []) X Y (k_M_no l D ad cI cZ s.heap.size th n np k V KV I KI PN KR KC (nI 2)) us_I8 0 rfl rfl cv_M_45 rfl ⟨by decide, by decide⟩ ⟨by decide, by decide⟩ hl.1 rfl (Nat.le_of_ble_eq_true rfl) dM_insert_81 (fun rr u H locs _ Y => ?_)
        have Y : us_Y D A (mW ad cI cZ (nI 2) n np k V KV I KI PN KR KC) s H locs := Y
        exact us_iret (u := ((nI 2), n, np, k, V, KV, I, KI, PN, KR, KC)) X Y hr hlk (⟨2, n, T, k, Or.inr (Or.inl ⟨rfl, hok, Or.inl h3, rfl, rfl, rfl⟩), rfl, rfl, rfl, rfl, hM⟩) dM_insert_84
      · refine lv_aload_n X.x X.b dM_insert_27 rfl (lv_at hl 0 rfl) ?_
        refine lv_iconst (v := nI 1) X.x X.b dM_insert_28 (by decide) ?_
        refine us_vi (rest := []) X Y (k_M_isFull l D ad cI cZ s.heap.size th n np k V KV I KI PN KR KC 1 h1p h1k (by decide)) us_I8 0 rfl rfl cv_M_49 rfl ⟨by decide, by decide⟩ ⟨by decide, by decide⟩ hl.1 rfl (Nat.le_of_ble_eq_true rfl) dM_insert_29 (fun rr u H locs g1 Y => ?_)
        have Y : us_Y D A (mW ad cI cZ th n np k V KV I KI PN KR KC) s H locs := Y
        rcases g1 with ⟨rfl, g1⟩ | ⟨rfl, g1⟩
        · refine us_ne1 (tgt := 67) X dM_insert_32 (by decide) ?_
          refine lv_iconst (v := nI 1) X.x X.b dM_insert_67 (by decide) ?_
          refine lv_goto (tgt := 72) X.x X.b dM_insert_68 (by decide) ?_
          refine lv_istore (lv' := [(5, .int (nI 1)), (0, .ref (ad 0)), (1, .int va), (2, .int vb), (3, .int vc), (4, .int (nI j))]) X.x X.b dM_insert_72 hl (by decide) rfl (fun ls hl => ?_)
          refine lv_iload X.x X.b dM_insert_74 (lv_at hl 0 rfl) ?_
          refine us_eq1 (tgt := 85) X dM_insert_76 (by decide) ?_
          refine lv_aload_n X.x X.b dM_insert_79 rfl (lv_at hl 1 rfl) ?_
          refine lv_iconst (v := nI 2) X.x X.b dM_insert_80 (by decide) ?_
          refine us_vi (rest := []) X Y (k_M_no l D ad cI cZ H.size th n np k V KV I KI PN KR KC (nI 2)) us_I8 0 rfl rfl cv_M_45 rfl ⟨by decide, by decide⟩ ⟨by decide, by decide⟩ hl.1 rfl (Nat.le_of_ble_eq_true rfl) dM_insert_81 (fun rr u H locs _ Y => ?_)
          have Y : us_Y D A (mW ad cI cZ (nI 2) n np k V KV I KI PN KR KC) s H locs := Y
          exact us_iret (u := ((nI 2), n, np, k, V, KV, I, KI, PN, KR, KC)) X Y hr hlk (⟨2, n, T, k, Or.inr (Or.inl ⟨rfl, hok, Or.inr (Or.inl g1), rfl, rfl, rfl⟩), rfl, rfl, rfl, rfl, hM⟩) dM_insert_84
        · refine us_ne0 (tgt := 67) X dM_insert_32 (by decide) ?_
          refine lv_iload X.x X.b dM_insert_35 (lv_at hl 4 rfl) ?_
          refine lv_iconst (v := (1 : Int32)) X.x X.b dM_insert_37 (by decide) ?_
          refine lv_iand X.x X.b dM_insert_38 ?_
          refine lv_if_eq (tgt := 67) X.x X.b dM_insert_39 (by decide) (fun h5 => ?_) (fun h5 => ?_)
          · refine lv_iconst (v := nI 1) X.x X.b dM_insert_67 (by decide) ?_
            refine lv_goto (tgt := 72) X.x X.b dM_insert_68 (by decide) ?_
            refine lv_istore (lv' := [(5, .int (nI 1)), (0, .ref (ad 0)), (1, .int va), (2, .int vb), (3, .int vc), (4, .int (nI j))]) X.x X.b dM_insert_72 hl (by decide) rfl (fun ls hl => ?_)
            refine lv_iload X.x X.b dM_insert_74 (lv_at hl 0 rfl) ?_
            refine us_eq1 (tgt := 85) X dM_insert_76 (by decide) ?_
            refine lv_aload_n X.x X.b dM_insert_79 rfl (lv_at hl 1 rfl) ?_
            refine lv_iconst (v := nI 2) X.x X.b dM_insert_80 (by decide) ?_
            refine us_vi (rest := []) X Y (k_M_no l D ad cI cZ H.size th n np k V KV I KI PN KR KC (nI 2)) us_I8 0 rfl rfl cv_M_45 rfl ⟨by decide, by decide⟩ ⟨by decide, by decide⟩ hl.1 rfl (Nat.le_of_ble_eq_true rfl) dM_insert_81 (fun rr u H locs _ Y => ?_)
            have Y : us_Y D A (mW ad cI cZ (nI 2) n np k V KV I KI PN KR KC) s H locs := Y
            exact us_iret (u := ((nI 2), n, np, k, V, KV, I, KI, PN, KR, KC)) X Y hr hlk (⟨2, n, T, k, Or.inr (Or.inl ⟨rfl, hok, Or.inr (Or.inr (Or.inl h5)), rfl, rfl, rfl⟩), rfl, rfl, rfl, rfl, hM⟩) dM_insert_84
          · refine lv_aload_n X.x X.b dM_insert_42 rfl (lv_at hl 0 rfl) ?_
            refine lv_iconst (v := nI 0) X.x X.b dM_insert_43 (by decide) ?_
            refine lv_iload_n X.x X.b dM_insert_44 rfl (lv_at hl 1 rfl) ?_
            refine us_vi (rest := []) X Y (k_M_row l D ad cI cZ H.size th n np k V KV I KI PN KR KC 0 va h1n (by decide)) us_I8 0 rfl rfl cv_M_53 rfl ⟨by decide, by decide⟩ ⟨by decide, by decide⟩ hl.1 rfl (Nat.le_of_ble_eq_true rfl) dM_insert_45 (fun rr u H locs r1 Y => ?_)
            have Y : us_Y D A (mW ad cI cZ th n np k V KV I KI PN KR KC) s H locs := Y
            refine lv_if_ge (tgt := 67) X.x X.b dM_insert_48 (by decide) (fun h6 => ?_) (fun h6 => ?_)
            · refine lv_iconst (v := nI 1) X.x X.b dM_insert_67 (by decide) ?_
              refine lv_goto (tgt := 72) X.x X.b dM_insert_68 (by decide) ?_
              refine lv_istore (lv' := [(5, .int (nI 1)), (0, .ref (ad 0)), (1, .int va), (2, .int vb), (3, .int vc), (4, .int (nI j))]) X.x X.b dM_insert_72 hl (by decide) rfl (fun ls hl => ?_)
              refine lv_iload X.x X.b dM_insert_74 (lv_at hl 0 rfl) ?_
              refine us_eq1 (tgt := 85) X dM_insert_76 (by decide) ?_
              refine lv_aload_n X.x X.b dM_insert_79 rfl (lv_at hl 1 rfl) ?_
              refine lv_iconst (v := nI 2) X.x X.b dM_insert_80 (by decide) ?_
              refine us_vi (rest := []) X Y (k_M_no l D ad cI cZ H.size th n np k V KV I KI PN KR KC (nI 2)) us_I8 0 rfl rfl cv_M_45 rfl ⟨by decide, by decide⟩ ⟨by decide, by decide⟩ hl.1 rfl (Nat.le_of_ble_eq_true rfl) dM_insert_81 (fun rr u H locs _ Y => ?_)
              have Y : us_Y D A (mW ad cI cZ (nI 2) n np k V KV I KI PN KR KC) s H locs := Y
              exact us_iret (u := ((nI 2), n, np, k, V, KV, I, KI, PN, KR, KC)) X Y hr hlk (⟨2, n, T, k, Or.inr (Or.inl ⟨rfl, hok, Or.inr (Or.inr (Or.inr (Or.inl (us_all2 (by omega) (by decide) h4 r1 h6)))), rfl, rfl, rfl⟩), rfl, rfl, rfl, rfl, hM⟩) dM_insert_84
            · refine lv_iload X.x X.b dM_insert_51 (lv_at hl 4 rfl) ?_
              refine lv_iconst (v := (2 : Int32)) X.x X.b dM_insert_53 (by decide) ?_
              refine lv_iand X.x X.b dM_insert_54 ?_
              refine lv_if_eq (tgt := 71) X.x X.b dM_insert_55 (by decide) (fun h7 => ?_) (fun h7 => ?_)
              · exact tail H locs ls (fun z => by rcases z with z | z | z | z | z; exact h3 z; exact g1 z; exact h5 z; exact us_ex_no (us_all_eq (by decide) h4 ((r1.neg (by omega)).mp (us_neg h6))) z; exact z.1 h7) Y hl
              · refine lv_aload_n X.x X.b dM_insert_58 rfl (lv_at hl 0 rfl) ?_
                refine lv_iconst (v := nI 1) X.x X.b dM_insert_59 (by decide) ?_
                refine lv_iload_n X.x X.b dM_insert_60 rfl (lv_at hl 2 rfl) ?_
                refine us_vi (rest := []) X Y (k_M_row l D ad cI cZ H.size th n np k V KV I KI PN KR KC 1 vb h1n (by decide)) us_I8 0 rfl rfl cv_M_53 rfl ⟨by decide, by decide⟩ ⟨by decide, by decide⟩ hl.1 rfl (Nat.le_of_ble_eq_true rfl) dM_insert_61 (fun rr u H locs r2 Y => ?_)
                have Y : us_Y D A (mW ad cI cZ th n np k V KV I KI PN KR KC) s H locs := Y
                refine lv_if_lt (tgt := 71) X.x X.b dM_insert_64 (by decide) (fun h8 => ?_) (fun h8 => ?_)
                · exact tail H locs ls (fun z => by rcases z with z | z | z | z | z; exact h3 z; exact g1 z; exact h5 z; exact us_ex_no (us_all_eq (by decide) h4 ((r1.neg (by omega)).mp (us_neg h6))) z; exact us_ex_no (us_all_eq (by decide) h4 ((r2.neg (by omega)).mp h8)) z.2) Y hl
                · refine lv_iconst (v := nI 1) X.x X.b dM_insert_67 (by decide) ?_
                  refine lv_goto (tgt := 72) X.x X.b dM_insert_68 (by decide) ?_
                  refine lv_istore (lv' := [(5, .int (nI 1)), (0, .ref (ad 0)), (1, .int va), (2, .int vb), (3, .int vc), (4, .int (nI j))]) X.x X.b dM_insert_72 hl (by decide) rfl (fun ls hl => ?_)
                  refine lv_iload X.x X.b dM_insert_74 (lv_at hl 0 rfl) ?_
                  refine us_eq1 (tgt := 85) X dM_insert_76 (by decide) ?_
                  refine lv_aload_n X.x X.b dM_insert_79 rfl (lv_at hl 1 rfl) ?_
                  refine lv_iconst (v := nI 2) X.x X.b dM_insert_80 (by decide) ?_
                  refine us_vi (rest := []) X Y (k_M_no l D ad cI cZ H.size th n np k V KV I KI PN KR KC (nI 2)) us_I8 0 rfl rfl cv_M_45 rfl ⟨by decide, by decide⟩ ⟨by decide, by decide⟩ hl.1 rfl (Nat.le_of_ble_eq_true rfl) dM_insert_81 (fun rr u H locs _ Y => ?_)
                  have Y : us_Y D A (mW ad cI cZ (nI 2) n np k V KV I KI PN KR KC) s H locs := Y
                  exact us_iret (u := ((nI 2), n, np, k, V, KV, I, KI, PN, KR, KC)) X Y hr hlk (⟨2, n, T, k, Or.inr (Or.inl ⟨rfl, hok, Or.inr (Or.inr (Or.inr (Or.inr ⟨h7, us_all2 (by omega) (by decide) h4 r2 (Int32.not_lt.mp h8)⟩))), rfl, rfl, rfl⟩), rfl, rfl, rfl, rfl, hM⟩) dM_insert_84
    · refine lv_aload_n X.x X.b dM_insert_12 rfl (lv_at hl 0 rfl) ?_
      refine lv_iconst (v := nI 1) X.x X.b dM_insert_13 (by decide) ?_
      refine us_vi (rest := []) X Y (k_M_no l D ad cI cZ s.heap.size th n np k V KV I KI PN KR KC (nI 1)) us_I8 0 rfl rfl cv_M_45 rfl ⟨by decide, by decide⟩ ⟨by decide, by decide⟩ hl.1 rfl (Nat.le_of_ble_eq_true rfl) dM_insert_14 (fun rr u H locs _ Y => ?_)
      have Y : us_Y D A (mW ad cI cZ (nI 1) n np k V KV I KI PN KR KC) s H locs := Y
      exact us_iret (u := ((nI 1), n, np, k, V, KV, I, KI, PN, KR, KC)) X Y hr hlk (⟨1, n, T, k, Or.inl ⟨rfl, fun ⟨j, h3, h4⟩ => h2 (by rw [h4]; exact nI_le (by omega) (by decide)), rfl, rfl, rfl⟩, rfl, rfl, rfl, rfl, hM⟩) dM_insert_17
set_option maxHeartbeats 4000000 in
set_option maxRecDepth 100000 in
theorem k_M_set (l : Launch) (D : va_G) (ad : Nat → Nat) (cI cZ : ClassId) (sz : Nat) (th : Int32) (n np k : Nat) (V KV I KI PN KR KC : Nat → Int32) (T : us_T) (nm : Nat → Int32) (sn : Nat → Nat) (sT : Nat → us_T) (sk : Nat → Nat) (hM : us_M n T k np nm sn sT sk V KV I KI PN KR KC) (vr vco vv vz : Int32) : us_Cv l yM_set cM_set 6 1 23 [.ref (ad 0), .int vr, .int vco, .int vv, .int vz] D (tyM cI cZ) (mW ad cI cZ th n np k V KV I KI PN KR KC) sz (fun (u : us_SM) => ∃ cd T' k', us_sR n T k np vr vco vv vz cd T' k' ∧ us_ms u (nI cd) n T' k' np nm sn sT sk) (fun (u : us_SM) => mWS ad cI cZ u) := by
  refine us_enter (own := RM) rfl (by decide) (Nat.le_of_ble_eq_true rfl) ?_
  intro p e s m below meth c ls X Y hr hlk hl
  generalize va_A (mW ad cI cZ th n np k V KV I KI PN KR KC) sz = A at X Y ⊢
  have hl : lv_has ls 6 [(0, .ref (ad 0)), (1, .int vr), (2, .int vco), (3, .int vv), (4, .int vz)] := hl
  have h1n := hM.1
  have h1p := hM.2.1
  have h1k := hM.2.2.1
  have h4 := hM.2.2.2.1
  have hI := hM.2.2.2.2.1
  have hKI := hM.2.2.2.2.2.1
  refine lv_aload_n X.x X.b dM_set_0 rfl (lv_at hl 0 rfl) ?_
  refine lv_iload_n X.x X.b dM_set_1 rfl (lv_at hl 2 rfl) ?_
  refine lv_if_lt (tgt := 10) X.x X.b dM_set_2 (by decide) (fun h1 => ?_) (fun h1 => ?_)
  · refine lv_iconst (v := nI 1) X.x X.b dM_set_10 (by decide) ?_
    refine lv_goto (tgt := 27) X.x X.b dM_set_11 (by decide) ?_
    refine us_pM X Y 0 rfl 0 (by decide) mB_fl_M_32 rfl rfl rfl (Nat.le_of_ble_eq_true rfl) dM_set_27 (fun H locs Y => ?_)
    have Y : us_Y D A (mW ad cI cZ (nI 1) n np k V KV I KI PN KR KC) s H locs := Y
    refine lv_aload_n X.x X.b dM_set_30 rfl (lv_at hl 0 rfl) ?_
    refine us_gM X Y 0 rfl 0 (by decide) mB_fl_M_32 rfl dM_set_31 ?_
    refine us_eq1 (tgt := 38) X dM_set_34 (by decide) ?_
    exact us_vret (u := ((nI 1), n, np, k, V, KV, I, KI, PN, KR, KC)) X Y hr hlk (⟨1, T, k, Or.inl ⟨rfl, fun ⟨c, h3, h4⟩ => nI_pos (n := c) (by omega) (h4 ▸ h1), rfl, rfl⟩, rfl, rfl, rfl, rfl, hM⟩) dM_set_37
  · refine lv_iload_n X.x X.b dM_set_5 rfl (lv_at hl 2 rfl) ?_
    refine lv_iconst (v := nI 2) X.x X.b dM_set_6 (by decide) ?_
    refine lv_icmp_le (tgt := 14) X.x X.b dM_set_7 (by decide) (fun h2 => ?_) (fun h2 => ?_)
    · obtain ⟨co, hco, rfl⟩ := us_le2 (by decide) h1 h2
      refine lv_aload_n X.x X.b dM_set_14 rfl (lv_at hl 0 rfl) ?_
      refine lv_iload_n X.x X.b dM_set_15 rfl (lv_at hl 1 rfl) ?_
      refine us_vi (rest := [.ref (ad 0)]) X Y (k_M_isRow l D ad cI cZ s.heap.size th n np k V KV I KI PN KR KC vr h1n) us_I8 0 rfl rfl cv_M_60 rfl ⟨by decide, by decide⟩ ⟨by decide, by decide⟩ hl.1 rfl (Nat.le_of_ble_eq_true rfl) dM_set_16 (fun rr u H locs g1 Y => ?_)
      have Y : us_Y D A (mW ad cI cZ th n np k V KV I KI PN KR KC) s H locs := Y
      rcases g1 with ⟨rfl, g1⟩ | ⟨rfl, g1⟩
      · refine us_ne1 (tgt := 26) X dM_set_19 (by decide) ?_
        obtain ⟨ir, hir, rfl⟩ := g1
        refine lv_iconst (v := nI 0) X.x X.b dM_set_26 (by decide) ?_
        refine us_pM X Y 0 rfl 0 (by decide) mB_fl_M_32 rfl rfl rfl (Nat.le_of_ble_eq_true rfl) dM_set_27 (fun H locs Y => ?_)
        have Y : us_Y D A (mW ad cI cZ (nI 0) n np k V KV I KI PN KR KC) s H locs := Y
        refine lv_aload_n X.x X.b dM_set_30 rfl (lv_at hl 0 rfl) ?_
        refine us_gM X Y 0 rfl 0 (by decide) mB_fl_M_32 rfl dM_set_31 ?_
        refine us_eq0 (tgt := 38) X dM_set_34 (by decide) ?_
        have tail : ∀ (o : Int32) (H : Heap) (locs : List Loc) (ls : Array Slot), ¬ (us_ful np k 1 ∨ us_sc0 T n ir co vv vz) → us_Y D A (mW ad cI cZ (nI 0) n np k V KV I KI PN KR KC) s H locs → lv_has ls 6 [(5, .int o), (0, .ref (ad 0)), (1, .int (nI ir)), (2, .int (nI co)), (3, .int vv), (4, .int vz)] → W p l e { frames := 1, cells := 0, slots := 0, locals := 23 } s m [.ref (ad 0), .int (nI ir), .int (nI co), .int vv, .int vz].toArray below meth c H locs 0 0 (us_Qv below (fun (u : us_SM) => ∃ cd T' k', us_sR n T k np (nI ir) (nI co) vv vz cd T' k' ∧ us_ms u (nI cd) n T' k' np nm sn sT sk) D (tyM cI cZ) A (fun (u : us_SM) => mWS ad cI cZ u) [.ref (ad 0), .int (nI ir), .int (nI co), .int vv, .int vz] s) (F0 m 93 ls []) := by
          intro o H locs ls hcf Y hl
          refine lv_aload_n X.x X.b dM_set_93 rfl (lv_at hl 1 rfl) ?_
          refine us_gM X Y 0 rfl 0 (by decide) mB_fl_M_32 rfl dM_set_94 ?_
          refine us_eq0 (tgt := 101) X dM_set_97 (by decide) ?_
          refine lv_aload_n X.x X.b dM_set_101 rfl (lv_at hl 1 rfl) ?_
          refine us_gM X Y 0 rfl 6 (by decide) mB_fl_M_16 rfl dM_set_102 ?_
          refine lv_iconst (v := nI 3) X.x X.b dM_set_105 (by decide) ?_
          refine lv_iload_n X.x X.b dM_set_106 rfl (lv_at hl 2 rfl) ?_
          refine us_imul X dM_set_107 ?_
          refine lv_iload_n X.x X.b dM_set_108 rfl (lv_at hl 3 rfl) ?_
          refine us_iadd X dM_set_109 ?_
          refine lv_iload X.x X.b dM_set_110 (lv_at hl 5 rfl) ?_
          refine us_bne (t := 119) X dM_set_112 (by decide) dM_set_115 dM_set_116 (by decide) dM_set_119 (fun y hy => ?_)
          refine us_zs X Y 3 1 rfl rfl (i := (3 * ir) + co) (by omega) (by decide) dM_set_120 (fun H locs Y => ?_)
          have Y : us_Y D A (mW ad cI cZ (nI 0) n np k V KV ((upd I ((3 * ir) + co) (vp_nar .boolean y))) KI PN KR KC) s H locs := Y
          refine lv_aload_n X.x X.b dM_set_121 rfl (lv_at hl 1 rfl) ?_
          refine us_gM X Y 0 rfl 4 (by decide) mB_fl_M_9 rfl dM_set_122 ?_
          refine lv_iconst (v := nI 3) X.x X.b dM_set_125 (by decide) ?_
          refine lv_iload_n X.x X.b dM_set_126 rfl (lv_at hl 2 rfl) ?_
          refine us_imul X dM_set_127 ?_
          refine lv_iload_n X.x X.b dM_set_128 rfl (lv_at hl 3 rfl) ?_
          refine us_iadd X dM_set_129 ?_
          refine lv_iload_n X.x X.b dM_set_130 rfl (lv_at hl 4 rfl) ?_
          refine us_is X Y 1 0 rfl rfl (i := (3 * ir) + co) (by omega) (by decide) dM_set_131 (fun H locs Y => ?_)
          have Y : us_Y D A (mW ad cI cZ (nI 0) n np k ((upd V ((3 * ir) + co) vv)) KV ((upd I ((3 * ir) + co) (vp_nar .boolean y))) KI PN KR KC) s H locs := Y
          refine lv_aload_n X.x X.b dM_set_132 rfl (lv_at hl 1 rfl) ?_
          refine us_vv (rest := []) X Y (k_M_changed l D ad cI cZ H.size (nI 0) n np k ((upd V ((3 * ir) + co) vv)) KV ((upd I ((3 * ir) + co) (vp_nar .boolean y))) KI PN KR KC h1p) us_I8 0 rfl rfl cv_M_57 rfl ⟨by decide, by decide⟩ ⟨by decide, by decide⟩ hl.1 rfl (Nat.le_of_ble_eq_true rfl) dM_set_133 (fun u H locs _ Y => ?_)
          have Y : us_Y D A (mW ad cI cZ (nI 0) n np (us_k1 np k) ((upd V ((3 * ir) + co) vv)) KV ((upd I ((3 * ir) + co) (vp_nar .boolean y))) KI PN KR KC) s H locs := Y
          exact us_vret (u := ((nI 0), n, np, (us_k1 np k), ((upd V ((3 * ir) + co) vv)), KV, ((upd I ((3 * ir) + co) (vp_nar .boolean y))), KI, PN, KR, KC)) X Y hr hlk (⟨0, _, _, Or.inr (Or.inr ⟨ir, co, hir, rfl, hco, rfl, Or.inr ⟨rfl, hcf, rfl, rfl⟩⟩), rfl, rfl, rfl, rfl, hM.tab h1n (us_k1_le h1k (fun z => hcf (Or.inl z))) ((us_putS hco (us_sy hy)).tr (us_st_eq hir h4)) (us_bool_upd hI (us_y01 hy))⟩) dM_set_136
        have mid : ∀ (o : Int32) (H : Heap) (locs : List Loc) (ls : Array Slot), (us_sc0 (us_tm V I) n ir co vv vz ↔ ((¬ vz = 0 ∧ co = 0) ∨ ¬ (o < 0 ∨ o = nI ir))) → us_Y D A (mW ad cI cZ (nI 0) n np k V KV I KI PN KR KC) s H locs → lv_has ls 6 [(0, .ref (ad 0)), (1, .int (nI ir)), (2, .int (nI co)), (3, .int vv), (4, .int vz)] → W p l e { frames := 1, cells := 0, slots := 0, locals := 23 } s m [.ref (ad 0), .int (nI ir), .int (nI co), .int vv, .int vz].toArray below meth c H locs 0 0 (us_Qv below (fun (u : us_SM) => ∃ cd T' k', us_sR n T k np (nI ir) (nI co) vv vz cd T' k' ∧ us_ms u (nI cd) n T' k' np nm sn sT sk) D (tyM cI cZ) A (fun (u : us_SM) => mWS ad cI cZ u) [.ref (ad 0), .int (nI ir), .int (nI co), .int vv, .int vz] s) (F0 m 58 ls [.int o]) := by
          intro o H locs ls ho Y hl
          refine lv_istore (lv' := [(5, .int o), (0, .ref (ad 0)), (1, .int (nI ir)), (2, .int (nI co)), (3, .int vv), (4, .int vz)]) X.x X.b dM_set_58 hl (by decide) rfl (fun ls hl => ?_)
          refine lv_aload_n X.x X.b dM_set_60 rfl (lv_at hl 1 rfl) ?_
          refine lv_iconst (v := nI 1) X.x X.b dM_set_61 (by decide) ?_
          refine us_vi (rest := []) X Y (k_M_isFull l D ad cI cZ H.size (nI 0) n np k V KV I KI PN KR KC 1 h1p h1k (by decide)) us_I8 0 rfl rfl cv_M_49 rfl ⟨by decide, by decide⟩ ⟨by decide, by decide⟩ hl.1 rfl (Nat.le_of_ble_eq_true rfl) dM_set_62 (fun rr u H locs g2 Y => ?_)
          have Y : us_Y D A (mW ad cI cZ (nI 0) n np k V KV I KI PN KR KC) s H locs := Y
          rcases g2 with ⟨rfl, g2⟩ | ⟨rfl, g2⟩
          · refine us_ne1 (tgt := 88) X dM_set_65 (by decide) ?_
            refine lv_aload_n X.x X.b dM_set_88 rfl (lv_at hl 1 rfl) ?_
            refine lv_iconst (v := nI 2) X.x X.b dM_set_89 (by decide) ?_
            refine us_pM X Y 0 rfl 0 (by decide) mB_fl_M_32 rfl rfl rfl (Nat.le_of_ble_eq_true rfl) dM_set_90 (fun H locs Y => ?_)
            have Y : us_Y D A (mW ad cI cZ (nI 2) n np k V KV I KI PN KR KC) s H locs := Y
            refine lv_aload_n X.x X.b dM_set_93 rfl (lv_at hl 1 rfl) ?_
            refine us_gM X Y 0 rfl 0 (by decide) mB_fl_M_32 rfl dM_set_94 ?_
            refine us_zeq (tgt := 101) X (by decide) dM_set_97 (by decide) (fun h0 => absurd h0 (by decide)) (fun _ => ?_)
            exact us_vret (u := ((nI 2), n, np, k, V, KV, I, KI, PN, KR, KC)) X Y hr hlk (⟨2, T, k, Or.inr (Or.inr ⟨ir, co, hir, rfl, hco, rfl, Or.inl ⟨rfl, Or.inl g2, rfl, rfl⟩⟩), rfl, rfl, rfl, rfl, hM⟩) dM_set_100
          · refine us_ne0 (tgt := 88) X dM_set_65 (by decide) ?_
            refine lv_iload X.x X.b dM_set_68 (lv_at hl 5 rfl) ?_
            refine lv_if_eq (tgt := 77) X.x X.b dM_set_70 (by decide) (fun h3 => ?_) (fun h3 => ?_)
            · refine lv_iload X.x X.b dM_set_77 (lv_at hl 0 rfl) ?_
              refine lv_if_lt (tgt := 93) X.x X.b dM_set_79 (by decide) (fun h5 => ?_) (fun h5 => ?_)
              · exact tail o H locs ls (fun z => z.elim g2 (fun z => (ho.mp (z.eq hco h4.sy)).elim (fun z => z.1 h3) (fun z => z (Or.inl h5)))) Y hl
              · refine lv_iload X.x X.b dM_set_82 (lv_at hl 0 rfl) ?_
                refine lv_iload_n X.x X.b dM_set_84 rfl (lv_at hl 2 rfl) ?_
                refine lv_icmp_eq (tgt := 93) X.x X.b dM_set_85 (by decide) (fun h6 => ?_) (fun h6 => ?_)
                · exact tail o H locs ls (fun z => z.elim g2 (fun z => (ho.mp (z.eq hco h4.sy)).elim (fun z => z.1 h3) (fun z => z (Or.inr h6)))) Y hl
                · refine lv_aload_n X.x X.b dM_set_88 rfl (lv_at hl 1 rfl) ?_
                  refine lv_iconst (v := nI 2) X.x X.b dM_set_89 (by decide) ?_
                  refine us_pM X Y 0 rfl 0 (by decide) mB_fl_M_32 rfl rfl rfl (Nat.le_of_ble_eq_true rfl) dM_set_90 (fun H locs Y => ?_)
                  have Y : us_Y D A (mW ad cI cZ (nI 2) n np k V KV I KI PN KR KC) s H locs := Y
                  refine lv_aload_n X.x X.b dM_set_93 rfl (lv_at hl 1 rfl) ?_
                  refine us_gM X Y 0 rfl 0 (by decide) mB_fl_M_32 rfl dM_set_94 ?_
                  refine us_zeq (tgt := 101) X (by decide) dM_set_97 (by decide) (fun h0 => absurd h0 (by decide)) (fun _ => ?_)
                  exact us_vret (u := ((nI 2), n, np, k, V, KV, I, KI, PN, KR, KC)) X Y hr hlk (⟨2, T, k, Or.inr (Or.inr ⟨ir, co, hir, rfl, hco, rfl, Or.inl ⟨rfl, Or.inr ((ho.mpr (Or.inr (fun z => z.elim h5 h6))).eq hco h4), rfl, rfl⟩⟩), rfl, rfl, rfl, rfl, hM⟩) dM_set_100
            · refine lv_iload_n X.x X.b dM_set_73 rfl (lv_at hl 3 rfl) ?_
              refine us_zeq (tgt := 88) X (by omega) dM_set_74 (by decide) (fun h7 => ?_) (fun h7 => ?_)
              · refine lv_aload_n X.x X.b dM_set_88 rfl (lv_at hl 1 rfl) ?_
                refine lv_iconst (v := nI 2) X.x X.b dM_set_89 (by decide) ?_
                refine us_pM X Y 0 rfl 0 (by decide) mB_fl_M_32 rfl rfl rfl (Nat.le_of_ble_eq_true rfl) dM_set_90 (fun H locs Y => ?_)
                have Y : us_Y D A (mW ad cI cZ (nI 2) n np k V KV I KI PN KR KC) s H locs := Y
                refine lv_aload_n X.x X.b dM_set_93 rfl (lv_at hl 1 rfl) ?_
                refine us_gM X Y 0 rfl 0 (by decide) mB_fl_M_32 rfl dM_set_94 ?_
                refine us_zeq (tgt := 101) X (by decide) dM_set_97 (by decide) (fun h0 => absurd h0 (by decide)) (fun _ => ?_)
                exact us_vret (u := ((nI 2), n, np, k, V, KV, I, KI, PN, KR, KC)) X Y hr hlk (⟨2, T, k, Or.inr (Or.inr ⟨ir, co, hir, rfl, hco, rfl, Or.inl ⟨rfl, Or.inr ((ho.mpr (Or.inl ⟨h3, h7⟩)).eq hco h4), rfl, rfl⟩⟩), rfl, rfl, rfl, rfl, hM⟩) dM_set_100
              · refine lv_iload X.x X.b dM_set_77 (lv_at hl 0 rfl) ?_
                refine lv_if_lt (tgt := 93) X.x X.b dM_set_79 (by decide) (fun h5 => ?_) (fun h5 => ?_)
                · exact tail o H locs ls (fun z => z.elim g2 (fun z => (ho.mp (z.eq hco h4.sy)).elim (fun z => absurd z.2 (by omega)) (fun z => z (Or.inl h5)))) Y hl
                · refine lv_iload X.x X.b dM_set_82 (lv_at hl 0 rfl) ?_
                  refine lv_iload_n X.x X.b dM_set_84 rfl (lv_at hl 2 rfl) ?_
                  refine lv_icmp_eq (tgt := 93) X.x X.b dM_set_85 (by decide) (fun h6 => ?_) (fun h6 => ?_)
                  · exact tail o H locs ls (fun z => z.elim g2 (fun z => (ho.mp (z.eq hco h4.sy)).elim (fun z => absurd z.2 (by omega)) (fun z => z (Or.inr h6)))) Y hl
                  · refine lv_aload_n X.x X.b dM_set_88 rfl (lv_at hl 1 rfl) ?_
                    refine lv_iconst (v := nI 2) X.x X.b dM_set_89 (by decide) ?_
                    refine us_pM X Y 0 rfl 0 (by decide) mB_fl_M_32 rfl rfl rfl (Nat.le_of_ble_eq_true rfl) dM_set_90 (fun H locs Y => ?_)
                    have Y : us_Y D A (mW ad cI cZ (nI 2) n np k V KV I KI PN KR KC) s H locs := Y
                    refine lv_aload_n X.x X.b dM_set_93 rfl (lv_at hl 1 rfl) ?_
                    refine us_gM X Y 0 rfl 0 (by decide) mB_fl_M_32 rfl dM_set_94 ?_
                    refine us_zeq (tgt := 101) X (by decide) dM_set_97 (by decide) (fun h0 => absurd h0 (by decide)) (fun _ => ?_)
                    exact us_vret (u := ((nI 2), n, np, k, V, KV, I, KI, PN, KR, KC)) X Y hr hlk (⟨2, T, k, Or.inr (Or.inr ⟨ir, co, hir, rfl, hco, rfl, Or.inl ⟨rfl, Or.inr ((ho.mpr (Or.inr (fun z => z.elim h5 h6))).eq hco h4), rfl, rfl⟩⟩), rfl, rfl, rfl, rfl, hM⟩) dM_set_100
        refine lv_iload X.x X.b dM_set_38 (lv_at hl 4 rfl) ?_
        refine lv_if_ne (tgt := 48) X.x X.b dM_set_40 (by decide) (fun h3 => ?_) (fun h3 => ?_)
        · refine lv_iconst (v := (-1 : Int32)) X.x X.b dM_set_48 (by decide) ?_
          refine lv_goto (tgt := 58) X.x X.b dM_set_49 (by decide) ?_
          exact mid (-1) H locs ls (us_o1 h3) Y hl
        · refine lv_iload_n X.x X.b dM_set_43 rfl (lv_at hl 2 rfl) ?_
          refine lv_iconst (v := nI 2) X.x X.b dM_set_44 (by decide) ?_
          refine us_cne (tgt := 52) X (by omega) (by omega) dM_set_45 (by decide) (fun h5 => ?_) (fun h5 => ?_)
          · refine lv_aload_n X.x X.b dM_set_52 rfl (lv_at hl 0 rfl) ?_
            refine lv_iload_n X.x X.b dM_set_53 rfl (lv_at hl 2 rfl) ?_
            refine lv_iload_n X.x X.b dM_set_54 rfl (lv_at hl 3 rfl) ?_
            refine us_vi (rest := []) X Y (k_M_row l D ad cI cZ H.size (nI 0) n np k V KV I KI PN KR KC co vv h1n hco) us_I8 0 rfl rfl cv_M_53 rfl ⟨by decide, by decide⟩ ⟨by decide, by decide⟩ hl.1 rfl (Nat.le_of_ble_eq_true rfl) dM_set_55 (fun rr u H locs r1 Y => ?_)
            have Y : us_Y D A (mW ad cI cZ (nI 0) n np k V KV I KI PN KR KC) s H locs := Y
            exact mid rr H locs ls (us_o3 h3 (by omega) (by omega) hir r1) Y hl
          · refine lv_iconst (v := (-1 : Int32)) X.x X.b dM_set_48 (by decide) ?_
            refine lv_goto (tgt := 58) X.x X.b dM_set_49 (by decide) ?_
            exact mid (-1) H locs ls (us_o2 h3 h5) Y hl
      · refine us_ne0 (tgt := 26) X dM_set_19 (by decide) ?_
        refine lv_iconst (v := nI 3) X.x X.b dM_set_22 (by decide) ?_
        refine lv_goto (tgt := 27) X.x X.b dM_set_23 (by decide) ?_
        refine us_pM X Y 0 rfl 0 (by decide) mB_fl_M_32 rfl rfl rfl (Nat.le_of_ble_eq_true rfl) dM_set_27 (fun H locs Y => ?_)
        have Y : us_Y D A (mW ad cI cZ (nI 3) n np k V KV I KI PN KR KC) s H locs := Y
        refine lv_aload_n X.x X.b dM_set_30 rfl (lv_at hl 0 rfl) ?_
        refine us_gM X Y 0 rfl 0 (by decide) mB_fl_M_32 rfl dM_set_31 ?_
        refine us_zeq (tgt := 38) X (by decide) dM_set_34 (by decide) (fun h0 => absurd h0 (by decide)) (fun _ => ?_)
        exact us_vret (u := ((nI 3), n, np, k, V, KV, I, KI, PN, KR, KC)) X Y hr hlk (⟨3, T, k, Or.inr (Or.inl ⟨rfl, ⟨co, hco, rfl⟩, g1, rfl, rfl⟩), rfl, rfl, rfl, rfl, hM⟩) dM_set_37
    · refine lv_iconst (v := nI 1) X.x X.b dM_set_10 (by decide) ?_
      refine lv_goto (tgt := 27) X.x X.b dM_set_11 (by decide) ?_
      refine us_pM X Y 0 rfl 0 (by decide) mB_fl_M_32 rfl rfl rfl (Nat.le_of_ble_eq_true rfl) dM_set_27 (fun H locs Y => ?_)
      have Y : us_Y D A (mW ad cI cZ (nI 1) n np k V KV I KI PN KR KC) s H locs := Y
      refine lv_aload_n X.x X.b dM_set_30 rfl (lv_at hl 0 rfl) ?_
      refine us_gM X Y 0 rfl 0 (by decide) mB_fl_M_32 rfl dM_set_31 ?_
      refine us_eq1 (tgt := 38) X dM_set_34 (by decide) ?_
      exact us_vret (u := ((nI 1), n, np, k, V, KV, I, KI, PN, KR, KC)) X Y hr hlk (⟨1, T, k, Or.inl ⟨rfl, fun ⟨c, h3, h4⟩ => h2 (by rw [h4]; exact nI_le (by omega) (by decide)), rfl, rfl⟩, rfl, rfl, rfl, rfl, hM⟩) dM_set_37
