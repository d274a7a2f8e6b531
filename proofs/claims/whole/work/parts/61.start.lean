/-! 61.start: the law's loop, and its start. -/
section USF
variable {p : Program} {l : Launch} {e : Env} {s : State} {m : MethodId} {below : List Frame} {meth : Method} {c : Code} {H : Heap} {locs : List Loc} {cells slots : Nat} {Q : State → Prop} {ls : Array Slot} {D : va_G} {A : Nat → Prop} {b L i : Nat} {xs : Nat → Int32} {ad md : Nat → Nat} {cI cZ cJ : ClassId}
theorem law_turn (X : us_X p s m #[Value.ref b] c code 7 RL D (tyL cI cZ cJ) A) (hE : us_E A s) (hl9 : l.stackTraces = false) (hX : va_X b L xs s s.heap) (hbl : b < s.heap.size) (hbA : ¬ A b) (hL : L ≤ 2560) (hi : i + 5 ≤ L) (hc : cells + 1 ≤ 1055) (hs : slots + 6 ≤ 25209) {u : us_SU} {w : us_SM} {O : Nat → Int64} (hI : us_LI u w) (Y : us_Y D A (lW ad md cI cZ cJ u w O) s H locs) (hl : lv_has ls 7 [(4, .int (nI i)), (3, .ref (ad 7)), (2, .ref (md 0)), (1, .ref (ad 0)), (0, .ref b)])
    (kk : ∀ (u : us_SU) (w : us_SM) (O : Nat → Int64) (H : Heap) (locs : List Loc) (ls : Array Slot), us_LI u w → us_Y D A (lW ad md cI cZ cJ u w O) s H locs → lv_has ls 7 [(4, .int (nI i)), (3, .ref (ad 7)), (2, .ref (md 0)), (1, .ref (ad 0)), (0, .ref b)] → W p l e room_1 s m #[Value.ref b] below meth c H locs (cells + 1) (slots + 6) Q (F0 m 645 ls [])) :
    W p l e room_1 s m #[Value.ref b] below meth c H locs cells slots Q (F0 m 32 ls []) := by
  obtain ⟨j, hj, ej⟩ := pk_andE (xs i) (m := 15) 4 (by decide)
  refine lv_aload_n X.x X.b dL_law_32 rfl (lv_at hl 4 rfl) ?_
  refine lv_iload X.x X.b dL_law_33 (lv_at hl 0 rfl) ?_
  refine us_sc X Y hX hbl hbA (i := i) (by omega) (by omega) dL_law_35 ?_
  refine lv_bipush (v := (15 : Int32)) X.x X.b dL_law_36 (by decide) ?_
  refine lv_iand X.x X.b dL_law_38 ?_
  rw [ej]
  have hj : j < 16 := hj
  by_cases h9 : 9 < j
  · refine lv_tableOut X.x X.b dL_law_39 (Or.inr (by rw [nI_toInt (by omega)]; omega)) (tgt := 645) (by decide) ?_
    exact W.widen (k := cells + 1) (n := slots + 6) (by omega) (by omega) (kk u w O H locs ls hI Y hl)
  · revert Y
    refine hI.elim (P := fun u w => us_Y D A (lW ad md cI cZ cJ u w O) s H locs → W p l e room_1 s m #[Value.ref b] below meth c H locs cells slots Q (F0 m 39 ls [.int (nI j)])) ?_
    intro th n T k np nm sn sT sk C PN CA CK CR CB V KV I KI PM KR KC hU hM Y
    rcases (show j = 0 ∨ j = 1 ∨ j = 2 ∨ j = 3 ∨ j = 4 ∨ j = 5 ∨ j = 6 ∨ j = 7 ∨ j = 8 ∨ j = 9 by omega) with h | h | h | h | h | h | h | h | h | h <;> subst h
    · exact lv_tableIn (x := nI 0) (off := 92 - 39) (tgt := 92) X.x X.b dL_law_39 (by decide) (by decide) (by decide) (by decide) (law_c0 X hE hl9 hX hbl hbA hL hi hc hs hU hM Y hl kk)
    · exact lv_tableIn (x := nI 1) (off := 184 - 39) (tgt := 184) X.x X.b dL_law_39 (by decide) (by decide) (by decide) (by decide) (law_c1 X hE hl9 hX hbl hbA hL hi hc hs hU hM Y hl kk)
    · exact lv_tableIn (x := nI 2) (off := 272 - 39) (tgt := 272) X.x X.b dL_law_39 (by decide) (by decide) (by decide) (by decide) (law_c2 X hE hl9 hX hbl hbA hL hi hc hs hU hM Y hl kk)
    · exact lv_tableIn (x := nI 3) (off := 308 - 39) (tgt := 308) X.x X.b dL_law_39 (by decide) (by decide) (by decide) (by decide) (law_c3 X hE hl9 hX hbl hbA hL hi hc hs hU hM Y hl kk)
    · exact lv_tableIn (x := nI 4) (off := 376 - 39) (tgt := 376) X.x X.b dL_law_39 (by decide) (by decide) (by decide) (by decide) (law_c4 X hE hl9 hX hbl hbA hL hi hc hs hU hM Y hl kk)
    · exact lv_tableIn (x := nI 5) (off := 444 - 39) (tgt := 444) X.x X.b dL_law_39 (by decide) (by decide) (by decide) (by decide) (law_c5 X hE hl9 hX hbl hbA hL hi hc hs hU hM Y hl kk)
    · exact lv_tableIn (x := nI 6) (off := 512 - 39) (tgt := 512) X.x X.b dL_law_39 (by decide) (by decide) (by decide) (by decide) (law_c6 X hE hl9 hX hbl hbA hL hi hc hs hU hM Y hl kk)
    · exact lv_tableIn (x := nI 7) (off := 548 - 39) (tgt := 548) X.x X.b dL_law_39 (by decide) (by decide) (by decide) (by decide) (law_c7 X hE hl9 hX hbl hbA hL hi hc hs hU hM Y hl kk)
    · exact lv_tableIn (x := nI 8) (off := 584 - 39) (tgt := 584) X.x X.b dL_law_39 (by decide) (by decide) (by decide) (by decide) (law_c8 X hE hl9 hX hbl hbA hL hi hc hs hU hM Y hl kk)
    · exact lv_tableIn (x := nI 9) (off := 620 - 39) (tgt := 620) X.x X.b dL_law_39 (by decide) (by decide) (by decide) (by decide) (law_c9 X hE hl9 hX hbl hbA hL hi hc hs hU hM Y hl kk)
theorem law_head (X : us_X p s m #[Value.ref b] c code 7 RL D (tyL cI cZ cJ) A) (hX : va_X b L xs s s.heap) (hbl : b < s.heap.size) (hbA : ¬ A b) (hL : L ≤ 2560) (hi : i ≤ 2560) {ws : va_W} (Y : us_Y D A ws s H locs) (hl : lv_has ls 7 [(4, .int (nI i)), (3, .ref (ad 7)), (2, .ref (md 0)), (1, .ref (ad 0)), (0, .ref b)])
    (k1 : L < i + 5 → W p l e room_1 s m #[Value.ref b] below meth c H locs cells slots Q (F0 m 651 ls [])) (k2 : i + 5 ≤ L → W p l e room_1 s m #[Value.ref b] below meth c H locs cells slots Q (F0 m 32 ls [])) : W p l e room_1 s m #[Value.ref b] below meth c H locs cells slots Q (F0 m 23 ls []) := by
  refine lv_iload X.x X.b dL_law_23 (lv_at hl 0 rfl) ?_
  refine lv_aload_n X.x X.b dL_law_25 rfl (lv_at hl 4 rfl) ?_
  refine us_sl X Y hX hbl hbA dL_law_26 ?_
  refine lv_iconst (v := nI 5) X.x X.b dL_law_27 (by decide) ?_
  refine lv_isub X.x X.b dL_law_28 ?_
  exact lv_icmp_gt X.x X.b dL_law_29 (tgt := 651) (by decide) (fun h => k1 ((us_gt5 (by omega) (by omega)).mp h)) (fun h => k2 (Nat.not_lt.mp (fun z => h ((us_gt5 (by omega) (by omega)).mpr z))))
theorem law_out (X : us_X p s m #[Value.ref b] c code 7 RL D (tyL cI cZ cJ) (fun q => s.heap.size ≤ q)) (hr : meth.sig.returnType = ret) (hlk : meth.locks = false) {ws : va_W} (Y : us_Y D (fun q => s.heap.size ≤ q) ws s H locs) (hc : cells ≤ 1055) (hs : slots ≤ 25209) :
    W p l e room_1 s m #[Value.ref b] below meth c H locs cells slots (lw_Z below #[Value.ref b] s) (F0 m 651 ls []) := by
  refine lv_iconst (v := (1 : Int32)) X.x X.b dL_law_651 (by decide) ?_
  refine va_forget Y.2.2.2.2 ?_
  refine W.widen (k := 1055) (n := 25209) hc hs ?_
  exact lw_ret X.x X.b hr hlk dL_law_652
theorem law_loop (X : us_X p s m #[Value.ref b] c code 7 RL D (tyL cI cZ cJ) (fun q => s.heap.size ≤ q)) (hE : us_E (fun q => s.heap.size ≤ q) s) (hl9 : l.stackTraces = false) (hX : va_X b L xs s s.heap) (hbl : b < s.heap.size) (hL : L ≤ 2560) (hr : meth.sig.returnType = ret) (hlk : meth.locks = false) :
    ∀ (d t : Nat), t + d = 512 → ∀ (u : us_SU) (w : us_SM) (O : Nat → Int64) (H : Heap) (locs : List Loc) (ls : Array Slot), us_LI u w → us_Y D (fun q => s.heap.size ≤ q) (lW ad md cI cZ cJ u w O) s H locs → lv_has ls 7 [(4, .int (nI (5 * t))), (3, .ref (ad 7)), (2, .ref (md 0)), (1, .ref (ad 0)), (0, .ref b)] →
      W p l e room_1 s m #[Value.ref b] below meth c H locs (16 + t) (16927 + 6 * t) (lw_Z below #[Value.ref b] s) (F0 m 23 ls []) := by
  have hbA : ¬ s.heap.size ≤ b := Nat.not_le.mpr hbl
  intro d
  induction d with
  | zero =>
    intro t ht u w O H locs ls hI Y hl
    exact law_head X hX hbl hbA hL (by omega) Y hl (fun _ => law_out X hr hlk Y (by omega) (by omega)) (fun h => absurd h (by omega))
  | succ d ih =>
    intro t ht u w O H locs ls hI Y hl
    refine law_head X hX hbl hbA hL (by omega) Y hl (fun _ => law_out X hr hlk Y (by omega) (by omega)) (fun h => ?_)
    refine law_turn X hE hl9 hX hbl hbA hL h (by omega) (by omega) hI Y hl (fun u w O H locs ls hI Y hl => ?_)
    refine lv_iinc (v := nI (5 * t + 5)) (lv' := [(4, .int (nI (5 * t + 5))), (3, .ref (ad 7)), (2, .ref (md 0)), (1, .ref (ad 0)), (0, .ref b)]) X.x X.b dL_law_645 hl (k := 0) rfl (us_inc5 _) (by decide) rfl (fun ls hl => ?_)
    refine lv_goto X.x X.b dL_law_648 (tgt := 23) (by decide) ?_
    refine W.widen (k := 16 + (t + 1)) (n := 16927 + 6 * (t + 1)) (by omega) (by omega) ?_
    exact ih (t + 1) (by omega) u w O H locs ls hI Y hl
end USF
def us_a7 (ad : Nat → Nat) (q : Nat) : Nat → Nat := fun i => match i with
  | 7 => q
  | i => ad i
theorem us_L0 : us_LI (0, 0, 0, fun _ => 0, fun _ => 0, fun _ => 0, fun _ => 0, fun _ => 0, fun _ => 0) (nI 0, 0, 0, 0, fun _ => 0, fun _ => 0, fun _ => 0, fun _ => 0, fun _ => 0, fun _ => 0, fun _ => 0) :=
  ⟨nI 0, 0, fun _ _ => none, 0, 0, fun _ => 0, fun _ => 0, fun _ _ _ => none, fun _ => 0, ⟨rfl, rfl, rfl, us_U.zero (by decide) (fun r _ h _ => absurd h (Nat.not_lt_zero r))⟩, ⟨rfl, rfl, rfl, rfl, by decide, by decide, by decide, fun r _ h _ => absurd h (Nat.not_lt_zero r), fun _ => Or.inl rfl, fun _ => Or.inl rfl, fun q h => absurd h (Nat.not_lt_zero q)⟩⟩
theorem us_Es {s : State} {b : Nat} (hts : ∀ w ∈ lw_tbl, w.before #[Value.ref b] s = true) (hgv : (Jvm.Cond.and given_1 narrow_1).before #[Value.ref b] s = true) : us_E (fun q => s.heap.size ≤ q) s := by
  have hs := flat_of_before _ hgv
  have hA : ∀ a : Nat, a < s.heap.size → ¬ s.heap.size ≤ a := fun a h => Nat.not_le.mpr h
  refine ⟨fun w hw => va_Nw.of (us_bad_t w hw) (hts w ((by decide +kernel : ∀ w ∈ us_bad, w ∈ lw_tbl) w hw)), ⟨va_Nc.of (hs (.not (.castable EIS EIA)) (by decide +kernel)), va_Nc.of (hs (.not (.castable ENS EIA)) (by decide +kernel)), va_Nc.of (hs (.not (.castable ENS EIS)) (by decide +kernel))⟩, ?_, ?_⟩
  · exact vx_Zqof (hts (.laysStatic Bundle.tN "UNASSIGNED_STACK" Bundle.steD) (by decide +kernel)) (hts (.initialized Bundle.tN) (by decide +kernel)) (hs (.isRef (.static Bundle.tN "UNASSIGNED_STACK" Bundle.steD)) (by decide +kernel)) hA
  · exact vx_Zqof (hts (.laysStatic Bundle.tN "SUPPRESSED_SENTINEL" Bundle.listD) (by decide +kernel)) (hts (.initialized Bundle.tN) (by decide +kernel)) (hs (.isRef (.static Bundle.tN "SUPPRESSED_SENTINEL" Bundle.listD)) (by decide +kernel)) hA
set_option maxHeartbeats 4000000 in
/-- from the entry, for every script of at most 2560 ints, the law comes to its end with true -/
theorem whole_start {p : Program} {e : Env} {s : State} {m : MethodId} {below : List Frame} {meth : Method} {c : Code} (l : Launch) (hl9 : l.stackTraces = false) {b L : Nat} {xs : Nat → Int32} (hL : L ≤ 2560) (C0 : lw_At p s m meth c b L xs) : W p l e room_1 s m #[Value.ref b] below meth c s.heap [] 0 0 (lw_Z below #[Value.ref b] s) (entryFrame m ([Value.ref b] : List Value).toArray 7) := by
  obtain ⟨hx, hb, hr, hml, hown, hts, hX, hbl, hlk, hgv⟩ := C0
  have hE := us_Es hts hgv
  have htB : ∀ w ∈ wB, w.before #[Value.ref b] s = true := fun w h => hts w (List.mem_filter.mp h).1
  obtain ⟨kU, iU, hKU⟩ := u_known (C := RU) (T := FU) (N := 9) htB uB_U (htB _ mB_inst_U)
  obtain ⟨kM, iM, hKM⟩ := u_known (C := RM) (T := FM) (N := 11) htB uB_M (htB _ mB_inst_M)
  obtain ⟨D, hD⟩ : ∃ D : va_G, D = (fun c => if c = 0 then kU else kM, fun c => if c = 0 then iU else iM) := ⟨_, rfl⟩
  have hK : va_K D usCl [] s := by
    refine ⟨fun c q hq => ?_, fun k q hk => nomatch hk⟩
    subst hD
    have hlt : c < 2 := (List.getElem?_eq_some_iff.mp hq).1
    rcases (show c = 0 ∨ c = 1 by omega) with h | h <;> subst h <;> cases hq
    · exact hKU
    · exact hKM
  have X : us_X p s m #[Value.ref b] c code 7 RL D [] (fun q => s.heap.size ≤ q) := ⟨⟨hx, hb, hml, hown, htB⟩, hK, fun _ h => h⟩
  have Y : us_Y D (fun q => s.heap.size ≤ q) [] s s.heap [] := ⟨fun _ _ h => (nomatch h), ⟨fun _ _ _ _ h => (nomatch h), fun _ _ h => (nomatch h)⟩, va_S.rf⟩
  have hl := lv_entry [.ref b] (n := 7) (Nat.le_of_ble_eq_true rfl)
  rw [lg_entry_eq]
  generalize (lg_sl [.ref b] ++ List.replicate (7 - (lg_sl [.ref b]).length) Slot.unset).toArray = ls at hl ⊢
  have hl : lv_has ls 7 [(0, .ref b)] := hl
  refine us_nU X Y mB_cl_L_8 (by decide) (by decide) dL_law_0 (fun q0 H Y => ?_)
  have Y : us_Y D (fun q => s.heap.size ≤ q) [(q0, .inr (0, [.null, .int 0, .null, .null, .int 0, .null, .null, .null, .int 0]))] s H [] := Y
  refine lv_dup X.x X.b dL_law_3 rfl ?_
  refine us_ini (wr := []) (rest := [.ref q0]) X Y (k_U_init l D q0 H.size) (isC := [0]) (isR := []) ⟨rfl, rfl, rfl, rfl, fun _ h => (nomatch h), rfl⟩ mB_ml_L_46 mB_im_U_init mB_ini_U mB_code_U_init rfl (by decide +kernel) ⟨by decide, by decide⟩ ⟨by decide, by decide⟩ hl.1 (Nat.le_of_ble_eq_true rfl) dL_law_4 (fun u H locs hu X1 Y1 => ?_)
  obtain ⟨ad, cI⟩ := u
  have hu : ad 0 = q0 := hu
  subst hu
  have X : us_X p s m #[Value.ref b] c code 7 RL D (tyU cI) (fun q => s.heap.size ≤ q) := X1
  have Y : us_Y D (fun q => s.heap.size ≤ q) (uW ad cI (fun _ => 0) 0 (fun _ => 0) (fun _ => 0) 0 (fun _ => 0) (fun _ => 0) (fun _ => 0) 0) s H locs := Y1
  refine lv_astore_n (lv' := [(1, .ref (ad 0)), (0, .ref b)]) X.x X.b dL_law_7 rfl hl (by decide) rfl (fun ls hl => ?_)
  refine us_nM X Y mB_cl_L_47 (by decide) (by decide) dL_law_8 (fun q1 H Y => ?_)
  have Y : us_Y D (fun q => s.heap.size ≤ q) (uW ad cI (fun _ => 0) 0 (fun _ => 0) (fun _ => 0) 0 (fun _ => 0) (fun _ => 0) (fun _ => 0) 0 ++ [(q1, .inr (1, [.int 0, .int 0, .int 0, .int 0, .null, .null, .null, .null, .null, .null, .null]))]) s H locs := Y
  refine lv_dup X.x X.b dL_law_11 rfl ?_
  refine us_ini (wr := uW ad cI (fun _ => 0) 0 (fun _ => 0) (fun _ => 0) 0 (fun _ => 0) (fun _ => 0) (fun _ => 0) 0) (rest := [.ref q1]) X Y (k_M_init l D q1 H.size) (isC := [7]) (isR := [0, 1, 2, 3, 4, 5, 6]) ⟨rfl, rfl, rfl, rfl, by decide, rfl⟩ mB_ml_L_49 mB_im_M_init mB_ini_M mB_code_M_init rfl (by decide +kernel) ⟨by decide, by decide⟩ ⟨by decide, by decide⟩ hl.1 (Nat.le_of_ble_eq_true rfl) dL_law_12 (fun w H locs hw X2 Y2 => ?_)
  obtain ⟨md, cI2, cZ⟩ := w
  have hw : md 0 = q1 := hw
  subst hw
  have ec : cI2 = cI := us_ria (X2.2.1.2 1 (cI2, .int) rfl).2 (X2.2.1.2 0 (cI, .int) rfl).2
  subst ec
  have X : us_X p s m #[Value.ref b] c code 7 RL D (tyM cI2 cZ) (fun q => s.heap.size ≤ q) := ⟨X2.1, X2.2.1.sub [0, 2] rfl, X2.2.2⟩
  refine lv_astore_n (lv' := [(2, .ref (md 0)), (1, .ref (ad 0)), (0, .ref b)]) X.x X.b dL_law_15 rfl hl (by decide) rfl (fun ls hl => ?_)
  refine lv_iconst (v := nI 1) X.x X.b dL_law_16 (by decide) ?_
  refine us_newl (N := 1) X Y2 mB_arr_long (by decide) (by decide) (by decide) (by decide) dL_law_17 (fun q2 cJ H X Y => ?_)
  have X : us_X p s m #[Value.ref b] c code 7 RL D (tyL cI2 cZ cJ) (fun q => s.heap.size ≤ q) := X
  have Y : us_Y D (fun q => s.heap.size ≤ q) (lW (us_a7 ad q2) md cI2 cZ cJ (0, 0, 0, fun _ => 0, fun _ => 0, fun _ => 0, fun _ => 0, fun _ => 0, fun _ => 0) (nI 0, 0, 0, 0, fun _ => 0, fun _ => 0, fun _ => 0, fun _ => 0, fun _ => 0, fun _ => 0, fun _ => 0) (fun _ => 0)) s H locs := Y.perm [15, 0, 1, 2, 3, 4, 5, 6, 7, 8, 9, 10, 11, 12, 13, 14] rfl rfl
  refine lv_astore_n (lv' := [(3, .ref q2), (2, .ref (md 0)), (1, .ref (ad 0)), (0, .ref b)]) X.x X.b dL_law_19 rfl hl (by decide) rfl (fun ls hl => ?_)
  refine lv_iconst (v := nI 0) X.x X.b dL_law_20 (by decide) ?_
  refine lv_istore (lv' := [(4, .int (nI 0)), (3, .ref q2), (2, .ref (md 0)), (1, .ref (ad 0)), (0, .ref b)]) X.x X.b dL_law_21 hl (by decide) rfl (fun ls hl => ?_)
  refine W.widen (k := 16 + 0) (n := 16927 + 6 * 0) (by decide) (by decide) ?_
  exact law_loop (ad := us_a7 ad q2) X hE hl9 hX hbl hL hr hlk 512 0 rfl _ _ _ H locs ls us_L0 Y hl
