/-! 50.lawrows: rows for the law and its helpers: the long array, the script, worlds put in order. -/
abbrev oW (ad : Nat → Nat) (cJ : ClassId) (O : Nat → Int64) : Nat × va_E := (ad 7, .inl (cJ, 1, .inr (.inl O)))
abbrev tyO (cI cJ : ClassId) : List (ClassId × FieldType) := [(cI, .int), (cJ, .long)]
abbrev tyL (cI cZ cJ : ClassId) : List (ClassId × FieldType) := [(cI, .int), (cZ, .boolean), (cJ, .long)]
abbrev lW (ad md : Nat → Nat) (cI cZ cJ : ClassId) (u : us_SU) (w : us_SM) (O : Nat → Int64) : va_W := oW ad cJ O :: (uWS ad cI u ++ mWS md cI cZ w)
theorem us_bIA : Cond.castable EIA EIA ∈ us_bad := List.mem_cons_self
theorem us_bIS : Cond.castable EIS EIS ∈ us_bad := List.mem_cons_of_mem _ List.mem_cons_self
theorem us_bNS : Cond.castable ENS ENS ∈ us_bad := List.mem_cons_of_mem _ (List.mem_cons_of_mem _ List.mem_cons_self)
theorem us_IO {ad : Nat → Nat} {cI cJ : ClassId} {C PN CA CK CR CB : Nat → Int32} {n np k : Nat} {O : Nat → Int64} : us_I (oW ad cJ O :: uW ad cI C n PN CA np CK CR CB k) (uW ad cI C n PN CA np CK CR CB k) [oW ad cJ O] (tyO cI cJ) (tyU cI) [1, 2, 3, 4, 5, 6, 7] [0] [0] := ⟨rfl, rfl, rfl, rfl, by decide, rfl⟩
section USL
variable {p : Program} {l : Launch} {e : Env} {R : Room} {s : State} {m : MethodId} {args : Array Value} {below : List Frame} {meth : Method} {c : Code} {H : Heap} {locs : List Loc} {cells slots : Nat} {Q : State → Prop}
variable {cc : ByteArray} {nL pc : Nat} {ls : Array Slot} {rest : List Value} {D : va_G} {A : Nat → Prop} {tys : List (ClassId × FieldType)} {ws : va_W} {own : String}
theorem us_Y.perm {ws' : va_W} (Y : us_Y D A ws s H locs) (is : List Nat) (hn : va_nd is = true) (hs : is.map (fun i => ws[i]?) = ws'.map some) : us_Y D A ws' s H locs := ⟨Y.1.sub is (us_fm hs), Y.2.1.sub is hn hs, Y.2.2⟩
theorem us_ls (X : us_X p s m args c cc nL own D tys A) (Y : us_Y D A ws s H locs) {a : Nat} (q0 t0 : Nat) {cA : ClassId} {n : Nat} {f : Nat → Int64} (he : ws[q0]? = some (a, .inl (cA, n, .inr (.inl f)))) (ht : tys[t0]? = some (cA, .long)) {i : Nat} {x : Int64} (hi : i < n) (hn : n < 2 ^ 31) (hdg : decode cc pc = .ok (.lastore, 1))
    (kk : ∀ (H1 : Heap) (locs1 : List Loc), us_Y D A (ws.set q0 (a, .inl (cA, n, .inr (.inl (vp_updL f i x))))) s H1 locs1 → W p l e R s m args below meth c H1 locs1 cells slots Q (F0 m (pc + 1) ls rest)) : W p l e R s m args below meth c H locs cells slots Q (F0 m pc ls (.long x :: .int (nI i) :: .ref a :: rest)) := by
  refine va_last X.x X.b X.2.1 Y.1 Y.2.1 Y.2.2 q0 t0 he ht (vp_in_nI hi hn) hdg (fun H1 locs1 g1 g2 g3 => ?_)
  rw [nI_clamp (by omega)] at g1 g2
  exact kk H1 locs1 ⟨g1, g2, g3⟩
theorem us_ll (X : us_X p s m args c cc nL own D tys A) (Y : us_Y D A ws s H locs) {a : Nat} (q0 t0 : Nat) {cA : ClassId} {n : Nat} {f : Nat → Int64} (he : ws[q0]? = some (a, .inl (cA, n, .inr (.inl f)))) (ht : tys[t0]? = some (cA, .long)) {i : Nat} (hi : i < n) (hn : n < 2 ^ 31) (hdg : decode cc pc = .ok (.laload, 1))
    (kk : W p l e R s m args below meth c H locs cells slots Q (F0 m (pc + 1) ls (.long (f i) :: rest))) : W p l e R s m args below meth c H locs cells slots Q (F0 m pc ls (.int (nI i) :: .ref a :: rest)) := by
  refine va_lald X.x X.b X.2.1 Y.1 q0 t0 he ht (vp_in_nI hi hn) hdg ?_
  rw [nI_clamp (by omega)]
  exact kk
theorem us_sc (X : us_X p s m args c cc nL own D tys A) (Y : us_Y D A ws s H locs) {b L : Nat} {xs : Nat → Int32} (hX : va_X b L xs s s.heap) (hbl : b < s.heap.size) (hbA : ¬ A b) {i : Nat} (hi : i < L) (hL : L < 2 ^ 31) (hdg : decode cc pc = .ok (.iaload, 1))
    (kk : W p l e R s m args below meth c H locs cells slots Q (F0 m (pc + 1) ls (.int (xs i) :: rest))) : W p l e R s m args below meth c H locs cells slots Q (F0 m pc ls (.int (nI i) :: .ref b :: rest)) := by
  refine va_sld X.x X.b hX hbl hbA Y.2.2 (vp_in_nI hi hL) hdg ?_
  rw [nI_clamp (by omega)]
  exact kk
theorem us_sl (X : us_X p s m args c cc nL own D tys A) (Y : us_Y D A ws s H locs) {b L : Nat} {xs : Nat → Int32} (hX : va_X b L xs s s.heap) (hbl : b < s.heap.size) (hbA : ¬ A b) (hdg : decode cc pc = .ok (.arraylength, 1))
    (kk : W p l e R s m args below meth c H locs cells slots Q (F0 m (pc + 1) ls (.int (nI L) :: rest))) : W p l e R s m args below meth c H locs cells slots Q (F0 m pc ls (.ref b :: rest)) :=
  va_slen X.x X.b hX hbl hbA Y.2.2 hdg kk
/-- two longs that are the same -/
theorem us_lc (X : us_X p s m args c cc nL own D tys A) {x y : Int64} (h : x = y) (hdg : decode cc pc = .ok (.lcmp, 1))
    (kk : W p l e R s m args below meth c H locs cells slots Q (F0 m (pc + 1) ls (.int (nI 0) :: rest))) : W p l e R s m args below meth c H locs cells slots Q (F0 m pc ls (.long y :: .long x :: rest)) := by
  refine W.lcmp X.x X.b hdg ?_
  subst h
  rw [show lg_cmp x x = nI 0 by simp [lg_cmp]; decide]
  exact kk
/-- an object is made -/
theorem us_nU (X : us_X p s m args c cc nL own D tys A) (Y : us_Y D A ws s H locs) {idx : Nat} (hcl : Cond.classLink own idx RU ∈ wB) (hcells : cells + 1 ≤ R.cells) (hslots : slots + 9 ≤ R.slots) (hdg : decode cc pc = .ok (.new idx, 3))
    (kk : ∀ (q : Nat) (H1 : Heap), us_Y D A (ws ++ [(q, .inr (0, [.null, .int 0, .null, .null, .int 0, .null, .null, .null, .int 0]))]) s H1 locs → W p l e R s m args below meth c H1 locs (cells + 1) (slots + 9) Q (F0 m (pc + 3) ls (.ref q :: rest))) : W p l e R s m args below meth c H locs cells slots Q (F0 m pc ls rest) :=
  va_new (C := RU) (T := FU) (N := 9) (ci := 0) X.x X.b X.1.2.2.2.2 uB_U tU tU_ok X.o (X.w hcl) (X.w mB_inst_U) (X.w mB_ini_U) X.2.1 Y.1 Y.2.1 Y.2.2 X.2.2 rfl (by decide +kernel) hcells hslots hdg (fun q H1 hP hD hS => kk q H1 ⟨hP, hD, hS⟩)
theorem us_nM (X : us_X p s m args c cc nL own D tys A) (Y : us_Y D A ws s H locs) {idx : Nat} (hcl : Cond.classLink own idx RM ∈ wB) (hcells : cells + 1 ≤ R.cells) (hslots : slots + 11 ≤ R.slots) (hdg : decode cc pc = .ok (.new idx, 3))
    (kk : ∀ (q : Nat) (H1 : Heap), us_Y D A (ws ++ [(q, .inr (1, [.int 0, .int 0, .int 0, .int 0, .null, .null, .null, .null, .null, .null, .null]))]) s H1 locs → W p l e R s m args below meth c H1 locs (cells + 1) (slots + 11) Q (F0 m (pc + 3) ls (.ref q :: rest))) : W p l e R s m args below meth c H locs cells slots Q (F0 m pc ls rest) :=
  va_new (C := RM) (T := FM) (N := 11) (ci := 1) X.x X.b X.1.2.2.2.2 uB_M tM tM_ok X.o (X.w hcl) (X.w mB_inst_M) (X.w mB_ini_M) X.2.1 Y.1 Y.2.1 Y.2.2 X.2.2 rfl (by decide +kernel) hcells hslots hdg (fun q H1 hP hD hS => kk q H1 ⟨hP, hD, hS⟩)
/-- .. and its constructor is called -/
theorem us_ini (X : us_X p s m args c cc nL own D tys A) (Y : us_Y D A ws s H locs) {y : MethodName} {bytes : ByteArray} {fr lo mc ms b : Nat} {wc wr : va_W} {S : Type} {post : S → Prop} {ty : S → List (ClassId × FieldType)} {wf : S → va_W}
    (hM : Met l y (.code y bytes 1 none :: wB) { frames := fr, cells := mc, slots := ms, locals := lo } (va_Pc [.ref b] (us_P D [] wc H.size)) (va_Qv post (fun u t => us_Z D (ty u) (va_A wc H.size) (wf u) t) (va_A wc H.size)) mc ms (va_A wc H.size)) {isC isR : List Nat} (hI : us_I ws wc wr tys [] isC isR [])
    {idx : Nat} (h1 : Cond.methodLink own idx y ∈ wB) (h2 : Cond.instanceMethod y ∈ wB) (h3 : Cond.initialized y.cls ∈ wB) (h4 : Cond.code y bytes 1 none ∈ wB) (hy : y.name = "<init>") (hd : y.cls ≠ "java/lang/invoke/MethodHandle" ∧ y.cls ≠ "java/lang/invoke/VarHandle" ∧ (parseMethodDescriptor y.desc).map (fun d => d.parameters.length) = some 0) (hRm : fr + 1 ≤ R.frames ∧ 8 + (1 + 11) + lo ≤ R.locals) (hf : cells + mc ≤ R.cells ∧ slots + ms ≤ R.slots) (hsz : ls.size = nL) (hrest : (rest.map fun v => v.category).sum ≤ 8) (hdg : decode cc pc = .ok (.invokespecial idx, 3))
    (kk : ∀ (u : S) (H1 : Heap) (locs1 : List Loc), post u → us_X p s m args c cc nL own D (tys ++ ty u) A → us_Y D A (wr ++ wf u) s H1 locs1 → W p l e R s m args below meth c H1 locs1 (cells + mc) (slots + ms) Q (F0 m (pc + 3) ls rest)) : W p l e R s m args below meth c H locs cells slots Q (F0 m pc ls (.ref b :: rest)) := by
  obtain ⟨hC, hR, hnC, hnR, hdis, hT⟩ := hI
  have hFc := va_free (wc := wc) Y.2.1 Y.2.2 X.2.2 isC hC
  have hPc : va_P D usCl wc H := Y.1.sub isC (us_fm hC)
  have hDc := Y.2.1.sub (ws' := wc) isC hnC hC
  have hKc : va_K D usCl [] s := X.2.1.sub [] hT
  refine va_callv (va_runI (As := []) (rest := rest) X.1 hM (cwI 0 X.1.2.2.2.2 (wB_gd h4) rfl rfl rfl (X.w h3) (X.w h1) (X.w h2) hy hd hRm) ⟨us_blind, fun U hU hW => ⟨rfl, by rw [hU], by rw [hU]; exact hPc, va_K.moved hW.alike hKc, hDc.weaken (fun _ _ _ _ => trivial)⟩⟩ rfl rfl hsz rfl (lv_room hrest) hdg hf) Y.2.2 (fun q _ h => hFc q h) hFc (fun u t H1 locs1 ht hvm hw hB hz1 hk1 hS => ?_)
  obtain ⟨hP1, hK1, hD1⟩ := hB
  rw [ht] at hP1
  obtain ⟨hP, hD⟩ := va_join (wc := wc) (wr := wr) (w1 := wf u) Y.1 Y.2.1 isC isR hC hR hnR hdis hk1 hFc hP1 hD1
  exact kk u H1 locs1 hw ⟨X.1, X.2.1.app (va_K.moved hvm.symm hK1), X.2.2⟩ ⟨hP, hD, hS⟩
end USL
/-- the script's end -/
theorem us_gt5 {i L : Nat} (hi : i < 2 ^ 30) (hL : L < 2 ^ 30) : nI L - nI 5 < nI i ↔ L < i + 5 := by
  rw [Int32.lt_iff_toInt_lt, pk_sub_toInt hL (by decide), nI_toInt (by omega)]
  omega
/-- both sides hold one state -/
def us_LI (u : us_SU) (w : us_SM) : Prop := ∃ th n T k np nm sn sT sk, us_us u n T k np nm sn sT sk ∧ us_ms w th n T k np nm sn sT sk
theorem us_LI.elim {u : us_SU} {w : us_SM} (hI : us_LI u w) {P : us_SU → us_SM → Prop} (h : ∀ (th : Int32) (n : Nat) (T : us_T) (k np : Nat) (nm : Nat → Int32) (sn : Nat → Nat) (sT : Nat → us_T) (sk : Nat → Nat) (C PN CA CK CR CB V KV I KI PM KR KC : Nat → Int32), us_U n T k np nm sn sT sk C PN CA CK CR CB → us_M n T k np nm sn sT sk V KV I KI PM KR KC → P (n, np, k, C, PN, CA, CK, CR, CB) (th, n, np, k, V, KV, I, KI, PM, KR, KC)) : P u w := by
  obtain ⟨th, n, T, k, np, nm, sn, sT, sk, ⟨e1, e2, e3, hU⟩, ⟨f1, f2, f3, f4, hM⟩⟩ := hI
  obtain ⟨u1, u2, u3, C, PN, CA, CK, CR, CB⟩ := u
  obtain ⟨w1, w2, w3, w4, V, KV, I, KI, PM, KR, KC⟩ := w
  have e1 : u1 = n := e1
  have e2 : u2 = np := e2
  have e3 : u3 = k := e3
  have f2 : w2 = n := f2
  have f3 : w3 = np := f3
  have f4 : w4 = k := f4
  rw [e1, e2, e3, f2, f3, f4]
  exact h w1 n T k np nm sn sT sk C PN CA CK CR CB V KV I KI PM KR KC hU hM
section USI
variable {ad md : Nat → Nat} {cI cZ cJ : ClassId} {u : us_SU} {w : us_SM} {O : Nat → Int64}
theorem us_Lo : us_I (lW ad md cI cZ cJ u w O) (oW ad cJ O :: uWS ad cI u) (mWS md cI cZ w) (tyL cI cZ cJ) (tyO cI cJ) [0, 1, 2, 3, 4, 5, 6, 7] [8, 9, 10, 11, 12, 13, 14, 15] [0, 2] := ⟨rfl, rfl, rfl, rfl, by decide, rfl⟩
theorem us_Lu : us_I (lW ad md cI cZ cJ u w O) (uWS ad cI u) (oW ad cJ O :: mWS md cI cZ w) (tyL cI cZ cJ) (tyU cI) [1, 2, 3, 4, 5, 6, 7] [0, 8, 9, 10, 11, 12, 13, 14, 15] [0] := ⟨rfl, rfl, rfl, rfl, by decide, rfl⟩
theorem us_Lm : us_I (lW ad md cI cZ cJ u w O) (mWS md cI cZ w) (oW ad cJ O :: uWS ad cI u) (tyL cI cZ cJ) (tyM cI cZ) [8, 9, 10, 11, 12, 13, 14, 15] [0, 1, 2, 3, 4, 5, 6, 7] [0, 1] := ⟨rfl, rfl, rfl, rfl, by decide, rfl⟩
end USI
theorem us_yy {x y z : Int32} (h : (y = nI 1 ∧ ¬ x = 0) ∨ (y = nI 0 ∧ x = 0)) (g : (z = nI 1 ∧ ¬ x = 0) ∨ (z = nI 0 ∧ x = 0)) : z = y := by
  rcases h with ⟨h1, h2⟩ | ⟨h1, h2⟩ <;> rcases g with ⟨g1, g2⟩ | ⟨g1, g2⟩
  · rw [h1, g1]
  · exact absurd g2 h2
  · exact absurd h2 g2
  · rw [h1, g1]
theorem us_iR.cd {n : Nat} {T : us_T} {k np : Nat} {a b c has : Int32} {c1 : Nat} {a1 : Int32} {n1 : Nat} {T1 : us_T} {k1 : Nat} (h : us_iR n T k np a b c has c1 a1 n1 T1 k1) : c1 < 4 := by
  rcases h with ⟨h, _⟩ | ⟨h, _⟩ | ⟨h, _⟩ <;> omega
theorem us_aR.cd {n : Nat} {T : us_T} {k np : Nat} {co v : Int32} {c1 : Nat} {a1 : Int32} {n1 : Nat} {T1 : us_T} {k1 : Nat} (h : us_aR n T k np co v c1 a1 n1 T1 k1) : c1 < 4 := by
  rcases h with ⟨h, _⟩ | ⟨_, _, _, ⟨h, _⟩ | ⟨h, _⟩⟩ <;> omega
theorem us_fR.cd {n : Nat} {T : us_T} {co v : Int32} {c1 : Nat} {a1 : Int32} (h : us_fR n T co v c1 a1) : c1 < 4 := by
  rcases h with ⟨h, _⟩ | ⟨_, _, _, h, _⟩ <;> omega
theorem us_vR.cd {n : Nat} {T : us_T} {r co : Int32} {c1 : Nat} {a1 : Int32} (h : us_vR n T r co c1 a1) : c1 < 4 := by
  rcases h with ⟨h, _⟩ | ⟨_, _, _, ⟨h, _⟩ | ⟨_, _, _, _, h⟩⟩ <;> omega
