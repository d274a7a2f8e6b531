/-! 25.throw: methods that return or throw: their contracts, their entry, 'throw new E()', their calls, their ends. -/
abbrev EIA : String := "java/lang/IllegalArgumentException"
abbrev EIS : String := "java/lang/IllegalStateException"
abbrev ENS : String := "java/util/NoSuchElementException"
abbrev us_nm : List String := ["java/lang/RuntimeException", "java/lang/Exception"]
def us_bad : List Cond := [.castable EIA EIA, .castable EIS EIS, .castable ENS ENS, .declares ⟨"java/lang/RuntimeException", "<init>", "()V"⟩, .declares ⟨"java/lang/Exception", "<init>", "()V"⟩, .declares ⟨"java/lang/Throwable", "<init>", "()V"⟩]
theorem us_bad_t : ∀ w ∈ us_bad, w.onTables = true := by decide +kernel
section UST
variable {p : Program} {l : Launch} {e : Env} {R : Room} {s : State} {m : MethodId} {args : Array Value} {below : List Frame} {meth : Method} {c : Code} {H : Heap} {locs : List Loc} {cells slots : Nat} {Q : State → Prop}
variable {cc : ByteArray} {nL pc : Nat} {ls : Array Slot} {rest : List Value} {D : va_G} {A : Nat → Prop} {tys : List (ClassId × FieldType)} {ws : va_W} {own : String}
/-- what a throw needs beside the words -/
def us_E (A : Nat → Prop) (U : State) : Prop := (∀ w ∈ us_bad, va_Nw w U) ∧ (va_Nc EIS EIA U ∧ va_Nc ENS EIA U ∧ va_Nc ENS EIS U) ∧ vx_Zq Bundle.tN "UNASSIGNED_STACK" Bundle.steD A U U.heap ∧ vx_Zq Bundle.tN "SUPPRESSED_SENTINEL" Bundle.listD A U U.heap
theorem us_bad_w {s U : State} (hW : s.WarmedH U.vm) (h : ∀ w ∈ us_bad, va_Nw w s) : ∀ w ∈ us_bad, va_Nw w U := by
  intro w hw
  have hz := h w hw
  unfold us_bad at hw
  simp only [List.mem_cons, List.not_mem_nil, or_false] at hw
  rcases hw with rfl | rfl | rfl | rfl | rfl | rfl
  · exact va_Nw.warmC hW hz
  · exact va_Nw.warmC hW hz
  · exact va_Nw.warmC hW hz
  · exact va_Nw.warmD hW hz
  · exact va_Nw.warmD hW hz
  · exact va_Nw.warmD hW hz
theorem us_E.to {A1 : Nat → Prop} {U : State} (h : us_E A s) (hU : U.heap = H) (hW : s.WarmedH U.vm) (hS : va_S A s.heap H locs) (hA : ∀ q, A1 q → A q) : us_E A1 U := by
  obtain ⟨h1, ⟨h2, h3, h4⟩, h5, h6⟩ := h
  refine ⟨us_bad_w hW h1, ⟨h2.moved hW.alike, h3.moved hW.alike, h4.moved hW.alike⟩, ?_, ?_⟩
  · rw [hU]; exact (vx_Zq.moved hW.alike (h5.kept hS.2.1)).narrow hA
  · rw [hU]; exact (vx_Zq.moved hW.alike (h6.kept hS.2.1)).narrow hA
def us_PE (D : va_G) (tys : List (ClassId × FieldType)) (ws : va_W) (sz : Nat) : State → Prop := fun U => us_P D tys ws sz U ∧ us_E (va_A ws sz) U
theorem us_blindE {av : List Value} {sz : Nat} : FrameBlind (va_Pc av (us_PE D tys ws sz)) := fun a U g mk q => by
  obtain ⟨q0, ⟨q1, qP, qK, qD⟩, h1, ⟨h2, h3, h4⟩, h5, h6⟩ := q
  have hr : U.vm.Alike (U.calling g mk a).vm := Vm.Alike.refl U.vm
  exact ⟨q0, ⟨q1, qP, va_K.moved (u := U) (U := U.calling g mk a) hr qK, qD⟩, fun w hw => va_Nw.same (u := U) (U := U.calling g mk a) (us_bad_t w hw) rfl (h1 w hw), ⟨h2.moved hr, h3.moved hr, h4.moved hr⟩, vx_Zq.moved hr h5, vx_Zq.moved hr h6⟩
def us_XC (D : va_G) (tys : List (ClassId × FieldType)) (A : Nat → Prop) (ws : va_W) (PX : String → Prop) : String → State → State → Prop := vx_X (S := Unit) (fun _ => True) (fun E _ t => PX E ∧ us_Z D tys A ws t) A
/-- a method with an answer that may throw; one without an answer -/
def us_Xi (l : Launch) (y : MethodName) (bytes : ByteArray) (maxL : Nat) (ret : Option FieldType) (fr lo : Nat) (av : List Value) (D : va_G) (tys : List (ClassId × FieldType)) (ws : va_W) (sz : Nat) {S : Type} (post : Int32 → S → Prop) (wf : S → va_W) (PX : String → Prop) : Prop :=
  vx_Met l y (.code y bytes maxL ret :: wB) { frames := fr, cells := 1, slots := 6, locals := lo } (va_Pc av (us_PE D tys ws sz)) (va_Qi post (fun u t => us_Z D tys (va_A ws sz) (wf u) t) (va_A ws sz)) (us_XC D tys (va_A ws sz) ws PX) 1 6 (va_A ws sz)
def us_Xv (l : Launch) (y : MethodName) (bytes : ByteArray) (maxL : Nat) (fr lo : Nat) (av : List Value) (D : va_G) (tys : List (ClassId × FieldType)) (ws : va_W) (sz : Nat) {S : Type} (post : S → Prop) (wf : S → va_W) (PX : String → Prop) : Prop :=
  vx_Met l y (.code y bytes maxL none :: wB) { frames := fr, cells := 1, slots := 6, locals := lo } (va_Pc av (us_PE D tys ws sz)) (va_Qv post (fun u t => us_Z D tys (va_A ws sz) (wf u) t) (va_A ws sz)) (us_XC D tys (va_A ws sz) ws PX) 1 6 (va_A ws sz)
abbrev us_QXi {S : Type} (below : List Frame) (post : Int32 → S → Prop) (D : va_G) (tys : List (ClassId × FieldType)) (A : Nat → Prop) (ws : va_W) (wf : S → va_W) (PX : String → Prop) (av : List Value) (s : State) : State → Prop := vx_MQ below (va_Qi post (fun u t => us_Z D tys A (wf u) t) A) (us_XC D tys A ws PX) av.toArray s 1 6 A
abbrev us_QXv {S : Type} (below : List Frame) (post : S → Prop) (D : va_G) (tys : List (ClassId × FieldType)) (A : Nat → Prop) (ws : va_W) (wf : S → va_W) (PX : String → Prop) (av : List Value) (s : State) : State → Prop := vx_MQ below (va_Qv post (fun u t => us_Z D tys A (wf u) t) A) (us_XC D tys A ws PX) av.toArray s 1 6 A
theorem us_enterX {y : MethodName} {bytes : ByteArray} {maxL : Nat} {ret : Option FieldType} {fr lo : Nat} {av : List Value} {sz : Nat} {Qc : Array Value → State → Outcome → State → Prop} {XC : String → State → State → Prop} (ho : y.cls = own) (hy : plainName y.cls = true) (hlen : (lg_sl av).length ≤ maxL)
    (body : ∀ (p : Program) (e : Env) (s : State) (m : MethodId) (below : List Frame) (meth : Method) (c : Code) (ls : Array Slot), us_X p s m av.toArray c bytes maxL own D tys (va_A ws sz) → us_Y D (va_A ws sz) ws s s.heap [] → us_E (va_A ws sz) s → (∀ x ∈ c.exceptionTable.toList, False) → meth.sig.returnType = ret → meth.locks = false → lv_has ls maxL (lv_args 0 av) →
      W p l e { frames := fr, cells := 1, slots := 6, locals := lo } s m av.toArray below meth c s.heap [] 0 0 (vx_MQ below Qc XC av.toArray s 1 6 (va_A ws sz)) (F0 m 0 ls [])) :
    vx_Met l y (.code y bytes maxL ret :: wB) { frames := fr, cells := 1, slots := 6, locals := lo } (va_Pc av (us_PE D tys ws sz)) Qc XC 1 6 (va_A ws sz) := by
  refine vx_ofW (cc := bytes) (maxL := maxL) (ret := ret) hy rfl ?_
  intro p e s m args below meth c s₁ B hml htb hv
  obtain ⟨rfl, ⟨hsz, hP, hK, hD0⟩, hE⟩ := hv
  have hts := atoms_spec (ws := Cond.code y bytes maxL ret :: wB) B.pre
  have hl := lv_entry av (n := maxL) hlen
  rw [lg_entry_eq]
  generalize (lg_sl av ++ List.replicate (maxL - (lg_sl av).length) Slot.unset).toArray = ls at hl ⊢
  exact body p e s m below meth c ls ⟨⟨B.exec, B.bytes, hml, ho ▸ findClass_of_methodNamed B.named, fun w h => hts w (List.mem_cons_of_mem _ h)⟩, hK, fun q h => Or.inr (by omega)⟩ ⟨hP, hD0.self, va_S.rf⟩ hE htb B.returns B.notSynchronized hl
/-- the words of 'throw new E()' -/
def us_TW (own : String) (ik ic : Nat) (E : String) : Prop := Cond.classLink own ik E ∈ wB ∧ Cond.initialized E ∈ wB ∧ Bundle.fit E = true ∧ (∀ w ∈ (vx_at0 own ic E us_nm).filter goodWord, w ∈ wB) ∧ (∀ w ∈ (vx_at0 own ic E us_nm).filter (fun w => !goodWord w), w ∈ us_bad) ∧ (∀ w ∈ Cond.classLink own ik E :: Cond.initialized E :: vx_at0 own ic E us_nm, vx_ot w = true)
theorem us_thr {E : String} {ik ic : Nat} {Qc : Array Value → State → Outcome → State → Prop} {PX : String → Prop} (X : us_X p s m args c cc nL own D tys A) (Y : us_Y D A ws s H locs) (hE : us_E A s) (hl9 : l.stackTraces = false) (htb : ∀ x ∈ c.exceptionTable.toList, False) (hlk : meth.locks = false) (hsz : ls.size = nL) (hT : us_TW own ik ic E)
    (d0 : decode cc pc = .ok (.new ik, 3)) (d3 : decode cc (pc + 3) = .ok (.dup, 1)) (d4 : decode cc (pc + 4) = .ok (.invokespecial ic, 3)) (d7 : decode cc (pc + 7) = .ok (.athrow, 1)) (hfr : 5 < R.frames) (hlo : (rest.map fun v => v.category).sum + 81 ≤ R.locals) (hc : 1 ≤ R.cells) (hs : 6 ≤ R.slots) (hpx : PX E) :
    W p l e R s m args below meth c H locs 0 0 (vx_MQ below Qc (us_XC D tys A ws PX) args s 1 6 A) (F0 m pc ls rest) := by
  obtain ⟨t1, t2, t3, t4, t5, t6⟩ := hT
  obtain ⟨hb, -, hU, hN⟩ := hE
  refine vx_throw0 (names := us_nm) X.x X.b hl9 X.o t3 (by decide +kernel) (X.w t1) (X.w t2) (vx_hat (fun w hw => X.w (t4 w hw)) t5 (fun w hw => va_Nw.use (us_bad_t w hw) (hb w hw))) t6 hU hN Y.2.2 (hsz.trans X.ml.symm) d0 d3 d4 d7 (fun x hx => (htb x hx).elim) hfr hlo (by omega) (by omega) hlk (fun t ha hz hk => ?_) Y.2.2.2.2 (by omega) (by omega)
  refine ⟨(), trivial, ⟨hpx, Y.1.kept (fun k q hq => hk q.1 ((Y.1 k q hq).lt)), va_K.moved ha X.2.1, Y.2.1⟩, Nat.le_trans Y.2.2.1 hz, fun q h1 h2 => ?_⟩
  rw [hk q (Nat.lt_of_lt_of_le h1 Y.2.2.1)]
  exact Y.2.2.2.1 q h1 h2
/-! ### ends -/
theorem us_ireX {S : Type} {post : Int32 → S → Prop} {wf : S → va_W} {XC : String → State → State → Prop} {u : S} {v : Int32} (X : us_X p s m args c cc nL own D tys A) (Y : us_Y D A (wf u) s H locs) (hr : meth.sig.returnType = some .int) (hlocks : meth.locks = false) (hp : post v u) (hdg : decode cc pc = .ok (.ireturn, 1)) :
    W p l e R s m args below meth c H locs 0 0 (vx_MQ below (va_Qi post (fun u t => us_Z D tys A (wf u) t) A) XC args s 1 6 A) (F0 m pc ls [.int v]) :=
  vx_ret (W.widen (k := 1) (n := 6) (by decide) (by decide) (us_iret X Y hr hlocks hp hdg))
theorem us_vreX {S : Type} {post : S → Prop} {wf : S → va_W} {XC : String → State → State → Prop} {u : S} (X : us_X p s m args c cc nL own D tys A) (Y : us_Y D A (wf u) s H locs) (hr : meth.sig.returnType = none) (hlocks : meth.locks = false) (hp : post u) (hdg : decode cc pc = .ok (.return_, 1)) :
    W p l e R s m args below meth c H locs 0 0 (vx_MQ below (va_Qv post (fun u t => us_Z D tys A (wf u) t) A) XC args s 1 6 A) (F0 m pc ls []) :=
  vx_ret (W.widen (k := 1) (n := 6) (by decide) (by decide) (us_vret X Y hr hlocks hp hdg))
/-! ### calls of methods that may throw -/
theorem us_xi (X : us_X p s m args c cc nL own D tys A) (Y : us_Y D A ws s H locs) (hE : us_E A s) {y : MethodName} {bytes : ByteArray} {maxL : Nat} {ret : Option FieldType} {fr lo b : Nat} {As : List Value} {tys' : List (ClassId × FieldType)} {wc wr : va_W} {S : Type} {post : Int32 → S → Prop} {wf : S → va_W} {PX : String → Prop}
    (hM : us_Xi l y bytes maxL ret fr lo (.ref b :: As) D tys' wc H.size post wf PX) {isC isR tI : List Nat} (hI : us_I ws wc wr tys tys' isC isR tI) {ci N : Nat} {C : String} {T : u_T} {fs : List Value} (q0 : Nat) (hb : wc[q0]? = some (b, .inr (ci, fs))) (hcl : usCl[ci]? = some (C, T, N))
    {idx n : Nat} (hV : us_V own C idx n y bytes maxL ret) (hAs : As.length = n) (hRm : fr + 1 ≤ R.frames ∧ 8 + (maxL + 11) + lo ≤ R.locals) (hf : cells + 1 ≤ R.cells ∧ slots + 6 ≤ R.slots) (hsz : ls.size = nL) {st : List Value} (hst : st = As.reverse ++ .ref b :: rest) (hrest : (rest.map fun v => v.category).sum ≤ 8) (hdg : decode cc pc = .ok (.invokevirtual idx, 3))
    (kx : ∀ (E : String) (ce : Cell) (q9 : Addr) (H1 : Heap) (locs1 : List Loc), PX E → us_Y D A (wr ++ wc) s H1 locs1 → H1[q9]? = some ce → ce.vm = .none → s.vm.findClass E = some ce.cls → vx_W p l e R s m args below meth c H1 locs1 (cells + 1) (slots + 6) Q (F0 m pc ls rest) q9)
    (kk : ∀ (r : Int32) (u : S) (H1 : Heap) (locs1 : List Loc), post r u → us_Y D A (wr ++ wf u) s H1 locs1 → W p l e R s m args below meth c H1 locs1 (cells + 1) (slots + 6) Q (F0 m (pc + 3) ls (.int r :: rest))) : W p l e R s m args below meth c H locs cells slots Q (F0 m pc ls st) := by
  subst hst
  obtain ⟨hC, hR, hnC, hnR, hdis, hT⟩ := hI
  obtain ⟨v1, v2, v3, v4, v5, v6⟩ := hV
  have hFc := va_free (wc := wc) Y.2.1 Y.2.2 X.2.2 isC hC
  have hPc : va_P D usCl wc H := Y.1.sub isC (us_fm hC)
  have hDc := Y.2.1.sub (ws' := wc) isC hnC hC
  have hKc : va_K D usCl tys' s := X.2.1.sub tI hT
  refine vx_calli (vx_runV (As := As) (rest := rest) X.1 hM (cwV n X.1.2.2.2.2 (wB_v v1 v2 v3 v4 v5) rfl rfl rfl v6 hRm) ⟨us_blindE, va_recv hKc hPc hcl hb, fun U hU hW => ⟨rfl, ⟨by rw [hU], by rw [hU]; exact hPc, va_K.moved hW.alike hKc, hDc.weaken (fun _ _ _ _ => trivial)⟩, hE.to hU hW Y.2.2 hFc⟩⟩ rfl hAs hsz rfl (lv_room hrest) hdg hf) Y.2.2 (fun q _ h => hFc q h) hFc (fun q _ h => hFc q h) (fun E ce q9 u t H1 locs1 ht hvm hw hB hz1 hk1 hS hce hcv hcl9 => ?_) (fun r u t H1 locs1 ht hvm hw hB hz1 hk1 hS => ?_)
  · obtain ⟨hpx, hP1, hK1, hD1⟩ := hB
    rw [ht] at hP1
    obtain ⟨hP, hD⟩ := va_join (wc := wc) (wr := wr) (w1 := wc) Y.1 Y.2.1 isC isR hC hR hnR hdis hk1 hFc hP1 hD1
    exact kx E ce q9 H1 locs1 hpx ⟨hP, hD, hS⟩ hce hcv hcl9
  · obtain ⟨hP1, hK1, hD1⟩ := hB
    rw [ht] at hP1
    obtain ⟨hP, hD⟩ := va_join (wc := wc) (wr := wr) (w1 := wf u) Y.1 Y.2.1 isC isR hC hR hnR hdis hk1 hFc hP1 hD1
    exact kk r u H1 locs1 hw ⟨hP, hD, hS⟩
theorem us_xv (X : us_X p s m args c cc nL own D tys A) (Y : us_Y D A ws s H locs) (hE : us_E A s) {y : MethodName} {bytes : ByteArray} {maxL : Nat} {fr lo b : Nat} {As : List Value} {tys' : List (ClassId × FieldType)} {wc wr : va_W} {S : Type} {post : S → Prop} {wf : S → va_W} {PX : String → Prop}
    (hM : us_Xv l y bytes maxL fr lo (.ref b :: As) D tys' wc H.size post wf PX) {isC isR tI : List Nat} (hI : us_I ws wc wr tys tys' isC isR tI) {ci N : Nat} {C : String} {T : u_T} {fs : List Value} (q0 : Nat) (hb : wc[q0]? = some (b, .inr (ci, fs))) (hcl : usCl[ci]? = some (C, T, N))
    {idx n : Nat} (hV : us_V own C idx n y bytes maxL none) (hAs : As.length = n) (hRm : fr + 1 ≤ R.frames ∧ 8 + (maxL + 11) + lo ≤ R.locals) (hf : cells + 1 ≤ R.cells ∧ slots + 6 ≤ R.slots) (hsz : ls.size = nL) {st : List Value} (hst : st = As.reverse ++ .ref b :: rest) (hrest : (rest.map fun v => v.category).sum ≤ 8) (hdg : decode cc pc = .ok (.invokevirtual idx, 3))
    (kx : ∀ (E : String) (ce : Cell) (q9 : Addr) (H1 : Heap) (locs1 : List Loc), PX E → us_Y D A (wr ++ wc) s H1 locs1 → H1[q9]? = some ce → ce.vm = .none → s.vm.findClass E = some ce.cls → vx_W p l e R s m args below meth c H1 locs1 (cells + 1) (slots + 6) Q (F0 m pc ls rest) q9)
    (kk : ∀ (u : S) (H1 : Heap) (locs1 : List Loc), post u → us_Y D A (wr ++ wf u) s H1 locs1 → W p l e R s m args below meth c H1 locs1 (cells + 1) (slots + 6) Q (F0 m (pc + 3) ls rest)) : W p l e R s m args below meth c H locs cells slots Q (F0 m pc ls st) := by
  subst hst
  obtain ⟨hC, hR, hnC, hnR, hdis, hT⟩ := hI
  obtain ⟨v1, v2, v3, v4, v5, v6⟩ := hV
  have hFc := va_free (wc := wc) Y.2.1 Y.2.2 X.2.2 isC hC
  have hPc : va_P D usCl wc H := Y.1.sub isC (us_fm hC)
  have hDc := Y.2.1.sub (ws' := wc) isC hnC hC
  have hKc : va_K D usCl tys' s := X.2.1.sub tI hT
  refine vx_callv (vx_runV (As := As) (rest := rest) X.1 hM (cwV n X.1.2.2.2.2 (wB_v v1 v2 v3 v4 v5) rfl rfl rfl v6 hRm) ⟨us_blindE, va_recv hKc hPc hcl hb, fun U hU hW => ⟨rfl, ⟨by rw [hU], by rw [hU]; exact hPc, va_K.moved hW.alike hKc, hDc.weaken (fun _ _ _ _ => trivial)⟩, hE.to hU hW Y.2.2 hFc⟩⟩ rfl hAs hsz rfl (lv_room hrest) hdg hf) Y.2.2 (fun q _ h => hFc q h) hFc (fun q _ h => hFc q h) (fun E ce q9 u t H1 locs1 ht hvm hw hB hz1 hk1 hS hce hcv hcl9 => ?_) (fun u t H1 locs1 ht hvm hw hB hz1 hk1 hS => ?_)
  · obtain ⟨hpx, hP1, hK1, hD1⟩ := hB
    rw [ht] at hP1
    obtain ⟨hP, hD⟩ := va_join (wc := wc) (wr := wr) (w1 := wc) Y.1 Y.2.1 isC isR hC hR hnR hdis hk1 hFc hP1 hD1
    exact kx E ce q9 H1 locs1 hpx ⟨hP, hD, hS⟩ hce hcv hcl9
  · obtain ⟨hP1, hK1, hD1⟩ := hB
    rw [ht] at hP1
    obtain ⟨hP, hD⟩ := va_join (wc := wc) (wr := wr) (w1 := wf u) Y.1 Y.2.1 isC isR hC hR hnR hdis hk1 hFc hP1 hD1
    exact kk u H1 locs1 hw ⟨hP, hD, hS⟩
/-! ### methods with a table of their own, called by the law -/
def us_Hi (l : Launch) (y : MethodName) (bytes : ByteArray) (maxL : Nat) (hh : List (Nat × Nat × Nat × Nat)) (fr lo : Nat) (av : List Value) (D : va_G) (tys : List (ClassId × FieldType)) (ws : va_W) (sz : Nat) {S : Type} (post : Int32 → S → Prop) (wf : S → va_W) : Prop :=
  Met l y (.codeWith y bytes maxL (some .int) hh :: wB) { frames := fr, cells := 1, slots := 6, locals := lo } (va_Pc av (us_PE D tys ws sz)) (va_Qi post (fun u t => us_Z D tys (va_A ws sz) (wf u) t) (va_A ws sz)) 1 6 (va_A ws sz)
theorem us_enterH {y : MethodName} {bytes : ByteArray} {maxL : Nat} {ret : Option FieldType} {hh : List (Nat × Nat × Nat × Nat)} {fr lo : Nat} {av : List Value} {sz : Nat} {Qc : Array Value → State → Outcome → State → Prop} (ho : y.cls = own) (hy : plainName y.cls = true) (hlen : (lg_sl av).length ≤ maxL)
    (body : ∀ (p : Program) (e : Env) (s : State) (m : MethodId) (below : List Frame) (meth : Method) (c : Code) (ls : Array Slot), us_X p s m av.toArray c bytes maxL own D tys (va_A ws sz) → us_Y D (va_A ws sz) ws s s.heap [] → us_E (va_A ws sz) s → c.exceptionTable.toList = tableOf hh → meth.sig.returnType = ret → meth.locks = false → lv_has ls maxL (lv_args 0 av) →
      W p l e { frames := fr, cells := 1, slots := 6, locals := lo } s m av.toArray below meth c s.heap [] 0 0 (MQ below Qc av.toArray s 1 6 (va_A ws sz)) (F0 m 0 ls [])) :
    Met l y (.codeWith y bytes maxL ret hh :: wB) { frames := fr, cells := 1, slots := 6, locals := lo } (va_Pc av (us_PE D tys ws sz)) Qc 1 6 (va_A ws sz) := by
  refine va_MetW (cc := bytes) (maxL := maxL) (ret := ret) hy rfl ?_
  intro p e s m args below meth c s₁ B hml hv
  obtain ⟨rfl, ⟨hsz, hP, hK, hD0⟩, hE⟩ := hv
  have hts := atoms_spec (ws := Cond.codeWith y bytes maxL ret hh :: wB) B.pre
  have hl := lv_entry av (n := maxL) hlen
  rw [lg_entry_eq]
  generalize (lg_sl av ++ List.replicate (maxL - (lg_sl av).length) Slot.unset).toArray = ls at hl ⊢
  exact body p e s m below meth c ls ⟨⟨B.exec, B.bytes, hml, ho ▸ findClass_of_methodNamed B.named, fun w h => hts w (List.mem_cons_of_mem _ h)⟩, hK, fun q h => Or.inr (by omega)⟩ ⟨hP, hD0.self, va_S.rf⟩ hE (vx_table (x := y) B (hts _ List.mem_cons_self)) B.returns B.notSynchronized hl
/-- what the law's call of such a method needs of the words -/
def us_SW (idx n : Nat) (y : MethodName) (bytes : ByteArray) (maxL : Nat) (hh : List (Nat × Nat × Nat × Nat)) : Prop :=
  Cond.methodLink RL idx y ∈ wB ∧ Cond.static y ∈ wB ∧ Cond.initialized RL ∈ wB ∧ Cond.codeWith y bytes maxL (some .int) hh ∈ wB ∧ (y.cls = RL ∧ y.cls ≠ "java/lang/invoke/MethodHandle" ∧ y.cls ≠ "java/lang/invoke/VarHandle" ∧ (parseMethodDescriptor y.desc).map (fun d => d.parameters.length) = some n)
theorem wB_h {idx n maxL : Nat} {y : MethodName} {bytes : ByteArray} {hh : List (Nat × Nat × Nat × Nat)} (h : us_SW idx n y bytes maxL hh) : GoodIn wB (va_wsS RL idx y (.codeWith y bytes maxL (some .int) hh :: wB)) := fun w hw => by
  obtain ⟨h1, h2, h4, h5, h6⟩ := h
  have hm : w ∈ wB := by
    unfold va_wsS at hw
    rcases List.mem_append.mp hw with h | h
    · simp only [List.mem_cons, List.not_mem_nil, or_false] at h
      rcases h with rfl | rfl | rfl
      · exact h1
      · exact h2
      · rw [h6.1]; exact h4
    · rcases List.mem_cons.mp h with rfl | h
      · exact h5
      · exact h
  exact ⟨hm, good_of_word (List.mem_filter.mp hm).2⟩
theorem us_hi (X : us_X p s m args c cc nL RL D tys A) (Y : us_Y D A ws s H locs) (hE : us_E A s) {y : MethodName} {bytes : ByteArray} {maxL : Nat} {hh : List (Nat × Nat × Nat × Nat)} {fr lo : Nat} {As : List Value} {tys' : List (ClassId × FieldType)} {wc wr : va_W} {S : Type} {post : Int32 → S → Prop} {wf : S → va_W}
    (hM : us_Hi l y bytes maxL hh fr lo As D tys' wc H.size post wf) {isC isR tI : List Nat} (hI : us_I ws wc wr tys tys' isC isR tI) {idx n : Nat} (hV : us_SW idx n y bytes maxL hh) (hAs : As.length = n) (hRm : fr + 1 ≤ R.frames ∧ 8 + (maxL + 11) + lo ≤ R.locals) (hf : cells + 1 ≤ R.cells ∧ slots + 6 ≤ R.slots) (hsz : ls.size = nL) {st : List Value} (hst : st = As.reverse ++ rest) (hrest : (rest.map fun v => v.category).sum ≤ 8) (hdg : decode cc pc = .ok (.invokestatic idx, 3))
    (kk : ∀ (r : Int32) (u : S) (H1 : Heap) (locs1 : List Loc), post r u → us_Y D A (wr ++ wf u) s H1 locs1 → W p l e R s m args below meth c H1 locs1 (cells + 1) (slots + 6) Q (F0 m (pc + 3) ls (.int r :: rest))) : W p l e R s m args below meth c H locs cells slots Q (F0 m pc ls st) := by
  subst hst
  obtain ⟨hC, hR, hnC, hnR, hdis, hT⟩ := hI
  have hFc := va_free (wc := wc) Y.2.1 Y.2.2 X.2.2 isC hC
  have hPc : va_P D usCl wc H := Y.1.sub isC (us_fm hC)
  have hDc := Y.2.1.sub (ws' := wc) isC hnC hC
  have hKc : va_K D usCl tys' s := X.2.1.sub tI hT
  refine va_calli (vx_runSW (As := As) (rest := rest) X.1 hM (vx_cwSW n X.1.2.2.2.2 (wB_h hV) rfl rfl rfl ⟨hV.2.2.2.2.2.1, hV.2.2.2.2.2.2.1, hV.2.2.2.2.2.2.2⟩ hRm) ⟨us_blindE, fun U hU hW => ⟨rfl, ⟨by rw [hU], by rw [hU]; exact hPc, va_K.moved hW.alike hKc, hDc.weaken (fun _ _ _ _ => trivial)⟩, hE.to hU hW Y.2.2 hFc⟩⟩ rfl hAs hsz rfl (lv_room hrest) hdg hf) Y.2.2 (fun q _ h => hFc q h) hFc (fun r u t H1 locs1 ht hvm hw hB hz1 hk1 hS => ?_)
  obtain ⟨hP1, hK1, hD1⟩ := hB
  rw [ht] at hP1
  obtain ⟨hP, hD⟩ := va_join (wc := wc) (wr := wr) (w1 := wf u) Y.1 Y.2.1 isC isR hC hR hnR hdis hk1 hFc hP1 hD1
  exact kk r u H1 locs1 hw ⟨hP, hD, hS⟩
end UST
theorem tw_IA : us_TW RU 38 40 EIA := ⟨mB_cl_U_38, mB_ini_IA, by decide +kernel, fun w hw => List.mem_filter.mpr ⟨(by decide +kernel : ∀ w ∈ (vx_at0 RU 40 EIA us_nm).filter goodWord, w ∈ lw_tbl) w hw, (List.mem_filter.mp hw).2⟩, by decide +kernel, by decide +kernel⟩
theorem tw_IS : us_TW RU 49 51 EIS := ⟨mB_cl_U_49, mB_ini_IS, by decide +kernel, fun w hw => List.mem_filter.mpr ⟨(by decide +kernel : ∀ w ∈ (vx_at0 RU 51 EIS us_nm).filter goodWord, w ∈ lw_tbl) w hw, (List.mem_filter.mp hw).2⟩, by decide +kernel, by decide +kernel⟩
theorem tw_NS : us_TW RU 62 64 ENS := ⟨mB_cl_U_62, mB_ini_NS, by decide +kernel, fun w hw => List.mem_filter.mpr ⟨(by decide +kernel : ∀ w ∈ (vx_at0 RU 64 ENS us_nm).filter goodWord, w ∈ lw_tbl) w hw, (List.mem_filter.mp hw).2⟩, by decide +kernel, by decide +kernel⟩
