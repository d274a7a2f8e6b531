/-! 08.calls (a draft, not yet compiled): contracts in one form, the entry of a method, the call of a method. -/
section USC
variable {p : Program} {l : Launch} {e : Env} {R : Room} {s : State} {m : MethodId} {args : Array Value} {below : List Frame} {meth : Method} {c : Code} {H : Heap} {locs : List Loc} {cells slots : Nat} {Q : State → Prop}
variable {cc : ByteArray} {nL pc : Nat} {ls : Array Slot} {rest : List Value} {D : va_G} {A : Nat → Prop} {tys : List (ClassId × FieldType)} {ws : va_W} {own : String}
/-- a method with an int (or a truth value) for an answer -/
def us_Ci (l : Launch) (y : MethodName) (bytes : ByteArray) (maxL : Nat) (ret : Option FieldType) (fr lo : Nat) (av : List Value) (D : va_G) (tys : List (ClassId × FieldType)) (ws : va_W) (sz : Nat) {S : Type} (post : Int32 → S → Prop) (wf : S → va_W) : Prop :=
  Met l y (.code y bytes maxL ret :: wB) { frames := fr, cells := 0, slots := 0, locals := lo } (va_Pc av (us_P D tys ws sz)) (va_Qi post (fun u t => us_Z D tys (va_A ws sz) (wf u) t) (va_A ws sz)) 0 0 (va_A ws sz)
/-- a method without an answer -/
def us_Cv (l : Launch) (y : MethodName) (bytes : ByteArray) (maxL : Nat) (fr lo : Nat) (av : List Value) (D : va_G) (tys : List (ClassId × FieldType)) (ws : va_W) (sz : Nat) {S : Type} (post : S → Prop) (wf : S → va_W) : Prop :=
  Met l y (.code y bytes maxL none :: wB) { frames := fr, cells := 0, slots := 0, locals := lo } (va_Pc av (us_P D tys ws sz)) (va_Qv post (fun u t => us_Z D tys (va_A ws sz) (wf u) t) (va_A ws sz)) 0 0 (va_A ws sz)
theorem us_enter {y : MethodName} {bytes : ByteArray} {maxL : Nat} {ret : Option FieldType} {fr lo : Nat} {av : List Value} {sz : Nat} {Qc : Array Value → State → Outcome → State → Prop} (ho : y.cls = own) (hy : plainName y.cls = true) (hlen : (lg_sl av).length ≤ maxL)
    (body : ∀ (p : Program) (e : Env) (s : State) (m : MethodId) (below : List Frame) (meth : Method) (c : Code) (ls : Array Slot), us_X p s m av.toArray c bytes maxL own D tys (va_A ws sz) → us_Y D (va_A ws sz) ws s s.heap [] → meth.sig.returnType = ret → meth.locks = false → lv_has ls maxL (lv_args 0 av) →
      W p l e { frames := fr, cells := 0, slots := 0, locals := lo } s m av.toArray below meth c s.heap [] 0 0 (MQ below Qc av.toArray s 0 0 (va_A ws sz)) (F0 m 0 ls [])) :
    Met l y (.code y bytes maxL ret :: wB) { frames := fr, cells := 0, slots := 0, locals := lo } (va_Pc av (us_P D tys ws sz)) Qc 0 0 (va_A ws sz) := by
  refine Met.ofW (cc := bytes) (maxL := maxL) (ret := ret) hy rfl ?_
  intro p e s m args below meth c s₁ B hml hv
  obtain ⟨rfl, hsz, hP, hK, hD0⟩ := hv
  have hts := atoms_spec (ws := Cond.code y bytes maxL ret :: wB) B.pre
  have hl := lv_entry av (n := maxL) hlen
  rw [lg_entry_eq]
  generalize (lg_sl av ++ List.replicate (maxL - (lg_sl av).length) Slot.unset).toArray = ls at hl ⊢
  exact body p e s m below meth c ls ⟨⟨B.exec, B.bytes, hml, ho ▸ findClass_of_methodNamed B.named, fun w h => hts w (List.mem_cons_of_mem _ h)⟩, hK, fun q h => Or.inr (by omega)⟩ ⟨hP, hD0.self, va_S.rf⟩ B.returns B.notSynchronized hl
theorem us_fm {α : Type} {f : Nat → Option α} : ∀ {is : List Nat} {w : List α}, is.map f = w.map some → is.filterMap f = w
  | [], [], _ => rfl
  | [], _ :: _, h => by simp at h
  | _ :: _, [], h => by simp at h
  | i :: is, x :: w, h => by
    simp only [List.map_cons, List.cons.injEq] at h
    rw [List.filterMap_cons, h.1, us_fm h.2]
theorem us_blind {av : List Value} {sz : Nat} : FrameBlind (va_Pc av (us_P D tys ws sz)) := fun a U g mk q => by
  obtain ⟨q0, q1, qP, qK, qD⟩ := q
  exact ⟨q0, q1, qP, va_K.moved (u := U) (U := U.calling g mk a) (Vm.Alike.refl U.vm) qK, qD⟩
theorem wB_v {idx maxL : Nat} {C : String} {y : MethodName} {bytes : ByteArray} {ret : Option FieldType} (h1 : Cond.methodLink own idx y ∈ wB) (h2 : Cond.instanceMethod y ∈ wB) (h3 : Cond.selects C y y ∈ wB) (h4 : Cond.initialized C ∈ wB) (h5 : Cond.code y bytes maxL ret ∈ wB) : GoodIn wB (wsV own idx C y (.code y bytes maxL ret :: wB)) := fun w hw => by
  have hm : w ∈ wB := by
    unfold wsV at hw
    rcases List.mem_append.mp hw with h | h
    · simp only [List.mem_cons, List.not_mem_nil, or_false] at h
      rcases h with rfl | rfl | rfl | rfl
      · exact h1
      · exact h2
      · exact h3
      · exact h4
    · rcases List.mem_cons.mp h with rfl | h
      · exact h5
      · exact h
  exact ⟨hm, good_of_word (List.mem_filter.mp hm).2⟩
theorem wB_s {idx maxL : Nat} {y : MethodName} {bytes : ByteArray} {ret : Option FieldType} (h1 : Cond.methodLink own idx y ∈ wB) (h2 : Cond.static y ∈ wB) (h4 : Cond.initialized own ∈ wB) (h5 : Cond.code y bytes maxL ret ∈ wB) : GoodIn wB (wsS own idx y (.code y bytes maxL ret :: wB)) := fun w hw => by
  have hm : w ∈ wB := by
    unfold wsS at hw
    rcases List.mem_append.mp hw with h | h
    · simp only [List.mem_cons, List.not_mem_nil, or_false] at h
      rcases h with rfl | rfl | rfl
      · exact h1
      · exact h2
      · exact h4
    · rcases List.mem_cons.mp h with rfl | h
      · exact h5
      · exact h
  exact ⟨hm, good_of_word (List.mem_filter.mp hm).2⟩
/-- what a virtual call needs beside its contract -/
def us_V (own C : String) (idx n : Nat) (y : MethodName) (bytes : ByteArray) (maxL : Nat) (ret : Option FieldType) : Prop :=
  Cond.methodLink own idx y ∈ wB ∧ Cond.instanceMethod y ∈ wB ∧ Cond.selects C y y ∈ wB ∧ Cond.initialized C ∈ wB ∧ Cond.code y bytes maxL ret ∈ wB ∧ (y.cls = C ∧ y.cls ≠ "java/lang/invoke/MethodHandle" ∧ y.cls ≠ "java/lang/invoke/VarHandle" ∧ (parseMethodDescriptor y.desc).map (fun d => d.parameters.length) = some n)
/-- where the callee's cells lie in the caller's world -/
def us_I (ws wc wr : va_W) (tys tys' : List (ClassId × FieldType)) (isC isR tI : List Nat) : Prop :=
  isC.map (fun i => ws[i]?) = wc.map some ∧ isR.map (fun i => ws[i]?) = wr.map some ∧ va_nd isC = true ∧ va_nd isR = true ∧ (∀ i ∈ isR, i ∉ isC) ∧ tI.filterMap (fun i => tys[i]?) = tys'
theorem us_vi (X : us_X p s m args c cc nL own D tys A) (Y : us_Y D A ws s H locs) {y : MethodName} {bytes : ByteArray} {maxL : Nat} {ret : Option FieldType} {fr lo b : Nat} {As : List Value} {tys' : List (ClassId × FieldType)} {wc wr : va_W} {S : Type} {post : Int32 → S → Prop} {wf : S → va_W}
    (hM : us_Ci l y bytes maxL ret fr lo (.ref b :: As) D tys' wc H.size post wf) {isC isR tI : List Nat} (hI : us_I ws wc wr tys tys' isC isR tI) {ci N : Nat} {C : String} {T : u_T} {fs : List Value} (q0 : Nat) (hb : wc[q0]? = some (b, .inr (ci, fs))) (hcl : usCl[ci]? = some (C, T, N))
    {idx n : Nat} (hV : us_V own C idx n y bytes maxL ret) (hAs : As.length = n) (hRm : fr + 1 ≤ R.frames ∧ 8 + (maxL + 11) + lo ≤ R.locals) (hf : cells ≤ R.cells ∧ slots ≤ R.slots) (hsz : ls.size = nL) {st : List Value} (hst : st = As.reverse ++ .ref b :: rest) (hrest : (rest.map fun v => v.category).sum ≤ 8) (hdg : decode cc pc = .ok (.invokevirtual idx, 3))
    (kk : ∀ (r : Int32) (u : S) (H1 : Heap) (locs1 : List Loc), post r u → us_Y D A (wr ++ wf u) s H1 locs1 → W p l e R s m args below meth c H1 locs1 cells slots Q (F0 m (pc + 3) ls (.int r :: rest))) : W p l e R s m args below meth c H locs cells slots Q (F0 m pc ls st) := by
  subst hst
  obtain ⟨hC, hR, hnC, hnR, hdis, hT⟩ := hI
  obtain ⟨v1, v2, v3, v4, v5, v6⟩ := hV
  have hFc := va_free (wc := wc) Y.2.1 Y.2.2 X.2.2 isC hC
  have hPc : va_P D usCl wc H := Y.1.sub isC (us_fm hC)
  have hDc := Y.2.1.sub (ws' := wc) isC hnC hC
  have hKc : va_K D usCl tys' s := X.2.1.sub tI hT
  refine va_calli (va_runV (As := As) (rest := rest) X.1 hM (cwV n X.1.2.2.2.2 (wB_v v1 v2 v3 v4 v5) rfl rfl rfl v6 hRm) ⟨us_blind, va_recv hKc hPc hcl hb, fun U hU hW => ⟨rfl, by rw [hU], by rw [hU]; exact hPc, va_K.moved hW.alike hKc, hDc.weaken (fun _ _ _ _ => trivial)⟩⟩ rfl hAs hsz rfl (lv_room hrest) hdg hf) Y.2.2 (fun q _ h => hFc q h) hFc (fun r u t H1 locs1 ht hvm hw hB hz1 hk1 hS => ?_)
  obtain ⟨hP1, hK1, hD1⟩ := hB
  rw [ht] at hP1
  obtain ⟨hP, hD⟩ := va_join (wc := wc) (wr := wr) (w1 := wf u) Y.1 Y.2.1 isC isR hC hR hnR hdis hk1 hFc hP1 hD1
  exact kk r u H1 locs1 hw ⟨hP, hD, hS⟩
theorem us_vv (X : us_X p s m args c cc nL own D tys A) (Y : us_Y D A ws s H locs) {y : MethodName} {bytes : ByteArray} {maxL : Nat} {fr lo b : Nat} {As : List Value} {tys' : List (ClassId × FieldType)} {wc wr : va_W} {S : Type} {post : S → Prop} {wf : S → va_W}
    (hM : us_Cv l y bytes maxL fr lo (.ref b :: As) D tys' wc H.size post wf) {isC isR tI : List Nat} (hI : us_I ws wc wr tys tys' isC isR tI) {ci N : Nat} {C : String} {T : u_T} {fs : List Value} (q0 : Nat) (hb : wc[q0]? = some (b, .inr (ci, fs))) (hcl : usCl[ci]? = some (C, T, N))
    {idx n : Nat} (hV : us_V own C idx n y bytes maxL none) (hAs : As.length = n) (hRm : fr + 1 ≤ R.frames ∧ 8 + (maxL + 11) + lo ≤ R.locals) (hf : cells ≤ R.cells ∧ slots ≤ R.slots) (hsz : ls.size = nL) {st : List Value} (hst : st = As.reverse ++ .ref b :: rest) (hrest : (rest.map fun v => v.category).sum ≤ 8) (hdg : decode cc pc = .ok (.invokevirtual idx, 3))
    (kk : ∀ (u : S) (H1 : Heap) (locs1 : List Loc), post u → us_Y D A (wr ++ wf u) s H1 locs1 → W p l e R s m args below meth c H1 locs1 cells slots Q (F0 m (pc + 3) ls rest)) : W p l e R s m args below meth c H locs cells slots Q (F0 m pc ls st) := by
  subst hst
  obtain ⟨hC, hR, hnC, hnR, hdis, hT⟩ := hI
  obtain ⟨v1, v2, v3, v4, v5, v6⟩ := hV
  have hFc := va_free (wc := wc) Y.2.1 Y.2.2 X.2.2 isC hC
  have hPc : va_P D usCl wc H := Y.1.sub isC (us_fm hC)
  have hDc := Y.2.1.sub (ws' := wc) isC hnC hC
  have hKc : va_K D usCl tys' s := X.2.1.sub tI hT
  refine va_callv (va_runV (As := As) (rest := rest) X.1 hM (cwV n X.1.2.2.2.2 (wB_v v1 v2 v3 v4 v5) rfl rfl rfl v6 hRm) ⟨us_blind, va_recv hKc hPc hcl hb, fun U hU hW => ⟨rfl, by rw [hU], by rw [hU]; exact hPc, va_K.moved hW.alike hKc, hDc.weaken (fun _ _ _ _ => trivial)⟩⟩ rfl hAs hsz rfl (lv_room hrest) hdg hf) Y.2.2 (fun q _ h => hFc q h) hFc (fun u t H1 locs1 ht hvm hw hB hz1 hk1 hS => ?_)
  obtain ⟨hP1, hK1, hD1⟩ := hB
  rw [ht] at hP1
  obtain ⟨hP, hD⟩ := va_join (wc := wc) (wr := wr) (w1 := wf u) Y.1 Y.2.1 isC isR hC hR hnR hdis hk1 hFc hP1 hD1
  exact kk u H1 locs1 hw ⟨hP, hD, hS⟩
/-- a static call that touches no cell -/
theorem us_si (X : us_X p s m args c cc nL own D tys A) (Y : us_Y D A ws s H locs) {y : MethodName} {bytes : ByteArray} {maxL : Nat} {ret : Option FieldType} {fr lo : Nat} {As : List Value} {post : Int32 → Unit → Prop}
    (hM : us_Ci l y bytes maxL ret fr lo As D [] [] H.size post (fun _ => [])) {isR : List Nat} (hI : us_I ws [] ws tys [] [] isR []) {idx n : Nat} (h1 : Cond.methodLink own idx y ∈ wB) (h2 : Cond.static y ∈ wB) (h4 : Cond.initialized own ∈ wB) (h5 : Cond.code y bytes maxL ret ∈ wB)
    (hd : y.cls = own ∧ y.cls ≠ "java/lang/invoke/MethodHandle" ∧ y.cls ≠ "java/lang/invoke/VarHandle" ∧ (parseMethodDescriptor y.desc).map (fun d => d.parameters.length) = some n) (hAs : As.length = n) (hRm : fr + 1 ≤ R.frames ∧ 8 + (maxL + 11) + lo ≤ R.locals) (hf : cells ≤ R.cells ∧ slots ≤ R.slots) (hsz : ls.size = nL) {st : List Value} (hst : st = As.reverse ++ rest) (hrest : (rest.map fun v => v.category).sum ≤ 8) (hdg : decode cc pc = .ok (.invokestatic idx, 3))
    (kk : ∀ (r : Int32) (H1 : Heap) (locs1 : List Loc), post r () → us_Y D A ws s H1 locs1 → W p l e R s m args below meth c H1 locs1 cells slots Q (F0 m (pc + 3) ls (.int r :: rest))) : W p l e R s m args below meth c H locs cells slots Q (F0 m pc ls st) := by
  subst hst
  obtain ⟨hC, hR, hnC, hnR, hdis, hT⟩ := hI
  have hFc := va_free (wc := []) Y.2.1 Y.2.2 X.2.2 [] rfl
  have hPc : va_P D usCl [] H := Y.1.sub [] rfl
  have hDc := Y.2.1.sub (ws' := []) [] rfl rfl
  have hKc : va_K D usCl [] s := X.2.1.sub [] rfl
  refine va_calli (va_runS (As := As) (rest := rest) X.1 hM (cwS n X.1.2.2.2.2 (wB_s h1 h2 h4 h5) rfl rfl rfl hd hRm) ⟨us_blind, fun U hU hW => ⟨rfl, by rw [hU], by rw [hU]; exact hPc, va_K.moved hW.alike hKc, hDc.weaken (fun _ _ _ _ => trivial)⟩⟩ rfl hAs hsz rfl (lv_room hrest) hdg hf) Y.2.2 (fun q _ h => hFc q h) hFc (fun r u t H1 locs1 ht hvm hw hB hz1 hk1 hS => ?_)
  obtain ⟨hP1, hK1, hD1⟩ := hB
  rw [ht] at hP1
  obtain ⟨hP, hD⟩ := va_join (wc := []) (wr := ws) (w1 := []) Y.1 Y.2.1 [] isR rfl hR hnR hdis hk1 hFc hP1 hD1
  rw [List.append_nil] at hP hD
  exact kk r H1 locs1 hw ⟨hP, hD, hS⟩
end USC
