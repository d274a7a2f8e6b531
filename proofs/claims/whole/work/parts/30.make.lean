/-! 30.make: arrays and objects that are made. -/
section USM
variable {p : Program} {l : Launch} {e : Env} {R : Room} {s : State} {m : MethodId} {args : Array Value} {below : List Frame} {meth : Method} {c : Code} {H : Heap} {locs : List Loc} {cells slots : Nat} {Q : State → Prop}
variable {cc : ByteArray} {nL pc : Nat} {ls : Array Slot} {rest : List Value} {D : va_G} {A : Nat → Prop} {tys : List (ClassId × FieldType)} {ws : va_W} {own : String}
theorem us_ria {s : State} {a b : ClassId} (h : va_RA s a .int) (g : va_RA s b .int) : a = b := by
  have h : s.vm.findClass ("[" ++ FieldType.int.toString) = some a := h
  have g : s.vm.findClass ("[" ++ FieldType.int.toString) = some b := g
  exact Option.some.inj (h.symm.trans g)
theorem us_riz {s : State} {a b : ClassId} (h : va_RA s a .boolean) (g : va_RA s b .boolean) : a = b := by
  have h : s.vm.findClass ("[" ++ FieldType.boolean.toString) = some a := h
  have g : s.vm.findClass ("[" ++ FieldType.boolean.toString) = some b := g
  exact Option.some.inj (h.symm.trans g)
/-- the first array of its kind -/
theorem us_new1 (X : us_X p s m args c cc nL own D tys A) (Y : us_Y D A ws s H locs) {atype : ArrayType} (harr : Cond.arrayClass (newarray.typeOf atype) ∈ wB) {ty : FieldType} (hty : newarray.typeOf atype = ty) {N : Nat} (hN : N < 2 ^ 31) (hz : defaultValue ty = .int 0) (hbytes : N * componentBytes ty ≤ 536870912) (hcells : cells + 1 ≤ R.cells) (hslots : slots + N ≤ R.slots) (hdg : decode cc pc = .ok (.newarray atype, 2))
    (kk : ∀ (q : Nat) (cA : ClassId) (H1 : Heap), us_X p s m args c cc nL own D (tys ++ [(cA, ty)]) A → us_Y D A (ws ++ [(q, .inl (cA, N, .inl (fun _ => 0)))]) s H1 locs → W p l e R s m args below meth c H1 locs (cells + 1) (slots + N) Q (F0 m (pc + 2) ls (.ref q :: rest))) : W p l e R s m args below meth c H locs cells slots Q (F0 m pc ls (.int (nI N) :: rest)) :=
  va_newa X.x X.b (X.w harr) hty X.2.1 Y.1 Y.2.1 Y.2.2 X.2.2 (a0 := (N, .inl (fun _ => 0))) (fun cA => by rw [vp_cell_i, hz]) (nI_pos hN) (nI_clamp hN) hbytes hcells hslots hdg (fun q cA H1 hK hP hD hS => kk q cA H1 ⟨X.1, hK, X.2.2⟩ ⟨hP, hD, hS⟩)
/-- one more of a kind that is known -/
theorem us_new2 (X : us_X p s m args c cc nL own D tys A) (Y : us_Y D A ws s H locs) {atype : ArrayType} (harr : Cond.arrayClass (newarray.typeOf atype) ∈ wB) {ty : FieldType} (hty : newarray.typeOf atype = ty) (t0 : Nat) {cA : ClassId} (ht : tys[t0]? = some (cA, ty)) (hinj : ∀ {a b : ClassId}, va_RA s a ty → va_RA s b ty → a = b) {N : Nat} (hN : N < 2 ^ 31) (hz : defaultValue ty = .int 0) (hbytes : N * componentBytes ty ≤ 536870912) (hcells : cells + 1 ≤ R.cells) (hslots : slots + N ≤ R.slots) (hdg : decode cc pc = .ok (.newarray atype, 2))
    (kk : ∀ (q : Nat) (H1 : Heap), us_Y D A (ws ++ [(q, .inl (cA, N, .inl (fun _ => 0)))]) s H1 locs → W p l e R s m args below meth c H1 locs (cells + 1) (slots + N) Q (F0 m (pc + 2) ls (.ref q :: rest))) : W p l e R s m args below meth c H locs cells slots Q (F0 m pc ls (.int (nI N) :: rest)) :=
  us_new1 X Y harr hty hN hz hbytes hcells hslots hdg (fun q cB H1 X1 Y1 => by
    have e1 : cB = cA := hinj (X1.2.1.2 tys.length (cB, ty) (by rw [List.getElem?_append_right (Nat.le_refl _), Nat.sub_self]; rfl)).2 (X.2.1.2 t0 (cA, ty) ht).2
    subst e1
    exact kk q H1 Y1)
theorem us_newl (X : us_X p s m args c cc nL own D tys A) (Y : us_Y D A ws s H locs) (harr : Cond.arrayClass (newarray.typeOf .long) ∈ wB) {N : Nat} (hN : N < 2 ^ 31) (hbytes : N * componentBytes .long ≤ 536870912) (hcells : cells + 1 ≤ R.cells) (hslots : slots + N ≤ R.slots) (hdg : decode cc pc = .ok (.newarray .long, 2))
    (kk : ∀ (q : Nat) (cA : ClassId) (H1 : Heap), us_X p s m args c cc nL own D (tys ++ [(cA, .long)]) A → us_Y D A (ws ++ [(q, .inl (cA, N, .inr (.inl (fun _ => 0))))]) s H1 locs → W p l e R s m args below meth c H1 locs (cells + 1) (slots + N) Q (F0 m (pc + 2) ls (.ref q :: rest))) : W p l e R s m args below meth c H locs cells slots Q (F0 m pc ls (.int (nI N) :: rest)) :=
  va_newa X.x X.b (X.w harr) rfl X.2.1 Y.1 Y.2.1 Y.2.2 X.2.2 (a0 := (N, .inr (.inl (fun _ => 0)))) (fun cA => rfl) (nI_pos hN) (nI_clamp hN) hbytes hcells hslots hdg (fun q cA H1 hK hP hD hS => kk q cA H1 ⟨X.1, hK, X.2.2⟩ ⟨hP, hD, hS⟩)
theorem us_pUF (X : us_X p s m args c cc nL RU D tys A) (Y : us_Y D A ws s H locs) (hin2 : meth.name = "<init>") {a : Nat} (q0 : Nat) {fs : List Value} (he : ws[q0]? = some (a, .inr (0, fs))) (k : Nat) (hk : k < 9) {idx : Nat} (hl : Cond.fieldLink RU idx (FU k).1 (FU k).2.1 (FU k).2.2.1 ∈ wB) (hfin : (FU k).2.2.2 = true) (hdecl : (FU k).1 = RU) {v : Value} (hn : narrow (tU k) v = v) (hfit : fits (tU k) v = true) (hlen : k < fs.length) (hdg : decode cc pc = .ok (.putfield idx, 3))
    (kk : ∀ (H1 : Heap) (locs1 : List Loc), us_Y D A (ws.set q0 (a, .inr (0, fs.set k v))) s H1 locs1 → W p l e R s m args below meth c H1 locs1 cells slots Q (F0 m (pc + 3) ls rest)) : W p l e R s m args below meth c H locs cells slots Q (F0 m pc ls (v :: .ref a :: rest)) :=
  us_putF (C := RU) (T := FU) (N := 9) uB_U rfl tU_ok nmU X Y q0 he k hk hl hfin hin2 hdecl hn hfit hlen hdg kk
theorem us_pMF (X : us_X p s m args c cc nL RM D tys A) (Y : us_Y D A ws s H locs) (hin2 : meth.name = "<init>") {a : Nat} (q0 : Nat) {fs : List Value} (he : ws[q0]? = some (a, .inr (1, fs))) (k : Nat) (hk : k < 11) {idx : Nat} (hl : Cond.fieldLink RM idx (FM k).1 (FM k).2.1 (FM k).2.2.1 ∈ wB) (hfin : (FM k).2.2.2 = true) (hdecl : (FM k).1 = RM) {v : Value} (hn : narrow (tM k) v = v) (hfit : fits (tM k) v = true) (hlen : k < fs.length) (hdg : decode cc pc = .ok (.putfield idx, 3))
    (kk : ∀ (H1 : Heap) (locs1 : List Loc), us_Y D A (ws.set q0 (a, .inr (1, fs.set k v))) s H1 locs1 → W p l e R s m args below meth c H1 locs1 cells slots Q (F0 m (pc + 3) ls rest)) : W p l e R s m args below meth c H locs cells slots Q (F0 m pc ls (v :: .ref a :: rest)) :=
  us_putF (C := RM) (T := FM) (N := 11) uB_M rfl tM_ok nmM X Y q0 he k hk hl hfin hin2 hdecl hn hfit hlen hdg kk
theorem us_enterN {y : MethodName} {bytes : ByteArray} {maxL : Nat} {ret : Option FieldType} {fr lo mc ms : Nat} {av : List Value} {sz : Nat} {Qc : Array Value → State → Outcome → State → Prop} (ho : y.cls = own) (hy : plainName y.cls = true) (hlen : (lg_sl av).length ≤ maxL)
    (body : ∀ (p : Program) (e : Env) (s : State) (m : MethodId) (below : List Frame) (meth : Method) (c : Code) (ls : Array Slot), us_X p s m av.toArray c bytes maxL own D tys (va_A ws sz) → us_Y D (va_A ws sz) ws s s.heap [] → meth.name = y.name → meth.sig.returnType = ret → meth.locks = false → lv_has ls maxL (lv_args 0 av) →
      W p l e { frames := fr, cells := mc, slots := ms, locals := lo } s m av.toArray below meth c s.heap [] 0 0 (MQ below Qc av.toArray s mc ms (va_A ws sz)) (F0 m 0 ls [])) :
    Met l y (.code y bytes maxL ret :: wB) { frames := fr, cells := mc, slots := ms, locals := lo } (va_Pc av (us_P D tys ws sz)) Qc mc ms (va_A ws sz) := by
  refine Met.ofW (cc := bytes) (maxL := maxL) (ret := ret) hy rfl ?_
  intro p e s m args below meth c s₁ B hml hv
  obtain ⟨rfl, hsz, hP, hK, hD0⟩ := hv
  have hts := atoms_spec (ws := Cond.code y bytes maxL ret :: wB) B.pre
  have hl := lv_entry av (n := maxL) hlen
  have hin : meth.name = y.name := (name_of_methodNamed B.named B.method).1
  rw [lg_entry_eq]
  generalize (lg_sl av ++ List.replicate (maxL - (lg_sl av).length) Slot.unset).toArray = ls at hl ⊢
  exact body p e s m below meth c ls ⟨⟨B.exec, B.bytes, hml, ho ▸ findClass_of_methodNamed B.named, fun w h => hts w (List.mem_cons_of_mem _ h)⟩, hK, fun q h => Or.inr (by omega)⟩ ⟨hP, hD0.self, va_S.rf⟩ hin B.returns B.notSynchronized hl
theorem us_oi (X : us_X p s m args c cc nL own D tys A) {idx : Nat} (hl : Cond.methodLink own idx objectInit ∈ wB) (hi : Cond.instanceMethod objectInit ∈ wB) (hc : Cond.code objectInit ⟨#[0xb1]⟩ 1 none ∈ wB) (hsz : ls.size = nL) {a : Nat} (hdg : decode cc pc = .ok (.invokespecial idx, 3)) (hfr : 1 ≤ R.frames) (hlo : 12 ≤ R.locals)
    (kk : W p l e R s m args below meth c H locs cells slots Q (F0 m (pc + 3) ls [])) : W p l e R s m args below meth c H locs cells slots Q (F0 m pc ls [.ref a]) :=
  W.objInit X.x X.b X.o (X.w hl) (X.w hi) (X.w hc) (g := F0 m pc ls [.ref a]) rfl (hsz.trans X.ml.symm) rfl hdg hfr (by show 2 * 0 + 0 + 12 ≤ _; omega) kk
end USM
/-- eight addresses -/
def us_ad (a b c d e f g h : Nat) : Nat → Nat := fun i => match i with
  | 0 => a
  | 1 => b
  | 2 => c
  | 3 => d
  | 4 => e
  | 5 => f
  | 6 => g
  | _ => h
