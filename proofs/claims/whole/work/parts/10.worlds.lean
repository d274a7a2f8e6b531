/-! 10.worlds: the class's cells and the reference's; ends of walks by short names. -/
abbrev uW (ad : Nat → Nat) (cI : ClassId) (C : Nat → Int32) (n : Nat) (PN CA : Nat → Int32) (np : Nat) (CK CR CB : Nat → Int32) (k : Nat) : va_W := [(ad 0, .inr (0, [.ref (ad 1), .int (nI n), .ref (ad 2), .ref (ad 3), .int (nI np), .ref (ad 4), .ref (ad 5), .ref (ad 6), .int (nI k)])), (ad 1, .inl (cI, 480, .inl C)), (ad 2, .inl (cI, 20, .inl PN)), (ad 3, .inl (cI, 20, .inl CA)), (ad 4, .inl (cI, 200, .inl CK)), (ad 5, .inl (cI, 200, .inl CR)), (ad 6, .inl (cI, 800, .inl CB))]
abbrev mW (ad : Nat → Nat) (cI cZ : ClassId) (th : Int32) (n np k : Nat) (V KV I KI PN KR KC : Nat → Int32) : va_W := [(ad 0, .inr (1, [.int th, .int (nI n), .int (nI np), .int (nI k), .ref (ad 1), .ref (ad 2), .ref (ad 3), .ref (ad 4), .ref (ad 5), .ref (ad 6), .ref (ad 7)])), (ad 1, .inl (cI, 363, .inl V)), (ad 2, .inl (cI, 7200, .inl KV)), (ad 3, .inl (cZ, 363, .inl I)), (ad 4, .inl (cZ, 7200, .inl KI)), (ad 5, .inl (cI, 20, .inl PN)), (ad 6, .inl (cI, 20, .inl KR)), (ad 7, .inl (cI, 20, .inl KC))]
abbrev tyU (cI : ClassId) : List (ClassId × FieldType) := [(cI, .int)]
abbrev tyM (cI cZ : ClassId) : List (ClassId × FieldType) := [(cI, .int), (cZ, .boolean)]
abbrev po_b (P : Prop) : Int32 → Unit → Prop := fun r _ => (r = nI 1 ∧ P) ∨ (r = nI 0 ∧ ¬ P)
abbrev us_Qi {S : Type} (below : List Frame) (post : Int32 → S → Prop) (D : va_G) (tys : List (ClassId × FieldType)) (A : Nat → Prop) (wf : S → va_W) (av : List Value) (s : State) : State → Prop := MQ below (va_Qi post (fun u t => us_Z D tys A (wf u) t) A) av.toArray s 0 0 A
abbrev us_Qv {S : Type} (below : List Frame) (post : S → Prop) (D : va_G) (tys : List (ClassId × FieldType)) (A : Nat → Prop) (wf : S → va_W) (av : List Value) (s : State) : State → Prop := MQ below (va_Qv post (fun u t => us_Z D tys A (wf u) t) A) av.toArray s 0 0 A
theorem us_I7 {ad : Nat → Nat} {cI : ClassId} {C PN CA CK CR CB : Nat → Int32} {n np k : Nat} : us_I (uW ad cI C n PN CA np CK CR CB k) (uW ad cI C n PN CA np CK CR CB k) [] (tyU cI) (tyU cI) [0, 1, 2, 3, 4, 5, 6] [] [0] := ⟨rfl, rfl, rfl, rfl, fun _ h => (by cases h), rfl⟩
theorem us_I8 {ad : Nat → Nat} {cI cZ : ClassId} {th : Int32} {n np k : Nat} {V KV I KI PN KR KC : Nat → Int32} : us_I (mW ad cI cZ th n np k V KV I KI PN KR KC) (mW ad cI cZ th n np k V KV I KI PN KR KC) [] (tyM cI cZ) (tyM cI cZ) [0, 1, 2, 3, 4, 5, 6, 7] [] [0, 1] := ⟨rfl, rfl, rfl, rfl, fun _ h => (by cases h), rfl⟩
theorem us_I0 {ad : Nat → Nat} {cI : ClassId} {C PN CA CK CR CB : Nat → Int32} {n np k : Nat} : us_I (uW ad cI C n PN CA np CK CR CB k) [] (uW ad cI C n PN CA np CK CR CB k) (tyU cI) [] [] [0, 1, 2, 3, 4, 5, 6] [] := ⟨rfl, rfl, rfl, rfl, fun _ _ h => (by cases h), rfl⟩
theorem us_dec (x : Int32) : x + Int32.ofInt (-1) = x - 1 := by rw [Int32.sub_eq_add_neg]; rfl
theorem us_inc (a : Nat) : nI a + Int32.ofInt 1 = nI (a + 1) := nI_1 a
theorem us_inc5 (a : Nat) : nI a + Int32.ofInt 5 = nI (a + 5) := nI_add a 5
theorem us_lt3 {x : Int32} {N : Nat} (h1 : ¬ x < 0) (h2 : ¬ nI N ≤ x) : ∃ c, c < N ∧ x = nI c := by
  obtain ⟨j, hj, e⟩ := nI_of h1
  subst e
  exact ⟨j, Nat.not_le.mp (fun z => h2 (nI_le z hj)), rfl⟩
theorem us_le2 {x : Int32} {N : Nat} (hN : N < 2 ^ 31) (h1 : ¬ x < 0) (h2 : x ≤ nI N) : ∃ c, c < N + 1 ∧ x = nI c := by
  obtain ⟨j, hj, e⟩ := nI_of h1
  subst e
  exact ⟨j, Nat.lt_succ_of_le ((nI_leI hj hN).mp h2), rfl⟩
theorem us_nlt {n : Nat} {x : Int32} (h : x < 0) : ¬ ∃ i, i < n ∧ n < 2 ^ 31 ∧ x = nI i := fun ⟨i, hi, hn, e⟩ => nI_pos (n := i) (by omega) (e ▸ h)
theorem us_plt {d : Nat} (h : d < 2 ^ 31) : nI d - 1 < nI d := by
  cases d with
  | zero => decide
  | succ d => rw [nI_pred]; exact nI_lt (by omega) h
theorem us_neg {x : Int32} (h : ¬ 0 ≤ x) : x < 0 := Int32.not_le.mp h
theorem us_nneg {x : Int32} (h : 0 ≤ x) : ¬ x < 0 := Int32.not_lt.mpr h
section USB
variable {p : Program} {l : Launch} {e : Env} {R : Room} {s : State} {m : MethodId} {args : Array Value} {below : List Frame} {meth : Method} {c : Code} {H : Heap} {locs : List Loc} {cells slots : Nat} {Q : State → Prop}
variable {cc : ByteArray} {nL pc : Nat} {ls : Array Slot} {rest : List Value} {D : va_G} {A : Nat → Prop} {tys : List (ClassId × FieldType)} {ws : va_W} {own : String}
/-- x ? 1 : 0, as javac lays it -/
theorem us_beq (X : us_X p s m args c cc nL own D tys A) {x : Int32} {o1 o2 : Int} {t : Nat} (d0 : decode cc pc = .ok (.ifCond .eq o1, 3)) (h0 : (pc : Int) + o1 = (t : Int)) (d1 : decode cc (pc + 3) = .ok (.iconst 1, 1)) (d2 : decode cc (pc + 3 + 1) = .ok (.goto o2, 3)) (h2 : ((pc + 3 + 1 : Nat) : Int) + o2 = ((t + 1 : Nat) : Int)) (d3 : decode cc t = .ok (.iconst 0, 1))
    (kk : ∀ y : Int32, (y = nI 1 ∧ ¬ x = 0) ∨ (y = nI 0 ∧ x = 0) → W p l e R s m args below meth c H locs cells slots Q (F0 m (t + 1) ls (.int y :: rest))) : W p l e R s m args below meth c H locs cells slots Q (F0 m pc ls (.int x :: rest)) :=
  lv_if_eq X.x X.b d0 h0 (fun h => lv_iconst (v := nI 0) X.x X.b d3 (by decide) (kk _ (Or.inr ⟨rfl, h⟩))) (fun h => lv_iconst (v := nI 1) X.x X.b d1 (by decide) (lv_goto X.x X.b d2 h2 (kk _ (Or.inl ⟨rfl, h⟩))))
theorem us_bne (X : us_X p s m args c cc nL own D tys A) {x : Int32} {o1 o2 : Int} {t : Nat} (d0 : decode cc pc = .ok (.ifCond .ne o1, 3)) (h0 : (pc : Int) + o1 = (t : Int)) (d1 : decode cc (pc + 3) = .ok (.iconst 1, 1)) (d2 : decode cc (pc + 3 + 1) = .ok (.goto o2, 3)) (h2 : ((pc + 3 + 1 : Nat) : Int) + o2 = ((t + 1 : Nat) : Int)) (d3 : decode cc t = .ok (.iconst 0, 1))
    (kk : ∀ y : Int32, (y = nI 1 ∧ x = 0) ∨ (y = nI 0 ∧ ¬ x = 0) → W p l e R s m args below meth c H locs cells slots Q (F0 m (t + 1) ls (.int y :: rest))) : W p l e R s m args below meth c H locs cells slots Q (F0 m pc ls (.int x :: rest)) :=
  lv_if_ne X.x X.b d0 h0 (fun h => lv_iconst (v := nI 0) X.x X.b d3 (by decide) (kk _ (Or.inr ⟨rfl, h⟩))) (fun h => lv_iconst (v := nI 1) X.x X.b d1 (by decide) (lv_goto X.x X.b d2 h2 (kk _ (Or.inl ⟨rfl, h⟩))))
end USB
