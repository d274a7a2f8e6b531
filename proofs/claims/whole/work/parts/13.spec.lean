/-! 13.spec: what each call answers and does to the state, in words: a row for each call; each is a function of its start (.one). code: 0 an answer, else which refusal. -/
def us_k1 (np k : Nat) : Nat := if np = 0 then k else k + 1
def us_ku (np k : Nat) (f : Nat → Int32) (v : Int32) : Nat → Int32 := if np = 0 then f else upd f k v
def us_kc (np k : Nat) (C B : Nat → Int32) (r : Nat) : Nat → Int32 := if np = 0 then B else va_cpy C B (r * 4) (k * 4) 4
theorem us_k1_n {np k : Nat} (h : ¬ np = 0) : us_k1 np k = k + 1 := if_neg h
theorem us_k1_z {np k : Nat} (h : np = 0) : us_k1 np k = k := if_pos h
theorem us_ku_n {np k : Nat} {f : Nat → Int32} {v : Int32} (h : ¬ np = 0) : us_ku np k f v = upd f k v := if_neg h
theorem us_ku_z {np k : Nat} {f : Nat → Int32} {v : Int32} (h : np = 0) : us_ku np k f v = f := if_pos h
theorem us_kc_n {np k : Nat} {C B : Nat → Int32} {r : Nat} (h : ¬ np = 0) : us_kc np k C B r = va_cpy C B (r * 4) (k * 4) 4 := if_neg h
theorem us_kc_z {np k : Nat} {C B : Nat → Int32} {r : Nat} (h : np = 0) : us_kc np k C B r = B := if_pos h
def us_ful (np k m : Nat) : Prop := 0 < np ∧ 200 < k + m
theorem us_ful.no {np k m : Nat} (h : ¬ us_ful np k m) : np = 0 ∨ k + m ≤ 200 := by
  unfold us_ful at h
  omega
theorem us_ful.of {np k m : Nat} (h : ¬ (np = 0 ∨ k + m ≤ 200)) : us_ful np k m := by
  unfold us_ful
  omega
theorem us_ful.out {np k m : Nat} (h : np = 0 ∨ k + m ≤ 200) : ¬ us_ful np k m := by
  unfold us_ful
  omega
theorem us_k1_le {np k : Nat} (hk : k ≤ 200) (h : ¬ us_ful np k 1) : us_k1 np k ≤ 200 := by
  have := us_ful.no h
  unfold us_k1
  split <;> omega
def us_col (x : Int32) : Prop := ∃ c, c < 3 ∧ x = nI c
def us_isr (n : Nat) (x : Int32) : Prop := ∃ i, i < n ∧ x = nI i
def us_ok (has : Int32) : Prop := ∃ j, j < 8 ∧ has = nI j
theorem us_nI {a b : Nat} (ha : a < 2 ^ 31) (hb : b < 2 ^ 31) (h : nI a = nI b) : a = b := (nI_eq ha hb).mp h
/-! insert -/
def us_icf (n : Nat) (T : us_T) (k np : Nat) (a b has : Int32) : Prop := n = 120 ∨ us_ful np k 1 ∨ has &&& 1 = 0 ∨ (∃ i, i < n ∧ T i 0 = some a) ∨ (¬ has &&& 2 = 0 ∧ ∃ i, i < n ∧ T i 1 = some b)
def us_iR (n : Nat) (T : us_T) (k np : Nat) (a b c has : Int32) (code : Nat) (ans : Int32) (n' : Nat) (T' : us_T) (k' : Nat) : Prop :=
  (code = 1 ∧ ¬ us_ok has ∧ n' = n ∧ T' = T ∧ k' = k) ∨ (code = 2 ∧ us_ok has ∧ us_icf n T k np a b has ∧ n' = n ∧ T' = T ∧ k' = k) ∨
  (code = 0 ∧ us_ok has ∧ ¬ us_icf n T k np a b has ∧ ans = nI n ∧ n' = n + 1 ∧ T' = us_set T n (us_row a b c has) ∧ k' = us_k1 np k)
theorem us_iR.one {n : Nat} {T : us_T} {k np : Nat} {a b c has : Int32} {c1 c2 : Nat} {a1 a2 : Int32} {n1 n2 : Nat} {T1 T2 : us_T} {k1 k2 : Nat} (h : us_iR n T k np a b c has c1 a1 n1 T1 k1) (g : us_iR n T k np a b c has c2 a2 n2 T2 k2) : c1 = c2 ∧ (c1 = 0 → a1 = a2) ∧ n1 = n2 ∧ T1 = T2 ∧ k1 = k2 := by
  rcases h with ⟨e1, h1, e2, e3, e4⟩ | ⟨e1, h1, h2, e2, e3, e4⟩ | ⟨e1, h1, h2, h3, e2, e3, e4⟩ <;> rcases g with ⟨f1, g1, f2, f3, f4⟩ | ⟨f1, g1, g2, f2, f3, f4⟩ | ⟨f1, g1, g2, g3, f2, f3, f4⟩
  · exact ⟨e1.trans f1.symm, fun z => absurd (e1.symm.trans z) (by decide), e2.trans f2.symm, e3.trans f3.symm, e4.trans f4.symm⟩
  · exact absurd g1 h1
  · exact absurd g1 h1
  · exact absurd h1 g1
  · exact ⟨e1.trans f1.symm, fun z => absurd (e1.symm.trans z) (by decide), e2.trans f2.symm, e3.trans f3.symm, e4.trans f4.symm⟩
  · exact absurd h2 g2
  · exact absurd h1 g1
  · exact absurd g2 h2
  · exact ⟨e1.trans f1.symm, fun _ => h3.trans g3.symm, e2.trans f2.symm, e3.trans f3.symm, e4.trans f4.symm⟩
/-! set -/
def us_oth (T : us_T) (n c : Nat) (v : Int32) (i : Nat) : Prop := ∃ j, j < n ∧ j ≠ i ∧ T j c = some v ∧ ∀ q, q < j → T q c ≠ some v
def us_sc0 (T : us_T) (n i c : Nat) (v z : Int32) : Prop := (¬ z = 0 ∧ c = 0) ∨ (z = 0 ∧ c < 2 ∧ us_oth T n c v i)
def us_st (T : us_T) (i c : Nat) (v z : Int32) : us_T := us_set T i (fun d => if d = c then (if z = 0 then some v else none) else T i d)
def us_sR (n : Nat) (T : us_T) (k np : Nat) (r co v z : Int32) (code : Nat) (T' : us_T) (k' : Nat) : Prop :=
  (code = 1 ∧ ¬ us_col co ∧ T' = T ∧ k' = k) ∨ (code = 3 ∧ us_col co ∧ ¬ us_isr n r ∧ T' = T ∧ k' = k) ∨
  ∃ i c, i < n ∧ r = nI i ∧ c < 3 ∧ co = nI c ∧ ((code = 2 ∧ (us_ful np k 1 ∨ us_sc0 T n i c v z) ∧ T' = T ∧ k' = k) ∨ (code = 0 ∧ ¬ (us_ful np k 1 ∨ us_sc0 T n i c v z) ∧ T' = us_st T i c v z ∧ k' = us_k1 np k))
theorem us_sR.one {n : Nat} {T : us_T} {k np : Nat} {r co v z : Int32} {c1 c2 : Nat} {T1 T2 : us_T} {k1 k2 : Nat} (hn : n ≤ 120) (h : us_sR n T k np r co v z c1 T1 k1) (g : us_sR n T k np r co v z c2 T2 k2) : c1 = c2 ∧ T1 = T2 ∧ k1 = k2 := by
  rcases h with ⟨e1, h1, e3, e4⟩ | ⟨e1, h1, h2, e3, e4⟩ | ⟨i, c, hi, hr, hc, hco, h⟩ <;> rcases g with ⟨f1, g1, f3, f4⟩ | ⟨f1, g1, g2, f3, f4⟩ | ⟨j, d, gi, gr, gc, gco, g⟩
  · exact ⟨e1.trans f1.symm, e3.trans f3.symm, e4.trans f4.symm⟩
  · exact absurd g1 h1
  · exact absurd ⟨d, gc, gco⟩ h1
  · exact absurd h1 g1
  · exact ⟨e1.trans f1.symm, e3.trans f3.symm, e4.trans f4.symm⟩
  · exact absurd ⟨j, gi, gr⟩ h2
  · exact absurd ⟨c, hc, hco⟩ g1
  · exact absurd ⟨i, hi, hr⟩ g2
  · have e1 : i = j := us_nI (by omega) (by omega) (hr.symm.trans gr)
    have e2 : c = d := us_nI (by omega) (by omega) (hco.symm.trans gco)
    subst e1 e2
    rcases h with ⟨e1, h1, e3, e4⟩ | ⟨e1, h1, e3, e4⟩ <;> rcases g with ⟨f1, g1, f3, f4⟩ | ⟨f1, g1, f3, f4⟩
    · exact ⟨e1.trans f1.symm, e3.trans f3.symm, e4.trans f4.symm⟩
    · exact absurd h1 g1
    · exact absurd g1 h1
    · exact ⟨e1.trans f1.symm, e3.trans f3.symm, e4.trans f4.symm⟩
/-! remove -/
def us_rR (n : Nat) (T : us_T) (k np : Nat) (r : Int32) (code : Nat) (n' : Nat) (T' : us_T) (k' : Nat) : Prop :=
  (code = 2 ∧ ¬ us_isr n r ∧ n' = n ∧ T' = T ∧ k' = k) ∨
  ∃ i, i < n ∧ r = nI i ∧ ((code = 1 ∧ us_ful np k 1 ∧ n' = n ∧ T' = T ∧ k' = k) ∨ (code = 0 ∧ ¬ us_ful np k 1 ∧ n' = n - 1 ∧ T' = us_del T i ∧ k' = us_k1 np k))
theorem us_rR.one {n : Nat} {T : us_T} {k np : Nat} {r : Int32} {c1 c2 : Nat} {n1 n2 : Nat} {T1 T2 : us_T} {k1 k2 : Nat} (hn : n ≤ 120) (h : us_rR n T k np r c1 n1 T1 k1) (g : us_rR n T k np r c2 n2 T2 k2) : c1 = c2 ∧ n1 = n2 ∧ T1 = T2 ∧ k1 = k2 := by
  rcases h with ⟨e1, h1, e2, e3, e4⟩ | ⟨i, hi, hr, h⟩ <;> rcases g with ⟨f1, g1, f2, f3, f4⟩ | ⟨j, gi, gr, g⟩
  · exact ⟨e1.trans f1.symm, e2.trans f2.symm, e3.trans f3.symm, e4.trans f4.symm⟩
  · exact absurd ⟨j, gi, gr⟩ h1
  · exact absurd ⟨i, hi, hr⟩ g1
  · have e1 : i = j := us_nI (by omega) (by omega) (hr.symm.trans gr)
    subst e1
    rcases h with ⟨e1, h1, e2, e3, e4⟩ | ⟨e1, h1, e2, e3, e4⟩ <;> rcases g with ⟨f1, g1, f2, f3, f4⟩ | ⟨f1, g1, f2, f3, f4⟩
    · exact ⟨e1.trans f1.symm, e2.trans f2.symm, e3.trans f3.symm, e4.trans f4.symm⟩
    · exact absurd h1 g1
    · exact absurd g1 h1
    · exact ⟨e1.trans f1.symm, e2.trans f2.symm, e3.trans f3.symm, e4.trans f4.symm⟩
/-! removeAll -/
def us_aR (n : Nat) (T : us_T) (k np : Nat) (co v : Int32) (code : Nat) (ans : Int32) (n' : Nat) (T' : us_T) (k' : Nat) : Prop :=
  (code = 1 ∧ ¬ us_col co ∧ n' = n ∧ T' = T ∧ k' = k) ∨
  ∃ c, c < 3 ∧ co = nI c ∧ ((code = 2 ∧ us_ful np k (us_ct T c v n) ∧ n' = n ∧ T' = T ∧ k' = k) ∨ (code = 0 ∧ ¬ us_ful np k (us_ct T c v n) ∧ ans = nI (us_ct T c v n) ∧ (n', T', k') = us_ra c v np n (n, T, k)))
theorem us_aR.one {n : Nat} {T : us_T} {k np : Nat} {co v : Int32} {c1 c2 : Nat} {a1 a2 : Int32} {n1 n2 : Nat} {T1 T2 : us_T} {k1 k2 : Nat} (h : us_aR n T k np co v c1 a1 n1 T1 k1) (g : us_aR n T k np co v c2 a2 n2 T2 k2) : c1 = c2 ∧ (c1 = 0 → a1 = a2) ∧ n1 = n2 ∧ T1 = T2 ∧ k1 = k2 := by
  rcases h with ⟨e1, h1, e2, e3, e4⟩ | ⟨i, hi, hr, h⟩ <;> rcases g with ⟨f1, g1, f2, f3, f4⟩ | ⟨j, gi, gr, g⟩
  · exact ⟨e1.trans f1.symm, fun z => absurd (e1.symm.trans z) (by decide), e2.trans f2.symm, e3.trans f3.symm, e4.trans f4.symm⟩
  · exact absurd ⟨j, gi, gr⟩ h1
  · exact absurd ⟨i, hi, hr⟩ g1
  · have e1 : i = j := us_nI (by omega) (by omega) (hr.symm.trans gr)
    subst e1
    rcases h with ⟨e1, h1, e2, e3, e4⟩ | ⟨e1, h1, e2, e3⟩ <;> rcases g with ⟨f1, g1, f2, f3, f4⟩ | ⟨f1, g1, f2, f3⟩
    · exact ⟨e1.trans f1.symm, fun z => absurd (e1.symm.trans z) (by decide), e2.trans f2.symm, e3.trans f3.symm, e4.trans f4.symm⟩
    · exact absurd h1 g1
    · exact absurd g1 h1
    · have e := e3.trans f3.symm
      exact ⟨e1.trans f1.symm, fun _ => e2.trans f2.symm, congrArg (fun q => q.1) e, congrArg (fun q => q.2.1) e, congrArg (fun q => q.2.2) e⟩
/-! find, value -/
def us_fR (n : Nat) (T : us_T) (co v : Int32) (code : Nat) (ans : Int32) : Prop :=
  (code = 1 ∧ ¬ ∃ c, c < 2 ∧ co = nI c) ∨ ∃ c, c < 2 ∧ co = nI c ∧ code = 0 ∧ us_fd T c v n ans
theorem us_fR.one {n : Nat} {T : us_T} {co v : Int32} {c1 c2 : Nat} {a1 a2 : Int32} (h : us_fR n T co v c1 a1) (g : us_fR n T co v c2 a2) : c1 = c2 ∧ (c1 = 0 → a1 = a2) := by
  rcases h with ⟨e1, h1⟩ | ⟨i, hi, hr, e1, h1⟩ <;> rcases g with ⟨f1, g1⟩ | ⟨j, gi, gr, f1, g1⟩
  · exact ⟨e1.trans f1.symm, fun z => absurd (e1.symm.trans z) (by decide)⟩
  · exact absurd ⟨j, gi, gr⟩ h1
  · exact absurd ⟨i, hi, hr⟩ g1
  · have e : i = j := us_nI (by omega) (by omega) (hr.symm.trans gr)
    subst e
    exact ⟨e1.trans f1.symm, fun _ => h1.one g1⟩
def us_vR (n : Nat) (T : us_T) (r co : Int32) (code : Nat) (ans : Int32) : Prop :=
  (code = 1 ∧ ¬ us_col co) ∨ ∃ c, c < 3 ∧ co = nI c ∧ ((code = 2 ∧ ¬ ∃ i, i < n ∧ r = nI i ∧ T i c ≠ none) ∨ ∃ i, i < n ∧ r = nI i ∧ T i c = some ans ∧ code = 0)
theorem us_vR.one {n : Nat} {T : us_T} {r co : Int32} {c1 c2 : Nat} {a1 a2 : Int32} (hn : n ≤ 120) (h : us_vR n T r co c1 a1) (g : us_vR n T r co c2 a2) : c1 = c2 ∧ (c1 = 0 → a1 = a2) := by
  rcases h with ⟨e1, h1⟩ | ⟨i, hi, hr, h⟩ <;> rcases g with ⟨f1, g1⟩ | ⟨j, gi, gr, g⟩
  · exact ⟨e1.trans f1.symm, fun z => absurd (e1.symm.trans z) (by decide)⟩
  · exact absurd ⟨j, gi, gr⟩ h1
  · exact absurd ⟨i, hi, hr⟩ g1
  · have e : i = j := us_nI (by omega) (by omega) (hr.symm.trans gr)
    subst e
    rcases h with ⟨e1, h1⟩ | ⟨x, h1, h2, h3, e1⟩ <;> rcases g with ⟨f1, g1⟩ | ⟨y, g1, g2, g3, f1⟩
    · exact ⟨e1.trans f1.symm, fun z => absurd (e1.symm.trans z) (by decide)⟩
    · exact absurd ⟨y, g1, g2, by rw [g3]; exact fun z => nomatch z⟩ h1
    · exact absurd ⟨x, h1, h2, by rw [h3]; exact fun z => nomatch z⟩ g1
    · have e : x = y := us_nI (by omega) (by omega) (h2.symm.trans g2)
      subst e
      exact ⟨e1.trans f1.symm, fun _ => Option.some.inj (h3.symm.trans g3)⟩
/-! mark, back, release -/
def us_mR (n : Nat) (T : us_T) (k np : Nat) (nm : Nat → Int32) (sn : Nat → Nat) (sT : Nat → us_T) (sk : Nat → Nat) (x : Int32) (code : Nat) (np' : Nat) (nm' : Nat → Int32) (sn' : Nat → Nat) (sT' : Nat → us_T) (sk' : Nat → Nat) : Prop :=
  (code = 1 ∧ np = 20 ∧ np' = np ∧ nm' = nm ∧ sn' = sn ∧ sT' = sT ∧ sk' = sk) ∨
  (code = 0 ∧ np ≠ 20 ∧ np' = np + 1 ∧ nm' = va_up nm np x ∧ sn' = va_up sn np n ∧ sT' = va_up sT np T ∧ sk' = va_up sk np k)
theorem us_mR.one {n : Nat} {T : us_T} {k np : Nat} {nm : Nat → Int32} {sn : Nat → Nat} {sT : Nat → us_T} {sk : Nat → Nat} {x : Int32} {c1 c2 p1 p2 : Nat} {m1 m2 : Nat → Int32} {s1 s2 : Nat → Nat} {t1 t2 : Nat → us_T} {k1 k2 : Nat → Nat} (h : us_mR n T k np nm sn sT sk x c1 p1 m1 s1 t1 k1) (g : us_mR n T k np nm sn sT sk x c2 p2 m2 s2 t2 k2) : c1 = c2 ∧ p1 = p2 ∧ m1 = m2 ∧ s1 = s2 ∧ t1 = t2 ∧ k1 = k2 := by
  rcases h with ⟨e1, h1, e2, e3, e4, e5, e6⟩ | ⟨e1, h1, e2, e3, e4, e5, e6⟩ <;> rcases g with ⟨f1, g1, f2, f3, f4, f5, f6⟩ | ⟨f1, g1, f2, f3, f4, f5, f6⟩
  · exact ⟨e1.trans f1.symm, e2.trans f2.symm, e3.trans f3.symm, e4.trans f4.symm, e5.trans f5.symm, e6.trans f6.symm⟩
  · exact absurd h1 g1
  · exact absurd g1 h1
  · exact ⟨e1.trans f1.symm, e2.trans f2.symm, e3.trans f3.symm, e4.trans f4.symm, e5.trans f5.symm, e6.trans f6.symm⟩
/-- the latest point of a name -/
def us_lp (np : Nat) (nm : Nat → Int32) (x : Int32) (p : Nat) : Prop := p < np ∧ nm p = x ∧ ∀ q, p < q → q < np → nm q ≠ x
theorem us_lp.one {np : Nat} {nm : Nat → Int32} {x : Int32} {p q : Nat} (h : us_lp np nm x p) (g : us_lp np nm x q) : p = q := by
  rcases Nat.lt_trichotomy p q with e | e | e
  · exact absurd g.2.1 (h.2.2 q e g.1)
  · exact e
  · exact absurd h.2.1 (g.2.2 p e h.1)
def us_bR (n : Nat) (T : us_T) (k np : Nat) (nm : Nat → Int32) (sn : Nat → Nat) (sT : Nat → us_T) (sk : Nat → Nat) (x : Int32) (code : Nat) (n' : Nat) (T' : us_T) (k' np' : Nat) : Prop :=
  (code = 1 ∧ (∀ q, q < np → nm q ≠ x) ∧ n' = n ∧ T' = T ∧ k' = k ∧ np' = np) ∨ ∃ p, us_lp np nm x p ∧ code = 0 ∧ n' = sn p ∧ T' = sT p ∧ k' = sk p ∧ np' = p + 1
theorem us_bR.one {n : Nat} {T : us_T} {k np : Nat} {nm : Nat → Int32} {sn : Nat → Nat} {sT : Nat → us_T} {sk : Nat → Nat} {x : Int32} {c1 c2 n1 n2 : Nat} {T1 T2 : us_T} {k1 k2 p1 p2 : Nat} (h : us_bR n T k np nm sn sT sk x c1 n1 T1 k1 p1) (g : us_bR n T k np nm sn sT sk x c2 n2 T2 k2 p2) : c1 = c2 ∧ n1 = n2 ∧ T1 = T2 ∧ k1 = k2 ∧ p1 = p2 := by
  rcases h with ⟨e1, h1, e2, e3, e4, e5⟩ | ⟨p, h1, e1, e2, e3, e4, e5⟩ <;> rcases g with ⟨f1, g1, f2, f3, f4, f5⟩ | ⟨q, g1, f1, f2, f3, f4, f5⟩
  · exact ⟨e1.trans f1.symm, e2.trans f2.symm, e3.trans f3.symm, e4.trans f4.symm, e5.trans f5.symm⟩
  · exact absurd g1.2.1 (h1 q g1.1)
  · exact absurd h1.2.1 (g1 p h1.1)
  · have e := h1.one g1
    subst e
    exact ⟨e1.trans f1.symm, e2.trans f2.symm, e3.trans f3.symm, e4.trans f4.symm, e5.trans f5.symm⟩
def us_lR (k np : Nat) (nm : Nat → Int32) (x : Int32) (code : Nat) (k' np' : Nat) : Prop :=
  (code = 1 ∧ (∀ q, q < np → nm q ≠ x) ∧ k' = k ∧ np' = np) ∨ ∃ p, us_lp np nm x p ∧ code = 0 ∧ k' = (if p = 0 then 0 else k) ∧ np' = p
theorem us_lR.one {k np : Nat} {nm : Nat → Int32} {x : Int32} {c1 c2 k1 k2 p1 p2 : Nat} (h : us_lR k np nm x c1 k1 p1) (g : us_lR k np nm x c2 k2 p2) : c1 = c2 ∧ k1 = k2 ∧ p1 = p2 := by
  rcases h with ⟨e1, h1, e4, e5⟩ | ⟨p, h1, e1, e4, e5⟩ <;> rcases g with ⟨f1, g1, f4, f5⟩ | ⟨q, g1, f1, f4, f5⟩
  · exact ⟨e1.trans f1.symm, e4.trans f4.symm, e5.trans f5.symm⟩
  · exact absurd g1.2.1 (h1 q g1.1)
  · exact absurd h1.2.1 (g1 p h1.1)
  · have e := h1.one g1
    subst e
    exact ⟨e1.trans f1.symm, e4.trans f4.symm, e5.trans f5.symm⟩
/-! count -/
def us_cnt (n : Nat) (T : us_T) (k np : Nat) (x : Int32) : Int32 := if x = nI 0 then nI n else if x = nI 1 then nI np else if x = nI 2 then nI k else if x = nI 3 then nI (us_cn T 1 n) else if x = nI 4 then nI (us_cn T 2 n) else -1
/-! ### more on tables -/
theorem us_all_eq {T T' : us_T} {c : Nat} {v : Int32} {n : Nat} (hc : c < 3) (h : us_eq n T T') (f : ∀ i, i < n → T i c ≠ some v) : ∀ i, i < n → T' i c ≠ some v := fun i hi => by rw [← h i c hi hc]; exact f i hi
theorem us_ex_no {T : us_T} {c : Nat} {v : Int32} {n : Nat} (f : ∀ i, i < n → T i c ≠ some v) : ¬ ∃ i, i < n ∧ T i c = some v := fun ⟨i, hi, e⟩ => f i hi e
theorem us_ex_of {T : us_T} {c : Nat} {v : Int32} {n : Nat} (f : ¬ ∀ i, i < n → T i c ≠ some v) : ∃ i, i < n ∧ T i c = some v := Classical.byContradiction fun z => f fun i hi e => z ⟨i, hi, e⟩
theorem us_ct_1 {T : us_T} {c : Nat} {v : Int32} {n : Nat} (h : T n c = some v) : us_ct T c v (n + 1) = us_ct T c v n + 1 := by
  show us_ct T c v n + _ = _
  rw [if_pos h]
theorem us_ct_0 {T : us_T} {c : Nat} {v : Int32} {n : Nat} (h : ¬ T n c = some v) : us_ct T c v (n + 1) = us_ct T c v n := by
  show us_ct T c v n + _ = _
  rw [if_neg h]
  rfl
theorem us_cn_1 {T : us_T} {c n : Nat} (h : T n c = none) : us_cn T c (n + 1) = us_cn T c n + 1 := by
  show us_cn T c n + _ = _
  rw [if_pos h]
theorem us_cn_0 {T : us_T} {c n : Nat} (h : ¬ T n c = none) : us_cn T c (n + 1) = us_cn T c n := by
  show us_cn T c n + _ = _
  rw [if_neg h]
  rfl
theorem us_fd.oth {T : us_T} {c : Nat} {v : Int32} {n i : Nat} {a : Int32} (hn : n < 2 ^ 31) (hi : i < n) (f : us_fd T c v n a) : us_oth T n c v i ↔ ¬ (a < 0 ∨ a = nI i) := by
  rcases f with ⟨r, h1, h2, h3, h4⟩ | ⟨h1, h2⟩
  · refine ⟨fun ⟨j, g1, g2, g3, g4⟩ z => ?_, fun z => ⟨r, h1, fun e => z (Or.inr (by rw [h2, e])), h3, h4⟩⟩
    have e : j = r := by
      rcases Nat.lt_trichotomy j r with e | e | e
      · exact absurd g3 (h4 j e)
      · exact e
      · exact absurd h3 (g4 r e)
    rcases z with z | z
    · exact absurd z (by rw [h2]; exact nI_pos (by omega))
    · exact g2 (e.trans (us_nI (by omega) (by omega) (h2.symm.trans z)))
  · exact ⟨fun ⟨j, g1, g2, g3, g4⟩ => absurd g3 (h2 j g1), fun z => absurd (Or.inl (by rw [h1]; decide)) z⟩
theorem us_oth.eq {T T' : us_T} {c : Nat} {v : Int32} {n i : Nat} (hc : c < 3) (h : us_eq n T T') (f : us_oth T n c v i) : us_oth T' n c v i := by
  obtain ⟨j, h1, h2, h3, h4⟩ := f
  exact ⟨j, h1, h2, by rw [← h j c h1 hc]; exact h3, fun q hq => by rw [← h q c (by omega) hc]; exact h4 q hq⟩
theorem us_sc0.eq {T T' : us_T} {n i c : Nat} {v z : Int32} (hc : c < 3) (h : us_eq n T T') (f : us_sc0 T n i c v z) : us_sc0 T' n i c v z := by
  rcases f with f | ⟨f1, f2, f3⟩
  · exact Or.inl f
  · exact Or.inr ⟨f1, f2, f3.eq hc h⟩
theorem us_ins_del {T : us_T} {w : Nat → Option Int32} {n r : Nat} (hw : ∀ c, c < 3 → w c = T r c) : us_eq n (us_ins (us_del T r) r w) T := by
  intro i c hi hc
  unfold us_ins us_del
  by_cases h : i < r
  · rw [if_pos h, if_pos h]
  · rw [if_neg h]
    by_cases h2 : i = r
    · rw [if_pos h2, h2, hw c hc]
    · rw [if_neg h2, if_neg (by omega), show i - 1 + 1 = i by omega]
theorem us_set_lo {T : us_T} {w : Nat → Option Int32} {n : Nat} : us_eq n (us_set T n w) T := fun i c hi _ => if_neg (by omega)
/-- the class's stores: a row at the end -/
theorem us_put4 {C : Nat → Int32} {n : Nat} {a b c has : Int32} : us_eq (n + 1) (us_tu (upd (upd (upd (upd C (n * 4) a) (n * 4 + 1) b) (n * 4 + 2) c) (n * 4 + 3) has)) (us_set (us_tu C) n (us_row a b c has)) := by
  intro i d hi hd
  unfold us_set
  by_cases h : i = n
  · rw [if_pos h]
    subst h
    unfold us_tu us_row
    rw [pk_us]
    rcases (show d = 0 ∨ d = 1 ∨ d = 2 by omega) with e | e | e
    · subst e
      rw [pk_un (by omega), pk_un (by omega), pk_un (by omega), Nat.add_zero, pk_us]
      rfl
    · subst e
      rw [pk_un (by omega), pk_un (by omega), pk_us]
      rfl
    · subst e
      rw [pk_un (by omega), pk_us]
      rfl
  · rw [if_neg h]
    exact us_tu_at (fun e he => by rw [pk_un (by omega), pk_un (by omega), pk_un (by omega), pk_un (by omega)]) hd
/-- a value is taken away -/
theorem us_putn {C : Nat → Int32} {n r co : Nat} {v z : Int32} (hco : co < 3) (hz : ¬ z = 0) : us_eq n (us_tu (upd C (r * 4 + 3) (C (r * 4 + 3) &&& (us_m co ^^^ (-1))))) (us_st (us_tu C) r co v z) := by
  intro i d hi hd
  unfold us_st us_set
  by_cases h : i = r
  · rw [if_pos h]
    subst h
    dsimp only
    by_cases e : d = co
    · rw [if_pos e, if_neg hz]
      unfold us_tu
      rw [pk_us, if_pos ((us_clr _ hco hd).mpr (Or.inl e.symm))]
    · rw [if_neg e]
      unfold us_tu
      rw [pk_us, pk_un (by omega)]
      by_cases b : C (i * 4 + 3) &&& us_m d = 0
      · rw [if_pos b, if_pos ((us_clr _ hco hd).mpr (Or.inr b))]
      · rw [if_neg b, if_neg (fun q => (((us_clr _ hco hd).mp q).elim (fun q => e q.symm) b))]
  · rw [if_neg h]
    exact us_tu_at (fun e he => by rw [pk_un (by omega)]) hd
/-- a value is put -/
theorem us_putv {C : Nat → Int32} {n r co : Nat} {v z : Int32} (hco : co < 3) (hz : z = 0) : us_eq n (us_tu (upd (upd C (r * 4 + co) v) (r * 4 + 3) (upd C (r * 4 + co) v (r * 4 + 3) ||| us_m co))) (us_st (us_tu C) r co v z) := by
  intro i d hi hd
  unfold us_st us_set
  by_cases h : i = r
  · rw [if_pos h]
    subst h
    rw [pk_un (f := C) (show i * 4 + 3 ≠ i * 4 + co by omega)]
    dsimp only
    by_cases e : d = co
    · rw [if_pos e, if_pos hz]
      subst e
      unfold us_tu
      rw [pk_us, pk_un (by omega), pk_us, if_neg (fun q => ((us_sto _ hco hd).mp q).1 rfl)]
    · rw [if_neg e]
      unfold us_tu
      rw [pk_us, pk_un (by omega), pk_un (by omega)]
      by_cases b : C (i * 4 + 3) &&& us_m d = 0
      · rw [if_pos b, if_pos ((us_sto _ hco hd).mpr ⟨fun q => e q.symm, b⟩)]
      · rw [if_neg b, if_neg (fun q => b ((us_sto _ hco hd).mp q).2)]
  · rw [if_neg h]
    exact us_tu_at (fun e he => by rw [pk_un (by omega), pk_un (by omega)]) hd
theorem us_st_eq {T T' : us_T} {n i c : Nat} {v z : Int32} (hi : i < n) (h : us_eq n T T') : us_eq n (us_st T i c v z) (us_st T' i c v z) :=
  us_set_eq h fun d hd => by
    by_cases e : d = c
    · rw [if_pos e, if_pos e]
    · rw [if_neg e, if_neg e, h i d hi hd]
theorem us_st_back {T : us_T} {n i c : Nat} {v z : Int32} {w : Nat → Option Int32} (hw : ∀ d, d < 3 → w d = T i d) : us_eq n (us_set (us_st T i c v z) i w) T := by
  intro j d hj hd
  unfold us_st us_set
  by_cases h : j = i
  · rw [if_pos h, hw d hd, h]
  · rw [if_neg h, if_neg h]
/-- what the class asks ahead of an insert -/
def us_mq (T : us_T) (n : Nat) (a b x : Int32) : Prop := (¬ x &&& 1 = 0 ∧ ∀ i, i < n → T i 0 ≠ some a) ∧ (x &&& 2 = 0 ∨ ∀ i, i < n → T i 1 ≠ some b)
theorem us_mq.no {T T' : us_T} {n k np : Nat} {a b x : Int32} (h : us_eq n T T') (hn : n < 120) (hk : np = 0 ∨ k + 1 ≤ 200) (f : us_mq T n a b x) : ¬ us_icf n T' k np a b x := by
  rintro (z | z | z | z | ⟨z1, z2⟩)
  · omega
  · exact us_ful.out hk z
  · exact f.1.1 z
  · exact us_ex_no (us_all_eq (by decide) h f.1.2) z
  · exact f.2.elim z1 (fun q => us_ex_no (us_all_eq (by decide) h q) z2)
theorem us_mq.of {T T' : us_T} {n k np : Nat} {a b x : Int32} (h : us_eq n T T') (f : ¬ us_mq T n a b x) : us_icf n T' k np a b x := by
  refine Classical.byContradiction fun z => f ⟨⟨fun q => z (Or.inr (Or.inr (Or.inl q))), fun i hi e => z (Or.inr (Or.inr (Or.inr (Or.inl ⟨i, hi, by rw [← h i 0 hi (by decide)]; exact e⟩))))⟩, ?_⟩
  by_cases q : x &&& 2 = 0
  · exact Or.inl q
  · exact Or.inr fun i hi e => z (Or.inr (Or.inr (Or.inr (Or.inr ⟨q, i, hi, by rw [← h i 1 hi (by decide)]; exact e⟩))))
theorem us_c5 (x : Int32) : x = nI 0 ∨ x = nI 1 ∨ x = nI 2 ∨ x = nI 3 ∨ x = nI 4 ∨ (x.toInt < 0 ∨ 4 < x.toInt) := by
  by_cases h : x < 0
  · exact Or.inr (Or.inr (Or.inr (Or.inr (Or.inr (Or.inl (by have := Int32.lt_iff_toInt_lt.mp h; simpa using this))))))
  · obtain ⟨j, hj, e⟩ := nI_of h
    subst e
    rcases (show j = 0 ∨ j = 1 ∨ j = 2 ∨ j = 3 ∨ j = 4 ∨ 4 < j by omega) with e | e | e | e | e | e
    · subst e; exact Or.inl rfl
    · subst e; exact Or.inr (Or.inl rfl)
    · subst e; exact Or.inr (Or.inr (Or.inl rfl))
    · subst e; exact Or.inr (Or.inr (Or.inr (Or.inl rfl)))
    · subst e; exact Or.inr (Or.inr (Or.inr (Or.inr (Or.inl rfl))))
    · exact Or.inr (Or.inr (Or.inr (Or.inr (Or.inr (Or.inr (by rw [nI_toInt hj]; omega))))))
theorem us_cnt_0 (n : Nat) (T : us_T) (k np : Nat) : us_cnt n T k np (nI 0) = nI n := if_pos rfl
theorem us_cnt_1 (n : Nat) (T : us_T) (k np : Nat) : us_cnt n T k np (nI 1) = nI np := (if_neg (by decide)).trans (if_pos rfl)
theorem us_cnt_2 (n : Nat) (T : us_T) (k np : Nat) : us_cnt n T k np (nI 2) = nI k := (if_neg (by decide)).trans ((if_neg (by decide)).trans (if_pos rfl))
theorem us_cnt_3 (n : Nat) (T : us_T) (k np : Nat) : us_cnt n T k np (nI 3) = nI (us_cn T 1 n) := (if_neg (by decide)).trans ((if_neg (by decide)).trans ((if_neg (by decide)).trans (if_pos rfl)))
theorem us_cnt_4 (n : Nat) (T : us_T) (k np : Nat) : us_cnt n T k np (nI 4) = nI (us_cn T 2 n) := (if_neg (by decide)).trans ((if_neg (by decide)).trans ((if_neg (by decide)).trans ((if_neg (by decide)).trans (if_pos rfl))))
theorem us_cnt_o {n : Nat} {T : us_T} {k np : Nat} {x : Int32} (h : x.toInt < 0 ∨ 4 < x.toInt) : us_cnt n T k np x = -1 := by
  have hne : ∀ j, j < 5 → ¬ x = nI j := fun j hj e => by
    rw [e, nI_toInt (by omega)] at h
    omega
  exact (if_neg (hne 0 (by decide))).trans ((if_neg (hne 1 (by decide))).trans ((if_neg (hne 2 (by decide))).trans ((if_neg (hne 3 (by decide))).trans (if_neg (hne 4 (by decide))))))
