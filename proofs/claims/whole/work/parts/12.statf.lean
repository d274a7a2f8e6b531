/-! 03.pure (a draft, not yet compiled): what each call does to the state, on both sides. -/
theorem us_undo.eq0 {kd rw : Int32} {w : Nat → Option Int32} {n1 n0 : Nat} {T1 T0 T0' : us_T} (h0 : us_eq n0 T0 T0') (u : us_undo kd rw w n1 T1 n0 T0) : us_undo kd rw w n1 T1 n0 T0' := by
  rcases u with ⟨a, b, c, d⟩ | ⟨a, b, r, c, d, e⟩ | ⟨a, b, c, r, d, e, f⟩
  · exact Or.inl ⟨a, b, c, d.tr h0⟩
  · exact Or.inr (Or.inl ⟨a, b, r, c, d, e.tr h0⟩)
  · exact Or.inr (Or.inr ⟨a, b, c, r, d, e, f.tr h0⟩)
theorem us_up_s {α : Type} {f : Nat → α} {k : Nat} {v : α} : va_up f k v k = v := if_pos rfl
theorem us_up_n {α : Type} {f : Nat → α} {k j : Nat} {v : α} (h : j ≠ k) : va_up f k v j = f j := if_neg h
/-- one change more is kept -/
theorem us_U.push {n : Nat} {T : us_T} {k np : Nat} {nm : Nat → Int32} {sn : Nat → Nat} {sT : Nat → us_T} {sk : Nat → Nat} {C PN CA CK CR CB : Nat → Int32} (h : us_U n T k np nm sn sT sk C PN CA CK CR CB) (hp : 0 < np) (hk : k < 200)
    {n' : Nat} {T' : us_T} {C' : Nat → Int32} {kd : Int32} {r : Nat} (hn' : n' ≤ 120) (hC' : us_eq n' (us_tu C') T') (hu : us_undo kd (nI r) (us_tu C r) n' T' n T) :
    us_U n' T' (k + 1) np nm sn sT sk C' PN CA (upd CK k kd) (upd CR k (nI r)) (va_cpy C CB (r * 4) (k * 4) 4) := by
  obtain ⟨h1, h2, h3, h4, h5, h6, h7, hn, hT, e1, e2, hl, hs⟩ := h
  refine ⟨hn', h2, by omega, by omega, hC', fun p q => ⟨(h6 p q).1, (h6 p q).2.1, by have := (h6 p q).2.2; omega⟩, h7, va_up hn (k + 1) n', va_up hT (k + 1) T', us_up_s, ?_, fun j hj => ?_, fun p q => ?_⟩
  · rw [us_up_s]; exact us_eq.rf
  · by_cases e : j = k
    · subst e
      rw [pk_us, pk_us, us_up_s, us_up_s, us_up_n (by omega), us_up_n (by omega), e1]
      exact (hu.eq0 e2).eq (fun c hc => (us_keep_new hc).symm) us_eq.rf
    · rw [pk_un e, pk_un e, us_up_n (by omega), us_up_n (by omega), us_up_n (by omega), us_up_n (by omega)]
      exact (hl j (by omega)).eq (fun c hc => (us_keep_old (by omega) hc).symm) us_eq.rf
  · have := (h6 p q).2.2
    rw [us_up_n (by omega), us_up_n (by omega)]
    exact hs p q
/-- without points nothing is kept -/
theorem us_U.zero {n : Nat} {T : us_T} {nm : Nat → Int32} {sn : Nat → Nat} {sT : Nat → us_T} {sk : Nat → Nat} {C PN CA CK CR CB : Nat → Int32} (hn : n ≤ 120) (h : us_eq n (us_tu C) T) : us_U n T 0 0 nm sn sT sk C PN CA CK CR CB :=
  ⟨hn, by omega, by omega, fun _ => rfl, h, fun p q => absurd q (Nat.not_lt_zero p), fun p q _ z => absurd z (Nat.not_lt_zero q), fun _ => n, fun _ => T, rfl, us_eq.rf, fun j z => absurd z (Nat.not_lt_zero j), fun p q => absurd q (Nat.not_lt_zero p)⟩
theorem us_U.mark {n : Nat} {T : us_T} {k np : Nat} {nm : Nat → Int32} {sn : Nat → Nat} {sT : Nat → us_T} {sk : Nat → Nat} {C PN CA CK CR CB : Nat → Int32} (h : us_U n T k np nm sn sT sk C PN CA CK CR CB) (hp : np < 20) (x : Int32) :
    us_U n T k (np + 1) (va_up nm np x) (va_up sn np n) (va_up sT np T) (va_up sk np k) C (upd PN np x) (upd CA np (nI k)) CK CR CB := by
  obtain ⟨h1, h2, h3, h4, h5, h6, h7, hn, hT, e1, e2, hl, hs⟩ := h
  refine ⟨h1, by omega, h3, by omega, h5, fun p q => ?_, fun p q hpq hq => ?_, hn, hT, e1, e2, hl, fun p q => ?_⟩
  · by_cases e : p = np
    · subst e
      rw [pk_us, pk_us, us_up_s, us_up_s]
      exact ⟨rfl, rfl, Nat.le_refl _⟩
    · rw [pk_un e, pk_un e, us_up_n e, us_up_n e]
      exact h6 p (by omega)
  · by_cases e : q = np
    · subst e
      rw [us_up_s]
      by_cases e2 : p = q
      · subst e2; rw [us_up_s]; exact Nat.le_refl _
      · rw [us_up_n e2]; exact (h6 p (by omega)).2.2
    · rw [us_up_n e, us_up_n (by omega)]
      exact h7 p q hpq (by omega)
  · by_cases e : p = np
    · subst e
      rw [us_up_s, us_up_s, us_up_s, e1]
      exact ⟨rfl, e2⟩
    · rw [us_up_n e, us_up_n e, us_up_n e]
      exact hs p (by omega)
theorem us_U.back {n : Nat} {T : us_T} {k np : Nat} {nm : Nat → Int32} {sn : Nat → Nat} {sT : Nat → us_T} {sk : Nat → Nat} {C PN CA CK CR CB : Nat → Int32} (h : us_U n T k np nm sn sT sk C PN CA CK CR CB) {p : Nat} (hp : p < np)
    {C' : Nat → Int32} (hC : us_eq (sn p) (us_tu C') (sT p)) : us_U (sn p) (sT p) (sk p) (p + 1) nm sn sT sk C' PN CA CK CR CB := by
  obtain ⟨h1, h2, h3, h4, h5, h6, h7, hn, hT, e1, e2, hl, hs⟩ := h
  have hk := (h6 p hp).2.2
  have hlow : hn (sk p) ≤ 120 := us_log.le hl (by rw [e1]; exact h1) (k - sk p) (sk p) (by omega)
  refine ⟨by rw [(hs p hp).1]; exact hlow, by omega, by omega, by omega, hC, fun q z => ⟨(h6 q (by omega)).1, (h6 q (by omega)).2.1, h7 q p (by omega) hp⟩, fun a b c d => h7 a b c (by omega), hn, hT, (hs p hp).1.symm, (hs p hp).2, fun j hj => hl j (by omega), fun q z => hs q (by omega)⟩
theorem us_U.rel {n : Nat} {T : us_T} {k np : Nat} {nm : Nat → Int32} {sn : Nat → Nat} {sT : Nat → us_T} {sk : Nat → Nat} {C PN CA CK CR CB : Nat → Int32} (h : us_U n T k np nm sn sT sk C PN CA CK CR CB) {p : Nat} (hp : p < np) :
    us_U n T (if p = 0 then 0 else k) p nm sn sT sk C PN CA CK CR CB := by
  obtain ⟨h1, h2, h3, h4, h5, h6, h7, hn, hT, e1, e2, hl, hs⟩ := h
  by_cases e : p = 0
  · subst e
    exact us_U.zero h1 h5
  · rw [if_neg e]
    exact ⟨h1, by omega, h3, fun z => absurd z e, h5, fun q z => h6 q (by omega), fun a b c d => h7 a b c (by omega), hn, hT, e1, e2, hl, fun q z => hs q (by omega)⟩
/-! ### removeAll: from the end -/
def us_ra (c : Nat) (v : Int32) (np : Nat) : Nat → Nat × us_T × Nat → Nat × us_T × Nat
  | 0, s => s
  | r + 1, s => us_ra c v np r (if s.2.1 r c = some v then (s.1 - 1, us_del s.2.1 r, if np = 0 then s.2.2 else s.2.2 + 1) else s)
theorem us_del_lo {T : us_T} {r : Nat} : us_eq r (us_del T r) T := fun i c hi _ => if_pos hi
/-! ### the reference's rows -/
theorem us_tm_at {V V' I I' : Nat → Int32} {i j c : Nat} (h : ∀ d, d < 3 → V' (3 * i + d) = V (3 * j + d) ∧ I' (3 * i + d) = I (3 * j + d)) (hc : c < 3) : us_tm V' I' i c = us_tm V I j c := by
  unfold us_tm
  rw [(h c hc).1, (h c hc).2]
/-- what the loop of take leaves -/
def us_tk (f : Nat → Int32) (r m : Nat) : Nat → Int32 := fun j => if 3 * r ≤ j ∧ j < m then f (j + 3) else f j
theorem us_tk_del {V I : Nat → Int32} {n r : Nat} (hr : r < n) : us_eq (n - 1) (us_tm (us_tk V r (3 * (n - 1))) (us_tk I r (3 * (n - 1)))) (us_del (us_tm V I) r) := by
  intro i c hi hc
  unfold us_del
  by_cases h : i < r
  · rw [if_pos h]
    exact us_tm_at (fun d hd => ⟨if_neg (by omega), if_neg (by omega)⟩) hc
  · rw [if_neg h]
    refine us_tm_at (fun d hd => ?_) hc
    unfold us_tk
    rw [if_pos (by omega), if_pos (by omega), show 3 * i + d + 3 = 3 * (i + 1) + d by omega]
    exact ⟨rfl, rfl⟩
