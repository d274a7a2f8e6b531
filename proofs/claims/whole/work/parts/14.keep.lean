/-! 14.keep: each call keeps the class's and the reference's hold on the state. -/
theorem us_set_top {n : Nat} {T T' : us_T} {w : Nat → Option Int32} (h : us_eq n T T') : us_eq (n + 1) (us_set T n w) (us_set T' n w) := by
  intro i c hi hc
  unfold us_set
  by_cases e : i = n
  · rw [if_pos e, if_pos e]
  · rw [if_neg e, if_neg e, h i c (by omega) hc]
section USK
variable {n : Nat} {T : us_T} {k np : Nat} {nm : Nat → Int32} {sn : Nat → Nat} {sT : Nat → us_T} {sk : Nat → Nat} {C PN CA CK CR CB : Nat → Int32} {V KV I KI KR KC : Nat → Int32}
theorem us_U.step (h : us_U n T k np nm sn sT sk C PN CA CK CR CB) (hk : np = 0 ∨ k + 1 ≤ 200) {n' : Nat} {T' : us_T} {C' : Nat → Int32} {kd : Int32} {r : Nat} (hn' : n' ≤ 120) (hC' : us_eq n' (us_tu C') T') (hu : us_undo kd (nI r) (us_tu C r) n' T' n T) :
    us_U n' T' (us_k1 np k) np nm sn sT sk C' PN CA (us_ku np k CK kd) (us_ku np k CR (nI r)) (us_kc np k C CB r) := by
  by_cases hz : np = 0
  · have hk0 : k = 0 := h.2.2.2.1 hz
    rw [us_k1_z hz, us_ku_z hz, us_ku_z hz, us_kc_z hz]
    subst hz hk0
    exact us_U.zero hn' hC'
  · rw [us_k1_n hz, us_ku_n hz, us_ku_n hz, us_kc_n hz]
    exact h.push (by omega) (by omega) hn' hC' hu
theorem us_U.ins (h : us_U n T k np nm sn sT sk C PN CA CK CR CB) (hn : n < 120) (hk : np = 0 ∨ k + 1 ≤ 200) (a b c has : Int32) :
    us_U (n + 1) (us_set T n (us_row a b c has)) (us_k1 np k) np nm sn sT sk (upd (upd (upd (upd C (n * 4) a) (n * 4 + 1) b) (n * 4 + 2) c) (n * 4 + 3) has) PN CA (us_ku np k CK (nI 0)) (us_ku np k CR (nI n)) (us_kc np k C CB n) :=
  h.step hk (by omega) (us_put4.tr (us_set_top h.2.2.2.2.1)) (Or.inl ⟨nI_0, rfl, rfl, us_set_lo⟩)
theorem us_U.st (h : us_U n T k np nm sn sT sk C PN CA CK CR CB) (hk : np = 0 ∨ k + 1 ≤ 200) {r co : Nat} {v z : Int32} (hr : r < n) {C' : Nat → Int32} (hC : us_eq n (us_tu C') (us_st (us_tu C) r co v z)) :
    us_U n (us_st T r co v z) (us_k1 np k) np nm sn sT sk C' PN CA (us_ku np k CK (nI 1)) (us_ku np k CR (nI r)) (us_kc np k C CB r) :=
  h.step hk h.1 (hC.tr (us_st_eq hr h.2.2.2.2.1)) (Or.inr (Or.inl ⟨by decide, rfl, r, hr, rfl, us_st_back (fun d hd => h.2.2.2.2.1 r d hr hd)⟩))
theorem us_U.del (h : us_U n T k np nm sn sT sk C PN CA CK CR CB) (hk : np = 0 ∨ k + 1 ≤ 200) {r : Nat} (hr : r < n) :
    us_U (n - 1) (us_del T r) (us_k1 np k) np nm sn sT sk (va_cpy C C ((r + 1) * 4) (r * 4) ((n - r - 1) * 4)) PN CA (us_ku np k CK (nI 2)) (us_ku np k CR (nI r)) (us_kc np k C CB r) :=
  h.step hk (by have := h.1; omega) ((us_close hr).tr (us_del_eq h.2.2.2.2.1)) (Or.inr (Or.inr ⟨by decide, by omega, h.1, r, hr, rfl, us_ins_del (fun c hc => h.2.2.2.2.1 r c hr hc)⟩))
theorem us_ra_1 {c : Nat} {v : Int32} {r : Nat} (h : T r c = some v) : us_ra c v np (r + 1) (n, T, k) = us_ra c v np r (n - 1, us_del T r, us_k1 np k) := by
  show us_ra c v np r (if T r c = some v then (n - 1, us_del T r, if np = 0 then k else k + 1) else (n, T, k)) = _
  rw [if_pos h]
  rfl
theorem us_ra_0 {c : Nat} {v : Int32} {r : Nat} (h : ¬ T r c = some v) : us_ra c v np (r + 1) (n, T, k) = us_ra c v np r (n, T, k) := by
  show us_ra c v np r (if T r c = some v then (n - 1, us_del T r, if np = 0 then k else k + 1) else (n, T, k)) = _
  rw [if_neg h]
theorem us_room_1 {c : Nat} {v : Int32} {r : Nat} (hr : np = 0 ∨ k + us_ct T c v (r + 1) ≤ 200) (hc : c < 3) (h : T r c = some v) : (np = 0 ∨ k + 1 ≤ 200) ∧ (np = 0 ∨ us_k1 np k + us_ct (us_del T r) c v r ≤ 200) := by
  rw [us_ct_1 h] at hr
  rw [us_ct_eq hc us_del_lo]
  by_cases hz : np = 0
  · exact ⟨Or.inl hz, Or.inl hz⟩
  · rw [us_k1_n hz]
    exact ⟨Or.inr (by omega), Or.inr (by omega)⟩
theorem us_room_0 {c : Nat} {v : Int32} {r : Nat} (hr : np = 0 ∨ k + us_ct T c v (r + 1) ≤ 200) (h : ¬ T r c = some v) : np = 0 ∨ k + us_ct T c v r ≤ 200 := by
  rw [us_ct_0 h] at hr
  exact hr
/-! ### the reference -/
theorem us_M.tab (h : us_M n T k np nm sn sT sk V KV I KI PN KR KC) {n' : Nat} {T' : us_T} {k' : Nat} {V' I' : Nat → Int32} (hn' : n' ≤ 120) (hk' : k' ≤ 200) (hT : us_eq n' (us_tm V' I') T') (hI : ∀ j, I' j = 0 ∨ I' j = 1) : us_M n' T' k' np nm sn sT sk V' KV I' KI PN KR KC :=
  ⟨hn', h.2.1, hk', hT, hI, h.2.2.2.2.2.1, h.2.2.2.2.2.2⟩
theorem us_bool_upd {f : Nat → Int32} {i : Nat} {x : Int32} (h : ∀ j, f j = 0 ∨ f j = 1) (hx : x = 0 ∨ x = 1) : ∀ j, upd f i x j = 0 ∨ upd f i x j = 1 := by
  intro j
  by_cases e : j = i
  · subst e; rw [pk_us]; exact hx
  · rw [pk_un e]; exact h j
theorem us_nb {x : Int32} (h : x = 0 ∨ x = 1) : vp_nar .boolean x = x := by
  rcases h with h | h <;> subst h <;> decide
/-- the reference's stores of an insert -/
theorem us_putM {a b c has y0 y1 y2 : Int32} (h0 : y0 = 0 ↔ has &&& us_m 0 = 0) (h1 : y1 = 0 ↔ has &&& us_m 1 = 0) (h2 : y2 = 0 ↔ has &&& us_m 2 = 0) :
    us_eq (n + 1) (us_tm (upd (upd (upd V (3 * n + 0) a) (3 * n + 1) b) (3 * n + 2) c) (upd (upd (upd I (3 * n + 0) y0) (3 * n + 1) y1) (3 * n + 2) y2)) (us_set (us_tm V I) n (us_row a b c has)) := by
  intro i d hi hd
  unfold us_set
  by_cases h : i = n
  · rw [if_pos h]
    subst h
    unfold us_tm us_row
    rcases (show d = 0 ∨ d = 1 ∨ d = 2 by omega) with e | e | e
    · subst e
      rw [pk_un (by omega), pk_un (by omega), pk_us, pk_un (by omega), pk_un (by omega), pk_us]
      by_cases z : y0 = 0
      · rw [if_pos z, if_pos (h0.mp z)]
      · rw [if_neg z, if_neg (fun q => z (h0.mpr q))]
        rfl
    · subst e
      rw [pk_un (by omega), pk_us, pk_un (by omega), pk_us]
      by_cases z : y1 = 0
      · rw [if_pos z, if_pos (h1.mp z)]
      · rw [if_neg z, if_neg (fun q => z (h1.mpr q))]
        rfl
    · subst e
      rw [pk_us, pk_us]
      by_cases z : y2 = 0
      · rw [if_pos z, if_pos (h2.mp z)]
      · rw [if_neg z, if_neg (fun q => z (h2.mpr q))]
        rfl
  · rw [if_neg h]
    exact us_tm_at (fun e he => ⟨by rw [pk_un (by omega), pk_un (by omega), pk_un (by omega)], by rw [pk_un (by omega), pk_un (by omega), pk_un (by omega)]⟩) hd
theorem us_putS {r co : Nat} {v z y : Int32} (hco : co < 3) (hy : y = 0 ↔ ¬ z = 0) : us_eq n (us_tm (upd V (3 * r + co) v) (upd I (3 * r + co) y)) (us_st (us_tm V I) r co v z) := by
  intro i d hi hd
  unfold us_st us_set
  by_cases h : i = r
  · rw [if_pos h]
    subst h
    dsimp only
    by_cases e : d = co
    · rw [if_pos e]
      subst e
      unfold us_tm
      rw [pk_us, pk_us]
      by_cases q : z = 0
      · rw [if_pos q, if_neg (fun x => hy.mp x q)]
      · rw [if_neg q, if_pos (hy.mpr q)]
    · rw [if_neg e]
      unfold us_tm
      rw [pk_un (by omega), pk_un (by omega)]
  · rw [if_neg h]
    exact us_tm_at (fun e he => ⟨by rw [pk_un (by omega)], by rw [pk_un (by omega)]⟩) hd
/-- what the loop of take has done -/
theorem us_tk_0 {f : Nat → Int32} {r : Nat} : us_tk f r (3 * r) = f := by
  funext j
  unfold us_tk
  rw [if_neg (by omega)]
theorem us_tk_s {f : Nat → Int32} {r m : Nat} (h : 3 * r ≤ m) : upd (us_tk f r m) m (f (m + 3)) = us_tk f r (m + 1) := by
  funext j
  by_cases e : j = m
  · subst e
    rw [pk_us]
    unfold us_tk
    rw [if_pos (by omega)]
  · rw [pk_un e]
    unfold us_tk
    by_cases q : 3 * r ≤ j ∧ j < m
    · rw [if_pos q, if_pos (by omega)]
    · rw [if_neg q, if_neg (by omega)]
theorem us_tk_r {f : Nat → Int32} {r m : Nat} : us_tk f r m (m + 3) = f (m + 3) := if_neg (by omega)
theorem us_tk_b {f : Nat → Int32} {r m : Nat} (h : ∀ j, f j = 0 ∨ f j = 1) : ∀ j, us_tk f r m j = 0 ∨ us_tk f r m j = 1 := by
  intro j
  unfold us_tk
  split
  · exact h _
  · exact h _
/-- what the loop of mark has done; what that of back -/
def us_ck (f g : Nat → Int32) (o m : Nat) : Nat → Int32 := fun j => if o ≤ j ∧ j < o + m then g (j - o) else f j
def us_cb (f g : Nat → Int32) (o m : Nat) : Nat → Int32 := fun j => if j < m then g (o + j) else f j
theorem us_ck_0 {f g : Nat → Int32} {o : Nat} : us_ck f g o 0 = f := by
  funext j
  unfold us_ck
  rw [if_neg (by omega)]
theorem us_ck_s {f g : Nat → Int32} {o m : Nat} : upd (us_ck f g o m) (o + m) (g m) = us_ck f g o (m + 1) := by
  funext j
  by_cases e : j = o + m
  · subst e
    rw [pk_us]
    unfold us_ck
    rw [if_pos (by omega), show o + m - o = m by omega]
  · rw [pk_un e]
    unfold us_ck
    by_cases q : o ≤ j ∧ j < o + m
    · rw [if_pos q, if_pos (by omega)]
    · rw [if_neg q, if_neg (by omega)]
theorem us_cb_0 {f g : Nat → Int32} {o : Nat} : us_cb f g o 0 = f := by
  funext j
  unfold us_cb
  rw [if_neg (by omega)]
theorem us_cb_s {f g : Nat → Int32} {o m : Nat} : upd (us_cb f g o m) m (g (o + m)) = us_cb f g o (m + 1) := by
  funext j
  by_cases e : j = m
  · subst e
    rw [pk_us]
    unfold us_cb
    rw [if_pos (by omega)]
  · rw [pk_un e]
    unfold us_cb
    by_cases q : j < m
    · rw [if_pos q, if_pos (by omega)]
    · rw [if_neg q, if_neg (by omega)]
theorem us_ck_b {f g : Nat → Int32} {o m : Nat} (hf : ∀ j, f j = 0 ∨ f j = 1) (hg : ∀ j, g j = 0 ∨ g j = 1) : ∀ j, us_ck f g o m j = 0 ∨ us_ck f g o m j = 1 := by
  intro j
  unfold us_ck
  split
  · exact hg _
  · exact hf _
theorem us_cb_b {f g : Nat → Int32} {o m : Nat} (hf : ∀ j, f j = 0 ∨ f j = 1) (hg : ∀ j, g j = 0 ∨ g j = 1) : ∀ j, us_cb f g o m j = 0 ∨ us_cb f g o m j = 1 := by
  intro j
  unfold us_cb
  split
  · exact hg _
  · exact hf _
theorem us_ck_in {f g : Nat → Int32} {o m j : Nat} (h : j < m) : us_ck f g o m (o + j) = g j := by
  unfold us_ck
  rw [if_pos (by omega), show o + j - o = j by omega]
theorem us_ck_out {f g : Nat → Int32} {o m j : Nat} (h : j < o) : us_ck f g o m j = f j := by
  unfold us_ck
  rw [if_neg (by omega)]
theorem us_cb_in {f g : Nat → Int32} {o m j : Nat} (h : j < m) : us_cb f g o m j = g (o + j) := if_pos h
theorem us_M.mark (h : us_M n T k np nm sn sT sk V KV I KI PN KR KC) (hp : np < 20) (x : Int32) :
    us_M n T k (np + 1) (va_up nm np x) (va_up sn np n) (va_up sT np T) (va_up sk np k) V (us_ck KV V (360 * np) 360) I (us_ck KI I (360 * np) 360) (upd PN np x) (upd KR np (nI n)) (upd KC np (nI k)) := by
  obtain ⟨h1, h2, h3, h4, h5, h6, h7⟩ := h
  refine ⟨h1, by omega, h3, h4, h5, us_ck_b h6 h5, fun p q => ?_⟩
  by_cases e : p = np
  · subst e
    rw [pk_us, pk_us, pk_us, us_up_s, us_up_s, us_up_s, us_up_s]
    refine ⟨rfl, h1, rfl, h3, rfl, fun r c hr hc => ?_⟩
    rw [← h4 r c hr hc]
    exact us_tm_at (fun d hd => ⟨us_ck_in (by omega), us_ck_in (by omega)⟩) hc
  · obtain ⟨a, b, c, d, e2, f⟩ := h7 p (by omega)
    rw [pk_un e, pk_un e, pk_un e, us_up_n e, us_up_n e, us_up_n e, us_up_n e]
    refine ⟨a, b, c, d, e2, fun r c hr hc => ?_⟩
    rw [← f r c hr hc]
    exact us_tm_at (fun d hd => ⟨us_ck_out (by omega), us_ck_out (by omega)⟩) hc
theorem us_M.back (h : us_M n T k np nm sn sT sk V KV I KI PN KR KC) {p : Nat} (hp : p < np) :
    us_M (sn p) (sT p) (sk p) (p + 1) nm sn sT sk (us_cb V KV (360 * p) 360) KV (us_cb I KI (360 * p) 360) KI PN KR KC := by
  obtain ⟨h1, h2, h3, h4, h5, h6, h7⟩ := h
  obtain ⟨a, b, c, d, e2, f⟩ := h7 p hp
  refine ⟨b, by omega, d, fun r c hr hc => ?_, us_cb_b h5 h6, h6, fun q z => h7 q (by omega)⟩
  rw [← f r c hr hc]
  exact us_tm_at (fun d hd => ⟨us_cb_in (by omega), us_cb_in (by omega)⟩) hc
theorem us_M.rel (h : us_M n T k np nm sn sT sk V KV I KI PN KR KC) {p : Nat} (hp : p < np) : us_M n T (if p = 0 then 0 else k) p nm sn sT sk V KV I KI PN KR KC := by
  obtain ⟨h1, h2, h3, h4, h5, h6, h7⟩ := h
  exact ⟨h1, by omega, by split <;> omega, h4, h5, h6, fun q z => h7 q (by omega)⟩
end USK
/-- the class's cells: rows, points, changes, then the arrays -/
abbrev us_SU : Type := Nat × Nat × Nat × (Nat → Int32) × (Nat → Int32) × (Nat → Int32) × (Nat → Int32) × (Nat → Int32) × (Nat → Int32)
/-- the reference's: thrown, rows, points, changes, then the arrays -/
abbrev us_SM : Type := Int32 × Nat × Nat × Nat × (Nat → Int32) × (Nat → Int32) × (Nat → Int32) × (Nat → Int32) × (Nat → Int32) × (Nat → Int32) × (Nat → Int32)
def us_us (u : us_SU) (n : Nat) (T : us_T) (k np : Nat) (nm : Nat → Int32) (sn : Nat → Nat) (sT : Nat → us_T) (sk : Nat → Nat) : Prop :=
  u.1 = n ∧ u.2.1 = np ∧ u.2.2.1 = k ∧ us_U n T k np nm sn sT sk u.2.2.2.1 u.2.2.2.2.1 u.2.2.2.2.2.1 u.2.2.2.2.2.2.1 u.2.2.2.2.2.2.2.1 u.2.2.2.2.2.2.2.2
def us_ms (u : us_SM) (th : Int32) (n : Nat) (T : us_T) (k np : Nat) (nm : Nat → Int32) (sn : Nat → Nat) (sT : Nat → us_T) (sk : Nat → Nat) : Prop :=
  u.1 = th ∧ u.2.1 = n ∧ u.2.2.1 = np ∧ u.2.2.2.1 = k ∧ us_M n T k np nm sn sT sk u.2.2.2.2.1 u.2.2.2.2.2.1 u.2.2.2.2.2.2.1 u.2.2.2.2.2.2.2.1 u.2.2.2.2.2.2.2.2.1 u.2.2.2.2.2.2.2.2.2.1 u.2.2.2.2.2.2.2.2.2.2
abbrev uWS (ad : Nat → Nat) (cI : ClassId) (u : us_SU) : va_W := uW ad cI u.2.2.2.1 u.1 u.2.2.2.2.1 u.2.2.2.2.2.1 u.2.1 u.2.2.2.2.2.2.1 u.2.2.2.2.2.2.2.1 u.2.2.2.2.2.2.2.2 u.2.2.1
abbrev mWS (ad : Nat → Nat) (cI cZ : ClassId) (u : us_SM) : va_W := mW ad cI cZ u.1 u.2.1 u.2.2.1 u.2.2.2.1 u.2.2.2.2.1 u.2.2.2.2.2.1 u.2.2.2.2.2.2.1 u.2.2.2.2.2.2.2.1 u.2.2.2.2.2.2.2.2.1 u.2.2.2.2.2.2.2.2.2.1 u.2.2.2.2.2.2.2.2.2.2
theorem us_tm_0 {V I : Nat → Int32} {r c : Nat} (h : I (3 * r + c) = 0) : us_tm V I r c = none := if_pos h
theorem us_tm_1 {V I : Nat → Int32} {r c : Nat} (h : ¬ I (3 * r + c) = 0) : us_tm V I r c = some (V (3 * r + c)) := if_neg h
theorem us_tm_n {V I : Nat → Int32} {r c : Nat} {v : Int32} (h : I (3 * r + c) = 0) : ¬ us_tm V I r c = some v := by rw [us_tm_0 h]; exact fun z => nomatch z
theorem us_tm_v {V I : Nat → Int32} {r c : Nat} {v : Int32} (h : ¬ I (3 * r + c) = 0) (g : ¬ V (3 * r + c) = v) : ¬ us_tm V I r c = some v := by rw [us_tm_1 h]; exact fun z => g (Option.some.inj z)
theorem us_tm_y {V I : Nat → Int32} {r c : Nat} {v : Int32} (h : ¬ I (3 * r + c) = 0) (g : V (3 * r + c) = v) : us_tm V I r c = some v := by rw [us_tm_1 h, g]
theorem us_hb {j c : Nat} {y : Int32} (hj : j < 8) (hc : c < 3) (h : (y = nI 1 ∧ ¬ nI j >>> (nI c &&& 31) &&& (1 : Int32) = 0) ∨ (y = nI 0 ∧ nI j >>> (nI c &&& 31) &&& (1 : Int32) = 0)) : vp_nar .boolean y = 0 ↔ nI j &&& us_m c = 0 := by
  rcases h with ⟨h, g⟩ | ⟨h, g⟩ <;> subst h
  · exact ⟨fun z => absurd z (by decide), fun z => absurd ((us_hasb j hj c hc).mpr z) g⟩
  · exact ⟨fun _ => (us_hasb j hj c hc).mp g, fun _ => by decide⟩
theorem us_y01 {y : Int32} {P Q : Prop} (h : (y = nI 1 ∧ P) ∨ (y = nI 0 ∧ Q)) : vp_nar .boolean y = 0 ∨ vp_nar .boolean y = 1 := by
  rcases h with ⟨h, -⟩ | ⟨h, -⟩ <;> subst h
  · exact Or.inr (by decide)
  · exact Or.inl (by decide)
theorem us_sy {y z : Int32} (h : (y = nI 1 ∧ z = 0) ∨ (y = nI 0 ∧ ¬ z = 0)) : vp_nar .boolean y = 0 ↔ ¬ z = 0 := by
  rcases h with ⟨h, g⟩ | ⟨h, g⟩ <;> subst h
  · exact ⟨fun q => absurd q (by decide), fun q => absurd g q⟩
  · exact ⟨fun _ => g, fun _ => by decide⟩
theorem us_o1 {T : us_T} {n i c : Nat} {v z : Int32} (h : ¬ z = 0) : us_sc0 T n i c v z ↔ ((¬ z = 0 ∧ c = 0) ∨ ¬ ((-1 : Int32) < 0 ∨ (-1 : Int32) = nI i)) :=
  ⟨fun q => q.elim Or.inl (fun q => absurd q.1 h), fun q => q.elim Or.inl (fun q => absurd (Or.inl (by decide)) q)⟩
theorem us_o2 {T : us_T} {n i c : Nat} {v z : Int32} (h : z = 0) (hc : c = 2) : us_sc0 T n i c v z ↔ ((¬ z = 0 ∧ c = 0) ∨ ¬ ((-1 : Int32) < 0 ∨ (-1 : Int32) = nI i)) :=
  ⟨fun q => q.elim Or.inl (fun q => absurd q.2.1 (by omega)), fun q => q.elim Or.inl (fun q => absurd (Or.inl (by decide)) q)⟩
theorem us_o3 {T : us_T} {n i c : Nat} {v z o : Int32} (h : z = 0) (hc : c < 2) (hn : n < 2 ^ 31) (hi : i < n) (f : us_fd T c v n o) : us_sc0 T n i c v z ↔ ((¬ z = 0 ∧ c = 0) ∨ ¬ (o < 0 ∨ o = nI i)) :=
  ⟨fun q => q.elim Or.inl (fun q => Or.inr ((f.oth hn hi).mp q.2.2)), fun q => q.elim Or.inl (fun q => Or.inr ⟨h, hc, (f.oth hn hi).mpr q⟩)⟩
theorem us_all2 {T T' : us_T} {c : Nat} {v : Int32} {n : Nat} {a : Int32} (hn : n < 2 ^ 31) (hc : c < 3) (h : us_eq n T T') (f : us_fd T c v n a) (g : 0 ≤ a) : ∃ i, i < n ∧ T' i c = some v := by
  rcases f with ⟨r, h1, h2, h3, h4⟩ | ⟨h1, h2⟩
  · exact ⟨r, h1, by rw [← h r c h1 hc]; exact h3⟩
  · rw [h1] at g; exact absurd g (by decide)
