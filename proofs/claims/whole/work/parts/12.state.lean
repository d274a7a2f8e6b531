/-! 02.state (a draft, not yet compiled): the state in words. T: a table (row, column) of values or none; n rows; k changes kept; np points, each with its name nm, its rows sn, its table sT, its changes sk. -/
abbrev us_T : Type := Nat → Nat → Option Int32
def us_eq (n : Nat) (T T' : us_T) : Prop := ∀ r c, r < n → c < 3 → T r c = T' r c
theorem us_eq.rf {n : Nat} {T : us_T} : us_eq n T T := fun _ _ _ _ => rfl
theorem us_eq.sy {n : Nat} {T T' : us_T} (h : us_eq n T T') : us_eq n T' T := fun r c hr hc => (h r c hr hc).symm
theorem us_eq.tr {n : Nat} {T T' T'' : us_T} (h : us_eq n T T') (h' : us_eq n T' T'') : us_eq n T T'' := fun r c hr hc => (h r c hr hc).trans (h' r c hr hc)
theorem us_eq.le {n m : Nat} {T T' : us_T} (h : us_eq n T T') (hm : m ≤ n) : us_eq m T T' := fun r c hr hc => h r c (Nat.lt_of_lt_of_le hr hm) hc
/-- the bit of a column -/
def us_m (c : Nat) : Int32 := (1 : Int32) <<< (nI c &&& 31)
/-- the class's rows: four ints on end -/
def us_tu (C : Nat → Int32) : us_T := fun r c => if C (r * 4 + 3) &&& us_m c = 0 then none else some (C (r * 4 + c))
/-- the reference's rows: values and flags -/
def us_tm (V I : Nat → Int32) : us_T := fun r c => if I (3 * r + c) = 0 then none else some (V (3 * r + c))
def us_set (T : us_T) (r : Nat) (w : Nat → Option Int32) : us_T := fun i c => if i = r then w c else T i c
def us_ins (T : us_T) (r : Nat) (w : Nat → Option Int32) : us_T := fun i c => if i < r then T i c else if i = r then w c else T (i - 1) c
def us_del (T : us_T) (r : Nat) : us_T := fun i c => if i < r then T i c else T (i + 1) c
/-- the row of an insert -/
def us_row (a b c has : Int32) : Nat → Option Int32 := fun d => if has &&& us_m d = 0 then none else some (if d = 0 then a else if d = 1 then b else c)
/-- one change of the class's log, read backwards: from (n1, T1) to (n0, T0) -/
def us_undo (kd rw : Int32) (w : Nat → Option Int32) (n1 : Nat) (T1 : us_T) (n0 : Nat) (T0 : us_T) : Prop :=
  (kd = 0 ∧ rw = nI n0 ∧ n1 = n0 + 1 ∧ us_eq n0 T1 T0) ∨
  (kd = 1 ∧ n1 = n0 ∧ ∃ r, r < n0 ∧ rw = nI r ∧ us_eq n0 (us_set T1 r w) T0) ∨
  (kd = 2 ∧ n0 = n1 + 1 ∧ n0 ≤ 120 ∧ ∃ r, r < n0 ∧ rw = nI r ∧ us_eq n0 (us_ins T1 r w) T0)
def us_log (k : Nat) (CK CR CB : Nat → Int32) (hn : Nat → Nat) (hT : Nat → us_T) : Prop :=
  ∀ j, j < k → us_undo (CK j) (CR j) (us_tu CB j) (hn (j + 1)) (hT (j + 1)) (hn j) (hT j)
/-- the class's arrays hold the state -/
def us_U (n : Nat) (T : us_T) (k np : Nat) (nm : Nat → Int32) (sn : Nat → Nat) (sT : Nat → us_T) (sk : Nat → Nat) (C PN CA CK CR CB : Nat → Int32) : Prop :=
  n ≤ 120 ∧ np ≤ 20 ∧ k ≤ 200 ∧ (np = 0 → k = 0) ∧ us_eq n (us_tu C) T ∧ (∀ p, p < np → PN p = nm p ∧ CA p = nI (sk p) ∧ sk p ≤ k) ∧ (∀ p q, p ≤ q → q < np → sk p ≤ sk q) ∧
  ∃ (hn : Nat → Nat) (hT : Nat → us_T), hn k = n ∧ us_eq n T (hT k) ∧ us_log k CK CR CB hn hT ∧ ∀ p, p < np → sn p = hn (sk p) ∧ us_eq (sn p) (sT p) (hT (sk p))
/-- the reference's arrays hold the state -/
def us_M (n : Nat) (T : us_T) (k np : Nat) (nm : Nat → Int32) (sn : Nat → Nat) (sT : Nat → us_T) (sk : Nat → Nat) (V KV I KI PN KR KC : Nat → Int32) : Prop :=
  n ≤ 120 ∧ np ≤ 20 ∧ k ≤ 200 ∧ us_eq n (us_tm V I) T ∧ (∀ j, I j = 0 ∨ I j = 1) ∧ (∀ j, KI j = 0 ∨ KI j = 1) ∧
  ∀ p, p < np → PN p = nm p ∧ sn p ≤ 120 ∧ KR p = nI (sn p) ∧ sk p ≤ 200 ∧ KC p = nI (sk p) ∧ us_eq (sn p) (us_tm (fun i => KV (360 * p + i)) (fun i => KI (360 * p + i))) (sT p)
/-- the row with a value in a column: its number, or -1 -/
def us_fd (T : us_T) (c : Nat) (v : Int32) (n : Nat) (ans : Int32) : Prop :=
  (∃ r, r < n ∧ ans = nI r ∧ T r c = some v ∧ ∀ i, i < r → T i c ≠ some v) ∨ (ans = -1 ∧ ∀ i, i < n → T i c ≠ some v)
/-- how many rows have a value in a column; how many have none -/
def us_ct (T : us_T) (c : Nat) (v : Int32) : Nat → Nat
  | 0 => 0
  | n + 1 => us_ct T c v n + if T n c = some v then 1 else 0
def us_cn (T : us_T) (c : Nat) : Nat → Nat
  | 0 => 0
  | n + 1 => us_cn T c n + if T n c = none then 1 else 0
/-- the latest point of a name, or -1 -/
def us_pt (nm : Nat → Int32) (x : Int32) (np : Nat) (ans : Int32) : Prop :=
  (∃ p, p < np ∧ ans = nI p ∧ nm p = x ∧ ∀ q, p < q → q < np → nm q ≠ x) ∨ (ans = -1 ∧ ∀ q, q < np → nm q ≠ x)
theorem us_fd.eq {T T' : us_T} {c : Nat} {v : Int32} {n : Nat} {a : Int32} (hc : c < 3) (h : us_eq n T T') (f : us_fd T c v n a) : us_fd T' c v n a := by
  rcases f with ⟨r, h1, h2, h3, h4⟩ | ⟨h1, h2⟩
  · exact Or.inl ⟨r, h1, h2, by rw [← h r c h1 hc]; exact h3, fun i hi => by rw [← h i c (by omega) hc]; exact h4 i hi⟩
  · exact Or.inr ⟨h1, fun i hi => by rw [← h i c hi hc]; exact h2 i hi⟩
theorem us_fd.one {T : us_T} {c : Nat} {v : Int32} {n : Nat} {a b : Int32} (f : us_fd T c v n a) (g : us_fd T c v n b) : a = b := by
  rcases f with ⟨r, h1, h2, h3, h4⟩ | ⟨h1, h2⟩ <;> rcases g with ⟨q, g1, g2, g3, g4⟩ | ⟨g1, g2⟩
  · rcases Nat.lt_trichotomy r q with h | h | h
    · exact absurd h3 (g4 r h)
    · rw [h2, g2, h]
    · exact absurd g3 (h4 q h)
  · exact absurd h3 (g2 r h1)
  · exact absurd g3 (h2 q g1)
  · rw [h1, g1]
theorem us_fd.neg {T : us_T} {c : Nat} {v : Int32} {n : Nat} {a : Int32} (hn : n < 2 ^ 31) (f : us_fd T c v n a) : a < 0 ↔ ∀ i, i < n → T i c ≠ some v := by
  rcases f with ⟨r, h1, h2, h3, h4⟩ | ⟨h1, h2⟩
  · refine ⟨fun h => absurd h (by rw [h2]; exact nI_pos (by omega)), fun h => absurd h3 (h r h1)⟩
  · exact ⟨fun _ => h2, fun _ => by rw [h1]; decide⟩
theorem us_ct_eq {T T' : us_T} {c : Nat} {v : Int32} (hc : c < 3) : ∀ {n : Nat}, us_eq n T T' → us_ct T c v n = us_ct T' c v n
  | 0, _ => rfl
  | n + 1, h => by
    show us_ct T c v n + _ = us_ct T' c v n + _
    rw [us_ct_eq hc (h.le (Nat.le_succ n)), h n c (Nat.lt_succ_self n) hc]
theorem us_cn_eq {T T' : us_T} {c : Nat} (hc : c < 3) : ∀ {n : Nat}, us_eq n T T' → us_cn T c n = us_cn T' c n
  | 0, _ => rfl
  | n + 1, h => by
    show us_cn T c n + _ = us_cn T' c n + _
    rw [us_cn_eq hc (h.le (Nat.le_succ n)), h n c (Nat.lt_succ_self n) hc]
theorem us_ct_le {T : us_T} {c : Nat} {v : Int32} : ∀ n, us_ct T c v n ≤ n
  | 0 => Nat.le_refl 0
  | n + 1 => by
    show us_ct T c v n + _ ≤ n + 1
    have := us_ct_le (T := T) (c := c) (v := v) n
    split <;> omega
theorem us_cn_le {T : us_T} {c : Nat} : ∀ n, us_cn T c n ≤ n
  | 0 => Nat.le_refl 0
  | n + 1 => by
    show us_cn T c n + _ ≤ n + 1
    have := us_cn_le (T := T) (c := c) n
    split <;> omega
theorem us_pt.one {nm : Nat → Int32} {x : Int32} {n : Nat} {a b : Int32} (f : us_pt nm x n a) (g : us_pt nm x n b) : a = b := by
  rcases f with ⟨r, h1, h2, h3, h4⟩ | ⟨h1, h2⟩ <;> rcases g with ⟨q, g1, g2, g3, g4⟩ | ⟨g1, g2⟩
  · rcases Nat.lt_trichotomy r q with h | h | h
    · exact absurd g3 (h4 q h g1)
    · rw [h2, g2, h]
    · exact absurd h3 (g4 r h h1)
  · exact absurd h3 (g2 r h1)
  · exact absurd g3 (h2 q g1)
  · rw [h1, g1]
theorem us_pt.eq {nm nm' : Nat → Int32} {x : Int32} {n : Nat} {a : Int32} (h : ∀ p, p < n → nm p = nm' p) (f : us_pt nm x n a) : us_pt nm' x n a := by
  rcases f with ⟨r, h1, h2, h3, h4⟩ | ⟨h1, h2⟩
  · exact Or.inl ⟨r, h1, h2, by rw [← h r h1]; exact h3, fun q hq hn => by rw [← h q hn]; exact h4 q hq hn⟩
  · exact Or.inr ⟨h1, fun q hq => by rw [← h q hq]; exact h2 q hq⟩
/-! ### bits (over the family bt of laws/BITS.to-paste) -/
theorem us_bit (b : Int32) {c : Nat} (hc : c < 32) : b &&& us_m c = 0 ↔ bt b c = false := by
  unfold us_m bt
  rw [← Int32.toBitVec_inj, Int32.toBitVec_and, nf_sh c hc, BitVec.and_twoPow]
  cases hb : b.toBitVec.getLsbD c
  · exact ⟨fun _ => rfl, fun _ => by simp⟩
  · exact ⟨fun z => absurd ((if_pos rfl).symm.trans z) (nf_tp c hc), fun z => by cases z⟩
theorem us_mb : ∀ c, c < 3 → ∀ d, d < 3 → bt (us_m c) d = decide (c = d) := by decide +kernel
theorem us_clr (b : Int32) {c d : Nat} (hc : c < 3) (hd : d < 3) : (b &&& (us_m c ^^^ (-1))) &&& us_m d = 0 ↔ (c = d ∨ b &&& us_m d = 0) := by
  rw [us_bit _ (by omega), us_bit _ (by omega), b_and, b_xor, b_m1 d (by omega), us_mb c hc d hd]
  by_cases h : c = d <;> simp [h]
theorem us_sto (b : Int32) {c d : Nat} (hc : c < 3) (hd : d < 3) : (b ||| us_m c) &&& us_m d = 0 ↔ (c ≠ d ∧ b &&& us_m d = 0) := by
  rw [us_bit _ (by omega), us_bit _ (by omega), b_or, us_mb c hc d hd]
  by_cases h : c = d <;> simp [h]
theorem us_b7 : ∀ i, i < 32 → bt 7 i = decide (i < 3) := by decide +kernel
theorem us_b8 : ∀ i, i < 32 → bt (-8) i = decide (3 ≤ i) := by decide +kernel
theorem us_j8 : ∀ j, j < 8 → nI j &&& (-8) = 0 := by decide +kernel
/-- has is good: the class's way of asking -/
theorem us_has (x : Int32) : x &&& (-8) = 0 ↔ ∃ j, j < 8 ∧ x = nI j := by
  refine ⟨fun h => ?_, fun ⟨j, hj, e⟩ => by rw [e]; exact us_j8 j hj⟩
  have e : x = x &&& 7 := b_ext fun i hi => by
    rw [b_and, us_b7 i hi]
    by_cases h3 : i < 3
    · simp [h3]
    · have h8 := b_and x (-8) i
      rw [h, us_b8 i hi, b_0] at h8
      simp [Nat.not_lt.mp h3] at h8
      simp [h8]
  have e2 := pk_and x (m := 7) 3 (by decide)
  exact ⟨x.toBitVec.toNat % 2 ^ 3, Nat.mod_lt _ (by decide), e.trans e2⟩
/-- .. and the reference's -/
theorem us_has2 (x : Int32) : (¬ x < 0 ∧ ¬ 7 < x) ↔ ∃ j, j < 8 ∧ x = nI j := by
  refine ⟨fun ⟨h1, h2⟩ => ?_, fun ⟨j, hj, e⟩ => ?_⟩
  · obtain ⟨j, hj, e⟩ := nI_of2 (M := 7) (n := 7) (by decide) h1 (Int32.not_lt.mp h2)
    exact ⟨j, by omega, e⟩
  · subst e
    exact (by decide +kernel : ∀ j, j < 8 → ¬ nI j < 0 ∧ ¬ 7 < nI j) j hj
/-- the reference's bit of has -/
theorem us_hasb : ∀ j, j < 8 → ∀ c, c < 3 → ((nI j >>> (nI c &&& 31)) &&& 1 = 0 ↔ nI j &&& us_m c = 0) := by decide +kernel
/-! ### the class's rows under copies and stores -/
theorem us_tu_at {C C' : Nat → Int32} {i j c : Nat} (h : ∀ d, d < 4 → C' (i * 4 + d) = C (j * 4 + d)) (hc : c < 3) : us_tu C' i c = us_tu C j c := by
  unfold us_tu
  rw [h 3 (by omega), h c (by omega)]
theorem us_tu_some {C : Nat → Int32} {r c : Nat} (h : ¬ us_tu C r c = none) : us_tu C r c = some (C (r * 4 + c)) := by
  unfold us_tu at h ⊢
  by_cases z : C (r * 4 + 3) &&& us_m c = 0
  · exact absurd (if_pos z) h
  · exact if_neg z
theorem us_close {C : Nat → Int32} {n r : Nat} (hr : r < n) : us_eq (n - 1) (us_tu (va_cpy C C ((r + 1) * 4) (r * 4) ((n - r - 1) * 4))) (us_del (us_tu C) r) := by
  intro i c hi hc
  unfold us_del
  by_cases h : i < r
  · rw [if_pos h]
    exact us_tu_at (fun d hd => pk_cpy_out (Or.inl (by omega))) hc
  · rw [if_neg h]
    exact us_tu_at (fun d hd => by rw [pk_cpy_in (by omega) (by omega)]; congr 1; omega) hc
theorem us_open {C B : Nat → Int32} {n r j : Nat} (hr : r ≤ n) : us_eq (n + 1) (us_tu (va_cpy B (va_cpy C C (r * 4) ((r + 1) * 4) ((n - r) * 4)) (j * 4) (r * 4) 4)) (us_ins (us_tu C) r (us_tu B j)) := by
  intro i c hi hc
  unfold us_ins
  by_cases h : i < r
  · rw [if_pos h]
    exact us_tu_at (fun d hd => by rw [pk_cpy_out (Or.inl (by omega)), pk_cpy_out (Or.inl (by omega))]) hc
  · rw [if_neg h]
    by_cases h2 : i = r
    · rw [if_pos h2]
      subst h2
      exact us_tu_at (fun d hd => by rw [pk_cpy_in (by omega) (by omega)]; congr 1; omega) hc
    · rw [if_neg h2]
      exact us_tu_at (fun d hd => by rw [pk_cpy_out (Or.inr (by omega)), pk_cpy_in (by omega) (by omega)]; congr 1; omega) hc
theorem us_back1 {C B : Nat → Int32} {n r j : Nat} : us_eq n (us_tu (va_cpy B C (j * 4) (r * 4) 4)) (us_set (us_tu C) r (us_tu B j)) := by
  intro i c hi hc
  unfold us_set
  by_cases h : i = r
  · rw [if_pos h]
    subst h
    exact us_tu_at (fun d hd => by rw [pk_cpy_in (by omega) (by omega)]; congr 1; omega) hc
  · rw [if_neg h]
    exact us_tu_at (fun d hd => pk_cpy_out (by omega)) hc
theorem us_keep_new {C B : Nat → Int32} {r k c : Nat} (hc : c < 3) : us_tu (va_cpy C B (r * 4) (k * 4) 4) k c = us_tu C r c :=
  us_tu_at (fun d hd => by rw [pk_cpy_in (by omega) (by omega)]; congr 1; omega) hc
theorem us_keep_old {C B : Nat → Int32} {r k j c : Nat} (hj : j < k) (hc : c < 3) : us_tu (va_cpy C B (r * 4) (k * 4) 4) j c = us_tu B j c :=
  us_tu_at (fun d hd => pk_cpy_out (Or.inl (by omega))) hc
theorem us_set_eq {n r : Nat} {T T' : us_T} {w w' : Nat → Option Int32} (h : us_eq n T T') (hw : ∀ c, c < 3 → w c = w' c) : us_eq n (us_set T r w) (us_set T' r w') := by
  intro i c hi hc
  unfold us_set
  by_cases e : i = r
  · rw [if_pos e, if_pos e, hw c hc]
  · rw [if_neg e, if_neg e, h i c hi hc]
theorem us_ins_eq {n r : Nat} {T T' : us_T} {w w' : Nat → Option Int32} (hr : r ≤ n) (h : us_eq n T T') (hw : ∀ c, c < 3 → w c = w' c) : us_eq (n + 1) (us_ins T r w) (us_ins T' r w') := by
  intro i c hi hc
  unfold us_ins
  by_cases e : i < r
  · rw [if_pos e, if_pos e, h i c (by omega) hc]
  · rw [if_neg e, if_neg e]
    by_cases e2 : i = r
    · rw [if_pos e2, if_pos e2, hw c hc]
    · rw [if_neg e2, if_neg e2, h (i - 1) c (by omega) hc]
theorem us_del_eq {n r : Nat} {T T' : us_T} (h : us_eq n T T') : us_eq (n - 1) (us_del T r) (us_del T' r) := by
  intro i c hi hc
  unfold us_del
  by_cases e : i < r
  · rw [if_pos e, if_pos e, h i c (by omega) hc]
  · rw [if_neg e, if_neg e, h (i + 1) c (by omega) hc]
theorem us_undo.eq {kd rw : Int32} {w w' : Nat → Option Int32} {n1 n0 : Nat} {T1 T1' T0 : us_T} (hw : ∀ c, c < 3 → w c = w' c) (h1 : us_eq n1 T1 T1') (u : us_undo kd rw w n1 T1 n0 T0) : us_undo kd rw w' n1 T1' n0 T0 := by
  rcases u with ⟨a, b, c, d⟩ | ⟨a, b, r, c, d, e⟩ | ⟨a, b, c, r, d, e, f⟩
  · exact Or.inl ⟨a, b, c, (h1.le (by omega)).sy.tr d⟩
  · subst b
    exact Or.inr (Or.inl ⟨a, rfl, r, c, d, (us_set_eq h1.sy (fun c hc => (hw c hc).symm)).tr e⟩)
  · subst b
    exact Or.inr (Or.inr ⟨a, rfl, c, r, d, e, (us_ins_eq (by omega) h1.sy (fun c hc => (hw c hc).symm)).tr f⟩)
theorem us_undo.le {kd rw : Int32} {w : Nat → Option Int32} {n1 n0 : Nat} {T1 T0 : us_T} (u : us_undo kd rw w n1 T1 n0 T0) (h : n1 ≤ 120) : n0 ≤ 120 := by
  rcases u with ⟨a, b, c, d⟩ | ⟨a, b, r, c, d, e⟩ | ⟨a, b, c, r, d, e, f⟩ <;> omega
theorem us_log.le {k : Nat} {CK CR CB : Nat → Int32} {hn : Nat → Nat} {hT : Nat → us_T} (h : us_log k CK CR CB hn hT) (hk : hn k ≤ 120) : ∀ d j, j + d = k → hn j ≤ 120
  | 0, j, e => by rw [show j = k by omega]; exact hk
  | d + 1, j, e => (h j (by omega)).le (us_log.le h hk d (j + 1) (by omega))
