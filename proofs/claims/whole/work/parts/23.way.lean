/-- the left: the greatest power of two that is less -/
def lft (n : Nat) : Nat := 2 ^ Nat.log2 (n - 1)
theorem lft_is {n a : Nat} (h1 : n ≤ 2 * 2 ^ a) (h2 : a = 0 ∨ 2 ^ a < n) : lft n = 2 ^ a := by
  unfold lft
  by_cases hn : n - 1 = 0
  · rcases h2 with h2 | h2
    · subst h2
      rw [hn]
      rfl
    · have : 0 < 2 ^ a := Nat.pow_pos (by decide)
      omega
  · congr 1
    rw [Nat.log2_eq_iff hn]
    refine ⟨?_, by rw [Nat.pow_succ]; omega⟩
    rcases h2 with h2 | h2
    · subst h2
      show 1 ≤ n - 1
      omega
    · omega
theorem lft_pos (n : Nat) : 0 < lft n := Nat.pow_pos (by decide)
theorem lft_ex (n : Nat) : ∃ a, lft n = 2 ^ a ∧ n ≤ 2 * 2 ^ a ∧ (a = 0 ∨ 2 ^ a < n) := by
  refine ⟨Nat.log2 (n - 1), rfl, ?_, ?_⟩
  · by_cases hn : n - 1 = 0
    · have : 0 < 2 ^ Nat.log2 (n - 1) := Nat.pow_pos (by decide)
      omega
    · have := (Nat.log2_eq_iff hn (k := Nat.log2 (n - 1))).mp rfl
      rw [Nat.pow_succ] at this
      omega
  · by_cases hn : n - 1 = 0
    · left
      rw [hn]
      rfl
    · right
      have := (Nat.log2_eq_iff hn (k := Nat.log2 (n - 1))).mp rfl
      omega
theorem lft_lt {n : Nat} (h : 1 < n) : lft n < n := by
  obtain ⟨a, e, h1, h2⟩ := lft_ex n
  rw [e]
  rcases h2 with h2 | h2
  · subst h2
    exact h
  · exact h2
theorem lft_half (n : Nat) : n ≤ 2 * lft n := by
  obtain ⟨a, e, h1, h2⟩ := lft_ex n
  rw [e]
  exact h1
theorem lft_le {n k : Nat} (h : n ≤ 2 ^ (k + 1)) : lft n ≤ 2 ^ k := by
  obtain ⟨a, e, h1, h2⟩ := lft_ex n
  rw [e]
  rcases h2 with h2 | h2
  · subst h2
    exact Nat.pow_pos (by decide)
  · have : a < k + 1 := (Nat.pow_lt_pow_iff_right (by decide : 1 < 2)).mp (Nat.lt_of_lt_of_le h2 h)
    exact Nat.pow_le_pow_right (by decide) (by omega)
/-- the way down to chunk c of n: the first chunk and the number of those that are left -/
def wyS (c n : Nat) : Nat → Nat × Nat
  | 0 => (0, n)
  | i + 1 => if c < (wyS c n i).1 + lft (wyS c n i).2 then ((wyS c n i).1, lft (wyS c n i).2) else ((wyS c n i).1 + lft (wyS c n i).2, (wyS c n i).2 - lft (wyS c n i).2)
def wyF (c n i : Nat) : Nat := if c < (wyS c n i).1 + lft (wyS c n i).2 then (wyS c n i).1 + lft (wyS c n i).2 else (wyS c n i).1
def wyC (c n i : Nat) : Nat := if c < (wyS c n i).1 + lft (wyS c n i).2 then (wyS c n i).2 - lft (wyS c n i).2 else lft (wyS c n i).2
/-- how long the way is -/
def wyL (c n L : Nat) : Prop := (wyS c n L).2 ≤ 1 ∧ ∀ i, i < L → 1 < (wyS c n i).2
theorem wyS_l {c n i fi nu : Nat} (h : wyS c n i = (fi, nu)) (hc : c < fi + lft nu) : wyS c n (i + 1) = (fi, lft nu) ∧ wyF c n i = fi + lft nu ∧ wyC c n i = nu - lft nu := by
  refine ⟨?_, ?_, ?_⟩
  · show (if _ then _ else _) = _
    rw [h, if_pos hc]
  · unfold wyF
    rw [h, if_pos hc]
  · unfold wyC
    rw [h, if_pos hc]
theorem wyS_r {c n i fi nu : Nat} (h : wyS c n i = (fi, nu)) (hc : fi + lft nu ≤ c) : wyS c n (i + 1) = (fi + lft nu, nu - lft nu) ∧ wyF c n i = fi ∧ wyC c n i = lft nu := by
  refine ⟨?_, ?_, ?_⟩
  · show (if _ then _ else _) = _
    rw [h, if_neg (Nat.not_lt.mpr hc)]
  · unfold wyF
    rw [h, if_neg (Nat.not_lt.mpr hc)]
  · unfold wyC
    rw [h, if_neg (Nat.not_lt.mpr hc)]
theorem wyS_p {c n k : Nat} (hn : n ≤ 2 ^ k) : ∀ {i : Nat}, i ≤ k → (wyS c n i).2 ≤ 2 ^ (k - i)
  | 0, _ => hn
  | i + 1, hi => by
    have ih := wyS_p (c := c) hn (i := i) (by omega)
    have e : k - i = (k - (i + 1)) + 1 := by omega
    rw [e] at ih
    have h1 := lft_le ih
    have h2 := lft_half (wyS c n i).2
    show (if _ then _ else _ : Nat × Nat).2 ≤ _
    split
    · exact h1
    · show (wyS c n i).2 - lft (wyS c n i).2 ≤ _
      omega
theorem wyS_b {c n : Nat} (hc : c < n) : ∀ (i : Nat), (wyS c n i).1 + (wyS c n i).2 ≤ n ∧ (wyS c n i).1 ≤ c ∧ c < (wyS c n i).1 + (wyS c n i).2
  | 0 => ⟨by show 0 + n ≤ n; omega, Nat.zero_le _, by show c < 0 + n; omega⟩
  | i + 1 => by
    have ih := wyS_b hc i
    have h2 : lft (wyS c n i).2 ≤ (wyS c n i).2 := by
      by_cases q : 1 < (wyS c n i).2
      · exact Nat.le_of_lt (lft_lt q)
      · have e : (wyS c n i).2 = 1 := by omega
        rw [e]
        decide
    by_cases q : c < (wyS c n i).1 + lft (wyS c n i).2
    · obtain ⟨e, -, -⟩ := wyS_l (c := c) (n := n) (i := i) rfl q
      rw [e]
      exact ⟨by show (wyS c n i).1 + lft (wyS c n i).2 ≤ n; omega, ih.2.1, q⟩
    · obtain ⟨e, -, -⟩ := wyS_r (c := c) (n := n) (i := i) rfl (Nat.not_lt.mp q)
      rw [e]
      exact ⟨by show (wyS c n i).1 + lft (wyS c n i).2 + ((wyS c n i).2 - lft (wyS c n i).2) ≤ n; omega, Nat.not_lt.mp q, by show c < (wyS c n i).1 + lft (wyS c n i).2 + ((wyS c n i).2 - lft (wyS c n i).2); omega⟩
theorem wyL_le {c n k L : Nat} (hn : n ≤ 2 ^ k) (h : wyL c n L) : L ≤ k := by
  rcases Nat.lt_or_ge k L with q | q
  · have h1 := h.2 k q
    have h2 := wyS_p (c := c) hn (i := k) (Nat.le_refl k)
    rw [Nat.sub_self] at h2
    omega
  · exact q
theorem wyL_one {c n L M : Nat} (h : wyL c n L) (h2 : wyL c n M) : L = M := by
  rcases Nat.lt_trichotomy L M with q | q | q
  · exact absurd (h2.2 L q) (Nat.not_lt.mpr h.1)
  · exact q
  · exact absurd (h.2 M q) (Nat.not_lt.mpr h2.1)
/-- what the other side is, at each parent of the way -/
theorem wy_other {c n L : Nat} (hc : c < n) (h : wyL c n L) {i : Nat} (hi : i < L) : wyF c n i + wyC c n i ≤ n ∧ 0 < wyC c n i ∧ (wyF c n i < c ↔ ¬ c < (wyS c n i).1 + lft (wyS c n i).2) := by
  have hb := wyS_b hc i
  have h1 := h.2 i hi
  have h2 := lft_lt h1
  have h3 := lft_pos (wyS c n i).2
  by_cases q : c < (wyS c n i).1 + lft (wyS c n i).2
  · obtain ⟨-, e1, e2⟩ := wyS_l (c := c) (n := n) (i := i) rfl q
    rw [e1, e2]
    omega
  · obtain ⟨-, e1, e2⟩ := wyS_r (c := c) (n := n) (i := i) rfl (Nat.not_lt.mp q)
    rw [e1, e2]
    omega
/-- up the way: the other chains rd, the nodes -/
def clb (oF : Nat → Nat) (c : Nat) (rd : Nat → Nat → Int32) : Nat → Nd → Nd
  | 0, N => N
  | L + 1, N => clb oF c rd L (stA, if oF L < c then jn (rd L) (mx N) else jn (mx N) (rd L), lN 0, nI 64, nI 0 + nI 4)
theorem clb_s {oF : Nat → Nat} {c : Nat} {rd : Nat → Nat → Int32} {N : Nd} : ∀ {d : Nat}, 0 < d → clb oF c rd d N = clb oF c rd (d - 1) (stA, if oF (d - 1) < c then jn (rd (d - 1)) (mx N) else jn (mx N) (rd (d - 1)), lN 0, nI 64, nI 0 + nI 4)
  | d + 1, _ => rfl
theorem SKr_0 {sf : Nat → Int32} {S : Nat → Nat → Int32} : SKr sf S (hdp 0) := fun i hi => absurd hi (Nat.not_lt_zero i)
theorem hdp_5 {t : Nat} (h : t ≤ 40000) : hdp t ≤ 5 := pcn_40 _ (by unfold clo; omega)
