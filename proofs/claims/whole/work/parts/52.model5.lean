/-- 1: the chunk is on the left -/
def lf01 (c n i : Nat) : Nat := if c < (wyS c n i).1 + lft (wyS c n i).2 then 1 else 0
theorem lf01_l {c n i fi nu : Nat} (h : wyS c n i = (fi, nu)) (hc : c < fi + lft nu) : nI 1 = nI (lf01 c n i) := by
  unfold lf01
  rw [h, if_pos hc]
theorem lf01_r {c n i fi nu : Nat} (h : wyS c n i = (fi, nu)) (hc : fi + lft nu ≤ c) : nI 0 = nI (lf01 c n i) := by
  unfold lf01
  rw [h, if_neg (Nat.not_lt.mpr hc)]
theorem lf01_F {c n L i : Nat} (hc : c < n) (h : wyL c n L) (hi : i < L) : (lf01 c n i = 0 ↔ wyF c n i < c) := by
  have ho := (wy_other hc h hi).2.2
  rw [ho]
  unfold lf01
  split <;> simp_all
theorem lf01_le (c n i : Nat) : lf01 c n i ≤ 1 := by
  unfold lf01
  split <;> decide
theorem jn_if {p : Prop} [Decidable p] {a b : Nat → Int32} : jn (fun k => if p then a k else b k) (fun k => if p then b k else a k) = if p then jn a b else jn b a := by
  by_cases h : p
  · simp only [if_pos h]
  · simp only [if_neg h]
/-- bytes of the other side, by the model's words -/
theorem tT_oln {n first many : Nat} (h : first + many ≤ chks n) (hm : 0 < many) : tT n first (first + many) = oln n first many := by
  have h1 := first_le h hm
  unfold tT oln cln
  unfold chks at h
  split at h
  · have e : first = 0 := by omega
    have e2 : many = 1 := by omega
    subst e e2
    rename_i hn
    subst hn
    rfl
  · split <;> split <;> omega
