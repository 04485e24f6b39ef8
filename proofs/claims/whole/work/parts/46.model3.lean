theorem upd_upd (f : Nat → Int32) (k : Nat) (x y : Int32) : upd (upd f k x) k y = upd f k y := by
  funext j
  unfold upd
  split <;> rfl
theorem upd_same {f : Nat → Int32} {k : Nat} {x : Int32} (h : f k = x) : upd f k x = f := by
  rw [← h]
  exact upd_self f k
theorem chC_mt {K mt g : Nat → Int32} {be : Int32} {off m : Nat} (h : ∀ i, i < 1024 * (m + 1) → mt (off + i) = g i) : mx (ndC K be mt (off + 1024 * m) m 1024) = chC K be g 0 m := by
  unfold chC
  rw [Nat.zero_add, ndC_congr (K := K) (bs := be) (g := mt) (g' := g) (a := off + 1024 * m) (a' := 1024 * m) (nu := m) (n := 1024) (fun k hk => by rw [Nat.add_assoc]; exact h _ (by omega))]
theorem rtN_mt {K mt g : Nat → Int32} {be : Int32} {off t : Nat} (h : ∀ i, i < t → mt (off + i) = g i) : upN K be (skS K be g 0 (clo t)) (pcn (clo t)) (ndC K be mt (off + 1024 * clo t) (clo t) (t - 1024 * clo t)) = rtN K be g 0 t := by
  have hc : 1024 * clo t ≤ t := by unfold clo; omega
  rw [← rtN_of (K := K) (bs := be) (g := g) (fc := 0) (T := t) rfl, Nat.zero_add, ndC_congr (K := K) (bs := be) (g := mt) (g' := g) (a := off + 1024 * clo t) (a' := 1024 * clo t) (nu := clo t) (n := t - 1024 * clo t) (fun k hk => by rw [Nat.add_assoc]; exact h _ (by omega))]
theorem clo_mul (t : Nat) : 1024 * clo t ≤ t := by
  unfold clo
  omega
theorem apG_out {f h : Nat → Int32} {c n x : Nat} (hx : x < c ∨ c + n ≤ x) : apG f c h n x = f x := by
  unfold apG
  rw [if_neg (by omega)]
theorem apG_in {f h : Nat → Int32} {c n k : Nat} (hk : k < n) : apG f c h n (c + k) = h k := by
  unfold apG
  rw [if_pos (by omega), Nat.add_sub_cancel_left]
/-- what the model takes of a told number -/
def mB (w0 : Int64) (i : Nat) : Int32 := ((w0 >>> ((nI (8 * i)).toInt64 &&& 63)) &&& (255 : Int64)).toInt32
theorem pcn_loop {left : Nat} (h : 0 < left) (hl : left < 2 ^ 19) : pcn left = left % 2 + pcn (left / 2) := by
  rcases Nat.mod_two_eq_zero_or_one left with q | q
  · have e : left = 2 * (left / 2) := by omega
    conv => lhs; rw [e]
    rw [pcn_2 (by omega), q, Nat.zero_add]
  · have e : left = 2 * (left / 2) + 1 := by omega
    conv => lhs; rw [e]
    rw [pcn_21 (by omega), q, Nat.add_comm]
