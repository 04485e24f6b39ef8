def hbk (t : Nat) : Nat := bko (t - 1024 * clo t)
def hib (t : Nat) : Nat := t - 1024 * clo t - 64 * hbk t
def hdp (t : Nat) : Nat := pcn (clo t)
def hcf (K : Nat → Int32) (bs : Int32) (g : Nat → Int32) (fc t : Nat) : Nat → Int32 := ccv K bs g (1024 * clo t) (fc + clo t) (hbk t)
def hbf (g : Nat → Int32) (t : Nat) : Nat → Int32 := bwI g (1024 * clo t + 64 * hbk t) (hib t)
theorem h_nums (t : Nat) : 1024 * clo t + 64 * hbk t + hib t = t ∧ hib t ≤ 64 ∧ hbk t ≤ 15 := by
  unfold hib hbk bko clo
  omega
theorem h_a {t : Nat} (h : hib t ≠ 64) : clo (t + 1) = clo t ∧ hbk (t + 1) = hbk t ∧ hib (t + 1) = hib t + 1 := by
  revert h
  unfold hib hbk bko clo
  omega
theorem h_b {t : Nat} (h : hib t = 64) (h2 : hbk t ≠ 15) : clo (t + 1) = clo t ∧ hbk (t + 1) = hbk t + 1 ∧ hib (t + 1) = 1 := by
  revert h h2
  unfold hib hbk bko clo
  omega
theorem h_c {t : Nat} (h : hib t = 64) (h2 : hbk t = 15) : clo (t + 1) = clo t + 1 ∧ hbk (t + 1) = 0 ∧ hib (t + 1) = 1 ∧ t = 1024 * (clo t + 1) := by
  revert h h2
  unfold hib hbk bko clo
  omega
theorem h_a5 {g : Nat → Int32} {t : Nat} (h : hib t ≠ 64) : hbf g (t + 1) = upd (hbf g t) (hib t / 2 ^ 2) (hbf g t (hib t / 2 ^ 2) ||| (g t <<< (nI (8 * (hib t % 2 ^ 2)) &&& 31))) := by
  obtain ⟨e1, e2, e3⟩ := h_a h
  have e4 := (h_nums t).1
  show bwI g (1024 * clo (t + 1) + 64 * hbk (t + 1)) (hib (t + 1)) = _
  rw [e1, e2, e3]
  show upd _ _ _ = _
  rw [e4]
  rfl
theorem h_a4 {K : Nat → Int32} {bs : Int32} {g : Nat → Int32} {fc t : Nat} (h : hib t ≠ 64) : hcf K bs g fc (t + 1) = hcf K bs g fc t := by
  obtain ⟨e1, e2, e3⟩ := h_a h
  unfold hcf
  rw [e1, e2]
theorem h_b5 {g : Nat → Int32} {t : Nat} (h : hib (t + 1) = 1) : hbf g (t + 1) = upd (fun _ => nI 0) (0 / 2 ^ 2) ((fun _ => nI 0) (0 / 2 ^ 2) ||| (g t <<< (nI (8 * (0 % 2 ^ 2)) &&& 31))) := by
  have e4 := (h_nums (t + 1)).1
  unfold hbf
  rw [h] at e4 ⊢
  show upd _ _ _ = _
  rw [show 1024 * clo (t + 1) + 64 * hbk (t + 1) + 0 = t from by omega]
  rfl
theorem h_b4 {K : Nat → Int32} {bs : Int32} {g : Nat → Int32} {fc t : Nat} (h : hib t = 64) (h2 : hbk t ≠ 15) : hcf K bs g fc (t + 1) = mixV (hcf K bs g fc t) (hbf g t) (lN (fc + clo t)) (nI (hib t)) ((bs + nI (fst0 (hbk t))) + nI 0) := by
  obtain ⟨e1, e2, e3⟩ := h_b h h2
  unfold hcf hbf
  rw [e1, e2, h]
  rfl
theorem h_c4 {K : Nat → Int32} {bs : Int32} {g : Nat → Int32} {fc t : Nat} (h : hib t = 64) (h2 : hbk t = 15) : hcf K bs g fc (t + 1) = K := by
  obtain ⟨e1, e2, e3, -⟩ := h_c h h2
  unfold hcf
  rw [e2]
  rfl
/-- what a chunk's close mixes is the chunk's chain -/
theorem h_cV {K : Nat → Int32} {bs : Int32} {g : Nat → Int32} {fc t : Nat} (h : hib t = 64) (h2 : hbk t = 15) : mixV (hcf K bs g fc t) (hbf g t) (lN (fc + clo t)) (nI (hib t)) ((bs + nI (fst0 (hbk t))) + nI 2) = chC K bs g fc (clo t) := by
  unfold hcf hbf
  rw [h, h2]
  rfl
theorem h_cR {K : Nat → Int32} {bs : Int32} {g : Nat → Int32} {fc t : Nat} (h : hib t = 64) (h2 : hbk t = 15) (ht : t < 2 ^ 19) : hdp (t + 1) = (mg K bs (skS K bs g fc (clo t)) (hdp t) (clo t + 1) (mixV (hcf K bs g fc t) (hbf g t) (lN (fc + clo t)) (nI (hib t)) ((bs + nI (fst0 (hbk t))) + nI 2))).1 + 1 ∧ skS K bs g fc (clo (t + 1)) = fun i => if i = (mg K bs (skS K bs g fc (clo t)) (hdp t) (clo t + 1) (mixV (hcf K bs g fc t) (hbf g t) (lN (fc + clo t)) (nI (hib t)) ((bs + nI (fst0 (hbk t))) + nI 2))).1 then (mg K bs (skS K bs g fc (clo t)) (hdp t) (clo t + 1) (mixV (hcf K bs g fc t) (hbf g t) (lN (fc + clo t)) (nI (hib t)) ((bs + nI (fst0 (hbk t))) + nI 2))).2 else skS K bs g fc (clo t) i := by
  obtain ⟨e1, -, -, e4⟩ := h_c h h2
  rw [h_cV h h2]
  have e := skN_pc (K := K) (bs := bs) (C := chC K bs g fc) (clo t) (by omega)
  constructor
  · unfold hdp
    rw [e1, ← skN_pc (K := K) (bs := bs) (C := chC K bs g fc) (clo t + 1) (by omega)]
    show (mg _ _ _ (skN K bs (chC K bs g fc) (clo t)).1 _ _).1 + 1 = _
    rw [e]
    rfl
  · rw [e1]
    show (fun i => if i = (mg _ _ _ (skN K bs (chC K bs g fc) (clo t)).1 _ _).1 then (mg _ _ _ (skN K bs (chC K bs g fc) (clo t)).1 _ _).2 else _) = _
    rw [e]
    rfl
theorem SKr_push {sf v : Nat → Int32} {S : Nat → Nat → Int32} {d dp : Nat} (h : SKr sf S dp) (hd : d ≤ dp) : SKr (apG sf (d * 8) v 8) (fun i => if i = d then v else S i) (d + 1) := by
  intro i hi k hk
  show apG sf (d * 8) v 8 (i * 8 + k) = (if i = d then v else S i) k
  unfold apG
  by_cases e : i = d
  · subst e
    rw [if_pos (by omega), if_pos rfl, Nat.add_sub_cancel_left]
  · rw [if_neg (by omega), if_neg e]
    exact h i (by omega) k hk
theorem and255 (x : Int32) : (x &&& 255) &&& nI 255 = x &&& 255 := by
  apply b_ext
  intro i hi
  rw [b_and, b_and, show nI 255 = (255 : Int32) from rfl]
  cases bt x i <;> cases bt 255 i <;> rfl
theorem sub1_neg {d : Nat} (hd : d < 2 ^ 30) (h : nI d - nI 1 < 0) : d = 0 := by
  rcases Nat.eq_zero_or_pos d with z | z
  · exact z
  · rw [pk_sub (by omega)] at h
    exact absurd h (nI_pos (by omega))
theorem sub1_pos {d : Nat} (h : ¬ nI d - nI 1 < 0) : 0 < d := by
  rcases Nat.eq_zero_or_pos d with z | z
  · subst z
    exact absurd (pk_sneg (by decide) (by decide)) h
  · exact z
theorem dec1 (x : Int32) : x + Int32.ofInt (-1) = x - nI 1 := by
  rw [Int32.sub_eq_add_neg]
  rfl
theorem upN_s {K : Nat → Int32} {bs : Int32} {S : Nat → Nat → Int32} {N : Nd} : ∀ {d : Nat}, 0 < d → upN K bs S d N = upN K bs S (d - 1) (K, jn (S (d - 1)) (mx N), lN 0, nI 64, bs + nI 4)
  | d + 1, _ => rfl
