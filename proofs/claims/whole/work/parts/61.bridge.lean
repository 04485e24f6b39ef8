theorem lo_b8 (x : Int32) : b8 x &&& 255 = x &&& 255 := bp_b x
theorem and255_2 (x : Int32) : (x &&& 255) &&& 255 = x &&& 255 := and255 x
theorem oby_255 (v : Nat → Int32) (q : Nat) : oby v q &&& 255 = oby v q := and255_2 _
theorem bt_l2i (x : Int64) {i : Nat} (hi : i < 32) : bt x.toInt32 i = x.toBitVec.getLsbD i := by
  show (x.toBitVec.signExtend 32).getLsbD i = _
  rw [BitVec.getLsbD_signExtend]
  simp [hi, show i < 64 from by omega]
theorem sh64 : ∀ i, i < 8 → ((nI (8 * i)).toInt64 &&& 63) = Int64.ofNat (8 * i) ∧ ((nI (8 * i)).toInt64.toUInt64 &&& Int64.toUInt64 63) = UInt64.ofNat (8 * i) ∧ ((Int64.ofNat (8 * i)).toBitVec.smod 64).toNat = 8 * i ∧ ((UInt64.ofNat (8 * i)).toBitVec % 64).toNat = 8 * i := by decide +kernel
theorem add_byte (w0 : Int64) {i : Nat} (hi : i < 8) : b8 ((w0.toUInt64 >>> ((nI (8 * i)).toInt64.toUInt64 &&& Int64.toUInt64 63)).toInt64).toInt32 &&& 255 = mB w0 i := by
  rw [lo_b8]
  obtain ⟨e1, e2, e3, e4⟩ := sh64 i hi
  unfold mB
  rw [e1, e2]
  apply b_ext
  intro j hj
  rw [b_and, b_255, bt_l2i _ hj, bt_l2i _ hj, Int64.toBitVec_and, BitVec.getLsbD_and]
  have h1 : (w0.toUInt64 >>> UInt64.ofNat (8 * i)).toInt64.toBitVec.getLsbD j = w0.toBitVec.getLsbD (8 * i + j) := by
    show (w0.toUInt64 >>> UInt64.ofNat (8 * i)).toBitVec.getLsbD j = _
    rw [UInt64.toBitVec_shiftRight]
    show (w0.toBitVec >>> ((UInt64.ofNat (8 * i)).toBitVec % 64)).getLsbD j = _
    rw [BitVec.ushiftRight_eq', BitVec.getLsbD_ushiftRight, e4]
  have h2 : (w0 >>> Int64.ofNat (8 * i)).toBitVec = w0.toBitVec.sshiftRight (8 * i) := by
    rw [Int64.toBitVec_shiftRight, BitVec.sshiftRight_eq', e3]
  rw [h1, h2, BitVec.getLsbD_sshiftRight]
  by_cases h8 : j < 8
  · have h3 : 8 * i + j < 64 := by omega
    have h4 : (255 : Int64).toBitVec.getLsbD j = true := by
      rcases (show j = 0 ∨ j = 1 ∨ j = 2 ∨ j = 3 ∨ j = 4 ∨ j = 5 ∨ j = 6 ∨ j = 7 by omega) with rfl | rfl | rfl | rfl | rfl | rfl | rfl | rfl <;> decide
    rw [h4, if_pos h3]
    have h5 : ¬ 64 ≤ j := by omega
    simp only [h8, h5, decide_true, decide_false, Bool.not_false, Bool.and_true, Bool.true_and]
  · have h4 : (255 : Int64).toBitVec.getLsbD j = false := by
      have : ∀ j, j < 32 → ¬ j < 8 → (255 : Int64).toBitVec.getLsbD j = false := by decide +kernel
      exact this j hj h8
    rw [h4]
    simp only [h8, decide_false, Bool.and_false]
theorem k255 : ∀ k, k < 256 → nI k &&& 255 = nI k := by decide +kernel
theorem xor_byte (x : Int32) {k : Nat} (hk : k ≤ 255) : b8 (x ^^^ nI k) &&& 255 = (x &&& 255) ^^^ nI k := by
  rw [lo_b8]
  have h := k255 k (by omega)
  apply b_ext
  intro j hj
  rw [b_and, b_xor, b_xor, b_and, ← h, b_and]
  cases bt x j <;> cases bt (nI k) j <;> cases bt 255 j <;> rfl
/-! flags: 8 more by 'or' and by a sum -/
theorem upN_fl {K : Nat → Int32} {bs : Int32} {S : Nat → Nat → Int32} : ∀ (d : Nat) (N : Nd), (upN K bs S d N).2.2.2.2 = N.2.2.2.2 ∨ (upN K bs S d N).2.2.2.2 = bs + nI 4
  | 0, _ => Or.inl rfl
  | d + 1, N => by
    rcases upN_fl (K := K) (bs := bs) (S := S) d (K, jn (S d) (mx N), lN 0, nI 64, bs + nI 4) with h | h
    · exact Or.inr h
    · exact Or.inr h
theorem clb_fl {oF : Nat → Nat} {c : Nat} {rd : Nat → Nat → Int32} : ∀ (d : Nat) (N : Nd), (clb oF c rd d N).2.2.2.2 = N.2.2.2.2 ∨ (clb oF c rd d N).2.2.2.2 = nI 0 + nI 4
  | 0, _ => Or.inl rfl
  | d + 1, N => by
    rcases clb_fl (oF := oF) (c := c) (rd := rd) d (stA, if oF d < c then jn (rd d) (mx N) else jn (mx N) (rd d), lN 0, nI 64, nI 0 + nI 4) with h | h
    · exact Or.inr h
    · exact Or.inr h
theorem fst0_01 (b : Nat) : fst0 b = 0 ∨ fst0 b = 1 := by
  unfold fst0
  split
  · exact Or.inr rfl
  · exact Or.inl rfl
def bsK (bs : Int32) : Prop := bs = nI 0 ∨ bs = nI 16 ∨ bs = nI 32 ∨ bs = nI 64
theorem fl_or {bs : Int32} (h : bsK bs) (b : Nat) : ((bs + nI (fst0 b)) + nI 2) ||| nI 8 = ((bs + nI (fst0 b)) + nI 2) + nI 8 ∧ (bs + nI 4) ||| nI 8 = (bs + nI 4) + nI 8 := by
  rcases fst0_01 b with e | e <;> rw [e] <;> rcases h with rfl | rfl | rfl | rfl <;> exact ⟨by decide, by decide⟩
theorem rt_or {K g : Nat → Int32} {bs : Int32} {fc t : Nat} (h : bsK bs) : (rtN K bs g fc t).2.2.2.2 ||| nI 8 = (rtN K bs g fc t).2.2.2.2 + nI 8 := by
  unfold rtN
  rcases upN_fl (K := K) (bs := bs) (S := skS K bs g fc (clo t)) (pcn (clo t)) (ndC K bs g (1024 * clo t) (fc + clo t) (t - 1024 * clo t)) with e | e
  · rw [e]
    exact (fl_or h _).1
  · rw [e]
    exact (fl_or h 0).2
theorem cl_or {oF : Nat → Nat} {c d : Nat} {rd : Nat → Nat → Int32} {g : Nat → Int32} {fc t : Nat} : (clb oF c rd d (rtN stA (nI 0) g fc t)).2.2.2.2 ||| nI 8 = (clb oF c rd d (rtN stA (nI 0) g fc t)).2.2.2.2 + nI 8 := by
  rcases clb_fl (oF := oF) (c := c) (rd := rd) d (rtN stA (nI 0) g fc t) with e | e
  · rw [e]
    exact rt_or (Or.inl rfl)
  · rw [e]
    decide
theorem bsO_K {m : Int32} (h : m = nI 0 ∨ m = nI 1 ∨ m = nI 2) : bsK (bsO m) := by
  rcases h with rfl | rfl | rfl
  · exact Or.inl rfl
  · exact Or.inr (Or.inl (by decide))
  · exact Or.inr (Or.inr (Or.inr (by decide)))
/-! a mix takes sixteen words of the block -/
theorem rnd_16 {v w w' : Nat → Int32} (h : ∀ k, k < 16 → w k = w' k) : rnd v w = rnd v w' := by
  unfold rnd
  rw [h 0 (by decide), h 1 (by decide), h 2 (by decide), h 3 (by decide), h 4 (by decide), h 5 (by decide), h 6 (by decide), h 7 (by decide), h 8 (by decide), h 9 (by decide), h 10 (by decide), h 11 (by decide), h 12 (by decide), h 13 (by decide), h 14 (by decide), h 15 (by decide)]
theorem wr_16 {bl bl' : Nat → Int32} (h : ∀ k, k < 16 → bl k = bl' k) : ∀ (i k : Nat), k < 16 → wr bl i k = wr bl' i k
  | 0, k, hk => h k hk
  | i + 1, k, _ => wr_16 h i (orN k) (orN_lt k)
theorem vr_16 {v bl bl' : Nat → Int32} (h : ∀ k, k < 16 → bl k = bl' k) : ∀ (i : Nat), vr v bl i = vr v bl' i
  | 0 => rfl
  | i + 1 => by
    show rnd (vr v bl i) (wr bl i) = rnd (vr v bl' i) (wr bl' i)
    rw [vr_16 h i]
    exact rnd_16 (wr_16 h i)
theorem mixV_16 {ch bl bl' : Nat → Int32} {ct : Int64} {ln fl : Int32} (h : ∀ k, k < 16 → bl k = bl' k) : mixV ch bl ct ln fl = mixV ch bl' ct ln fl := by
  unfold mixV
  rw [vr_16 h]
/-- nodes that mix alike -/
def ndE (N M : Nd) : Prop := N.1 = M.1 ∧ (∀ k, k < 16 → N.2.1 k = M.2.1 k) ∧ N.2.2 = M.2.2
theorem ndE_mx {N M : Nd} (h : ndE N M) : mx N = mx M := by
  obtain ⟨n1, n2, n3, n4, n5⟩ := N
  obtain ⟨m1, m2, m3, m4, m5⟩ := M
  obtain ⟨h1, h2, h3⟩ := h
  dsimp only at h1 h2 h3
  cases h3
  subst h1
  exact mixV_16 h2
theorem clb_E {oF : Nat → Nat} {c : Nat} {rd rd' : Nat → Nat → Int32} : ∀ (d : Nat) (N M : Nd), ndE N M → (∀ L, L < d → ∀ k, k < 8 → rd L k = rd' L k) → ndE (clb oF c rd d N) (clb oF c rd' d M)
  | 0, _, _, h, _ => h
  | d + 1, N, M, h, hr => by
    refine clb_E d _ _ ⟨rfl, ?_, rfl⟩ (fun L hL => hr L (by omega))
    show ∀ k, k < 16 → (if oF d < c then jn (rd d) (mx N) else jn (mx N) (rd d)) k = (if oF d < c then jn (rd' d) (mx M) else jn (mx M) (rd' d)) k
    rw [ndE_mx h]
    split
    · exact jn_ext (hr d (by omega)) (fun _ _ => rfl)
    · exact jn_ext (fun _ _ => rfl) (hr d (by omega))
theorem wrd_congr {g g' : Nat → Int32} {a b : Nat} (h : ∀ k, k < 4 → g (a + k) = g' (b + k)) : wrd g a = wrd g' b := by
  unfold wrd
  rw [show g a = g' b from h 0 (by decide), h 1 (by decide), h 2 (by decide), h 3 (by decide)]
/-- one chunk alone -/
theorem rt_one {K g : Nat → Int32} {bs : Int32} {fc t : Nat} (h : t ≤ 1024) : rtN K bs g fc t = ndC K bs g 0 fc t := by
  have e : clo t = 0 := by unfold clo; omega
  unfold rtN
  rw [e]
  rfl
