set_option maxRecDepth 100000 in
theorem tn_model {v : Nat → Int32} {a b c d : Nat} {x y a1 d1 c1 b1 a2 d2 c2 b2 : Int32} (hab : a ≠ b) (hac : a ≠ c) (had : a ≠ d) (hbc : b ≠ c) (hbd : b ≠ d) (hcd : c ≠ d)
    (e1 : a1 = v a + (v b + x)) (e2 : d1 = rot (v d ^^^ a1) 16) (e3 : c1 = v c + d1) (e4 : b1 = rot (v b ^^^ c1) 12) (e5 : a2 = a1 + (b1 + y)) (e6 : d2 = rot (d1 ^^^ a2) 8) (e7 : c2 = c1 + d2) (e8 : b2 = rot (b1 ^^^ c2) 7) :
    upd (upd (upd (upd (upd (upd (upd (upd v a a1) d d1) c c1) b b1) a a2) d d2) c c2) b b2 = tn v a b c d x y := by
  have f1 : a1 = (v a + v b) + x := by rw [e1, Int32.add_assoc]
  have e : tn v a b c d x y = upd (upd (upd (upd v a a2) b b2) c c2) d d2 := by
    subst e8 e7 e6 e5 e4 e3 e2
    rw [f1]
    rfl
  rw [e]
  funext k
  by_cases k1 : k = b
  · subst k1
    rw [pk_us, pk_un hbd, pk_un hbc, pk_us]
  · rw [pk_un k1]
    by_cases k2 : k = c
    · subst k2
      rw [pk_us, pk_un hcd, pk_us]
    · rw [pk_un k2]
      by_cases k3 : k = d
      · subst k3
        rw [pk_us, pk_us]
      · rw [pk_un k3, pk_un k3, pk_un k2, pk_un k1]
        by_cases k4 : k = a
        · subst k4
          rw [pk_us, pk_us]
        · rw [pk_un k4, pk_un k1, pk_un k2, pk_un k3, pk_un k4, pk_un k4]
set_option maxRecDepth 100000 in
theorem hi32 (x : Int64) : (x >>> ((nI 32).toInt64 &&& 63)).toInt32 = (x.toUInt64 >>> ((nI 32).toInt64.toUInt64 &&& Int64.toUInt64 63)).toInt64.toInt32 := by
  apply Int32.toBitVec_inj.mp
  show (x >>> ((nI 32).toInt64 &&& 63)).toBitVec.signExtend 32 = ((x.toUInt64 >>> ((nI 32).toInt64.toUInt64 &&& Int64.toUInt64 63)).toBitVec).signExtend 32
  rw [show ((nI 32).toInt64 &&& 63) = 32 from by decide, show ((nI 32).toInt64.toUInt64 &&& Int64.toUInt64 63) = 32 from by decide]
  apply BitVec.eq_of_getLsbD_eq
  intro i hi
  rw [BitVec.getLsbD_signExtend, BitVec.getLsbD_signExtend]
  have h1 : (x >>> (32 : Int64)).toBitVec = x.toBitVec.sshiftRight 32 := by
    rw [Int64.toBitVec_shiftRight]
    rfl
  have h2 : (x.toUInt64 >>> (32 : UInt64)).toBitVec = x.toBitVec >>> 32 := by
    rw [UInt64.toBitVec_shiftRight]
    rfl
  rw [h1, h2, BitVec.getLsbD_sshiftRight, BitVec.getLsbD_ushiftRight]
  have h3 : 32 + i < 64 := by omega
  simp [h3, hi, show i < 64 from by omega]
def stZ : Nat → Int32 := fun j => if j < 4 then stA j else nI 0
set_option maxRecDepth 100000 in
theorem vin_ok2 {v ch : Nat → Int32} {ct : Int64} {ln fl : Int32} : ∀ k, k < 16 → upd (upd (upd (upd (jnI v ch stZ 8) 12 ct.toInt32) 13 (ct >>> ((nI 32).toInt64 &&& 63)).toInt32) 14 ln) 15 fl k = vin ch ct ln fl k := by
  intro k hk
  rw [hi32]
  unfold vin
  by_cases h1 : k < 8
  · rw [if_pos h1, pk_un (by omega), pk_un (by omega), pk_un (by omega), pk_un (by omega), jnI_a h1]
  · rw [if_neg h1]
    by_cases h2 : k < 12
    · rw [if_pos h2, pk_un (by omega), pk_un (by omega), pk_un (by omega), pk_un (by omega), jnI_c (by omega) (by omega)]
      unfold stZ
      rw [if_pos (by omega)]
    · rw [if_neg h2]
      rcases (by omega : k = 12 ∨ k = 13 ∨ k = 14 ∨ k = 15) with rfl | rfl | rfl | rfl <;> simp [upd]
/-- half a round -/
def r1 (v w : Nat → Int32) : Nat → Nat → Int32
  | 0 => v
  | j + 1 => tn (r1 v w j) j (4 + j) (8 + j) (12 + j) (w (2 * j)) (w (2 * j + 1))
def r2 (v w : Nat → Int32) : Nat → Nat → Int32
  | 0 => v
  | j + 1 => tn (r2 v w j) j (4 + (j + 1) % 4) (8 + (j + 2) % 4) (12 + (j + 3) % 4) (w (8 + 2 * j)) (w (8 + 2 * j + 1))
set_option maxRecDepth 100000 in
theorem r12 (v w : Nat → Int32) : r2 (r1 v w 4) w 4 = rnd v w := rfl
set_option maxRecDepth 100000 in
theorem fin_s2 (v ch : Nat → Int32) {i : Nat} (hi : i < 8) : upd (upd (fin v ch i) i (fin v ch i i ^^^ fin v ch i (8 + i))) (8 + i) ((upd (fin v ch i) i (fin v ch i i ^^^ fin v ch i (8 + i))) (8 + i) ^^^ ch i) = fin v ch (i + 1) := by
  rw [Nat.add_comm 8 i]
  exact fin_s v ch hi
set_option maxRecDepth 100000 in
theorem apG_rd {f h : Nat → Int32} {i : Nat} : apG f 0 h i i = f i := by
  unfold apG
  rw [if_neg (by omega)]
/-- blocks of a chunk of n bytes -/
def blen (n b : Nat) : Nat := if n - 64 * b < 64 then n - 64 * b else 64
def lst (n b : Nat) : Nat := if b = bko n then 2 else 0
set_option maxRecDepth 100000 in
theorem blen_l {n b : Nat} (h : n - 64 * b < 64) : n - 64 * b = blen n b := (if_pos h).symm
set_option maxRecDepth 100000 in
theorem blen_g {n b : Nat} (h : 64 ≤ n - 64 * b) : 64 = blen n b := (if_neg (Nat.not_lt.mpr h)).symm
set_option maxRecDepth 100000 in
theorem blen_le (n b : Nat) : blen n b ≤ 64 ∧ (64 * b ≤ n → 64 * b + blen n b ≤ n) := by
  unfold blen
  split <;> omega
set_option maxRecDepth 100000 in
theorem ccv_step {K fx : Nat → Int32} {be : Int32} {at0 num n b : Nat} (h0 : 0 < b) (hb : b ≤ bko n) : mixV (ccv K be fx at0 num (b - 1)) (bwI fx (at0 + 64 * (b - 1)) (blen n (b - 1))) (lN num) (nI (blen n (b - 1))) ((be + nI (fst0 (b - 1))) + nI (lst n (b - 1))) = ccv K be fx at0 num b := by
  obtain ⟨c, rfl⟩ : ∃ c, b = c + 1 := ⟨b - 1, by omega⟩
  rw [Nat.add_sub_cancel]
  have e1 : blen n c = 64 := by
    unfold blen
    unfold bko at hb
    rw [if_neg (by omega)]
  have e2 : lst n c = 0 := if_neg (by omega)
  rw [e1, e2]
  rfl
set_option maxRecDepth 100000 in
theorem nd_last {K fx : Nat → Int32} {be : Int32} {at0 num n : Nat} : (ccv K be fx at0 num (bko n), bwI fx (at0 + 64 * bko n) (blen n (bko n)), lN num, nI (blen n (bko n)), (be + nI (fst0 (bko n))) + nI (lst n (bko n))) = ndC K be fx at0 num n ∨ 1024 < n := by
  by_cases h : 1024 < n
  · exact Or.inr h
  · left
    have e1 : blen n (bko n) = n - 64 * bko n := by
      unfold blen
      split
      · rfl
      · unfold bko at *
        omega
    have e2 : lst n (bko n) = 2 := if_pos rfl
    rw [e1, e2]
    rfl
/-- a pile's row holds the chains (place 8 i + k) -/
def SKq (pp : Nat → Int32) (S : Nat → Nat → Int32) (d : Nat) : Prop := ∀ i, i < d → ∀ k, k < 8 → pp (8 * i + k) = S i k
set_option maxRecDepth 100000 in
theorem SKq_push {pp v : Nat → Int32} {S : Nat → Nat → Int32} {d dp : Nat} (h : SKq pp S dp) (hd : d ≤ dp) : SKq (apG pp (8 * d) v 8) (fun i => if i = d then v else S i) (d + 1) := by
  intro i hi k hk
  show apG pp (8 * d) v 8 (8 * i + k) = (if i = d then v else S i) k
  unfold apG
  by_cases e : i = d
  · subst e
    rw [if_pos (by omega), if_pos rfl, Nat.add_sub_cancel_left]
  · rw [if_neg (by omega), if_neg e]
    exact h i (by omega) k hk
def bsO (m : Int32) : Int32 := if m = 0 then nI 0 else if m = nI 1 then nI 16 else nI 64
