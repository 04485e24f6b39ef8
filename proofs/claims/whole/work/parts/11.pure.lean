theorem ix_lt {i : Int32} {n : Nat} (h0 : ¬ i < 0) (h1 : ¬ nI n ≤ i) (hn : n < 2 ^ 31) : ∃ j : Nat, j < n ∧ i = nI j := by
  rcases pk_ix i hn with h | h | h
  · exact absurd h h0
  · exact absurd h h1
  · exact h
theorem ix_le {i : Int32} {n : Nat} (h0 : ¬ i < 0) (h1 : i ≤ nI n) (hn : n < 2 ^ 31) : ∃ j : Nat, j ≤ n ∧ i = nI j := by
  obtain ⟨j, hj, rfl⟩ := nI_of h0
  exact ⟨j, (nI_leI hj hn).mp h1, rfl⟩
/-- what a register's byte is told as -/
def byt (f : Nat → Int32) (cnt : Nat) (i : Int32) : Int32 := if 0 ≤ i ∧ i < nI cnt then f i.toNatClampNeg &&& 255 else -1
theorem byt_in {f : Nat → Int32} {cnt j : Nat} (h : j < cnt) (hc : cnt < 2 ^ 31) : byt f cnt (nI j) = f j &&& 255 := by
  unfold byt
  rw [if_pos ⟨nI_pos' (by omega), nI_lt h hc⟩, nI_clamp (by omega)]
theorem byt_neg {f : Nat → Int32} {cnt : Nat} {i : Int32} (h : i < 0) : byt f cnt i = -1 := by
  unfold byt
  rw [if_neg (fun q => Int32.not_le.mpr h q.1)]
theorem byt_out {f : Nat → Int32} {cnt : Nat} {i : Int32} (h : nI cnt ≤ i) : byt f cnt i = -1 := by
  unfold byt
  rw [if_neg (fun q => Int32.not_le.mpr q.2 h)]
/-- places cnt .. cnt + n - 1 of a row come of h -/
def apG (f : Nat → Int32) (cnt : Nat) (h : Nat → Int32) (n : Nat) : Nat → Int32 := fun j => if cnt ≤ j ∧ j < cnt + n then h (j - cnt) else f j
theorem apG_0 (f : Nat → Int32) (cnt : Nat) (h : Nat → Int32) : apG f cnt h 0 = f := by
  funext j
  unfold apG
  rw [if_neg (by omega)]
theorem apG_s (f : Nat → Int32) (cnt : Nat) (h : Nat → Int32) (i : Nat) : upd (apG f cnt h i) (cnt + i) (h i) = apG f cnt h (i + 1) := by
  funext j
  unfold upd apG
  by_cases e : j = cnt + i
  · subst e
    rw [if_pos rfl, if_pos (by omega), Nat.add_sub_cancel_left]
  · rw [if_neg e]
    by_cases q : cnt ≤ j ∧ j < cnt + i
    · rw [if_pos q, if_pos (by omega)]
    · rw [if_neg q, if_neg (by omega)]
/-- byte i of words, before it is cut to eight bits -/
def wby (w : Nat → Int32) (i : Nat) : Int32 := ((w (i / 2 ^ 2)).toUInt32 >>> ((nI (8 * (i % 2 ^ 2))).toUInt32 &&& Int32.toUInt32 31)).toInt32
def b8 (x : Int32) : Int32 := x.toInt8.toInt32
theorem b8_nar (x : Int32) : vp_nar .byte (b8 x) = b8 x := pk_vb x
/-- a word of four bytes -/
def wrd (g : Nat → Int32) (i : Nat) : Int32 := (((g i) ||| ((g (i + 1)) <<< ((nI 8) &&& 31))) ||| ((g (i + 2)) <<< ((nI 16) &&& 31))) ||| ((g (i + 3)) <<< ((nI 24) &&& 31))
def lo8 (f : Nat → Int32) : Nat → Int32 := fun k => f k &&& 255
