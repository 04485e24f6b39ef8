theorem mby_oby (v : Nat → Int32) {q : Nat} (hq : q < 64) : ((v (q / 4)) >>> ((nI (8 * (q % 4))) &&& 31)) &&& nI 255 = oby v q := by
  have hn : 8 * (q % 4) < 32 := by omega
  apply b_ext
  intro i hi
  show bt (_ &&& nI 255) i = bt (((v (q / 4)).toUInt32 >>> ((nI (8 * (q % 4))).toUInt32 &&& Int32.toUInt32 31)).toInt32 &&& 255) i
  rw [b_and, b_and, show nI 255 = (255 : Int32) from rfl, b_255, b_sshr _ hn _ hi, b_ushr _ hn]
  by_cases h8 : i < 8
  · rw [if_pos (by omega)]
  · simp [h8]
theorem lN_ne {x : Nat} (h : x < 2 ^ 63) : ¬ lN x = -1 := by
  intro q
  have h1 := pk_lT h
  rw [q] at h1
  have h2 : (-1 : Int64).toInt = -1 := by decide
  omega
theorem or8 : ∀ a, a < 128 → a / 8 % 2 = 0 → nI a ||| nI 8 = nI a + nI 8 := by decide +kernel
