theorem ix_lt {i : Int32} {n : Nat} (h0 : ¬ i < 0) (h1 : ¬ nI n ≤ i) (hn : n < 2 ^ 31) : ∃ j : Nat, j < n ∧ i = nI j := by
  rcases pk_ix i hn with h | h | h
  · exact absurd h h0
  · exact absurd h h1
  · exact h
theorem ix_le {i : Int32} {n : Nat} (h0 : ¬ i < 0) (h1 : i ≤ nI n) (hn : n < 2 ^ 31) : ∃ j : Nat, j ≤ n ∧ i = nI j := by
  obtain ⟨j, hj, rfl⟩ := nI_of h0
  exact ⟨j, (nI_leI hj hn).mp h1, rfl⟩
/-- what a register's byte is told as -/
def byt (f : Nat → Int32) (cnt : Nat) (i : Int32) : Int32 := if 0 ≤ i ∧ i < nI cnt then f i.toNatClampNeg &&& 255 else -1
theorem byt_in {f : Nat → Int32} {cnt j : Nat} (h : j < cnt) (hc : cnt < 2 ^ 31) : byt f cnt (nI j) = f j &&& 255 := by
  unfold byt
  rw [if_pos ⟨nI_pos' (by omega), nI_lt h hc⟩, nI_clamp (by omega)]
theorem byt_neg {f : Nat → Int32} {cnt : Nat} {i : Int32} (h : i < 0) : byt f cnt i = -1 := by
  unfold byt
  rw [if_neg (fun q => Int32.not_le.mpr h q.1)]
theorem byt_out {f : Nat → Int32} {cnt : Nat} {i : Int32} (h : nI cnt ≤ i) : byt f cnt i = -1 := by
  unfold byt
  rw [if_neg (fun q => Int32.not_le.mpr q.2 h)]
/-- places cnt .. cnt + n - 1 of a row come of h -/
def apG (f : Nat → Int32) (cnt : Nat) (h : Nat → Int32) (n : Nat) : Nat → Int32 := fun j => if cnt ≤ j ∧ j < cnt + n then h (j - cnt) else f j
theorem apG_0 (f : Nat → Int32) (cnt : Nat) (h : Nat → Int32) : apG f cnt h 0 = f := by
  funext j
  unfold apG
  rw [if_neg (by omega)]
theorem apG_s (f : Nat → Int32) (cnt : Nat) (h : Nat → Int32) (i : Nat) : upd (apG f cnt h i) (cnt + i) (h i) = apG f cnt h (i + 1) := by
  funext j
  unfold upd apG
  by_cases e : j = cnt + i
  · subst e
    rw [if_pos rfl, if_pos (by omega), Nat.add_sub_cancel_left]
  · rw [if_neg e]
    by_cases q : cnt ≤ j ∧ j < cnt + i
    · rw [if_pos q, if_pos (by omega)]
    · rw [if_neg q, if_neg (by omega)]
/-- byte i of words, before it is cut to eight bits -/
def wby (w : Nat → Int32) (i : Nat) : Int32 := ((w (i / 2 ^ 2)).toUInt32 >>> ((nI (8 * (i % 2 ^ 2))).toUInt32 &&& Int32.toUInt32 31)).toInt32
def b8 (x : Int32) : Int32 := x.toInt8.toInt32
theorem b8_nar (x : Int32) : vp_nar .byte (b8 x) = b8 x := pk_vb x
/-- a word of four bytes -/
def wrd (g : Nat → Int32) (i : Nat) : Int32 := (((g i) ||| ((g (i + 1)) <<< ((nI 8) &&& 31))) ||| ((g (i + 2)) <<< ((nI 16) &&& 31))) ||| ((g (i + 3)) <<< ((nI 24) &&& 31))
def lo8 (f : Nat → Int32) : Nat → Int32 := fun k => f k &&& 255
/-- an array's row matters up to its length alone -/
theorem Wd.ext {D : va_G} {A : Nat → Prop} {s : State} {ws : va_W} {H : Heap} {locs : List Loc} {a n : Nat} {cA : ClassId} {f : Nat → Int32} (hW : Wd D A s ws H locs) (q0 : Nat) (he : ws[q0]? = some (a, .inl (cA, n, .inl f))) (g : Nat → Int32) (h : ∀ k, k < n → f k = g k) : Wd D A s (ws.set q0 (a, .inl (cA, n, .inl g))) H locs := by
  refine ⟨hW.1.set hW.2.1 he ?_ (fun _ _ => rfl), hW.2.1.set he, hW.2.2⟩
  have h1 : H[a]? = some (vp_cell cA (n, .inl f)) := hW.1 q0 _ he
  show H[a]? = some (vp_cell cA (n, .inl g))
  rw [h1]
  have e : (Array.ofFn (n := n) fun j => Value.int (f j.val)) = Array.ofFn (n := n) fun j => Value.int (g j.val) := by
    congr 1
    funext j
    rw [h j.val j.isLt]
  simp only [vp_cell, arrV, e]
theorem Wd.sub {D : va_G} {A : Nat → Prop} {s : State} {ws ws' : va_W} {H : Heap} {locs : List Loc} (hW : Wd D A s ws H locs) (is : List Nat) (hn : va_nd is = true) (hs : is.map (fun i => ws[i]?) = ws'.map some) : Wd D A s ws' H locs := by
  refine ⟨hW.1.sub is ?_, hW.2.1.sub is hn hs, hW.2.2⟩
  have : is.filterMap (fun i => ws[i]?) = (is.map (fun i => ws[i]?)).filterMap id := by rw [List.filterMap_map]; rfl
  rw [this, hs, List.filterMap_map]
  simp
/-! the mix, as numbers -/
abbrev Jk : Type := Nat × Nat × (Nat → Int32) × (Nat → Int32)
def rot (x : Int32) (k : Nat) : Int32 := (x.toUInt32 >>> ((nI k).toUInt32 &&& Int32.toUInt32 31)).toInt32 ||| (x <<< ((nI (32 - k)) &&& 31))
def tn (v : Nat → Int32) (a b c d : Nat) (x y : Int32) : Nat → Int32 :=
  let va := (v a + v b) + x
  let vd := rot (v d ^^^ va) 16
  let vc := v c + vd
  let vb := rot (v b ^^^ vc) 12
  let va2 := va + (vb + y)
  let vd2 := rot (vd ^^^ va2) 8
  let vc2 := vc + vd2
  let vb2 := rot (vb ^^^ vc2) 7
  upd (upd (upd (upd v a va2) b vb2) c vc2) d vd2
def rnd (v w : Nat → Int32) : Nat → Int32 :=
  tn (tn (tn (tn (tn (tn (tn (tn v 0 4 8 12 (w 0) (w 1)) 1 5 9 13 (w 2) (w 3)) 2 6 10 14 (w 4) (w 5)) 3 7 11 15 (w 6) (w 7)) 0 5 10 15 (w 8) (w 9)) 1 6 11 12 (w 10) (w 11)) 2 7 8 13 (w 12) (w 13)) 3 4 9 14 (w 14) (w 15)
def wr (bl : Nat → Int32) : Nat → Nat → Int32
  | 0 => bl
  | i + 1 => fun k => wr bl i (orN k)
def vr (v bl : Nat → Int32) : Nat → Nat → Int32
  | 0 => v
  | i + 1 => rnd (vr v bl i) (wr bl i)
def vin (ch : Nat → Int32) (ct : Int64) (ln fl : Int32) : Nat → Int32 := fun k => if k < 8 then ch k else if k < 12 then stA (k - 8) else if k = 12 then ct.toInt32 else if k = 13 then (ct.toUInt64 >>> ((nI 32).toInt64.toUInt64 &&& Int64.toUInt64 63)).toInt64.toInt32 else if k = 14 then ln else fl
/-- the last step, done for the first i of eight -/
def fin (v ch : Nat → Int32) (i : Nat) : Nat → Int32 := fun j => if j < i then v j ^^^ v (j + 8) else if 8 ≤ j ∧ j < 8 + i then v j ^^^ ch (j - 8) else v j
def mixV (ch bl : Nat → Int32) (ct : Int64) (ln fl : Int32) : Nat → Int32 := fin (vr (vin ch ct ln fl) bl 7) ch 8
theorem fin_0 (v ch : Nat → Int32) : fin v ch 0 = v := by
  funext j
  unfold fin
  rw [if_neg (by omega), if_neg (by omega)]
theorem fin_a {v ch : Nat → Int32} {i j : Nat} (h : j < i) : fin v ch i j = v j ^^^ v (j + 8) := by
  unfold fin
  rw [if_pos h]
theorem fin_b {v ch : Nat → Int32} {i j : Nat} (h : i ≤ j) (h2 : ¬ (8 ≤ j ∧ j < 8 + i)) : fin v ch i j = v j := by
  unfold fin
  rw [if_neg (by omega), if_neg h2]
theorem fin_c {v ch : Nat → Int32} {i j : Nat} (h : i ≤ j) (h2 : 8 ≤ j ∧ j < 8 + i) : fin v ch i j = v j ^^^ ch (j - 8) := by
  unfold fin
  rw [if_neg (by omega), if_pos h2]
theorem fin_s (v ch : Nat → Int32) {i : Nat} (hi : i < 8) : upd (upd (fin v ch i) i (fin v ch i i ^^^ fin v ch i (i + 8))) (i + 8) ((upd (fin v ch i) i (fin v ch i i ^^^ fin v ch i (i + 8))) (i + 8) ^^^ ch i) = fin v ch (i + 1) := by
  rw [fin_b (Nat.le_refl i) (by omega), fin_b (v := v) (ch := ch) (i := i) (j := i + 8) (by omega) (by omega), pk_un (by omega), fin_b (v := v) (ch := ch) (i := i) (j := i + 8) (by omega) (by omega)]
  funext j
  by_cases e : j = i + 8
  · subst e
    rw [pk_us, fin_c (by omega) (by omega), Nat.add_sub_cancel]
  · rw [pk_un e]
    by_cases e2 : j = i
    · subst e2
      rw [pk_us, fin_a (by omega)]
    · rw [pk_un e2]
      by_cases q1 : j < i
      · rw [fin_a q1, fin_a (by omega)]
      · by_cases q2 : 8 ≤ j ∧ j < 8 + i
        · rw [fin_c (by omega) q2, fin_c (by omega) (by omega)]
        · rw [fin_b (by omega) q2, fin_b (by omega) (by omega)]
theorem orN_lt (k : Nat) : orN k < 16 := by
  unfold orN
  split <;> decide
theorem vin_ok {v ch : Nat → Int32} {ct : Int64} {ln fl : Int32} {x y : Int32} (hx : ct.toInt32 = x) (hy : (ct.toUInt64 >>> ((nI 32).toInt64.toUInt64 &&& Int64.toUInt64 63)).toInt64.toInt32 = y) : ∀ k, k < 16 → upd (upd (upd (upd (apG (apG v 0 ch 8) 8 stA 4) 12 x) 13 y) 14 ln) 15 fl k = vin ch ct ln fl k := by
  intro k hk
  subst hx
  subst hy
  unfold vin
  by_cases h1 : k < 8
  · rw [if_pos h1]
    simp only [upd]
    rw [if_neg (by omega), if_neg (by omega), if_neg (by omega), if_neg (by omega)]
    unfold apG
    rw [if_neg (by omega), if_pos (by omega), Nat.sub_zero]
  · rw [if_neg h1]
    by_cases h2 : k < 12
    · rw [if_pos h2]
      simp only [upd]
      rw [if_neg (by omega), if_neg (by omega), if_neg (by omega), if_neg (by omega)]
      unfold apG
      rw [if_pos (by omega)]
    · rw [if_neg h2]
      rcases (by omega : k = 12 ∨ k = 13 ∨ k = 14 ∨ k = 15) with rfl | rfl | rfl | rfl <;> simp [upd]
theorem apG_all {f h : Nat → Int32} {n : Nat} : ∀ k, k < n → apG f 0 h n k = h k := by
  intro k hk
  unfold apG
  rw [if_pos (by omega), Nat.sub_zero]
/-- the block of a parent: left before right -/
def jn (x y : Nat → Int32) : Nat → Int32 := fun k => if k < 8 then x k else y (k - 8)
/-- half way: i of the eight pairs laid -/
def jnI (b x y : Nat → Int32) (i : Nat) : Nat → Int32 := fun j => if j < i then x j else if 8 ≤ j ∧ j < 8 + i then y (j - 8) else b j
theorem jnI_0 (b x y : Nat → Int32) : jnI b x y 0 = b := by
  funext j
  unfold jnI
  rw [if_neg (by omega), if_neg (by omega)]
theorem jnI_a {b x y : Nat → Int32} {i j : Nat} (h : j < i) : jnI b x y i j = x j := by
  unfold jnI
  rw [if_pos h]
theorem jnI_b {b x y : Nat → Int32} {i j : Nat} (h : i ≤ j) (h2 : ¬ (8 ≤ j ∧ j < 8 + i)) : jnI b x y i j = b j := by
  unfold jnI
  rw [if_neg (by omega), if_neg h2]
theorem jnI_c {b x y : Nat → Int32} {i j : Nat} (h : i ≤ j) (h2 : 8 ≤ j ∧ j < 8 + i) : jnI b x y i j = y (j - 8) := by
  unfold jnI
  rw [if_neg (by omega), if_pos h2]
theorem jnI_s (b x y : Nat → Int32) {i : Nat} (hi : i < 8) : upd (upd (jnI b x y i) i (x i)) (8 + i) (y i) = jnI b x y (i + 1) := by
  funext j
  by_cases e : j = 8 + i
  · subst e
    rw [pk_us, jnI_c (by omega) (by omega), Nat.add_sub_cancel_left]
  · rw [pk_un e]
    by_cases e2 : j = i
    · subst e2
      rw [pk_us, jnI_a (by omega)]
    · rw [pk_un e2]
      by_cases q1 : j < i
      · rw [jnI_a q1, jnI_a (by omega)]
      · by_cases q2 : 8 ≤ j ∧ j < 8 + i
        · rw [jnI_c (by omega) q2, jnI_c (by omega) (by omega)]
        · rw [jnI_b (by omega) q2, jnI_b (by omega) (by omega)]
theorem jnI_8 {b x y : Nat → Int32} : ∀ k, k < 16 → jnI b x y 8 k = jn x y k := by
  intro k hk
  unfold jnI jn
  by_cases q1 : k < 8
  · rw [if_pos q1, if_pos q1]
  · rw [if_neg q1, if_neg q1, if_pos (by omega)]
theorem upd_self (f : Nat → Int32) (k : Nat) : upd f k (f k) = f := by
  funext j
  unfold upd
  split
  · rename_i h
    rw [h]
  · rfl
/-- what is told of byte i of the words that come of a mix -/
def oby (v : Nat → Int32) (i : Nat) : Int32 := wby v i &&& 255
/-- byte q of the output of a node -/
def outB (ch bl : Nat → Int32) (ln fl : Int32) (q : Nat) : Int32 := oby (mixV ch bl (lN (q / 2 ^ 6)) ln fl) (q % 2 ^ 6)
