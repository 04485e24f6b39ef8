/-! the law's world: 103 cells by their numbers (0 .. 21 the class's own, 22 + 2 r the registers, 38 + 11 h the hashers, 82 .. the reference's) -/
abbrev cellT : Type := Nat × va_E
def LW (F : Nat → cellT) : va_W := (List.range 103).map F
def upc (F : Nat → cellT) (i : Nat) (x : cellT) : Nat → cellT := fun j => if j = i then x else F j
def upcs : (Nat → cellT) → List Nat → va_W → Nat → cellT
  | F, i :: is, x :: xs => upcs (upc F i x) is xs
  | F, _, _ => F
theorem upc_eq {F : Nat → cellT} {i : Nat} {x : cellT} : upc F i x i = x := if_pos rfl
theorem upc_ne {F : Nat → cellT} {i j : Nat} {x : cellT} (h : j ≠ i) : upc F i x j = F j := if_neg h
theorem LW_at (F : Nat → cellT) {i : Nat} (h : i < 103) : (LW F)[i]? = some (F i) := by
  unfold LW
  rw [List.getElem?_map, List.getElem?_range h]
  rfl
theorem LW_set (F : Nat → cellT) {i : Nat} {x : cellT} (h : i < 103) : (LW F).set i x = LW (upc F i x) := by
  apply List.ext_getElem?
  intro k
  by_cases hk : k < 103
  · rw [LW_at _ hk]
    by_cases e : i = k
    · subst e
      rw [List.getElem?_set_self (by unfold LW; simpa using h), upc_eq]
    · rw [List.getElem?_set_ne e, LW_at _ hk, upc_ne (fun q => e q.symm)]
  · have h1 : (LW F).length ≤ k := by unfold LW; simp; omega
    have h2 : (LW (upc F i x)).length ≤ k := by unfold LW; simp; omega
    rw [List.getElem?_eq_none h2, List.getElem?_eq_none (by rw [List.length_set]; exact h1)]
theorem LW_put : ∀ (is : List Nat) (xs : va_W) (F : Nat → cellT), (∀ i ∈ is, i < 103) → putW (LW F) is xs = LW (upcs F is xs)
  | [], xs, F, _ => by cases xs <;> rfl
  | i :: is, [], F, _ => rfl
  | i :: is, x :: xs, F, h => by
    show putW ((LW F).set i x) is xs = LW (upcs (upc F i x) is xs)
    rw [LW_set F (h i List.mem_cons_self), LW_put is xs _ (fun j hj => h j (List.mem_cons_of_mem _ hj))]
theorem LW_hC {F : Nat → cellT} {is : List Nat} {wc : va_W} (h : is.map F = wc) (hl : ∀ i ∈ is, i < 103) : is.map (fun i => (LW F)[i]?) = wc.map some := by
  subst h
  rw [List.map_map]
  apply List.map_congr_left
  intro i hi
  exact LW_at F (hl i hi)
theorem nd_of_nodup : ∀ (l : List Nat), l.Nodup → va_nd l = true
  | [], _ => rfl
  | a :: l, h => by
    have h2 := List.nodup_cons.mp h
    have h3 := nd_of_nodup l h2.2
    first
      | (simp only [va_nd]; simp [h2.1, h3])
      | (unfold va_nd; simp [h2.1, h3])
