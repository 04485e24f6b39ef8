/-! the tree, as numbers -/
def fst0 (bk : Nat) : Nat := if bk = 0 then 1 else 0
theorem fst0_0 {b : Nat} (h : b = 0) : nI 1 = nI (fst0 b) := by rw [show fst0 b = 1 from if_pos h]
theorem fst0_1 {b : Nat} (h : b ≠ 0) : nI 0 = nI (fst0 b) := by rw [show fst0 b = 0 from if_neg h]
def pcF : Nat → Nat → Nat
  | 0, _ => 0
  | k + 1, n => n % 2 + pcF k (n / 2)
def pcn (n : Nat) : Nat := pcF 20 n
theorem pcF_st : ∀ (k n : Nat), n < 2 ^ k → pcF (k + 1) n = pcF k n
  | 0, n, h => by
    have : n = 0 := by simpa using h
    subst this
    rfl
  | k + 1, n, h => by
    show n % 2 + pcF (k + 1) (n / 2) = n % 2 + pcF k (n / 2)
    rw [pcF_st k (n / 2) (by rw [Nat.pow_succ] at h; omega)]
theorem pcn_2 {m : Nat} (h : m < 2 ^ 19) : pcn (2 * m) = pcn m := by
  show 2 * m % 2 + pcF 19 (2 * m / 2) = pcF 20 m
  rw [pcF_st 19 m h, show 2 * m / 2 = m from by omega, show 2 * m % 2 = 0 from by omega, Nat.zero_add]
theorem pcn_21 {m : Nat} (h : m < 2 ^ 19) : pcn (2 * m + 1) = pcn m + 1 := by
  show (2 * m + 1) % 2 + pcF 19 ((2 * m + 1) / 2) = pcF 20 m + 1
  rw [pcF_st 19 m h, show (2 * m + 1) / 2 = m from by omega, show (2 * m + 1) % 2 = 1 from by omega, Nat.add_comm]
theorem pcn_0 : pcn 0 = 0 := by decide
theorem pcn_40 : ∀ n, n < 40 → pcn n ≤ 5 := by decide +kernel
theorem pcn_pos {n : Nat} (h : n < 2 ^ 19) (h0 : pcn n = 0) : n = 0 := by
  induction n using Nat.strongRecOn with
  | ind n ih =>
    rcases Nat.mod_two_eq_zero_or_one n with q | q
    · have e : n = 2 * (n / 2) := by omega
      rw [e, pcn_2 (by omega)] at h0
      rcases Nat.eq_zero_or_pos n with z | z
      · exact z
      · have := ih (n / 2) (by omega) (by omega) h0
        omega
    · have e : n = 2 * (n / 2) + 1 := by omega
      rw [e, pcn_21 (by omega)] at h0
      omega
/-- the parent of two chains -/
def par2 (K : Nat → Int32) (bs : Int32) (x y : Nat → Int32) : Nat → Int32 := mixV K (jn x y) (lN 0) (nI 64) (bs + nI 4)
/-- trees of equal size are joined, as a counter carries: depth and chain -/
def mg (K : Nat → Int32) (bs : Int32) (S : Nat → Nat → Int32) (d tr : Nat) (v : Nat → Int32) : Nat × (Nat → Int32) :=
  if h : tr % 2 = 0 ∧ 0 < tr then mg K bs S (d - 1) (tr / 2) (par2 K bs (S (d - 1)) v) else (d, v)
termination_by tr
decreasing_by omega
theorem mg_e {K : Nat → Int32} {bs : Int32} {S : Nat → Nat → Int32} {d tr : Nat} {v : Nat → Int32} (h : tr % 2 = 0) (h0 : 0 < tr) : mg K bs S d tr v = mg K bs S (d - 1) (tr / 2) (par2 K bs (S (d - 1)) v) := by
  rw [mg, dif_pos ⟨h, h0⟩]
theorem mg_o {K : Nat → Int32} {bs : Int32} {S : Nat → Nat → Int32} {d tr : Nat} {v : Nat → Int32} (h : tr % 2 ≠ 0) : mg K bs S d tr v = (d, v) := by
  rw [mg, dif_neg (fun q => h q.1)]
/-- the depth is the number of ones below -/
theorem pc_even {tr d : Nat} (h : d = pcn (tr - 1)) (h0 : 0 < tr) (ht : tr < 2 ^ 19) (he : tr % 2 = 0) : 0 < d ∧ d - 1 = pcn (tr / 2 - 1) := by
  have e : tr - 1 = 2 * (tr / 2 - 1) + 1 := by omega
  rw [e, pcn_21 (by omega)] at h
  omega
theorem mg_pc {K : Nat → Int32} {bs : Int32} {S : Nat → Nat → Int32} : ∀ (tr d : Nat) (v : Nat → Int32), d = pcn (tr - 1) → 0 < tr → tr < 2 ^ 19 → (mg K bs S d tr v).1 + 1 = pcn tr := by
  intro tr
  induction tr using Nat.strongRecOn with
  | ind tr ih =>
    intro d v hd h0 ht
    rcases Nat.mod_two_eq_zero_or_one tr with q | q
    · rw [mg_e q h0, ih (tr / 2) (by omega) (d - 1) _ (pc_even hd h0 ht q).2 (by omega) (by omega), ← pcn_2 (by omega), show 2 * (tr / 2) = tr from by omega]
    · rw [mg_o (by omega)]
      have e : tr = 2 * (tr / 2) + 1 := by omega
      have e2 : tr - 1 = 2 * (tr / 2) := by omega
      show d + 1 = pcn tr
      rw [hd, e2, pcn_2 (by omega)]
      conv => rhs; rw [e]
      rw [pcn_21 (by omega)]
theorem mg_le {K : Nat → Int32} {bs : Int32} {S : Nat → Nat → Int32} : ∀ (tr d : Nat) (v : Nat → Int32), (mg K bs S d tr v).1 ≤ d := by
  intro tr
  induction tr using Nat.strongRecOn with
  | ind tr ih =>
    intro d v
    by_cases q : tr % 2 = 0 ∧ 0 < tr
    · rw [mg_e q.1 q.2]
      exact Nat.le_trans (ih (tr / 2) (by omega) (d - 1) _) (Nat.sub_le _ _)
    · rw [mg, dif_neg q]
      exact Nat.le_refl _
/-- a node before its mix: chain, block, count, length, flags -/
abbrev Nd : Type := (Nat → Int32) × (Nat → Int32) × Int64 × Int32 × Int32
def mx (N : Nd) : Nat → Int32 := mixV N.1 N.2.1 N.2.2.1 N.2.2.2.1 N.2.2.2.2
/-- up the stack to the root's node -/
def upN (K : Nat → Int32) (bs : Int32) (S : Nat → Nat → Int32) : Nat → Nd → Nd
  | 0, N => N
  | d + 1, N => upN K bs S d (K, jn (S d) (mx N), lN 0, nI 64, bs + nI 4)
/-- the first i bytes of a block as words -/
def bwI (g : Nat → Int32) (at0 : Nat) : Nat → Nat → Int32
  | 0 => fun _ => nI 0
  | i + 1 => upd (bwI g at0 i) (i / 2 ^ 2) (bwI g at0 i (i / 2 ^ 2) ||| (g (at0 + i) <<< (nI (8 * (i % 2 ^ 2)) &&& 31)))
theorem bwI_congr {g g' : Nat → Int32} {a a' : Nat} : ∀ {i : Nat}, (∀ k, k < i → g (a + k) = g' (a' + k)) → bwI g a i = bwI g' a' i
  | 0, _ => rfl
  | i + 1, h => by
    have e := bwI_congr (i := i) (fun k hk => h k (by omega))
    show upd (bwI g a i) _ _ = upd (bwI g' a' i) _ _
    rw [e, h i (by omega)]
/-- the chain of a chunk before its block b: bytes from at0 on, the chunk's number nu -/
def ccv (K : Nat → Int32) (bs : Int32) (g : Nat → Int32) (at0 nu : Nat) : Nat → Nat → Int32
  | 0 => K
  | b + 1 => mixV (ccv K bs g at0 nu b) (bwI g (at0 + 64 * b) 64) (lN nu) (nI 64) ((bs + nI (fst0 b)) + nI 0)
theorem ccv_congr {K : Nat → Int32} {bs : Int32} {g g' : Nat → Int32} {a a' nu : Nat} : ∀ {b : Nat}, (∀ k, k < 64 * b → g (a + k) = g' (a' + k)) → ccv K bs g a nu b = ccv K bs g' a' nu b
  | 0, _ => rfl
  | b + 1, h => by
    have e := ccv_congr (K := K) (bs := bs) (nu := nu) (b := b) (fun k hk => h k (by omega))
    show mixV (ccv K bs g a nu b) _ _ _ _ = mixV (ccv K bs g' a' nu b) _ _ _ _
    rw [e, bwI_congr (g := g) (g' := g') (a := a + 64 * b) (a' := a' + 64 * b) (i := 64) (fun k hk => by rw [Nat.add_assoc, Nat.add_assoc]; exact h _ (by omega))]
/-- the last node of a chunk of n bytes -/
def bko (n : Nat) : Nat := (n - 1) / 64
def ndC (K : Nat → Int32) (bs : Int32) (g : Nat → Int32) (at0 nu n : Nat) : Nd := (ccv K bs g at0 nu (bko n), bwI g (at0 + 64 * bko n) (n - 64 * bko n), lN nu, nI (n - 64 * bko n), (bs + nI (fst0 (bko n))) + nI 2)
theorem ndC_congr {K : Nat → Int32} {bs : Int32} {g g' : Nat → Int32} {a a' nu n : Nat} (h : ∀ k, k < n → g (a + k) = g' (a' + k)) : ndC K bs g a nu n = ndC K bs g' a' nu n := by
  unfold ndC
  rw [ccv_congr (g := g) (g' := g') (a := a) (a' := a') (fun k hk => h k (by unfold bko at hk; omega)), bwI_congr (g := g) (g' := g') (a := a + 64 * bko n) (a' := a' + 64 * bko n) (fun k hk => by rw [Nat.add_assoc, Nat.add_assoc]; exact h _ (by omega))]
/-- depth and stack of the first c chunks; C: the chunks' chains -/
def skN (K : Nat → Int32) (bs : Int32) (C : Nat → Nat → Int32) : Nat → Nat × (Nat → Nat → Int32)
  | 0 => (0, fun _ _ => 0)
  | c + 1 => ((mg K bs (skN K bs C c).2 (skN K bs C c).1 (c + 1) (C c)).1 + 1, fun i => if i = (mg K bs (skN K bs C c).2 (skN K bs C c).1 (c + 1) (C c)).1 then (mg K bs (skN K bs C c).2 (skN K bs C c).1 (c + 1) (C c)).2 else (skN K bs C c).2 i)
theorem skN_pc {K : Nat → Int32} {bs : Int32} {C : Nat → Nat → Int32} : ∀ (c : Nat), c < 2 ^ 19 → (skN K bs C c).1 = pcn c
  | 0, _ => rfl
  | c + 1, h => mg_pc (c + 1) _ _ (skN_pc c (by omega)) (by omega) h
theorem skN_congr {K : Nat → Int32} {bs : Int32} {C C' : Nat → Nat → Int32} : ∀ {c : Nat}, (∀ k, k < c → C k = C' k) → skN K bs C c = skN K bs C' c
  | 0, _ => rfl
  | c + 1, h => by
    have e := skN_congr (K := K) (bs := bs) (c := c) (fun k hk => h k (by omega))
    show (_, _) = (_, _)
    rw [e, h c (by omega)]
/-- a stack's row holds the chains -/
def SKr (sf : Nat → Int32) (S : Nat → Nat → Int32) (d : Nat) : Prop := ∀ i, i < d → ∀ k, k < 8 → sf (i * 8 + k) = S i k
/-! a hasher that has taken t bytes -/
def clo (t : Nat) : Nat := (t - 1) / 1024
/-- the chain of whole chunk c of the bytes g, numbers from fc on -/
def chC (K : Nat → Int32) (bs : Int32) (g : Nat → Int32) (fc c : Nat) : Nat → Int32 := mx (ndC K bs g (1024 * c) (fc + c) 1024)
def skS (K : Nat → Int32) (bs : Int32) (g : Nat → Int32) (fc c : Nat) : Nat → Nat → Int32 := (skN K bs (chC K bs g fc) c).2
/-- the root's node of t bytes -/
def rtN (K : Nat → Int32) (bs : Int32) (g : Nat → Int32) (fc t : Nat) : Nd := upN K bs (skS K bs g fc (clo t)) (pcn (clo t)) (ndC K bs g (1024 * clo t) (fc + clo t) (t - 1024 * clo t))
theorem jn_ext {x x' y y' : Nat → Int32} (h : ∀ k, k < 8 → x k = x' k) (h2 : ∀ k, k < 8 → y k = y' k) : ∀ k, k < 16 → jn x y k = jn x' y' k := by
  intro k hk
  unfold jn
  by_cases q : k < 8
  · rw [if_pos q, if_pos q, h k q]
  · rw [if_neg q, if_neg q, h2 _ (by omega)]
