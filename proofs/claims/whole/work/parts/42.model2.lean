set_option maxRecDepth 100000 in
theorem chC_of {K fx : Nat → Int32} {be : Int32} {at0 fi j : Nat} : mx (ndC K be fx (at0 + 1024 * (fi + j)) (fi + j) 1024) = chC K be (fun k => fx ((at0 + 1024 * fi) + k)) fi j := by
  unfold chC
  rw [ndC_congr (K := K) (bs := be) (g := fx) (g' := fun k => fx ((at0 + 1024 * fi) + k)) (a := at0 + 1024 * (fi + j)) (a' := 1024 * j) (nu := fi + j) (n := 1024) (fun k hk => by
    show fx _ = fx _
    congr 1
    omega)]
set_option maxRecDepth 100000 in
theorem chC_congr {K g g' : Nat → Int32} {be : Int32} {fc c : Nat} (h : ∀ k, k < 1024 * (c + 1) → g k = g' k) : chC K be g fc c = chC K be g' fc c := by
  unfold chC
  rw [ndC_congr (g := g) (g' := g') (a := 1024 * c) (a' := 1024 * c) (fun k hk => h _ (by omega))]
set_option maxRecDepth 100000 in
theorem skS_congr {K g g' : Nat → Int32} {be : Int32} {fc c : Nat} (h : ∀ k, k < 1024 * c → g k = g' k) : skS K be g fc c = skS K be g' fc c := by
  unfold skS
  rw [skN_congr (fun k hk => chC_congr (fun i hi => h i (by omega)))]
set_option maxRecDepth 100000 in
theorem skS_s {K g : Nat → Int32} {bs : Int32} {fc c : Nat} (hc : c < 2 ^ 18) : pcn (c + 1) = (mg K bs (skS K bs g fc c) (pcn c) (c + 1) (chC K bs g fc c)).1 + 1 ∧ skS K bs g fc (c + 1) = fun i => if i = (mg K bs (skS K bs g fc c) (pcn c) (c + 1) (chC K bs g fc c)).1 then (mg K bs (skS K bs g fc c) (pcn c) (c + 1) (chC K bs g fc c)).2 else skS K bs g fc c i := by
  have e := skN_pc (K := K) (bs := bs) (C := chC K bs g fc) c (by omega)
  constructor
  · rw [← skN_pc (K := K) (bs := bs) (C := chC K bs g fc) (c + 1) (by omega)]
    show (mg _ _ _ (skN K bs (chC K bs g fc) c).1 _ _).1 + 1 = _
    rw [e]
    rfl
  · show (fun i => if i = (mg _ _ _ (skN K bs (chC K bs g fc) c).1 _ _).1 then (mg _ _ _ (skN K bs (chC K bs g fc) c).1 _ _).2 else _) = _
    rw [e]
    rfl
set_option maxRecDepth 100000 in
theorem rtN_of {K g : Nat → Int32} {bs : Int32} {fc T m : Nat} (hm : clo T = m) : upN K bs (skS K bs g fc m) (pcn m) (ndC K bs g (1024 * m) (fc + m) (T - 1024 * m)) = rtN K bs g fc T := by
  subst hm
  rfl
set_option maxRecDepth 100000 in
theorem rtN_congr {K g g' : Nat → Int32} {bs : Int32} {fc t : Nat} (h : ∀ k, k < t → g k = g' k) : rtN K bs g fc t = rtN K bs g' fc t := by
  unfold rtN
  have hc : 1024 * clo t ≤ t := by unfold clo; omega
  rw [skS_congr (g := g) (g' := g') (fun k hk => h k (by omega)), ndC_congr (g := g) (g' := g') (a := 1024 * clo t) (a' := 1024 * clo t) (fun k hk => h _ (by omega))]
set_option maxRecDepth 100000 in
theorem hcf_congr {K g g' : Nat → Int32} {bs : Int32} {fc t : Nat} (h : ∀ k, k < t → g k = g' k) : hcf K bs g fc t = hcf K bs g' fc t := by
  have := (h_nums t).1
  unfold hcf
  exact ccv_congr (fun k hk => h _ (by omega))
set_option maxRecDepth 100000 in
theorem hbf_congr {g g' : Nat → Int32} {t : Nat} (h : ∀ k, k < t → g k = g' k) : hbf g t = hbf g' t := by
  have := (h_nums t).1
  unfold hbf
  exact bwI_congr (fun k hk => h _ (by omega))
set_option maxRecDepth 100000 in
theorem cln_full {n c : Nat} (h : c + 1 < chks n) : cln n c = 1024 := by
  unfold chks at h
  unfold cln
  split at h
  · omega
  · rw [if_neg (by omega)]
set_option maxRecDepth 100000 in
theorem cln_pos {n c : Nat} (h : c < chks n) (h0 : 0 < c) : 0 < cln n c := by
  unfold chks at h
  unfold cln
  split at h
  · omega
  · split <;> omega
/-- bytes of the chunks fi .. en - 1 -/
def tT (n fi en : Nat) : Nat := 1024 * (en - 1 - fi) + cln n (en - 1)
set_option maxRecDepth 100000 in
theorem tT_clo {n fi en : Nat} (h1 : fi < en) (h2 : en ≤ chks n) : clo (tT n fi en) = en - 1 - fi ∧ tT n fi en - 1024 * (en - 1 - fi) = cln n (en - 1) := by
  have := cln_le n (en - 1)
  have h3 : 0 < en - 1 → 0 < cln n (en - 1) := fun h => cln_pos (by omega) h
  unfold tT clo
  constructor
  · by_cases q : 0 < en - 1
    · have := h3 q
      omega
    · omega
  · omega
set_option maxRecDepth 100000 in
theorem nd_of {K fx : Nat → Int32} {be : Int32} {at0 fi en n : Nat} (h1 : fi < en) (h2 : en ≤ chks n) : upN K be (skS K be (fun k => fx ((at0 + 1024 * fi) + k)) fi (en - 1 - fi)) (pcn (en - 1 - fi)) (ndC K be fx (at0 + 1024 * (en - 1)) (en - 1) (cln n (en - 1))) = rtN K be (fun k => fx ((at0 + 1024 * fi) + k)) fi (tT n fi en) := by
  obtain ⟨e1, e2⟩ := tT_clo h1 h2
  rw [← rtN_of (K := K) (bs := be) (g := fun k => fx ((at0 + 1024 * fi) + k)) (fc := fi) e1, e2]
  congr 1
  rw [show fi + (en - 1 - fi) = en - 1 from by omega]
  exact ndC_congr (fun k hk => by
    show fx _ = fx _
    congr 1
    omega)
set_option maxRecDepth 100000 in
theorem lst_0 {n b : Nat} (h : b = bko n + 1 - 1) : nI 2 = nI (lst n b) := by rw [show lst n b = 2 from if_pos (by omega)]
set_option maxRecDepth 100000 in
theorem lst_1 {n b : Nat} (h : b ≠ bko n + 1 - 1) : nI 0 = nI (lst n b) := by rw [show lst n b = 0 from if_neg (by omega)]
set_option maxRecDepth 100000 in
theorem bwI_s4 (g : Nat → Int32) (a i : Nat) : upd (bwI g a i) (i / 4) (bwI g a i (i / 4) ||| (g (a + i) <<< (nI (8 * (i % 4)) &&& 31))) = bwI g a (i + 1) := rfl
