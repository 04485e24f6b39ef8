theorem cs_long (w : Int64) : (w < lN 0 ∨ (4611686018427387904 : Int64) < w) ∨ ∃ pl : Nat, pl ≤ 2 ^ 62 ∧ w = lN pl := by
  by_cases h : w < lN 0 ∨ (4611686018427387904 : Int64) < w
  · exact Or.inl h
  · have h1 : ¬ w < lN 0 := fun q => h (Or.inl q)
    have h2 : ¬ (4611686018427387904 : Int64) < w := fun q => h (Or.inr q)
    have h3 : (0 : Int64) ≤ w := Int64.not_lt.mp h1
    have h4 := Int64.le_iff_toInt_le.mp (Int64.not_lt.mp h2)
    have h5 : (4611686018427387904 : Int64).toInt = 4611686018427387904 := by decide
    refine Or.inr ⟨w.toNatClampNeg, ?_, (Int64.ofNat_toNatClampNeg w h3).symm⟩
    show w.toInt.toNat ≤ 2 ^ 62
    omega
theorem cs_pos {x : Int32} (h : ¬ x < 0) : ∃ a : Nat, a < 2 ^ 31 ∧ x = nI a := by
  refine ⟨x.toNatClampNeg, ?_, (Int32.ofNat_toNatClampNeg x (Int32.not_lt.mp h)).symm⟩
  show x.toInt.toNat < 2 ^ 31
  have := x.toInt_lt
  omega
theorem to_o {y : Int32} (h : y < 0 ∨ nI 4 < y) : y.toInt < 0 ∨ 4 < y.toInt := by
  rcases h with h | h
  · have h1 := Int32.lt_iff_toInt_lt.mp h
    have e : (0 : Int32).toInt = 0 := by decide
    omega
  · have h1 := Int32.lt_iff_toInt_lt.mp h
    have e : (nI 4).toInt = 4 := by decide
    omega
theorem upN1_self (c : Nat → Nat) (r : Nat) : upN1 c r (c r) = c := by
  funext j
  unfold upN1
  split
  · rename_i q; rw [q]
  · rfl
theorem upF1_self (c : Nat → Nat → Int32) (r : Nat) : upF1 c r (c r) = c := by
  funext j
  unfold upF1
  split
  · rename_i q; rw [q]
  · rfl
section CASES
variable {p : Program} {l : Launch} {e : Env} {s : State} {m : MethodId} {below : List Frame} {meth : Method} {c : Code} {H : Heap} {locs : List Loc} {cells slots : Nat} {Q : State → Prop} {D : va_G} {cy : Nat → ClassId} {t : Nat × Nat} {A : Nat → Prop} {F : Nat → cellT} {b L i0 : Nat} {xs : Nat → Int32} {ls : Array Slot} {a ra rb ha z cnt : Nat → Nat} {f : Nat → Nat → Int32} {fn0 : Nat} {ff : Nat → Int32} {pn : Nat} {pf : Nat → Int32} {md : Nat → Int32} {K g : Nat → Nat → Int32} {nt : Nat → Nat}
set_option maxHeartbeats 4000000 in
theorem law_add (X : LC p m c s D cy t A b L xs) (hI : INVx F cy a ra rb ha cnt f fn0 ff pn pf md K g nt) (hJ : INVm F cy z cnt f fn0 ff pn pf md K g nt) (hN : INVs cnt fn0 pn md nt) (hW : Wd D A s (LW F) H locs) (hl : lv_has ls 4 [(0, .ref b), (1, .ref (a 0)), (2, .ref (z 0)), (3, .int (nI i0))]) (hi : i0 + 6 ≤ L) (hf : cells ≤ 600000 ∧ slots ≤ 7302250) (kk : ∀ (H : Heap) (locs : List Loc) (F : Nat → cellT) (cnt : Nat → Nat) (f : Nat → Nat → Int32) (fn0 : Nat) (ff : Nat → Int32) (pn : Nat) (pf : Nat → Int32) (md : Nat → Int32) (K g : Nat → Nat → Int32) (nt : Nat → Nat), INVx F cy a ra rb ha cnt f fn0 ff pn pf md K g nt → INVm F cy z cnt f fn0 ff pn pf md K g nt → INVs cnt fn0 pn md nt → Wd D A s (LW F) H locs → W p l e room_1 s m #[Value.ref b] below meth c H locs cells slots Q (F0 m 868 ls [])) : W p l e room_1 s m #[Value.ref b] below meth c H locs cells slots Q (F0 m 128 ls []) := by
  refine lx_add X hW hl hi ?_
  rcases cs_n (xs (i0 + 1)) (n := 8) (by decide) with h1 | ⟨r, hr, e1⟩
  · skip
    refine x_add_b X hI hN hW hl.1 hf  _ _ _ h1 (fun H1 locs1 hW1 => ?_)
    refine lm_add _ X hW1 hl hi ?_
    refine m_add_b _ X hJ hN hW1 hl.1 hf  _ _ _ h1 (fun H2 locs2 hW2 => ?_)
    exact le_add X (kk H2 locs2 F _ _ _ _ _ _ _ _ _ _ hI hJ hN hW2)
  · skip
    rcases cs_1 (xs (i0 + 2)) (n := 8) (by decide) with h2 | ⟨k, hk1, hk8, e2⟩
    · skip
      rw [e1]
      refine x_add_bn X hI hN hW hl.1 hf hr _ _ (by first | omega | with_reducible exact hN.1 _ hr | with_reducible exact hN.2.1 | with_reducible exact hN.2.2.1 | with_reducible exact hN.2.2.2.2 _ hh | with_reducible exact hdp_5 (hN.2.2.2.2 _ hh) | exact hN.1 _ hr | exact hN.2.1 | exact hN.2.2.1 | exact hN.2.2.2.2 _ hh | exact hdp_5 (hN.2.2.2.2 _ hh)) h2 (fun H1 locs1 hW1 => ?_)
      refine lm_add _ X hW1 hl hi ?_
      rw [e1]
      refine m_add_bn _ X hJ hN hW1 hl.1 hf hr _ _ (by first | omega | with_reducible exact hN.1 _ hr | with_reducible exact hN.2.1 | with_reducible exact hN.2.2.1 | with_reducible exact hN.2.2.2.2 _ hh | with_reducible exact hdp_5 (hN.2.2.2.2 _ hh) | exact hN.1 _ hr | exact hN.2.1 | exact hN.2.2.1 | exact hN.2.2.2.2 _ hh | exact hdp_5 (hN.2.2.2.2 _ hh)) h2 (fun H2 locs2 hW2 => ?_)
      exact le_add X (kk H2 locs2 F _ _ _ _ _ _ _ _ _ _ hI hJ hN hW2)
    · skip
      by_cases h3 : 200 < cnt r + k
      · skip
        rw [e1, e2]
        refine x_add_r X hI hN hW hl.1 hf hr _ _ (by first | omega | with_reducible exact hN.1 _ hr | with_reducible exact hN.2.1 | with_reducible exact hN.2.2.1 | with_reducible exact hN.2.2.2.2 _ hh | with_reducible exact hdp_5 (hN.2.2.2.2 _ hh) | exact hN.1 _ hr | exact hN.2.1 | exact hN.2.2.1 | exact hN.2.2.2.2 _ hh | exact hdp_5 (hN.2.2.2.2 _ hh)) (by first | omega | with_reducible exact hN.1 _ hr | with_reducible exact hN.2.1 | with_reducible exact hN.2.2.1 | with_reducible exact hN.2.2.2.2 _ hh | with_reducible exact hdp_5 (hN.2.2.2.2 _ hh) | exact hN.1 _ hr | exact hN.2.1 | exact hN.2.2.1 | exact hN.2.2.2.2 _ hh | exact hdp_5 (hN.2.2.2.2 _ hh)) (by first | omega | with_reducible exact hN.1 _ hr | with_reducible exact hN.2.1 | with_reducible exact hN.2.2.1 | with_reducible exact hN.2.2.2.2 _ hh | with_reducible exact hdp_5 (hN.2.2.2.2 _ hh) | exact hN.1 _ hr | exact hN.2.1 | exact hN.2.2.1 | exact hN.2.2.2.2 _ hh | exact hdp_5 (hN.2.2.2.2 _ hh)) (by first | omega | with_reducible exact hN.1 _ hr | with_reducible exact hN.2.1 | with_reducible exact hN.2.2.1 | with_reducible exact hN.2.2.2.2 _ hh | with_reducible exact hdp_5 (hN.2.2.2.2 _ hh) | exact hN.1 _ hr | exact hN.2.1 | exact hN.2.2.1 | exact hN.2.2.2.2 _ hh | exact hdp_5 (hN.2.2.2.2 _ hh)) (fun H1 locs1 hW1 => ?_)
        refine lm_add _ X hW1 hl hi ?_
        rw [e1, e2]
        refine m_add_r _ X hJ hN hW1 hl.1 hf hr _ _ (by first | omega | with_reducible exact hN.1 _ hr | with_reducible exact hN.2.1 | with_reducible exact hN.2.2.1 | with_reducible exact hN.2.2.2.2 _ hh | with_reducible exact hdp_5 (hN.2.2.2.2 _ hh) | exact hN.1 _ hr | exact hN.2.1 | exact hN.2.2.1 | exact hN.2.2.2.2 _ hh | exact hdp_5 (hN.2.2.2.2 _ hh)) (by first | omega | with_reducible exact hN.1 _ hr | with_reducible exact hN.2.1 | with_reducible exact hN.2.2.1 | with_reducible exact hN.2.2.2.2 _ hh | with_reducible exact hdp_5 (hN.2.2.2.2 _ hh) | exact hN.1 _ hr | exact hN.2.1 | exact hN.2.2.1 | exact hN.2.2.2.2 _ hh | exact hdp_5 (hN.2.2.2.2 _ hh)) (by first | omega | with_reducible exact hN.1 _ hr | with_reducible exact hN.2.1 | with_reducible exact hN.2.2.1 | with_reducible exact hN.2.2.2.2 _ hh | with_reducible exact hdp_5 (hN.2.2.2.2 _ hh) | exact hN.1 _ hr | exact hN.2.1 | exact hN.2.2.1 | exact hN.2.2.2.2 _ hh | exact hdp_5 (hN.2.2.2.2 _ hh)) (by first | omega | with_reducible exact hN.1 _ hr | with_reducible exact hN.2.1 | with_reducible exact hN.2.2.1 | with_reducible exact hN.2.2.2.2 _ hh | with_reducible exact hdp_5 (hN.2.2.2.2 _ hh) | exact hN.1 _ hr | exact hN.2.1 | exact hN.2.2.1 | exact hN.2.2.2.2 _ hh | exact hdp_5 (hN.2.2.2.2 _ hh)) (fun H2 locs2 hW2 => ?_)
        exact le_add X (kk H2 locs2 F _ _ _ _ _ _ _ _ _ _ hI hJ hN hW2)
      · skip
        rw [e1, e2]
        refine x_add X hI hN hW hl.1 hf hr _ _ (by first | omega | with_reducible exact hN.1 _ hr | with_reducible exact hN.2.1 | with_reducible exact hN.2.2.1 | with_reducible exact hN.2.2.2.2 _ hh | with_reducible exact hdp_5 (hN.2.2.2.2 _ hh) | exact hN.1 _ hr | exact hN.2.1 | exact hN.2.2.1 | exact hN.2.2.2.2 _ hh | exact hdp_5 (hN.2.2.2.2 _ hh)) (by first | omega | with_reducible exact hN.1 _ hr | with_reducible exact hN.2.1 | with_reducible exact hN.2.2.1 | with_reducible exact hN.2.2.2.2 _ hh | with_reducible exact hdp_5 (hN.2.2.2.2 _ hh) | exact hN.1 _ hr | exact hN.2.1 | exact hN.2.2.1 | exact hN.2.2.2.2 _ hh | exact hdp_5 (hN.2.2.2.2 _ hh)) (by first | omega | with_reducible exact hN.1 _ hr | with_reducible exact hN.2.1 | with_reducible exact hN.2.2.1 | with_reducible exact hN.2.2.2.2 _ hh | with_reducible exact hdp_5 (hN.2.2.2.2 _ hh) | exact hN.1 _ hr | exact hN.2.1 | exact hN.2.2.1 | exact hN.2.2.2.2 _ hh | exact hdp_5 (hN.2.2.2.2 _ hh)) (by first | omega | with_reducible exact hN.1 _ hr | with_reducible exact hN.2.1 | with_reducible exact hN.2.2.1 | with_reducible exact hN.2.2.2.2 _ hh | with_reducible exact hdp_5 (hN.2.2.2.2 _ hh) | exact hN.1 _ hr | exact hN.2.1 | exact hN.2.2.1 | exact hN.2.2.2.2 _ hh | exact hdp_5 (hN.2.2.2.2 _ hh)) (fun H1 locs1 F1 hA1 hI1 hW1 => ?_)
        refine lm_add _ X hW1 hl hi ?_
        rw [e1, e2]
        refine m_add _ X (INVm_ag hJ hA1) hN hW1 hl.1 hf hr _ _ (by first | omega | with_reducible exact hN.1 _ hr | with_reducible exact hN.2.1 | with_reducible exact hN.2.2.1 | with_reducible exact hN.2.2.2.2 _ hh | with_reducible exact hdp_5 (hN.2.2.2.2 _ hh) | exact hN.1 _ hr | exact hN.2.1 | exact hN.2.2.1 | exact hN.2.2.2.2 _ hh | exact hdp_5 (hN.2.2.2.2 _ hh)) (by first | omega | with_reducible exact hN.1 _ hr | with_reducible exact hN.2.1 | with_reducible exact hN.2.2.1 | with_reducible exact hN.2.2.2.2 _ hh | with_reducible exact hdp_5 (hN.2.2.2.2 _ hh) | exact hN.1 _ hr | exact hN.2.1 | exact hN.2.2.1 | exact hN.2.2.2.2 _ hh | exact hdp_5 (hN.2.2.2.2 _ hh)) (by first | omega | with_reducible exact hN.1 _ hr | with_reducible exact hN.2.1 | with_reducible exact hN.2.2.1 | with_reducible exact hN.2.2.2.2 _ hh | with_reducible exact hdp_5 (hN.2.2.2.2 _ hh) | exact hN.1 _ hr | exact hN.2.1 | exact hN.2.2.1 | exact hN.2.2.2.2 _ hh | exact hdp_5 (hN.2.2.2.2 _ hh)) (by first | omega | with_reducible exact hN.1 _ hr | with_reducible exact hN.2.1 | with_reducible exact hN.2.2.1 | with_reducible exact hN.2.2.2.2 _ hh | with_reducible exact hdp_5 (hN.2.2.2.2 _ hh) | exact hN.1 _ hr | exact hN.2.1 | exact hN.2.2.1 | exact hN.2.2.2.2 _ hh | exact hdp_5 (hN.2.2.2.2 _ hh)) (fun H2 locs2 F2 hB2 hJ2 hW2 => ?_)
        exact le_add X (kk H2 locs2 F2 _ _ _ _ _ _ _ _ _ _ (INVx_ag hI1 hB2) hJ2 (INVs_reg hN (by omega)) hW2)
set_option maxHeartbeats 4000000 in
theorem law_clear (X : LC p m c s D cy t A b L xs) (hI : INVx F cy a ra rb ha cnt f fn0 ff pn pf md K g nt) (hJ : INVm F cy z cnt f fn0 ff pn pf md K g nt) (hN : INVs cnt fn0 pn md nt) (hW : Wd D A s (LW F) H locs) (hl : lv_has ls 4 [(0, .ref b), (1, .ref (a 0)), (2, .ref (z 0)), (3, .int (nI i0))]) (hi : i0 + 6 ≤ L) (hf : cells ≤ 600000 ∧ slots ≤ 7302250) (kk : ∀ (H : Heap) (locs : List Loc) (F : Nat → cellT) (cnt : Nat → Nat) (f : Nat → Nat → Int32) (fn0 : Nat) (ff : Nat → Int32) (pn : Nat) (pf : Nat → Int32) (md : Nat → Int32) (K g : Nat → Nat → Int32) (nt : Nat → Nat), INVx F cy a ra rb ha cnt f fn0 ff pn pf md K g nt → INVm F cy z cnt f fn0 ff pn pf md K g nt → INVs cnt fn0 pn md nt → Wd D A s (LW F) H locs → W p l e room_1 s m #[Value.ref b] below meth c H locs cells slots Q (F0 m 868 ls [])) : W p l e room_1 s m #[Value.ref b] below meth c H locs cells slots Q (F0 m 201 ls []) := by
  refine lx_clear X hW hl hi ?_
  rcases cs_n (xs (i0 + 1)) (n := 8) (by decide) with h1 | ⟨r, hr, e1⟩
  · skip
    refine x_clear_b X hI hN hW hl.1 hf  _ h1 (fun H1 locs1 hW1 => ?_)
    refine lm_clear _ X hW1 hl hi ?_
    refine m_clear_b _ X hJ hN hW1 hl.1 hf  _ h1 (fun H2 locs2 hW2 => ?_)
    exact le_clear X (kk H2 locs2 F _ _ _ _ _ _ _ _ _ _ hI hJ hN hW2)
  · skip
    rw [e1]
    refine x_clear X hI hN hW hl.1 hf hr  (by first | omega | with_reducible exact hN.1 _ hr | with_reducible exact hN.2.1 | with_reducible exact hN.2.2.1 | with_reducible exact hN.2.2.2.2 _ hh | with_reducible exact hdp_5 (hN.2.2.2.2 _ hh) | exact hN.1 _ hr | exact hN.2.1 | exact hN.2.2.1 | exact hN.2.2.2.2 _ hh | exact hdp_5 (hN.2.2.2.2 _ hh)) (fun H1 locs1 F1 hA1 hI1 hW1 => ?_)
    refine lm_clear _ X hW1 hl hi ?_
    rw [e1]
    refine m_clear _ X (INVm_ag hJ hA1) hN hW1 hl.1 hf hr  (by first | omega | with_reducible exact hN.1 _ hr | with_reducible exact hN.2.1 | with_reducible exact hN.2.2.1 | with_reducible exact hN.2.2.2.2 _ hh | with_reducible exact hdp_5 (hN.2.2.2.2 _ hh) | exact hN.1 _ hr | exact hN.2.1 | exact hN.2.2.1 | exact hN.2.2.2.2 _ hh | exact hdp_5 (hN.2.2.2.2 _ hh)) (fun H2 locs2 F2 hB2 hJ2 hW2 => ?_)
    exact le_clear X (kk H2 locs2 F2 _ _ _ _ _ _ _ _ _ _ (INVx_ag hI1 hB2) hJ2 (INVs_reg hN (Nat.zero_le _)) hW2)
set_option maxHeartbeats 4000000 in
theorem law_size (X : LC p m c s D cy t A b L xs) (hI : INVx F cy a ra rb ha cnt f fn0 ff pn pf md K g nt) (hJ : INVm F cy z cnt f fn0 ff pn pf md K g nt) (hN : INVs cnt fn0 pn md nt) (hW : Wd D A s (LW F) H locs) (hl : lv_has ls 4 [(0, .ref b), (1, .ref (a 0)), (2, .ref (z 0)), (3, .int (nI i0))]) (hi : i0 + 6 ≤ L) (hf : cells ≤ 600000 ∧ slots ≤ 7302250) (kk : ∀ (H : Heap) (locs : List Loc) (F : Nat → cellT) (cnt : Nat → Nat) (f : Nat → Nat → Int32) (fn0 : Nat) (ff : Nat → Int32) (pn : Nat) (pf : Nat → Int32) (md : Nat → Int32) (K g : Nat → Nat → Int32) (nt : Nat → Nat), INVx F cy a ra rb ha cnt f fn0 ff pn pf md K g nt → INVm F cy z cnt f fn0 ff pn pf md K g nt → INVs cnt fn0 pn md nt → Wd D A s (LW F) H locs → W p l e room_1 s m #[Value.ref b] below meth c H locs cells slots Q (F0 m 868 ls [])) : W p l e room_1 s m #[Value.ref b] below meth c H locs cells slots Q (F0 m 224 ls []) := by
  refine lx_size X hW hl hi ?_
  rcases cs_n (xs (i0 + 1)) (n := 8) (by decide) with h1 | ⟨r, hr, e1⟩
  · skip
    refine x_size_b X hI hN hW hl.1 hf  _ h1 (fun H1 locs1 hW1 => ?_)
    refine lm_size _ X hW1 hl hi ?_
    refine m_size_b _ X hJ hN hW1 hl.1 hf  _ h1 (fun H2 locs2 hW2 => ?_)
    exact le_size X (kk H2 locs2 F _ _ _ _ _ _ _ _ _ _ hI hJ hN hW2)
  · skip
    rw [e1]
    refine x_size X hI hN hW hl.1 hf hr  (by first | omega | with_reducible exact hN.1 _ hr | with_reducible exact hN.2.1 | with_reducible exact hN.2.2.1 | with_reducible exact hN.2.2.2.2 _ hh | with_reducible exact hdp_5 (hN.2.2.2.2 _ hh) | exact hN.1 _ hr | exact hN.2.1 | exact hN.2.2.1 | exact hN.2.2.2.2 _ hh | exact hdp_5 (hN.2.2.2.2 _ hh)) (fun H1 locs1 hW1 => ?_)
    refine lm_size _ X hW1 hl hi ?_
    rw [e1]
    refine m_size _ X hJ hN hW1 hl.1 hf hr  (by first | omega | with_reducible exact hN.1 _ hr | with_reducible exact hN.2.1 | with_reducible exact hN.2.2.1 | with_reducible exact hN.2.2.2.2 _ hh | with_reducible exact hdp_5 (hN.2.2.2.2 _ hh) | exact hN.1 _ hr | exact hN.2.1 | exact hN.2.2.1 | exact hN.2.2.2.2 _ hh | exact hdp_5 (hN.2.2.2.2 _ hh)) (fun H2 locs2 hW2 => ?_)
    exact le_size X (kk H2 locs2 F _ _ _ _ _ _ _ _ _ _ hI hJ hN hW2)
set_option maxHeartbeats 4000000 in
theorem law_at (X : LC p m c s D cy t A b L xs) (hI : INVx F cy a ra rb ha cnt f fn0 ff pn pf md K g nt) (hJ : INVm F cy z cnt f fn0 ff pn pf md K g nt) (hN : INVs cnt fn0 pn md nt) (hW : Wd D A s (LW F) H locs) (hl : lv_has ls 4 [(0, .ref b), (1, .ref (a 0)), (2, .ref (z 0)), (3, .int (nI i0))]) (hi : i0 + 6 ≤ L) (hf : cells ≤ 600000 ∧ slots ≤ 7302250) (kk : ∀ (H : Heap) (locs : List Loc) (F : Nat → cellT) (cnt : Nat → Nat) (f : Nat → Nat → Int32) (fn0 : Nat) (ff : Nat → Int32) (pn : Nat) (pf : Nat → Int32) (md : Nat → Int32) (K g : Nat → Nat → Int32) (nt : Nat → Nat), INVx F cy a ra rb ha cnt f fn0 ff pn pf md K g nt → INVm F cy z cnt f fn0 ff pn pf md K g nt → INVs cnt fn0 pn md nt → Wd D A s (LW F) H locs → W p l e room_1 s m #[Value.ref b] below meth c H locs cells slots Q (F0 m 868 ls [])) : W p l e room_1 s m #[Value.ref b] below meth c H locs cells slots Q (F0 m 247 ls []) := by
  refine lx_at X hW hl hi ?_
  rcases cs_n (xs (i0 + 1)) (n := 8) (by decide) with h1 | ⟨r, hr, e1⟩
  · skip
    refine x_at_b X hI hN hW hl.1 hf  _ _ h1 (fun H1 locs1 hW1 => ?_)
    refine lm_at _ X hW1 hl hi ?_
    refine m_at_b _ X hJ hN hW1 hl.1 hf  _ _ h1 (fun H2 locs2 hW2 => ?_)
    exact le_at X (kk H2 locs2 F _ _ _ _ _ _ _ _ _ _ hI hJ hN hW2)
  · skip
    have hc := hN.1 r hr
    rcases cs_n (xs (i0 + 2)) (n := cnt r) (by omega) with h2 | ⟨j, hj, e2⟩
    · skip
      rw [e1]
      refine x_at X hI hN hW hl.1 hf hr _ (by first | omega | with_reducible exact hN.1 _ hr | with_reducible exact hN.2.1 | with_reducible exact hN.2.2.1 | with_reducible exact hN.2.2.2.2 _ hh | with_reducible exact hdp_5 (hN.2.2.2.2 _ hh) | exact hN.1 _ hr | exact hN.2.1 | exact hN.2.2.1 | exact hN.2.2.2.2 _ hh | exact hdp_5 (hN.2.2.2.2 _ hh)) (fun H1 locs1 hW1 => ?_)
      have eb : byt (f r) (cnt r) (xs (i0 + 2)) = -1 := by
        rcases h2 with h2 | h2
        · exact byt_neg h2
        · exact byt_out h2
      rw [eb]
      refine lm_at _ X hW1 hl hi ?_
      rw [e1]
      refine m_at_o _ X hJ hN hW1 hl.1 hf hr _ (by first | omega | with_reducible exact hN.1 _ hr | with_reducible exact hN.2.1 | with_reducible exact hN.2.2.1 | with_reducible exact hN.2.2.2.2 _ hh | with_reducible exact hdp_5 (hN.2.2.2.2 _ hh) | exact hN.1 _ hr | exact hN.2.1 | exact hN.2.2.1 | exact hN.2.2.2.2 _ hh | exact hdp_5 (hN.2.2.2.2 _ hh)) h2 (fun H2 locs2 hW2 => ?_)
      exact le_at X (kk H2 locs2 F _ _ _ _ _ _ _ _ _ _ hI hJ hN hW2)
    · skip
      rw [e1, e2]
      refine x_at X hI hN hW hl.1 hf hr _ (by first | omega | with_reducible exact hN.1 _ hr | with_reducible exact hN.2.1 | with_reducible exact hN.2.2.1 | with_reducible exact hN.2.2.2.2 _ hh | with_reducible exact hdp_5 (hN.2.2.2.2 _ hh) | exact hN.1 _ hr | exact hN.2.1 | exact hN.2.2.1 | exact hN.2.2.2.2 _ hh | exact hdp_5 (hN.2.2.2.2 _ hh)) (fun H1 locs1 hW1 => ?_)
      have eb : byt (f r) (cnt r) (nI j) = lo8 (f r) j := byt_in hj (by omega)
      rw [eb]
      refine lm_at _ X hW1 hl hi ?_
      rw [e1, e2]
      refine m_at _ X hJ hN hW1 hl.1 hf hr _ (by first | omega | with_reducible exact hN.1 _ hr | with_reducible exact hN.2.1 | with_reducible exact hN.2.2.1 | with_reducible exact hN.2.2.2.2 _ hh | with_reducible exact hdp_5 (hN.2.2.2.2 _ hh) | exact hN.1 _ hr | exact hN.2.1 | exact hN.2.2.1 | exact hN.2.2.2.2 _ hh | exact hdp_5 (hN.2.2.2.2 _ hh)) hj (fun H2 locs2 hW2 => ?_)
      exact le_at X (kk H2 locs2 F _ _ _ _ _ _ _ _ _ _ hI hJ hN hW2)
set_option maxHeartbeats 4000000 in
theorem law_told (X : LC p m c s D cy t A b L xs) (hI : INVx F cy a ra rb ha cnt f fn0 ff pn pf md K g nt) (hJ : INVm F cy z cnt f fn0 ff pn pf md K g nt) (hN : INVs cnt fn0 pn md nt) (hW : Wd D A s (LW F) H locs) (hl : lv_has ls 4 [(0, .ref b), (1, .ref (a 0)), (2, .ref (z 0)), (3, .int (nI i0))]) (hi : i0 + 6 ≤ L) (hf : cells ≤ 600000 ∧ slots ≤ 7302250) (kk : ∀ (H : Heap) (locs : List Loc) (F : Nat → cellT) (cnt : Nat → Nat) (f : Nat → Nat → Int32) (fn0 : Nat) (ff : Nat → Int32) (pn : Nat) (pf : Nat → Int32) (md : Nat → Int32) (K g : Nat → Nat → Int32) (nt : Nat → Nat), INVx F cy a ra rb ha cnt f fn0 ff pn pf md K g nt → INVm F cy z cnt f fn0 ff pn pf md K g nt → INVs cnt fn0 pn md nt → Wd D A s (LW F) H locs → W p l e room_1 s m #[Value.ref b] below meth c H locs cells slots Q (F0 m 868 ls [])) : W p l e room_1 s m #[Value.ref b] below meth c H locs cells slots Q (F0 m 525 ls []) := by
  refine lx_told X hW hl hi ?_
  rcases cs_n (xs (i0 + 1)) (n := 4) (by decide) with h1 | ⟨h, hh, e1⟩
  · skip
    refine x_told_b X hI hN hW hl.1 hf  _ _ h1 (fun H1 locs1 hW1 => ?_)
    refine lm_told _ X hW1 hl hi ?_
    refine m_told_b _ X hJ hN hW1 hl.1 hf  _ _ h1 (fun H2 locs2 hW2 => ?_)
    exact le_told X (kk H2 locs2 F _ _ _ _ _ _ _ _ _ _ hI hJ hN hW2)
  · skip
    rcases cs_le (xs (i0 + 2)) (n := 4) (by decide) with h2 | ⟨j, hj, e2⟩
    · skip
      rw [e1]
      refine x_told_o X hI hN hW hl.1 hf hh _ (to_o h2) (fun H1 locs1 hW1 => ?_)
      refine lm_told _ X hW1 hl hi ?_
      rw [e1]
      refine m_told_o _ X hJ hN hW1 hl.1 hf hh _ h2 (fun H2 locs2 hW2 => ?_)
      exact le_told X (kk H2 locs2 F _ _ _ _ _ _ _ _ _ _ hI hJ hN hW2)
    · skip
      rcases (show j = 0 ∨ j = 1 ∨ j = 2 ∨ j = 3 ∨ j = 4 by omega) with rfl | rfl | rfl | rfl | rfl
      · skip
        rw [e1, e2]
        refine x_told_0 X hI hN hW hl.1 hf hh   (fun H1 locs1 hW1 => ?_)
        refine lm_told _ X hW1 hl hi ?_
        rw [e1, e2]
        refine m_told_0 _ X hJ hN hW1 hl.1 hf hh  (by first | omega | with_reducible exact hN.1 _ hr | with_reducible exact hN.2.1 | with_reducible exact hN.2.2.1 | with_reducible exact hN.2.2.2.2 _ hh | with_reducible exact hdp_5 (hN.2.2.2.2 _ hh) | exact hN.1 _ hr | exact hN.2.1 | exact hN.2.2.1 | exact hN.2.2.2.2 _ hh | exact hdp_5 (hN.2.2.2.2 _ hh)) (fun H2 locs2 hW2 => ?_)
        exact le_told X (kk H2 locs2 F _ _ _ _ _ _ _ _ _ _ hI hJ hN hW2)
      · skip
        rw [e1, e2]
        refine x_told_1 X hI hN hW hl.1 hf hh   (fun H1 locs1 hW1 => ?_)
        refine lm_told _ X hW1 hl hi ?_
        rw [e1, e2]
        refine m_told_1 _ X hJ hN hW1 hl.1 hf hh  (by first | omega | with_reducible exact hN.1 _ hr | with_reducible exact hN.2.1 | with_reducible exact hN.2.2.1 | with_reducible exact hN.2.2.2.2 _ hh | with_reducible exact hdp_5 (hN.2.2.2.2 _ hh) | exact hN.1 _ hr | exact hN.2.1 | exact hN.2.2.1 | exact hN.2.2.2.2 _ hh | exact hdp_5 (hN.2.2.2.2 _ hh)) (fun H2 locs2 hW2 => ?_)
        exact le_told X (kk H2 locs2 F _ _ _ _ _ _ _ _ _ _ hI hJ hN hW2)
      · skip
        rw [e1, e2]
        refine x_told_2 X hI hN hW hl.1 hf hh   (fun H1 locs1 hW1 => ?_)
        refine lm_told _ X hW1 hl hi ?_
        rw [e1, e2]
        refine m_told_2 _ X hJ hN hW1 hl.1 hf hh  (by first | omega | with_reducible exact hN.1 _ hr | with_reducible exact hN.2.1 | with_reducible exact hN.2.2.1 | with_reducible exact hN.2.2.2.2 _ hh | with_reducible exact hdp_5 (hN.2.2.2.2 _ hh) | exact hN.1 _ hr | exact hN.2.1 | exact hN.2.2.1 | exact hN.2.2.2.2 _ hh | exact hdp_5 (hN.2.2.2.2 _ hh)) (fun H2 locs2 hW2 => ?_)
        exact le_told X (kk H2 locs2 F _ _ _ _ _ _ _ _ _ _ hI hJ hN hW2)
      · skip
        rw [e1, e2]
        refine x_told_3 X hI hN hW hl.1 hf hh   (fun H1 locs1 hW1 => ?_)
        refine lm_told _ X hW1 hl hi ?_
        rw [e1, e2]
        refine m_told_3 _ X hJ hN hW1 hl.1 hf hh  (by first | omega | with_reducible exact hN.1 _ hr | with_reducible exact hN.2.1 | with_reducible exact hN.2.2.1 | with_reducible exact hN.2.2.2.2 _ hh | with_reducible exact hdp_5 (hN.2.2.2.2 _ hh) | exact hN.1 _ hr | exact hN.2.1 | exact hN.2.2.1 | exact hN.2.2.2.2 _ hh | exact hdp_5 (hN.2.2.2.2 _ hh)) (fun H2 locs2 hW2 => ?_)
        exact le_told X (kk H2 locs2 F _ _ _ _ _ _ _ _ _ _ hI hJ hN hW2)
      · skip
        rw [e1, e2]
        refine x_told_4 X hI hN hW hl.1 hf hh   (fun H1 locs1 hW1 => ?_)
        refine lm_told _ X hW1 hl hi ?_
        rw [e1, e2]
        refine m_told_4 _ X hJ hN hW1 hl.1 hf hh  (by first | omega | with_reducible exact hN.1 _ hr | with_reducible exact hN.2.1 | with_reducible exact hN.2.2.1 | with_reducible exact hN.2.2.2.2 _ hh | with_reducible exact hdp_5 (hN.2.2.2.2 _ hh) | exact hN.1 _ hr | exact hN.2.1 | exact hN.2.2.1 | exact hN.2.2.2.2 _ hh | exact hdp_5 (hN.2.2.2.2 _ hh)) (fun H2 locs2 hW2 => ?_)
        exact le_told X (kk H2 locs2 F _ _ _ _ _ _ _ _ _ _ hI hJ hN hW2)
set_option maxHeartbeats 4000000 in
theorem law_grow (X : LC p m c s D cy t A b L xs) (hI : INVx F cy a ra rb ha cnt f fn0 ff pn pf md K g nt) (hJ : INVm F cy z cnt f fn0 ff pn pf md K g nt) (hN : INVs cnt fn0 pn md nt) (hW : Wd D A s (LW F) H locs) (hl : lv_has ls 4 [(0, .ref b), (1, .ref (a 0)), (2, .ref (z 0)), (3, .int (nI i0))]) (hi : i0 + 6 ≤ L) (hf : cells ≤ 600000 ∧ slots ≤ 7302250) (kk : ∀ (H : Heap) (locs : List Loc) (F : Nat → cellT) (cnt : Nat → Nat) (f : Nat → Nat → Int32) (fn0 : Nat) (ff : Nat → Int32) (pn : Nat) (pf : Nat → Int32) (md : Nat → Int32) (K g : Nat → Nat → Int32) (nt : Nat → Nat), INVx F cy a ra rb ha cnt f fn0 ff pn pf md K g nt → INVm F cy z cnt f fn0 ff pn pf md K g nt → INVs cnt fn0 pn md nt → Wd D A s (LW F) H locs → W p l e room_1 s m #[Value.ref b] below meth c H locs cells slots Q (F0 m 868 ls [])) : W p l e room_1 s m #[Value.ref b] below meth c H locs cells slots Q (F0 m 601 ls []) := by
  refine lx_grow X hW hl hi ?_
  have hc := hN.2.1
  rcases cs_1 (xs (i0 + 1)) (n := 5000) (by decide) with h2 | ⟨n, hn1, hn5, e2⟩
  · skip
    refine x_grow_b X hI hN hW hl.1 hf  _ _ _ h2 (fun H1 locs1 hW1 => ?_)
    refine lm_grow _ X hW1 hl hi ?_
    refine m_grow_b _ X hJ hN hW1 hl.1 hf  _ _ _ h2 (fun H2 locs2 hW2 => ?_)
    exact le_grow X (kk H2 locs2 F _ _ _ _ _ _ _ _ _ _ hI hJ hN hW2)
  · skip
    by_cases h3 : 20000 < fn0 + n
    · skip
      rw [e2]
      refine x_grow_r X hI hN hW hl.1 hf  _ _ _ (by first | omega | with_reducible exact hN.1 _ hr | with_reducible exact hN.2.1 | with_reducible exact hN.2.2.1 | with_reducible exact hN.2.2.2.2 _ hh | with_reducible exact hdp_5 (hN.2.2.2.2 _ hh) | exact hN.1 _ hr | exact hN.2.1 | exact hN.2.2.1 | exact hN.2.2.2.2 _ hh | exact hdp_5 (hN.2.2.2.2 _ hh)) (by first | omega | with_reducible exact hN.1 _ hr | with_reducible exact hN.2.1 | with_reducible exact hN.2.2.1 | with_reducible exact hN.2.2.2.2 _ hh | with_reducible exact hdp_5 (hN.2.2.2.2 _ hh) | exact hN.1 _ hr | exact hN.2.1 | exact hN.2.2.1 | exact hN.2.2.2.2 _ hh | exact hdp_5 (hN.2.2.2.2 _ hh)) (by first | omega | with_reducible exact hN.1 _ hr | with_reducible exact hN.2.1 | with_reducible exact hN.2.2.1 | with_reducible exact hN.2.2.2.2 _ hh | with_reducible exact hdp_5 (hN.2.2.2.2 _ hh) | exact hN.1 _ hr | exact hN.2.1 | exact hN.2.2.1 | exact hN.2.2.2.2 _ hh | exact hdp_5 (hN.2.2.2.2 _ hh)) (fun H1 locs1 hW1 => ?_)
      refine lm_grow _ X hW1 hl hi ?_
      rw [e2]
      refine m_grow_r _ X hJ hN hW1 hl.1 hf  _ _ _ (by first | omega | with_reducible exact hN.1 _ hr | with_reducible exact hN.2.1 | with_reducible exact hN.2.2.1 | with_reducible exact hN.2.2.2.2 _ hh | with_reducible exact hdp_5 (hN.2.2.2.2 _ hh) | exact hN.1 _ hr | exact hN.2.1 | exact hN.2.2.1 | exact hN.2.2.2.2 _ hh | exact hdp_5 (hN.2.2.2.2 _ hh)) (by first | omega | with_reducible exact hN.1 _ hr | with_reducible exact hN.2.1 | with_reducible exact hN.2.2.1 | with_reducible exact hN.2.2.2.2 _ hh | with_reducible exact hdp_5 (hN.2.2.2.2 _ hh) | exact hN.1 _ hr | exact hN.2.1 | exact hN.2.2.1 | exact hN.2.2.2.2 _ hh | exact hdp_5 (hN.2.2.2.2 _ hh)) (by first | omega | with_reducible exact hN.1 _ hr | with_reducible exact hN.2.1 | with_reducible exact hN.2.2.1 | with_reducible exact hN.2.2.2.2 _ hh | with_reducible exact hdp_5 (hN.2.2.2.2 _ hh) | exact hN.1 _ hr | exact hN.2.1 | exact hN.2.2.1 | exact hN.2.2.2.2 _ hh | exact hdp_5 (hN.2.2.2.2 _ hh)) (fun H2 locs2 hW2 => ?_)
      exact le_grow X (kk H2 locs2 F _ _ _ _ _ _ _ _ _ _ hI hJ hN hW2)
    · skip
      rw [e2]
      refine x_grow X hI hN hW hl.1 hf  _ _ _ (by first | omega | with_reducible exact hN.1 _ hr | with_reducible exact hN.2.1 | with_reducible exact hN.2.2.1 | with_reducible exact hN.2.2.2.2 _ hh | with_reducible exact hdp_5 (hN.2.2.2.2 _ hh) | exact hN.1 _ hr | exact hN.2.1 | exact hN.2.2.1 | exact hN.2.2.2.2 _ hh | exact hdp_5 (hN.2.2.2.2 _ hh)) (by first | omega | with_reducible exact hN.1 _ hr | with_reducible exact hN.2.1 | with_reducible exact hN.2.2.1 | with_reducible exact hN.2.2.2.2 _ hh | with_reducible exact hdp_5 (hN.2.2.2.2 _ hh) | exact hN.1 _ hr | exact hN.2.1 | exact hN.2.2.1 | exact hN.2.2.2.2 _ hh | exact hdp_5 (hN.2.2.2.2 _ hh)) (by first | omega | with_reducible exact hN.1 _ hr | with_reducible exact hN.2.1 | with_reducible exact hN.2.2.1 | with_reducible exact hN.2.2.2.2 _ hh | with_reducible exact hdp_5 (hN.2.2.2.2 _ hh) | exact hN.1 _ hr | exact hN.2.1 | exact hN.2.2.1 | exact hN.2.2.2.2 _ hh | exact hdp_5 (hN.2.2.2.2 _ hh)) (fun H1 locs1 F1 hA1 hI1 hW1 => ?_)
      refine lm_grow _ X hW1 hl hi ?_
      rw [e2]
      refine m_grow _ X (INVm_ag hJ hA1) hN hW1 hl.1 hf  _ _ _ (by first | omega | with_reducible exact hN.1 _ hr | with_reducible exact hN.2.1 | with_reducible exact hN.2.2.1 | with_reducible exact hN.2.2.2.2 _ hh | with_reducible exact hdp_5 (hN.2.2.2.2 _ hh) | exact hN.1 _ hr | exact hN.2.1 | exact hN.2.2.1 | exact hN.2.2.2.2 _ hh | exact hdp_5 (hN.2.2.2.2 _ hh)) (by first | omega | with_reducible exact hN.1 _ hr | with_reducible exact hN.2.1 | with_reducible exact hN.2.2.1 | with_reducible exact hN.2.2.2.2 _ hh | with_reducible exact hdp_5 (hN.2.2.2.2 _ hh) | exact hN.1 _ hr | exact hN.2.1 | exact hN.2.2.1 | exact hN.2.2.2.2 _ hh | exact hdp_5 (hN.2.2.2.2 _ hh)) (by first | omega | with_reducible exact hN.1 _ hr | with_reducible exact hN.2.1 | with_reducible exact hN.2.2.1 | with_reducible exact hN.2.2.2.2 _ hh | with_reducible exact hdp_5 (hN.2.2.2.2 _ hh) | exact hN.1 _ hr | exact hN.2.1 | exact hN.2.2.1 | exact hN.2.2.2.2 _ hh | exact hdp_5 (hN.2.2.2.2 _ hh)) (fun H2 locs2 F2 hB2 hJ2 hW2 => ?_)
      exact le_grow X (kk H2 locs2 F2 _ _ _ _ _ _ _ _ _ _ (INVx_ag hI1 hB2) hJ2 (INVs_file hN (by omega)) hW2)
set_option maxHeartbeats 4000000 in
theorem law_spoil (X : LC p m c s D cy t A b L xs) (hI : INVx F cy a ra rb ha cnt f fn0 ff pn pf md K g nt) (hJ : INVm F cy z cnt f fn0 ff pn pf md K g nt) (hN : INVs cnt fn0 pn md nt) (hW : Wd D A s (LW F) H locs) (hl : lv_has ls 4 [(0, .ref b), (1, .ref (a 0)), (2, .ref (z 0)), (3, .int (nI i0))]) (hi : i0 + 6 ≤ L) (hf : cells ≤ 600000 ∧ slots ≤ 7302250) (kk : ∀ (H : Heap) (locs : List Loc) (F : Nat → cellT) (cnt : Nat → Nat) (f : Nat → Nat → Int32) (fn0 : Nat) (ff : Nat → Int32) (pn : Nat) (pf : Nat → Int32) (md : Nat → Int32) (K g : Nat → Nat → Int32) (nt : Nat → Nat), INVx F cy a ra rb ha cnt f fn0 ff pn pf md K g nt → INVm F cy z cnt f fn0 ff pn pf md K g nt → INVs cnt fn0 pn md nt → Wd D A s (LW F) H locs → W p l e room_1 s m #[Value.ref b] below meth c H locs cells slots Q (F0 m 868 ls [])) : W p l e room_1 s m #[Value.ref b] below meth c H locs cells slots Q (F0 m 644 ls []) := by
  refine lx_spoil X hW hl hi ?_
  have hc := hN.2.1
  rcases cs_n (xs (i0 + 1)) (n := fn0) (by omega) with h1 | ⟨iq, hi1, e1⟩
  · skip
    refine x_spoil_b X hI hN hW hl.1 hf  _ _ (Or.elim h1 Or.inl (fun q => Or.inr (Or.inl q))) (fun H1 locs1 hW1 => ?_)
    refine lm_spoil _ X hW1 hl hi ?_
    refine m_spoil_b _ X hJ hN hW1 hl.1 hf  _ _ (Or.elim h1 Or.inl (fun q => Or.inr (Or.inl q))) (fun H2 locs2 hW2 => ?_)
    exact le_spoil X (kk H2 locs2 F _ _ _ _ _ _ _ _ _ _ hI hJ hN hW2)
  · skip
    rcases cs_le (xs (i0 + 2)) (n := 255) (by decide) with h2 | ⟨k, hk, e2⟩
    · skip
      refine x_spoil_b X hI hN hW hl.1 hf  _ _ (Or.inr (Or.inr h2)) (fun H1 locs1 hW1 => ?_)
      refine lm_spoil _ X hW1 hl hi ?_
      refine m_spoil_b _ X hJ hN hW1 hl.1 hf  _ _ (Or.inr (Or.inr h2)) (fun H2 locs2 hW2 => ?_)
      exact le_spoil X (kk H2 locs2 F _ _ _ _ _ _ _ _ _ _ hI hJ hN hW2)
    · skip
      rw [e1, e2]
      refine x_spoil X hI hN hW hl.1 hf  _ _ hi1 hk (fun H1 locs1 F1 hA1 hI1 hW1 => ?_)
      refine lm_spoil _ X hW1 hl hi ?_
      rw [e1, e2]
      refine m_spoil _ X (INVm_ag hJ hA1) hN hW1 hl.1 hf  _ _ hi1 hk (fun H2 locs2 F2 hB2 hJ2 hW2 => ?_)
      exact le_spoil X (kk H2 locs2 F2 _ _ _ _ _ _ _ _ _ _ (INVx_ag hI1 hB2) hJ2 hN hW2)
set_option maxHeartbeats 4000000 in
theorem law_forge (X : LC p m c s D cy t A b L xs) (hI : INVx F cy a ra rb ha cnt f fn0 ff pn pf md K g nt) (hJ : INVm F cy z cnt f fn0 ff pn pf md K g nt) (hN : INVs cnt fn0 pn md nt) (hW : Wd D A s (LW F) H locs) (hl : lv_has ls 4 [(0, .ref b), (1, .ref (a 0)), (2, .ref (z 0)), (3, .int (nI i0))]) (hi : i0 + 6 ≤ L) (hf : cells ≤ 600000 ∧ slots ≤ 7302250) (kk : ∀ (H : Heap) (locs : List Loc) (F : Nat → cellT) (cnt : Nat → Nat) (f : Nat → Nat → Int32) (fn0 : Nat) (ff : Nat → Int32) (pn : Nat) (pf : Nat → Int32) (md : Nat → Int32) (K g : Nat → Nat → Int32) (nt : Nat → Nat), INVx F cy a ra rb ha cnt f fn0 ff pn pf md K g nt → INVm F cy z cnt f fn0 ff pn pf md K g nt → INVs cnt fn0 pn md nt → Wd D A s (LW F) H locs → W p l e room_1 s m #[Value.ref b] below meth c H locs cells slots Q (F0 m 868 ls [])) : W p l e room_1 s m #[Value.ref b] below meth c H locs cells slots Q (F0 m 769 ls []) := by
  refine lx_forge X hW hl hi ?_
  have hc := hN.2.2.1
  rcases cs_n (xs (i0 + 1)) (n := pn) (by omega) with h1 | ⟨iq, hi1, e1⟩
  · skip
    refine x_forge_b X hI hN hW hl.1 hf  _ _ (Or.elim h1 Or.inl (fun q => Or.inr (Or.inl q))) (fun H1 locs1 hW1 => ?_)
    refine lm_forge _ X hW1 hl hi ?_
    refine m_forge_b _ X hJ hN hW1 hl.1 hf  _ _ (Or.elim h1 Or.inl (fun q => Or.inr (Or.inl q))) (fun H2 locs2 hW2 => ?_)
    exact le_forge X (kk H2 locs2 F _ _ _ _ _ _ _ _ _ _ hI hJ hN hW2)
  · skip
    rcases cs_le (xs (i0 + 2)) (n := 255) (by decide) with h2 | ⟨k, hk, e2⟩
    · skip
      refine x_forge_b X hI hN hW hl.1 hf  _ _ (Or.inr (Or.inr h2)) (fun H1 locs1 hW1 => ?_)
      refine lm_forge _ X hW1 hl hi ?_
      refine m_forge_b _ X hJ hN hW1 hl.1 hf  _ _ (Or.inr (Or.inr h2)) (fun H2 locs2 hW2 => ?_)
      exact le_forge X (kk H2 locs2 F _ _ _ _ _ _ _ _ _ _ hI hJ hN hW2)
    · skip
      rw [e1, e2]
      refine x_forge X hI hN hW hl.1 hf  _ _ hi1 hk (fun H1 locs1 F1 hA1 hI1 hW1 => ?_)
      refine lm_forge _ X hW1 hl hi ?_
      rw [e1, e2]
      refine m_forge _ X (INVm_ag hJ hA1) hN hW1 hl.1 hf  _ _ hi1 hk (fun H2 locs2 F2 hB2 hJ2 hW2 => ?_)
      exact le_forge X (kk H2 locs2 F2 _ _ _ _ _ _ _ _ _ _ (INVx_ag hI1 hB2) hJ2 hN hW2)
set_option maxHeartbeats 4000000 in
theorem law_shorten (X : LC p m c s D cy t A b L xs) (hI : INVx F cy a ra rb ha cnt f fn0 ff pn pf md K g nt) (hJ : INVm F cy z cnt f fn0 ff pn pf md K g nt) (hN : INVs cnt fn0 pn md nt) (hW : Wd D A s (LW F) H locs) (hl : lv_has ls 4 [(0, .ref b), (1, .ref (a 0)), (2, .ref (z 0)), (3, .int (nI i0))]) (hi : i0 + 6 ≤ L) (hf : cells ≤ 600000 ∧ slots ≤ 7302250) (kk : ∀ (H : Heap) (locs : List Loc) (F : Nat → cellT) (cnt : Nat → Nat) (f : Nat → Nat → Int32) (fn0 : Nat) (ff : Nat → Int32) (pn : Nat) (pf : Nat → Int32) (md : Nat → Int32) (K g : Nat → Nat → Int32) (nt : Nat → Nat), INVx F cy a ra rb ha cnt f fn0 ff pn pf md K g nt → INVm F cy z cnt f fn0 ff pn pf md K g nt → INVs cnt fn0 pn md nt → Wd D A s (LW F) H locs → W p l e room_1 s m #[Value.ref b] below meth c H locs cells slots Q (F0 m 868 ls [])) : W p l e room_1 s m #[Value.ref b] below meth c H locs cells slots Q (F0 m 677 ls []) := by
  refine lx_shorten X hW hl hi ?_
  have hc := hN.2.1
  rcases cs_le (xs (i0 + 1)) (n := fn0) (by omega) with h1 | ⟨n, hn1, e1⟩
  · skip
    refine x_shorten_b X hI hN hW hl.1 hf  _ h1 (fun H1 locs1 hW1 => ?_)
    refine lm_shorten _ X hW1 hl hi ?_
    refine m_shorten_b _ X hJ hN hW1 hl.1 hf  _ h1 (fun H2 locs2 hW2 => ?_)
    exact le_shorten X (kk H2 locs2 F _ _ _ _ _ _ _ _ _ _ hI hJ hN hW2)
  · skip
    rw [e1]
    refine x_shorten X hI hN hW hl.1 hf  _ (by first | omega | with_reducible exact hN.1 _ hr | with_reducible exact hN.2.1 | with_reducible exact hN.2.2.1 | with_reducible exact hN.2.2.2.2 _ hh | with_reducible exact hdp_5 (hN.2.2.2.2 _ hh) | exact hN.1 _ hr | exact hN.2.1 | exact hN.2.2.1 | exact hN.2.2.2.2 _ hh | exact hdp_5 (hN.2.2.2.2 _ hh)) (fun H1 locs1 F1 hA1 hI1 hW1 => ?_)
    refine lm_shorten _ X hW1 hl hi ?_
    rw [e1]
    refine m_shorten _ X (INVm_ag hJ hA1) hN hW1 hl.1 hf  _ (by first | omega | with_reducible exact hN.1 _ hr | with_reducible exact hN.2.1 | with_reducible exact hN.2.2.1 | with_reducible exact hN.2.2.2.2 _ hh | with_reducible exact hdp_5 (hN.2.2.2.2 _ hh) | exact hN.1 _ hr | exact hN.2.1 | exact hN.2.2.1 | exact hN.2.2.2.2 _ hh | exact hdp_5 (hN.2.2.2.2 _ hh)) (fun H2 locs2 F2 hB2 hJ2 hW2 => ?_)
    exact le_shorten X (kk H2 locs2 F2 _ _ _ _ _ _ _ _ _ _ (INVx_ag hI1 hB2) hJ2 (INVs_file hN (by omega)) hW2)
set_option maxHeartbeats 4000000 in
theorem law_cut (X : LC p m c s D cy t A b L xs) (hI : INVx F cy a ra rb ha cnt f fn0 ff pn pf md K g nt) (hJ : INVm F cy z cnt f fn0 ff pn pf md K g nt) (hN : INVs cnt fn0 pn md nt) (hW : Wd D A s (LW F) H locs) (hl : lv_has ls 4 [(0, .ref b), (1, .ref (a 0)), (2, .ref (z 0)), (3, .int (nI i0))]) (hi : i0 + 6 ≤ L) (hf : cells ≤ 600000 ∧ slots ≤ 7302250) (kk : ∀ (H : Heap) (locs : List Loc) (F : Nat → cellT) (cnt : Nat → Nat) (f : Nat → Nat → Int32) (fn0 : Nat) (ff : Nat → Int32) (pn : Nat) (pf : Nat → Int32) (md : Nat → Int32) (K g : Nat → Nat → Int32) (nt : Nat → Nat), INVx F cy a ra rb ha cnt f fn0 ff pn pf md K g nt → INVm F cy z cnt f fn0 ff pn pf md K g nt → INVs cnt fn0 pn md nt → Wd D A s (LW F) H locs → W p l e room_1 s m #[Value.ref b] below meth c H locs cells slots Q (F0 m 868 ls [])) : W p l e room_1 s m #[Value.ref b] below meth c H locs cells slots Q (F0 m 802 ls []) := by
  refine lx_cut X hW hl hi ?_
  have hc := hN.2.2.1
  rcases cs_le (xs (i0 + 1)) (n := pn) (by omega) with h1 | ⟨n, hn1, e1⟩
  · skip
    refine x_cut_b X hI hN hW hl.1 hf  _ h1 (fun H1 locs1 hW1 => ?_)
    refine lm_cut _ X hW1 hl hi ?_
    refine m_cut_b _ X hJ hN hW1 hl.1 hf  _ h1 (fun H2 locs2 hW2 => ?_)
    exact le_cut X (kk H2 locs2 F _ _ _ _ _ _ _ _ _ _ hI hJ hN hW2)
  · skip
    rw [e1]
    refine x_cut X hI hN hW hl.1 hf  _ (by first | omega | with_reducible exact hN.1 _ hr | with_reducible exact hN.2.1 | with_reducible exact hN.2.2.1 | with_reducible exact hN.2.2.2.2 _ hh | with_reducible exact hdp_5 (hN.2.2.2.2 _ hh) | exact hN.1 _ hr | exact hN.2.1 | exact hN.2.2.1 | exact hN.2.2.2.2 _ hh | exact hdp_5 (hN.2.2.2.2 _ hh)) (fun H1 locs1 F1 hA1 hI1 hW1 => ?_)
    refine lm_cut _ X hW1 hl hi ?_
    rw [e1]
    refine m_cut _ X (INVm_ag hJ hA1) hN hW1 hl.1 hf  _ (by first | omega | with_reducible exact hN.1 _ hr | with_reducible exact hN.2.1 | with_reducible exact hN.2.2.1 | with_reducible exact hN.2.2.2.2 _ hh | with_reducible exact hdp_5 (hN.2.2.2.2 _ hh) | exact hN.1 _ hr | exact hN.2.1 | exact hN.2.2.1 | exact hN.2.2.2.2 _ hh | exact hdp_5 (hN.2.2.2.2 _ hh)) (fun H2 locs2 F2 hB2 hJ2 hW2 => ?_)
    exact le_cut X (kk H2 locs2 F2 _ _ _ _ _ _ _ _ _ _ (INVx_ag hI1 hB2) hJ2 (INVs_proof hN (by omega)) hW2)
set_option maxHeartbeats 4000000 in
theorem law_proof (X : LC p m c s D cy t A b L xs) (hI : INVx F cy a ra rb ha cnt f fn0 ff pn pf md K g nt) (hJ : INVm F cy z cnt f fn0 ff pn pf md K g nt) (hN : INVs cnt fn0 pn md nt) (hW : Wd D A s (LW F) H locs) (hl : lv_has ls 4 [(0, .ref b), (1, .ref (a 0)), (2, .ref (z 0)), (3, .int (nI i0))]) (hi : i0 + 6 ≤ L) (hf : cells ≤ 600000 ∧ slots ≤ 7302250) (kk : ∀ (H : Heap) (locs : List Loc) (F : Nat → cellT) (cnt : Nat → Nat) (f : Nat → Nat → Int32) (fn0 : Nat) (ff : Nat → Int32) (pn : Nat) (pf : Nat → Int32) (md : Nat → Int32) (K g : Nat → Nat → Int32) (nt : Nat → Nat), INVx F cy a ra rb ha cnt f fn0 ff pn pf md K g nt → INVm F cy z cnt f fn0 ff pn pf md K g nt → INVs cnt fn0 pn md nt → Wd D A s (LW F) H locs → W p l e room_1 s m #[Value.ref b] below meth c H locs cells slots Q (F0 m 868 ls [])) : W p l e room_1 s m #[Value.ref b] below meth c H locs cells slots Q (F0 m 746 ls []) := by
  refine lx_proof X hW hl hi ?_
  have hc := hN.2.2.1
  rcases cs_n (xs (i0 + 1)) (n := pn) (by omega) with h2 | ⟨j, hj, e2⟩
  · skip
    refine x_proof X hI hN hW hl.1 hf  _  (fun H1 locs1 hW1 => ?_)
    have eb : byt pf pn (xs (i0 + 1)) = -1 := by
      rcases h2 with h2 | h2
      · exact byt_neg h2
      · exact byt_out h2
    rw [eb]
    refine lm_proof _ X hW1 hl hi ?_
    refine m_proof_o _ X hJ hN hW1 hl.1 hf  _ h2 (fun H2 locs2 hW2 => ?_)
    exact le_proof X (kk H2 locs2 F _ _ _ _ _ _ _ _ _ _ hI hJ hN hW2)
  · skip
    rw [e2]
    refine x_proof X hI hN hW hl.1 hf  _  (fun H1 locs1 hW1 => ?_)
    have eb : byt pf pn (nI j) = lo8 pf j := byt_in hj (by omega)
    rw [eb]
    refine lm_proof _ X hW1 hl hi ?_
    rw [e2]
    refine m_proof _ X hJ hN hW1 hl.1 hf  _ hj (fun H2 locs2 hW2 => ?_)
    exact le_proof X (kk H2 locs2 F _ _ _ _ _ _ _ _ _ _ hI hJ hN hW2)
set_option maxHeartbeats 4000000 in
theorem law_root (X : LC p m c s D cy t A b L xs) (hI : INVx F cy a ra rb ha cnt f fn0 ff pn pf md K g nt) (hJ : INVm F cy z cnt f fn0 ff pn pf md K g nt) (hN : INVs cnt fn0 pn md nt) (hW : Wd D A s (LW F) H locs) (hl : lv_has ls 4 [(0, .ref b), (1, .ref (a 0)), (2, .ref (z 0)), (3, .int (nI i0))]) (hi : i0 + 6 ≤ L) (hf : cells ≤ 600000 ∧ slots ≤ 7302250) (kk : ∀ (H : Heap) (locs : List Loc) (F : Nat → cellT) (cnt : Nat → Nat) (f : Nat → Nat → Int32) (fn0 : Nat) (ff : Nat → Int32) (pn : Nat) (pf : Nat → Int32) (md : Nat → Int32) (K g : Nat → Nat → Int32) (nt : Nat → Nat), INVx F cy a ra rb ha cnt f fn0 ff pn pf md K g nt → INVm F cy z cnt f fn0 ff pn pf md K g nt → INVs cnt fn0 pn md nt → Wd D A s (LW F) H locs → W p l e room_1 s m #[Value.ref b] below meth c H locs cells slots Q (F0 m 868 ls [])) : W p l e room_1 s m #[Value.ref b] below meth c H locs cells slots Q (F0 m 700 ls []) := by
  refine lx_root X hW hl hi ?_
  rcases cs_n (xs (i0 + 1)) (n := 8) (by decide) with h1 | ⟨r, hr, e1⟩
  · skip
    refine x_root_b X hI hN hW hl.1 hf  _ h1 (fun H1 locs1 hW1 => ?_)
    refine lm_root _ X hW1 hl hi ?_
    refine m_root_b _ X hJ hN hW1 hl.1 hf  _ h1 (fun H2 locs2 hW2 => ?_)
    exact le_root X (kk H2 locs2 F _ _ _ _ _ _ _ _ _ _ hI hJ hN hW2)
  · skip
    rw [e1]
    refine x_root X hI hN hW hl.1 hf hr  (by first | omega | with_reducible exact hN.1 _ hr | with_reducible exact hN.2.1 | with_reducible exact hN.2.2.1 | with_reducible exact hN.2.2.2.2 _ hh | with_reducible exact hdp_5 (hN.2.2.2.2 _ hh) | exact hN.1 _ hr | exact hN.2.1 | exact hN.2.2.1 | exact hN.2.2.2.2 _ hh | exact hdp_5 (hN.2.2.2.2 _ hh)) (fun H1 locs1 F1 hA1 hI1 hW1 => ?_)
    refine lm_root _ X hW1 hl hi ?_
    rw [e1]
    refine m_root _ X (INVm_ag hJ hA1) hN hW1 hl.1 hf hr   (fun H2 locs2 F2 hB2 hJ2 hW2 => ?_)
    exact le_root X (kk H2 locs2 F2 _ _ _ _ _ _ _ _ _ _ (INVx_ag hI1 hB2) hJ2 (INVs_reg hN (by decide)) hW2)
set_option maxHeartbeats 4000000 in
theorem law_prove (X : LC p m c s D cy t A b L xs) (hI : INVx F cy a ra rb ha cnt f fn0 ff pn pf md K g nt) (hJ : INVm F cy z cnt f fn0 ff pn pf md K g nt) (hN : INVs cnt fn0 pn md nt) (hW : Wd D A s (LW F) H locs) (hl : lv_has ls 4 [(0, .ref b), (1, .ref (a 0)), (2, .ref (z 0)), (3, .int (nI i0))]) (hi : i0 + 6 ≤ L) (hf : cells ≤ 600000 ∧ slots ≤ 7302250) (kk : ∀ (H : Heap) (locs : List Loc) (F : Nat → cellT) (cnt : Nat → Nat) (f : Nat → Nat → Int32) (fn0 : Nat) (ff : Nat → Int32) (pn : Nat) (pf : Nat → Int32) (md : Nat → Int32) (K g : Nat → Nat → Int32) (nt : Nat → Nat), INVx F cy a ra rb ha cnt f fn0 ff pn pf md K g nt → INVm F cy z cnt f fn0 ff pn pf md K g nt → INVs cnt fn0 pn md nt → Wd D A s (LW F) H locs → W p l e room_1 s m #[Value.ref b] below meth c H locs cells slots Q (F0 m 868 ls [])) : W p l e room_1 s m #[Value.ref b] below meth c H locs cells slots Q (F0 m 723 ls []) := by
  refine lx_prove X hW hl hi ?_
  have hck := chks_20 hN.2.1
  rcases cs_n (xs (i0 + 1)) (n := chks fn0) (by omega) with h1 | ⟨c0, hc0, e1⟩
  · skip
    refine x_prove_b X hI hN hW hl.1 hf  _ h1 (fun H1 locs1 hW1 => ?_)
    refine lm_prove _ X hW1 hl hi ?_
    refine m_prove_b _ X hJ hN hW1 hl.1 hf  _ h1 (fun H2 locs2 hW2 => ?_)
    exact le_prove X (kk H2 locs2 F _ _ _ _ _ _ _ _ _ _ hI hJ hN hW2)
  · skip
    rw [e1]
    refine x_prove X hI hN hW hl.1 hf  _ hc0 (fun H1 locs1 F1 lv2 pf2 kx0 kx1 kx2 hA1 hI1 hW1 => ?_)
    refine lm_prove _ X hW1 hl hi ?_
    rw [e1]
    refine m_prove _ X (INVm_ag hJ hA1) hN hW1 hl.1 hf  _ hc0 lv2 pf2 kx0 kx1 kx2 (fun H2 locs2 F2 hB2 hJ2 hW2 => ?_)
    exact le_prove X (kk H2 locs2 F2 _ _ _ _ _ _ _ _ _ _ (INVx_ag hI1 hB2) hJ2 (INVs_proof hN (by have := wyL_le hck kx0; have := cln_le fn0 c0; omega)) hW2)
set_option maxHeartbeats 4000000 in
theorem law_output (X : LC p m c s D cy t A b L xs) (hI : INVx F cy a ra rb ha cnt f fn0 ff pn pf md K g nt) (hJ : INVm F cy z cnt f fn0 ff pn pf md K g nt) (hN : INVs cnt fn0 pn md nt) (hW : Wd D A s (LW F) H locs) (hl : lv_has ls 4 [(0, .ref b), (1, .ref (a 0)), (2, .ref (z 0)), (3, .int (nI i0))]) (hi : i0 + 6 ≤ L) (hf : cells ≤ 600000 ∧ slots ≤ 7302250) (kk : ∀ (H : Heap) (locs : List Loc) (F : Nat → cellT) (cnt : Nat → Nat) (f : Nat → Nat → Int32) (fn0 : Nat) (ff : Nat → Int32) (pn : Nat) (pf : Nat → Int32) (md : Nat → Int32) (K g : Nat → Nat → Int32) (nt : Nat → Nat), INVx F cy a ra rb ha cnt f fn0 ff pn pf md K g nt → INVm F cy z cnt f fn0 ff pn pf md K g nt → INVs cnt fn0 pn md nt → Wd D A s (LW F) H locs → W p l e room_1 s m #[Value.ref b] below meth c H locs cells slots Q (F0 m 868 ls [])) : W p l e room_1 s m #[Value.ref b] below meth c H locs cells slots Q (F0 m 409 ls []) := by
  refine lx_output X hW hl hi ?_
  rcases cs_n (xs (i0 + 1)) (n := 4) (by decide) with h1 | ⟨h, hh, e1⟩
  · skip
    refine x_output_b X hI hN hW hl.1 hf  _ _ _ _ h1 (fun H1 locs1 hW1 => ?_)
    refine lm_output _ X hW1 hl hi ?_
    refine m_output_b _ X hJ hN hW1 hl.1 hf  _ _ _ _ h1 (fun H2 locs2 hW2 => ?_)
    exact le_output X (kk H2 locs2 F _ _ _ _ _ _ _ _ _ _ hI hJ hN hW2)
  · skip
    rcases cs_n (xs (i0 + 2)) (n := 8) (by decide) with h2 | ⟨r, hr, e2⟩
    · skip
      rw [e1]
      refine x_output_b2 X hI hN hW hl.1 hf hh _ _ _ h2 (fun H1 locs1 hW1 => ?_)
      refine lm_output _ X hW1 hl hi ?_
      rw [e1]
      refine m_output_b2 _ X hJ hN hW1 hl.1 hf hh _ _ _ h2 (fun H2 locs2 hW2 => ?_)
      exact le_output X (kk H2 locs2 F _ _ _ _ _ _ _ _ _ _ hI hJ hN hW2)
    · skip
      rcases cs_le (xs (i0 + 3)) (n := 200) (by decide) with h3 | ⟨n, hn2, e3⟩
      · skip
        rw [e1, e2]
        refine x_output_bn X hI hN hW hl.1 hf hr hh _ _ (by first | omega | with_reducible exact hN.1 _ hr | with_reducible exact hN.2.1 | with_reducible exact hN.2.2.1 | with_reducible exact hN.2.2.2.2 _ hh | with_reducible exact hdp_5 (hN.2.2.2.2 _ hh) | exact hN.1 _ hr | exact hN.2.1 | exact hN.2.2.1 | exact hN.2.2.2.2 _ hh | exact hdp_5 (hN.2.2.2.2 _ hh)) h3 (fun H1 locs1 hW1 => ?_)
        refine lm_output _ X hW1 hl hi ?_
        rw [e1, e2]
        refine m_output_bn _ X hJ hN hW1 hl.1 hf hr hh _ _ h3 (fun H2 locs2 hW2 => ?_)
        exact le_output X (kk H2 locs2 F _ _ _ _ _ _ _ _ _ _ hI hJ hN hW2)
      · skip
        rcases cs_long ((((xs (i0 + 4)).toInt64) <<< ((nI (32)).toInt64 &&& 63)) ||| (((xs (i0 + 5)).toInt64) &&& (4294967295 : Int64))) with h4 | ⟨pl, hpl, e4⟩
        · skip
          rw [e1, e2, e3]
          refine x_output_bp X hI hN hW hl.1 hf hr hh _ _ (by first | omega | with_reducible exact hN.1 _ hr | with_reducible exact hN.2.1 | with_reducible exact hN.2.2.1 | with_reducible exact hN.2.2.2.2 _ hh | with_reducible exact hdp_5 (hN.2.2.2.2 _ hh) | exact hN.1 _ hr | exact hN.2.1 | exact hN.2.2.1 | exact hN.2.2.2.2 _ hh | exact hdp_5 (hN.2.2.2.2 _ hh)) (by first | omega | with_reducible exact hN.1 _ hr | with_reducible exact hN.2.1 | with_reducible exact hN.2.2.1 | with_reducible exact hN.2.2.2.2 _ hh | with_reducible exact hdp_5 (hN.2.2.2.2 _ hh) | exact hN.1 _ hr | exact hN.2.1 | exact hN.2.2.1 | exact hN.2.2.2.2 _ hh | exact hdp_5 (hN.2.2.2.2 _ hh)) h4 (fun H1 locs1 hW1 => ?_)
          refine lm_output _ X hW1 hl hi ?_
          rw [e1, e2, e3]
          refine m_output_bp _ X hJ hN hW1 hl.1 hf hr hh _ _ (by first | omega | with_reducible exact hN.1 _ hr | with_reducible exact hN.2.1 | with_reducible exact hN.2.2.1 | with_reducible exact hN.2.2.2.2 _ hh | with_reducible exact hdp_5 (hN.2.2.2.2 _ hh) | exact hN.1 _ hr | exact hN.2.1 | exact hN.2.2.1 | exact hN.2.2.2.2 _ hh | exact hdp_5 (hN.2.2.2.2 _ hh)) h4 (fun H2 locs2 hW2 => ?_)
          exact le_output X (kk H2 locs2 F _ _ _ _ _ _ _ _ _ _ hI hJ hN hW2)
        · skip
          rw [e1, e2, e3, e4]
          refine x_output X hI hN hW hl.1 hf hr hh _ _ (by first | omega | with_reducible exact hN.1 _ hr | with_reducible exact hN.2.1 | with_reducible exact hN.2.2.1 | with_reducible exact hN.2.2.2.2 _ hh | with_reducible exact hdp_5 (hN.2.2.2.2 _ hh) | exact hN.1 _ hr | exact hN.2.1 | exact hN.2.2.1 | exact hN.2.2.2.2 _ hh | exact hdp_5 (hN.2.2.2.2 _ hh)) (by first | omega | with_reducible exact hN.1 _ hr | with_reducible exact hN.2.1 | with_reducible exact hN.2.2.1 | with_reducible exact hN.2.2.2.2 _ hh | with_reducible exact hdp_5 (hN.2.2.2.2 _ hh) | exact hN.1 _ hr | exact hN.2.1 | exact hN.2.2.1 | exact hN.2.2.2.2 _ hh | exact hdp_5 (hN.2.2.2.2 _ hh)) (by first | omega | with_reducible exact hN.1 _ hr | with_reducible exact hN.2.1 | with_reducible exact hN.2.2.1 | with_reducible exact hN.2.2.2.2 _ hh | with_reducible exact hdp_5 (hN.2.2.2.2 _ hh) | exact hN.1 _ hr | exact hN.2.1 | exact hN.2.2.1 | exact hN.2.2.2.2 _ hh | exact hdp_5 (hN.2.2.2.2 _ hh)) hpl (fun H1 locs1 F1 hA1 hI1 hW1 => ?_)
          refine lm_output _ X hW1 hl hi ?_
          rw [e1, e2, e3, e4]
          refine m_output _ X (INVm_ag hJ hA1) hN hW1 hl.1 hf hr hh _ _ (by first | omega | with_reducible exact hN.1 _ hr | with_reducible exact hN.2.1 | with_reducible exact hN.2.2.1 | with_reducible exact hN.2.2.2.2 _ hh | with_reducible exact hdp_5 (hN.2.2.2.2 _ hh) | exact hN.1 _ hr | exact hN.2.1 | exact hN.2.2.1 | exact hN.2.2.2.2 _ hh | exact hdp_5 (hN.2.2.2.2 _ hh)) (by first | omega | with_reducible exact hN.1 _ hr | with_reducible exact hN.2.1 | with_reducible exact hN.2.2.1 | with_reducible exact hN.2.2.2.2 _ hh | with_reducible exact hdp_5 (hN.2.2.2.2 _ hh) | exact hN.1 _ hr | exact hN.2.1 | exact hN.2.2.1 | exact hN.2.2.2.2 _ hh | exact hdp_5 (hN.2.2.2.2 _ hh)) hpl (fun H2 locs2 F2 hB2 hJ2 hW2 => ?_)
          exact le_output X (kk H2 locs2 F2 _ _ _ _ _ _ _ _ _ _ (INVx_ag hI1 hB2) hJ2 (INVs_reg hN hn2) hW2)
set_option maxHeartbeats 4000000 in
theorem law_begin (X : LC p m c s D cy t A b L xs) (hI : INVx F cy a ra rb ha cnt f fn0 ff pn pf md K g nt) (hJ : INVm F cy z cnt f fn0 ff pn pf md K g nt) (hN : INVs cnt fn0 pn md nt) (hW : Wd D A s (LW F) H locs) (hl : lv_has ls 4 [(0, .ref b), (1, .ref (a 0)), (2, .ref (z 0)), (3, .int (nI i0))]) (hi : i0 + 6 ≤ L) (hf : cells ≤ 600000 ∧ slots ≤ 7302250) (kk : ∀ (H : Heap) (locs : List Loc) (F : Nat → cellT) (cnt : Nat → Nat) (f : Nat → Nat → Int32) (fn0 : Nat) (ff : Nat → Int32) (pn : Nat) (pf : Nat → Int32) (md : Nat → Int32) (K g : Nat → Nat → Int32) (nt : Nat → Nat), INVx F cy a ra rb ha cnt f fn0 ff pn pf md K g nt → INVm F cy z cnt f fn0 ff pn pf md K g nt → INVs cnt fn0 pn md nt → Wd D A s (LW F) H locs → W p l e room_1 s m #[Value.ref b] below meth c H locs cells slots Q (F0 m 868 ls [])) : W p l e room_1 s m #[Value.ref b] below meth c H locs cells slots Q (F0 m 280 ls []) := by
  refine lx_begin X hW hl hi ?_
  rcases cs_n (xs (i0 + 1)) (n := 4) (by decide) with h1 | ⟨h, hh, e1⟩
  · skip
    refine x_begin_b X hI hN hW hl.1 hf  _ _ _ h1 (fun H1 locs1 hW1 => ?_)
    refine lm_begin _ X hW1 hl hi ?_
    refine m_begin_b _ X hJ hN hW1 hl.1 hf  _ _ _ h1 (fun H2 locs2 hW2 => ?_)
    exact le_begin X (kk H2 locs2 F _ _ _ _ _ _ _ _ _ _ hI hJ hN hW2)
  · skip
    by_cases hy0 : xs (i0 + 2) = 0
    · skip
      have e2 : xs (i0 + 2) = nI 0 := hy0.trans nI_0.symm
      rw [e1, e2]
      refine x_begin_0 X hI hN hW hl.1 hf hh _  (fun H1 locs1 F1 hA1 hI1 hW1 => ?_)
      refine lm_begin _ X hW1 hl hi ?_
      rw [e1, e2]
      refine m_begin_0 _ X (INVm_ag hJ hA1) hN hW1 hl.1 hf hh _  (fun H2 locs2 F2 hB2 hJ2 hW2 => ?_)
      exact le_begin X (kk H2 locs2 F2 _ _ _ _ _ _ _ _ _ _ (INVx_ag hI1 hB2) hJ2 (INVs_hash hN (Or.inl rfl) (by decide)) hW2)
    · skip
      rcases cs_n (xs (i0 + 3)) (n := 8) (by decide) with h3 | ⟨r, hr, e3⟩
      · skip
        rw [e1]
        refine x_begin_br X hI hN hW hl.1 hf hh _ _ hy0 h3 (fun H1 locs1 hW1 => ?_)
        refine lm_begin _ X hW1 hl hi ?_
        rw [e1]
        refine m_begin_br _ X hJ hN hW1 hl.1 hf hh _ _ hy0 h3 (fun H2 locs2 hW2 => ?_)
        exact le_begin X (kk H2 locs2 F _ _ _ _ _ _ _ _ _ _ hI hJ hN hW2)
      · skip
        by_cases hy1 : xs (i0 + 2) = nI 1
        · skip
          by_cases h32 : cnt r = 32
          · skip
            rw [e1, hy1, e3]
            refine x_begin_1 X hI hN hW hl.1 hf hr hh  (by first | omega | with_reducible exact hN.1 _ hr | with_reducible exact hN.2.1 | with_reducible exact hN.2.2.1 | with_reducible exact hN.2.2.2.2 _ hh | with_reducible exact hdp_5 (hN.2.2.2.2 _ hh) | exact hN.1 _ hr | exact hN.2.1 | exact hN.2.2.1 | exact hN.2.2.2.2 _ hh | exact hdp_5 (hN.2.2.2.2 _ hh)) h32 (fun H1 locs1 F1 hA1 hI1 hW1 => ?_)
            refine lm_begin _ X hW1 hl hi ?_
            rw [e1, hy1, e3]
            refine m_begin_1 _ X (INVm_ag hJ hA1) hN hW1 hl.1 hf hr hh  (by first | omega | with_reducible exact hN.1 _ hr | with_reducible exact hN.2.1 | with_reducible exact hN.2.2.1 | with_reducible exact hN.2.2.2.2 _ hh | with_reducible exact hdp_5 (hN.2.2.2.2 _ hh) | exact hN.1 _ hr | exact hN.2.1 | exact hN.2.2.1 | exact hN.2.2.2.2 _ hh | exact hdp_5 (hN.2.2.2.2 _ hh)) h32 (fun H2 locs2 F2 hB2 hJ2 hW2 => ?_)
            exact le_begin X (kk H2 locs2 F2 _ _ _ _ _ _ _ _ _ _ (INVx_ag hI1 hB2) hJ2 (INVs_hash hN (Or.inr (Or.inl rfl)) (by decide)) hW2)
          · skip
            rw [e1, hy1, e3]
            refine x_begin_1b X hI hN hW hl.1 hf hr hh  (by first | omega | with_reducible exact hN.1 _ hr | with_reducible exact hN.2.1 | with_reducible exact hN.2.2.1 | with_reducible exact hN.2.2.2.2 _ hh | with_reducible exact hdp_5 (hN.2.2.2.2 _ hh) | exact hN.1 _ hr | exact hN.2.1 | exact hN.2.2.1 | exact hN.2.2.2.2 _ hh | exact hdp_5 (hN.2.2.2.2 _ hh)) h32 (fun H1 locs1 hW1 => ?_)
            refine lm_begin _ X hW1 hl hi ?_
            rw [e1, hy1, e3]
            refine m_begin_1b _ X hJ hN hW1 hl.1 hf hr hh  (by first | omega | with_reducible exact hN.1 _ hr | with_reducible exact hN.2.1 | with_reducible exact hN.2.2.1 | with_reducible exact hN.2.2.2.2 _ hh | with_reducible exact hdp_5 (hN.2.2.2.2 _ hh) | exact hN.1 _ hr | exact hN.2.1 | exact hN.2.2.1 | exact hN.2.2.2.2 _ hh | exact hdp_5 (hN.2.2.2.2 _ hh)) h32 (fun H2 locs2 hW2 => ?_)
            exact le_begin X (kk H2 locs2 F _ _ _ _ _ _ _ _ _ _ hI hJ hN hW2)
        · skip
          by_cases hy2 : xs (i0 + 2) = nI 2
          · skip
            rw [e1, hy2, e3]
            refine x_begin_2 X hI hN hW hl.1 hf hr hh  (by first | omega | with_reducible exact hN.1 _ hr | with_reducible exact hN.2.1 | with_reducible exact hN.2.2.1 | with_reducible exact hN.2.2.2.2 _ hh | with_reducible exact hdp_5 (hN.2.2.2.2 _ hh) | exact hN.1 _ hr | exact hN.2.1 | exact hN.2.2.1 | exact hN.2.2.2.2 _ hh | exact hdp_5 (hN.2.2.2.2 _ hh)) (fun H1 locs1 F1 hA1 hI1 hW1 => ?_)
            refine lm_begin _ X hW1 hl hi ?_
            rw [e1, hy2, e3]
            refine m_begin_2 _ X (INVm_ag hJ hA1) hN hW1 hl.1 hf hr hh  (by first | omega | with_reducible exact hN.1 _ hr | with_reducible exact hN.2.1 | with_reducible exact hN.2.2.1 | with_reducible exact hN.2.2.2.2 _ hh | with_reducible exact hdp_5 (hN.2.2.2.2 _ hh) | exact hN.1 _ hr | exact hN.2.1 | exact hN.2.2.1 | exact hN.2.2.2.2 _ hh | exact hdp_5 (hN.2.2.2.2 _ hh)) (fun H2 locs2 F2 hB2 hJ2 hW2 => ?_)
            exact le_begin X (kk H2 locs2 F2 _ _ _ _ _ _ _ _ _ _ (INVx_ag hI1 hB2) hJ2 (INVs_hash hN (Or.inr (Or.inr rfl)) (by decide)) hW2)
          · skip
            rw [e1, e3]
            refine x_begin_bm X hI hN hW hl.1 hf hr hh _ (by first | omega | with_reducible exact hN.1 _ hr | with_reducible exact hN.2.1 | with_reducible exact hN.2.2.1 | with_reducible exact hN.2.2.2.2 _ hh | with_reducible exact hdp_5 (hN.2.2.2.2 _ hh) | exact hN.1 _ hr | exact hN.2.1 | exact hN.2.2.1 | exact hN.2.2.2.2 _ hh | exact hdp_5 (hN.2.2.2.2 _ hh)) hy0 hy1 hy2 (fun H1 locs1 hW1 => ?_)
            refine lm_begin _ X hW1 hl hi ?_
            rw [e1, e3]
            refine m_begin_bm _ X hJ hN hW1 hl.1 hf hr hh _ (by first | omega | with_reducible exact hN.1 _ hr | with_reducible exact hN.2.1 | with_reducible exact hN.2.2.1 | with_reducible exact hN.2.2.2.2 _ hh | with_reducible exact hdp_5 (hN.2.2.2.2 _ hh) | exact hN.1 _ hr | exact hN.2.1 | exact hN.2.2.1 | exact hN.2.2.2.2 _ hh | exact hdp_5 (hN.2.2.2.2 _ hh)) hy0 hy1 hy2 (fun H2 locs2 hW2 => ?_)
            exact le_begin X (kk H2 locs2 F _ _ _ _ _ _ _ _ _ _ hI hJ hN hW2)
set_option maxHeartbeats 4000000 in
theorem law_check (X : LC p m c s D cy t A b L xs) (hI : INVx F cy a ra rb ha cnt f fn0 ff pn pf md K g nt) (hJ : INVm F cy z cnt f fn0 ff pn pf md K g nt) (hN : INVs cnt fn0 pn md nt) (hW : Wd D A s (LW F) H locs) (hl : lv_has ls 4 [(0, .ref b), (1, .ref (a 0)), (2, .ref (z 0)), (3, .int (nI i0))]) (hi : i0 + 6 ≤ L) (hf : cells ≤ 600000 ∧ slots ≤ 7302250) (kk : ∀ (H : Heap) (locs : List Loc) (F : Nat → cellT) (cnt : Nat → Nat) (f : Nat → Nat → Int32) (fn0 : Nat) (ff : Nat → Int32) (pn : Nat) (pf : Nat → Int32) (md : Nat → Int32) (K g : Nat → Nat → Int32) (nt : Nat → Nat), INVx F cy a ra rb ha cnt f fn0 ff pn pf md K g nt → INVm F cy z cnt f fn0 ff pn pf md K g nt → INVs cnt fn0 pn md nt → Wd D A s (LW F) H locs → W p l e room_1 s m #[Value.ref b] below meth c H locs cells slots Q (F0 m 868 ls [])) : W p l e room_1 s m #[Value.ref b] below meth c H locs cells slots Q (F0 m 825 ls []) := by
  refine lx_check X hW hl hi ?_
  rcases cs_n (xs (i0 + 1)) (n := 8) (by decide) with h1 | ⟨r, hr, e1⟩
  · skip
    refine x_check_b X hI hN hW hl.1 hf  _ _ _ h1 (fun H1 locs1 hW1 => ?_)
    refine lm_check _ X hW1 hl hi ?_
    refine m_check_b _ X hJ hN hW1 hl.1 hf  _ _ _ h1 (fun H2 locs2 hW2 => ?_)
    exact le_check X (kk H2 locs2 F _ _ _ _ _ _ _ _ _ _ hI hJ hN hW2)
  · skip
    rcases cs_le (xs (i0 + 2)) (n := 1000000) (by decide) with h2 | ⟨n, hn1, e2⟩
    · skip
      by_cases h32 : cnt r = 32
      · skip
        rw [e1]
        refine x_check_bl X hI hN hW hl.1 hf hr _ _ (by first | omega | with_reducible exact hN.1 _ hr | with_reducible exact hN.2.1 | with_reducible exact hN.2.2.1 | with_reducible exact hN.2.2.2.2 _ hh | with_reducible exact hdp_5 (hN.2.2.2.2 _ hh) | exact hN.1 _ hr | exact hN.2.1 | exact hN.2.2.1 | exact hN.2.2.2.2 _ hh | exact hdp_5 (hN.2.2.2.2 _ hh)) h32 h2 (fun H1 locs1 hW1 => ?_)
        refine lm_check _ X hW1 hl hi ?_
        rw [e1]
        refine m_check_bl _ X hJ hN hW1 hl.1 hf hr _ _ (by first | omega | with_reducible exact hN.1 _ hr | with_reducible exact hN.2.1 | with_reducible exact hN.2.2.1 | with_reducible exact hN.2.2.2.2 _ hh | with_reducible exact hdp_5 (hN.2.2.2.2 _ hh) | exact hN.1 _ hr | exact hN.2.1 | exact hN.2.2.1 | exact hN.2.2.2.2 _ hh | exact hdp_5 (hN.2.2.2.2 _ hh)) h2 (fun H2 locs2 hW2 => ?_)
        exact le_check X (kk H2 locs2 F _ _ _ _ _ _ _ _ _ _ hI hJ hN hW2)
      · skip
        rw [e1]
        refine x_check_bc X hI hN hW hl.1 hf hr _ _ (by first | omega | with_reducible exact hN.1 _ hr | with_reducible exact hN.2.1 | with_reducible exact hN.2.2.1 | with_reducible exact hN.2.2.2.2 _ hh | with_reducible exact hdp_5 (hN.2.2.2.2 _ hh) | exact hN.1 _ hr | exact hN.2.1 | exact hN.2.2.1 | exact hN.2.2.2.2 _ hh | exact hdp_5 (hN.2.2.2.2 _ hh)) h32 (fun H1 locs1 hW1 => ?_)
        refine lm_check _ X hW1 hl hi ?_
        rw [e1]
        refine m_check_bl _ X hJ hN hW1 hl.1 hf hr _ _ (by first | omega | with_reducible exact hN.1 _ hr | with_reducible exact hN.2.1 | with_reducible exact hN.2.2.1 | with_reducible exact hN.2.2.2.2 _ hh | with_reducible exact hdp_5 (hN.2.2.2.2 _ hh) | exact hN.1 _ hr | exact hN.2.1 | exact hN.2.2.1 | exact hN.2.2.2.2 _ hh | exact hdp_5 (hN.2.2.2.2 _ hh)) h2 (fun H2 locs2 hW2 => ?_)
        exact le_check X (kk H2 locs2 F _ _ _ _ _ _ _ _ _ _ hI hJ hN hW2)
    · skip
      have hck := chks_le hn1
      rcases cs_n (xs (i0 + 3)) (n := chks n) (by omega) with h3 | ⟨c0, hc0, e3⟩
      · skip
        by_cases h32 : cnt r = 32
        · skip
          rw [e1, e2]
          refine x_check_bk X hI hN hW hl.1 hf hr _ _ (by first | omega | with_reducible exact hN.1 _ hr | with_reducible exact hN.2.1 | with_reducible exact hN.2.2.1 | with_reducible exact hN.2.2.2.2 _ hh | with_reducible exact hdp_5 (hN.2.2.2.2 _ hh) | exact hN.1 _ hr | exact hN.2.1 | exact hN.2.2.1 | exact hN.2.2.2.2 _ hh | exact hdp_5 (hN.2.2.2.2 _ hh)) h32 hn1 h3 (fun H1 locs1 hW1 => ?_)
          refine lm_check _ X hW1 hl hi ?_
          rw [e1, e2]
          refine m_check_bk _ X hJ hN hW1 hl.1 hf hr _ _ (by first | omega | with_reducible exact hN.1 _ hr | with_reducible exact hN.2.1 | with_reducible exact hN.2.2.1 | with_reducible exact hN.2.2.2.2 _ hh | with_reducible exact hdp_5 (hN.2.2.2.2 _ hh) | exact hN.1 _ hr | exact hN.2.1 | exact hN.2.2.1 | exact hN.2.2.2.2 _ hh | exact hdp_5 (hN.2.2.2.2 _ hh)) hn1 h3 (fun H2 locs2 hW2 => ?_)
          exact le_check X (kk H2 locs2 F _ _ _ _ _ _ _ _ _ _ hI hJ hN hW2)
        · skip
          rw [e1, e2]
          refine x_check_bc X hI hN hW hl.1 hf hr _ _ (by first | omega | with_reducible exact hN.1 _ hr | with_reducible exact hN.2.1 | with_reducible exact hN.2.2.1 | with_reducible exact hN.2.2.2.2 _ hh | with_reducible exact hdp_5 (hN.2.2.2.2 _ hh) | exact hN.1 _ hr | exact hN.2.1 | exact hN.2.2.1 | exact hN.2.2.2.2 _ hh | exact hdp_5 (hN.2.2.2.2 _ hh)) h32 (fun H1 locs1 hW1 => ?_)
          refine lm_check _ X hW1 hl hi ?_
          rw [e1, e2]
          refine m_check_bk _ X hJ hN hW1 hl.1 hf hr _ _ (by first | omega | with_reducible exact hN.1 _ hr | with_reducible exact hN.2.1 | with_reducible exact hN.2.2.1 | with_reducible exact hN.2.2.2.2 _ hh | with_reducible exact hdp_5 (hN.2.2.2.2 _ hh) | exact hN.1 _ hr | exact hN.2.1 | exact hN.2.2.1 | exact hN.2.2.2.2 _ hh | exact hdp_5 (hN.2.2.2.2 _ hh)) hn1 h3 (fun H2 locs2 hW2 => ?_)
          exact le_check X (kk H2 locs2 F _ _ _ _ _ _ _ _ _ _ hI hJ hN hW2)
      · skip
        by_cases h32 : cnt r = 32
        · skip
          by_cases hL : ∃ L0, wyL c0 (chks n) L0 ∧ pn = cln n c0 + L0 * 32
          · skip
            obtain ⟨L0, hL0, hpl⟩ := hL
            rw [e1, e2, e3]
            refine x_check X hI hN hW hl.1 hf hr _ _ _ (by first | omega | with_reducible exact hN.1 _ hr | with_reducible exact hN.2.1 | with_reducible exact hN.2.2.1 | with_reducible exact hN.2.2.2.2 _ hh | with_reducible exact hdp_5 (hN.2.2.2.2 _ hh) | exact hN.1 _ hr | exact hN.2.1 | exact hN.2.2.1 | exact hN.2.2.2.2 _ hh | exact hdp_5 (hN.2.2.2.2 _ hh)) h32 hn1 hc0 hL0 hpl (fun H1 locs1 F1 r9 kx0 hA1 hI1 hW1 => ?_)
            refine lm_check _ X hW1 hl hi ?_
            rw [e1, e2, e3]
            refine m_check _ X (INVm_ag hJ hA1) hN hW1 hl.1 hf hr _ _ _ (by first | omega | with_reducible exact hN.1 _ hr | with_reducible exact hN.2.1 | with_reducible exact hN.2.2.1 | with_reducible exact hN.2.2.2.2 _ hh | with_reducible exact hdp_5 (hN.2.2.2.2 _ hh) | exact hN.1 _ hr | exact hN.2.1 | exact hN.2.2.1 | exact hN.2.2.2.2 _ hh | exact hdp_5 (hN.2.2.2.2 _ hh)) hn1 hc0 h32 hL0 hpl (fun H2 locs2 F2 r9m km0 hB2 hJ2 hW2 => ?_)
            have er := chk_eq kx0 km0
            subst er
            exact le_check X (kk H2 locs2 F2 _ _ _ _ _ _ _ _ _ _ (INVx_ag hI1 hB2) hJ2 hN hW2)
          · skip
            rw [e1, e2, e3]
            refine x_check_0 X hI hN hW hl.1 hf hr _ _ (by first | omega | with_reducible exact hN.1 _ hr | with_reducible exact hN.2.1 | with_reducible exact hN.2.2.1 | with_reducible exact hN.2.2.2.2 _ hh | with_reducible exact hdp_5 (hN.2.2.2.2 _ hh) | exact hN.1 _ hr | exact hN.2.1 | exact hN.2.2.1 | exact hN.2.2.2.2 _ hh | exact hdp_5 (hN.2.2.2.2 _ hh)) h32 hn1 hc0 (fun L0 q1 q2 => hL ⟨L0, q1, q2⟩) (fun H1 locs1 F1 hA1 hI1 hW1 => ?_)
            refine lm_check _ X hW1 hl hi ?_
            rw [e1, e2, e3]
            refine m_check_0 _ X (INVm_ag hJ hA1) hN hW1 hl.1 hf hr _ _ (by first | omega | with_reducible exact hN.1 _ hr | with_reducible exact hN.2.1 | with_reducible exact hN.2.2.1 | with_reducible exact hN.2.2.2.2 _ hh | with_reducible exact hdp_5 (hN.2.2.2.2 _ hh) | exact hN.1 _ hr | exact hN.2.1 | exact hN.2.2.1 | exact hN.2.2.2.2 _ hh | exact hdp_5 (hN.2.2.2.2 _ hh)) hn1 hc0 h32 (fun L0 q1 q2 => hL ⟨L0, q1, q2⟩) (fun H2 locs2 F2 hB2 hJ2 hW2 => ?_)
            exact le_check X (kk H2 locs2 F2 _ _ _ _ _ _ _ _ _ _ (INVx_ag hI1 hB2) hJ2 hN hW2)
        · skip
          rw [e1, e2, e3]
          refine x_check_bc X hI hN hW hl.1 hf hr _ _ (by first | omega | with_reducible exact hN.1 _ hr | with_reducible exact hN.2.1 | with_reducible exact hN.2.2.1 | with_reducible exact hN.2.2.2.2 _ hh | with_reducible exact hdp_5 (hN.2.2.2.2 _ hh) | exact hN.1 _ hr | exact hN.2.1 | exact hN.2.2.1 | exact hN.2.2.2.2 _ hh | exact hdp_5 (hN.2.2.2.2 _ hh)) h32 (fun H1 locs1 hW1 => ?_)
          refine lm_check _ X hW1 hl hi ?_
          rw [e1, e2, e3]
          refine m_check_bc _ X hJ hN hW1 hl.1 hf hr _ _ (by first | omega | with_reducible exact hN.1 _ hr | with_reducible exact hN.2.1 | with_reducible exact hN.2.2.1 | with_reducible exact hN.2.2.2.2 _ hh | with_reducible exact hdp_5 (hN.2.2.2.2 _ hh) | exact hN.1 _ hr | exact hN.2.1 | exact hN.2.2.1 | exact hN.2.2.2.2 _ hh | exact hdp_5 (hN.2.2.2.2 _ hh)) hn1 hc0 h32 (fun H2 locs2 hW2 => ?_)
          exact le_check X (kk H2 locs2 F _ _ _ _ _ _ _ _ _ _ hI hJ hN hW2)
end CASES
