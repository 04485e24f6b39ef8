theorem ap_hi {f h : Nat → Int32} {c n i : Nat} (hi : i < n) : apG f c h n (c + i) = h i := by
  unfold apG
  rw [if_pos ⟨Nat.le_add_right _ _, Nat.add_lt_add_left hi _⟩, Nat.add_sub_cancel_left]
section CASES2
variable {p : Program} {l : Launch} {e : Env} {s : State} {m : MethodId} {below : List Frame} {meth : Method} {c : Code} {H : Heap} {locs : List Loc} {cells slots : Nat} {Q : State → Prop} {D : va_G} {cy : Nat → ClassId} {t : Nat × Nat} {A : Nat → Prop} {F : Nat → cellT} {b L i0 : Nat} {xs : Nat → Int32} {ls : Array Slot} {a ra rb ha z cnt : Nat → Nat} {f : Nat → Nat → Int32} {fn0 : Nat} {ff : Nat → Int32} {pn : Nat} {pf : Nat → Int32} {md : Nat → Int32} {K g : Nat → Nat → Int32} {nt : Nat → Nat}
set_option maxHeartbeats 4000000 in
theorem law_chain (X : LC p m c s D cy t A b L xs) (hI : INVx F cy a ra rb ha cnt f fn0 ff pn pf md K g nt) (hJ : INVm F cy z cnt f fn0 ff pn pf md K g nt) (hN : INVs cnt fn0 pn md nt) (hW : Wd D A s (LW F) H locs) (hl : lv_has ls 4 [(0, .ref b), (1, .ref (a 0)), (2, .ref (z 0)), (3, .int (nI i0))]) (hi : i0 + 6 ≤ L) (hf : cells ≤ 600000 ∧ slots ≤ 7302250) (kk : ∀ (H : Heap) (locs : List Loc) (F : Nat → cellT) (cnt : Nat → Nat) (f : Nat → Nat → Int32) (fn0 : Nat) (ff : Nat → Int32) (pn : Nat) (pf : Nat → Int32) (md : Nat → Int32) (K g : Nat → Nat → Int32) (nt : Nat → Nat), INVx F cy a ra rb ha cnt f fn0 ff pn pf md K g nt → INVm F cy z cnt f fn0 ff pn pf md K g nt → INVs cnt fn0 pn md nt → Wd D A s (LW F) H locs → W p l e room_1 s m #[Value.ref b] below meth c H locs cells slots Q (F0 m 868 ls [])) : W p l e room_1 s m #[Value.ref b] below meth c H locs cells slots Q (F0 m 558 ls []) := by
  refine lx_chain X hW hl hi ?_
  rcases cs_n (xs (i0 + 1)) (n := 4) (by decide) with h1 | ⟨h, hh, e1⟩
  · skip
    refine x_chain_b X hI hN hW hl.1 hf  _ _ _ h1 (fun H1 locs1 hW1 => ?_)
    refine lm_chain _ X hW1 hl hi ?_
    refine m_chain_b _ X hJ hN hW1 hl.1 hf  _ _ _ h1 (fun H2 locs2 hW2 => ?_)
    exact le_chain X (kk H2 locs2 F _ _ _ _ _ _ _ _ _ _ hI hJ hN hW2)
  · skip
    rw [e1]
    refine x_chain X hI hN hW hl.1 hf hh _ _ (hdp_5 (hN.2.2.2.2 _ hh)) (fun H1 locs1 r9 kx hW1 => ?_)
    refine lm_chain _ X hW1 hl hi ?_
    rw [e1]
    rcases kx with ⟨er, kx⟩ | ⟨a9, b9, ca, cb, ex, ey, er⟩
    · skip
      replace er : r9 = nI 0 := er.trans nI_0.symm
      subst er
      by_cases ho : xs (i0 + 2) < 0 ∨ xs (i0 + 3) < 0 ∨ nI 7 < xs (i0 + 3)
      · skip
        refine m_chain_o _ X hJ hN hW1 hl.1 hf hh _ _ ho (fun H2 locs2 hW2 => ?_)
        exact le_chain X (kk H2 locs2 F _ _ _ _ _ _ _ _ _ _ hI hJ hN hW2)
      · skip
        obtain ⟨a9, ha9, ea⟩ := cs_pos (x := xs (i0 + 2)) (fun q => ho (Or.inl q))
        obtain ⟨b9, hb9, eb⟩ := ix_le (i := xs (i0 + 3)) (n := 7) (fun q => ho (Or.inr (Or.inl q))) (Int32.not_lt.mp (fun q => ho (Or.inr (Or.inr q)))) (by decide)
        have hdp5 := hdp_5 (hN.2.2.2.2 h hh)
        have hge : hdp (nt h) ≤ a9 := by
          rcases kx with q | q | q | q
          · exact absurd (Or.inl q) ho
          · rw [ea] at q
            exact (nI_leI (by omega) ha9).mp q
          · exact absurd (Or.inr (Or.inl q)) ho
          · exact absurd (Or.inr (Or.inr (Int32.lt_of_lt_of_le (by decide) q))) ho
        rw [ea, eb]
        refine m_chain_n _ X hJ hN hW1 hl.1 hf hh _ _ (hN.2.2.2.2 _ hh) hge (by omega) ha9 (fun H2 locs2 F2 hB2 hJ2 hW2 => ?_)
        exact le_chain X (kk H2 locs2 F2 _ _ _ _ _ _ _ _ _ _ (INVx_ag hI hB2) hJ2 hN hW2)
    · skip
      subst er
      have hdp5 := hdp_5 (hN.2.2.2.2 h hh)
      rw [ex, ey]
      refine m_chain _ X hJ hN hW1 hl.1 hf hh _ _ (hN.2.2.2.2 _ hh) ca cb (by omega) (fun H2 locs2 F2 hB2 hJ2 hW2 => ?_)
      exact le_chain X (kk H2 locs2 F2 _ _ _ _ _ _ _ _ _ _ (INVx_ag hI hB2) hJ2 hN hW2)
set_option maxHeartbeats 4000000 in
theorem law_take (X : LC p m c s D cy t A b L xs) (hI : INVx F cy a ra rb ha cnt f fn0 ff pn pf md K g nt) (hJ : INVm F cy z cnt f fn0 ff pn pf md K g nt) (hN : INVs cnt fn0 pn md nt) (hW : Wd D A s (LW F) H locs) (hl : lv_has ls 4 [(0, .ref b), (1, .ref (a 0)), (2, .ref (z 0)), (3, .int (nI i0))]) (hi : i0 + 6 ≤ L) (hf : cells ≤ 600000 ∧ slots ≤ 7302250) (kk : ∀ (H : Heap) (locs : List Loc) (F : Nat → cellT) (cnt : Nat → Nat) (f : Nat → Nat → Int32) (fn0 : Nat) (ff : Nat → Int32) (pn : Nat) (pf : Nat → Int32) (md : Nat → Int32) (K g : Nat → Nat → Int32) (nt : Nat → Nat), INVx F cy a ra rb ha cnt f fn0 ff pn pf md K g nt → INVm F cy z cnt f fn0 ff pn pf md K g nt → INVs cnt fn0 pn md nt → Wd D A s (LW F) H locs → W p l e room_1 s m #[Value.ref b] below meth c H locs cells slots Q (F0 m 868 ls [])) : W p l e room_1 s m #[Value.ref b] below meth c H locs cells slots Q (F0 m 323 ls []) := by
  refine lx_take X hW hl hi ?_
  rcases cs_n (xs (i0 + 1)) (n := 4) (by decide) with h1 | ⟨h, hh, e1⟩
  · skip
    refine x_take_b X hI hN hW hl.1 hf  _ _ h1 (fun H1 locs1 hW1 => ?_)
    refine lm_take _ X hW1 hl hi ?_
    refine m_take_b _ X hJ hN hW1 hl.1 hf  _ _ h1 (fun H2 locs2 hW2 => ?_)
    exact le_take X (kk H2 locs2 F _ _ _ _ _ _ _ _ _ _ hI hJ hN hW2)
  · skip
    rcases cs_n (xs (i0 + 2)) (n := 8) (by decide) with h2 | ⟨r, hr, e2⟩
    · skip
      rw [e1]
      refine x_take_b2 X hI hN hW hl.1 hf hh _ h2 (fun H1 locs1 hW1 => ?_)
      refine lm_take _ X hW1 hl hi ?_
      rw [e1]
      refine m_take_b2 _ X hJ hN hW1 hl.1 hf hh _ h2 (fun H2 locs2 hW2 => ?_)
      exact le_take X (kk H2 locs2 F _ _ _ _ _ _ _ _ _ _ hI hJ hN hW2)
    · skip
      by_cases h3 : 40000 < nt h + cnt r
      · skip
        rw [e1, e2]
        refine x_take_r X hI hN hW hl.1 hf hr hh  (by first | omega | with_reducible exact hN.1 _ hr | with_reducible exact hN.2.1 | with_reducible exact hN.2.2.1 | with_reducible exact hN.2.2.2.2 _ hh | with_reducible exact hdp_5 (hN.2.2.2.2 _ hh) | exact hN.1 _ hr | exact hN.2.1 | exact hN.2.2.1 | exact hN.2.2.2.2 _ hh | exact hdp_5 (hN.2.2.2.2 _ hh)) (by first | omega | with_reducible exact hN.1 _ hr | with_reducible exact hN.2.1 | with_reducible exact hN.2.2.1 | with_reducible exact hN.2.2.2.2 _ hh | with_reducible exact hdp_5 (hN.2.2.2.2 _ hh) | exact hN.1 _ hr | exact hN.2.1 | exact hN.2.2.1 | exact hN.2.2.2.2 _ hh | exact hdp_5 (hN.2.2.2.2 _ hh)) (by first | omega | with_reducible exact hN.1 _ hr | with_reducible exact hN.2.1 | with_reducible exact hN.2.2.1 | with_reducible exact hN.2.2.2.2 _ hh | with_reducible exact hdp_5 (hN.2.2.2.2 _ hh) | exact hN.1 _ hr | exact hN.2.1 | exact hN.2.2.1 | exact hN.2.2.2.2 _ hh | exact hdp_5 (hN.2.2.2.2 _ hh)) (fun H1 locs1 hW1 => ?_)
        refine lm_take _ X hW1 hl hi ?_
        rw [e1, e2]
        refine m_take_r _ X hJ hN hW1 hl.1 hf hr hh  (by first | omega | with_reducible exact hN.1 _ hr | with_reducible exact hN.2.1 | with_reducible exact hN.2.2.1 | with_reducible exact hN.2.2.2.2 _ hh | with_reducible exact hdp_5 (hN.2.2.2.2 _ hh) | exact hN.1 _ hr | exact hN.2.1 | exact hN.2.2.1 | exact hN.2.2.2.2 _ hh | exact hdp_5 (hN.2.2.2.2 _ hh)) (by first | omega | with_reducible exact hN.1 _ hr | with_reducible exact hN.2.1 | with_reducible exact hN.2.2.1 | with_reducible exact hN.2.2.2.2 _ hh | with_reducible exact hdp_5 (hN.2.2.2.2 _ hh) | exact hN.1 _ hr | exact hN.2.1 | exact hN.2.2.1 | exact hN.2.2.2.2 _ hh | exact hdp_5 (hN.2.2.2.2 _ hh)) (by first | omega | with_reducible exact hN.1 _ hr | with_reducible exact hN.2.1 | with_reducible exact hN.2.2.1 | with_reducible exact hN.2.2.2.2 _ hh | with_reducible exact hdp_5 (hN.2.2.2.2 _ hh) | exact hN.1 _ hr | exact hN.2.1 | exact hN.2.2.1 | exact hN.2.2.2.2 _ hh | exact hdp_5 (hN.2.2.2.2 _ hh)) (fun H2 locs2 hW2 => ?_)
        exact le_take X (kk H2 locs2 F _ _ _ _ _ _ _ _ _ _ hI hJ hN hW2)
      · skip
        rw [e1, e2]
        refine x_take X hI hN hW hl.1 hf hr hh  (by first | omega | with_reducible exact hN.1 _ hr | with_reducible exact hN.2.1 | with_reducible exact hN.2.2.1 | with_reducible exact hN.2.2.2.2 _ hh | with_reducible exact hdp_5 (hN.2.2.2.2 _ hh) | exact hN.1 _ hr | exact hN.2.1 | exact hN.2.2.1 | exact hN.2.2.2.2 _ hh | exact hdp_5 (hN.2.2.2.2 _ hh)) (by first | omega | with_reducible exact hN.1 _ hr | with_reducible exact hN.2.1 | with_reducible exact hN.2.2.1 | with_reducible exact hN.2.2.2.2 _ hh | with_reducible exact hdp_5 (hN.2.2.2.2 _ hh) | exact hN.1 _ hr | exact hN.2.1 | exact hN.2.2.1 | exact hN.2.2.2.2 _ hh | exact hdp_5 (hN.2.2.2.2 _ hh)) (fun i hi9 => ap_hi hi9) (fun H1 locs1 F1 hA1 hI1 hW1 => ?_)
        refine lm_take _ X hW1 hl hi ?_
        rw [e1, e2]
        refine m_take _ X (INVm_ag hJ hA1) hN hW1 hl.1 hf hr hh  (by first | omega | with_reducible exact hN.1 _ hr | with_reducible exact hN.2.1 | with_reducible exact hN.2.2.1 | with_reducible exact hN.2.2.2.2 _ hh | with_reducible exact hdp_5 (hN.2.2.2.2 _ hh) | exact hN.1 _ hr | exact hN.2.1 | exact hN.2.2.1 | exact hN.2.2.2.2 _ hh | exact hdp_5 (hN.2.2.2.2 _ hh)) (by first | omega | with_reducible exact hN.1 _ hr | with_reducible exact hN.2.1 | with_reducible exact hN.2.2.1 | with_reducible exact hN.2.2.2.2 _ hh | with_reducible exact hdp_5 (hN.2.2.2.2 _ hh) | exact hN.1 _ hr | exact hN.2.1 | exact hN.2.2.1 | exact hN.2.2.2.2 _ hh | exact hdp_5 (hN.2.2.2.2 _ hh)) (by first | omega | with_reducible exact hN.1 _ hr | with_reducible exact hN.2.1 | with_reducible exact hN.2.2.1 | with_reducible exact hN.2.2.2.2 _ hh | with_reducible exact hdp_5 (hN.2.2.2.2 _ hh) | exact hN.1 _ hr | exact hN.2.1 | exact hN.2.2.1 | exact hN.2.2.2.2 _ hh | exact hdp_5 (hN.2.2.2.2 _ hh)) (fun H2 locs2 F2 hB2 hJ2 hW2 => ?_)
        exact le_take X (kk H2 locs2 F2 _ _ _ _ _ _ _ _ _ _ (INVx_ag hI1 hB2) hJ2 (INVs_hash hN (hN.2.2.2.1 h hh) (by omega)) hW2)
set_option maxHeartbeats 4000000 in
theorem law_fill (X : LC p m c s D cy t A b L xs) (hI : INVx F cy a ra rb ha cnt f fn0 ff pn pf md K g nt) (hJ : INVm F cy z cnt f fn0 ff pn pf md K g nt) (hN : INVs cnt fn0 pn md nt) (hW : Wd D A s (LW F) H locs) (hl : lv_has ls 4 [(0, .ref b), (1, .ref (a 0)), (2, .ref (z 0)), (3, .int (nI i0))]) (hi : i0 + 6 ≤ L) (hf : cells ≤ 600000 ∧ slots ≤ 7302250) (kk : ∀ (H : Heap) (locs : List Loc) (F : Nat → cellT) (cnt : Nat → Nat) (f : Nat → Nat → Int32) (fn0 : Nat) (ff : Nat → Int32) (pn : Nat) (pf : Nat → Int32) (md : Nat → Int32) (K g : Nat → Nat → Int32) (nt : Nat → Nat), INVx F cy a ra rb ha cnt f fn0 ff pn pf md K g nt → INVm F cy z cnt f fn0 ff pn pf md K g nt → INVs cnt fn0 pn md nt → Wd D A s (LW F) H locs → W p l e room_1 s m #[Value.ref b] below meth c H locs cells slots Q (F0 m 868 ls [])) : W p l e room_1 s m #[Value.ref b] below meth c H locs cells slots Q (F0 m 356 ls []) := by
  refine lx_fill X hW hl hi ?_
  rcases cs_n (xs (i0 + 1)) (n := 4) (by decide) with h1 | ⟨h, hh, e1⟩
  · skip
    refine x_fill_b X hI hN hW hl.1 hf  _ _ _ _ h1 (fun H1 locs1 hW1 => ?_)
    refine lm_fill _ X hW1 hl hi ?_
    refine m_fill_b _ X hJ hN hW1 hl.1 hf  _ _ _ _ h1 (fun H2 locs2 hW2 => ?_)
    exact le_fill X (kk H2 locs2 F _ _ _ _ _ _ _ _ _ _ hI hJ hN hW2)
  · skip
    rcases cs_le (xs (i0 + 2)) (n := 5000) (by decide) with h2 | ⟨n, hn5, e2⟩
    · skip
      rw [e1]
      refine x_fill_bn X hI hN hW hl.1 hf hh _ _ _ h2 (fun H1 locs1 hW1 => ?_)
      refine lm_fill _ X hW1 hl hi ?_
      rw [e1]
      refine m_fill_bn _ X hJ hN hW1 hl.1 hf hh _ _ _ h2 (fun H2 locs2 hW2 => ?_)
      exact le_fill X (kk H2 locs2 F _ _ _ _ _ _ _ _ _ _ hI hJ hN hW2)
    · skip
      by_cases h3 : 40000 < nt h + n
      · skip
        rw [e1, e2]
        refine x_fill_r X hI hN hW hl.1 hf hh _ _ _ (by first | omega | with_reducible exact hN.1 _ hr | with_reducible exact hN.2.1 | with_reducible exact hN.2.2.1 | with_reducible exact hN.2.2.2.2 _ hh | with_reducible exact hdp_5 (hN.2.2.2.2 _ hh) | exact hN.1 _ hr | exact hN.2.1 | exact hN.2.2.1 | exact hN.2.2.2.2 _ hh | exact hdp_5 (hN.2.2.2.2 _ hh)) (by first | omega | with_reducible exact hN.1 _ hr | with_reducible exact hN.2.1 | with_reducible exact hN.2.2.1 | with_reducible exact hN.2.2.2.2 _ hh | with_reducible exact hdp_5 (hN.2.2.2.2 _ hh) | exact hN.1 _ hr | exact hN.2.1 | exact hN.2.2.1 | exact hN.2.2.2.2 _ hh | exact hdp_5 (hN.2.2.2.2 _ hh)) (by first | omega | with_reducible exact hN.1 _ hr | with_reducible exact hN.2.1 | with_reducible exact hN.2.2.1 | with_reducible exact hN.2.2.2.2 _ hh | with_reducible exact hdp_5 (hN.2.2.2.2 _ hh) | exact hN.1 _ hr | exact hN.2.1 | exact hN.2.2.1 | exact hN.2.2.2.2 _ hh | exact hdp_5 (hN.2.2.2.2 _ hh)) (fun H1 locs1 hW1 => ?_)
        refine lm_fill _ X hW1 hl hi ?_
        rw [e1, e2]
        refine m_fill_r _ X hJ hN hW1 hl.1 hf hh _ _ _ (by first | omega | with_reducible exact hN.1 _ hr | with_reducible exact hN.2.1 | with_reducible exact hN.2.2.1 | with_reducible exact hN.2.2.2.2 _ hh | with_reducible exact hdp_5 (hN.2.2.2.2 _ hh) | exact hN.1 _ hr | exact hN.2.1 | exact hN.2.2.1 | exact hN.2.2.2.2 _ hh | exact hdp_5 (hN.2.2.2.2 _ hh)) (by first | omega | with_reducible exact hN.1 _ hr | with_reducible exact hN.2.1 | with_reducible exact hN.2.2.1 | with_reducible exact hN.2.2.2.2 _ hh | with_reducible exact hdp_5 (hN.2.2.2.2 _ hh) | exact hN.1 _ hr | exact hN.2.1 | exact hN.2.2.1 | exact hN.2.2.2.2 _ hh | exact hdp_5 (hN.2.2.2.2 _ hh)) (by first | omega | with_reducible exact hN.1 _ hr | with_reducible exact hN.2.1 | with_reducible exact hN.2.2.1 | with_reducible exact hN.2.2.2.2 _ hh | with_reducible exact hdp_5 (hN.2.2.2.2 _ hh) | exact hN.1 _ hr | exact hN.2.1 | exact hN.2.2.1 | exact hN.2.2.2.2 _ hh | exact hdp_5 (hN.2.2.2.2 _ hh)) (fun H2 locs2 hW2 => ?_)
        exact le_fill X (kk H2 locs2 F _ _ _ _ _ _ _ _ _ _ hI hJ hN hW2)
      · skip
        rw [e1, e2]
        refine x_fill X hI hN hW hl.1 hf hh _ _ _ (by first | omega | with_reducible exact hN.1 _ hr | with_reducible exact hN.2.1 | with_reducible exact hN.2.2.1 | with_reducible exact hN.2.2.2.2 _ hh | with_reducible exact hdp_5 (hN.2.2.2.2 _ hh) | exact hN.1 _ hr | exact hN.2.1 | exact hN.2.2.1 | exact hN.2.2.2.2 _ hh | exact hdp_5 (hN.2.2.2.2 _ hh)) (by first | omega | with_reducible exact hN.1 _ hr | with_reducible exact hN.2.1 | with_reducible exact hN.2.2.1 | with_reducible exact hN.2.2.2.2 _ hh | with_reducible exact hdp_5 (hN.2.2.2.2 _ hh) | exact hN.1 _ hr | exact hN.2.1 | exact hN.2.2.1 | exact hN.2.2.2.2 _ hh | exact hdp_5 (hN.2.2.2.2 _ hh)) (fun i hi9 => ap_hi hi9) (fun H1 locs1 F1 hA1 hI1 hW1 => ?_)
        refine lm_fill _ X hW1 hl hi ?_
        rw [e1, e2]
        refine m_fill _ X (INVm_ag hJ hA1) hN hW1 hl.1 hf hh _ _ _ (by first | omega | with_reducible exact hN.1 _ hr | with_reducible exact hN.2.1 | with_reducible exact hN.2.2.1 | with_reducible exact hN.2.2.2.2 _ hh | with_reducible exact hdp_5 (hN.2.2.2.2 _ hh) | exact hN.1 _ hr | exact hN.2.1 | exact hN.2.2.1 | exact hN.2.2.2.2 _ hh | exact hdp_5 (hN.2.2.2.2 _ hh)) (by first | omega | with_reducible exact hN.1 _ hr | with_reducible exact hN.2.1 | with_reducible exact hN.2.2.1 | with_reducible exact hN.2.2.2.2 _ hh | with_reducible exact hdp_5 (hN.2.2.2.2 _ hh) | exact hN.1 _ hr | exact hN.2.1 | exact hN.2.2.1 | exact hN.2.2.2.2 _ hh | exact hdp_5 (hN.2.2.2.2 _ hh)) (by first | omega | with_reducible exact hN.1 _ hr | with_reducible exact hN.2.1 | with_reducible exact hN.2.2.1 | with_reducible exact hN.2.2.2.2 _ hh | with_reducible exact hdp_5 (hN.2.2.2.2 _ hh) | exact hN.1 _ hr | exact hN.2.1 | exact hN.2.2.1 | exact hN.2.2.2.2 _ hh | exact hdp_5 (hN.2.2.2.2 _ hh)) (fun H2 locs2 F2 hB2 hJ2 hW2 => ?_)
        exact le_fill X (kk H2 locs2 F2 _ _ _ _ _ _ _ _ _ _ (INVx_ag hI1 hB2) hJ2 (INVs_hash hN (hN.2.2.2.1 h hh) (by omega)) hW2)
set_option maxHeartbeats 4000000 in
theorem law_copy (X : LC p m c s D cy t A b L xs) (hI : INVx F cy a ra rb ha cnt f fn0 ff pn pf md K g nt) (hJ : INVm F cy z cnt f fn0 ff pn pf md K g nt) (hN : INVs cnt fn0 pn md nt) (hW : Wd D A s (LW F) H locs) (hl : lv_has ls 4 [(0, .ref b), (1, .ref (a 0)), (2, .ref (z 0)), (3, .int (nI i0))]) (hi : i0 + 6 ≤ L) (hf : cells ≤ 600000 ∧ slots ≤ 7302250) (kk : ∀ (H : Heap) (locs : List Loc) (F : Nat → cellT) (cnt : Nat → Nat) (f : Nat → Nat → Int32) (fn0 : Nat) (ff : Nat → Int32) (pn : Nat) (pf : Nat → Int32) (md : Nat → Int32) (K g : Nat → Nat → Int32) (nt : Nat → Nat), INVx F cy a ra rb ha cnt f fn0 ff pn pf md K g nt → INVm F cy z cnt f fn0 ff pn pf md K g nt → INVs cnt fn0 pn md nt → Wd D A s (LW F) H locs → W p l e room_1 s m #[Value.ref b] below meth c H locs cells slots Q (F0 m 868 ls [])) : W p l e room_1 s m #[Value.ref b] below meth c H locs cells slots Q (F0 m 492 ls []) := by
  refine lx_copy X hW hl hi ?_
  rcases cs_n (xs (i0 + 1)) (n := 4) (by decide) with h1 | ⟨h2, hh2, e1⟩
  · skip
    refine x_copy_b X hI hN hW hl.1 hf  _ _ h1 (fun H1 locs1 hW1 => ?_)
    refine lm_copy _ X hW1 hl hi ?_
    refine m_copy_b _ X hJ hN hW1 hl.1 hf  _ _ h1 (fun H2 locs2 hW2 => ?_)
    exact le_copy X (kk H2 locs2 F _ _ _ _ _ _ _ _ _ _ hI hJ hN hW2)
  · skip
    rcases cs_n (xs (i0 + 2)) (n := 4) (by decide) with h3 | ⟨h, hh, e2⟩
    · skip
      rw [e1]
      refine x_copy_b2 X hI hN hW hl.1 hf hh2 _ h3 (fun H1 locs1 hW1 => ?_)
      refine lm_copy _ X hW1 hl hi ?_
      rw [e1]
      refine m_copy_b2 _ X hJ hN hW1 hl.1 hf hh2 _ h3 (fun H2 locs2 hW2 => ?_)
      exact le_copy X (kk H2 locs2 F _ _ _ _ _ _ _ _ _ _ hI hJ hN hW2)
    · skip
      by_cases he : h = h2
      · skip
        subst he
        rw [e1, e2]
        refine x_copy_a X hI hN hW hl.1 hf hh   (fun H1 locs1 hW1 => ?_)
        refine lm_copy _ X hW1 hl hi ?_
        rw [e1, e2]
        refine m_copy _ X hJ hN hW1 hl.1 hf hh hh  (by first | omega | with_reducible exact hN.1 _ hr | with_reducible exact hN.2.1 | with_reducible exact hN.2.2.1 | with_reducible exact hN.2.2.2.2 _ hh | with_reducible exact hdp_5 (hN.2.2.2.2 _ hh) | exact hN.1 _ hr | exact hN.2.1 | exact hN.2.2.1 | exact hN.2.2.2.2 _ hh | exact hdp_5 (hN.2.2.2.2 _ hh)) (fun H2 locs2 F2 hB2 hJ2 hW2 => ?_)
        rw [upd_self, upF1_self, upF1_self, upN1_self] at hJ2
        exact le_copy X (kk H2 locs2 F2 _ _ _ _ _ _ _ _ _ _ (INVx_ag hI hB2) hJ2 hN hW2)
      · skip
        rw [e1, e2]
        refine x_copy X hI hN hW hl.1 hf hh hh2  he (fun H1 locs1 F1 hA1 hI1 hW1 => ?_)
        refine lm_copy _ X hW1 hl hi ?_
        rw [e1, e2]
        refine m_copy _ X (INVm_ag hJ hA1) hN hW1 hl.1 hf hh hh2  (hN.2.2.2.2 h2 hh2) (fun H2 locs2 F2 hB2 hJ2 hW2 => ?_)
        exact le_copy X (kk H2 locs2 F2 _ _ _ _ _ _ _ _ _ _ (INVx_ag hI1 hB2) hJ2 (INVs_hash hN (hN.2.2.2.1 h2 hh2) (hN.2.2.2.2 h2 hh2)) hW2)
end CASES2
