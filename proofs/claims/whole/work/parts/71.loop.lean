theorem lw_cmp {L i : Nat} (hL : L ≤ 3072) (hi : i ≤ L) : (nI L - nI 6 < nI i) ↔ L < i + 6 := by
  by_cases h : 6 ≤ L
  · obtain ⟨k, rfl⟩ : ∃ k, L = k + 6 := ⟨L - 6, by omega⟩
    rw [← nI_add, Int32.add_sub_cancel, nI_ltI (by omega) (by omega)]
    omega
  · have h2 : ∀ L, L < 6 → ∀ i, i < 6 → nI L - nI 6 < nI i := by decide +kernel
    exact ⟨fun _ => by omega, fun _ => h2 L (by omega) i (by omega)⟩
theorem lw_out {y : Int32} (h : y < 0 ∨ nI 20 ≤ y) : y.toInt < 0 ∨ 19 < y.toInt := by
  rcases h with h | h
  · have h1 := Int32.lt_iff_toInt_lt.mp h
    have e : (0 : Int32).toInt = 0 := by decide
    omega
  · have h1 := Int32.le_iff_toInt_le.mp h
    have e : (nI 20).toInt = 20 := by decide
    omega
section LOOP
variable {p : Program} {l : Launch} {e : Env} {s : State} {m : MethodId} {below : List Frame} {meth : Method} {c : Code} {cells slots : Nat} {Q : State → Prop} {D : va_G} {cy : Nat → ClassId} {t : Nat × Nat} {A : Nat → Prop} {b L : Nat} {xs : Nat → Int32} {a ra rb ha z : Nat → Nat}
/-- one call of the script -/
theorem law_step (X : LC p m c s D cy t A b L xs) {i0 : Nat} (hi : i0 + 6 ≤ L) (hf : cells ≤ 600000 ∧ slots ≤ 7302250) {ls : Array Slot} (hl : lv_has ls 4 [(0, .ref b), (1, .ref (a 0)), (2, .ref (z 0)), (3, .int (nI i0))]) (kk : ∀ (H : Heap) (locs : List Loc) (F : Nat → cellT) (cnt : Nat → Nat) (f : Nat → Nat → Int32) (fn0 : Nat) (ff : Nat → Int32) (pn : Nat) (pf : Nat → Int32) (md : Nat → Int32) (K g : Nat → Nat → Int32) (nt : Nat → Nat), INVx F cy a ra rb ha cnt f fn0 ff pn pf md K g nt → INVm F cy z cnt f fn0 ff pn pf md K g nt → INVs cnt fn0 pn md nt → Wd D A s (LW F) H locs → W p l e room_1 s m #[Value.ref b] below meth c H locs cells slots Q (F0 m 868 ls [])) : ∀ (H : Heap) (locs : List Loc) (F : Nat → cellT) (cnt : Nat → Nat) (f : Nat → Nat → Int32) (fn0 : Nat) (ff : Nat → Int32) (pn : Nat) (pf : Nat → Int32) (md : Nat → Int32) (K g : Nat → Nat → Int32) (nt : Nat → Nat), INVx F cy a ra rb ha cnt f fn0 ff pn pf md K g nt → INVm F cy z cnt f fn0 ff pn pf md K g nt → INVs cnt fn0 pn md nt → Wd D A s (LW F) H locs → W p l e room_1 s m #[Value.ref b] below meth c H locs cells slots Q (F0 m 27 ls []) := by
  have X0 := X
  obtain ⟨⟨hx, hb, hml, hown, hts⟩, -, -, -, hX, hbl, hbA, hL⟩ := X0
  intro H locs F cnt f fn0 ff pn pf md K g nt hI hJ hN hW
  refine lv_aload_n hx hb dL_law_27 rfl (lv_at hl 0 rfl) ?_
  refine lv_iload_n hx hb dL_law_28 rfl (lv_at hl 3 rfl) ?_
  refine rX hx hb hX hbl hbA hW (k := i0) (by omega) hL dL_law_29 ?_
  refine lv_bipush (v := nI (31)) hx hb dL_law_30 (by decide) ?_
  refine lv_iand hx hb dL_law_32 ?_
  refine lv_topi (fun v ev => ?_)
  rcases cs_n v (n := 20) (by decide) with h | ⟨j, hj, ej⟩
  · exact lv_tableOut (tgt := 868) hx hb dL_law_33 (lw_out h) (by decide) (kk H locs F _ _ _ _ _ _ _ _ _ _ hI hJ hN hW)
  · rw [ej]
    obtain rfl | rfl | rfl | rfl | rfl | rfl | rfl | rfl | rfl | rfl | rfl | rfl | rfl | rfl | rfl | rfl | rfl | rfl | rfl | rfl := (by omega : j = 0 ∨ j = 1 ∨ j = 2 ∨ j = 3 ∨ j = 4 ∨ j = 5 ∨ j = 6 ∨ j = 7 ∨ j = 8 ∨ j = 9 ∨ j = 10 ∨ j = 11 ∨ j = 12 ∨ j = 13 ∨ j = 14 ∨ j = 15 ∨ j = 16 ∨ j = 17 ∨ j = 18 ∨ j = 19)
    · exact lv_tableIn (off := 95) (tgt := 128) hx hb dL_law_33 (by decide +kernel) (by decide +kernel) (by decide +kernel) (by decide) (law_add X hI hJ hN hW hl hi hf kk)
    · exact lv_tableIn (off := 168) (tgt := 201) hx hb dL_law_33 (by decide +kernel) (by decide +kernel) (by decide +kernel) (by decide) (law_clear X hI hJ hN hW hl hi hf kk)
    · exact lv_tableIn (off := 191) (tgt := 224) hx hb dL_law_33 (by decide +kernel) (by decide +kernel) (by decide +kernel) (by decide) (law_size X hI hJ hN hW hl hi hf kk)
    · exact lv_tableIn (off := 214) (tgt := 247) hx hb dL_law_33 (by decide +kernel) (by decide +kernel) (by decide +kernel) (by decide) (law_at X hI hJ hN hW hl hi hf kk)
    · exact lv_tableIn (off := 247) (tgt := 280) hx hb dL_law_33 (by decide +kernel) (by decide +kernel) (by decide +kernel) (by decide) (law_begin X hI hJ hN hW hl hi hf kk)
    · exact lv_tableIn (off := 290) (tgt := 323) hx hb dL_law_33 (by decide +kernel) (by decide +kernel) (by decide +kernel) (by decide) (law_take X hI hJ hN hW hl hi hf kk)
    · exact lv_tableIn (off := 323) (tgt := 356) hx hb dL_law_33 (by decide +kernel) (by decide +kernel) (by decide +kernel) (by decide) (law_fill X hI hJ hN hW hl hi hf kk)
    · exact lv_tableIn (off := 376) (tgt := 409) hx hb dL_law_33 (by decide +kernel) (by decide +kernel) (by decide +kernel) (by decide) (law_output X hI hJ hN hW hl hi hf kk)
    · exact lv_tableIn (off := 459) (tgt := 492) hx hb dL_law_33 (by decide +kernel) (by decide +kernel) (by decide +kernel) (by decide) (law_copy X hI hJ hN hW hl hi hf kk)
    · exact lv_tableIn (off := 492) (tgt := 525) hx hb dL_law_33 (by decide +kernel) (by decide +kernel) (by decide +kernel) (by decide) (law_told X hI hJ hN hW hl hi hf kk)
    · exact lv_tableIn (off := 525) (tgt := 558) hx hb dL_law_33 (by decide +kernel) (by decide +kernel) (by decide +kernel) (by decide) (law_chain X hI hJ hN hW hl hi hf kk)
    · exact lv_tableIn (off := 568) (tgt := 601) hx hb dL_law_33 (by decide +kernel) (by decide +kernel) (by decide +kernel) (by decide) (law_grow X hI hJ hN hW hl hi hf kk)
    · exact lv_tableIn (off := 611) (tgt := 644) hx hb dL_law_33 (by decide +kernel) (by decide +kernel) (by decide +kernel) (by decide) (law_spoil X hI hJ hN hW hl hi hf kk)
    · exact lv_tableIn (off := 644) (tgt := 677) hx hb dL_law_33 (by decide +kernel) (by decide +kernel) (by decide +kernel) (by decide) (law_shorten X hI hJ hN hW hl hi hf kk)
    · exact lv_tableIn (off := 667) (tgt := 700) hx hb dL_law_33 (by decide +kernel) (by decide +kernel) (by decide +kernel) (by decide) (law_root X hI hJ hN hW hl hi hf kk)
    · exact lv_tableIn (off := 690) (tgt := 723) hx hb dL_law_33 (by decide +kernel) (by decide +kernel) (by decide +kernel) (by decide) (law_prove X hI hJ hN hW hl hi hf kk)
    · exact lv_tableIn (off := 713) (tgt := 746) hx hb dL_law_33 (by decide +kernel) (by decide +kernel) (by decide +kernel) (by decide) (law_proof X hI hJ hN hW hl hi hf kk)
    · exact lv_tableIn (off := 736) (tgt := 769) hx hb dL_law_33 (by decide +kernel) (by decide +kernel) (by decide +kernel) (by decide) (law_forge X hI hJ hN hW hl hi hf kk)
    · exact lv_tableIn (off := 769) (tgt := 802) hx hb dL_law_33 (by decide +kernel) (by decide +kernel) (by decide +kernel) (by decide) (law_cut X hI hJ hN hW hl hi hf kk)
    · exact lv_tableIn (off := 792) (tgt := 825) hx hb dL_law_33 (by decide +kernel) (by decide +kernel) (by decide +kernel) (by decide) (law_check X hI hJ hN hW hl hi hf kk)
theorem law_loop (X : LC p m c s D cy t A b L xs) (hf : cells ≤ 600000 ∧ slots ≤ 7302250) (ke : ∀ (H : Heap) (locs : List Loc) (F : Nat → cellT) (ls : Array Slot), Wd D A s (LW F) H locs → W p l e room_1 s m #[Value.ref b] below meth c H locs cells slots Q (F0 m 874 ls [])) : ∀ (n i0 : Nat), L < i0 + n → i0 ≤ L → ∀ (ls : Array Slot), lv_has ls 4 [(0, .ref b), (1, .ref (a 0)), (2, .ref (z 0)), (3, .int (nI i0))] → ∀ (H : Heap) (locs : List Loc) (F : Nat → cellT) (cnt : Nat → Nat) (f : Nat → Nat → Int32) (fn0 : Nat) (ff : Nat → Int32) (pn : Nat) (pf : Nat → Int32) (md : Nat → Int32) (K g : Nat → Nat → Int32) (nt : Nat → Nat), INVx F cy a ra rb ha cnt f fn0 ff pn pf md K g nt → INVm F cy z cnt f fn0 ff pn pf md K g nt → INVs cnt fn0 pn md nt → Wd D A s (LW F) H locs → W p l e room_1 s m #[Value.ref b] below meth c H locs cells slots Q (F0 m 18 ls []) := by
  have X0 := X
  obtain ⟨⟨hx, hb, hml, hown, hts⟩, -, -, -, hX, hbl, hbA, hL⟩ := X0
  intro n
  induction n with
  | zero =>
    intro i0 h1 h2
    exact absurd h1 (by omega)
  | succ n ih =>
    intro i0 h1 h2 ls hl H locs F cnt f fn0 ff pn pf md K g nt hI hJ hN hW
    refine lv_iload_n hx hb dL_law_18 rfl (lv_at hl 3 rfl) ?_
    refine lv_aload_n hx hb dL_law_19 rfl (lv_at hl 0 rfl) ?_
    refine va_slen hx hb hX hbl hbA hW.2.2 dL_law_20 ?_
    refine lv_bipush (v := nI (6)) hx hb dL_law_21 (by decide) ?_
    refine lv_isub hx hb dL_law_23 ?_
    refine lv_icmp_gt (tgt := 874) hx hb dL_law_24 (by decide) (fun _ => ke H locs F ls hW) (fun h => ?_)
    have h3 : i0 + 6 ≤ L := by
      rcases Nat.lt_or_ge L (i0 + 6) with q | q
      · exact absurd ((lw_cmp hL h2).mpr q) h
      · exact q
    refine law_step X h3 hf hl (fun H locs F cnt f fn0 ff pn pf md K g nt hI hJ hN hW => ?_) H locs F cnt f fn0 ff pn pf md K g nt hI hJ hN hW
    refine lv_iinc (v := nI (i0 + 6)) (lv' := [(3, .int (nI (i0 + 6))), (0, .ref b), (1, .ref (a 0)), (2, .ref (z 0))]) hx hb dL_law_868 hl (k := 3) rfl (by rw [show Int32.ofInt 6 = nI 6 from by decide]; exact nI_add i0 6) (by decide) rfl (fun ls hl => ?_)
    refine lv_goto (tgt := 18) hx hb dL_law_871 (by decide) ?_
    exact ih (i0 + 6) (by omega) h3 ls (lv_sub hl [1, 2, 3, 0] rfl) H locs F cnt f fn0 ff pn pf md K g nt hI hJ hN hW
end LOOP
