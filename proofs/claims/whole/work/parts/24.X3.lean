set_option maxHeartbeats 4000000 in
set_option maxRecDepth 100000 in
theorem c_X3_leftOf (l : Launch) (D : va_G) (cy : Nat → ClassId) (t : Nat × Nat) (n : Nat) (hn : n ≤ 1024) (sz : Nat) : Met l yX3_leftOf wsX3_leftOf ({ frames := 0, cells := 0, slots := 0, locals := 0 }) (PcW D cy t [] [.int (nI (n))] sz) (QiA D cy (fun (r : Int32) (u : Unit) => (r = nI (lft n))) (fun u : Unit => []) (va_A [] sz)) 0 0 (va_A [] sz) := by
  refine M_ofW (cc := cX3_leftOf) (maxL := 3) (ret := (some .int)) (by decide) rfl (Nat.le_of_ble_eq_true rfl) ?_
  intro p e s m below meth c A ls args Q hQ S0 hr hlocks hnm hK hst hA hW hl
  have hx := S0.1; have hb := S0.2.1; have hml := S0.2.2.1; have hown := S0.2.2.2.1; have hts := S0.2.2.2.2
  have hl : lv_has ls 3 [(0, .int (nI (n)))] := hl
  refine lv_iconst (v := nI (1)) hx hb dX3_leftOf_0 (by decide) ?_
  refine lv_istore_n (lv' := [(1, .int (nI (1))), (0, .int (nI (n)))]) hx hb dX3_leftOf_1 rfl hl (by decide) rfl (fun ls hl => ?_)
  refine lv_iconst (v := nI (1)) hx hb dX3_leftOf_2 (by decide) ?_
  refine lv_istore_n (lv' := [(2, .int (nI (1))), (1, .int (nI (1))), (0, .int (nI (n)))]) hx hb dX3_leftOf_3 rfl hl (by decide) rfl (fun ls hl => ?_)
  have loop4 : ∀ (nF : Nat) (a : Nat), 9 - a < nF → (a ≤ 9) → (a = 0 ∨ 2 ^ a < n) → ∀ (H : Heap) (locs : List Loc), Wd D A s [] H locs → ∀ ls : Array Slot, lv_has ls 3 [(0, .int (nI (n))), (1, .int (nI (2 ^ a))), (2, .int (nI (a + 1)))] → W p l e ({ frames := 0, cells := 0, slots := 0, locals := 0 }) s m args below meth c H locs 0 0 Q (F0 m 4 ls []) := by
    intro nF
    induction nF with
    | zero => intro a hf; exact absurd hf (Nat.not_lt_zero _)
    | succ nF ih4 =>
      intro a hf ha1 ha2 H locs hW ls hl
      have hp : 2 ^ a ≤ 512 := Nat.le_trans (Nat.pow_le_pow_right (by decide) ha1) (by decide)
      refine lv_iload_n hx hb dX3_leftOf_4 rfl (lv_at hl 2 rfl) ?_
      refine lv_bipush (v := nI (10)) hx hb dX3_leftOf_5 (by decide) ?_
      refine iGe (a := a + 1) (b := 10) (tgt := 27) hx hb dX3_leftOf_7 (by decide) (by omega) (by omega) (fun h7 => ?_) (fun h7 => ?_)
      · skip
        have e9 : a = 9 := by omega
        have e8 : lft n = 2 ^ a := lft_is (by rw [e9]; omega) ha2
        refine lv_iload_n hx hb dX3_leftOf_27 rfl (lv_at hl 1 rfl) ?_
        exact eI hQ hx hb hr hlocks hK hW () (by rw [e8]) (rfl) dX3_leftOf_28
      · skip
        refine lv_iconst (v := nI (2)) hx hb dX3_leftOf_10 (by decide) ?_
        refine lv_iload_n hx hb dX3_leftOf_11 rfl (lv_at hl 1 rfl) ?_
        refine lv_imul hx hb dX3_leftOf_12 ?_
        refine tI (pk_mul _ _) ?_
        refine lv_iload_n hx hb dX3_leftOf_13 rfl (lv_at hl 0 rfl) ?_
        refine iGe (a := 2 * (2 ^ a)) (b := n) (tgt := 27) hx hb dX3_leftOf_14 (by decide) (by omega) (by omega) (fun h14 => ?_) (fun h14 => ?_)
        · skip
          have e8 : lft n = 2 ^ a := lft_is (by omega) ha2
          refine lv_iload_n hx hb dX3_leftOf_27 rfl (lv_at hl 1 rfl) ?_
          exact eI hQ hx hb hr hlocks hK hW () (by rw [e8]) (rfl) dX3_leftOf_28
        · skip
          refine lv_iload_n hx hb dX3_leftOf_17 rfl (lv_at hl 1 rfl) ?_
          refine lv_iconst (v := nI (2)) hx hb dX3_leftOf_18 (by decide) ?_
          refine lv_imul hx hb dX3_leftOf_19 ?_
          refine tI (pk_mul _ _) ?_
          refine tI (x' := nI (2 ^ (a + 1))) (rfl) ?_
          refine lv_istore_n (lv' := [(1, .int (nI (2 ^ (a + 1)))), (0, .int (nI (n))), (2, .int (nI (a + 1)))]) hx hb dX3_leftOf_20 rfl hl (by decide) rfl (fun ls hl => ?_)
          refine lv_iinc (v := nI (a + 1 + 1)) (lv' := [(2, .int (nI (a + 1 + 1))), (1, .int (nI (2 ^ (a + 1)))), (0, .int (nI (n)))]) hx hb dX3_leftOf_21 hl (k := 2) rfl (nI_1 _) (by decide) rfl (fun ls hl => ?_)
          refine lv_goto (tgt := 4) hx hb dX3_leftOf_24 (by decide) ?_
          exact ih4 (a + 1) (by omega) (by omega) (Or.inr (by rw [Nat.pow_succ]; omega)) _ _ hW _ (lv_sub hl [2, 1, 0] rfl)
  exact loop4 _ 0 (Nat.lt_succ_self _) (by omega) (Or.inl rfl) _ _ hW _ (lv_sub hl [2, 1, 0] rfl)

theorem f_X3_lead_0 : Cond.fieldLink RX3 16 "TreeHashes$Way" "levels" "I" ∈ wsX3_lead := by decide +kernel
theorem i_X3_lead_X3 : ∀ w ∈ wsX30, w ∈ wsX3_lead := by decide +kernel
theorem f_X3_lead_2 : Cond.fieldLink RX3 9 "TreeHashes$Way" "otherFirst" "[I" ∈ wsX3_lead := by decide +kernel
theorem f_X3_lead_3 : Cond.fieldLink RX3 13 "TreeHashes$Way" "otherChunks" "[I" ∈ wsX3_lead := by decide +kernel
set_option maxHeartbeats 4000000 in
set_option maxRecDepth 100000 in
theorem c_X3_lead (l : Launch) (D : va_G) (cy : Nat → ClassId) (t : Nat × Nat) (y0 : Nat) (y1 : Nat) (y2 : Nat) (lv : Nat) (of : Nat → Int32) (oc : Nat → Int32) (n : Nat) (c0 : Nat) (hn : n ≤ 1024) (hc0 : c0 < n) (sz : Nat) : Met l yX3_lead wsX3_lead ({ frames := 1, cells := 0, slots := 0, locals := 22 }) (PcW D cy t [(y0, .inr (3, [.ref y1, .ref y2, .int (nI (lv))])), (y1, .inl (cy 0, 10, .inl (of))), (y2, .inl (cy 0, 10, .inl (oc)))] [.ref y0, .int (nI (n)), .int (nI (c0))] sz) (QvA D cy (fun u : (Nat) × (Nat → Int32) × (Nat → Int32) => match u with | (lv2, of2, oc2) => (wyL c0 n lv2) ∧ (∀ i, i < lv2 → of2 i = nI (wyF c0 n i) ∧ oc2 i = nI (wyC c0 n i))) (fun u : (Nat) × (Nat → Int32) × (Nat → Int32) => match u with | (lv2, of2, oc2) => [(y0, .inr (3, [.ref y1, .ref y2, .int (nI (lv2))])), (y1, .inl (cy 0, 10, .inl (of2))), (y2, .inl (cy 0, 10, .inl (oc2)))]) (va_A [(y0, .inr (3, [.ref y1, .ref y2, .int (nI (lv))])), (y1, .inl (cy 0, 10, .inl (of))), (y2, .inl (cy 0, 10, .inl (oc)))] sz)) 0 0 (va_A [(y0, .inr (3, [.ref y1, .ref y2, .int (nI (lv))])), (y1, .inl (cy 0, 10, .inl (of))), (y2, .inl (cy 0, 10, .inl (oc)))] sz) := by
  refine M_ofW (cc := cX3_lead) (maxL := 6) (ret := none) (by decide) rfl (Nat.le_of_ble_eq_true rfl) ?_
  intro p e s m below meth c A ls args Q hQ S0 hr hlocks hnm hK hst hA hW hl
  have hx := S0.1; have hb := S0.2.1; have hml := S0.2.2.1; have hown := S0.2.2.2.1; have hts := S0.2.2.2.2
  have hl : lv_has ls 6 [(0, .ref y0), (1, .int (nI (n))), (2, .int (nI (c0)))] := hl
  refine lv_iconst (v := nI (0)) hx hb dX3_lead_0 (by decide) ?_
  refine lv_istore_n (lv' := [(3, .int (nI (0))), (0, .ref y0), (1, .int (nI (n))), (2, .int (nI (c0)))]) hx hb dX3_lead_1 rfl hl (by decide) rfl (fun ls hl => ?_)
  refine lv_iload_n hx hb dX3_lead_2 rfl (lv_at hl 2 rfl) ?_
  refine lv_istore (lv' := [(4, .int (nI (n))), (3, .int (nI (0))), (0, .ref y0), (1, .int (nI (n))), (2, .int (nI (c0)))]) hx hb dX3_lead_3 hl (by decide) rfl (fun ls hl => ?_)
  refine lv_aload_n hx hb dX3_lead_5 rfl (lv_at hl 2 rfl) ?_
  refine lv_iconst (v := nI (0)) hx hb dX3_lead_6 (by decide) ?_
  refine va_put (D := D) (ci := 3) (v := .int (nI (0))) (ty := .int) (C := RX3) (T := TX3) (N := 3) hx hb hts i_X3_lead_X3 tyX3 tyX3_ok nmX3 hown hK hW.1 hW.2.1 hW.2.2 0 rfl rfl 2 (by decide) (hts (.fieldLink RX3 16 "TreeHashes$Way" "levels" "I") f_X3_lead_0) (fun _ h9 => h9) rfl (by decide +kernel) rfl rfl (Nat.le_of_ble_eq_true rfl) dX3_lead_7 (fun H locs hP hD hS => ?_)
  have hW : Wd D A s [(y0, .inr (3, [.ref y1, .ref y2, .int (nI (0))])), (y1, .inl (cy 0, 10, .inl (of))), (y2, .inl (cy 0, 10, .inl (oc)))] H locs := ⟨hP, hD, hS⟩
  have loop10 : ∀ (nF : Nat) (i : Nat) (fi : Nat) (nu : Nat) (fx : Nat → Int32) (cx : Nat → Int32), 10 - i < nF → (i ≤ 10) → (wyS c0 n i = (fi, nu)) → (∀ j, j < i → 1 < (wyS c0 n j).2) → (∀ j, j < i → fx j = nI (wyF c0 n j) ∧ cx j = nI (wyC c0 n j)) → ∀ (H : Heap) (locs : List Loc), Wd D A s [(y0, .inr (3, [.ref y1, .ref y2, .int (nI (i))])), (y1, .inl (cy 0, 10, .inl (fx))), (y2, .inl (cy 0, 10, .inl (cx)))] H locs → ∀ ls : Array Slot, lv_has ls 6 [(0, .ref y0), (1, .int (nI (n))), (2, .int (nI (c0))), (3, .int (nI (fi))), (4, .int (nI (nu)))] → W p l e ({ frames := 1, cells := 0, slots := 0, locals := 22 }) s m args below meth c H locs 0 0 Q (F0 m 10 ls []) := by
    intro nF
    induction nF with
    | zero => intro i fi nu fx cx hf; exact absurd hf (Nat.not_lt_zero _)
    | succ nF ih10 =>
      intro i fi nu fx cx hf hi10 hst2 hlt harr H locs hW ls hl
      have hb9 := wyS_b hc0 i
      rw [hst2] at hb9
      have hb8 : fi + nu ≤ n ∧ fi ≤ c0 ∧ c0 < fi + nu := hb9
      have hb7 : nu ≤ 2 ^ (10 - i) := by have := wyS_p (c := c0) (n := n) (k := 10) (by omega) hi10; rw [hst2] at this; exact this
      refine lv_iload hx hb dX3_lead_10 (lv_at hl 4 rfl) ?_
      refine lv_iconst (v := nI (1)) hx hb dX3_lead_12 (by decide) ?_
      refine iLe (a := nu) (b := 1) (tgt := 120) hx hb dX3_lead_13 (by decide) (by omega) (by omega) (fun h13 => ?_) (fun h13 => ?_)
      · skip
        exact eV hQ hx hb hr hlocks hK hW (i, fx, cx) (⟨⟨by rw [hst2]; exact h13, hlt⟩, harr⟩) (rfl) dX3_lead_120
      · skip
        refine lv_aload_n hx hb dX3_lead_16 rfl (lv_at hl 0 rfl) ?_
        refine va_get (D := D) (ci := 3) (v := .int (nI (i))) (C := RX3) (T := TX3) (N := 3) hx hb hts i_X3_lead_X3 hown hK hW.1 0 rfl rfl 2 (by decide) (hts (.fieldLink RX3 16 "TreeHashes$Way" "levels" "I") f_X3_lead_0) (fun _ h9 => h9) rfl dX3_lead_17 ?_
        refine lv_bipush (v := nI (10)) hx hb dX3_lead_20 (by decide) ?_
        refine iGe (a := i) (b := 10) (tgt := 120) hx hb dX3_lead_22 (by decide) (by omega) (by omega) (fun h22 => ?_) (fun h22 => ?_)
        · skip
          exfalso; rw [show i = 10 from by omega] at hb7; have hb6 : nu ≤ 1 := hb7; omega
        · skip
          refine lv_iload hx hb dX3_lead_25 (lv_at hl 4 rfl) ?_
          refine kSi (As := [.int (nI (nu))]) (rest := []) S0 hK hst hA hW [] (fun sz => c_X3_leftOf l D cy t nu (by omega) sz) rfl (by decide) (va_cwS 1 hts gX3_lead_X3_leftOf rfl rfl rfl (by decide +kernel) ⟨Nat.le_of_ble_eq_true rfl, Nat.le_of_ble_eq_true rfl⟩) (fun _ => rfl) rfl hl.1 rfl (Nat.le_of_ble_eq_true rfl) dX3_lead_27 ⟨Nat.le_of_ble_eq_true rfl, Nat.le_of_ble_eq_true rfl⟩ (fun r27 u27 H locs p27 hW => ?_)
          have hW : Wd D A s [(y0, .inr (3, [.ref y1, .ref y2, .int (nI (i))])), (y1, .inl (cy 0, 10, .inl (fx))), (y2, .inl (cy 0, 10, .inl (cx)))] H locs := hW
          have q27 : r27 = nI (lft nu) := p27
          subst q27
          refine lv_istore (lv' := [(5, .int (nI (lft nu))), (0, .ref y0), (1, .int (nI (n))), (2, .int (nI (c0))), (3, .int (nI (fi))), (4, .int (nI (nu)))]) hx hb dX3_lead_30 hl (by decide) rfl (fun ls hl => ?_)
          have hb5 := lft_lt h13
          have hb4 := lft_pos nu
          refine lv_iload_n hx hb dX3_lead_32 rfl (lv_at hl 3 rfl) ?_
          refine lv_iload_n hx hb dX3_lead_33 rfl (lv_at hl 4 rfl) ?_
          refine lv_iload hx hb dX3_lead_34 (lv_at hl 0 rfl) ?_
          refine lv_iadd hx hb dX3_lead_36 ?_
          refine tI (nI_add _ _) ?_
          refine iGe (a := c0) (b := fi + (lft nu)) (tgt := 74) hx hb dX3_lead_37 (by decide) (by omega) (by omega) (fun h37 => ?_) (fun h37 => ?_)
          · skip
            refine lv_aload_n hx hb dX3_lead_74 rfl (lv_at hl 1 rfl) ?_
            refine va_get (D := D) (ci := 3) (v := .ref y1) (C := RX3) (T := TX3) (N := 3) hx hb hts i_X3_lead_X3 hown hK hW.1 0 rfl rfl 0 (by decide) (hts (.fieldLink RX3 9 "TreeHashes$Way" "otherFirst" "[I") f_X3_lead_2) (fun _ h9 => h9) rfl dX3_lead_75 ?_
            refine lv_aload_n hx hb dX3_lead_78 rfl (lv_at hl 1 rfl) ?_
            refine va_get (D := D) (ci := 3) (v := .int (nI (i))) (C := RX3) (T := TX3) (N := 3) hx hb hts i_X3_lead_X3 hown hK hW.1 0 rfl rfl 2 (by decide) (hts (.fieldLink RX3 16 "TreeHashes$Way" "levels" "I") f_X3_lead_0) (fun _ h9 => h9) rfl dX3_lead_79 ?_
            refine lv_iload_n hx hb dX3_lead_82 rfl (lv_at hl 4 rfl) ?_
            refine wI hx hb hK hW 1 rfl (k := i) (by omega) (by omega) dX3_lead_83 (fun H locs hW => ?_)
            have hW : Wd D A s [(y0, .inr (3, [.ref y1, .ref y2, .int (nI (i))])), (y1, .inl (cy 0, 10, .inl (upd fx i (nI (fi))))), (y2, .inl (cy 0, 10, .inl (cx)))] H locs := hW
            refine lv_aload_n hx hb dX3_lead_84 rfl (lv_at hl 1 rfl) ?_
            refine va_get (D := D) (ci := 3) (v := .ref y2) (C := RX3) (T := TX3) (N := 3) hx hb hts i_X3_lead_X3 hown hK hW.1 0 rfl rfl 1 (by decide) (hts (.fieldLink RX3 13 "TreeHashes$Way" "otherChunks" "[I") f_X3_lead_3) (fun _ h9 => h9) rfl dX3_lead_85 ?_
            refine lv_aload_n hx hb dX3_lead_88 rfl (lv_at hl 1 rfl) ?_
            refine va_get (D := D) (ci := 3) (v := .int (nI (i))) (C := RX3) (T := TX3) (N := 3) hx hb hts i_X3_lead_X3 hown hK hW.1 0 rfl rfl 2 (by decide) (hts (.fieldLink RX3 16 "TreeHashes$Way" "levels" "I") f_X3_lead_0) (fun _ h9 => h9) rfl dX3_lead_89 ?_
            refine lv_iload hx hb dX3_lead_92 (lv_at hl 0 rfl) ?_
            refine wI hx hb hK hW 2 rfl (k := i) (by omega) (by omega) dX3_lead_94 (fun H locs hW => ?_)
            have hW : Wd D A s [(y0, .inr (3, [.ref y1, .ref y2, .int (nI (i))])), (y1, .inl (cy 0, 10, .inl (upd fx i (nI (fi))))), (y2, .inl (cy 0, 10, .inl (upd cx i (nI (lft nu)))))] H locs := hW
            refine lv_iload_n hx hb dX3_lead_95 rfl (lv_at hl 4 rfl) ?_
            refine lv_iload hx hb dX3_lead_96 (lv_at hl 0 rfl) ?_
            refine lv_iadd hx hb dX3_lead_98 ?_
            refine tI (nI_add _ _) ?_
            refine lv_istore_n (lv' := [(3, .int (nI (fi + (lft nu)))), (5, .int (nI (lft nu))), (0, .ref y0), (1, .int (nI (n))), (2, .int (nI (c0))), (4, .int (nI (nu)))]) hx hb dX3_lead_99 rfl hl (by decide) rfl (fun ls hl => ?_)
            refine lv_iload hx hb dX3_lead_100 (lv_at hl 5 rfl) ?_
            refine lv_iload hx hb dX3_lead_102 (lv_at hl 1 rfl) ?_
            refine lv_isub hx hb dX3_lead_104 ?_
            refine tI (pk_sub (by omega)) ?_
            refine lv_istore (lv' := [(4, .int (nI (nu - (lft nu)))), (3, .int (nI (fi + (lft nu)))), (5, .int (nI (lft nu))), (0, .ref y0), (1, .int (nI (n))), (2, .int (nI (c0)))]) hx hb dX3_lead_105 hl (by decide) rfl (fun ls hl => ?_)
            refine lv_aload_n hx hb dX3_lead_107 rfl (lv_at hl 3 rfl) ?_
            refine lv_dup hx hb dX3_lead_108 rfl ?_
            refine va_get (D := D) (ci := 3) (v := .int (nI (i))) (C := RX3) (T := TX3) (N := 3) hx hb hts i_X3_lead_X3 hown hK hW.1 0 rfl rfl 2 (by decide) (hts (.fieldLink RX3 16 "TreeHashes$Way" "levels" "I") f_X3_lead_0) (fun _ h9 => h9) rfl dX3_lead_109 ?_
            refine lv_iconst (v := nI (1)) hx hb dX3_lead_112 (by decide) ?_
            refine lv_iadd hx hb dX3_lead_113 ?_
            refine tI (nI_add _ _) ?_
            refine va_put (D := D) (ci := 3) (v := .int (nI (i + 1))) (ty := .int) (C := RX3) (T := TX3) (N := 3) hx hb hts i_X3_lead_X3 tyX3 tyX3_ok nmX3 hown hK hW.1 hW.2.1 hW.2.2 0 rfl rfl 2 (by decide) (hts (.fieldLink RX3 16 "TreeHashes$Way" "levels" "I") f_X3_lead_0) (fun _ h9 => h9) rfl (by decide +kernel) rfl rfl (Nat.le_of_ble_eq_true rfl) dX3_lead_114 (fun H locs hP hD hS => ?_)
            have hW : Wd D A s [(y0, .inr (3, [.ref y1, .ref y2, .int (nI (i + 1))])), (y1, .inl (cy 0, 10, .inl (upd fx i (nI (fi))))), (y2, .inl (cy 0, 10, .inl (upd cx i (nI (lft nu)))))] H locs := ⟨hP, hD, hS⟩
            refine lv_goto (tgt := 10) hx hb dX3_lead_117 (by decide) ?_
            obtain ⟨e1, e2, e3⟩ := wyS_r hst2 h37
            exact ih10 (i + 1) (fi + (lft nu)) (nu - (lft nu)) (upd fx i (nI (fi))) (upd cx i (nI (lft nu))) (by omega) (by omega) (e1) (by intro j hj; rcases Nat.lt_succ_iff_lt_or_eq.mp hj with q | q; (exact hlt j q); (rw [q, hst2]; exact h13)) (by intro j hj; rcases Nat.lt_succ_iff_lt_or_eq.mp hj with q | q; (rw [pk_un (by omega), pk_un (by omega)]; exact harr j q); (rw [q, pk_us, pk_us, e2, e3]; exact ⟨rfl, rfl⟩)) _ _ hW _ (lv_sub hl [3, 4, 5, 1, 0] rfl)
          · skip
            refine lv_aload_n hx hb dX3_lead_40 rfl (lv_at hl 1 rfl) ?_
            refine va_get (D := D) (ci := 3) (v := .ref y1) (C := RX3) (T := TX3) (N := 3) hx hb hts i_X3_lead_X3 hown hK hW.1 0 rfl rfl 0 (by decide) (hts (.fieldLink RX3 9 "TreeHashes$Way" "otherFirst" "[I") f_X3_lead_2) (fun _ h9 => h9) rfl dX3_lead_41 ?_
            refine lv_aload_n hx hb dX3_lead_44 rfl (lv_at hl 1 rfl) ?_
            refine va_get (D := D) (ci := 3) (v := .int (nI (i))) (C := RX3) (T := TX3) (N := 3) hx hb hts i_X3_lead_X3 hown hK hW.1 0 rfl rfl 2 (by decide) (hts (.fieldLink RX3 16 "TreeHashes$Way" "levels" "I") f_X3_lead_0) (fun _ h9 => h9) rfl dX3_lead_45 ?_
            refine lv_iload_n hx hb dX3_lead_48 rfl (lv_at hl 4 rfl) ?_
            refine lv_iload hx hb dX3_lead_49 (lv_at hl 0 rfl) ?_
            refine lv_iadd hx hb dX3_lead_51 ?_
            refine tI (nI_add _ _) ?_
            refine wI hx hb hK hW 1 rfl (k := i) (by omega) (by omega) dX3_lead_52 (fun H locs hW => ?_)
            have hW : Wd D A s [(y0, .inr (3, [.ref y1, .ref y2, .int (nI (i))])), (y1, .inl (cy 0, 10, .inl (upd fx i (nI (fi + (lft nu)))))), (y2, .inl (cy 0, 10, .inl (cx)))] H locs := hW
            refine lv_aload_n hx hb dX3_lead_53 rfl (lv_at hl 1 rfl) ?_
            refine va_get (D := D) (ci := 3) (v := .ref y2) (C := RX3) (T := TX3) (N := 3) hx hb hts i_X3_lead_X3 hown hK hW.1 0 rfl rfl 1 (by decide) (hts (.fieldLink RX3 13 "TreeHashes$Way" "otherChunks" "[I") f_X3_lead_3) (fun _ h9 => h9) rfl dX3_lead_54 ?_
            refine lv_aload_n hx hb dX3_lead_57 rfl (lv_at hl 1 rfl) ?_
            refine va_get (D := D) (ci := 3) (v := .int (nI (i))) (C := RX3) (T := TX3) (N := 3) hx hb hts i_X3_lead_X3 hown hK hW.1 0 rfl rfl 2 (by decide) (hts (.fieldLink RX3 16 "TreeHashes$Way" "levels" "I") f_X3_lead_0) (fun _ h9 => h9) rfl dX3_lead_58 ?_
            refine lv_iload hx hb dX3_lead_61 (lv_at hl 5 rfl) ?_
            refine lv_iload hx hb dX3_lead_63 (lv_at hl 0 rfl) ?_
            refine lv_isub hx hb dX3_lead_65 ?_
            refine tI (pk_sub (by omega)) ?_
            refine wI hx hb hK hW 2 rfl (k := i) (by omega) (by omega) dX3_lead_66 (fun H locs hW => ?_)
            have hW : Wd D A s [(y0, .inr (3, [.ref y1, .ref y2, .int (nI (i))])), (y1, .inl (cy 0, 10, .inl (upd fx i (nI (fi + (lft nu)))))), (y2, .inl (cy 0, 10, .inl (upd cx i (nI (nu - (lft nu))))))] H locs := hW
            refine lv_iload hx hb dX3_lead_67 (lv_at hl 0 rfl) ?_
            refine lv_istore (lv' := [(4, .int (nI (lft nu))), (5, .int (nI (lft nu))), (0, .ref y0), (1, .int (nI (n))), (2, .int (nI (c0))), (3, .int (nI (fi)))]) hx hb dX3_lead_69 hl (by decide) rfl (fun ls hl => ?_)
            refine lv_goto (tgt := 107) hx hb dX3_lead_71 (by decide) ?_
            refine lv_aload_n hx hb dX3_lead_107 rfl (lv_at hl 2 rfl) ?_
            refine lv_dup hx hb dX3_lead_108 rfl ?_
            refine va_get (D := D) (ci := 3) (v := .int (nI (i))) (C := RX3) (T := TX3) (N := 3) hx hb hts i_X3_lead_X3 hown hK hW.1 0 rfl rfl 2 (by decide) (hts (.fieldLink RX3 16 "TreeHashes$Way" "levels" "I") f_X3_lead_0) (fun _ h9 => h9) rfl dX3_lead_109 ?_
            refine lv_iconst (v := nI (1)) hx hb dX3_lead_112 (by decide) ?_
            refine lv_iadd hx hb dX3_lead_113 ?_
            refine tI (nI_add _ _) ?_
            refine va_put (D := D) (ci := 3) (v := .int (nI (i + 1))) (ty := .int) (C := RX3) (T := TX3) (N := 3) hx hb hts i_X3_lead_X3 tyX3 tyX3_ok nmX3 hown hK hW.1 hW.2.1 hW.2.2 0 rfl rfl 2 (by decide) (hts (.fieldLink RX3 16 "TreeHashes$Way" "levels" "I") f_X3_lead_0) (fun _ h9 => h9) rfl (by decide +kernel) rfl rfl (Nat.le_of_ble_eq_true rfl) dX3_lead_114 (fun H locs hP hD hS => ?_)
            have hW : Wd D A s [(y0, .inr (3, [.ref y1, .ref y2, .int (nI (i + 1))])), (y1, .inl (cy 0, 10, .inl (upd fx i (nI (fi + (lft nu)))))), (y2, .inl (cy 0, 10, .inl (upd cx i (nI (nu - (lft nu))))))] H locs := ⟨hP, hD, hS⟩
            refine lv_goto (tgt := 10) hx hb dX3_lead_117 (by decide) ?_
            obtain ⟨e1, e2, e3⟩ := wyS_l hst2 h37
            exact ih10 (i + 1) fi (lft nu) (upd fx i (nI (fi + (lft nu)))) (upd cx i (nI (nu - (lft nu)))) (by omega) (by omega) (e1) (by intro j hj; rcases Nat.lt_succ_iff_lt_or_eq.mp hj with q | q; (exact hlt j q); (rw [q, hst2]; exact h13)) (by intro j hj; rcases Nat.lt_succ_iff_lt_or_eq.mp hj with q | q; (rw [pk_un (by omega), pk_un (by omega)]; exact harr j q); (rw [q, pk_us, pk_us, e2, e3]; exact ⟨rfl, rfl⟩)) _ _ hW _ (lv_sub hl [2, 3, 4, 5, 0] rfl)
  exact loop10 _ 0 0 n of oc (Nat.lt_succ_self _) (by omega) (rfl) (lt_0) (lt_0) _ _ hW _ (lv_sub hl [2, 3, 4, 1, 0] rfl)
