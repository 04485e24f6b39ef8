theorem f_X0_hasRoomFor_0 : Cond.fieldLink RX0 15 "TreeHashes$Bytes" "row" "[B" ∈ wsX0_hasRoomFor := by decide +kernel
theorem i_X0_hasRoomFor_X0 : ∀ w ∈ wsX00, w ∈ wsX0_hasRoomFor := by decide +kernel
theorem f_X0_hasRoomFor_2 : Cond.fieldLink RX0 21 "TreeHashes$Bytes" "count" "I" ∈ wsX0_hasRoomFor := by decide +kernel
set_option maxHeartbeats 4000000 in
set_option maxRecDepth 100000 in
theorem c_X0_hasRoomFor (l : Launch) (D : va_G) (cy : Nat → ClassId) (t : Nat × Nat) (a0 : Nat) (a1 : Nat) (n0 : Nat) (cnt : Nat) (f : Nat → Int32) (x : Int32) (hc : cnt ≤ n0) (hn : n0 < 2 ^ 31) (sz : Nat) : Met l yX0_hasRoomFor wsX0_hasRoomFor ({ frames := 0, cells := 0, slots := 0, locals := 0 }) (PcW D cy t [(a0, .inr (0, [.ref a1, .int (nI (cnt))])), (a1, .inl (cy 1, n0, .inl (f)))] [.ref a0, .int (x)] sz) (QiA D cy (fun (r : Int32) (u : Unit) => (r = if x ≤ nI (n0 - cnt) then (1 : Int32) else 0)) (fun u : Unit => [(a0, .inr (0, [.ref a1, .int (nI (cnt))])), (a1, .inl (cy 1, n0, .inl (f)))]) (va_A [(a0, .inr (0, [.ref a1, .int (nI (cnt))])), (a1, .inl (cy 1, n0, .inl (f)))] sz)) 0 0 (va_A [(a0, .inr (0, [.ref a1, .int (nI (cnt))])), (a1, .inl (cy 1, n0, .inl (f)))] sz) := by
  refine M_ofW (cc := cX0_hasRoomFor) (maxL := 2) (ret := (some .boolean)) (by decide) rfl (Nat.le_of_ble_eq_true rfl) ?_
  intro p e s m below meth c A ls args Q hQ S0 hr hlocks hnm hK hst hA hW hl
  have hx := S0.1; have hb := S0.2.1; have hml := S0.2.2.1; have hown := S0.2.2.2.1; have hts := S0.2.2.2.2
  have hl : lv_has ls 2 [(0, .ref a0), (1, .int (x))] := hl
  refine lv_iload_n hx hb dX0_hasRoomFor_0 rfl (lv_at hl 1 rfl) ?_
  refine lv_aload_n hx hb dX0_hasRoomFor_1 rfl (lv_at hl 0 rfl) ?_
  refine va_get (D := D) (ci := 0) (v := .ref a1) (C := RX0) (T := TX0) (N := 2) hx hb hts i_X0_hasRoomFor_X0 hown hK hW.1 0 rfl rfl 0 (by decide) (hts (.fieldLink RX0 15 "TreeHashes$Bytes" "row" "[B") f_X0_hasRoomFor_0) (fun _ h9 => h9) rfl dX0_hasRoomFor_2 ?_
  refine alI hx hb hK hW 1 1 (ci := 1) rfl rfl dX0_hasRoomFor_5 ?_
  refine lv_aload_n hx hb dX0_hasRoomFor_6 rfl (lv_at hl 0 rfl) ?_
  refine va_get (D := D) (ci := 0) (v := .int (nI (cnt))) (C := RX0) (T := TX0) (N := 2) hx hb hts i_X0_hasRoomFor_X0 hown hK hW.1 0 rfl rfl 1 (by decide) (hts (.fieldLink RX0 21 "TreeHashes$Bytes" "count" "I") f_X0_hasRoomFor_2) (fun _ h9 => h9) rfl dX0_hasRoomFor_7 ?_
  refine lv_isub hx hb dX0_hasRoomFor_10 ?_
  refine tI (pk_sub (by omega)) ?_
  refine lv_icmp_gt (tgt := 18) hx hb dX0_hasRoomFor_11 (by decide) (fun h11 => ?_) (fun h11 => ?_)
  · skip
    refine lv_iconst (v := nI (0)) hx hb dX0_hasRoomFor_18 (by decide) ?_
    exact eZ hQ hx hb hr hlocks hK hW () ((if_neg (Int32.not_le.mpr h11)).symm) (rfl) (by decide) dX0_hasRoomFor_19
  · skip
    refine lv_iconst (v := nI (1)) hx hb dX0_hasRoomFor_14 (by decide) ?_
    refine lv_goto (tgt := 19) hx hb dX0_hasRoomFor_15 (by decide) ?_
    exact eZ hQ hx hb hr hlocks hK hW () ((if_pos (Int32.not_lt.mp h11)).symm) (rfl) (by decide) dX0_hasRoomFor_19

theorem f_X0_byteAt_0 : Cond.fieldLink RX0 21 "TreeHashes$Bytes" "count" "I" ∈ wsX0_byteAt := by decide +kernel
theorem i_X0_byteAt_X0 : ∀ w ∈ wsX00, w ∈ wsX0_byteAt := by decide +kernel
theorem f_X0_byteAt_2 : Cond.fieldLink RX0 15 "TreeHashes$Bytes" "row" "[B" ∈ wsX0_byteAt := by decide +kernel
set_option maxHeartbeats 4000000 in
set_option maxRecDepth 100000 in
theorem c_X0_byteAt (l : Launch) (D : va_G) (cy : Nat → ClassId) (t : Nat × Nat) (a0 : Nat) (a1 : Nat) (n0 : Nat) (cnt : Nat) (f : Nat → Int32) (i : Int32) (hc : cnt ≤ n0) (hn : n0 < 2 ^ 31) (sz : Nat) : Met l yX0_byteAt wsX0_byteAt ({ frames := 0, cells := 0, slots := 0, locals := 0 }) (PcW D cy t [(a0, .inr (0, [.ref a1, .int (nI (cnt))])), (a1, .inl (cy 1, n0, .inl (f)))] [.ref a0, .int (i)] sz) (QiA D cy (fun (r : Int32) (u : Unit) => (r = byt f cnt i)) (fun u : Unit => [(a0, .inr (0, [.ref a1, .int (nI (cnt))])), (a1, .inl (cy 1, n0, .inl (f)))]) (va_A [(a0, .inr (0, [.ref a1, .int (nI (cnt))])), (a1, .inl (cy 1, n0, .inl (f)))] sz)) 0 0 (va_A [(a0, .inr (0, [.ref a1, .int (nI (cnt))])), (a1, .inl (cy 1, n0, .inl (f)))] sz) := by
  refine M_ofW (cc := cX0_byteAt) (maxL := 2) (ret := (some .int)) (by decide) rfl (Nat.le_of_ble_eq_true rfl) ?_
  intro p e s m below meth c A ls args Q hQ S0 hr hlocks hnm hK hst hA hW hl
  have hx := S0.1; have hb := S0.2.1; have hml := S0.2.2.1; have hown := S0.2.2.2.1; have hts := S0.2.2.2.2
  have hl : lv_has ls 2 [(0, .ref a0), (1, .int (i))] := hl
  refine lv_iload_n hx hb dX0_byteAt_0 rfl (lv_at hl 1 rfl) ?_
  refine lv_if_lt (tgt := 25) hx hb dX0_byteAt_1 (by decide) (fun h1 => ?_) (fun h1 => ?_)
  · skip
    refine lv_iconst (v := (-1 : Int32)) hx hb dX0_byteAt_25 (by decide) ?_
    exact eI hQ hx hb hr hlocks hK hW () ((byt_neg h1).symm) (rfl) dX0_byteAt_26
  · skip
    refine lv_iload_n hx hb dX0_byteAt_4 rfl (lv_at hl 1 rfl) ?_
    refine lv_aload_n hx hb dX0_byteAt_5 rfl (lv_at hl 0 rfl) ?_
    refine va_get (D := D) (ci := 0) (v := .int (nI (cnt))) (C := RX0) (T := TX0) (N := 2) hx hb hts i_X0_byteAt_X0 hown hK hW.1 0 rfl rfl 1 (by decide) (hts (.fieldLink RX0 21 "TreeHashes$Bytes" "count" "I") f_X0_byteAt_0) (fun _ h9 => h9) rfl dX0_byteAt_6 ?_
    refine lv_icmp_ge (tgt := 25) hx hb dX0_byteAt_9 (by decide) (fun h9 => ?_) (fun h9 => ?_)
    · skip
      refine lv_iconst (v := (-1 : Int32)) hx hb dX0_byteAt_25 (by decide) ?_
      exact eI hQ hx hb hr hlocks hK hW () ((byt_out h9).symm) (rfl) dX0_byteAt_26
    · skip
      obtain ⟨j, hj, ej⟩ := ix_lt h1 h9 (by omega)
      subst ej
      refine lv_aload_n hx hb dX0_byteAt_12 rfl (lv_at hl 0 rfl) ?_
      refine va_get (D := D) (ci := 0) (v := .ref a1) (C := RX0) (T := TX0) (N := 2) hx hb hts i_X0_byteAt_X0 hown hK hW.1 0 rfl rfl 0 (by decide) (hts (.fieldLink RX0 15 "TreeHashes$Bytes" "row" "[B") f_X0_byteAt_2) (fun _ h9 => h9) rfl dX0_byteAt_13 ?_
      refine lv_iload_n hx hb dX0_byteAt_16 rfl (lv_at hl 1 rfl) ?_
      refine rB hx hb hK hW 1 rfl (k := j) (by omega) (by omega) dX0_byteAt_17 ?_
      refine lv_sipush (v := nI (255)) hx hb dX0_byteAt_18 (by decide) ?_
      refine lv_iand hx hb dX0_byteAt_21 ?_
      refine lv_goto (tgt := 26) hx hb dX0_byteAt_22 (by decide) ?_
      exact eI hQ hx hb hr hlocks hK hW () ((byt_in hj (by omega)).symm) (rfl) dX0_byteAt_26

theorem f_X0_append_0 : Cond.fieldLink RX0 21 "TreeHashes$Bytes" "count" "I" ∈ wsX0_append := by decide +kernel
theorem i_X0_append_X0 : ∀ w ∈ wsX00, w ∈ wsX0_append := by decide +kernel
theorem f_X0_append_2 : Cond.fieldLink RX0 15 "TreeHashes$Bytes" "row" "[B" ∈ wsX0_append := by decide +kernel
set_option maxHeartbeats 4000000 in
set_option maxRecDepth 100000 in
theorem c_X0_append (l : Launch) (D : va_G) (cy : Nat → ClassId) (t : Nat × Nat) (a0 : Nat) (a1 : Nat) (n0 : Nat) (cnt : Nat) (f : Nat → Int32) (x : Int32) (hc : cnt < n0) (hn : n0 < 2 ^ 31) (sz : Nat) : Met l yX0_append wsX0_append ({ frames := 0, cells := 0, slots := 0, locals := 0 }) (PcW D cy t [(a0, .inr (0, [.ref a1, .int (nI (cnt))])), (a1, .inl (cy 1, n0, .inl (f)))] [.ref a0, .int (x)] sz) (QvA D cy (fun u : Unit => True) (fun u : Unit => [(a0, .inr (0, [.ref a1, .int (nI (cnt + 1))])), (a1, .inl (cy 1, n0, .inl (upd f cnt (b8 x))))]) (va_A [(a0, .inr (0, [.ref a1, .int (nI (cnt))])), (a1, .inl (cy 1, n0, .inl (f)))] sz)) 0 0 (va_A [(a0, .inr (0, [.ref a1, .int (nI (cnt))])), (a1, .inl (cy 1, n0, .inl (f)))] sz) := by
  refine M_ofW (cc := cX0_append) (maxL := 2) (ret := none) (by decide) rfl (Nat.le_of_ble_eq_true rfl) ?_
  intro p e s m below meth c A ls args Q hQ S0 hr hlocks hnm hK hst hA hW hl
  have hx := S0.1; have hb := S0.2.1; have hml := S0.2.2.1; have hown := S0.2.2.2.1; have hts := S0.2.2.2.2
  have hl : lv_has ls 2 [(0, .ref a0), (1, .int (x))] := hl
  refine lv_aload_n hx hb dX0_append_0 rfl (lv_at hl 0 rfl) ?_
  refine va_get (D := D) (ci := 0) (v := .int (nI (cnt))) (C := RX0) (T := TX0) (N := 2) hx hb hts i_X0_append_X0 hown hK hW.1 0 rfl rfl 1 (by decide) (hts (.fieldLink RX0 21 "TreeHashes$Bytes" "count" "I") f_X0_append_0) (fun _ h9 => h9) rfl dX0_append_1 ?_
  refine lv_aload_n hx hb dX0_append_4 rfl (lv_at hl 0 rfl) ?_
  refine va_get (D := D) (ci := 0) (v := .ref a1) (C := RX0) (T := TX0) (N := 2) hx hb hts i_X0_append_X0 hown hK hW.1 0 rfl rfl 0 (by decide) (hts (.fieldLink RX0 15 "TreeHashes$Bytes" "row" "[B") f_X0_append_2) (fun _ h9 => h9) rfl dX0_append_5 ?_
  refine alI hx hb hK hW 1 1 (ci := 1) rfl rfl dX0_append_8 ?_
  refine iGe (a := cnt) (b := n0) (tgt := 33) hx hb dX0_append_9 (by decide) (by omega) (by omega) (fun h9 => ?_) (fun h9 => ?_)
  · skip
    exfalso; omega
  · skip
    refine lv_aload_n hx hb dX0_append_12 rfl (lv_at hl 0 rfl) ?_
    refine va_get (D := D) (ci := 0) (v := .ref a1) (C := RX0) (T := TX0) (N := 2) hx hb hts i_X0_append_X0 hown hK hW.1 0 rfl rfl 0 (by decide) (hts (.fieldLink RX0 15 "TreeHashes$Bytes" "row" "[B") f_X0_append_2) (fun _ h9 => h9) rfl dX0_append_13 ?_
    refine lv_aload_n hx hb dX0_append_16 rfl (lv_at hl 0 rfl) ?_
    refine va_get (D := D) (ci := 0) (v := .int (nI (cnt))) (C := RX0) (T := TX0) (N := 2) hx hb hts i_X0_append_X0 hown hK hW.1 0 rfl rfl 1 (by decide) (hts (.fieldLink RX0 21 "TreeHashes$Bytes" "count" "I") f_X0_append_0) (fun _ h9 => h9) rfl dX0_append_17 ?_
    refine lv_iload_n hx hb dX0_append_20 rfl (lv_at hl 1 rfl) ?_
    refine lv_i2b hx hb dX0_append_21 rfl ?_
    refine tI (x' := b8 x) (rfl) ?_
    refine wB hx hb hK hW 1 rfl (k := cnt) (by omega) (by omega) (b8_nar _) dX0_append_22 (fun H locs hW => ?_)
    have hW : Wd D A s [(a0, .inr (0, [.ref a1, .int (nI (cnt))])), (a1, .inl (cy 1, n0, .inl (upd f cnt (b8 x))))] H locs := hW
    refine lv_aload_n hx hb dX0_append_23 rfl (lv_at hl 0 rfl) ?_
    refine lv_dup hx hb dX0_append_24 rfl ?_
    refine va_get (D := D) (ci := 0) (v := .int (nI (cnt))) (C := RX0) (T := TX0) (N := 2) hx hb hts i_X0_append_X0 hown hK hW.1 0 rfl rfl 1 (by decide) (hts (.fieldLink RX0 21 "TreeHashes$Bytes" "count" "I") f_X0_append_0) (fun _ h9 => h9) rfl dX0_append_25 ?_
    refine lv_iconst (v := nI (1)) hx hb dX0_append_28 (by decide) ?_
    refine lv_iadd hx hb dX0_append_29 ?_
    refine tI (nI_add _ _) ?_
    refine va_put (D := D) (ci := 0) (v := .int (nI (cnt + 1))) (ty := .int) (C := RX0) (T := TX0) (N := 2) hx hb hts i_X0_append_X0 tyX0 tyX0_ok nmX0 hown hK hW.1 hW.2.1 hW.2.2 0 rfl rfl 1 (by decide) (hts (.fieldLink RX0 21 "TreeHashes$Bytes" "count" "I") f_X0_append_0) (fun _ h9 => h9) rfl (by decide +kernel) rfl rfl (Nat.le_of_ble_eq_true rfl) dX0_append_30 (fun H locs hP hD hS => ?_)
    have hW : Wd D A s [(a0, .inr (0, [.ref a1, .int (nI (cnt + 1))])), (a1, .inl (cy 1, n0, .inl (upd f cnt (b8 x))))] H locs := ⟨hP, hD, hS⟩
    exact eV hQ hx hb hr hlocks hK hW () (trivial) (rfl) dX0_append_33

set_option maxHeartbeats 4000000 in
set_option maxRecDepth 100000 in
theorem c_X0_appendChain (l : Launch) (D : va_G) (cy : Nat → ClassId) (t : Nat × Nat) (a0 : Nat) (a1 : Nat) (n0 : Nat) (cnt : Nat) (f : Nat → Int32) (b0 : Nat) (w : Nat → Int32) (hc : cnt + 32 ≤ n0) (hn : n0 < 2 ^ 31) (sz : Nat) : Met l yX0_appendChain wsX0_appendChain ({ frames := 1, cells := 0, slots := 0, locals := 21 }) (PcW D cy t [(a0, .inr (0, [.ref a1, .int (nI (cnt))])), (a1, .inl (cy 1, n0, .inl (f))), (b0, .inl (cy 0, 8, .inl (w)))] [.ref a0, .ref b0] sz) (QvA D cy (fun u : Unit => True) (fun u : Unit => [(a0, .inr (0, [.ref a1, .int (nI (cnt + 32))])), (a1, .inl (cy 1, n0, .inl (apG f cnt (fun k => b8 (wby w k)) 32))), (b0, .inl (cy 0, 8, .inl (w)))]) (va_A [(a0, .inr (0, [.ref a1, .int (nI (cnt))])), (a1, .inl (cy 1, n0, .inl (f))), (b0, .inl (cy 0, 8, .inl (w)))] sz)) 0 0 (va_A [(a0, .inr (0, [.ref a1, .int (nI (cnt))])), (a1, .inl (cy 1, n0, .inl (f))), (b0, .inl (cy 0, 8, .inl (w)))] sz) := by
  refine M_ofW (cc := cX0_appendChain) (maxL := 3) (ret := none) (by decide) rfl (Nat.le_of_ble_eq_true rfl) ?_
  intro p e s m below meth c A ls args Q hQ S0 hr hlocks hnm hK hst hA hW hl
  have hx := S0.1; have hb := S0.2.1; have hml := S0.2.2.1; have hown := S0.2.2.2.1; have hts := S0.2.2.2.2
  have hl : lv_has ls 3 [(0, .ref a0), (1, .ref b0)] := hl
  refine lv_iconst (v := nI (0)) hx hb dX0_appendChain_0 (by decide) ?_
  refine lv_istore_n (lv' := [(2, .int (nI (0))), (0, .ref a0), (1, .ref b0)]) hx hb dX0_appendChain_1 rfl hl (by decide) rfl (fun ls hl => ?_)
  have loop2 : ∀ (nF : Nat) (i : Nat), 32 - i < nF → (i ≤ 32) → ∀ (H : Heap) (locs : List Loc), Wd D A s [(a0, .inr (0, [.ref a1, .int (nI (cnt + i))])), (a1, .inl (cy 1, n0, .inl (apG f cnt (fun k => b8 (wby w k)) i))), (b0, .inl (cy 0, 8, .inl (w)))] H locs → ∀ ls : Array Slot, lv_has ls 3 [(0, .ref a0), (1, .ref b0), (2, .int (nI (i)))] → W p l e ({ frames := 1, cells := 0, slots := 0, locals := 21 }) s m args below meth c H locs 0 0 Q (F0 m 2 ls []) := by
    intro nF
    induction nF with
    | zero => intro i hf; exact absurd hf (Nat.not_lt_zero _)
    | succ nF ih2 =>
      intro i hf hi H locs hW ls hl
      refine lv_iload_n hx hb dX0_appendChain_2 rfl (lv_at hl 2 rfl) ?_
      refine lv_iconst (v := nI (4)) hx hb dX0_appendChain_3 (by decide) ?_
      refine lv_aload_n hx hb dX0_appendChain_4 rfl (lv_at hl 1 rfl) ?_
      refine alI hx hb hK hW 2 0 (ci := 0) rfl rfl dX0_appendChain_5 ?_
      refine lv_imul hx hb dX0_appendChain_6 ?_
      refine tI (pk_mul _ _) ?_
      refine iGe (a := i) (b := 4 * 8) (tgt := 32) hx hb dX0_appendChain_7 (by decide) (by omega) (by omega) (fun h7 => ?_) (fun h7 => ?_)
      · skip
        obtain rfl : i = 32 := by omega
        exact eV hQ hx hb hr hlocks hK hW () (trivial) (rfl) dX0_appendChain_32
      · skip
        refine lv_aload_n hx hb dX0_appendChain_10 rfl (lv_at hl 0 rfl) ?_
        refine lv_aload_n hx hb dX0_appendChain_11 rfl (lv_at hl 1 rfl) ?_
        refine lv_iload_n hx hb dX0_appendChain_12 rfl (lv_at hl 2 rfl) ?_
        refine lv_iconst (v := nI (2)) hx hb dX0_appendChain_13 (by decide) ?_
        refine lv_ishr hx hb dX0_appendChain_14 ?_
        refine tI (x' := nI (i / 2 ^ 2)) (pk_shrN (by omega) _ 2 (by decide)) ?_
        refine rI hx hb hK hW 2 rfl (k := i / 2 ^ 2) (by omega) (by omega) dX0_appendChain_15 ?_
        refine lv_bipush (v := nI (8)) hx hb dX0_appendChain_16 (by decide) ?_
        refine lv_iload_n hx hb dX0_appendChain_18 rfl (lv_at hl 2 rfl) ?_
        refine lv_iconst (v := nI (3)) hx hb dX0_appendChain_19 (by decide) ?_
        refine lv_iand hx hb dX0_appendChain_20 ?_
        refine tI (x' := nI (i % 2 ^ 2)) (pk_andN (by omega) 2 (by decide)) ?_
        refine lv_imul hx hb dX0_appendChain_21 ?_
        refine tI (pk_mul _ _) ?_
        refine lv_iushr hx hb dX0_appendChain_22 rfl ?_
        refine tI (x' := wby w i) (rfl) ?_
        refine kVv (As := [.int (wby w i)]) (rest := []) S0 hK hst hA hW [0, 1] (fun sz => c_X0_append l D cy t a0 a1 n0 (cnt + i) (apG f cnt (fun k => b8 (wby w k)) i) (wby w i) (by omega) (by omega) sz) rfl (by decide) (cwV 1 hts gX0_appendChain_X0_append rfl rfl rfl (by decide +kernel) ⟨Nat.le_of_ble_eq_true rfl, Nat.le_of_ble_eq_true rfl⟩) (fun _ => rfl) 0 0 rfl rfl rfl hl.1 rfl (Nat.le_of_ble_eq_true rfl) dX0_appendChain_23 ⟨Nat.le_of_ble_eq_true rfl, Nat.le_of_ble_eq_true rfl⟩ (fun u23 H locs p23 hW => ?_)
        have hW : Wd D A s [(a0, .inr (0, [.ref a1, .int (nI ((cnt + i) + 1))])), (a1, .inl (cy 1, n0, .inl (upd (apG f cnt (fun k => b8 (wby w k)) i) (cnt + i) (b8 (wby w i))))), (b0, .inl (cy 0, 8, .inl (w)))] H locs := hW
        rw [show (upd (apG f cnt (fun k => b8 (wby w k)) i) (cnt + i) (b8 (wby w i))) = (apG f cnt (fun k => b8 (wby w k)) (i + 1)) from apG_s f cnt (fun k => b8 (wby w k)) i] at hW
        have hW : Wd D A s [(a0, .inr (0, [.ref a1, .int (nI ((cnt + i) + 1))])), (a1, .inl (cy 1, n0, .inl (apG f cnt (fun k => b8 (wby w k)) (i + 1)))), (b0, .inl (cy 0, 8, .inl (w)))] H locs := hW
        refine lv_iinc (v := nI (i + 1)) (lv' := [(2, .int (nI (i + 1))), (0, .ref a0), (1, .ref b0)]) hx hb dX0_appendChain_26 hl (k := 2) rfl (nI_1 _) (by decide) rfl (fun ls hl => ?_)
        refine lv_goto (tgt := 2) hx hb dX0_appendChain_29 (by decide) ?_
        exact ih2 (i + 1) (by omega) (by omega) _ _ hW _ (lv_sub hl [1, 2, 0] rfl)
  rw [← apG_0 f cnt (fun k => b8 (wby w k))] at hW
  exact loop2 _ 0 (Nat.lt_succ_self _) (by omega) _ _ hW _ (lv_sub hl [1, 2, 0] rfl)

set_option maxHeartbeats 4000000 in
set_option maxRecDepth 100000 in
theorem c_X0_appendFrom (l : Launch) (D : va_G) (cy : Nat → ClassId) (t : Nat × Nat) (a0 : Nat) (a1 : Nat) (n0 : Nat) (cnt : Nat) (f : Nat → Int32) (b0 : Nat) (b1 : Nat) (m0 : Nat) (oc : Nat) (g : Nat → Int32) (k0 : Nat) (n : Nat) (hc : cnt + n ≤ n0) (hn : n0 < 2 ^ 31) (ho : oc ≤ m0) (hm : m0 < 2 ^ 31) (hk : k0 + n ≤ oc) (sz : Nat) : Met l yX0_appendFrom wsX0_appendFrom ({ frames := 1, cells := 0, slots := 0, locals := 21 }) (PcW D cy t [(a0, .inr (0, [.ref a1, .int (nI (cnt))])), (a1, .inl (cy 1, n0, .inl (f))), (b0, .inr (0, [.ref b1, .int (nI (oc))])), (b1, .inl (cy 1, m0, .inl (g)))] [.ref a0, .ref b0, .int (nI (k0)), .int (nI (n))] sz) (QvA D cy (fun u : Unit => True) (fun u : Unit => [(a0, .inr (0, [.ref a1, .int (nI (cnt + n))])), (a1, .inl (cy 1, n0, .inl (apG f cnt (fun k => b8 (g (k0 + k) &&& 255)) n))), (b0, .inr (0, [.ref b1, .int (nI (oc))])), (b1, .inl (cy 1, m0, .inl (g)))]) (va_A [(a0, .inr (0, [.ref a1, .int (nI (cnt))])), (a1, .inl (cy 1, n0, .inl (f))), (b0, .inr (0, [.ref b1, .int (nI (oc))])), (b1, .inl (cy 1, m0, .inl (g)))] sz)) 0 0 (va_A [(a0, .inr (0, [.ref a1, .int (nI (cnt))])), (a1, .inl (cy 1, n0, .inl (f))), (b0, .inr (0, [.ref b1, .int (nI (oc))])), (b1, .inl (cy 1, m0, .inl (g)))] sz) := by
  refine M_ofW (cc := cX0_appendFrom) (maxL := 5) (ret := none) (by decide) rfl (Nat.le_of_ble_eq_true rfl) ?_
  intro p e s m below meth c A ls args Q hQ S0 hr hlocks hnm hK hst hA hW hl
  have hx := S0.1; have hb := S0.2.1; have hml := S0.2.2.1; have hown := S0.2.2.2.1; have hts := S0.2.2.2.2
  have hl : lv_has ls 5 [(0, .ref a0), (1, .ref b0), (2, .int (nI (k0))), (3, .int (nI (n)))] := hl
  refine lv_iconst (v := nI (0)) hx hb dX0_appendFrom_0 (by decide) ?_
  refine lv_istore (lv' := [(4, .int (nI (0))), (0, .ref a0), (1, .ref b0), (2, .int (nI (k0))), (3, .int (nI (n)))]) hx hb dX0_appendFrom_1 hl (by decide) rfl (fun ls hl => ?_)
  have loop3 : ∀ (nF : Nat) (i : Nat), n - i < nF → (i ≤ n) → ∀ (H : Heap) (locs : List Loc), Wd D A s [(a0, .inr (0, [.ref a1, .int (nI (cnt + i))])), (a1, .inl (cy 1, n0, .inl (apG f cnt (fun k => b8 (g (k0 + k) &&& 255)) i))), (b0, .inr (0, [.ref b1, .int (nI (oc))])), (b1, .inl (cy 1, m0, .inl (g)))] H locs → ∀ ls : Array Slot, lv_has ls 5 [(0, .ref a0), (1, .ref b0), (2, .int (nI (k0))), (3, .int (nI (n))), (4, .int (nI (i)))] → W p l e ({ frames := 1, cells := 0, slots := 0, locals := 21 }) s m args below meth c H locs 0 0 Q (F0 m 3 ls []) := by
    intro nF
    induction nF with
    | zero => intro i hf; exact absurd hf (Nat.not_lt_zero _)
    | succ nF ih3 =>
      intro i hf hi H locs hW ls hl
      refine lv_iload hx hb dX0_appendFrom_3 (lv_at hl 4 rfl) ?_
      refine lv_iload_n hx hb dX0_appendFrom_5 rfl (lv_at hl 3 rfl) ?_
      refine iGe (a := i) (b := n) (tgt := 27) hx hb dX0_appendFrom_6 (by decide) (by omega) (by omega) (fun h6 => ?_) (fun h6 => ?_)
      · skip
        obtain rfl : i = n := by omega
        exact eV hQ hx hb hr hlocks hK hW () (trivial) (rfl) dX0_appendFrom_27
      · skip
        refine lv_aload_n hx hb dX0_appendFrom_9 rfl (lv_at hl 0 rfl) ?_
        refine lv_aload_n hx hb dX0_appendFrom_10 rfl (lv_at hl 1 rfl) ?_
        refine lv_iload_n hx hb dX0_appendFrom_11 rfl (lv_at hl 2 rfl) ?_
        refine lv_iload hx hb dX0_appendFrom_12 (lv_at hl 4 rfl) ?_
        refine lv_iadd hx hb dX0_appendFrom_14 ?_
        refine tI (nI_add _ _) ?_
        refine kVi (As := [.int (nI (k0 + i))]) (rest := [.ref a0]) S0 hK hst hA hW [2, 3] (fun sz => c_X0_byteAt l D cy t b0 b1 m0 oc g (nI (k0 + i)) (by omega) (by omega) sz) rfl (by decide) (cwV 1 hts gX0_appendFrom_X0_byteAt rfl rfl rfl (by decide +kernel) ⟨Nat.le_of_ble_eq_true rfl, Nat.le_of_ble_eq_true rfl⟩) (fun _ => rfl) 0 0 rfl rfl rfl hl.1 rfl (Nat.le_of_ble_eq_true rfl) dX0_appendFrom_15 ⟨Nat.le_of_ble_eq_true rfl, Nat.le_of_ble_eq_true rfl⟩ (fun r15 u15 H locs p15 hW => ?_)
        have hW : Wd D A s [(a0, .inr (0, [.ref a1, .int (nI (cnt + i))])), (a1, .inl (cy 1, n0, .inl (apG f cnt (fun k => b8 (g (k0 + k) &&& 255)) i))), (b0, .inr (0, [.ref b1, .int (nI (oc))])), (b1, .inl (cy 1, m0, .inl (g)))] H locs := hW
        have q15 : r15 = byt g oc (nI (k0 + i)) := p15
        subst q15
        refine tI (x' := g (k0 + i) &&& 255) (byt_in (by omega) (by omega)) ?_
        refine kVv (As := [.int (g (k0 + i) &&& 255)]) (rest := []) S0 hK hst hA hW [0, 1] (fun sz => c_X0_append l D cy t a0 a1 n0 (cnt + i) (apG f cnt (fun k => b8 (g (k0 + k) &&& 255)) i) (g (k0 + i) &&& 255) (by omega) (by omega) sz) rfl (by decide) (cwV 1 hts gX0_appendFrom_X0_append rfl rfl rfl (by decide +kernel) ⟨Nat.le_of_ble_eq_true rfl, Nat.le_of_ble_eq_true rfl⟩) (fun _ => rfl) 0 0 rfl rfl rfl hl.1 rfl (Nat.le_of_ble_eq_true rfl) dX0_appendFrom_18 ⟨Nat.le_of_ble_eq_true rfl, Nat.le_of_ble_eq_true rfl⟩ (fun u18 H locs p18 hW => ?_)
        have hW : Wd D A s [(a0, .inr (0, [.ref a1, .int (nI ((cnt + i) + 1))])), (a1, .inl (cy 1, n0, .inl (upd (apG f cnt (fun k => b8 (g (k0 + k) &&& 255)) i) (cnt + i) (b8 (g (k0 + i) &&& 255))))), (b0, .inr (0, [.ref b1, .int (nI (oc))])), (b1, .inl (cy 1, m0, .inl (g)))] H locs := hW
        rw [show (upd (apG f cnt (fun k => b8 (g (k0 + k) &&& 255)) i) (cnt + i) (b8 (g (k0 + i) &&& 255))) = (apG f cnt (fun k => b8 (g (k0 + k) &&& 255)) (i + 1)) from apG_s f cnt (fun k => b8 (g (k0 + k) &&& 255)) i] at hW
        have hW : Wd D A s [(a0, .inr (0, [.ref a1, .int (nI ((cnt + i) + 1))])), (a1, .inl (cy 1, n0, .inl (apG f cnt (fun k => b8 (g (k0 + k) &&& 255)) (i + 1)))), (b0, .inr (0, [.ref b1, .int (nI (oc))])), (b1, .inl (cy 1, m0, .inl (g)))] H locs := hW
        refine lv_iinc (v := nI (i + 1)) (lv' := [(4, .int (nI (i + 1))), (0, .ref a0), (1, .ref b0), (2, .int (nI (k0))), (3, .int (nI (n)))]) hx hb dX0_appendFrom_21 hl (k := 4) rfl (nI_1 _) (by decide) rfl (fun ls hl => ?_)
        refine lv_goto (tgt := 3) hx hb dX0_appendFrom_24 (by decide) ?_
        exact ih3 (i + 1) (by omega) (by omega) _ _ hW _ (lv_sub hl [1, 2, 3, 4, 0] rfl)
  rw [← apG_0 f cnt (fun k => b8 (g (k0 + k) &&& 255))] at hW
  exact loop3 _ 0 (Nat.lt_succ_self _) (by omega) _ _ hW _ (lv_sub hl [1, 2, 3, 4, 0] rfl)

theorem f_X0_keepFirst_n_0 : Cond.fieldLink RX0 21 "TreeHashes$Bytes" "count" "I" ∈ wsX0_keepFirst := by decide +kernel
theorem i_X0_keepFirst_n_X0 : ∀ w ∈ wsX00, w ∈ wsX0_keepFirst := by decide +kernel
set_option maxHeartbeats 4000000 in
set_option maxRecDepth 100000 in
theorem c_X0_keepFirst_n (l : Launch) (D : va_G) (cy : Nat → ClassId) (t : Nat × Nat) (a0 : Nat) (a1 : Nat) (n0 : Nat) (cnt : Nat) (f : Nat → Int32) (x : Nat) (hc : cnt ≤ n0) (hn : n0 < 2 ^ 31) (hx0 : x ≤ cnt) (sz : Nat) : Met l yX0_keepFirst wsX0_keepFirst ({ frames := 0, cells := 0, slots := 0, locals := 0 }) (PcW D cy t [(a0, .inr (0, [.ref a1, .int (nI (cnt))])), (a1, .inl (cy 1, n0, .inl (f)))] [.ref a0, .int (nI (x))] sz) (QiA D cy (fun (r : Int32) (u : Unit) => (r = nI (cnt - x))) (fun u : Unit => [(a0, .inr (0, [.ref a1, .int (nI (x))])), (a1, .inl (cy 1, n0, .inl (f)))]) (va_A [(a0, .inr (0, [.ref a1, .int (nI (cnt))])), (a1, .inl (cy 1, n0, .inl (f)))] sz)) 0 0 (va_A [(a0, .inr (0, [.ref a1, .int (nI (cnt))])), (a1, .inl (cy 1, n0, .inl (f)))] sz) := by
  refine M_ofW (cc := cX0_keepFirst) (maxL := 3) (ret := (some .int)) (by decide) rfl (Nat.le_of_ble_eq_true rfl) ?_
  intro p e s m below meth c A ls args Q hQ S0 hr hlocks hnm hK hst hA hW hl
  have hx := S0.1; have hb := S0.2.1; have hml := S0.2.2.1; have hown := S0.2.2.2.1; have hts := S0.2.2.2.2
  have hl : lv_has ls 3 [(0, .ref a0), (1, .int (nI (x)))] := hl
  refine lv_iload_n hx hb dX0_keepFirst_0 rfl (lv_at hl 1 rfl) ?_
  refine zLt (a := x) (tgt := 12) hx hb dX0_keepFirst_1 (by decide) (by omega) ?_
  refine lv_iload_n hx hb dX0_keepFirst_4 rfl (lv_at hl 1 rfl) ?_
  refine lv_aload_n hx hb dX0_keepFirst_5 rfl (lv_at hl 0 rfl) ?_
  refine va_get (D := D) (ci := 0) (v := .int (nI (cnt))) (C := RX0) (T := TX0) (N := 2) hx hb hts i_X0_keepFirst_n_X0 hown hK hW.1 0 rfl rfl 1 (by decide) (hts (.fieldLink RX0 21 "TreeHashes$Bytes" "count" "I") f_X0_keepFirst_n_0) (fun _ h9 => h9) rfl dX0_keepFirst_6 ?_
  refine iLe (a := x) (b := cnt) (tgt := 15) hx hb dX0_keepFirst_9 (by decide) (by omega) (by omega) (fun h9 => ?_) (fun h9 => ?_)
  · skip
    refine lv_aload_n hx hb dX0_keepFirst_15 rfl (lv_at hl 0 rfl) ?_
    refine va_get (D := D) (ci := 0) (v := .int (nI (cnt))) (C := RX0) (T := TX0) (N := 2) hx hb hts i_X0_keepFirst_n_X0 hown hK hW.1 0 rfl rfl 1 (by decide) (hts (.fieldLink RX0 21 "TreeHashes$Bytes" "count" "I") f_X0_keepFirst_n_0) (fun _ h9 => h9) rfl dX0_keepFirst_16 ?_
    refine lv_iload_n hx hb dX0_keepFirst_19 rfl (lv_at hl 1 rfl) ?_
    refine lv_isub hx hb dX0_keepFirst_20 ?_
    refine tI (pk_sub (by omega)) ?_
    refine lv_istore_n (lv' := [(2, .int (nI (cnt - x))), (0, .ref a0), (1, .int (nI (x)))]) hx hb dX0_keepFirst_21 rfl hl (by decide) rfl (fun ls hl => ?_)
    refine lv_aload_n hx hb dX0_keepFirst_22 rfl (lv_at hl 1 rfl) ?_
    refine lv_iload_n hx hb dX0_keepFirst_23 rfl (lv_at hl 2 rfl) ?_
    refine va_put (D := D) (ci := 0) (v := .int (nI (x))) (ty := .int) (C := RX0) (T := TX0) (N := 2) hx hb hts i_X0_keepFirst_n_X0 tyX0 tyX0_ok nmX0 hown hK hW.1 hW.2.1 hW.2.2 0 rfl rfl 1 (by decide) (hts (.fieldLink RX0 21 "TreeHashes$Bytes" "count" "I") f_X0_keepFirst_n_0) (fun _ h9 => h9) rfl (by decide +kernel) rfl rfl (Nat.le_of_ble_eq_true rfl) dX0_keepFirst_24 (fun H locs hP hD hS => ?_)
    have hW : Wd D A s [(a0, .inr (0, [.ref a1, .int (nI (x))])), (a1, .inl (cy 1, n0, .inl (f)))] H locs := ⟨hP, hD, hS⟩
    refine lv_iload_n hx hb dX0_keepFirst_27 rfl (lv_at hl 0 rfl) ?_
    exact eI hQ hx hb hr hlocks hK hW () (rfl) (rfl) dX0_keepFirst_28
  · skip
    exfalso; omega

theorem f_X0_keepFirst_b_0 : Cond.fieldLink RX0 21 "TreeHashes$Bytes" "count" "I" ∈ wsX0_keepFirst := by decide +kernel
theorem i_X0_keepFirst_b_X0 : ∀ w ∈ wsX00, w ∈ wsX0_keepFirst := by decide +kernel
set_option maxHeartbeats 4000000 in
set_option maxRecDepth 100000 in
theorem c_X0_keepFirst_b (l : Launch) (D : va_G) (cy : Nat → ClassId) (t : Nat × Nat) (a0 : Nat) (a1 : Nat) (n0 : Nat) (cnt : Nat) (f : Nat → Int32) (x : Int32) (hc : cnt ≤ n0) (hn : n0 < 2 ^ 31) (hbd : x < 0 ∨ nI cnt < x) (sz : Nat) : Met l yX0_keepFirst wsX0_keepFirst ({ frames := 0, cells := 0, slots := 0, locals := 0 }) (PcW D cy t [(a0, .inr (0, [.ref a1, .int (nI (cnt))])), (a1, .inl (cy 1, n0, .inl (f)))] [.ref a0, .int (x)] sz) (QiA D cy (fun (r : Int32) (u : Unit) => (r = (-2 : Int32))) (fun u : Unit => [(a0, .inr (0, [.ref a1, .int (nI (cnt))])), (a1, .inl (cy 1, n0, .inl (f)))]) (va_A [(a0, .inr (0, [.ref a1, .int (nI (cnt))])), (a1, .inl (cy 1, n0, .inl (f)))] sz)) 0 0 (va_A [(a0, .inr (0, [.ref a1, .int (nI (cnt))])), (a1, .inl (cy 1, n0, .inl (f)))] sz) := by
  refine M_ofW (cc := cX0_keepFirst) (maxL := 3) (ret := (some .int)) (by decide) rfl (Nat.le_of_ble_eq_true rfl) ?_
  intro p e s m below meth c A ls args Q hQ S0 hr hlocks hnm hK hst hA hW hl
  have hx := S0.1; have hb := S0.2.1; have hml := S0.2.2.1; have hown := S0.2.2.2.1; have hts := S0.2.2.2.2
  have hl : lv_has ls 3 [(0, .ref a0), (1, .int (x))] := hl
  refine lv_iload_n hx hb dX0_keepFirst_0 rfl (lv_at hl 1 rfl) ?_
  refine lv_if_lt (tgt := 12) hx hb dX0_keepFirst_1 (by decide) (fun h1 => ?_) (fun h1 => ?_)
  · skip
    refine lv_bipush (v := (-2 : Int32)) hx hb dX0_keepFirst_12 (by decide) ?_
    exact eI hQ hx hb hr hlocks hK hW () (rfl) (rfl) dX0_keepFirst_14
  · skip
    refine lv_iload_n hx hb dX0_keepFirst_4 rfl (lv_at hl 1 rfl) ?_
    refine lv_aload_n hx hb dX0_keepFirst_5 rfl (lv_at hl 0 rfl) ?_
    refine va_get (D := D) (ci := 0) (v := .int (nI (cnt))) (C := RX0) (T := TX0) (N := 2) hx hb hts i_X0_keepFirst_b_X0 hown hK hW.1 0 rfl rfl 1 (by decide) (hts (.fieldLink RX0 21 "TreeHashes$Bytes" "count" "I") f_X0_keepFirst_b_0) (fun _ h9 => h9) rfl dX0_keepFirst_6 ?_
    refine lv_icmp_le (tgt := 15) hx hb dX0_keepFirst_9 (by decide) (fun h9 => ?_) (fun h9 => ?_)
    · skip
      exact hbd.elim (fun q => absurd q h1) (fun q => absurd h9 (Int32.not_le.mpr q))
    · skip
      refine lv_bipush (v := (-2 : Int32)) hx hb dX0_keepFirst_12 (by decide) ?_
      exact eI hQ hx hb hr hlocks hK hW () (rfl) (rfl) dX0_keepFirst_14

theorem f_X0_change_0 : Cond.fieldLink RX0 21 "TreeHashes$Bytes" "count" "I" ∈ wsX0_change := by decide +kernel
theorem i_X0_change_X0 : ∀ w ∈ wsX00, w ∈ wsX0_change := by decide +kernel
theorem f_X0_change_2 : Cond.fieldLink RX0 15 "TreeHashes$Bytes" "row" "[B" ∈ wsX0_change := by decide +kernel
set_option maxHeartbeats 4000000 in
set_option maxRecDepth 100000 in
theorem c_X0_change (l : Launch) (D : va_G) (cy : Nat → ClassId) (t : Nat × Nat) (a0 : Nat) (a1 : Nat) (n0 : Nat) (cnt : Nat) (f : Nat → Int32) (i : Nat) (k : Nat) (hc : cnt ≤ n0) (hn : n0 < 2 ^ 31) (hi : i < cnt) (hk : k ≤ 255) (sz : Nat) : Met l yX0_change wsX0_change ({ frames := 0, cells := 0, slots := 0, locals := 0 }) (PcW D cy t [(a0, .inr (0, [.ref a1, .int (nI (cnt))])), (a1, .inl (cy 1, n0, .inl (f)))] [.ref a0, .int (nI (i)), .int (nI (k))] sz) (QiA D cy (fun (r : Int32) (u : Unit) => (r = b8 (f i ^^^ nI k) &&& 255)) (fun u : Unit => [(a0, .inr (0, [.ref a1, .int (nI (cnt))])), (a1, .inl (cy 1, n0, .inl (upd f i (b8 (f i ^^^ nI k)))))]) (va_A [(a0, .inr (0, [.ref a1, .int (nI (cnt))])), (a1, .inl (cy 1, n0, .inl (f)))] sz)) 0 0 (va_A [(a0, .inr (0, [.ref a1, .int (nI (cnt))])), (a1, .inl (cy 1, n0, .inl (f)))] sz) := by
  refine M_ofW (cc := cX0_change) (maxL := 3) (ret := (some .int)) (by decide) rfl (Nat.le_of_ble_eq_true rfl) ?_
  intro p e s m below meth c A ls args Q hQ S0 hr hlocks hnm hK hst hA hW hl
  have hx := S0.1; have hb := S0.2.1; have hml := S0.2.2.1; have hown := S0.2.2.2.1; have hts := S0.2.2.2.2
  have hl : lv_has ls 3 [(0, .ref a0), (1, .int (nI (i))), (2, .int (nI (k)))] := hl
  refine lv_iload_n hx hb dX0_change_0 rfl (lv_at hl 1 rfl) ?_
  refine zLt (a := i) (tgt := 23) hx hb dX0_change_1 (by decide) (by omega) ?_
  refine lv_iload_n hx hb dX0_change_4 rfl (lv_at hl 1 rfl) ?_
  refine lv_aload_n hx hb dX0_change_5 rfl (lv_at hl 0 rfl) ?_
  refine va_get (D := D) (ci := 0) (v := .int (nI (cnt))) (C := RX0) (T := TX0) (N := 2) hx hb hts i_X0_change_X0 hown hK hW.1 0 rfl rfl 1 (by decide) (hts (.fieldLink RX0 21 "TreeHashes$Bytes" "count" "I") f_X0_change_0) (fun _ h9 => h9) rfl dX0_change_6 ?_
  refine iGe (a := i) (b := cnt) (tgt := 23) hx hb dX0_change_9 (by decide) (by omega) (by omega) (fun h9 => ?_) (fun h9 => ?_)
  · skip
    exfalso; omega
  · skip
    refine lv_iload_n hx hb dX0_change_12 rfl (lv_at hl 2 rfl) ?_
    refine zLt (a := k) (tgt := 23) hx hb dX0_change_13 (by decide) (by omega) ?_
    refine lv_iload_n hx hb dX0_change_16 rfl (lv_at hl 2 rfl) ?_
    refine lv_sipush (v := nI (255)) hx hb dX0_change_17 (by decide) ?_
    refine iLe (a := k) (b := 255) (tgt := 26) hx hb dX0_change_20 (by decide) (by omega) (by omega) (fun h20 => ?_) (fun h20 => ?_)
    · skip
      refine lv_aload_n hx hb dX0_change_26 rfl (lv_at hl 0 rfl) ?_
      refine va_get (D := D) (ci := 0) (v := .ref a1) (C := RX0) (T := TX0) (N := 2) hx hb hts i_X0_change_X0 hown hK hW.1 0 rfl rfl 0 (by decide) (hts (.fieldLink RX0 15 "TreeHashes$Bytes" "row" "[B") f_X0_change_2) (fun _ h9 => h9) rfl dX0_change_27 ?_
      refine lv_iload_n hx hb dX0_change_30 rfl (lv_at hl 1 rfl) ?_
      refine lv_aload_n hx hb dX0_change_31 rfl (lv_at hl 0 rfl) ?_
      refine va_get (D := D) (ci := 0) (v := .ref a1) (C := RX0) (T := TX0) (N := 2) hx hb hts i_X0_change_X0 hown hK hW.1 0 rfl rfl 0 (by decide) (hts (.fieldLink RX0 15 "TreeHashes$Bytes" "row" "[B") f_X0_change_2) (fun _ h9 => h9) rfl dX0_change_32 ?_
      refine lv_iload_n hx hb dX0_change_35 rfl (lv_at hl 1 rfl) ?_
      refine rB hx hb hK hW 1 rfl (k := i) (by omega) (by omega) dX0_change_36 ?_
      refine lv_iload_n hx hb dX0_change_37 rfl (lv_at hl 2 rfl) ?_
      refine lv_ixor hx hb dX0_change_38 ?_
      refine lv_i2b hx hb dX0_change_39 rfl ?_
      refine tI (x' := b8 (f i ^^^ nI k)) (rfl) ?_
      refine wB hx hb hK hW 1 rfl (k := i) (by omega) (by omega) (b8_nar _) dX0_change_40 (fun H locs hW => ?_)
      have hW : Wd D A s [(a0, .inr (0, [.ref a1, .int (nI (cnt))])), (a1, .inl (cy 1, n0, .inl (upd f i (b8 (f i ^^^ nI k)))))] H locs := hW
      refine lv_aload_n hx hb dX0_change_41 rfl (lv_at hl 0 rfl) ?_
      refine va_get (D := D) (ci := 0) (v := .ref a1) (C := RX0) (T := TX0) (N := 2) hx hb hts i_X0_change_X0 hown hK hW.1 0 rfl rfl 0 (by decide) (hts (.fieldLink RX0 15 "TreeHashes$Bytes" "row" "[B") f_X0_change_2) (fun _ h9 => h9) rfl dX0_change_42 ?_
      refine lv_iload_n hx hb dX0_change_45 rfl (lv_at hl 1 rfl) ?_
      refine rB hx hb hK hW 1 rfl (k := i) (by omega) (by omega) dX0_change_46 ?_
      refine tI (x' := b8 (f i ^^^ nI k)) (pk_us) ?_
      refine lv_sipush (v := nI (255)) hx hb dX0_change_47 (by decide) ?_
      refine lv_iand hx hb dX0_change_50 ?_
      exact eI hQ hx hb hr hlocks hK hW () (rfl) (rfl) dX0_change_51
    · skip
      exfalso; omega

theorem f_X0_change_b_0 : Cond.fieldLink RX0 21 "TreeHashes$Bytes" "count" "I" ∈ wsX0_change := by decide +kernel
theorem i_X0_change_b_X0 : ∀ w ∈ wsX00, w ∈ wsX0_change := by decide +kernel
set_option maxHeartbeats 4000000 in
set_option maxRecDepth 100000 in
theorem c_X0_change_b (l : Launch) (D : va_G) (cy : Nat → ClassId) (t : Nat × Nat) (a0 : Nat) (a1 : Nat) (n0 : Nat) (cnt : Nat) (f : Nat → Int32) (x : Int32) (y : Int32) (hc : cnt ≤ n0) (hn : n0 < 2 ^ 31) (hbd : x < 0 ∨ nI cnt ≤ x ∨ y < 0 ∨ nI 255 < y) (sz : Nat) : Met l yX0_change wsX0_change ({ frames := 0, cells := 0, slots := 0, locals := 0 }) (PcW D cy t [(a0, .inr (0, [.ref a1, .int (nI (cnt))])), (a1, .inl (cy 1, n0, .inl (f)))] [.ref a0, .int (x), .int (y)] sz) (QiA D cy (fun (r : Int32) (u : Unit) => (r = (-2 : Int32))) (fun u : Unit => [(a0, .inr (0, [.ref a1, .int (nI (cnt))])), (a1, .inl (cy 1, n0, .inl (f)))]) (va_A [(a0, .inr (0, [.ref a1, .int (nI (cnt))])), (a1, .inl (cy 1, n0, .inl (f)))] sz)) 0 0 (va_A [(a0, .inr (0, [.ref a1, .int (nI (cnt))])), (a1, .inl (cy 1, n0, .inl (f)))] sz) := by
  refine M_ofW (cc := cX0_change) (maxL := 3) (ret := (some .int)) (by decide) rfl (Nat.le_of_ble_eq_true rfl) ?_
  intro p e s m below meth c A ls args Q hQ S0 hr hlocks hnm hK hst hA hW hl
  have hx := S0.1; have hb := S0.2.1; have hml := S0.2.2.1; have hown := S0.2.2.2.1; have hts := S0.2.2.2.2
  have hl : lv_has ls 3 [(0, .ref a0), (1, .int (x)), (2, .int (y))] := hl
  refine lv_iload_n hx hb dX0_change_0 rfl (lv_at hl 1 rfl) ?_
  refine lv_if_lt (tgt := 23) hx hb dX0_change_1 (by decide) (fun h1 => ?_) (fun h1 => ?_)
  · skip
    refine lv_bipush (v := (-2 : Int32)) hx hb dX0_change_23 (by decide) ?_
    exact eI hQ hx hb hr hlocks hK hW () (rfl) (rfl) dX0_change_25
  · skip
    refine lv_iload_n hx hb dX0_change_4 rfl (lv_at hl 1 rfl) ?_
    refine lv_aload_n hx hb dX0_change_5 rfl (lv_at hl 0 rfl) ?_
    refine va_get (D := D) (ci := 0) (v := .int (nI (cnt))) (C := RX0) (T := TX0) (N := 2) hx hb hts i_X0_change_b_X0 hown hK hW.1 0 rfl rfl 1 (by decide) (hts (.fieldLink RX0 21 "TreeHashes$Bytes" "count" "I") f_X0_change_b_0) (fun _ h9 => h9) rfl dX0_change_6 ?_
    refine lv_icmp_ge (tgt := 23) hx hb dX0_change_9 (by decide) (fun h9 => ?_) (fun h9 => ?_)
    · skip
      refine lv_bipush (v := (-2 : Int32)) hx hb dX0_change_23 (by decide) ?_
      exact eI hQ hx hb hr hlocks hK hW () (rfl) (rfl) dX0_change_25
    · skip
      refine lv_iload_n hx hb dX0_change_12 rfl (lv_at hl 2 rfl) ?_
      refine lv_if_lt (tgt := 23) hx hb dX0_change_13 (by decide) (fun h13 => ?_) (fun h13 => ?_)
      · skip
        refine lv_bipush (v := (-2 : Int32)) hx hb dX0_change_23 (by decide) ?_
        exact eI hQ hx hb hr hlocks hK hW () (rfl) (rfl) dX0_change_25
      · skip
        refine lv_iload_n hx hb dX0_change_16 rfl (lv_at hl 2 rfl) ?_
        refine lv_sipush (v := nI (255)) hx hb dX0_change_17 (by decide) ?_
        refine lv_icmp_le (tgt := 26) hx hb dX0_change_20 (by decide) (fun h20 => ?_) (fun h20 => ?_)
        · skip
          exact hbd.elim (fun q => absurd q h1) (fun q => q.elim (fun q => absurd q h9) (fun q => q.elim (fun q => absurd q h13) (fun q => absurd h20 (Int32.not_le.mpr q))))
        · skip
          refine lv_bipush (v := (-2 : Int32)) hx hb dX0_change_23 (by decide) ?_
          exact eI hQ hx hb hr hlocks hK hW () (rfl) (rfl) dX0_change_25

set_option maxHeartbeats 4000000 in
set_option maxRecDepth 100000 in
theorem c_X0_wordAt (l : Launch) (D : va_G) (cy : Nat → ClassId) (t : Nat × Nat) (a0 : Nat) (a1 : Nat) (n0 : Nat) (cnt : Nat) (f : Nat → Int32) (i : Nat) (hc : cnt ≤ n0) (hn : n0 < 2 ^ 31) (hi : i + 4 ≤ cnt) (sz : Nat) : Met l yX0_wordAt wsX0_wordAt ({ frames := 1, cells := 0, slots := 0, locals := 21 }) (PcW D cy t [(a0, .inr (0, [.ref a1, .int (nI (cnt))])), (a1, .inl (cy 1, n0, .inl (f)))] [.ref a0, .int (nI (i))] sz) (QiA D cy (fun (r : Int32) (u : Unit) => (r = wrd (lo8 f) i)) (fun u : Unit => [(a0, .inr (0, [.ref a1, .int (nI (cnt))])), (a1, .inl (cy 1, n0, .inl (f)))]) (va_A [(a0, .inr (0, [.ref a1, .int (nI (cnt))])), (a1, .inl (cy 1, n0, .inl (f)))] sz)) 0 0 (va_A [(a0, .inr (0, [.ref a1, .int (nI (cnt))])), (a1, .inl (cy 1, n0, .inl (f)))] sz) := by
  refine M_ofW (cc := cX0_wordAt) (maxL := 2) (ret := (some .int)) (by decide) rfl (Nat.le_of_ble_eq_true rfl) ?_
  intro p e s m below meth c A ls args Q hQ S0 hr hlocks hnm hK hst hA hW hl
  have hx := S0.1; have hb := S0.2.1; have hml := S0.2.2.1; have hown := S0.2.2.2.1; have hts := S0.2.2.2.2
  have hl : lv_has ls 2 [(0, .ref a0), (1, .int (nI (i)))] := hl
  refine lv_aload_n hx hb dX0_wordAt_0 rfl (lv_at hl 0 rfl) ?_
  refine lv_iload_n hx hb dX0_wordAt_1 rfl (lv_at hl 1 rfl) ?_
  refine kVi (As := [.int (nI (i))]) (rest := []) S0 hK hst hA hW [0, 1] (fun sz => c_X0_byteAt l D cy t a0 a1 n0 cnt f (nI (i)) (by omega) (by omega) sz) rfl (by decide) (cwV 1 hts gX0_wordAt_X0_byteAt rfl rfl rfl (by decide +kernel) ⟨Nat.le_of_ble_eq_true rfl, Nat.le_of_ble_eq_true rfl⟩) (fun _ => rfl) 0 0 rfl rfl rfl hl.1 rfl (Nat.le_of_ble_eq_true rfl) dX0_wordAt_2 ⟨Nat.le_of_ble_eq_true rfl, Nat.le_of_ble_eq_true rfl⟩ (fun r2 u2 H locs p2 hW => ?_)
  have hW : Wd D A s [(a0, .inr (0, [.ref a1, .int (nI (cnt))])), (a1, .inl (cy 1, n0, .inl (f)))] H locs := hW
  have q2 : r2 = byt f cnt (nI (i)) := p2
  subst q2
  refine tI (x' := lo8 f i) (byt_in (by omega) (by omega)) ?_
  refine lv_aload_n hx hb dX0_wordAt_5 rfl (lv_at hl 0 rfl) ?_
  refine lv_iload_n hx hb dX0_wordAt_6 rfl (lv_at hl 1 rfl) ?_
  refine lv_iconst (v := nI (1)) hx hb dX0_wordAt_7 (by decide) ?_
  refine lv_iadd hx hb dX0_wordAt_8 ?_
  refine tI (nI_add _ _) ?_
  refine kVi (As := [.int (nI (i + 1))]) (rest := [.int (lo8 f i)]) S0 hK hst hA hW [0, 1] (fun sz => c_X0_byteAt l D cy t a0 a1 n0 cnt f (nI (i + 1)) (by omega) (by omega) sz) rfl (by decide) (cwV 1 hts gX0_wordAt_X0_byteAt rfl rfl rfl (by decide +kernel) ⟨Nat.le_of_ble_eq_true rfl, Nat.le_of_ble_eq_true rfl⟩) (fun _ => rfl) 0 0 rfl rfl rfl hl.1 rfl (Nat.le_of_ble_eq_true rfl) dX0_wordAt_9 ⟨Nat.le_of_ble_eq_true rfl, Nat.le_of_ble_eq_true rfl⟩ (fun r9 u9 H locs p9 hW => ?_)
  have hW : Wd D A s [(a0, .inr (0, [.ref a1, .int (nI (cnt))])), (a1, .inl (cy 1, n0, .inl (f)))] H locs := hW
  have q9 : r9 = byt f cnt (nI (i + 1)) := p9
  subst q9
  refine tI (x' := lo8 f (i + 1)) (byt_in (by omega) (by omega)) ?_
  refine lv_bipush (v := nI (8)) hx hb dX0_wordAt_12 (by decide) ?_
  refine lv_ishl hx hb dX0_wordAt_14 ?_
  refine lv_ior hx hb dX0_wordAt_15 ?_
  refine lv_aload_n hx hb dX0_wordAt_16 rfl (lv_at hl 0 rfl) ?_
  refine lv_iload_n hx hb dX0_wordAt_17 rfl (lv_at hl 1 rfl) ?_
  refine lv_iconst (v := nI (2)) hx hb dX0_wordAt_18 (by decide) ?_
  refine lv_iadd hx hb dX0_wordAt_19 ?_
  refine tI (nI_add _ _) ?_
  refine kVi (As := [.int (nI (i + 2))]) (rest := [.int ((lo8 f i) ||| ((lo8 f (i + 1)) <<< ((nI (8)) &&& 31)))]) S0 hK hst hA hW [0, 1] (fun sz => c_X0_byteAt l D cy t a0 a1 n0 cnt f (nI (i + 2)) (by omega) (by omega) sz) rfl (by decide) (cwV 1 hts gX0_wordAt_X0_byteAt rfl rfl rfl (by decide +kernel) ⟨Nat.le_of_ble_eq_true rfl, Nat.le_of_ble_eq_true rfl⟩) (fun _ => rfl) 0 0 rfl rfl rfl hl.1 rfl (Nat.le_of_ble_eq_true rfl) dX0_wordAt_20 ⟨Nat.le_of_ble_eq_true rfl, Nat.le_of_ble_eq_true rfl⟩ (fun r20 u20 H locs p20 hW => ?_)
  have hW : Wd D A s [(a0, .inr (0, [.ref a1, .int (nI (cnt))])), (a1, .inl (cy 1, n0, .inl (f)))] H locs := hW
  have q20 : r20 = byt f cnt (nI (i + 2)) := p20
  subst q20
  refine tI (x' := lo8 f (i + 2)) (byt_in (by omega) (by omega)) ?_
  refine lv_bipush (v := nI (16)) hx hb dX0_wordAt_23 (by decide) ?_
  refine lv_ishl hx hb dX0_wordAt_25 ?_
  refine lv_ior hx hb dX0_wordAt_26 ?_
  refine lv_aload_n hx hb dX0_wordAt_27 rfl (lv_at hl 0 rfl) ?_
  refine lv_iload_n hx hb dX0_wordAt_28 rfl (lv_at hl 1 rfl) ?_
  refine lv_iconst (v := nI (3)) hx hb dX0_wordAt_29 (by decide) ?_
  refine lv_iadd hx hb dX0_wordAt_30 ?_
  refine tI (nI_add _ _) ?_
  refine kVi (As := [.int (nI (i + 3))]) (rest := [.int (((lo8 f i) ||| ((lo8 f (i + 1)) <<< ((nI (8)) &&& 31))) ||| ((lo8 f (i + 2)) <<< ((nI (16)) &&& 31)))]) S0 hK hst hA hW [0, 1] (fun sz => c_X0_byteAt l D cy t a0 a1 n0 cnt f (nI (i + 3)) (by omega) (by omega) sz) rfl (by decide) (cwV 1 hts gX0_wordAt_X0_byteAt rfl rfl rfl (by decide +kernel) ⟨Nat.le_of_ble_eq_true rfl, Nat.le_of_ble_eq_true rfl⟩) (fun _ => rfl) 0 0 rfl rfl rfl hl.1 rfl (Nat.le_of_ble_eq_true rfl) dX0_wordAt_31 ⟨Nat.le_of_ble_eq_true rfl, Nat.le_of_ble_eq_true rfl⟩ (fun r31 u31 H locs p31 hW => ?_)
  have hW : Wd D A s [(a0, .inr (0, [.ref a1, .int (nI (cnt))])), (a1, .inl (cy 1, n0, .inl (f)))] H locs := hW
  have q31 : r31 = byt f cnt (nI (i + 3)) := p31
  subst q31
  refine tI (x' := lo8 f (i + 3)) (byt_in (by omega) (by omega)) ?_
  refine lv_bipush (v := nI (24)) hx hb dX0_wordAt_34 (by decide) ?_
  refine lv_ishl hx hb dX0_wordAt_36 ?_
  refine lv_ior hx hb dX0_wordAt_37 ?_
  exact eI hQ hx hb hr hlocks hK hW () (rfl) (rfl) dX0_wordAt_38

set_option maxHeartbeats 4000000 in
set_option maxRecDepth 100000 in
theorem c_X0_readChain (l : Launch) (D : va_G) (cy : Nat → ClassId) (t : Nat × Nat) (a0 : Nat) (a1 : Nat) (n0 : Nat) (cnt : Nat) (f : Nat → Int32) (k0 : Nat) (b0 : Nat) (w : Nat → Int32) (hc : cnt ≤ n0) (hn : n0 < 2 ^ 31) (hi : k0 + 32 ≤ cnt) (sz : Nat) : Met l yX0_readChain wsX0_readChain ({ frames := 2, cells := 0, slots := 0, locals := 42 }) (PcW D cy t [(a0, .inr (0, [.ref a1, .int (nI (cnt))])), (a1, .inl (cy 1, n0, .inl (f))), (b0, .inl (cy 0, 8, .inl (w)))] [.ref a0, .int (nI (k0)), .ref b0] sz) (QvA D cy (fun u : Unit => True) (fun u : Unit => [(a0, .inr (0, [.ref a1, .int (nI (cnt))])), (a1, .inl (cy 1, n0, .inl (f))), (b0, .inl (cy 0, 8, .inl (apG w 0 (fun k => wrd (lo8 f) (k0 + 4 * k)) 8)))]) (va_A [(a0, .inr (0, [.ref a1, .int (nI (cnt))])), (a1, .inl (cy 1, n0, .inl (f))), (b0, .inl (cy 0, 8, .inl (w)))] sz)) 0 0 (va_A [(a0, .inr (0, [.ref a1, .int (nI (cnt))])), (a1, .inl (cy 1, n0, .inl (f))), (b0, .inl (cy 0, 8, .inl (w)))] sz) := by
  refine M_ofW (cc := cX0_readChain) (maxL := 4) (ret := none) (by decide) rfl (Nat.le_of_ble_eq_true rfl) ?_
  intro p e s m below meth c A ls args Q hQ S0 hr hlocks hnm hK hst hA hW hl
  have hx := S0.1; have hb := S0.2.1; have hml := S0.2.2.1; have hown := S0.2.2.2.1; have hts := S0.2.2.2.2
  have hl : lv_has ls 4 [(0, .ref a0), (1, .int (nI (k0))), (2, .ref b0)] := hl
  refine lv_iconst (v := nI (0)) hx hb dX0_readChain_0 (by decide) ?_
  refine lv_istore_n (lv' := [(3, .int (nI (0))), (0, .ref a0), (1, .int (nI (k0))), (2, .ref b0)]) hx hb dX0_readChain_1 rfl hl (by decide) rfl (fun ls hl => ?_)
  have loop2 : ∀ (nF : Nat) (i : Nat), 8 - i < nF → (i ≤ 8) → ∀ (H : Heap) (locs : List Loc), Wd D A s [(a0, .inr (0, [.ref a1, .int (nI (cnt))])), (a1, .inl (cy 1, n0, .inl (f))), (b0, .inl (cy 0, 8, .inl (apG w 0 (fun k => wrd (lo8 f) (k0 + 4 * k)) i)))] H locs → ∀ ls : Array Slot, lv_has ls 4 [(0, .ref a0), (1, .int (nI (k0))), (2, .ref b0), (3, .int (nI (i)))] → W p l e ({ frames := 2, cells := 0, slots := 0, locals := 42 }) s m args below meth c H locs 0 0 Q (F0 m 2 ls []) := by
    intro nF
    induction nF with
    | zero => intro i hf; exact absurd hf (Nat.not_lt_zero _)
    | succ nF ih2 =>
      intro i hf hi2 H locs hW ls hl
      refine lv_iload_n hx hb dX0_readChain_2 rfl (lv_at hl 3 rfl) ?_
      refine lv_bipush (v := nI (8)) hx hb dX0_readChain_3 (by decide) ?_
      refine iGe (a := i) (b := 8) (tgt := 32) hx hb dX0_readChain_5 (by decide) (by omega) (by omega) (fun h5 => ?_) (fun h5 => ?_)
      · skip
        obtain rfl : i = 8 := by omega
        exact eV hQ hx hb hr hlocks hK hW () (trivial) (rfl) dX0_readChain_32
      · skip
        refine lv_iload_n hx hb dX0_readChain_8 rfl (lv_at hl 3 rfl) ?_
        refine lv_aload_n hx hb dX0_readChain_9 rfl (lv_at hl 2 rfl) ?_
        refine alI hx hb hK hW 2 0 (ci := 0) rfl rfl dX0_readChain_10 ?_
        refine iGe (a := i) (b := 8) (tgt := 32) hx hb dX0_readChain_11 (by decide) (by omega) (by omega) (fun h11 => ?_) (fun h11 => ?_)
        · skip
          exfalso; omega
        · skip
          refine lv_aload_n hx hb dX0_readChain_14 rfl (lv_at hl 2 rfl) ?_
          refine lv_iload_n hx hb dX0_readChain_15 rfl (lv_at hl 3 rfl) ?_
          refine lv_aload_n hx hb dX0_readChain_16 rfl (lv_at hl 0 rfl) ?_
          refine lv_iload_n hx hb dX0_readChain_17 rfl (lv_at hl 1 rfl) ?_
          refine lv_iconst (v := nI (4)) hx hb dX0_readChain_18 (by decide) ?_
          refine lv_iload_n hx hb dX0_readChain_19 rfl (lv_at hl 3 rfl) ?_
          refine lv_imul hx hb dX0_readChain_20 ?_
          refine tI (pk_mul _ _) ?_
          refine lv_iadd hx hb dX0_readChain_21 ?_
          refine tI (nI_add _ _) ?_
          refine kVi (As := [.int (nI (k0 + (4 * i)))]) (rest := [.int (nI (i)), .ref b0]) S0 hK hst hA hW [0, 1] (fun sz => c_X0_wordAt l D cy t a0 a1 n0 cnt f (k0 + (4 * i)) (by omega) (by omega) (by omega) sz) rfl (by decide) (cwV 1 hts gX0_readChain_X0_wordAt rfl rfl rfl (by decide +kernel) ⟨Nat.le_of_ble_eq_true rfl, Nat.le_of_ble_eq_true rfl⟩) (fun _ => rfl) 0 0 rfl rfl rfl hl.1 rfl (Nat.le_of_ble_eq_true rfl) dX0_readChain_22 ⟨Nat.le_of_ble_eq_true rfl, Nat.le_of_ble_eq_true rfl⟩ (fun r22 u22 H locs p22 hW => ?_)
          have hW : Wd D A s [(a0, .inr (0, [.ref a1, .int (nI (cnt))])), (a1, .inl (cy 1, n0, .inl (f))), (b0, .inl (cy 0, 8, .inl (apG w 0 (fun k => wrd (lo8 f) (k0 + 4 * k)) i)))] H locs := hW
          have q22 : r22 = wrd (lo8 f) (k0 + (4 * i)) := p22
          subst q22
          refine wI hx hb hK hW 2 rfl (k := i) (by omega) (by omega) dX0_readChain_25 (fun H locs hW => ?_)
          have hW : Wd D A s [(a0, .inr (0, [.ref a1, .int (nI (cnt))])), (a1, .inl (cy 1, n0, .inl (f))), (b0, .inl (cy 0, 8, .inl (upd (apG w 0 (fun k => wrd (lo8 f) (k0 + 4 * k)) i) i (wrd (lo8 f) (k0 + (4 * i))))))] H locs := hW
          rw [show (upd (apG w 0 (fun k => wrd (lo8 f) (k0 + 4 * k)) i) i (wrd (lo8 f) (k0 + (4 * i)))) = (apG w 0 (fun k => wrd (lo8 f) (k0 + 4 * k)) (i + 1)) from by rw [← apG_s w 0 (fun k => wrd (lo8 f) (k0 + 4 * k)) i, Nat.zero_add]] at hW
          have hW : Wd D A s [(a0, .inr (0, [.ref a1, .int (nI (cnt))])), (a1, .inl (cy 1, n0, .inl (f))), (b0, .inl (cy 0, 8, .inl (apG w 0 (fun k => wrd (lo8 f) (k0 + 4 * k)) (i + 1))))] H locs := hW
          refine lv_iinc (v := nI (i + 1)) (lv' := [(3, .int (nI (i + 1))), (0, .ref a0), (1, .int (nI (k0))), (2, .ref b0)]) hx hb dX0_readChain_26 hl (k := 3) rfl (nI_1 _) (by decide) rfl (fun ls hl => ?_)
          refine lv_goto (tgt := 2) hx hb dX0_readChain_29 (by decide) ?_
          exact ih2 (i + 1) (by omega) (by omega) _ _ hW _ (lv_sub hl [1, 2, 3, 0] rfl)
  rw [← apG_0 w 0 (fun k => wrd (lo8 f) (k0 + 4 * k))] at hW
  exact loop2 _ 0 (Nat.lt_succ_self _) (by omega) _ _ hW _ (lv_sub hl [1, 2, 3, 0] rfl)
