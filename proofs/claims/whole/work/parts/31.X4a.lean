set_option maxHeartbeats 4000000 in
set_option maxRecDepth 100000 in
theorem c_X4_isRegister (l : Launch) (D : va_G) (cy : Nat → ClassId) (t : Nat × Nat) (ri : Nat) (hri : ri < 8) (sz : Nat) : Met l yX4_isRegister wsX4_isRegister ({ frames := 0, cells := 0, slots := 0, locals := 0 }) (PcW D cy t [] [.int (nI (ri))] sz) (QiA D cy (fun (r : Int32) (u : Unit) => (r = nI (1))) (fun u : Unit => []) (va_A [] sz)) 0 0 (va_A [] sz) := by
  refine M_ofW (cc := cX4_isRegister) (maxL := 1) (ret := (some .boolean)) (by decide) rfl (Nat.le_of_ble_eq_true rfl) ?_
  intro p e s m below meth c A ls args Q hQ S0 hr hlocks hnm hK hst hA hW hl
  have hx := S0.1; have hb := S0.2.1; have hml := S0.2.2.1; have hown := S0.2.2.2.1; have hts := S0.2.2.2.2
  have hl : lv_has ls 1 [(0, .int (nI (ri)))] := hl
  refine lv_iload_n hx hb dX4_isRegister_0 rfl (lv_at hl 0 rfl) ?_
  refine zLt (a := ri) (tgt := 14) hx hb dX4_isRegister_1 (by decide) (by omega) ?_
  refine lv_iload_n hx hb dX4_isRegister_4 rfl (lv_at hl 0 rfl) ?_
  refine lv_bipush (v := nI (8)) hx hb dX4_isRegister_5 (by decide) ?_
  refine iGe (a := ri) (b := 8) (tgt := 14) hx hb dX4_isRegister_7 (by decide) (by omega) (by omega) (fun h7 => ?_) (fun h7 => ?_)
  · skip
    exfalso; omega
  · skip
    refine lv_iconst (v := nI (1)) hx hb dX4_isRegister_10 (by decide) ?_
    refine lv_goto (tgt := 15) hx hb dX4_isRegister_11 (by decide) ?_
    exact eZ hQ hx hb hr hlocks hK hW () (rfl) (rfl) (by decide) dX4_isRegister_15

set_option maxHeartbeats 4000000 in
set_option maxRecDepth 100000 in
theorem c_X4_isRegister_b (l : Launch) (D : va_G) (cy : Nat → ClassId) (t : Nat × Nat) (x : Int32) (hbd : x < 0 ∨ nI 8 ≤ x) (sz : Nat) : Met l yX4_isRegister wsX4_isRegister ({ frames := 0, cells := 0, slots := 0, locals := 0 }) (PcW D cy t [] [.int (x)] sz) (QiA D cy (fun (r : Int32) (u : Unit) => (r = nI (0))) (fun u : Unit => []) (va_A [] sz)) 0 0 (va_A [] sz) := by
  refine M_ofW (cc := cX4_isRegister) (maxL := 1) (ret := (some .boolean)) (by decide) rfl (Nat.le_of_ble_eq_true rfl) ?_
  intro p e s m below meth c A ls args Q hQ S0 hr hlocks hnm hK hst hA hW hl
  have hx := S0.1; have hb := S0.2.1; have hml := S0.2.2.1; have hown := S0.2.2.2.1; have hts := S0.2.2.2.2
  have hl : lv_has ls 1 [(0, .int (x))] := hl
  refine lv_iload_n hx hb dX4_isRegister_0 rfl (lv_at hl 0 rfl) ?_
  refine lv_if_lt (tgt := 14) hx hb dX4_isRegister_1 (by decide) (fun h1 => ?_) (fun h1 => ?_)
  · skip
    refine lv_iconst (v := nI (0)) hx hb dX4_isRegister_14 (by decide) ?_
    exact eZ hQ hx hb hr hlocks hK hW () (rfl) (rfl) (by decide) dX4_isRegister_15
  · skip
    refine lv_iload_n hx hb dX4_isRegister_4 rfl (lv_at hl 0 rfl) ?_
    refine lv_bipush (v := nI (8)) hx hb dX4_isRegister_5 (by decide) ?_
    refine lv_icmp_ge (tgt := 14) hx hb dX4_isRegister_7 (by decide) (fun h7 => ?_) (fun h7 => ?_)
    · skip
      refine lv_iconst (v := nI (0)) hx hb dX4_isRegister_14 (by decide) ?_
      exact eZ hQ hx hb hr hlocks hK hW () (rfl) (rfl) (by decide) dX4_isRegister_15
    · skip
      exact hbd.elim (fun q => absurd q h1) (fun q => absurd q h7)

set_option maxHeartbeats 4000000 in
set_option maxRecDepth 100000 in
theorem c_X4_isHasher (l : Launch) (D : va_G) (cy : Nat → ClassId) (t : Nat × Nat) (ri : Nat) (hri : ri < 4) (sz : Nat) : Met l yX4_isHasher wsX4_isHasher ({ frames := 0, cells := 0, slots := 0, locals := 0 }) (PcW D cy t [] [.int (nI (ri))] sz) (QiA D cy (fun (r : Int32) (u : Unit) => (r = nI (1))) (fun u : Unit => []) (va_A [] sz)) 0 0 (va_A [] sz) := by
  refine M_ofW (cc := cX4_isHasher) (maxL := 1) (ret := (some .boolean)) (by decide) rfl (Nat.le_of_ble_eq_true rfl) ?_
  intro p e s m below meth c A ls args Q hQ S0 hr hlocks hnm hK hst hA hW hl
  have hx := S0.1; have hb := S0.2.1; have hml := S0.2.2.1; have hown := S0.2.2.2.1; have hts := S0.2.2.2.2
  have hl : lv_has ls 1 [(0, .int (nI (ri)))] := hl
  refine lv_iload_n hx hb dX4_isHasher_0 rfl (lv_at hl 0 rfl) ?_
  refine zLt (a := ri) (tgt := 13) hx hb dX4_isHasher_1 (by decide) (by omega) ?_
  refine lv_iload_n hx hb dX4_isHasher_4 rfl (lv_at hl 0 rfl) ?_
  refine lv_iconst (v := nI (4)) hx hb dX4_isHasher_5 (by decide) ?_
  refine iGe (a := ri) (b := 4) (tgt := 13) hx hb dX4_isHasher_6 (by decide) (by omega) (by omega) (fun h6 => ?_) (fun h6 => ?_)
  · skip
    exfalso; omega
  · skip
    refine lv_iconst (v := nI (1)) hx hb dX4_isHasher_9 (by decide) ?_
    refine lv_goto (tgt := 14) hx hb dX4_isHasher_10 (by decide) ?_
    exact eZ hQ hx hb hr hlocks hK hW () (rfl) (rfl) (by decide) dX4_isHasher_14

set_option maxHeartbeats 4000000 in
set_option maxRecDepth 100000 in
theorem c_X4_isHasher_b (l : Launch) (D : va_G) (cy : Nat → ClassId) (t : Nat × Nat) (x : Int32) (hbd : x < 0 ∨ nI 4 ≤ x) (sz : Nat) : Met l yX4_isHasher wsX4_isHasher ({ frames := 0, cells := 0, slots := 0, locals := 0 }) (PcW D cy t [] [.int (x)] sz) (QiA D cy (fun (r : Int32) (u : Unit) => (r = nI (0))) (fun u : Unit => []) (va_A [] sz)) 0 0 (va_A [] sz) := by
  refine M_ofW (cc := cX4_isHasher) (maxL := 1) (ret := (some .boolean)) (by decide) rfl (Nat.le_of_ble_eq_true rfl) ?_
  intro p e s m below meth c A ls args Q hQ S0 hr hlocks hnm hK hst hA hW hl
  have hx := S0.1; have hb := S0.2.1; have hml := S0.2.2.1; have hown := S0.2.2.2.1; have hts := S0.2.2.2.2
  have hl : lv_has ls 1 [(0, .int (x))] := hl
  refine lv_iload_n hx hb dX4_isHasher_0 rfl (lv_at hl 0 rfl) ?_
  refine lv_if_lt (tgt := 13) hx hb dX4_isHasher_1 (by decide) (fun h1 => ?_) (fun h1 => ?_)
  · skip
    refine lv_iconst (v := nI (0)) hx hb dX4_isHasher_13 (by decide) ?_
    exact eZ hQ hx hb hr hlocks hK hW () (rfl) (rfl) (by decide) dX4_isHasher_14
  · skip
    refine lv_iload_n hx hb dX4_isHasher_4 rfl (lv_at hl 0 rfl) ?_
    refine lv_iconst (v := nI (4)) hx hb dX4_isHasher_5 (by decide) ?_
    refine lv_icmp_ge (tgt := 13) hx hb dX4_isHasher_6 (by decide) (fun h6 => ?_) (fun h6 => ?_)
    · skip
      refine lv_iconst (v := nI (0)) hx hb dX4_isHasher_13 (by decide) ?_
      exact eZ hQ hx hb hr hlocks hK hW () (rfl) (rfl) (by decide) dX4_isHasher_14
    · skip
      exact hbd.elim (fun q => absurd q h1) (fun q => absurd q h6)

set_option maxHeartbeats 4000000 in
set_option maxRecDepth 100000 in
theorem c_X4_chunksOf (l : Launch) (D : va_G) (cy : Nat → ClassId) (t : Nat × Nat) (n : Nat) (hn : n ≤ 1000000) (sz : Nat) : Met l yX4_chunksOf wsX4_chunksOf ({ frames := 0, cells := 0, slots := 0, locals := 0 }) (PcW D cy t [] [.int (nI (n))] sz) (QiA D cy (fun (r : Int32) (u : Unit) => (r = nI (chks n))) (fun u : Unit => []) (va_A [] sz)) 0 0 (va_A [] sz) := by
  refine M_ofW (cc := cX4_chunksOf) (maxL := 1) (ret := (some .int)) (by decide) rfl (Nat.le_of_ble_eq_true rfl) ?_
  intro p e s m below meth c A ls args Q hQ S0 hr hlocks hnm hK hst hA hW hl
  have hx := S0.1; have hb := S0.2.1; have hml := S0.2.2.1; have hown := S0.2.2.2.1; have hts := S0.2.2.2.2
  have hl : lv_has ls 1 [(0, .int (nI (n)))] := hl
  refine lv_iload_n hx hb dX4_chunksOf_0 rfl (lv_at hl 0 rfl) ?_
  refine zNe (a := n) (tgt := 8) hx hb dX4_chunksOf_1 (by decide) (by omega) (fun h1 => ?_) (fun h1 => ?_)
  · skip
    refine lv_iload_n hx hb dX4_chunksOf_8 rfl (lv_at hl 0 rfl) ?_
    refine lv_iconst (v := nI (1)) hx hb dX4_chunksOf_9 (by decide) ?_
    refine lv_isub hx hb dX4_chunksOf_10 ?_
    refine tI (pk_sub (by omega)) ?_
    refine lv_sipush (v := nI (1024)) hx hb dX4_chunksOf_11 (by decide) ?_
    refine lv_idiv hx hb dX4_chunksOf_14 (by decide) ?_
    refine tI (pk_div (by omega) (by omega) (by omega)) ?_
    refine lv_iconst (v := nI (1)) hx hb dX4_chunksOf_15 (by decide) ?_
    refine lv_iadd hx hb dX4_chunksOf_16 ?_
    refine tI (nI_add _ _) ?_
    exact eI hQ hx hb hr hlocks hK hW () (by rw [chks_s h1]) (rfl) dX4_chunksOf_17
  · skip
    refine lv_iconst (v := nI (1)) hx hb dX4_chunksOf_4 (by decide) ?_
    refine lv_goto (tgt := 17) hx hb dX4_chunksOf_5 (by decide) ?_
    exact eI hQ hx hb hr hlocks hK hW () (by rw [chks_0 h1]) (rfl) dX4_chunksOf_17

set_option maxHeartbeats 4000000 in
set_option maxRecDepth 100000 in
theorem c_X4_hasChunk (l : Launch) (D : va_G) (cy : Nat → ClassId) (t : Nat × Nat) (n : Nat) (c0 : Nat) (hn : n ≤ 1000000) (hc0 : c0 < chks n) (sz : Nat) : Met l yX4_hasChunk wsX4_hasChunk ({ frames := 1, cells := 0, slots := 0, locals := 20 }) (PcW D cy t [] [.int (nI (n)), .int (nI (c0))] sz) (QiA D cy (fun (r : Int32) (u : Unit) => (r = nI (1))) (fun u : Unit => []) (va_A [] sz)) 0 0 (va_A [] sz) := by
  refine M_ofW (cc := cX4_hasChunk) (maxL := 2) (ret := (some .boolean)) (by decide) rfl (Nat.le_of_ble_eq_true rfl) ?_
  intro p e s m below meth c A ls args Q hQ S0 hr hlocks hnm hK hst hA hW hl
  have hx := S0.1; have hb := S0.2.1; have hml := S0.2.2.1; have hown := S0.2.2.2.1; have hts := S0.2.2.2.2
  have hl : lv_has ls 2 [(0, .int (nI (n))), (1, .int (nI (c0)))] := hl
  have hq := chks_le hn
  refine lv_iload_n hx hb dX4_hasChunk_0 rfl (lv_at hl 1 rfl) ?_
  refine zLt (a := c0) (tgt := 16) hx hb dX4_hasChunk_1 (by decide) (by omega) ?_
  refine lv_iload_n hx hb dX4_hasChunk_4 rfl (lv_at hl 1 rfl) ?_
  refine lv_iload_n hx hb dX4_hasChunk_5 rfl (lv_at hl 0 rfl) ?_
  refine kSi (As := [.int (nI (n))]) (rest := [.int (nI (c0))]) S0 hK hst hA hW [] (fun sz => c_X4_chunksOf l D cy t n (by omega) sz) rfl (by decide) (va_cwS 1 hts gX4_hasChunk_X4_chunksOf rfl rfl rfl (by decide +kernel) ⟨Nat.le_of_ble_eq_true rfl, Nat.le_of_ble_eq_true rfl⟩) (fun _ => rfl) rfl hl.1 rfl (Nat.le_of_ble_eq_true rfl) dX4_hasChunk_6 ⟨Nat.le_of_ble_eq_true rfl, Nat.le_of_ble_eq_true rfl⟩ (fun r6 u6 H locs p6 hW => ?_)
  have hW : Wd D A s [] H locs := hW
  have q6 : r6 = nI (chks n) := p6
  subst q6
  refine iGe (a := c0) (b := chks n) (tgt := 16) hx hb dX4_hasChunk_9 (by decide) (by omega) (by omega) (fun h9 => ?_) (fun h9 => ?_)
  · skip
    exfalso; omega
  · skip
    refine lv_iconst (v := nI (1)) hx hb dX4_hasChunk_12 (by decide) ?_
    refine lv_goto (tgt := 17) hx hb dX4_hasChunk_13 (by decide) ?_
    exact eZ hQ hx hb hr hlocks hK hW () (rfl) (rfl) (by decide) dX4_hasChunk_17

set_option maxHeartbeats 4000000 in
set_option maxRecDepth 100000 in
theorem c_X4_hasChunk_b (l : Launch) (D : va_G) (cy : Nat → ClassId) (t : Nat × Nat) (n : Nat) (x : Int32) (hn : n ≤ 1000000) (hbd : x < 0 ∨ nI (chks n) ≤ x) (sz : Nat) : Met l yX4_hasChunk wsX4_hasChunk ({ frames := 1, cells := 0, slots := 0, locals := 20 }) (PcW D cy t [] [.int (nI (n)), .int (x)] sz) (QiA D cy (fun (r : Int32) (u : Unit) => (r = nI (0))) (fun u : Unit => []) (va_A [] sz)) 0 0 (va_A [] sz) := by
  refine M_ofW (cc := cX4_hasChunk) (maxL := 2) (ret := (some .boolean)) (by decide) rfl (Nat.le_of_ble_eq_true rfl) ?_
  intro p e s m below meth c A ls args Q hQ S0 hr hlocks hnm hK hst hA hW hl
  have hx := S0.1; have hb := S0.2.1; have hml := S0.2.2.1; have hown := S0.2.2.2.1; have hts := S0.2.2.2.2
  have hl : lv_has ls 2 [(0, .int (nI (n))), (1, .int (x))] := hl
  refine lv_iload_n hx hb dX4_hasChunk_0 rfl (lv_at hl 1 rfl) ?_
  refine lv_if_lt (tgt := 16) hx hb dX4_hasChunk_1 (by decide) (fun h1 => ?_) (fun h1 => ?_)
  · skip
    refine lv_iconst (v := nI (0)) hx hb dX4_hasChunk_16 (by decide) ?_
    exact eZ hQ hx hb hr hlocks hK hW () (rfl) (rfl) (by decide) dX4_hasChunk_17
  · skip
    refine lv_iload_n hx hb dX4_hasChunk_4 rfl (lv_at hl 1 rfl) ?_
    refine lv_iload_n hx hb dX4_hasChunk_5 rfl (lv_at hl 0 rfl) ?_
    refine kSi (As := [.int (nI (n))]) (rest := [.int (x)]) S0 hK hst hA hW [] (fun sz => c_X4_chunksOf l D cy t n (by omega) sz) rfl (by decide) (va_cwS 1 hts gX4_hasChunk_X4_chunksOf rfl rfl rfl (by decide +kernel) ⟨Nat.le_of_ble_eq_true rfl, Nat.le_of_ble_eq_true rfl⟩) (fun _ => rfl) rfl hl.1 rfl (Nat.le_of_ble_eq_true rfl) dX4_hasChunk_6 ⟨Nat.le_of_ble_eq_true rfl, Nat.le_of_ble_eq_true rfl⟩ (fun r6 u6 H locs p6 hW => ?_)
    have hW : Wd D A s [] H locs := hW
    have q6 : r6 = nI (chks n) := p6
    subst q6
    refine lv_icmp_ge (tgt := 16) hx hb dX4_hasChunk_9 (by decide) (fun h9 => ?_) (fun h9 => ?_)
    · skip
      refine lv_iconst (v := nI (0)) hx hb dX4_hasChunk_16 (by decide) ?_
      exact eZ hQ hx hb hr hlocks hK hW () (rfl) (rfl) (by decide) dX4_hasChunk_17
    · skip
      exact hbd.elim (fun q => absurd q h1) (fun q => absurd q h9)

theorem f_X4_chunkLength_0 : Cond.methodLink RX4 166 Lib.Math.min.name ∈ wsX4_chunkLength := by decide +kernel
theorem f_X4_chunkLength_1 : Cond.static Lib.Math.min.name ∈ wsX4_chunkLength := by decide +kernel
theorem f_X4_chunkLength_2 : Cond.initialized "java/lang/Math" ∈ wsX4_chunkLength := by decide +kernel
theorem f_X4_chunkLength_3 : Cond.code Lib.Math.min.name Lib.Math.min.code 2 (some .int) ∈ wsX4_chunkLength := by decide +kernel
set_option maxHeartbeats 4000000 in
set_option maxRecDepth 100000 in
theorem c_X4_chunkLength (l : Launch) (D : va_G) (cy : Nat → ClassId) (t : Nat × Nat) (n : Nat) (c0 : Nat) (hn : n ≤ 1000000) (hc0 : c0 * 1024 ≤ n) (sz : Nat) : Met l yX4_chunkLength wsX4_chunkLength ({ frames := 1, cells := 0, slots := 0, locals := 21 }) (PcW D cy t [] [.int (nI (n)), .int (nI (c0))] sz) (QiA D cy (fun (r : Int32) (u : Unit) => (r = nI (cln n c0))) (fun u : Unit => []) (va_A [] sz)) 0 0 (va_A [] sz) := by
  refine M_ofW (cc := cX4_chunkLength) (maxL := 2) (ret := (some .int)) (by decide) rfl (Nat.le_of_ble_eq_true rfl) ?_
  intro p e s m below meth c A ls args Q hQ S0 hr hlocks hnm hK hst hA hW hl
  have hx := S0.1; have hb := S0.2.1; have hml := S0.2.2.1; have hown := S0.2.2.2.1; have hts := S0.2.2.2.2
  have hl : lv_has ls 2 [(0, .int (nI (n))), (1, .int (nI (c0)))] := hl
  refine lv_sipush (v := nI (1024)) hx hb dX4_chunkLength_0 (by decide) ?_
  refine lv_iload_n hx hb dX4_chunkLength_3 rfl (lv_at hl 0 rfl) ?_
  refine lv_iload_n hx hb dX4_chunkLength_4 rfl (lv_at hl 1 rfl) ?_
  refine lv_sipush (v := nI (1024)) hx hb dX4_chunkLength_5 (by decide) ?_
  refine lv_imul hx hb dX4_chunkLength_8 ?_
  refine tI (pk_mul _ _) ?_
  refine lv_isub hx hb dX4_chunkLength_9 ?_
  refine tI (pk_sub (by omega)) ?_
  refine va_mmin hx hb (by rw [hml]; exact hl.1.symm) hown (hts (.methodLink RX4 166 Lib.Math.min.name) f_X4_chunkLength_0) (hts (.static Lib.Math.min.name) f_X4_chunkLength_1) (hts (.initialized "java/lang/Math") f_X4_chunkLength_2) (hts (.code Lib.Math.min.name Lib.Math.min.code 2 (some .int)) f_X4_chunkLength_3) (Nat.le_of_ble_eq_true rfl) (Nat.le_of_ble_eq_true rfl) (Nat.zero_le _) (Nat.zero_le _) dX4_chunkLength_10 ?_
  refine tI (min_nI (a := 1024) (b := n - (c0 * 1024)) (by omega) (by omega)) ?_
  exact eI hQ hx hb hr hlocks hK hW () (rfl) (rfl) dX4_chunkLength_13

set_option maxHeartbeats 4000000 in
set_option maxRecDepth 100000 in
theorem c_X4_add_b (l : Launch) (D : va_G) (cy : Nat → ClassId) (t : Nat × Nat) (x0 : Nat) (xr : Nat) (xh : Nat) (xf : Nat) (xp : Nat) (xw : Nat) (xy : Nat) (xd : Nat) (x : Int32) (y : Int32) (w0 : Int64) (hbd : x < 0 ∨ nI 8 ≤ x) (sz : Nat) : Met l yX4_add wsX4_add ({ frames := 1, cells := 0, slots := 0, locals := 20 }) (PcW D cy t [(x0, .inr (4, [.ref xr, .ref xh, .ref xf, .ref xp, .ref xw, .ref xy, .ref xd]))] [.ref x0, .int (x), .int (y), .long (w0)] sz) (QiA D cy (fun (r : Int32) (u : Unit) => (r = (-2 : Int32))) (fun u : Unit => [(x0, .inr (4, [.ref xr, .ref xh, .ref xf, .ref xp, .ref xw, .ref xy, .ref xd]))]) (va_A [(x0, .inr (4, [.ref xr, .ref xh, .ref xf, .ref xp, .ref xw, .ref xy, .ref xd]))] sz)) 0 0 (va_A [(x0, .inr (4, [.ref xr, .ref xh, .ref xf, .ref xp, .ref xw, .ref xy, .ref xd]))] sz) := by
  refine M_ofW (cc := cX4_add) (maxL := 6) (ret := (some .int)) (by decide) rfl (Nat.le_of_ble_eq_true rfl) ?_
  intro p e s m below meth c A ls args Q hQ S0 hr hlocks hnm hK hst hA hW hl
  have hx := S0.1; have hb := S0.2.1; have hml := S0.2.2.1; have hown := S0.2.2.2.1; have hts := S0.2.2.2.2
  have hl : lv_has ls 6 [(0, .ref x0), (1, .int (x)), (2, .int (y)), (3, .long (w0))] := hl
  refine lv_iload_n hx hb dX4_add_0 rfl (lv_at hl 1 rfl) ?_
  refine kSi (As := [.int (x)]) (rest := []) S0 hK hst hA hW [] (fun sz => c_X4_isRegister_b l D cy t x (hbd) sz) rfl (by decide) (va_cwS 1 hts gX4_add_X4_isRegister rfl rfl rfl (by decide +kernel) ⟨Nat.le_of_ble_eq_true rfl, Nat.le_of_ble_eq_true rfl⟩) (fun _ => rfl) rfl hl.1 rfl (Nat.le_of_ble_eq_true rfl) dX4_add_1 ⟨Nat.le_of_ble_eq_true rfl, Nat.le_of_ble_eq_true rfl⟩ (fun r1 u1 H locs p1 hW => ?_)
  have hW : Wd D A s [(x0, .inr (4, [.ref xr, .ref xh, .ref xf, .ref xp, .ref xw, .ref xy, .ref xd]))] H locs := hW
  have q1 : r1 = nI (0) := p1
  subst q1
  refine zEq (a := 0) (tgt := 18) hx hb dX4_add_4 (by decide) (by omega) (fun h4 => ?_) (fun h4 => ?_)
  · skip
    refine lv_bipush (v := (-2 : Int32)) hx hb dX4_add_18 (by decide) ?_
    exact eI hQ hx hb hr hlocks hK hW () (rfl) (rfl) dX4_add_20
  · skip
    exfalso; omega

set_option maxHeartbeats 4000000 in
set_option maxRecDepth 100000 in
theorem c_X4_add_bn (l : Launch) (D : va_G) (cy : Nat → ClassId) (t : Nat × Nat) (x0 : Nat) (xr : Nat) (xh : Nat) (xf : Nat) (xp : Nat) (xw : Nat) (xy : Nat) (xd : Nat) (rr : Nat → Option Nat) (ri : Nat) (b0 : Nat) (b1 : Nat) (cnt : Nat) (f : Nat → Int32) (y : Int32) (w0 : Int64) (hri : rr ri = some b0) (hr8 : ri < 8) (hc : cnt ≤ 200) (hbn : y < nI 1 ∨ nI 8 < y) (sz : Nat) : Met l yX4_add wsX4_add ({ frames := 1, cells := 0, slots := 0, locals := 20 }) (PcW D cy t [(x0, .inr (4, [.ref xr, .ref xh, .ref xf, .ref xp, .ref xw, .ref xy, .ref xd])), (xr, .inl (cy 3, 8, .inr (.inr (.inr (.inr (rr)))))), (b0, .inr (0, [.ref b1, .int (nI (cnt))])), (b1, .inl (cy 1, 200, .inl (f)))] [.ref x0, .int (nI (ri)), .int (y), .long (w0)] sz) (QiA D cy (fun (r : Int32) (u : Unit) => (r = (-2 : Int32))) (fun u : Unit => [(x0, .inr (4, [.ref xr, .ref xh, .ref xf, .ref xp, .ref xw, .ref xy, .ref xd])), (xr, .inl (cy 3, 8, .inr (.inr (.inr (.inr (rr)))))), (b0, .inr (0, [.ref b1, .int (nI (cnt))])), (b1, .inl (cy 1, 200, .inl (f)))]) (va_A [(x0, .inr (4, [.ref xr, .ref xh, .ref xf, .ref xp, .ref xw, .ref xy, .ref xd])), (xr, .inl (cy 3, 8, .inr (.inr (.inr (.inr (rr)))))), (b0, .inr (0, [.ref b1, .int (nI (cnt))])), (b1, .inl (cy 1, 200, .inl (f)))] sz)) 0 0 (va_A [(x0, .inr (4, [.ref xr, .ref xh, .ref xf, .ref xp, .ref xw, .ref xy, .ref xd])), (xr, .inl (cy 3, 8, .inr (.inr (.inr (.inr (rr)))))), (b0, .inr (0, [.ref b1, .int (nI (cnt))])), (b1, .inl (cy 1, 200, .inl (f)))] sz) := by
  refine M_ofW (cc := cX4_add) (maxL := 6) (ret := (some .int)) (by decide) rfl (Nat.le_of_ble_eq_true rfl) ?_
  intro p e s m below meth c A ls args Q hQ S0 hr hlocks hnm hK hst hA hW hl
  have hx := S0.1; have hb := S0.2.1; have hml := S0.2.2.1; have hown := S0.2.2.2.1; have hts := S0.2.2.2.2
  have hl : lv_has ls 6 [(0, .ref x0), (1, .int (nI (ri))), (2, .int (y)), (3, .long (w0))] := hl
  refine lv_iload_n hx hb dX4_add_0 rfl (lv_at hl 1 rfl) ?_
  refine kSi (As := [.int (nI (ri))]) (rest := []) S0 hK hst hA hW [] (fun sz => c_X4_isRegister l D cy t ri (by omega) sz) rfl (by decide) (va_cwS 1 hts gX4_add_X4_isRegister rfl rfl rfl (by decide +kernel) ⟨Nat.le_of_ble_eq_true rfl, Nat.le_of_ble_eq_true rfl⟩) (fun _ => rfl) rfl hl.1 rfl (Nat.le_of_ble_eq_true rfl) dX4_add_1 ⟨Nat.le_of_ble_eq_true rfl, Nat.le_of_ble_eq_true rfl⟩ (fun r1 u1 H locs p1 hW => ?_)
  have hW : Wd D A s [(x0, .inr (4, [.ref xr, .ref xh, .ref xf, .ref xp, .ref xw, .ref xy, .ref xd])), (xr, .inl (cy 3, 8, .inr (.inr (.inr (.inr (rr)))))), (b0, .inr (0, [.ref b1, .int (nI (cnt))])), (b1, .inl (cy 1, 200, .inl (f)))] H locs := hW
  have q1 : r1 = nI (1) := p1
  subst q1
  refine zEq (a := 1) (tgt := 18) hx hb dX4_add_4 (by decide) (by omega) (fun h4 => ?_) (fun h4 => ?_)
  · skip
    exfalso; omega
  · skip
    refine lv_iload_n hx hb dX4_add_7 rfl (lv_at hl 2 rfl) ?_
    refine lv_iconst (v := nI (1)) hx hb dX4_add_8 (by decide) ?_
    refine lv_icmp_lt (tgt := 18) hx hb dX4_add_9 (by decide) (fun h9 => ?_) (fun h9 => ?_)
    · skip
      refine lv_bipush (v := (-2 : Int32)) hx hb dX4_add_18 (by decide) ?_
      exact eI hQ hx hb hr hlocks hK hW () (rfl) (rfl) dX4_add_20
    · skip
      refine lv_iload_n hx hb dX4_add_12 rfl (lv_at hl 2 rfl) ?_
      refine lv_bipush (v := nI (8)) hx hb dX4_add_13 (by decide) ?_
      refine lv_icmp_le (tgt := 21) hx hb dX4_add_15 (by decide) (fun h15 => ?_) (fun h15 => ?_)
      · skip
        exact hbn.elim (fun q => absurd q h9) (fun q => absurd h15 (Int32.not_le.mpr q))
      · skip
        refine lv_bipush (v := (-2 : Int32)) hx hb dX4_add_18 (by decide) ?_
        exact eI hQ hx hb hr hlocks hK hW () (rfl) (rfl) dX4_add_20

theorem f_X4_add_r_0 : Cond.fieldLink RX4 11 "TreeHashes" "registers" "[LTreeHashes$Bytes;" ∈ wsX4_add := by decide +kernel
theorem i_X4_add_r_X4 : ∀ w ∈ wsX40, w ∈ wsX4_add := by decide +kernel
set_option maxHeartbeats 4000000 in
set_option maxRecDepth 100000 in
theorem c_X4_add_r (l : Launch) (D : va_G) (cy : Nat → ClassId) (t : Nat × Nat) (x0 : Nat) (xr : Nat) (xh : Nat) (xf : Nat) (xp : Nat) (xw : Nat) (xy : Nat) (xd : Nat) (rr : Nat → Option Nat) (ri : Nat) (b0 : Nat) (b1 : Nat) (cnt : Nat) (f : Nat → Int32) (k : Nat) (w0 : Int64) (hri : rr ri = some b0) (hr8 : ri < 8) (hc : cnt ≤ 200) (hk1 : 1 ≤ k) (hk8 : k ≤ 8) (hfull : 200 < cnt + k) (sz : Nat) : Met l yX4_add wsX4_add ({ frames := 1, cells := 0, slots := 0, locals := 21 }) (PcW D cy t [(x0, .inr (4, [.ref xr, .ref xh, .ref xf, .ref xp, .ref xw, .ref xy, .ref xd])), (xr, .inl (cy 3, 8, .inr (.inr (.inr (.inr (rr)))))), (b0, .inr (0, [.ref b1, .int (nI (cnt))])), (b1, .inl (cy 1, 200, .inl (f)))] [.ref x0, .int (nI (ri)), .int (nI (k)), .long (w0)] sz) (QiA D cy (fun (r : Int32) (u : Unit) => (r = (-3 : Int32))) (fun u : Unit => [(x0, .inr (4, [.ref xr, .ref xh, .ref xf, .ref xp, .ref xw, .ref xy, .ref xd])), (xr, .inl (cy 3, 8, .inr (.inr (.inr (.inr (rr)))))), (b0, .inr (0, [.ref b1, .int (nI (cnt))])), (b1, .inl (cy 1, 200, .inl (f)))]) (va_A [(x0, .inr (4, [.ref xr, .ref xh, .ref xf, .ref xp, .ref xw, .ref xy, .ref xd])), (xr, .inl (cy 3, 8, .inr (.inr (.inr (.inr (rr)))))), (b0, .inr (0, [.ref b1, .int (nI (cnt))])), (b1, .inl (cy 1, 200, .inl (f)))] sz)) 0 0 (va_A [(x0, .inr (4, [.ref xr, .ref xh, .ref xf, .ref xp, .ref xw, .ref xy, .ref xd])), (xr, .inl (cy 3, 8, .inr (.inr (.inr (.inr (rr)))))), (b0, .inr (0, [.ref b1, .int (nI (cnt))])), (b1, .inl (cy 1, 200, .inl (f)))] sz) := by
  refine M_ofW (cc := cX4_add) (maxL := 6) (ret := (some .int)) (by decide) rfl (Nat.le_of_ble_eq_true rfl) ?_
  intro p e s m below meth c A ls args Q hQ S0 hr hlocks hnm hK hst hA hW hl
  have hx := S0.1; have hb := S0.2.1; have hml := S0.2.2.1; have hown := S0.2.2.2.1; have hts := S0.2.2.2.2
  have hl : lv_has ls 6 [(0, .ref x0), (1, .int (nI (ri))), (2, .int (nI (k))), (3, .long (w0))] := hl
  refine lv_iload_n hx hb dX4_add_0 rfl (lv_at hl 1 rfl) ?_
  refine kSi (As := [.int (nI (ri))]) (rest := []) S0 hK hst hA hW [] (fun sz => c_X4_isRegister l D cy t ri (by omega) sz) rfl (by decide) (va_cwS 1 hts gX4_add_X4_isRegister rfl rfl rfl (by decide +kernel) ⟨Nat.le_of_ble_eq_true rfl, Nat.le_of_ble_eq_true rfl⟩) (fun _ => rfl) rfl hl.1 rfl (Nat.le_of_ble_eq_true rfl) dX4_add_1 ⟨Nat.le_of_ble_eq_true rfl, Nat.le_of_ble_eq_true rfl⟩ (fun r1 u1 H locs p1 hW => ?_)
  have hW : Wd D A s [(x0, .inr (4, [.ref xr, .ref xh, .ref xf, .ref xp, .ref xw, .ref xy, .ref xd])), (xr, .inl (cy 3, 8, .inr (.inr (.inr (.inr (rr)))))), (b0, .inr (0, [.ref b1, .int (nI (cnt))])), (b1, .inl (cy 1, 200, .inl (f)))] H locs := hW
  have q1 : r1 = nI (1) := p1
  subst q1
  refine zEq (a := 1) (tgt := 18) hx hb dX4_add_4 (by decide) (by omega) (fun h4 => ?_) (fun h4 => ?_)
  · skip
    exfalso; omega
  · skip
    refine lv_iload_n hx hb dX4_add_7 rfl (lv_at hl 2 rfl) ?_
    refine lv_iconst (v := nI (1)) hx hb dX4_add_8 (by decide) ?_
    refine iLt (a := k) (b := 1) (tgt := 18) hx hb dX4_add_9 (by decide) (by omega) (by omega) (fun h9 => ?_) (fun h9 => ?_)
    · skip
      exfalso; omega
    · skip
      refine lv_iload_n hx hb dX4_add_12 rfl (lv_at hl 2 rfl) ?_
      refine lv_bipush (v := nI (8)) hx hb dX4_add_13 (by decide) ?_
      refine iLe (a := k) (b := 8) (tgt := 21) hx hb dX4_add_15 (by decide) (by omega) (by omega) (fun h15 => ?_) (fun h15 => ?_)
      · skip
        refine lv_aload_n hx hb dX4_add_21 rfl (lv_at hl 0 rfl) ?_
        refine va_get (D := D) (ci := 4) (v := .ref xr) (C := RX4) (T := TX4) (N := 7) hx hb hts i_X4_add_r_X4 hown hK hW.1 0 rfl rfl 0 (by decide) (hts (.fieldLink RX4 11 "TreeHashes" "registers" "[LTreeHashes$Bytes;") f_X4_add_r_0) (fun _ h9 => h9) rfl dX4_add_22 ?_
        refine lv_iload_n hx hb dX4_add_25 rfl (lv_at hl 1 rfl) ?_
        refine rA hx hb hK hW 1 (t0 := 3) rfl rfl (k := ri) (by omega) (by decide) (hri) dX4_add_26 ?_
        refine lv_iload_n hx hb dX4_add_27 rfl (lv_at hl 2 rfl) ?_
        refine kVi (As := [.int (nI (k))]) (rest := []) S0 hK hst hA hW [2, 3] (fun sz => c_X0_hasRoomFor l D cy t b0 b1 200 cnt f (nI (k)) (by omega) (by omega) sz) rfl (by decide) (cwV 1 hts gX4_add_X0_hasRoomFor rfl rfl rfl (by decide +kernel) ⟨Nat.le_of_ble_eq_true rfl, Nat.le_of_ble_eq_true rfl⟩) (fun _ => rfl) 0 0 rfl rfl rfl hl.1 rfl (Nat.le_of_ble_eq_true rfl) dX4_add_28 ⟨Nat.le_of_ble_eq_true rfl, Nat.le_of_ble_eq_true rfl⟩ (fun r28 u28 H locs p28 hW => ?_)
        have hW : Wd D A s [(x0, .inr (4, [.ref xr, .ref xh, .ref xf, .ref xp, .ref xw, .ref xy, .ref xd])), (xr, .inl (cy 3, 8, .inr (.inr (.inr (.inr (rr)))))), (b0, .inr (0, [.ref b1, .int (nI (cnt))])), (b1, .inl (cy 1, 200, .inl (f)))] H locs := hW
        have q28 : r28 = if (nI (k)) ≤ nI (200 - cnt) then (1 : Int32) else 0 := p28
        subst q28
        refine tI (x' := nI (0)) (if_neg (Int32.not_le.mpr ((nI_ltI (by omega) (by omega)).mpr (by omega)))) ?_
        refine zNe (a := 0) (tgt := 37) hx hb dX4_add_31 (by decide) (by omega) (fun h31 => ?_) (fun h31 => ?_)
        · skip
          exfalso; omega
        · skip
          refine lv_bipush (v := (-3 : Int32)) hx hb dX4_add_34 (by decide) ?_
          exact eI hQ hx hb hr hlocks hK hW () (rfl) (rfl) dX4_add_36
      · skip
        exfalso; omega

theorem f_X4_add_0 : Cond.fieldLink RX4 11 "TreeHashes" "registers" "[LTreeHashes$Bytes;" ∈ wsX4_add := by decide +kernel
theorem i_X4_add_X4 : ∀ w ∈ wsX40, w ∈ wsX4_add := by decide +kernel
theorem i_X4_add_X0 : ∀ w ∈ wsX00, w ∈ wsX4_add := by decide +kernel
set_option maxHeartbeats 4000000 in
set_option maxRecDepth 100000 in
theorem c_X4_add (l : Launch) (D : va_G) (cy : Nat → ClassId) (t : Nat × Nat) (x0 : Nat) (xr : Nat) (xh : Nat) (xf : Nat) (xp : Nat) (xw : Nat) (xy : Nat) (xd : Nat) (rr : Nat → Option Nat) (ri : Nat) (b0 : Nat) (b1 : Nat) (cnt : Nat) (f : Nat → Int32) (k : Nat) (w0 : Int64) (hri : rr ri = some b0) (hr8 : ri < 8) (hc : cnt ≤ 200) (hk1 : 1 ≤ k) (hk8 : k ≤ 8) (hfit : cnt + k ≤ 200) (sz : Nat) : Met l yX4_add wsX4_add ({ frames := 1, cells := 0, slots := 0, locals := 21 }) (PcW D cy t [(x0, .inr (4, [.ref xr, .ref xh, .ref xf, .ref xp, .ref xw, .ref xy, .ref xd])), (xr, .inl (cy 3, 8, .inr (.inr (.inr (.inr (rr)))))), (b0, .inr (0, [.ref b1, .int (nI (cnt))])), (b1, .inl (cy 1, 200, .inl (f)))] [.ref x0, .int (nI (ri)), .int (nI (k)), .long (w0)] sz) (QiA D cy (fun (r : Int32) (u : Unit) => (r = nI (cnt + k))) (fun u : Unit => [(x0, .inr (4, [.ref xr, .ref xh, .ref xf, .ref xp, .ref xw, .ref xy, .ref xd])), (xr, .inl (cy 3, 8, .inr (.inr (.inr (.inr (rr)))))), (b0, .inr (0, [.ref b1, .int (nI (cnt + k))])), (b1, .inl (cy 1, 200, .inl (apG f cnt (fun i => b8 (((w0.toUInt64 >>> ((nI (8 * i)).toInt64.toUInt64 &&& Int64.toUInt64 63)).toInt64).toInt32)) k)))]) (va_A [(x0, .inr (4, [.ref xr, .ref xh, .ref xf, .ref xp, .ref xw, .ref xy, .ref xd])), (xr, .inl (cy 3, 8, .inr (.inr (.inr (.inr (rr)))))), (b0, .inr (0, [.ref b1, .int (nI (cnt))])), (b1, .inl (cy 1, 200, .inl (f)))] sz)) 0 0 (va_A [(x0, .inr (4, [.ref xr, .ref xh, .ref xf, .ref xp, .ref xw, .ref xy, .ref xd])), (xr, .inl (cy 3, 8, .inr (.inr (.inr (.inr (rr)))))), (b0, .inr (0, [.ref b1, .int (nI (cnt))])), (b1, .inl (cy 1, 200, .inl (f)))] sz) := by
  refine M_ofW (cc := cX4_add) (maxL := 6) (ret := (some .int)) (by decide) rfl (Nat.le_of_ble_eq_true rfl) ?_
  intro p e s m below meth c A ls args Q hQ S0 hr hlocks hnm hK hst hA hW hl
  have hx := S0.1; have hb := S0.2.1; have hml := S0.2.2.1; have hown := S0.2.2.2.1; have hts := S0.2.2.2.2
  have hl : lv_has ls 6 [(0, .ref x0), (1, .int (nI (ri))), (2, .int (nI (k))), (3, .long (w0))] := hl
  refine lv_iload_n hx hb dX4_add_0 rfl (lv_at hl 1 rfl) ?_
  refine kSi (As := [.int (nI (ri))]) (rest := []) S0 hK hst hA hW [] (fun sz => c_X4_isRegister l D cy t ri (by omega) sz) rfl (by decide) (va_cwS 1 hts gX4_add_X4_isRegister rfl rfl rfl (by decide +kernel) ⟨Nat.le_of_ble_eq_true rfl, Nat.le_of_ble_eq_true rfl⟩) (fun _ => rfl) rfl hl.1 rfl (Nat.le_of_ble_eq_true rfl) dX4_add_1 ⟨Nat.le_of_ble_eq_true rfl, Nat.le_of_ble_eq_true rfl⟩ (fun r1 u1 H locs p1 hW => ?_)
  have hW : Wd D A s [(x0, .inr (4, [.ref xr, .ref xh, .ref xf, .ref xp, .ref xw, .ref xy, .ref xd])), (xr, .inl (cy 3, 8, .inr (.inr (.inr (.inr (rr)))))), (b0, .inr (0, [.ref b1, .int (nI (cnt))])), (b1, .inl (cy 1, 200, .inl (f)))] H locs := hW
  have q1 : r1 = nI (1) := p1
  subst q1
  refine zEq (a := 1) (tgt := 18) hx hb dX4_add_4 (by decide) (by omega) (fun h4 => ?_) (fun h4 => ?_)
  · skip
    exfalso; omega
  · skip
    refine lv_iload_n hx hb dX4_add_7 rfl (lv_at hl 2 rfl) ?_
    refine lv_iconst (v := nI (1)) hx hb dX4_add_8 (by decide) ?_
    refine iLt (a := k) (b := 1) (tgt := 18) hx hb dX4_add_9 (by decide) (by omega) (by omega) (fun h9 => ?_) (fun h9 => ?_)
    · skip
      exfalso; omega
    · skip
      refine lv_iload_n hx hb dX4_add_12 rfl (lv_at hl 2 rfl) ?_
      refine lv_bipush (v := nI (8)) hx hb dX4_add_13 (by decide) ?_
      refine iLe (a := k) (b := 8) (tgt := 21) hx hb dX4_add_15 (by decide) (by omega) (by omega) (fun h15 => ?_) (fun h15 => ?_)
      · skip
        refine lv_aload_n hx hb dX4_add_21 rfl (lv_at hl 0 rfl) ?_
        refine va_get (D := D) (ci := 4) (v := .ref xr) (C := RX4) (T := TX4) (N := 7) hx hb hts i_X4_add_X4 hown hK hW.1 0 rfl rfl 0 (by decide) (hts (.fieldLink RX4 11 "TreeHashes" "registers" "[LTreeHashes$Bytes;") f_X4_add_0) (fun _ h9 => h9) rfl dX4_add_22 ?_
        refine lv_iload_n hx hb dX4_add_25 rfl (lv_at hl 1 rfl) ?_
        refine rA hx hb hK hW 1 (t0 := 3) rfl rfl (k := ri) (by omega) (by decide) (hri) dX4_add_26 ?_
        refine lv_iload_n hx hb dX4_add_27 rfl (lv_at hl 2 rfl) ?_
        refine kVi (As := [.int (nI (k))]) (rest := []) S0 hK hst hA hW [2, 3] (fun sz => c_X0_hasRoomFor l D cy t b0 b1 200 cnt f (nI (k)) (by omega) (by omega) sz) rfl (by decide) (cwV 1 hts gX4_add_X0_hasRoomFor rfl rfl rfl (by decide +kernel) ⟨Nat.le_of_ble_eq_true rfl, Nat.le_of_ble_eq_true rfl⟩) (fun _ => rfl) 0 0 rfl rfl rfl hl.1 rfl (Nat.le_of_ble_eq_true rfl) dX4_add_28 ⟨Nat.le_of_ble_eq_true rfl, Nat.le_of_ble_eq_true rfl⟩ (fun r28 u28 H locs p28 hW => ?_)
        have hW : Wd D A s [(x0, .inr (4, [.ref xr, .ref xh, .ref xf, .ref xp, .ref xw, .ref xy, .ref xd])), (xr, .inl (cy 3, 8, .inr (.inr (.inr (.inr (rr)))))), (b0, .inr (0, [.ref b1, .int (nI (cnt))])), (b1, .inl (cy 1, 200, .inl (f)))] H locs := hW
        have q28 : r28 = if (nI (k)) ≤ nI (200 - cnt) then (1 : Int32) else 0 := p28
        subst q28
        refine tI (x' := nI (1)) (if_pos ((nI_leI (by omega) (by omega)).mpr (by omega))) ?_
        refine zNe (a := 1) (tgt := 37) hx hb dX4_add_31 (by decide) (by omega) (fun h31 => ?_) (fun h31 => ?_)
        · skip
          refine lv_iconst (v := nI (0)) hx hb dX4_add_37 (by decide) ?_
          refine lv_istore (lv' := [(5, .int (nI (0))), (0, .ref x0), (1, .int (nI (ri))), (2, .int (nI (k))), (3, .long (w0))]) hx hb dX4_add_38 hl (by decide) rfl (fun ls hl => ?_)
          have loop40 : ∀ (nF : Nat) (i : Nat), k - i < nF → (i ≤ k) → ∀ (H : Heap) (locs : List Loc), Wd D A s [(x0, .inr (4, [.ref xr, .ref xh, .ref xf, .ref xp, .ref xw, .ref xy, .ref xd])), (xr, .inl (cy 3, 8, .inr (.inr (.inr (.inr (rr)))))), (b0, .inr (0, [.ref b1, .int (nI (cnt + i))])), (b1, .inl (cy 1, 200, .inl (apG f cnt (fun i => b8 (((w0.toUInt64 >>> ((nI (8 * i)).toInt64.toUInt64 &&& Int64.toUInt64 63)).toInt64).toInt32)) i)))] H locs → ∀ ls : Array Slot, lv_has ls 6 [(0, .ref x0), (1, .int (nI (ri))), (2, .int (nI (k))), (3, .long (w0)), (5, .int (nI (i)))] → W p l e ({ frames := 1, cells := 0, slots := 0, locals := 21 }) s m args below meth c H locs 0 0 Q (F0 m 40 ls []) := by
            intro nF
            induction nF with
            | zero => intro i hf; exact absurd hf (Nat.not_lt_zero _)
            | succ nF ih40 =>
              intro i hf hi H locs hW ls hl
              refine lv_iload hx hb dX4_add_40 (lv_at hl 4 rfl) ?_
              refine lv_iload_n hx hb dX4_add_42 rfl (lv_at hl 2 rfl) ?_
              refine iGe (a := i) (b := k) (tgt := 69) hx hb dX4_add_43 (by decide) (by omega) (by omega) (fun h43 => ?_) (fun h43 => ?_)
              · skip
                refine lv_aload_n hx hb dX4_add_69 rfl (lv_at hl 0 rfl) ?_
                refine va_get (D := D) (ci := 4) (v := .ref xr) (C := RX4) (T := TX4) (N := 7) hx hb hts i_X4_add_X4 hown hK hW.1 0 rfl rfl 0 (by decide) (hts (.fieldLink RX4 11 "TreeHashes" "registers" "[LTreeHashes$Bytes;") f_X4_add_0) (fun _ h9 => h9) rfl dX4_add_70 ?_
                refine lv_iload_n hx hb dX4_add_73 rfl (lv_at hl 1 rfl) ?_
                refine rA hx hb hK hW 1 (t0 := 3) rfl rfl (k := ri) (by omega) (by decide) (hri) dX4_add_74 ?_
                refine va_getN (D := D) (ci := 0) (v := .int (nI (cnt + i))) (C := RX0) (T := TX0) (N := 2) hx hb hts i_X4_add_X0 hown hK hW.1 2 rfl rfl 1 (by decide) (va_Nw.use rfl (hst.2.2.1 ("TreeHashes", 57, "TreeHashes$Bytes", "count", "I", "TreeHashes") (by decide))) (fun _ h9 => h9) rfl dX4_add_75 ?_
                have e9 : i = k := by omega
                rw [e9] at hW
                exact eI hQ hx hb hr hlocks hK hW () (by rw [e9]) (rfl) dX4_add_78
              · skip
                refine lv_aload_n hx hb dX4_add_46 rfl (lv_at hl 0 rfl) ?_
                refine va_get (D := D) (ci := 4) (v := .ref xr) (C := RX4) (T := TX4) (N := 7) hx hb hts i_X4_add_X4 hown hK hW.1 0 rfl rfl 0 (by decide) (hts (.fieldLink RX4 11 "TreeHashes" "registers" "[LTreeHashes$Bytes;") f_X4_add_0) (fun _ h9 => h9) rfl dX4_add_47 ?_
                refine lv_iload_n hx hb dX4_add_50 rfl (lv_at hl 1 rfl) ?_
                refine rA hx hb hK hW 1 (t0 := 3) rfl rfl (k := ri) (by omega) (by decide) (hri) dX4_add_51 ?_
                refine lv_lload_n hx hb dX4_add_52 rfl (lv_at hl 3 rfl) ?_
                refine lv_bipush (v := nI (8)) hx hb dX4_add_53 (by decide) ?_
                refine lv_iload hx hb dX4_add_55 (lv_at hl 4 rfl) ?_
                refine lv_imul hx hb dX4_add_57 ?_
                refine tI (pk_mul _ _) ?_
                refine lv_lushr hx hb dX4_add_58 rfl ?_
                refine lv_l2i hx hb dX4_add_59 rfl ?_
                refine kVv (As := [.int (((w0.toUInt64 >>> ((nI (8 * i)).toInt64.toUInt64 &&& Int64.toUInt64 63)).toInt64).toInt32)]) (rest := []) S0 hK hst hA hW [2, 3] (fun sz => c_X0_append l D cy t b0 b1 200 (cnt + i) (apG f cnt (fun i => b8 (((w0.toUInt64 >>> ((nI (8 * i)).toInt64.toUInt64 &&& Int64.toUInt64 63)).toInt64).toInt32)) i) (((w0.toUInt64 >>> ((nI (8 * i)).toInt64.toUInt64 &&& Int64.toUInt64 63)).toInt64).toInt32) (by omega) (by omega) sz) rfl (by decide) (cwV 1 hts gX4_add_X0_append rfl rfl rfl (by decide +kernel) ⟨Nat.le_of_ble_eq_true rfl, Nat.le_of_ble_eq_true rfl⟩) (fun _ => rfl) 0 0 rfl rfl rfl hl.1 rfl (Nat.le_of_ble_eq_true rfl) dX4_add_60 ⟨Nat.le_of_ble_eq_true rfl, Nat.le_of_ble_eq_true rfl⟩ (fun u60 H locs p60 hW => ?_)
                have hW : Wd D A s [(x0, .inr (4, [.ref xr, .ref xh, .ref xf, .ref xp, .ref xw, .ref xy, .ref xd])), (xr, .inl (cy 3, 8, .inr (.inr (.inr (.inr (rr)))))), (b0, .inr (0, [.ref b1, .int (nI ((cnt + i) + 1))])), (b1, .inl (cy 1, 200, .inl (upd (apG f cnt (fun i => b8 (((w0.toUInt64 >>> ((nI (8 * i)).toInt64.toUInt64 &&& Int64.toUInt64 63)).toInt64).toInt32)) i) (cnt + i) (b8 (((w0.toUInt64 >>> ((nI (8 * i)).toInt64.toUInt64 &&& Int64.toUInt64 63)).toInt64).toInt32)))))] H locs := hW
                rw [show (upd (apG f cnt (fun i => b8 (((w0.toUInt64 >>> ((nI (8 * i)).toInt64.toUInt64 &&& Int64.toUInt64 63)).toInt64).toInt32)) i) (cnt + i) (b8 (((w0.toUInt64 >>> ((nI (8 * i)).toInt64.toUInt64 &&& Int64.toUInt64 63)).toInt64).toInt32))) = (apG f cnt (fun i => b8 (((w0.toUInt64 >>> ((nI (8 * i)).toInt64.toUInt64 &&& Int64.toUInt64 63)).toInt64).toInt32)) (i + 1)) from apG_s f cnt (fun i => b8 (((w0.toUInt64 >>> ((nI (8 * i)).toInt64.toUInt64 &&& Int64.toUInt64 63)).toInt64).toInt32)) i] at hW
                have hW : Wd D A s [(x0, .inr (4, [.ref xr, .ref xh, .ref xf, .ref xp, .ref xw, .ref xy, .ref xd])), (xr, .inl (cy 3, 8, .inr (.inr (.inr (.inr (rr)))))), (b0, .inr (0, [.ref b1, .int (nI ((cnt + i) + 1))])), (b1, .inl (cy 1, 200, .inl (apG f cnt (fun i => b8 (((w0.toUInt64 >>> ((nI (8 * i)).toInt64.toUInt64 &&& Int64.toUInt64 63)).toInt64).toInt32)) (i + 1))))] H locs := hW
                refine lv_iinc (v := nI (i + 1)) (lv' := [(5, .int (nI (i + 1))), (0, .ref x0), (1, .int (nI (ri))), (2, .int (nI (k))), (3, .long (w0))]) hx hb dX4_add_63 hl (k := 4) rfl (nI_1 _) (by decide) rfl (fun ls hl => ?_)
                refine lv_goto (tgt := 40) hx hb dX4_add_66 (by decide) ?_
                exact ih40 (i + 1) (by omega) (by omega) _ _ hW _ (lv_sub hl [1, 2, 3, 4, 0] rfl)
          rw [← apG_0 f cnt (fun i => b8 (((w0.toUInt64 >>> ((nI (8 * i)).toInt64.toUInt64 &&& Int64.toUInt64 63)).toInt64).toInt32))] at hW
          exact loop40 _ 0 (Nat.lt_succ_self _) (by omega) _ _ hW _ (lv_sub hl [1, 2, 3, 4, 0] rfl)
        · skip
          exfalso; omega
      · skip
        exfalso; omega

set_option maxHeartbeats 4000000 in
set_option maxRecDepth 100000 in
theorem c_X4_clear_b (l : Launch) (D : va_G) (cy : Nat → ClassId) (t : Nat × Nat) (x0 : Nat) (xr : Nat) (xh : Nat) (xf : Nat) (xp : Nat) (xw : Nat) (xy : Nat) (xd : Nat) (x : Int32) (hbd : x < 0 ∨ nI 8 ≤ x) (sz : Nat) : Met l yX4_clear wsX4_clear ({ frames := 1, cells := 0, slots := 0, locals := 20 }) (PcW D cy t [(x0, .inr (4, [.ref xr, .ref xh, .ref xf, .ref xp, .ref xw, .ref xy, .ref xd]))] [.ref x0, .int (x)] sz) (QiA D cy (fun (r : Int32) (u : Unit) => (r = (-2 : Int32))) (fun u : Unit => [(x0, .inr (4, [.ref xr, .ref xh, .ref xf, .ref xp, .ref xw, .ref xy, .ref xd]))]) (va_A [(x0, .inr (4, [.ref xr, .ref xh, .ref xf, .ref xp, .ref xw, .ref xy, .ref xd]))] sz)) 0 0 (va_A [(x0, .inr (4, [.ref xr, .ref xh, .ref xf, .ref xp, .ref xw, .ref xy, .ref xd]))] sz) := by
  refine M_ofW (cc := cX4_clear) (maxL := 2) (ret := (some .int)) (by decide) rfl (Nat.le_of_ble_eq_true rfl) ?_
  intro p e s m below meth c A ls args Q hQ S0 hr hlocks hnm hK hst hA hW hl
  have hx := S0.1; have hb := S0.2.1; have hml := S0.2.2.1; have hown := S0.2.2.2.1; have hts := S0.2.2.2.2
  have hl : lv_has ls 2 [(0, .ref x0), (1, .int (x))] := hl
  refine lv_iload_n hx hb dX4_clear_0 rfl (lv_at hl 1 rfl) ?_
  refine kSi (As := [.int (x)]) (rest := []) S0 hK hst hA hW [] (fun sz => c_X4_isRegister_b l D cy t x (hbd) sz) rfl (by decide) (va_cwS 1 hts gX4_clear_X4_isRegister rfl rfl rfl (by decide +kernel) ⟨Nat.le_of_ble_eq_true rfl, Nat.le_of_ble_eq_true rfl⟩) (fun _ => rfl) rfl hl.1 rfl (Nat.le_of_ble_eq_true rfl) dX4_clear_1 ⟨Nat.le_of_ble_eq_true rfl, Nat.le_of_ble_eq_true rfl⟩ (fun r1 u1 H locs p1 hW => ?_)
  have hW : Wd D A s [(x0, .inr (4, [.ref xr, .ref xh, .ref xf, .ref xp, .ref xw, .ref xy, .ref xd]))] H locs := hW
  have q1 : r1 = nI (0) := p1
  subst q1
  refine zEq (a := 0) (tgt := 20) hx hb dX4_clear_4 (by decide) (by omega) (fun h4 => ?_) (fun h4 => ?_)
  · skip
    refine lv_bipush (v := (-2 : Int32)) hx hb dX4_clear_20 (by decide) ?_
    exact eI hQ hx hb hr hlocks hK hW () (rfl) (rfl) dX4_clear_22
  · skip
    exfalso; omega

theorem f_X4_clear_0 : Cond.fieldLink RX4 11 "TreeHashes" "registers" "[LTreeHashes$Bytes;" ∈ wsX4_clear := by decide +kernel
theorem i_X4_clear_X4 : ∀ w ∈ wsX40, w ∈ wsX4_clear := by decide +kernel
set_option maxHeartbeats 4000000 in
set_option maxRecDepth 100000 in
theorem c_X4_clear (l : Launch) (D : va_G) (cy : Nat → ClassId) (t : Nat × Nat) (x0 : Nat) (xr : Nat) (xh : Nat) (xf : Nat) (xp : Nat) (xw : Nat) (xy : Nat) (xd : Nat) (rr : Nat → Option Nat) (ri : Nat) (b0 : Nat) (b1 : Nat) (cnt : Nat) (f : Nat → Int32) (hri : rr ri = some b0) (hr8 : ri < 8) (hc : cnt ≤ 200) (sz : Nat) : Met l yX4_clear wsX4_clear ({ frames := 1, cells := 0, slots := 0, locals := 22 }) (PcW D cy t [(x0, .inr (4, [.ref xr, .ref xh, .ref xf, .ref xp, .ref xw, .ref xy, .ref xd])), (xr, .inl (cy 3, 8, .inr (.inr (.inr (.inr (rr)))))), (b0, .inr (0, [.ref b1, .int (nI (cnt))])), (b1, .inl (cy 1, 200, .inl (f)))] [.ref x0, .int (nI (ri))] sz) (QiA D cy (fun (r : Int32) (u : Unit) => (r = nI (cnt - 0))) (fun u : Unit => [(x0, .inr (4, [.ref xr, .ref xh, .ref xf, .ref xp, .ref xw, .ref xy, .ref xd])), (xr, .inl (cy 3, 8, .inr (.inr (.inr (.inr (rr)))))), (b0, .inr (0, [.ref b1, .int (nI (0))])), (b1, .inl (cy 1, 200, .inl (f)))]) (va_A [(x0, .inr (4, [.ref xr, .ref xh, .ref xf, .ref xp, .ref xw, .ref xy, .ref xd])), (xr, .inl (cy 3, 8, .inr (.inr (.inr (.inr (rr)))))), (b0, .inr (0, [.ref b1, .int (nI (cnt))])), (b1, .inl (cy 1, 200, .inl (f)))] sz)) 0 0 (va_A [(x0, .inr (4, [.ref xr, .ref xh, .ref xf, .ref xp, .ref xw, .ref xy, .ref xd])), (xr, .inl (cy 3, 8, .inr (.inr (.inr (.inr (rr)))))), (b0, .inr (0, [.ref b1, .int (nI (cnt))])), (b1, .inl (cy 1, 200, .inl (f)))] sz) := by
  refine M_ofW (cc := cX4_clear) (maxL := 2) (ret := (some .int)) (by decide) rfl (Nat.le_of_ble_eq_true rfl) ?_
  intro p e s m below meth c A ls args Q hQ S0 hr hlocks hnm hK hst hA hW hl
  have hx := S0.1; have hb := S0.2.1; have hml := S0.2.2.1; have hown := S0.2.2.2.1; have hts := S0.2.2.2.2
  have hl : lv_has ls 2 [(0, .ref x0), (1, .int (nI (ri)))] := hl
  refine lv_iload_n hx hb dX4_clear_0 rfl (lv_at hl 1 rfl) ?_
  refine kSi (As := [.int (nI (ri))]) (rest := []) S0 hK hst hA hW [] (fun sz => c_X4_isRegister l D cy t ri (by omega) sz) rfl (by decide) (va_cwS 1 hts gX4_clear_X4_isRegister rfl rfl rfl (by decide +kernel) ⟨Nat.le_of_ble_eq_true rfl, Nat.le_of_ble_eq_true rfl⟩) (fun _ => rfl) rfl hl.1 rfl (Nat.le_of_ble_eq_true rfl) dX4_clear_1 ⟨Nat.le_of_ble_eq_true rfl, Nat.le_of_ble_eq_true rfl⟩ (fun r1 u1 H locs p1 hW => ?_)
  have hW : Wd D A s [(x0, .inr (4, [.ref xr, .ref xh, .ref xf, .ref xp, .ref xw, .ref xy, .ref xd])), (xr, .inl (cy 3, 8, .inr (.inr (.inr (.inr (rr)))))), (b0, .inr (0, [.ref b1, .int (nI (cnt))])), (b1, .inl (cy 1, 200, .inl (f)))] H locs := hW
  have q1 : r1 = nI (1) := p1
  subst q1
  refine zEq (a := 1) (tgt := 20) hx hb dX4_clear_4 (by decide) (by omega) (fun h4 => ?_) (fun h4 => ?_)
  · skip
    exfalso; omega
  · skip
    refine lv_aload_n hx hb dX4_clear_7 rfl (lv_at hl 0 rfl) ?_
    refine va_get (D := D) (ci := 4) (v := .ref xr) (C := RX4) (T := TX4) (N := 7) hx hb hts i_X4_clear_X4 hown hK hW.1 0 rfl rfl 0 (by decide) (hts (.fieldLink RX4 11 "TreeHashes" "registers" "[LTreeHashes$Bytes;") f_X4_clear_0) (fun _ h9 => h9) rfl dX4_clear_8 ?_
    refine lv_iload_n hx hb dX4_clear_11 rfl (lv_at hl 1 rfl) ?_
    refine rA hx hb hK hW 1 (t0 := 3) rfl rfl (k := ri) (by omega) (by decide) (hri) dX4_clear_12 ?_
    refine lv_iconst (v := nI (0)) hx hb dX4_clear_13 (by decide) ?_
    refine kVi (As := [.int (nI (0))]) (rest := []) S0 hK hst hA hW [2, 3] (fun sz => c_X0_keepFirst_n l D cy t b0 b1 200 cnt f 0 (by omega) (by omega) (by omega) sz) rfl (by decide) (cwV 1 hts gX4_clear_X0_keepFirst rfl rfl rfl (by decide +kernel) ⟨Nat.le_of_ble_eq_true rfl, Nat.le_of_ble_eq_true rfl⟩) (fun _ => rfl) 0 0 rfl rfl rfl hl.1 rfl (Nat.le_of_ble_eq_true rfl) dX4_clear_14 ⟨Nat.le_of_ble_eq_true rfl, Nat.le_of_ble_eq_true rfl⟩ (fun r14 u14 H locs p14 hW => ?_)
    have hW : Wd D A s [(x0, .inr (4, [.ref xr, .ref xh, .ref xf, .ref xp, .ref xw, .ref xy, .ref xd])), (xr, .inl (cy 3, 8, .inr (.inr (.inr (.inr (rr)))))), (b0, .inr (0, [.ref b1, .int (nI (0))])), (b1, .inl (cy 1, 200, .inl (f)))] H locs := hW
    have q14 : r14 = nI (cnt - 0) := p14
    subst q14
    refine lv_goto (tgt := 22) hx hb dX4_clear_17 (by decide) ?_
    exact eI hQ hx hb hr hlocks hK hW () (rfl) (rfl) dX4_clear_22

set_option maxHeartbeats 4000000 in
set_option maxRecDepth 100000 in
theorem c_X4_size_b (l : Launch) (D : va_G) (cy : Nat → ClassId) (t : Nat × Nat) (x0 : Nat) (xr : Nat) (xh : Nat) (xf : Nat) (xp : Nat) (xw : Nat) (xy : Nat) (xd : Nat) (x : Int32) (hbd : x < 0 ∨ nI 8 ≤ x) (sz : Nat) : Met l yX4_size wsX4_size ({ frames := 1, cells := 0, slots := 0, locals := 20 }) (PcW D cy t [(x0, .inr (4, [.ref xr, .ref xh, .ref xf, .ref xp, .ref xw, .ref xy, .ref xd]))] [.ref x0, .int (x)] sz) (QiA D cy (fun (r : Int32) (u : Unit) => (r = (-2 : Int32))) (fun u : Unit => [(x0, .inr (4, [.ref xr, .ref xh, .ref xf, .ref xp, .ref xw, .ref xy, .ref xd]))]) (va_A [(x0, .inr (4, [.ref xr, .ref xh, .ref xf, .ref xp, .ref xw, .ref xy, .ref xd]))] sz)) 0 0 (va_A [(x0, .inr (4, [.ref xr, .ref xh, .ref xf, .ref xp, .ref xw, .ref xy, .ref xd]))] sz) := by
  refine M_ofW (cc := cX4_size) (maxL := 2) (ret := (some .int)) (by decide) rfl (Nat.le_of_ble_eq_true rfl) ?_
  intro p e s m below meth c A ls args Q hQ S0 hr hlocks hnm hK hst hA hW hl
  have hx := S0.1; have hb := S0.2.1; have hml := S0.2.2.1; have hown := S0.2.2.2.1; have hts := S0.2.2.2.2
  have hl : lv_has ls 2 [(0, .ref x0), (1, .int (x))] := hl
  refine lv_iload_n hx hb dX4_size_0 rfl (lv_at hl 1 rfl) ?_
  refine kSi (As := [.int (x)]) (rest := []) S0 hK hst hA hW [] (fun sz => c_X4_isRegister_b l D cy t x (hbd) sz) rfl (by decide) (va_cwS 1 hts gX4_size_X4_isRegister rfl rfl rfl (by decide +kernel) ⟨Nat.le_of_ble_eq_true rfl, Nat.le_of_ble_eq_true rfl⟩) (fun _ => rfl) rfl hl.1 rfl (Nat.le_of_ble_eq_true rfl) dX4_size_1 ⟨Nat.le_of_ble_eq_true rfl, Nat.le_of_ble_eq_true rfl⟩ (fun r1 u1 H locs p1 hW => ?_)
  have hW : Wd D A s [(x0, .inr (4, [.ref xr, .ref xh, .ref xf, .ref xp, .ref xw, .ref xy, .ref xd]))] H locs := hW
  have q1 : r1 = nI (0) := p1
  subst q1
  refine zEq (a := 0) (tgt := 19) hx hb dX4_size_4 (by decide) (by omega) (fun h4 => ?_) (fun h4 => ?_)
  · skip
    refine lv_bipush (v := (-2 : Int32)) hx hb dX4_size_19 (by decide) ?_
    exact eI hQ hx hb hr hlocks hK hW () (rfl) (rfl) dX4_size_21
  · skip
    exfalso; omega

theorem f_X4_size_0 : Cond.fieldLink RX4 11 "TreeHashes" "registers" "[LTreeHashes$Bytes;" ∈ wsX4_size := by decide +kernel
theorem i_X4_size_X4 : ∀ w ∈ wsX40, w ∈ wsX4_size := by decide +kernel
theorem i_X4_size_X0 : ∀ w ∈ wsX00, w ∈ wsX4_size := by decide +kernel
set_option maxHeartbeats 4000000 in
set_option maxRecDepth 100000 in
theorem c_X4_size (l : Launch) (D : va_G) (cy : Nat → ClassId) (t : Nat × Nat) (x0 : Nat) (xr : Nat) (xh : Nat) (xf : Nat) (xp : Nat) (xw : Nat) (xy : Nat) (xd : Nat) (rr : Nat → Option Nat) (ri : Nat) (b0 : Nat) (b1 : Nat) (cnt : Nat) (f : Nat → Int32) (hri : rr ri = some b0) (hr8 : ri < 8) (hc : cnt ≤ 200) (sz : Nat) : Met l yX4_size wsX4_size ({ frames := 1, cells := 0, slots := 0, locals := 20 }) (PcW D cy t [(x0, .inr (4, [.ref xr, .ref xh, .ref xf, .ref xp, .ref xw, .ref xy, .ref xd])), (xr, .inl (cy 3, 8, .inr (.inr (.inr (.inr (rr)))))), (b0, .inr (0, [.ref b1, .int (nI (cnt))])), (b1, .inl (cy 1, 200, .inl (f)))] [.ref x0, .int (nI (ri))] sz) (QiA D cy (fun (r : Int32) (u : Unit) => (r = nI (cnt))) (fun u : Unit => [(x0, .inr (4, [.ref xr, .ref xh, .ref xf, .ref xp, .ref xw, .ref xy, .ref xd])), (xr, .inl (cy 3, 8, .inr (.inr (.inr (.inr (rr)))))), (b0, .inr (0, [.ref b1, .int (nI (cnt))])), (b1, .inl (cy 1, 200, .inl (f)))]) (va_A [(x0, .inr (4, [.ref xr, .ref xh, .ref xf, .ref xp, .ref xw, .ref xy, .ref xd])), (xr, .inl (cy 3, 8, .inr (.inr (.inr (.inr (rr)))))), (b0, .inr (0, [.ref b1, .int (nI (cnt))])), (b1, .inl (cy 1, 200, .inl (f)))] sz)) 0 0 (va_A [(x0, .inr (4, [.ref xr, .ref xh, .ref xf, .ref xp, .ref xw, .ref xy, .ref xd])), (xr, .inl (cy 3, 8, .inr (.inr (.inr (.inr (rr)))))), (b0, .inr (0, [.ref b1, .int (nI (cnt))])), (b1, .inl (cy 1, 200, .inl (f)))] sz) := by
  refine M_ofW (cc := cX4_size) (maxL := 2) (ret := (some .int)) (by decide) rfl (Nat.le_of_ble_eq_true rfl) ?_
  intro p e s m below meth c A ls args Q hQ S0 hr hlocks hnm hK hst hA hW hl
  have hx := S0.1; have hb := S0.2.1; have hml := S0.2.2.1; have hown := S0.2.2.2.1; have hts := S0.2.2.2.2
  have hl : lv_has ls 2 [(0, .ref x0), (1, .int (nI (ri)))] := hl
  refine lv_iload_n hx hb dX4_size_0 rfl (lv_at hl 1 rfl) ?_
  refine kSi (As := [.int (nI (ri))]) (rest := []) S0 hK hst hA hW [] (fun sz => c_X4_isRegister l D cy t ri (by omega) sz) rfl (by decide) (va_cwS 1 hts gX4_size_X4_isRegister rfl rfl rfl (by decide +kernel) ⟨Nat.le_of_ble_eq_true rfl, Nat.le_of_ble_eq_true rfl⟩) (fun _ => rfl) rfl hl.1 rfl (Nat.le_of_ble_eq_true rfl) dX4_size_1 ⟨Nat.le_of_ble_eq_true rfl, Nat.le_of_ble_eq_true rfl⟩ (fun r1 u1 H locs p1 hW => ?_)
  have hW : Wd D A s [(x0, .inr (4, [.ref xr, .ref xh, .ref xf, .ref xp, .ref xw, .ref xy, .ref xd])), (xr, .inl (cy 3, 8, .inr (.inr (.inr (.inr (rr)))))), (b0, .inr (0, [.ref b1, .int (nI (cnt))])), (b1, .inl (cy 1, 200, .inl (f)))] H locs := hW
  have q1 : r1 = nI (1) := p1
  subst q1
  refine zEq (a := 1) (tgt := 19) hx hb dX4_size_4 (by decide) (by omega) (fun h4 => ?_) (fun h4 => ?_)
  · skip
    exfalso; omega
  · skip
    refine lv_aload_n hx hb dX4_size_7 rfl (lv_at hl 0 rfl) ?_
    refine va_get (D := D) (ci := 4) (v := .ref xr) (C := RX4) (T := TX4) (N := 7) hx hb hts i_X4_size_X4 hown hK hW.1 0 rfl rfl 0 (by decide) (hts (.fieldLink RX4 11 "TreeHashes" "registers" "[LTreeHashes$Bytes;") f_X4_size_0) (fun _ h9 => h9) rfl dX4_size_8 ?_
    refine lv_iload_n hx hb dX4_size_11 rfl (lv_at hl 1 rfl) ?_
    refine rA hx hb hK hW 1 (t0 := 3) rfl rfl (k := ri) (by omega) (by decide) (hri) dX4_size_12 ?_
    refine va_getN (D := D) (ci := 0) (v := .int (nI (cnt))) (C := RX0) (T := TX0) (N := 2) hx hb hts i_X4_size_X0 hown hK hW.1 2 rfl rfl 1 (by decide) (va_Nw.use rfl (hst.2.2.1 ("TreeHashes", 57, "TreeHashes$Bytes", "count", "I", "TreeHashes") (by decide))) (fun _ h9 => h9) rfl dX4_size_13 ?_
    refine lv_goto (tgt := 21) hx hb dX4_size_16 (by decide) ?_
    exact eI hQ hx hb hr hlocks hK hW () (rfl) (rfl) dX4_size_21

set_option maxHeartbeats 4000000 in
set_option maxRecDepth 100000 in
theorem c_X4_at_b (l : Launch) (D : va_G) (cy : Nat → ClassId) (t : Nat × Nat) (x0 : Nat) (xr : Nat) (xh : Nat) (xf : Nat) (xp : Nat) (xw : Nat) (xy : Nat) (xd : Nat) (x : Int32) (y : Int32) (hbd : x < 0 ∨ nI 8 ≤ x) (sz : Nat) : Met l yX4_at wsX4_at ({ frames := 1, cells := 0, slots := 0, locals := 20 }) (PcW D cy t [(x0, .inr (4, [.ref xr, .ref xh, .ref xf, .ref xp, .ref xw, .ref xy, .ref xd]))] [.ref x0, .int (x), .int (y)] sz) (QiA D cy (fun (r : Int32) (u : Unit) => (r = (-2 : Int32))) (fun u : Unit => [(x0, .inr (4, [.ref xr, .ref xh, .ref xf, .ref xp, .ref xw, .ref xy, .ref xd]))]) (va_A [(x0, .inr (4, [.ref xr, .ref xh, .ref xf, .ref xp, .ref xw, .ref xy, .ref xd]))] sz)) 0 0 (va_A [(x0, .inr (4, [.ref xr, .ref xh, .ref xf, .ref xp, .ref xw, .ref xy, .ref xd]))] sz) := by
  refine M_ofW (cc := cX4_at) (maxL := 3) (ret := (some .int)) (by decide) rfl (Nat.le_of_ble_eq_true rfl) ?_
  intro p e s m below meth c A ls args Q hQ S0 hr hlocks hnm hK hst hA hW hl
  have hx := S0.1; have hb := S0.2.1; have hml := S0.2.2.1; have hown := S0.2.2.2.1; have hts := S0.2.2.2.2
  have hl : lv_has ls 3 [(0, .ref x0), (1, .int (x)), (2, .int (y))] := hl
  refine lv_iload_n hx hb dX4_at_0 rfl (lv_at hl 1 rfl) ?_
  refine kSi (As := [.int (x)]) (rest := []) S0 hK hst hA hW [] (fun sz => c_X4_isRegister_b l D cy t x (hbd) sz) rfl (by decide) (va_cwS 1 hts gX4_at_X4_isRegister rfl rfl rfl (by decide +kernel) ⟨Nat.le_of_ble_eq_true rfl, Nat.le_of_ble_eq_true rfl⟩) (fun _ => rfl) rfl hl.1 rfl (Nat.le_of_ble_eq_true rfl) dX4_at_1 ⟨Nat.le_of_ble_eq_true rfl, Nat.le_of_ble_eq_true rfl⟩ (fun r1 u1 H locs p1 hW => ?_)
  have hW : Wd D A s [(x0, .inr (4, [.ref xr, .ref xh, .ref xf, .ref xp, .ref xw, .ref xy, .ref xd]))] H locs := hW
  have q1 : r1 = nI (0) := p1
  subst q1
  refine zEq (a := 0) (tgt := 20) hx hb dX4_at_4 (by decide) (by omega) (fun h4 => ?_) (fun h4 => ?_)
  · skip
    refine lv_bipush (v := (-2 : Int32)) hx hb dX4_at_20 (by decide) ?_
    exact eI hQ hx hb hr hlocks hK hW () (rfl) (rfl) dX4_at_22
  · skip
    exfalso; omega

theorem f_X4_at_0 : Cond.fieldLink RX4 11 "TreeHashes" "registers" "[LTreeHashes$Bytes;" ∈ wsX4_at := by decide +kernel
theorem i_X4_at_X4 : ∀ w ∈ wsX40, w ∈ wsX4_at := by decide +kernel
set_option maxHeartbeats 4000000 in
set_option maxRecDepth 100000 in
theorem c_X4_at (l : Launch) (D : va_G) (cy : Nat → ClassId) (t : Nat × Nat) (x0 : Nat) (xr : Nat) (xh : Nat) (xf : Nat) (xp : Nat) (xw : Nat) (xy : Nat) (xd : Nat) (rr : Nat → Option Nat) (ri : Nat) (b0 : Nat) (b1 : Nat) (cnt : Nat) (f : Nat → Int32) (y : Int32) (hri : rr ri = some b0) (hr8 : ri < 8) (hc : cnt ≤ 200) (sz : Nat) : Met l yX4_at wsX4_at ({ frames := 1, cells := 0, slots := 0, locals := 21 }) (PcW D cy t [(x0, .inr (4, [.ref xr, .ref xh, .ref xf, .ref xp, .ref xw, .ref xy, .ref xd])), (xr, .inl (cy 3, 8, .inr (.inr (.inr (.inr (rr)))))), (b0, .inr (0, [.ref b1, .int (nI (cnt))])), (b1, .inl (cy 1, 200, .inl (f)))] [.ref x0, .int (nI (ri)), .int (y)] sz) (QiA D cy (fun (r : Int32) (u : Unit) => (r = byt f cnt y)) (fun u : Unit => [(x0, .inr (4, [.ref xr, .ref xh, .ref xf, .ref xp, .ref xw, .ref xy, .ref xd])), (xr, .inl (cy 3, 8, .inr (.inr (.inr (.inr (rr)))))), (b0, .inr (0, [.ref b1, .int (nI (cnt))])), (b1, .inl (cy 1, 200, .inl (f)))]) (va_A [(x0, .inr (4, [.ref xr, .ref xh, .ref xf, .ref xp, .ref xw, .ref xy, .ref xd])), (xr, .inl (cy 3, 8, .inr (.inr (.inr (.inr (rr)))))), (b0, .inr (0, [.ref b1, .int (nI (cnt))])), (b1, .inl (cy 1, 200, .inl (f)))] sz)) 0 0 (va_A [(x0, .inr (4, [.ref xr, .ref xh, .ref xf, .ref xp, .ref xw, .ref xy, .ref xd])), (xr, .inl (cy 3, 8, .inr (.inr (.inr (.inr (rr)))))), (b0, .inr (0, [.ref b1, .int (nI (cnt))])), (b1, .inl (cy 1, 200, .inl (f)))] sz) := by
  refine M_ofW (cc := cX4_at) (maxL := 3) (ret := (some .int)) (by decide) rfl (Nat.le_of_ble_eq_true rfl) ?_
  intro p e s m below meth c A ls args Q hQ S0 hr hlocks hnm hK hst hA hW hl
  have hx := S0.1; have hb := S0.2.1; have hml := S0.2.2.1; have hown := S0.2.2.2.1; have hts := S0.2.2.2.2
  have hl : lv_has ls 3 [(0, .ref x0), (1, .int (nI (ri))), (2, .int (y))] := hl
  refine lv_iload_n hx hb dX4_at_0 rfl (lv_at hl 1 rfl) ?_
  refine kSi (As := [.int (nI (ri))]) (rest := []) S0 hK hst hA hW [] (fun sz => c_X4_isRegister l D cy t ri (by omega) sz) rfl (by decide) (va_cwS 1 hts gX4_at_X4_isRegister rfl rfl rfl (by decide +kernel) ⟨Nat.le_of_ble_eq_true rfl, Nat.le_of_ble_eq_true rfl⟩) (fun _ => rfl) rfl hl.1 rfl (Nat.le_of_ble_eq_true rfl) dX4_at_1 ⟨Nat.le_of_ble_eq_true rfl, Nat.le_of_ble_eq_true rfl⟩ (fun r1 u1 H locs p1 hW => ?_)
  have hW : Wd D A s [(x0, .inr (4, [.ref xr, .ref xh, .ref xf, .ref xp, .ref xw, .ref xy, .ref xd])), (xr, .inl (cy 3, 8, .inr (.inr (.inr (.inr (rr)))))), (b0, .inr (0, [.ref b1, .int (nI (cnt))])), (b1, .inl (cy 1, 200, .inl (f)))] H locs := hW
  have q1 : r1 = nI (1) := p1
  subst q1
  refine zEq (a := 1) (tgt := 20) hx hb dX4_at_4 (by decide) (by omega) (fun h4 => ?_) (fun h4 => ?_)
  · skip
    exfalso; omega
  · skip
    refine lv_aload_n hx hb dX4_at_7 rfl (lv_at hl 0 rfl) ?_
    refine va_get (D := D) (ci := 4) (v := .ref xr) (C := RX4) (T := TX4) (N := 7) hx hb hts i_X4_at_X4 hown hK hW.1 0 rfl rfl 0 (by decide) (hts (.fieldLink RX4 11 "TreeHashes" "registers" "[LTreeHashes$Bytes;") f_X4_at_0) (fun _ h9 => h9) rfl dX4_at_8 ?_
    refine lv_iload_n hx hb dX4_at_11 rfl (lv_at hl 1 rfl) ?_
    refine rA hx hb hK hW 1 (t0 := 3) rfl rfl (k := ri) (by omega) (by decide) (hri) dX4_at_12 ?_
    refine lv_iload_n hx hb dX4_at_13 rfl (lv_at hl 2 rfl) ?_
    refine kVi (As := [.int (y)]) (rest := []) S0 hK hst hA hW [2, 3] (fun sz => c_X0_byteAt l D cy t b0 b1 200 cnt f y (by omega) (by omega) sz) rfl (by decide) (cwV 1 hts gX4_at_X0_byteAt rfl rfl rfl (by decide +kernel) ⟨Nat.le_of_ble_eq_true rfl, Nat.le_of_ble_eq_true rfl⟩) (fun _ => rfl) 0 0 rfl rfl rfl hl.1 rfl (Nat.le_of_ble_eq_true rfl) dX4_at_14 ⟨Nat.le_of_ble_eq_true rfl, Nat.le_of_ble_eq_true rfl⟩ (fun r14 u14 H locs p14 hW => ?_)
    have hW : Wd D A s [(x0, .inr (4, [.ref xr, .ref xh, .ref xf, .ref xp, .ref xw, .ref xy, .ref xd])), (xr, .inl (cy 3, 8, .inr (.inr (.inr (.inr (rr)))))), (b0, .inr (0, [.ref b1, .int (nI (cnt))])), (b1, .inl (cy 1, 200, .inl (f)))] H locs := hW
    have q14 : r14 = byt f cnt y := p14
    subst q14
    refine lv_goto (tgt := 22) hx hb dX4_at_17 (by decide) ?_
    exact eI hQ hx hb hr hlocks hK hW () (rfl) (rfl) dX4_at_22

set_option maxHeartbeats 4000000 in
set_option maxRecDepth 100000 in
theorem c_X4_grow_b (l : Launch) (D : va_G) (cy : Nat → ClassId) (t : Nat × Nat) (x0 : Nat) (xr : Nat) (xh : Nat) (xf : Nat) (xp : Nat) (xw : Nat) (xy : Nat) (xd : Nat) (x : Int32) (fr : Int32) (sp : Int32) (hbn : x < nI 1 ∨ nI 5000 < x) (sz : Nat) : Met l yX4_grow wsX4_grow ({ frames := 0, cells := 0, slots := 0, locals := 0 }) (PcW D cy t [(x0, .inr (4, [.ref xr, .ref xh, .ref xf, .ref xp, .ref xw, .ref xy, .ref xd]))] [.ref x0, .int (x), .int (fr), .int (sp)] sz) (QiA D cy (fun (r : Int32) (u : Unit) => (r = (-2 : Int32))) (fun u : Unit => [(x0, .inr (4, [.ref xr, .ref xh, .ref xf, .ref xp, .ref xw, .ref xy, .ref xd]))]) (va_A [(x0, .inr (4, [.ref xr, .ref xh, .ref xf, .ref xp, .ref xw, .ref xy, .ref xd]))] sz)) 0 0 (va_A [(x0, .inr (4, [.ref xr, .ref xh, .ref xf, .ref xp, .ref xw, .ref xy, .ref xd]))] sz) := by
  refine M_ofW (cc := cX4_grow) (maxL := 5) (ret := (some .int)) (by decide) rfl (Nat.le_of_ble_eq_true rfl) ?_
  intro p e s m below meth c A ls args Q hQ S0 hr hlocks hnm hK hst hA hW hl
  have hx := S0.1; have hb := S0.2.1; have hml := S0.2.2.1; have hown := S0.2.2.2.1; have hts := S0.2.2.2.2
  have hl : lv_has ls 5 [(0, .ref x0), (1, .int (x)), (2, .int (fr)), (3, .int (sp))] := hl
  refine lv_iload_n hx hb dX4_grow_0 rfl (lv_at hl 1 rfl) ?_
  refine lv_iconst (v := nI (1)) hx hb dX4_grow_1 (by decide) ?_
  refine lv_icmp_lt (tgt := 12) hx hb dX4_grow_2 (by decide) (fun h2 => ?_) (fun h2 => ?_)
  · skip
    refine lv_bipush (v := (-2 : Int32)) hx hb dX4_grow_12 (by decide) ?_
    exact eI hQ hx hb hr hlocks hK hW () (rfl) (rfl) dX4_grow_14
  · skip
    refine lv_iload_n hx hb dX4_grow_5 rfl (lv_at hl 1 rfl) ?_
    refine lv_sipush (v := nI (5000)) hx hb dX4_grow_6 (by decide) ?_
    refine lv_icmp_le (tgt := 15) hx hb dX4_grow_9 (by decide) (fun h9 => ?_) (fun h9 => ?_)
    · skip
      exact hbn.elim (fun q => absurd q h2) (fun q => absurd h9 (Int32.not_le.mpr q))
    · skip
      refine lv_bipush (v := (-2 : Int32)) hx hb dX4_grow_12 (by decide) ?_
      exact eI hQ hx hb hr hlocks hK hW () (rfl) (rfl) dX4_grow_14

theorem f_X4_grow_r_0 : Cond.fieldLink RX4 24 "TreeHashes" "file" "LTreeHashes$Bytes;" ∈ wsX4_grow := by decide +kernel
theorem i_X4_grow_r_X4 : ∀ w ∈ wsX40, w ∈ wsX4_grow := by decide +kernel
set_option maxHeartbeats 4000000 in
set_option maxRecDepth 100000 in
theorem c_X4_grow_r (l : Launch) (D : va_G) (cy : Nat → ClassId) (t : Nat × Nat) (x0 : Nat) (xr : Nat) (xh : Nat) (xf : Nat) (xp : Nat) (xw : Nat) (xy : Nat) (xd : Nat) (f1 : Nat) (fn0 : Nat) (ff : Nat → Int32) (n : Nat) (fr : Int32) (sp : Int32) (hc : fn0 ≤ 20000) (hn1 : 1 ≤ n) (hn5 : n ≤ 5000) (hfull : 20000 < fn0 + n) (sz : Nat) : Met l yX4_grow wsX4_grow ({ frames := 1, cells := 0, slots := 0, locals := 21 }) (PcW D cy t [(x0, .inr (4, [.ref xr, .ref xh, .ref xf, .ref xp, .ref xw, .ref xy, .ref xd])), (xf, .inr (0, [.ref f1, .int (nI (fn0))])), (f1, .inl (cy 1, 20000, .inl (ff)))] [.ref x0, .int (nI (n)), .int (fr), .int (sp)] sz) (QiA D cy (fun (r : Int32) (u : Unit) => (r = (-3 : Int32))) (fun u : Unit => [(x0, .inr (4, [.ref xr, .ref xh, .ref xf, .ref xp, .ref xw, .ref xy, .ref xd])), (xf, .inr (0, [.ref f1, .int (nI (fn0))])), (f1, .inl (cy 1, 20000, .inl (ff)))]) (va_A [(x0, .inr (4, [.ref xr, .ref xh, .ref xf, .ref xp, .ref xw, .ref xy, .ref xd])), (xf, .inr (0, [.ref f1, .int (nI (fn0))])), (f1, .inl (cy 1, 20000, .inl (ff)))] sz)) 0 0 (va_A [(x0, .inr (4, [.ref xr, .ref xh, .ref xf, .ref xp, .ref xw, .ref xy, .ref xd])), (xf, .inr (0, [.ref f1, .int (nI (fn0))])), (f1, .inl (cy 1, 20000, .inl (ff)))] sz) := by
  refine M_ofW (cc := cX4_grow) (maxL := 5) (ret := (some .int)) (by decide) rfl (Nat.le_of_ble_eq_true rfl) ?_
  intro p e s m below meth c A ls args Q hQ S0 hr hlocks hnm hK hst hA hW hl
  have hx := S0.1; have hb := S0.2.1; have hml := S0.2.2.1; have hown := S0.2.2.2.1; have hts := S0.2.2.2.2
  have hl : lv_has ls 5 [(0, .ref x0), (1, .int (nI (n))), (2, .int (fr)), (3, .int (sp))] := hl
  refine lv_iload_n hx hb dX4_grow_0 rfl (lv_at hl 1 rfl) ?_
  refine lv_iconst (v := nI (1)) hx hb dX4_grow_1 (by decide) ?_
  refine iLt (a := n) (b := 1) (tgt := 12) hx hb dX4_grow_2 (by decide) (by omega) (by omega) (fun h2 => ?_) (fun h2 => ?_)
  · skip
    exfalso; omega
  · skip
    refine lv_iload_n hx hb dX4_grow_5 rfl (lv_at hl 1 rfl) ?_
    refine lv_sipush (v := nI (5000)) hx hb dX4_grow_6 (by decide) ?_
    refine iLe (a := n) (b := 5000) (tgt := 15) hx hb dX4_grow_9 (by decide) (by omega) (by omega) (fun h9 => ?_) (fun h9 => ?_)
    · skip
      refine lv_aload_n hx hb dX4_grow_15 rfl (lv_at hl 0 rfl) ?_
      refine va_get (D := D) (ci := 4) (v := .ref xf) (C := RX4) (T := TX4) (N := 7) hx hb hts i_X4_grow_r_X4 hown hK hW.1 0 rfl rfl 2 (by decide) (hts (.fieldLink RX4 24 "TreeHashes" "file" "LTreeHashes$Bytes;") f_X4_grow_r_0) (fun _ h9 => h9) rfl dX4_grow_16 ?_
      refine lv_iload_n hx hb dX4_grow_19 rfl (lv_at hl 1 rfl) ?_
      refine kVi (As := [.int (nI (n))]) (rest := []) S0 hK hst hA hW [1, 2] (fun sz => c_X0_hasRoomFor l D cy t xf f1 20000 fn0 ff (nI (n)) (by omega) (by omega) sz) rfl (by decide) (cwV 1 hts gX4_grow_X0_hasRoomFor rfl rfl rfl (by decide +kernel) ⟨Nat.le_of_ble_eq_true rfl, Nat.le_of_ble_eq_true rfl⟩) (fun _ => rfl) 0 0 rfl rfl rfl hl.1 rfl (Nat.le_of_ble_eq_true rfl) dX4_grow_20 ⟨Nat.le_of_ble_eq_true rfl, Nat.le_of_ble_eq_true rfl⟩ (fun r20 u20 H locs p20 hW => ?_)
      have hW : Wd D A s [(x0, .inr (4, [.ref xr, .ref xh, .ref xf, .ref xp, .ref xw, .ref xy, .ref xd])), (xf, .inr (0, [.ref f1, .int (nI (fn0))])), (f1, .inl (cy 1, 20000, .inl (ff)))] H locs := hW
      have q20 : r20 = if (nI (n)) ≤ nI (20000 - fn0) then (1 : Int32) else 0 := p20
      subst q20
      refine tI (x' := nI (0)) (if_neg (Int32.not_le.mpr ((nI_ltI (by omega) (by omega)).mpr (by omega)))) ?_
      refine zNe (a := 0) (tgt := 29) hx hb dX4_grow_23 (by decide) (by omega) (fun h23 => ?_) (fun h23 => ?_)
      · skip
        exfalso; omega
      · skip
        refine lv_bipush (v := (-3 : Int32)) hx hb dX4_grow_26 (by decide) ?_
        exact eI hQ hx hb hr hlocks hK hW () (rfl) (rfl) dX4_grow_28
    · skip
      exfalso; omega

theorem f_X4_grow_0 : Cond.fieldLink RX4 24 "TreeHashes" "file" "LTreeHashes$Bytes;" ∈ wsX4_grow := by decide +kernel
theorem i_X4_grow_X4 : ∀ w ∈ wsX40, w ∈ wsX4_grow := by decide +kernel
theorem i_X4_grow_X0 : ∀ w ∈ wsX00, w ∈ wsX4_grow := by decide +kernel
set_option maxHeartbeats 4000000 in
set_option maxRecDepth 100000 in
theorem c_X4_grow (l : Launch) (D : va_G) (cy : Nat → ClassId) (t : Nat × Nat) (x0 : Nat) (xr : Nat) (xh : Nat) (xf : Nat) (xp : Nat) (xw : Nat) (xy : Nat) (xd : Nat) (f1 : Nat) (fn0 : Nat) (ff : Nat → Int32) (n : Nat) (fr : Int32) (sp : Int32) (hc : fn0 ≤ 20000) (hn1 : 1 ≤ n) (hn5 : n ≤ 5000) (hfit : fn0 + n ≤ 20000) (sz : Nat) : Met l yX4_grow wsX4_grow ({ frames := 1, cells := 0, slots := 0, locals := 21 }) (PcW D cy t [(x0, .inr (4, [.ref xr, .ref xh, .ref xf, .ref xp, .ref xw, .ref xy, .ref xd])), (xf, .inr (0, [.ref f1, .int (nI (fn0))])), (f1, .inl (cy 1, 20000, .inl (ff)))] [.ref x0, .int (nI (n)), .int (fr), .int (sp)] sz) (QiA D cy (fun (r : Int32) (u : Unit) => (r = nI (fn0 + n))) (fun u : Unit => [(x0, .inr (4, [.ref xr, .ref xh, .ref xf, .ref xp, .ref xw, .ref xy, .ref xd])), (xf, .inr (0, [.ref f1, .int (nI (fn0 + n))])), (f1, .inl (cy 1, 20000, .inl (apG ff fn0 (fun i => b8 (fr + ((nI (i)) * sp))) n)))]) (va_A [(x0, .inr (4, [.ref xr, .ref xh, .ref xf, .ref xp, .ref xw, .ref xy, .ref xd])), (xf, .inr (0, [.ref f1, .int (nI (fn0))])), (f1, .inl (cy 1, 20000, .inl (ff)))] sz)) 0 0 (va_A [(x0, .inr (4, [.ref xr, .ref xh, .ref xf, .ref xp, .ref xw, .ref xy, .ref xd])), (xf, .inr (0, [.ref f1, .int (nI (fn0))])), (f1, .inl (cy 1, 20000, .inl (ff)))] sz) := by
  refine M_ofW (cc := cX4_grow) (maxL := 5) (ret := (some .int)) (by decide) rfl (Nat.le_of_ble_eq_true rfl) ?_
  intro p e s m below meth c A ls args Q hQ S0 hr hlocks hnm hK hst hA hW hl
  have hx := S0.1; have hb := S0.2.1; have hml := S0.2.2.1; have hown := S0.2.2.2.1; have hts := S0.2.2.2.2
  have hl : lv_has ls 5 [(0, .ref x0), (1, .int (nI (n))), (2, .int (fr)), (3, .int (sp))] := hl
  refine lv_iload_n hx hb dX4_grow_0 rfl (lv_at hl 1 rfl) ?_
  refine lv_iconst (v := nI (1)) hx hb dX4_grow_1 (by decide) ?_
  refine iLt (a := n) (b := 1) (tgt := 12) hx hb dX4_grow_2 (by decide) (by omega) (by omega) (fun h2 => ?_) (fun h2 => ?_)
  · skip
    exfalso; omega
  · skip
    refine lv_iload_n hx hb dX4_grow_5 rfl (lv_at hl 1 rfl) ?_
    refine lv_sipush (v := nI (5000)) hx hb dX4_grow_6 (by decide) ?_
    refine iLe (a := n) (b := 5000) (tgt := 15) hx hb dX4_grow_9 (by decide) (by omega) (by omega) (fun h9 => ?_) (fun h9 => ?_)
    · skip
      refine lv_aload_n hx hb dX4_grow_15 rfl (lv_at hl 0 rfl) ?_
      refine va_get (D := D) (ci := 4) (v := .ref xf) (C := RX4) (T := TX4) (N := 7) hx hb hts i_X4_grow_X4 hown hK hW.1 0 rfl rfl 2 (by decide) (hts (.fieldLink RX4 24 "TreeHashes" "file" "LTreeHashes$Bytes;") f_X4_grow_0) (fun _ h9 => h9) rfl dX4_grow_16 ?_
      refine lv_iload_n hx hb dX4_grow_19 rfl (lv_at hl 1 rfl) ?_
      refine kVi (As := [.int (nI (n))]) (rest := []) S0 hK hst hA hW [1, 2] (fun sz => c_X0_hasRoomFor l D cy t xf f1 20000 fn0 ff (nI (n)) (by omega) (by omega) sz) rfl (by decide) (cwV 1 hts gX4_grow_X0_hasRoomFor rfl rfl rfl (by decide +kernel) ⟨Nat.le_of_ble_eq_true rfl, Nat.le_of_ble_eq_true rfl⟩) (fun _ => rfl) 0 0 rfl rfl rfl hl.1 rfl (Nat.le_of_ble_eq_true rfl) dX4_grow_20 ⟨Nat.le_of_ble_eq_true rfl, Nat.le_of_ble_eq_true rfl⟩ (fun r20 u20 H locs p20 hW => ?_)
      have hW : Wd D A s [(x0, .inr (4, [.ref xr, .ref xh, .ref xf, .ref xp, .ref xw, .ref xy, .ref xd])), (xf, .inr (0, [.ref f1, .int (nI (fn0))])), (f1, .inl (cy 1, 20000, .inl (ff)))] H locs := hW
      have q20 : r20 = if (nI (n)) ≤ nI (20000 - fn0) then (1 : Int32) else 0 := p20
      subst q20
      refine tI (x' := nI (1)) (if_pos ((nI_leI (by omega) (by omega)).mpr (by omega))) ?_
      refine zNe (a := 1) (tgt := 29) hx hb dX4_grow_23 (by decide) (by omega) (fun h23 => ?_) (fun h23 => ?_)
      · skip
        refine lv_iconst (v := nI (0)) hx hb dX4_grow_29 (by decide) ?_
        refine lv_istore (lv' := [(4, .int (nI (0))), (0, .ref x0), (1, .int (nI (n))), (2, .int (fr)), (3, .int (sp))]) hx hb dX4_grow_30 hl (by decide) rfl (fun ls hl => ?_)
        have loop32 : ∀ (nF : Nat) (i : Nat), n - i < nF → (i ≤ n) → ∀ (H : Heap) (locs : List Loc), Wd D A s [(x0, .inr (4, [.ref xr, .ref xh, .ref xf, .ref xp, .ref xw, .ref xy, .ref xd])), (xf, .inr (0, [.ref f1, .int (nI (fn0 + i))])), (f1, .inl (cy 1, 20000, .inl (apG ff fn0 (fun i => b8 (fr + ((nI (i)) * sp))) i)))] H locs → ∀ ls : Array Slot, lv_has ls 5 [(0, .ref x0), (1, .int (nI (n))), (2, .int (fr)), (3, .int (sp)), (4, .int (nI (i)))] → W p l e ({ frames := 1, cells := 0, slots := 0, locals := 21 }) s m args below meth c H locs 0 0 Q (F0 m 32 ls []) := by
          intro nF
          induction nF with
          | zero => intro i hf; exact absurd hf (Nat.not_lt_zero _)
          | succ nF ih32 =>
            intro i hf hi H locs hW ls hl
            refine lv_iload hx hb dX4_grow_32 (lv_at hl 4 rfl) ?_
            refine lv_iload_n hx hb dX4_grow_34 rfl (lv_at hl 1 rfl) ?_
            refine iGe (a := i) (b := n) (tgt := 57) hx hb dX4_grow_35 (by decide) (by omega) (by omega) (fun h35 => ?_) (fun h35 => ?_)
            · skip
              refine lv_aload_n hx hb dX4_grow_57 rfl (lv_at hl 0 rfl) ?_
              refine va_get (D := D) (ci := 4) (v := .ref xf) (C := RX4) (T := TX4) (N := 7) hx hb hts i_X4_grow_X4 hown hK hW.1 0 rfl rfl 2 (by decide) (hts (.fieldLink RX4 24 "TreeHashes" "file" "LTreeHashes$Bytes;") f_X4_grow_0) (fun _ h9 => h9) rfl dX4_grow_58 ?_
              refine va_getN (D := D) (ci := 0) (v := .int (nI (fn0 + i))) (C := RX0) (T := TX0) (N := 2) hx hb hts i_X4_grow_X0 hown hK hW.1 1 rfl rfl 1 (by decide) (va_Nw.use rfl (hst.2.2.1 ("TreeHashes", 57, "TreeHashes$Bytes", "count", "I", "TreeHashes") (by decide))) (fun _ h9 => h9) rfl dX4_grow_61 ?_
              have e9 : i = n := by omega
              rw [e9] at hW
              exact eI hQ hx hb hr hlocks hK hW () (by rw [e9]) (rfl) dX4_grow_64
            · skip
              refine lv_aload_n hx hb dX4_grow_38 rfl (lv_at hl 0 rfl) ?_
              refine va_get (D := D) (ci := 4) (v := .ref xf) (C := RX4) (T := TX4) (N := 7) hx hb hts i_X4_grow_X4 hown hK hW.1 0 rfl rfl 2 (by decide) (hts (.fieldLink RX4 24 "TreeHashes" "file" "LTreeHashes$Bytes;") f_X4_grow_0) (fun _ h9 => h9) rfl dX4_grow_39 ?_
              refine lv_iload_n hx hb dX4_grow_42 rfl (lv_at hl 2 rfl) ?_
              refine lv_iload hx hb dX4_grow_43 (lv_at hl 4 rfl) ?_
              refine lv_iload_n hx hb dX4_grow_45 rfl (lv_at hl 3 rfl) ?_
              refine lv_imul hx hb dX4_grow_46 ?_
              refine lv_iadd hx hb dX4_grow_47 ?_
              refine kVv (As := [.int (fr + ((nI (i)) * sp))]) (rest := []) S0 hK hst hA hW [1, 2] (fun sz => c_X0_append l D cy t xf f1 20000 (fn0 + i) (apG ff fn0 (fun i => b8 (fr + ((nI (i)) * sp))) i) (fr + ((nI (i)) * sp)) (by omega) (by omega) sz) rfl (by decide) (cwV 1 hts gX4_grow_X0_append rfl rfl rfl (by decide +kernel) ⟨Nat.le_of_ble_eq_true rfl, Nat.le_of_ble_eq_true rfl⟩) (fun _ => rfl) 0 0 rfl rfl rfl hl.1 rfl (Nat.le_of_ble_eq_true rfl) dX4_grow_48 ⟨Nat.le_of_ble_eq_true rfl, Nat.le_of_ble_eq_true rfl⟩ (fun u48 H locs p48 hW => ?_)
              have hW : Wd D A s [(x0, .inr (4, [.ref xr, .ref xh, .ref xf, .ref xp, .ref xw, .ref xy, .ref xd])), (xf, .inr (0, [.ref f1, .int (nI ((fn0 + i) + 1))])), (f1, .inl (cy 1, 20000, .inl (upd (apG ff fn0 (fun i => b8 (fr + ((nI (i)) * sp))) i) (fn0 + i) (b8 (fr + ((nI (i)) * sp))))))] H locs := hW
              rw [show (upd (apG ff fn0 (fun i => b8 (fr + ((nI (i)) * sp))) i) (fn0 + i) (b8 (fr + ((nI (i)) * sp)))) = (apG ff fn0 (fun i => b8 (fr + ((nI (i)) * sp))) (i + 1)) from apG_s ff fn0 (fun i => b8 (fr + ((nI (i)) * sp))) i] at hW
              have hW : Wd D A s [(x0, .inr (4, [.ref xr, .ref xh, .ref xf, .ref xp, .ref xw, .ref xy, .ref xd])), (xf, .inr (0, [.ref f1, .int (nI ((fn0 + i) + 1))])), (f1, .inl (cy 1, 20000, .inl (apG ff fn0 (fun i => b8 (fr + ((nI (i)) * sp))) (i + 1))))] H locs := hW
              refine lv_iinc (v := nI (i + 1)) (lv' := [(4, .int (nI (i + 1))), (0, .ref x0), (1, .int (nI (n))), (2, .int (fr)), (3, .int (sp))]) hx hb dX4_grow_51 hl (k := 4) rfl (nI_1 _) (by decide) rfl (fun ls hl => ?_)
              refine lv_goto (tgt := 32) hx hb dX4_grow_54 (by decide) ?_
              exact ih32 (i + 1) (by omega) (by omega) _ _ hW _ (lv_sub hl [1, 2, 3, 4, 0] rfl)
        rw [← apG_0 ff fn0 (fun i => b8 (fr + ((nI (i)) * sp)))] at hW
        exact loop32 _ 0 (Nat.lt_succ_self _) (by omega) _ _ hW _ (lv_sub hl [1, 2, 3, 4, 0] rfl)
      · skip
        exfalso; omega
    · skip
      exfalso; omega

theorem f_X4_spoil_0 : Cond.fieldLink RX4 24 "TreeHashes" "file" "LTreeHashes$Bytes;" ∈ wsX4_spoil := by decide +kernel
theorem i_X4_spoil_X4 : ∀ w ∈ wsX40, w ∈ wsX4_spoil := by decide +kernel
set_option maxHeartbeats 4000000 in
set_option maxRecDepth 100000 in
theorem c_X4_spoil (l : Launch) (D : va_G) (cy : Nat → ClassId) (t : Nat × Nat) (x0 : Nat) (xr : Nat) (xh : Nat) (xf : Nat) (xp : Nat) (xw : Nat) (xy : Nat) (xd : Nat) (f1 : Nat) (fn0 : Nat) (ff : Nat → Int32) (i : Nat) (k : Nat) (hc : fn0 ≤ 20000) (hi : i < fn0) (hk : k ≤ 255) (sz : Nat) : Met l yX4_spoil wsX4_spoil ({ frames := 1, cells := 0, slots := 0, locals := 22 }) (PcW D cy t [(x0, .inr (4, [.ref xr, .ref xh, .ref xf, .ref xp, .ref xw, .ref xy, .ref xd])), (xf, .inr (0, [.ref f1, .int (nI (fn0))])), (f1, .inl (cy 1, 20000, .inl (ff)))] [.ref x0, .int (nI (i)), .int (nI (k))] sz) (QiA D cy (fun (r : Int32) (u : Unit) => (r = b8 (ff i ^^^ nI k) &&& 255)) (fun u : Unit => [(x0, .inr (4, [.ref xr, .ref xh, .ref xf, .ref xp, .ref xw, .ref xy, .ref xd])), (xf, .inr (0, [.ref f1, .int (nI (fn0))])), (f1, .inl (cy 1, 20000, .inl (upd ff i (b8 (ff i ^^^ nI k)))))]) (va_A [(x0, .inr (4, [.ref xr, .ref xh, .ref xf, .ref xp, .ref xw, .ref xy, .ref xd])), (xf, .inr (0, [.ref f1, .int (nI (fn0))])), (f1, .inl (cy 1, 20000, .inl (ff)))] sz)) 0 0 (va_A [(x0, .inr (4, [.ref xr, .ref xh, .ref xf, .ref xp, .ref xw, .ref xy, .ref xd])), (xf, .inr (0, [.ref f1, .int (nI (fn0))])), (f1, .inl (cy 1, 20000, .inl (ff)))] sz) := by
  refine M_ofW (cc := cX4_spoil) (maxL := 3) (ret := (some .int)) (by decide) rfl (Nat.le_of_ble_eq_true rfl) ?_
  intro p e s m below meth c A ls args Q hQ S0 hr hlocks hnm hK hst hA hW hl
  have hx := S0.1; have hb := S0.2.1; have hml := S0.2.2.1; have hown := S0.2.2.2.1; have hts := S0.2.2.2.2
  have hl : lv_has ls 3 [(0, .ref x0), (1, .int (nI (i))), (2, .int (nI (k)))] := hl
  refine lv_aload_n hx hb dX4_spoil_0 rfl (lv_at hl 0 rfl) ?_
  refine va_get (D := D) (ci := 4) (v := .ref xf) (C := RX4) (T := TX4) (N := 7) hx hb hts i_X4_spoil_X4 hown hK hW.1 0 rfl rfl 2 (by decide) (hts (.fieldLink RX4 24 "TreeHashes" "file" "LTreeHashes$Bytes;") f_X4_spoil_0) (fun _ h9 => h9) rfl dX4_spoil_1 ?_
  refine lv_iload_n hx hb dX4_spoil_4 rfl (lv_at hl 1 rfl) ?_
  refine lv_iload_n hx hb dX4_spoil_5 rfl (lv_at hl 2 rfl) ?_
  refine kVi (As := [.int (nI (i)), .int (nI (k))]) (rest := []) S0 hK hst hA hW [1, 2] (fun sz => c_X0_change l D cy t xf f1 20000 fn0 ff i k (by omega) (by omega) (by omega) (by omega) sz) rfl (by decide) (cwV 2 hts gX4_spoil_X0_change rfl rfl rfl (by decide +kernel) ⟨Nat.le_of_ble_eq_true rfl, Nat.le_of_ble_eq_true rfl⟩) (fun _ => rfl) 0 0 rfl rfl rfl hl.1 rfl (Nat.le_of_ble_eq_true rfl) dX4_spoil_6 ⟨Nat.le_of_ble_eq_true rfl, Nat.le_of_ble_eq_true rfl⟩ (fun r6 u6 H locs p6 hW => ?_)
  have hW : Wd D A s [(x0, .inr (4, [.ref xr, .ref xh, .ref xf, .ref xp, .ref xw, .ref xy, .ref xd])), (xf, .inr (0, [.ref f1, .int (nI (fn0))])), (f1, .inl (cy 1, 20000, .inl (upd ff i (b8 (ff i ^^^ nI k)))))] H locs := hW
  have q6 : r6 = b8 (ff i ^^^ nI k) &&& 255 := p6
  subst q6
  exact eI hQ hx hb hr hlocks hK hW () (rfl) (rfl) dX4_spoil_9

theorem f_X4_spoil_b_0 : Cond.fieldLink RX4 24 "TreeHashes" "file" "LTreeHashes$Bytes;" ∈ wsX4_spoil := by decide +kernel
theorem i_X4_spoil_b_X4 : ∀ w ∈ wsX40, w ∈ wsX4_spoil := by decide +kernel
set_option maxHeartbeats 4000000 in
set_option maxRecDepth 100000 in
theorem c_X4_spoil_b (l : Launch) (D : va_G) (cy : Nat → ClassId) (t : Nat × Nat) (x0 : Nat) (xr : Nat) (xh : Nat) (xf : Nat) (xp : Nat) (xw : Nat) (xy : Nat) (xd : Nat) (f1 : Nat) (fn0 : Nat) (ff : Nat → Int32) (x : Int32) (y : Int32) (hc : fn0 ≤ 20000) (hbd : x < 0 ∨ nI fn0 ≤ x ∨ y < 0 ∨ nI 255 < y) (sz : Nat) : Met l yX4_spoil wsX4_spoil ({ frames := 1, cells := 0, slots := 0, locals := 22 }) (PcW D cy t [(x0, .inr (4, [.ref xr, .ref xh, .ref xf, .ref xp, .ref xw, .ref xy, .ref xd])), (xf, .inr (0, [.ref f1, .int (nI (fn0))])), (f1, .inl (cy 1, 20000, .inl (ff)))] [.ref x0, .int (x), .int (y)] sz) (QiA D cy (fun (r : Int32) (u : Unit) => (r = (-2 : Int32))) (fun u : Unit => [(x0, .inr (4, [.ref xr, .ref xh, .ref xf, .ref xp, .ref xw, .ref xy, .ref xd])), (xf, .inr (0, [.ref f1, .int (nI (fn0))])), (f1, .inl (cy 1, 20000, .inl (ff)))]) (va_A [(x0, .inr (4, [.ref xr, .ref xh, .ref xf, .ref xp, .ref xw, .ref xy, .ref xd])), (xf, .inr (0, [.ref f1, .int (nI (fn0))])), (f1, .inl (cy 1, 20000, .inl (ff)))] sz)) 0 0 (va_A [(x0, .inr (4, [.ref xr, .ref xh, .ref xf, .ref xp, .ref xw, .ref xy, .ref xd])), (xf, .inr (0, [.ref f1, .int (nI (fn0))])), (f1, .inl (cy 1, 20000, .inl (ff)))] sz) := by
  refine M_ofW (cc := cX4_spoil) (maxL := 3) (ret := (some .int)) (by decide) rfl (Nat.le_of_ble_eq_true rfl) ?_
  intro p e s m below meth c A ls args Q hQ S0 hr hlocks hnm hK hst hA hW hl
  have hx := S0.1; have hb := S0.2.1; have hml := S0.2.2.1; have hown := S0.2.2.2.1; have hts := S0.2.2.2.2
  have hl : lv_has ls 3 [(0, .ref x0), (1, .int (x)), (2, .int (y))] := hl
  refine lv_aload_n hx hb dX4_spoil_0 rfl (lv_at hl 0 rfl) ?_
  refine va_get (D := D) (ci := 4) (v := .ref xf) (C := RX4) (T := TX4) (N := 7) hx hb hts i_X4_spoil_b_X4 hown hK hW.1 0 rfl rfl 2 (by decide) (hts (.fieldLink RX4 24 "TreeHashes" "file" "LTreeHashes$Bytes;") f_X4_spoil_b_0) (fun _ h9 => h9) rfl dX4_spoil_1 ?_
  refine lv_iload_n hx hb dX4_spoil_4 rfl (lv_at hl 1 rfl) ?_
  refine lv_iload_n hx hb dX4_spoil_5 rfl (lv_at hl 2 rfl) ?_
  refine kVi (As := [.int (x), .int (y)]) (rest := []) S0 hK hst hA hW [1, 2] (fun sz => c_X0_change_b l D cy t xf f1 20000 fn0 ff x y (by omega) (by omega) (hbd) sz) rfl (by decide) (cwV 2 hts gX4_spoil_X0_change rfl rfl rfl (by decide +kernel) ⟨Nat.le_of_ble_eq_true rfl, Nat.le_of_ble_eq_true rfl⟩) (fun _ => rfl) 0 0 rfl rfl rfl hl.1 rfl (Nat.le_of_ble_eq_true rfl) dX4_spoil_6 ⟨Nat.le_of_ble_eq_true rfl, Nat.le_of_ble_eq_true rfl⟩ (fun r6 u6 H locs p6 hW => ?_)
  have hW : Wd D A s [(x0, .inr (4, [.ref xr, .ref xh, .ref xf, .ref xp, .ref xw, .ref xy, .ref xd])), (xf, .inr (0, [.ref f1, .int (nI (fn0))])), (f1, .inl (cy 1, 20000, .inl (ff)))] H locs := hW
  have q6 : r6 = (-2 : Int32) := p6
  subst q6
  exact eI hQ hx hb hr hlocks hK hW () (rfl) (rfl) dX4_spoil_9

theorem f_X4_shorten_0 : Cond.fieldLink RX4 24 "TreeHashes" "file" "LTreeHashes$Bytes;" ∈ wsX4_shorten := by decide +kernel
theorem i_X4_shorten_X4 : ∀ w ∈ wsX40, w ∈ wsX4_shorten := by decide +kernel
set_option maxHeartbeats 4000000 in
set_option maxRecDepth 100000 in
theorem c_X4_shorten (l : Launch) (D : va_G) (cy : Nat → ClassId) (t : Nat × Nat) (x0 : Nat) (xr : Nat) (xh : Nat) (xf : Nat) (xp : Nat) (xw : Nat) (xy : Nat) (xd : Nat) (f1 : Nat) (fn0 : Nat) (ff : Nat → Int32) (n : Nat) (hc : fn0 ≤ 20000) (hn1 : n ≤ fn0) (sz : Nat) : Met l yX4_shorten wsX4_shorten ({ frames := 1, cells := 0, slots := 0, locals := 22 }) (PcW D cy t [(x0, .inr (4, [.ref xr, .ref xh, .ref xf, .ref xp, .ref xw, .ref xy, .ref xd])), (xf, .inr (0, [.ref f1, .int (nI (fn0))])), (f1, .inl (cy 1, 20000, .inl (ff)))] [.ref x0, .int (nI (n))] sz) (QiA D cy (fun (r : Int32) (u : Unit) => (r = nI (fn0 - n))) (fun u : Unit => [(x0, .inr (4, [.ref xr, .ref xh, .ref xf, .ref xp, .ref xw, .ref xy, .ref xd])), (xf, .inr (0, [.ref f1, .int (nI (n))])), (f1, .inl (cy 1, 20000, .inl (ff)))]) (va_A [(x0, .inr (4, [.ref xr, .ref xh, .ref xf, .ref xp, .ref xw, .ref xy, .ref xd])), (xf, .inr (0, [.ref f1, .int (nI (fn0))])), (f1, .inl (cy 1, 20000, .inl (ff)))] sz)) 0 0 (va_A [(x0, .inr (4, [.ref xr, .ref xh, .ref xf, .ref xp, .ref xw, .ref xy, .ref xd])), (xf, .inr (0, [.ref f1, .int (nI (fn0))])), (f1, .inl (cy 1, 20000, .inl (ff)))] sz) := by
  refine M_ofW (cc := cX4_shorten) (maxL := 2) (ret := (some .int)) (by decide) rfl (Nat.le_of_ble_eq_true rfl) ?_
  intro p e s m below meth c A ls args Q hQ S0 hr hlocks hnm hK hst hA hW hl
  have hx := S0.1; have hb := S0.2.1; have hml := S0.2.2.1; have hown := S0.2.2.2.1; have hts := S0.2.2.2.2
  have hl : lv_has ls 2 [(0, .ref x0), (1, .int (nI (n)))] := hl
  refine lv_aload_n hx hb dX4_shorten_0 rfl (lv_at hl 0 rfl) ?_
  refine va_get (D := D) (ci := 4) (v := .ref xf) (C := RX4) (T := TX4) (N := 7) hx hb hts i_X4_shorten_X4 hown hK hW.1 0 rfl rfl 2 (by decide) (hts (.fieldLink RX4 24 "TreeHashes" "file" "LTreeHashes$Bytes;") f_X4_shorten_0) (fun _ h9 => h9) rfl dX4_shorten_1 ?_
  refine lv_iload_n hx hb dX4_shorten_4 rfl (lv_at hl 1 rfl) ?_
  refine kVi (As := [.int (nI (n))]) (rest := []) S0 hK hst hA hW [1, 2] (fun sz => c_X0_keepFirst_n l D cy t xf f1 20000 fn0 ff n (by omega) (by omega) (by omega) sz) rfl (by decide) (cwV 1 hts gX4_shorten_X0_keepFirst rfl rfl rfl (by decide +kernel) ⟨Nat.le_of_ble_eq_true rfl, Nat.le_of_ble_eq_true rfl⟩) (fun _ => rfl) 0 0 rfl rfl rfl hl.1 rfl (Nat.le_of_ble_eq_true rfl) dX4_shorten_5 ⟨Nat.le_of_ble_eq_true rfl, Nat.le_of_ble_eq_true rfl⟩ (fun r5 u5 H locs p5 hW => ?_)
  have hW : Wd D A s [(x0, .inr (4, [.ref xr, .ref xh, .ref xf, .ref xp, .ref xw, .ref xy, .ref xd])), (xf, .inr (0, [.ref f1, .int (nI (n))])), (f1, .inl (cy 1, 20000, .inl (ff)))] H locs := hW
  have q5 : r5 = nI (fn0 - n) := p5
  subst q5
  exact eI hQ hx hb hr hlocks hK hW () (rfl) (rfl) dX4_shorten_8

theorem f_X4_shorten_b_0 : Cond.fieldLink RX4 24 "TreeHashes" "file" "LTreeHashes$Bytes;" ∈ wsX4_shorten := by decide +kernel
theorem i_X4_shorten_b_X4 : ∀ w ∈ wsX40, w ∈ wsX4_shorten := by decide +kernel
set_option maxHeartbeats 4000000 in
set_option maxRecDepth 100000 in
theorem c_X4_shorten_b (l : Launch) (D : va_G) (cy : Nat → ClassId) (t : Nat × Nat) (x0 : Nat) (xr : Nat) (xh : Nat) (xf : Nat) (xp : Nat) (xw : Nat) (xy : Nat) (xd : Nat) (f1 : Nat) (fn0 : Nat) (ff : Nat → Int32) (x : Int32) (hc : fn0 ≤ 20000) (hbd : x < 0 ∨ nI fn0 < x) (sz : Nat) : Met l yX4_shorten wsX4_shorten ({ frames := 1, cells := 0, slots := 0, locals := 22 }) (PcW D cy t [(x0, .inr (4, [.ref xr, .ref xh, .ref xf, .ref xp, .ref xw, .ref xy, .ref xd])), (xf, .inr (0, [.ref f1, .int (nI (fn0))])), (f1, .inl (cy 1, 20000, .inl (ff)))] [.ref x0, .int (x)] sz) (QiA D cy (fun (r : Int32) (u : Unit) => (r = (-2 : Int32))) (fun u : Unit => [(x0, .inr (4, [.ref xr, .ref xh, .ref xf, .ref xp, .ref xw, .ref xy, .ref xd])), (xf, .inr (0, [.ref f1, .int (nI (fn0))])), (f1, .inl (cy 1, 20000, .inl (ff)))]) (va_A [(x0, .inr (4, [.ref xr, .ref xh, .ref xf, .ref xp, .ref xw, .ref xy, .ref xd])), (xf, .inr (0, [.ref f1, .int (nI (fn0))])), (f1, .inl (cy 1, 20000, .inl (ff)))] sz)) 0 0 (va_A [(x0, .inr (4, [.ref xr, .ref xh, .ref xf, .ref xp, .ref xw, .ref xy, .ref xd])), (xf, .inr (0, [.ref f1, .int (nI (fn0))])), (f1, .inl (cy 1, 20000, .inl (ff)))] sz) := by
  refine M_ofW (cc := cX4_shorten) (maxL := 2) (ret := (some .int)) (by decide) rfl (Nat.le_of_ble_eq_true rfl) ?_
  intro p e s m below meth c A ls args Q hQ S0 hr hlocks hnm hK hst hA hW hl
  have hx := S0.1; have hb := S0.2.1; have hml := S0.2.2.1; have hown := S0.2.2.2.1; have hts := S0.2.2.2.2
  have hl : lv_has ls 2 [(0, .ref x0), (1, .int (x))] := hl
  refine lv_aload_n hx hb dX4_shorten_0 rfl (lv_at hl 0 rfl) ?_
  refine va_get (D := D) (ci := 4) (v := .ref xf) (C := RX4) (T := TX4) (N := 7) hx hb hts i_X4_shorten_b_X4 hown hK hW.1 0 rfl rfl 2 (by decide) (hts (.fieldLink RX4 24 "TreeHashes" "file" "LTreeHashes$Bytes;") f_X4_shorten_b_0) (fun _ h9 => h9) rfl dX4_shorten_1 ?_
  refine lv_iload_n hx hb dX4_shorten_4 rfl (lv_at hl 1 rfl) ?_
  refine kVi (As := [.int (x)]) (rest := []) S0 hK hst hA hW [1, 2] (fun sz => c_X0_keepFirst_b l D cy t xf f1 20000 fn0 ff x (by omega) (by omega) (hbd) sz) rfl (by decide) (cwV 1 hts gX4_shorten_X0_keepFirst rfl rfl rfl (by decide +kernel) ⟨Nat.le_of_ble_eq_true rfl, Nat.le_of_ble_eq_true rfl⟩) (fun _ => rfl) 0 0 rfl rfl rfl hl.1 rfl (Nat.le_of_ble_eq_true rfl) dX4_shorten_5 ⟨Nat.le_of_ble_eq_true rfl, Nat.le_of_ble_eq_true rfl⟩ (fun r5 u5 H locs p5 hW => ?_)
  have hW : Wd D A s [(x0, .inr (4, [.ref xr, .ref xh, .ref xf, .ref xp, .ref xw, .ref xy, .ref xd])), (xf, .inr (0, [.ref f1, .int (nI (fn0))])), (f1, .inl (cy 1, 20000, .inl (ff)))] H locs := hW
  have q5 : r5 = (-2 : Int32) := p5
  subst q5
  exact eI hQ hx hb hr hlocks hK hW () (rfl) (rfl) dX4_shorten_8

theorem f_X4_forge_0 : Cond.fieldLink RX4 28 "TreeHashes" "proven" "LTreeHashes$Bytes;" ∈ wsX4_forge := by decide +kernel
theorem i_X4_forge_X4 : ∀ w ∈ wsX40, w ∈ wsX4_forge := by decide +kernel
set_option maxHeartbeats 4000000 in
set_option maxRecDepth 100000 in
theorem c_X4_forge (l : Launch) (D : va_G) (cy : Nat → ClassId) (t : Nat × Nat) (x0 : Nat) (xr : Nat) (xh : Nat) (xf : Nat) (xp : Nat) (xw : Nat) (xy : Nat) (xd : Nat) (pq1 : Nat) (pn : Nat) (pf : Nat → Int32) (i : Nat) (k : Nat) (hc : pn ≤ 1184) (hi : i < pn) (hk : k ≤ 255) (sz : Nat) : Met l yX4_forge wsX4_forge ({ frames := 1, cells := 0, slots := 0, locals := 22 }) (PcW D cy t [(x0, .inr (4, [.ref xr, .ref xh, .ref xf, .ref xp, .ref xw, .ref xy, .ref xd])), (xp, .inr (0, [.ref pq1, .int (nI (pn))])), (pq1, .inl (cy 1, 1184, .inl (pf)))] [.ref x0, .int (nI (i)), .int (nI (k))] sz) (QiA D cy (fun (r : Int32) (u : Unit) => (r = b8 (pf i ^^^ nI k) &&& 255)) (fun u : Unit => [(x0, .inr (4, [.ref xr, .ref xh, .ref xf, .ref xp, .ref xw, .ref xy, .ref xd])), (xp, .inr (0, [.ref pq1, .int (nI (pn))])), (pq1, .inl (cy 1, 1184, .inl (upd pf i (b8 (pf i ^^^ nI k)))))]) (va_A [(x0, .inr (4, [.ref xr, .ref xh, .ref xf, .ref xp, .ref xw, .ref xy, .ref xd])), (xp, .inr (0, [.ref pq1, .int (nI (pn))])), (pq1, .inl (cy 1, 1184, .inl (pf)))] sz)) 0 0 (va_A [(x0, .inr (4, [.ref xr, .ref xh, .ref xf, .ref xp, .ref xw, .ref xy, .ref xd])), (xp, .inr (0, [.ref pq1, .int (nI (pn))])), (pq1, .inl (cy 1, 1184, .inl (pf)))] sz) := by
  refine M_ofW (cc := cX4_forge) (maxL := 3) (ret := (some .int)) (by decide) rfl (Nat.le_of_ble_eq_true rfl) ?_
  intro p e s m below meth c A ls args Q hQ S0 hr hlocks hnm hK hst hA hW hl
  have hx := S0.1; have hb := S0.2.1; have hml := S0.2.2.1; have hown := S0.2.2.2.1; have hts := S0.2.2.2.2
  have hl : lv_has ls 3 [(0, .ref x0), (1, .int (nI (i))), (2, .int (nI (k)))] := hl
  refine lv_aload_n hx hb dX4_forge_0 rfl (lv_at hl 0 rfl) ?_
  refine va_get (D := D) (ci := 4) (v := .ref xp) (C := RX4) (T := TX4) (N := 7) hx hb hts i_X4_forge_X4 hown hK hW.1 0 rfl rfl 3 (by decide) (hts (.fieldLink RX4 28 "TreeHashes" "proven" "LTreeHashes$Bytes;") f_X4_forge_0) (fun _ h9 => h9) rfl dX4_forge_1 ?_
  refine lv_iload_n hx hb dX4_forge_4 rfl (lv_at hl 1 rfl) ?_
  refine lv_iload_n hx hb dX4_forge_5 rfl (lv_at hl 2 rfl) ?_
  refine kVi (As := [.int (nI (i)), .int (nI (k))]) (rest := []) S0 hK hst hA hW [1, 2] (fun sz => c_X0_change l D cy t xp pq1 1184 pn pf i k (by omega) (by omega) (by omega) (by omega) sz) rfl (by decide) (cwV 2 hts gX4_forge_X0_change rfl rfl rfl (by decide +kernel) ⟨Nat.le_of_ble_eq_true rfl, Nat.le_of_ble_eq_true rfl⟩) (fun _ => rfl) 0 0 rfl rfl rfl hl.1 rfl (Nat.le_of_ble_eq_true rfl) dX4_forge_6 ⟨Nat.le_of_ble_eq_true rfl, Nat.le_of_ble_eq_true rfl⟩ (fun r6 u6 H locs p6 hW => ?_)
  have hW : Wd D A s [(x0, .inr (4, [.ref xr, .ref xh, .ref xf, .ref xp, .ref xw, .ref xy, .ref xd])), (xp, .inr (0, [.ref pq1, .int (nI (pn))])), (pq1, .inl (cy 1, 1184, .inl (upd pf i (b8 (pf i ^^^ nI k)))))] H locs := hW
  have q6 : r6 = b8 (pf i ^^^ nI k) &&& 255 := p6
  subst q6
  exact eI hQ hx hb hr hlocks hK hW () (rfl) (rfl) dX4_forge_9

theorem f_X4_forge_b_0 : Cond.fieldLink RX4 28 "TreeHashes" "proven" "LTreeHashes$Bytes;" ∈ wsX4_forge := by decide +kernel
theorem i_X4_forge_b_X4 : ∀ w ∈ wsX40, w ∈ wsX4_forge := by decide +kernel
set_option maxHeartbeats 4000000 in
set_option maxRecDepth 100000 in
theorem c_X4_forge_b (l : Launch) (D : va_G) (cy : Nat → ClassId) (t : Nat × Nat) (x0 : Nat) (xr : Nat) (xh : Nat) (xf : Nat) (xp : Nat) (xw : Nat) (xy : Nat) (xd : Nat) (pq1 : Nat) (pn : Nat) (pf : Nat → Int32) (x : Int32) (y : Int32) (hc : pn ≤ 1184) (hbd : x < 0 ∨ nI pn ≤ x ∨ y < 0 ∨ nI 255 < y) (sz : Nat) : Met l yX4_forge wsX4_forge ({ frames := 1, cells := 0, slots := 0, locals := 22 }) (PcW D cy t [(x0, .inr (4, [.ref xr, .ref xh, .ref xf, .ref xp, .ref xw, .ref xy, .ref xd])), (xp, .inr (0, [.ref pq1, .int (nI (pn))])), (pq1, .inl (cy 1, 1184, .inl (pf)))] [.ref x0, .int (x), .int (y)] sz) (QiA D cy (fun (r : Int32) (u : Unit) => (r = (-2 : Int32))) (fun u : Unit => [(x0, .inr (4, [.ref xr, .ref xh, .ref xf, .ref xp, .ref xw, .ref xy, .ref xd])), (xp, .inr (0, [.ref pq1, .int (nI (pn))])), (pq1, .inl (cy 1, 1184, .inl (pf)))]) (va_A [(x0, .inr (4, [.ref xr, .ref xh, .ref xf, .ref xp, .ref xw, .ref xy, .ref xd])), (xp, .inr (0, [.ref pq1, .int (nI (pn))])), (pq1, .inl (cy 1, 1184, .inl (pf)))] sz)) 0 0 (va_A [(x0, .inr (4, [.ref xr, .ref xh, .ref xf, .ref xp, .ref xw, .ref xy, .ref xd])), (xp, .inr (0, [.ref pq1, .int (nI (pn))])), (pq1, .inl (cy 1, 1184, .inl (pf)))] sz) := by
  refine M_ofW (cc := cX4_forge) (maxL := 3) (ret := (some .int)) (by decide) rfl (Nat.le_of_ble_eq_true rfl) ?_
  intro p e s m below meth c A ls args Q hQ S0 hr hlocks hnm hK hst hA hW hl
  have hx := S0.1; have hb := S0.2.1; have hml := S0.2.2.1; have hown := S0.2.2.2.1; have hts := S0.2.2.2.2
  have hl : lv_has ls 3 [(0, .ref x0), (1, .int (x)), (2, .int (y))] := hl
  refine lv_aload_n hx hb dX4_forge_0 rfl (lv_at hl 0 rfl) ?_
  refine va_get (D := D) (ci := 4) (v := .ref xp) (C := RX4) (T := TX4) (N := 7) hx hb hts i_X4_forge_b_X4 hown hK hW.1 0 rfl rfl 3 (by decide) (hts (.fieldLink RX4 28 "TreeHashes" "proven" "LTreeHashes$Bytes;") f_X4_forge_b_0) (fun _ h9 => h9) rfl dX4_forge_1 ?_
  refine lv_iload_n hx hb dX4_forge_4 rfl (lv_at hl 1 rfl) ?_
  refine lv_iload_n hx hb dX4_forge_5 rfl (lv_at hl 2 rfl) ?_
  refine kVi (As := [.int (x), .int (y)]) (rest := []) S0 hK hst hA hW [1, 2] (fun sz => c_X0_change_b l D cy t xp pq1 1184 pn pf x y (by omega) (by omega) (hbd) sz) rfl (by decide) (cwV 2 hts gX4_forge_X0_change rfl rfl rfl (by decide +kernel) ⟨Nat.le_of_ble_eq_true rfl, Nat.le_of_ble_eq_true rfl⟩) (fun _ => rfl) 0 0 rfl rfl rfl hl.1 rfl (Nat.le_of_ble_eq_true rfl) dX4_forge_6 ⟨Nat.le_of_ble_eq_true rfl, Nat.le_of_ble_eq_true rfl⟩ (fun r6 u6 H locs p6 hW => ?_)
  have hW : Wd D A s [(x0, .inr (4, [.ref xr, .ref xh, .ref xf, .ref xp, .ref xw, .ref xy, .ref xd])), (xp, .inr (0, [.ref pq1, .int (nI (pn))])), (pq1, .inl (cy 1, 1184, .inl (pf)))] H locs := hW
  have q6 : r6 = (-2 : Int32) := p6
  subst q6
  exact eI hQ hx hb hr hlocks hK hW () (rfl) (rfl) dX4_forge_9

theorem f_X4_cut_0 : Cond.fieldLink RX4 28 "TreeHashes" "proven" "LTreeHashes$Bytes;" ∈ wsX4_cut := by decide +kernel
theorem i_X4_cut_X4 : ∀ w ∈ wsX40, w ∈ wsX4_cut := by decide +kernel
set_option maxHeartbeats 4000000 in
set_option maxRecDepth 100000 in
theorem c_X4_cut (l : Launch) (D : va_G) (cy : Nat → ClassId) (t : Nat × Nat) (x0 : Nat) (xr : Nat) (xh : Nat) (xf : Nat) (xp : Nat) (xw : Nat) (xy : Nat) (xd : Nat) (pq1 : Nat) (pn : Nat) (pf : Nat → Int32) (n : Nat) (hc : pn ≤ 1184) (hn1 : n ≤ pn) (sz : Nat) : Met l yX4_cut wsX4_cut ({ frames := 1, cells := 0, slots := 0, locals := 22 }) (PcW D cy t [(x0, .inr (4, [.ref xr, .ref xh, .ref xf, .ref xp, .ref xw, .ref xy, .ref xd])), (xp, .inr (0, [.ref pq1, .int (nI (pn))])), (pq1, .inl (cy 1, 1184, .inl (pf)))] [.ref x0, .int (nI (n))] sz) (QiA D cy (fun (r : Int32) (u : Unit) => (r = nI (pn - n))) (fun u : Unit => [(x0, .inr (4, [.ref xr, .ref xh, .ref xf, .ref xp, .ref xw, .ref xy, .ref xd])), (xp, .inr (0, [.ref pq1, .int (nI (n))])), (pq1, .inl (cy 1, 1184, .inl (pf)))]) (va_A [(x0, .inr (4, [.ref xr, .ref xh, .ref xf, .ref xp, .ref xw, .ref xy, .ref xd])), (xp, .inr (0, [.ref pq1, .int (nI (pn))])), (pq1, .inl (cy 1, 1184, .inl (pf)))] sz)) 0 0 (va_A [(x0, .inr (4, [.ref xr, .ref xh, .ref xf, .ref xp, .ref xw, .ref xy, .ref xd])), (xp, .inr (0, [.ref pq1, .int (nI (pn))])), (pq1, .inl (cy 1, 1184, .inl (pf)))] sz) := by
  refine M_ofW (cc := cX4_cut) (maxL := 2) (ret := (some .int)) (by decide) rfl (Nat.le_of_ble_eq_true rfl) ?_
  intro p e s m below meth c A ls args Q hQ S0 hr hlocks hnm hK hst hA hW hl
  have hx := S0.1; have hb := S0.2.1; have hml := S0.2.2.1; have hown := S0.2.2.2.1; have hts := S0.2.2.2.2
  have hl : lv_has ls 2 [(0, .ref x0), (1, .int (nI (n)))] := hl
  refine lv_aload_n hx hb dX4_cut_0 rfl (lv_at hl 0 rfl) ?_
  refine va_get (D := D) (ci := 4) (v := .ref xp) (C := RX4) (T := TX4) (N := 7) hx hb hts i_X4_cut_X4 hown hK hW.1 0 rfl rfl 3 (by decide) (hts (.fieldLink RX4 28 "TreeHashes" "proven" "LTreeHashes$Bytes;") f_X4_cut_0) (fun _ h9 => h9) rfl dX4_cut_1 ?_
  refine lv_iload_n hx hb dX4_cut_4 rfl (lv_at hl 1 rfl) ?_
  refine kVi (As := [.int (nI (n))]) (rest := []) S0 hK hst hA hW [1, 2] (fun sz => c_X0_keepFirst_n l D cy t xp pq1 1184 pn pf n (by omega) (by omega) (by omega) sz) rfl (by decide) (cwV 1 hts gX4_cut_X0_keepFirst rfl rfl rfl (by decide +kernel) ⟨Nat.le_of_ble_eq_true rfl, Nat.le_of_ble_eq_true rfl⟩) (fun _ => rfl) 0 0 rfl rfl rfl hl.1 rfl (Nat.le_of_ble_eq_true rfl) dX4_cut_5 ⟨Nat.le_of_ble_eq_true rfl, Nat.le_of_ble_eq_true rfl⟩ (fun r5 u5 H locs p5 hW => ?_)
  have hW : Wd D A s [(x0, .inr (4, [.ref xr, .ref xh, .ref xf, .ref xp, .ref xw, .ref xy, .ref xd])), (xp, .inr (0, [.ref pq1, .int (nI (n))])), (pq1, .inl (cy 1, 1184, .inl (pf)))] H locs := hW
  have q5 : r5 = nI (pn - n) := p5
  subst q5
  exact eI hQ hx hb hr hlocks hK hW () (rfl) (rfl) dX4_cut_8

theorem f_X4_cut_b_0 : Cond.fieldLink RX4 28 "TreeHashes" "proven" "LTreeHashes$Bytes;" ∈ wsX4_cut := by decide +kernel
theorem i_X4_cut_b_X4 : ∀ w ∈ wsX40, w ∈ wsX4_cut := by decide +kernel
set_option maxHeartbeats 4000000 in
set_option maxRecDepth 100000 in
theorem c_X4_cut_b (l : Launch) (D : va_G) (cy : Nat → ClassId) (t : Nat × Nat) (x0 : Nat) (xr : Nat) (xh : Nat) (xf : Nat) (xp : Nat) (xw : Nat) (xy : Nat) (xd : Nat) (pq1 : Nat) (pn : Nat) (pf : Nat → Int32) (x : Int32) (hc : pn ≤ 1184) (hbd : x < 0 ∨ nI pn < x) (sz : Nat) : Met l yX4_cut wsX4_cut ({ frames := 1, cells := 0, slots := 0, locals := 22 }) (PcW D cy t [(x0, .inr (4, [.ref xr, .ref xh, .ref xf, .ref xp, .ref xw, .ref xy, .ref xd])), (xp, .inr (0, [.ref pq1, .int (nI (pn))])), (pq1, .inl (cy 1, 1184, .inl (pf)))] [.ref x0, .int (x)] sz) (QiA D cy (fun (r : Int32) (u : Unit) => (r = (-2 : Int32))) (fun u : Unit => [(x0, .inr (4, [.ref xr, .ref xh, .ref xf, .ref xp, .ref xw, .ref xy, .ref xd])), (xp, .inr (0, [.ref pq1, .int (nI (pn))])), (pq1, .inl (cy 1, 1184, .inl (pf)))]) (va_A [(x0, .inr (4, [.ref xr, .ref xh, .ref xf, .ref xp, .ref xw, .ref xy, .ref xd])), (xp, .inr (0, [.ref pq1, .int (nI (pn))])), (pq1, .inl (cy 1, 1184, .inl (pf)))] sz)) 0 0 (va_A [(x0, .inr (4, [.ref xr, .ref xh, .ref xf, .ref xp, .ref xw, .ref xy, .ref xd])), (xp, .inr (0, [.ref pq1, .int (nI (pn))])), (pq1, .inl (cy 1, 1184, .inl (pf)))] sz) := by
  refine M_ofW (cc := cX4_cut) (maxL := 2) (ret := (some .int)) (by decide) rfl (Nat.le_of_ble_eq_true rfl) ?_
  intro p e s m below meth c A ls args Q hQ S0 hr hlocks hnm hK hst hA hW hl
  have hx := S0.1; have hb := S0.2.1; have hml := S0.2.2.1; have hown := S0.2.2.2.1; have hts := S0.2.2.2.2
  have hl : lv_has ls 2 [(0, .ref x0), (1, .int (x))] := hl
  refine lv_aload_n hx hb dX4_cut_0 rfl (lv_at hl 0 rfl) ?_
  refine va_get (D := D) (ci := 4) (v := .ref xp) (C := RX4) (T := TX4) (N := 7) hx hb hts i_X4_cut_b_X4 hown hK hW.1 0 rfl rfl 3 (by decide) (hts (.fieldLink RX4 28 "TreeHashes" "proven" "LTreeHashes$Bytes;") f_X4_cut_b_0) (fun _ h9 => h9) rfl dX4_cut_1 ?_
  refine lv_iload_n hx hb dX4_cut_4 rfl (lv_at hl 1 rfl) ?_
  refine kVi (As := [.int (x)]) (rest := []) S0 hK hst hA hW [1, 2] (fun sz => c_X0_keepFirst_b l D cy t xp pq1 1184 pn pf x (by omega) (by omega) (hbd) sz) rfl (by decide) (cwV 1 hts gX4_cut_X0_keepFirst rfl rfl rfl (by decide +kernel) ⟨Nat.le_of_ble_eq_true rfl, Nat.le_of_ble_eq_true rfl⟩) (fun _ => rfl) 0 0 rfl rfl rfl hl.1 rfl (Nat.le_of_ble_eq_true rfl) dX4_cut_5 ⟨Nat.le_of_ble_eq_true rfl, Nat.le_of_ble_eq_true rfl⟩ (fun r5 u5 H locs p5 hW => ?_)
  have hW : Wd D A s [(x0, .inr (4, [.ref xr, .ref xh, .ref xf, .ref xp, .ref xw, .ref xy, .ref xd])), (xp, .inr (0, [.ref pq1, .int (nI (pn))])), (pq1, .inl (cy 1, 1184, .inl (pf)))] H locs := hW
  have q5 : r5 = (-2 : Int32) := p5
  subst q5
  exact eI hQ hx hb hr hlocks hK hW () (rfl) (rfl) dX4_cut_8

theorem f_X4_proof_0 : Cond.fieldLink RX4 28 "TreeHashes" "proven" "LTreeHashes$Bytes;" ∈ wsX4_proof := by decide +kernel
theorem i_X4_proof_X4 : ∀ w ∈ wsX40, w ∈ wsX4_proof := by decide +kernel
set_option maxHeartbeats 4000000 in
set_option maxRecDepth 100000 in
theorem c_X4_proof (l : Launch) (D : va_G) (cy : Nat → ClassId) (t : Nat × Nat) (x0 : Nat) (xr : Nat) (xh : Nat) (xf : Nat) (xp : Nat) (xw : Nat) (xy : Nat) (xd : Nat) (pq1 : Nat) (pn : Nat) (pf : Nat → Int32) (y : Int32) (hc : pn ≤ 1184) (sz : Nat) : Met l yX4_proof wsX4_proof ({ frames := 1, cells := 0, slots := 0, locals := 21 }) (PcW D cy t [(x0, .inr (4, [.ref xr, .ref xh, .ref xf, .ref xp, .ref xw, .ref xy, .ref xd])), (xp, .inr (0, [.ref pq1, .int (nI (pn))])), (pq1, .inl (cy 1, 1184, .inl (pf)))] [.ref x0, .int (y)] sz) (QiA D cy (fun (r : Int32) (u : Unit) => (r = byt pf pn y)) (fun u : Unit => [(x0, .inr (4, [.ref xr, .ref xh, .ref xf, .ref xp, .ref xw, .ref xy, .ref xd])), (xp, .inr (0, [.ref pq1, .int (nI (pn))])), (pq1, .inl (cy 1, 1184, .inl (pf)))]) (va_A [(x0, .inr (4, [.ref xr, .ref xh, .ref xf, .ref xp, .ref xw, .ref xy, .ref xd])), (xp, .inr (0, [.ref pq1, .int (nI (pn))])), (pq1, .inl (cy 1, 1184, .inl (pf)))] sz)) 0 0 (va_A [(x0, .inr (4, [.ref xr, .ref xh, .ref xf, .ref xp, .ref xw, .ref xy, .ref xd])), (xp, .inr (0, [.ref pq1, .int (nI (pn))])), (pq1, .inl (cy 1, 1184, .inl (pf)))] sz) := by
  refine M_ofW (cc := cX4_proof) (maxL := 2) (ret := (some .int)) (by decide) rfl (Nat.le_of_ble_eq_true rfl) ?_
  intro p e s m below meth c A ls args Q hQ S0 hr hlocks hnm hK hst hA hW hl
  have hx := S0.1; have hb := S0.2.1; have hml := S0.2.2.1; have hown := S0.2.2.2.1; have hts := S0.2.2.2.2
  have hl : lv_has ls 2 [(0, .ref x0), (1, .int (y))] := hl
  refine lv_aload_n hx hb dX4_proof_0 rfl (lv_at hl 0 rfl) ?_
  refine va_get (D := D) (ci := 4) (v := .ref xp) (C := RX4) (T := TX4) (N := 7) hx hb hts i_X4_proof_X4 hown hK hW.1 0 rfl rfl 3 (by decide) (hts (.fieldLink RX4 28 "TreeHashes" "proven" "LTreeHashes$Bytes;") f_X4_proof_0) (fun _ h9 => h9) rfl dX4_proof_1 ?_
  refine lv_iload_n hx hb dX4_proof_4 rfl (lv_at hl 1 rfl) ?_
  refine kVi (As := [.int (y)]) (rest := []) S0 hK hst hA hW [1, 2] (fun sz => c_X0_byteAt l D cy t xp pq1 1184 pn pf y (by omega) (by omega) sz) rfl (by decide) (cwV 1 hts gX4_proof_X0_byteAt rfl rfl rfl (by decide +kernel) ⟨Nat.le_of_ble_eq_true rfl, Nat.le_of_ble_eq_true rfl⟩) (fun _ => rfl) 0 0 rfl rfl rfl hl.1 rfl (Nat.le_of_ble_eq_true rfl) dX4_proof_5 ⟨Nat.le_of_ble_eq_true rfl, Nat.le_of_ble_eq_true rfl⟩ (fun r5 u5 H locs p5 hW => ?_)
  have hW : Wd D A s [(x0, .inr (4, [.ref xr, .ref xh, .ref xf, .ref xp, .ref xw, .ref xy, .ref xd])), (xp, .inr (0, [.ref pq1, .int (nI (pn))])), (pq1, .inl (cy 1, 1184, .inl (pf)))] H locs := hW
  have q5 : r5 = byt pf pn y := p5
  subst q5
  exact eI hQ hx hb hr hlocks hK hW () (rfl) (rfl) dX4_proof_8
