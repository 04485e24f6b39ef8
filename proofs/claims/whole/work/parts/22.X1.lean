set_option maxHeartbeats 4000000 in
set_option maxRecDepth 100000 in
theorem c_X1_copyWords (l : Launch) (D : va_G) (cy : Nat → ClassId) (t : Nat × Nat) (a : Nat) (b : Nat) (n : Nat) (f : Nat → Int32) (g : Nat → Int32) (hn : n < 2 ^ 31) (sz : Nat) : Met l yX1_copyWords wsX1_copyWords ({ frames := 0, cells := 0, slots := 0, locals := 0 }) (PcW D cy t [(a, .inl (cy 0, n, .inl (f))), (b, .inl (cy 0, n, .inl (g)))] [.ref a, .ref b] sz) (QvA D cy (fun u : Unit => True) (fun u : Unit => [(a, .inl (cy 0, n, .inl (f))), (b, .inl (cy 0, n, .inl (f)))]) (va_A [(a, .inl (cy 0, n, .inl (f))), (b, .inl (cy 0, n, .inl (g)))] sz)) 0 0 (va_A [(a, .inl (cy 0, n, .inl (f))), (b, .inl (cy 0, n, .inl (g)))] sz) := by
  refine M_ofW (cc := cX1_copyWords) (maxL := 3) (ret := none) (by decide) rfl (Nat.le_of_ble_eq_true rfl) ?_
  intro p e s m below meth c A ls args Q hQ S0 hr hlocks hnm hK hst hA hW hl
  have hx := S0.1; have hb := S0.2.1; have hml := S0.2.2.1; have hown := S0.2.2.2.1; have hts := S0.2.2.2.2
  have hl : lv_has ls 3 [(0, .ref a), (1, .ref b)] := hl
  refine lv_iconst (v := nI (0)) hx hb dX1_copyWords_0 (by decide) ?_
  refine lv_istore_n (lv' := [(2, .int (nI (0))), (0, .ref a), (1, .ref b)]) hx hb dX1_copyWords_1 rfl hl (by decide) rfl (fun ls hl => ?_)
  have loop2 : ∀ (nF : Nat) (i : Nat), n - i < nF → (i ≤ n) → ∀ (H : Heap) (locs : List Loc), Wd D A s [(a, .inl (cy 0, n, .inl (f))), (b, .inl (cy 0, n, .inl (apG g 0 f i)))] H locs → ∀ ls : Array Slot, lv_has ls 3 [(0, .ref a), (1, .ref b), (2, .int (nI (i)))] → W p l e ({ frames := 0, cells := 0, slots := 0, locals := 0 }) s m args below meth c H locs 0 0 Q (F0 m 2 ls []) := by
    intro nF
    induction nF with
    | zero => intro i hf; exact absurd hf (Nat.not_lt_zero _)
    | succ nF ih2 =>
      intro i hf hi H locs hW ls hl
      refine lv_iload_n hx hb dX1_copyWords_2 rfl (lv_at hl 2 rfl) ?_
      refine lv_aload_n hx hb dX1_copyWords_3 rfl (lv_at hl 1 rfl) ?_
      refine alI hx hb hK hW 1 0 (ci := 0) rfl rfl dX1_copyWords_4 ?_
      refine iGe (a := i) (b := n) (tgt := 26) hx hb dX1_copyWords_5 (by decide) (by omega) (by omega) (fun h5 => ?_) (fun h5 => ?_)
      · skip
        have e9 : i = n := by omega
        rw [e9] at hW
        have hW := Wd.ext hW 1 rfl f apG_all
        exact eV hQ hx hb hr hlocks hK hW () (trivial) (rfl) dX1_copyWords_26
      · skip
        refine lv_iload_n hx hb dX1_copyWords_8 rfl (lv_at hl 2 rfl) ?_
        refine lv_aload_n hx hb dX1_copyWords_9 rfl (lv_at hl 0 rfl) ?_
        refine alI hx hb hK hW 0 0 (ci := 0) rfl rfl dX1_copyWords_10 ?_
        refine iGe (a := i) (b := n) (tgt := 26) hx hb dX1_copyWords_11 (by decide) (by omega) (by omega) (fun h11 => ?_) (fun h11 => ?_)
        · skip
          exfalso; omega
        · skip
          refine lv_aload_n hx hb dX1_copyWords_14 rfl (lv_at hl 1 rfl) ?_
          refine lv_iload_n hx hb dX1_copyWords_15 rfl (lv_at hl 2 rfl) ?_
          refine lv_aload_n hx hb dX1_copyWords_16 rfl (lv_at hl 0 rfl) ?_
          refine lv_iload_n hx hb dX1_copyWords_17 rfl (lv_at hl 2 rfl) ?_
          refine rI hx hb hK hW 0 rfl (k := i) (by omega) (by omega) dX1_copyWords_18 ?_
          refine wI hx hb hK hW 1 rfl (k := i) (by omega) (by omega) dX1_copyWords_19 (fun H locs hW => ?_)
          have hW : Wd D A s [(a, .inl (cy 0, n, .inl (f))), (b, .inl (cy 0, n, .inl (upd (apG g 0 f i) i (f i))))] H locs := hW
          rw [show (upd (apG g 0 f i) i (f i)) = (apG g 0 f (i + 1)) from by rw [← apG_s g 0 f i, Nat.zero_add]] at hW
          have hW : Wd D A s [(a, .inl (cy 0, n, .inl (f))), (b, .inl (cy 0, n, .inl (apG g 0 f (i + 1))))] H locs := hW
          refine lv_iinc (v := nI (i + 1)) (lv' := [(2, .int (nI (i + 1))), (0, .ref a), (1, .ref b)]) hx hb dX1_copyWords_20 hl (k := 2) rfl (nI_1 _) (by decide) rfl (fun ls hl => ?_)
          refine lv_goto (tgt := 2) hx hb dX1_copyWords_23 (by decide) ?_
          exact ih2 (i + 1) (by omega) (by omega) _ _ hW _ (lv_sub hl [1, 2, 0] rfl)
  rw [← apG_0 g 0 f] at hW
  exact loop2 _ 0 (Nat.lt_succ_self _) (by omega) _ _ hW _ (lv_sub hl [1, 2, 0] rfl)

set_option maxHeartbeats 4000000 in
set_option maxRecDepth 100000 in
theorem c_X1_copyWords_s (l : Launch) (D : va_G) (cy : Nat → ClassId) (t : Nat × Nat) (b : Nat) (g : Nat → Int32)  (sz : Nat) : Met l yX1_copyWords wsX1_copyWords ({ frames := 0, cells := 0, slots := 0, locals := 0 }) (PcW D cy t [(b, .inl (cy 0, 8, .inl (g)))] [.ref t.1, .ref b] sz) (QvA D cy (fun u : Unit => True) (fun u : Unit => [(b, .inl (cy 0, 8, .inl (stA)))]) (va_A [(b, .inl (cy 0, 8, .inl (g)))] sz)) 0 0 (va_A [(b, .inl (cy 0, 8, .inl (g)))] sz) := by
  refine M_ofW (cc := cX1_copyWords) (maxL := 3) (ret := none) (by decide) rfl (Nat.le_of_ble_eq_true rfl) ?_
  intro p e s m below meth c A ls args Q hQ S0 hr hlocks hnm hK hst hA hW hl
  have hx := S0.1; have hb := S0.2.1; have hml := S0.2.2.1; have hown := S0.2.2.2.1; have hts := S0.2.2.2.2
  have hl : lv_has ls 3 [(0, .ref t.1), (1, .ref b)] := hl
  refine lv_iconst (v := nI (0)) hx hb dX1_copyWords_0 (by decide) ?_
  refine lv_istore_n (lv' := [(2, .int (nI (0))), (0, .ref t.1), (1, .ref b)]) hx hb dX1_copyWords_1 rfl hl (by decide) rfl (fun ls hl => ?_)
  have loop2 : ∀ (nF : Nat) (i : Nat), 8 - i < nF → (i ≤ 8) → ∀ (H : Heap) (locs : List Loc), Wd D A s [(b, .inl (cy 0, 8, .inl (apG g 0 stA i)))] H locs → ∀ ls : Array Slot, lv_has ls 3 [(0, .ref t.1), (1, .ref b), (2, .int (nI (i)))] → W p l e ({ frames := 0, cells := 0, slots := 0, locals := 0 }) s m args below meth c H locs 0 0 Q (F0 m 2 ls []) := by
    intro nF
    induction nF with
    | zero => intro i hf; exact absurd hf (Nat.not_lt_zero _)
    | succ nF ih2 =>
      intro i hf hi H locs hW ls hl
      refine lv_iload_n hx hb dX1_copyWords_2 rfl (lv_at hl 2 rfl) ?_
      refine lv_aload_n hx hb dX1_copyWords_3 rfl (lv_at hl 1 rfl) ?_
      refine alI hx hb hK hW 0 0 (ci := 0) rfl rfl dX1_copyWords_4 ?_
      refine iGe (a := i) (b := 8) (tgt := 26) hx hb dX1_copyWords_5 (by decide) (by omega) (by omega) (fun h5 => ?_) (fun h5 => ?_)
      · skip
        have e9 : i = 8 := by omega
        rw [e9] at hW
        have hW := Wd.ext hW 0 rfl stA apG_all
        exact eV hQ hx hb hr hlocks hK hW () (trivial) (rfl) dX1_copyWords_26
      · skip
        refine lv_iload_n hx hb dX1_copyWords_8 rfl (lv_at hl 2 rfl) ?_
        refine lv_aload_n hx hb dX1_copyWords_9 rfl (lv_at hl 0 rfl) ?_
        refine va_tlen hx hb hst.1.2 hW.2.2 (v := nI 8) (by decide) dX1_copyWords_10 ?_
        refine iGe (a := i) (b := 8) (tgt := 26) hx hb dX1_copyWords_11 (by decide) (by omega) (by omega) (fun h11 => ?_) (fun h11 => ?_)
        · skip
          exfalso; omega
        · skip
          refine lv_aload_n hx hb dX1_copyWords_14 rfl (lv_at hl 1 rfl) ?_
          refine lv_iload_n hx hb dX1_copyWords_15 rfl (lv_at hl 2 rfl) ?_
          refine lv_aload_n hx hb dX1_copyWords_16 rfl (lv_at hl 0 rfl) ?_
          refine lv_iload_n hx hb dX1_copyWords_17 rfl (lv_at hl 2 rfl) ?_
          refine rS (g := stA) hx hb hst.1.2 hW (k := i) (n := 8) (by omega) (by decide) dX1_copyWords_18 ?_
          refine wI hx hb hK hW 0 rfl (k := i) (by omega) (by omega) dX1_copyWords_19 (fun H locs hW => ?_)
          have hW : Wd D A s [(b, .inl (cy 0, 8, .inl (upd (apG g 0 stA i) i (stA i))))] H locs := hW
          rw [show (upd (apG g 0 stA i) i (stA i)) = (apG g 0 stA (i + 1)) from by rw [← apG_s g 0 stA i, Nat.zero_add]] at hW
          have hW : Wd D A s [(b, .inl (cy 0, 8, .inl (apG g 0 stA (i + 1))))] H locs := hW
          refine lv_iinc (v := nI (i + 1)) (lv' := [(2, .int (nI (i + 1))), (0, .ref t.1), (1, .ref b)]) hx hb dX1_copyWords_20 hl (k := 2) rfl (nI_1 _) (by decide) rfl (fun ls hl => ?_)
          refine lv_goto (tgt := 2) hx hb dX1_copyWords_23 (by decide) ?_
          exact ih2 (i + 1) (by omega) (by omega) _ _ hW _ (lv_sub hl [1, 2, 0] rfl)
  rw [← apG_0 g 0 stA] at hW
  exact loop2 _ 0 (Nat.lt_succ_self _) (by omega) _ _ hW _ (lv_sub hl [1, 2, 0] rfl)

set_option maxHeartbeats 4000000 in
set_option maxRecDepth 100000 in
theorem c_X1_copyWords_a (l : Launch) (D : va_G) (cy : Nat → ClassId) (t : Nat × Nat) (a : Nat) (n : Nat) (f : Nat → Int32) (hn : n < 2 ^ 31) (sz : Nat) : Met l yX1_copyWords wsX1_copyWords ({ frames := 0, cells := 0, slots := 0, locals := 0 }) (PcW D cy t [(a, .inl (cy 0, n, .inl (f)))] [.ref a, .ref a] sz) (QvA D cy (fun u : Unit => True) (fun u : Unit => [(a, .inl (cy 0, n, .inl (f)))]) (va_A [(a, .inl (cy 0, n, .inl (f)))] sz)) 0 0 (va_A [(a, .inl (cy 0, n, .inl (f)))] sz) := by
  refine M_ofW (cc := cX1_copyWords) (maxL := 3) (ret := none) (by decide) rfl (Nat.le_of_ble_eq_true rfl) ?_
  intro p e s m below meth c A ls args Q hQ S0 hr hlocks hnm hK hst hA hW hl
  have hx := S0.1; have hb := S0.2.1; have hml := S0.2.2.1; have hown := S0.2.2.2.1; have hts := S0.2.2.2.2
  have hl : lv_has ls 3 [(0, .ref a), (1, .ref a)] := hl
  refine lv_iconst (v := nI (0)) hx hb dX1_copyWords_0 (by decide) ?_
  refine lv_istore_n (lv' := [(2, .int (nI (0))), (0, .ref a), (1, .ref a)]) hx hb dX1_copyWords_1 rfl hl (by decide) rfl (fun ls hl => ?_)
  have loop2 : ∀ (nF : Nat) (i : Nat), n - i < nF → (i ≤ n) → ∀ (H : Heap) (locs : List Loc), Wd D A s [(a, .inl (cy 0, n, .inl (f)))] H locs → ∀ ls : Array Slot, lv_has ls 3 [(0, .ref a), (1, .ref a), (2, .int (nI (i)))] → W p l e ({ frames := 0, cells := 0, slots := 0, locals := 0 }) s m args below meth c H locs 0 0 Q (F0 m 2 ls []) := by
    intro nF
    induction nF with
    | zero => intro i hf; exact absurd hf (Nat.not_lt_zero _)
    | succ nF ih2 =>
      intro i hf hi H locs hW ls hl
      refine lv_iload_n hx hb dX1_copyWords_2 rfl (lv_at hl 2 rfl) ?_
      refine lv_aload_n hx hb dX1_copyWords_3 rfl (lv_at hl 1 rfl) ?_
      refine alI hx hb hK hW 0 0 (ci := 0) rfl rfl dX1_copyWords_4 ?_
      refine iGe (a := i) (b := n) (tgt := 26) hx hb dX1_copyWords_5 (by decide) (by omega) (by omega) (fun h5 => ?_) (fun h5 => ?_)
      · skip
        exact eV hQ hx hb hr hlocks hK hW () (trivial) (rfl) dX1_copyWords_26
      · skip
        refine lv_iload_n hx hb dX1_copyWords_8 rfl (lv_at hl 2 rfl) ?_
        refine lv_aload_n hx hb dX1_copyWords_9 rfl (lv_at hl 0 rfl) ?_
        refine alI hx hb hK hW 0 0 (ci := 0) rfl rfl dX1_copyWords_10 ?_
        refine iGe (a := i) (b := n) (tgt := 26) hx hb dX1_copyWords_11 (by decide) (by omega) (by omega) (fun h11 => ?_) (fun h11 => ?_)
        · skip
          exfalso; omega
        · skip
          refine lv_aload_n hx hb dX1_copyWords_14 rfl (lv_at hl 1 rfl) ?_
          refine lv_iload_n hx hb dX1_copyWords_15 rfl (lv_at hl 2 rfl) ?_
          refine lv_aload_n hx hb dX1_copyWords_16 rfl (lv_at hl 0 rfl) ?_
          refine lv_iload_n hx hb dX1_copyWords_17 rfl (lv_at hl 2 rfl) ?_
          refine rI hx hb hK hW 0 rfl (k := i) (by omega) (by omega) dX1_copyWords_18 ?_
          refine wI hx hb hK hW 0 rfl (k := i) (by omega) (by omega) dX1_copyWords_19 (fun H locs hW => ?_)
          have hW : Wd D A s [(a, .inl (cy 0, n, .inl (upd f i (f i))))] H locs := hW
          rw [show (upd f i (f i)) = (f) from upd_self f i] at hW
          have hW : Wd D A s [(a, .inl (cy 0, n, .inl (f)))] H locs := hW
          refine lv_iinc (v := nI (i + 1)) (lv' := [(2, .int (nI (i + 1))), (0, .ref a), (1, .ref a)]) hx hb dX1_copyWords_20 hl (k := 2) rfl (nI_1 _) (by decide) rfl (fun ls hl => ?_)
          refine lv_goto (tgt := 2) hx hb dX1_copyWords_23 (by decide) ?_
          exact ih2 (i + 1) (by omega) (by omega) _ _ hW _ (lv_sub hl [1, 2, 0] rfl)
  exact loop2 _ 0 (Nat.lt_succ_self _) (by omega) _ _ hW _ (lv_sub hl [1, 2, 0] rfl)

theorem f_X1_startBlock_0 : Cond.fieldLink RX1 28 "TreeHashes$Hasher" "block" "[I" ∈ wsX1_startBlock := by decide +kernel
theorem i_X1_startBlock_X1 : ∀ w ∈ wsX10, w ∈ wsX1_startBlock := by decide +kernel
theorem f_X1_startBlock_2 : Cond.fieldLink RX1 67 "TreeHashes$Hasher" "inBlock" "I" ∈ wsX1_startBlock := by decide +kernel
set_option maxHeartbeats 4000000 in
set_option maxRecDepth 100000 in
theorem c_X1_startBlock (l : Launch) (D : va_G) (cy : Nat → ClassId) (t : Nat × Nat) (m0 : Nat) (h0 : Nat) (qk : Nat) (qs : Nat) (qc : Nat) (qb : Nat) (md : Int32) (bs : Int32) (fc : Nat) (tk : Nat) (cl : Nat) (dp : Nat) (bk : Nat) (ib : Nat) (bf : Nat → Int32)  (sz : Nat) : Met l yX1_startBlock wsX1_startBlock ({ frames := 0, cells := 0, slots := 0, locals := 0 }) (PcW D cy t [(h0, .inr (1, [.ref m0, .ref qk, .ref qs, .ref qc, .ref qb, .int (md), .int (bs), .int (nI (fc)), .int (nI (tk)), .int (nI (cl)), .int (nI (dp)), .int (nI (bk)), .int (nI (ib))])), (qb, .inl (cy 0, 16, .inl (bf)))] [.ref h0] sz) (QvA D cy (fun u : Unit => True) (fun u : Unit => [(h0, .inr (1, [.ref m0, .ref qk, .ref qs, .ref qc, .ref qb, .int (md), .int (bs), .int (nI (fc)), .int (nI (tk)), .int (nI (cl)), .int (nI (dp)), .int (nI (bk)), .int (nI (0))])), (qb, .inl (cy 0, 16, .inl ((fun _ => nI (0)))))]) (va_A [(h0, .inr (1, [.ref m0, .ref qk, .ref qs, .ref qc, .ref qb, .int (md), .int (bs), .int (nI (fc)), .int (nI (tk)), .int (nI (cl)), .int (nI (dp)), .int (nI (bk)), .int (nI (ib))])), (qb, .inl (cy 0, 16, .inl (bf)))] sz)) 0 0 (va_A [(h0, .inr (1, [.ref m0, .ref qk, .ref qs, .ref qc, .ref qb, .int (md), .int (bs), .int (nI (fc)), .int (nI (tk)), .int (nI (cl)), .int (nI (dp)), .int (nI (bk)), .int (nI (ib))])), (qb, .inl (cy 0, 16, .inl (bf)))] sz) := by
  refine M_ofW (cc := cX1_startBlock) (maxL := 2) (ret := none) (by decide) rfl (Nat.le_of_ble_eq_true rfl) ?_
  intro p e s m below meth c A ls args Q hQ S0 hr hlocks hnm hK hst hA hW hl
  have hx := S0.1; have hb := S0.2.1; have hml := S0.2.2.1; have hown := S0.2.2.2.1; have hts := S0.2.2.2.2
  have hl : lv_has ls 2 [(0, .ref h0)] := hl
  refine lv_iconst (v := nI (0)) hx hb dX1_startBlock_0 (by decide) ?_
  refine lv_istore_n (lv' := [(1, .int (nI (0))), (0, .ref h0)]) hx hb dX1_startBlock_1 rfl hl (by decide) rfl (fun ls hl => ?_)
  have loop2 : ∀ (nF : Nat) (i : Nat), 16 - i < nF → (i ≤ 16) → ∀ (H : Heap) (locs : List Loc), Wd D A s [(h0, .inr (1, [.ref m0, .ref qk, .ref qs, .ref qc, .ref qb, .int (md), .int (bs), .int (nI (fc)), .int (nI (tk)), .int (nI (cl)), .int (nI (dp)), .int (nI (bk)), .int (nI (ib))])), (qb, .inl (cy 0, 16, .inl (apG bf 0 (fun _ => nI (0)) i)))] H locs → ∀ ls : Array Slot, lv_has ls 2 [(0, .ref h0), (1, .int (nI (i)))] → W p l e ({ frames := 0, cells := 0, slots := 0, locals := 0 }) s m args below meth c H locs 0 0 Q (F0 m 2 ls []) := by
    intro nF
    induction nF with
    | zero => intro i hf; exact absurd hf (Nat.not_lt_zero _)
    | succ nF ih2 =>
      intro i hf hi H locs hW ls hl
      refine lv_iload_n hx hb dX1_startBlock_2 rfl (lv_at hl 1 rfl) ?_
      refine lv_aload_n hx hb dX1_startBlock_3 rfl (lv_at hl 0 rfl) ?_
      refine va_get (D := D) (ci := 1) (v := .ref qb) (C := RX1) (T := TX1) (N := 13) hx hb hts i_X1_startBlock_X1 hown hK hW.1 0 rfl rfl 4 (by decide) (hts (.fieldLink RX1 28 "TreeHashes$Hasher" "block" "[I") f_X1_startBlock_0) (fun _ h9 => h9) rfl dX1_startBlock_4 ?_
      refine alI hx hb hK hW 1 0 (ci := 0) rfl rfl dX1_startBlock_7 ?_
      refine iGe (a := i) (b := 16) (tgt := 24) hx hb dX1_startBlock_8 (by decide) (by omega) (by omega) (fun h8 => ?_) (fun h8 => ?_)
      · skip
        refine lv_aload_n hx hb dX1_startBlock_24 rfl (lv_at hl 0 rfl) ?_
        refine lv_iconst (v := nI (0)) hx hb dX1_startBlock_25 (by decide) ?_
        refine va_put (D := D) (ci := 1) (v := .int (nI (0))) (ty := .int) (C := RX1) (T := TX1) (N := 13) hx hb hts i_X1_startBlock_X1 tyX1 tyX1_ok nmX1 hown hK hW.1 hW.2.1 hW.2.2 0 rfl rfl 12 (by decide) (hts (.fieldLink RX1 67 "TreeHashes$Hasher" "inBlock" "I") f_X1_startBlock_2) (fun _ h9 => h9) rfl (by decide +kernel) rfl rfl (Nat.le_of_ble_eq_true rfl) dX1_startBlock_26 (fun H locs hP hD hS => ?_)
        have hW : Wd D A s [(h0, .inr (1, [.ref m0, .ref qk, .ref qs, .ref qc, .ref qb, .int (md), .int (bs), .int (nI (fc)), .int (nI (tk)), .int (nI (cl)), .int (nI (dp)), .int (nI (bk)), .int (nI (0))])), (qb, .inl (cy 0, 16, .inl (apG bf 0 (fun _ => nI (0)) i)))] H locs := ⟨hP, hD, hS⟩
        have e9 : i = 16 := by omega
        rw [e9] at hW
        have hW := Wd.ext hW 1 rfl (fun _ => nI (0)) apG_all
        exact eV hQ hx hb hr hlocks hK hW () (trivial) (rfl) dX1_startBlock_29
      · skip
        refine lv_aload_n hx hb dX1_startBlock_11 rfl (lv_at hl 0 rfl) ?_
        refine va_get (D := D) (ci := 1) (v := .ref qb) (C := RX1) (T := TX1) (N := 13) hx hb hts i_X1_startBlock_X1 hown hK hW.1 0 rfl rfl 4 (by decide) (hts (.fieldLink RX1 28 "TreeHashes$Hasher" "block" "[I") f_X1_startBlock_0) (fun _ h9 => h9) rfl dX1_startBlock_12 ?_
        refine lv_iload_n hx hb dX1_startBlock_15 rfl (lv_at hl 1 rfl) ?_
        refine lv_iconst (v := nI (0)) hx hb dX1_startBlock_16 (by decide) ?_
        refine wI hx hb hK hW 1 rfl (k := i) (by omega) (by omega) dX1_startBlock_17 (fun H locs hW => ?_)
        have hW : Wd D A s [(h0, .inr (1, [.ref m0, .ref qk, .ref qs, .ref qc, .ref qb, .int (md), .int (bs), .int (nI (fc)), .int (nI (tk)), .int (nI (cl)), .int (nI (dp)), .int (nI (bk)), .int (nI (ib))])), (qb, .inl (cy 0, 16, .inl (upd (apG bf 0 (fun _ => nI (0)) i) i (nI (0)))))] H locs := hW
        rw [show (upd (apG bf 0 (fun _ => nI (0)) i) i (nI (0))) = (apG bf 0 (fun _ => nI (0)) (i + 1)) from by rw [← apG_s bf 0 (fun _ => nI (0)) i, Nat.zero_add]] at hW
        have hW : Wd D A s [(h0, .inr (1, [.ref m0, .ref qk, .ref qs, .ref qc, .ref qb, .int (md), .int (bs), .int (nI (fc)), .int (nI (tk)), .int (nI (cl)), .int (nI (dp)), .int (nI (bk)), .int (nI (ib))])), (qb, .inl (cy 0, 16, .inl (apG bf 0 (fun _ => nI (0)) (i + 1))))] H locs := hW
        refine lv_iinc (v := nI (i + 1)) (lv' := [(1, .int (nI (i + 1))), (0, .ref h0)]) hx hb dX1_startBlock_18 hl (k := 1) rfl (nI_1 _) (by decide) rfl (fun ls hl => ?_)
        refine lv_goto (tgt := 2) hx hb dX1_startBlock_21 (by decide) ?_
        exact ih2 (i + 1) (by omega) (by omega) _ _ hW _ (lv_sub hl [1, 0] rfl)
  rw [← apG_0 bf 0 (fun _ => nI (0))] at hW
  exact loop2 _ 0 (Nat.lt_succ_self _) (by omega) _ _ hW _ (lv_sub hl [1, 0] rfl)

theorem f_X1_startChunk_0 : Cond.fieldLink RX1 18 "TreeHashes$Hasher" "key" "[I" ∈ wsX1_startChunk := by decide +kernel
theorem i_X1_startChunk_X1 : ∀ w ∈ wsX10, w ∈ wsX1_startChunk := by decide +kernel
theorem f_X1_startChunk_2 : Cond.fieldLink RX1 25 "TreeHashes$Hasher" "chunkChain" "[I" ∈ wsX1_startChunk := by decide +kernel
theorem f_X1_startChunk_3 : Cond.fieldLink RX1 64 "TreeHashes$Hasher" "blocks" "I" ∈ wsX1_startChunk := by decide +kernel
set_option maxHeartbeats 4000000 in
set_option maxRecDepth 100000 in
theorem c_X1_startChunk (l : Launch) (D : va_G) (cy : Nat → ClassId) (t : Nat × Nat) (m0 : Nat) (h0 : Nat) (qk : Nat) (qs : Nat) (qc : Nat) (qb : Nat) (md : Int32) (bs : Int32) (fc : Nat) (tk : Nat) (cl : Nat) (dp : Nat) (bk : Nat) (ib : Nat) (kf : Nat → Int32) (cf : Nat → Int32) (bf : Nat → Int32)  (sz : Nat) : Met l yX1_startChunk wsX1_startChunk ({ frames := 1, cells := 0, slots := 0, locals := 22 }) (PcW D cy t [(h0, .inr (1, [.ref m0, .ref qk, .ref qs, .ref qc, .ref qb, .int (md), .int (bs), .int (nI (fc)), .int (nI (tk)), .int (nI (cl)), .int (nI (dp)), .int (nI (bk)), .int (nI (ib))])), (qk, .inl (cy 0, 8, .inl (kf))), (qc, .inl (cy 0, 8, .inl (cf))), (qb, .inl (cy 0, 16, .inl (bf)))] [.ref h0] sz) (QvA D cy (fun u : Unit => True) (fun u : Unit => [(h0, .inr (1, [.ref m0, .ref qk, .ref qs, .ref qc, .ref qb, .int (md), .int (bs), .int (nI (fc)), .int (nI (tk)), .int (nI (cl)), .int (nI (dp)), .int (nI (0)), .int (nI (0))])), (qk, .inl (cy 0, 8, .inl (kf))), (qc, .inl (cy 0, 8, .inl (kf))), (qb, .inl (cy 0, 16, .inl ((fun _ => nI (0)))))]) (va_A [(h0, .inr (1, [.ref m0, .ref qk, .ref qs, .ref qc, .ref qb, .int (md), .int (bs), .int (nI (fc)), .int (nI (tk)), .int (nI (cl)), .int (nI (dp)), .int (nI (bk)), .int (nI (ib))])), (qk, .inl (cy 0, 8, .inl (kf))), (qc, .inl (cy 0, 8, .inl (cf))), (qb, .inl (cy 0, 16, .inl (bf)))] sz)) 0 0 (va_A [(h0, .inr (1, [.ref m0, .ref qk, .ref qs, .ref qc, .ref qb, .int (md), .int (bs), .int (nI (fc)), .int (nI (tk)), .int (nI (cl)), .int (nI (dp)), .int (nI (bk)), .int (nI (ib))])), (qk, .inl (cy 0, 8, .inl (kf))), (qc, .inl (cy 0, 8, .inl (cf))), (qb, .inl (cy 0, 16, .inl (bf)))] sz) := by
  refine M_ofW (cc := cX1_startChunk) (maxL := 1) (ret := none) (by decide) rfl (Nat.le_of_ble_eq_true rfl) ?_
  intro p e s m below meth c A ls args Q hQ S0 hr hlocks hnm hK hst hA hW hl
  have hx := S0.1; have hb := S0.2.1; have hml := S0.2.2.1; have hown := S0.2.2.2.1; have hts := S0.2.2.2.2
  have hl : lv_has ls 1 [(0, .ref h0)] := hl
  refine lv_aload_n hx hb dX1_startChunk_0 rfl (lv_at hl 0 rfl) ?_
  refine va_get (D := D) (ci := 1) (v := .ref qk) (C := RX1) (T := TX1) (N := 13) hx hb hts i_X1_startChunk_X1 hown hK hW.1 0 rfl rfl 1 (by decide) (hts (.fieldLink RX1 18 "TreeHashes$Hasher" "key" "[I") f_X1_startChunk_0) (fun _ h9 => h9) rfl dX1_startChunk_1 ?_
  refine lv_aload_n hx hb dX1_startChunk_4 rfl (lv_at hl 0 rfl) ?_
  refine va_get (D := D) (ci := 1) (v := .ref qc) (C := RX1) (T := TX1) (N := 13) hx hb hts i_X1_startChunk_X1 hown hK hW.1 0 rfl rfl 3 (by decide) (hts (.fieldLink RX1 25 "TreeHashes$Hasher" "chunkChain" "[I") f_X1_startChunk_2) (fun _ h9 => h9) rfl dX1_startChunk_5 ?_
  refine kSv (As := [.ref qk, .ref qc]) (rest := []) S0 hK hst hA hW [1, 2] (fun sz => c_X1_copyWords l D cy t qk qc 8 kf cf (by omega) sz) rfl (by decide) (va_cwS 2 hts gX1_startChunk_X1_copyWords rfl rfl rfl (by decide +kernel) ⟨Nat.le_of_ble_eq_true rfl, Nat.le_of_ble_eq_true rfl⟩) (fun _ => rfl) rfl hl.1 rfl (Nat.le_of_ble_eq_true rfl) dX1_startChunk_8 ⟨Nat.le_of_ble_eq_true rfl, Nat.le_of_ble_eq_true rfl⟩ (fun u8 H locs p8 hW => ?_)
  have hW : Wd D A s [(h0, .inr (1, [.ref m0, .ref qk, .ref qs, .ref qc, .ref qb, .int (md), .int (bs), .int (nI (fc)), .int (nI (tk)), .int (nI (cl)), .int (nI (dp)), .int (nI (bk)), .int (nI (ib))])), (qk, .inl (cy 0, 8, .inl (kf))), (qc, .inl (cy 0, 8, .inl (kf))), (qb, .inl (cy 0, 16, .inl (bf)))] H locs := hW
  refine lv_aload_n hx hb dX1_startChunk_11 rfl (lv_at hl 0 rfl) ?_
  refine lv_iconst (v := nI (0)) hx hb dX1_startChunk_12 (by decide) ?_
  refine va_put (D := D) (ci := 1) (v := .int (nI (0))) (ty := .int) (C := RX1) (T := TX1) (N := 13) hx hb hts i_X1_startChunk_X1 tyX1 tyX1_ok nmX1 hown hK hW.1 hW.2.1 hW.2.2 0 rfl rfl 11 (by decide) (hts (.fieldLink RX1 64 "TreeHashes$Hasher" "blocks" "I") f_X1_startChunk_3) (fun _ h9 => h9) rfl (by decide +kernel) rfl rfl (Nat.le_of_ble_eq_true rfl) dX1_startChunk_13 (fun H locs hP hD hS => ?_)
  have hW : Wd D A s [(h0, .inr (1, [.ref m0, .ref qk, .ref qs, .ref qc, .ref qb, .int (md), .int (bs), .int (nI (fc)), .int (nI (tk)), .int (nI (cl)), .int (nI (dp)), .int (nI (0)), .int (nI (ib))])), (qk, .inl (cy 0, 8, .inl (kf))), (qc, .inl (cy 0, 8, .inl (kf))), (qb, .inl (cy 0, 16, .inl (bf)))] H locs := ⟨hP, hD, hS⟩
  refine lv_aload_n hx hb dX1_startChunk_16 rfl (lv_at hl 0 rfl) ?_
  refine kVv (As := []) (rest := []) S0 hK hst hA hW [0, 3] (fun sz => c_X1_startBlock l D cy t m0 h0 qk qs qc qb md bs fc tk cl dp 0 ib bf  sz) rfl (by decide) (cwV 0 hts gX1_startChunk_X1_startBlock rfl rfl rfl (by decide +kernel) ⟨Nat.le_of_ble_eq_true rfl, Nat.le_of_ble_eq_true rfl⟩) (fun _ => rfl) 0 1 rfl rfl rfl hl.1 rfl (Nat.le_of_ble_eq_true rfl) dX1_startChunk_17 ⟨Nat.le_of_ble_eq_true rfl, Nat.le_of_ble_eq_true rfl⟩ (fun u17 H locs p17 hW => ?_)
  have hW : Wd D A s [(h0, .inr (1, [.ref m0, .ref qk, .ref qs, .ref qc, .ref qb, .int (md), .int (bs), .int (nI (fc)), .int (nI (tk)), .int (nI (cl)), .int (nI (dp)), .int (nI (0)), .int (nI (0))])), (qk, .inl (cy 0, 8, .inl (kf))), (qc, .inl (cy 0, 8, .inl (kf))), (qb, .inl (cy 0, 16, .inl ((fun _ => nI (0)))))] H locs := hW
  exact eV hQ hx hb hr hlocks hK hW () (trivial) (rfl) dX1_startChunk_20

theorem f_X1_restart_0 : Cond.fieldLink RX1 18 "TreeHashes$Hasher" "key" "[I" ∈ wsX1_restart := by decide +kernel
theorem i_X1_restart_X1 : ∀ w ∈ wsX10, w ∈ wsX1_restart := by decide +kernel
theorem f_X1_restart_2 : Cond.fieldLink RX1 42 "TreeHashes$Hasher" "mode" "I" ∈ wsX1_restart := by decide +kernel
theorem f_X1_restart_3 : Cond.fieldLink RX1 46 "TreeHashes$Hasher" "base" "I" ∈ wsX1_restart := by decide +kernel
theorem f_X1_restart_4 : Cond.fieldLink RX1 49 "TreeHashes$Hasher" "firstChunk" "I" ∈ wsX1_restart := by decide +kernel
theorem f_X1_restart_5 : Cond.fieldLink RX1 52 "TreeHashes$Hasher" "taken" "I" ∈ wsX1_restart := by decide +kernel
theorem f_X1_restart_6 : Cond.fieldLink RX1 55 "TreeHashes$Hasher" "closed" "I" ∈ wsX1_restart := by decide +kernel
theorem f_X1_restart_7 : Cond.fieldLink RX1 58 "TreeHashes$Hasher" "depth" "I" ∈ wsX1_restart := by decide +kernel
set_option maxHeartbeats 4000000 in
set_option maxRecDepth 100000 in
theorem c_X1_restart (l : Launch) (D : va_G) (cy : Nat → ClassId) (t : Nat × Nat) (m0 : Nat) (h0 : Nat) (qk : Nat) (qs : Nat) (qc : Nat) (qb : Nat) (md : Int32) (bs : Int32) (fc : Nat) (tk : Nat) (cl : Nat) (dp : Nat) (bk : Nat) (ib : Nat) (kf : Nat → Int32) (cf : Nat → Int32) (bf : Nat → Int32) (md2 : Int32) (bs2 : Int32) (fc2 : Nat) (kc : Nat) (k2 : Nat → Int32)  (sz : Nat) : Met l yX1_restart wsX1_restart ({ frames := 2, cells := 0, slots := 0, locals := 42 }) (PcW D cy t [(h0, .inr (1, [.ref m0, .ref qk, .ref qs, .ref qc, .ref qb, .int (md), .int (bs), .int (nI (fc)), .int (nI (tk)), .int (nI (cl)), .int (nI (dp)), .int (nI (bk)), .int (nI (ib))])), (qk, .inl (cy 0, 8, .inl (kf))), (qc, .inl (cy 0, 8, .inl (cf))), (qb, .inl (cy 0, 16, .inl (bf))), (kc, .inl (cy 0, 8, .inl (k2)))] [.ref h0, .int (md2), .int (bs2), .ref kc, .int (nI (fc2))] sz) (QvA D cy (fun u : Unit => True) (fun u : Unit => [(h0, .inr (1, [.ref m0, .ref qk, .ref qs, .ref qc, .ref qb, .int (md2), .int (bs2), .int (nI (fc2)), .int (nI (0)), .int (nI (0)), .int (nI (0)), .int (nI (0)), .int (nI (0))])), (qk, .inl (cy 0, 8, .inl (k2))), (qc, .inl (cy 0, 8, .inl (k2))), (qb, .inl (cy 0, 16, .inl ((fun _ => nI (0))))), (kc, .inl (cy 0, 8, .inl (k2)))]) (va_A [(h0, .inr (1, [.ref m0, .ref qk, .ref qs, .ref qc, .ref qb, .int (md), .int (bs), .int (nI (fc)), .int (nI (tk)), .int (nI (cl)), .int (nI (dp)), .int (nI (bk)), .int (nI (ib))])), (qk, .inl (cy 0, 8, .inl (kf))), (qc, .inl (cy 0, 8, .inl (cf))), (qb, .inl (cy 0, 16, .inl (bf))), (kc, .inl (cy 0, 8, .inl (k2)))] sz)) 0 0 (va_A [(h0, .inr (1, [.ref m0, .ref qk, .ref qs, .ref qc, .ref qb, .int (md), .int (bs), .int (nI (fc)), .int (nI (tk)), .int (nI (cl)), .int (nI (dp)), .int (nI (bk)), .int (nI (ib))])), (qk, .inl (cy 0, 8, .inl (kf))), (qc, .inl (cy 0, 8, .inl (cf))), (qb, .inl (cy 0, 16, .inl (bf))), (kc, .inl (cy 0, 8, .inl (k2)))] sz) := by
  refine M_ofW (cc := cX1_restart) (maxL := 5) (ret := none) (by decide) rfl (Nat.le_of_ble_eq_true rfl) ?_
  intro p e s m below meth c A ls args Q hQ S0 hr hlocks hnm hK hst hA hW hl
  have hx := S0.1; have hb := S0.2.1; have hml := S0.2.2.1; have hown := S0.2.2.2.1; have hts := S0.2.2.2.2
  have hl : lv_has ls 5 [(0, .ref h0), (1, .int (md2)), (2, .int (bs2)), (3, .ref kc), (4, .int (nI (fc2)))] := hl
  refine lv_aload_n hx hb dX1_restart_0 rfl (lv_at hl 3 rfl) ?_
  refine lv_aload_n hx hb dX1_restart_1 rfl (lv_at hl 0 rfl) ?_
  refine va_get (D := D) (ci := 1) (v := .ref qk) (C := RX1) (T := TX1) (N := 13) hx hb hts i_X1_restart_X1 hown hK hW.1 0 rfl rfl 1 (by decide) (hts (.fieldLink RX1 18 "TreeHashes$Hasher" "key" "[I") f_X1_restart_0) (fun _ h9 => h9) rfl dX1_restart_2 ?_
  refine kSv (As := [.ref kc, .ref qk]) (rest := []) S0 hK hst hA hW [4, 1] (fun sz => c_X1_copyWords l D cy t kc qk 8 k2 kf (by omega) sz) rfl (by decide) (va_cwS 2 hts gX1_restart_X1_copyWords rfl rfl rfl (by decide +kernel) ⟨Nat.le_of_ble_eq_true rfl, Nat.le_of_ble_eq_true rfl⟩) (fun _ => rfl) rfl hl.1 rfl (Nat.le_of_ble_eq_true rfl) dX1_restart_5 ⟨Nat.le_of_ble_eq_true rfl, Nat.le_of_ble_eq_true rfl⟩ (fun u5 H locs p5 hW => ?_)
  have hW : Wd D A s [(h0, .inr (1, [.ref m0, .ref qk, .ref qs, .ref qc, .ref qb, .int (md), .int (bs), .int (nI (fc)), .int (nI (tk)), .int (nI (cl)), .int (nI (dp)), .int (nI (bk)), .int (nI (ib))])), (qk, .inl (cy 0, 8, .inl (k2))), (qc, .inl (cy 0, 8, .inl (cf))), (qb, .inl (cy 0, 16, .inl (bf))), (kc, .inl (cy 0, 8, .inl (k2)))] H locs := hW
  refine lv_aload_n hx hb dX1_restart_8 rfl (lv_at hl 0 rfl) ?_
  refine lv_iload_n hx hb dX1_restart_9 rfl (lv_at hl 1 rfl) ?_
  refine va_put (D := D) (ci := 1) (v := .int (md2)) (ty := .int) (C := RX1) (T := TX1) (N := 13) hx hb hts i_X1_restart_X1 tyX1 tyX1_ok nmX1 hown hK hW.1 hW.2.1 hW.2.2 0 rfl rfl 5 (by decide) (hts (.fieldLink RX1 42 "TreeHashes$Hasher" "mode" "I") f_X1_restart_2) (fun _ h9 => h9) rfl (by decide +kernel) rfl rfl (Nat.le_of_ble_eq_true rfl) dX1_restart_10 (fun H locs hP hD hS => ?_)
  have hW : Wd D A s [(h0, .inr (1, [.ref m0, .ref qk, .ref qs, .ref qc, .ref qb, .int (md2), .int (bs), .int (nI (fc)), .int (nI (tk)), .int (nI (cl)), .int (nI (dp)), .int (nI (bk)), .int (nI (ib))])), (qk, .inl (cy 0, 8, .inl (k2))), (qc, .inl (cy 0, 8, .inl (cf))), (qb, .inl (cy 0, 16, .inl (bf))), (kc, .inl (cy 0, 8, .inl (k2)))] H locs := ⟨hP, hD, hS⟩
  refine lv_aload_n hx hb dX1_restart_13 rfl (lv_at hl 0 rfl) ?_
  refine lv_iload_n hx hb dX1_restart_14 rfl (lv_at hl 2 rfl) ?_
  refine va_put (D := D) (ci := 1) (v := .int (bs2)) (ty := .int) (C := RX1) (T := TX1) (N := 13) hx hb hts i_X1_restart_X1 tyX1 tyX1_ok nmX1 hown hK hW.1 hW.2.1 hW.2.2 0 rfl rfl 6 (by decide) (hts (.fieldLink RX1 46 "TreeHashes$Hasher" "base" "I") f_X1_restart_3) (fun _ h9 => h9) rfl (by decide +kernel) rfl rfl (Nat.le_of_ble_eq_true rfl) dX1_restart_15 (fun H locs hP hD hS => ?_)
  have hW : Wd D A s [(h0, .inr (1, [.ref m0, .ref qk, .ref qs, .ref qc, .ref qb, .int (md2), .int (bs2), .int (nI (fc)), .int (nI (tk)), .int (nI (cl)), .int (nI (dp)), .int (nI (bk)), .int (nI (ib))])), (qk, .inl (cy 0, 8, .inl (k2))), (qc, .inl (cy 0, 8, .inl (cf))), (qb, .inl (cy 0, 16, .inl (bf))), (kc, .inl (cy 0, 8, .inl (k2)))] H locs := ⟨hP, hD, hS⟩
  refine lv_aload_n hx hb dX1_restart_18 rfl (lv_at hl 0 rfl) ?_
  refine lv_iload hx hb dX1_restart_19 (lv_at hl 4 rfl) ?_
  refine va_put (D := D) (ci := 1) (v := .int (nI (fc2))) (ty := .int) (C := RX1) (T := TX1) (N := 13) hx hb hts i_X1_restart_X1 tyX1 tyX1_ok nmX1 hown hK hW.1 hW.2.1 hW.2.2 0 rfl rfl 7 (by decide) (hts (.fieldLink RX1 49 "TreeHashes$Hasher" "firstChunk" "I") f_X1_restart_4) (fun _ h9 => h9) rfl (by decide +kernel) rfl rfl (Nat.le_of_ble_eq_true rfl) dX1_restart_21 (fun H locs hP hD hS => ?_)
  have hW : Wd D A s [(h0, .inr (1, [.ref m0, .ref qk, .ref qs, .ref qc, .ref qb, .int (md2), .int (bs2), .int (nI (fc2)), .int (nI (tk)), .int (nI (cl)), .int (nI (dp)), .int (nI (bk)), .int (nI (ib))])), (qk, .inl (cy 0, 8, .inl (k2))), (qc, .inl (cy 0, 8, .inl (cf))), (qb, .inl (cy 0, 16, .inl (bf))), (kc, .inl (cy 0, 8, .inl (k2)))] H locs := ⟨hP, hD, hS⟩
  refine lv_aload_n hx hb dX1_restart_24 rfl (lv_at hl 0 rfl) ?_
  refine lv_iconst (v := nI (0)) hx hb dX1_restart_25 (by decide) ?_
  refine va_put (D := D) (ci := 1) (v := .int (nI (0))) (ty := .int) (C := RX1) (T := TX1) (N := 13) hx hb hts i_X1_restart_X1 tyX1 tyX1_ok nmX1 hown hK hW.1 hW.2.1 hW.2.2 0 rfl rfl 8 (by decide) (hts (.fieldLink RX1 52 "TreeHashes$Hasher" "taken" "I") f_X1_restart_5) (fun _ h9 => h9) rfl (by decide +kernel) rfl rfl (Nat.le_of_ble_eq_true rfl) dX1_restart_26 (fun H locs hP hD hS => ?_)
  have hW : Wd D A s [(h0, .inr (1, [.ref m0, .ref qk, .ref qs, .ref qc, .ref qb, .int (md2), .int (bs2), .int (nI (fc2)), .int (nI (0)), .int (nI (cl)), .int (nI (dp)), .int (nI (bk)), .int (nI (ib))])), (qk, .inl (cy 0, 8, .inl (k2))), (qc, .inl (cy 0, 8, .inl (cf))), (qb, .inl (cy 0, 16, .inl (bf))), (kc, .inl (cy 0, 8, .inl (k2)))] H locs := ⟨hP, hD, hS⟩
  refine lv_aload_n hx hb dX1_restart_29 rfl (lv_at hl 0 rfl) ?_
  refine lv_iconst (v := nI (0)) hx hb dX1_restart_30 (by decide) ?_
  refine va_put (D := D) (ci := 1) (v := .int (nI (0))) (ty := .int) (C := RX1) (T := TX1) (N := 13) hx hb hts i_X1_restart_X1 tyX1 tyX1_ok nmX1 hown hK hW.1 hW.2.1 hW.2.2 0 rfl rfl 9 (by decide) (hts (.fieldLink RX1 55 "TreeHashes$Hasher" "closed" "I") f_X1_restart_6) (fun _ h9 => h9) rfl (by decide +kernel) rfl rfl (Nat.le_of_ble_eq_true rfl) dX1_restart_31 (fun H locs hP hD hS => ?_)
  have hW : Wd D A s [(h0, .inr (1, [.ref m0, .ref qk, .ref qs, .ref qc, .ref qb, .int (md2), .int (bs2), .int (nI (fc2)), .int (nI (0)), .int (nI (0)), .int (nI (dp)), .int (nI (bk)), .int (nI (ib))])), (qk, .inl (cy 0, 8, .inl (k2))), (qc, .inl (cy 0, 8, .inl (cf))), (qb, .inl (cy 0, 16, .inl (bf))), (kc, .inl (cy 0, 8, .inl (k2)))] H locs := ⟨hP, hD, hS⟩
  refine lv_aload_n hx hb dX1_restart_34 rfl (lv_at hl 0 rfl) ?_
  refine lv_iconst (v := nI (0)) hx hb dX1_restart_35 (by decide) ?_
  refine va_put (D := D) (ci := 1) (v := .int (nI (0))) (ty := .int) (C := RX1) (T := TX1) (N := 13) hx hb hts i_X1_restart_X1 tyX1 tyX1_ok nmX1 hown hK hW.1 hW.2.1 hW.2.2 0 rfl rfl 10 (by decide) (hts (.fieldLink RX1 58 "TreeHashes$Hasher" "depth" "I") f_X1_restart_7) (fun _ h9 => h9) rfl (by decide +kernel) rfl rfl (Nat.le_of_ble_eq_true rfl) dX1_restart_36 (fun H locs hP hD hS => ?_)
  have hW : Wd D A s [(h0, .inr (1, [.ref m0, .ref qk, .ref qs, .ref qc, .ref qb, .int (md2), .int (bs2), .int (nI (fc2)), .int (nI (0)), .int (nI (0)), .int (nI (0)), .int (nI (bk)), .int (nI (ib))])), (qk, .inl (cy 0, 8, .inl (k2))), (qc, .inl (cy 0, 8, .inl (cf))), (qb, .inl (cy 0, 16, .inl (bf))), (kc, .inl (cy 0, 8, .inl (k2)))] H locs := ⟨hP, hD, hS⟩
  refine lv_aload_n hx hb dX1_restart_39 rfl (lv_at hl 0 rfl) ?_
  refine kVv (As := []) (rest := []) S0 hK hst hA hW [0, 1, 2, 3] (fun sz => c_X1_startChunk l D cy t m0 h0 qk qs qc qb md2 bs2 fc2 0 0 0 bk ib k2 cf bf  sz) rfl (by decide) (cwV 0 hts gX1_restart_X1_startChunk rfl rfl rfl (by decide +kernel) ⟨Nat.le_of_ble_eq_true rfl, Nat.le_of_ble_eq_true rfl⟩) (fun _ => rfl) 0 1 rfl rfl rfl hl.1 rfl (Nat.le_of_ble_eq_true rfl) dX1_restart_40 ⟨Nat.le_of_ble_eq_true rfl, Nat.le_of_ble_eq_true rfl⟩ (fun u40 H locs p40 hW => ?_)
  have hW : Wd D A s [(h0, .inr (1, [.ref m0, .ref qk, .ref qs, .ref qc, .ref qb, .int (md2), .int (bs2), .int (nI (fc2)), .int (nI (0)), .int (nI (0)), .int (nI (0)), .int (nI (0)), .int (nI (0))])), (qk, .inl (cy 0, 8, .inl (k2))), (qc, .inl (cy 0, 8, .inl (k2))), (qb, .inl (cy 0, 16, .inl ((fun _ => nI (0))))), (kc, .inl (cy 0, 8, .inl (k2)))] H locs := hW
  exact eV hQ hx hb hr hlocks hK hW () (trivial) (rfl) dX1_restart_43

theorem f_X1_restart_s_0 : Cond.fieldLink RX1 18 "TreeHashes$Hasher" "key" "[I" ∈ wsX1_restart := by decide +kernel
theorem i_X1_restart_s_X1 : ∀ w ∈ wsX10, w ∈ wsX1_restart := by decide +kernel
theorem f_X1_restart_s_2 : Cond.fieldLink RX1 42 "TreeHashes$Hasher" "mode" "I" ∈ wsX1_restart := by decide +kernel
theorem f_X1_restart_s_3 : Cond.fieldLink RX1 46 "TreeHashes$Hasher" "base" "I" ∈ wsX1_restart := by decide +kernel
theorem f_X1_restart_s_4 : Cond.fieldLink RX1 49 "TreeHashes$Hasher" "firstChunk" "I" ∈ wsX1_restart := by decide +kernel
theorem f_X1_restart_s_5 : Cond.fieldLink RX1 52 "TreeHashes$Hasher" "taken" "I" ∈ wsX1_restart := by decide +kernel
theorem f_X1_restart_s_6 : Cond.fieldLink RX1 55 "TreeHashes$Hasher" "closed" "I" ∈ wsX1_restart := by decide +kernel
theorem f_X1_restart_s_7 : Cond.fieldLink RX1 58 "TreeHashes$Hasher" "depth" "I" ∈ wsX1_restart := by decide +kernel
set_option maxHeartbeats 4000000 in
set_option maxRecDepth 100000 in
theorem c_X1_restart_s (l : Launch) (D : va_G) (cy : Nat → ClassId) (t : Nat × Nat) (m0 : Nat) (h0 : Nat) (qk : Nat) (qs : Nat) (qc : Nat) (qb : Nat) (md : Int32) (bs : Int32) (fc : Nat) (tk : Nat) (cl : Nat) (dp : Nat) (bk : Nat) (ib : Nat) (kf : Nat → Int32) (cf : Nat → Int32) (bf : Nat → Int32) (md2 : Int32) (bs2 : Int32) (fc2 : Nat)  (sz : Nat) : Met l yX1_restart wsX1_restart ({ frames := 2, cells := 0, slots := 0, locals := 42 }) (PcW D cy t [(h0, .inr (1, [.ref m0, .ref qk, .ref qs, .ref qc, .ref qb, .int (md), .int (bs), .int (nI (fc)), .int (nI (tk)), .int (nI (cl)), .int (nI (dp)), .int (nI (bk)), .int (nI (ib))])), (qk, .inl (cy 0, 8, .inl (kf))), (qc, .inl (cy 0, 8, .inl (cf))), (qb, .inl (cy 0, 16, .inl (bf)))] [.ref h0, .int (md2), .int (bs2), .ref t.1, .int (nI (fc2))] sz) (QvA D cy (fun u : Unit => True) (fun u : Unit => [(h0, .inr (1, [.ref m0, .ref qk, .ref qs, .ref qc, .ref qb, .int (md2), .int (bs2), .int (nI (fc2)), .int (nI (0)), .int (nI (0)), .int (nI (0)), .int (nI (0)), .int (nI (0))])), (qk, .inl (cy 0, 8, .inl (stA))), (qc, .inl (cy 0, 8, .inl (stA))), (qb, .inl (cy 0, 16, .inl ((fun _ => nI (0)))))]) (va_A [(h0, .inr (1, [.ref m0, .ref qk, .ref qs, .ref qc, .ref qb, .int (md), .int (bs), .int (nI (fc)), .int (nI (tk)), .int (nI (cl)), .int (nI (dp)), .int (nI (bk)), .int (nI (ib))])), (qk, .inl (cy 0, 8, .inl (kf))), (qc, .inl (cy 0, 8, .inl (cf))), (qb, .inl (cy 0, 16, .inl (bf)))] sz)) 0 0 (va_A [(h0, .inr (1, [.ref m0, .ref qk, .ref qs, .ref qc, .ref qb, .int (md), .int (bs), .int (nI (fc)), .int (nI (tk)), .int (nI (cl)), .int (nI (dp)), .int (nI (bk)), .int (nI (ib))])), (qk, .inl (cy 0, 8, .inl (kf))), (qc, .inl (cy 0, 8, .inl (cf))), (qb, .inl (cy 0, 16, .inl (bf)))] sz) := by
  refine M_ofW (cc := cX1_restart) (maxL := 5) (ret := none) (by decide) rfl (Nat.le_of_ble_eq_true rfl) ?_
  intro p e s m below meth c A ls args Q hQ S0 hr hlocks hnm hK hst hA hW hl
  have hx := S0.1; have hb := S0.2.1; have hml := S0.2.2.1; have hown := S0.2.2.2.1; have hts := S0.2.2.2.2
  have hl : lv_has ls 5 [(0, .ref h0), (1, .int (md2)), (2, .int (bs2)), (3, .ref t.1), (4, .int (nI (fc2)))] := hl
  refine lv_aload_n hx hb dX1_restart_0 rfl (lv_at hl 3 rfl) ?_
  refine lv_aload_n hx hb dX1_restart_1 rfl (lv_at hl 0 rfl) ?_
  refine va_get (D := D) (ci := 1) (v := .ref qk) (C := RX1) (T := TX1) (N := 13) hx hb hts i_X1_restart_s_X1 hown hK hW.1 0 rfl rfl 1 (by decide) (hts (.fieldLink RX1 18 "TreeHashes$Hasher" "key" "[I") f_X1_restart_s_0) (fun _ h9 => h9) rfl dX1_restart_2 ?_
  refine kSv (As := [.ref t.1, .ref qk]) (rest := []) S0 hK hst hA hW [1] (fun sz => c_X1_copyWords_s l D cy t qk kf  sz) rfl (by decide) (va_cwS 2 hts gX1_restart_X1_copyWords rfl rfl rfl (by decide +kernel) ⟨Nat.le_of_ble_eq_true rfl, Nat.le_of_ble_eq_true rfl⟩) (fun _ => rfl) rfl hl.1 rfl (Nat.le_of_ble_eq_true rfl) dX1_restart_5 ⟨Nat.le_of_ble_eq_true rfl, Nat.le_of_ble_eq_true rfl⟩ (fun u5 H locs p5 hW => ?_)
  have hW : Wd D A s [(h0, .inr (1, [.ref m0, .ref qk, .ref qs, .ref qc, .ref qb, .int (md), .int (bs), .int (nI (fc)), .int (nI (tk)), .int (nI (cl)), .int (nI (dp)), .int (nI (bk)), .int (nI (ib))])), (qk, .inl (cy 0, 8, .inl (stA))), (qc, .inl (cy 0, 8, .inl (cf))), (qb, .inl (cy 0, 16, .inl (bf)))] H locs := hW
  refine lv_aload_n hx hb dX1_restart_8 rfl (lv_at hl 0 rfl) ?_
  refine lv_iload_n hx hb dX1_restart_9 rfl (lv_at hl 1 rfl) ?_
  refine va_put (D := D) (ci := 1) (v := .int (md2)) (ty := .int) (C := RX1) (T := TX1) (N := 13) hx hb hts i_X1_restart_s_X1 tyX1 tyX1_ok nmX1 hown hK hW.1 hW.2.1 hW.2.2 0 rfl rfl 5 (by decide) (hts (.fieldLink RX1 42 "TreeHashes$Hasher" "mode" "I") f_X1_restart_s_2) (fun _ h9 => h9) rfl (by decide +kernel) rfl rfl (Nat.le_of_ble_eq_true rfl) dX1_restart_10 (fun H locs hP hD hS => ?_)
  have hW : Wd D A s [(h0, .inr (1, [.ref m0, .ref qk, .ref qs, .ref qc, .ref qb, .int (md2), .int (bs), .int (nI (fc)), .int (nI (tk)), .int (nI (cl)), .int (nI (dp)), .int (nI (bk)), .int (nI (ib))])), (qk, .inl (cy 0, 8, .inl (stA))), (qc, .inl (cy 0, 8, .inl (cf))), (qb, .inl (cy 0, 16, .inl (bf)))] H locs := ⟨hP, hD, hS⟩
  refine lv_aload_n hx hb dX1_restart_13 rfl (lv_at hl 0 rfl) ?_
  refine lv_iload_n hx hb dX1_restart_14 rfl (lv_at hl 2 rfl) ?_
  refine va_put (D := D) (ci := 1) (v := .int (bs2)) (ty := .int) (C := RX1) (T := TX1) (N := 13) hx hb hts i_X1_restart_s_X1 tyX1 tyX1_ok nmX1 hown hK hW.1 hW.2.1 hW.2.2 0 rfl rfl 6 (by decide) (hts (.fieldLink RX1 46 "TreeHashes$Hasher" "base" "I") f_X1_restart_s_3) (fun _ h9 => h9) rfl (by decide +kernel) rfl rfl (Nat.le_of_ble_eq_true rfl) dX1_restart_15 (fun H locs hP hD hS => ?_)
  have hW : Wd D A s [(h0, .inr (1, [.ref m0, .ref qk, .ref qs, .ref qc, .ref qb, .int (md2), .int (bs2), .int (nI (fc)), .int (nI (tk)), .int (nI (cl)), .int (nI (dp)), .int (nI (bk)), .int (nI (ib))])), (qk, .inl (cy 0, 8, .inl (stA))), (qc, .inl (cy 0, 8, .inl (cf))), (qb, .inl (cy 0, 16, .inl (bf)))] H locs := ⟨hP, hD, hS⟩
  refine lv_aload_n hx hb dX1_restart_18 rfl (lv_at hl 0 rfl) ?_
  refine lv_iload hx hb dX1_restart_19 (lv_at hl 4 rfl) ?_
  refine va_put (D := D) (ci := 1) (v := .int (nI (fc2))) (ty := .int) (C := RX1) (T := TX1) (N := 13) hx hb hts i_X1_restart_s_X1 tyX1 tyX1_ok nmX1 hown hK hW.1 hW.2.1 hW.2.2 0 rfl rfl 7 (by decide) (hts (.fieldLink RX1 49 "TreeHashes$Hasher" "firstChunk" "I") f_X1_restart_s_4) (fun _ h9 => h9) rfl (by decide +kernel) rfl rfl (Nat.le_of_ble_eq_true rfl) dX1_restart_21 (fun H locs hP hD hS => ?_)
  have hW : Wd D A s [(h0, .inr (1, [.ref m0, .ref qk, .ref qs, .ref qc, .ref qb, .int (md2), .int (bs2), .int (nI (fc2)), .int (nI (tk)), .int (nI (cl)), .int (nI (dp)), .int (nI (bk)), .int (nI (ib))])), (qk, .inl (cy 0, 8, .inl (stA))), (qc, .inl (cy 0, 8, .inl (cf))), (qb, .inl (cy 0, 16, .inl (bf)))] H locs := ⟨hP, hD, hS⟩
  refine lv_aload_n hx hb dX1_restart_24 rfl (lv_at hl 0 rfl) ?_
  refine lv_iconst (v := nI (0)) hx hb dX1_restart_25 (by decide) ?_
  refine va_put (D := D) (ci := 1) (v := .int (nI (0))) (ty := .int) (C := RX1) (T := TX1) (N := 13) hx hb hts i_X1_restart_s_X1 tyX1 tyX1_ok nmX1 hown hK hW.1 hW.2.1 hW.2.2 0 rfl rfl 8 (by decide) (hts (.fieldLink RX1 52 "TreeHashes$Hasher" "taken" "I") f_X1_restart_s_5) (fun _ h9 => h9) rfl (by decide +kernel) rfl rfl (Nat.le_of_ble_eq_true rfl) dX1_restart_26 (fun H locs hP hD hS => ?_)
  have hW : Wd D A s [(h0, .inr (1, [.ref m0, .ref qk, .ref qs, .ref qc, .ref qb, .int (md2), .int (bs2), .int (nI (fc2)), .int (nI (0)), .int (nI (cl)), .int (nI (dp)), .int (nI (bk)), .int (nI (ib))])), (qk, .inl (cy 0, 8, .inl (stA))), (qc, .inl (cy 0, 8, .inl (cf))), (qb, .inl (cy 0, 16, .inl (bf)))] H locs := ⟨hP, hD, hS⟩
  refine lv_aload_n hx hb dX1_restart_29 rfl (lv_at hl 0 rfl) ?_
  refine lv_iconst (v := nI (0)) hx hb dX1_restart_30 (by decide) ?_
  refine va_put (D := D) (ci := 1) (v := .int (nI (0))) (ty := .int) (C := RX1) (T := TX1) (N := 13) hx hb hts i_X1_restart_s_X1 tyX1 tyX1_ok nmX1 hown hK hW.1 hW.2.1 hW.2.2 0 rfl rfl 9 (by decide) (hts (.fieldLink RX1 55 "TreeHashes$Hasher" "closed" "I") f_X1_restart_s_6) (fun _ h9 => h9) rfl (by decide +kernel) rfl rfl (Nat.le_of_ble_eq_true rfl) dX1_restart_31 (fun H locs hP hD hS => ?_)
  have hW : Wd D A s [(h0, .inr (1, [.ref m0, .ref qk, .ref qs, .ref qc, .ref qb, .int (md2), .int (bs2), .int (nI (fc2)), .int (nI (0)), .int (nI (0)), .int (nI (dp)), .int (nI (bk)), .int (nI (ib))])), (qk, .inl (cy 0, 8, .inl (stA))), (qc, .inl (cy 0, 8, .inl (cf))), (qb, .inl (cy 0, 16, .inl (bf)))] H locs := ⟨hP, hD, hS⟩
  refine lv_aload_n hx hb dX1_restart_34 rfl (lv_at hl 0 rfl) ?_
  refine lv_iconst (v := nI (0)) hx hb dX1_restart_35 (by decide) ?_
  refine va_put (D := D) (ci := 1) (v := .int (nI (0))) (ty := .int) (C := RX1) (T := TX1) (N := 13) hx hb hts i_X1_restart_s_X1 tyX1 tyX1_ok nmX1 hown hK hW.1 hW.2.1 hW.2.2 0 rfl rfl 10 (by decide) (hts (.fieldLink RX1 58 "TreeHashes$Hasher" "depth" "I") f_X1_restart_s_7) (fun _ h9 => h9) rfl (by decide +kernel) rfl rfl (Nat.le_of_ble_eq_true rfl) dX1_restart_36 (fun H locs hP hD hS => ?_)
  have hW : Wd D A s [(h0, .inr (1, [.ref m0, .ref qk, .ref qs, .ref qc, .ref qb, .int (md2), .int (bs2), .int (nI (fc2)), .int (nI (0)), .int (nI (0)), .int (nI (0)), .int (nI (bk)), .int (nI (ib))])), (qk, .inl (cy 0, 8, .inl (stA))), (qc, .inl (cy 0, 8, .inl (cf))), (qb, .inl (cy 0, 16, .inl (bf)))] H locs := ⟨hP, hD, hS⟩
  refine lv_aload_n hx hb dX1_restart_39 rfl (lv_at hl 0 rfl) ?_
  refine kVv (As := []) (rest := []) S0 hK hst hA hW [0, 1, 2, 3] (fun sz => c_X1_startChunk l D cy t m0 h0 qk qs qc qb md2 bs2 fc2 0 0 0 bk ib stA cf bf  sz) rfl (by decide) (cwV 0 hts gX1_restart_X1_startChunk rfl rfl rfl (by decide +kernel) ⟨Nat.le_of_ble_eq_true rfl, Nat.le_of_ble_eq_true rfl⟩) (fun _ => rfl) 0 1 rfl rfl rfl hl.1 rfl (Nat.le_of_ble_eq_true rfl) dX1_restart_40 ⟨Nat.le_of_ble_eq_true rfl, Nat.le_of_ble_eq_true rfl⟩ (fun u40 H locs p40 hW => ?_)
  have hW : Wd D A s [(h0, .inr (1, [.ref m0, .ref qk, .ref qs, .ref qc, .ref qb, .int (md2), .int (bs2), .int (nI (fc2)), .int (nI (0)), .int (nI (0)), .int (nI (0)), .int (nI (0)), .int (nI (0))])), (qk, .inl (cy 0, 8, .inl (stA))), (qc, .inl (cy 0, 8, .inl (stA))), (qb, .inl (cy 0, 16, .inl ((fun _ => nI (0)))))] H locs := hW
  exact eV hQ hx hb hr hlocks hK hW () (trivial) (rfl) dX1_restart_43

theorem f_X1_becomeAs_0 : Cond.fieldLink RX1 18 "TreeHashes$Hasher" "key" "[I" ∈ wsX1_becomeAs := by decide +kernel
theorem i_X1_becomeAs_X1 : ∀ w ∈ wsX10, w ∈ wsX1_becomeAs := by decide +kernel
theorem f_X1_becomeAs_2 : Cond.fieldLink RX1 22 "TreeHashes$Hasher" "stack" "[I" ∈ wsX1_becomeAs := by decide +kernel
theorem f_X1_becomeAs_3 : Cond.fieldLink RX1 25 "TreeHashes$Hasher" "chunkChain" "[I" ∈ wsX1_becomeAs := by decide +kernel
theorem f_X1_becomeAs_4 : Cond.fieldLink RX1 28 "TreeHashes$Hasher" "block" "[I" ∈ wsX1_becomeAs := by decide +kernel
theorem f_X1_becomeAs_5 : Cond.fieldLink RX1 42 "TreeHashes$Hasher" "mode" "I" ∈ wsX1_becomeAs := by decide +kernel
theorem f_X1_becomeAs_6 : Cond.fieldLink RX1 46 "TreeHashes$Hasher" "base" "I" ∈ wsX1_becomeAs := by decide +kernel
theorem f_X1_becomeAs_7 : Cond.fieldLink RX1 49 "TreeHashes$Hasher" "firstChunk" "I" ∈ wsX1_becomeAs := by decide +kernel
theorem f_X1_becomeAs_8 : Cond.fieldLink RX1 52 "TreeHashes$Hasher" "taken" "I" ∈ wsX1_becomeAs := by decide +kernel
theorem f_X1_becomeAs_9 : Cond.fieldLink RX1 55 "TreeHashes$Hasher" "closed" "I" ∈ wsX1_becomeAs := by decide +kernel
theorem f_X1_becomeAs_10 : Cond.fieldLink RX1 58 "TreeHashes$Hasher" "depth" "I" ∈ wsX1_becomeAs := by decide +kernel
theorem f_X1_becomeAs_11 : Cond.fieldLink RX1 64 "TreeHashes$Hasher" "blocks" "I" ∈ wsX1_becomeAs := by decide +kernel
theorem f_X1_becomeAs_12 : Cond.fieldLink RX1 67 "TreeHashes$Hasher" "inBlock" "I" ∈ wsX1_becomeAs := by decide +kernel
set_option maxHeartbeats 4000000 in
set_option maxRecDepth 100000 in
theorem c_X1_becomeAs (l : Launch) (D : va_G) (cy : Nat → ClassId) (t : Nat × Nat) (m0 : Nat) (h0 : Nat) (qk : Nat) (qs : Nat) (qc : Nat) (qb : Nat) (md : Int32) (bs : Int32) (fc : Nat) (tk : Nat) (cl : Nat) (dp : Nat) (bk : Nat) (ib : Nat) (kf : Nat → Int32) (sf : Nat → Int32) (cf : Nat → Int32) (bf : Nat → Int32) (g0 : Nat) (p0 : Nat) (pk : Nat) (ps : Nat) (pc : Nat) (pb : Nat) (md2 : Int32) (bs2 : Int32) (fc2 : Nat) (tk2 : Nat) (cl2 : Nat) (dp2 : Nat) (bk2 : Nat) (ib2 : Nat) (kf2 : Nat → Int32) (sf2 : Nat → Int32) (cf2 : Nat → Int32) (bf2 : Nat → Int32)  (sz : Nat) : Met l yX1_becomeAs wsX1_becomeAs ({ frames := 1, cells := 0, slots := 0, locals := 22 }) (PcW D cy t [(h0, .inr (1, [.ref m0, .ref qk, .ref qs, .ref qc, .ref qb, .int (md), .int (bs), .int (nI (fc)), .int (nI (tk)), .int (nI (cl)), .int (nI (dp)), .int (nI (bk)), .int (nI (ib))])), (qk, .inl (cy 0, 8, .inl (kf))), (qs, .inl (cy 0, 40, .inl (sf))), (qc, .inl (cy 0, 8, .inl (cf))), (qb, .inl (cy 0, 16, .inl (bf))), (g0, .inr (1, [.ref p0, .ref pk, .ref ps, .ref pc, .ref pb, .int (md2), .int (bs2), .int (nI (fc2)), .int (nI (tk2)), .int (nI (cl2)), .int (nI (dp2)), .int (nI (bk2)), .int (nI (ib2))])), (pk, .inl (cy 0, 8, .inl (kf2))), (ps, .inl (cy 0, 40, .inl (sf2))), (pc, .inl (cy 0, 8, .inl (cf2))), (pb, .inl (cy 0, 16, .inl (bf2)))] [.ref h0, .ref g0] sz) (QvA D cy (fun u : Unit => True) (fun u : Unit => [(h0, .inr (1, [.ref m0, .ref qk, .ref qs, .ref qc, .ref qb, .int (md2), .int (bs2), .int (nI (fc2)), .int (nI (tk2)), .int (nI (cl2)), .int (nI (dp2)), .int (nI (bk2)), .int (nI (ib2))])), (qk, .inl (cy 0, 8, .inl (kf2))), (qs, .inl (cy 0, 40, .inl (sf2))), (qc, .inl (cy 0, 8, .inl (cf2))), (qb, .inl (cy 0, 16, .inl (bf2))), (g0, .inr (1, [.ref p0, .ref pk, .ref ps, .ref pc, .ref pb, .int (md2), .int (bs2), .int (nI (fc2)), .int (nI (tk2)), .int (nI (cl2)), .int (nI (dp2)), .int (nI (bk2)), .int (nI (ib2))])), (pk, .inl (cy 0, 8, .inl (kf2))), (ps, .inl (cy 0, 40, .inl (sf2))), (pc, .inl (cy 0, 8, .inl (cf2))), (pb, .inl (cy 0, 16, .inl (bf2)))]) (va_A [(h0, .inr (1, [.ref m0, .ref qk, .ref qs, .ref qc, .ref qb, .int (md), .int (bs), .int (nI (fc)), .int (nI (tk)), .int (nI (cl)), .int (nI (dp)), .int (nI (bk)), .int (nI (ib))])), (qk, .inl (cy 0, 8, .inl (kf))), (qs, .inl (cy 0, 40, .inl (sf))), (qc, .inl (cy 0, 8, .inl (cf))), (qb, .inl (cy 0, 16, .inl (bf))), (g0, .inr (1, [.ref p0, .ref pk, .ref ps, .ref pc, .ref pb, .int (md2), .int (bs2), .int (nI (fc2)), .int (nI (tk2)), .int (nI (cl2)), .int (nI (dp2)), .int (nI (bk2)), .int (nI (ib2))])), (pk, .inl (cy 0, 8, .inl (kf2))), (ps, .inl (cy 0, 40, .inl (sf2))), (pc, .inl (cy 0, 8, .inl (cf2))), (pb, .inl (cy 0, 16, .inl (bf2)))] sz)) 0 0 (va_A [(h0, .inr (1, [.ref m0, .ref qk, .ref qs, .ref qc, .ref qb, .int (md), .int (bs), .int (nI (fc)), .int (nI (tk)), .int (nI (cl)), .int (nI (dp)), .int (nI (bk)), .int (nI (ib))])), (qk, .inl (cy 0, 8, .inl (kf))), (qs, .inl (cy 0, 40, .inl (sf))), (qc, .inl (cy 0, 8, .inl (cf))), (qb, .inl (cy 0, 16, .inl (bf))), (g0, .inr (1, [.ref p0, .ref pk, .ref ps, .ref pc, .ref pb, .int (md2), .int (bs2), .int (nI (fc2)), .int (nI (tk2)), .int (nI (cl2)), .int (nI (dp2)), .int (nI (bk2)), .int (nI (ib2))])), (pk, .inl (cy 0, 8, .inl (kf2))), (ps, .inl (cy 0, 40, .inl (sf2))), (pc, .inl (cy 0, 8, .inl (cf2))), (pb, .inl (cy 0, 16, .inl (bf2)))] sz) := by
  refine M_ofW (cc := cX1_becomeAs) (maxL := 2) (ret := none) (by decide) rfl (Nat.le_of_ble_eq_true rfl) ?_
  intro p e s m below meth c A ls args Q hQ S0 hr hlocks hnm hK hst hA hW hl
  have hx := S0.1; have hb := S0.2.1; have hml := S0.2.2.1; have hown := S0.2.2.2.1; have hts := S0.2.2.2.2
  have hl : lv_has ls 2 [(0, .ref h0), (1, .ref g0)] := hl
  refine lv_aload_n hx hb dX1_becomeAs_0 rfl (lv_at hl 1 rfl) ?_
  refine va_get (D := D) (ci := 1) (v := .ref pk) (C := RX1) (T := TX1) (N := 13) hx hb hts i_X1_becomeAs_X1 hown hK hW.1 5 rfl rfl 1 (by decide) (hts (.fieldLink RX1 18 "TreeHashes$Hasher" "key" "[I") f_X1_becomeAs_0) (fun _ h9 => h9) rfl dX1_becomeAs_1 ?_
  refine lv_aload_n hx hb dX1_becomeAs_4 rfl (lv_at hl 0 rfl) ?_
  refine va_get (D := D) (ci := 1) (v := .ref qk) (C := RX1) (T := TX1) (N := 13) hx hb hts i_X1_becomeAs_X1 hown hK hW.1 0 rfl rfl 1 (by decide) (hts (.fieldLink RX1 18 "TreeHashes$Hasher" "key" "[I") f_X1_becomeAs_0) (fun _ h9 => h9) rfl dX1_becomeAs_5 ?_
  refine kSv (As := [.ref pk, .ref qk]) (rest := []) S0 hK hst hA hW [6, 1] (fun sz => c_X1_copyWords l D cy t pk qk 8 kf2 kf (by omega) sz) rfl (by decide) (va_cwS 2 hts gX1_becomeAs_X1_copyWords rfl rfl rfl (by decide +kernel) ⟨Nat.le_of_ble_eq_true rfl, Nat.le_of_ble_eq_true rfl⟩) (fun _ => rfl) rfl hl.1 rfl (Nat.le_of_ble_eq_true rfl) dX1_becomeAs_8 ⟨Nat.le_of_ble_eq_true rfl, Nat.le_of_ble_eq_true rfl⟩ (fun u8 H locs p8 hW => ?_)
  have hW : Wd D A s [(h0, .inr (1, [.ref m0, .ref qk, .ref qs, .ref qc, .ref qb, .int (md), .int (bs), .int (nI (fc)), .int (nI (tk)), .int (nI (cl)), .int (nI (dp)), .int (nI (bk)), .int (nI (ib))])), (qk, .inl (cy 0, 8, .inl (kf2))), (qs, .inl (cy 0, 40, .inl (sf))), (qc, .inl (cy 0, 8, .inl (cf))), (qb, .inl (cy 0, 16, .inl (bf))), (g0, .inr (1, [.ref p0, .ref pk, .ref ps, .ref pc, .ref pb, .int (md2), .int (bs2), .int (nI (fc2)), .int (nI (tk2)), .int (nI (cl2)), .int (nI (dp2)), .int (nI (bk2)), .int (nI (ib2))])), (pk, .inl (cy 0, 8, .inl (kf2))), (ps, .inl (cy 0, 40, .inl (sf2))), (pc, .inl (cy 0, 8, .inl (cf2))), (pb, .inl (cy 0, 16, .inl (bf2)))] H locs := hW
  refine lv_aload_n hx hb dX1_becomeAs_11 rfl (lv_at hl 1 rfl) ?_
  refine va_get (D := D) (ci := 1) (v := .ref ps) (C := RX1) (T := TX1) (N := 13) hx hb hts i_X1_becomeAs_X1 hown hK hW.1 5 rfl rfl 2 (by decide) (hts (.fieldLink RX1 22 "TreeHashes$Hasher" "stack" "[I") f_X1_becomeAs_2) (fun _ h9 => h9) rfl dX1_becomeAs_12 ?_
  refine lv_aload_n hx hb dX1_becomeAs_15 rfl (lv_at hl 0 rfl) ?_
  refine va_get (D := D) (ci := 1) (v := .ref qs) (C := RX1) (T := TX1) (N := 13) hx hb hts i_X1_becomeAs_X1 hown hK hW.1 0 rfl rfl 2 (by decide) (hts (.fieldLink RX1 22 "TreeHashes$Hasher" "stack" "[I") f_X1_becomeAs_2) (fun _ h9 => h9) rfl dX1_becomeAs_16 ?_
  refine kSv (As := [.ref ps, .ref qs]) (rest := []) S0 hK hst hA hW [7, 2] (fun sz => c_X1_copyWords l D cy t ps qs 40 sf2 sf (by omega) sz) rfl (by decide) (va_cwS 2 hts gX1_becomeAs_X1_copyWords rfl rfl rfl (by decide +kernel) ⟨Nat.le_of_ble_eq_true rfl, Nat.le_of_ble_eq_true rfl⟩) (fun _ => rfl) rfl hl.1 rfl (Nat.le_of_ble_eq_true rfl) dX1_becomeAs_19 ⟨Nat.le_of_ble_eq_true rfl, Nat.le_of_ble_eq_true rfl⟩ (fun u19 H locs p19 hW => ?_)
  have hW : Wd D A s [(h0, .inr (1, [.ref m0, .ref qk, .ref qs, .ref qc, .ref qb, .int (md), .int (bs), .int (nI (fc)), .int (nI (tk)), .int (nI (cl)), .int (nI (dp)), .int (nI (bk)), .int (nI (ib))])), (qk, .inl (cy 0, 8, .inl (kf2))), (qs, .inl (cy 0, 40, .inl (sf2))), (qc, .inl (cy 0, 8, .inl (cf))), (qb, .inl (cy 0, 16, .inl (bf))), (g0, .inr (1, [.ref p0, .ref pk, .ref ps, .ref pc, .ref pb, .int (md2), .int (bs2), .int (nI (fc2)), .int (nI (tk2)), .int (nI (cl2)), .int (nI (dp2)), .int (nI (bk2)), .int (nI (ib2))])), (pk, .inl (cy 0, 8, .inl (kf2))), (ps, .inl (cy 0, 40, .inl (sf2))), (pc, .inl (cy 0, 8, .inl (cf2))), (pb, .inl (cy 0, 16, .inl (bf2)))] H locs := hW
  refine lv_aload_n hx hb dX1_becomeAs_22 rfl (lv_at hl 1 rfl) ?_
  refine va_get (D := D) (ci := 1) (v := .ref pc) (C := RX1) (T := TX1) (N := 13) hx hb hts i_X1_becomeAs_X1 hown hK hW.1 5 rfl rfl 3 (by decide) (hts (.fieldLink RX1 25 "TreeHashes$Hasher" "chunkChain" "[I") f_X1_becomeAs_3) (fun _ h9 => h9) rfl dX1_becomeAs_23 ?_
  refine lv_aload_n hx hb dX1_becomeAs_26 rfl (lv_at hl 0 rfl) ?_
  refine va_get (D := D) (ci := 1) (v := .ref qc) (C := RX1) (T := TX1) (N := 13) hx hb hts i_X1_becomeAs_X1 hown hK hW.1 0 rfl rfl 3 (by decide) (hts (.fieldLink RX1 25 "TreeHashes$Hasher" "chunkChain" "[I") f_X1_becomeAs_3) (fun _ h9 => h9) rfl dX1_becomeAs_27 ?_
  refine kSv (As := [.ref pc, .ref qc]) (rest := []) S0 hK hst hA hW [8, 3] (fun sz => c_X1_copyWords l D cy t pc qc 8 cf2 cf (by omega) sz) rfl (by decide) (va_cwS 2 hts gX1_becomeAs_X1_copyWords rfl rfl rfl (by decide +kernel) ⟨Nat.le_of_ble_eq_true rfl, Nat.le_of_ble_eq_true rfl⟩) (fun _ => rfl) rfl hl.1 rfl (Nat.le_of_ble_eq_true rfl) dX1_becomeAs_30 ⟨Nat.le_of_ble_eq_true rfl, Nat.le_of_ble_eq_true rfl⟩ (fun u30 H locs p30 hW => ?_)
  have hW : Wd D A s [(h0, .inr (1, [.ref m0, .ref qk, .ref qs, .ref qc, .ref qb, .int (md), .int (bs), .int (nI (fc)), .int (nI (tk)), .int (nI (cl)), .int (nI (dp)), .int (nI (bk)), .int (nI (ib))])), (qk, .inl (cy 0, 8, .inl (kf2))), (qs, .inl (cy 0, 40, .inl (sf2))), (qc, .inl (cy 0, 8, .inl (cf2))), (qb, .inl (cy 0, 16, .inl (bf))), (g0, .inr (1, [.ref p0, .ref pk, .ref ps, .ref pc, .ref pb, .int (md2), .int (bs2), .int (nI (fc2)), .int (nI (tk2)), .int (nI (cl2)), .int (nI (dp2)), .int (nI (bk2)), .int (nI (ib2))])), (pk, .inl (cy 0, 8, .inl (kf2))), (ps, .inl (cy 0, 40, .inl (sf2))), (pc, .inl (cy 0, 8, .inl (cf2))), (pb, .inl (cy 0, 16, .inl (bf2)))] H locs := hW
  refine lv_aload_n hx hb dX1_becomeAs_33 rfl (lv_at hl 1 rfl) ?_
  refine va_get (D := D) (ci := 1) (v := .ref pb) (C := RX1) (T := TX1) (N := 13) hx hb hts i_X1_becomeAs_X1 hown hK hW.1 5 rfl rfl 4 (by decide) (hts (.fieldLink RX1 28 "TreeHashes$Hasher" "block" "[I") f_X1_becomeAs_4) (fun _ h9 => h9) rfl dX1_becomeAs_34 ?_
  refine lv_aload_n hx hb dX1_becomeAs_37 rfl (lv_at hl 0 rfl) ?_
  refine va_get (D := D) (ci := 1) (v := .ref qb) (C := RX1) (T := TX1) (N := 13) hx hb hts i_X1_becomeAs_X1 hown hK hW.1 0 rfl rfl 4 (by decide) (hts (.fieldLink RX1 28 "TreeHashes$Hasher" "block" "[I") f_X1_becomeAs_4) (fun _ h9 => h9) rfl dX1_becomeAs_38 ?_
  refine kSv (As := [.ref pb, .ref qb]) (rest := []) S0 hK hst hA hW [9, 4] (fun sz => c_X1_copyWords l D cy t pb qb 16 bf2 bf (by omega) sz) rfl (by decide) (va_cwS 2 hts gX1_becomeAs_X1_copyWords rfl rfl rfl (by decide +kernel) ⟨Nat.le_of_ble_eq_true rfl, Nat.le_of_ble_eq_true rfl⟩) (fun _ => rfl) rfl hl.1 rfl (Nat.le_of_ble_eq_true rfl) dX1_becomeAs_41 ⟨Nat.le_of_ble_eq_true rfl, Nat.le_of_ble_eq_true rfl⟩ (fun u41 H locs p41 hW => ?_)
  have hW : Wd D A s [(h0, .inr (1, [.ref m0, .ref qk, .ref qs, .ref qc, .ref qb, .int (md), .int (bs), .int (nI (fc)), .int (nI (tk)), .int (nI (cl)), .int (nI (dp)), .int (nI (bk)), .int (nI (ib))])), (qk, .inl (cy 0, 8, .inl (kf2))), (qs, .inl (cy 0, 40, .inl (sf2))), (qc, .inl (cy 0, 8, .inl (cf2))), (qb, .inl (cy 0, 16, .inl (bf2))), (g0, .inr (1, [.ref p0, .ref pk, .ref ps, .ref pc, .ref pb, .int (md2), .int (bs2), .int (nI (fc2)), .int (nI (tk2)), .int (nI (cl2)), .int (nI (dp2)), .int (nI (bk2)), .int (nI (ib2))])), (pk, .inl (cy 0, 8, .inl (kf2))), (ps, .inl (cy 0, 40, .inl (sf2))), (pc, .inl (cy 0, 8, .inl (cf2))), (pb, .inl (cy 0, 16, .inl (bf2)))] H locs := hW
  refine lv_aload_n hx hb dX1_becomeAs_44 rfl (lv_at hl 0 rfl) ?_
  refine lv_aload_n hx hb dX1_becomeAs_45 rfl (lv_at hl 1 rfl) ?_
  refine va_get (D := D) (ci := 1) (v := .int (md2)) (C := RX1) (T := TX1) (N := 13) hx hb hts i_X1_becomeAs_X1 hown hK hW.1 5 rfl rfl 5 (by decide) (hts (.fieldLink RX1 42 "TreeHashes$Hasher" "mode" "I") f_X1_becomeAs_5) (fun _ h9 => h9) rfl dX1_becomeAs_46 ?_
  refine va_put (D := D) (ci := 1) (v := .int (md2)) (ty := .int) (C := RX1) (T := TX1) (N := 13) hx hb hts i_X1_becomeAs_X1 tyX1 tyX1_ok nmX1 hown hK hW.1 hW.2.1 hW.2.2 0 rfl rfl 5 (by decide) (hts (.fieldLink RX1 42 "TreeHashes$Hasher" "mode" "I") f_X1_becomeAs_5) (fun _ h9 => h9) rfl (by decide +kernel) rfl rfl (Nat.le_of_ble_eq_true rfl) dX1_becomeAs_49 (fun H locs hP hD hS => ?_)
  have hW : Wd D A s [(h0, .inr (1, [.ref m0, .ref qk, .ref qs, .ref qc, .ref qb, .int (md2), .int (bs), .int (nI (fc)), .int (nI (tk)), .int (nI (cl)), .int (nI (dp)), .int (nI (bk)), .int (nI (ib))])), (qk, .inl (cy 0, 8, .inl (kf2))), (qs, .inl (cy 0, 40, .inl (sf2))), (qc, .inl (cy 0, 8, .inl (cf2))), (qb, .inl (cy 0, 16, .inl (bf2))), (g0, .inr (1, [.ref p0, .ref pk, .ref ps, .ref pc, .ref pb, .int (md2), .int (bs2), .int (nI (fc2)), .int (nI (tk2)), .int (nI (cl2)), .int (nI (dp2)), .int (nI (bk2)), .int (nI (ib2))])), (pk, .inl (cy 0, 8, .inl (kf2))), (ps, .inl (cy 0, 40, .inl (sf2))), (pc, .inl (cy 0, 8, .inl (cf2))), (pb, .inl (cy 0, 16, .inl (bf2)))] H locs := ⟨hP, hD, hS⟩
  refine lv_aload_n hx hb dX1_becomeAs_52 rfl (lv_at hl 0 rfl) ?_
  refine lv_aload_n hx hb dX1_becomeAs_53 rfl (lv_at hl 1 rfl) ?_
  refine va_get (D := D) (ci := 1) (v := .int (bs2)) (C := RX1) (T := TX1) (N := 13) hx hb hts i_X1_becomeAs_X1 hown hK hW.1 5 rfl rfl 6 (by decide) (hts (.fieldLink RX1 46 "TreeHashes$Hasher" "base" "I") f_X1_becomeAs_6) (fun _ h9 => h9) rfl dX1_becomeAs_54 ?_
  refine va_put (D := D) (ci := 1) (v := .int (bs2)) (ty := .int) (C := RX1) (T := TX1) (N := 13) hx hb hts i_X1_becomeAs_X1 tyX1 tyX1_ok nmX1 hown hK hW.1 hW.2.1 hW.2.2 0 rfl rfl 6 (by decide) (hts (.fieldLink RX1 46 "TreeHashes$Hasher" "base" "I") f_X1_becomeAs_6) (fun _ h9 => h9) rfl (by decide +kernel) rfl rfl (Nat.le_of_ble_eq_true rfl) dX1_becomeAs_57 (fun H locs hP hD hS => ?_)
  have hW : Wd D A s [(h0, .inr (1, [.ref m0, .ref qk, .ref qs, .ref qc, .ref qb, .int (md2), .int (bs2), .int (nI (fc)), .int (nI (tk)), .int (nI (cl)), .int (nI (dp)), .int (nI (bk)), .int (nI (ib))])), (qk, .inl (cy 0, 8, .inl (kf2))), (qs, .inl (cy 0, 40, .inl (sf2))), (qc, .inl (cy 0, 8, .inl (cf2))), (qb, .inl (cy 0, 16, .inl (bf2))), (g0, .inr (1, [.ref p0, .ref pk, .ref ps, .ref pc, .ref pb, .int (md2), .int (bs2), .int (nI (fc2)), .int (nI (tk2)), .int (nI (cl2)), .int (nI (dp2)), .int (nI (bk2)), .int (nI (ib2))])), (pk, .inl (cy 0, 8, .inl (kf2))), (ps, .inl (cy 0, 40, .inl (sf2))), (pc, .inl (cy 0, 8, .inl (cf2))), (pb, .inl (cy 0, 16, .inl (bf2)))] H locs := ⟨hP, hD, hS⟩
  refine lv_aload_n hx hb dX1_becomeAs_60 rfl (lv_at hl 0 rfl) ?_
  refine lv_aload_n hx hb dX1_becomeAs_61 rfl (lv_at hl 1 rfl) ?_
  refine va_get (D := D) (ci := 1) (v := .int (nI (fc2))) (C := RX1) (T := TX1) (N := 13) hx hb hts i_X1_becomeAs_X1 hown hK hW.1 5 rfl rfl 7 (by decide) (hts (.fieldLink RX1 49 "TreeHashes$Hasher" "firstChunk" "I") f_X1_becomeAs_7) (fun _ h9 => h9) rfl dX1_becomeAs_62 ?_
  refine va_put (D := D) (ci := 1) (v := .int (nI (fc2))) (ty := .int) (C := RX1) (T := TX1) (N := 13) hx hb hts i_X1_becomeAs_X1 tyX1 tyX1_ok nmX1 hown hK hW.1 hW.2.1 hW.2.2 0 rfl rfl 7 (by decide) (hts (.fieldLink RX1 49 "TreeHashes$Hasher" "firstChunk" "I") f_X1_becomeAs_7) (fun _ h9 => h9) rfl (by decide +kernel) rfl rfl (Nat.le_of_ble_eq_true rfl) dX1_becomeAs_65 (fun H locs hP hD hS => ?_)
  have hW : Wd D A s [(h0, .inr (1, [.ref m0, .ref qk, .ref qs, .ref qc, .ref qb, .int (md2), .int (bs2), .int (nI (fc2)), .int (nI (tk)), .int (nI (cl)), .int (nI (dp)), .int (nI (bk)), .int (nI (ib))])), (qk, .inl (cy 0, 8, .inl (kf2))), (qs, .inl (cy 0, 40, .inl (sf2))), (qc, .inl (cy 0, 8, .inl (cf2))), (qb, .inl (cy 0, 16, .inl (bf2))), (g0, .inr (1, [.ref p0, .ref pk, .ref ps, .ref pc, .ref pb, .int (md2), .int (bs2), .int (nI (fc2)), .int (nI (tk2)), .int (nI (cl2)), .int (nI (dp2)), .int (nI (bk2)), .int (nI (ib2))])), (pk, .inl (cy 0, 8, .inl (kf2))), (ps, .inl (cy 0, 40, .inl (sf2))), (pc, .inl (cy 0, 8, .inl (cf2))), (pb, .inl (cy 0, 16, .inl (bf2)))] H locs := ⟨hP, hD, hS⟩
  refine lv_aload_n hx hb dX1_becomeAs_68 rfl (lv_at hl 0 rfl) ?_
  refine lv_aload_n hx hb dX1_becomeAs_69 rfl (lv_at hl 1 rfl) ?_
  refine va_get (D := D) (ci := 1) (v := .int (nI (tk2))) (C := RX1) (T := TX1) (N := 13) hx hb hts i_X1_becomeAs_X1 hown hK hW.1 5 rfl rfl 8 (by decide) (hts (.fieldLink RX1 52 "TreeHashes$Hasher" "taken" "I") f_X1_becomeAs_8) (fun _ h9 => h9) rfl dX1_becomeAs_70 ?_
  refine va_put (D := D) (ci := 1) (v := .int (nI (tk2))) (ty := .int) (C := RX1) (T := TX1) (N := 13) hx hb hts i_X1_becomeAs_X1 tyX1 tyX1_ok nmX1 hown hK hW.1 hW.2.1 hW.2.2 0 rfl rfl 8 (by decide) (hts (.fieldLink RX1 52 "TreeHashes$Hasher" "taken" "I") f_X1_becomeAs_8) (fun _ h9 => h9) rfl (by decide +kernel) rfl rfl (Nat.le_of_ble_eq_true rfl) dX1_becomeAs_73 (fun H locs hP hD hS => ?_)
  have hW : Wd D A s [(h0, .inr (1, [.ref m0, .ref qk, .ref qs, .ref qc, .ref qb, .int (md2), .int (bs2), .int (nI (fc2)), .int (nI (tk2)), .int (nI (cl)), .int (nI (dp)), .int (nI (bk)), .int (nI (ib))])), (qk, .inl (cy 0, 8, .inl (kf2))), (qs, .inl (cy 0, 40, .inl (sf2))), (qc, .inl (cy 0, 8, .inl (cf2))), (qb, .inl (cy 0, 16, .inl (bf2))), (g0, .inr (1, [.ref p0, .ref pk, .ref ps, .ref pc, .ref pb, .int (md2), .int (bs2), .int (nI (fc2)), .int (nI (tk2)), .int (nI (cl2)), .int (nI (dp2)), .int (nI (bk2)), .int (nI (ib2))])), (pk, .inl (cy 0, 8, .inl (kf2))), (ps, .inl (cy 0, 40, .inl (sf2))), (pc, .inl (cy 0, 8, .inl (cf2))), (pb, .inl (cy 0, 16, .inl (bf2)))] H locs := ⟨hP, hD, hS⟩
  refine lv_aload_n hx hb dX1_becomeAs_76 rfl (lv_at hl 0 rfl) ?_
  refine lv_aload_n hx hb dX1_becomeAs_77 rfl (lv_at hl 1 rfl) ?_
  refine va_get (D := D) (ci := 1) (v := .int (nI (cl2))) (C := RX1) (T := TX1) (N := 13) hx hb hts i_X1_becomeAs_X1 hown hK hW.1 5 rfl rfl 9 (by decide) (hts (.fieldLink RX1 55 "TreeHashes$Hasher" "closed" "I") f_X1_becomeAs_9) (fun _ h9 => h9) rfl dX1_becomeAs_78 ?_
  refine va_put (D := D) (ci := 1) (v := .int (nI (cl2))) (ty := .int) (C := RX1) (T := TX1) (N := 13) hx hb hts i_X1_becomeAs_X1 tyX1 tyX1_ok nmX1 hown hK hW.1 hW.2.1 hW.2.2 0 rfl rfl 9 (by decide) (hts (.fieldLink RX1 55 "TreeHashes$Hasher" "closed" "I") f_X1_becomeAs_9) (fun _ h9 => h9) rfl (by decide +kernel) rfl rfl (Nat.le_of_ble_eq_true rfl) dX1_becomeAs_81 (fun H locs hP hD hS => ?_)
  have hW : Wd D A s [(h0, .inr (1, [.ref m0, .ref qk, .ref qs, .ref qc, .ref qb, .int (md2), .int (bs2), .int (nI (fc2)), .int (nI (tk2)), .int (nI (cl2)), .int (nI (dp)), .int (nI (bk)), .int (nI (ib))])), (qk, .inl (cy 0, 8, .inl (kf2))), (qs, .inl (cy 0, 40, .inl (sf2))), (qc, .inl (cy 0, 8, .inl (cf2))), (qb, .inl (cy 0, 16, .inl (bf2))), (g0, .inr (1, [.ref p0, .ref pk, .ref ps, .ref pc, .ref pb, .int (md2), .int (bs2), .int (nI (fc2)), .int (nI (tk2)), .int (nI (cl2)), .int (nI (dp2)), .int (nI (bk2)), .int (nI (ib2))])), (pk, .inl (cy 0, 8, .inl (kf2))), (ps, .inl (cy 0, 40, .inl (sf2))), (pc, .inl (cy 0, 8, .inl (cf2))), (pb, .inl (cy 0, 16, .inl (bf2)))] H locs := ⟨hP, hD, hS⟩
  refine lv_aload_n hx hb dX1_becomeAs_84 rfl (lv_at hl 0 rfl) ?_
  refine lv_aload_n hx hb dX1_becomeAs_85 rfl (lv_at hl 1 rfl) ?_
  refine va_get (D := D) (ci := 1) (v := .int (nI (dp2))) (C := RX1) (T := TX1) (N := 13) hx hb hts i_X1_becomeAs_X1 hown hK hW.1 5 rfl rfl 10 (by decide) (hts (.fieldLink RX1 58 "TreeHashes$Hasher" "depth" "I") f_X1_becomeAs_10) (fun _ h9 => h9) rfl dX1_becomeAs_86 ?_
  refine va_put (D := D) (ci := 1) (v := .int (nI (dp2))) (ty := .int) (C := RX1) (T := TX1) (N := 13) hx hb hts i_X1_becomeAs_X1 tyX1 tyX1_ok nmX1 hown hK hW.1 hW.2.1 hW.2.2 0 rfl rfl 10 (by decide) (hts (.fieldLink RX1 58 "TreeHashes$Hasher" "depth" "I") f_X1_becomeAs_10) (fun _ h9 => h9) rfl (by decide +kernel) rfl rfl (Nat.le_of_ble_eq_true rfl) dX1_becomeAs_89 (fun H locs hP hD hS => ?_)
  have hW : Wd D A s [(h0, .inr (1, [.ref m0, .ref qk, .ref qs, .ref qc, .ref qb, .int (md2), .int (bs2), .int (nI (fc2)), .int (nI (tk2)), .int (nI (cl2)), .int (nI (dp2)), .int (nI (bk)), .int (nI (ib))])), (qk, .inl (cy 0, 8, .inl (kf2))), (qs, .inl (cy 0, 40, .inl (sf2))), (qc, .inl (cy 0, 8, .inl (cf2))), (qb, .inl (cy 0, 16, .inl (bf2))), (g0, .inr (1, [.ref p0, .ref pk, .ref ps, .ref pc, .ref pb, .int (md2), .int (bs2), .int (nI (fc2)), .int (nI (tk2)), .int (nI (cl2)), .int (nI (dp2)), .int (nI (bk2)), .int (nI (ib2))])), (pk, .inl (cy 0, 8, .inl (kf2))), (ps, .inl (cy 0, 40, .inl (sf2))), (pc, .inl (cy 0, 8, .inl (cf2))), (pb, .inl (cy 0, 16, .inl (bf2)))] H locs := ⟨hP, hD, hS⟩
  refine lv_aload_n hx hb dX1_becomeAs_92 rfl (lv_at hl 0 rfl) ?_
  refine lv_aload_n hx hb dX1_becomeAs_93 rfl (lv_at hl 1 rfl) ?_
  refine va_get (D := D) (ci := 1) (v := .int (nI (bk2))) (C := RX1) (T := TX1) (N := 13) hx hb hts i_X1_becomeAs_X1 hown hK hW.1 5 rfl rfl 11 (by decide) (hts (.fieldLink RX1 64 "TreeHashes$Hasher" "blocks" "I") f_X1_becomeAs_11) (fun _ h9 => h9) rfl dX1_becomeAs_94 ?_
  refine va_put (D := D) (ci := 1) (v := .int (nI (bk2))) (ty := .int) (C := RX1) (T := TX1) (N := 13) hx hb hts i_X1_becomeAs_X1 tyX1 tyX1_ok nmX1 hown hK hW.1 hW.2.1 hW.2.2 0 rfl rfl 11 (by decide) (hts (.fieldLink RX1 64 "TreeHashes$Hasher" "blocks" "I") f_X1_becomeAs_11) (fun _ h9 => h9) rfl (by decide +kernel) rfl rfl (Nat.le_of_ble_eq_true rfl) dX1_becomeAs_97 (fun H locs hP hD hS => ?_)
  have hW : Wd D A s [(h0, .inr (1, [.ref m0, .ref qk, .ref qs, .ref qc, .ref qb, .int (md2), .int (bs2), .int (nI (fc2)), .int (nI (tk2)), .int (nI (cl2)), .int (nI (dp2)), .int (nI (bk2)), .int (nI (ib))])), (qk, .inl (cy 0, 8, .inl (kf2))), (qs, .inl (cy 0, 40, .inl (sf2))), (qc, .inl (cy 0, 8, .inl (cf2))), (qb, .inl (cy 0, 16, .inl (bf2))), (g0, .inr (1, [.ref p0, .ref pk, .ref ps, .ref pc, .ref pb, .int (md2), .int (bs2), .int (nI (fc2)), .int (nI (tk2)), .int (nI (cl2)), .int (nI (dp2)), .int (nI (bk2)), .int (nI (ib2))])), (pk, .inl (cy 0, 8, .inl (kf2))), (ps, .inl (cy 0, 40, .inl (sf2))), (pc, .inl (cy 0, 8, .inl (cf2))), (pb, .inl (cy 0, 16, .inl (bf2)))] H locs := ⟨hP, hD, hS⟩
  refine lv_aload_n hx hb dX1_becomeAs_100 rfl (lv_at hl 0 rfl) ?_
  refine lv_aload_n hx hb dX1_becomeAs_101 rfl (lv_at hl 1 rfl) ?_
  refine va_get (D := D) (ci := 1) (v := .int (nI (ib2))) (C := RX1) (T := TX1) (N := 13) hx hb hts i_X1_becomeAs_X1 hown hK hW.1 5 rfl rfl 12 (by decide) (hts (.fieldLink RX1 67 "TreeHashes$Hasher" "inBlock" "I") f_X1_becomeAs_12) (fun _ h9 => h9) rfl dX1_becomeAs_102 ?_
  refine va_put (D := D) (ci := 1) (v := .int (nI (ib2))) (ty := .int) (C := RX1) (T := TX1) (N := 13) hx hb hts i_X1_becomeAs_X1 tyX1 tyX1_ok nmX1 hown hK hW.1 hW.2.1 hW.2.2 0 rfl rfl 12 (by decide) (hts (.fieldLink RX1 67 "TreeHashes$Hasher" "inBlock" "I") f_X1_becomeAs_12) (fun _ h9 => h9) rfl (by decide +kernel) rfl rfl (Nat.le_of_ble_eq_true rfl) dX1_becomeAs_105 (fun H locs hP hD hS => ?_)
  have hW : Wd D A s [(h0, .inr (1, [.ref m0, .ref qk, .ref qs, .ref qc, .ref qb, .int (md2), .int (bs2), .int (nI (fc2)), .int (nI (tk2)), .int (nI (cl2)), .int (nI (dp2)), .int (nI (bk2)), .int (nI (ib2))])), (qk, .inl (cy 0, 8, .inl (kf2))), (qs, .inl (cy 0, 40, .inl (sf2))), (qc, .inl (cy 0, 8, .inl (cf2))), (qb, .inl (cy 0, 16, .inl (bf2))), (g0, .inr (1, [.ref p0, .ref pk, .ref ps, .ref pc, .ref pb, .int (md2), .int (bs2), .int (nI (fc2)), .int (nI (tk2)), .int (nI (cl2)), .int (nI (dp2)), .int (nI (bk2)), .int (nI (ib2))])), (pk, .inl (cy 0, 8, .inl (kf2))), (ps, .inl (cy 0, 40, .inl (sf2))), (pc, .inl (cy 0, 8, .inl (cf2))), (pb, .inl (cy 0, 16, .inl (bf2)))] H locs := ⟨hP, hD, hS⟩
  exact eV hQ hx hb hr hlocks hK hW () (trivial) (rfl) dX1_becomeAs_108

theorem f_X1_becomeAs_a_0 : Cond.fieldLink RX1 18 "TreeHashes$Hasher" "key" "[I" ∈ wsX1_becomeAs := by decide +kernel
theorem i_X1_becomeAs_a_X1 : ∀ w ∈ wsX10, w ∈ wsX1_becomeAs := by decide +kernel
theorem f_X1_becomeAs_a_2 : Cond.fieldLink RX1 22 "TreeHashes$Hasher" "stack" "[I" ∈ wsX1_becomeAs := by decide +kernel
theorem f_X1_becomeAs_a_3 : Cond.fieldLink RX1 25 "TreeHashes$Hasher" "chunkChain" "[I" ∈ wsX1_becomeAs := by decide +kernel
theorem f_X1_becomeAs_a_4 : Cond.fieldLink RX1 28 "TreeHashes$Hasher" "block" "[I" ∈ wsX1_becomeAs := by decide +kernel
theorem f_X1_becomeAs_a_5 : Cond.fieldLink RX1 42 "TreeHashes$Hasher" "mode" "I" ∈ wsX1_becomeAs := by decide +kernel
theorem f_X1_becomeAs_a_6 : Cond.fieldLink RX1 46 "TreeHashes$Hasher" "base" "I" ∈ wsX1_becomeAs := by decide +kernel
theorem f_X1_becomeAs_a_7 : Cond.fieldLink RX1 49 "TreeHashes$Hasher" "firstChunk" "I" ∈ wsX1_becomeAs := by decide +kernel
theorem f_X1_becomeAs_a_8 : Cond.fieldLink RX1 52 "TreeHashes$Hasher" "taken" "I" ∈ wsX1_becomeAs := by decide +kernel
theorem f_X1_becomeAs_a_9 : Cond.fieldLink RX1 55 "TreeHashes$Hasher" "closed" "I" ∈ wsX1_becomeAs := by decide +kernel
theorem f_X1_becomeAs_a_10 : Cond.fieldLink RX1 58 "TreeHashes$Hasher" "depth" "I" ∈ wsX1_becomeAs := by decide +kernel
theorem f_X1_becomeAs_a_11 : Cond.fieldLink RX1 64 "TreeHashes$Hasher" "blocks" "I" ∈ wsX1_becomeAs := by decide +kernel
theorem f_X1_becomeAs_a_12 : Cond.fieldLink RX1 67 "TreeHashes$Hasher" "inBlock" "I" ∈ wsX1_becomeAs := by decide +kernel
set_option maxHeartbeats 4000000 in
set_option maxRecDepth 100000 in
theorem c_X1_becomeAs_a (l : Launch) (D : va_G) (cy : Nat → ClassId) (t : Nat × Nat) (m0 : Nat) (h0 : Nat) (qk : Nat) (qs : Nat) (qc : Nat) (qb : Nat) (md : Int32) (bs : Int32) (fc : Nat) (tk : Nat) (cl : Nat) (dp : Nat) (bk : Nat) (ib : Nat) (kf : Nat → Int32) (sf : Nat → Int32) (cf : Nat → Int32) (bf : Nat → Int32)  (sz : Nat) : Met l yX1_becomeAs wsX1_becomeAs ({ frames := 1, cells := 0, slots := 0, locals := 22 }) (PcW D cy t [(h0, .inr (1, [.ref m0, .ref qk, .ref qs, .ref qc, .ref qb, .int (md), .int (bs), .int (nI (fc)), .int (nI (tk)), .int (nI (cl)), .int (nI (dp)), .int (nI (bk)), .int (nI (ib))])), (qk, .inl (cy 0, 8, .inl (kf))), (qs, .inl (cy 0, 40, .inl (sf))), (qc, .inl (cy 0, 8, .inl (cf))), (qb, .inl (cy 0, 16, .inl (bf)))] [.ref h0, .ref h0] sz) (QvA D cy (fun u : Unit => True) (fun u : Unit => [(h0, .inr (1, [.ref m0, .ref qk, .ref qs, .ref qc, .ref qb, .int (md), .int (bs), .int (nI (fc)), .int (nI (tk)), .int (nI (cl)), .int (nI (dp)), .int (nI (bk)), .int (nI (ib))])), (qk, .inl (cy 0, 8, .inl (kf))), (qs, .inl (cy 0, 40, .inl (sf))), (qc, .inl (cy 0, 8, .inl (cf))), (qb, .inl (cy 0, 16, .inl (bf)))]) (va_A [(h0, .inr (1, [.ref m0, .ref qk, .ref qs, .ref qc, .ref qb, .int (md), .int (bs), .int (nI (fc)), .int (nI (tk)), .int (nI (cl)), .int (nI (dp)), .int (nI (bk)), .int (nI (ib))])), (qk, .inl (cy 0, 8, .inl (kf))), (qs, .inl (cy 0, 40, .inl (sf))), (qc, .inl (cy 0, 8, .inl (cf))), (qb, .inl (cy 0, 16, .inl (bf)))] sz)) 0 0 (va_A [(h0, .inr (1, [.ref m0, .ref qk, .ref qs, .ref qc, .ref qb, .int (md), .int (bs), .int (nI (fc)), .int (nI (tk)), .int (nI (cl)), .int (nI (dp)), .int (nI (bk)), .int (nI (ib))])), (qk, .inl (cy 0, 8, .inl (kf))), (qs, .inl (cy 0, 40, .inl (sf))), (qc, .inl (cy 0, 8, .inl (cf))), (qb, .inl (cy 0, 16, .inl (bf)))] sz) := by
  refine M_ofW (cc := cX1_becomeAs) (maxL := 2) (ret := none) (by decide) rfl (Nat.le_of_ble_eq_true rfl) ?_
  intro p e s m below meth c A ls args Q hQ S0 hr hlocks hnm hK hst hA hW hl
  have hx := S0.1; have hb := S0.2.1; have hml := S0.2.2.1; have hown := S0.2.2.2.1; have hts := S0.2.2.2.2
  have hl : lv_has ls 2 [(0, .ref h0), (1, .ref h0)] := hl
  refine lv_aload_n hx hb dX1_becomeAs_0 rfl (lv_at hl 1 rfl) ?_
  refine va_get (D := D) (ci := 1) (v := .ref qk) (C := RX1) (T := TX1) (N := 13) hx hb hts i_X1_becomeAs_a_X1 hown hK hW.1 0 rfl rfl 1 (by decide) (hts (.fieldLink RX1 18 "TreeHashes$Hasher" "key" "[I") f_X1_becomeAs_a_0) (fun _ h9 => h9) rfl dX1_becomeAs_1 ?_
  refine lv_aload_n hx hb dX1_becomeAs_4 rfl (lv_at hl 0 rfl) ?_
  refine va_get (D := D) (ci := 1) (v := .ref qk) (C := RX1) (T := TX1) (N := 13) hx hb hts i_X1_becomeAs_a_X1 hown hK hW.1 0 rfl rfl 1 (by decide) (hts (.fieldLink RX1 18 "TreeHashes$Hasher" "key" "[I") f_X1_becomeAs_a_0) (fun _ h9 => h9) rfl dX1_becomeAs_5 ?_
  refine kSv (As := [.ref qk, .ref qk]) (rest := []) S0 hK hst hA hW [1] (fun sz => c_X1_copyWords_a l D cy t qk 8 kf (by omega) sz) rfl (by decide) (va_cwS 2 hts gX1_becomeAs_X1_copyWords rfl rfl rfl (by decide +kernel) ⟨Nat.le_of_ble_eq_true rfl, Nat.le_of_ble_eq_true rfl⟩) (fun _ => rfl) rfl hl.1 rfl (Nat.le_of_ble_eq_true rfl) dX1_becomeAs_8 ⟨Nat.le_of_ble_eq_true rfl, Nat.le_of_ble_eq_true rfl⟩ (fun u8 H locs p8 hW => ?_)
  have hW : Wd D A s [(h0, .inr (1, [.ref m0, .ref qk, .ref qs, .ref qc, .ref qb, .int (md), .int (bs), .int (nI (fc)), .int (nI (tk)), .int (nI (cl)), .int (nI (dp)), .int (nI (bk)), .int (nI (ib))])), (qk, .inl (cy 0, 8, .inl (kf))), (qs, .inl (cy 0, 40, .inl (sf))), (qc, .inl (cy 0, 8, .inl (cf))), (qb, .inl (cy 0, 16, .inl (bf)))] H locs := hW
  refine lv_aload_n hx hb dX1_becomeAs_11 rfl (lv_at hl 1 rfl) ?_
  refine va_get (D := D) (ci := 1) (v := .ref qs) (C := RX1) (T := TX1) (N := 13) hx hb hts i_X1_becomeAs_a_X1 hown hK hW.1 0 rfl rfl 2 (by decide) (hts (.fieldLink RX1 22 "TreeHashes$Hasher" "stack" "[I") f_X1_becomeAs_a_2) (fun _ h9 => h9) rfl dX1_becomeAs_12 ?_
  refine lv_aload_n hx hb dX1_becomeAs_15 rfl (lv_at hl 0 rfl) ?_
  refine va_get (D := D) (ci := 1) (v := .ref qs) (C := RX1) (T := TX1) (N := 13) hx hb hts i_X1_becomeAs_a_X1 hown hK hW.1 0 rfl rfl 2 (by decide) (hts (.fieldLink RX1 22 "TreeHashes$Hasher" "stack" "[I") f_X1_becomeAs_a_2) (fun _ h9 => h9) rfl dX1_becomeAs_16 ?_
  refine kSv (As := [.ref qs, .ref qs]) (rest := []) S0 hK hst hA hW [2] (fun sz => c_X1_copyWords_a l D cy t qs 40 sf (by omega) sz) rfl (by decide) (va_cwS 2 hts gX1_becomeAs_X1_copyWords rfl rfl rfl (by decide +kernel) ⟨Nat.le_of_ble_eq_true rfl, Nat.le_of_ble_eq_true rfl⟩) (fun _ => rfl) rfl hl.1 rfl (Nat.le_of_ble_eq_true rfl) dX1_becomeAs_19 ⟨Nat.le_of_ble_eq_true rfl, Nat.le_of_ble_eq_true rfl⟩ (fun u19 H locs p19 hW => ?_)
  have hW : Wd D A s [(h0, .inr (1, [.ref m0, .ref qk, .ref qs, .ref qc, .ref qb, .int (md), .int (bs), .int (nI (fc)), .int (nI (tk)), .int (nI (cl)), .int (nI (dp)), .int (nI (bk)), .int (nI (ib))])), (qk, .inl (cy 0, 8, .inl (kf))), (qs, .inl (cy 0, 40, .inl (sf))), (qc, .inl (cy 0, 8, .inl (cf))), (qb, .inl (cy 0, 16, .inl (bf)))] H locs := hW
  refine lv_aload_n hx hb dX1_becomeAs_22 rfl (lv_at hl 1 rfl) ?_
  refine va_get (D := D) (ci := 1) (v := .ref qc) (C := RX1) (T := TX1) (N := 13) hx hb hts i_X1_becomeAs_a_X1 hown hK hW.1 0 rfl rfl 3 (by decide) (hts (.fieldLink RX1 25 "TreeHashes$Hasher" "chunkChain" "[I") f_X1_becomeAs_a_3) (fun _ h9 => h9) rfl dX1_becomeAs_23 ?_
  refine lv_aload_n hx hb dX1_becomeAs_26 rfl (lv_at hl 0 rfl) ?_
  refine va_get (D := D) (ci := 1) (v := .ref qc) (C := RX1) (T := TX1) (N := 13) hx hb hts i_X1_becomeAs_a_X1 hown hK hW.1 0 rfl rfl 3 (by decide) (hts (.fieldLink RX1 25 "TreeHashes$Hasher" "chunkChain" "[I") f_X1_becomeAs_a_3) (fun _ h9 => h9) rfl dX1_becomeAs_27 ?_
  refine kSv (As := [.ref qc, .ref qc]) (rest := []) S0 hK hst hA hW [3] (fun sz => c_X1_copyWords_a l D cy t qc 8 cf (by omega) sz) rfl (by decide) (va_cwS 2 hts gX1_becomeAs_X1_copyWords rfl rfl rfl (by decide +kernel) ⟨Nat.le_of_ble_eq_true rfl, Nat.le_of_ble_eq_true rfl⟩) (fun _ => rfl) rfl hl.1 rfl (Nat.le_of_ble_eq_true rfl) dX1_becomeAs_30 ⟨Nat.le_of_ble_eq_true rfl, Nat.le_of_ble_eq_true rfl⟩ (fun u30 H locs p30 hW => ?_)
  have hW : Wd D A s [(h0, .inr (1, [.ref m0, .ref qk, .ref qs, .ref qc, .ref qb, .int (md), .int (bs), .int (nI (fc)), .int (nI (tk)), .int (nI (cl)), .int (nI (dp)), .int (nI (bk)), .int (nI (ib))])), (qk, .inl (cy 0, 8, .inl (kf))), (qs, .inl (cy 0, 40, .inl (sf))), (qc, .inl (cy 0, 8, .inl (cf))), (qb, .inl (cy 0, 16, .inl (bf)))] H locs := hW
  refine lv_aload_n hx hb dX1_becomeAs_33 rfl (lv_at hl 1 rfl) ?_
  refine va_get (D := D) (ci := 1) (v := .ref qb) (C := RX1) (T := TX1) (N := 13) hx hb hts i_X1_becomeAs_a_X1 hown hK hW.1 0 rfl rfl 4 (by decide) (hts (.fieldLink RX1 28 "TreeHashes$Hasher" "block" "[I") f_X1_becomeAs_a_4) (fun _ h9 => h9) rfl dX1_becomeAs_34 ?_
  refine lv_aload_n hx hb dX1_becomeAs_37 rfl (lv_at hl 0 rfl) ?_
  refine va_get (D := D) (ci := 1) (v := .ref qb) (C := RX1) (T := TX1) (N := 13) hx hb hts i_X1_becomeAs_a_X1 hown hK hW.1 0 rfl rfl 4 (by decide) (hts (.fieldLink RX1 28 "TreeHashes$Hasher" "block" "[I") f_X1_becomeAs_a_4) (fun _ h9 => h9) rfl dX1_becomeAs_38 ?_
  refine kSv (As := [.ref qb, .ref qb]) (rest := []) S0 hK hst hA hW [4] (fun sz => c_X1_copyWords_a l D cy t qb 16 bf (by omega) sz) rfl (by decide) (va_cwS 2 hts gX1_becomeAs_X1_copyWords rfl rfl rfl (by decide +kernel) ⟨Nat.le_of_ble_eq_true rfl, Nat.le_of_ble_eq_true rfl⟩) (fun _ => rfl) rfl hl.1 rfl (Nat.le_of_ble_eq_true rfl) dX1_becomeAs_41 ⟨Nat.le_of_ble_eq_true rfl, Nat.le_of_ble_eq_true rfl⟩ (fun u41 H locs p41 hW => ?_)
  have hW : Wd D A s [(h0, .inr (1, [.ref m0, .ref qk, .ref qs, .ref qc, .ref qb, .int (md), .int (bs), .int (nI (fc)), .int (nI (tk)), .int (nI (cl)), .int (nI (dp)), .int (nI (bk)), .int (nI (ib))])), (qk, .inl (cy 0, 8, .inl (kf))), (qs, .inl (cy 0, 40, .inl (sf))), (qc, .inl (cy 0, 8, .inl (cf))), (qb, .inl (cy 0, 16, .inl (bf)))] H locs := hW
  refine lv_aload_n hx hb dX1_becomeAs_44 rfl (lv_at hl 0 rfl) ?_
  refine lv_aload_n hx hb dX1_becomeAs_45 rfl (lv_at hl 1 rfl) ?_
  refine va_get (D := D) (ci := 1) (v := .int (md)) (C := RX1) (T := TX1) (N := 13) hx hb hts i_X1_becomeAs_a_X1 hown hK hW.1 0 rfl rfl 5 (by decide) (hts (.fieldLink RX1 42 "TreeHashes$Hasher" "mode" "I") f_X1_becomeAs_a_5) (fun _ h9 => h9) rfl dX1_becomeAs_46 ?_
  refine va_put (D := D) (ci := 1) (v := .int (md)) (ty := .int) (C := RX1) (T := TX1) (N := 13) hx hb hts i_X1_becomeAs_a_X1 tyX1 tyX1_ok nmX1 hown hK hW.1 hW.2.1 hW.2.2 0 rfl rfl 5 (by decide) (hts (.fieldLink RX1 42 "TreeHashes$Hasher" "mode" "I") f_X1_becomeAs_a_5) (fun _ h9 => h9) rfl (by decide +kernel) rfl rfl (Nat.le_of_ble_eq_true rfl) dX1_becomeAs_49 (fun H locs hP hD hS => ?_)
  have hW : Wd D A s [(h0, .inr (1, [.ref m0, .ref qk, .ref qs, .ref qc, .ref qb, .int (md), .int (bs), .int (nI (fc)), .int (nI (tk)), .int (nI (cl)), .int (nI (dp)), .int (nI (bk)), .int (nI (ib))])), (qk, .inl (cy 0, 8, .inl (kf))), (qs, .inl (cy 0, 40, .inl (sf))), (qc, .inl (cy 0, 8, .inl (cf))), (qb, .inl (cy 0, 16, .inl (bf)))] H locs := ⟨hP, hD, hS⟩
  refine lv_aload_n hx hb dX1_becomeAs_52 rfl (lv_at hl 0 rfl) ?_
  refine lv_aload_n hx hb dX1_becomeAs_53 rfl (lv_at hl 1 rfl) ?_
  refine va_get (D := D) (ci := 1) (v := .int (bs)) (C := RX1) (T := TX1) (N := 13) hx hb hts i_X1_becomeAs_a_X1 hown hK hW.1 0 rfl rfl 6 (by decide) (hts (.fieldLink RX1 46 "TreeHashes$Hasher" "base" "I") f_X1_becomeAs_a_6) (fun _ h9 => h9) rfl dX1_becomeAs_54 ?_
  refine va_put (D := D) (ci := 1) (v := .int (bs)) (ty := .int) (C := RX1) (T := TX1) (N := 13) hx hb hts i_X1_becomeAs_a_X1 tyX1 tyX1_ok nmX1 hown hK hW.1 hW.2.1 hW.2.2 0 rfl rfl 6 (by decide) (hts (.fieldLink RX1 46 "TreeHashes$Hasher" "base" "I") f_X1_becomeAs_a_6) (fun _ h9 => h9) rfl (by decide +kernel) rfl rfl (Nat.le_of_ble_eq_true rfl) dX1_becomeAs_57 (fun H locs hP hD hS => ?_)
  have hW : Wd D A s [(h0, .inr (1, [.ref m0, .ref qk, .ref qs, .ref qc, .ref qb, .int (md), .int (bs), .int (nI (fc)), .int (nI (tk)), .int (nI (cl)), .int (nI (dp)), .int (nI (bk)), .int (nI (ib))])), (qk, .inl (cy 0, 8, .inl (kf))), (qs, .inl (cy 0, 40, .inl (sf))), (qc, .inl (cy 0, 8, .inl (cf))), (qb, .inl (cy 0, 16, .inl (bf)))] H locs := ⟨hP, hD, hS⟩
  refine lv_aload_n hx hb dX1_becomeAs_60 rfl (lv_at hl 0 rfl) ?_
  refine lv_aload_n hx hb dX1_becomeAs_61 rfl (lv_at hl 1 rfl) ?_
  refine va_get (D := D) (ci := 1) (v := .int (nI (fc))) (C := RX1) (T := TX1) (N := 13) hx hb hts i_X1_becomeAs_a_X1 hown hK hW.1 0 rfl rfl 7 (by decide) (hts (.fieldLink RX1 49 "TreeHashes$Hasher" "firstChunk" "I") f_X1_becomeAs_a_7) (fun _ h9 => h9) rfl dX1_becomeAs_62 ?_
  refine va_put (D := D) (ci := 1) (v := .int (nI (fc))) (ty := .int) (C := RX1) (T := TX1) (N := 13) hx hb hts i_X1_becomeAs_a_X1 tyX1 tyX1_ok nmX1 hown hK hW.1 hW.2.1 hW.2.2 0 rfl rfl 7 (by decide) (hts (.fieldLink RX1 49 "TreeHashes$Hasher" "firstChunk" "I") f_X1_becomeAs_a_7) (fun _ h9 => h9) rfl (by decide +kernel) rfl rfl (Nat.le_of_ble_eq_true rfl) dX1_becomeAs_65 (fun H locs hP hD hS => ?_)
  have hW : Wd D A s [(h0, .inr (1, [.ref m0, .ref qk, .ref qs, .ref qc, .ref qb, .int (md), .int (bs), .int (nI (fc)), .int (nI (tk)), .int (nI (cl)), .int (nI (dp)), .int (nI (bk)), .int (nI (ib))])), (qk, .inl (cy 0, 8, .inl (kf))), (qs, .inl (cy 0, 40, .inl (sf))), (qc, .inl (cy 0, 8, .inl (cf))), (qb, .inl (cy 0, 16, .inl (bf)))] H locs := ⟨hP, hD, hS⟩
  refine lv_aload_n hx hb dX1_becomeAs_68 rfl (lv_at hl 0 rfl) ?_
  refine lv_aload_n hx hb dX1_becomeAs_69 rfl (lv_at hl 1 rfl) ?_
  refine va_get (D := D) (ci := 1) (v := .int (nI (tk))) (C := RX1) (T := TX1) (N := 13) hx hb hts i_X1_becomeAs_a_X1 hown hK hW.1 0 rfl rfl 8 (by decide) (hts (.fieldLink RX1 52 "TreeHashes$Hasher" "taken" "I") f_X1_becomeAs_a_8) (fun _ h9 => h9) rfl dX1_becomeAs_70 ?_
  refine va_put (D := D) (ci := 1) (v := .int (nI (tk))) (ty := .int) (C := RX1) (T := TX1) (N := 13) hx hb hts i_X1_becomeAs_a_X1 tyX1 tyX1_ok nmX1 hown hK hW.1 hW.2.1 hW.2.2 0 rfl rfl 8 (by decide) (hts (.fieldLink RX1 52 "TreeHashes$Hasher" "taken" "I") f_X1_becomeAs_a_8) (fun _ h9 => h9) rfl (by decide +kernel) rfl rfl (Nat.le_of_ble_eq_true rfl) dX1_becomeAs_73 (fun H locs hP hD hS => ?_)
  have hW : Wd D A s [(h0, .inr (1, [.ref m0, .ref qk, .ref qs, .ref qc, .ref qb, .int (md), .int (bs), .int (nI (fc)), .int (nI (tk)), .int (nI (cl)), .int (nI (dp)), .int (nI (bk)), .int (nI (ib))])), (qk, .inl (cy 0, 8, .inl (kf))), (qs, .inl (cy 0, 40, .inl (sf))), (qc, .inl (cy 0, 8, .inl (cf))), (qb, .inl (cy 0, 16, .inl (bf)))] H locs := ⟨hP, hD, hS⟩
  refine lv_aload_n hx hb dX1_becomeAs_76 rfl (lv_at hl 0 rfl) ?_
  refine lv_aload_n hx hb dX1_becomeAs_77 rfl (lv_at hl 1 rfl) ?_
  refine va_get (D := D) (ci := 1) (v := .int (nI (cl))) (C := RX1) (T := TX1) (N := 13) hx hb hts i_X1_becomeAs_a_X1 hown hK hW.1 0 rfl rfl 9 (by decide) (hts (.fieldLink RX1 55 "TreeHashes$Hasher" "closed" "I") f_X1_becomeAs_a_9) (fun _ h9 => h9) rfl dX1_becomeAs_78 ?_
  refine va_put (D := D) (ci := 1) (v := .int (nI (cl))) (ty := .int) (C := RX1) (T := TX1) (N := 13) hx hb hts i_X1_becomeAs_a_X1 tyX1 tyX1_ok nmX1 hown hK hW.1 hW.2.1 hW.2.2 0 rfl rfl 9 (by decide) (hts (.fieldLink RX1 55 "TreeHashes$Hasher" "closed" "I") f_X1_becomeAs_a_9) (fun _ h9 => h9) rfl (by decide +kernel) rfl rfl (Nat.le_of_ble_eq_true rfl) dX1_becomeAs_81 (fun H locs hP hD hS => ?_)
  have hW : Wd D A s [(h0, .inr (1, [.ref m0, .ref qk, .ref qs, .ref qc, .ref qb, .int (md), .int (bs), .int (nI (fc)), .int (nI (tk)), .int (nI (cl)), .int (nI (dp)), .int (nI (bk)), .int (nI (ib))])), (qk, .inl (cy 0, 8, .inl (kf))), (qs, .inl (cy 0, 40, .inl (sf))), (qc, .inl (cy 0, 8, .inl (cf))), (qb, .inl (cy 0, 16, .inl (bf)))] H locs := ⟨hP, hD, hS⟩
  refine lv_aload_n hx hb dX1_becomeAs_84 rfl (lv_at hl 0 rfl) ?_
  refine lv_aload_n hx hb dX1_becomeAs_85 rfl (lv_at hl 1 rfl) ?_
  refine va_get (D := D) (ci := 1) (v := .int (nI (dp))) (C := RX1) (T := TX1) (N := 13) hx hb hts i_X1_becomeAs_a_X1 hown hK hW.1 0 rfl rfl 10 (by decide) (hts (.fieldLink RX1 58 "TreeHashes$Hasher" "depth" "I") f_X1_becomeAs_a_10) (fun _ h9 => h9) rfl dX1_becomeAs_86 ?_
  refine va_put (D := D) (ci := 1) (v := .int (nI (dp))) (ty := .int) (C := RX1) (T := TX1) (N := 13) hx hb hts i_X1_becomeAs_a_X1 tyX1 tyX1_ok nmX1 hown hK hW.1 hW.2.1 hW.2.2 0 rfl rfl 10 (by decide) (hts (.fieldLink RX1 58 "TreeHashes$Hasher" "depth" "I") f_X1_becomeAs_a_10) (fun _ h9 => h9) rfl (by decide +kernel) rfl rfl (Nat.le_of_ble_eq_true rfl) dX1_becomeAs_89 (fun H locs hP hD hS => ?_)
  have hW : Wd D A s [(h0, .inr (1, [.ref m0, .ref qk, .ref qs, .ref qc, .ref qb, .int (md), .int (bs), .int (nI (fc)), .int (nI (tk)), .int (nI (cl)), .int (nI (dp)), .int (nI (bk)), .int (nI (ib))])), (qk, .inl (cy 0, 8, .inl (kf))), (qs, .inl (cy 0, 40, .inl (sf))), (qc, .inl (cy 0, 8, .inl (cf))), (qb, .inl (cy 0, 16, .inl (bf)))] H locs := ⟨hP, hD, hS⟩
  refine lv_aload_n hx hb dX1_becomeAs_92 rfl (lv_at hl 0 rfl) ?_
  refine lv_aload_n hx hb dX1_becomeAs_93 rfl (lv_at hl 1 rfl) ?_
  refine va_get (D := D) (ci := 1) (v := .int (nI (bk))) (C := RX1) (T := TX1) (N := 13) hx hb hts i_X1_becomeAs_a_X1 hown hK hW.1 0 rfl rfl 11 (by decide) (hts (.fieldLink RX1 64 "TreeHashes$Hasher" "blocks" "I") f_X1_becomeAs_a_11) (fun _ h9 => h9) rfl dX1_becomeAs_94 ?_
  refine va_put (D := D) (ci := 1) (v := .int (nI (bk))) (ty := .int) (C := RX1) (T := TX1) (N := 13) hx hb hts i_X1_becomeAs_a_X1 tyX1 tyX1_ok nmX1 hown hK hW.1 hW.2.1 hW.2.2 0 rfl rfl 11 (by decide) (hts (.fieldLink RX1 64 "TreeHashes$Hasher" "blocks" "I") f_X1_becomeAs_a_11) (fun _ h9 => h9) rfl (by decide +kernel) rfl rfl (Nat.le_of_ble_eq_true rfl) dX1_becomeAs_97 (fun H locs hP hD hS => ?_)
  have hW : Wd D A s [(h0, .inr (1, [.ref m0, .ref qk, .ref qs, .ref qc, .ref qb, .int (md), .int (bs), .int (nI (fc)), .int (nI (tk)), .int (nI (cl)), .int (nI (dp)), .int (nI (bk)), .int (nI (ib))])), (qk, .inl (cy 0, 8, .inl (kf))), (qs, .inl (cy 0, 40, .inl (sf))), (qc, .inl (cy 0, 8, .inl (cf))), (qb, .inl (cy 0, 16, .inl (bf)))] H locs := ⟨hP, hD, hS⟩
  refine lv_aload_n hx hb dX1_becomeAs_100 rfl (lv_at hl 0 rfl) ?_
  refine lv_aload_n hx hb dX1_becomeAs_101 rfl (lv_at hl 1 rfl) ?_
  refine va_get (D := D) (ci := 1) (v := .int (nI (ib))) (C := RX1) (T := TX1) (N := 13) hx hb hts i_X1_becomeAs_a_X1 hown hK hW.1 0 rfl rfl 12 (by decide) (hts (.fieldLink RX1 67 "TreeHashes$Hasher" "inBlock" "I") f_X1_becomeAs_a_12) (fun _ h9 => h9) rfl dX1_becomeAs_102 ?_
  refine va_put (D := D) (ci := 1) (v := .int (nI (ib))) (ty := .int) (C := RX1) (T := TX1) (N := 13) hx hb hts i_X1_becomeAs_a_X1 tyX1 tyX1_ok nmX1 hown hK hW.1 hW.2.1 hW.2.2 0 rfl rfl 12 (by decide) (hts (.fieldLink RX1 67 "TreeHashes$Hasher" "inBlock" "I") f_X1_becomeAs_a_12) (fun _ h9 => h9) rfl (by decide +kernel) rfl rfl (Nat.le_of_ble_eq_true rfl) dX1_becomeAs_105 (fun H locs hP hD hS => ?_)
  have hW : Wd D A s [(h0, .inr (1, [.ref m0, .ref qk, .ref qs, .ref qc, .ref qb, .int (md), .int (bs), .int (nI (fc)), .int (nI (tk)), .int (nI (cl)), .int (nI (dp)), .int (nI (bk)), .int (nI (ib))])), (qk, .inl (cy 0, 8, .inl (kf))), (qs, .inl (cy 0, 40, .inl (sf))), (qc, .inl (cy 0, 8, .inl (cf))), (qb, .inl (cy 0, 16, .inl (bf)))] H locs := ⟨hP, hD, hS⟩
  exact eV hQ hx hb hr hlocks hK hW () (trivial) (rfl) dX1_becomeAs_108

theorem f_X1_inChunk_0 : Cond.fieldLink RX1 64 "TreeHashes$Hasher" "blocks" "I" ∈ wsX1_inChunk := by decide +kernel
theorem i_X1_inChunk_X1 : ∀ w ∈ wsX10, w ∈ wsX1_inChunk := by decide +kernel
theorem f_X1_inChunk_2 : Cond.fieldLink RX1 67 "TreeHashes$Hasher" "inBlock" "I" ∈ wsX1_inChunk := by decide +kernel
set_option maxHeartbeats 4000000 in
set_option maxRecDepth 100000 in
theorem c_X1_inChunk (l : Launch) (D : va_G) (cy : Nat → ClassId) (t : Nat × Nat) (m0 : Nat) (h0 : Nat) (qk : Nat) (qs : Nat) (qc : Nat) (qb : Nat) (md : Int32) (bs : Int32) (fc : Nat) (tk : Nat) (cl : Nat) (dp : Nat) (bk : Nat) (ib : Nat)  (sz : Nat) : Met l yX1_inChunk wsX1_inChunk ({ frames := 0, cells := 0, slots := 0, locals := 0 }) (PcW D cy t [(h0, .inr (1, [.ref m0, .ref qk, .ref qs, .ref qc, .ref qb, .int (md), .int (bs), .int (nI (fc)), .int (nI (tk)), .int (nI (cl)), .int (nI (dp)), .int (nI (bk)), .int (nI (ib))]))] [.ref h0] sz) (QiA D cy (fun (r : Int32) (u : Unit) => (r = nI (bk * 64 + ib))) (fun u : Unit => [(h0, .inr (1, [.ref m0, .ref qk, .ref qs, .ref qc, .ref qb, .int (md), .int (bs), .int (nI (fc)), .int (nI (tk)), .int (nI (cl)), .int (nI (dp)), .int (nI (bk)), .int (nI (ib))]))]) (va_A [(h0, .inr (1, [.ref m0, .ref qk, .ref qs, .ref qc, .ref qb, .int (md), .int (bs), .int (nI (fc)), .int (nI (tk)), .int (nI (cl)), .int (nI (dp)), .int (nI (bk)), .int (nI (ib))]))] sz)) 0 0 (va_A [(h0, .inr (1, [.ref m0, .ref qk, .ref qs, .ref qc, .ref qb, .int (md), .int (bs), .int (nI (fc)), .int (nI (tk)), .int (nI (cl)), .int (nI (dp)), .int (nI (bk)), .int (nI (ib))]))] sz) := by
  refine M_ofW (cc := cX1_inChunk) (maxL := 1) (ret := (some .int)) (by decide) rfl (Nat.le_of_ble_eq_true rfl) ?_
  intro p e s m below meth c A ls args Q hQ S0 hr hlocks hnm hK hst hA hW hl
  have hx := S0.1; have hb := S0.2.1; have hml := S0.2.2.1; have hown := S0.2.2.2.1; have hts := S0.2.2.2.2
  have hl : lv_has ls 1 [(0, .ref h0)] := hl
  refine lv_aload_n hx hb dX1_inChunk_0 rfl (lv_at hl 0 rfl) ?_
  refine va_get (D := D) (ci := 1) (v := .int (nI (bk))) (C := RX1) (T := TX1) (N := 13) hx hb hts i_X1_inChunk_X1 hown hK hW.1 0 rfl rfl 11 (by decide) (hts (.fieldLink RX1 64 "TreeHashes$Hasher" "blocks" "I") f_X1_inChunk_0) (fun _ h9 => h9) rfl dX1_inChunk_1 ?_
  refine lv_bipush (v := nI (64)) hx hb dX1_inChunk_4 (by decide) ?_
  refine lv_imul hx hb dX1_inChunk_6 ?_
  refine tI (pk_mul _ _) ?_
  refine lv_aload_n hx hb dX1_inChunk_7 rfl (lv_at hl 0 rfl) ?_
  refine va_get (D := D) (ci := 1) (v := .int (nI (ib))) (C := RX1) (T := TX1) (N := 13) hx hb hts i_X1_inChunk_X1 hown hK hW.1 0 rfl rfl 12 (by decide) (hts (.fieldLink RX1 67 "TreeHashes$Hasher" "inBlock" "I") f_X1_inChunk_2) (fun _ h9 => h9) rfl dX1_inChunk_8 ?_
  refine lv_iadd hx hb dX1_inChunk_11 ?_
  refine tI (nI_add _ _) ?_
  exact eI hQ hx hb hr hlocks hK hW () (rfl) (rfl) dX1_inChunk_12

theorem f_X1_stackWord_0 : Cond.fieldLink RX1 58 "TreeHashes$Hasher" "depth" "I" ∈ wsX1_stackWord := by decide +kernel
theorem i_X1_stackWord_X1 : ∀ w ∈ wsX10, w ∈ wsX1_stackWord := by decide +kernel
theorem f_X1_stackWord_2 : Cond.fieldLink RX1 22 "TreeHashes$Hasher" "stack" "[I" ∈ wsX1_stackWord := by decide +kernel
set_option maxHeartbeats 4000000 in
set_option maxRecDepth 100000 in
theorem c_X1_stackWord (l : Launch) (D : va_G) (cy : Nat → ClassId) (t : Nat × Nat) (m0 : Nat) (h0 : Nat) (qk : Nat) (qs : Nat) (qc : Nat) (qb : Nat) (md : Int32) (bs : Int32) (fc : Nat) (tk : Nat) (cl : Nat) (dp : Nat) (bk : Nat) (ib : Nat) (sf : Nat → Int32) (x : Int32) (y : Int32) (hd : dp ≤ 5) (sz : Nat) : Met l yX1_stackWord wsX1_stackWord ({ frames := 0, cells := 0, slots := 0, locals := 0 }) (PcW D cy t [(h0, .inr (1, [.ref m0, .ref qk, .ref qs, .ref qc, .ref qb, .int (md), .int (bs), .int (nI (fc)), .int (nI (tk)), .int (nI (cl)), .int (nI (dp)), .int (nI (bk)), .int (nI (ib))])), (qs, .inl (cy 0, 40, .inl (sf)))] [.ref h0, .int (x), .int (y)] sz) (QiA D cy (fun (r : Int32) (u : Unit) => ((r = 0 ∧ (x < 0 ∨ nI dp ≤ x ∨ y < 0 ∨ nI 8 ≤ y)) ∨ ∃ a b : Nat, a < dp ∧ b < 8 ∧ x = nI a ∧ y = nI b ∧ r = sf (a * 8 + b))) (fun u : Unit => [(h0, .inr (1, [.ref m0, .ref qk, .ref qs, .ref qc, .ref qb, .int (md), .int (bs), .int (nI (fc)), .int (nI (tk)), .int (nI (cl)), .int (nI (dp)), .int (nI (bk)), .int (nI (ib))])), (qs, .inl (cy 0, 40, .inl (sf)))]) (va_A [(h0, .inr (1, [.ref m0, .ref qk, .ref qs, .ref qc, .ref qb, .int (md), .int (bs), .int (nI (fc)), .int (nI (tk)), .int (nI (cl)), .int (nI (dp)), .int (nI (bk)), .int (nI (ib))])), (qs, .inl (cy 0, 40, .inl (sf)))] sz)) 0 0 (va_A [(h0, .inr (1, [.ref m0, .ref qk, .ref qs, .ref qc, .ref qb, .int (md), .int (bs), .int (nI (fc)), .int (nI (tk)), .int (nI (cl)), .int (nI (dp)), .int (nI (bk)), .int (nI (ib))])), (qs, .inl (cy 0, 40, .inl (sf)))] sz) := by
  refine M_ofW (cc := cX1_stackWord) (maxL := 3) (ret := (some .int)) (by decide) rfl (Nat.le_of_ble_eq_true rfl) ?_
  intro p e s m below meth c A ls args Q hQ S0 hr hlocks hnm hK hst hA hW hl
  have hx := S0.1; have hb := S0.2.1; have hml := S0.2.2.1; have hown := S0.2.2.2.1; have hts := S0.2.2.2.2
  have hl : lv_has ls 3 [(0, .ref h0), (1, .int (x)), (2, .int (y))] := hl
  refine lv_iload_n hx hb dX1_stackWord_0 rfl (lv_at hl 1 rfl) ?_
  refine lv_if_lt (tgt := 22) hx hb dX1_stackWord_1 (by decide) (fun h1 => ?_) (fun h1 => ?_)
  · skip
    refine lv_iconst (v := nI (0)) hx hb dX1_stackWord_22 (by decide) ?_
    exact eI hQ hx hb hr hlocks hK hW () (Or.inl ⟨rfl, Or.inl h1⟩) (rfl) dX1_stackWord_23
  · skip
    refine lv_iload_n hx hb dX1_stackWord_4 rfl (lv_at hl 1 rfl) ?_
    refine lv_aload_n hx hb dX1_stackWord_5 rfl (lv_at hl 0 rfl) ?_
    refine va_get (D := D) (ci := 1) (v := .int (nI (dp))) (C := RX1) (T := TX1) (N := 13) hx hb hts i_X1_stackWord_X1 hown hK hW.1 0 rfl rfl 10 (by decide) (hts (.fieldLink RX1 58 "TreeHashes$Hasher" "depth" "I") f_X1_stackWord_0) (fun _ h9 => h9) rfl dX1_stackWord_6 ?_
    refine lv_icmp_ge (tgt := 22) hx hb dX1_stackWord_9 (by decide) (fun h9 => ?_) (fun h9 => ?_)
    · skip
      refine lv_iconst (v := nI (0)) hx hb dX1_stackWord_22 (by decide) ?_
      exact eI hQ hx hb hr hlocks hK hW () (Or.inl ⟨rfl, Or.inr (Or.inl h9)⟩) (rfl) dX1_stackWord_23
    · skip
      obtain ⟨a, ha2, ea⟩ := ix_lt h1 h9 (by omega)
      subst ea
      refine lv_iload_n hx hb dX1_stackWord_12 rfl (lv_at hl 2 rfl) ?_
      refine lv_if_lt (tgt := 22) hx hb dX1_stackWord_13 (by decide) (fun h13 => ?_) (fun h13 => ?_)
      · skip
        refine lv_iconst (v := nI (0)) hx hb dX1_stackWord_22 (by decide) ?_
        exact eI hQ hx hb hr hlocks hK hW () (Or.inl ⟨rfl, Or.inr (Or.inr (Or.inl h13))⟩) (rfl) dX1_stackWord_23
      · skip
        refine lv_iload_n hx hb dX1_stackWord_16 rfl (lv_at hl 2 rfl) ?_
        refine lv_bipush (v := nI (8)) hx hb dX1_stackWord_17 (by decide) ?_
        refine lv_icmp_lt (tgt := 24) hx hb dX1_stackWord_19 (by decide) (fun h19 => ?_) (fun h19 => ?_)
        · skip
          obtain ⟨b, hb2, eb⟩ := ix_lt h13 (Int32.not_le.mpr h19) (by omega)
          subst eb
          refine lv_aload_n hx hb dX1_stackWord_24 rfl (lv_at hl 0 rfl) ?_
          refine va_get (D := D) (ci := 1) (v := .ref qs) (C := RX1) (T := TX1) (N := 13) hx hb hts i_X1_stackWord_X1 hown hK hW.1 0 rfl rfl 2 (by decide) (hts (.fieldLink RX1 22 "TreeHashes$Hasher" "stack" "[I") f_X1_stackWord_2) (fun _ h9 => h9) rfl dX1_stackWord_25 ?_
          refine lv_iload_n hx hb dX1_stackWord_28 rfl (lv_at hl 1 rfl) ?_
          refine lv_bipush (v := nI (8)) hx hb dX1_stackWord_29 (by decide) ?_
          refine lv_imul hx hb dX1_stackWord_31 ?_
          refine tI (pk_mul _ _) ?_
          refine lv_iload_n hx hb dX1_stackWord_32 rfl (lv_at hl 2 rfl) ?_
          refine lv_iadd hx hb dX1_stackWord_33 ?_
          refine tI (nI_add _ _) ?_
          refine rI hx hb hK hW 1 rfl (k := (a * 8) + b) (by omega) (by omega) dX1_stackWord_34 ?_
          exact eI hQ hx hb hr hlocks hK hW () (Or.inr ⟨a, b, ha2, hb2, rfl, rfl, rfl⟩) (rfl) dX1_stackWord_35
        · skip
          refine lv_iconst (v := nI (0)) hx hb dX1_stackWord_22 (by decide) ?_
          exact eI hQ hx hb hr hlocks hK hW () (Or.inl ⟨rfl, Or.inr (Or.inr (Or.inr (Int32.not_lt.mp h19)))⟩) (rfl) dX1_stackWord_23

theorem f_X1_prepareBlock_0 : Cond.fieldLink RX1 64 "TreeHashes$Hasher" "blocks" "I" ∈ wsX1_prepareBlock := by decide +kernel
theorem i_X1_prepareBlock_X1 : ∀ w ∈ wsX10, w ∈ wsX1_prepareBlock := by decide +kernel
theorem f_X1_prepareBlock_2 : Cond.fieldLink RX1 14 "TreeHashes$Hasher" "mix" "LTreeHashes$Mix;" ∈ wsX1_prepareBlock := by decide +kernel
theorem f_X1_prepareBlock_3 : Cond.fieldLink RX1 25 "TreeHashes$Hasher" "chunkChain" "[I" ∈ wsX1_prepareBlock := by decide +kernel
theorem f_X1_prepareBlock_4 : Cond.fieldLink RX1 28 "TreeHashes$Hasher" "block" "[I" ∈ wsX1_prepareBlock := by decide +kernel
theorem f_X1_prepareBlock_5 : Cond.fieldLink RX1 49 "TreeHashes$Hasher" "firstChunk" "I" ∈ wsX1_prepareBlock := by decide +kernel
theorem f_X1_prepareBlock_6 : Cond.fieldLink RX1 55 "TreeHashes$Hasher" "closed" "I" ∈ wsX1_prepareBlock := by decide +kernel
theorem f_X1_prepareBlock_7 : Cond.fieldLink RX1 67 "TreeHashes$Hasher" "inBlock" "I" ∈ wsX1_prepareBlock := by decide +kernel
theorem f_X1_prepareBlock_8 : Cond.fieldLink RX1 46 "TreeHashes$Hasher" "base" "I" ∈ wsX1_prepareBlock := by decide +kernel
set_option maxHeartbeats 4000000 in
set_option maxRecDepth 100000 in
theorem c_X1_prepareBlock (l : Launch) (D : va_G) (cy : Nat → ClassId) (t : Nat × Nat) (m0 : Nat) (mc : Nat) (mb : Nat) (mv : Nat) (aw : Nat) (an : Nat) (ct : Int64) (ln : Int32) (fl : Int32) (h0 : Nat) (qk : Nat) (qs : Nat) (qc : Nat) (qb : Nat) (md : Int32) (bs : Int32) (fc : Nat) (tk : Nat) (cl : Nat) (dp : Nat) (bk : Nat) (ib : Nat) (ch : Nat → Int32) (bl : Nat → Int32) (cf : Nat → Int32) (bf : Nat → Int32) (fg : Int32) (hfc : fc + cl < 2 ^ 31) (hbk0 : bk < 2 ^ 31) (sz : Nat) : Met l yX1_prepareBlock wsX1_prepareBlock ({ frames := 1, cells := 0, slots := 0, locals := 27 }) (PcW D cy t [(h0, .inr (1, [.ref m0, .ref qk, .ref qs, .ref qc, .ref qb, .int (md), .int (bs), .int (nI (fc)), .int (nI (tk)), .int (nI (cl)), .int (nI (dp)), .int (nI (bk)), .int (nI (ib))])), (qc, .inl (cy 0, 8, .inl (cf))), (qb, .inl (cy 0, 16, .inl (bf))), (m0, .inr (2, [.ref mc, .ref mb, .long (ct), .int (ln), .int (fl), .ref mv, .ref aw, .ref an])), (mc, .inl (cy 0, 8, .inl (ch))), (mb, .inl (cy 0, 16, .inl (bl)))] [.ref h0, .int (fg)] sz) (QvA D cy (fun u : Unit => True) (fun u : Unit => [(h0, .inr (1, [.ref m0, .ref qk, .ref qs, .ref qc, .ref qb, .int (md), .int (bs), .int (nI (fc)), .int (nI (tk)), .int (nI (cl)), .int (nI (dp)), .int (nI (bk)), .int (nI (ib))])), (qc, .inl (cy 0, 8, .inl (cf))), (qb, .inl (cy 0, 16, .inl (bf))), (m0, .inr (2, [.ref mc, .ref mb, .long (lN (fc + cl)), .int (nI (ib)), .int ((bs + (nI (fst0 bk))) + fg), .ref mv, .ref aw, .ref an])), (mc, .inl (cy 0, 8, .inl (cf))), (mb, .inl (cy 0, 16, .inl (bf)))]) (va_A [(h0, .inr (1, [.ref m0, .ref qk, .ref qs, .ref qc, .ref qb, .int (md), .int (bs), .int (nI (fc)), .int (nI (tk)), .int (nI (cl)), .int (nI (dp)), .int (nI (bk)), .int (nI (ib))])), (qc, .inl (cy 0, 8, .inl (cf))), (qb, .inl (cy 0, 16, .inl (bf))), (m0, .inr (2, [.ref mc, .ref mb, .long (ct), .int (ln), .int (fl), .ref mv, .ref aw, .ref an])), (mc, .inl (cy 0, 8, .inl (ch))), (mb, .inl (cy 0, 16, .inl (bl)))] sz)) 0 0 (va_A [(h0, .inr (1, [.ref m0, .ref qk, .ref qs, .ref qc, .ref qb, .int (md), .int (bs), .int (nI (fc)), .int (nI (tk)), .int (nI (cl)), .int (nI (dp)), .int (nI (bk)), .int (nI (ib))])), (qc, .inl (cy 0, 8, .inl (cf))), (qb, .inl (cy 0, 16, .inl (bf))), (m0, .inr (2, [.ref mc, .ref mb, .long (ct), .int (ln), .int (fl), .ref mv, .ref aw, .ref an])), (mc, .inl (cy 0, 8, .inl (ch))), (mb, .inl (cy 0, 16, .inl (bl)))] sz) := by
  refine M_ofW (cc := cX1_prepareBlock) (maxL := 3) (ret := none) (by decide) rfl (Nat.le_of_ble_eq_true rfl) ?_
  intro p e s m below meth c A ls args Q hQ S0 hr hlocks hnm hK hst hA hW hl
  have hx := S0.1; have hb := S0.2.1; have hml := S0.2.2.1; have hown := S0.2.2.2.1; have hts := S0.2.2.2.2
  have hl : lv_has ls 3 [(0, .ref h0), (1, .int (fg))] := hl
  refine lv_aload_n hx hb dX1_prepareBlock_0 rfl (lv_at hl 0 rfl) ?_
  refine va_get (D := D) (ci := 1) (v := .int (nI (bk))) (C := RX1) (T := TX1) (N := 13) hx hb hts i_X1_prepareBlock_X1 hown hK hW.1 0 rfl rfl 11 (by decide) (hts (.fieldLink RX1 64 "TreeHashes$Hasher" "blocks" "I") f_X1_prepareBlock_0) (fun _ h9 => h9) rfl dX1_prepareBlock_1 ?_
  refine zNe (a := bk) (tgt := 11) hx hb dX1_prepareBlock_4 (by decide) (hbk0) (fun h4 => ?_) (fun h4 => ?_)
  · skip
    refine lv_iconst (v := nI (0)) hx hb dX1_prepareBlock_11 (by decide) ?_
    refine tI (x' := nI (fst0 bk)) (fst0_1 h4) ?_
    refine lv_istore_n (lv' := [(2, .int (nI (fst0 bk))), (0, .ref h0), (1, .int (fg))]) hx hb dX1_prepareBlock_12 rfl hl (by decide) rfl (fun ls hl => ?_)
    refine lv_aload_n hx hb dX1_prepareBlock_13 rfl (lv_at hl 1 rfl) ?_
    refine va_get (D := D) (ci := 1) (v := .ref m0) (C := RX1) (T := TX1) (N := 13) hx hb hts i_X1_prepareBlock_X1 hown hK hW.1 0 rfl rfl 0 (by decide) (hts (.fieldLink RX1 14 "TreeHashes$Hasher" "mix" "LTreeHashes$Mix;") f_X1_prepareBlock_2) (fun _ h9 => h9) rfl dX1_prepareBlock_14 ?_
    refine lv_aload_n hx hb dX1_prepareBlock_17 rfl (lv_at hl 1 rfl) ?_
    refine va_get (D := D) (ci := 1) (v := .ref qc) (C := RX1) (T := TX1) (N := 13) hx hb hts i_X1_prepareBlock_X1 hown hK hW.1 0 rfl rfl 3 (by decide) (hts (.fieldLink RX1 25 "TreeHashes$Hasher" "chunkChain" "[I") f_X1_prepareBlock_3) (fun _ h9 => h9) rfl dX1_prepareBlock_18 ?_
    refine lv_aload_n hx hb dX1_prepareBlock_21 rfl (lv_at hl 1 rfl) ?_
    refine va_get (D := D) (ci := 1) (v := .ref qb) (C := RX1) (T := TX1) (N := 13) hx hb hts i_X1_prepareBlock_X1 hown hK hW.1 0 rfl rfl 4 (by decide) (hts (.fieldLink RX1 28 "TreeHashes$Hasher" "block" "[I") f_X1_prepareBlock_4) (fun _ h9 => h9) rfl dX1_prepareBlock_22 ?_
    refine lv_aload_n hx hb dX1_prepareBlock_25 rfl (lv_at hl 1 rfl) ?_
    refine va_get (D := D) (ci := 1) (v := .int (nI (fc))) (C := RX1) (T := TX1) (N := 13) hx hb hts i_X1_prepareBlock_X1 hown hK hW.1 0 rfl rfl 7 (by decide) (hts (.fieldLink RX1 49 "TreeHashes$Hasher" "firstChunk" "I") f_X1_prepareBlock_5) (fun _ h9 => h9) rfl dX1_prepareBlock_26 ?_
    refine lv_aload_n hx hb dX1_prepareBlock_29 rfl (lv_at hl 1 rfl) ?_
    refine va_get (D := D) (ci := 1) (v := .int (nI (cl))) (C := RX1) (T := TX1) (N := 13) hx hb hts i_X1_prepareBlock_X1 hown hK hW.1 0 rfl rfl 9 (by decide) (hts (.fieldLink RX1 55 "TreeHashes$Hasher" "closed" "I") f_X1_prepareBlock_6) (fun _ h9 => h9) rfl dX1_prepareBlock_30 ?_
    refine lv_iadd hx hb dX1_prepareBlock_33 ?_
    refine tI (nI_add _ _) ?_
    refine lv_i2l hx hb dX1_prepareBlock_34 rfl ?_
    refine tL (x' := lN (fc + cl)) (nI_l (by omega)) ?_
    refine lv_aload_n hx hb dX1_prepareBlock_35 rfl (lv_at hl 1 rfl) ?_
    refine va_get (D := D) (ci := 1) (v := .int (nI (ib))) (C := RX1) (T := TX1) (N := 13) hx hb hts i_X1_prepareBlock_X1 hown hK hW.1 0 rfl rfl 12 (by decide) (hts (.fieldLink RX1 67 "TreeHashes$Hasher" "inBlock" "I") f_X1_prepareBlock_7) (fun _ h9 => h9) rfl dX1_prepareBlock_36 ?_
    refine lv_aload_n hx hb dX1_prepareBlock_39 rfl (lv_at hl 1 rfl) ?_
    refine va_get (D := D) (ci := 1) (v := .int (bs)) (C := RX1) (T := TX1) (N := 13) hx hb hts i_X1_prepareBlock_X1 hown hK hW.1 0 rfl rfl 6 (by decide) (hts (.fieldLink RX1 46 "TreeHashes$Hasher" "base" "I") f_X1_prepareBlock_8) (fun _ h9 => h9) rfl dX1_prepareBlock_40 ?_
    refine lv_iload_n hx hb dX1_prepareBlock_43 rfl (lv_at hl 0 rfl) ?_
    refine lv_iadd hx hb dX1_prepareBlock_44 ?_
    refine lv_iload_n hx hb dX1_prepareBlock_45 rfl (lv_at hl 2 rfl) ?_
    refine lv_iadd hx hb dX1_prepareBlock_46 ?_
    refine kVv (As := [.ref qc, .ref qb, .long (lN (fc + cl)), .int (nI (ib)), .int ((bs + (nI (fst0 bk))) + fg)]) (rest := []) S0 hK hst hA hW [3, 4, 5, 1, 2] (fun sz => c_X2_prepare l D cy t m0 mc mb mv aw an ct ln fl ch bl qc qb cf bf (lN (fc + cl)) (nI (ib)) ((bs + (nI (fst0 bk))) + fg)  sz) rfl (by decide) (cwV 5 hts gX1_prepareBlock_X2_prepare rfl rfl rfl (by decide +kernel) ⟨Nat.le_of_ble_eq_true rfl, Nat.le_of_ble_eq_true rfl⟩) (fun _ => rfl) 0 2 rfl rfl rfl hl.1 rfl (Nat.le_of_ble_eq_true rfl) dX1_prepareBlock_47 ⟨Nat.le_of_ble_eq_true rfl, Nat.le_of_ble_eq_true rfl⟩ (fun u47 H locs p47 hW => ?_)
    have hW : Wd D A s [(h0, .inr (1, [.ref m0, .ref qk, .ref qs, .ref qc, .ref qb, .int (md), .int (bs), .int (nI (fc)), .int (nI (tk)), .int (nI (cl)), .int (nI (dp)), .int (nI (bk)), .int (nI (ib))])), (qc, .inl (cy 0, 8, .inl (cf))), (qb, .inl (cy 0, 16, .inl (bf))), (m0, .inr (2, [.ref mc, .ref mb, .long ((lN (fc + cl))), .int ((nI (ib))), .int (((bs + (nI (fst0 bk))) + fg)), .ref mv, .ref aw, .ref an])), (mc, .inl (cy 0, 8, .inl (cf))), (mb, .inl (cy 0, 16, .inl (bf)))] H locs := hW
    exact eV hQ hx hb hr hlocks hK hW () (trivial) (rfl) dX1_prepareBlock_50
  · skip
    refine lv_iconst (v := nI (1)) hx hb dX1_prepareBlock_7 (by decide) ?_
    refine tI (x' := nI (fst0 bk)) (fst0_0 h4) ?_
    refine lv_goto (tgt := 12) hx hb dX1_prepareBlock_8 (by decide) ?_
    refine lv_istore_n (lv' := [(2, .int (nI (fst0 bk))), (0, .ref h0), (1, .int (fg))]) hx hb dX1_prepareBlock_12 rfl hl (by decide) rfl (fun ls hl => ?_)
    refine lv_aload_n hx hb dX1_prepareBlock_13 rfl (lv_at hl 1 rfl) ?_
    refine va_get (D := D) (ci := 1) (v := .ref m0) (C := RX1) (T := TX1) (N := 13) hx hb hts i_X1_prepareBlock_X1 hown hK hW.1 0 rfl rfl 0 (by decide) (hts (.fieldLink RX1 14 "TreeHashes$Hasher" "mix" "LTreeHashes$Mix;") f_X1_prepareBlock_2) (fun _ h9 => h9) rfl dX1_prepareBlock_14 ?_
    refine lv_aload_n hx hb dX1_prepareBlock_17 rfl (lv_at hl 1 rfl) ?_
    refine va_get (D := D) (ci := 1) (v := .ref qc) (C := RX1) (T := TX1) (N := 13) hx hb hts i_X1_prepareBlock_X1 hown hK hW.1 0 rfl rfl 3 (by decide) (hts (.fieldLink RX1 25 "TreeHashes$Hasher" "chunkChain" "[I") f_X1_prepareBlock_3) (fun _ h9 => h9) rfl dX1_prepareBlock_18 ?_
    refine lv_aload_n hx hb dX1_prepareBlock_21 rfl (lv_at hl 1 rfl) ?_
    refine va_get (D := D) (ci := 1) (v := .ref qb) (C := RX1) (T := TX1) (N := 13) hx hb hts i_X1_prepareBlock_X1 hown hK hW.1 0 rfl rfl 4 (by decide) (hts (.fieldLink RX1 28 "TreeHashes$Hasher" "block" "[I") f_X1_prepareBlock_4) (fun _ h9 => h9) rfl dX1_prepareBlock_22 ?_
    refine lv_aload_n hx hb dX1_prepareBlock_25 rfl (lv_at hl 1 rfl) ?_
    refine va_get (D := D) (ci := 1) (v := .int (nI (fc))) (C := RX1) (T := TX1) (N := 13) hx hb hts i_X1_prepareBlock_X1 hown hK hW.1 0 rfl rfl 7 (by decide) (hts (.fieldLink RX1 49 "TreeHashes$Hasher" "firstChunk" "I") f_X1_prepareBlock_5) (fun _ h9 => h9) rfl dX1_prepareBlock_26 ?_
    refine lv_aload_n hx hb dX1_prepareBlock_29 rfl (lv_at hl 1 rfl) ?_
    refine va_get (D := D) (ci := 1) (v := .int (nI (cl))) (C := RX1) (T := TX1) (N := 13) hx hb hts i_X1_prepareBlock_X1 hown hK hW.1 0 rfl rfl 9 (by decide) (hts (.fieldLink RX1 55 "TreeHashes$Hasher" "closed" "I") f_X1_prepareBlock_6) (fun _ h9 => h9) rfl dX1_prepareBlock_30 ?_
    refine lv_iadd hx hb dX1_prepareBlock_33 ?_
    refine tI (nI_add _ _) ?_
    refine lv_i2l hx hb dX1_prepareBlock_34 rfl ?_
    refine tL (x' := lN (fc + cl)) (nI_l (by omega)) ?_
    refine lv_aload_n hx hb dX1_prepareBlock_35 rfl (lv_at hl 1 rfl) ?_
    refine va_get (D := D) (ci := 1) (v := .int (nI (ib))) (C := RX1) (T := TX1) (N := 13) hx hb hts i_X1_prepareBlock_X1 hown hK hW.1 0 rfl rfl 12 (by decide) (hts (.fieldLink RX1 67 "TreeHashes$Hasher" "inBlock" "I") f_X1_prepareBlock_7) (fun _ h9 => h9) rfl dX1_prepareBlock_36 ?_
    refine lv_aload_n hx hb dX1_prepareBlock_39 rfl (lv_at hl 1 rfl) ?_
    refine va_get (D := D) (ci := 1) (v := .int (bs)) (C := RX1) (T := TX1) (N := 13) hx hb hts i_X1_prepareBlock_X1 hown hK hW.1 0 rfl rfl 6 (by decide) (hts (.fieldLink RX1 46 "TreeHashes$Hasher" "base" "I") f_X1_prepareBlock_8) (fun _ h9 => h9) rfl dX1_prepareBlock_40 ?_
    refine lv_iload_n hx hb dX1_prepareBlock_43 rfl (lv_at hl 0 rfl) ?_
    refine lv_iadd hx hb dX1_prepareBlock_44 ?_
    refine lv_iload_n hx hb dX1_prepareBlock_45 rfl (lv_at hl 2 rfl) ?_
    refine lv_iadd hx hb dX1_prepareBlock_46 ?_
    refine kVv (As := [.ref qc, .ref qb, .long (lN (fc + cl)), .int (nI (ib)), .int ((bs + (nI (fst0 bk))) + fg)]) (rest := []) S0 hK hst hA hW [3, 4, 5, 1, 2] (fun sz => c_X2_prepare l D cy t m0 mc mb mv aw an ct ln fl ch bl qc qb cf bf (lN (fc + cl)) (nI (ib)) ((bs + (nI (fst0 bk))) + fg)  sz) rfl (by decide) (cwV 5 hts gX1_prepareBlock_X2_prepare rfl rfl rfl (by decide +kernel) ⟨Nat.le_of_ble_eq_true rfl, Nat.le_of_ble_eq_true rfl⟩) (fun _ => rfl) 0 2 rfl rfl rfl hl.1 rfl (Nat.le_of_ble_eq_true rfl) dX1_prepareBlock_47 ⟨Nat.le_of_ble_eq_true rfl, Nat.le_of_ble_eq_true rfl⟩ (fun u47 H locs p47 hW => ?_)
    have hW : Wd D A s [(h0, .inr (1, [.ref m0, .ref qk, .ref qs, .ref qc, .ref qb, .int (md), .int (bs), .int (nI (fc)), .int (nI (tk)), .int (nI (cl)), .int (nI (dp)), .int (nI (bk)), .int (nI (ib))])), (qc, .inl (cy 0, 8, .inl (cf))), (qb, .inl (cy 0, 16, .inl (bf))), (m0, .inr (2, [.ref mc, .ref mb, .long ((lN (fc + cl))), .int ((nI (ib))), .int (((bs + (nI (fst0 bk))) + fg)), .ref mv, .ref aw, .ref an])), (mc, .inl (cy 0, 8, .inl (cf))), (mb, .inl (cy 0, 16, .inl (bf)))] H locs := hW
    exact eV hQ hx hb hr hlocks hK hW () (trivial) (rfl) dX1_prepareBlock_50

theorem f_X1_closeBlock_0 : Cond.fieldLink RX1 14 "TreeHashes$Hasher" "mix" "LTreeHashes$Mix;" ∈ wsX1_closeBlock := by decide +kernel
theorem i_X1_closeBlock_X1 : ∀ w ∈ wsX10, w ∈ wsX1_closeBlock := by decide +kernel
theorem f_X1_closeBlock_2 : Cond.fieldLink RX1 25 "TreeHashes$Hasher" "chunkChain" "[I" ∈ wsX1_closeBlock := by decide +kernel
theorem f_X1_closeBlock_3 : Cond.fieldLink RX1 64 "TreeHashes$Hasher" "blocks" "I" ∈ wsX1_closeBlock := by decide +kernel
set_option maxHeartbeats 4000000 in
set_option maxRecDepth 100000 in
theorem c_X1_closeBlock (l : Launch) (D : va_G) (cy : Nat → ClassId) (t : Nat × Nat) (m0 : Nat) (mc : Nat) (mb : Nat) (mv : Nat) (aw : Nat) (an : Nat) (ct : Int64) (ln : Int32) (fl : Int32) (h0 : Nat) (qk : Nat) (qs : Nat) (qc : Nat) (qb : Nat) (md : Int32) (bs : Int32) (fc : Nat) (tk : Nat) (cl : Nat) (dp : Nat) (bk : Nat) (ib : Nat) (ch : Nat → Int32) (bl : Nat → Int32) (v : Nat → Int32) (w : Nat → Int32) (nw : Nat → Int32) (cf : Nat → Int32) (bf : Nat → Int32) (hfc : fc + cl < 2 ^ 31) (hb1 : bk < 2 ^ 31) (sz : Nat) : Met l yX1_closeBlock wsX1_closeBlock ({ frames := 2, cells := 0, slots := 0, locals := 51 }) (PcW D cy t [(h0, .inr (1, [.ref m0, .ref qk, .ref qs, .ref qc, .ref qb, .int (md), .int (bs), .int (nI (fc)), .int (nI (tk)), .int (nI (cl)), .int (nI (dp)), .int (nI (bk)), .int (nI (ib))])), (qc, .inl (cy 0, 8, .inl (cf))), (qb, .inl (cy 0, 16, .inl (bf))), (m0, .inr (2, [.ref mc, .ref mb, .long (ct), .int (ln), .int (fl), .ref mv, .ref aw, .ref an])), (mc, .inl (cy 0, 8, .inl (ch))), (mb, .inl (cy 0, 16, .inl (bl))), (mv, .inl (cy 0, 16, .inl (v))), (aw, .inl (cy 0, 16, .inl (w))), (an, .inl (cy 0, 16, .inl (nw)))] [.ref h0] sz) (QvA D cy (fun u : (Nat) × (Nat) × (Nat → Int32) × (Nat → Int32) => match u with | (aw2, an2, w2, nw2) => True) (fun u : (Nat) × (Nat) × (Nat → Int32) × (Nat → Int32) => match u with | (aw2, an2, w2, nw2) => [(h0, .inr (1, [.ref m0, .ref qk, .ref qs, .ref qc, .ref qb, .int (md), .int (bs), .int (nI (fc)), .int (nI (tk)), .int (nI (cl)), .int (nI (dp)), .int (nI (bk + 1)), .int (nI (0))])), (qc, .inl (cy 0, 8, .inl (mixV cf bf (lN (fc + cl)) (nI (ib)) ((bs + (nI (fst0 bk))) + (nI (0)))))), (qb, .inl (cy 0, 16, .inl ((fun _ => nI (0))))), (m0, .inr (2, [.ref mc, .ref mb, .long (lN (fc + cl)), .int (nI (ib)), .int ((bs + (nI (fst0 bk))) + (nI (0))), .ref mv, .ref aw2, .ref an2])), (mc, .inl (cy 0, 8, .inl (cf))), (mb, .inl (cy 0, 16, .inl (bf))), (mv, .inl (cy 0, 16, .inl (mixV cf bf (lN (fc + cl)) (nI (ib)) ((bs + (nI (fst0 bk))) + (nI (0)))))), (aw2, .inl (cy 0, 16, .inl (w2))), (an2, .inl (cy 0, 16, .inl (nw2)))]) (va_A [(h0, .inr (1, [.ref m0, .ref qk, .ref qs, .ref qc, .ref qb, .int (md), .int (bs), .int (nI (fc)), .int (nI (tk)), .int (nI (cl)), .int (nI (dp)), .int (nI (bk)), .int (nI (ib))])), (qc, .inl (cy 0, 8, .inl (cf))), (qb, .inl (cy 0, 16, .inl (bf))), (m0, .inr (2, [.ref mc, .ref mb, .long (ct), .int (ln), .int (fl), .ref mv, .ref aw, .ref an])), (mc, .inl (cy 0, 8, .inl (ch))), (mb, .inl (cy 0, 16, .inl (bl))), (mv, .inl (cy 0, 16, .inl (v))), (aw, .inl (cy 0, 16, .inl (w))), (an, .inl (cy 0, 16, .inl (nw)))] sz)) 0 0 (va_A [(h0, .inr (1, [.ref m0, .ref qk, .ref qs, .ref qc, .ref qb, .int (md), .int (bs), .int (nI (fc)), .int (nI (tk)), .int (nI (cl)), .int (nI (dp)), .int (nI (bk)), .int (nI (ib))])), (qc, .inl (cy 0, 8, .inl (cf))), (qb, .inl (cy 0, 16, .inl (bf))), (m0, .inr (2, [.ref mc, .ref mb, .long (ct), .int (ln), .int (fl), .ref mv, .ref aw, .ref an])), (mc, .inl (cy 0, 8, .inl (ch))), (mb, .inl (cy 0, 16, .inl (bl))), (mv, .inl (cy 0, 16, .inl (v))), (aw, .inl (cy 0, 16, .inl (w))), (an, .inl (cy 0, 16, .inl (nw)))] sz) := by
  refine M_ofW (cc := cX1_closeBlock) (maxL := 1) (ret := none) (by decide) rfl (Nat.le_of_ble_eq_true rfl) ?_
  intro p e s m below meth c A ls args Q hQ S0 hr hlocks hnm hK hst hA hW hl
  have hx := S0.1; have hb := S0.2.1; have hml := S0.2.2.1; have hown := S0.2.2.2.1; have hts := S0.2.2.2.2
  have hl : lv_has ls 1 [(0, .ref h0)] := hl
  refine lv_aload_n hx hb dX1_closeBlock_0 rfl (lv_at hl 0 rfl) ?_
  refine lv_iconst (v := nI (0)) hx hb dX1_closeBlock_1 (by decide) ?_
  refine kVv (As := [.int (nI (0))]) (rest := []) S0 hK hst hA hW [0, 1, 2, 3, 4, 5] (fun sz => c_X1_prepareBlock l D cy t m0 mc mb mv aw an ct ln fl h0 qk qs qc qb md bs fc tk cl dp bk ib ch bl cf bf (nI (0)) (by omega) (by omega) sz) rfl (by decide) (cwV 1 hts gX1_closeBlock_X1_prepareBlock rfl rfl rfl (by decide +kernel) ⟨Nat.le_of_ble_eq_true rfl, Nat.le_of_ble_eq_true rfl⟩) (fun _ => rfl) 0 1 rfl rfl rfl hl.1 rfl (Nat.le_of_ble_eq_true rfl) dX1_closeBlock_2 ⟨Nat.le_of_ble_eq_true rfl, Nat.le_of_ble_eq_true rfl⟩ (fun u2 H locs p2 hW => ?_)
  have hW : Wd D A s [(h0, .inr (1, [.ref m0, .ref qk, .ref qs, .ref qc, .ref qb, .int (md), .int (bs), .int (nI (fc)), .int (nI (tk)), .int (nI (cl)), .int (nI (dp)), .int (nI (bk)), .int (nI (ib))])), (qc, .inl (cy 0, 8, .inl (cf))), (qb, .inl (cy 0, 16, .inl (bf))), (m0, .inr (2, [.ref mc, .ref mb, .long (lN (fc + cl)), .int (nI (ib)), .int ((bs + (nI (fst0 bk))) + (nI (0))), .ref mv, .ref aw, .ref an])), (mc, .inl (cy 0, 8, .inl (cf))), (mb, .inl (cy 0, 16, .inl (bf))), (mv, .inl (cy 0, 16, .inl (v))), (aw, .inl (cy 0, 16, .inl (w))), (an, .inl (cy 0, 16, .inl (nw)))] H locs := hW
  refine lv_aload_n hx hb dX1_closeBlock_5 rfl (lv_at hl 0 rfl) ?_
  refine va_get (D := D) (ci := 1) (v := .ref m0) (C := RX1) (T := TX1) (N := 13) hx hb hts i_X1_closeBlock_X1 hown hK hW.1 0 rfl rfl 0 (by decide) (hts (.fieldLink RX1 14 "TreeHashes$Hasher" "mix" "LTreeHashes$Mix;") f_X1_closeBlock_0) (fun _ h9 => h9) rfl dX1_closeBlock_6 ?_
  refine kVv (As := []) (rest := []) S0 hK hst hA hW [3, 4, 5, 6, 7, 8] (fun sz => c_X2_run l D cy t m0 mc mb mv aw an (lN (fc + cl)) (nI (ib)) ((bs + (nI (fst0 bk))) + (nI (0))) cf bf v w nw  sz) rfl (by decide) (cwV 0 hts gX1_closeBlock_X2_run rfl rfl rfl (by decide +kernel) ⟨Nat.le_of_ble_eq_true rfl, Nat.le_of_ble_eq_true rfl⟩) (fun ⟨_, _, _, _⟩ => rfl) 0 2 rfl rfl rfl hl.1 rfl (Nat.le_of_ble_eq_true rfl) dX1_closeBlock_9 ⟨Nat.le_of_ble_eq_true rfl, Nat.le_of_ble_eq_true rfl⟩ (fun u9 H locs p9 hW => ?_)
  obtain ⟨aw2_9, an2_9, w2_9, nw2_9⟩ := u9
  have hW : Wd D A s [(h0, .inr (1, [.ref m0, .ref qk, .ref qs, .ref qc, .ref qb, .int (md), .int (bs), .int (nI (fc)), .int (nI (tk)), .int (nI (cl)), .int (nI (dp)), .int (nI (bk)), .int (nI (ib))])), (qc, .inl (cy 0, 8, .inl (cf))), (qb, .inl (cy 0, 16, .inl (bf))), (m0, .inr (2, [.ref mc, .ref mb, .long ((lN (fc + cl))), .int ((nI (ib))), .int (((bs + (nI (fst0 bk))) + (nI (0)))), .ref mv, .ref aw2_9, .ref an2_9])), (mc, .inl (cy 0, 8, .inl (cf))), (mb, .inl (cy 0, 16, .inl (bf))), (mv, .inl (cy 0, 16, .inl (mixV cf bf (lN (fc + cl)) (nI (ib)) ((bs + (nI (fst0 bk))) + (nI (0)))))), (aw2_9, .inl (cy 0, 16, .inl (w2_9))), (an2_9, .inl (cy 0, 16, .inl (nw2_9)))] H locs := hW
  refine lv_aload_n hx hb dX1_closeBlock_12 rfl (lv_at hl 0 rfl) ?_
  refine va_get (D := D) (ci := 1) (v := .ref m0) (C := RX1) (T := TX1) (N := 13) hx hb hts i_X1_closeBlock_X1 hown hK hW.1 0 rfl rfl 0 (by decide) (hts (.fieldLink RX1 14 "TreeHashes$Hasher" "mix" "LTreeHashes$Mix;") f_X1_closeBlock_0) (fun _ h9 => h9) rfl dX1_closeBlock_13 ?_
  refine lv_aload_n hx hb dX1_closeBlock_16 rfl (lv_at hl 0 rfl) ?_
  refine va_get (D := D) (ci := 1) (v := .ref qc) (C := RX1) (T := TX1) (N := 13) hx hb hts i_X1_closeBlock_X1 hown hK hW.1 0 rfl rfl 3 (by decide) (hts (.fieldLink RX1 25 "TreeHashes$Hasher" "chunkChain" "[I") f_X1_closeBlock_2) (fun _ h9 => h9) rfl dX1_closeBlock_17 ?_
  refine lv_iconst (v := nI (0)) hx hb dX1_closeBlock_20 (by decide) ?_
  refine kVv (As := [.ref qc, .int (nI (0))]) (rest := []) S0 hK hst hA hW [3, 6, 1] (fun sz => c_X2_writeChain l D cy t m0 mc mb mv aw2_9 an2_9 (lN (fc + cl)) (nI (ib)) ((bs + (nI (fst0 bk))) + (nI (0))) (mixV cf bf (lN (fc + cl)) (nI (ib)) ((bs + (nI (fst0 bk))) + (nI (0)))) qc 8 cf 0 (by omega) (by omega) sz) rfl (by decide) (cwV 2 hts gX1_closeBlock_X2_writeChain rfl rfl rfl (by decide +kernel) ⟨Nat.le_of_ble_eq_true rfl, Nat.le_of_ble_eq_true rfl⟩) (fun _ => rfl) 0 2 rfl rfl rfl hl.1 rfl (Nat.le_of_ble_eq_true rfl) dX1_closeBlock_21 ⟨Nat.le_of_ble_eq_true rfl, Nat.le_of_ble_eq_true rfl⟩ (fun u21 H locs p21 hW => ?_)
  have hW : Wd D A s [(h0, .inr (1, [.ref m0, .ref qk, .ref qs, .ref qc, .ref qb, .int (md), .int (bs), .int (nI (fc)), .int (nI (tk)), .int (nI (cl)), .int (nI (dp)), .int (nI (bk)), .int (nI (ib))])), (qc, .inl (cy 0, 8, .inl (apG cf 0 (mixV cf bf (lN (fc + cl)) (nI (ib)) ((bs + (nI (fst0 bk))) + (nI (0)))) 8))), (qb, .inl (cy 0, 16, .inl (bf))), (m0, .inr (2, [.ref mc, .ref mb, .long ((lN (fc + cl))), .int ((nI (ib))), .int (((bs + (nI (fst0 bk))) + (nI (0)))), .ref mv, .ref aw2_9, .ref an2_9])), (mc, .inl (cy 0, 8, .inl (cf))), (mb, .inl (cy 0, 16, .inl (bf))), (mv, .inl (cy 0, 16, .inl ((mixV cf bf (lN (fc + cl)) (nI (ib)) ((bs + (nI (fst0 bk))) + (nI (0))))))), (aw2_9, .inl (cy 0, 16, .inl (w2_9))), (an2_9, .inl (cy 0, 16, .inl (nw2_9)))] H locs := hW
  have hW := Wd.ext hW 1 rfl (mixV cf bf (lN (fc + cl)) (nI (ib)) ((bs + (nI (fst0 bk))) + (nI (0)))) (apG_all)
  have hW : Wd D A s [(h0, .inr (1, [.ref m0, .ref qk, .ref qs, .ref qc, .ref qb, .int (md), .int (bs), .int (nI (fc)), .int (nI (tk)), .int (nI (cl)), .int (nI (dp)), .int (nI (bk)), .int (nI (ib))])), (qc, .inl (cy 0, 8, .inl (mixV cf bf (lN (fc + cl)) (nI (ib)) ((bs + (nI (fst0 bk))) + (nI (0)))))), (qb, .inl (cy 0, 16, .inl (bf))), (m0, .inr (2, [.ref mc, .ref mb, .long ((lN (fc + cl))), .int ((nI (ib))), .int (((bs + (nI (fst0 bk))) + (nI (0)))), .ref mv, .ref aw2_9, .ref an2_9])), (mc, .inl (cy 0, 8, .inl (cf))), (mb, .inl (cy 0, 16, .inl (bf))), (mv, .inl (cy 0, 16, .inl ((mixV cf bf (lN (fc + cl)) (nI (ib)) ((bs + (nI (fst0 bk))) + (nI (0))))))), (aw2_9, .inl (cy 0, 16, .inl (w2_9))), (an2_9, .inl (cy 0, 16, .inl (nw2_9)))] H locs := hW
  refine lv_aload_n hx hb dX1_closeBlock_24 rfl (lv_at hl 0 rfl) ?_
  refine lv_dup hx hb dX1_closeBlock_25 rfl ?_
  refine va_get (D := D) (ci := 1) (v := .int (nI (bk))) (C := RX1) (T := TX1) (N := 13) hx hb hts i_X1_closeBlock_X1 hown hK hW.1 0 rfl rfl 11 (by decide) (hts (.fieldLink RX1 64 "TreeHashes$Hasher" "blocks" "I") f_X1_closeBlock_3) (fun _ h9 => h9) rfl dX1_closeBlock_26 ?_
  refine lv_iconst (v := nI (1)) hx hb dX1_closeBlock_29 (by decide) ?_
  refine lv_iadd hx hb dX1_closeBlock_30 ?_
  refine tI (nI_add _ _) ?_
  refine va_put (D := D) (ci := 1) (v := .int (nI (bk + 1))) (ty := .int) (C := RX1) (T := TX1) (N := 13) hx hb hts i_X1_closeBlock_X1 tyX1 tyX1_ok nmX1 hown hK hW.1 hW.2.1 hW.2.2 0 rfl rfl 11 (by decide) (hts (.fieldLink RX1 64 "TreeHashes$Hasher" "blocks" "I") f_X1_closeBlock_3) (fun _ h9 => h9) rfl (by decide +kernel) rfl rfl (Nat.le_of_ble_eq_true rfl) dX1_closeBlock_31 (fun H locs hP hD hS => ?_)
  have hW : Wd D A s [(h0, .inr (1, [.ref m0, .ref qk, .ref qs, .ref qc, .ref qb, .int (md), .int (bs), .int (nI (fc)), .int (nI (tk)), .int (nI (cl)), .int (nI (dp)), .int (nI (bk + 1)), .int (nI (ib))])), (qc, .inl (cy 0, 8, .inl (mixV cf bf (lN (fc + cl)) (nI (ib)) ((bs + (nI (fst0 bk))) + (nI (0)))))), (qb, .inl (cy 0, 16, .inl (bf))), (m0, .inr (2, [.ref mc, .ref mb, .long ((lN (fc + cl))), .int ((nI (ib))), .int (((bs + (nI (fst0 bk))) + (nI (0)))), .ref mv, .ref aw2_9, .ref an2_9])), (mc, .inl (cy 0, 8, .inl (cf))), (mb, .inl (cy 0, 16, .inl (bf))), (mv, .inl (cy 0, 16, .inl ((mixV cf bf (lN (fc + cl)) (nI (ib)) ((bs + (nI (fst0 bk))) + (nI (0))))))), (aw2_9, .inl (cy 0, 16, .inl (w2_9))), (an2_9, .inl (cy 0, 16, .inl (nw2_9)))] H locs := ⟨hP, hD, hS⟩
  refine lv_aload_n hx hb dX1_closeBlock_34 rfl (lv_at hl 0 rfl) ?_
  refine kVv (As := []) (rest := []) S0 hK hst hA hW [0, 2] (fun sz => c_X1_startBlock l D cy t m0 h0 qk qs qc qb md bs fc tk cl dp (bk + 1) ib bf  sz) rfl (by decide) (cwV 0 hts gX1_closeBlock_X1_startBlock rfl rfl rfl (by decide +kernel) ⟨Nat.le_of_ble_eq_true rfl, Nat.le_of_ble_eq_true rfl⟩) (fun _ => rfl) 0 1 rfl rfl rfl hl.1 rfl (Nat.le_of_ble_eq_true rfl) dX1_closeBlock_35 ⟨Nat.le_of_ble_eq_true rfl, Nat.le_of_ble_eq_true rfl⟩ (fun u35 H locs p35 hW => ?_)
  have hW : Wd D A s [(h0, .inr (1, [.ref m0, .ref qk, .ref qs, .ref qc, .ref qb, .int (md), .int (bs), .int (nI (fc)), .int (nI (tk)), .int (nI (cl)), .int (nI (dp)), .int (nI ((bk + 1))), .int (nI (0))])), (qc, .inl (cy 0, 8, .inl (mixV cf bf (lN (fc + cl)) (nI (ib)) ((bs + (nI (fst0 bk))) + (nI (0)))))), (qb, .inl (cy 0, 16, .inl ((fun _ => nI (0))))), (m0, .inr (2, [.ref mc, .ref mb, .long ((lN (fc + cl))), .int ((nI (ib))), .int (((bs + (nI (fst0 bk))) + (nI (0)))), .ref mv, .ref aw2_9, .ref an2_9])), (mc, .inl (cy 0, 8, .inl (cf))), (mb, .inl (cy 0, 16, .inl (bf))), (mv, .inl (cy 0, 16, .inl ((mixV cf bf (lN (fc + cl)) (nI (ib)) ((bs + (nI (fst0 bk))) + (nI (0))))))), (aw2_9, .inl (cy 0, 16, .inl (w2_9))), (an2_9, .inl (cy 0, 16, .inl (nw2_9)))] H locs := hW
  exact eV hQ hx hb hr hlocks hK hW (aw2_9, an2_9, w2_9, nw2_9) (trivial) (rfl) dX1_closeBlock_38

theorem f_X1_closeChunk_0 : Cond.fieldLink RX1 14 "TreeHashes$Hasher" "mix" "LTreeHashes$Mix;" ∈ wsX1_closeChunk := by decide +kernel
theorem i_X1_closeChunk_X1 : ∀ w ∈ wsX10, w ∈ wsX1_closeChunk := by decide +kernel
theorem f_X1_closeChunk_2 : Cond.fieldLink RX1 55 "TreeHashes$Hasher" "closed" "I" ∈ wsX1_closeChunk := by decide +kernel
theorem f_X1_closeChunk_3 : Cond.fieldLink RX1 58 "TreeHashes$Hasher" "depth" "I" ∈ wsX1_closeChunk := by decide +kernel
theorem f_X1_closeChunk_4 : Cond.fieldLink RX1 22 "TreeHashes$Hasher" "stack" "[I" ∈ wsX1_closeChunk := by decide +kernel
theorem f_X1_closeChunk_5 : Cond.fieldLink RX1 18 "TreeHashes$Hasher" "key" "[I" ∈ wsX1_closeChunk := by decide +kernel
theorem f_X1_closeChunk_6 : Cond.fieldLink RX1 46 "TreeHashes$Hasher" "base" "I" ∈ wsX1_closeChunk := by decide +kernel
set_option maxHeartbeats 4000000 in
set_option maxRecDepth 100000 in
theorem c_X1_closeChunk (l : Launch) (D : va_G) (cy : Nat → ClassId) (t : Nat × Nat) (m0 : Nat) (mc : Nat) (mb : Nat) (mv : Nat) (aw : Nat) (an : Nat) (ct : Int64) (ln : Int32) (fl : Int32) (h0 : Nat) (qk : Nat) (qs : Nat) (qc : Nat) (qb : Nat) (md : Int32) (bs : Int32) (fc : Nat) (tk : Nat) (cl : Nat) (dp : Nat) (bk : Nat) (ib : Nat) (ch : Nat → Int32) (bl : Nat → Int32) (v : Nat → Int32) (w : Nat → Int32) (nw : Nat → Int32) (kf : Nat → Int32) (sf : Nat → Int32) (cf : Nat → Int32) (bf : Nat → Int32) (SS : Nat → Nat → Int32) (hfc : fc + cl < 2 ^ 31) (hb1 : bk < 2 ^ 31) (h40 : cl + 1 < 40) (hd0 : dp = pcn cl) (hSk : SKr sf SS dp) (sz : Nat) : Met l yX1_closeChunk wsX1_closeChunk ({ frames := 2, cells := 0, slots := 0, locals := 52 }) (PcW D cy t [(h0, .inr (1, [.ref m0, .ref qk, .ref qs, .ref qc, .ref qb, .int (md), .int (bs), .int (nI (fc)), .int (nI (tk)), .int (nI (cl)), .int (nI (dp)), .int (nI (bk)), .int (nI (ib))])), (qk, .inl (cy 0, 8, .inl (kf))), (qs, .inl (cy 0, 40, .inl (sf))), (qc, .inl (cy 0, 8, .inl (cf))), (qb, .inl (cy 0, 16, .inl (bf))), (m0, .inr (2, [.ref mc, .ref mb, .long (ct), .int (ln), .int (fl), .ref mv, .ref aw, .ref an])), (mc, .inl (cy 0, 8, .inl (ch))), (mb, .inl (cy 0, 16, .inl (bl))), (mv, .inl (cy 0, 16, .inl (v))), (aw, .inl (cy 0, 16, .inl (w))), (an, .inl (cy 0, 16, .inl (nw)))] [.ref h0] sz) (QvA D cy (fun u : (Nat → Int32) × (Nat → Int32) × (Nat → Int32) × (Int64) × (Int32) × (Int32) × (Nat → Int32) × (Nat) × (Nat) × (Nat → Int32) × (Nat → Int32) => match u with | (sf2, ch2, bl2, ct2, ln2, fl2, v2, aw2, an2, w2, nw2) => (SKr sf2 (fun i => if i = (mg kf bs SS dp (cl + 1) (mixV cf bf (lN (fc + cl)) (nI (ib)) ((bs + (nI (fst0 bk))) + (nI (2))))).1 then (mg kf bs SS dp (cl + 1) (mixV cf bf (lN (fc + cl)) (nI (ib)) ((bs + (nI (fst0 bk))) + (nI (2))))).2 else SS i) ((mg kf bs SS dp (cl + 1) (mixV cf bf (lN (fc + cl)) (nI (ib)) ((bs + (nI (fst0 bk))) + (nI (2))))).1 + 1))) (fun u : (Nat → Int32) × (Nat → Int32) × (Nat → Int32) × (Int64) × (Int32) × (Int32) × (Nat → Int32) × (Nat) × (Nat) × (Nat → Int32) × (Nat → Int32) => match u with | (sf2, ch2, bl2, ct2, ln2, fl2, v2, aw2, an2, w2, nw2) => [(h0, .inr (1, [.ref m0, .ref qk, .ref qs, .ref qc, .ref qb, .int (md), .int (bs), .int (nI (fc)), .int (nI (tk)), .int (nI (cl + 1)), .int (nI ((mg kf bs SS dp (cl + 1) (mixV cf bf (lN (fc + cl)) (nI (ib)) ((bs + (nI (fst0 bk))) + (nI (2))))).1 + 1)), .int (nI (0)), .int (nI (0))])), (qk, .inl (cy 0, 8, .inl (kf))), (qs, .inl (cy 0, 40, .inl (sf2))), (qc, .inl (cy 0, 8, .inl (kf))), (qb, .inl (cy 0, 16, .inl ((fun _ => nI (0))))), (m0, .inr (2, [.ref mc, .ref mb, .long (ct2), .int (ln2), .int (fl2), .ref mv, .ref aw2, .ref an2])), (mc, .inl (cy 0, 8, .inl (ch2))), (mb, .inl (cy 0, 16, .inl (bl2))), (mv, .inl (cy 0, 16, .inl (v2))), (aw2, .inl (cy 0, 16, .inl (w2))), (an2, .inl (cy 0, 16, .inl (nw2)))]) (va_A [(h0, .inr (1, [.ref m0, .ref qk, .ref qs, .ref qc, .ref qb, .int (md), .int (bs), .int (nI (fc)), .int (nI (tk)), .int (nI (cl)), .int (nI (dp)), .int (nI (bk)), .int (nI (ib))])), (qk, .inl (cy 0, 8, .inl (kf))), (qs, .inl (cy 0, 40, .inl (sf))), (qc, .inl (cy 0, 8, .inl (cf))), (qb, .inl (cy 0, 16, .inl (bf))), (m0, .inr (2, [.ref mc, .ref mb, .long (ct), .int (ln), .int (fl), .ref mv, .ref aw, .ref an])), (mc, .inl (cy 0, 8, .inl (ch))), (mb, .inl (cy 0, 16, .inl (bl))), (mv, .inl (cy 0, 16, .inl (v))), (aw, .inl (cy 0, 16, .inl (w))), (an, .inl (cy 0, 16, .inl (nw)))] sz)) 0 0 (va_A [(h0, .inr (1, [.ref m0, .ref qk, .ref qs, .ref qc, .ref qb, .int (md), .int (bs), .int (nI (fc)), .int (nI (tk)), .int (nI (cl)), .int (nI (dp)), .int (nI (bk)), .int (nI (ib))])), (qk, .inl (cy 0, 8, .inl (kf))), (qs, .inl (cy 0, 40, .inl (sf))), (qc, .inl (cy 0, 8, .inl (cf))), (qb, .inl (cy 0, 16, .inl (bf))), (m0, .inr (2, [.ref mc, .ref mb, .long (ct), .int (ln), .int (fl), .ref mv, .ref aw, .ref an])), (mc, .inl (cy 0, 8, .inl (ch))), (mb, .inl (cy 0, 16, .inl (bl))), (mv, .inl (cy 0, 16, .inl (v))), (aw, .inl (cy 0, 16, .inl (w))), (an, .inl (cy 0, 16, .inl (nw)))] sz) := by
  refine M_ofW (cc := cX1_closeChunk) (maxL := 2) (ret := none) (by decide) rfl (Nat.le_of_ble_eq_true rfl) ?_
  intro p e s m below meth c A ls args Q hQ S0 hr hlocks hnm hK hst hA hW hl
  have hx := S0.1; have hb := S0.2.1; have hml := S0.2.2.1; have hown := S0.2.2.2.1; have hts := S0.2.2.2.2
  have hl : lv_has ls 2 [(0, .ref h0)] := hl
  have hp5 : dp ≤ 5 := by rw [hd0]; exact pcn_40 _ (by omega)
  refine lv_aload_n hx hb dX1_closeChunk_0 rfl (lv_at hl 0 rfl) ?_
  refine lv_iconst (v := nI (2)) hx hb dX1_closeChunk_1 (by decide) ?_
  refine kVv (As := [.int (nI (2))]) (rest := []) S0 hK hst hA hW [0, 3, 4, 5, 6, 7] (fun sz => c_X1_prepareBlock l D cy t m0 mc mb mv aw an ct ln fl h0 qk qs qc qb md bs fc tk cl dp bk ib ch bl cf bf (nI (2)) (by omega) (by omega) sz) rfl (by decide) (cwV 1 hts gX1_closeChunk_X1_prepareBlock rfl rfl rfl (by decide +kernel) ⟨Nat.le_of_ble_eq_true rfl, Nat.le_of_ble_eq_true rfl⟩) (fun _ => rfl) 0 1 rfl rfl rfl hl.1 rfl (Nat.le_of_ble_eq_true rfl) dX1_closeChunk_2 ⟨Nat.le_of_ble_eq_true rfl, Nat.le_of_ble_eq_true rfl⟩ (fun u2 H locs p2 hW => ?_)
  have hW : Wd D A s [(h0, .inr (1, [.ref m0, .ref qk, .ref qs, .ref qc, .ref qb, .int (md), .int (bs), .int (nI (fc)), .int (nI (tk)), .int (nI (cl)), .int (nI (dp)), .int (nI (bk)), .int (nI (ib))])), (qk, .inl (cy 0, 8, .inl (kf))), (qs, .inl (cy 0, 40, .inl (sf))), (qc, .inl (cy 0, 8, .inl (cf))), (qb, .inl (cy 0, 16, .inl (bf))), (m0, .inr (2, [.ref mc, .ref mb, .long (lN (fc + cl)), .int (nI (ib)), .int ((bs + (nI (fst0 bk))) + (nI (2))), .ref mv, .ref aw, .ref an])), (mc, .inl (cy 0, 8, .inl (cf))), (mb, .inl (cy 0, 16, .inl (bf))), (mv, .inl (cy 0, 16, .inl (v))), (aw, .inl (cy 0, 16, .inl (w))), (an, .inl (cy 0, 16, .inl (nw)))] H locs := hW
  refine lv_aload_n hx hb dX1_closeChunk_5 rfl (lv_at hl 0 rfl) ?_
  refine va_get (D := D) (ci := 1) (v := .ref m0) (C := RX1) (T := TX1) (N := 13) hx hb hts i_X1_closeChunk_X1 hown hK hW.1 0 rfl rfl 0 (by decide) (hts (.fieldLink RX1 14 "TreeHashes$Hasher" "mix" "LTreeHashes$Mix;") f_X1_closeChunk_0) (fun _ h9 => h9) rfl dX1_closeChunk_6 ?_
  refine kVv (As := []) (rest := []) S0 hK hst hA hW [5, 6, 7, 8, 9, 10] (fun sz => c_X2_run l D cy t m0 mc mb mv aw an (lN (fc + cl)) (nI (ib)) ((bs + (nI (fst0 bk))) + (nI (2))) cf bf v w nw  sz) rfl (by decide) (cwV 0 hts gX1_closeChunk_X2_run rfl rfl rfl (by decide +kernel) ⟨Nat.le_of_ble_eq_true rfl, Nat.le_of_ble_eq_true rfl⟩) (fun ⟨_, _, _, _⟩ => rfl) 0 2 rfl rfl rfl hl.1 rfl (Nat.le_of_ble_eq_true rfl) dX1_closeChunk_9 ⟨Nat.le_of_ble_eq_true rfl, Nat.le_of_ble_eq_true rfl⟩ (fun u9 H locs p9 hW => ?_)
  obtain ⟨aw2_9, an2_9, w2_9, nw2_9⟩ := u9
  have hW : Wd D A s [(h0, .inr (1, [.ref m0, .ref qk, .ref qs, .ref qc, .ref qb, .int (md), .int (bs), .int (nI (fc)), .int (nI (tk)), .int (nI (cl)), .int (nI (dp)), .int (nI (bk)), .int (nI (ib))])), (qk, .inl (cy 0, 8, .inl (kf))), (qs, .inl (cy 0, 40, .inl (sf))), (qc, .inl (cy 0, 8, .inl (cf))), (qb, .inl (cy 0, 16, .inl (bf))), (m0, .inr (2, [.ref mc, .ref mb, .long ((lN (fc + cl))), .int ((nI (ib))), .int (((bs + (nI (fst0 bk))) + (nI (2)))), .ref mv, .ref aw2_9, .ref an2_9])), (mc, .inl (cy 0, 8, .inl (cf))), (mb, .inl (cy 0, 16, .inl (bf))), (mv, .inl (cy 0, 16, .inl (mixV cf bf (lN (fc + cl)) (nI (ib)) ((bs + (nI (fst0 bk))) + (nI (2)))))), (aw2_9, .inl (cy 0, 16, .inl (w2_9))), (an2_9, .inl (cy 0, 16, .inl (nw2_9)))] H locs := hW
  refine lv_aload_n hx hb dX1_closeChunk_12 rfl (lv_at hl 0 rfl) ?_
  refine lv_dup hx hb dX1_closeChunk_13 rfl ?_
  refine va_get (D := D) (ci := 1) (v := .int (nI (cl))) (C := RX1) (T := TX1) (N := 13) hx hb hts i_X1_closeChunk_X1 hown hK hW.1 0 rfl rfl 9 (by decide) (hts (.fieldLink RX1 55 "TreeHashes$Hasher" "closed" "I") f_X1_closeChunk_2) (fun _ h9 => h9) rfl dX1_closeChunk_14 ?_
  refine lv_iconst (v := nI (1)) hx hb dX1_closeChunk_17 (by decide) ?_
  refine lv_iadd hx hb dX1_closeChunk_18 ?_
  refine tI (nI_add _ _) ?_
  refine va_put (D := D) (ci := 1) (v := .int (nI (cl + 1))) (ty := .int) (C := RX1) (T := TX1) (N := 13) hx hb hts i_X1_closeChunk_X1 tyX1 tyX1_ok nmX1 hown hK hW.1 hW.2.1 hW.2.2 0 rfl rfl 9 (by decide) (hts (.fieldLink RX1 55 "TreeHashes$Hasher" "closed" "I") f_X1_closeChunk_2) (fun _ h9 => h9) rfl (by decide +kernel) rfl rfl (Nat.le_of_ble_eq_true rfl) dX1_closeChunk_19 (fun H locs hP hD hS => ?_)
  have hW : Wd D A s [(h0, .inr (1, [.ref m0, .ref qk, .ref qs, .ref qc, .ref qb, .int (md), .int (bs), .int (nI (fc)), .int (nI (tk)), .int (nI (cl + 1)), .int (nI (dp)), .int (nI (bk)), .int (nI (ib))])), (qk, .inl (cy 0, 8, .inl (kf))), (qs, .inl (cy 0, 40, .inl (sf))), (qc, .inl (cy 0, 8, .inl (cf))), (qb, .inl (cy 0, 16, .inl (bf))), (m0, .inr (2, [.ref mc, .ref mb, .long ((lN (fc + cl))), .int ((nI (ib))), .int (((bs + (nI (fst0 bk))) + (nI (2)))), .ref mv, .ref aw2_9, .ref an2_9])), (mc, .inl (cy 0, 8, .inl (cf))), (mb, .inl (cy 0, 16, .inl (bf))), (mv, .inl (cy 0, 16, .inl (mixV cf bf (lN (fc + cl)) (nI (ib)) ((bs + (nI (fst0 bk))) + (nI (2)))))), (aw2_9, .inl (cy 0, 16, .inl (w2_9))), (an2_9, .inl (cy 0, 16, .inl (nw2_9)))] H locs := ⟨hP, hD, hS⟩
  refine lv_aload_n hx hb dX1_closeChunk_22 rfl (lv_at hl 0 rfl) ?_
  refine va_get (D := D) (ci := 1) (v := .int (nI (cl + 1))) (C := RX1) (T := TX1) (N := 13) hx hb hts i_X1_closeChunk_X1 hown hK hW.1 0 rfl rfl 9 (by decide) (hts (.fieldLink RX1 55 "TreeHashes$Hasher" "closed" "I") f_X1_closeChunk_2) (fun _ h9 => h9) rfl dX1_closeChunk_23 ?_
  refine lv_istore_n (lv' := [(1, .int (nI (cl + 1))), (0, .ref h0)]) hx hb dX1_closeChunk_26 rfl hl (by decide) rfl (fun ls hl => ?_)
  have loop27 : ∀ (nF : Nat) (d : Nat) (tr : Nat) (chx : Nat → Int32) (blx : Nat → Int32) (cx : Int64) (lx : Int32) (fx : Int32) (vx : Nat → Int32) (ax : Nat) (ay : Nat) (wx : Nat → Int32) (nx : Nat → Int32), tr < nF → (d = pcn (tr - 1)) → (0 < tr) → (tr ≤ cl + 1) → (d ≤ dp) → (mg kf bs SS d tr vx = (mg kf bs SS dp (cl + 1) (mixV cf bf (lN (fc + cl)) (nI (ib)) ((bs + (nI (fst0 bk))) + (nI (2)))))) → ∀ (H : Heap) (locs : List Loc), Wd D A s [(h0, .inr (1, [.ref m0, .ref qk, .ref qs, .ref qc, .ref qb, .int (md), .int (bs), .int (nI (fc)), .int (nI (tk)), .int (nI (cl + 1)), .int (nI (d)), .int (nI (bk)), .int (nI (ib))])), (qk, .inl (cy 0, 8, .inl (kf))), (qs, .inl (cy 0, 40, .inl (sf))), (qc, .inl (cy 0, 8, .inl (cf))), (qb, .inl (cy 0, 16, .inl (bf))), (m0, .inr (2, [.ref mc, .ref mb, .long (cx), .int (lx), .int (fx), .ref mv, .ref ax, .ref ay])), (mc, .inl (cy 0, 8, .inl (chx))), (mb, .inl (cy 0, 16, .inl (blx))), (mv, .inl (cy 0, 16, .inl (vx))), (ax, .inl (cy 0, 16, .inl (wx))), (ay, .inl (cy 0, 16, .inl (nx)))] H locs → ∀ ls : Array Slot, lv_has ls 2 [(0, .ref h0), (1, .int (nI (tr)))] → W p l e ({ frames := 2, cells := 0, slots := 0, locals := 52 }) s m args below meth c H locs 0 0 Q (F0 m 27 ls []) := by
    intro nF
    induction nF with
    | zero => intro d tr chx blx cx lx fx vx ax ay wx nx hf; exact absurd hf (Nat.not_lt_zero _)
    | succ nF ih27 =>
      intro d tr chx blx cx lx fx vx ax ay wx nx hf hd2 ht0 ht1 hle hR H locs hW ls hl
      refine lv_aload_n hx hb dX1_closeChunk_27 rfl (lv_at hl 0 rfl) ?_
      refine va_get (D := D) (ci := 1) (v := .int (nI (d))) (C := RX1) (T := TX1) (N := 13) hx hb hts i_X1_closeChunk_X1 hown hK hW.1 0 rfl rfl 10 (by decide) (hts (.fieldLink RX1 58 "TreeHashes$Hasher" "depth" "I") f_X1_closeChunk_3) (fun _ h9 => h9) rfl dX1_closeChunk_28 ?_
      refine zLe (a := d) (tgt := 90) hx hb dX1_closeChunk_31 (by decide) (by omega) (fun h31 => ?_) (fun h31 => ?_)
      · skip
        have hRd : (mg kf bs SS dp (cl + 1) (mixV cf bf (lN (fc + cl)) (nI (ib)) ((bs + (nI (fst0 bk))) + (nI (2))))) = (d, vx) := by rw [← hR]; exact mg_o (by have := pcn_pos (n := tr - 1) (by omega) (by omega); omega)
        have hd5 : d + 1 ≤ 5 := by have q := mg_pc (K := kf) (bs := bs) (S := SS) (cl + 1) dp (mixV cf bf (lN (fc + cl)) (nI (ib)) ((bs + (nI (fst0 bk))) + (nI (2)))) hd0 (by omega) (by omega); rw [hRd] at q; have := pcn_40 (cl + 1) h40; omega
        refine lv_aload_n hx hb dX1_closeChunk_90 rfl (lv_at hl 0 rfl) ?_
        refine va_get (D := D) (ci := 1) (v := .int (nI (d))) (C := RX1) (T := TX1) (N := 13) hx hb hts i_X1_closeChunk_X1 hown hK hW.1 0 rfl rfl 10 (by decide) (hts (.fieldLink RX1 58 "TreeHashes$Hasher" "depth" "I") f_X1_closeChunk_3) (fun _ h9 => h9) rfl dX1_closeChunk_91 ?_
        refine lv_iconst (v := nI (5)) hx hb dX1_closeChunk_94 (by decide) ?_
        refine iGe (a := d) (b := 5) (tgt := 126) hx hb dX1_closeChunk_95 (by decide) (by omega) (by omega) (fun h95 => ?_) (fun h95 => ?_)
        · skip
          exfalso; omega
        · skip
          refine lv_aload_n hx hb dX1_closeChunk_98 rfl (lv_at hl 0 rfl) ?_
          refine va_get (D := D) (ci := 1) (v := .ref m0) (C := RX1) (T := TX1) (N := 13) hx hb hts i_X1_closeChunk_X1 hown hK hW.1 0 rfl rfl 0 (by decide) (hts (.fieldLink RX1 14 "TreeHashes$Hasher" "mix" "LTreeHashes$Mix;") f_X1_closeChunk_0) (fun _ h9 => h9) rfl dX1_closeChunk_99 ?_
          refine lv_aload_n hx hb dX1_closeChunk_102 rfl (lv_at hl 0 rfl) ?_
          refine va_get (D := D) (ci := 1) (v := .ref qs) (C := RX1) (T := TX1) (N := 13) hx hb hts i_X1_closeChunk_X1 hown hK hW.1 0 rfl rfl 2 (by decide) (hts (.fieldLink RX1 22 "TreeHashes$Hasher" "stack" "[I") f_X1_closeChunk_4) (fun _ h9 => h9) rfl dX1_closeChunk_103 ?_
          refine lv_aload_n hx hb dX1_closeChunk_106 rfl (lv_at hl 0 rfl) ?_
          refine va_get (D := D) (ci := 1) (v := .int (nI (d))) (C := RX1) (T := TX1) (N := 13) hx hb hts i_X1_closeChunk_X1 hown hK hW.1 0 rfl rfl 10 (by decide) (hts (.fieldLink RX1 58 "TreeHashes$Hasher" "depth" "I") f_X1_closeChunk_3) (fun _ h9 => h9) rfl dX1_closeChunk_107 ?_
          refine lv_bipush (v := nI (8)) hx hb dX1_closeChunk_110 (by decide) ?_
          refine lv_imul hx hb dX1_closeChunk_112 ?_
          refine tI (pk_mul _ _) ?_
          refine kVv (As := [.ref qs, .int (nI (d * 8))]) (rest := []) S0 hK hst hA hW [5, 8, 2] (fun sz => c_X2_writeChain l D cy t m0 mc mb mv ax ay cx lx fx vx qs 40 sf (d * 8) (by omega) (by omega) sz) rfl (by decide) (cwV 2 hts gX1_closeChunk_X2_writeChain rfl rfl rfl (by decide +kernel) ⟨Nat.le_of_ble_eq_true rfl, Nat.le_of_ble_eq_true rfl⟩) (fun _ => rfl) 0 2 rfl rfl rfl hl.1 rfl (Nat.le_of_ble_eq_true rfl) dX1_closeChunk_113 ⟨Nat.le_of_ble_eq_true rfl, Nat.le_of_ble_eq_true rfl⟩ (fun u113 H locs p113 hW => ?_)
          have hW : Wd D A s [(h0, .inr (1, [.ref m0, .ref qk, .ref qs, .ref qc, .ref qb, .int (md), .int (bs), .int (nI (fc)), .int (nI (tk)), .int (nI (cl + 1)), .int (nI (d)), .int (nI (bk)), .int (nI (ib))])), (qk, .inl (cy 0, 8, .inl (kf))), (qs, .inl (cy 0, 40, .inl (apG sf (d * 8) vx 8))), (qc, .inl (cy 0, 8, .inl (cf))), (qb, .inl (cy 0, 16, .inl (bf))), (m0, .inr (2, [.ref mc, .ref mb, .long (cx), .int (lx), .int (fx), .ref mv, .ref ax, .ref ay])), (mc, .inl (cy 0, 8, .inl (chx))), (mb, .inl (cy 0, 16, .inl (blx))), (mv, .inl (cy 0, 16, .inl (vx))), (ax, .inl (cy 0, 16, .inl (wx))), (ay, .inl (cy 0, 16, .inl (nx)))] H locs := hW
          refine lv_aload_n hx hb dX1_closeChunk_116 rfl (lv_at hl 0 rfl) ?_
          refine lv_dup hx hb dX1_closeChunk_117 rfl ?_
          refine va_get (D := D) (ci := 1) (v := .int (nI (d))) (C := RX1) (T := TX1) (N := 13) hx hb hts i_X1_closeChunk_X1 hown hK hW.1 0 rfl rfl 10 (by decide) (hts (.fieldLink RX1 58 "TreeHashes$Hasher" "depth" "I") f_X1_closeChunk_3) (fun _ h9 => h9) rfl dX1_closeChunk_118 ?_
          refine lv_iconst (v := nI (1)) hx hb dX1_closeChunk_121 (by decide) ?_
          refine lv_iadd hx hb dX1_closeChunk_122 ?_
          refine tI (nI_add _ _) ?_
          refine va_put (D := D) (ci := 1) (v := .int (nI (d + 1))) (ty := .int) (C := RX1) (T := TX1) (N := 13) hx hb hts i_X1_closeChunk_X1 tyX1 tyX1_ok nmX1 hown hK hW.1 hW.2.1 hW.2.2 0 rfl rfl 10 (by decide) (hts (.fieldLink RX1 58 "TreeHashes$Hasher" "depth" "I") f_X1_closeChunk_3) (fun _ h9 => h9) rfl (by decide +kernel) rfl rfl (Nat.le_of_ble_eq_true rfl) dX1_closeChunk_123 (fun H locs hP hD hS => ?_)
          have hW : Wd D A s [(h0, .inr (1, [.ref m0, .ref qk, .ref qs, .ref qc, .ref qb, .int (md), .int (bs), .int (nI (fc)), .int (nI (tk)), .int (nI (cl + 1)), .int (nI (d + 1)), .int (nI (bk)), .int (nI (ib))])), (qk, .inl (cy 0, 8, .inl (kf))), (qs, .inl (cy 0, 40, .inl (apG sf (d * 8) vx 8))), (qc, .inl (cy 0, 8, .inl (cf))), (qb, .inl (cy 0, 16, .inl (bf))), (m0, .inr (2, [.ref mc, .ref mb, .long (cx), .int (lx), .int (fx), .ref mv, .ref ax, .ref ay])), (mc, .inl (cy 0, 8, .inl (chx))), (mb, .inl (cy 0, 16, .inl (blx))), (mv, .inl (cy 0, 16, .inl (vx))), (ax, .inl (cy 0, 16, .inl (wx))), (ay, .inl (cy 0, 16, .inl (nx)))] H locs := ⟨hP, hD, hS⟩
          refine lv_aload_n hx hb dX1_closeChunk_126 rfl (lv_at hl 0 rfl) ?_
          refine kVv (As := []) (rest := []) S0 hK hst hA hW [0, 1, 3, 4] (fun sz => c_X1_startChunk l D cy t m0 h0 qk qs qc qb md bs fc tk (cl + 1) (d + 1) bk ib kf cf bf  sz) rfl (by decide) (cwV 0 hts gX1_closeChunk_X1_startChunk rfl rfl rfl (by decide +kernel) ⟨Nat.le_of_ble_eq_true rfl, Nat.le_of_ble_eq_true rfl⟩) (fun _ => rfl) 0 1 rfl rfl rfl hl.1 rfl (Nat.le_of_ble_eq_true rfl) dX1_closeChunk_127 ⟨Nat.le_of_ble_eq_true rfl, Nat.le_of_ble_eq_true rfl⟩ (fun u127 H locs p127 hW => ?_)
          have hW : Wd D A s [(h0, .inr (1, [.ref m0, .ref qk, .ref qs, .ref qc, .ref qb, .int (md), .int (bs), .int (nI (fc)), .int (nI (tk)), .int (nI ((cl + 1))), .int (nI ((d + 1))), .int (nI (0)), .int (nI (0))])), (qk, .inl (cy 0, 8, .inl (kf))), (qs, .inl (cy 0, 40, .inl (apG sf (d * 8) vx 8))), (qc, .inl (cy 0, 8, .inl (kf))), (qb, .inl (cy 0, 16, .inl ((fun _ => nI (0))))), (m0, .inr (2, [.ref mc, .ref mb, .long (cx), .int (lx), .int (fx), .ref mv, .ref ax, .ref ay])), (mc, .inl (cy 0, 8, .inl (chx))), (mb, .inl (cy 0, 16, .inl (blx))), (mv, .inl (cy 0, 16, .inl (vx))), (ax, .inl (cy 0, 16, .inl (wx))), (ay, .inl (cy 0, 16, .inl (nx)))] H locs := hW
          exact eV hQ hx hb hr hlocks hK hW (apG sf (d * 8) vx 8, chx, blx, cx, lx, fx, vx, ax, ay, wx, nx) (by rw [hRd]; exact SKr_push hSk hle) (by simp only [hRd]) dX1_closeChunk_130
      · skip
        refine lv_iload_n hx hb dX1_closeChunk_34 rfl (lv_at hl 1 rfl) ?_
        refine lv_iconst (v := nI (1)) hx hb dX1_closeChunk_35 (by decide) ?_
        refine lv_iand hx hb dX1_closeChunk_36 ?_
        refine tI (x' := nI (tr % 2)) (pk_andN (by omega) 1 (by decide)) ?_
        refine zNe (a := tr % 2) (tgt := 90) hx hb dX1_closeChunk_37 (by decide) (by omega) (fun h37 => ?_) (fun h37 => ?_)
        · skip
          have hRd : (mg kf bs SS dp (cl + 1) (mixV cf bf (lN (fc + cl)) (nI (ib)) ((bs + (nI (fst0 bk))) + (nI (2))))) = (d, vx) := by rw [← hR]; exact mg_o h37
          have hd5 : d + 1 ≤ 5 := by have q := mg_pc (K := kf) (bs := bs) (S := SS) (cl + 1) dp (mixV cf bf (lN (fc + cl)) (nI (ib)) ((bs + (nI (fst0 bk))) + (nI (2)))) hd0 (by omega) (by omega); rw [hRd] at q; have := pcn_40 (cl + 1) h40; omega
          refine lv_aload_n hx hb dX1_closeChunk_90 rfl (lv_at hl 0 rfl) ?_
          refine va_get (D := D) (ci := 1) (v := .int (nI (d))) (C := RX1) (T := TX1) (N := 13) hx hb hts i_X1_closeChunk_X1 hown hK hW.1 0 rfl rfl 10 (by decide) (hts (.fieldLink RX1 58 "TreeHashes$Hasher" "depth" "I") f_X1_closeChunk_3) (fun _ h9 => h9) rfl dX1_closeChunk_91 ?_
          refine lv_iconst (v := nI (5)) hx hb dX1_closeChunk_94 (by decide) ?_
          refine iGe (a := d) (b := 5) (tgt := 126) hx hb dX1_closeChunk_95 (by decide) (by omega) (by omega) (fun h95 => ?_) (fun h95 => ?_)
          · skip
            exfalso; omega
          · skip
            refine lv_aload_n hx hb dX1_closeChunk_98 rfl (lv_at hl 0 rfl) ?_
            refine va_get (D := D) (ci := 1) (v := .ref m0) (C := RX1) (T := TX1) (N := 13) hx hb hts i_X1_closeChunk_X1 hown hK hW.1 0 rfl rfl 0 (by decide) (hts (.fieldLink RX1 14 "TreeHashes$Hasher" "mix" "LTreeHashes$Mix;") f_X1_closeChunk_0) (fun _ h9 => h9) rfl dX1_closeChunk_99 ?_
            refine lv_aload_n hx hb dX1_closeChunk_102 rfl (lv_at hl 0 rfl) ?_
            refine va_get (D := D) (ci := 1) (v := .ref qs) (C := RX1) (T := TX1) (N := 13) hx hb hts i_X1_closeChunk_X1 hown hK hW.1 0 rfl rfl 2 (by decide) (hts (.fieldLink RX1 22 "TreeHashes$Hasher" "stack" "[I") f_X1_closeChunk_4) (fun _ h9 => h9) rfl dX1_closeChunk_103 ?_
            refine lv_aload_n hx hb dX1_closeChunk_106 rfl (lv_at hl 0 rfl) ?_
            refine va_get (D := D) (ci := 1) (v := .int (nI (d))) (C := RX1) (T := TX1) (N := 13) hx hb hts i_X1_closeChunk_X1 hown hK hW.1 0 rfl rfl 10 (by decide) (hts (.fieldLink RX1 58 "TreeHashes$Hasher" "depth" "I") f_X1_closeChunk_3) (fun _ h9 => h9) rfl dX1_closeChunk_107 ?_
            refine lv_bipush (v := nI (8)) hx hb dX1_closeChunk_110 (by decide) ?_
            refine lv_imul hx hb dX1_closeChunk_112 ?_
            refine tI (pk_mul _ _) ?_
            refine kVv (As := [.ref qs, .int (nI (d * 8))]) (rest := []) S0 hK hst hA hW [5, 8, 2] (fun sz => c_X2_writeChain l D cy t m0 mc mb mv ax ay cx lx fx vx qs 40 sf (d * 8) (by omega) (by omega) sz) rfl (by decide) (cwV 2 hts gX1_closeChunk_X2_writeChain rfl rfl rfl (by decide +kernel) ⟨Nat.le_of_ble_eq_true rfl, Nat.le_of_ble_eq_true rfl⟩) (fun _ => rfl) 0 2 rfl rfl rfl hl.1 rfl (Nat.le_of_ble_eq_true rfl) dX1_closeChunk_113 ⟨Nat.le_of_ble_eq_true rfl, Nat.le_of_ble_eq_true rfl⟩ (fun u113 H locs p113 hW => ?_)
            have hW : Wd D A s [(h0, .inr (1, [.ref m0, .ref qk, .ref qs, .ref qc, .ref qb, .int (md), .int (bs), .int (nI (fc)), .int (nI (tk)), .int (nI (cl + 1)), .int (nI (d)), .int (nI (bk)), .int (nI (ib))])), (qk, .inl (cy 0, 8, .inl (kf))), (qs, .inl (cy 0, 40, .inl (apG sf (d * 8) vx 8))), (qc, .inl (cy 0, 8, .inl (cf))), (qb, .inl (cy 0, 16, .inl (bf))), (m0, .inr (2, [.ref mc, .ref mb, .long (cx), .int (lx), .int (fx), .ref mv, .ref ax, .ref ay])), (mc, .inl (cy 0, 8, .inl (chx))), (mb, .inl (cy 0, 16, .inl (blx))), (mv, .inl (cy 0, 16, .inl (vx))), (ax, .inl (cy 0, 16, .inl (wx))), (ay, .inl (cy 0, 16, .inl (nx)))] H locs := hW
            refine lv_aload_n hx hb dX1_closeChunk_116 rfl (lv_at hl 0 rfl) ?_
            refine lv_dup hx hb dX1_closeChunk_117 rfl ?_
            refine va_get (D := D) (ci := 1) (v := .int (nI (d))) (C := RX1) (T := TX1) (N := 13) hx hb hts i_X1_closeChunk_X1 hown hK hW.1 0 rfl rfl 10 (by decide) (hts (.fieldLink RX1 58 "TreeHashes$Hasher" "depth" "I") f_X1_closeChunk_3) (fun _ h9 => h9) rfl dX1_closeChunk_118 ?_
            refine lv_iconst (v := nI (1)) hx hb dX1_closeChunk_121 (by decide) ?_
            refine lv_iadd hx hb dX1_closeChunk_122 ?_
            refine tI (nI_add _ _) ?_
            refine va_put (D := D) (ci := 1) (v := .int (nI (d + 1))) (ty := .int) (C := RX1) (T := TX1) (N := 13) hx hb hts i_X1_closeChunk_X1 tyX1 tyX1_ok nmX1 hown hK hW.1 hW.2.1 hW.2.2 0 rfl rfl 10 (by decide) (hts (.fieldLink RX1 58 "TreeHashes$Hasher" "depth" "I") f_X1_closeChunk_3) (fun _ h9 => h9) rfl (by decide +kernel) rfl rfl (Nat.le_of_ble_eq_true rfl) dX1_closeChunk_123 (fun H locs hP hD hS => ?_)
            have hW : Wd D A s [(h0, .inr (1, [.ref m0, .ref qk, .ref qs, .ref qc, .ref qb, .int (md), .int (bs), .int (nI (fc)), .int (nI (tk)), .int (nI (cl + 1)), .int (nI (d + 1)), .int (nI (bk)), .int (nI (ib))])), (qk, .inl (cy 0, 8, .inl (kf))), (qs, .inl (cy 0, 40, .inl (apG sf (d * 8) vx 8))), (qc, .inl (cy 0, 8, .inl (cf))), (qb, .inl (cy 0, 16, .inl (bf))), (m0, .inr (2, [.ref mc, .ref mb, .long (cx), .int (lx), .int (fx), .ref mv, .ref ax, .ref ay])), (mc, .inl (cy 0, 8, .inl (chx))), (mb, .inl (cy 0, 16, .inl (blx))), (mv, .inl (cy 0, 16, .inl (vx))), (ax, .inl (cy 0, 16, .inl (wx))), (ay, .inl (cy 0, 16, .inl (nx)))] H locs := ⟨hP, hD, hS⟩
            refine lv_aload_n hx hb dX1_closeChunk_126 rfl (lv_at hl 0 rfl) ?_
            refine kVv (As := []) (rest := []) S0 hK hst hA hW [0, 1, 3, 4] (fun sz => c_X1_startChunk l D cy t m0 h0 qk qs qc qb md bs fc tk (cl + 1) (d + 1) bk ib kf cf bf  sz) rfl (by decide) (cwV 0 hts gX1_closeChunk_X1_startChunk rfl rfl rfl (by decide +kernel) ⟨Nat.le_of_ble_eq_true rfl, Nat.le_of_ble_eq_true rfl⟩) (fun _ => rfl) 0 1 rfl rfl rfl hl.1 rfl (Nat.le_of_ble_eq_true rfl) dX1_closeChunk_127 ⟨Nat.le_of_ble_eq_true rfl, Nat.le_of_ble_eq_true rfl⟩ (fun u127 H locs p127 hW => ?_)
            have hW : Wd D A s [(h0, .inr (1, [.ref m0, .ref qk, .ref qs, .ref qc, .ref qb, .int (md), .int (bs), .int (nI (fc)), .int (nI (tk)), .int (nI ((cl + 1))), .int (nI ((d + 1))), .int (nI (0)), .int (nI (0))])), (qk, .inl (cy 0, 8, .inl (kf))), (qs, .inl (cy 0, 40, .inl (apG sf (d * 8) vx 8))), (qc, .inl (cy 0, 8, .inl (kf))), (qb, .inl (cy 0, 16, .inl ((fun _ => nI (0))))), (m0, .inr (2, [.ref mc, .ref mb, .long (cx), .int (lx), .int (fx), .ref mv, .ref ax, .ref ay])), (mc, .inl (cy 0, 8, .inl (chx))), (mb, .inl (cy 0, 16, .inl (blx))), (mv, .inl (cy 0, 16, .inl (vx))), (ax, .inl (cy 0, 16, .inl (wx))), (ay, .inl (cy 0, 16, .inl (nx)))] H locs := hW
            exact eV hQ hx hb hr hlocks hK hW (apG sf (d * 8) vx 8, chx, blx, cx, lx, fx, vx, ax, ay, wx, nx) (by rw [hRd]; exact SKr_push hSk hle) (by simp only [hRd]) dX1_closeChunk_130
        · skip
          refine lv_aload_n hx hb dX1_closeChunk_40 rfl (lv_at hl 0 rfl) ?_
          refine lv_dup hx hb dX1_closeChunk_41 rfl ?_
          refine va_get (D := D) (ci := 1) (v := .int (nI (d))) (C := RX1) (T := TX1) (N := 13) hx hb hts i_X1_closeChunk_X1 hown hK hW.1 0 rfl rfl 10 (by decide) (hts (.fieldLink RX1 58 "TreeHashes$Hasher" "depth" "I") f_X1_closeChunk_3) (fun _ h9 => h9) rfl dX1_closeChunk_42 ?_
          refine lv_iconst (v := nI (1)) hx hb dX1_closeChunk_45 (by decide) ?_
          refine lv_isub hx hb dX1_closeChunk_46 ?_
          refine tI (pk_sub (by omega)) ?_
          refine va_put (D := D) (ci := 1) (v := .int (nI (d - 1))) (ty := .int) (C := RX1) (T := TX1) (N := 13) hx hb hts i_X1_closeChunk_X1 tyX1 tyX1_ok nmX1 hown hK hW.1 hW.2.1 hW.2.2 0 rfl rfl 10 (by decide) (hts (.fieldLink RX1 58 "TreeHashes$Hasher" "depth" "I") f_X1_closeChunk_3) (fun _ h9 => h9) rfl (by decide +kernel) rfl rfl (Nat.le_of_ble_eq_true rfl) dX1_closeChunk_47 (fun H locs hP hD hS => ?_)
          have hW : Wd D A s [(h0, .inr (1, [.ref m0, .ref qk, .ref qs, .ref qc, .ref qb, .int (md), .int (bs), .int (nI (fc)), .int (nI (tk)), .int (nI (cl + 1)), .int (nI (d - 1)), .int (nI (bk)), .int (nI (ib))])), (qk, .inl (cy 0, 8, .inl (kf))), (qs, .inl (cy 0, 40, .inl (sf))), (qc, .inl (cy 0, 8, .inl (cf))), (qb, .inl (cy 0, 16, .inl (bf))), (m0, .inr (2, [.ref mc, .ref mb, .long (cx), .int (lx), .int (fx), .ref mv, .ref ax, .ref ay])), (mc, .inl (cy 0, 8, .inl (chx))), (mb, .inl (cy 0, 16, .inl (blx))), (mv, .inl (cy 0, 16, .inl (vx))), (ax, .inl (cy 0, 16, .inl (wx))), (ay, .inl (cy 0, 16, .inl (nx)))] H locs := ⟨hP, hD, hS⟩
          refine lv_aload_n hx hb dX1_closeChunk_50 rfl (lv_at hl 0 rfl) ?_
          refine va_get (D := D) (ci := 1) (v := .ref m0) (C := RX1) (T := TX1) (N := 13) hx hb hts i_X1_closeChunk_X1 hown hK hW.1 0 rfl rfl 0 (by decide) (hts (.fieldLink RX1 14 "TreeHashes$Hasher" "mix" "LTreeHashes$Mix;") f_X1_closeChunk_0) (fun _ h9 => h9) rfl dX1_closeChunk_51 ?_
          refine lv_aload_n hx hb dX1_closeChunk_54 rfl (lv_at hl 0 rfl) ?_
          refine va_get (D := D) (ci := 1) (v := .ref qs) (C := RX1) (T := TX1) (N := 13) hx hb hts i_X1_closeChunk_X1 hown hK hW.1 0 rfl rfl 2 (by decide) (hts (.fieldLink RX1 22 "TreeHashes$Hasher" "stack" "[I") f_X1_closeChunk_4) (fun _ h9 => h9) rfl dX1_closeChunk_55 ?_
          refine lv_aload_n hx hb dX1_closeChunk_58 rfl (lv_at hl 0 rfl) ?_
          refine va_get (D := D) (ci := 1) (v := .int (nI (d - 1))) (C := RX1) (T := TX1) (N := 13) hx hb hts i_X1_closeChunk_X1 hown hK hW.1 0 rfl rfl 10 (by decide) (hts (.fieldLink RX1 58 "TreeHashes$Hasher" "depth" "I") f_X1_closeChunk_3) (fun _ h9 => h9) rfl dX1_closeChunk_59 ?_
          refine lv_bipush (v := nI (8)) hx hb dX1_closeChunk_62 (by decide) ?_
          refine lv_imul hx hb dX1_closeChunk_64 ?_
          refine tI (pk_mul _ _) ?_
          refine lv_aload_n hx hb dX1_closeChunk_65 rfl (lv_at hl 0 rfl) ?_
          refine va_get (D := D) (ci := 1) (v := .ref qk) (C := RX1) (T := TX1) (N := 13) hx hb hts i_X1_closeChunk_X1 hown hK hW.1 0 rfl rfl 1 (by decide) (hts (.fieldLink RX1 18 "TreeHashes$Hasher" "key" "[I") f_X1_closeChunk_5) (fun _ h9 => h9) rfl dX1_closeChunk_66 ?_
          refine lv_aload_n hx hb dX1_closeChunk_69 rfl (lv_at hl 0 rfl) ?_
          refine va_get (D := D) (ci := 1) (v := .int (bs)) (C := RX1) (T := TX1) (N := 13) hx hb hts i_X1_closeChunk_X1 hown hK hW.1 0 rfl rfl 6 (by decide) (hts (.fieldLink RX1 46 "TreeHashes$Hasher" "base" "I") f_X1_closeChunk_6) (fun _ h9 => h9) rfl dX1_closeChunk_70 ?_
          refine kVv (As := [.ref qs, .int (nI ((d - 1) * 8)), .ref qk, .int (bs)]) (rest := []) S0 hK hst hA hW [5, 6, 7, 8, 2, 1] (fun sz => c_X2_joinBehind l D cy t m0 mc mb mv ax ay cx lx fx chx blx vx qs 40 sf ((d - 1) * 8) qk kf bs (by omega) (by omega) sz) rfl (by decide) (cwV 4 hts gX1_closeChunk_X2_joinBehind rfl rfl rfl (by decide +kernel) ⟨Nat.le_of_ble_eq_true rfl, Nat.le_of_ble_eq_true rfl⟩) (fun _ => rfl) 0 2 rfl rfl rfl hl.1 rfl (Nat.le_of_ble_eq_true rfl) dX1_closeChunk_73 ⟨Nat.le_of_ble_eq_true rfl, Nat.le_of_ble_eq_true rfl⟩ (fun u73 H locs p73 hW => ?_)
          have hW : Wd D A s [(h0, .inr (1, [.ref m0, .ref qk, .ref qs, .ref qc, .ref qb, .int (md), .int (bs), .int (nI (fc)), .int (nI (tk)), .int (nI (cl + 1)), .int (nI (d - 1)), .int (nI (bk)), .int (nI (ib))])), (qk, .inl (cy 0, 8, .inl (kf))), (qs, .inl (cy 0, 40, .inl (sf))), (qc, .inl (cy 0, 8, .inl (cf))), (qb, .inl (cy 0, 16, .inl (bf))), (m0, .inr (2, [.ref mc, .ref mb, .long (lN 0), .int (nI (64)), .int (bs + (nI (4))), .ref mv, .ref ax, .ref ay])), (mc, .inl (cy 0, 8, .inl (kf))), (mb, .inl (cy 0, 16, .inl (jn (fun k => sf (((d - 1) * 8) + k)) vx))), (mv, .inl (cy 0, 16, .inl (vx))), (ax, .inl (cy 0, 16, .inl (wx))), (ay, .inl (cy 0, 16, .inl (nx)))] H locs := hW
          have hW := Wd.ext hW 7 rfl (jn (SS (d - 1)) vx) (jn_ext (fun k hk => hSk (d - 1) (by omega) k hk) (fun _ _ => rfl))
          have hW : Wd D A s [(h0, .inr (1, [.ref m0, .ref qk, .ref qs, .ref qc, .ref qb, .int (md), .int (bs), .int (nI (fc)), .int (nI (tk)), .int (nI (cl + 1)), .int (nI (d - 1)), .int (nI (bk)), .int (nI (ib))])), (qk, .inl (cy 0, 8, .inl (kf))), (qs, .inl (cy 0, 40, .inl (sf))), (qc, .inl (cy 0, 8, .inl (cf))), (qb, .inl (cy 0, 16, .inl (bf))), (m0, .inr (2, [.ref mc, .ref mb, .long (lN 0), .int (nI (64)), .int (bs + (nI (4))), .ref mv, .ref ax, .ref ay])), (mc, .inl (cy 0, 8, .inl (kf))), (mb, .inl (cy 0, 16, .inl (jn (SS (d - 1)) vx))), (mv, .inl (cy 0, 16, .inl (vx))), (ax, .inl (cy 0, 16, .inl (wx))), (ay, .inl (cy 0, 16, .inl (nx)))] H locs := hW
          refine lv_aload_n hx hb dX1_closeChunk_76 rfl (lv_at hl 0 rfl) ?_
          refine va_get (D := D) (ci := 1) (v := .ref m0) (C := RX1) (T := TX1) (N := 13) hx hb hts i_X1_closeChunk_X1 hown hK hW.1 0 rfl rfl 0 (by decide) (hts (.fieldLink RX1 14 "TreeHashes$Hasher" "mix" "LTreeHashes$Mix;") f_X1_closeChunk_0) (fun _ h9 => h9) rfl dX1_closeChunk_77 ?_
          refine kVv (As := []) (rest := []) S0 hK hst hA hW [5, 6, 7, 8, 9, 10] (fun sz => c_X2_run l D cy t m0 mc mb mv ax ay (lN 0) (nI (64)) (bs + (nI (4))) kf (jn (SS (d - 1)) vx) vx wx nx  sz) rfl (by decide) (cwV 0 hts gX1_closeChunk_X2_run rfl rfl rfl (by decide +kernel) ⟨Nat.le_of_ble_eq_true rfl, Nat.le_of_ble_eq_true rfl⟩) (fun ⟨_, _, _, _⟩ => rfl) 0 2 rfl rfl rfl hl.1 rfl (Nat.le_of_ble_eq_true rfl) dX1_closeChunk_80 ⟨Nat.le_of_ble_eq_true rfl, Nat.le_of_ble_eq_true rfl⟩ (fun u80 H locs p80 hW => ?_)
          obtain ⟨aw2_80, an2_80, w2_80, nw2_80⟩ := u80
          have hW : Wd D A s [(h0, .inr (1, [.ref m0, .ref qk, .ref qs, .ref qc, .ref qb, .int (md), .int (bs), .int (nI (fc)), .int (nI (tk)), .int (nI (cl + 1)), .int (nI (d - 1)), .int (nI (bk)), .int (nI (ib))])), (qk, .inl (cy 0, 8, .inl (kf))), (qs, .inl (cy 0, 40, .inl (sf))), (qc, .inl (cy 0, 8, .inl (cf))), (qb, .inl (cy 0, 16, .inl (bf))), (m0, .inr (2, [.ref mc, .ref mb, .long ((lN 0)), .int ((nI (64))), .int ((bs + (nI (4)))), .ref mv, .ref aw2_80, .ref an2_80])), (mc, .inl (cy 0, 8, .inl (kf))), (mb, .inl (cy 0, 16, .inl ((jn (SS (d - 1)) vx)))), (mv, .inl (cy 0, 16, .inl (mixV kf (jn (SS (d - 1)) vx) (lN 0) (nI (64)) (bs + (nI (4)))))), (aw2_80, .inl (cy 0, 16, .inl (w2_80))), (an2_80, .inl (cy 0, 16, .inl (nw2_80)))] H locs := hW
          rw [show (mixV kf (jn (SS (d - 1)) vx) (lN 0) (nI (64)) (bs + (nI (4)))) = (par2 kf bs (SS (d - 1)) vx) from rfl] at hW
          have hW : Wd D A s [(h0, .inr (1, [.ref m0, .ref qk, .ref qs, .ref qc, .ref qb, .int (md), .int (bs), .int (nI (fc)), .int (nI (tk)), .int (nI (cl + 1)), .int (nI (d - 1)), .int (nI (bk)), .int (nI (ib))])), (qk, .inl (cy 0, 8, .inl (kf))), (qs, .inl (cy 0, 40, .inl (sf))), (qc, .inl (cy 0, 8, .inl (cf))), (qb, .inl (cy 0, 16, .inl (bf))), (m0, .inr (2, [.ref mc, .ref mb, .long ((lN 0)), .int ((nI (64))), .int ((bs + (nI (4)))), .ref mv, .ref aw2_80, .ref an2_80])), (mc, .inl (cy 0, 8, .inl (kf))), (mb, .inl (cy 0, 16, .inl ((jn (SS (d - 1)) vx)))), (mv, .inl (cy 0, 16, .inl (par2 kf bs (SS (d - 1)) vx))), (aw2_80, .inl (cy 0, 16, .inl (w2_80))), (an2_80, .inl (cy 0, 16, .inl (nw2_80)))] H locs := hW
          refine lv_iload_n hx hb dX1_closeChunk_83 rfl (lv_at hl 1 rfl) ?_
          refine lv_iconst (v := nI (1)) hx hb dX1_closeChunk_84 (by decide) ?_
          refine lv_ishr hx hb dX1_closeChunk_85 ?_
          refine tI (x' := nI (tr / 2)) (pk_shrN (by omega) _ 1 (by decide)) ?_
          refine lv_istore_n (lv' := [(1, .int (nI (tr / 2))), (0, .ref h0)]) hx hb dX1_closeChunk_86 rfl hl (by decide) rfl (fun ls hl => ?_)
          refine lv_goto (tgt := 27) hx hb dX1_closeChunk_87 (by decide) ?_
          exact ih27 (d - 1) (tr / 2) kf (jn (SS (d - 1)) vx) (lN 0) (nI (64)) (bs + (nI (4))) (par2 kf bs (SS (d - 1)) vx) aw2_80 an2_80 w2_80 nw2_80 (by omega) ((pc_even hd2 ht0 (by omega) h37).2) (by omega) (by omega) (by omega) (by rw [← hR, mg_e h37 ht0]) _ _ hW _ (lv_sub hl [1, 0] rfl)
  exact loop27 _ dp (cl + 1) cf bf (lN (fc + cl)) (nI (ib)) ((bs + (nI (fst0 bk))) + (nI (2))) (mixV cf bf (lN (fc + cl)) (nI (ib)) ((bs + (nI (fst0 bk))) + (nI (2)))) aw2_9 an2_9 w2_9 nw2_9 (Nat.lt_succ_self _) (by rw [hd0]; rfl) (by omega) (by omega) (Nat.le_refl _) (rfl) _ _ hW _ (lv_sub hl [1, 0] rfl)

theorem f_X1_prepareLast_0 : Cond.fieldLink RX1 58 "TreeHashes$Hasher" "depth" "I" ∈ wsX1_prepareLast := by decide +kernel
theorem i_X1_prepareLast_X1 : ∀ w ∈ wsX10, w ∈ wsX1_prepareLast := by decide +kernel
theorem f_X1_prepareLast_2 : Cond.fieldLink RX1 14 "TreeHashes$Hasher" "mix" "LTreeHashes$Mix;" ∈ wsX1_prepareLast := by decide +kernel
theorem f_X1_prepareLast_3 : Cond.fieldLink RX1 22 "TreeHashes$Hasher" "stack" "[I" ∈ wsX1_prepareLast := by decide +kernel
theorem f_X1_prepareLast_4 : Cond.fieldLink RX1 18 "TreeHashes$Hasher" "key" "[I" ∈ wsX1_prepareLast := by decide +kernel
theorem f_X1_prepareLast_5 : Cond.fieldLink RX1 46 "TreeHashes$Hasher" "base" "I" ∈ wsX1_prepareLast := by decide +kernel
set_option maxHeartbeats 4000000 in
set_option maxRecDepth 100000 in
theorem c_X1_prepareLast (l : Launch) (D : va_G) (cy : Nat → ClassId) (t : Nat × Nat) (m0 : Nat) (mc : Nat) (mb : Nat) (mv : Nat) (aw : Nat) (an : Nat) (ct : Int64) (ln : Int32) (fl : Int32) (h0 : Nat) (qk : Nat) (qs : Nat) (qc : Nat) (qb : Nat) (md : Int32) (bs : Int32) (fc : Nat) (tk : Nat) (cl : Nat) (dp : Nat) (bk : Nat) (ib : Nat) (ch : Nat → Int32) (bl : Nat → Int32) (v : Nat → Int32) (w : Nat → Int32) (nw : Nat → Int32) (kf : Nat → Int32) (sf : Nat → Int32) (cf : Nat → Int32) (bf : Nat → Int32) (SS : Nat → Nat → Int32) (hfc : fc + cl < 2 ^ 31) (hb1 : bk < 2 ^ 31) (hp5 : dp ≤ 5) (hSk : SKr sf SS dp) (sz : Nat) : Met l yX1_prepareLast wsX1_prepareLast ({ frames := 2, cells := 0, slots := 0, locals := 52 }) (PcW D cy t [(h0, .inr (1, [.ref m0, .ref qk, .ref qs, .ref qc, .ref qb, .int (md), .int (bs), .int (nI (fc)), .int (nI (tk)), .int (nI (cl)), .int (nI (dp)), .int (nI (bk)), .int (nI (ib))])), (qk, .inl (cy 0, 8, .inl (kf))), (qs, .inl (cy 0, 40, .inl (sf))), (qc, .inl (cy 0, 8, .inl (cf))), (qb, .inl (cy 0, 16, .inl (bf))), (m0, .inr (2, [.ref mc, .ref mb, .long (ct), .int (ln), .int (fl), .ref mv, .ref aw, .ref an])), (mc, .inl (cy 0, 8, .inl (ch))), (mb, .inl (cy 0, 16, .inl (bl))), (mv, .inl (cy 0, 16, .inl (v))), (aw, .inl (cy 0, 16, .inl (w))), (an, .inl (cy 0, 16, .inl (nw)))] [.ref h0] sz) (QvA D cy (fun u : (Nat → Int32) × (Nat) × (Nat) × (Nat → Int32) × (Nat → Int32) => match u with | (v2, aw2, an2, w2, nw2) => True) (fun u : (Nat → Int32) × (Nat) × (Nat) × (Nat → Int32) × (Nat → Int32) => match u with | (v2, aw2, an2, w2, nw2) => [(h0, .inr (1, [.ref m0, .ref qk, .ref qs, .ref qc, .ref qb, .int (md), .int (bs), .int (nI (fc)), .int (nI (tk)), .int (nI (cl)), .int (nI (dp)), .int (nI (bk)), .int (nI (ib))])), (qk, .inl (cy 0, 8, .inl (kf))), (qs, .inl (cy 0, 40, .inl (sf))), (qc, .inl (cy 0, 8, .inl (cf))), (qb, .inl (cy 0, 16, .inl (bf))), (m0, .inr (2, [.ref mc, .ref mb, .long ((upN kf bs SS dp (cf, bf, lN (fc + cl), nI (ib), (bs + (nI (fst0 bk))) + (nI (2)))).2.2.1), .int ((upN kf bs SS dp (cf, bf, lN (fc + cl), nI (ib), (bs + (nI (fst0 bk))) + (nI (2)))).2.2.2.1), .int ((upN kf bs SS dp (cf, bf, lN (fc + cl), nI (ib), (bs + (nI (fst0 bk))) + (nI (2)))).2.2.2.2), .ref mv, .ref aw2, .ref an2])), (mc, .inl (cy 0, 8, .inl ((upN kf bs SS dp (cf, bf, lN (fc + cl), nI (ib), (bs + (nI (fst0 bk))) + (nI (2)))).1))), (mb, .inl (cy 0, 16, .inl ((upN kf bs SS dp (cf, bf, lN (fc + cl), nI (ib), (bs + (nI (fst0 bk))) + (nI (2)))).2.1))), (mv, .inl (cy 0, 16, .inl (v2))), (aw2, .inl (cy 0, 16, .inl (w2))), (an2, .inl (cy 0, 16, .inl (nw2)))]) (va_A [(h0, .inr (1, [.ref m0, .ref qk, .ref qs, .ref qc, .ref qb, .int (md), .int (bs), .int (nI (fc)), .int (nI (tk)), .int (nI (cl)), .int (nI (dp)), .int (nI (bk)), .int (nI (ib))])), (qk, .inl (cy 0, 8, .inl (kf))), (qs, .inl (cy 0, 40, .inl (sf))), (qc, .inl (cy 0, 8, .inl (cf))), (qb, .inl (cy 0, 16, .inl (bf))), (m0, .inr (2, [.ref mc, .ref mb, .long (ct), .int (ln), .int (fl), .ref mv, .ref aw, .ref an])), (mc, .inl (cy 0, 8, .inl (ch))), (mb, .inl (cy 0, 16, .inl (bl))), (mv, .inl (cy 0, 16, .inl (v))), (aw, .inl (cy 0, 16, .inl (w))), (an, .inl (cy 0, 16, .inl (nw)))] sz)) 0 0 (va_A [(h0, .inr (1, [.ref m0, .ref qk, .ref qs, .ref qc, .ref qb, .int (md), .int (bs), .int (nI (fc)), .int (nI (tk)), .int (nI (cl)), .int (nI (dp)), .int (nI (bk)), .int (nI (ib))])), (qk, .inl (cy 0, 8, .inl (kf))), (qs, .inl (cy 0, 40, .inl (sf))), (qc, .inl (cy 0, 8, .inl (cf))), (qb, .inl (cy 0, 16, .inl (bf))), (m0, .inr (2, [.ref mc, .ref mb, .long (ct), .int (ln), .int (fl), .ref mv, .ref aw, .ref an])), (mc, .inl (cy 0, 8, .inl (ch))), (mb, .inl (cy 0, 16, .inl (bl))), (mv, .inl (cy 0, 16, .inl (v))), (aw, .inl (cy 0, 16, .inl (w))), (an, .inl (cy 0, 16, .inl (nw)))] sz) := by
  refine M_ofW (cc := cX1_prepareLast) (maxL := 2) (ret := none) (by decide) rfl (Nat.le_of_ble_eq_true rfl) ?_
  intro p e s m below meth c A ls args Q hQ S0 hr hlocks hnm hK hst hA hW hl
  have hx := S0.1; have hb := S0.2.1; have hml := S0.2.2.1; have hown := S0.2.2.2.1; have hts := S0.2.2.2.2
  have hl : lv_has ls 2 [(0, .ref h0)] := hl
  refine lv_aload_n hx hb dX1_prepareLast_0 rfl (lv_at hl 0 rfl) ?_
  refine lv_iconst (v := nI (2)) hx hb dX1_prepareLast_1 (by decide) ?_
  refine kVv (As := [.int (nI (2))]) (rest := []) S0 hK hst hA hW [0, 3, 4, 5, 6, 7] (fun sz => c_X1_prepareBlock l D cy t m0 mc mb mv aw an ct ln fl h0 qk qs qc qb md bs fc tk cl dp bk ib ch bl cf bf (nI (2)) (by omega) (by omega) sz) rfl (by decide) (cwV 1 hts gX1_prepareLast_X1_prepareBlock rfl rfl rfl (by decide +kernel) ⟨Nat.le_of_ble_eq_true rfl, Nat.le_of_ble_eq_true rfl⟩) (fun _ => rfl) 0 1 rfl rfl rfl hl.1 rfl (Nat.le_of_ble_eq_true rfl) dX1_prepareLast_2 ⟨Nat.le_of_ble_eq_true rfl, Nat.le_of_ble_eq_true rfl⟩ (fun u2 H locs p2 hW => ?_)
  have hW : Wd D A s [(h0, .inr (1, [.ref m0, .ref qk, .ref qs, .ref qc, .ref qb, .int (md), .int (bs), .int (nI (fc)), .int (nI (tk)), .int (nI (cl)), .int (nI (dp)), .int (nI (bk)), .int (nI (ib))])), (qk, .inl (cy 0, 8, .inl (kf))), (qs, .inl (cy 0, 40, .inl (sf))), (qc, .inl (cy 0, 8, .inl (cf))), (qb, .inl (cy 0, 16, .inl (bf))), (m0, .inr (2, [.ref mc, .ref mb, .long (lN (fc + cl)), .int (nI (ib)), .int ((bs + (nI (fst0 bk))) + (nI (2))), .ref mv, .ref aw, .ref an])), (mc, .inl (cy 0, 8, .inl (cf))), (mb, .inl (cy 0, 16, .inl (bf))), (mv, .inl (cy 0, 16, .inl (v))), (aw, .inl (cy 0, 16, .inl (w))), (an, .inl (cy 0, 16, .inl (nw)))] H locs := hW
  refine lv_aload_n hx hb dX1_prepareLast_5 rfl (lv_at hl 0 rfl) ?_
  refine va_get (D := D) (ci := 1) (v := .int (nI (dp))) (C := RX1) (T := TX1) (N := 13) hx hb hts i_X1_prepareLast_X1 hown hK hW.1 0 rfl rfl 10 (by decide) (hts (.fieldLink RX1 58 "TreeHashes$Hasher" "depth" "I") f_X1_prepareLast_0) (fun _ h9 => h9) rfl dX1_prepareLast_6 ?_
  refine lv_iconst (v := nI (1)) hx hb dX1_prepareLast_9 (by decide) ?_
  refine lv_isub hx hb dX1_prepareLast_10 ?_
  refine lv_istore_n (lv' := [(1, .int ((nI (dp)) - (nI (1)))), (0, .ref h0)]) hx hb dX1_prepareLast_11 rfl hl (by decide) rfl (fun ls hl => ?_)
  have loop12 : ∀ (nF : Nat) (d : Nat) (chx : Nat → Int32) (blx : Nat → Int32) (cx : Int64) (lx : Int32) (fx : Int32) (vx : Nat → Int32) (ax : Nat) (ay : Nat) (wx : Nat → Int32) (nx : Nat → Int32), d < nF → (d ≤ dp) → (upN kf bs SS d (chx, blx, cx, lx, fx) = (upN kf bs SS dp (cf, bf, lN (fc + cl), nI (ib), (bs + (nI (fst0 bk))) + (nI (2))))) → ∀ (H : Heap) (locs : List Loc), Wd D A s [(h0, .inr (1, [.ref m0, .ref qk, .ref qs, .ref qc, .ref qb, .int (md), .int (bs), .int (nI (fc)), .int (nI (tk)), .int (nI (cl)), .int (nI (dp)), .int (nI (bk)), .int (nI (ib))])), (qk, .inl (cy 0, 8, .inl (kf))), (qs, .inl (cy 0, 40, .inl (sf))), (qc, .inl (cy 0, 8, .inl (cf))), (qb, .inl (cy 0, 16, .inl (bf))), (m0, .inr (2, [.ref mc, .ref mb, .long (cx), .int (lx), .int (fx), .ref mv, .ref ax, .ref ay])), (mc, .inl (cy 0, 8, .inl (chx))), (mb, .inl (cy 0, 16, .inl (blx))), (mv, .inl (cy 0, 16, .inl (vx))), (ax, .inl (cy 0, 16, .inl (wx))), (ay, .inl (cy 0, 16, .inl (nx)))] H locs → ∀ ls : Array Slot, lv_has ls 2 [(0, .ref h0), (1, .int ((nI (d)) - (nI (1))))] → W p l e ({ frames := 2, cells := 0, slots := 0, locals := 52 }) s m args below meth c H locs 0 0 Q (F0 m 12 ls []) := by
    intro nF
    induction nF with
    | zero => intro d chx blx cx lx fx vx ax ay wx nx hf; exact absurd hf (Nat.not_lt_zero _)
    | succ nF ih12 =>
      intro d chx blx cx lx fx vx ax ay wx nx hf hle hR H locs hW ls hl
      refine lv_iload_n hx hb dX1_prepareLast_12 rfl (lv_at hl 1 rfl) ?_
      refine lv_if_lt (tgt := 52) hx hb dX1_prepareLast_13 (by decide) (fun h13 => ?_) (fun h13 => ?_)
      · skip
        have e9 : d = 0 := sub1_neg (by omega) h13
        rw [e9] at hR
        have hR : (chx, blx, cx, lx, fx) = (upN kf bs SS dp (cf, bf, lN (fc + cl), nI (ib), (bs + (nI (fst0 bk))) + (nI (2)))) := hR
        exact eV hQ hx hb hr hlocks hK hW (vx, ax, ay, wx, nx) (trivial) (by simp only [← hR]) dX1_prepareLast_52
      · skip
        have hd1 := sub1_pos h13
        rw [pk_sub (show 1 ≤ d by omega)] at hl
        refine lv_aload_n hx hb dX1_prepareLast_16 rfl (lv_at hl 0 rfl) ?_
        refine va_get (D := D) (ci := 1) (v := .ref m0) (C := RX1) (T := TX1) (N := 13) hx hb hts i_X1_prepareLast_X1 hown hK hW.1 0 rfl rfl 0 (by decide) (hts (.fieldLink RX1 14 "TreeHashes$Hasher" "mix" "LTreeHashes$Mix;") f_X1_prepareLast_2) (fun _ h9 => h9) rfl dX1_prepareLast_17 ?_
        refine kVv (As := []) (rest := []) S0 hK hst hA hW [5, 6, 7, 8, 9, 10] (fun sz => c_X2_run l D cy t m0 mc mb mv ax ay cx lx fx chx blx vx wx nx  sz) rfl (by decide) (cwV 0 hts gX1_prepareLast_X2_run rfl rfl rfl (by decide +kernel) ⟨Nat.le_of_ble_eq_true rfl, Nat.le_of_ble_eq_true rfl⟩) (fun ⟨_, _, _, _⟩ => rfl) 0 2 rfl rfl rfl hl.1 rfl (Nat.le_of_ble_eq_true rfl) dX1_prepareLast_20 ⟨Nat.le_of_ble_eq_true rfl, Nat.le_of_ble_eq_true rfl⟩ (fun u20 H locs p20 hW => ?_)
        obtain ⟨aw2_20, an2_20, w2_20, nw2_20⟩ := u20
        have hW : Wd D A s [(h0, .inr (1, [.ref m0, .ref qk, .ref qs, .ref qc, .ref qb, .int (md), .int (bs), .int (nI (fc)), .int (nI (tk)), .int (nI (cl)), .int (nI (dp)), .int (nI (bk)), .int (nI (ib))])), (qk, .inl (cy 0, 8, .inl (kf))), (qs, .inl (cy 0, 40, .inl (sf))), (qc, .inl (cy 0, 8, .inl (cf))), (qb, .inl (cy 0, 16, .inl (bf))), (m0, .inr (2, [.ref mc, .ref mb, .long (cx), .int (lx), .int (fx), .ref mv, .ref aw2_20, .ref an2_20])), (mc, .inl (cy 0, 8, .inl (chx))), (mb, .inl (cy 0, 16, .inl (blx))), (mv, .inl (cy 0, 16, .inl (mixV chx blx cx lx fx))), (aw2_20, .inl (cy 0, 16, .inl (w2_20))), (an2_20, .inl (cy 0, 16, .inl (nw2_20)))] H locs := hW
        refine lv_aload_n hx hb dX1_prepareLast_23 rfl (lv_at hl 0 rfl) ?_
        refine va_get (D := D) (ci := 1) (v := .ref m0) (C := RX1) (T := TX1) (N := 13) hx hb hts i_X1_prepareLast_X1 hown hK hW.1 0 rfl rfl 0 (by decide) (hts (.fieldLink RX1 14 "TreeHashes$Hasher" "mix" "LTreeHashes$Mix;") f_X1_prepareLast_2) (fun _ h9 => h9) rfl dX1_prepareLast_24 ?_
        refine lv_aload_n hx hb dX1_prepareLast_27 rfl (lv_at hl 0 rfl) ?_
        refine va_get (D := D) (ci := 1) (v := .ref qs) (C := RX1) (T := TX1) (N := 13) hx hb hts i_X1_prepareLast_X1 hown hK hW.1 0 rfl rfl 2 (by decide) (hts (.fieldLink RX1 22 "TreeHashes$Hasher" "stack" "[I") f_X1_prepareLast_3) (fun _ h9 => h9) rfl dX1_prepareLast_28 ?_
        refine lv_iload_n hx hb dX1_prepareLast_31 rfl (lv_at hl 1 rfl) ?_
        refine lv_bipush (v := nI (8)) hx hb dX1_prepareLast_32 (by decide) ?_
        refine lv_imul hx hb dX1_prepareLast_34 ?_
        refine tI (pk_mul _ _) ?_
        refine lv_aload_n hx hb dX1_prepareLast_35 rfl (lv_at hl 0 rfl) ?_
        refine va_get (D := D) (ci := 1) (v := .ref qk) (C := RX1) (T := TX1) (N := 13) hx hb hts i_X1_prepareLast_X1 hown hK hW.1 0 rfl rfl 1 (by decide) (hts (.fieldLink RX1 18 "TreeHashes$Hasher" "key" "[I") f_X1_prepareLast_4) (fun _ h9 => h9) rfl dX1_prepareLast_36 ?_
        refine lv_aload_n hx hb dX1_prepareLast_39 rfl (lv_at hl 0 rfl) ?_
        refine va_get (D := D) (ci := 1) (v := .int (bs)) (C := RX1) (T := TX1) (N := 13) hx hb hts i_X1_prepareLast_X1 hown hK hW.1 0 rfl rfl 6 (by decide) (hts (.fieldLink RX1 46 "TreeHashes$Hasher" "base" "I") f_X1_prepareLast_5) (fun _ h9 => h9) rfl dX1_prepareLast_40 ?_
        refine kVv (As := [.ref qs, .int (nI ((d - 1) * 8)), .ref qk, .int (bs)]) (rest := []) S0 hK hst hA hW [5, 6, 7, 8, 2, 1] (fun sz => c_X2_joinBehind l D cy t m0 mc mb mv aw2_20 an2_20 cx lx fx chx blx (mixV chx blx cx lx fx) qs 40 sf ((d - 1) * 8) qk kf bs (by omega) (by omega) sz) rfl (by decide) (cwV 4 hts gX1_prepareLast_X2_joinBehind rfl rfl rfl (by decide +kernel) ⟨Nat.le_of_ble_eq_true rfl, Nat.le_of_ble_eq_true rfl⟩) (fun _ => rfl) 0 2 rfl rfl rfl hl.1 rfl (Nat.le_of_ble_eq_true rfl) dX1_prepareLast_43 ⟨Nat.le_of_ble_eq_true rfl, Nat.le_of_ble_eq_true rfl⟩ (fun u43 H locs p43 hW => ?_)
        have hW : Wd D A s [(h0, .inr (1, [.ref m0, .ref qk, .ref qs, .ref qc, .ref qb, .int (md), .int (bs), .int (nI (fc)), .int (nI (tk)), .int (nI (cl)), .int (nI (dp)), .int (nI (bk)), .int (nI (ib))])), (qk, .inl (cy 0, 8, .inl (kf))), (qs, .inl (cy 0, 40, .inl (sf))), (qc, .inl (cy 0, 8, .inl (cf))), (qb, .inl (cy 0, 16, .inl (bf))), (m0, .inr (2, [.ref mc, .ref mb, .long (lN 0), .int (nI (64)), .int (bs + (nI (4))), .ref mv, .ref aw2_20, .ref an2_20])), (mc, .inl (cy 0, 8, .inl (kf))), (mb, .inl (cy 0, 16, .inl (jn (fun k => sf (((d - 1) * 8) + k)) (mixV chx blx cx lx fx)))), (mv, .inl (cy 0, 16, .inl ((mixV chx blx cx lx fx)))), (aw2_20, .inl (cy 0, 16, .inl (w2_20))), (an2_20, .inl (cy 0, 16, .inl (nw2_20)))] H locs := hW
        have hW := Wd.ext hW 7 rfl (jn (SS (d - 1)) (mixV chx blx cx lx fx)) (jn_ext (fun k hk => hSk (d - 1) (by omega) k hk) (fun _ _ => rfl))
        have hW : Wd D A s [(h0, .inr (1, [.ref m0, .ref qk, .ref qs, .ref qc, .ref qb, .int (md), .int (bs), .int (nI (fc)), .int (nI (tk)), .int (nI (cl)), .int (nI (dp)), .int (nI (bk)), .int (nI (ib))])), (qk, .inl (cy 0, 8, .inl (kf))), (qs, .inl (cy 0, 40, .inl (sf))), (qc, .inl (cy 0, 8, .inl (cf))), (qb, .inl (cy 0, 16, .inl (bf))), (m0, .inr (2, [.ref mc, .ref mb, .long (lN 0), .int (nI (64)), .int (bs + (nI (4))), .ref mv, .ref aw2_20, .ref an2_20])), (mc, .inl (cy 0, 8, .inl (kf))), (mb, .inl (cy 0, 16, .inl (jn (SS (d - 1)) (mixV chx blx cx lx fx)))), (mv, .inl (cy 0, 16, .inl ((mixV chx blx cx lx fx)))), (aw2_20, .inl (cy 0, 16, .inl (w2_20))), (an2_20, .inl (cy 0, 16, .inl (nw2_20)))] H locs := hW
        refine lv_iinc (v := (nI (d - 1)) - (nI (1))) (lv' := [(1, .int ((nI (d - 1)) - (nI (1)))), (0, .ref h0)]) hx hb dX1_prepareLast_46 hl (k := 1) rfl (dec1 _) (by decide) rfl (fun ls hl => ?_)
        refine lv_goto (tgt := 12) hx hb dX1_prepareLast_49 (by decide) ?_
        exact ih12 (d - 1) kf (jn (SS (d - 1)) (mixV chx blx cx lx fx)) (lN 0) (nI (64)) (bs + (nI (4))) (mixV chx blx cx lx fx) aw2_20 an2_20 w2_20 nw2_20 (by omega) (by omega) (by rw [← hR, upN_s hd1]; rfl) _ _ hW _ (lv_sub hl [1, 0] rfl)
  exact loop12 _ dp cf bf (lN (fc + cl)) (nI (ib)) ((bs + (nI (fst0 bk))) + (nI (2))) v aw an w nw (Nat.lt_succ_self _) (Nat.le_refl _) (rfl) _ _ hW _ (lv_sub hl [1, 0] rfl)

theorem f_X1_absorbByte_0 : Cond.fieldLink RX1 67 "TreeHashes$Hasher" "inBlock" "I" ∈ wsX1_absorbByte := by decide +kernel
theorem i_X1_absorbByte_X1 : ∀ w ∈ wsX10, w ∈ wsX1_absorbByte := by decide +kernel
theorem f_X1_absorbByte_2 : Cond.fieldLink RX1 28 "TreeHashes$Hasher" "block" "[I" ∈ wsX1_absorbByte := by decide +kernel
theorem f_X1_absorbByte_3 : Cond.fieldLink RX1 52 "TreeHashes$Hasher" "taken" "I" ∈ wsX1_absorbByte := by decide +kernel
theorem f_X1_absorbByte_4 : Cond.fieldLink RX1 64 "TreeHashes$Hasher" "blocks" "I" ∈ wsX1_absorbByte := by decide +kernel
set_option maxHeartbeats 4000000 in
set_option maxRecDepth 100000 in
theorem c_X1_absorbByte (l : Launch) (D : va_G) (cy : Nat → ClassId) (t : Nat × Nat) (m0 : Nat) (mc : Nat) (mb : Nat) (mv : Nat) (aw : Nat) (an : Nat) (ct : Int64) (ln : Int32) (fl : Int32) (h0 : Nat) (qk : Nat) (qs : Nat) (qc : Nat) (qb : Nat) (md : Int32) (bs : Int32) (fc : Nat) (nt : Nat) (kf : Nat → Int32) (sf : Nat → Int32) (g : Nat → Int32) (ch : Nat → Int32) (bl : Nat → Int32) (v : Nat → Int32) (w : Nat → Int32) (nw : Nat → Int32) (b : Int32) (ht : nt < 40000) (hfc : fc ≤ 1000) (hSk : SKr sf (skS kf bs g fc (clo nt)) (hdp nt)) (hg : g nt = b &&& nI 255) (sz : Nat) : Met l yX1_absorbByte wsX1_absorbByte ({ frames := 3, cells := 0, slots := 0, locals := 73 }) (PcW D cy t [(h0, .inr (1, [.ref m0, .ref qk, .ref qs, .ref qc, .ref qb, .int (md), .int (bs), .int (nI (fc)), .int (nI (nt)), .int (nI (clo nt)), .int (nI (hdp nt)), .int (nI (hbk nt)), .int (nI (hib nt))])), (qk, .inl (cy 0, 8, .inl (kf))), (qs, .inl (cy 0, 40, .inl (sf))), (qc, .inl (cy 0, 8, .inl (hcf kf bs g fc nt))), (qb, .inl (cy 0, 16, .inl (hbf g nt))), (m0, .inr (2, [.ref mc, .ref mb, .long (ct), .int (ln), .int (fl), .ref mv, .ref aw, .ref an])), (mc, .inl (cy 0, 8, .inl (ch))), (mb, .inl (cy 0, 16, .inl (bl))), (mv, .inl (cy 0, 16, .inl (v))), (aw, .inl (cy 0, 16, .inl (w))), (an, .inl (cy 0, 16, .inl (nw)))] [.ref h0, .int (b)] sz) (QvA D cy (fun u : (Nat → Int32) × (Nat → Int32) × (Nat → Int32) × (Int64) × (Int32) × (Int32) × (Nat → Int32) × (Nat) × (Nat) × (Nat → Int32) × (Nat → Int32) => match u with | (sf2, ch2, bl2, ct2, ln2, fl2, v2, aw2, an2, w2, nw2) => (SKr sf2 (skS kf bs g fc (clo (nt + 1))) (hdp (nt + 1)))) (fun u : (Nat → Int32) × (Nat → Int32) × (Nat → Int32) × (Int64) × (Int32) × (Int32) × (Nat → Int32) × (Nat) × (Nat) × (Nat → Int32) × (Nat → Int32) => match u with | (sf2, ch2, bl2, ct2, ln2, fl2, v2, aw2, an2, w2, nw2) => [(h0, .inr (1, [.ref m0, .ref qk, .ref qs, .ref qc, .ref qb, .int (md), .int (bs), .int (nI (fc)), .int (nI (nt + 1)), .int (nI (clo (nt + 1))), .int (nI (hdp (nt + 1))), .int (nI (hbk (nt + 1))), .int (nI (hib (nt + 1)))])), (qk, .inl (cy 0, 8, .inl (kf))), (qs, .inl (cy 0, 40, .inl (sf2))), (qc, .inl (cy 0, 8, .inl (hcf kf bs g fc (nt + 1)))), (qb, .inl (cy 0, 16, .inl (hbf g (nt + 1)))), (m0, .inr (2, [.ref mc, .ref mb, .long (ct2), .int (ln2), .int (fl2), .ref mv, .ref aw2, .ref an2])), (mc, .inl (cy 0, 8, .inl (ch2))), (mb, .inl (cy 0, 16, .inl (bl2))), (mv, .inl (cy 0, 16, .inl (v2))), (aw2, .inl (cy 0, 16, .inl (w2))), (an2, .inl (cy 0, 16, .inl (nw2)))]) (va_A [(h0, .inr (1, [.ref m0, .ref qk, .ref qs, .ref qc, .ref qb, .int (md), .int (bs), .int (nI (fc)), .int (nI (nt)), .int (nI (clo nt)), .int (nI (hdp nt)), .int (nI (hbk nt)), .int (nI (hib nt))])), (qk, .inl (cy 0, 8, .inl (kf))), (qs, .inl (cy 0, 40, .inl (sf))), (qc, .inl (cy 0, 8, .inl (hcf kf bs g fc nt))), (qb, .inl (cy 0, 16, .inl (hbf g nt))), (m0, .inr (2, [.ref mc, .ref mb, .long (ct), .int (ln), .int (fl), .ref mv, .ref aw, .ref an])), (mc, .inl (cy 0, 8, .inl (ch))), (mb, .inl (cy 0, 16, .inl (bl))), (mv, .inl (cy 0, 16, .inl (v))), (aw, .inl (cy 0, 16, .inl (w))), (an, .inl (cy 0, 16, .inl (nw)))] sz)) 0 0 (va_A [(h0, .inr (1, [.ref m0, .ref qk, .ref qs, .ref qc, .ref qb, .int (md), .int (bs), .int (nI (fc)), .int (nI (nt)), .int (nI (clo nt)), .int (nI (hdp nt)), .int (nI (hbk nt)), .int (nI (hib nt))])), (qk, .inl (cy 0, 8, .inl (kf))), (qs, .inl (cy 0, 40, .inl (sf))), (qc, .inl (cy 0, 8, .inl (hcf kf bs g fc nt))), (qb, .inl (cy 0, 16, .inl (hbf g nt))), (m0, .inr (2, [.ref mc, .ref mb, .long (ct), .int (ln), .int (fl), .ref mv, .ref aw, .ref an])), (mc, .inl (cy 0, 8, .inl (ch))), (mb, .inl (cy 0, 16, .inl (bl))), (mv, .inl (cy 0, 16, .inl (v))), (aw, .inl (cy 0, 16, .inl (w))), (an, .inl (cy 0, 16, .inl (nw)))] sz) := by
  refine M_ofW (cc := cX1_absorbByte) (maxL := 2) (ret := none) (by decide) rfl (Nat.le_of_ble_eq_true rfl) ?_
  intro p e s m below meth c A ls args Q hQ S0 hr hlocks hnm hK hst hA hW hl
  have hx := S0.1; have hb := S0.2.1; have hml := S0.2.2.1; have hown := S0.2.2.2.1; have hts := S0.2.2.2.2
  have hl : lv_has ls 2 [(0, .ref h0), (1, .int (b))] := hl
  have hnn := h_nums nt
  have hc9 : clo nt ≤ 39 := by unfold clo; omega
  refine lv_aload_n hx hb dX1_absorbByte_0 rfl (lv_at hl 0 rfl) ?_
  refine va_get (D := D) (ci := 1) (v := .int (nI (hib nt))) (C := RX1) (T := TX1) (N := 13) hx hb hts i_X1_absorbByte_X1 hown hK hW.1 0 rfl rfl 12 (by decide) (hts (.fieldLink RX1 67 "TreeHashes$Hasher" "inBlock" "I") f_X1_absorbByte_0) (fun _ h9 => h9) rfl dX1_absorbByte_1 ?_
  refine lv_bipush (v := nI (64)) hx hb dX1_absorbByte_4 (by decide) ?_
  refine iLt (a := hib nt) (b := 64) (tgt := 29) hx hb dX1_absorbByte_6 (by decide) (by omega) (by omega) (fun h6 => ?_) (fun h6 => ?_)
  · skip
    have h6 : hib nt ≠ 64 := by omega
    obtain ⟨e1, e2, e3⟩ := h_a h6
    have e4 := h_a4 (K := kf) (bs := bs) (g := g) (fc := fc) h6
    have e5 := h_a5 (g := g) h6
    refine lv_aload_n hx hb dX1_absorbByte_29 rfl (lv_at hl 0 rfl) ?_
    refine va_get (D := D) (ci := 1) (v := .ref qb) (C := RX1) (T := TX1) (N := 13) hx hb hts i_X1_absorbByte_X1 hown hK hW.1 0 rfl rfl 4 (by decide) (hts (.fieldLink RX1 28 "TreeHashes$Hasher" "block" "[I") f_X1_absorbByte_2) (fun _ h9 => h9) rfl dX1_absorbByte_30 ?_
    refine lv_aload_n hx hb dX1_absorbByte_33 rfl (lv_at hl 0 rfl) ?_
    refine va_get (D := D) (ci := 1) (v := .int (nI (hib nt))) (C := RX1) (T := TX1) (N := 13) hx hb hts i_X1_absorbByte_X1 hown hK hW.1 0 rfl rfl 12 (by decide) (hts (.fieldLink RX1 67 "TreeHashes$Hasher" "inBlock" "I") f_X1_absorbByte_0) (fun _ h9 => h9) rfl dX1_absorbByte_34 ?_
    refine lv_iconst (v := nI (2)) hx hb dX1_absorbByte_37 (by decide) ?_
    refine lv_ishr hx hb dX1_absorbByte_38 ?_
    refine tI (x' := nI ((hib nt) / 2 ^ 2)) (pk_shrN (by omega) _ 2 (by decide)) ?_
    refine lv_dup2_11 hx hb dX1_absorbByte_39 rfl rfl ?_
    refine rI hx hb hK hW 4 rfl (k := (hib nt) / 2 ^ 2) (by omega) (by omega) dX1_absorbByte_40 ?_
    refine lv_iload_n hx hb dX1_absorbByte_41 rfl (lv_at hl 1 rfl) ?_
    refine lv_sipush (v := nI (255)) hx hb dX1_absorbByte_42 (by decide) ?_
    refine lv_iand hx hb dX1_absorbByte_45 ?_
    refine lv_bipush (v := nI (8)) hx hb dX1_absorbByte_46 (by decide) ?_
    refine lv_aload_n hx hb dX1_absorbByte_48 rfl (lv_at hl 0 rfl) ?_
    refine va_get (D := D) (ci := 1) (v := .int (nI (hib nt))) (C := RX1) (T := TX1) (N := 13) hx hb hts i_X1_absorbByte_X1 hown hK hW.1 0 rfl rfl 12 (by decide) (hts (.fieldLink RX1 67 "TreeHashes$Hasher" "inBlock" "I") f_X1_absorbByte_0) (fun _ h9 => h9) rfl dX1_absorbByte_49 ?_
    refine lv_iconst (v := nI (3)) hx hb dX1_absorbByte_52 (by decide) ?_
    refine lv_iand hx hb dX1_absorbByte_53 ?_
    refine tI (x' := nI ((hib nt) % 2 ^ 2)) (pk_andN (by omega) 2 (by decide)) ?_
    refine lv_imul hx hb dX1_absorbByte_54 ?_
    refine tI (pk_mul _ _) ?_
    refine lv_ishl hx hb dX1_absorbByte_55 ?_
    refine lv_ior hx hb dX1_absorbByte_56 ?_
    refine wI hx hb hK hW 4 rfl (k := (hib nt) / 2 ^ 2) (by omega) (by omega) dX1_absorbByte_57 (fun H locs hW => ?_)
    have hW : Wd D A s [(h0, .inr (1, [.ref m0, .ref qk, .ref qs, .ref qc, .ref qb, .int (md), .int (bs), .int (nI (fc)), .int (nI (nt)), .int (nI (clo nt)), .int (nI (hdp nt)), .int (nI (hbk nt)), .int (nI (hib nt))])), (qk, .inl (cy 0, 8, .inl (kf))), (qs, .inl (cy 0, 40, .inl (sf))), (qc, .inl (cy 0, 8, .inl (hcf kf bs g fc nt))), (qb, .inl (cy 0, 16, .inl (upd (hbf g nt) ((hib nt) / 2 ^ 2) (((hbf g nt) ((hib nt) / 2 ^ 2)) ||| ((b &&& (nI (255))) <<< ((nI (8 * ((hib nt) % 2 ^ 2))) &&& 31)))))), (m0, .inr (2, [.ref mc, .ref mb, .long (ct), .int (ln), .int (fl), .ref mv, .ref aw, .ref an])), (mc, .inl (cy 0, 8, .inl (ch))), (mb, .inl (cy 0, 16, .inl (bl))), (mv, .inl (cy 0, 16, .inl (v))), (aw, .inl (cy 0, 16, .inl (w))), (an, .inl (cy 0, 16, .inl (nw)))] H locs := hW
    refine lv_aload_n hx hb dX1_absorbByte_58 rfl (lv_at hl 0 rfl) ?_
    refine lv_dup hx hb dX1_absorbByte_59 rfl ?_
    refine va_get (D := D) (ci := 1) (v := .int (nI (hib nt))) (C := RX1) (T := TX1) (N := 13) hx hb hts i_X1_absorbByte_X1 hown hK hW.1 0 rfl rfl 12 (by decide) (hts (.fieldLink RX1 67 "TreeHashes$Hasher" "inBlock" "I") f_X1_absorbByte_0) (fun _ h9 => h9) rfl dX1_absorbByte_60 ?_
    refine lv_iconst (v := nI (1)) hx hb dX1_absorbByte_63 (by decide) ?_
    refine lv_iadd hx hb dX1_absorbByte_64 ?_
    refine tI (nI_add _ _) ?_
    refine va_put (D := D) (ci := 1) (v := .int (nI ((hib nt) + 1))) (ty := .int) (C := RX1) (T := TX1) (N := 13) hx hb hts i_X1_absorbByte_X1 tyX1 tyX1_ok nmX1 hown hK hW.1 hW.2.1 hW.2.2 0 rfl rfl 12 (by decide) (hts (.fieldLink RX1 67 "TreeHashes$Hasher" "inBlock" "I") f_X1_absorbByte_0) (fun _ h9 => h9) rfl (by decide +kernel) rfl rfl (Nat.le_of_ble_eq_true rfl) dX1_absorbByte_65 (fun H locs hP hD hS => ?_)
    have hW : Wd D A s [(h0, .inr (1, [.ref m0, .ref qk, .ref qs, .ref qc, .ref qb, .int (md), .int (bs), .int (nI (fc)), .int (nI (nt)), .int (nI (clo nt)), .int (nI (hdp nt)), .int (nI (hbk nt)), .int (nI ((hib nt) + 1))])), (qk, .inl (cy 0, 8, .inl (kf))), (qs, .inl (cy 0, 40, .inl (sf))), (qc, .inl (cy 0, 8, .inl (hcf kf bs g fc nt))), (qb, .inl (cy 0, 16, .inl (upd (hbf g nt) ((hib nt) / 2 ^ 2) (((hbf g nt) ((hib nt) / 2 ^ 2)) ||| ((b &&& (nI (255))) <<< ((nI (8 * ((hib nt) % 2 ^ 2))) &&& 31)))))), (m0, .inr (2, [.ref mc, .ref mb, .long (ct), .int (ln), .int (fl), .ref mv, .ref aw, .ref an])), (mc, .inl (cy 0, 8, .inl (ch))), (mb, .inl (cy 0, 16, .inl (bl))), (mv, .inl (cy 0, 16, .inl (v))), (aw, .inl (cy 0, 16, .inl (w))), (an, .inl (cy 0, 16, .inl (nw)))] H locs := ⟨hP, hD, hS⟩
    refine lv_aload_n hx hb dX1_absorbByte_68 rfl (lv_at hl 0 rfl) ?_
    refine lv_dup hx hb dX1_absorbByte_69 rfl ?_
    refine va_get (D := D) (ci := 1) (v := .int (nI (nt))) (C := RX1) (T := TX1) (N := 13) hx hb hts i_X1_absorbByte_X1 hown hK hW.1 0 rfl rfl 8 (by decide) (hts (.fieldLink RX1 52 "TreeHashes$Hasher" "taken" "I") f_X1_absorbByte_3) (fun _ h9 => h9) rfl dX1_absorbByte_70 ?_
    refine lv_iconst (v := nI (1)) hx hb dX1_absorbByte_73 (by decide) ?_
    refine lv_iadd hx hb dX1_absorbByte_74 ?_
    refine tI (nI_add _ _) ?_
    refine va_put (D := D) (ci := 1) (v := .int (nI (nt + 1))) (ty := .int) (C := RX1) (T := TX1) (N := 13) hx hb hts i_X1_absorbByte_X1 tyX1 tyX1_ok nmX1 hown hK hW.1 hW.2.1 hW.2.2 0 rfl rfl 8 (by decide) (hts (.fieldLink RX1 52 "TreeHashes$Hasher" "taken" "I") f_X1_absorbByte_3) (fun _ h9 => h9) rfl (by decide +kernel) rfl rfl (Nat.le_of_ble_eq_true rfl) dX1_absorbByte_75 (fun H locs hP hD hS => ?_)
    have hW : Wd D A s [(h0, .inr (1, [.ref m0, .ref qk, .ref qs, .ref qc, .ref qb, .int (md), .int (bs), .int (nI (fc)), .int (nI (nt + 1)), .int (nI (clo nt)), .int (nI (hdp nt)), .int (nI (hbk nt)), .int (nI ((hib nt) + 1))])), (qk, .inl (cy 0, 8, .inl (kf))), (qs, .inl (cy 0, 40, .inl (sf))), (qc, .inl (cy 0, 8, .inl (hcf kf bs g fc nt))), (qb, .inl (cy 0, 16, .inl (upd (hbf g nt) ((hib nt) / 2 ^ 2) (((hbf g nt) ((hib nt) / 2 ^ 2)) ||| ((b &&& (nI (255))) <<< ((nI (8 * ((hib nt) % 2 ^ 2))) &&& 31)))))), (m0, .inr (2, [.ref mc, .ref mb, .long (ct), .int (ln), .int (fl), .ref mv, .ref aw, .ref an])), (mc, .inl (cy 0, 8, .inl (ch))), (mb, .inl (cy 0, 16, .inl (bl))), (mv, .inl (cy 0, 16, .inl (v))), (aw, .inl (cy 0, 16, .inl (w))), (an, .inl (cy 0, 16, .inl (nw)))] H locs := ⟨hP, hD, hS⟩
    exact eV hQ hx hb hr hlocks hK hW (sf, ch, bl, ct, ln, fl, v, aw, an, w, nw) (by rw [e1, show hdp (nt + 1) = hdp nt from by unfold hdp; rw [e1]]; exact hSk) (by simp only [e4, e5, hg]; simp only [e1, e2, e3, hdp]) dX1_absorbByte_78
  · skip
    have h6 : hib nt = 64 := by omega
    refine lv_aload_n hx hb dX1_absorbByte_9 rfl (lv_at hl 0 rfl) ?_
    refine va_get (D := D) (ci := 1) (v := .int (nI (hbk nt))) (C := RX1) (T := TX1) (N := 13) hx hb hts i_X1_absorbByte_X1 hown hK hW.1 0 rfl rfl 11 (by decide) (hts (.fieldLink RX1 64 "TreeHashes$Hasher" "blocks" "I") f_X1_absorbByte_4) (fun _ h9 => h9) rfl dX1_absorbByte_10 ?_
    refine lv_bipush (v := nI (15)) hx hb dX1_absorbByte_13 (by decide) ?_
    refine iNe (a := hbk nt) (b := 15) (tgt := 25) hx hb dX1_absorbByte_15 (by decide) (by omega) (by omega) (fun h15 => ?_) (fun h15 => ?_)
    · skip
      obtain ⟨e1, e2, e3⟩ := h_b h6 h15
      have e4 := h_b4 (K := kf) (bs := bs) (g := g) (fc := fc) h6 h15
      have e5 := h_b5 (g := g) e3
      refine lv_aload_n hx hb dX1_absorbByte_25 rfl (lv_at hl 0 rfl) ?_
      refine kVv (As := []) (rest := []) S0 hK hst hA hW [0, 3, 4, 5, 6, 7, 8, 9, 10] (fun sz => c_X1_closeBlock l D cy t m0 mc mb mv aw an ct ln fl h0 qk qs qc qb md bs fc nt (clo nt) (hdp nt) (hbk nt) (hib nt) ch bl v w nw (hcf kf bs g fc nt) (hbf g nt) (by omega) (by omega) sz) rfl (by decide) (cwV 0 hts gX1_absorbByte_X1_closeBlock rfl rfl rfl (by decide +kernel) ⟨Nat.le_of_ble_eq_true rfl, Nat.le_of_ble_eq_true rfl⟩) (fun ⟨_, _, _, _⟩ => rfl) 0 1 rfl rfl rfl hl.1 rfl (Nat.le_of_ble_eq_true rfl) dX1_absorbByte_26 ⟨Nat.le_of_ble_eq_true rfl, Nat.le_of_ble_eq_true rfl⟩ (fun u26 H locs p26 hW => ?_)
      obtain ⟨aw2_26, an2_26, w2_26, nw2_26⟩ := u26
      have hW : Wd D A s [(h0, .inr (1, [.ref m0, .ref qk, .ref qs, .ref qc, .ref qb, .int (md), .int (bs), .int (nI (fc)), .int (nI (nt)), .int (nI ((clo nt))), .int (nI ((hdp nt))), .int (nI ((hbk nt) + 1)), .int (nI (0))])), (qk, .inl (cy 0, 8, .inl (kf))), (qs, .inl (cy 0, 40, .inl (sf))), (qc, .inl (cy 0, 8, .inl (mixV (hcf kf bs g fc nt) (hbf g nt) (lN (fc + (clo nt))) (nI ((hib nt))) ((bs + (nI (fst0 (hbk nt)))) + (nI (0)))))), (qb, .inl (cy 0, 16, .inl ((fun _ => nI (0))))), (m0, .inr (2, [.ref mc, .ref mb, .long (lN (fc + (clo nt))), .int (nI ((hib nt))), .int ((bs + (nI (fst0 (hbk nt)))) + (nI (0))), .ref mv, .ref aw2_26, .ref an2_26])), (mc, .inl (cy 0, 8, .inl ((hcf kf bs g fc nt)))), (mb, .inl (cy 0, 16, .inl ((hbf g nt)))), (mv, .inl (cy 0, 16, .inl (mixV (hcf kf bs g fc nt) (hbf g nt) (lN (fc + (clo nt))) (nI ((hib nt))) ((bs + (nI (fst0 (hbk nt)))) + (nI (0)))))), (aw2_26, .inl (cy 0, 16, .inl (w2_26))), (an2_26, .inl (cy 0, 16, .inl (nw2_26)))] H locs := hW
      refine lv_aload_n hx hb dX1_absorbByte_29 rfl (lv_at hl 0 rfl) ?_
      refine va_get (D := D) (ci := 1) (v := .ref qb) (C := RX1) (T := TX1) (N := 13) hx hb hts i_X1_absorbByte_X1 hown hK hW.1 0 rfl rfl 4 (by decide) (hts (.fieldLink RX1 28 "TreeHashes$Hasher" "block" "[I") f_X1_absorbByte_2) (fun _ h9 => h9) rfl dX1_absorbByte_30 ?_
      refine lv_aload_n hx hb dX1_absorbByte_33 rfl (lv_at hl 0 rfl) ?_
      refine va_get (D := D) (ci := 1) (v := .int (nI (0))) (C := RX1) (T := TX1) (N := 13) hx hb hts i_X1_absorbByte_X1 hown hK hW.1 0 rfl rfl 12 (by decide) (hts (.fieldLink RX1 67 "TreeHashes$Hasher" "inBlock" "I") f_X1_absorbByte_0) (fun _ h9 => h9) rfl dX1_absorbByte_34 ?_
      refine lv_iconst (v := nI (2)) hx hb dX1_absorbByte_37 (by decide) ?_
      refine lv_ishr hx hb dX1_absorbByte_38 ?_
      refine tI (x' := nI (0 / 2 ^ 2)) (pk_shrN (by omega) _ 2 (by decide)) ?_
      refine lv_dup2_11 hx hb dX1_absorbByte_39 rfl rfl ?_
      refine rI hx hb hK hW 4 rfl (k := 0 / 2 ^ 2) (by omega) (by omega) dX1_absorbByte_40 ?_
      refine lv_iload_n hx hb dX1_absorbByte_41 rfl (lv_at hl 1 rfl) ?_
      refine lv_sipush (v := nI (255)) hx hb dX1_absorbByte_42 (by decide) ?_
      refine lv_iand hx hb dX1_absorbByte_45 ?_
      refine lv_bipush (v := nI (8)) hx hb dX1_absorbByte_46 (by decide) ?_
      refine lv_aload_n hx hb dX1_absorbByte_48 rfl (lv_at hl 0 rfl) ?_
      refine va_get (D := D) (ci := 1) (v := .int (nI (0))) (C := RX1) (T := TX1) (N := 13) hx hb hts i_X1_absorbByte_X1 hown hK hW.1 0 rfl rfl 12 (by decide) (hts (.fieldLink RX1 67 "TreeHashes$Hasher" "inBlock" "I") f_X1_absorbByte_0) (fun _ h9 => h9) rfl dX1_absorbByte_49 ?_
      refine lv_iconst (v := nI (3)) hx hb dX1_absorbByte_52 (by decide) ?_
      refine lv_iand hx hb dX1_absorbByte_53 ?_
      refine tI (x' := nI (0 % 2 ^ 2)) (pk_andN (by omega) 2 (by decide)) ?_
      refine lv_imul hx hb dX1_absorbByte_54 ?_
      refine tI (pk_mul _ _) ?_
      refine lv_ishl hx hb dX1_absorbByte_55 ?_
      refine lv_ior hx hb dX1_absorbByte_56 ?_
      refine wI hx hb hK hW 4 rfl (k := 0 / 2 ^ 2) (by omega) (by omega) dX1_absorbByte_57 (fun H locs hW => ?_)
      have hW : Wd D A s [(h0, .inr (1, [.ref m0, .ref qk, .ref qs, .ref qc, .ref qb, .int (md), .int (bs), .int (nI (fc)), .int (nI (nt)), .int (nI ((clo nt))), .int (nI ((hdp nt))), .int (nI ((hbk nt) + 1)), .int (nI (0))])), (qk, .inl (cy 0, 8, .inl (kf))), (qs, .inl (cy 0, 40, .inl (sf))), (qc, .inl (cy 0, 8, .inl (mixV (hcf kf bs g fc nt) (hbf g nt) (lN (fc + (clo nt))) (nI ((hib nt))) ((bs + (nI (fst0 (hbk nt)))) + (nI (0)))))), (qb, .inl (cy 0, 16, .inl (upd (fun _ => nI (0)) (0 / 2 ^ 2) (((fun _ => nI (0)) (0 / 2 ^ 2)) ||| ((b &&& (nI (255))) <<< ((nI (8 * (0 % 2 ^ 2))) &&& 31)))))), (m0, .inr (2, [.ref mc, .ref mb, .long (lN (fc + (clo nt))), .int (nI ((hib nt))), .int ((bs + (nI (fst0 (hbk nt)))) + (nI (0))), .ref mv, .ref aw2_26, .ref an2_26])), (mc, .inl (cy 0, 8, .inl ((hcf kf bs g fc nt)))), (mb, .inl (cy 0, 16, .inl ((hbf g nt)))), (mv, .inl (cy 0, 16, .inl (mixV (hcf kf bs g fc nt) (hbf g nt) (lN (fc + (clo nt))) (nI ((hib nt))) ((bs + (nI (fst0 (hbk nt)))) + (nI (0)))))), (aw2_26, .inl (cy 0, 16, .inl (w2_26))), (an2_26, .inl (cy 0, 16, .inl (nw2_26)))] H locs := hW
      refine lv_aload_n hx hb dX1_absorbByte_58 rfl (lv_at hl 0 rfl) ?_
      refine lv_dup hx hb dX1_absorbByte_59 rfl ?_
      refine va_get (D := D) (ci := 1) (v := .int (nI (0))) (C := RX1) (T := TX1) (N := 13) hx hb hts i_X1_absorbByte_X1 hown hK hW.1 0 rfl rfl 12 (by decide) (hts (.fieldLink RX1 67 "TreeHashes$Hasher" "inBlock" "I") f_X1_absorbByte_0) (fun _ h9 => h9) rfl dX1_absorbByte_60 ?_
      refine lv_iconst (v := nI (1)) hx hb dX1_absorbByte_63 (by decide) ?_
      refine lv_iadd hx hb dX1_absorbByte_64 ?_
      refine tI (nI_add _ _) ?_
      refine va_put (D := D) (ci := 1) (v := .int (nI (0 + 1))) (ty := .int) (C := RX1) (T := TX1) (N := 13) hx hb hts i_X1_absorbByte_X1 tyX1 tyX1_ok nmX1 hown hK hW.1 hW.2.1 hW.2.2 0 rfl rfl 12 (by decide) (hts (.fieldLink RX1 67 "TreeHashes$Hasher" "inBlock" "I") f_X1_absorbByte_0) (fun _ h9 => h9) rfl (by decide +kernel) rfl rfl (Nat.le_of_ble_eq_true rfl) dX1_absorbByte_65 (fun H locs hP hD hS => ?_)
      have hW : Wd D A s [(h0, .inr (1, [.ref m0, .ref qk, .ref qs, .ref qc, .ref qb, .int (md), .int (bs), .int (nI (fc)), .int (nI (nt)), .int (nI ((clo nt))), .int (nI ((hdp nt))), .int (nI ((hbk nt) + 1)), .int (nI (0 + 1))])), (qk, .inl (cy 0, 8, .inl (kf))), (qs, .inl (cy 0, 40, .inl (sf))), (qc, .inl (cy 0, 8, .inl (mixV (hcf kf bs g fc nt) (hbf g nt) (lN (fc + (clo nt))) (nI ((hib nt))) ((bs + (nI (fst0 (hbk nt)))) + (nI (0)))))), (qb, .inl (cy 0, 16, .inl (upd (fun _ => nI (0)) (0 / 2 ^ 2) (((fun _ => nI (0)) (0 / 2 ^ 2)) ||| ((b &&& (nI (255))) <<< ((nI (8 * (0 % 2 ^ 2))) &&& 31)))))), (m0, .inr (2, [.ref mc, .ref mb, .long (lN (fc + (clo nt))), .int (nI ((hib nt))), .int ((bs + (nI (fst0 (hbk nt)))) + (nI (0))), .ref mv, .ref aw2_26, .ref an2_26])), (mc, .inl (cy 0, 8, .inl ((hcf kf bs g fc nt)))), (mb, .inl (cy 0, 16, .inl ((hbf g nt)))), (mv, .inl (cy 0, 16, .inl (mixV (hcf kf bs g fc nt) (hbf g nt) (lN (fc + (clo nt))) (nI ((hib nt))) ((bs + (nI (fst0 (hbk nt)))) + (nI (0)))))), (aw2_26, .inl (cy 0, 16, .inl (w2_26))), (an2_26, .inl (cy 0, 16, .inl (nw2_26)))] H locs := ⟨hP, hD, hS⟩
      refine lv_aload_n hx hb dX1_absorbByte_68 rfl (lv_at hl 0 rfl) ?_
      refine lv_dup hx hb dX1_absorbByte_69 rfl ?_
      refine va_get (D := D) (ci := 1) (v := .int (nI (nt))) (C := RX1) (T := TX1) (N := 13) hx hb hts i_X1_absorbByte_X1 hown hK hW.1 0 rfl rfl 8 (by decide) (hts (.fieldLink RX1 52 "TreeHashes$Hasher" "taken" "I") f_X1_absorbByte_3) (fun _ h9 => h9) rfl dX1_absorbByte_70 ?_
      refine lv_iconst (v := nI (1)) hx hb dX1_absorbByte_73 (by decide) ?_
      refine lv_iadd hx hb dX1_absorbByte_74 ?_
      refine tI (nI_add _ _) ?_
      refine va_put (D := D) (ci := 1) (v := .int (nI (nt + 1))) (ty := .int) (C := RX1) (T := TX1) (N := 13) hx hb hts i_X1_absorbByte_X1 tyX1 tyX1_ok nmX1 hown hK hW.1 hW.2.1 hW.2.2 0 rfl rfl 8 (by decide) (hts (.fieldLink RX1 52 "TreeHashes$Hasher" "taken" "I") f_X1_absorbByte_3) (fun _ h9 => h9) rfl (by decide +kernel) rfl rfl (Nat.le_of_ble_eq_true rfl) dX1_absorbByte_75 (fun H locs hP hD hS => ?_)
      have hW : Wd D A s [(h0, .inr (1, [.ref m0, .ref qk, .ref qs, .ref qc, .ref qb, .int (md), .int (bs), .int (nI (fc)), .int (nI (nt + 1)), .int (nI ((clo nt))), .int (nI ((hdp nt))), .int (nI ((hbk nt) + 1)), .int (nI (0 + 1))])), (qk, .inl (cy 0, 8, .inl (kf))), (qs, .inl (cy 0, 40, .inl (sf))), (qc, .inl (cy 0, 8, .inl (mixV (hcf kf bs g fc nt) (hbf g nt) (lN (fc + (clo nt))) (nI ((hib nt))) ((bs + (nI (fst0 (hbk nt)))) + (nI (0)))))), (qb, .inl (cy 0, 16, .inl (upd (fun _ => nI (0)) (0 / 2 ^ 2) (((fun _ => nI (0)) (0 / 2 ^ 2)) ||| ((b &&& (nI (255))) <<< ((nI (8 * (0 % 2 ^ 2))) &&& 31)))))), (m0, .inr (2, [.ref mc, .ref mb, .long (lN (fc + (clo nt))), .int (nI ((hib nt))), .int ((bs + (nI (fst0 (hbk nt)))) + (nI (0))), .ref mv, .ref aw2_26, .ref an2_26])), (mc, .inl (cy 0, 8, .inl ((hcf kf bs g fc nt)))), (mb, .inl (cy 0, 16, .inl ((hbf g nt)))), (mv, .inl (cy 0, 16, .inl (mixV (hcf kf bs g fc nt) (hbf g nt) (lN (fc + (clo nt))) (nI ((hib nt))) ((bs + (nI (fst0 (hbk nt)))) + (nI (0)))))), (aw2_26, .inl (cy 0, 16, .inl (w2_26))), (an2_26, .inl (cy 0, 16, .inl (nw2_26)))] H locs := ⟨hP, hD, hS⟩
      exact eV hQ hx hb hr hlocks hK hW (sf, (hcf kf bs g fc nt), (hbf g nt), lN (fc + (clo nt)), nI ((hib nt)), (bs + (nI (fst0 (hbk nt)))) + (nI (0)), mixV (hcf kf bs g fc nt) (hbf g nt) (lN (fc + (clo nt))) (nI ((hib nt))) ((bs + (nI (fst0 (hbk nt)))) + (nI (0))), aw2_26, an2_26, w2_26, nw2_26) (by rw [e1, show hdp (nt + 1) = hdp nt from by unfold hdp; rw [e1]]; exact hSk) (by simp only [e4, e5, hg]; simp only [e1, e2, e3, hdp]) dX1_absorbByte_78
    · skip
      obtain ⟨e1, e2, e3, e6⟩ := h_c h6 h15
      have e4 := h_c4 (K := kf) (bs := bs) (g := g) (fc := fc) h6 h15
      have e5 := h_b5 (g := g) e3
      obtain ⟨e7, e8⟩ := h_cR (K := kf) (bs := bs) (g := g) (fc := fc) h6 h15 (by omega)
      refine lv_aload_n hx hb dX1_absorbByte_18 rfl (lv_at hl 0 rfl) ?_
      refine kVv (As := []) (rest := []) S0 hK hst hA hW [0, 1, 2, 3, 4, 5, 6, 7, 8, 9, 10] (fun sz => c_X1_closeChunk l D cy t m0 mc mb mv aw an ct ln fl h0 qk qs qc qb md bs fc nt (clo nt) (hdp nt) (hbk nt) (hib nt) ch bl v w nw kf sf (hcf kf bs g fc nt) (hbf g nt) (skS kf bs g fc (clo nt)) (by omega) (by omega) (by omega) (rfl) (hSk) sz) rfl (by decide) (cwV 0 hts gX1_absorbByte_X1_closeChunk rfl rfl rfl (by decide +kernel) ⟨Nat.le_of_ble_eq_true rfl, Nat.le_of_ble_eq_true rfl⟩) (fun ⟨_, _, _, _, _, _, _, _, _, _, _⟩ => rfl) 0 1 rfl rfl rfl hl.1 rfl (Nat.le_of_ble_eq_true rfl) dX1_absorbByte_19 ⟨Nat.le_of_ble_eq_true rfl, Nat.le_of_ble_eq_true rfl⟩ (fun u19 H locs p19 hW => ?_)
      obtain ⟨sf2_19, ch2_19, bl2_19, ct2_19, ln2_19, fl2_19, v2_19, aw2_19, an2_19, w2_19, nw2_19⟩ := u19
      have hW : Wd D A s [(h0, .inr (1, [.ref m0, .ref qk, .ref qs, .ref qc, .ref qb, .int (md), .int (bs), .int (nI (fc)), .int (nI (nt)), .int (nI ((clo nt) + 1)), .int (nI ((mg kf bs (skS kf bs g fc (clo nt)) (hdp nt) ((clo nt) + 1) (mixV (hcf kf bs g fc nt) (hbf g nt) (lN (fc + (clo nt))) (nI ((hib nt))) ((bs + (nI (fst0 (hbk nt)))) + (nI (2))))).1 + 1)), .int (nI (0)), .int (nI (0))])), (qk, .inl (cy 0, 8, .inl (kf))), (qs, .inl (cy 0, 40, .inl (sf2_19))), (qc, .inl (cy 0, 8, .inl (kf))), (qb, .inl (cy 0, 16, .inl ((fun _ => nI (0))))), (m0, .inr (2, [.ref mc, .ref mb, .long (ct2_19), .int (ln2_19), .int (fl2_19), .ref mv, .ref aw2_19, .ref an2_19])), (mc, .inl (cy 0, 8, .inl (ch2_19))), (mb, .inl (cy 0, 16, .inl (bl2_19))), (mv, .inl (cy 0, 16, .inl (v2_19))), (aw2_19, .inl (cy 0, 16, .inl (w2_19))), (an2_19, .inl (cy 0, 16, .inl (nw2_19)))] H locs := hW
      refine lv_goto (tgt := 29) hx hb dX1_absorbByte_22 (by decide) ?_
      refine lv_aload_n hx hb dX1_absorbByte_29 rfl (lv_at hl 0 rfl) ?_
      refine va_get (D := D) (ci := 1) (v := .ref qb) (C := RX1) (T := TX1) (N := 13) hx hb hts i_X1_absorbByte_X1 hown hK hW.1 0 rfl rfl 4 (by decide) (hts (.fieldLink RX1 28 "TreeHashes$Hasher" "block" "[I") f_X1_absorbByte_2) (fun _ h9 => h9) rfl dX1_absorbByte_30 ?_
      refine lv_aload_n hx hb dX1_absorbByte_33 rfl (lv_at hl 0 rfl) ?_
      refine va_get (D := D) (ci := 1) (v := .int (nI (0))) (C := RX1) (T := TX1) (N := 13) hx hb hts i_X1_absorbByte_X1 hown hK hW.1 0 rfl rfl 12 (by decide) (hts (.fieldLink RX1 67 "TreeHashes$Hasher" "inBlock" "I") f_X1_absorbByte_0) (fun _ h9 => h9) rfl dX1_absorbByte_34 ?_
      refine lv_iconst (v := nI (2)) hx hb dX1_absorbByte_37 (by decide) ?_
      refine lv_ishr hx hb dX1_absorbByte_38 ?_
      refine tI (x' := nI (0 / 2 ^ 2)) (pk_shrN (by omega) _ 2 (by decide)) ?_
      refine lv_dup2_11 hx hb dX1_absorbByte_39 rfl rfl ?_
      refine rI hx hb hK hW 4 rfl (k := 0 / 2 ^ 2) (by omega) (by omega) dX1_absorbByte_40 ?_
      refine lv_iload_n hx hb dX1_absorbByte_41 rfl (lv_at hl 1 rfl) ?_
      refine lv_sipush (v := nI (255)) hx hb dX1_absorbByte_42 (by decide) ?_
      refine lv_iand hx hb dX1_absorbByte_45 ?_
      refine lv_bipush (v := nI (8)) hx hb dX1_absorbByte_46 (by decide) ?_
      refine lv_aload_n hx hb dX1_absorbByte_48 rfl (lv_at hl 0 rfl) ?_
      refine va_get (D := D) (ci := 1) (v := .int (nI (0))) (C := RX1) (T := TX1) (N := 13) hx hb hts i_X1_absorbByte_X1 hown hK hW.1 0 rfl rfl 12 (by decide) (hts (.fieldLink RX1 67 "TreeHashes$Hasher" "inBlock" "I") f_X1_absorbByte_0) (fun _ h9 => h9) rfl dX1_absorbByte_49 ?_
      refine lv_iconst (v := nI (3)) hx hb dX1_absorbByte_52 (by decide) ?_
      refine lv_iand hx hb dX1_absorbByte_53 ?_
      refine tI (x' := nI (0 % 2 ^ 2)) (pk_andN (by omega) 2 (by decide)) ?_
      refine lv_imul hx hb dX1_absorbByte_54 ?_
      refine tI (pk_mul _ _) ?_
      refine lv_ishl hx hb dX1_absorbByte_55 ?_
      refine lv_ior hx hb dX1_absorbByte_56 ?_
      refine wI hx hb hK hW 4 rfl (k := 0 / 2 ^ 2) (by omega) (by omega) dX1_absorbByte_57 (fun H locs hW => ?_)
      have hW : Wd D A s [(h0, .inr (1, [.ref m0, .ref qk, .ref qs, .ref qc, .ref qb, .int (md), .int (bs), .int (nI (fc)), .int (nI (nt)), .int (nI ((clo nt) + 1)), .int (nI ((mg kf bs (skS kf bs g fc (clo nt)) (hdp nt) ((clo nt) + 1) (mixV (hcf kf bs g fc nt) (hbf g nt) (lN (fc + (clo nt))) (nI ((hib nt))) ((bs + (nI (fst0 (hbk nt)))) + (nI (2))))).1 + 1)), .int (nI (0)), .int (nI (0))])), (qk, .inl (cy 0, 8, .inl (kf))), (qs, .inl (cy 0, 40, .inl (sf2_19))), (qc, .inl (cy 0, 8, .inl (kf))), (qb, .inl (cy 0, 16, .inl (upd (fun _ => nI (0)) (0 / 2 ^ 2) (((fun _ => nI (0)) (0 / 2 ^ 2)) ||| ((b &&& (nI (255))) <<< ((nI (8 * (0 % 2 ^ 2))) &&& 31)))))), (m0, .inr (2, [.ref mc, .ref mb, .long (ct2_19), .int (ln2_19), .int (fl2_19), .ref mv, .ref aw2_19, .ref an2_19])), (mc, .inl (cy 0, 8, .inl (ch2_19))), (mb, .inl (cy 0, 16, .inl (bl2_19))), (mv, .inl (cy 0, 16, .inl (v2_19))), (aw2_19, .inl (cy 0, 16, .inl (w2_19))), (an2_19, .inl (cy 0, 16, .inl (nw2_19)))] H locs := hW
      refine lv_aload_n hx hb dX1_absorbByte_58 rfl (lv_at hl 0 rfl) ?_
      refine lv_dup hx hb dX1_absorbByte_59 rfl ?_
      refine va_get (D := D) (ci := 1) (v := .int (nI (0))) (C := RX1) (T := TX1) (N := 13) hx hb hts i_X1_absorbByte_X1 hown hK hW.1 0 rfl rfl 12 (by decide) (hts (.fieldLink RX1 67 "TreeHashes$Hasher" "inBlock" "I") f_X1_absorbByte_0) (fun _ h9 => h9) rfl dX1_absorbByte_60 ?_
      refine lv_iconst (v := nI (1)) hx hb dX1_absorbByte_63 (by decide) ?_
      refine lv_iadd hx hb dX1_absorbByte_64 ?_
      refine tI (nI_add _ _) ?_
      refine va_put (D := D) (ci := 1) (v := .int (nI (0 + 1))) (ty := .int) (C := RX1) (T := TX1) (N := 13) hx hb hts i_X1_absorbByte_X1 tyX1 tyX1_ok nmX1 hown hK hW.1 hW.2.1 hW.2.2 0 rfl rfl 12 (by decide) (hts (.fieldLink RX1 67 "TreeHashes$Hasher" "inBlock" "I") f_X1_absorbByte_0) (fun _ h9 => h9) rfl (by decide +kernel) rfl rfl (Nat.le_of_ble_eq_true rfl) dX1_absorbByte_65 (fun H locs hP hD hS => ?_)
      have hW : Wd D A s [(h0, .inr (1, [.ref m0, .ref qk, .ref qs, .ref qc, .ref qb, .int (md), .int (bs), .int (nI (fc)), .int (nI (nt)), .int (nI ((clo nt) + 1)), .int (nI ((mg kf bs (skS kf bs g fc (clo nt)) (hdp nt) ((clo nt) + 1) (mixV (hcf kf bs g fc nt) (hbf g nt) (lN (fc + (clo nt))) (nI ((hib nt))) ((bs + (nI (fst0 (hbk nt)))) + (nI (2))))).1 + 1)), .int (nI (0)), .int (nI (0 + 1))])), (qk, .inl (cy 0, 8, .inl (kf))), (qs, .inl (cy 0, 40, .inl (sf2_19))), (qc, .inl (cy 0, 8, .inl (kf))), (qb, .inl (cy 0, 16, .inl (upd (fun _ => nI (0)) (0 / 2 ^ 2) (((fun _ => nI (0)) (0 / 2 ^ 2)) ||| ((b &&& (nI (255))) <<< ((nI (8 * (0 % 2 ^ 2))) &&& 31)))))), (m0, .inr (2, [.ref mc, .ref mb, .long (ct2_19), .int (ln2_19), .int (fl2_19), .ref mv, .ref aw2_19, .ref an2_19])), (mc, .inl (cy 0, 8, .inl (ch2_19))), (mb, .inl (cy 0, 16, .inl (bl2_19))), (mv, .inl (cy 0, 16, .inl (v2_19))), (aw2_19, .inl (cy 0, 16, .inl (w2_19))), (an2_19, .inl (cy 0, 16, .inl (nw2_19)))] H locs := ⟨hP, hD, hS⟩
      refine lv_aload_n hx hb dX1_absorbByte_68 rfl (lv_at hl 0 rfl) ?_
      refine lv_dup hx hb dX1_absorbByte_69 rfl ?_
      refine va_get (D := D) (ci := 1) (v := .int (nI (nt))) (C := RX1) (T := TX1) (N := 13) hx hb hts i_X1_absorbByte_X1 hown hK hW.1 0 rfl rfl 8 (by decide) (hts (.fieldLink RX1 52 "TreeHashes$Hasher" "taken" "I") f_X1_absorbByte_3) (fun _ h9 => h9) rfl dX1_absorbByte_70 ?_
      refine lv_iconst (v := nI (1)) hx hb dX1_absorbByte_73 (by decide) ?_
      refine lv_iadd hx hb dX1_absorbByte_74 ?_
      refine tI (nI_add _ _) ?_
      refine va_put (D := D) (ci := 1) (v := .int (nI (nt + 1))) (ty := .int) (C := RX1) (T := TX1) (N := 13) hx hb hts i_X1_absorbByte_X1 tyX1 tyX1_ok nmX1 hown hK hW.1 hW.2.1 hW.2.2 0 rfl rfl 8 (by decide) (hts (.fieldLink RX1 52 "TreeHashes$Hasher" "taken" "I") f_X1_absorbByte_3) (fun _ h9 => h9) rfl (by decide +kernel) rfl rfl (Nat.le_of_ble_eq_true rfl) dX1_absorbByte_75 (fun H locs hP hD hS => ?_)
      have hW : Wd D A s [(h0, .inr (1, [.ref m0, .ref qk, .ref qs, .ref qc, .ref qb, .int (md), .int (bs), .int (nI (fc)), .int (nI (nt + 1)), .int (nI ((clo nt) + 1)), .int (nI ((mg kf bs (skS kf bs g fc (clo nt)) (hdp nt) ((clo nt) + 1) (mixV (hcf kf bs g fc nt) (hbf g nt) (lN (fc + (clo nt))) (nI ((hib nt))) ((bs + (nI (fst0 (hbk nt)))) + (nI (2))))).1 + 1)), .int (nI (0)), .int (nI (0 + 1))])), (qk, .inl (cy 0, 8, .inl (kf))), (qs, .inl (cy 0, 40, .inl (sf2_19))), (qc, .inl (cy 0, 8, .inl (kf))), (qb, .inl (cy 0, 16, .inl (upd (fun _ => nI (0)) (0 / 2 ^ 2) (((fun _ => nI (0)) (0 / 2 ^ 2)) ||| ((b &&& (nI (255))) <<< ((nI (8 * (0 % 2 ^ 2))) &&& 31)))))), (m0, .inr (2, [.ref mc, .ref mb, .long (ct2_19), .int (ln2_19), .int (fl2_19), .ref mv, .ref aw2_19, .ref an2_19])), (mc, .inl (cy 0, 8, .inl (ch2_19))), (mb, .inl (cy 0, 16, .inl (bl2_19))), (mv, .inl (cy 0, 16, .inl (v2_19))), (aw2_19, .inl (cy 0, 16, .inl (w2_19))), (an2_19, .inl (cy 0, 16, .inl (nw2_19)))] H locs := ⟨hP, hD, hS⟩
      exact eV hQ hx hb hr hlocks hK hW (sf2_19, ch2_19, bl2_19, ct2_19, ln2_19, fl2_19, v2_19, aw2_19, an2_19, w2_19, nw2_19) (by rw [e8, e7]; exact p19) (by simp only [e4, e5, hg]; rw [e7, e1, e2, e3]) dX1_absorbByte_78

set_option maxHeartbeats 4000000 in
set_option maxRecDepth 100000 in
theorem c_X1_absorb (l : Launch) (D : va_G) (cy : Nat → ClassId) (t : Nat × Nat) (m0 : Nat) (mc : Nat) (mb : Nat) (mv : Nat) (aw : Nat) (an : Nat) (ct : Int64) (ln : Int32) (fl : Int32) (h0 : Nat) (qk : Nat) (qs : Nat) (qc : Nat) (qb : Nat) (md : Int32) (bs : Int32) (fc : Nat) (nt : Nat) (kf : Nat → Int32) (sf : Nat → Int32) (g : Nat → Int32) (ch : Nat → Int32) (bl : Nat → Int32) (v : Nat → Int32) (w : Nat → Int32) (nw : Nat → Int32) (b0 : Nat) (b1 : Nat) (n0 : Nat) (cnt : Nat) (f : Nat → Int32) (k0 : Nat) (n : Nat) (ht : nt + n ≤ 40000) (hfc : fc ≤ 1000) (hSk : SKr sf (skS kf bs g fc (clo nt)) (hdp nt)) (hc : cnt ≤ n0) (hn : n0 < 2 ^ 31) (hk : k0 + n ≤ cnt) (hg : ∀ i, i < n → g (nt + i) = f (k0 + i) &&& 255) (sz : Nat) : Met l yX1_absorb wsX1_absorb ({ frames := 4, cells := 0, slots := 0, locals := 94 }) (PcW D cy t [(h0, .inr (1, [.ref m0, .ref qk, .ref qs, .ref qc, .ref qb, .int (md), .int (bs), .int (nI (fc)), .int (nI (nt)), .int (nI (clo nt)), .int (nI (hdp nt)), .int (nI (hbk nt)), .int (nI (hib nt))])), (qk, .inl (cy 0, 8, .inl (kf))), (qs, .inl (cy 0, 40, .inl (sf))), (qc, .inl (cy 0, 8, .inl (hcf kf bs g fc nt))), (qb, .inl (cy 0, 16, .inl (hbf g nt))), (m0, .inr (2, [.ref mc, .ref mb, .long (ct), .int (ln), .int (fl), .ref mv, .ref aw, .ref an])), (mc, .inl (cy 0, 8, .inl (ch))), (mb, .inl (cy 0, 16, .inl (bl))), (mv, .inl (cy 0, 16, .inl (v))), (aw, .inl (cy 0, 16, .inl (w))), (an, .inl (cy 0, 16, .inl (nw))), (b0, .inr (0, [.ref b1, .int (nI (cnt))])), (b1, .inl (cy 1, n0, .inl (f)))] [.ref h0, .ref b0, .int (nI (k0)), .int (nI (n))] sz) (QvA D cy (fun u : (Nat → Int32) × (Nat → Int32) × (Nat → Int32) × (Int64) × (Int32) × (Int32) × (Nat → Int32) × (Nat) × (Nat) × (Nat → Int32) × (Nat → Int32) => match u with | (sf2, ch2, bl2, ct2, ln2, fl2, v2, aw2, an2, w2, nw2) => (SKr sf2 (skS kf bs g fc (clo (nt + n))) (hdp (nt + n)))) (fun u : (Nat → Int32) × (Nat → Int32) × (Nat → Int32) × (Int64) × (Int32) × (Int32) × (Nat → Int32) × (Nat) × (Nat) × (Nat → Int32) × (Nat → Int32) => match u with | (sf2, ch2, bl2, ct2, ln2, fl2, v2, aw2, an2, w2, nw2) => [(h0, .inr (1, [.ref m0, .ref qk, .ref qs, .ref qc, .ref qb, .int (md), .int (bs), .int (nI (fc)), .int (nI (nt + n)), .int (nI (clo (nt + n))), .int (nI (hdp (nt + n))), .int (nI (hbk (nt + n))), .int (nI (hib (nt + n)))])), (qk, .inl (cy 0, 8, .inl (kf))), (qs, .inl (cy 0, 40, .inl (sf2))), (qc, .inl (cy 0, 8, .inl (hcf kf bs g fc (nt + n)))), (qb, .inl (cy 0, 16, .inl (hbf g (nt + n)))), (m0, .inr (2, [.ref mc, .ref mb, .long (ct2), .int (ln2), .int (fl2), .ref mv, .ref aw2, .ref an2])), (mc, .inl (cy 0, 8, .inl (ch2))), (mb, .inl (cy 0, 16, .inl (bl2))), (mv, .inl (cy 0, 16, .inl (v2))), (aw2, .inl (cy 0, 16, .inl (w2))), (an2, .inl (cy 0, 16, .inl (nw2))), (b0, .inr (0, [.ref b1, .int (nI (cnt))])), (b1, .inl (cy 1, n0, .inl (f)))]) (va_A [(h0, .inr (1, [.ref m0, .ref qk, .ref qs, .ref qc, .ref qb, .int (md), .int (bs), .int (nI (fc)), .int (nI (nt)), .int (nI (clo nt)), .int (nI (hdp nt)), .int (nI (hbk nt)), .int (nI (hib nt))])), (qk, .inl (cy 0, 8, .inl (kf))), (qs, .inl (cy 0, 40, .inl (sf))), (qc, .inl (cy 0, 8, .inl (hcf kf bs g fc nt))), (qb, .inl (cy 0, 16, .inl (hbf g nt))), (m0, .inr (2, [.ref mc, .ref mb, .long (ct), .int (ln), .int (fl), .ref mv, .ref aw, .ref an])), (mc, .inl (cy 0, 8, .inl (ch))), (mb, .inl (cy 0, 16, .inl (bl))), (mv, .inl (cy 0, 16, .inl (v))), (aw, .inl (cy 0, 16, .inl (w))), (an, .inl (cy 0, 16, .inl (nw))), (b0, .inr (0, [.ref b1, .int (nI (cnt))])), (b1, .inl (cy 1, n0, .inl (f)))] sz)) 0 0 (va_A [(h0, .inr (1, [.ref m0, .ref qk, .ref qs, .ref qc, .ref qb, .int (md), .int (bs), .int (nI (fc)), .int (nI (nt)), .int (nI (clo nt)), .int (nI (hdp nt)), .int (nI (hbk nt)), .int (nI (hib nt))])), (qk, .inl (cy 0, 8, .inl (kf))), (qs, .inl (cy 0, 40, .inl (sf))), (qc, .inl (cy 0, 8, .inl (hcf kf bs g fc nt))), (qb, .inl (cy 0, 16, .inl (hbf g nt))), (m0, .inr (2, [.ref mc, .ref mb, .long (ct), .int (ln), .int (fl), .ref mv, .ref aw, .ref an])), (mc, .inl (cy 0, 8, .inl (ch))), (mb, .inl (cy 0, 16, .inl (bl))), (mv, .inl (cy 0, 16, .inl (v))), (aw, .inl (cy 0, 16, .inl (w))), (an, .inl (cy 0, 16, .inl (nw))), (b0, .inr (0, [.ref b1, .int (nI (cnt))])), (b1, .inl (cy 1, n0, .inl (f)))] sz) := by
  refine M_ofW (cc := cX1_absorb) (maxL := 5) (ret := none) (by decide) rfl (Nat.le_of_ble_eq_true rfl) ?_
  intro p e s m below meth c A ls args Q hQ S0 hr hlocks hnm hK hst hA hW hl
  have hx := S0.1; have hb := S0.2.1; have hml := S0.2.2.1; have hown := S0.2.2.2.1; have hts := S0.2.2.2.2
  have hl : lv_has ls 5 [(0, .ref h0), (1, .ref b0), (2, .int (nI (k0))), (3, .int (nI (n)))] := hl
  refine lv_iconst (v := nI (0)) hx hb dX1_absorb_0 (by decide) ?_
  refine lv_istore (lv' := [(4, .int (nI (0))), (0, .ref h0), (1, .ref b0), (2, .int (nI (k0))), (3, .int (nI (n)))]) hx hb dX1_absorb_1 hl (by decide) rfl (fun ls hl => ?_)
  have loop3 : ∀ (nF : Nat) (i : Nat) (sx : Nat → Int32) (chx : Nat → Int32) (blx : Nat → Int32) (cx : Int64) (lx : Int32) (fx : Int32) (vx : Nat → Int32) (ax : Nat) (ay : Nat) (wx : Nat → Int32) (nx : Nat → Int32), n - i < nF → (i ≤ n) → (SKr sx (skS kf bs g fc (clo (nt + i))) (hdp (nt + i))) → ∀ (H : Heap) (locs : List Loc), Wd D A s [(h0, .inr (1, [.ref m0, .ref qk, .ref qs, .ref qc, .ref qb, .int (md), .int (bs), .int (nI (fc)), .int (nI (nt + i)), .int (nI (clo (nt + i))), .int (nI (hdp (nt + i))), .int (nI (hbk (nt + i))), .int (nI (hib (nt + i)))])), (qk, .inl (cy 0, 8, .inl (kf))), (qs, .inl (cy 0, 40, .inl (sx))), (qc, .inl (cy 0, 8, .inl (hcf kf bs g fc (nt + i)))), (qb, .inl (cy 0, 16, .inl (hbf g (nt + i)))), (m0, .inr (2, [.ref mc, .ref mb, .long (cx), .int (lx), .int (fx), .ref mv, .ref ax, .ref ay])), (mc, .inl (cy 0, 8, .inl (chx))), (mb, .inl (cy 0, 16, .inl (blx))), (mv, .inl (cy 0, 16, .inl (vx))), (ax, .inl (cy 0, 16, .inl (wx))), (ay, .inl (cy 0, 16, .inl (nx))), (b0, .inr (0, [.ref b1, .int (nI (cnt))])), (b1, .inl (cy 1, n0, .inl (f)))] H locs → ∀ ls : Array Slot, lv_has ls 5 [(0, .ref h0), (1, .ref b0), (2, .int (nI (k0))), (3, .int (nI (n))), (4, .int (nI (i)))] → W p l e ({ frames := 4, cells := 0, slots := 0, locals := 94 }) s m args below meth c H locs 0 0 Q (F0 m 3 ls []) := by
    intro nF
    induction nF with
    | zero => intro i sx chx blx cx lx fx vx ax ay wx nx hf; exact absurd hf (Nat.not_lt_zero _)
    | succ nF ih3 =>
      intro i sx chx blx cx lx fx vx ax ay wx nx hf hi hSx H locs hW ls hl
      refine lv_iload hx hb dX1_absorb_3 (lv_at hl 4 rfl) ?_
      refine lv_iload_n hx hb dX1_absorb_5 rfl (lv_at hl 3 rfl) ?_
      refine iGe (a := i) (b := n) (tgt := 27) hx hb dX1_absorb_6 (by decide) (by omega) (by omega) (fun h6 => ?_) (fun h6 => ?_)
      · skip
        have e9 : i = n := by omega
        rw [e9] at hW hSx
        exact eV hQ hx hb hr hlocks hK hW (sx, chx, blx, cx, lx, fx, vx, ax, ay, wx, nx) (hSx) (rfl) dX1_absorb_27
      · skip
        refine lv_aload_n hx hb dX1_absorb_9 rfl (lv_at hl 0 rfl) ?_
        refine lv_aload_n hx hb dX1_absorb_10 rfl (lv_at hl 1 rfl) ?_
        refine lv_iload_n hx hb dX1_absorb_11 rfl (lv_at hl 2 rfl) ?_
        refine lv_iload hx hb dX1_absorb_12 (lv_at hl 4 rfl) ?_
        refine lv_iadd hx hb dX1_absorb_14 ?_
        refine tI (nI_add _ _) ?_
        refine kVi (As := [.int (nI (k0 + i))]) (rest := [.ref h0]) S0 hK hst hA hW [11, 12] (fun sz => c_X0_byteAt l D cy t b0 b1 n0 cnt f (nI (k0 + i)) (by omega) (by omega) sz) rfl (by decide) (cwV 1 hts gX1_absorb_X0_byteAt rfl rfl rfl (by decide +kernel) ⟨Nat.le_of_ble_eq_true rfl, Nat.le_of_ble_eq_true rfl⟩) (fun _ => rfl) 0 0 rfl rfl rfl hl.1 rfl (Nat.le_of_ble_eq_true rfl) dX1_absorb_15 ⟨Nat.le_of_ble_eq_true rfl, Nat.le_of_ble_eq_true rfl⟩ (fun r15 u15 H locs p15 hW => ?_)
        have hW : Wd D A s [(h0, .inr (1, [.ref m0, .ref qk, .ref qs, .ref qc, .ref qb, .int (md), .int (bs), .int (nI (fc)), .int (nI (nt + i)), .int (nI (clo (nt + i))), .int (nI (hdp (nt + i))), .int (nI (hbk (nt + i))), .int (nI (hib (nt + i)))])), (qk, .inl (cy 0, 8, .inl (kf))), (qs, .inl (cy 0, 40, .inl (sx))), (qc, .inl (cy 0, 8, .inl (hcf kf bs g fc (nt + i)))), (qb, .inl (cy 0, 16, .inl (hbf g (nt + i)))), (m0, .inr (2, [.ref mc, .ref mb, .long (cx), .int (lx), .int (fx), .ref mv, .ref ax, .ref ay])), (mc, .inl (cy 0, 8, .inl (chx))), (mb, .inl (cy 0, 16, .inl (blx))), (mv, .inl (cy 0, 16, .inl (vx))), (ax, .inl (cy 0, 16, .inl (wx))), (ay, .inl (cy 0, 16, .inl (nx))), (b0, .inr (0, [.ref b1, .int (nI (cnt))])), (b1, .inl (cy 1, n0, .inl (f)))] H locs := hW
        have q15 : r15 = byt f cnt (nI (k0 + i)) := p15
        subst q15
        refine tI (x' := f (k0 + i) &&& 255) (byt_in (by omega) (by omega)) ?_
        refine kVv (As := [.int (f (k0 + i) &&& 255)]) (rest := []) S0 hK hst hA hW [0, 1, 2, 3, 4, 5, 6, 7, 8, 9, 10] (fun sz => c_X1_absorbByte l D cy t m0 mc mb mv ax ay cx lx fx h0 qk qs qc qb md bs fc (nt + i) kf sx g chx blx vx wx nx (f (k0 + i) &&& 255) (by omega) (by omega) (hSx) (by rw [hg i (by omega), and255]) sz) rfl (by decide) (cwV 1 hts gX1_absorb_X1_absorbByte rfl rfl rfl (by decide +kernel) ⟨Nat.le_of_ble_eq_true rfl, Nat.le_of_ble_eq_true rfl⟩) (fun ⟨_, _, _, _, _, _, _, _, _, _, _⟩ => rfl) 0 1 rfl rfl rfl hl.1 rfl (Nat.le_of_ble_eq_true rfl) dX1_absorb_18 ⟨Nat.le_of_ble_eq_true rfl, Nat.le_of_ble_eq_true rfl⟩ (fun u18 H locs p18 hW => ?_)
        obtain ⟨sf2_18, ch2_18, bl2_18, ct2_18, ln2_18, fl2_18, v2_18, aw2_18, an2_18, w2_18, nw2_18⟩ := u18
        have hW : Wd D A s [(h0, .inr (1, [.ref m0, .ref qk, .ref qs, .ref qc, .ref qb, .int (md), .int (bs), .int (nI (fc)), .int (nI ((nt + i) + 1)), .int (nI (clo ((nt + i) + 1))), .int (nI (hdp ((nt + i) + 1))), .int (nI (hbk ((nt + i) + 1))), .int (nI (hib ((nt + i) + 1)))])), (qk, .inl (cy 0, 8, .inl (kf))), (qs, .inl (cy 0, 40, .inl (sf2_18))), (qc, .inl (cy 0, 8, .inl (hcf kf bs g fc ((nt + i) + 1)))), (qb, .inl (cy 0, 16, .inl (hbf g ((nt + i) + 1)))), (m0, .inr (2, [.ref mc, .ref mb, .long (ct2_18), .int (ln2_18), .int (fl2_18), .ref mv, .ref aw2_18, .ref an2_18])), (mc, .inl (cy 0, 8, .inl (ch2_18))), (mb, .inl (cy 0, 16, .inl (bl2_18))), (mv, .inl (cy 0, 16, .inl (v2_18))), (aw2_18, .inl (cy 0, 16, .inl (w2_18))), (an2_18, .inl (cy 0, 16, .inl (nw2_18))), (b0, .inr (0, [.ref b1, .int (nI (cnt))])), (b1, .inl (cy 1, n0, .inl (f)))] H locs := hW
        refine lv_iinc (v := nI (i + 1)) (lv' := [(4, .int (nI (i + 1))), (0, .ref h0), (1, .ref b0), (2, .int (nI (k0))), (3, .int (nI (n)))]) hx hb dX1_absorb_21 hl (k := 4) rfl (nI_1 _) (by decide) rfl (fun ls hl => ?_)
        refine lv_goto (tgt := 3) hx hb dX1_absorb_24 (by decide) ?_
        exact ih3 (i + 1) sf2_18 ch2_18 bl2_18 ct2_18 ln2_18 fl2_18 v2_18 aw2_18 an2_18 w2_18 nw2_18 (by omega) (by omega) (p18) _ _ hW _ (lv_sub hl [1, 2, 3, 4, 0] rfl)
  exact loop3 _ 0 sf ch bl ct ln fl v aw an w nw (Nat.lt_succ_self _) (by omega) (hSk) _ _ hW _ (lv_sub hl [1, 2, 3, 4, 0] rfl)
