theorem f_X5_chunk_0 : Cond.fieldLink RX5 100 "TreeHashesModel" "number" "J" ∈ wsX5_chunk := by decide +kernel
theorem i_X5_chunk_X5 : ∀ w ∈ wsX50, w ∈ wsX5_chunk := by decide +kernel
theorem f_X5_chunk_2 : Cond.fieldLink RX5 92 "TreeHashesModel" "blockLength" "I" ∈ wsX5_chunk := by decide +kernel
theorem f_X5_chunk_3 : Cond.fieldLink RX5 114 "TreeHashesModel" "base" "I" ∈ wsX5_chunk := by decide +kernel
theorem f_X5_chunk_4 : Cond.fieldLink RX5 104 "TreeHashesModel" "flags" "I" ∈ wsX5_chunk := by decide +kernel
theorem f_X5_chunk_5 : Cond.fieldLink RX5 50 "TreeHashesModel" "block" "[I" ∈ wsX5_chunk := by decide +kernel
theorem f_X5_chunk_6 : Cond.fieldLink RX5 47 "TreeHashesModel" "chain" "[I" ∈ wsX5_chunk := by decide +kernel
theorem f_X5_chunk_7 : Cond.fieldLink RX5 44 "TreeHashesModel" "key" "[I" ∈ wsX5_chunk := by decide +kernel
set_option maxHeartbeats 4000000 in
set_option maxRecDepth 100000 in
theorem c_X5_chunk (l : Launch) (D : va_G) (cy : Nat → ClassId) (t : Nat × Nat) (z0 : Nat) (zr : Nat) (zs : Nat) (zt : Nat) (zc : Nat) (zm : Nat) (zk : Nat) (zh : Nat) (zd : Nat) (zf : Nat) (ml : Nat) (zp : Nat) (mps : Nat) (za : Nat) (ze : Nat) (be : Int32) (zn : Nat) (zb : Nat) (zv : Nat) (zw : Nat) (zo : Nat) (zq : Nat) (nu : Int64) (bq : Int32) (fg : Int32) (zl : Nat) (hg : Nat) (cz : Nat) (zi : Nat) (ke : Nat → Int32) (cn : Nat → Int32) (bb : Nat → Int32) (vv : Nat → Int32) (ww : Nat → Int32) (oo : Nat → Int32) (fa : Nat) (fl0 : Nat) (fx : Nat → Int32) (at0 : Nat) (n : Nat) (num : Nat) (hn : n ≤ 1024) (hfl : fl0 < 2 ^ 31) (hat : at0 + n ≤ fl0) (sz : Nat) : Met l yX5_chunk wsX5_chunk ({ frames := 4, cells := 0, slots := 0, locals := 92 }) (PcW D cy t [(z0, .inr (5, [.ref zr, .ref zs, .ref zt, .ref zc, .ref zm, .ref zk, .ref zh, .ref zd, .ref zf, .int (nI (ml)), .ref zp, .int (nI (mps)), .ref za, .ref ze, .int (be), .ref zn, .ref zb, .ref zv, .ref zw, .ref zo, .ref zq, .long (nu), .int (bq), .int (fg), .ref zl, .int (nI (hg)), .int (nI (cz)), .ref zi])), (ze, .inl (cy 0, 8, .inl (ke))), (zn, .inl (cy 0, 8, .inl (cn))), (zb, .inl (cy 0, 16, .inl (bb))), (zv, .inl (cy 0, 16, .inl (vv))), (zw, .inl (cy 0, 16, .inl (ww))), (zo, .inl (cy 0, 16, .inl (oo))), (zq, .inl (cy 0, 16, .inl (fun k => nI (orN k)))), (za, .inl (cy 0, 8, .inl (stA))), (fa, .inl (cy 0, fl0, .inl (fx)))] [.ref z0, .ref fa, .int (nI (at0)), .int (nI (n)), .long (lN num)] sz) (QvA D cy (fun u : (Nat → Int32) × (Nat → Int32) × (Nat → Int32) => match u with | (vv2, ww2, oo2) => True) (fun u : (Nat → Int32) × (Nat → Int32) × (Nat → Int32) => match u with | (vv2, ww2, oo2) => [(z0, .inr (5, [.ref zr, .ref zs, .ref zt, .ref zc, .ref zm, .ref zk, .ref zh, .ref zd, .ref zf, .int (nI (ml)), .ref zp, .int (nI (mps)), .ref za, .ref ze, .int (be), .ref zn, .ref zb, .ref zv, .ref zw, .ref zo, .ref zq, .long ((ndC ke be fx at0 num n).2.2.1), .int ((ndC ke be fx at0 num n).2.2.2.1), .int ((ndC ke be fx at0 num n).2.2.2.2), .ref zl, .int (nI (hg)), .int (nI (cz)), .ref zi])), (ze, .inl (cy 0, 8, .inl (ke))), (zn, .inl (cy 0, 8, .inl ((ndC ke be fx at0 num n).1))), (zb, .inl (cy 0, 16, .inl ((ndC ke be fx at0 num n).2.1))), (zv, .inl (cy 0, 16, .inl (vv2))), (zw, .inl (cy 0, 16, .inl (ww2))), (zo, .inl (cy 0, 16, .inl (oo2))), (zq, .inl (cy 0, 16, .inl (fun k => nI (orN k)))), (za, .inl (cy 0, 8, .inl (stA))), (fa, .inl (cy 0, fl0, .inl (fx)))]) (va_A [(z0, .inr (5, [.ref zr, .ref zs, .ref zt, .ref zc, .ref zm, .ref zk, .ref zh, .ref zd, .ref zf, .int (nI (ml)), .ref zp, .int (nI (mps)), .ref za, .ref ze, .int (be), .ref zn, .ref zb, .ref zv, .ref zw, .ref zo, .ref zq, .long (nu), .int (bq), .int (fg), .ref zl, .int (nI (hg)), .int (nI (cz)), .ref zi])), (ze, .inl (cy 0, 8, .inl (ke))), (zn, .inl (cy 0, 8, .inl (cn))), (zb, .inl (cy 0, 16, .inl (bb))), (zv, .inl (cy 0, 16, .inl (vv))), (zw, .inl (cy 0, 16, .inl (ww))), (zo, .inl (cy 0, 16, .inl (oo))), (zq, .inl (cy 0, 16, .inl (fun k => nI (orN k)))), (za, .inl (cy 0, 8, .inl (stA))), (fa, .inl (cy 0, fl0, .inl (fx)))] sz)) 0 0 (va_A [(z0, .inr (5, [.ref zr, .ref zs, .ref zt, .ref zc, .ref zm, .ref zk, .ref zh, .ref zd, .ref zf, .int (nI (ml)), .ref zp, .int (nI (mps)), .ref za, .ref ze, .int (be), .ref zn, .ref zb, .ref zv, .ref zw, .ref zo, .ref zq, .long (nu), .int (bq), .int (fg), .ref zl, .int (nI (hg)), .int (nI (cz)), .ref zi])), (ze, .inl (cy 0, 8, .inl (ke))), (zn, .inl (cy 0, 8, .inl (cn))), (zb, .inl (cy 0, 16, .inl (bb))), (zv, .inl (cy 0, 16, .inl (vv))), (zw, .inl (cy 0, 16, .inl (ww))), (zo, .inl (cy 0, 16, .inl (oo))), (zq, .inl (cy 0, 16, .inl (fun k => nI (orN k)))), (za, .inl (cy 0, 8, .inl (stA))), (fa, .inl (cy 0, fl0, .inl (fx)))] sz) := by
  refine M_ofW (cc := cX5_chunk) (maxL := 9) (ret := none) (by decide) rfl (Nat.le_of_ble_eq_true rfl) ?_
  intro p e s m below meth c A ls args Q hQ S0 hr hlocks hnm hK hst hA hW hl
  have hx := S0.1; have hb := S0.2.1; have hml := S0.2.2.1; have hown := S0.2.2.2.1; have hts := S0.2.2.2.2
  have hl : lv_has ls 9 [(0, .ref z0), (1, .ref fa), (2, .int (nI (at0))), (3, .int (nI (n))), (4, .long (lN num))] := hl
  have hbo : bko n ≤ 15 := by unfold bko; omega
  refine lv_iconst (v := nI (0)) hx hb dX5_chunk_0 (by decide) ?_
  refine lv_istore (lv' := [(6, .int (nI (0))), (0, .ref z0), (1, .ref fa), (2, .int (nI (at0))), (3, .int (nI (n))), (4, .long (lN num))]) hx hb dX5_chunk_1 hl (by decide) rfl (fun ls hl => ?_)
  have loop3 : ∀ (nF : Nat) (i : Nat), 8 - i < nF → (i ≤ 8) → ∀ (H : Heap) (locs : List Loc), Wd D A s [(z0, .inr (5, [.ref zr, .ref zs, .ref zt, .ref zc, .ref zm, .ref zk, .ref zh, .ref zd, .ref zf, .int (nI (ml)), .ref zp, .int (nI (mps)), .ref za, .ref ze, .int (be), .ref zn, .ref zb, .ref zv, .ref zw, .ref zo, .ref zq, .long (nu), .int (bq), .int (fg), .ref zl, .int (nI (hg)), .int (nI (cz)), .ref zi])), (ze, .inl (cy 0, 8, .inl (ke))), (zn, .inl (cy 0, 8, .inl (apG cn 0 ke i))), (zb, .inl (cy 0, 16, .inl (bb))), (zv, .inl (cy 0, 16, .inl (vv))), (zw, .inl (cy 0, 16, .inl (ww))), (zo, .inl (cy 0, 16, .inl (oo))), (zq, .inl (cy 0, 16, .inl (fun k => nI (orN k)))), (za, .inl (cy 0, 8, .inl (stA))), (fa, .inl (cy 0, fl0, .inl (fx)))] H locs → ∀ ls : Array Slot, lv_has ls 9 [(0, .ref z0), (1, .ref fa), (2, .int (nI (at0))), (3, .int (nI (n))), (4, .long (lN num)), (6, .int (nI (i)))] → W p l e ({ frames := 4, cells := 0, slots := 0, locals := 92 }) s m args below meth c H locs 0 0 Q (F0 m 3 ls []) := by
    intro nF
    induction nF with
    | zero => intro i hf; exact absurd hf (Nat.not_lt_zero _)
    | succ nF ih3 =>
      intro i hf hi H locs hW ls hl
      refine lv_iload hx hb dX5_chunk_3 (lv_at hl 5 rfl) ?_
      refine lv_bipush (v := nI (8)) hx hb dX5_chunk_5 (by decide) ?_
      refine iGe (a := i) (b := 8) (tgt := 30) hx hb dX5_chunk_7 (by decide) (by omega) (by omega) (fun h7 => ?_) (fun h7 => ?_)
      · skip
        have e9 : i = 8 := by omega
        rw [e9] at hW
        have hW := Wd.ext hW 2 rfl ke apG_all
        refine lv_aload_n hx hb dX5_chunk_30 rfl (lv_at hl 0 rfl) ?_
        refine lv_lload hx hb dX5_chunk_31 (lv_at hl 4 rfl) ?_
        refine va_put (D := D) (ci := 5) (v := .long (lN num)) (ty := .long) (C := RX5) (T := TX5) (N := 28) hx hb hts i_X5_chunk_X5 tyX5 tyX5_ok nmX5 hown hK hW.1 hW.2.1 hW.2.2 0 rfl rfl 21 (by decide) (hts (.fieldLink RX5 100 "TreeHashesModel" "number" "J") f_X5_chunk_0) (fun _ h9 => h9) rfl (by decide +kernel) rfl rfl (Nat.le_of_ble_eq_true rfl) dX5_chunk_33 (fun H locs hP hD hS => ?_)
        have hW : Wd D A s [(z0, .inr (5, [.ref zr, .ref zs, .ref zt, .ref zc, .ref zm, .ref zk, .ref zh, .ref zd, .ref zf, .int (nI (ml)), .ref zp, .int (nI (mps)), .ref za, .ref ze, .int (be), .ref zn, .ref zb, .ref zv, .ref zw, .ref zo, .ref zq, .long (lN num), .int (bq), .int (fg), .ref zl, .int (nI (hg)), .int (nI (cz)), .ref zi])), (ze, .inl (cy 0, 8, .inl (ke))), (zn, .inl (cy 0, 8, .inl (ke))), (zb, .inl (cy 0, 16, .inl (bb))), (zv, .inl (cy 0, 16, .inl (vv))), (zw, .inl (cy 0, 16, .inl (ww))), (zo, .inl (cy 0, 16, .inl (oo))), (zq, .inl (cy 0, 16, .inl (fun k => nI (orN k)))), (za, .inl (cy 0, 8, .inl (stA))), (fa, .inl (cy 0, fl0, .inl (fx)))] H locs := ⟨hP, hD, hS⟩
        refine lv_iload_n hx hb dX5_chunk_36 rfl (lv_at hl 3 rfl) ?_
        have jn51 : ∀ (H : Heap) (locs : List Loc), Wd D A s [(z0, .inr (5, [.ref zr, .ref zs, .ref zt, .ref zc, .ref zm, .ref zk, .ref zh, .ref zd, .ref zf, .int (nI (ml)), .ref zp, .int (nI (mps)), .ref za, .ref ze, .int (be), .ref zn, .ref zb, .ref zv, .ref zw, .ref zo, .ref zq, .long (lN num), .int (bq), .int (fg), .ref zl, .int (nI (hg)), .int (nI (cz)), .ref zi])), (ze, .inl (cy 0, 8, .inl (ke))), (zn, .inl (cy 0, 8, .inl (ke))), (zb, .inl (cy 0, 16, .inl (bb))), (zv, .inl (cy 0, 16, .inl (vv))), (zw, .inl (cy 0, 16, .inl (ww))), (zo, .inl (cy 0, 16, .inl (oo))), (zq, .inl (cy 0, 16, .inl (fun k => nI (orN k)))), (za, .inl (cy 0, 8, .inl (stA))), (fa, .inl (cy 0, fl0, .inl (fx)))] H locs → ∀ ls : Array Slot, lv_has ls 9 [(0, .ref z0), (1, .ref fa), (2, .int (nI (at0))), (3, .int (nI (n))), (4, .long (lN num)), (6, .int (nI (i)))] → W p l e ({ frames := 4, cells := 0, slots := 0, locals := 92 }) s m args below meth c H locs 0 0 Q (F0 m 51 ls [.int (nI (bko n + 1))]) := by
          intro H locs hW ls hl
          refine lv_istore (lv' := [(6, .int (nI (bko n + 1))), (0, .ref z0), (1, .ref fa), (2, .int (nI (at0))), (3, .int (nI (n))), (4, .long (lN num))]) hx hb dX5_chunk_51 hl (by decide) rfl (fun ls hl => ?_)
          refine lv_iconst (v := nI (0)) hx hb dX5_chunk_53 (by decide) ?_
          refine lv_istore (lv' := [(7, .int (nI (0))), (6, .int (nI (bko n + 1))), (0, .ref z0), (1, .ref fa), (2, .int (nI (at0))), (3, .int (nI (n))), (4, .long (lN num))]) hx hb dX5_chunk_54 hl (by decide) rfl (fun ls hl => ?_)
          have loop56 : ∀ (nF : Nat) (b : Nat) (cx : Nat → Int32) (bx : Nat → Int32) (qx : Int32) (gx : Int32) (vx : Nat → Int32) (wx : Nat → Int32) (ox : Nat → Int32), bko n + 1 - b < nF → (b ≤ bko n + 1) → (b = 0 → cx = ke) → (0 < b → cx = ccv ke be fx at0 num (b - 1) ∧ bx = bwI fx (at0 + 64 * (b - 1)) (blen n (b - 1)) ∧ qx = nI (blen n (b - 1)) ∧ gx = (be + nI (fst0 (b - 1))) + nI (lst n (b - 1))) → ∀ (H : Heap) (locs : List Loc), Wd D A s [(z0, .inr (5, [.ref zr, .ref zs, .ref zt, .ref zc, .ref zm, .ref zk, .ref zh, .ref zd, .ref zf, .int (nI (ml)), .ref zp, .int (nI (mps)), .ref za, .ref ze, .int (be), .ref zn, .ref zb, .ref zv, .ref zw, .ref zo, .ref zq, .long (lN num), .int (qx), .int (gx), .ref zl, .int (nI (hg)), .int (nI (cz)), .ref zi])), (ze, .inl (cy 0, 8, .inl (ke))), (zn, .inl (cy 0, 8, .inl (cx))), (zb, .inl (cy 0, 16, .inl (bx))), (zv, .inl (cy 0, 16, .inl (vx))), (zw, .inl (cy 0, 16, .inl (wx))), (zo, .inl (cy 0, 16, .inl (ox))), (zq, .inl (cy 0, 16, .inl (fun k => nI (orN k)))), (za, .inl (cy 0, 8, .inl (stA))), (fa, .inl (cy 0, fl0, .inl (fx)))] H locs → ∀ ls : Array Slot, lv_has ls 9 [(0, .ref z0), (1, .ref fa), (2, .int (nI (at0))), (3, .int (nI (n))), (4, .long (lN num)), (6, .int (nI (bko n + 1))), (7, .int (nI (b)))] → W p l e ({ frames := 4, cells := 0, slots := 0, locals := 92 }) s m args below meth c H locs 0 0 Q (F0 m 56 ls []) := by
            intro nF
            induction nF with
            | zero => intro b cx bx qx gx vx wx ox hf; exact absurd hf (Nat.not_lt_zero _)
            | succ nF ih56 =>
              intro b cx bx qx gx vx wx ox hf hb9 hb0 hb1 H locs hW ls hl
              refine lv_iload hx hb dX5_chunk_56 (lv_at hl 6 rfl) ?_
              refine lv_iload hx hb dX5_chunk_58 (lv_at hl 5 rfl) ?_
              refine iGe (a := b) (b := bko n + 1) (tgt := 214) hx hb dX5_chunk_60 (by decide) (by omega) (by omega) (fun h60 => ?_) (fun h60 => ?_)
              · skip
                have e9 : b = bko n + 1 := by omega
                obtain ⟨q1, q2, q3, q4⟩ := hb1 (by omega)
                rw [show b - 1 = bko n from by omega] at q1 q2 q3 q4
                have e8 := (nd_last (K := ke) (fx := fx) (be := be) (at0 := at0) (num := num) (n := n)).resolve_right (by omega)
                exact eV hQ hx hb hr hlocks hK hW (vx, wx, ox) (trivial) (by subst q1 q2 q3 q4; simp only [← e8]) dX5_chunk_214
              · skip
                have hb6 : 64 * b ≤ n := by unfold bko at h60; omega
                have hbl := blen_le n b
                have hbl2 := hbl.2 hb6
                refine lv_iload hx hb dX5_chunk_63 (lv_at hl 6 rfl) ?_
                refine zLe (a := b) (tgt := 72) hx hb dX5_chunk_65 (by decide) (by omega) (fun h65 => ?_) (fun h65 => ?_)
                · skip
                  rw [show cx = ccv ke be fx at0 num b from by rw [hb0 h65, h65]; rfl] at hW
                  refine lv_aload_n hx hb dX5_chunk_72 rfl (lv_at hl 0 rfl) ?_
                  refine lv_iload_n hx hb dX5_chunk_73 rfl (lv_at hl 3 rfl) ?_
                  refine lv_bipush (v := nI (64)) hx hb dX5_chunk_74 (by decide) ?_
                  refine lv_iload hx hb dX5_chunk_76 (lv_at hl 6 rfl) ?_
                  refine lv_imul hx hb dX5_chunk_78 ?_
                  refine tI (pk_mul _ _) ?_
                  refine lv_isub hx hb dX5_chunk_79 ?_
                  refine tI (pk_sub (by omega)) ?_
                  refine lv_bipush (v := nI (64)) hx hb dX5_chunk_80 (by decide) ?_
                  have jn97 : ∀ (H : Heap) (locs : List Loc), Wd D A s [(z0, .inr (5, [.ref zr, .ref zs, .ref zt, .ref zc, .ref zm, .ref zk, .ref zh, .ref zd, .ref zf, .int (nI (ml)), .ref zp, .int (nI (mps)), .ref za, .ref ze, .int (be), .ref zn, .ref zb, .ref zv, .ref zw, .ref zo, .ref zq, .long (lN num), .int (qx), .int (gx), .ref zl, .int (nI (hg)), .int (nI (cz)), .ref zi])), (ze, .inl (cy 0, 8, .inl (ke))), (zn, .inl (cy 0, 8, .inl (ccv ke be fx at0 num b))), (zb, .inl (cy 0, 16, .inl (bx))), (zv, .inl (cy 0, 16, .inl (vx))), (zw, .inl (cy 0, 16, .inl (wx))), (zo, .inl (cy 0, 16, .inl (ox))), (zq, .inl (cy 0, 16, .inl (fun k => nI (orN k)))), (za, .inl (cy 0, 8, .inl (stA))), (fa, .inl (cy 0, fl0, .inl (fx)))] H locs → ∀ ls : Array Slot, lv_has ls 9 [(0, .ref z0), (1, .ref fa), (2, .int (nI (at0))), (3, .int (nI (n))), (4, .long (lN num)), (6, .int (nI (bko n + 1))), (7, .int (nI (b)))] → W p l e ({ frames := 4, cells := 0, slots := 0, locals := 92 }) s m args below meth c H locs 0 0 Q (F0 m 97 ls [.int (nI (blen n b)), .ref z0]) := by
                    intro H locs hW ls hl
                    refine va_put (D := D) (ci := 5) (v := .int (nI (blen n b))) (ty := .int) (C := RX5) (T := TX5) (N := 28) hx hb hts i_X5_chunk_X5 tyX5 tyX5_ok nmX5 hown hK hW.1 hW.2.1 hW.2.2 0 rfl rfl 22 (by decide) (hts (.fieldLink RX5 92 "TreeHashesModel" "blockLength" "I") f_X5_chunk_2) (fun _ h9 => h9) rfl (by decide +kernel) rfl rfl (Nat.le_of_ble_eq_true rfl) dX5_chunk_97 (fun H locs hP hD hS => ?_)
                    have hW : Wd D A s [(z0, .inr (5, [.ref zr, .ref zs, .ref zt, .ref zc, .ref zm, .ref zk, .ref zh, .ref zd, .ref zf, .int (nI (ml)), .ref zp, .int (nI (mps)), .ref za, .ref ze, .int (be), .ref zn, .ref zb, .ref zv, .ref zw, .ref zo, .ref zq, .long (lN num), .int (nI (blen n b)), .int (gx), .ref zl, .int (nI (hg)), .int (nI (cz)), .ref zi])), (ze, .inl (cy 0, 8, .inl (ke))), (zn, .inl (cy 0, 8, .inl (ccv ke be fx at0 num b))), (zb, .inl (cy 0, 16, .inl (bx))), (zv, .inl (cy 0, 16, .inl (vx))), (zw, .inl (cy 0, 16, .inl (wx))), (zo, .inl (cy 0, 16, .inl (ox))), (zq, .inl (cy 0, 16, .inl (fun k => nI (orN k)))), (za, .inl (cy 0, 8, .inl (stA))), (fa, .inl (cy 0, fl0, .inl (fx)))] H locs := ⟨hP, hD, hS⟩
                    refine lv_iconst (v := nI (0)) hx hb dX5_chunk_100 (by decide) ?_
                    refine lv_istore (lv' := [(8, .int (nI (0))), (0, .ref z0), (1, .ref fa), (2, .int (nI (at0))), (3, .int (nI (n))), (4, .long (lN num)), (6, .int (nI (bko n + 1))), (7, .int (nI (b)))]) hx hb dX5_chunk_101 hl (by decide) rfl (fun ls hl => ?_)
                    have loop103 : ∀ (nF : Nat) (j : Nat), 16 - j < nF → (j ≤ 16) → ∀ (H : Heap) (locs : List Loc), Wd D A s [(z0, .inr (5, [.ref zr, .ref zs, .ref zt, .ref zc, .ref zm, .ref zk, .ref zh, .ref zd, .ref zf, .int (nI (ml)), .ref zp, .int (nI (mps)), .ref za, .ref ze, .int (be), .ref zn, .ref zb, .ref zv, .ref zw, .ref zo, .ref zq, .long (lN num), .int (nI (blen n b)), .int (gx), .ref zl, .int (nI (hg)), .int (nI (cz)), .ref zi])), (ze, .inl (cy 0, 8, .inl (ke))), (zn, .inl (cy 0, 8, .inl (ccv ke be fx at0 num b))), (zb, .inl (cy 0, 16, .inl (apG bx 0 (fun _ => nI (0)) j))), (zv, .inl (cy 0, 16, .inl (vx))), (zw, .inl (cy 0, 16, .inl (wx))), (zo, .inl (cy 0, 16, .inl (ox))), (zq, .inl (cy 0, 16, .inl (fun k => nI (orN k)))), (za, .inl (cy 0, 8, .inl (stA))), (fa, .inl (cy 0, fl0, .inl (fx)))] H locs → ∀ ls : Array Slot, lv_has ls 9 [(0, .ref z0), (1, .ref fa), (2, .int (nI (at0))), (3, .int (nI (n))), (4, .long (lN num)), (6, .int (nI (bko n + 1))), (7, .int (nI (b))), (8, .int (nI (j)))] → W p l e ({ frames := 4, cells := 0, slots := 0, locals := 92 }) s m args below meth c H locs 0 0 Q (F0 m 103 ls []) := by
                      intro nF
                      induction nF with
                      | zero => intro j hf; exact absurd hf (Nat.not_lt_zero _)
                      | succ nF ih103 =>
                        intro j hf hj H locs hW ls hl
                        refine lv_iload hx hb dX5_chunk_103 (lv_at hl 7 rfl) ?_
                        refine lv_bipush (v := nI (16)) hx hb dX5_chunk_105 (by decide) ?_
                        refine iGe (a := j) (b := 16) (tgt := 124) hx hb dX5_chunk_107 (by decide) (by omega) (by omega) (fun h107 => ?_) (fun h107 => ?_)
                        · skip
                          have e9 : j = 16 := by omega
                          rw [e9] at hW
                          have hW := Wd.ext hW 3 rfl (bwI fx (at0 + 64 * b) 0) apG_all
                          refine lv_iconst (v := nI (0)) hx hb dX5_chunk_124 (by decide) ?_
                          refine lv_istore (lv' := [(8, .int (nI (0))), (0, .ref z0), (1, .ref fa), (2, .int (nI (at0))), (3, .int (nI (n))), (4, .long (lN num)), (6, .int (nI (bko n + 1))), (7, .int (nI (b)))]) hx hb dX5_chunk_125 hl (by decide) rfl (fun ls hl => ?_)
                          have loop127 : ∀ (nF : Nat) (k : Nat), blen n b - k < nF → (k ≤ blen n b) → ∀ (H : Heap) (locs : List Loc), Wd D A s [(z0, .inr (5, [.ref zr, .ref zs, .ref zt, .ref zc, .ref zm, .ref zk, .ref zh, .ref zd, .ref zf, .int (nI (ml)), .ref zp, .int (nI (mps)), .ref za, .ref ze, .int (be), .ref zn, .ref zb, .ref zv, .ref zw, .ref zo, .ref zq, .long (lN num), .int (nI (blen n b)), .int (gx), .ref zl, .int (nI (hg)), .int (nI (cz)), .ref zi])), (ze, .inl (cy 0, 8, .inl (ke))), (zn, .inl (cy 0, 8, .inl (ccv ke be fx at0 num b))), (zb, .inl (cy 0, 16, .inl (bwI fx (at0 + 64 * b) k))), (zv, .inl (cy 0, 16, .inl (vx))), (zw, .inl (cy 0, 16, .inl (wx))), (zo, .inl (cy 0, 16, .inl (ox))), (zq, .inl (cy 0, 16, .inl (fun k => nI (orN k)))), (za, .inl (cy 0, 8, .inl (stA))), (fa, .inl (cy 0, fl0, .inl (fx)))] H locs → ∀ ls : Array Slot, lv_has ls 9 [(0, .ref z0), (1, .ref fa), (2, .int (nI (at0))), (3, .int (nI (n))), (4, .long (lN num)), (6, .int (nI (bko n + 1))), (7, .int (nI (b))), (8, .int (nI (k)))] → W p l e ({ frames := 4, cells := 0, slots := 0, locals := 92 }) s m args below meth c H locs 0 0 Q (F0 m 127 ls []) := by
                            intro nF
                            induction nF with
                            | zero => intro k hf; exact absurd hf (Nat.not_lt_zero _)
                            | succ nF ih127 =>
                              intro k hf hk H locs hW ls hl
                              refine lv_iload hx hb dX5_chunk_127 (lv_at hl 7 rfl) ?_
                              refine lv_aload_n hx hb dX5_chunk_129 rfl (lv_at hl 0 rfl) ?_
                              refine va_get (D := D) (ci := 5) (v := .int (nI (blen n b))) (C := RX5) (T := TX5) (N := 28) hx hb hts i_X5_chunk_X5 hown hK hW.1 0 rfl rfl 22 (by decide) (hts (.fieldLink RX5 92 "TreeHashesModel" "blockLength" "I") f_X5_chunk_2) (fun _ h9 => h9) rfl dX5_chunk_130 ?_
                              refine iGe (a := k) (b := blen n b) (tgt := 174) hx hb dX5_chunk_133 (by decide) (by omega) (by omega) (fun h133 => ?_) (fun h133 => ?_)
                              · skip
                                have e9 : k = blen n b := by omega
                                rw [e9] at hW
                                refine lv_aload_n hx hb dX5_chunk_174 rfl (lv_at hl 0 rfl) ?_
                                refine lv_aload_n hx hb dX5_chunk_175 rfl (lv_at hl 0 rfl) ?_
                                refine va_get (D := D) (ci := 5) (v := .int (be)) (C := RX5) (T := TX5) (N := 28) hx hb hts i_X5_chunk_X5 hown hK hW.1 0 rfl rfl 14 (by decide) (hts (.fieldLink RX5 114 "TreeHashesModel" "base" "I") f_X5_chunk_3) (fun _ h9 => h9) rfl dX5_chunk_176 ?_
                                refine lv_iload hx hb dX5_chunk_179 (lv_at hl 6 rfl) ?_
                                have jn189 : ∀ (H : Heap) (locs : List Loc), Wd D A s [(z0, .inr (5, [.ref zr, .ref zs, .ref zt, .ref zc, .ref zm, .ref zk, .ref zh, .ref zd, .ref zf, .int (nI (ml)), .ref zp, .int (nI (mps)), .ref za, .ref ze, .int (be), .ref zn, .ref zb, .ref zv, .ref zw, .ref zo, .ref zq, .long (lN num), .int (nI (blen n b)), .int (gx), .ref zl, .int (nI (hg)), .int (nI (cz)), .ref zi])), (ze, .inl (cy 0, 8, .inl (ke))), (zn, .inl (cy 0, 8, .inl (ccv ke be fx at0 num b))), (zb, .inl (cy 0, 16, .inl (bwI fx (at0 + 64 * b) (blen n b)))), (zv, .inl (cy 0, 16, .inl (vx))), (zw, .inl (cy 0, 16, .inl (wx))), (zo, .inl (cy 0, 16, .inl (ox))), (zq, .inl (cy 0, 16, .inl (fun k => nI (orN k)))), (za, .inl (cy 0, 8, .inl (stA))), (fa, .inl (cy 0, fl0, .inl (fx)))] H locs → ∀ ls : Array Slot, lv_has ls 9 [(0, .ref z0), (1, .ref fa), (2, .int (nI (at0))), (3, .int (nI (n))), (4, .long (lN num)), (6, .int (nI (bko n + 1))), (7, .int (nI (b))), (8, .int (nI (k)))] → W p l e ({ frames := 4, cells := 0, slots := 0, locals := 92 }) s m args below meth c H locs 0 0 Q (F0 m 189 ls [.int (nI (fst0 b)), .int (be), .ref z0]) := by
                                  intro H locs hW ls hl
                                  refine lv_iadd hx hb dX5_chunk_189 ?_
                                  refine lv_iload hx hb dX5_chunk_190 (lv_at hl 6 rfl) ?_
                                  refine lv_iload hx hb dX5_chunk_192 (lv_at hl 5 rfl) ?_
                                  refine lv_iconst (v := nI (1)) hx hb dX5_chunk_194 (by decide) ?_
                                  refine lv_isub hx hb dX5_chunk_195 ?_
                                  refine tI (pk_sub (by omega)) ?_
                                  have jn204 : ∀ (H : Heap) (locs : List Loc), Wd D A s [(z0, .inr (5, [.ref zr, .ref zs, .ref zt, .ref zc, .ref zm, .ref zk, .ref zh, .ref zd, .ref zf, .int (nI (ml)), .ref zp, .int (nI (mps)), .ref za, .ref ze, .int (be), .ref zn, .ref zb, .ref zv, .ref zw, .ref zo, .ref zq, .long (lN num), .int (nI (blen n b)), .int (gx), .ref zl, .int (nI (hg)), .int (nI (cz)), .ref zi])), (ze, .inl (cy 0, 8, .inl (ke))), (zn, .inl (cy 0, 8, .inl (ccv ke be fx at0 num b))), (zb, .inl (cy 0, 16, .inl (bwI fx (at0 + 64 * b) (blen n b)))), (zv, .inl (cy 0, 16, .inl (vx))), (zw, .inl (cy 0, 16, .inl (wx))), (zo, .inl (cy 0, 16, .inl (ox))), (zq, .inl (cy 0, 16, .inl (fun k => nI (orN k)))), (za, .inl (cy 0, 8, .inl (stA))), (fa, .inl (cy 0, fl0, .inl (fx)))] H locs → ∀ ls : Array Slot, lv_has ls 9 [(0, .ref z0), (1, .ref fa), (2, .int (nI (at0))), (3, .int (nI (n))), (4, .long (lN num)), (6, .int (nI (bko n + 1))), (7, .int (nI (b))), (8, .int (nI (k)))] → W p l e ({ frames := 4, cells := 0, slots := 0, locals := 92 }) s m args below meth c H locs 0 0 Q (F0 m 204 ls [.int (nI (lst n b)), .int (be + (nI (fst0 b))), .ref z0]) := by
                                    intro H locs hW ls hl
                                    refine lv_iadd hx hb dX5_chunk_204 ?_
                                    refine va_put (D := D) (ci := 5) (v := .int ((be + (nI (fst0 b))) + (nI (lst n b)))) (ty := .int) (C := RX5) (T := TX5) (N := 28) hx hb hts i_X5_chunk_X5 tyX5 tyX5_ok nmX5 hown hK hW.1 hW.2.1 hW.2.2 0 rfl rfl 23 (by decide) (hts (.fieldLink RX5 104 "TreeHashesModel" "flags" "I") f_X5_chunk_4) (fun _ h9 => h9) rfl (by decide +kernel) rfl rfl (Nat.le_of_ble_eq_true rfl) dX5_chunk_205 (fun H locs hP hD hS => ?_)
                                    have hW : Wd D A s [(z0, .inr (5, [.ref zr, .ref zs, .ref zt, .ref zc, .ref zm, .ref zk, .ref zh, .ref zd, .ref zf, .int (nI (ml)), .ref zp, .int (nI (mps)), .ref za, .ref ze, .int (be), .ref zn, .ref zb, .ref zv, .ref zw, .ref zo, .ref zq, .long (lN num), .int (nI (blen n b)), .int ((be + (nI (fst0 b))) + (nI (lst n b))), .ref zl, .int (nI (hg)), .int (nI (cz)), .ref zi])), (ze, .inl (cy 0, 8, .inl (ke))), (zn, .inl (cy 0, 8, .inl (ccv ke be fx at0 num b))), (zb, .inl (cy 0, 16, .inl (bwI fx (at0 + 64 * b) (blen n b)))), (zv, .inl (cy 0, 16, .inl (vx))), (zw, .inl (cy 0, 16, .inl (wx))), (zo, .inl (cy 0, 16, .inl (ox))), (zq, .inl (cy 0, 16, .inl (fun k => nI (orN k)))), (za, .inl (cy 0, 8, .inl (stA))), (fa, .inl (cy 0, fl0, .inl (fx)))] H locs := ⟨hP, hD, hS⟩
                                    refine lv_iinc (v := nI (b + 1)) (lv' := [(7, .int (nI (b + 1))), (0, .ref z0), (1, .ref fa), (2, .int (nI (at0))), (3, .int (nI (n))), (4, .long (lN num)), (6, .int (nI (bko n + 1))), (8, .int (nI (k)))]) hx hb dX5_chunk_208 hl (k := 6) rfl (nI_1 _) (by decide) rfl (fun ls hl => ?_)
                                    refine lv_goto (tgt := 56) hx hb dX5_chunk_211 (by decide) ?_
                                    exact ih56 (b + 1) (ccv ke be fx at0 num b) (bwI fx (at0 + 64 * b) (blen n b)) (nI (blen n b)) ((be + (nI (fst0 b))) + (nI (lst n b))) vx wx ox (by omega) (by omega) (fun q => absurd q (Nat.succ_ne_zero b)) (fun _ => ⟨rfl, rfl, rfl, rfl⟩) _ _ hW _ (lv_sub hl [1, 2, 3, 4, 5, 6, 0] rfl)
                                  refine iNe (a := b) (b := (bko n + 1) - 1) (tgt := 203) hx hb dX5_chunk_196 (by decide) (by omega) (by omega) (fun h196 => ?_) (fun h196 => ?_)
                                  · skip
                                    refine lv_iconst (v := nI (0)) hx hb dX5_chunk_203 (by decide) ?_
                                    refine tI (x' := nI (lst n b)) (lst_1 h196) ?_
                                    exact jn204 _ _ hW _ hl
                                  · skip
                                    refine lv_iconst (v := nI (2)) hx hb dX5_chunk_199 (by decide) ?_
                                    refine tI (x' := nI (lst n b)) (lst_0 h196) ?_
                                    refine lv_goto (tgt := 204) hx hb dX5_chunk_200 (by decide) ?_
                                    exact jn204 _ _ hW _ hl
                                refine zNe (a := b) (tgt := 188) hx hb dX5_chunk_181 (by decide) (by omega) (fun h181 => ?_) (fun h181 => ?_)
                                · skip
                                  refine lv_iconst (v := nI (0)) hx hb dX5_chunk_188 (by decide) ?_
                                  refine tI (x' := nI (fst0 b)) (fst0_1 h181) ?_
                                  exact jn189 _ _ hW _ hl
                                · skip
                                  refine lv_iconst (v := nI (1)) hx hb dX5_chunk_184 (by decide) ?_
                                  refine tI (x' := nI (fst0 b)) (fst0_0 h181) ?_
                                  refine lv_goto (tgt := 189) hx hb dX5_chunk_185 (by decide) ?_
                                  exact jn189 _ _ hW _ hl
                              · skip
                                refine lv_aload_n hx hb dX5_chunk_136 rfl (lv_at hl 0 rfl) ?_
                                refine va_get (D := D) (ci := 5) (v := .ref zb) (C := RX5) (T := TX5) (N := 28) hx hb hts i_X5_chunk_X5 hown hK hW.1 0 rfl rfl 16 (by decide) (hts (.fieldLink RX5 50 "TreeHashesModel" "block" "[I") f_X5_chunk_5) (fun _ h9 => h9) rfl dX5_chunk_137 ?_
                                refine lv_iload hx hb dX5_chunk_140 (lv_at hl 7 rfl) ?_
                                refine lv_iconst (v := nI (4)) hx hb dX5_chunk_142 (by decide) ?_
                                refine lv_idiv hx hb dX5_chunk_143 (by decide) ?_
                                refine tI (pk_div (by omega) (by omega) (by omega)) ?_
                                refine lv_dup2_11 hx hb dX5_chunk_144 rfl rfl ?_
                                refine rI hx hb hK hW 3 rfl (k := k / 4) (by omega) (by omega) dX5_chunk_145 ?_
                                refine lv_aload_n hx hb dX5_chunk_146 rfl (lv_at hl 1 rfl) ?_
                                refine lv_iload_n hx hb dX5_chunk_147 rfl (lv_at hl 2 rfl) ?_
                                refine lv_bipush (v := nI (64)) hx hb dX5_chunk_148 (by decide) ?_
                                refine lv_iload hx hb dX5_chunk_150 (lv_at hl 6 rfl) ?_
                                refine lv_imul hx hb dX5_chunk_152 ?_
                                refine tI (pk_mul _ _) ?_
                                refine lv_iadd hx hb dX5_chunk_153 ?_
                                refine tI (nI_add _ _) ?_
                                refine lv_iload hx hb dX5_chunk_154 (lv_at hl 7 rfl) ?_
                                refine lv_iadd hx hb dX5_chunk_156 ?_
                                refine tI (nI_add _ _) ?_
                                refine rI hx hb hK hW 9 rfl (k := (at0 + (64 * b)) + k) (by omega) (by omega) dX5_chunk_157 ?_
                                refine lv_bipush (v := nI (8)) hx hb dX5_chunk_158 (by decide) ?_
                                refine lv_iload hx hb dX5_chunk_160 (lv_at hl 7 rfl) ?_
                                refine lv_iconst (v := nI (4)) hx hb dX5_chunk_162 (by decide) ?_
                                refine lv_irem hx hb dX5_chunk_163 (by decide) ?_
                                refine tI (pk_rem (by omega) (by omega) (by omega)) ?_
                                refine lv_imul hx hb dX5_chunk_164 ?_
                                refine tI (pk_mul _ _) ?_
                                refine lv_ishl hx hb dX5_chunk_165 ?_
                                refine lv_ior hx hb dX5_chunk_166 ?_
                                refine wI hx hb hK hW 3 rfl (k := k / 4) (by omega) (by omega) dX5_chunk_167 (fun H locs hW => ?_)
                                have hW : Wd D A s [(z0, .inr (5, [.ref zr, .ref zs, .ref zt, .ref zc, .ref zm, .ref zk, .ref zh, .ref zd, .ref zf, .int (nI (ml)), .ref zp, .int (nI (mps)), .ref za, .ref ze, .int (be), .ref zn, .ref zb, .ref zv, .ref zw, .ref zo, .ref zq, .long (lN num), .int (nI (blen n b)), .int (gx), .ref zl, .int (nI (hg)), .int (nI (cz)), .ref zi])), (ze, .inl (cy 0, 8, .inl (ke))), (zn, .inl (cy 0, 8, .inl (ccv ke be fx at0 num b))), (zb, .inl (cy 0, 16, .inl (upd (bwI fx (at0 + 64 * b) k) (k / 4) (((bwI fx (at0 + 64 * b) k) (k / 4)) ||| ((fx ((at0 + (64 * b)) + k)) <<< ((nI (8 * (k % 4))) &&& 31)))))), (zv, .inl (cy 0, 16, .inl (vx))), (zw, .inl (cy 0, 16, .inl (wx))), (zo, .inl (cy 0, 16, .inl (ox))), (zq, .inl (cy 0, 16, .inl (fun k => nI (orN k)))), (za, .inl (cy 0, 8, .inl (stA))), (fa, .inl (cy 0, fl0, .inl (fx)))] H locs := hW
                                rw [show (upd (bwI fx (at0 + 64 * b) k) (k / 4) (((bwI fx (at0 + 64 * b) k) (k / 4)) ||| ((fx ((at0 + (64 * b)) + k)) <<< ((nI (8 * (k % 4))) &&& 31)))) = (bwI fx (at0 + 64 * b) (k + 1)) from bwI_s4 fx (at0 + 64 * b) k] at hW
                                have hW : Wd D A s [(z0, .inr (5, [.ref zr, .ref zs, .ref zt, .ref zc, .ref zm, .ref zk, .ref zh, .ref zd, .ref zf, .int (nI (ml)), .ref zp, .int (nI (mps)), .ref za, .ref ze, .int (be), .ref zn, .ref zb, .ref zv, .ref zw, .ref zo, .ref zq, .long (lN num), .int (nI (blen n b)), .int (gx), .ref zl, .int (nI (hg)), .int (nI (cz)), .ref zi])), (ze, .inl (cy 0, 8, .inl (ke))), (zn, .inl (cy 0, 8, .inl (ccv ke be fx at0 num b))), (zb, .inl (cy 0, 16, .inl (bwI fx (at0 + 64 * b) (k + 1)))), (zv, .inl (cy 0, 16, .inl (vx))), (zw, .inl (cy 0, 16, .inl (wx))), (zo, .inl (cy 0, 16, .inl (ox))), (zq, .inl (cy 0, 16, .inl (fun k => nI (orN k)))), (za, .inl (cy 0, 8, .inl (stA))), (fa, .inl (cy 0, fl0, .inl (fx)))] H locs := hW
                                refine lv_iinc (v := nI (k + 1)) (lv' := [(8, .int (nI (k + 1))), (0, .ref z0), (1, .ref fa), (2, .int (nI (at0))), (3, .int (nI (n))), (4, .long (lN num)), (6, .int (nI (bko n + 1))), (7, .int (nI (b)))]) hx hb dX5_chunk_168 hl (k := 7) rfl (nI_1 _) (by decide) rfl (fun ls hl => ?_)
                                refine lv_goto (tgt := 127) hx hb dX5_chunk_171 (by decide) ?_
                                exact ih127 (k + 1) (by omega) (by omega) _ _ hW _ (lv_sub hl [1, 2, 3, 4, 5, 6, 7, 0] rfl)
                          exact loop127 _ 0 (Nat.lt_succ_self _) (by omega) _ _ hW _ (lv_sub hl [1, 2, 3, 4, 5, 6, 7, 0] rfl)
                        · skip
                          refine lv_aload_n hx hb dX5_chunk_110 rfl (lv_at hl 0 rfl) ?_
                          refine va_get (D := D) (ci := 5) (v := .ref zb) (C := RX5) (T := TX5) (N := 28) hx hb hts i_X5_chunk_X5 hown hK hW.1 0 rfl rfl 16 (by decide) (hts (.fieldLink RX5 50 "TreeHashesModel" "block" "[I") f_X5_chunk_5) (fun _ h9 => h9) rfl dX5_chunk_111 ?_
                          refine lv_iload hx hb dX5_chunk_114 (lv_at hl 7 rfl) ?_
                          refine lv_iconst (v := nI (0)) hx hb dX5_chunk_116 (by decide) ?_
                          refine wI hx hb hK hW 3 rfl (k := j) (by omega) (by omega) dX5_chunk_117 (fun H locs hW => ?_)
                          have hW : Wd D A s [(z0, .inr (5, [.ref zr, .ref zs, .ref zt, .ref zc, .ref zm, .ref zk, .ref zh, .ref zd, .ref zf, .int (nI (ml)), .ref zp, .int (nI (mps)), .ref za, .ref ze, .int (be), .ref zn, .ref zb, .ref zv, .ref zw, .ref zo, .ref zq, .long (lN num), .int (nI (blen n b)), .int (gx), .ref zl, .int (nI (hg)), .int (nI (cz)), .ref zi])), (ze, .inl (cy 0, 8, .inl (ke))), (zn, .inl (cy 0, 8, .inl (ccv ke be fx at0 num b))), (zb, .inl (cy 0, 16, .inl (upd (apG bx 0 (fun _ => nI (0)) j) j (nI (0))))), (zv, .inl (cy 0, 16, .inl (vx))), (zw, .inl (cy 0, 16, .inl (wx))), (zo, .inl (cy 0, 16, .inl (ox))), (zq, .inl (cy 0, 16, .inl (fun k => nI (orN k)))), (za, .inl (cy 0, 8, .inl (stA))), (fa, .inl (cy 0, fl0, .inl (fx)))] H locs := hW
                          rw [show (upd (apG bx 0 (fun _ => nI (0)) j) j (nI (0))) = (apG bx 0 (fun _ => nI (0)) (j + 1)) from by rw [← apG_s bx 0 (fun _ => nI (0)) j, Nat.zero_add]] at hW
                          have hW : Wd D A s [(z0, .inr (5, [.ref zr, .ref zs, .ref zt, .ref zc, .ref zm, .ref zk, .ref zh, .ref zd, .ref zf, .int (nI (ml)), .ref zp, .int (nI (mps)), .ref za, .ref ze, .int (be), .ref zn, .ref zb, .ref zv, .ref zw, .ref zo, .ref zq, .long (lN num), .int (nI (blen n b)), .int (gx), .ref zl, .int (nI (hg)), .int (nI (cz)), .ref zi])), (ze, .inl (cy 0, 8, .inl (ke))), (zn, .inl (cy 0, 8, .inl (ccv ke be fx at0 num b))), (zb, .inl (cy 0, 16, .inl (apG bx 0 (fun _ => nI (0)) (j + 1)))), (zv, .inl (cy 0, 16, .inl (vx))), (zw, .inl (cy 0, 16, .inl (wx))), (zo, .inl (cy 0, 16, .inl (ox))), (zq, .inl (cy 0, 16, .inl (fun k => nI (orN k)))), (za, .inl (cy 0, 8, .inl (stA))), (fa, .inl (cy 0, fl0, .inl (fx)))] H locs := hW
                          refine lv_iinc (v := nI (j + 1)) (lv' := [(8, .int (nI (j + 1))), (0, .ref z0), (1, .ref fa), (2, .int (nI (at0))), (3, .int (nI (n))), (4, .long (lN num)), (6, .int (nI (bko n + 1))), (7, .int (nI (b)))]) hx hb dX5_chunk_118 hl (k := 7) rfl (nI_1 _) (by decide) rfl (fun ls hl => ?_)
                          refine lv_goto (tgt := 103) hx hb dX5_chunk_121 (by decide) ?_
                          exact ih103 (j + 1) (by omega) (by omega) _ _ hW _ (lv_sub hl [1, 2, 3, 4, 5, 6, 7, 0] rfl)
                    rw [← apG_0 bx 0 (fun _ => nI (0))] at hW
                    exact loop103 _ 0 (Nat.lt_succ_self _) (by omega) _ _ hW _ (lv_sub hl [1, 2, 3, 4, 5, 6, 7, 0] rfl)
                  refine iGe (a := n - (64 * b)) (b := 64) (tgt := 95) hx hb dX5_chunk_82 (by decide) (by omega) (by omega) (fun h82 => ?_) (fun h82 => ?_)
                  · skip
                    refine lv_bipush (v := nI (64)) hx hb dX5_chunk_95 (by decide) ?_
                    refine tI (x' := nI (blen n b)) (by rw [← blen_g h82]) ?_
                    exact jn97 _ _ hW _ hl
                  · skip
                    refine lv_iload_n hx hb dX5_chunk_85 rfl (lv_at hl 3 rfl) ?_
                    refine lv_bipush (v := nI (64)) hx hb dX5_chunk_86 (by decide) ?_
                    refine lv_iload hx hb dX5_chunk_88 (lv_at hl 6 rfl) ?_
                    refine lv_imul hx hb dX5_chunk_90 ?_
                    refine tI (pk_mul _ _) ?_
                    refine lv_isub hx hb dX5_chunk_91 ?_
                    refine tI (pk_sub (by omega)) ?_
                    refine tI (x' := nI (blen n b)) (by rw [blen_l h82]) ?_
                    refine lv_goto (tgt := 97) hx hb dX5_chunk_92 (by decide) ?_
                    exact jn97 _ _ hW _ hl
                · skip
                  refine lv_aload_n hx hb dX5_chunk_68 rfl (lv_at hl 0 rfl) ?_
                  refine kVv (As := []) (rest := []) S0 hK hst hA hW [0, 2, 3, 4, 5, 6, 7, 8] (fun sz => c_X5_mixIn l D cy t z0 zr zs zt zc zm zk zh zd zf ml zp mps za ze be zn zb zv zw zo zq (lN num) qx gx zl hg cz zi cx bx vx wx ox  sz) rfl (by decide) (cwV 0 hts gX5_chunk_X5_mixIn rfl rfl rfl (by decide +kernel) ⟨Nat.le_of_ble_eq_true rfl, Nat.le_of_ble_eq_true rfl⟩) (fun ⟨_, _⟩ => rfl) 0 5 rfl rfl rfl hl.1 rfl (Nat.le_of_ble_eq_true rfl) dX5_chunk_69 ⟨Nat.le_of_ble_eq_true rfl, Nat.le_of_ble_eq_true rfl⟩ (fun u69 H locs p69 hW => ?_)
                  obtain ⟨ww2_69, oo2_69⟩ := u69
                  have hW : Wd D A s [(z0, .inr (5, [.ref zr, .ref zs, .ref zt, .ref zc, .ref zm, .ref zk, .ref zh, .ref zd, .ref zf, .int (nI (ml)), .ref zp, .int (nI (mps)), .ref za, .ref ze, .int (be), .ref zn, .ref zb, .ref zv, .ref zw, .ref zo, .ref zq, .long ((lN num)), .int (qx), .int (gx), .ref zl, .int (nI (hg)), .int (nI (cz)), .ref zi])), (ze, .inl (cy 0, 8, .inl (ke))), (zn, .inl (cy 0, 8, .inl (mixV cx bx (lN num) qx gx))), (zb, .inl (cy 0, 16, .inl (bx))), (zv, .inl (cy 0, 16, .inl (mixV cx bx (lN num) qx gx))), (zw, .inl (cy 0, 16, .inl (ww2_69))), (zo, .inl (cy 0, 16, .inl (oo2_69))), (zq, .inl (cy 0, 16, .inl (fun k => nI (orN k)))), (za, .inl (cy 0, 8, .inl (stA))), (fa, .inl (cy 0, fl0, .inl (fx)))] H locs := hW
                  rw [show (mixV cx bx (lN num) qx gx) = (ccv ke be fx at0 num b) from by obtain ⟨q1, q2, q3, q4⟩ := hb1 h65; rw [q1, q2, q3, q4]; exact ccv_step h65 (by omega)] at hW
                  have hW : Wd D A s [(z0, .inr (5, [.ref zr, .ref zs, .ref zt, .ref zc, .ref zm, .ref zk, .ref zh, .ref zd, .ref zf, .int (nI (ml)), .ref zp, .int (nI (mps)), .ref za, .ref ze, .int (be), .ref zn, .ref zb, .ref zv, .ref zw, .ref zo, .ref zq, .long ((lN num)), .int (qx), .int (gx), .ref zl, .int (nI (hg)), .int (nI (cz)), .ref zi])), (ze, .inl (cy 0, 8, .inl (ke))), (zn, .inl (cy 0, 8, .inl (ccv ke be fx at0 num b))), (zb, .inl (cy 0, 16, .inl (bx))), (zv, .inl (cy 0, 16, .inl (ccv ke be fx at0 num b))), (zw, .inl (cy 0, 16, .inl (ww2_69))), (zo, .inl (cy 0, 16, .inl (oo2_69))), (zq, .inl (cy 0, 16, .inl (fun k => nI (orN k)))), (za, .inl (cy 0, 8, .inl (stA))), (fa, .inl (cy 0, fl0, .inl (fx)))] H locs := hW
                  refine lv_aload_n hx hb dX5_chunk_72 rfl (lv_at hl 0 rfl) ?_
                  refine lv_iload_n hx hb dX5_chunk_73 rfl (lv_at hl 3 rfl) ?_
                  refine lv_bipush (v := nI (64)) hx hb dX5_chunk_74 (by decide) ?_
                  refine lv_iload hx hb dX5_chunk_76 (lv_at hl 6 rfl) ?_
                  refine lv_imul hx hb dX5_chunk_78 ?_
                  refine tI (pk_mul _ _) ?_
                  refine lv_isub hx hb dX5_chunk_79 ?_
                  refine tI (pk_sub (by omega)) ?_
                  refine lv_bipush (v := nI (64)) hx hb dX5_chunk_80 (by decide) ?_
                  have jn97 : ∀ (H : Heap) (locs : List Loc), Wd D A s [(z0, .inr (5, [.ref zr, .ref zs, .ref zt, .ref zc, .ref zm, .ref zk, .ref zh, .ref zd, .ref zf, .int (nI (ml)), .ref zp, .int (nI (mps)), .ref za, .ref ze, .int (be), .ref zn, .ref zb, .ref zv, .ref zw, .ref zo, .ref zq, .long ((lN num)), .int (qx), .int (gx), .ref zl, .int (nI (hg)), .int (nI (cz)), .ref zi])), (ze, .inl (cy 0, 8, .inl (ke))), (zn, .inl (cy 0, 8, .inl (ccv ke be fx at0 num b))), (zb, .inl (cy 0, 16, .inl (bx))), (zv, .inl (cy 0, 16, .inl (ccv ke be fx at0 num b))), (zw, .inl (cy 0, 16, .inl (ww2_69))), (zo, .inl (cy 0, 16, .inl (oo2_69))), (zq, .inl (cy 0, 16, .inl (fun k => nI (orN k)))), (za, .inl (cy 0, 8, .inl (stA))), (fa, .inl (cy 0, fl0, .inl (fx)))] H locs → ∀ ls : Array Slot, lv_has ls 9 [(0, .ref z0), (1, .ref fa), (2, .int (nI (at0))), (3, .int (nI (n))), (4, .long (lN num)), (6, .int (nI (bko n + 1))), (7, .int (nI (b)))] → W p l e ({ frames := 4, cells := 0, slots := 0, locals := 92 }) s m args below meth c H locs 0 0 Q (F0 m 97 ls [.int (nI (blen n b)), .ref z0]) := by
                    intro H locs hW ls hl
                    refine va_put (D := D) (ci := 5) (v := .int (nI (blen n b))) (ty := .int) (C := RX5) (T := TX5) (N := 28) hx hb hts i_X5_chunk_X5 tyX5 tyX5_ok nmX5 hown hK hW.1 hW.2.1 hW.2.2 0 rfl rfl 22 (by decide) (hts (.fieldLink RX5 92 "TreeHashesModel" "blockLength" "I") f_X5_chunk_2) (fun _ h9 => h9) rfl (by decide +kernel) rfl rfl (Nat.le_of_ble_eq_true rfl) dX5_chunk_97 (fun H locs hP hD hS => ?_)
                    have hW : Wd D A s [(z0, .inr (5, [.ref zr, .ref zs, .ref zt, .ref zc, .ref zm, .ref zk, .ref zh, .ref zd, .ref zf, .int (nI (ml)), .ref zp, .int (nI (mps)), .ref za, .ref ze, .int (be), .ref zn, .ref zb, .ref zv, .ref zw, .ref zo, .ref zq, .long ((lN num)), .int (nI (blen n b)), .int (gx), .ref zl, .int (nI (hg)), .int (nI (cz)), .ref zi])), (ze, .inl (cy 0, 8, .inl (ke))), (zn, .inl (cy 0, 8, .inl (ccv ke be fx at0 num b))), (zb, .inl (cy 0, 16, .inl (bx))), (zv, .inl (cy 0, 16, .inl (ccv ke be fx at0 num b))), (zw, .inl (cy 0, 16, .inl (ww2_69))), (zo, .inl (cy 0, 16, .inl (oo2_69))), (zq, .inl (cy 0, 16, .inl (fun k => nI (orN k)))), (za, .inl (cy 0, 8, .inl (stA))), (fa, .inl (cy 0, fl0, .inl (fx)))] H locs := ⟨hP, hD, hS⟩
                    refine lv_iconst (v := nI (0)) hx hb dX5_chunk_100 (by decide) ?_
                    refine lv_istore (lv' := [(8, .int (nI (0))), (0, .ref z0), (1, .ref fa), (2, .int (nI (at0))), (3, .int (nI (n))), (4, .long (lN num)), (6, .int (nI (bko n + 1))), (7, .int (nI (b)))]) hx hb dX5_chunk_101 hl (by decide) rfl (fun ls hl => ?_)
                    have loop103 : ∀ (nF : Nat) (j : Nat), 16 - j < nF → (j ≤ 16) → ∀ (H : Heap) (locs : List Loc), Wd D A s [(z0, .inr (5, [.ref zr, .ref zs, .ref zt, .ref zc, .ref zm, .ref zk, .ref zh, .ref zd, .ref zf, .int (nI (ml)), .ref zp, .int (nI (mps)), .ref za, .ref ze, .int (be), .ref zn, .ref zb, .ref zv, .ref zw, .ref zo, .ref zq, .long ((lN num)), .int (nI (blen n b)), .int (gx), .ref zl, .int (nI (hg)), .int (nI (cz)), .ref zi])), (ze, .inl (cy 0, 8, .inl (ke))), (zn, .inl (cy 0, 8, .inl (ccv ke be fx at0 num b))), (zb, .inl (cy 0, 16, .inl (apG bx 0 (fun _ => nI (0)) j))), (zv, .inl (cy 0, 16, .inl (ccv ke be fx at0 num b))), (zw, .inl (cy 0, 16, .inl (ww2_69))), (zo, .inl (cy 0, 16, .inl (oo2_69))), (zq, .inl (cy 0, 16, .inl (fun k => nI (orN k)))), (za, .inl (cy 0, 8, .inl (stA))), (fa, .inl (cy 0, fl0, .inl (fx)))] H locs → ∀ ls : Array Slot, lv_has ls 9 [(0, .ref z0), (1, .ref fa), (2, .int (nI (at0))), (3, .int (nI (n))), (4, .long (lN num)), (6, .int (nI (bko n + 1))), (7, .int (nI (b))), (8, .int (nI (j)))] → W p l e ({ frames := 4, cells := 0, slots := 0, locals := 92 }) s m args below meth c H locs 0 0 Q (F0 m 103 ls []) := by
                      intro nF
                      induction nF with
                      | zero => intro j hf; exact absurd hf (Nat.not_lt_zero _)
                      | succ nF ih103 =>
                        intro j hf hj H locs hW ls hl
                        refine lv_iload hx hb dX5_chunk_103 (lv_at hl 7 rfl) ?_
                        refine lv_bipush (v := nI (16)) hx hb dX5_chunk_105 (by decide) ?_
                        refine iGe (a := j) (b := 16) (tgt := 124) hx hb dX5_chunk_107 (by decide) (by omega) (by omega) (fun h107 => ?_) (fun h107 => ?_)
                        · skip
                          have e9 : j = 16 := by omega
                          rw [e9] at hW
                          have hW := Wd.ext hW 3 rfl (bwI fx (at0 + 64 * b) 0) apG_all
                          refine lv_iconst (v := nI (0)) hx hb dX5_chunk_124 (by decide) ?_
                          refine lv_istore (lv' := [(8, .int (nI (0))), (0, .ref z0), (1, .ref fa), (2, .int (nI (at0))), (3, .int (nI (n))), (4, .long (lN num)), (6, .int (nI (bko n + 1))), (7, .int (nI (b)))]) hx hb dX5_chunk_125 hl (by decide) rfl (fun ls hl => ?_)
                          have loop127 : ∀ (nF : Nat) (k : Nat), blen n b - k < nF → (k ≤ blen n b) → ∀ (H : Heap) (locs : List Loc), Wd D A s [(z0, .inr (5, [.ref zr, .ref zs, .ref zt, .ref zc, .ref zm, .ref zk, .ref zh, .ref zd, .ref zf, .int (nI (ml)), .ref zp, .int (nI (mps)), .ref za, .ref ze, .int (be), .ref zn, .ref zb, .ref zv, .ref zw, .ref zo, .ref zq, .long ((lN num)), .int (nI (blen n b)), .int (gx), .ref zl, .int (nI (hg)), .int (nI (cz)), .ref zi])), (ze, .inl (cy 0, 8, .inl (ke))), (zn, .inl (cy 0, 8, .inl (ccv ke be fx at0 num b))), (zb, .inl (cy 0, 16, .inl (bwI fx (at0 + 64 * b) k))), (zv, .inl (cy 0, 16, .inl (ccv ke be fx at0 num b))), (zw, .inl (cy 0, 16, .inl (ww2_69))), (zo, .inl (cy 0, 16, .inl (oo2_69))), (zq, .inl (cy 0, 16, .inl (fun k => nI (orN k)))), (za, .inl (cy 0, 8, .inl (stA))), (fa, .inl (cy 0, fl0, .inl (fx)))] H locs → ∀ ls : Array Slot, lv_has ls 9 [(0, .ref z0), (1, .ref fa), (2, .int (nI (at0))), (3, .int (nI (n))), (4, .long (lN num)), (6, .int (nI (bko n + 1))), (7, .int (nI (b))), (8, .int (nI (k)))] → W p l e ({ frames := 4, cells := 0, slots := 0, locals := 92 }) s m args below meth c H locs 0 0 Q (F0 m 127 ls []) := by
                            intro nF
                            induction nF with
                            | zero => intro k hf; exact absurd hf (Nat.not_lt_zero _)
                            | succ nF ih127 =>
                              intro k hf hk H locs hW ls hl
                              refine lv_iload hx hb dX5_chunk_127 (lv_at hl 7 rfl) ?_
                              refine lv_aload_n hx hb dX5_chunk_129 rfl (lv_at hl 0 rfl) ?_
                              refine va_get (D := D) (ci := 5) (v := .int (nI (blen n b))) (C := RX5) (T := TX5) (N := 28) hx hb hts i_X5_chunk_X5 hown hK hW.1 0 rfl rfl 22 (by decide) (hts (.fieldLink RX5 92 "TreeHashesModel" "blockLength" "I") f_X5_chunk_2) (fun _ h9 => h9) rfl dX5_chunk_130 ?_
                              refine iGe (a := k) (b := blen n b) (tgt := 174) hx hb dX5_chunk_133 (by decide) (by omega) (by omega) (fun h133 => ?_) (fun h133 => ?_)
                              · skip
                                have e9 : k = blen n b := by omega
                                rw [e9] at hW
                                refine lv_aload_n hx hb dX5_chunk_174 rfl (lv_at hl 0 rfl) ?_
                                refine lv_aload_n hx hb dX5_chunk_175 rfl (lv_at hl 0 rfl) ?_
                                refine va_get (D := D) (ci := 5) (v := .int (be)) (C := RX5) (T := TX5) (N := 28) hx hb hts i_X5_chunk_X5 hown hK hW.1 0 rfl rfl 14 (by decide) (hts (.fieldLink RX5 114 "TreeHashesModel" "base" "I") f_X5_chunk_3) (fun _ h9 => h9) rfl dX5_chunk_176 ?_
                                refine lv_iload hx hb dX5_chunk_179 (lv_at hl 6 rfl) ?_
                                have jn189 : ∀ (H : Heap) (locs : List Loc), Wd D A s [(z0, .inr (5, [.ref zr, .ref zs, .ref zt, .ref zc, .ref zm, .ref zk, .ref zh, .ref zd, .ref zf, .int (nI (ml)), .ref zp, .int (nI (mps)), .ref za, .ref ze, .int (be), .ref zn, .ref zb, .ref zv, .ref zw, .ref zo, .ref zq, .long ((lN num)), .int (nI (blen n b)), .int (gx), .ref zl, .int (nI (hg)), .int (nI (cz)), .ref zi])), (ze, .inl (cy 0, 8, .inl (ke))), (zn, .inl (cy 0, 8, .inl (ccv ke be fx at0 num b))), (zb, .inl (cy 0, 16, .inl (bwI fx (at0 + 64 * b) (blen n b)))), (zv, .inl (cy 0, 16, .inl (ccv ke be fx at0 num b))), (zw, .inl (cy 0, 16, .inl (ww2_69))), (zo, .inl (cy 0, 16, .inl (oo2_69))), (zq, .inl (cy 0, 16, .inl (fun k => nI (orN k)))), (za, .inl (cy 0, 8, .inl (stA))), (fa, .inl (cy 0, fl0, .inl (fx)))] H locs → ∀ ls : Array Slot, lv_has ls 9 [(0, .ref z0), (1, .ref fa), (2, .int (nI (at0))), (3, .int (nI (n))), (4, .long (lN num)), (6, .int (nI (bko n + 1))), (7, .int (nI (b))), (8, .int (nI (k)))] → W p l e ({ frames := 4, cells := 0, slots := 0, locals := 92 }) s m args below meth c H locs 0 0 Q (F0 m 189 ls [.int (nI (fst0 b)), .int (be), .ref z0]) := by
                                  intro H locs hW ls hl
                                  refine lv_iadd hx hb dX5_chunk_189 ?_
                                  refine lv_iload hx hb dX5_chunk_190 (lv_at hl 6 rfl) ?_
                                  refine lv_iload hx hb dX5_chunk_192 (lv_at hl 5 rfl) ?_
                                  refine lv_iconst (v := nI (1)) hx hb dX5_chunk_194 (by decide) ?_
                                  refine lv_isub hx hb dX5_chunk_195 ?_
                                  refine tI (pk_sub (by omega)) ?_
                                  have jn204 : ∀ (H : Heap) (locs : List Loc), Wd D A s [(z0, .inr (5, [.ref zr, .ref zs, .ref zt, .ref zc, .ref zm, .ref zk, .ref zh, .ref zd, .ref zf, .int (nI (ml)), .ref zp, .int (nI (mps)), .ref za, .ref ze, .int (be), .ref zn, .ref zb, .ref zv, .ref zw, .ref zo, .ref zq, .long ((lN num)), .int (nI (blen n b)), .int (gx), .ref zl, .int (nI (hg)), .int (nI (cz)), .ref zi])), (ze, .inl (cy 0, 8, .inl (ke))), (zn, .inl (cy 0, 8, .inl (ccv ke be fx at0 num b))), (zb, .inl (cy 0, 16, .inl (bwI fx (at0 + 64 * b) (blen n b)))), (zv, .inl (cy 0, 16, .inl (ccv ke be fx at0 num b))), (zw, .inl (cy 0, 16, .inl (ww2_69))), (zo, .inl (cy 0, 16, .inl (oo2_69))), (zq, .inl (cy 0, 16, .inl (fun k => nI (orN k)))), (za, .inl (cy 0, 8, .inl (stA))), (fa, .inl (cy 0, fl0, .inl (fx)))] H locs → ∀ ls : Array Slot, lv_has ls 9 [(0, .ref z0), (1, .ref fa), (2, .int (nI (at0))), (3, .int (nI (n))), (4, .long (lN num)), (6, .int (nI (bko n + 1))), (7, .int (nI (b))), (8, .int (nI (k)))] → W p l e ({ frames := 4, cells := 0, slots := 0, locals := 92 }) s m args below meth c H locs 0 0 Q (F0 m 204 ls [.int (nI (lst n b)), .int (be + (nI (fst0 b))), .ref z0]) := by
                                    intro H locs hW ls hl
                                    refine lv_iadd hx hb dX5_chunk_204 ?_
                                    refine va_put (D := D) (ci := 5) (v := .int ((be + (nI (fst0 b))) + (nI (lst n b)))) (ty := .int) (C := RX5) (T := TX5) (N := 28) hx hb hts i_X5_chunk_X5 tyX5 tyX5_ok nmX5 hown hK hW.1 hW.2.1 hW.2.2 0 rfl rfl 23 (by decide) (hts (.fieldLink RX5 104 "TreeHashesModel" "flags" "I") f_X5_chunk_4) (fun _ h9 => h9) rfl (by decide +kernel) rfl rfl (Nat.le_of_ble_eq_true rfl) dX5_chunk_205 (fun H locs hP hD hS => ?_)
                                    have hW : Wd D A s [(z0, .inr (5, [.ref zr, .ref zs, .ref zt, .ref zc, .ref zm, .ref zk, .ref zh, .ref zd, .ref zf, .int (nI (ml)), .ref zp, .int (nI (mps)), .ref za, .ref ze, .int (be), .ref zn, .ref zb, .ref zv, .ref zw, .ref zo, .ref zq, .long ((lN num)), .int (nI (blen n b)), .int ((be + (nI (fst0 b))) + (nI (lst n b))), .ref zl, .int (nI (hg)), .int (nI (cz)), .ref zi])), (ze, .inl (cy 0, 8, .inl (ke))), (zn, .inl (cy 0, 8, .inl (ccv ke be fx at0 num b))), (zb, .inl (cy 0, 16, .inl (bwI fx (at0 + 64 * b) (blen n b)))), (zv, .inl (cy 0, 16, .inl (ccv ke be fx at0 num b))), (zw, .inl (cy 0, 16, .inl (ww2_69))), (zo, .inl (cy 0, 16, .inl (oo2_69))), (zq, .inl (cy 0, 16, .inl (fun k => nI (orN k)))), (za, .inl (cy 0, 8, .inl (stA))), (fa, .inl (cy 0, fl0, .inl (fx)))] H locs := ⟨hP, hD, hS⟩
                                    refine lv_iinc (v := nI (b + 1)) (lv' := [(7, .int (nI (b + 1))), (0, .ref z0), (1, .ref fa), (2, .int (nI (at0))), (3, .int (nI (n))), (4, .long (lN num)), (6, .int (nI (bko n + 1))), (8, .int (nI (k)))]) hx hb dX5_chunk_208 hl (k := 6) rfl (nI_1 _) (by decide) rfl (fun ls hl => ?_)
                                    refine lv_goto (tgt := 56) hx hb dX5_chunk_211 (by decide) ?_
                                    exact ih56 (b + 1) (ccv ke be fx at0 num b) (bwI fx (at0 + 64 * b) (blen n b)) (nI (blen n b)) ((be + (nI (fst0 b))) + (nI (lst n b))) (ccv ke be fx at0 num b) ww2_69 oo2_69 (by omega) (by omega) (fun q => absurd q (Nat.succ_ne_zero b)) (fun _ => ⟨rfl, rfl, rfl, rfl⟩) _ _ hW _ (lv_sub hl [1, 2, 3, 4, 5, 6, 0] rfl)
                                  refine iNe (a := b) (b := (bko n + 1) - 1) (tgt := 203) hx hb dX5_chunk_196 (by decide) (by omega) (by omega) (fun h196 => ?_) (fun h196 => ?_)
                                  · skip
                                    refine lv_iconst (v := nI (0)) hx hb dX5_chunk_203 (by decide) ?_
                                    refine tI (x' := nI (lst n b)) (lst_1 h196) ?_
                                    exact jn204 _ _ hW _ hl
                                  · skip
                                    refine lv_iconst (v := nI (2)) hx hb dX5_chunk_199 (by decide) ?_
                                    refine tI (x' := nI (lst n b)) (lst_0 h196) ?_
                                    refine lv_goto (tgt := 204) hx hb dX5_chunk_200 (by decide) ?_
                                    exact jn204 _ _ hW _ hl
                                refine zNe (a := b) (tgt := 188) hx hb dX5_chunk_181 (by decide) (by omega) (fun h181 => ?_) (fun h181 => ?_)
                                · skip
                                  refine lv_iconst (v := nI (0)) hx hb dX5_chunk_188 (by decide) ?_
                                  refine tI (x' := nI (fst0 b)) (fst0_1 h181) ?_
                                  exact jn189 _ _ hW _ hl
                                · skip
                                  refine lv_iconst (v := nI (1)) hx hb dX5_chunk_184 (by decide) ?_
                                  refine tI (x' := nI (fst0 b)) (fst0_0 h181) ?_
                                  refine lv_goto (tgt := 189) hx hb dX5_chunk_185 (by decide) ?_
                                  exact jn189 _ _ hW _ hl
                              · skip
                                refine lv_aload_n hx hb dX5_chunk_136 rfl (lv_at hl 0 rfl) ?_
                                refine va_get (D := D) (ci := 5) (v := .ref zb) (C := RX5) (T := TX5) (N := 28) hx hb hts i_X5_chunk_X5 hown hK hW.1 0 rfl rfl 16 (by decide) (hts (.fieldLink RX5 50 "TreeHashesModel" "block" "[I") f_X5_chunk_5) (fun _ h9 => h9) rfl dX5_chunk_137 ?_
                                refine lv_iload hx hb dX5_chunk_140 (lv_at hl 7 rfl) ?_
                                refine lv_iconst (v := nI (4)) hx hb dX5_chunk_142 (by decide) ?_
                                refine lv_idiv hx hb dX5_chunk_143 (by decide) ?_
                                refine tI (pk_div (by omega) (by omega) (by omega)) ?_
                                refine lv_dup2_11 hx hb dX5_chunk_144 rfl rfl ?_
                                refine rI hx hb hK hW 3 rfl (k := k / 4) (by omega) (by omega) dX5_chunk_145 ?_
                                refine lv_aload_n hx hb dX5_chunk_146 rfl (lv_at hl 1 rfl) ?_
                                refine lv_iload_n hx hb dX5_chunk_147 rfl (lv_at hl 2 rfl) ?_
                                refine lv_bipush (v := nI (64)) hx hb dX5_chunk_148 (by decide) ?_
                                refine lv_iload hx hb dX5_chunk_150 (lv_at hl 6 rfl) ?_
                                refine lv_imul hx hb dX5_chunk_152 ?_
                                refine tI (pk_mul _ _) ?_
                                refine lv_iadd hx hb dX5_chunk_153 ?_
                                refine tI (nI_add _ _) ?_
                                refine lv_iload hx hb dX5_chunk_154 (lv_at hl 7 rfl) ?_
                                refine lv_iadd hx hb dX5_chunk_156 ?_
                                refine tI (nI_add _ _) ?_
                                refine rI hx hb hK hW 9 rfl (k := (at0 + (64 * b)) + k) (by omega) (by omega) dX5_chunk_157 ?_
                                refine lv_bipush (v := nI (8)) hx hb dX5_chunk_158 (by decide) ?_
                                refine lv_iload hx hb dX5_chunk_160 (lv_at hl 7 rfl) ?_
                                refine lv_iconst (v := nI (4)) hx hb dX5_chunk_162 (by decide) ?_
                                refine lv_irem hx hb dX5_chunk_163 (by decide) ?_
                                refine tI (pk_rem (by omega) (by omega) (by omega)) ?_
                                refine lv_imul hx hb dX5_chunk_164 ?_
                                refine tI (pk_mul _ _) ?_
                                refine lv_ishl hx hb dX5_chunk_165 ?_
                                refine lv_ior hx hb dX5_chunk_166 ?_
                                refine wI hx hb hK hW 3 rfl (k := k / 4) (by omega) (by omega) dX5_chunk_167 (fun H locs hW => ?_)
                                have hW : Wd D A s [(z0, .inr (5, [.ref zr, .ref zs, .ref zt, .ref zc, .ref zm, .ref zk, .ref zh, .ref zd, .ref zf, .int (nI (ml)), .ref zp, .int (nI (mps)), .ref za, .ref ze, .int (be), .ref zn, .ref zb, .ref zv, .ref zw, .ref zo, .ref zq, .long ((lN num)), .int (nI (blen n b)), .int (gx), .ref zl, .int (nI (hg)), .int (nI (cz)), .ref zi])), (ze, .inl (cy 0, 8, .inl (ke))), (zn, .inl (cy 0, 8, .inl (ccv ke be fx at0 num b))), (zb, .inl (cy 0, 16, .inl (upd (bwI fx (at0 + 64 * b) k) (k / 4) (((bwI fx (at0 + 64 * b) k) (k / 4)) ||| ((fx ((at0 + (64 * b)) + k)) <<< ((nI (8 * (k % 4))) &&& 31)))))), (zv, .inl (cy 0, 16, .inl (ccv ke be fx at0 num b))), (zw, .inl (cy 0, 16, .inl (ww2_69))), (zo, .inl (cy 0, 16, .inl (oo2_69))), (zq, .inl (cy 0, 16, .inl (fun k => nI (orN k)))), (za, .inl (cy 0, 8, .inl (stA))), (fa, .inl (cy 0, fl0, .inl (fx)))] H locs := hW
                                rw [show (upd (bwI fx (at0 + 64 * b) k) (k / 4) (((bwI fx (at0 + 64 * b) k) (k / 4)) ||| ((fx ((at0 + (64 * b)) + k)) <<< ((nI (8 * (k % 4))) &&& 31)))) = (bwI fx (at0 + 64 * b) (k + 1)) from bwI_s4 fx (at0 + 64 * b) k] at hW
                                have hW : Wd D A s [(z0, .inr (5, [.ref zr, .ref zs, .ref zt, .ref zc, .ref zm, .ref zk, .ref zh, .ref zd, .ref zf, .int (nI (ml)), .ref zp, .int (nI (mps)), .ref za, .ref ze, .int (be), .ref zn, .ref zb, .ref zv, .ref zw, .ref zo, .ref zq, .long ((lN num)), .int (nI (blen n b)), .int (gx), .ref zl, .int (nI (hg)), .int (nI (cz)), .ref zi])), (ze, .inl (cy 0, 8, .inl (ke))), (zn, .inl (cy 0, 8, .inl (ccv ke be fx at0 num b))), (zb, .inl (cy 0, 16, .inl (bwI fx (at0 + 64 * b) (k + 1)))), (zv, .inl (cy 0, 16, .inl (ccv ke be fx at0 num b))), (zw, .inl (cy 0, 16, .inl (ww2_69))), (zo, .inl (cy 0, 16, .inl (oo2_69))), (zq, .inl (cy 0, 16, .inl (fun k => nI (orN k)))), (za, .inl (cy 0, 8, .inl (stA))), (fa, .inl (cy 0, fl0, .inl (fx)))] H locs := hW
                                refine lv_iinc (v := nI (k + 1)) (lv' := [(8, .int (nI (k + 1))), (0, .ref z0), (1, .ref fa), (2, .int (nI (at0))), (3, .int (nI (n))), (4, .long (lN num)), (6, .int (nI (bko n + 1))), (7, .int (nI (b)))]) hx hb dX5_chunk_168 hl (k := 7) rfl (nI_1 _) (by decide) rfl (fun ls hl => ?_)
                                refine lv_goto (tgt := 127) hx hb dX5_chunk_171 (by decide) ?_
                                exact ih127 (k + 1) (by omega) (by omega) _ _ hW _ (lv_sub hl [1, 2, 3, 4, 5, 6, 7, 0] rfl)
                          exact loop127 _ 0 (Nat.lt_succ_self _) (by omega) _ _ hW _ (lv_sub hl [1, 2, 3, 4, 5, 6, 7, 0] rfl)
                        · skip
                          refine lv_aload_n hx hb dX5_chunk_110 rfl (lv_at hl 0 rfl) ?_
                          refine va_get (D := D) (ci := 5) (v := .ref zb) (C := RX5) (T := TX5) (N := 28) hx hb hts i_X5_chunk_X5 hown hK hW.1 0 rfl rfl 16 (by decide) (hts (.fieldLink RX5 50 "TreeHashesModel" "block" "[I") f_X5_chunk_5) (fun _ h9 => h9) rfl dX5_chunk_111 ?_
                          refine lv_iload hx hb dX5_chunk_114 (lv_at hl 7 rfl) ?_
                          refine lv_iconst (v := nI (0)) hx hb dX5_chunk_116 (by decide) ?_
                          refine wI hx hb hK hW 3 rfl (k := j) (by omega) (by omega) dX5_chunk_117 (fun H locs hW => ?_)
                          have hW : Wd D A s [(z0, .inr (5, [.ref zr, .ref zs, .ref zt, .ref zc, .ref zm, .ref zk, .ref zh, .ref zd, .ref zf, .int (nI (ml)), .ref zp, .int (nI (mps)), .ref za, .ref ze, .int (be), .ref zn, .ref zb, .ref zv, .ref zw, .ref zo, .ref zq, .long ((lN num)), .int (nI (blen n b)), .int (gx), .ref zl, .int (nI (hg)), .int (nI (cz)), .ref zi])), (ze, .inl (cy 0, 8, .inl (ke))), (zn, .inl (cy 0, 8, .inl (ccv ke be fx at0 num b))), (zb, .inl (cy 0, 16, .inl (upd (apG bx 0 (fun _ => nI (0)) j) j (nI (0))))), (zv, .inl (cy 0, 16, .inl (ccv ke be fx at0 num b))), (zw, .inl (cy 0, 16, .inl (ww2_69))), (zo, .inl (cy 0, 16, .inl (oo2_69))), (zq, .inl (cy 0, 16, .inl (fun k => nI (orN k)))), (za, .inl (cy 0, 8, .inl (stA))), (fa, .inl (cy 0, fl0, .inl (fx)))] H locs := hW
                          rw [show (upd (apG bx 0 (fun _ => nI (0)) j) j (nI (0))) = (apG bx 0 (fun _ => nI (0)) (j + 1)) from by rw [← apG_s bx 0 (fun _ => nI (0)) j, Nat.zero_add]] at hW
                          have hW : Wd D A s [(z0, .inr (5, [.ref zr, .ref zs, .ref zt, .ref zc, .ref zm, .ref zk, .ref zh, .ref zd, .ref zf, .int (nI (ml)), .ref zp, .int (nI (mps)), .ref za, .ref ze, .int (be), .ref zn, .ref zb, .ref zv, .ref zw, .ref zo, .ref zq, .long ((lN num)), .int (nI (blen n b)), .int (gx), .ref zl, .int (nI (hg)), .int (nI (cz)), .ref zi])), (ze, .inl (cy 0, 8, .inl (ke))), (zn, .inl (cy 0, 8, .inl (ccv ke be fx at0 num b))), (zb, .inl (cy 0, 16, .inl (apG bx 0 (fun _ => nI (0)) (j + 1)))), (zv, .inl (cy 0, 16, .inl (ccv ke be fx at0 num b))), (zw, .inl (cy 0, 16, .inl (ww2_69))), (zo, .inl (cy 0, 16, .inl (oo2_69))), (zq, .inl (cy 0, 16, .inl (fun k => nI (orN k)))), (za, .inl (cy 0, 8, .inl (stA))), (fa, .inl (cy 0, fl0, .inl (fx)))] H locs := hW
                          refine lv_iinc (v := nI (j + 1)) (lv' := [(8, .int (nI (j + 1))), (0, .ref z0), (1, .ref fa), (2, .int (nI (at0))), (3, .int (nI (n))), (4, .long (lN num)), (6, .int (nI (bko n + 1))), (7, .int (nI (b)))]) hx hb dX5_chunk_118 hl (k := 7) rfl (nI_1 _) (by decide) rfl (fun ls hl => ?_)
                          refine lv_goto (tgt := 103) hx hb dX5_chunk_121 (by decide) ?_
                          exact ih103 (j + 1) (by omega) (by omega) _ _ hW _ (lv_sub hl [1, 2, 3, 4, 5, 6, 7, 0] rfl)
                    rw [← apG_0 bx 0 (fun _ => nI (0))] at hW
                    exact loop103 _ 0 (Nat.lt_succ_self _) (by omega) _ _ hW _ (lv_sub hl [1, 2, 3, 4, 5, 6, 7, 0] rfl)
                  refine iGe (a := n - (64 * b)) (b := 64) (tgt := 95) hx hb dX5_chunk_82 (by decide) (by omega) (by omega) (fun h82 => ?_) (fun h82 => ?_)
                  · skip
                    refine lv_bipush (v := nI (64)) hx hb dX5_chunk_95 (by decide) ?_
                    refine tI (x' := nI (blen n b)) (by rw [← blen_g h82]) ?_
                    exact jn97 _ _ hW _ hl
                  · skip
                    refine lv_iload_n hx hb dX5_chunk_85 rfl (lv_at hl 3 rfl) ?_
                    refine lv_bipush (v := nI (64)) hx hb dX5_chunk_86 (by decide) ?_
                    refine lv_iload hx hb dX5_chunk_88 (lv_at hl 6 rfl) ?_
                    refine lv_imul hx hb dX5_chunk_90 ?_
                    refine tI (pk_mul _ _) ?_
                    refine lv_isub hx hb dX5_chunk_91 ?_
                    refine tI (pk_sub (by omega)) ?_
                    refine tI (x' := nI (blen n b)) (by rw [blen_l h82]) ?_
                    refine lv_goto (tgt := 97) hx hb dX5_chunk_92 (by decide) ?_
                    exact jn97 _ _ hW _ hl
          exact loop56 _ 0 ke bb bq fg vv ww oo (Nat.lt_succ_self _) (by omega) (fun _ => rfl) (fun q => absurd q (Nat.lt_irrefl 0)) _ _ hW _ (lv_sub hl [2, 3, 4, 5, 6, 1, 0] rfl)
        refine zNe (a := n) (tgt := 44) hx hb dX5_chunk_37 (by decide) (by omega) (fun h37 => ?_) (fun h37 => ?_)
        · skip
          refine lv_iload_n hx hb dX5_chunk_44 rfl (lv_at hl 3 rfl) ?_
          refine lv_bipush (v := nI (63)) hx hb dX5_chunk_45 (by decide) ?_
          refine lv_iadd hx hb dX5_chunk_47 ?_
          refine tI (nI_add _ _) ?_
          refine lv_bipush (v := nI (64)) hx hb dX5_chunk_48 (by decide) ?_
          refine lv_idiv hx hb dX5_chunk_50 (by decide) ?_
          refine tI (pk_div (by omega) (by omega) (by omega)) ?_
          refine tI (x' := nI (bko n + 1)) (by rw [show (n + 63) / 64 = bko n + 1 from by unfold bko; omega]) ?_
          exact jn51 _ _ hW _ hl
        · skip
          refine lv_iconst (v := nI (1)) hx hb dX5_chunk_40 (by decide) ?_
          refine tI (x' := nI (bko n + 1)) (by rw [h37]; rfl) ?_
          refine lv_goto (tgt := 51) hx hb dX5_chunk_41 (by decide) ?_
          exact jn51 _ _ hW _ hl
      · skip
        refine lv_aload_n hx hb dX5_chunk_10 rfl (lv_at hl 0 rfl) ?_
        refine va_get (D := D) (ci := 5) (v := .ref zn) (C := RX5) (T := TX5) (N := 28) hx hb hts i_X5_chunk_X5 hown hK hW.1 0 rfl rfl 15 (by decide) (hts (.fieldLink RX5 47 "TreeHashesModel" "chain" "[I") f_X5_chunk_6) (fun _ h9 => h9) rfl dX5_chunk_11 ?_
        refine lv_iload hx hb dX5_chunk_14 (lv_at hl 5 rfl) ?_
        refine lv_aload_n hx hb dX5_chunk_16 rfl (lv_at hl 0 rfl) ?_
        refine va_get (D := D) (ci := 5) (v := .ref ze) (C := RX5) (T := TX5) (N := 28) hx hb hts i_X5_chunk_X5 hown hK hW.1 0 rfl rfl 13 (by decide) (hts (.fieldLink RX5 44 "TreeHashesModel" "key" "[I") f_X5_chunk_7) (fun _ h9 => h9) rfl dX5_chunk_17 ?_
        refine lv_iload hx hb dX5_chunk_20 (lv_at hl 5 rfl) ?_
        refine rI hx hb hK hW 1 rfl (k := i) (by omega) (by omega) dX5_chunk_22 ?_
        refine wI hx hb hK hW 2 rfl (k := i) (by omega) (by omega) dX5_chunk_23 (fun H locs hW => ?_)
        have hW : Wd D A s [(z0, .inr (5, [.ref zr, .ref zs, .ref zt, .ref zc, .ref zm, .ref zk, .ref zh, .ref zd, .ref zf, .int (nI (ml)), .ref zp, .int (nI (mps)), .ref za, .ref ze, .int (be), .ref zn, .ref zb, .ref zv, .ref zw, .ref zo, .ref zq, .long (nu), .int (bq), .int (fg), .ref zl, .int (nI (hg)), .int (nI (cz)), .ref zi])), (ze, .inl (cy 0, 8, .inl (ke))), (zn, .inl (cy 0, 8, .inl (upd (apG cn 0 ke i) i (ke i)))), (zb, .inl (cy 0, 16, .inl (bb))), (zv, .inl (cy 0, 16, .inl (vv))), (zw, .inl (cy 0, 16, .inl (ww))), (zo, .inl (cy 0, 16, .inl (oo))), (zq, .inl (cy 0, 16, .inl (fun k => nI (orN k)))), (za, .inl (cy 0, 8, .inl (stA))), (fa, .inl (cy 0, fl0, .inl (fx)))] H locs := hW
        rw [show (upd (apG cn 0 ke i) i (ke i)) = (apG cn 0 ke (i + 1)) from by rw [← apG_s cn 0 ke i, Nat.zero_add]] at hW
        have hW : Wd D A s [(z0, .inr (5, [.ref zr, .ref zs, .ref zt, .ref zc, .ref zm, .ref zk, .ref zh, .ref zd, .ref zf, .int (nI (ml)), .ref zp, .int (nI (mps)), .ref za, .ref ze, .int (be), .ref zn, .ref zb, .ref zv, .ref zw, .ref zo, .ref zq, .long (nu), .int (bq), .int (fg), .ref zl, .int (nI (hg)), .int (nI (cz)), .ref zi])), (ze, .inl (cy 0, 8, .inl (ke))), (zn, .inl (cy 0, 8, .inl (apG cn 0 ke (i + 1)))), (zb, .inl (cy 0, 16, .inl (bb))), (zv, .inl (cy 0, 16, .inl (vv))), (zw, .inl (cy 0, 16, .inl (ww))), (zo, .inl (cy 0, 16, .inl (oo))), (zq, .inl (cy 0, 16, .inl (fun k => nI (orN k)))), (za, .inl (cy 0, 8, .inl (stA))), (fa, .inl (cy 0, fl0, .inl (fx)))] H locs := hW
        refine lv_iinc (v := nI (i + 1)) (lv' := [(6, .int (nI (i + 1))), (0, .ref z0), (1, .ref fa), (2, .int (nI (at0))), (3, .int (nI (n))), (4, .long (lN num))]) hx hb dX5_chunk_24 hl (k := 5) rfl (nI_1 _) (by decide) rfl (fun ls hl => ?_)
        refine lv_goto (tgt := 3) hx hb dX5_chunk_27 (by decide) ?_
        exact ih3 (i + 1) (by omega) (by omega) _ _ hW _ (lv_sub hl [1, 2, 3, 4, 5, 0] rfl)
  rw [← apG_0 cn 0 ke] at hW
  exact loop3 _ 0 (Nat.lt_succ_self _) (by omega) _ _ hW _ (lv_sub hl [1, 2, 3, 4, 5, 0] rfl)
