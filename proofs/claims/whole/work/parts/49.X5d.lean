set_option maxHeartbeats 4000000 in
set_option maxRecDepth 100000 in
theorem c_X5_add_b (l : Launch) (D : va_G) (cy : Nat → ClassId) (t : Nat × Nat) (z0 : Nat) (zr : Nat) (zs : Nat) (zt : Nat) (zc : Nat) (zm : Nat) (zk : Nat) (zh : Nat) (zd : Nat) (zf : Nat) (ml : Nat) (zp : Nat) (mps : Nat) (za : Nat) (ze : Nat) (be : Int32) (zn : Nat) (zb : Nat) (zv : Nat) (zw : Nat) (zo : Nat) (zq : Nat) (nu : Int64) (bq : Int32) (fg : Int32) (zl : Nat) (hg : Nat) (cz : Nat) (zi : Nat) (x : Int32) (y : Int32) (w0 : Int64) (hbd : x < 0 ∨ nI 8 ≤ x) (sz : Nat) : Met l yX5_add wsX5_add ({ frames := 1, cells := 0, slots := 0, locals := 20 }) (PcW D cy t [(z0, .inr (5, [.ref zr, .ref zs, .ref zt, .ref zc, .ref zm, .ref zk, .ref zh, .ref zd, .ref zf, .int (nI (ml)), .ref zp, .int (nI (mps)), .ref za, .ref ze, .int (be), .ref zn, .ref zb, .ref zv, .ref zw, .ref zo, .ref zq, .long (nu), .int (bq), .int (fg), .ref zl, .int (nI (hg)), .int (nI (cz)), .ref zi]))] [.ref z0, .int (x), .int (y), .long (w0)] sz) (QiA D cy (fun (r : Int32) (u : Unit) => (r = (-2 : Int32))) (fun u : Unit => [(z0, .inr (5, [.ref zr, .ref zs, .ref zt, .ref zc, .ref zm, .ref zk, .ref zh, .ref zd, .ref zf, .int (nI (ml)), .ref zp, .int (nI (mps)), .ref za, .ref ze, .int (be), .ref zn, .ref zb, .ref zv, .ref zw, .ref zo, .ref zq, .long (nu), .int (bq), .int (fg), .ref zl, .int (nI (hg)), .int (nI (cz)), .ref zi]))]) (va_A [(z0, .inr (5, [.ref zr, .ref zs, .ref zt, .ref zc, .ref zm, .ref zk, .ref zh, .ref zd, .ref zf, .int (nI (ml)), .ref zp, .int (nI (mps)), .ref za, .ref ze, .int (be), .ref zn, .ref zb, .ref zv, .ref zw, .ref zo, .ref zq, .long (nu), .int (bq), .int (fg), .ref zl, .int (nI (hg)), .int (nI (cz)), .ref zi]))] sz)) 0 0 (va_A [(z0, .inr (5, [.ref zr, .ref zs, .ref zt, .ref zc, .ref zm, .ref zk, .ref zh, .ref zd, .ref zf, .int (nI (ml)), .ref zp, .int (nI (mps)), .ref za, .ref ze, .int (be), .ref zn, .ref zb, .ref zv, .ref zw, .ref zo, .ref zq, .long (nu), .int (bq), .int (fg), .ref zl, .int (nI (hg)), .int (nI (cz)), .ref zi]))] sz) := by
  refine M_ofW (cc := cX5_add) (maxL := 6) (ret := (some .int)) (by decide) rfl (Nat.le_of_ble_eq_true rfl) ?_
  intro p e s m below meth c A ls args Q hQ S0 hr hlocks hnm hK hst hA hW hl
  have hx := S0.1; have hb := S0.2.1; have hml := S0.2.2.1; have hown := S0.2.2.2.1; have hts := S0.2.2.2.2
  have hl : lv_has ls 6 [(0, .ref z0), (1, .int (x)), (2, .int (y)), (3, .long (w0))] := hl
  refine lv_iload_n hx hb dX5_add_0 rfl (lv_at hl 1 rfl) ?_
  refine kSi (As := [.int (x)]) (rest := []) S0 hK hst hA hW [] (fun sz => c_X5_isRegister_b l D cy t x (hbd) sz) rfl (by decide) (va_cwS 1 hts gX5_add_X5_isRegister rfl rfl rfl (by decide +kernel) ⟨Nat.le_of_ble_eq_true rfl, Nat.le_of_ble_eq_true rfl⟩) (fun _ => rfl) rfl hl.1 rfl (Nat.le_of_ble_eq_true rfl) dX5_add_1 ⟨Nat.le_of_ble_eq_true rfl, Nat.le_of_ble_eq_true rfl⟩ (fun r1 u1 H locs p1 hW => ?_)
  have hW : Wd D A s [(z0, .inr (5, [.ref zr, .ref zs, .ref zt, .ref zc, .ref zm, .ref zk, .ref zh, .ref zd, .ref zf, .int (nI (ml)), .ref zp, .int (nI (mps)), .ref za, .ref ze, .int (be), .ref zn, .ref zb, .ref zv, .ref zw, .ref zo, .ref zq, .long (nu), .int (bq), .int (fg), .ref zl, .int (nI (hg)), .int (nI (cz)), .ref zi]))] H locs := hW
  have q1 : r1 = nI (0) := p1
  subst q1
  refine zEq (a := 0) (tgt := 18) hx hb dX5_add_4 (by decide) (by omega) (fun h4 => ?_) (fun h4 => ?_)
  · skip
    refine lv_bipush (v := (-2 : Int32)) hx hb dX5_add_18 (by decide) ?_
    exact eI hQ hx hb hr hlocks hK hW () (rfl) (rfl) dX5_add_20
  · skip
    exfalso; omega

set_option maxHeartbeats 4000000 in
set_option maxRecDepth 100000 in
theorem c_X5_add_bn (l : Launch) (D : va_G) (cy : Nat → ClassId) (t : Nat × Nat) (z0 : Nat) (zr : Nat) (zs : Nat) (zt : Nat) (zc : Nat) (zm : Nat) (zk : Nat) (zh : Nat) (zd : Nat) (zf : Nat) (ml : Nat) (zp : Nat) (mps : Nat) (za : Nat) (ze : Nat) (be : Int32) (zn : Nat) (zb : Nat) (zv : Nat) (zw : Nat) (zo : Nat) (zq : Nat) (nu : Int64) (bq : Int32) (fg : Int32) (zl : Nat) (hg : Nat) (cz : Nat) (zi : Nat) (ms : Nat → Int32) (mr : Nat → Int32) (ri : Nat) (cnt : Nat) (y : Int32) (w0 : Int64) (hr8 : ri < 8) (hsz : ms ri = nI cnt) (hc : cnt ≤ 200) (hbn : y < nI 1 ∨ nI 8 < y) (sz : Nat) : Met l yX5_add wsX5_add ({ frames := 1, cells := 0, slots := 0, locals := 20 }) (PcW D cy t [(z0, .inr (5, [.ref zr, .ref zs, .ref zt, .ref zc, .ref zm, .ref zk, .ref zh, .ref zd, .ref zf, .int (nI (ml)), .ref zp, .int (nI (mps)), .ref za, .ref ze, .int (be), .ref zn, .ref zb, .ref zv, .ref zw, .ref zo, .ref zq, .long (nu), .int (bq), .int (fg), .ref zl, .int (nI (hg)), .int (nI (cz)), .ref zi])), (zs, .inl (cy 0, 8, .inl (ms))), (zr, .inl (cy 0, 1600, .inl (mr)))] [.ref z0, .int (nI (ri)), .int (y), .long (w0)] sz) (QiA D cy (fun (r : Int32) (u : Unit) => (r = (-2 : Int32))) (fun u : Unit => [(z0, .inr (5, [.ref zr, .ref zs, .ref zt, .ref zc, .ref zm, .ref zk, .ref zh, .ref zd, .ref zf, .int (nI (ml)), .ref zp, .int (nI (mps)), .ref za, .ref ze, .int (be), .ref zn, .ref zb, .ref zv, .ref zw, .ref zo, .ref zq, .long (nu), .int (bq), .int (fg), .ref zl, .int (nI (hg)), .int (nI (cz)), .ref zi])), (zs, .inl (cy 0, 8, .inl (ms))), (zr, .inl (cy 0, 1600, .inl (mr)))]) (va_A [(z0, .inr (5, [.ref zr, .ref zs, .ref zt, .ref zc, .ref zm, .ref zk, .ref zh, .ref zd, .ref zf, .int (nI (ml)), .ref zp, .int (nI (mps)), .ref za, .ref ze, .int (be), .ref zn, .ref zb, .ref zv, .ref zw, .ref zo, .ref zq, .long (nu), .int (bq), .int (fg), .ref zl, .int (nI (hg)), .int (nI (cz)), .ref zi])), (zs, .inl (cy 0, 8, .inl (ms))), (zr, .inl (cy 0, 1600, .inl (mr)))] sz)) 0 0 (va_A [(z0, .inr (5, [.ref zr, .ref zs, .ref zt, .ref zc, .ref zm, .ref zk, .ref zh, .ref zd, .ref zf, .int (nI (ml)), .ref zp, .int (nI (mps)), .ref za, .ref ze, .int (be), .ref zn, .ref zb, .ref zv, .ref zw, .ref zo, .ref zq, .long (nu), .int (bq), .int (fg), .ref zl, .int (nI (hg)), .int (nI (cz)), .ref zi])), (zs, .inl (cy 0, 8, .inl (ms))), (zr, .inl (cy 0, 1600, .inl (mr)))] sz) := by
  refine M_ofW (cc := cX5_add) (maxL := 6) (ret := (some .int)) (by decide) rfl (Nat.le_of_ble_eq_true rfl) ?_
  intro p e s m below meth c A ls args Q hQ S0 hr hlocks hnm hK hst hA hW hl
  have hx := S0.1; have hb := S0.2.1; have hml := S0.2.2.1; have hown := S0.2.2.2.1; have hts := S0.2.2.2.2
  have hl : lv_has ls 6 [(0, .ref z0), (1, .int (nI (ri))), (2, .int (y)), (3, .long (w0))] := hl
  refine lv_iload_n hx hb dX5_add_0 rfl (lv_at hl 1 rfl) ?_
  refine kSi (As := [.int (nI (ri))]) (rest := []) S0 hK hst hA hW [] (fun sz => c_X5_isRegister l D cy t ri (by omega) sz) rfl (by decide) (va_cwS 1 hts gX5_add_X5_isRegister rfl rfl rfl (by decide +kernel) ⟨Nat.le_of_ble_eq_true rfl, Nat.le_of_ble_eq_true rfl⟩) (fun _ => rfl) rfl hl.1 rfl (Nat.le_of_ble_eq_true rfl) dX5_add_1 ⟨Nat.le_of_ble_eq_true rfl, Nat.le_of_ble_eq_true rfl⟩ (fun r1 u1 H locs p1 hW => ?_)
  have hW : Wd D A s [(z0, .inr (5, [.ref zr, .ref zs, .ref zt, .ref zc, .ref zm, .ref zk, .ref zh, .ref zd, .ref zf, .int (nI (ml)), .ref zp, .int (nI (mps)), .ref za, .ref ze, .int (be), .ref zn, .ref zb, .ref zv, .ref zw, .ref zo, .ref zq, .long (nu), .int (bq), .int (fg), .ref zl, .int (nI (hg)), .int (nI (cz)), .ref zi])), (zs, .inl (cy 0, 8, .inl (ms))), (zr, .inl (cy 0, 1600, .inl (mr)))] H locs := hW
  have q1 : r1 = nI (1) := p1
  subst q1
  refine zEq (a := 1) (tgt := 18) hx hb dX5_add_4 (by decide) (by omega) (fun h4 => ?_) (fun h4 => ?_)
  · skip
    exfalso; omega
  · skip
    refine lv_iload_n hx hb dX5_add_7 rfl (lv_at hl 2 rfl) ?_
    refine lv_iconst (v := nI (1)) hx hb dX5_add_8 (by decide) ?_
    refine lv_icmp_lt (tgt := 18) hx hb dX5_add_9 (by decide) (fun h9 => ?_) (fun h9 => ?_)
    · skip
      refine lv_bipush (v := (-2 : Int32)) hx hb dX5_add_18 (by decide) ?_
      exact eI hQ hx hb hr hlocks hK hW () (rfl) (rfl) dX5_add_20
    · skip
      refine lv_iload_n hx hb dX5_add_12 rfl (lv_at hl 2 rfl) ?_
      refine lv_bipush (v := nI (8)) hx hb dX5_add_13 (by decide) ?_
      refine lv_icmp_le (tgt := 21) hx hb dX5_add_15 (by decide) (fun h15 => ?_) (fun h15 => ?_)
      · skip
        exact hbn.elim (fun q => absurd q h9) (fun q => absurd h15 (Int32.not_le.mpr q))
      · skip
        refine lv_bipush (v := (-2 : Int32)) hx hb dX5_add_18 (by decide) ?_
        exact eI hQ hx hb hr hlocks hK hW () (rfl) (rfl) dX5_add_20

theorem f_X5_add_r_0 : Cond.fieldLink RX5 13 "TreeHashesModel" "sizes" "[I" ∈ wsX5_add := by decide +kernel
theorem i_X5_add_r_X5 : ∀ w ∈ wsX50, w ∈ wsX5_add := by decide +kernel
set_option maxHeartbeats 4000000 in
set_option maxRecDepth 100000 in
theorem c_X5_add_r (l : Launch) (D : va_G) (cy : Nat → ClassId) (t : Nat × Nat) (z0 : Nat) (zr : Nat) (zs : Nat) (zt : Nat) (zc : Nat) (zm : Nat) (zk : Nat) (zh : Nat) (zd : Nat) (zf : Nat) (ml : Nat) (zp : Nat) (mps : Nat) (za : Nat) (ze : Nat) (be : Int32) (zn : Nat) (zb : Nat) (zv : Nat) (zw : Nat) (zo : Nat) (zq : Nat) (nu : Int64) (bq : Int32) (fg : Int32) (zl : Nat) (hg : Nat) (cz : Nat) (zi : Nat) (ms : Nat → Int32) (mr : Nat → Int32) (ri : Nat) (cnt : Nat) (k : Nat) (w0 : Int64) (hr8 : ri < 8) (hsz : ms ri = nI cnt) (hc : cnt ≤ 200) (hk1 : 1 ≤ k) (hk8 : k ≤ 8) (hfull : 200 < cnt + k) (sz : Nat) : Met l yX5_add wsX5_add ({ frames := 1, cells := 0, slots := 0, locals := 20 }) (PcW D cy t [(z0, .inr (5, [.ref zr, .ref zs, .ref zt, .ref zc, .ref zm, .ref zk, .ref zh, .ref zd, .ref zf, .int (nI (ml)), .ref zp, .int (nI (mps)), .ref za, .ref ze, .int (be), .ref zn, .ref zb, .ref zv, .ref zw, .ref zo, .ref zq, .long (nu), .int (bq), .int (fg), .ref zl, .int (nI (hg)), .int (nI (cz)), .ref zi])), (zs, .inl (cy 0, 8, .inl (ms))), (zr, .inl (cy 0, 1600, .inl (mr)))] [.ref z0, .int (nI (ri)), .int (nI (k)), .long (w0)] sz) (QiA D cy (fun (r : Int32) (u : Unit) => (r = (-3 : Int32))) (fun u : Unit => [(z0, .inr (5, [.ref zr, .ref zs, .ref zt, .ref zc, .ref zm, .ref zk, .ref zh, .ref zd, .ref zf, .int (nI (ml)), .ref zp, .int (nI (mps)), .ref za, .ref ze, .int (be), .ref zn, .ref zb, .ref zv, .ref zw, .ref zo, .ref zq, .long (nu), .int (bq), .int (fg), .ref zl, .int (nI (hg)), .int (nI (cz)), .ref zi])), (zs, .inl (cy 0, 8, .inl (ms))), (zr, .inl (cy 0, 1600, .inl (mr)))]) (va_A [(z0, .inr (5, [.ref zr, .ref zs, .ref zt, .ref zc, .ref zm, .ref zk, .ref zh, .ref zd, .ref zf, .int (nI (ml)), .ref zp, .int (nI (mps)), .ref za, .ref ze, .int (be), .ref zn, .ref zb, .ref zv, .ref zw, .ref zo, .ref zq, .long (nu), .int (bq), .int (fg), .ref zl, .int (nI (hg)), .int (nI (cz)), .ref zi])), (zs, .inl (cy 0, 8, .inl (ms))), (zr, .inl (cy 0, 1600, .inl (mr)))] sz)) 0 0 (va_A [(z0, .inr (5, [.ref zr, .ref zs, .ref zt, .ref zc, .ref zm, .ref zk, .ref zh, .ref zd, .ref zf, .int (nI (ml)), .ref zp, .int (nI (mps)), .ref za, .ref ze, .int (be), .ref zn, .ref zb, .ref zv, .ref zw, .ref zo, .ref zq, .long (nu), .int (bq), .int (fg), .ref zl, .int (nI (hg)), .int (nI (cz)), .ref zi])), (zs, .inl (cy 0, 8, .inl (ms))), (zr, .inl (cy 0, 1600, .inl (mr)))] sz) := by
  refine M_ofW (cc := cX5_add) (maxL := 6) (ret := (some .int)) (by decide) rfl (Nat.le_of_ble_eq_true rfl) ?_
  intro p e s m below meth c A ls args Q hQ S0 hr hlocks hnm hK hst hA hW hl
  have hx := S0.1; have hb := S0.2.1; have hml := S0.2.2.1; have hown := S0.2.2.2.1; have hts := S0.2.2.2.2
  have hl : lv_has ls 6 [(0, .ref z0), (1, .int (nI (ri))), (2, .int (nI (k))), (3, .long (w0))] := hl
  refine lv_iload_n hx hb dX5_add_0 rfl (lv_at hl 1 rfl) ?_
  refine kSi (As := [.int (nI (ri))]) (rest := []) S0 hK hst hA hW [] (fun sz => c_X5_isRegister l D cy t ri (by omega) sz) rfl (by decide) (va_cwS 1 hts gX5_add_X5_isRegister rfl rfl rfl (by decide +kernel) ⟨Nat.le_of_ble_eq_true rfl, Nat.le_of_ble_eq_true rfl⟩) (fun _ => rfl) rfl hl.1 rfl (Nat.le_of_ble_eq_true rfl) dX5_add_1 ⟨Nat.le_of_ble_eq_true rfl, Nat.le_of_ble_eq_true rfl⟩ (fun r1 u1 H locs p1 hW => ?_)
  have hW : Wd D A s [(z0, .inr (5, [.ref zr, .ref zs, .ref zt, .ref zc, .ref zm, .ref zk, .ref zh, .ref zd, .ref zf, .int (nI (ml)), .ref zp, .int (nI (mps)), .ref za, .ref ze, .int (be), .ref zn, .ref zb, .ref zv, .ref zw, .ref zo, .ref zq, .long (nu), .int (bq), .int (fg), .ref zl, .int (nI (hg)), .int (nI (cz)), .ref zi])), (zs, .inl (cy 0, 8, .inl (ms))), (zr, .inl (cy 0, 1600, .inl (mr)))] H locs := hW
  have q1 : r1 = nI (1) := p1
  subst q1
  refine zEq (a := 1) (tgt := 18) hx hb dX5_add_4 (by decide) (by omega) (fun h4 => ?_) (fun h4 => ?_)
  · skip
    exfalso; omega
  · skip
    refine lv_iload_n hx hb dX5_add_7 rfl (lv_at hl 2 rfl) ?_
    refine lv_iconst (v := nI (1)) hx hb dX5_add_8 (by decide) ?_
    refine iLt (a := k) (b := 1) (tgt := 18) hx hb dX5_add_9 (by decide) (by omega) (by omega) (fun h9 => ?_) (fun h9 => ?_)
    · skip
      exfalso; omega
    · skip
      refine lv_iload_n hx hb dX5_add_12 rfl (lv_at hl 2 rfl) ?_
      refine lv_bipush (v := nI (8)) hx hb dX5_add_13 (by decide) ?_
      refine iLe (a := k) (b := 8) (tgt := 21) hx hb dX5_add_15 (by decide) (by omega) (by omega) (fun h15 => ?_) (fun h15 => ?_)
      · skip
        refine lv_aload_n hx hb dX5_add_21 rfl (lv_at hl 0 rfl) ?_
        refine va_get (D := D) (ci := 5) (v := .ref zs) (C := RX5) (T := TX5) (N := 28) hx hb hts i_X5_add_r_X5 hown hK hW.1 0 rfl rfl 1 (by decide) (hts (.fieldLink RX5 13 "TreeHashesModel" "sizes" "[I") f_X5_add_r_0) (fun _ h9 => h9) rfl dX5_add_22 ?_
        refine lv_iload_n hx hb dX5_add_25 rfl (lv_at hl 1 rfl) ?_
        refine rI hx hb hK hW 1 rfl (k := ri) (by omega) (by omega) dX5_add_26 ?_
        refine tI (x' := nI (cnt)) (hsz) ?_
        refine lv_iload_n hx hb dX5_add_27 rfl (lv_at hl 2 rfl) ?_
        refine lv_iadd hx hb dX5_add_28 ?_
        refine tI (nI_add _ _) ?_
        refine lv_sipush (v := nI (200)) hx hb dX5_add_29 (by decide) ?_
        refine iLe (a := cnt + k) (b := 200) (tgt := 38) hx hb dX5_add_32 (by decide) (by omega) (by omega) (fun h32 => ?_) (fun h32 => ?_)
        · skip
          exfalso; omega
        · skip
          refine lv_bipush (v := (-3 : Int32)) hx hb dX5_add_35 (by decide) ?_
          exact eI hQ hx hb hr hlocks hK hW () (rfl) (rfl) dX5_add_37
      · skip
        exfalso; omega

theorem f_X5_add_0 : Cond.fieldLink RX5 13 "TreeHashesModel" "sizes" "[I" ∈ wsX5_add := by decide +kernel
theorem i_X5_add_X5 : ∀ w ∈ wsX50, w ∈ wsX5_add := by decide +kernel
theorem f_X5_add_2 : Cond.fieldLink RX5 7 "TreeHashesModel" "registers" "[I" ∈ wsX5_add := by decide +kernel
theorem f_X5_add_3 : Cond.constantLong RX5 151 (255) ∈ wsX5_add := by decide +kernel
set_option maxHeartbeats 4000000 in
set_option maxRecDepth 100000 in
theorem c_X5_add (l : Launch) (D : va_G) (cy : Nat → ClassId) (t : Nat × Nat) (z0 : Nat) (zr : Nat) (zs : Nat) (zt : Nat) (zc : Nat) (zm : Nat) (zk : Nat) (zh : Nat) (zd : Nat) (zf : Nat) (ml : Nat) (zp : Nat) (mps : Nat) (za : Nat) (ze : Nat) (be : Int32) (zn : Nat) (zb : Nat) (zv : Nat) (zw : Nat) (zo : Nat) (zq : Nat) (nu : Int64) (bq : Int32) (fg : Int32) (zl : Nat) (hg : Nat) (cz : Nat) (zi : Nat) (ms : Nat → Int32) (mr : Nat → Int32) (ri : Nat) (cnt : Nat) (k : Nat) (w0 : Int64) (hr8 : ri < 8) (hsz : ms ri = nI cnt) (hc : cnt ≤ 200) (hk1 : 1 ≤ k) (hk8 : k ≤ 8) (hfit : cnt + k ≤ 200) (sz : Nat) : Met l yX5_add wsX5_add ({ frames := 1, cells := 0, slots := 0, locals := 20 }) (PcW D cy t [(z0, .inr (5, [.ref zr, .ref zs, .ref zt, .ref zc, .ref zm, .ref zk, .ref zh, .ref zd, .ref zf, .int (nI (ml)), .ref zp, .int (nI (mps)), .ref za, .ref ze, .int (be), .ref zn, .ref zb, .ref zv, .ref zw, .ref zo, .ref zq, .long (nu), .int (bq), .int (fg), .ref zl, .int (nI (hg)), .int (nI (cz)), .ref zi])), (zs, .inl (cy 0, 8, .inl (ms))), (zr, .inl (cy 0, 1600, .inl (mr)))] [.ref z0, .int (nI (ri)), .int (nI (k)), .long (w0)] sz) (QiA D cy (fun (r : Int32) (u : Unit) => (r = nI (cnt + k))) (fun u : Unit => [(z0, .inr (5, [.ref zr, .ref zs, .ref zt, .ref zc, .ref zm, .ref zk, .ref zh, .ref zd, .ref zf, .int (nI (ml)), .ref zp, .int (nI (mps)), .ref za, .ref ze, .int (be), .ref zn, .ref zb, .ref zv, .ref zw, .ref zo, .ref zq, .long (nu), .int (bq), .int (fg), .ref zl, .int (nI (hg)), .int (nI (cz)), .ref zi])), (zs, .inl (cy 0, 8, .inl (upd ms ri (nI (cnt + k))))), (zr, .inl (cy 0, 1600, .inl (apG mr (200 * ri + cnt) (mB w0) k)))]) (va_A [(z0, .inr (5, [.ref zr, .ref zs, .ref zt, .ref zc, .ref zm, .ref zk, .ref zh, .ref zd, .ref zf, .int (nI (ml)), .ref zp, .int (nI (mps)), .ref za, .ref ze, .int (be), .ref zn, .ref zb, .ref zv, .ref zw, .ref zo, .ref zq, .long (nu), .int (bq), .int (fg), .ref zl, .int (nI (hg)), .int (nI (cz)), .ref zi])), (zs, .inl (cy 0, 8, .inl (ms))), (zr, .inl (cy 0, 1600, .inl (mr)))] sz)) 0 0 (va_A [(z0, .inr (5, [.ref zr, .ref zs, .ref zt, .ref zc, .ref zm, .ref zk, .ref zh, .ref zd, .ref zf, .int (nI (ml)), .ref zp, .int (nI (mps)), .ref za, .ref ze, .int (be), .ref zn, .ref zb, .ref zv, .ref zw, .ref zo, .ref zq, .long (nu), .int (bq), .int (fg), .ref zl, .int (nI (hg)), .int (nI (cz)), .ref zi])), (zs, .inl (cy 0, 8, .inl (ms))), (zr, .inl (cy 0, 1600, .inl (mr)))] sz) := by
  refine M_ofW (cc := cX5_add) (maxL := 6) (ret := (some .int)) (by decide) rfl (Nat.le_of_ble_eq_true rfl) ?_
  intro p e s m below meth c A ls args Q hQ S0 hr hlocks hnm hK hst hA hW hl
  have hx := S0.1; have hb := S0.2.1; have hml := S0.2.2.1; have hown := S0.2.2.2.1; have hts := S0.2.2.2.2
  have hl : lv_has ls 6 [(0, .ref z0), (1, .int (nI (ri))), (2, .int (nI (k))), (3, .long (w0))] := hl
  refine lv_iload_n hx hb dX5_add_0 rfl (lv_at hl 1 rfl) ?_
  refine kSi (As := [.int (nI (ri))]) (rest := []) S0 hK hst hA hW [] (fun sz => c_X5_isRegister l D cy t ri (by omega) sz) rfl (by decide) (va_cwS 1 hts gX5_add_X5_isRegister rfl rfl rfl (by decide +kernel) ⟨Nat.le_of_ble_eq_true rfl, Nat.le_of_ble_eq_true rfl⟩) (fun _ => rfl) rfl hl.1 rfl (Nat.le_of_ble_eq_true rfl) dX5_add_1 ⟨Nat.le_of_ble_eq_true rfl, Nat.le_of_ble_eq_true rfl⟩ (fun r1 u1 H locs p1 hW => ?_)
  have hW : Wd D A s [(z0, .inr (5, [.ref zr, .ref zs, .ref zt, .ref zc, .ref zm, .ref zk, .ref zh, .ref zd, .ref zf, .int (nI (ml)), .ref zp, .int (nI (mps)), .ref za, .ref ze, .int (be), .ref zn, .ref zb, .ref zv, .ref zw, .ref zo, .ref zq, .long (nu), .int (bq), .int (fg), .ref zl, .int (nI (hg)), .int (nI (cz)), .ref zi])), (zs, .inl (cy 0, 8, .inl (ms))), (zr, .inl (cy 0, 1600, .inl (mr)))] H locs := hW
  have q1 : r1 = nI (1) := p1
  subst q1
  refine zEq (a := 1) (tgt := 18) hx hb dX5_add_4 (by decide) (by omega) (fun h4 => ?_) (fun h4 => ?_)
  · skip
    exfalso; omega
  · skip
    refine lv_iload_n hx hb dX5_add_7 rfl (lv_at hl 2 rfl) ?_
    refine lv_iconst (v := nI (1)) hx hb dX5_add_8 (by decide) ?_
    refine iLt (a := k) (b := 1) (tgt := 18) hx hb dX5_add_9 (by decide) (by omega) (by omega) (fun h9 => ?_) (fun h9 => ?_)
    · skip
      exfalso; omega
    · skip
      refine lv_iload_n hx hb dX5_add_12 rfl (lv_at hl 2 rfl) ?_
      refine lv_bipush (v := nI (8)) hx hb dX5_add_13 (by decide) ?_
      refine iLe (a := k) (b := 8) (tgt := 21) hx hb dX5_add_15 (by decide) (by omega) (by omega) (fun h15 => ?_) (fun h15 => ?_)
      · skip
        refine lv_aload_n hx hb dX5_add_21 rfl (lv_at hl 0 rfl) ?_
        refine va_get (D := D) (ci := 5) (v := .ref zs) (C := RX5) (T := TX5) (N := 28) hx hb hts i_X5_add_X5 hown hK hW.1 0 rfl rfl 1 (by decide) (hts (.fieldLink RX5 13 "TreeHashesModel" "sizes" "[I") f_X5_add_0) (fun _ h9 => h9) rfl dX5_add_22 ?_
        refine lv_iload_n hx hb dX5_add_25 rfl (lv_at hl 1 rfl) ?_
        refine rI hx hb hK hW 1 rfl (k := ri) (by omega) (by omega) dX5_add_26 ?_
        refine tI (x' := nI (cnt)) (hsz) ?_
        refine lv_iload_n hx hb dX5_add_27 rfl (lv_at hl 2 rfl) ?_
        refine lv_iadd hx hb dX5_add_28 ?_
        refine tI (nI_add _ _) ?_
        refine lv_sipush (v := nI (200)) hx hb dX5_add_29 (by decide) ?_
        refine iLe (a := cnt + k) (b := 200) (tgt := 38) hx hb dX5_add_32 (by decide) (by omega) (by omega) (fun h32 => ?_) (fun h32 => ?_)
        · skip
          refine lv_iconst (v := nI (0)) hx hb dX5_add_38 (by decide) ?_
          refine lv_istore (lv' := [(5, .int (nI (0))), (0, .ref z0), (1, .int (nI (ri))), (2, .int (nI (k))), (3, .long (w0))]) hx hb dX5_add_39 hl (by decide) rfl (fun ls hl => ?_)
          have loop41 : ∀ (nF : Nat) (i : Nat), k - i < nF → (i ≤ k) → ∀ (H : Heap) (locs : List Loc), Wd D A s [(z0, .inr (5, [.ref zr, .ref zs, .ref zt, .ref zc, .ref zm, .ref zk, .ref zh, .ref zd, .ref zf, .int (nI (ml)), .ref zp, .int (nI (mps)), .ref za, .ref ze, .int (be), .ref zn, .ref zb, .ref zv, .ref zw, .ref zo, .ref zq, .long (nu), .int (bq), .int (fg), .ref zl, .int (nI (hg)), .int (nI (cz)), .ref zi])), (zs, .inl (cy 0, 8, .inl (upd ms ri (nI (cnt + i))))), (zr, .inl (cy 0, 1600, .inl (apG mr (200 * ri + cnt) (mB w0) i)))] H locs → ∀ ls : Array Slot, lv_has ls 6 [(0, .ref z0), (1, .int (nI (ri))), (2, .int (nI (k))), (3, .long (w0)), (5, .int (nI (i)))] → W p l e ({ frames := 1, cells := 0, slots := 0, locals := 20 }) s m args below meth c H locs 0 0 Q (F0 m 41 ls []) := by
            intro nF
            induction nF with
            | zero => intro i hf; exact absurd hf (Nat.not_lt_zero _)
            | succ nF ih41 =>
              intro i hf hi H locs hW ls hl
              refine lv_iload hx hb dX5_add_41 (lv_at hl 4 rfl) ?_
              refine lv_iload_n hx hb dX5_add_43 rfl (lv_at hl 2 rfl) ?_
              refine iGe (a := i) (b := k) (tgt := 92) hx hb dX5_add_44 (by decide) (by omega) (by omega) (fun h44 => ?_) (fun h44 => ?_)
              · skip
                refine lv_aload_n hx hb dX5_add_92 rfl (lv_at hl 0 rfl) ?_
                refine va_get (D := D) (ci := 5) (v := .ref zs) (C := RX5) (T := TX5) (N := 28) hx hb hts i_X5_add_X5 hown hK hW.1 0 rfl rfl 1 (by decide) (hts (.fieldLink RX5 13 "TreeHashesModel" "sizes" "[I") f_X5_add_0) (fun _ h9 => h9) rfl dX5_add_93 ?_
                refine lv_iload_n hx hb dX5_add_96 rfl (lv_at hl 1 rfl) ?_
                refine rI hx hb hK hW 1 rfl (k := ri) (by omega) (by omega) dX5_add_97 ?_
                refine tI (x' := nI (cnt + i)) (pk_us) ?_
                have e9 : i = k := by omega
                rw [e9] at hW
                exact eI hQ hx hb hr hlocks hK hW () (by rw [e9]) (rfl) dX5_add_98
              · skip
                refine lv_aload_n hx hb dX5_add_47 rfl (lv_at hl 0 rfl) ?_
                refine va_get (D := D) (ci := 5) (v := .ref zr) (C := RX5) (T := TX5) (N := 28) hx hb hts i_X5_add_X5 hown hK hW.1 0 rfl rfl 0 (by decide) (hts (.fieldLink RX5 7 "TreeHashesModel" "registers" "[I") f_X5_add_2) (fun _ h9 => h9) rfl dX5_add_48 ?_
                refine lv_sipush (v := nI (200)) hx hb dX5_add_51 (by decide) ?_
                refine lv_iload_n hx hb dX5_add_54 rfl (lv_at hl 1 rfl) ?_
                refine lv_imul hx hb dX5_add_55 ?_
                refine tI (pk_mul _ _) ?_
                refine lv_aload_n hx hb dX5_add_56 rfl (lv_at hl 0 rfl) ?_
                refine va_get (D := D) (ci := 5) (v := .ref zs) (C := RX5) (T := TX5) (N := 28) hx hb hts i_X5_add_X5 hown hK hW.1 0 rfl rfl 1 (by decide) (hts (.fieldLink RX5 13 "TreeHashesModel" "sizes" "[I") f_X5_add_0) (fun _ h9 => h9) rfl dX5_add_57 ?_
                refine lv_iload_n hx hb dX5_add_60 rfl (lv_at hl 1 rfl) ?_
                refine rI hx hb hK hW 1 rfl (k := ri) (by omega) (by omega) dX5_add_61 ?_
                refine tI (x' := nI (cnt + i)) (pk_us) ?_
                refine lv_iadd hx hb dX5_add_62 ?_
                refine tI (nI_add _ _) ?_
                refine lv_lload_n hx hb dX5_add_63 rfl (lv_at hl 3 rfl) ?_
                refine lv_bipush (v := nI (8)) hx hb dX5_add_64 (by decide) ?_
                refine lv_iload hx hb dX5_add_66 (lv_at hl 4 rfl) ?_
                refine lv_imul hx hb dX5_add_68 ?_
                refine tI (pk_mul _ _) ?_
                refine lv_lshr hx hb dX5_add_69 rfl ?_
                refine lv_ldc2 (v := (255 : Int64)) hx hb hown (hts (.constantLong RX5 151 (255)) f_X5_add_3) dX5_add_70 ?_
                refine lv_land hx hb dX5_add_73 ?_
                refine lv_l2i hx hb dX5_add_74 rfl ?_
                refine tI (x' := mB w0 i) (rfl) ?_
                refine wI hx hb hK hW 2 rfl (k := (200 * ri) + (cnt + i)) (by omega) (by omega) dX5_add_75 (fun H locs hW => ?_)
                have hW : Wd D A s [(z0, .inr (5, [.ref zr, .ref zs, .ref zt, .ref zc, .ref zm, .ref zk, .ref zh, .ref zd, .ref zf, .int (nI (ml)), .ref zp, .int (nI (mps)), .ref za, .ref ze, .int (be), .ref zn, .ref zb, .ref zv, .ref zw, .ref zo, .ref zq, .long (nu), .int (bq), .int (fg), .ref zl, .int (nI (hg)), .int (nI (cz)), .ref zi])), (zs, .inl (cy 0, 8, .inl (upd ms ri (nI (cnt + i))))), (zr, .inl (cy 0, 1600, .inl (upd (apG mr (200 * ri + cnt) (mB w0) i) ((200 * ri) + (cnt + i)) (mB w0 i))))] H locs := hW
                rw [show (upd (apG mr (200 * ri + cnt) (mB w0) i) ((200 * ri) + (cnt + i)) (mB w0 i)) = (apG mr (200 * ri + cnt) (mB w0) (i + 1)) from by rw [← apG_s mr (200 * ri + cnt) (mB w0) i, Nat.add_assoc]] at hW
                have hW : Wd D A s [(z0, .inr (5, [.ref zr, .ref zs, .ref zt, .ref zc, .ref zm, .ref zk, .ref zh, .ref zd, .ref zf, .int (nI (ml)), .ref zp, .int (nI (mps)), .ref za, .ref ze, .int (be), .ref zn, .ref zb, .ref zv, .ref zw, .ref zo, .ref zq, .long (nu), .int (bq), .int (fg), .ref zl, .int (nI (hg)), .int (nI (cz)), .ref zi])), (zs, .inl (cy 0, 8, .inl (upd ms ri (nI (cnt + i))))), (zr, .inl (cy 0, 1600, .inl (apG mr (200 * ri + cnt) (mB w0) (i + 1))))] H locs := hW
                refine lv_aload_n hx hb dX5_add_76 rfl (lv_at hl 0 rfl) ?_
                refine va_get (D := D) (ci := 5) (v := .ref zs) (C := RX5) (T := TX5) (N := 28) hx hb hts i_X5_add_X5 hown hK hW.1 0 rfl rfl 1 (by decide) (hts (.fieldLink RX5 13 "TreeHashesModel" "sizes" "[I") f_X5_add_0) (fun _ h9 => h9) rfl dX5_add_77 ?_
                refine lv_iload_n hx hb dX5_add_80 rfl (lv_at hl 1 rfl) ?_
                refine lv_dup2_11 hx hb dX5_add_81 rfl rfl ?_
                refine rI hx hb hK hW 1 rfl (k := ri) (by omega) (by omega) dX5_add_82 ?_
                refine tI (x' := nI (cnt + i)) (pk_us) ?_
                refine lv_iconst (v := nI (1)) hx hb dX5_add_83 (by decide) ?_
                refine lv_iadd hx hb dX5_add_84 ?_
                refine tI (nI_add _ _) ?_
                refine wI hx hb hK hW 1 rfl (k := ri) (by omega) (by omega) dX5_add_85 (fun H locs hW => ?_)
                have hW : Wd D A s [(z0, .inr (5, [.ref zr, .ref zs, .ref zt, .ref zc, .ref zm, .ref zk, .ref zh, .ref zd, .ref zf, .int (nI (ml)), .ref zp, .int (nI (mps)), .ref za, .ref ze, .int (be), .ref zn, .ref zb, .ref zv, .ref zw, .ref zo, .ref zq, .long (nu), .int (bq), .int (fg), .ref zl, .int (nI (hg)), .int (nI (cz)), .ref zi])), (zs, .inl (cy 0, 8, .inl (upd (upd ms ri (nI (cnt + i))) ri (nI ((cnt + i) + 1))))), (zr, .inl (cy 0, 1600, .inl (apG mr (200 * ri + cnt) (mB w0) (i + 1))))] H locs := hW
                rw [show (upd (upd ms ri (nI (cnt + i))) ri (nI ((cnt + i) + 1))) = (upd ms ri (nI (cnt + (i + 1)))) from upd_upd _ _ _ _] at hW
                have hW : Wd D A s [(z0, .inr (5, [.ref zr, .ref zs, .ref zt, .ref zc, .ref zm, .ref zk, .ref zh, .ref zd, .ref zf, .int (nI (ml)), .ref zp, .int (nI (mps)), .ref za, .ref ze, .int (be), .ref zn, .ref zb, .ref zv, .ref zw, .ref zo, .ref zq, .long (nu), .int (bq), .int (fg), .ref zl, .int (nI (hg)), .int (nI (cz)), .ref zi])), (zs, .inl (cy 0, 8, .inl (upd ms ri (nI (cnt + (i + 1)))))), (zr, .inl (cy 0, 1600, .inl (apG mr (200 * ri + cnt) (mB w0) (i + 1))))] H locs := hW
                refine lv_iinc (v := nI (i + 1)) (lv' := [(5, .int (nI (i + 1))), (0, .ref z0), (1, .int (nI (ri))), (2, .int (nI (k))), (3, .long (w0))]) hx hb dX5_add_86 hl (k := 4) rfl (nI_1 _) (by decide) rfl (fun ls hl => ?_)
                refine lv_goto (tgt := 41) hx hb dX5_add_89 (by decide) ?_
                exact ih41 (i + 1) (by omega) (by omega) _ _ hW _ (lv_sub hl [1, 2, 3, 4, 0] rfl)
          rw [← upd_same hsz, ← apG_0 mr (200 * ri + cnt) (mB w0)] at hW
          exact loop41 _ 0 (Nat.lt_succ_self _) (by omega) _ _ hW _ (lv_sub hl [1, 2, 3, 4, 0] rfl)
        · skip
          exfalso; omega
      · skip
        exfalso; omega

set_option maxHeartbeats 4000000 in
set_option maxRecDepth 100000 in
theorem c_X5_clear_b (l : Launch) (D : va_G) (cy : Nat → ClassId) (t : Nat × Nat) (z0 : Nat) (zr : Nat) (zs : Nat) (zt : Nat) (zc : Nat) (zm : Nat) (zk : Nat) (zh : Nat) (zd : Nat) (zf : Nat) (ml : Nat) (zp : Nat) (mps : Nat) (za : Nat) (ze : Nat) (be : Int32) (zn : Nat) (zb : Nat) (zv : Nat) (zw : Nat) (zo : Nat) (zq : Nat) (nu : Int64) (bq : Int32) (fg : Int32) (zl : Nat) (hg : Nat) (cz : Nat) (zi : Nat) (x : Int32) (hbd : x < 0 ∨ nI 8 ≤ x) (sz : Nat) : Met l yX5_clear wsX5_clear ({ frames := 1, cells := 0, slots := 0, locals := 20 }) (PcW D cy t [(z0, .inr (5, [.ref zr, .ref zs, .ref zt, .ref zc, .ref zm, .ref zk, .ref zh, .ref zd, .ref zf, .int (nI (ml)), .ref zp, .int (nI (mps)), .ref za, .ref ze, .int (be), .ref zn, .ref zb, .ref zv, .ref zw, .ref zo, .ref zq, .long (nu), .int (bq), .int (fg), .ref zl, .int (nI (hg)), .int (nI (cz)), .ref zi]))] [.ref z0, .int (x)] sz) (QiA D cy (fun (r : Int32) (u : Unit) => (r = (-2 : Int32))) (fun u : Unit => [(z0, .inr (5, [.ref zr, .ref zs, .ref zt, .ref zc, .ref zm, .ref zk, .ref zh, .ref zd, .ref zf, .int (nI (ml)), .ref zp, .int (nI (mps)), .ref za, .ref ze, .int (be), .ref zn, .ref zb, .ref zv, .ref zw, .ref zo, .ref zq, .long (nu), .int (bq), .int (fg), .ref zl, .int (nI (hg)), .int (nI (cz)), .ref zi]))]) (va_A [(z0, .inr (5, [.ref zr, .ref zs, .ref zt, .ref zc, .ref zm, .ref zk, .ref zh, .ref zd, .ref zf, .int (nI (ml)), .ref zp, .int (nI (mps)), .ref za, .ref ze, .int (be), .ref zn, .ref zb, .ref zv, .ref zw, .ref zo, .ref zq, .long (nu), .int (bq), .int (fg), .ref zl, .int (nI (hg)), .int (nI (cz)), .ref zi]))] sz)) 0 0 (va_A [(z0, .inr (5, [.ref zr, .ref zs, .ref zt, .ref zc, .ref zm, .ref zk, .ref zh, .ref zd, .ref zf, .int (nI (ml)), .ref zp, .int (nI (mps)), .ref za, .ref ze, .int (be), .ref zn, .ref zb, .ref zv, .ref zw, .ref zo, .ref zq, .long (nu), .int (bq), .int (fg), .ref zl, .int (nI (hg)), .int (nI (cz)), .ref zi]))] sz) := by
  refine M_ofW (cc := cX5_clear) (maxL := 3) (ret := (some .int)) (by decide) rfl (Nat.le_of_ble_eq_true rfl) ?_
  intro p e s m below meth c A ls args Q hQ S0 hr hlocks hnm hK hst hA hW hl
  have hx := S0.1; have hb := S0.2.1; have hml := S0.2.2.1; have hown := S0.2.2.2.1; have hts := S0.2.2.2.2
  have hl : lv_has ls 3 [(0, .ref z0), (1, .int (x))] := hl
  refine lv_iload_n hx hb dX5_clear_0 rfl (lv_at hl 1 rfl) ?_
  refine kSi (As := [.int (x)]) (rest := []) S0 hK hst hA hW [] (fun sz => c_X5_isRegister_b l D cy t x (hbd) sz) rfl (by decide) (va_cwS 1 hts gX5_clear_X5_isRegister rfl rfl rfl (by decide +kernel) ⟨Nat.le_of_ble_eq_true rfl, Nat.le_of_ble_eq_true rfl⟩) (fun _ => rfl) rfl hl.1 rfl (Nat.le_of_ble_eq_true rfl) dX5_clear_1 ⟨Nat.le_of_ble_eq_true rfl, Nat.le_of_ble_eq_true rfl⟩ (fun r1 u1 H locs p1 hW => ?_)
  have hW : Wd D A s [(z0, .inr (5, [.ref zr, .ref zs, .ref zt, .ref zc, .ref zm, .ref zk, .ref zh, .ref zd, .ref zf, .int (nI (ml)), .ref zp, .int (nI (mps)), .ref za, .ref ze, .int (be), .ref zn, .ref zb, .ref zv, .ref zw, .ref zo, .ref zq, .long (nu), .int (bq), .int (fg), .ref zl, .int (nI (hg)), .int (nI (cz)), .ref zi]))] H locs := hW
  have q1 : r1 = nI (0) := p1
  subst q1
  refine zNe (a := 0) (tgt := 10) hx hb dX5_clear_4 (by decide) (by omega) (fun h4 => ?_) (fun h4 => ?_)
  · skip
    exfalso; omega
  · skip
    refine lv_bipush (v := (-2 : Int32)) hx hb dX5_clear_7 (by decide) ?_
    exact eI hQ hx hb hr hlocks hK hW () (rfl) (rfl) dX5_clear_9

theorem f_X5_clear_0 : Cond.fieldLink RX5 13 "TreeHashesModel" "sizes" "[I" ∈ wsX5_clear := by decide +kernel
theorem i_X5_clear_X5 : ∀ w ∈ wsX50, w ∈ wsX5_clear := by decide +kernel
set_option maxHeartbeats 4000000 in
set_option maxRecDepth 100000 in
theorem c_X5_clear (l : Launch) (D : va_G) (cy : Nat → ClassId) (t : Nat × Nat) (z0 : Nat) (zr : Nat) (zs : Nat) (zt : Nat) (zc : Nat) (zm : Nat) (zk : Nat) (zh : Nat) (zd : Nat) (zf : Nat) (ml : Nat) (zp : Nat) (mps : Nat) (za : Nat) (ze : Nat) (be : Int32) (zn : Nat) (zb : Nat) (zv : Nat) (zw : Nat) (zo : Nat) (zq : Nat) (nu : Int64) (bq : Int32) (fg : Int32) (zl : Nat) (hg : Nat) (cz : Nat) (zi : Nat) (ms : Nat → Int32) (mr : Nat → Int32) (ri : Nat) (cnt : Nat) (hr8 : ri < 8) (hsz : ms ri = nI cnt) (hc : cnt ≤ 200) (sz : Nat) : Met l yX5_clear wsX5_clear ({ frames := 1, cells := 0, slots := 0, locals := 20 }) (PcW D cy t [(z0, .inr (5, [.ref zr, .ref zs, .ref zt, .ref zc, .ref zm, .ref zk, .ref zh, .ref zd, .ref zf, .int (nI (ml)), .ref zp, .int (nI (mps)), .ref za, .ref ze, .int (be), .ref zn, .ref zb, .ref zv, .ref zw, .ref zo, .ref zq, .long (nu), .int (bq), .int (fg), .ref zl, .int (nI (hg)), .int (nI (cz)), .ref zi])), (zs, .inl (cy 0, 8, .inl (ms))), (zr, .inl (cy 0, 1600, .inl (mr)))] [.ref z0, .int (nI (ri))] sz) (QiA D cy (fun (r : Int32) (u : Unit) => (r = nI (cnt))) (fun u : Unit => [(z0, .inr (5, [.ref zr, .ref zs, .ref zt, .ref zc, .ref zm, .ref zk, .ref zh, .ref zd, .ref zf, .int (nI (ml)), .ref zp, .int (nI (mps)), .ref za, .ref ze, .int (be), .ref zn, .ref zb, .ref zv, .ref zw, .ref zo, .ref zq, .long (nu), .int (bq), .int (fg), .ref zl, .int (nI (hg)), .int (nI (cz)), .ref zi])), (zs, .inl (cy 0, 8, .inl (upd ms ri (nI 0)))), (zr, .inl (cy 0, 1600, .inl (mr)))]) (va_A [(z0, .inr (5, [.ref zr, .ref zs, .ref zt, .ref zc, .ref zm, .ref zk, .ref zh, .ref zd, .ref zf, .int (nI (ml)), .ref zp, .int (nI (mps)), .ref za, .ref ze, .int (be), .ref zn, .ref zb, .ref zv, .ref zw, .ref zo, .ref zq, .long (nu), .int (bq), .int (fg), .ref zl, .int (nI (hg)), .int (nI (cz)), .ref zi])), (zs, .inl (cy 0, 8, .inl (ms))), (zr, .inl (cy 0, 1600, .inl (mr)))] sz)) 0 0 (va_A [(z0, .inr (5, [.ref zr, .ref zs, .ref zt, .ref zc, .ref zm, .ref zk, .ref zh, .ref zd, .ref zf, .int (nI (ml)), .ref zp, .int (nI (mps)), .ref za, .ref ze, .int (be), .ref zn, .ref zb, .ref zv, .ref zw, .ref zo, .ref zq, .long (nu), .int (bq), .int (fg), .ref zl, .int (nI (hg)), .int (nI (cz)), .ref zi])), (zs, .inl (cy 0, 8, .inl (ms))), (zr, .inl (cy 0, 1600, .inl (mr)))] sz) := by
  refine M_ofW (cc := cX5_clear) (maxL := 3) (ret := (some .int)) (by decide) rfl (Nat.le_of_ble_eq_true rfl) ?_
  intro p e s m below meth c A ls args Q hQ S0 hr hlocks hnm hK hst hA hW hl
  have hx := S0.1; have hb := S0.2.1; have hml := S0.2.2.1; have hown := S0.2.2.2.1; have hts := S0.2.2.2.2
  have hl : lv_has ls 3 [(0, .ref z0), (1, .int (nI (ri)))] := hl
  refine lv_iload_n hx hb dX5_clear_0 rfl (lv_at hl 1 rfl) ?_
  refine kSi (As := [.int (nI (ri))]) (rest := []) S0 hK hst hA hW [] (fun sz => c_X5_isRegister l D cy t ri (by omega) sz) rfl (by decide) (va_cwS 1 hts gX5_clear_X5_isRegister rfl rfl rfl (by decide +kernel) ⟨Nat.le_of_ble_eq_true rfl, Nat.le_of_ble_eq_true rfl⟩) (fun _ => rfl) rfl hl.1 rfl (Nat.le_of_ble_eq_true rfl) dX5_clear_1 ⟨Nat.le_of_ble_eq_true rfl, Nat.le_of_ble_eq_true rfl⟩ (fun r1 u1 H locs p1 hW => ?_)
  have hW : Wd D A s [(z0, .inr (5, [.ref zr, .ref zs, .ref zt, .ref zc, .ref zm, .ref zk, .ref zh, .ref zd, .ref zf, .int (nI (ml)), .ref zp, .int (nI (mps)), .ref za, .ref ze, .int (be), .ref zn, .ref zb, .ref zv, .ref zw, .ref zo, .ref zq, .long (nu), .int (bq), .int (fg), .ref zl, .int (nI (hg)), .int (nI (cz)), .ref zi])), (zs, .inl (cy 0, 8, .inl (ms))), (zr, .inl (cy 0, 1600, .inl (mr)))] H locs := hW
  have q1 : r1 = nI (1) := p1
  subst q1
  refine zNe (a := 1) (tgt := 10) hx hb dX5_clear_4 (by decide) (by omega) (fun h4 => ?_) (fun h4 => ?_)
  · skip
    refine lv_aload_n hx hb dX5_clear_10 rfl (lv_at hl 0 rfl) ?_
    refine va_get (D := D) (ci := 5) (v := .ref zs) (C := RX5) (T := TX5) (N := 28) hx hb hts i_X5_clear_X5 hown hK hW.1 0 rfl rfl 1 (by decide) (hts (.fieldLink RX5 13 "TreeHashesModel" "sizes" "[I") f_X5_clear_0) (fun _ h9 => h9) rfl dX5_clear_11 ?_
    refine lv_iload_n hx hb dX5_clear_14 rfl (lv_at hl 1 rfl) ?_
    refine rI hx hb hK hW 1 rfl (k := ri) (by omega) (by omega) dX5_clear_15 ?_
    refine tI (x' := nI (cnt)) (hsz) ?_
    refine lv_istore_n (lv' := [(2, .int (nI (cnt))), (0, .ref z0), (1, .int (nI (ri)))]) hx hb dX5_clear_16 rfl hl (by decide) rfl (fun ls hl => ?_)
    refine lv_aload_n hx hb dX5_clear_17 rfl (lv_at hl 1 rfl) ?_
    refine va_get (D := D) (ci := 5) (v := .ref zs) (C := RX5) (T := TX5) (N := 28) hx hb hts i_X5_clear_X5 hown hK hW.1 0 rfl rfl 1 (by decide) (hts (.fieldLink RX5 13 "TreeHashesModel" "sizes" "[I") f_X5_clear_0) (fun _ h9 => h9) rfl dX5_clear_18 ?_
    refine lv_iload_n hx hb dX5_clear_21 rfl (lv_at hl 2 rfl) ?_
    refine lv_iconst (v := nI (0)) hx hb dX5_clear_22 (by decide) ?_
    refine wI hx hb hK hW 1 rfl (k := ri) (by omega) (by omega) dX5_clear_23 (fun H locs hW => ?_)
    have hW : Wd D A s [(z0, .inr (5, [.ref zr, .ref zs, .ref zt, .ref zc, .ref zm, .ref zk, .ref zh, .ref zd, .ref zf, .int (nI (ml)), .ref zp, .int (nI (mps)), .ref za, .ref ze, .int (be), .ref zn, .ref zb, .ref zv, .ref zw, .ref zo, .ref zq, .long (nu), .int (bq), .int (fg), .ref zl, .int (nI (hg)), .int (nI (cz)), .ref zi])), (zs, .inl (cy 0, 8, .inl (upd ms ri (nI (0))))), (zr, .inl (cy 0, 1600, .inl (mr)))] H locs := hW
    refine lv_iload_n hx hb dX5_clear_24 rfl (lv_at hl 0 rfl) ?_
    exact eI hQ hx hb hr hlocks hK hW () (rfl) (rfl) dX5_clear_25
  · skip
    exfalso; omega

set_option maxHeartbeats 4000000 in
set_option maxRecDepth 100000 in
theorem c_X5_size_b (l : Launch) (D : va_G) (cy : Nat → ClassId) (t : Nat × Nat) (z0 : Nat) (zr : Nat) (zs : Nat) (zt : Nat) (zc : Nat) (zm : Nat) (zk : Nat) (zh : Nat) (zd : Nat) (zf : Nat) (ml : Nat) (zp : Nat) (mps : Nat) (za : Nat) (ze : Nat) (be : Int32) (zn : Nat) (zb : Nat) (zv : Nat) (zw : Nat) (zo : Nat) (zq : Nat) (nu : Int64) (bq : Int32) (fg : Int32) (zl : Nat) (hg : Nat) (cz : Nat) (zi : Nat) (x : Int32) (hbd : x < 0 ∨ nI 8 ≤ x) (sz : Nat) : Met l yX5_size wsX5_size ({ frames := 1, cells := 0, slots := 0, locals := 20 }) (PcW D cy t [(z0, .inr (5, [.ref zr, .ref zs, .ref zt, .ref zc, .ref zm, .ref zk, .ref zh, .ref zd, .ref zf, .int (nI (ml)), .ref zp, .int (nI (mps)), .ref za, .ref ze, .int (be), .ref zn, .ref zb, .ref zv, .ref zw, .ref zo, .ref zq, .long (nu), .int (bq), .int (fg), .ref zl, .int (nI (hg)), .int (nI (cz)), .ref zi]))] [.ref z0, .int (x)] sz) (QiA D cy (fun (r : Int32) (u : Unit) => (r = (-2 : Int32))) (fun u : Unit => [(z0, .inr (5, [.ref zr, .ref zs, .ref zt, .ref zc, .ref zm, .ref zk, .ref zh, .ref zd, .ref zf, .int (nI (ml)), .ref zp, .int (nI (mps)), .ref za, .ref ze, .int (be), .ref zn, .ref zb, .ref zv, .ref zw, .ref zo, .ref zq, .long (nu), .int (bq), .int (fg), .ref zl, .int (nI (hg)), .int (nI (cz)), .ref zi]))]) (va_A [(z0, .inr (5, [.ref zr, .ref zs, .ref zt, .ref zc, .ref zm, .ref zk, .ref zh, .ref zd, .ref zf, .int (nI (ml)), .ref zp, .int (nI (mps)), .ref za, .ref ze, .int (be), .ref zn, .ref zb, .ref zv, .ref zw, .ref zo, .ref zq, .long (nu), .int (bq), .int (fg), .ref zl, .int (nI (hg)), .int (nI (cz)), .ref zi]))] sz)) 0 0 (va_A [(z0, .inr (5, [.ref zr, .ref zs, .ref zt, .ref zc, .ref zm, .ref zk, .ref zh, .ref zd, .ref zf, .int (nI (ml)), .ref zp, .int (nI (mps)), .ref za, .ref ze, .int (be), .ref zn, .ref zb, .ref zv, .ref zw, .ref zo, .ref zq, .long (nu), .int (bq), .int (fg), .ref zl, .int (nI (hg)), .int (nI (cz)), .ref zi]))] sz) := by
  refine M_ofW (cc := cX5_size) (maxL := 2) (ret := (some .int)) (by decide) rfl (Nat.le_of_ble_eq_true rfl) ?_
  intro p e s m below meth c A ls args Q hQ S0 hr hlocks hnm hK hst hA hW hl
  have hx := S0.1; have hb := S0.2.1; have hml := S0.2.2.1; have hown := S0.2.2.2.1; have hts := S0.2.2.2.2
  have hl : lv_has ls 2 [(0, .ref z0), (1, .int (x))] := hl
  refine lv_iload_n hx hb dX5_size_0 rfl (lv_at hl 1 rfl) ?_
  refine kSi (As := [.int (x)]) (rest := []) S0 hK hst hA hW [] (fun sz => c_X5_isRegister_b l D cy t x (hbd) sz) rfl (by decide) (va_cwS 1 hts gX5_size_X5_isRegister rfl rfl rfl (by decide +kernel) ⟨Nat.le_of_ble_eq_true rfl, Nat.le_of_ble_eq_true rfl⟩) (fun _ => rfl) rfl hl.1 rfl (Nat.le_of_ble_eq_true rfl) dX5_size_1 ⟨Nat.le_of_ble_eq_true rfl, Nat.le_of_ble_eq_true rfl⟩ (fun r1 u1 H locs p1 hW => ?_)
  have hW : Wd D A s [(z0, .inr (5, [.ref zr, .ref zs, .ref zt, .ref zc, .ref zm, .ref zk, .ref zh, .ref zd, .ref zf, .int (nI (ml)), .ref zp, .int (nI (mps)), .ref za, .ref ze, .int (be), .ref zn, .ref zb, .ref zv, .ref zw, .ref zo, .ref zq, .long (nu), .int (bq), .int (fg), .ref zl, .int (nI (hg)), .int (nI (cz)), .ref zi]))] H locs := hW
  have q1 : r1 = nI (0) := p1
  subst q1
  refine zEq (a := 0) (tgt := 16) hx hb dX5_size_4 (by decide) (by omega) (fun h4 => ?_) (fun h4 => ?_)
  · skip
    refine lv_bipush (v := (-2 : Int32)) hx hb dX5_size_16 (by decide) ?_
    exact eI hQ hx hb hr hlocks hK hW () (rfl) (rfl) dX5_size_18
  · skip
    exfalso; omega

theorem f_X5_size_0 : Cond.fieldLink RX5 13 "TreeHashesModel" "sizes" "[I" ∈ wsX5_size := by decide +kernel
theorem i_X5_size_X5 : ∀ w ∈ wsX50, w ∈ wsX5_size := by decide +kernel
set_option maxHeartbeats 4000000 in
set_option maxRecDepth 100000 in
theorem c_X5_size (l : Launch) (D : va_G) (cy : Nat → ClassId) (t : Nat × Nat) (z0 : Nat) (zr : Nat) (zs : Nat) (zt : Nat) (zc : Nat) (zm : Nat) (zk : Nat) (zh : Nat) (zd : Nat) (zf : Nat) (ml : Nat) (zp : Nat) (mps : Nat) (za : Nat) (ze : Nat) (be : Int32) (zn : Nat) (zb : Nat) (zv : Nat) (zw : Nat) (zo : Nat) (zq : Nat) (nu : Int64) (bq : Int32) (fg : Int32) (zl : Nat) (hg : Nat) (cz : Nat) (zi : Nat) (ms : Nat → Int32) (mr : Nat → Int32) (ri : Nat) (cnt : Nat) (hr8 : ri < 8) (hsz : ms ri = nI cnt) (hc : cnt ≤ 200) (sz : Nat) : Met l yX5_size wsX5_size ({ frames := 1, cells := 0, slots := 0, locals := 20 }) (PcW D cy t [(z0, .inr (5, [.ref zr, .ref zs, .ref zt, .ref zc, .ref zm, .ref zk, .ref zh, .ref zd, .ref zf, .int (nI (ml)), .ref zp, .int (nI (mps)), .ref za, .ref ze, .int (be), .ref zn, .ref zb, .ref zv, .ref zw, .ref zo, .ref zq, .long (nu), .int (bq), .int (fg), .ref zl, .int (nI (hg)), .int (nI (cz)), .ref zi])), (zs, .inl (cy 0, 8, .inl (ms))), (zr, .inl (cy 0, 1600, .inl (mr)))] [.ref z0, .int (nI (ri))] sz) (QiA D cy (fun (r : Int32) (u : Unit) => (r = nI (cnt))) (fun u : Unit => [(z0, .inr (5, [.ref zr, .ref zs, .ref zt, .ref zc, .ref zm, .ref zk, .ref zh, .ref zd, .ref zf, .int (nI (ml)), .ref zp, .int (nI (mps)), .ref za, .ref ze, .int (be), .ref zn, .ref zb, .ref zv, .ref zw, .ref zo, .ref zq, .long (nu), .int (bq), .int (fg), .ref zl, .int (nI (hg)), .int (nI (cz)), .ref zi])), (zs, .inl (cy 0, 8, .inl (ms))), (zr, .inl (cy 0, 1600, .inl (mr)))]) (va_A [(z0, .inr (5, [.ref zr, .ref zs, .ref zt, .ref zc, .ref zm, .ref zk, .ref zh, .ref zd, .ref zf, .int (nI (ml)), .ref zp, .int (nI (mps)), .ref za, .ref ze, .int (be), .ref zn, .ref zb, .ref zv, .ref zw, .ref zo, .ref zq, .long (nu), .int (bq), .int (fg), .ref zl, .int (nI (hg)), .int (nI (cz)), .ref zi])), (zs, .inl (cy 0, 8, .inl (ms))), (zr, .inl (cy 0, 1600, .inl (mr)))] sz)) 0 0 (va_A [(z0, .inr (5, [.ref zr, .ref zs, .ref zt, .ref zc, .ref zm, .ref zk, .ref zh, .ref zd, .ref zf, .int (nI (ml)), .ref zp, .int (nI (mps)), .ref za, .ref ze, .int (be), .ref zn, .ref zb, .ref zv, .ref zw, .ref zo, .ref zq, .long (nu), .int (bq), .int (fg), .ref zl, .int (nI (hg)), .int (nI (cz)), .ref zi])), (zs, .inl (cy 0, 8, .inl (ms))), (zr, .inl (cy 0, 1600, .inl (mr)))] sz) := by
  refine M_ofW (cc := cX5_size) (maxL := 2) (ret := (some .int)) (by decide) rfl (Nat.le_of_ble_eq_true rfl) ?_
  intro p e s m below meth c A ls args Q hQ S0 hr hlocks hnm hK hst hA hW hl
  have hx := S0.1; have hb := S0.2.1; have hml := S0.2.2.1; have hown := S0.2.2.2.1; have hts := S0.2.2.2.2
  have hl : lv_has ls 2 [(0, .ref z0), (1, .int (nI (ri)))] := hl
  refine lv_iload_n hx hb dX5_size_0 rfl (lv_at hl 1 rfl) ?_
  refine kSi (As := [.int (nI (ri))]) (rest := []) S0 hK hst hA hW [] (fun sz => c_X5_isRegister l D cy t ri (by omega) sz) rfl (by decide) (va_cwS 1 hts gX5_size_X5_isRegister rfl rfl rfl (by decide +kernel) ⟨Nat.le_of_ble_eq_true rfl, Nat.le_of_ble_eq_true rfl⟩) (fun _ => rfl) rfl hl.1 rfl (Nat.le_of_ble_eq_true rfl) dX5_size_1 ⟨Nat.le_of_ble_eq_true rfl, Nat.le_of_ble_eq_true rfl⟩ (fun r1 u1 H locs p1 hW => ?_)
  have hW : Wd D A s [(z0, .inr (5, [.ref zr, .ref zs, .ref zt, .ref zc, .ref zm, .ref zk, .ref zh, .ref zd, .ref zf, .int (nI (ml)), .ref zp, .int (nI (mps)), .ref za, .ref ze, .int (be), .ref zn, .ref zb, .ref zv, .ref zw, .ref zo, .ref zq, .long (nu), .int (bq), .int (fg), .ref zl, .int (nI (hg)), .int (nI (cz)), .ref zi])), (zs, .inl (cy 0, 8, .inl (ms))), (zr, .inl (cy 0, 1600, .inl (mr)))] H locs := hW
  have q1 : r1 = nI (1) := p1
  subst q1
  refine zEq (a := 1) (tgt := 16) hx hb dX5_size_4 (by decide) (by omega) (fun h4 => ?_) (fun h4 => ?_)
  · skip
    exfalso; omega
  · skip
    refine lv_aload_n hx hb dX5_size_7 rfl (lv_at hl 0 rfl) ?_
    refine va_get (D := D) (ci := 5) (v := .ref zs) (C := RX5) (T := TX5) (N := 28) hx hb hts i_X5_size_X5 hown hK hW.1 0 rfl rfl 1 (by decide) (hts (.fieldLink RX5 13 "TreeHashesModel" "sizes" "[I") f_X5_size_0) (fun _ h9 => h9) rfl dX5_size_8 ?_
    refine lv_iload_n hx hb dX5_size_11 rfl (lv_at hl 1 rfl) ?_
    refine rI hx hb hK hW 1 rfl (k := ri) (by omega) (by omega) dX5_size_12 ?_
    refine tI (x' := nI (cnt)) (hsz) ?_
    refine lv_goto (tgt := 18) hx hb dX5_size_13 (by decide) ?_
    exact eI hQ hx hb hr hlocks hK hW () (rfl) (rfl) dX5_size_18

set_option maxHeartbeats 4000000 in
set_option maxRecDepth 100000 in
theorem c_X5_at_b (l : Launch) (D : va_G) (cy : Nat → ClassId) (t : Nat × Nat) (z0 : Nat) (zr : Nat) (zs : Nat) (zt : Nat) (zc : Nat) (zm : Nat) (zk : Nat) (zh : Nat) (zd : Nat) (zf : Nat) (ml : Nat) (zp : Nat) (mps : Nat) (za : Nat) (ze : Nat) (be : Int32) (zn : Nat) (zb : Nat) (zv : Nat) (zw : Nat) (zo : Nat) (zq : Nat) (nu : Int64) (bq : Int32) (fg : Int32) (zl : Nat) (hg : Nat) (cz : Nat) (zi : Nat) (x : Int32) (y : Int32) (hbd : x < 0 ∨ nI 8 ≤ x) (sz : Nat) : Met l yX5_at wsX5_at ({ frames := 1, cells := 0, slots := 0, locals := 20 }) (PcW D cy t [(z0, .inr (5, [.ref zr, .ref zs, .ref zt, .ref zc, .ref zm, .ref zk, .ref zh, .ref zd, .ref zf, .int (nI (ml)), .ref zp, .int (nI (mps)), .ref za, .ref ze, .int (be), .ref zn, .ref zb, .ref zv, .ref zw, .ref zo, .ref zq, .long (nu), .int (bq), .int (fg), .ref zl, .int (nI (hg)), .int (nI (cz)), .ref zi]))] [.ref z0, .int (x), .int (y)] sz) (QiA D cy (fun (r : Int32) (u : Unit) => (r = (-2 : Int32))) (fun u : Unit => [(z0, .inr (5, [.ref zr, .ref zs, .ref zt, .ref zc, .ref zm, .ref zk, .ref zh, .ref zd, .ref zf, .int (nI (ml)), .ref zp, .int (nI (mps)), .ref za, .ref ze, .int (be), .ref zn, .ref zb, .ref zv, .ref zw, .ref zo, .ref zq, .long (nu), .int (bq), .int (fg), .ref zl, .int (nI (hg)), .int (nI (cz)), .ref zi]))]) (va_A [(z0, .inr (5, [.ref zr, .ref zs, .ref zt, .ref zc, .ref zm, .ref zk, .ref zh, .ref zd, .ref zf, .int (nI (ml)), .ref zp, .int (nI (mps)), .ref za, .ref ze, .int (be), .ref zn, .ref zb, .ref zv, .ref zw, .ref zo, .ref zq, .long (nu), .int (bq), .int (fg), .ref zl, .int (nI (hg)), .int (nI (cz)), .ref zi]))] sz)) 0 0 (va_A [(z0, .inr (5, [.ref zr, .ref zs, .ref zt, .ref zc, .ref zm, .ref zk, .ref zh, .ref zd, .ref zf, .int (nI (ml)), .ref zp, .int (nI (mps)), .ref za, .ref ze, .int (be), .ref zn, .ref zb, .ref zv, .ref zw, .ref zo, .ref zq, .long (nu), .int (bq), .int (fg), .ref zl, .int (nI (hg)), .int (nI (cz)), .ref zi]))] sz) := by
  refine M_ofW (cc := cX5_at) (maxL := 3) (ret := (some .int)) (by decide) rfl (Nat.le_of_ble_eq_true rfl) ?_
  intro p e s m below meth c A ls args Q hQ S0 hr hlocks hnm hK hst hA hW hl
  have hx := S0.1; have hb := S0.2.1; have hml := S0.2.2.1; have hown := S0.2.2.2.1; have hts := S0.2.2.2.2
  have hl : lv_has ls 3 [(0, .ref z0), (1, .int (x)), (2, .int (y))] := hl
  refine lv_iload_n hx hb dX5_at_0 rfl (lv_at hl 1 rfl) ?_
  refine kSi (As := [.int (x)]) (rest := []) S0 hK hst hA hW [] (fun sz => c_X5_isRegister_b l D cy t x (hbd) sz) rfl (by decide) (va_cwS 1 hts gX5_at_X5_isRegister rfl rfl rfl (by decide +kernel) ⟨Nat.le_of_ble_eq_true rfl, Nat.le_of_ble_eq_true rfl⟩) (fun _ => rfl) rfl hl.1 rfl (Nat.le_of_ble_eq_true rfl) dX5_at_1 ⟨Nat.le_of_ble_eq_true rfl, Nat.le_of_ble_eq_true rfl⟩ (fun r1 u1 H locs p1 hW => ?_)
  have hW : Wd D A s [(z0, .inr (5, [.ref zr, .ref zs, .ref zt, .ref zc, .ref zm, .ref zk, .ref zh, .ref zd, .ref zf, .int (nI (ml)), .ref zp, .int (nI (mps)), .ref za, .ref ze, .int (be), .ref zn, .ref zb, .ref zv, .ref zw, .ref zo, .ref zq, .long (nu), .int (bq), .int (fg), .ref zl, .int (nI (hg)), .int (nI (cz)), .ref zi]))] H locs := hW
  have q1 : r1 = nI (0) := p1
  subst q1
  refine zNe (a := 0) (tgt := 10) hx hb dX5_at_4 (by decide) (by omega) (fun h4 => ?_) (fun h4 => ?_)
  · skip
    exfalso; omega
  · skip
    refine lv_bipush (v := (-2 : Int32)) hx hb dX5_at_7 (by decide) ?_
    exact eI hQ hx hb hr hlocks hK hW () (rfl) (rfl) dX5_at_9

theorem f_X5_at_0 : Cond.fieldLink RX5 13 "TreeHashesModel" "sizes" "[I" ∈ wsX5_at := by decide +kernel
theorem i_X5_at_X5 : ∀ w ∈ wsX50, w ∈ wsX5_at := by decide +kernel
theorem f_X5_at_2 : Cond.fieldLink RX5 7 "TreeHashesModel" "registers" "[I" ∈ wsX5_at := by decide +kernel
set_option maxHeartbeats 4000000 in
set_option maxRecDepth 100000 in
theorem c_X5_at (l : Launch) (D : va_G) (cy : Nat → ClassId) (t : Nat × Nat) (z0 : Nat) (zr : Nat) (zs : Nat) (zt : Nat) (zc : Nat) (zm : Nat) (zk : Nat) (zh : Nat) (zd : Nat) (zf : Nat) (ml : Nat) (zp : Nat) (mps : Nat) (za : Nat) (ze : Nat) (be : Int32) (zn : Nat) (zb : Nat) (zv : Nat) (zw : Nat) (zo : Nat) (zq : Nat) (nu : Int64) (bq : Int32) (fg : Int32) (zl : Nat) (hg : Nat) (cz : Nat) (zi : Nat) (ms : Nat → Int32) (mr : Nat → Int32) (ri : Nat) (cnt : Nat) (j : Nat) (hr8 : ri < 8) (hsz : ms ri = nI cnt) (hc : cnt ≤ 200) (hj : j < cnt) (sz : Nat) : Met l yX5_at wsX5_at ({ frames := 1, cells := 0, slots := 0, locals := 20 }) (PcW D cy t [(z0, .inr (5, [.ref zr, .ref zs, .ref zt, .ref zc, .ref zm, .ref zk, .ref zh, .ref zd, .ref zf, .int (nI (ml)), .ref zp, .int (nI (mps)), .ref za, .ref ze, .int (be), .ref zn, .ref zb, .ref zv, .ref zw, .ref zo, .ref zq, .long (nu), .int (bq), .int (fg), .ref zl, .int (nI (hg)), .int (nI (cz)), .ref zi])), (zs, .inl (cy 0, 8, .inl (ms))), (zr, .inl (cy 0, 1600, .inl (mr)))] [.ref z0, .int (nI (ri)), .int (nI (j))] sz) (QiA D cy (fun (r : Int32) (u : Unit) => (r = mr (200 * ri + j))) (fun u : Unit => [(z0, .inr (5, [.ref zr, .ref zs, .ref zt, .ref zc, .ref zm, .ref zk, .ref zh, .ref zd, .ref zf, .int (nI (ml)), .ref zp, .int (nI (mps)), .ref za, .ref ze, .int (be), .ref zn, .ref zb, .ref zv, .ref zw, .ref zo, .ref zq, .long (nu), .int (bq), .int (fg), .ref zl, .int (nI (hg)), .int (nI (cz)), .ref zi])), (zs, .inl (cy 0, 8, .inl (ms))), (zr, .inl (cy 0, 1600, .inl (mr)))]) (va_A [(z0, .inr (5, [.ref zr, .ref zs, .ref zt, .ref zc, .ref zm, .ref zk, .ref zh, .ref zd, .ref zf, .int (nI (ml)), .ref zp, .int (nI (mps)), .ref za, .ref ze, .int (be), .ref zn, .ref zb, .ref zv, .ref zw, .ref zo, .ref zq, .long (nu), .int (bq), .int (fg), .ref zl, .int (nI (hg)), .int (nI (cz)), .ref zi])), (zs, .inl (cy 0, 8, .inl (ms))), (zr, .inl (cy 0, 1600, .inl (mr)))] sz)) 0 0 (va_A [(z0, .inr (5, [.ref zr, .ref zs, .ref zt, .ref zc, .ref zm, .ref zk, .ref zh, .ref zd, .ref zf, .int (nI (ml)), .ref zp, .int (nI (mps)), .ref za, .ref ze, .int (be), .ref zn, .ref zb, .ref zv, .ref zw, .ref zo, .ref zq, .long (nu), .int (bq), .int (fg), .ref zl, .int (nI (hg)), .int (nI (cz)), .ref zi])), (zs, .inl (cy 0, 8, .inl (ms))), (zr, .inl (cy 0, 1600, .inl (mr)))] sz) := by
  refine M_ofW (cc := cX5_at) (maxL := 3) (ret := (some .int)) (by decide) rfl (Nat.le_of_ble_eq_true rfl) ?_
  intro p e s m below meth c A ls args Q hQ S0 hr hlocks hnm hK hst hA hW hl
  have hx := S0.1; have hb := S0.2.1; have hml := S0.2.2.1; have hown := S0.2.2.2.1; have hts := S0.2.2.2.2
  have hl : lv_has ls 3 [(0, .ref z0), (1, .int (nI (ri))), (2, .int (nI (j)))] := hl
  refine lv_iload_n hx hb dX5_at_0 rfl (lv_at hl 1 rfl) ?_
  refine kSi (As := [.int (nI (ri))]) (rest := []) S0 hK hst hA hW [] (fun sz => c_X5_isRegister l D cy t ri (by omega) sz) rfl (by decide) (va_cwS 1 hts gX5_at_X5_isRegister rfl rfl rfl (by decide +kernel) ⟨Nat.le_of_ble_eq_true rfl, Nat.le_of_ble_eq_true rfl⟩) (fun _ => rfl) rfl hl.1 rfl (Nat.le_of_ble_eq_true rfl) dX5_at_1 ⟨Nat.le_of_ble_eq_true rfl, Nat.le_of_ble_eq_true rfl⟩ (fun r1 u1 H locs p1 hW => ?_)
  have hW : Wd D A s [(z0, .inr (5, [.ref zr, .ref zs, .ref zt, .ref zc, .ref zm, .ref zk, .ref zh, .ref zd, .ref zf, .int (nI (ml)), .ref zp, .int (nI (mps)), .ref za, .ref ze, .int (be), .ref zn, .ref zb, .ref zv, .ref zw, .ref zo, .ref zq, .long (nu), .int (bq), .int (fg), .ref zl, .int (nI (hg)), .int (nI (cz)), .ref zi])), (zs, .inl (cy 0, 8, .inl (ms))), (zr, .inl (cy 0, 1600, .inl (mr)))] H locs := hW
  have q1 : r1 = nI (1) := p1
  subst q1
  refine zNe (a := 1) (tgt := 10) hx hb dX5_at_4 (by decide) (by omega) (fun h4 => ?_) (fun h4 => ?_)
  · skip
    refine lv_iload_n hx hb dX5_at_10 rfl (lv_at hl 2 rfl) ?_
    refine zLt (a := j) (tgt := 39) hx hb dX5_at_11 (by decide) (by omega) ?_
    refine lv_iload_n hx hb dX5_at_14 rfl (lv_at hl 2 rfl) ?_
    refine lv_aload_n hx hb dX5_at_15 rfl (lv_at hl 0 rfl) ?_
    refine va_get (D := D) (ci := 5) (v := .ref zs) (C := RX5) (T := TX5) (N := 28) hx hb hts i_X5_at_X5 hown hK hW.1 0 rfl rfl 1 (by decide) (hts (.fieldLink RX5 13 "TreeHashesModel" "sizes" "[I") f_X5_at_0) (fun _ h9 => h9) rfl dX5_at_16 ?_
    refine lv_iload_n hx hb dX5_at_19 rfl (lv_at hl 1 rfl) ?_
    refine rI hx hb hK hW 1 rfl (k := ri) (by omega) (by omega) dX5_at_20 ?_
    refine tI (x' := nI (cnt)) (hsz) ?_
    refine iGe (a := j) (b := cnt) (tgt := 39) hx hb dX5_at_21 (by decide) (by omega) (by omega) (fun h21 => ?_) (fun h21 => ?_)
    · skip
      exfalso; omega
    · skip
      refine lv_aload_n hx hb dX5_at_24 rfl (lv_at hl 0 rfl) ?_
      refine va_get (D := D) (ci := 5) (v := .ref zr) (C := RX5) (T := TX5) (N := 28) hx hb hts i_X5_at_X5 hown hK hW.1 0 rfl rfl 0 (by decide) (hts (.fieldLink RX5 7 "TreeHashesModel" "registers" "[I") f_X5_at_2) (fun _ h9 => h9) rfl dX5_at_25 ?_
      refine lv_sipush (v := nI (200)) hx hb dX5_at_28 (by decide) ?_
      refine lv_iload_n hx hb dX5_at_31 rfl (lv_at hl 1 rfl) ?_
      refine lv_imul hx hb dX5_at_32 ?_
      refine tI (pk_mul _ _) ?_
      refine lv_iload_n hx hb dX5_at_33 rfl (lv_at hl 2 rfl) ?_
      refine lv_iadd hx hb dX5_at_34 ?_
      refine tI (nI_add _ _) ?_
      refine rI hx hb hK hW 2 rfl (k := (200 * ri) + j) (by omega) (by omega) dX5_at_35 ?_
      refine lv_goto (tgt := 40) hx hb dX5_at_36 (by decide) ?_
      exact eI hQ hx hb hr hlocks hK hW () (rfl) (rfl) dX5_at_40
  · skip
    exfalso; omega

theorem f_X5_at_o_0 : Cond.fieldLink RX5 13 "TreeHashesModel" "sizes" "[I" ∈ wsX5_at := by decide +kernel
theorem i_X5_at_o_X5 : ∀ w ∈ wsX50, w ∈ wsX5_at := by decide +kernel
set_option maxHeartbeats 4000000 in
set_option maxRecDepth 100000 in
theorem c_X5_at_o (l : Launch) (D : va_G) (cy : Nat → ClassId) (t : Nat × Nat) (z0 : Nat) (zr : Nat) (zs : Nat) (zt : Nat) (zc : Nat) (zm : Nat) (zk : Nat) (zh : Nat) (zd : Nat) (zf : Nat) (ml : Nat) (zp : Nat) (mps : Nat) (za : Nat) (ze : Nat) (be : Int32) (zn : Nat) (zb : Nat) (zv : Nat) (zw : Nat) (zo : Nat) (zq : Nat) (nu : Int64) (bq : Int32) (fg : Int32) (zl : Nat) (hg : Nat) (cz : Nat) (zi : Nat) (ms : Nat → Int32) (mr : Nat → Int32) (ri : Nat) (cnt : Nat) (y : Int32) (hr8 : ri < 8) (hsz : ms ri = nI cnt) (hc : cnt ≤ 200) (hbn : y < 0 ∨ nI cnt ≤ y) (sz : Nat) : Met l yX5_at wsX5_at ({ frames := 1, cells := 0, slots := 0, locals := 20 }) (PcW D cy t [(z0, .inr (5, [.ref zr, .ref zs, .ref zt, .ref zc, .ref zm, .ref zk, .ref zh, .ref zd, .ref zf, .int (nI (ml)), .ref zp, .int (nI (mps)), .ref za, .ref ze, .int (be), .ref zn, .ref zb, .ref zv, .ref zw, .ref zo, .ref zq, .long (nu), .int (bq), .int (fg), .ref zl, .int (nI (hg)), .int (nI (cz)), .ref zi])), (zs, .inl (cy 0, 8, .inl (ms))), (zr, .inl (cy 0, 1600, .inl (mr)))] [.ref z0, .int (nI (ri)), .int (y)] sz) (QiA D cy (fun (r : Int32) (u : Unit) => (r = (-1 : Int32))) (fun u : Unit => [(z0, .inr (5, [.ref zr, .ref zs, .ref zt, .ref zc, .ref zm, .ref zk, .ref zh, .ref zd, .ref zf, .int (nI (ml)), .ref zp, .int (nI (mps)), .ref za, .ref ze, .int (be), .ref zn, .ref zb, .ref zv, .ref zw, .ref zo, .ref zq, .long (nu), .int (bq), .int (fg), .ref zl, .int (nI (hg)), .int (nI (cz)), .ref zi])), (zs, .inl (cy 0, 8, .inl (ms))), (zr, .inl (cy 0, 1600, .inl (mr)))]) (va_A [(z0, .inr (5, [.ref zr, .ref zs, .ref zt, .ref zc, .ref zm, .ref zk, .ref zh, .ref zd, .ref zf, .int (nI (ml)), .ref zp, .int (nI (mps)), .ref za, .ref ze, .int (be), .ref zn, .ref zb, .ref zv, .ref zw, .ref zo, .ref zq, .long (nu), .int (bq), .int (fg), .ref zl, .int (nI (hg)), .int (nI (cz)), .ref zi])), (zs, .inl (cy 0, 8, .inl (ms))), (zr, .inl (cy 0, 1600, .inl (mr)))] sz)) 0 0 (va_A [(z0, .inr (5, [.ref zr, .ref zs, .ref zt, .ref zc, .ref zm, .ref zk, .ref zh, .ref zd, .ref zf, .int (nI (ml)), .ref zp, .int (nI (mps)), .ref za, .ref ze, .int (be), .ref zn, .ref zb, .ref zv, .ref zw, .ref zo, .ref zq, .long (nu), .int (bq), .int (fg), .ref zl, .int (nI (hg)), .int (nI (cz)), .ref zi])), (zs, .inl (cy 0, 8, .inl (ms))), (zr, .inl (cy 0, 1600, .inl (mr)))] sz) := by
  refine M_ofW (cc := cX5_at) (maxL := 3) (ret := (some .int)) (by decide) rfl (Nat.le_of_ble_eq_true rfl) ?_
  intro p e s m below meth c A ls args Q hQ S0 hr hlocks hnm hK hst hA hW hl
  have hx := S0.1; have hb := S0.2.1; have hml := S0.2.2.1; have hown := S0.2.2.2.1; have hts := S0.2.2.2.2
  have hl : lv_has ls 3 [(0, .ref z0), (1, .int (nI (ri))), (2, .int (y))] := hl
  refine lv_iload_n hx hb dX5_at_0 rfl (lv_at hl 1 rfl) ?_
  refine kSi (As := [.int (nI (ri))]) (rest := []) S0 hK hst hA hW [] (fun sz => c_X5_isRegister l D cy t ri (by omega) sz) rfl (by decide) (va_cwS 1 hts gX5_at_X5_isRegister rfl rfl rfl (by decide +kernel) ⟨Nat.le_of_ble_eq_true rfl, Nat.le_of_ble_eq_true rfl⟩) (fun _ => rfl) rfl hl.1 rfl (Nat.le_of_ble_eq_true rfl) dX5_at_1 ⟨Nat.le_of_ble_eq_true rfl, Nat.le_of_ble_eq_true rfl⟩ (fun r1 u1 H locs p1 hW => ?_)
  have hW : Wd D A s [(z0, .inr (5, [.ref zr, .ref zs, .ref zt, .ref zc, .ref zm, .ref zk, .ref zh, .ref zd, .ref zf, .int (nI (ml)), .ref zp, .int (nI (mps)), .ref za, .ref ze, .int (be), .ref zn, .ref zb, .ref zv, .ref zw, .ref zo, .ref zq, .long (nu), .int (bq), .int (fg), .ref zl, .int (nI (hg)), .int (nI (cz)), .ref zi])), (zs, .inl (cy 0, 8, .inl (ms))), (zr, .inl (cy 0, 1600, .inl (mr)))] H locs := hW
  have q1 : r1 = nI (1) := p1
  subst q1
  refine zNe (a := 1) (tgt := 10) hx hb dX5_at_4 (by decide) (by omega) (fun h4 => ?_) (fun h4 => ?_)
  · skip
    refine lv_iload_n hx hb dX5_at_10 rfl (lv_at hl 2 rfl) ?_
    refine lv_if_lt (tgt := 39) hx hb dX5_at_11 (by decide) (fun h11 => ?_) (fun h11 => ?_)
    · skip
      refine lv_iconst (v := (-1 : Int32)) hx hb dX5_at_39 (by decide) ?_
      exact eI hQ hx hb hr hlocks hK hW () (rfl) (rfl) dX5_at_40
    · skip
      refine lv_iload_n hx hb dX5_at_14 rfl (lv_at hl 2 rfl) ?_
      refine lv_aload_n hx hb dX5_at_15 rfl (lv_at hl 0 rfl) ?_
      refine va_get (D := D) (ci := 5) (v := .ref zs) (C := RX5) (T := TX5) (N := 28) hx hb hts i_X5_at_o_X5 hown hK hW.1 0 rfl rfl 1 (by decide) (hts (.fieldLink RX5 13 "TreeHashesModel" "sizes" "[I") f_X5_at_o_0) (fun _ h9 => h9) rfl dX5_at_16 ?_
      refine lv_iload_n hx hb dX5_at_19 rfl (lv_at hl 1 rfl) ?_
      refine rI hx hb hK hW 1 rfl (k := ri) (by omega) (by omega) dX5_at_20 ?_
      refine tI (x' := nI (cnt)) (hsz) ?_
      refine lv_icmp_ge (tgt := 39) hx hb dX5_at_21 (by decide) (fun h21 => ?_) (fun h21 => ?_)
      · skip
        refine lv_iconst (v := (-1 : Int32)) hx hb dX5_at_39 (by decide) ?_
        exact eI hQ hx hb hr hlocks hK hW () (rfl) (rfl) dX5_at_40
      · skip
        exact hbn.elim (fun q => absurd q h11) (fun q => absurd q h21)
  · skip
    exfalso; omega

set_option maxHeartbeats 4000000 in
set_option maxRecDepth 100000 in
theorem c_X5_grow_b (l : Launch) (D : va_G) (cy : Nat → ClassId) (t : Nat × Nat) (z0 : Nat) (zr : Nat) (zs : Nat) (zt : Nat) (zc : Nat) (zm : Nat) (zk : Nat) (zh : Nat) (zd : Nat) (zf : Nat) (ml : Nat) (zp : Nat) (mps : Nat) (za : Nat) (ze : Nat) (be : Int32) (zn : Nat) (zb : Nat) (zv : Nat) (zw : Nat) (zo : Nat) (zq : Nat) (nu : Int64) (bq : Int32) (fg : Int32) (zl : Nat) (hg : Nat) (cz : Nat) (zi : Nat) (x : Int32) (fr : Int32) (sp : Int32) (hbn : x < nI 1 ∨ nI 5000 < x) (sz : Nat) : Met l yX5_grow wsX5_grow ({ frames := 0, cells := 0, slots := 0, locals := 0 }) (PcW D cy t [(z0, .inr (5, [.ref zr, .ref zs, .ref zt, .ref zc, .ref zm, .ref zk, .ref zh, .ref zd, .ref zf, .int (nI (ml)), .ref zp, .int (nI (mps)), .ref za, .ref ze, .int (be), .ref zn, .ref zb, .ref zv, .ref zw, .ref zo, .ref zq, .long (nu), .int (bq), .int (fg), .ref zl, .int (nI (hg)), .int (nI (cz)), .ref zi]))] [.ref z0, .int (x), .int (fr), .int (sp)] sz) (QiA D cy (fun (r : Int32) (u : Unit) => (r = (-2 : Int32))) (fun u : Unit => [(z0, .inr (5, [.ref zr, .ref zs, .ref zt, .ref zc, .ref zm, .ref zk, .ref zh, .ref zd, .ref zf, .int (nI (ml)), .ref zp, .int (nI (mps)), .ref za, .ref ze, .int (be), .ref zn, .ref zb, .ref zv, .ref zw, .ref zo, .ref zq, .long (nu), .int (bq), .int (fg), .ref zl, .int (nI (hg)), .int (nI (cz)), .ref zi]))]) (va_A [(z0, .inr (5, [.ref zr, .ref zs, .ref zt, .ref zc, .ref zm, .ref zk, .ref zh, .ref zd, .ref zf, .int (nI (ml)), .ref zp, .int (nI (mps)), .ref za, .ref ze, .int (be), .ref zn, .ref zb, .ref zv, .ref zw, .ref zo, .ref zq, .long (nu), .int (bq), .int (fg), .ref zl, .int (nI (hg)), .int (nI (cz)), .ref zi]))] sz)) 0 0 (va_A [(z0, .inr (5, [.ref zr, .ref zs, .ref zt, .ref zc, .ref zm, .ref zk, .ref zh, .ref zd, .ref zf, .int (nI (ml)), .ref zp, .int (nI (mps)), .ref za, .ref ze, .int (be), .ref zn, .ref zb, .ref zv, .ref zw, .ref zo, .ref zq, .long (nu), .int (bq), .int (fg), .ref zl, .int (nI (hg)), .int (nI (cz)), .ref zi]))] sz) := by
  refine M_ofW (cc := cX5_grow) (maxL := 5) (ret := (some .int)) (by decide) rfl (Nat.le_of_ble_eq_true rfl) ?_
  intro p e s m below meth c A ls args Q hQ S0 hr hlocks hnm hK hst hA hW hl
  have hx := S0.1; have hb := S0.2.1; have hml := S0.2.2.1; have hown := S0.2.2.2.1; have hts := S0.2.2.2.2
  have hl : lv_has ls 5 [(0, .ref z0), (1, .int (x)), (2, .int (fr)), (3, .int (sp))] := hl
  refine lv_iload_n hx hb dX5_grow_0 rfl (lv_at hl 1 rfl) ?_
  refine lv_iconst (v := nI (1)) hx hb dX5_grow_1 (by decide) ?_
  refine lv_icmp_lt (tgt := 12) hx hb dX5_grow_2 (by decide) (fun h2 => ?_) (fun h2 => ?_)
  · skip
    refine lv_bipush (v := (-2 : Int32)) hx hb dX5_grow_12 (by decide) ?_
    exact eI hQ hx hb hr hlocks hK hW () (rfl) (rfl) dX5_grow_14
  · skip
    refine lv_iload_n hx hb dX5_grow_5 rfl (lv_at hl 1 rfl) ?_
    refine lv_sipush (v := nI (5000)) hx hb dX5_grow_6 (by decide) ?_
    refine lv_icmp_le (tgt := 15) hx hb dX5_grow_9 (by decide) (fun h9 => ?_) (fun h9 => ?_)
    · skip
      exact hbn.elim (fun q => absurd q h2) (fun q => absurd h9 (Int32.not_le.mpr q))
    · skip
      refine lv_bipush (v := (-2 : Int32)) hx hb dX5_grow_12 (by decide) ?_
      exact eI hQ hx hb hr hlocks hK hW () (rfl) (rfl) dX5_grow_14

theorem f_X5_grow_r_0 : Cond.fieldLink RX5 178 "TreeHashesModel" "length" "I" ∈ wsX5_grow := by decide +kernel
theorem i_X5_grow_r_X5 : ∀ w ∈ wsX50, w ∈ wsX5_grow := by decide +kernel
set_option maxHeartbeats 4000000 in
set_option maxRecDepth 100000 in
theorem c_X5_grow_r (l : Launch) (D : va_G) (cy : Nat → ClassId) (t : Nat × Nat) (z0 : Nat) (zr : Nat) (zs : Nat) (zt : Nat) (zc : Nat) (zm : Nat) (zk : Nat) (zh : Nat) (zd : Nat) (zf : Nat) (ml : Nat) (zp : Nat) (mps : Nat) (za : Nat) (ze : Nat) (be : Int32) (zn : Nat) (zb : Nat) (zv : Nat) (zw : Nat) (zo : Nat) (zq : Nat) (nu : Int64) (bq : Int32) (fg : Int32) (zl : Nat) (hg : Nat) (cz : Nat) (zi : Nat) (n : Nat) (fr : Int32) (sp : Int32) (hml : ml ≤ 20000) (hn1 : 1 ≤ n) (hn5 : n ≤ 5000) (hfull : 20000 < ml + n) (sz : Nat) : Met l yX5_grow wsX5_grow ({ frames := 0, cells := 0, slots := 0, locals := 0 }) (PcW D cy t [(z0, .inr (5, [.ref zr, .ref zs, .ref zt, .ref zc, .ref zm, .ref zk, .ref zh, .ref zd, .ref zf, .int (nI (ml)), .ref zp, .int (nI (mps)), .ref za, .ref ze, .int (be), .ref zn, .ref zb, .ref zv, .ref zw, .ref zo, .ref zq, .long (nu), .int (bq), .int (fg), .ref zl, .int (nI (hg)), .int (nI (cz)), .ref zi]))] [.ref z0, .int (nI (n)), .int (fr), .int (sp)] sz) (QiA D cy (fun (r : Int32) (u : Unit) => (r = (-3 : Int32))) (fun u : Unit => [(z0, .inr (5, [.ref zr, .ref zs, .ref zt, .ref zc, .ref zm, .ref zk, .ref zh, .ref zd, .ref zf, .int (nI (ml)), .ref zp, .int (nI (mps)), .ref za, .ref ze, .int (be), .ref zn, .ref zb, .ref zv, .ref zw, .ref zo, .ref zq, .long (nu), .int (bq), .int (fg), .ref zl, .int (nI (hg)), .int (nI (cz)), .ref zi]))]) (va_A [(z0, .inr (5, [.ref zr, .ref zs, .ref zt, .ref zc, .ref zm, .ref zk, .ref zh, .ref zd, .ref zf, .int (nI (ml)), .ref zp, .int (nI (mps)), .ref za, .ref ze, .int (be), .ref zn, .ref zb, .ref zv, .ref zw, .ref zo, .ref zq, .long (nu), .int (bq), .int (fg), .ref zl, .int (nI (hg)), .int (nI (cz)), .ref zi]))] sz)) 0 0 (va_A [(z0, .inr (5, [.ref zr, .ref zs, .ref zt, .ref zc, .ref zm, .ref zk, .ref zh, .ref zd, .ref zf, .int (nI (ml)), .ref zp, .int (nI (mps)), .ref za, .ref ze, .int (be), .ref zn, .ref zb, .ref zv, .ref zw, .ref zo, .ref zq, .long (nu), .int (bq), .int (fg), .ref zl, .int (nI (hg)), .int (nI (cz)), .ref zi]))] sz) := by
  refine M_ofW (cc := cX5_grow) (maxL := 5) (ret := (some .int)) (by decide) rfl (Nat.le_of_ble_eq_true rfl) ?_
  intro p e s m below meth c A ls args Q hQ S0 hr hlocks hnm hK hst hA hW hl
  have hx := S0.1; have hb := S0.2.1; have hml := S0.2.2.1; have hown := S0.2.2.2.1; have hts := S0.2.2.2.2
  have hl : lv_has ls 5 [(0, .ref z0), (1, .int (nI (n))), (2, .int (fr)), (3, .int (sp))] := hl
  refine lv_iload_n hx hb dX5_grow_0 rfl (lv_at hl 1 rfl) ?_
  refine lv_iconst (v := nI (1)) hx hb dX5_grow_1 (by decide) ?_
  refine iLt (a := n) (b := 1) (tgt := 12) hx hb dX5_grow_2 (by decide) (by omega) (by omega) (fun h2 => ?_) (fun h2 => ?_)
  · skip
    exfalso; omega
  · skip
    refine lv_iload_n hx hb dX5_grow_5 rfl (lv_at hl 1 rfl) ?_
    refine lv_sipush (v := nI (5000)) hx hb dX5_grow_6 (by decide) ?_
    refine iLe (a := n) (b := 5000) (tgt := 15) hx hb dX5_grow_9 (by decide) (by omega) (by omega) (fun h9 => ?_) (fun h9 => ?_)
    · skip
      refine lv_aload_n hx hb dX5_grow_15 rfl (lv_at hl 0 rfl) ?_
      refine va_get (D := D) (ci := 5) (v := .int (nI (ml))) (C := RX5) (T := TX5) (N := 28) hx hb hts i_X5_grow_r_X5 hown hK hW.1 0 rfl rfl 9 (by decide) (hts (.fieldLink RX5 178 "TreeHashesModel" "length" "I") f_X5_grow_r_0) (fun _ h9 => h9) rfl dX5_grow_16 ?_
      refine lv_iload_n hx hb dX5_grow_19 rfl (lv_at hl 1 rfl) ?_
      refine lv_iadd hx hb dX5_grow_20 ?_
      refine tI (nI_add _ _) ?_
      refine lv_sipush (v := nI (20000)) hx hb dX5_grow_21 (by decide) ?_
      refine iLe (a := ml + n) (b := 20000) (tgt := 30) hx hb dX5_grow_24 (by decide) (by omega) (by omega) (fun h24 => ?_) (fun h24 => ?_)
      · skip
        exfalso; omega
      · skip
        refine lv_bipush (v := (-3 : Int32)) hx hb dX5_grow_27 (by decide) ?_
        exact eI hQ hx hb hr hlocks hK hW () (rfl) (rfl) dX5_grow_29
    · skip
      exfalso; omega

theorem f_X5_grow_0 : Cond.fieldLink RX5 178 "TreeHashesModel" "length" "I" ∈ wsX5_grow := by decide +kernel
theorem i_X5_grow_X5 : ∀ w ∈ wsX50, w ∈ wsX5_grow := by decide +kernel
theorem f_X5_grow_2 : Cond.fieldLink RX5 35 "TreeHashesModel" "file" "[I" ∈ wsX5_grow := by decide +kernel
set_option maxHeartbeats 4000000 in
set_option maxRecDepth 100000 in
theorem c_X5_grow (l : Launch) (D : va_G) (cy : Nat → ClassId) (t : Nat × Nat) (z0 : Nat) (zr : Nat) (zs : Nat) (zt : Nat) (zc : Nat) (zm : Nat) (zk : Nat) (zh : Nat) (zd : Nat) (zf : Nat) (ml : Nat) (zp : Nat) (mps : Nat) (za : Nat) (ze : Nat) (be : Int32) (zn : Nat) (zb : Nat) (zv : Nat) (zw : Nat) (zo : Nat) (zq : Nat) (nu : Int64) (bq : Int32) (fg : Int32) (zl : Nat) (hg : Nat) (cz : Nat) (zi : Nat) (mf : Nat → Int32) (n : Nat) (fr : Int32) (sp : Int32) (hml : ml ≤ 20000) (hn1 : 1 ≤ n) (hn5 : n ≤ 5000) (hfit : ml + n ≤ 20000) (sz : Nat) : Met l yX5_grow wsX5_grow ({ frames := 0, cells := 0, slots := 0, locals := 0 }) (PcW D cy t [(z0, .inr (5, [.ref zr, .ref zs, .ref zt, .ref zc, .ref zm, .ref zk, .ref zh, .ref zd, .ref zf, .int (nI (ml)), .ref zp, .int (nI (mps)), .ref za, .ref ze, .int (be), .ref zn, .ref zb, .ref zv, .ref zw, .ref zo, .ref zq, .long (nu), .int (bq), .int (fg), .ref zl, .int (nI (hg)), .int (nI (cz)), .ref zi])), (zf, .inl (cy 0, 20000, .inl (mf)))] [.ref z0, .int (nI (n)), .int (fr), .int (sp)] sz) (QiA D cy (fun (r : Int32) (u : Unit) => (r = nI (ml + n))) (fun u : Unit => [(z0, .inr (5, [.ref zr, .ref zs, .ref zt, .ref zc, .ref zm, .ref zk, .ref zh, .ref zd, .ref zf, .int (nI (ml + n)), .ref zp, .int (nI (mps)), .ref za, .ref ze, .int (be), .ref zn, .ref zb, .ref zv, .ref zw, .ref zo, .ref zq, .long (nu), .int (bq), .int (fg), .ref zl, .int (nI (hg)), .int (nI (cz)), .ref zi])), (zf, .inl (cy 0, 20000, .inl (apG mf ml (fun i => (fr + ((nI (i)) * sp)) &&& (nI (255))) n)))]) (va_A [(z0, .inr (5, [.ref zr, .ref zs, .ref zt, .ref zc, .ref zm, .ref zk, .ref zh, .ref zd, .ref zf, .int (nI (ml)), .ref zp, .int (nI (mps)), .ref za, .ref ze, .int (be), .ref zn, .ref zb, .ref zv, .ref zw, .ref zo, .ref zq, .long (nu), .int (bq), .int (fg), .ref zl, .int (nI (hg)), .int (nI (cz)), .ref zi])), (zf, .inl (cy 0, 20000, .inl (mf)))] sz)) 0 0 (va_A [(z0, .inr (5, [.ref zr, .ref zs, .ref zt, .ref zc, .ref zm, .ref zk, .ref zh, .ref zd, .ref zf, .int (nI (ml)), .ref zp, .int (nI (mps)), .ref za, .ref ze, .int (be), .ref zn, .ref zb, .ref zv, .ref zw, .ref zo, .ref zq, .long (nu), .int (bq), .int (fg), .ref zl, .int (nI (hg)), .int (nI (cz)), .ref zi])), (zf, .inl (cy 0, 20000, .inl (mf)))] sz) := by
  refine M_ofW (cc := cX5_grow) (maxL := 5) (ret := (some .int)) (by decide) rfl (Nat.le_of_ble_eq_true rfl) ?_
  intro p e s m below meth c A ls args Q hQ S0 hr hlocks hnm hK hst hA hW hl
  have hx := S0.1; have hb := S0.2.1; have hml := S0.2.2.1; have hown := S0.2.2.2.1; have hts := S0.2.2.2.2
  have hl : lv_has ls 5 [(0, .ref z0), (1, .int (nI (n))), (2, .int (fr)), (3, .int (sp))] := hl
  refine lv_iload_n hx hb dX5_grow_0 rfl (lv_at hl 1 rfl) ?_
  refine lv_iconst (v := nI (1)) hx hb dX5_grow_1 (by decide) ?_
  refine iLt (a := n) (b := 1) (tgt := 12) hx hb dX5_grow_2 (by decide) (by omega) (by omega) (fun h2 => ?_) (fun h2 => ?_)
  · skip
    exfalso; omega
  · skip
    refine lv_iload_n hx hb dX5_grow_5 rfl (lv_at hl 1 rfl) ?_
    refine lv_sipush (v := nI (5000)) hx hb dX5_grow_6 (by decide) ?_
    refine iLe (a := n) (b := 5000) (tgt := 15) hx hb dX5_grow_9 (by decide) (by omega) (by omega) (fun h9 => ?_) (fun h9 => ?_)
    · skip
      refine lv_aload_n hx hb dX5_grow_15 rfl (lv_at hl 0 rfl) ?_
      refine va_get (D := D) (ci := 5) (v := .int (nI (ml))) (C := RX5) (T := TX5) (N := 28) hx hb hts i_X5_grow_X5 hown hK hW.1 0 rfl rfl 9 (by decide) (hts (.fieldLink RX5 178 "TreeHashesModel" "length" "I") f_X5_grow_0) (fun _ h9 => h9) rfl dX5_grow_16 ?_
      refine lv_iload_n hx hb dX5_grow_19 rfl (lv_at hl 1 rfl) ?_
      refine lv_iadd hx hb dX5_grow_20 ?_
      refine tI (nI_add _ _) ?_
      refine lv_sipush (v := nI (20000)) hx hb dX5_grow_21 (by decide) ?_
      refine iLe (a := ml + n) (b := 20000) (tgt := 30) hx hb dX5_grow_24 (by decide) (by omega) (by omega) (fun h24 => ?_) (fun h24 => ?_)
      · skip
        refine lv_iconst (v := nI (0)) hx hb dX5_grow_30 (by decide) ?_
        refine lv_istore (lv' := [(4, .int (nI (0))), (0, .ref z0), (1, .int (nI (n))), (2, .int (fr)), (3, .int (sp))]) hx hb dX5_grow_31 hl (by decide) rfl (fun ls hl => ?_)
        have loop33 : ∀ (nF : Nat) (i : Nat), n - i < nF → (i ≤ n) → ∀ (H : Heap) (locs : List Loc), Wd D A s [(z0, .inr (5, [.ref zr, .ref zs, .ref zt, .ref zc, .ref zm, .ref zk, .ref zh, .ref zd, .ref zf, .int (nI (ml + i)), .ref zp, .int (nI (mps)), .ref za, .ref ze, .int (be), .ref zn, .ref zb, .ref zv, .ref zw, .ref zo, .ref zq, .long (nu), .int (bq), .int (fg), .ref zl, .int (nI (hg)), .int (nI (cz)), .ref zi])), (zf, .inl (cy 0, 20000, .inl (apG mf ml (fun i => (fr + ((nI (i)) * sp)) &&& (nI (255))) i)))] H locs → ∀ ls : Array Slot, lv_has ls 5 [(0, .ref z0), (1, .int (nI (n))), (2, .int (fr)), (3, .int (sp)), (4, .int (nI (i)))] → W p l e ({ frames := 0, cells := 0, slots := 0, locals := 0 }) s m args below meth c H locs 0 0 Q (F0 m 33 ls []) := by
          intro nF
          induction nF with
          | zero => intro i hf; exact absurd hf (Nat.not_lt_zero _)
          | succ nF ih33 =>
            intro i hf hi H locs hW ls hl
            refine lv_iload hx hb dX5_grow_33 (lv_at hl 4 rfl) ?_
            refine lv_iload_n hx hb dX5_grow_35 rfl (lv_at hl 1 rfl) ?_
            refine iGe (a := i) (b := n) (tgt := 74) hx hb dX5_grow_36 (by decide) (by omega) (by omega) (fun h36 => ?_) (fun h36 => ?_)
            · skip
              refine lv_aload_n hx hb dX5_grow_74 rfl (lv_at hl 0 rfl) ?_
              refine va_get (D := D) (ci := 5) (v := .int (nI (ml + i))) (C := RX5) (T := TX5) (N := 28) hx hb hts i_X5_grow_X5 hown hK hW.1 0 rfl rfl 9 (by decide) (hts (.fieldLink RX5 178 "TreeHashesModel" "length" "I") f_X5_grow_0) (fun _ h9 => h9) rfl dX5_grow_75 ?_
              have e9 : i = n := by omega
              rw [e9] at hW
              exact eI hQ hx hb hr hlocks hK hW () (by rw [e9]) (rfl) dX5_grow_78
            · skip
              refine lv_aload_n hx hb dX5_grow_39 rfl (lv_at hl 0 rfl) ?_
              refine va_get (D := D) (ci := 5) (v := .ref zf) (C := RX5) (T := TX5) (N := 28) hx hb hts i_X5_grow_X5 hown hK hW.1 0 rfl rfl 8 (by decide) (hts (.fieldLink RX5 35 "TreeHashesModel" "file" "[I") f_X5_grow_2) (fun _ h9 => h9) rfl dX5_grow_40 ?_
              refine lv_aload_n hx hb dX5_grow_43 rfl (lv_at hl 0 rfl) ?_
              refine va_get (D := D) (ci := 5) (v := .int (nI (ml + i))) (C := RX5) (T := TX5) (N := 28) hx hb hts i_X5_grow_X5 hown hK hW.1 0 rfl rfl 9 (by decide) (hts (.fieldLink RX5 178 "TreeHashesModel" "length" "I") f_X5_grow_0) (fun _ h9 => h9) rfl dX5_grow_44 ?_
              refine lv_iload_n hx hb dX5_grow_47 rfl (lv_at hl 2 rfl) ?_
              refine lv_iload hx hb dX5_grow_48 (lv_at hl 4 rfl) ?_
              refine lv_iload_n hx hb dX5_grow_50 rfl (lv_at hl 3 rfl) ?_
              refine lv_imul hx hb dX5_grow_51 ?_
              refine lv_iadd hx hb dX5_grow_52 ?_
              refine lv_sipush (v := nI (255)) hx hb dX5_grow_53 (by decide) ?_
              refine lv_iand hx hb dX5_grow_56 ?_
              refine wI hx hb hK hW 1 rfl (k := ml + i) (by omega) (by omega) dX5_grow_57 (fun H locs hW => ?_)
              have hW : Wd D A s [(z0, .inr (5, [.ref zr, .ref zs, .ref zt, .ref zc, .ref zm, .ref zk, .ref zh, .ref zd, .ref zf, .int (nI (ml + i)), .ref zp, .int (nI (mps)), .ref za, .ref ze, .int (be), .ref zn, .ref zb, .ref zv, .ref zw, .ref zo, .ref zq, .long (nu), .int (bq), .int (fg), .ref zl, .int (nI (hg)), .int (nI (cz)), .ref zi])), (zf, .inl (cy 0, 20000, .inl (upd (apG mf ml (fun i => (fr + ((nI (i)) * sp)) &&& (nI (255))) i) (ml + i) ((fr + ((nI (i)) * sp)) &&& (nI (255))))))] H locs := hW
              rw [show (upd (apG mf ml (fun i => (fr + ((nI (i)) * sp)) &&& (nI (255))) i) (ml + i) ((fr + ((nI (i)) * sp)) &&& (nI (255)))) = (apG mf ml (fun i => (fr + ((nI (i)) * sp)) &&& (nI (255))) (i + 1)) from apG_s mf ml (fun i => (fr + ((nI (i)) * sp)) &&& (nI (255))) i] at hW
              have hW : Wd D A s [(z0, .inr (5, [.ref zr, .ref zs, .ref zt, .ref zc, .ref zm, .ref zk, .ref zh, .ref zd, .ref zf, .int (nI (ml + i)), .ref zp, .int (nI (mps)), .ref za, .ref ze, .int (be), .ref zn, .ref zb, .ref zv, .ref zw, .ref zo, .ref zq, .long (nu), .int (bq), .int (fg), .ref zl, .int (nI (hg)), .int (nI (cz)), .ref zi])), (zf, .inl (cy 0, 20000, .inl (apG mf ml (fun i => (fr + ((nI (i)) * sp)) &&& (nI (255))) (i + 1))))] H locs := hW
              refine lv_aload_n hx hb dX5_grow_58 rfl (lv_at hl 0 rfl) ?_
              refine lv_dup hx hb dX5_grow_59 rfl ?_
              refine va_get (D := D) (ci := 5) (v := .int (nI (ml + i))) (C := RX5) (T := TX5) (N := 28) hx hb hts i_X5_grow_X5 hown hK hW.1 0 rfl rfl 9 (by decide) (hts (.fieldLink RX5 178 "TreeHashesModel" "length" "I") f_X5_grow_0) (fun _ h9 => h9) rfl dX5_grow_60 ?_
              refine lv_iconst (v := nI (1)) hx hb dX5_grow_63 (by decide) ?_
              refine lv_iadd hx hb dX5_grow_64 ?_
              refine tI (nI_add _ _) ?_
              refine va_put (D := D) (ci := 5) (v := .int (nI ((ml + i) + 1))) (ty := .int) (C := RX5) (T := TX5) (N := 28) hx hb hts i_X5_grow_X5 tyX5 tyX5_ok nmX5 hown hK hW.1 hW.2.1 hW.2.2 0 rfl rfl 9 (by decide) (hts (.fieldLink RX5 178 "TreeHashesModel" "length" "I") f_X5_grow_0) (fun _ h9 => h9) rfl (by decide +kernel) rfl rfl (Nat.le_of_ble_eq_true rfl) dX5_grow_65 (fun H locs hP hD hS => ?_)
              have hW : Wd D A s [(z0, .inr (5, [.ref zr, .ref zs, .ref zt, .ref zc, .ref zm, .ref zk, .ref zh, .ref zd, .ref zf, .int (nI ((ml + i) + 1)), .ref zp, .int (nI (mps)), .ref za, .ref ze, .int (be), .ref zn, .ref zb, .ref zv, .ref zw, .ref zo, .ref zq, .long (nu), .int (bq), .int (fg), .ref zl, .int (nI (hg)), .int (nI (cz)), .ref zi])), (zf, .inl (cy 0, 20000, .inl (apG mf ml (fun i => (fr + ((nI (i)) * sp)) &&& (nI (255))) (i + 1))))] H locs := ⟨hP, hD, hS⟩
              refine lv_iinc (v := nI (i + 1)) (lv' := [(4, .int (nI (i + 1))), (0, .ref z0), (1, .int (nI (n))), (2, .int (fr)), (3, .int (sp))]) hx hb dX5_grow_68 hl (k := 4) rfl (nI_1 _) (by decide) rfl (fun ls hl => ?_)
              refine lv_goto (tgt := 33) hx hb dX5_grow_71 (by decide) ?_
              exact ih33 (i + 1) (by omega) (by omega) _ _ hW _ (lv_sub hl [1, 2, 3, 4, 0] rfl)
        rw [← apG_0 mf ml (fun i => (fr + ((nI (i)) * sp)) &&& (nI (255)))] at hW
        exact loop33 _ 0 (Nat.lt_succ_self _) (by omega) _ _ hW _ (lv_sub hl [1, 2, 3, 4, 0] rfl)
      · skip
        exfalso; omega
    · skip
      exfalso; omega

theorem f_X5_spoil_0 : Cond.fieldLink RX5 178 "TreeHashesModel" "length" "I" ∈ wsX5_spoil := by decide +kernel
theorem i_X5_spoil_X5 : ∀ w ∈ wsX50, w ∈ wsX5_spoil := by decide +kernel
theorem f_X5_spoil_2 : Cond.fieldLink RX5 35 "TreeHashesModel" "file" "[I" ∈ wsX5_spoil := by decide +kernel
set_option maxHeartbeats 4000000 in
set_option maxRecDepth 100000 in
theorem c_X5_spoil (l : Launch) (D : va_G) (cy : Nat → ClassId) (t : Nat × Nat) (z0 : Nat) (zr : Nat) (zs : Nat) (zt : Nat) (zc : Nat) (zm : Nat) (zk : Nat) (zh : Nat) (zd : Nat) (zf : Nat) (ml : Nat) (zp : Nat) (mps : Nat) (za : Nat) (ze : Nat) (be : Int32) (zn : Nat) (zb : Nat) (zv : Nat) (zw : Nat) (zo : Nat) (zq : Nat) (nu : Int64) (bq : Int32) (fg : Int32) (zl : Nat) (hg : Nat) (cz : Nat) (zi : Nat) (mf : Nat → Int32) (i : Nat) (k : Nat) (hml : ml ≤ 20000) (hi : i < ml) (hk : k ≤ 255) (sz : Nat) : Met l yX5_spoil wsX5_spoil ({ frames := 0, cells := 0, slots := 0, locals := 0 }) (PcW D cy t [(z0, .inr (5, [.ref zr, .ref zs, .ref zt, .ref zc, .ref zm, .ref zk, .ref zh, .ref zd, .ref zf, .int (nI (ml)), .ref zp, .int (nI (mps)), .ref za, .ref ze, .int (be), .ref zn, .ref zb, .ref zv, .ref zw, .ref zo, .ref zq, .long (nu), .int (bq), .int (fg), .ref zl, .int (nI (hg)), .int (nI (cz)), .ref zi])), (zf, .inl (cy 0, 20000, .inl (mf)))] [.ref z0, .int (nI (i)), .int (nI (k))] sz) (QiA D cy (fun (r : Int32) (u : Unit) => (r = (mf i) ^^^ (nI k))) (fun u : Unit => [(z0, .inr (5, [.ref zr, .ref zs, .ref zt, .ref zc, .ref zm, .ref zk, .ref zh, .ref zd, .ref zf, .int (nI (ml)), .ref zp, .int (nI (mps)), .ref za, .ref ze, .int (be), .ref zn, .ref zb, .ref zv, .ref zw, .ref zo, .ref zq, .long (nu), .int (bq), .int (fg), .ref zl, .int (nI (hg)), .int (nI (cz)), .ref zi])), (zf, .inl (cy 0, 20000, .inl (upd mf i ((mf i) ^^^ (nI k)))))]) (va_A [(z0, .inr (5, [.ref zr, .ref zs, .ref zt, .ref zc, .ref zm, .ref zk, .ref zh, .ref zd, .ref zf, .int (nI (ml)), .ref zp, .int (nI (mps)), .ref za, .ref ze, .int (be), .ref zn, .ref zb, .ref zv, .ref zw, .ref zo, .ref zq, .long (nu), .int (bq), .int (fg), .ref zl, .int (nI (hg)), .int (nI (cz)), .ref zi])), (zf, .inl (cy 0, 20000, .inl (mf)))] sz)) 0 0 (va_A [(z0, .inr (5, [.ref zr, .ref zs, .ref zt, .ref zc, .ref zm, .ref zk, .ref zh, .ref zd, .ref zf, .int (nI (ml)), .ref zp, .int (nI (mps)), .ref za, .ref ze, .int (be), .ref zn, .ref zb, .ref zv, .ref zw, .ref zo, .ref zq, .long (nu), .int (bq), .int (fg), .ref zl, .int (nI (hg)), .int (nI (cz)), .ref zi])), (zf, .inl (cy 0, 20000, .inl (mf)))] sz) := by
  refine M_ofW (cc := cX5_spoil) (maxL := 3) (ret := (some .int)) (by decide) rfl (Nat.le_of_ble_eq_true rfl) ?_
  intro p e s m below meth c A ls args Q hQ S0 hr hlocks hnm hK hst hA hW hl
  have hx := S0.1; have hb := S0.2.1; have hml := S0.2.2.1; have hown := S0.2.2.2.1; have hts := S0.2.2.2.2
  have hl : lv_has ls 3 [(0, .ref z0), (1, .int (nI (i))), (2, .int (nI (k)))] := hl
  refine lv_iload_n hx hb dX5_spoil_0 rfl (lv_at hl 1 rfl) ?_
  refine zLt (a := i) (tgt := 23) hx hb dX5_spoil_1 (by decide) (by omega) ?_
  refine lv_iload_n hx hb dX5_spoil_4 rfl (lv_at hl 1 rfl) ?_
  refine lv_aload_n hx hb dX5_spoil_5 rfl (lv_at hl 0 rfl) ?_
  refine va_get (D := D) (ci := 5) (v := .int (nI (ml))) (C := RX5) (T := TX5) (N := 28) hx hb hts i_X5_spoil_X5 hown hK hW.1 0 rfl rfl 9 (by decide) (hts (.fieldLink RX5 178 "TreeHashesModel" "length" "I") f_X5_spoil_0) (fun _ h9 => h9) rfl dX5_spoil_6 ?_
  refine iGe (a := i) (b := ml) (tgt := 23) hx hb dX5_spoil_9 (by decide) (by omega) (by omega) (fun h9 => ?_) (fun h9 => ?_)
  · skip
    exfalso; omega
  · skip
    refine lv_iload_n hx hb dX5_spoil_12 rfl (lv_at hl 2 rfl) ?_
    refine zLt (a := k) (tgt := 23) hx hb dX5_spoil_13 (by decide) (by omega) ?_
    refine lv_iload_n hx hb dX5_spoil_16 rfl (lv_at hl 2 rfl) ?_
    refine lv_sipush (v := nI (255)) hx hb dX5_spoil_17 (by decide) ?_
    refine iLe (a := k) (b := 255) (tgt := 26) hx hb dX5_spoil_20 (by decide) (by omega) (by omega) (fun h20 => ?_) (fun h20 => ?_)
    · skip
      refine lv_aload_n hx hb dX5_spoil_26 rfl (lv_at hl 0 rfl) ?_
      refine va_get (D := D) (ci := 5) (v := .ref zf) (C := RX5) (T := TX5) (N := 28) hx hb hts i_X5_spoil_X5 hown hK hW.1 0 rfl rfl 8 (by decide) (hts (.fieldLink RX5 35 "TreeHashesModel" "file" "[I") f_X5_spoil_2) (fun _ h9 => h9) rfl dX5_spoil_27 ?_
      refine lv_iload_n hx hb dX5_spoil_30 rfl (lv_at hl 1 rfl) ?_
      refine lv_dup2_11 hx hb dX5_spoil_31 rfl rfl ?_
      refine rI hx hb hK hW 1 rfl (k := i) (by omega) (by omega) dX5_spoil_32 ?_
      refine lv_iload_n hx hb dX5_spoil_33 rfl (lv_at hl 2 rfl) ?_
      refine lv_ixor hx hb dX5_spoil_34 ?_
      refine wI hx hb hK hW 1 rfl (k := i) (by omega) (by omega) dX5_spoil_35 (fun H locs hW => ?_)
      have hW : Wd D A s [(z0, .inr (5, [.ref zr, .ref zs, .ref zt, .ref zc, .ref zm, .ref zk, .ref zh, .ref zd, .ref zf, .int (nI (ml)), .ref zp, .int (nI (mps)), .ref za, .ref ze, .int (be), .ref zn, .ref zb, .ref zv, .ref zw, .ref zo, .ref zq, .long (nu), .int (bq), .int (fg), .ref zl, .int (nI (hg)), .int (nI (cz)), .ref zi])), (zf, .inl (cy 0, 20000, .inl (upd mf i ((mf i) ^^^ (nI (k))))))] H locs := hW
      refine lv_aload_n hx hb dX5_spoil_36 rfl (lv_at hl 0 rfl) ?_
      refine va_get (D := D) (ci := 5) (v := .ref zf) (C := RX5) (T := TX5) (N := 28) hx hb hts i_X5_spoil_X5 hown hK hW.1 0 rfl rfl 8 (by decide) (hts (.fieldLink RX5 35 "TreeHashesModel" "file" "[I") f_X5_spoil_2) (fun _ h9 => h9) rfl dX5_spoil_37 ?_
      refine lv_iload_n hx hb dX5_spoil_40 rfl (lv_at hl 1 rfl) ?_
      refine rI hx hb hK hW 1 rfl (k := i) (by omega) (by omega) dX5_spoil_41 ?_
      refine tI (x' := (mf i) ^^^ (nI k)) (pk_us) ?_
      exact eI hQ hx hb hr hlocks hK hW () (rfl) (rfl) dX5_spoil_42
    · skip
      exfalso; omega

theorem f_X5_spoil_b_0 : Cond.fieldLink RX5 178 "TreeHashesModel" "length" "I" ∈ wsX5_spoil := by decide +kernel
theorem i_X5_spoil_b_X5 : ∀ w ∈ wsX50, w ∈ wsX5_spoil := by decide +kernel
set_option maxHeartbeats 4000000 in
set_option maxRecDepth 100000 in
theorem c_X5_spoil_b (l : Launch) (D : va_G) (cy : Nat → ClassId) (t : Nat × Nat) (z0 : Nat) (zr : Nat) (zs : Nat) (zt : Nat) (zc : Nat) (zm : Nat) (zk : Nat) (zh : Nat) (zd : Nat) (zf : Nat) (ml : Nat) (zp : Nat) (mps : Nat) (za : Nat) (ze : Nat) (be : Int32) (zn : Nat) (zb : Nat) (zv : Nat) (zw : Nat) (zo : Nat) (zq : Nat) (nu : Int64) (bq : Int32) (fg : Int32) (zl : Nat) (hg : Nat) (cz : Nat) (zi : Nat) (mf : Nat → Int32) (x : Int32) (y : Int32) (hml : ml ≤ 20000) (hbd : x < 0 ∨ nI ml ≤ x ∨ y < 0 ∨ nI 255 < y) (sz : Nat) : Met l yX5_spoil wsX5_spoil ({ frames := 0, cells := 0, slots := 0, locals := 0 }) (PcW D cy t [(z0, .inr (5, [.ref zr, .ref zs, .ref zt, .ref zc, .ref zm, .ref zk, .ref zh, .ref zd, .ref zf, .int (nI (ml)), .ref zp, .int (nI (mps)), .ref za, .ref ze, .int (be), .ref zn, .ref zb, .ref zv, .ref zw, .ref zo, .ref zq, .long (nu), .int (bq), .int (fg), .ref zl, .int (nI (hg)), .int (nI (cz)), .ref zi])), (zf, .inl (cy 0, 20000, .inl (mf)))] [.ref z0, .int (x), .int (y)] sz) (QiA D cy (fun (r : Int32) (u : Unit) => (r = (-2 : Int32))) (fun u : Unit => [(z0, .inr (5, [.ref zr, .ref zs, .ref zt, .ref zc, .ref zm, .ref zk, .ref zh, .ref zd, .ref zf, .int (nI (ml)), .ref zp, .int (nI (mps)), .ref za, .ref ze, .int (be), .ref zn, .ref zb, .ref zv, .ref zw, .ref zo, .ref zq, .long (nu), .int (bq), .int (fg), .ref zl, .int (nI (hg)), .int (nI (cz)), .ref zi])), (zf, .inl (cy 0, 20000, .inl (mf)))]) (va_A [(z0, .inr (5, [.ref zr, .ref zs, .ref zt, .ref zc, .ref zm, .ref zk, .ref zh, .ref zd, .ref zf, .int (nI (ml)), .ref zp, .int (nI (mps)), .ref za, .ref ze, .int (be), .ref zn, .ref zb, .ref zv, .ref zw, .ref zo, .ref zq, .long (nu), .int (bq), .int (fg), .ref zl, .int (nI (hg)), .int (nI (cz)), .ref zi])), (zf, .inl (cy 0, 20000, .inl (mf)))] sz)) 0 0 (va_A [(z0, .inr (5, [.ref zr, .ref zs, .ref zt, .ref zc, .ref zm, .ref zk, .ref zh, .ref zd, .ref zf, .int (nI (ml)), .ref zp, .int (nI (mps)), .ref za, .ref ze, .int (be), .ref zn, .ref zb, .ref zv, .ref zw, .ref zo, .ref zq, .long (nu), .int (bq), .int (fg), .ref zl, .int (nI (hg)), .int (nI (cz)), .ref zi])), (zf, .inl (cy 0, 20000, .inl (mf)))] sz) := by
  refine M_ofW (cc := cX5_spoil) (maxL := 3) (ret := (some .int)) (by decide) rfl (Nat.le_of_ble_eq_true rfl) ?_
  intro p e s m below meth c A ls args Q hQ S0 hr hlocks hnm hK hst hA hW hl
  have hx := S0.1; have hb := S0.2.1; have hml := S0.2.2.1; have hown := S0.2.2.2.1; have hts := S0.2.2.2.2
  have hl : lv_has ls 3 [(0, .ref z0), (1, .int (x)), (2, .int (y))] := hl
  refine lv_iload_n hx hb dX5_spoil_0 rfl (lv_at hl 1 rfl) ?_
  refine lv_if_lt (tgt := 23) hx hb dX5_spoil_1 (by decide) (fun h1 => ?_) (fun h1 => ?_)
  · skip
    refine lv_bipush (v := (-2 : Int32)) hx hb dX5_spoil_23 (by decide) ?_
    exact eI hQ hx hb hr hlocks hK hW () (rfl) (rfl) dX5_spoil_25
  · skip
    refine lv_iload_n hx hb dX5_spoil_4 rfl (lv_at hl 1 rfl) ?_
    refine lv_aload_n hx hb dX5_spoil_5 rfl (lv_at hl 0 rfl) ?_
    refine va_get (D := D) (ci := 5) (v := .int (nI (ml))) (C := RX5) (T := TX5) (N := 28) hx hb hts i_X5_spoil_b_X5 hown hK hW.1 0 rfl rfl 9 (by decide) (hts (.fieldLink RX5 178 "TreeHashesModel" "length" "I") f_X5_spoil_b_0) (fun _ h9 => h9) rfl dX5_spoil_6 ?_
    refine lv_icmp_ge (tgt := 23) hx hb dX5_spoil_9 (by decide) (fun h9 => ?_) (fun h9 => ?_)
    · skip
      refine lv_bipush (v := (-2 : Int32)) hx hb dX5_spoil_23 (by decide) ?_
      exact eI hQ hx hb hr hlocks hK hW () (rfl) (rfl) dX5_spoil_25
    · skip
      refine lv_iload_n hx hb dX5_spoil_12 rfl (lv_at hl 2 rfl) ?_
      refine lv_if_lt (tgt := 23) hx hb dX5_spoil_13 (by decide) (fun h13 => ?_) (fun h13 => ?_)
      · skip
        refine lv_bipush (v := (-2 : Int32)) hx hb dX5_spoil_23 (by decide) ?_
        exact eI hQ hx hb hr hlocks hK hW () (rfl) (rfl) dX5_spoil_25
      · skip
        refine lv_iload_n hx hb dX5_spoil_16 rfl (lv_at hl 2 rfl) ?_
        refine lv_sipush (v := nI (255)) hx hb dX5_spoil_17 (by decide) ?_
        refine lv_icmp_le (tgt := 26) hx hb dX5_spoil_20 (by decide) (fun h20 => ?_) (fun h20 => ?_)
        · skip
          exact hbd.elim (fun q => absurd q h1) (fun q => q.elim (fun q => absurd q h9) (fun q => q.elim (fun q => absurd q h13) (fun q => absurd h20 (Int32.not_le.mpr q))))
        · skip
          refine lv_bipush (v := (-2 : Int32)) hx hb dX5_spoil_23 (by decide) ?_
          exact eI hQ hx hb hr hlocks hK hW () (rfl) (rfl) dX5_spoil_25

theorem f_X5_shorten_0 : Cond.fieldLink RX5 178 "TreeHashesModel" "length" "I" ∈ wsX5_shorten := by decide +kernel
theorem i_X5_shorten_X5 : ∀ w ∈ wsX50, w ∈ wsX5_shorten := by decide +kernel
set_option maxHeartbeats 4000000 in
set_option maxRecDepth 100000 in
theorem c_X5_shorten (l : Launch) (D : va_G) (cy : Nat → ClassId) (t : Nat × Nat) (z0 : Nat) (zr : Nat) (zs : Nat) (zt : Nat) (zc : Nat) (zm : Nat) (zk : Nat) (zh : Nat) (zd : Nat) (zf : Nat) (ml : Nat) (zp : Nat) (mps : Nat) (za : Nat) (ze : Nat) (be : Int32) (zn : Nat) (zb : Nat) (zv : Nat) (zw : Nat) (zo : Nat) (zq : Nat) (nu : Int64) (bq : Int32) (fg : Int32) (zl : Nat) (hg : Nat) (cz : Nat) (zi : Nat) (n : Nat) (hml : ml ≤ 20000) (hn1 : n ≤ ml) (sz : Nat) : Met l yX5_shorten wsX5_shorten ({ frames := 0, cells := 0, slots := 0, locals := 0 }) (PcW D cy t [(z0, .inr (5, [.ref zr, .ref zs, .ref zt, .ref zc, .ref zm, .ref zk, .ref zh, .ref zd, .ref zf, .int (nI (ml)), .ref zp, .int (nI (mps)), .ref za, .ref ze, .int (be), .ref zn, .ref zb, .ref zv, .ref zw, .ref zo, .ref zq, .long (nu), .int (bq), .int (fg), .ref zl, .int (nI (hg)), .int (nI (cz)), .ref zi]))] [.ref z0, .int (nI (n))] sz) (QiA D cy (fun (r : Int32) (u : Unit) => (r = nI (ml - n))) (fun u : Unit => [(z0, .inr (5, [.ref zr, .ref zs, .ref zt, .ref zc, .ref zm, .ref zk, .ref zh, .ref zd, .ref zf, .int (nI (n)), .ref zp, .int (nI (mps)), .ref za, .ref ze, .int (be), .ref zn, .ref zb, .ref zv, .ref zw, .ref zo, .ref zq, .long (nu), .int (bq), .int (fg), .ref zl, .int (nI (hg)), .int (nI (cz)), .ref zi]))]) (va_A [(z0, .inr (5, [.ref zr, .ref zs, .ref zt, .ref zc, .ref zm, .ref zk, .ref zh, .ref zd, .ref zf, .int (nI (ml)), .ref zp, .int (nI (mps)), .ref za, .ref ze, .int (be), .ref zn, .ref zb, .ref zv, .ref zw, .ref zo, .ref zq, .long (nu), .int (bq), .int (fg), .ref zl, .int (nI (hg)), .int (nI (cz)), .ref zi]))] sz)) 0 0 (va_A [(z0, .inr (5, [.ref zr, .ref zs, .ref zt, .ref zc, .ref zm, .ref zk, .ref zh, .ref zd, .ref zf, .int (nI (ml)), .ref zp, .int (nI (mps)), .ref za, .ref ze, .int (be), .ref zn, .ref zb, .ref zv, .ref zw, .ref zo, .ref zq, .long (nu), .int (bq), .int (fg), .ref zl, .int (nI (hg)), .int (nI (cz)), .ref zi]))] sz) := by
  refine M_ofW (cc := cX5_shorten) (maxL := 3) (ret := (some .int)) (by decide) rfl (Nat.le_of_ble_eq_true rfl) ?_
  intro p e s m below meth c A ls args Q hQ S0 hr hlocks hnm hK hst hA hW hl
  have hx := S0.1; have hb := S0.2.1; have hml := S0.2.2.1; have hown := S0.2.2.2.1; have hts := S0.2.2.2.2
  have hl : lv_has ls 3 [(0, .ref z0), (1, .int (nI (n)))] := hl
  refine lv_iload_n hx hb dX5_shorten_0 rfl (lv_at hl 1 rfl) ?_
  refine zLt (a := n) (tgt := 12) hx hb dX5_shorten_1 (by decide) (by omega) ?_
  refine lv_iload_n hx hb dX5_shorten_4 rfl (lv_at hl 1 rfl) ?_
  refine lv_aload_n hx hb dX5_shorten_5 rfl (lv_at hl 0 rfl) ?_
  refine va_get (D := D) (ci := 5) (v := .int (nI (ml))) (C := RX5) (T := TX5) (N := 28) hx hb hts i_X5_shorten_X5 hown hK hW.1 0 rfl rfl 9 (by decide) (hts (.fieldLink RX5 178 "TreeHashesModel" "length" "I") f_X5_shorten_0) (fun _ h9 => h9) rfl dX5_shorten_6 ?_
  refine iLe (a := n) (b := ml) (tgt := 15) hx hb dX5_shorten_9 (by decide) (by omega) (by omega) (fun h9 => ?_) (fun h9 => ?_)
  · skip
    refine lv_aload_n hx hb dX5_shorten_15 rfl (lv_at hl 0 rfl) ?_
    refine va_get (D := D) (ci := 5) (v := .int (nI (ml))) (C := RX5) (T := TX5) (N := 28) hx hb hts i_X5_shorten_X5 hown hK hW.1 0 rfl rfl 9 (by decide) (hts (.fieldLink RX5 178 "TreeHashesModel" "length" "I") f_X5_shorten_0) (fun _ h9 => h9) rfl dX5_shorten_16 ?_
    refine lv_iload_n hx hb dX5_shorten_19 rfl (lv_at hl 1 rfl) ?_
    refine lv_isub hx hb dX5_shorten_20 ?_
    refine tI (pk_sub (by omega)) ?_
    refine lv_istore_n (lv' := [(2, .int (nI (ml - n))), (0, .ref z0), (1, .int (nI (n)))]) hx hb dX5_shorten_21 rfl hl (by decide) rfl (fun ls hl => ?_)
    refine lv_aload_n hx hb dX5_shorten_22 rfl (lv_at hl 1 rfl) ?_
    refine lv_iload_n hx hb dX5_shorten_23 rfl (lv_at hl 2 rfl) ?_
    refine va_put (D := D) (ci := 5) (v := .int (nI (n))) (ty := .int) (C := RX5) (T := TX5) (N := 28) hx hb hts i_X5_shorten_X5 tyX5 tyX5_ok nmX5 hown hK hW.1 hW.2.1 hW.2.2 0 rfl rfl 9 (by decide) (hts (.fieldLink RX5 178 "TreeHashesModel" "length" "I") f_X5_shorten_0) (fun _ h9 => h9) rfl (by decide +kernel) rfl rfl (Nat.le_of_ble_eq_true rfl) dX5_shorten_24 (fun H locs hP hD hS => ?_)
    have hW : Wd D A s [(z0, .inr (5, [.ref zr, .ref zs, .ref zt, .ref zc, .ref zm, .ref zk, .ref zh, .ref zd, .ref zf, .int (nI (n)), .ref zp, .int (nI (mps)), .ref za, .ref ze, .int (be), .ref zn, .ref zb, .ref zv, .ref zw, .ref zo, .ref zq, .long (nu), .int (bq), .int (fg), .ref zl, .int (nI (hg)), .int (nI (cz)), .ref zi]))] H locs := ⟨hP, hD, hS⟩
    refine lv_iload_n hx hb dX5_shorten_27 rfl (lv_at hl 0 rfl) ?_
    exact eI hQ hx hb hr hlocks hK hW () (rfl) (rfl) dX5_shorten_28
  · skip
    exfalso; omega

theorem f_X5_shorten_b_0 : Cond.fieldLink RX5 178 "TreeHashesModel" "length" "I" ∈ wsX5_shorten := by decide +kernel
theorem i_X5_shorten_b_X5 : ∀ w ∈ wsX50, w ∈ wsX5_shorten := by decide +kernel
set_option maxHeartbeats 4000000 in
set_option maxRecDepth 100000 in
theorem c_X5_shorten_b (l : Launch) (D : va_G) (cy : Nat → ClassId) (t : Nat × Nat) (z0 : Nat) (zr : Nat) (zs : Nat) (zt : Nat) (zc : Nat) (zm : Nat) (zk : Nat) (zh : Nat) (zd : Nat) (zf : Nat) (ml : Nat) (zp : Nat) (mps : Nat) (za : Nat) (ze : Nat) (be : Int32) (zn : Nat) (zb : Nat) (zv : Nat) (zw : Nat) (zo : Nat) (zq : Nat) (nu : Int64) (bq : Int32) (fg : Int32) (zl : Nat) (hg : Nat) (cz : Nat) (zi : Nat) (x : Int32) (hml : ml ≤ 20000) (hbd : x < 0 ∨ nI ml < x) (sz : Nat) : Met l yX5_shorten wsX5_shorten ({ frames := 0, cells := 0, slots := 0, locals := 0 }) (PcW D cy t [(z0, .inr (5, [.ref zr, .ref zs, .ref zt, .ref zc, .ref zm, .ref zk, .ref zh, .ref zd, .ref zf, .int (nI (ml)), .ref zp, .int (nI (mps)), .ref za, .ref ze, .int (be), .ref zn, .ref zb, .ref zv, .ref zw, .ref zo, .ref zq, .long (nu), .int (bq), .int (fg), .ref zl, .int (nI (hg)), .int (nI (cz)), .ref zi]))] [.ref z0, .int (x)] sz) (QiA D cy (fun (r : Int32) (u : Unit) => (r = (-2 : Int32))) (fun u : Unit => [(z0, .inr (5, [.ref zr, .ref zs, .ref zt, .ref zc, .ref zm, .ref zk, .ref zh, .ref zd, .ref zf, .int (nI (ml)), .ref zp, .int (nI (mps)), .ref za, .ref ze, .int (be), .ref zn, .ref zb, .ref zv, .ref zw, .ref zo, .ref zq, .long (nu), .int (bq), .int (fg), .ref zl, .int (nI (hg)), .int (nI (cz)), .ref zi]))]) (va_A [(z0, .inr (5, [.ref zr, .ref zs, .ref zt, .ref zc, .ref zm, .ref zk, .ref zh, .ref zd, .ref zf, .int (nI (ml)), .ref zp, .int (nI (mps)), .ref za, .ref ze, .int (be), .ref zn, .ref zb, .ref zv, .ref zw, .ref zo, .ref zq, .long (nu), .int (bq), .int (fg), .ref zl, .int (nI (hg)), .int (nI (cz)), .ref zi]))] sz)) 0 0 (va_A [(z0, .inr (5, [.ref zr, .ref zs, .ref zt, .ref zc, .ref zm, .ref zk, .ref zh, .ref zd, .ref zf, .int (nI (ml)), .ref zp, .int (nI (mps)), .ref za, .ref ze, .int (be), .ref zn, .ref zb, .ref zv, .ref zw, .ref zo, .ref zq, .long (nu), .int (bq), .int (fg), .ref zl, .int (nI (hg)), .int (nI (cz)), .ref zi]))] sz) := by
  refine M_ofW (cc := cX5_shorten) (maxL := 3) (ret := (some .int)) (by decide) rfl (Nat.le_of_ble_eq_true rfl) ?_
  intro p e s m below meth c A ls args Q hQ S0 hr hlocks hnm hK hst hA hW hl
  have hx := S0.1; have hb := S0.2.1; have hml := S0.2.2.1; have hown := S0.2.2.2.1; have hts := S0.2.2.2.2
  have hl : lv_has ls 3 [(0, .ref z0), (1, .int (x))] := hl
  refine lv_iload_n hx hb dX5_shorten_0 rfl (lv_at hl 1 rfl) ?_
  refine lv_if_lt (tgt := 12) hx hb dX5_shorten_1 (by decide) (fun h1 => ?_) (fun h1 => ?_)
  · skip
    refine lv_bipush (v := (-2 : Int32)) hx hb dX5_shorten_12 (by decide) ?_
    exact eI hQ hx hb hr hlocks hK hW () (rfl) (rfl) dX5_shorten_14
  · skip
    refine lv_iload_n hx hb dX5_shorten_4 rfl (lv_at hl 1 rfl) ?_
    refine lv_aload_n hx hb dX5_shorten_5 rfl (lv_at hl 0 rfl) ?_
    refine va_get (D := D) (ci := 5) (v := .int (nI (ml))) (C := RX5) (T := TX5) (N := 28) hx hb hts i_X5_shorten_b_X5 hown hK hW.1 0 rfl rfl 9 (by decide) (hts (.fieldLink RX5 178 "TreeHashesModel" "length" "I") f_X5_shorten_b_0) (fun _ h9 => h9) rfl dX5_shorten_6 ?_
    refine lv_icmp_le (tgt := 15) hx hb dX5_shorten_9 (by decide) (fun h9 => ?_) (fun h9 => ?_)
    · skip
      exact hbd.elim (fun q => absurd q h1) (fun q => absurd h9 (Int32.not_le.mpr q))
    · skip
      refine lv_bipush (v := (-2 : Int32)) hx hb dX5_shorten_12 (by decide) ?_
      exact eI hQ hx hb hr hlocks hK hW () (rfl) (rfl) dX5_shorten_14

theorem f_X5_forge_0 : Cond.fieldLink RX5 188 "TreeHashesModel" "proofSize" "I" ∈ wsX5_forge := by decide +kernel
theorem i_X5_forge_X5 : ∀ w ∈ wsX50, w ∈ wsX5_forge := by decide +kernel
theorem f_X5_forge_2 : Cond.fieldLink RX5 38 "TreeHashesModel" "proof" "[I" ∈ wsX5_forge := by decide +kernel
set_option maxHeartbeats 4000000 in
set_option maxRecDepth 100000 in
theorem c_X5_forge (l : Launch) (D : va_G) (cy : Nat → ClassId) (t : Nat × Nat) (z0 : Nat) (zr : Nat) (zs : Nat) (zt : Nat) (zc : Nat) (zm : Nat) (zk : Nat) (zh : Nat) (zd : Nat) (zf : Nat) (ml : Nat) (zp : Nat) (mps : Nat) (za : Nat) (ze : Nat) (be : Int32) (zn : Nat) (zb : Nat) (zv : Nat) (zw : Nat) (zo : Nat) (zq : Nat) (nu : Int64) (bq : Int32) (fg : Int32) (zl : Nat) (hg : Nat) (cz : Nat) (zi : Nat) (mp : Nat → Int32) (i : Nat) (k : Nat) (hml : mps ≤ 2000) (hi : i < mps) (hk : k ≤ 255) (sz : Nat) : Met l yX5_forge wsX5_forge ({ frames := 0, cells := 0, slots := 0, locals := 0 }) (PcW D cy t [(z0, .inr (5, [.ref zr, .ref zs, .ref zt, .ref zc, .ref zm, .ref zk, .ref zh, .ref zd, .ref zf, .int (nI (ml)), .ref zp, .int (nI (mps)), .ref za, .ref ze, .int (be), .ref zn, .ref zb, .ref zv, .ref zw, .ref zo, .ref zq, .long (nu), .int (bq), .int (fg), .ref zl, .int (nI (hg)), .int (nI (cz)), .ref zi])), (zp, .inl (cy 0, 2000, .inl (mp)))] [.ref z0, .int (nI (i)), .int (nI (k))] sz) (QiA D cy (fun (r : Int32) (u : Unit) => (r = (mp i) ^^^ (nI k))) (fun u : Unit => [(z0, .inr (5, [.ref zr, .ref zs, .ref zt, .ref zc, .ref zm, .ref zk, .ref zh, .ref zd, .ref zf, .int (nI (ml)), .ref zp, .int (nI (mps)), .ref za, .ref ze, .int (be), .ref zn, .ref zb, .ref zv, .ref zw, .ref zo, .ref zq, .long (nu), .int (bq), .int (fg), .ref zl, .int (nI (hg)), .int (nI (cz)), .ref zi])), (zp, .inl (cy 0, 2000, .inl (upd mp i ((mp i) ^^^ (nI k)))))]) (va_A [(z0, .inr (5, [.ref zr, .ref zs, .ref zt, .ref zc, .ref zm, .ref zk, .ref zh, .ref zd, .ref zf, .int (nI (ml)), .ref zp, .int (nI (mps)), .ref za, .ref ze, .int (be), .ref zn, .ref zb, .ref zv, .ref zw, .ref zo, .ref zq, .long (nu), .int (bq), .int (fg), .ref zl, .int (nI (hg)), .int (nI (cz)), .ref zi])), (zp, .inl (cy 0, 2000, .inl (mp)))] sz)) 0 0 (va_A [(z0, .inr (5, [.ref zr, .ref zs, .ref zt, .ref zc, .ref zm, .ref zk, .ref zh, .ref zd, .ref zf, .int (nI (ml)), .ref zp, .int (nI (mps)), .ref za, .ref ze, .int (be), .ref zn, .ref zb, .ref zv, .ref zw, .ref zo, .ref zq, .long (nu), .int (bq), .int (fg), .ref zl, .int (nI (hg)), .int (nI (cz)), .ref zi])), (zp, .inl (cy 0, 2000, .inl (mp)))] sz) := by
  refine M_ofW (cc := cX5_forge) (maxL := 3) (ret := (some .int)) (by decide) rfl (Nat.le_of_ble_eq_true rfl) ?_
  intro p e s m below meth c A ls args Q hQ S0 hr hlocks hnm hK hst hA hW hl
  have hx := S0.1; have hb := S0.2.1; have hml := S0.2.2.1; have hown := S0.2.2.2.1; have hts := S0.2.2.2.2
  have hl : lv_has ls 3 [(0, .ref z0), (1, .int (nI (i))), (2, .int (nI (k)))] := hl
  refine lv_iload_n hx hb dX5_forge_0 rfl (lv_at hl 1 rfl) ?_
  refine zLt (a := i) (tgt := 23) hx hb dX5_forge_1 (by decide) (by omega) ?_
  refine lv_iload_n hx hb dX5_forge_4 rfl (lv_at hl 1 rfl) ?_
  refine lv_aload_n hx hb dX5_forge_5 rfl (lv_at hl 0 rfl) ?_
  refine va_get (D := D) (ci := 5) (v := .int (nI (mps))) (C := RX5) (T := TX5) (N := 28) hx hb hts i_X5_forge_X5 hown hK hW.1 0 rfl rfl 11 (by decide) (hts (.fieldLink RX5 188 "TreeHashesModel" "proofSize" "I") f_X5_forge_0) (fun _ h9 => h9) rfl dX5_forge_6 ?_
  refine iGe (a := i) (b := mps) (tgt := 23) hx hb dX5_forge_9 (by decide) (by omega) (by omega) (fun h9 => ?_) (fun h9 => ?_)
  · skip
    exfalso; omega
  · skip
    refine lv_iload_n hx hb dX5_forge_12 rfl (lv_at hl 2 rfl) ?_
    refine zLt (a := k) (tgt := 23) hx hb dX5_forge_13 (by decide) (by omega) ?_
    refine lv_iload_n hx hb dX5_forge_16 rfl (lv_at hl 2 rfl) ?_
    refine lv_sipush (v := nI (255)) hx hb dX5_forge_17 (by decide) ?_
    refine iLe (a := k) (b := 255) (tgt := 26) hx hb dX5_forge_20 (by decide) (by omega) (by omega) (fun h20 => ?_) (fun h20 => ?_)
    · skip
      refine lv_aload_n hx hb dX5_forge_26 rfl (lv_at hl 0 rfl) ?_
      refine va_get (D := D) (ci := 5) (v := .ref zp) (C := RX5) (T := TX5) (N := 28) hx hb hts i_X5_forge_X5 hown hK hW.1 0 rfl rfl 10 (by decide) (hts (.fieldLink RX5 38 "TreeHashesModel" "proof" "[I") f_X5_forge_2) (fun _ h9 => h9) rfl dX5_forge_27 ?_
      refine lv_iload_n hx hb dX5_forge_30 rfl (lv_at hl 1 rfl) ?_
      refine lv_dup2_11 hx hb dX5_forge_31 rfl rfl ?_
      refine rI hx hb hK hW 1 rfl (k := i) (by omega) (by omega) dX5_forge_32 ?_
      refine lv_iload_n hx hb dX5_forge_33 rfl (lv_at hl 2 rfl) ?_
      refine lv_ixor hx hb dX5_forge_34 ?_
      refine wI hx hb hK hW 1 rfl (k := i) (by omega) (by omega) dX5_forge_35 (fun H locs hW => ?_)
      have hW : Wd D A s [(z0, .inr (5, [.ref zr, .ref zs, .ref zt, .ref zc, .ref zm, .ref zk, .ref zh, .ref zd, .ref zf, .int (nI (ml)), .ref zp, .int (nI (mps)), .ref za, .ref ze, .int (be), .ref zn, .ref zb, .ref zv, .ref zw, .ref zo, .ref zq, .long (nu), .int (bq), .int (fg), .ref zl, .int (nI (hg)), .int (nI (cz)), .ref zi])), (zp, .inl (cy 0, 2000, .inl (upd mp i ((mp i) ^^^ (nI (k))))))] H locs := hW
      refine lv_aload_n hx hb dX5_forge_36 rfl (lv_at hl 0 rfl) ?_
      refine va_get (D := D) (ci := 5) (v := .ref zp) (C := RX5) (T := TX5) (N := 28) hx hb hts i_X5_forge_X5 hown hK hW.1 0 rfl rfl 10 (by decide) (hts (.fieldLink RX5 38 "TreeHashesModel" "proof" "[I") f_X5_forge_2) (fun _ h9 => h9) rfl dX5_forge_37 ?_
      refine lv_iload_n hx hb dX5_forge_40 rfl (lv_at hl 1 rfl) ?_
      refine rI hx hb hK hW 1 rfl (k := i) (by omega) (by omega) dX5_forge_41 ?_
      refine tI (x' := (mp i) ^^^ (nI k)) (pk_us) ?_
      exact eI hQ hx hb hr hlocks hK hW () (rfl) (rfl) dX5_forge_42
    · skip
      exfalso; omega

theorem f_X5_forge_b_0 : Cond.fieldLink RX5 188 "TreeHashesModel" "proofSize" "I" ∈ wsX5_forge := by decide +kernel
theorem i_X5_forge_b_X5 : ∀ w ∈ wsX50, w ∈ wsX5_forge := by decide +kernel
set_option maxHeartbeats 4000000 in
set_option maxRecDepth 100000 in
theorem c_X5_forge_b (l : Launch) (D : va_G) (cy : Nat → ClassId) (t : Nat × Nat) (z0 : Nat) (zr : Nat) (zs : Nat) (zt : Nat) (zc : Nat) (zm : Nat) (zk : Nat) (zh : Nat) (zd : Nat) (zf : Nat) (ml : Nat) (zp : Nat) (mps : Nat) (za : Nat) (ze : Nat) (be : Int32) (zn : Nat) (zb : Nat) (zv : Nat) (zw : Nat) (zo : Nat) (zq : Nat) (nu : Int64) (bq : Int32) (fg : Int32) (zl : Nat) (hg : Nat) (cz : Nat) (zi : Nat) (mp : Nat → Int32) (x : Int32) (y : Int32) (hml : mps ≤ 2000) (hbd : x < 0 ∨ nI mps ≤ x ∨ y < 0 ∨ nI 255 < y) (sz : Nat) : Met l yX5_forge wsX5_forge ({ frames := 0, cells := 0, slots := 0, locals := 0 }) (PcW D cy t [(z0, .inr (5, [.ref zr, .ref zs, .ref zt, .ref zc, .ref zm, .ref zk, .ref zh, .ref zd, .ref zf, .int (nI (ml)), .ref zp, .int (nI (mps)), .ref za, .ref ze, .int (be), .ref zn, .ref zb, .ref zv, .ref zw, .ref zo, .ref zq, .long (nu), .int (bq), .int (fg), .ref zl, .int (nI (hg)), .int (nI (cz)), .ref zi])), (zp, .inl (cy 0, 2000, .inl (mp)))] [.ref z0, .int (x), .int (y)] sz) (QiA D cy (fun (r : Int32) (u : Unit) => (r = (-2 : Int32))) (fun u : Unit => [(z0, .inr (5, [.ref zr, .ref zs, .ref zt, .ref zc, .ref zm, .ref zk, .ref zh, .ref zd, .ref zf, .int (nI (ml)), .ref zp, .int (nI (mps)), .ref za, .ref ze, .int (be), .ref zn, .ref zb, .ref zv, .ref zw, .ref zo, .ref zq, .long (nu), .int (bq), .int (fg), .ref zl, .int (nI (hg)), .int (nI (cz)), .ref zi])), (zp, .inl (cy 0, 2000, .inl (mp)))]) (va_A [(z0, .inr (5, [.ref zr, .ref zs, .ref zt, .ref zc, .ref zm, .ref zk, .ref zh, .ref zd, .ref zf, .int (nI (ml)), .ref zp, .int (nI (mps)), .ref za, .ref ze, .int (be), .ref zn, .ref zb, .ref zv, .ref zw, .ref zo, .ref zq, .long (nu), .int (bq), .int (fg), .ref zl, .int (nI (hg)), .int (nI (cz)), .ref zi])), (zp, .inl (cy 0, 2000, .inl (mp)))] sz)) 0 0 (va_A [(z0, .inr (5, [.ref zr, .ref zs, .ref zt, .ref zc, .ref zm, .ref zk, .ref zh, .ref zd, .ref zf, .int (nI (ml)), .ref zp, .int (nI (mps)), .ref za, .ref ze, .int (be), .ref zn, .ref zb, .ref zv, .ref zw, .ref zo, .ref zq, .long (nu), .int (bq), .int (fg), .ref zl, .int (nI (hg)), .int (nI (cz)), .ref zi])), (zp, .inl (cy 0, 2000, .inl (mp)))] sz) := by
  refine M_ofW (cc := cX5_forge) (maxL := 3) (ret := (some .int)) (by decide) rfl (Nat.le_of_ble_eq_true rfl) ?_
  intro p e s m below meth c A ls args Q hQ S0 hr hlocks hnm hK hst hA hW hl
  have hx := S0.1; have hb := S0.2.1; have hml := S0.2.2.1; have hown := S0.2.2.2.1; have hts := S0.2.2.2.2
  have hl : lv_has ls 3 [(0, .ref z0), (1, .int (x)), (2, .int (y))] := hl
  refine lv_iload_n hx hb dX5_forge_0 rfl (lv_at hl 1 rfl) ?_
  refine lv_if_lt (tgt := 23) hx hb dX5_forge_1 (by decide) (fun h1 => ?_) (fun h1 => ?_)
  · skip
    refine lv_bipush (v := (-2 : Int32)) hx hb dX5_forge_23 (by decide) ?_
    exact eI hQ hx hb hr hlocks hK hW () (rfl) (rfl) dX5_forge_25
  · skip
    refine lv_iload_n hx hb dX5_forge_4 rfl (lv_at hl 1 rfl) ?_
    refine lv_aload_n hx hb dX5_forge_5 rfl (lv_at hl 0 rfl) ?_
    refine va_get (D := D) (ci := 5) (v := .int (nI (mps))) (C := RX5) (T := TX5) (N := 28) hx hb hts i_X5_forge_b_X5 hown hK hW.1 0 rfl rfl 11 (by decide) (hts (.fieldLink RX5 188 "TreeHashesModel" "proofSize" "I") f_X5_forge_b_0) (fun _ h9 => h9) rfl dX5_forge_6 ?_
    refine lv_icmp_ge (tgt := 23) hx hb dX5_forge_9 (by decide) (fun h9 => ?_) (fun h9 => ?_)
    · skip
      refine lv_bipush (v := (-2 : Int32)) hx hb dX5_forge_23 (by decide) ?_
      exact eI hQ hx hb hr hlocks hK hW () (rfl) (rfl) dX5_forge_25
    · skip
      refine lv_iload_n hx hb dX5_forge_12 rfl (lv_at hl 2 rfl) ?_
      refine lv_if_lt (tgt := 23) hx hb dX5_forge_13 (by decide) (fun h13 => ?_) (fun h13 => ?_)
      · skip
        refine lv_bipush (v := (-2 : Int32)) hx hb dX5_forge_23 (by decide) ?_
        exact eI hQ hx hb hr hlocks hK hW () (rfl) (rfl) dX5_forge_25
      · skip
        refine lv_iload_n hx hb dX5_forge_16 rfl (lv_at hl 2 rfl) ?_
        refine lv_sipush (v := nI (255)) hx hb dX5_forge_17 (by decide) ?_
        refine lv_icmp_le (tgt := 26) hx hb dX5_forge_20 (by decide) (fun h20 => ?_) (fun h20 => ?_)
        · skip
          exact hbd.elim (fun q => absurd q h1) (fun q => q.elim (fun q => absurd q h9) (fun q => q.elim (fun q => absurd q h13) (fun q => absurd h20 (Int32.not_le.mpr q))))
        · skip
          refine lv_bipush (v := (-2 : Int32)) hx hb dX5_forge_23 (by decide) ?_
          exact eI hQ hx hb hr hlocks hK hW () (rfl) (rfl) dX5_forge_25

theorem f_X5_cut_0 : Cond.fieldLink RX5 188 "TreeHashesModel" "proofSize" "I" ∈ wsX5_cut := by decide +kernel
theorem i_X5_cut_X5 : ∀ w ∈ wsX50, w ∈ wsX5_cut := by decide +kernel
set_option maxHeartbeats 4000000 in
set_option maxRecDepth 100000 in
theorem c_X5_cut (l : Launch) (D : va_G) (cy : Nat → ClassId) (t : Nat × Nat) (z0 : Nat) (zr : Nat) (zs : Nat) (zt : Nat) (zc : Nat) (zm : Nat) (zk : Nat) (zh : Nat) (zd : Nat) (zf : Nat) (ml : Nat) (zp : Nat) (mps : Nat) (za : Nat) (ze : Nat) (be : Int32) (zn : Nat) (zb : Nat) (zv : Nat) (zw : Nat) (zo : Nat) (zq : Nat) (nu : Int64) (bq : Int32) (fg : Int32) (zl : Nat) (hg : Nat) (cz : Nat) (zi : Nat) (n : Nat) (hml : mps ≤ 2000) (hn1 : n ≤ mps) (sz : Nat) : Met l yX5_cut wsX5_cut ({ frames := 0, cells := 0, slots := 0, locals := 0 }) (PcW D cy t [(z0, .inr (5, [.ref zr, .ref zs, .ref zt, .ref zc, .ref zm, .ref zk, .ref zh, .ref zd, .ref zf, .int (nI (ml)), .ref zp, .int (nI (mps)), .ref za, .ref ze, .int (be), .ref zn, .ref zb, .ref zv, .ref zw, .ref zo, .ref zq, .long (nu), .int (bq), .int (fg), .ref zl, .int (nI (hg)), .int (nI (cz)), .ref zi]))] [.ref z0, .int (nI (n))] sz) (QiA D cy (fun (r : Int32) (u : Unit) => (r = nI (mps - n))) (fun u : Unit => [(z0, .inr (5, [.ref zr, .ref zs, .ref zt, .ref zc, .ref zm, .ref zk, .ref zh, .ref zd, .ref zf, .int (nI (ml)), .ref zp, .int (nI (n)), .ref za, .ref ze, .int (be), .ref zn, .ref zb, .ref zv, .ref zw, .ref zo, .ref zq, .long (nu), .int (bq), .int (fg), .ref zl, .int (nI (hg)), .int (nI (cz)), .ref zi]))]) (va_A [(z0, .inr (5, [.ref zr, .ref zs, .ref zt, .ref zc, .ref zm, .ref zk, .ref zh, .ref zd, .ref zf, .int (nI (ml)), .ref zp, .int (nI (mps)), .ref za, .ref ze, .int (be), .ref zn, .ref zb, .ref zv, .ref zw, .ref zo, .ref zq, .long (nu), .int (bq), .int (fg), .ref zl, .int (nI (hg)), .int (nI (cz)), .ref zi]))] sz)) 0 0 (va_A [(z0, .inr (5, [.ref zr, .ref zs, .ref zt, .ref zc, .ref zm, .ref zk, .ref zh, .ref zd, .ref zf, .int (nI (ml)), .ref zp, .int (nI (mps)), .ref za, .ref ze, .int (be), .ref zn, .ref zb, .ref zv, .ref zw, .ref zo, .ref zq, .long (nu), .int (bq), .int (fg), .ref zl, .int (nI (hg)), .int (nI (cz)), .ref zi]))] sz) := by
  refine M_ofW (cc := cX5_cut) (maxL := 3) (ret := (some .int)) (by decide) rfl (Nat.le_of_ble_eq_true rfl) ?_
  intro p e s m below meth c A ls args Q hQ S0 hr hlocks hnm hK hst hA hW hl
  have hx := S0.1; have hb := S0.2.1; have hml := S0.2.2.1; have hown := S0.2.2.2.1; have hts := S0.2.2.2.2
  have hl : lv_has ls 3 [(0, .ref z0), (1, .int (nI (n)))] := hl
  refine lv_iload_n hx hb dX5_cut_0 rfl (lv_at hl 1 rfl) ?_
  refine zLt (a := n) (tgt := 12) hx hb dX5_cut_1 (by decide) (by omega) ?_
  refine lv_iload_n hx hb dX5_cut_4 rfl (lv_at hl 1 rfl) ?_
  refine lv_aload_n hx hb dX5_cut_5 rfl (lv_at hl 0 rfl) ?_
  refine va_get (D := D) (ci := 5) (v := .int (nI (mps))) (C := RX5) (T := TX5) (N := 28) hx hb hts i_X5_cut_X5 hown hK hW.1 0 rfl rfl 11 (by decide) (hts (.fieldLink RX5 188 "TreeHashesModel" "proofSize" "I") f_X5_cut_0) (fun _ h9 => h9) rfl dX5_cut_6 ?_
  refine iLe (a := n) (b := mps) (tgt := 15) hx hb dX5_cut_9 (by decide) (by omega) (by omega) (fun h9 => ?_) (fun h9 => ?_)
  · skip
    refine lv_aload_n hx hb dX5_cut_15 rfl (lv_at hl 0 rfl) ?_
    refine va_get (D := D) (ci := 5) (v := .int (nI (mps))) (C := RX5) (T := TX5) (N := 28) hx hb hts i_X5_cut_X5 hown hK hW.1 0 rfl rfl 11 (by decide) (hts (.fieldLink RX5 188 "TreeHashesModel" "proofSize" "I") f_X5_cut_0) (fun _ h9 => h9) rfl dX5_cut_16 ?_
    refine lv_iload_n hx hb dX5_cut_19 rfl (lv_at hl 1 rfl) ?_
    refine lv_isub hx hb dX5_cut_20 ?_
    refine tI (pk_sub (by omega)) ?_
    refine lv_istore_n (lv' := [(2, .int (nI (mps - n))), (0, .ref z0), (1, .int (nI (n)))]) hx hb dX5_cut_21 rfl hl (by decide) rfl (fun ls hl => ?_)
    refine lv_aload_n hx hb dX5_cut_22 rfl (lv_at hl 1 rfl) ?_
    refine lv_iload_n hx hb dX5_cut_23 rfl (lv_at hl 2 rfl) ?_
    refine va_put (D := D) (ci := 5) (v := .int (nI (n))) (ty := .int) (C := RX5) (T := TX5) (N := 28) hx hb hts i_X5_cut_X5 tyX5 tyX5_ok nmX5 hown hK hW.1 hW.2.1 hW.2.2 0 rfl rfl 11 (by decide) (hts (.fieldLink RX5 188 "TreeHashesModel" "proofSize" "I") f_X5_cut_0) (fun _ h9 => h9) rfl (by decide +kernel) rfl rfl (Nat.le_of_ble_eq_true rfl) dX5_cut_24 (fun H locs hP hD hS => ?_)
    have hW : Wd D A s [(z0, .inr (5, [.ref zr, .ref zs, .ref zt, .ref zc, .ref zm, .ref zk, .ref zh, .ref zd, .ref zf, .int (nI (ml)), .ref zp, .int (nI (n)), .ref za, .ref ze, .int (be), .ref zn, .ref zb, .ref zv, .ref zw, .ref zo, .ref zq, .long (nu), .int (bq), .int (fg), .ref zl, .int (nI (hg)), .int (nI (cz)), .ref zi]))] H locs := ⟨hP, hD, hS⟩
    refine lv_iload_n hx hb dX5_cut_27 rfl (lv_at hl 0 rfl) ?_
    exact eI hQ hx hb hr hlocks hK hW () (rfl) (rfl) dX5_cut_28
  · skip
    exfalso; omega

theorem f_X5_cut_b_0 : Cond.fieldLink RX5 188 "TreeHashesModel" "proofSize" "I" ∈ wsX5_cut := by decide +kernel
theorem i_X5_cut_b_X5 : ∀ w ∈ wsX50, w ∈ wsX5_cut := by decide +kernel
set_option maxHeartbeats 4000000 in
set_option maxRecDepth 100000 in
theorem c_X5_cut_b (l : Launch) (D : va_G) (cy : Nat → ClassId) (t : Nat × Nat) (z0 : Nat) (zr : Nat) (zs : Nat) (zt : Nat) (zc : Nat) (zm : Nat) (zk : Nat) (zh : Nat) (zd : Nat) (zf : Nat) (ml : Nat) (zp : Nat) (mps : Nat) (za : Nat) (ze : Nat) (be : Int32) (zn : Nat) (zb : Nat) (zv : Nat) (zw : Nat) (zo : Nat) (zq : Nat) (nu : Int64) (bq : Int32) (fg : Int32) (zl : Nat) (hg : Nat) (cz : Nat) (zi : Nat) (x : Int32) (hml : mps ≤ 2000) (hbd : x < 0 ∨ nI mps < x) (sz : Nat) : Met l yX5_cut wsX5_cut ({ frames := 0, cells := 0, slots := 0, locals := 0 }) (PcW D cy t [(z0, .inr (5, [.ref zr, .ref zs, .ref zt, .ref zc, .ref zm, .ref zk, .ref zh, .ref zd, .ref zf, .int (nI (ml)), .ref zp, .int (nI (mps)), .ref za, .ref ze, .int (be), .ref zn, .ref zb, .ref zv, .ref zw, .ref zo, .ref zq, .long (nu), .int (bq), .int (fg), .ref zl, .int (nI (hg)), .int (nI (cz)), .ref zi]))] [.ref z0, .int (x)] sz) (QiA D cy (fun (r : Int32) (u : Unit) => (r = (-2 : Int32))) (fun u : Unit => [(z0, .inr (5, [.ref zr, .ref zs, .ref zt, .ref zc, .ref zm, .ref zk, .ref zh, .ref zd, .ref zf, .int (nI (ml)), .ref zp, .int (nI (mps)), .ref za, .ref ze, .int (be), .ref zn, .ref zb, .ref zv, .ref zw, .ref zo, .ref zq, .long (nu), .int (bq), .int (fg), .ref zl, .int (nI (hg)), .int (nI (cz)), .ref zi]))]) (va_A [(z0, .inr (5, [.ref zr, .ref zs, .ref zt, .ref zc, .ref zm, .ref zk, .ref zh, .ref zd, .ref zf, .int (nI (ml)), .ref zp, .int (nI (mps)), .ref za, .ref ze, .int (be), .ref zn, .ref zb, .ref zv, .ref zw, .ref zo, .ref zq, .long (nu), .int (bq), .int (fg), .ref zl, .int (nI (hg)), .int (nI (cz)), .ref zi]))] sz)) 0 0 (va_A [(z0, .inr (5, [.ref zr, .ref zs, .ref zt, .ref zc, .ref zm, .ref zk, .ref zh, .ref zd, .ref zf, .int (nI (ml)), .ref zp, .int (nI (mps)), .ref za, .ref ze, .int (be), .ref zn, .ref zb, .ref zv, .ref zw, .ref zo, .ref zq, .long (nu), .int (bq), .int (fg), .ref zl, .int (nI (hg)), .int (nI (cz)), .ref zi]))] sz) := by
  refine M_ofW (cc := cX5_cut) (maxL := 3) (ret := (some .int)) (by decide) rfl (Nat.le_of_ble_eq_true rfl) ?_
  intro p e s m below meth c A ls args Q hQ S0 hr hlocks hnm hK hst hA hW hl
  have hx := S0.1; have hb := S0.2.1; have hml := S0.2.2.1; have hown := S0.2.2.2.1; have hts := S0.2.2.2.2
  have hl : lv_has ls 3 [(0, .ref z0), (1, .int (x))] := hl
  refine lv_iload_n hx hb dX5_cut_0 rfl (lv_at hl 1 rfl) ?_
  refine lv_if_lt (tgt := 12) hx hb dX5_cut_1 (by decide) (fun h1 => ?_) (fun h1 => ?_)
  · skip
    refine lv_bipush (v := (-2 : Int32)) hx hb dX5_cut_12 (by decide) ?_
    exact eI hQ hx hb hr hlocks hK hW () (rfl) (rfl) dX5_cut_14
  · skip
    refine lv_iload_n hx hb dX5_cut_4 rfl (lv_at hl 1 rfl) ?_
    refine lv_aload_n hx hb dX5_cut_5 rfl (lv_at hl 0 rfl) ?_
    refine va_get (D := D) (ci := 5) (v := .int (nI (mps))) (C := RX5) (T := TX5) (N := 28) hx hb hts i_X5_cut_b_X5 hown hK hW.1 0 rfl rfl 11 (by decide) (hts (.fieldLink RX5 188 "TreeHashesModel" "proofSize" "I") f_X5_cut_b_0) (fun _ h9 => h9) rfl dX5_cut_6 ?_
    refine lv_icmp_le (tgt := 15) hx hb dX5_cut_9 (by decide) (fun h9 => ?_) (fun h9 => ?_)
    · skip
      exact hbd.elim (fun q => absurd q h1) (fun q => absurd h9 (Int32.not_le.mpr q))
    · skip
      refine lv_bipush (v := (-2 : Int32)) hx hb dX5_cut_12 (by decide) ?_
      exact eI hQ hx hb hr hlocks hK hW () (rfl) (rfl) dX5_cut_14

theorem f_X5_proof_0 : Cond.fieldLink RX5 188 "TreeHashesModel" "proofSize" "I" ∈ wsX5_proof := by decide +kernel
theorem i_X5_proof_X5 : ∀ w ∈ wsX50, w ∈ wsX5_proof := by decide +kernel
theorem f_X5_proof_2 : Cond.fieldLink RX5 38 "TreeHashesModel" "proof" "[I" ∈ wsX5_proof := by decide +kernel
set_option maxHeartbeats 4000000 in
set_option maxRecDepth 100000 in
theorem c_X5_proof (l : Launch) (D : va_G) (cy : Nat → ClassId) (t : Nat × Nat) (z0 : Nat) (zr : Nat) (zs : Nat) (zt : Nat) (zc : Nat) (zm : Nat) (zk : Nat) (zh : Nat) (zd : Nat) (zf : Nat) (ml : Nat) (zp : Nat) (mps : Nat) (za : Nat) (ze : Nat) (be : Int32) (zn : Nat) (zb : Nat) (zv : Nat) (zw : Nat) (zo : Nat) (zq : Nat) (nu : Int64) (bq : Int32) (fg : Int32) (zl : Nat) (hg : Nat) (cz : Nat) (zi : Nat) (mp : Nat → Int32) (j : Nat) (hml : mps ≤ 2000) (hj : j < mps) (sz : Nat) : Met l yX5_proof wsX5_proof ({ frames := 0, cells := 0, slots := 0, locals := 0 }) (PcW D cy t [(z0, .inr (5, [.ref zr, .ref zs, .ref zt, .ref zc, .ref zm, .ref zk, .ref zh, .ref zd, .ref zf, .int (nI (ml)), .ref zp, .int (nI (mps)), .ref za, .ref ze, .int (be), .ref zn, .ref zb, .ref zv, .ref zw, .ref zo, .ref zq, .long (nu), .int (bq), .int (fg), .ref zl, .int (nI (hg)), .int (nI (cz)), .ref zi])), (zp, .inl (cy 0, 2000, .inl (mp)))] [.ref z0, .int (nI (j))] sz) (QiA D cy (fun (r : Int32) (u : Unit) => (r = mp j)) (fun u : Unit => [(z0, .inr (5, [.ref zr, .ref zs, .ref zt, .ref zc, .ref zm, .ref zk, .ref zh, .ref zd, .ref zf, .int (nI (ml)), .ref zp, .int (nI (mps)), .ref za, .ref ze, .int (be), .ref zn, .ref zb, .ref zv, .ref zw, .ref zo, .ref zq, .long (nu), .int (bq), .int (fg), .ref zl, .int (nI (hg)), .int (nI (cz)), .ref zi])), (zp, .inl (cy 0, 2000, .inl (mp)))]) (va_A [(z0, .inr (5, [.ref zr, .ref zs, .ref zt, .ref zc, .ref zm, .ref zk, .ref zh, .ref zd, .ref zf, .int (nI (ml)), .ref zp, .int (nI (mps)), .ref za, .ref ze, .int (be), .ref zn, .ref zb, .ref zv, .ref zw, .ref zo, .ref zq, .long (nu), .int (bq), .int (fg), .ref zl, .int (nI (hg)), .int (nI (cz)), .ref zi])), (zp, .inl (cy 0, 2000, .inl (mp)))] sz)) 0 0 (va_A [(z0, .inr (5, [.ref zr, .ref zs, .ref zt, .ref zc, .ref zm, .ref zk, .ref zh, .ref zd, .ref zf, .int (nI (ml)), .ref zp, .int (nI (mps)), .ref za, .ref ze, .int (be), .ref zn, .ref zb, .ref zv, .ref zw, .ref zo, .ref zq, .long (nu), .int (bq), .int (fg), .ref zl, .int (nI (hg)), .int (nI (cz)), .ref zi])), (zp, .inl (cy 0, 2000, .inl (mp)))] sz) := by
  refine M_ofW (cc := cX5_proof) (maxL := 2) (ret := (some .int)) (by decide) rfl (Nat.le_of_ble_eq_true rfl) ?_
  intro p e s m below meth c A ls args Q hQ S0 hr hlocks hnm hK hst hA hW hl
  have hx := S0.1; have hb := S0.2.1; have hml := S0.2.2.1; have hown := S0.2.2.2.1; have hts := S0.2.2.2.2
  have hl : lv_has ls 2 [(0, .ref z0), (1, .int (nI (j)))] := hl
  refine lv_iload_n hx hb dX5_proof_0 rfl (lv_at hl 1 rfl) ?_
  refine zLt (a := j) (tgt := 21) hx hb dX5_proof_1 (by decide) (by omega) ?_
  refine lv_iload_n hx hb dX5_proof_4 rfl (lv_at hl 1 rfl) ?_
  refine lv_aload_n hx hb dX5_proof_5 rfl (lv_at hl 0 rfl) ?_
  refine va_get (D := D) (ci := 5) (v := .int (nI (mps))) (C := RX5) (T := TX5) (N := 28) hx hb hts i_X5_proof_X5 hown hK hW.1 0 rfl rfl 11 (by decide) (hts (.fieldLink RX5 188 "TreeHashesModel" "proofSize" "I") f_X5_proof_0) (fun _ h9 => h9) rfl dX5_proof_6 ?_
  refine iGe (a := j) (b := mps) (tgt := 21) hx hb dX5_proof_9 (by decide) (by omega) (by omega) (fun h9 => ?_) (fun h9 => ?_)
  · skip
    exfalso; omega
  · skip
    refine lv_aload_n hx hb dX5_proof_12 rfl (lv_at hl 0 rfl) ?_
    refine va_get (D := D) (ci := 5) (v := .ref zp) (C := RX5) (T := TX5) (N := 28) hx hb hts i_X5_proof_X5 hown hK hW.1 0 rfl rfl 10 (by decide) (hts (.fieldLink RX5 38 "TreeHashesModel" "proof" "[I") f_X5_proof_2) (fun _ h9 => h9) rfl dX5_proof_13 ?_
    refine lv_iload_n hx hb dX5_proof_16 rfl (lv_at hl 1 rfl) ?_
    refine rI hx hb hK hW 1 rfl (k := j) (by omega) (by omega) dX5_proof_17 ?_
    refine lv_goto (tgt := 22) hx hb dX5_proof_18 (by decide) ?_
    exact eI hQ hx hb hr hlocks hK hW () (rfl) (rfl) dX5_proof_22

theorem f_X5_proof_o_0 : Cond.fieldLink RX5 188 "TreeHashesModel" "proofSize" "I" ∈ wsX5_proof := by decide +kernel
theorem i_X5_proof_o_X5 : ∀ w ∈ wsX50, w ∈ wsX5_proof := by decide +kernel
set_option maxHeartbeats 4000000 in
set_option maxRecDepth 100000 in
theorem c_X5_proof_o (l : Launch) (D : va_G) (cy : Nat → ClassId) (t : Nat × Nat) (z0 : Nat) (zr : Nat) (zs : Nat) (zt : Nat) (zc : Nat) (zm : Nat) (zk : Nat) (zh : Nat) (zd : Nat) (zf : Nat) (ml : Nat) (zp : Nat) (mps : Nat) (za : Nat) (ze : Nat) (be : Int32) (zn : Nat) (zb : Nat) (zv : Nat) (zw : Nat) (zo : Nat) (zq : Nat) (nu : Int64) (bq : Int32) (fg : Int32) (zl : Nat) (hg : Nat) (cz : Nat) (zi : Nat) (mp : Nat → Int32) (y : Int32) (hml : mps ≤ 2000) (hbn : y < 0 ∨ nI mps ≤ y) (sz : Nat) : Met l yX5_proof wsX5_proof ({ frames := 0, cells := 0, slots := 0, locals := 0 }) (PcW D cy t [(z0, .inr (5, [.ref zr, .ref zs, .ref zt, .ref zc, .ref zm, .ref zk, .ref zh, .ref zd, .ref zf, .int (nI (ml)), .ref zp, .int (nI (mps)), .ref za, .ref ze, .int (be), .ref zn, .ref zb, .ref zv, .ref zw, .ref zo, .ref zq, .long (nu), .int (bq), .int (fg), .ref zl, .int (nI (hg)), .int (nI (cz)), .ref zi])), (zp, .inl (cy 0, 2000, .inl (mp)))] [.ref z0, .int (y)] sz) (QiA D cy (fun (r : Int32) (u : Unit) => (r = (-1 : Int32))) (fun u : Unit => [(z0, .inr (5, [.ref zr, .ref zs, .ref zt, .ref zc, .ref zm, .ref zk, .ref zh, .ref zd, .ref zf, .int (nI (ml)), .ref zp, .int (nI (mps)), .ref za, .ref ze, .int (be), .ref zn, .ref zb, .ref zv, .ref zw, .ref zo, .ref zq, .long (nu), .int (bq), .int (fg), .ref zl, .int (nI (hg)), .int (nI (cz)), .ref zi])), (zp, .inl (cy 0, 2000, .inl (mp)))]) (va_A [(z0, .inr (5, [.ref zr, .ref zs, .ref zt, .ref zc, .ref zm, .ref zk, .ref zh, .ref zd, .ref zf, .int (nI (ml)), .ref zp, .int (nI (mps)), .ref za, .ref ze, .int (be), .ref zn, .ref zb, .ref zv, .ref zw, .ref zo, .ref zq, .long (nu), .int (bq), .int (fg), .ref zl, .int (nI (hg)), .int (nI (cz)), .ref zi])), (zp, .inl (cy 0, 2000, .inl (mp)))] sz)) 0 0 (va_A [(z0, .inr (5, [.ref zr, .ref zs, .ref zt, .ref zc, .ref zm, .ref zk, .ref zh, .ref zd, .ref zf, .int (nI (ml)), .ref zp, .int (nI (mps)), .ref za, .ref ze, .int (be), .ref zn, .ref zb, .ref zv, .ref zw, .ref zo, .ref zq, .long (nu), .int (bq), .int (fg), .ref zl, .int (nI (hg)), .int (nI (cz)), .ref zi])), (zp, .inl (cy 0, 2000, .inl (mp)))] sz) := by
  refine M_ofW (cc := cX5_proof) (maxL := 2) (ret := (some .int)) (by decide) rfl (Nat.le_of_ble_eq_true rfl) ?_
  intro p e s m below meth c A ls args Q hQ S0 hr hlocks hnm hK hst hA hW hl
  have hx := S0.1; have hb := S0.2.1; have hml := S0.2.2.1; have hown := S0.2.2.2.1; have hts := S0.2.2.2.2
  have hl : lv_has ls 2 [(0, .ref z0), (1, .int (y))] := hl
  refine lv_iload_n hx hb dX5_proof_0 rfl (lv_at hl 1 rfl) ?_
  refine lv_if_lt (tgt := 21) hx hb dX5_proof_1 (by decide) (fun h1 => ?_) (fun h1 => ?_)
  · skip
    refine lv_iconst (v := (-1 : Int32)) hx hb dX5_proof_21 (by decide) ?_
    exact eI hQ hx hb hr hlocks hK hW () (rfl) (rfl) dX5_proof_22
  · skip
    refine lv_iload_n hx hb dX5_proof_4 rfl (lv_at hl 1 rfl) ?_
    refine lv_aload_n hx hb dX5_proof_5 rfl (lv_at hl 0 rfl) ?_
    refine va_get (D := D) (ci := 5) (v := .int (nI (mps))) (C := RX5) (T := TX5) (N := 28) hx hb hts i_X5_proof_o_X5 hown hK hW.1 0 rfl rfl 11 (by decide) (hts (.fieldLink RX5 188 "TreeHashesModel" "proofSize" "I") f_X5_proof_o_0) (fun _ h9 => h9) rfl dX5_proof_6 ?_
    refine lv_icmp_ge (tgt := 21) hx hb dX5_proof_9 (by decide) (fun h9 => ?_) (fun h9 => ?_)
    · skip
      refine lv_iconst (v := (-1 : Int32)) hx hb dX5_proof_21 (by decide) ?_
      exact eI hQ hx hb hr hlocks hK hW () (rfl) (rfl) dX5_proof_22
    · skip
      exact hbn.elim (fun q => absurd q h1) (fun q => absurd q h9)

set_option maxHeartbeats 4000000 in
set_option maxRecDepth 100000 in
theorem c_X5_take_b (l : Launch) (D : va_G) (cy : Nat → ClassId) (t : Nat × Nat) (z0 : Nat) (zr : Nat) (zs : Nat) (zt : Nat) (zc : Nat) (zm : Nat) (zk : Nat) (zh : Nat) (zd : Nat) (zf : Nat) (ml : Nat) (zp : Nat) (mps : Nat) (za : Nat) (ze : Nat) (be : Int32) (zn : Nat) (zb : Nat) (zv : Nat) (zw : Nat) (zo : Nat) (zq : Nat) (nu : Int64) (bq : Int32) (fg : Int32) (zl : Nat) (hg : Nat) (cz : Nat) (zi : Nat) (x : Int32) (y : Int32) (hbd : x < 0 ∨ nI 4 ≤ x) (sz : Nat) : Met l yX5_take wsX5_take ({ frames := 1, cells := 0, slots := 0, locals := 20 }) (PcW D cy t [(z0, .inr (5, [.ref zr, .ref zs, .ref zt, .ref zc, .ref zm, .ref zk, .ref zh, .ref zd, .ref zf, .int (nI (ml)), .ref zp, .int (nI (mps)), .ref za, .ref ze, .int (be), .ref zn, .ref zb, .ref zv, .ref zw, .ref zo, .ref zq, .long (nu), .int (bq), .int (fg), .ref zl, .int (nI (hg)), .int (nI (cz)), .ref zi]))] [.ref z0, .int (x), .int (y)] sz) (QiA D cy (fun (r : Int32) (u : Unit) => (r = (-2 : Int32))) (fun u : Unit => [(z0, .inr (5, [.ref zr, .ref zs, .ref zt, .ref zc, .ref zm, .ref zk, .ref zh, .ref zd, .ref zf, .int (nI (ml)), .ref zp, .int (nI (mps)), .ref za, .ref ze, .int (be), .ref zn, .ref zb, .ref zv, .ref zw, .ref zo, .ref zq, .long (nu), .int (bq), .int (fg), .ref zl, .int (nI (hg)), .int (nI (cz)), .ref zi]))]) (va_A [(z0, .inr (5, [.ref zr, .ref zs, .ref zt, .ref zc, .ref zm, .ref zk, .ref zh, .ref zd, .ref zf, .int (nI (ml)), .ref zp, .int (nI (mps)), .ref za, .ref ze, .int (be), .ref zn, .ref zb, .ref zv, .ref zw, .ref zo, .ref zq, .long (nu), .int (bq), .int (fg), .ref zl, .int (nI (hg)), .int (nI (cz)), .ref zi]))] sz)) 0 0 (va_A [(z0, .inr (5, [.ref zr, .ref zs, .ref zt, .ref zc, .ref zm, .ref zk, .ref zh, .ref zd, .ref zf, .int (nI (ml)), .ref zp, .int (nI (mps)), .ref za, .ref ze, .int (be), .ref zn, .ref zb, .ref zv, .ref zw, .ref zo, .ref zq, .long (nu), .int (bq), .int (fg), .ref zl, .int (nI (hg)), .int (nI (cz)), .ref zi]))] sz) := by
  refine M_ofW (cc := cX5_take) (maxL := 4) (ret := (some .int)) (by decide) rfl (Nat.le_of_ble_eq_true rfl) ?_
  intro p e s m below meth c A ls args Q hQ S0 hr hlocks hnm hK hst hA hW hl
  have hx := S0.1; have hb := S0.2.1; have hml := S0.2.2.1; have hown := S0.2.2.2.1; have hts := S0.2.2.2.2
  have hl : lv_has ls 4 [(0, .ref z0), (1, .int (x)), (2, .int (y))] := hl
  refine lv_iload_n hx hb dX5_take_0 rfl (lv_at hl 1 rfl) ?_
  refine kSi (As := [.int (x)]) (rest := []) S0 hK hst hA hW [] (fun sz => c_X5_isHasher_b l D cy t x (hbd) sz) rfl (by decide) (va_cwS 1 hts gX5_take_X5_isHasher rfl rfl rfl (by decide +kernel) ⟨Nat.le_of_ble_eq_true rfl, Nat.le_of_ble_eq_true rfl⟩) (fun _ => rfl) rfl hl.1 rfl (Nat.le_of_ble_eq_true rfl) dX5_take_1 ⟨Nat.le_of_ble_eq_true rfl, Nat.le_of_ble_eq_true rfl⟩ (fun r1 u1 H locs p1 hW => ?_)
  have hW : Wd D A s [(z0, .inr (5, [.ref zr, .ref zs, .ref zt, .ref zc, .ref zm, .ref zk, .ref zh, .ref zd, .ref zf, .int (nI (ml)), .ref zp, .int (nI (mps)), .ref za, .ref ze, .int (be), .ref zn, .ref zb, .ref zv, .ref zw, .ref zo, .ref zq, .long (nu), .int (bq), .int (fg), .ref zl, .int (nI (hg)), .int (nI (cz)), .ref zi]))] H locs := hW
  have q1 : r1 = nI (0) := p1
  subst q1
  refine zEq (a := 0) (tgt := 14) hx hb dX5_take_4 (by decide) (by omega) (fun h4 => ?_) (fun h4 => ?_)
  · skip
    refine lv_bipush (v := (-2 : Int32)) hx hb dX5_take_14 (by decide) ?_
    exact eI hQ hx hb hr hlocks hK hW () (rfl) (rfl) dX5_take_16
  · skip
    exfalso; omega

set_option maxHeartbeats 4000000 in
set_option maxRecDepth 100000 in
theorem c_X5_take_b2 (l : Launch) (D : va_G) (cy : Nat → ClassId) (t : Nat × Nat) (z0 : Nat) (zr : Nat) (zs : Nat) (zt : Nat) (zc : Nat) (zm : Nat) (zk : Nat) (zh : Nat) (zd : Nat) (zf : Nat) (ml : Nat) (zp : Nat) (mps : Nat) (za : Nat) (ze : Nat) (be : Int32) (zn : Nat) (zb : Nat) (zv : Nat) (zw : Nat) (zo : Nat) (zq : Nat) (nu : Int64) (bq : Int32) (fg : Int32) (zl : Nat) (hg : Nat) (cz : Nat) (zi : Nat) (hj : Nat) (x : Int32) (hj4 : hj < 4) (hbd : x < 0 ∨ nI 8 ≤ x) (sz : Nat) : Met l yX5_take wsX5_take ({ frames := 1, cells := 0, slots := 0, locals := 20 }) (PcW D cy t [(z0, .inr (5, [.ref zr, .ref zs, .ref zt, .ref zc, .ref zm, .ref zk, .ref zh, .ref zd, .ref zf, .int (nI (ml)), .ref zp, .int (nI (mps)), .ref za, .ref ze, .int (be), .ref zn, .ref zb, .ref zv, .ref zw, .ref zo, .ref zq, .long (nu), .int (bq), .int (fg), .ref zl, .int (nI (hg)), .int (nI (cz)), .ref zi]))] [.ref z0, .int (nI (hj)), .int (x)] sz) (QiA D cy (fun (r : Int32) (u : Unit) => (r = (-2 : Int32))) (fun u : Unit => [(z0, .inr (5, [.ref zr, .ref zs, .ref zt, .ref zc, .ref zm, .ref zk, .ref zh, .ref zd, .ref zf, .int (nI (ml)), .ref zp, .int (nI (mps)), .ref za, .ref ze, .int (be), .ref zn, .ref zb, .ref zv, .ref zw, .ref zo, .ref zq, .long (nu), .int (bq), .int (fg), .ref zl, .int (nI (hg)), .int (nI (cz)), .ref zi]))]) (va_A [(z0, .inr (5, [.ref zr, .ref zs, .ref zt, .ref zc, .ref zm, .ref zk, .ref zh, .ref zd, .ref zf, .int (nI (ml)), .ref zp, .int (nI (mps)), .ref za, .ref ze, .int (be), .ref zn, .ref zb, .ref zv, .ref zw, .ref zo, .ref zq, .long (nu), .int (bq), .int (fg), .ref zl, .int (nI (hg)), .int (nI (cz)), .ref zi]))] sz)) 0 0 (va_A [(z0, .inr (5, [.ref zr, .ref zs, .ref zt, .ref zc, .ref zm, .ref zk, .ref zh, .ref zd, .ref zf, .int (nI (ml)), .ref zp, .int (nI (mps)), .ref za, .ref ze, .int (be), .ref zn, .ref zb, .ref zv, .ref zw, .ref zo, .ref zq, .long (nu), .int (bq), .int (fg), .ref zl, .int (nI (hg)), .int (nI (cz)), .ref zi]))] sz) := by
  refine M_ofW (cc := cX5_take) (maxL := 4) (ret := (some .int)) (by decide) rfl (Nat.le_of_ble_eq_true rfl) ?_
  intro p e s m below meth c A ls args Q hQ S0 hr hlocks hnm hK hst hA hW hl
  have hx := S0.1; have hb := S0.2.1; have hml := S0.2.2.1; have hown := S0.2.2.2.1; have hts := S0.2.2.2.2
  have hl : lv_has ls 4 [(0, .ref z0), (1, .int (nI (hj))), (2, .int (x))] := hl
  refine lv_iload_n hx hb dX5_take_0 rfl (lv_at hl 1 rfl) ?_
  refine kSi (As := [.int (nI (hj))]) (rest := []) S0 hK hst hA hW [] (fun sz => c_X5_isHasher l D cy t hj (by omega) sz) rfl (by decide) (va_cwS 1 hts gX5_take_X5_isHasher rfl rfl rfl (by decide +kernel) ⟨Nat.le_of_ble_eq_true rfl, Nat.le_of_ble_eq_true rfl⟩) (fun _ => rfl) rfl hl.1 rfl (Nat.le_of_ble_eq_true rfl) dX5_take_1 ⟨Nat.le_of_ble_eq_true rfl, Nat.le_of_ble_eq_true rfl⟩ (fun r1 u1 H locs p1 hW => ?_)
  have hW : Wd D A s [(z0, .inr (5, [.ref zr, .ref zs, .ref zt, .ref zc, .ref zm, .ref zk, .ref zh, .ref zd, .ref zf, .int (nI (ml)), .ref zp, .int (nI (mps)), .ref za, .ref ze, .int (be), .ref zn, .ref zb, .ref zv, .ref zw, .ref zo, .ref zq, .long (nu), .int (bq), .int (fg), .ref zl, .int (nI (hg)), .int (nI (cz)), .ref zi]))] H locs := hW
  have q1 : r1 = nI (1) := p1
  subst q1
  refine zEq (a := 1) (tgt := 14) hx hb dX5_take_4 (by decide) (by omega) (fun h4 => ?_) (fun h4 => ?_)
  · skip
    exfalso; omega
  · skip
    refine lv_iload_n hx hb dX5_take_7 rfl (lv_at hl 2 rfl) ?_
    refine kSi (As := [.int (x)]) (rest := []) S0 hK hst hA hW [] (fun sz => c_X5_isRegister_b l D cy t x (hbd) sz) rfl (by decide) (va_cwS 1 hts gX5_take_X5_isRegister rfl rfl rfl (by decide +kernel) ⟨Nat.le_of_ble_eq_true rfl, Nat.le_of_ble_eq_true rfl⟩) (fun _ => rfl) rfl hl.1 rfl (Nat.le_of_ble_eq_true rfl) dX5_take_8 ⟨Nat.le_of_ble_eq_true rfl, Nat.le_of_ble_eq_true rfl⟩ (fun r8 u8 H locs p8 hW => ?_)
    have hW : Wd D A s [(z0, .inr (5, [.ref zr, .ref zs, .ref zt, .ref zc, .ref zm, .ref zk, .ref zh, .ref zd, .ref zf, .int (nI (ml)), .ref zp, .int (nI (mps)), .ref za, .ref ze, .int (be), .ref zn, .ref zb, .ref zv, .ref zw, .ref zo, .ref zq, .long (nu), .int (bq), .int (fg), .ref zl, .int (nI (hg)), .int (nI (cz)), .ref zi]))] H locs := hW
    have q8 : r8 = nI (0) := p8
    subst q8
    refine zNe (a := 0) (tgt := 17) hx hb dX5_take_11 (by decide) (by omega) (fun h11 => ?_) (fun h11 => ?_)
    · skip
      exfalso; omega
    · skip
      refine lv_bipush (v := (-2 : Int32)) hx hb dX5_take_14 (by decide) ?_
      exact eI hQ hx hb hr hlocks hK hW () (rfl) (rfl) dX5_take_16

theorem f_X5_take_r_0 : Cond.fieldLink RX5 20 "TreeHashesModel" "count" "[I" ∈ wsX5_take := by decide +kernel
theorem i_X5_take_r_X5 : ∀ w ∈ wsX50, w ∈ wsX5_take := by decide +kernel
theorem f_X5_take_r_2 : Cond.fieldLink RX5 13 "TreeHashesModel" "sizes" "[I" ∈ wsX5_take := by decide +kernel
theorem f_X5_take_r_3 : Cond.constant RX5 146 (40000) ∈ wsX5_take := by decide +kernel
set_option maxHeartbeats 4000000 in
set_option maxRecDepth 100000 in
theorem c_X5_take_r (l : Launch) (D : va_G) (cy : Nat → ClassId) (t : Nat × Nat) (z0 : Nat) (zr : Nat) (zs : Nat) (zt : Nat) (zc : Nat) (zm : Nat) (zk : Nat) (zh : Nat) (zd : Nat) (zf : Nat) (ml : Nat) (zp : Nat) (mps : Nat) (za : Nat) (ze : Nat) (be : Int32) (zn : Nat) (zb : Nat) (zv : Nat) (zw : Nat) (zo : Nat) (zq : Nat) (nu : Int64) (bq : Int32) (fg : Int32) (zl : Nat) (hg : Nat) (cz : Nat) (zi : Nat) (mt : Nat → Int32) (mcn : Nat → Int32) (hj : Nat) (nt : Nat) (ms : Nat → Int32) (mr : Nat → Int32) (ri : Nat) (cnt : Nat) (hj4 : hj < 4) (hct : mcn hj = nI nt) (hnt : nt ≤ 40000) (hr8 : ri < 8) (hsz : ms ri = nI cnt) (hc : cnt ≤ 200) (hfull : 40000 < nt + cnt) (sz : Nat) : Met l yX5_take wsX5_take ({ frames := 1, cells := 0, slots := 0, locals := 20 }) (PcW D cy t [(z0, .inr (5, [.ref zr, .ref zs, .ref zt, .ref zc, .ref zm, .ref zk, .ref zh, .ref zd, .ref zf, .int (nI (ml)), .ref zp, .int (nI (mps)), .ref za, .ref ze, .int (be), .ref zn, .ref zb, .ref zv, .ref zw, .ref zo, .ref zq, .long (nu), .int (bq), .int (fg), .ref zl, .int (nI (hg)), .int (nI (cz)), .ref zi])), (zt, .inl (cy 0, 160000, .inl (mt))), (zc, .inl (cy 0, 4, .inl (mcn))), (zs, .inl (cy 0, 8, .inl (ms))), (zr, .inl (cy 0, 1600, .inl (mr)))] [.ref z0, .int (nI (hj)), .int (nI (ri))] sz) (QiA D cy (fun (r : Int32) (u : Unit) => (r = (-3 : Int32))) (fun u : Unit => [(z0, .inr (5, [.ref zr, .ref zs, .ref zt, .ref zc, .ref zm, .ref zk, .ref zh, .ref zd, .ref zf, .int (nI (ml)), .ref zp, .int (nI (mps)), .ref za, .ref ze, .int (be), .ref zn, .ref zb, .ref zv, .ref zw, .ref zo, .ref zq, .long (nu), .int (bq), .int (fg), .ref zl, .int (nI (hg)), .int (nI (cz)), .ref zi])), (zt, .inl (cy 0, 160000, .inl (mt))), (zc, .inl (cy 0, 4, .inl (mcn))), (zs, .inl (cy 0, 8, .inl (ms))), (zr, .inl (cy 0, 1600, .inl (mr)))]) (va_A [(z0, .inr (5, [.ref zr, .ref zs, .ref zt, .ref zc, .ref zm, .ref zk, .ref zh, .ref zd, .ref zf, .int (nI (ml)), .ref zp, .int (nI (mps)), .ref za, .ref ze, .int (be), .ref zn, .ref zb, .ref zv, .ref zw, .ref zo, .ref zq, .long (nu), .int (bq), .int (fg), .ref zl, .int (nI (hg)), .int (nI (cz)), .ref zi])), (zt, .inl (cy 0, 160000, .inl (mt))), (zc, .inl (cy 0, 4, .inl (mcn))), (zs, .inl (cy 0, 8, .inl (ms))), (zr, .inl (cy 0, 1600, .inl (mr)))] sz)) 0 0 (va_A [(z0, .inr (5, [.ref zr, .ref zs, .ref zt, .ref zc, .ref zm, .ref zk, .ref zh, .ref zd, .ref zf, .int (nI (ml)), .ref zp, .int (nI (mps)), .ref za, .ref ze, .int (be), .ref zn, .ref zb, .ref zv, .ref zw, .ref zo, .ref zq, .long (nu), .int (bq), .int (fg), .ref zl, .int (nI (hg)), .int (nI (cz)), .ref zi])), (zt, .inl (cy 0, 160000, .inl (mt))), (zc, .inl (cy 0, 4, .inl (mcn))), (zs, .inl (cy 0, 8, .inl (ms))), (zr, .inl (cy 0, 1600, .inl (mr)))] sz) := by
  refine M_ofW (cc := cX5_take) (maxL := 4) (ret := (some .int)) (by decide) rfl (Nat.le_of_ble_eq_true rfl) ?_
  intro p e s m below meth c A ls args Q hQ S0 hr hlocks hnm hK hst hA hW hl
  have hx := S0.1; have hb := S0.2.1; have hml := S0.2.2.1; have hown := S0.2.2.2.1; have hts := S0.2.2.2.2
  have hl : lv_has ls 4 [(0, .ref z0), (1, .int (nI (hj))), (2, .int (nI (ri)))] := hl
  refine lv_iload_n hx hb dX5_take_0 rfl (lv_at hl 1 rfl) ?_
  refine kSi (As := [.int (nI (hj))]) (rest := []) S0 hK hst hA hW [] (fun sz => c_X5_isHasher l D cy t hj (by omega) sz) rfl (by decide) (va_cwS 1 hts gX5_take_X5_isHasher rfl rfl rfl (by decide +kernel) ⟨Nat.le_of_ble_eq_true rfl, Nat.le_of_ble_eq_true rfl⟩) (fun _ => rfl) rfl hl.1 rfl (Nat.le_of_ble_eq_true rfl) dX5_take_1 ⟨Nat.le_of_ble_eq_true rfl, Nat.le_of_ble_eq_true rfl⟩ (fun r1 u1 H locs p1 hW => ?_)
  have hW : Wd D A s [(z0, .inr (5, [.ref zr, .ref zs, .ref zt, .ref zc, .ref zm, .ref zk, .ref zh, .ref zd, .ref zf, .int (nI (ml)), .ref zp, .int (nI (mps)), .ref za, .ref ze, .int (be), .ref zn, .ref zb, .ref zv, .ref zw, .ref zo, .ref zq, .long (nu), .int (bq), .int (fg), .ref zl, .int (nI (hg)), .int (nI (cz)), .ref zi])), (zt, .inl (cy 0, 160000, .inl (mt))), (zc, .inl (cy 0, 4, .inl (mcn))), (zs, .inl (cy 0, 8, .inl (ms))), (zr, .inl (cy 0, 1600, .inl (mr)))] H locs := hW
  have q1 : r1 = nI (1) := p1
  subst q1
  refine zEq (a := 1) (tgt := 14) hx hb dX5_take_4 (by decide) (by omega) (fun h4 => ?_) (fun h4 => ?_)
  · skip
    exfalso; omega
  · skip
    refine lv_iload_n hx hb dX5_take_7 rfl (lv_at hl 2 rfl) ?_
    refine kSi (As := [.int (nI (ri))]) (rest := []) S0 hK hst hA hW [] (fun sz => c_X5_isRegister l D cy t ri (by omega) sz) rfl (by decide) (va_cwS 1 hts gX5_take_X5_isRegister rfl rfl rfl (by decide +kernel) ⟨Nat.le_of_ble_eq_true rfl, Nat.le_of_ble_eq_true rfl⟩) (fun _ => rfl) rfl hl.1 rfl (Nat.le_of_ble_eq_true rfl) dX5_take_8 ⟨Nat.le_of_ble_eq_true rfl, Nat.le_of_ble_eq_true rfl⟩ (fun r8 u8 H locs p8 hW => ?_)
    have hW : Wd D A s [(z0, .inr (5, [.ref zr, .ref zs, .ref zt, .ref zc, .ref zm, .ref zk, .ref zh, .ref zd, .ref zf, .int (nI (ml)), .ref zp, .int (nI (mps)), .ref za, .ref ze, .int (be), .ref zn, .ref zb, .ref zv, .ref zw, .ref zo, .ref zq, .long (nu), .int (bq), .int (fg), .ref zl, .int (nI (hg)), .int (nI (cz)), .ref zi])), (zt, .inl (cy 0, 160000, .inl (mt))), (zc, .inl (cy 0, 4, .inl (mcn))), (zs, .inl (cy 0, 8, .inl (ms))), (zr, .inl (cy 0, 1600, .inl (mr)))] H locs := hW
    have q8 : r8 = nI (1) := p8
    subst q8
    refine zNe (a := 1) (tgt := 17) hx hb dX5_take_11 (by decide) (by omega) (fun h11 => ?_) (fun h11 => ?_)
    · skip
      refine lv_aload_n hx hb dX5_take_17 rfl (lv_at hl 0 rfl) ?_
      refine va_get (D := D) (ci := 5) (v := .ref zc) (C := RX5) (T := TX5) (N := 28) hx hb hts i_X5_take_r_X5 hown hK hW.1 0 rfl rfl 3 (by decide) (hts (.fieldLink RX5 20 "TreeHashesModel" "count" "[I") f_X5_take_r_0) (fun _ h9 => h9) rfl dX5_take_18 ?_
      refine lv_iload_n hx hb dX5_take_21 rfl (lv_at hl 1 rfl) ?_
      refine rI hx hb hK hW 2 rfl (k := hj) (by omega) (by omega) dX5_take_22 ?_
      refine tI (x' := nI (nt)) (hct) ?_
      refine lv_aload_n hx hb dX5_take_23 rfl (lv_at hl 0 rfl) ?_
      refine va_get (D := D) (ci := 5) (v := .ref zs) (C := RX5) (T := TX5) (N := 28) hx hb hts i_X5_take_r_X5 hown hK hW.1 0 rfl rfl 1 (by decide) (hts (.fieldLink RX5 13 "TreeHashesModel" "sizes" "[I") f_X5_take_r_2) (fun _ h9 => h9) rfl dX5_take_24 ?_
      refine lv_iload_n hx hb dX5_take_27 rfl (lv_at hl 2 rfl) ?_
      refine rI hx hb hK hW 3 rfl (k := ri) (by omega) (by omega) dX5_take_28 ?_
      refine tI (x' := nI (cnt)) (hsz) ?_
      refine lv_iadd hx hb dX5_take_29 ?_
      refine tI (nI_add _ _) ?_
      refine lv_ldc (v := (40000 : Int32)) hx hb hown (hts (.constant RX5 146 (40000)) f_X5_take_r_3) dX5_take_30 ?_
      refine tI (x' := nI 40000) (by decide) ?_
      refine iLe (a := nt + cnt) (b := 40000) (tgt := 38) hx hb dX5_take_32 (by decide) (by omega) (by omega) (fun h32 => ?_) (fun h32 => ?_)
      · skip
        exfalso; omega
      · skip
        refine lv_bipush (v := (-3 : Int32)) hx hb dX5_take_35 (by decide) ?_
        exact eI hQ hx hb hr hlocks hK hW () (rfl) (rfl) dX5_take_37
    · skip
      exfalso; omega

theorem f_X5_take_0 : Cond.fieldLink RX5 20 "TreeHashesModel" "count" "[I" ∈ wsX5_take := by decide +kernel
theorem i_X5_take_X5 : ∀ w ∈ wsX50, w ∈ wsX5_take := by decide +kernel
theorem f_X5_take_2 : Cond.fieldLink RX5 13 "TreeHashesModel" "sizes" "[I" ∈ wsX5_take := by decide +kernel
theorem f_X5_take_3 : Cond.constant RX5 146 (40000) ∈ wsX5_take := by decide +kernel
theorem f_X5_take_4 : Cond.fieldLink RX5 17 "TreeHashesModel" "taken" "[I" ∈ wsX5_take := by decide +kernel
theorem f_X5_take_5 : Cond.fieldLink RX5 7 "TreeHashesModel" "registers" "[I" ∈ wsX5_take := by decide +kernel
set_option maxHeartbeats 4000000 in
set_option maxRecDepth 100000 in
theorem c_X5_take (l : Launch) (D : va_G) (cy : Nat → ClassId) (t : Nat × Nat) (z0 : Nat) (zr : Nat) (zs : Nat) (zt : Nat) (zc : Nat) (zm : Nat) (zk : Nat) (zh : Nat) (zd : Nat) (zf : Nat) (ml : Nat) (zp : Nat) (mps : Nat) (za : Nat) (ze : Nat) (be : Int32) (zn : Nat) (zb : Nat) (zv : Nat) (zw : Nat) (zo : Nat) (zq : Nat) (nu : Int64) (bq : Int32) (fg : Int32) (zl : Nat) (hg : Nat) (cz : Nat) (zi : Nat) (mt : Nat → Int32) (mcn : Nat → Int32) (hj : Nat) (nt : Nat) (ms : Nat → Int32) (mr : Nat → Int32) (ri : Nat) (cnt : Nat) (hj4 : hj < 4) (hct : mcn hj = nI nt) (hnt : nt ≤ 40000) (hr8 : ri < 8) (hsz : ms ri = nI cnt) (hc : cnt ≤ 200) (hfit : nt + cnt ≤ 40000) (sz : Nat) : Met l yX5_take wsX5_take ({ frames := 1, cells := 0, slots := 0, locals := 20 }) (PcW D cy t [(z0, .inr (5, [.ref zr, .ref zs, .ref zt, .ref zc, .ref zm, .ref zk, .ref zh, .ref zd, .ref zf, .int (nI (ml)), .ref zp, .int (nI (mps)), .ref za, .ref ze, .int (be), .ref zn, .ref zb, .ref zv, .ref zw, .ref zo, .ref zq, .long (nu), .int (bq), .int (fg), .ref zl, .int (nI (hg)), .int (nI (cz)), .ref zi])), (zt, .inl (cy 0, 160000, .inl (mt))), (zc, .inl (cy 0, 4, .inl (mcn))), (zs, .inl (cy 0, 8, .inl (ms))), (zr, .inl (cy 0, 1600, .inl (mr)))] [.ref z0, .int (nI (hj)), .int (nI (ri))] sz) (QiA D cy (fun (r : Int32) (u : Unit) => (r = nI (nt + cnt))) (fun u : Unit => [(z0, .inr (5, [.ref zr, .ref zs, .ref zt, .ref zc, .ref zm, .ref zk, .ref zh, .ref zd, .ref zf, .int (nI (ml)), .ref zp, .int (nI (mps)), .ref za, .ref ze, .int (be), .ref zn, .ref zb, .ref zv, .ref zw, .ref zo, .ref zq, .long (nu), .int (bq), .int (fg), .ref zl, .int (nI (hg)), .int (nI (cz)), .ref zi])), (zt, .inl (cy 0, 160000, .inl (apG mt (40000 * hj + nt) (fun i => mr (200 * ri + i)) cnt))), (zc, .inl (cy 0, 4, .inl (upd mcn hj (nI (nt + cnt))))), (zs, .inl (cy 0, 8, .inl (ms))), (zr, .inl (cy 0, 1600, .inl (mr)))]) (va_A [(z0, .inr (5, [.ref zr, .ref zs, .ref zt, .ref zc, .ref zm, .ref zk, .ref zh, .ref zd, .ref zf, .int (nI (ml)), .ref zp, .int (nI (mps)), .ref za, .ref ze, .int (be), .ref zn, .ref zb, .ref zv, .ref zw, .ref zo, .ref zq, .long (nu), .int (bq), .int (fg), .ref zl, .int (nI (hg)), .int (nI (cz)), .ref zi])), (zt, .inl (cy 0, 160000, .inl (mt))), (zc, .inl (cy 0, 4, .inl (mcn))), (zs, .inl (cy 0, 8, .inl (ms))), (zr, .inl (cy 0, 1600, .inl (mr)))] sz)) 0 0 (va_A [(z0, .inr (5, [.ref zr, .ref zs, .ref zt, .ref zc, .ref zm, .ref zk, .ref zh, .ref zd, .ref zf, .int (nI (ml)), .ref zp, .int (nI (mps)), .ref za, .ref ze, .int (be), .ref zn, .ref zb, .ref zv, .ref zw, .ref zo, .ref zq, .long (nu), .int (bq), .int (fg), .ref zl, .int (nI (hg)), .int (nI (cz)), .ref zi])), (zt, .inl (cy 0, 160000, .inl (mt))), (zc, .inl (cy 0, 4, .inl (mcn))), (zs, .inl (cy 0, 8, .inl (ms))), (zr, .inl (cy 0, 1600, .inl (mr)))] sz) := by
  refine M_ofW (cc := cX5_take) (maxL := 4) (ret := (some .int)) (by decide) rfl (Nat.le_of_ble_eq_true rfl) ?_
  intro p e s m below meth c A ls args Q hQ S0 hr hlocks hnm hK hst hA hW hl
  have hx := S0.1; have hb := S0.2.1; have hml := S0.2.2.1; have hown := S0.2.2.2.1; have hts := S0.2.2.2.2
  have hl : lv_has ls 4 [(0, .ref z0), (1, .int (nI (hj))), (2, .int (nI (ri)))] := hl
  refine lv_iload_n hx hb dX5_take_0 rfl (lv_at hl 1 rfl) ?_
  refine kSi (As := [.int (nI (hj))]) (rest := []) S0 hK hst hA hW [] (fun sz => c_X5_isHasher l D cy t hj (by omega) sz) rfl (by decide) (va_cwS 1 hts gX5_take_X5_isHasher rfl rfl rfl (by decide +kernel) ⟨Nat.le_of_ble_eq_true rfl, Nat.le_of_ble_eq_true rfl⟩) (fun _ => rfl) rfl hl.1 rfl (Nat.le_of_ble_eq_true rfl) dX5_take_1 ⟨Nat.le_of_ble_eq_true rfl, Nat.le_of_ble_eq_true rfl⟩ (fun r1 u1 H locs p1 hW => ?_)
  have hW : Wd D A s [(z0, .inr (5, [.ref zr, .ref zs, .ref zt, .ref zc, .ref zm, .ref zk, .ref zh, .ref zd, .ref zf, .int (nI (ml)), .ref zp, .int (nI (mps)), .ref za, .ref ze, .int (be), .ref zn, .ref zb, .ref zv, .ref zw, .ref zo, .ref zq, .long (nu), .int (bq), .int (fg), .ref zl, .int (nI (hg)), .int (nI (cz)), .ref zi])), (zt, .inl (cy 0, 160000, .inl (mt))), (zc, .inl (cy 0, 4, .inl (mcn))), (zs, .inl (cy 0, 8, .inl (ms))), (zr, .inl (cy 0, 1600, .inl (mr)))] H locs := hW
  have q1 : r1 = nI (1) := p1
  subst q1
  refine zEq (a := 1) (tgt := 14) hx hb dX5_take_4 (by decide) (by omega) (fun h4 => ?_) (fun h4 => ?_)
  · skip
    exfalso; omega
  · skip
    refine lv_iload_n hx hb dX5_take_7 rfl (lv_at hl 2 rfl) ?_
    refine kSi (As := [.int (nI (ri))]) (rest := []) S0 hK hst hA hW [] (fun sz => c_X5_isRegister l D cy t ri (by omega) sz) rfl (by decide) (va_cwS 1 hts gX5_take_X5_isRegister rfl rfl rfl (by decide +kernel) ⟨Nat.le_of_ble_eq_true rfl, Nat.le_of_ble_eq_true rfl⟩) (fun _ => rfl) rfl hl.1 rfl (Nat.le_of_ble_eq_true rfl) dX5_take_8 ⟨Nat.le_of_ble_eq_true rfl, Nat.le_of_ble_eq_true rfl⟩ (fun r8 u8 H locs p8 hW => ?_)
    have hW : Wd D A s [(z0, .inr (5, [.ref zr, .ref zs, .ref zt, .ref zc, .ref zm, .ref zk, .ref zh, .ref zd, .ref zf, .int (nI (ml)), .ref zp, .int (nI (mps)), .ref za, .ref ze, .int (be), .ref zn, .ref zb, .ref zv, .ref zw, .ref zo, .ref zq, .long (nu), .int (bq), .int (fg), .ref zl, .int (nI (hg)), .int (nI (cz)), .ref zi])), (zt, .inl (cy 0, 160000, .inl (mt))), (zc, .inl (cy 0, 4, .inl (mcn))), (zs, .inl (cy 0, 8, .inl (ms))), (zr, .inl (cy 0, 1600, .inl (mr)))] H locs := hW
    have q8 : r8 = nI (1) := p8
    subst q8
    refine zNe (a := 1) (tgt := 17) hx hb dX5_take_11 (by decide) (by omega) (fun h11 => ?_) (fun h11 => ?_)
    · skip
      refine lv_aload_n hx hb dX5_take_17 rfl (lv_at hl 0 rfl) ?_
      refine va_get (D := D) (ci := 5) (v := .ref zc) (C := RX5) (T := TX5) (N := 28) hx hb hts i_X5_take_X5 hown hK hW.1 0 rfl rfl 3 (by decide) (hts (.fieldLink RX5 20 "TreeHashesModel" "count" "[I") f_X5_take_0) (fun _ h9 => h9) rfl dX5_take_18 ?_
      refine lv_iload_n hx hb dX5_take_21 rfl (lv_at hl 1 rfl) ?_
      refine rI hx hb hK hW 2 rfl (k := hj) (by omega) (by omega) dX5_take_22 ?_
      refine tI (x' := nI (nt)) (hct) ?_
      refine lv_aload_n hx hb dX5_take_23 rfl (lv_at hl 0 rfl) ?_
      refine va_get (D := D) (ci := 5) (v := .ref zs) (C := RX5) (T := TX5) (N := 28) hx hb hts i_X5_take_X5 hown hK hW.1 0 rfl rfl 1 (by decide) (hts (.fieldLink RX5 13 "TreeHashesModel" "sizes" "[I") f_X5_take_2) (fun _ h9 => h9) rfl dX5_take_24 ?_
      refine lv_iload_n hx hb dX5_take_27 rfl (lv_at hl 2 rfl) ?_
      refine rI hx hb hK hW 3 rfl (k := ri) (by omega) (by omega) dX5_take_28 ?_
      refine tI (x' := nI (cnt)) (hsz) ?_
      refine lv_iadd hx hb dX5_take_29 ?_
      refine tI (nI_add _ _) ?_
      refine lv_ldc (v := (40000 : Int32)) hx hb hown (hts (.constant RX5 146 (40000)) f_X5_take_3) dX5_take_30 ?_
      refine tI (x' := nI 40000) (by decide) ?_
      refine iLe (a := nt + cnt) (b := 40000) (tgt := 38) hx hb dX5_take_32 (by decide) (by omega) (by omega) (fun h32 => ?_) (fun h32 => ?_)
      · skip
        refine lv_iconst (v := nI (0)) hx hb dX5_take_38 (by decide) ?_
        refine lv_istore_n (lv' := [(3, .int (nI (0))), (0, .ref z0), (1, .int (nI (hj))), (2, .int (nI (ri)))]) hx hb dX5_take_39 rfl hl (by decide) rfl (fun ls hl => ?_)
        have loop40 : ∀ (nF : Nat) (i : Nat), cnt - i < nF → (i ≤ cnt) → ∀ (H : Heap) (locs : List Loc), Wd D A s [(z0, .inr (5, [.ref zr, .ref zs, .ref zt, .ref zc, .ref zm, .ref zk, .ref zh, .ref zd, .ref zf, .int (nI (ml)), .ref zp, .int (nI (mps)), .ref za, .ref ze, .int (be), .ref zn, .ref zb, .ref zv, .ref zw, .ref zo, .ref zq, .long (nu), .int (bq), .int (fg), .ref zl, .int (nI (hg)), .int (nI (cz)), .ref zi])), (zt, .inl (cy 0, 160000, .inl (apG mt (40000 * hj + nt) (fun i => mr (200 * ri + i)) i))), (zc, .inl (cy 0, 4, .inl (upd mcn hj (nI (nt + i))))), (zs, .inl (cy 0, 8, .inl (ms))), (zr, .inl (cy 0, 1600, .inl (mr)))] H locs → ∀ ls : Array Slot, lv_has ls 4 [(0, .ref z0), (1, .int (nI (hj))), (2, .int (nI (ri))), (3, .int (nI (i)))] → W p l e ({ frames := 1, cells := 0, slots := 0, locals := 20 }) s m args below meth c H locs 0 0 Q (F0 m 40 ls []) := by
          intro nF
          induction nF with
          | zero => intro i hf; exact absurd hf (Nat.not_lt_zero _)
          | succ nF ih40 =>
            intro i hf hi H locs hW ls hl
            refine lv_iload_n hx hb dX5_take_40 rfl (lv_at hl 3 rfl) ?_
            refine lv_aload_n hx hb dX5_take_41 rfl (lv_at hl 0 rfl) ?_
            refine va_get (D := D) (ci := 5) (v := .ref zs) (C := RX5) (T := TX5) (N := 28) hx hb hts i_X5_take_X5 hown hK hW.1 0 rfl rfl 1 (by decide) (hts (.fieldLink RX5 13 "TreeHashesModel" "sizes" "[I") f_X5_take_2) (fun _ h9 => h9) rfl dX5_take_42 ?_
            refine lv_iload_n hx hb dX5_take_45 rfl (lv_at hl 2 rfl) ?_
            refine rI hx hb hK hW 3 rfl (k := ri) (by omega) (by omega) dX5_take_46 ?_
            refine tI (x' := nI (cnt)) (hsz) ?_
            refine iGe (a := i) (b := cnt) (tgt := 94) hx hb dX5_take_47 (by decide) (by omega) (by omega) (fun h47 => ?_) (fun h47 => ?_)
            · skip
              refine lv_aload_n hx hb dX5_take_94 rfl (lv_at hl 0 rfl) ?_
              refine va_get (D := D) (ci := 5) (v := .ref zc) (C := RX5) (T := TX5) (N := 28) hx hb hts i_X5_take_X5 hown hK hW.1 0 rfl rfl 3 (by decide) (hts (.fieldLink RX5 20 "TreeHashesModel" "count" "[I") f_X5_take_0) (fun _ h9 => h9) rfl dX5_take_95 ?_
              refine lv_iload_n hx hb dX5_take_98 rfl (lv_at hl 1 rfl) ?_
              refine rI hx hb hK hW 2 rfl (k := hj) (by omega) (by omega) dX5_take_99 ?_
              refine tI (x' := nI (nt + i)) (pk_us) ?_
              have e9 : i = cnt := by omega
              rw [e9] at hW
              exact eI hQ hx hb hr hlocks hK hW () (by rw [e9]) (rfl) dX5_take_100
            · skip
              refine lv_aload_n hx hb dX5_take_50 rfl (lv_at hl 0 rfl) ?_
              refine va_get (D := D) (ci := 5) (v := .ref zt) (C := RX5) (T := TX5) (N := 28) hx hb hts i_X5_take_X5 hown hK hW.1 0 rfl rfl 2 (by decide) (hts (.fieldLink RX5 17 "TreeHashesModel" "taken" "[I") f_X5_take_4) (fun _ h9 => h9) rfl dX5_take_51 ?_
              refine lv_ldc (v := (40000 : Int32)) hx hb hown (hts (.constant RX5 146 (40000)) f_X5_take_3) dX5_take_54 ?_
              refine tI (x' := nI 40000) (by decide) ?_
              refine lv_iload_n hx hb dX5_take_56 rfl (lv_at hl 1 rfl) ?_
              refine lv_imul hx hb dX5_take_57 ?_
              refine tI (pk_mul _ _) ?_
              refine lv_aload_n hx hb dX5_take_58 rfl (lv_at hl 0 rfl) ?_
              refine va_get (D := D) (ci := 5) (v := .ref zc) (C := RX5) (T := TX5) (N := 28) hx hb hts i_X5_take_X5 hown hK hW.1 0 rfl rfl 3 (by decide) (hts (.fieldLink RX5 20 "TreeHashesModel" "count" "[I") f_X5_take_0) (fun _ h9 => h9) rfl dX5_take_59 ?_
              refine lv_iload_n hx hb dX5_take_62 rfl (lv_at hl 1 rfl) ?_
              refine rI hx hb hK hW 2 rfl (k := hj) (by omega) (by omega) dX5_take_63 ?_
              refine tI (x' := nI (nt + i)) (pk_us) ?_
              refine lv_iadd hx hb dX5_take_64 ?_
              refine tI (nI_add _ _) ?_
              refine lv_aload_n hx hb dX5_take_65 rfl (lv_at hl 0 rfl) ?_
              refine va_get (D := D) (ci := 5) (v := .ref zr) (C := RX5) (T := TX5) (N := 28) hx hb hts i_X5_take_X5 hown hK hW.1 0 rfl rfl 0 (by decide) (hts (.fieldLink RX5 7 "TreeHashesModel" "registers" "[I") f_X5_take_5) (fun _ h9 => h9) rfl dX5_take_66 ?_
              refine lv_sipush (v := nI (200)) hx hb dX5_take_69 (by decide) ?_
              refine lv_iload_n hx hb dX5_take_72 rfl (lv_at hl 2 rfl) ?_
              refine lv_imul hx hb dX5_take_73 ?_
              refine tI (pk_mul _ _) ?_
              refine lv_iload_n hx hb dX5_take_74 rfl (lv_at hl 3 rfl) ?_
              refine lv_iadd hx hb dX5_take_75 ?_
              refine tI (nI_add _ _) ?_
              refine rI hx hb hK hW 4 rfl (k := (200 * ri) + i) (by omega) (by omega) dX5_take_76 ?_
              refine wI hx hb hK hW 1 rfl (k := (40000 * hj) + (nt + i)) (by omega) (by omega) dX5_take_77 (fun H locs hW => ?_)
              have hW : Wd D A s [(z0, .inr (5, [.ref zr, .ref zs, .ref zt, .ref zc, .ref zm, .ref zk, .ref zh, .ref zd, .ref zf, .int (nI (ml)), .ref zp, .int (nI (mps)), .ref za, .ref ze, .int (be), .ref zn, .ref zb, .ref zv, .ref zw, .ref zo, .ref zq, .long (nu), .int (bq), .int (fg), .ref zl, .int (nI (hg)), .int (nI (cz)), .ref zi])), (zt, .inl (cy 0, 160000, .inl (upd (apG mt (40000 * hj + nt) (fun i => mr (200 * ri + i)) i) ((40000 * hj) + (nt + i)) (mr ((200 * ri) + i))))), (zc, .inl (cy 0, 4, .inl (upd mcn hj (nI (nt + i))))), (zs, .inl (cy 0, 8, .inl (ms))), (zr, .inl (cy 0, 1600, .inl (mr)))] H locs := hW
              rw [show (upd (apG mt (40000 * hj + nt) (fun i => mr (200 * ri + i)) i) ((40000 * hj) + (nt + i)) (mr ((200 * ri) + i))) = (apG mt (40000 * hj + nt) (fun i => mr (200 * ri + i)) (i + 1)) from by rw [← apG_s mt (40000 * hj + nt) (fun i => mr (200 * ri + i)) i, Nat.add_assoc]] at hW
              have hW : Wd D A s [(z0, .inr (5, [.ref zr, .ref zs, .ref zt, .ref zc, .ref zm, .ref zk, .ref zh, .ref zd, .ref zf, .int (nI (ml)), .ref zp, .int (nI (mps)), .ref za, .ref ze, .int (be), .ref zn, .ref zb, .ref zv, .ref zw, .ref zo, .ref zq, .long (nu), .int (bq), .int (fg), .ref zl, .int (nI (hg)), .int (nI (cz)), .ref zi])), (zt, .inl (cy 0, 160000, .inl (apG mt (40000 * hj + nt) (fun i => mr (200 * ri + i)) (i + 1)))), (zc, .inl (cy 0, 4, .inl (upd mcn hj (nI (nt + i))))), (zs, .inl (cy 0, 8, .inl (ms))), (zr, .inl (cy 0, 1600, .inl (mr)))] H locs := hW
              refine lv_aload_n hx hb dX5_take_78 rfl (lv_at hl 0 rfl) ?_
              refine va_get (D := D) (ci := 5) (v := .ref zc) (C := RX5) (T := TX5) (N := 28) hx hb hts i_X5_take_X5 hown hK hW.1 0 rfl rfl 3 (by decide) (hts (.fieldLink RX5 20 "TreeHashesModel" "count" "[I") f_X5_take_0) (fun _ h9 => h9) rfl dX5_take_79 ?_
              refine lv_iload_n hx hb dX5_take_82 rfl (lv_at hl 1 rfl) ?_
              refine lv_dup2_11 hx hb dX5_take_83 rfl rfl ?_
              refine rI hx hb hK hW 2 rfl (k := hj) (by omega) (by omega) dX5_take_84 ?_
              refine tI (x' := nI (nt + i)) (pk_us) ?_
              refine lv_iconst (v := nI (1)) hx hb dX5_take_85 (by decide) ?_
              refine lv_iadd hx hb dX5_take_86 ?_
              refine tI (nI_add _ _) ?_
              refine wI hx hb hK hW 2 rfl (k := hj) (by omega) (by omega) dX5_take_87 (fun H locs hW => ?_)
              have hW : Wd D A s [(z0, .inr (5, [.ref zr, .ref zs, .ref zt, .ref zc, .ref zm, .ref zk, .ref zh, .ref zd, .ref zf, .int (nI (ml)), .ref zp, .int (nI (mps)), .ref za, .ref ze, .int (be), .ref zn, .ref zb, .ref zv, .ref zw, .ref zo, .ref zq, .long (nu), .int (bq), .int (fg), .ref zl, .int (nI (hg)), .int (nI (cz)), .ref zi])), (zt, .inl (cy 0, 160000, .inl (apG mt (40000 * hj + nt) (fun i => mr (200 * ri + i)) (i + 1)))), (zc, .inl (cy 0, 4, .inl (upd (upd mcn hj (nI (nt + i))) hj (nI ((nt + i) + 1))))), (zs, .inl (cy 0, 8, .inl (ms))), (zr, .inl (cy 0, 1600, .inl (mr)))] H locs := hW
              rw [show (upd (upd mcn hj (nI (nt + i))) hj (nI ((nt + i) + 1))) = (upd mcn hj (nI (nt + (i + 1)))) from upd_upd _ _ _ _] at hW
              have hW : Wd D A s [(z0, .inr (5, [.ref zr, .ref zs, .ref zt, .ref zc, .ref zm, .ref zk, .ref zh, .ref zd, .ref zf, .int (nI (ml)), .ref zp, .int (nI (mps)), .ref za, .ref ze, .int (be), .ref zn, .ref zb, .ref zv, .ref zw, .ref zo, .ref zq, .long (nu), .int (bq), .int (fg), .ref zl, .int (nI (hg)), .int (nI (cz)), .ref zi])), (zt, .inl (cy 0, 160000, .inl (apG mt (40000 * hj + nt) (fun i => mr (200 * ri + i)) (i + 1)))), (zc, .inl (cy 0, 4, .inl (upd mcn hj (nI (nt + (i + 1)))))), (zs, .inl (cy 0, 8, .inl (ms))), (zr, .inl (cy 0, 1600, .inl (mr)))] H locs := hW
              refine lv_iinc (v := nI (i + 1)) (lv' := [(3, .int (nI (i + 1))), (0, .ref z0), (1, .int (nI (hj))), (2, .int (nI (ri)))]) hx hb dX5_take_88 hl (k := 3) rfl (nI_1 _) (by decide) rfl (fun ls hl => ?_)
              refine lv_goto (tgt := 40) hx hb dX5_take_91 (by decide) ?_
              exact ih40 (i + 1) (by omega) (by omega) _ _ hW _ (lv_sub hl [1, 2, 3, 0] rfl)
        rw [← upd_same hct, ← apG_0 mt (40000 * hj + nt) (fun i => mr (200 * ri + i))] at hW
        exact loop40 _ 0 (Nat.lt_succ_self _) (by omega) _ _ hW _ (lv_sub hl [1, 2, 3, 0] rfl)
      · skip
        exfalso; omega
    · skip
      exfalso; omega

set_option maxHeartbeats 4000000 in
set_option maxRecDepth 100000 in
theorem c_X5_fill_b (l : Launch) (D : va_G) (cy : Nat → ClassId) (t : Nat × Nat) (z0 : Nat) (zr : Nat) (zs : Nat) (zt : Nat) (zc : Nat) (zm : Nat) (zk : Nat) (zh : Nat) (zd : Nat) (zf : Nat) (ml : Nat) (zp : Nat) (mps : Nat) (za : Nat) (ze : Nat) (be : Int32) (zn : Nat) (zb : Nat) (zv : Nat) (zw : Nat) (zo : Nat) (zq : Nat) (nu : Int64) (bq : Int32) (fg : Int32) (zl : Nat) (hg : Nat) (cz : Nat) (zi : Nat) (x : Int32) (y : Int32) (fr : Int32) (sp : Int32) (hbd : x < 0 ∨ nI 4 ≤ x) (sz : Nat) : Met l yX5_fill wsX5_fill ({ frames := 1, cells := 0, slots := 0, locals := 20 }) (PcW D cy t [(z0, .inr (5, [.ref zr, .ref zs, .ref zt, .ref zc, .ref zm, .ref zk, .ref zh, .ref zd, .ref zf, .int (nI (ml)), .ref zp, .int (nI (mps)), .ref za, .ref ze, .int (be), .ref zn, .ref zb, .ref zv, .ref zw, .ref zo, .ref zq, .long (nu), .int (bq), .int (fg), .ref zl, .int (nI (hg)), .int (nI (cz)), .ref zi]))] [.ref z0, .int (x), .int (y), .int (fr), .int (sp)] sz) (QiA D cy (fun (r : Int32) (u : Unit) => (r = (-2 : Int32))) (fun u : Unit => [(z0, .inr (5, [.ref zr, .ref zs, .ref zt, .ref zc, .ref zm, .ref zk, .ref zh, .ref zd, .ref zf, .int (nI (ml)), .ref zp, .int (nI (mps)), .ref za, .ref ze, .int (be), .ref zn, .ref zb, .ref zv, .ref zw, .ref zo, .ref zq, .long (nu), .int (bq), .int (fg), .ref zl, .int (nI (hg)), .int (nI (cz)), .ref zi]))]) (va_A [(z0, .inr (5, [.ref zr, .ref zs, .ref zt, .ref zc, .ref zm, .ref zk, .ref zh, .ref zd, .ref zf, .int (nI (ml)), .ref zp, .int (nI (mps)), .ref za, .ref ze, .int (be), .ref zn, .ref zb, .ref zv, .ref zw, .ref zo, .ref zq, .long (nu), .int (bq), .int (fg), .ref zl, .int (nI (hg)), .int (nI (cz)), .ref zi]))] sz)) 0 0 (va_A [(z0, .inr (5, [.ref zr, .ref zs, .ref zt, .ref zc, .ref zm, .ref zk, .ref zh, .ref zd, .ref zf, .int (nI (ml)), .ref zp, .int (nI (mps)), .ref za, .ref ze, .int (be), .ref zn, .ref zb, .ref zv, .ref zw, .ref zo, .ref zq, .long (nu), .int (bq), .int (fg), .ref zl, .int (nI (hg)), .int (nI (cz)), .ref zi]))] sz) := by
  refine M_ofW (cc := cX5_fill) (maxL := 6) (ret := (some .int)) (by decide) rfl (Nat.le_of_ble_eq_true rfl) ?_
  intro p e s m below meth c A ls args Q hQ S0 hr hlocks hnm hK hst hA hW hl
  have hx := S0.1; have hb := S0.2.1; have hml := S0.2.2.1; have hown := S0.2.2.2.1; have hts := S0.2.2.2.2
  have hl : lv_has ls 6 [(0, .ref z0), (1, .int (x)), (2, .int (y)), (3, .int (fr)), (4, .int (sp))] := hl
  refine lv_iload_n hx hb dX5_fill_0 rfl (lv_at hl 1 rfl) ?_
  refine kSi (As := [.int (x)]) (rest := []) S0 hK hst hA hW [] (fun sz => c_X5_isHasher_b l D cy t x (hbd) sz) rfl (by decide) (va_cwS 1 hts gX5_fill_X5_isHasher rfl rfl rfl (by decide +kernel) ⟨Nat.le_of_ble_eq_true rfl, Nat.le_of_ble_eq_true rfl⟩) (fun _ => rfl) rfl hl.1 rfl (Nat.le_of_ble_eq_true rfl) dX5_fill_1 ⟨Nat.le_of_ble_eq_true rfl, Nat.le_of_ble_eq_true rfl⟩ (fun r1 u1 H locs p1 hW => ?_)
  have hW : Wd D A s [(z0, .inr (5, [.ref zr, .ref zs, .ref zt, .ref zc, .ref zm, .ref zk, .ref zh, .ref zd, .ref zf, .int (nI (ml)), .ref zp, .int (nI (mps)), .ref za, .ref ze, .int (be), .ref zn, .ref zb, .ref zv, .ref zw, .ref zo, .ref zq, .long (nu), .int (bq), .int (fg), .ref zl, .int (nI (hg)), .int (nI (cz)), .ref zi]))] H locs := hW
  have q1 : r1 = nI (0) := p1
  subst q1
  refine zEq (a := 0) (tgt := 18) hx hb dX5_fill_4 (by decide) (by omega) (fun h4 => ?_) (fun h4 => ?_)
  · skip
    refine lv_bipush (v := (-2 : Int32)) hx hb dX5_fill_18 (by decide) ?_
    exact eI hQ hx hb hr hlocks hK hW () (rfl) (rfl) dX5_fill_20
  · skip
    exfalso; omega

set_option maxHeartbeats 4000000 in
set_option maxRecDepth 100000 in
theorem c_X5_fill_bn (l : Launch) (D : va_G) (cy : Nat → ClassId) (t : Nat × Nat) (z0 : Nat) (zr : Nat) (zs : Nat) (zt : Nat) (zc : Nat) (zm : Nat) (zk : Nat) (zh : Nat) (zd : Nat) (zf : Nat) (ml : Nat) (zp : Nat) (mps : Nat) (za : Nat) (ze : Nat) (be : Int32) (zn : Nat) (zb : Nat) (zv : Nat) (zw : Nat) (zo : Nat) (zq : Nat) (nu : Int64) (bq : Int32) (fg : Int32) (zl : Nat) (hg : Nat) (cz : Nat) (zi : Nat) (hj : Nat) (y : Int32) (fr : Int32) (sp : Int32) (hj4 : hj < 4) (hbn : y < 0 ∨ nI 5000 < y) (sz : Nat) : Met l yX5_fill wsX5_fill ({ frames := 1, cells := 0, slots := 0, locals := 20 }) (PcW D cy t [(z0, .inr (5, [.ref zr, .ref zs, .ref zt, .ref zc, .ref zm, .ref zk, .ref zh, .ref zd, .ref zf, .int (nI (ml)), .ref zp, .int (nI (mps)), .ref za, .ref ze, .int (be), .ref zn, .ref zb, .ref zv, .ref zw, .ref zo, .ref zq, .long (nu), .int (bq), .int (fg), .ref zl, .int (nI (hg)), .int (nI (cz)), .ref zi]))] [.ref z0, .int (nI (hj)), .int (y), .int (fr), .int (sp)] sz) (QiA D cy (fun (r : Int32) (u : Unit) => (r = (-2 : Int32))) (fun u : Unit => [(z0, .inr (5, [.ref zr, .ref zs, .ref zt, .ref zc, .ref zm, .ref zk, .ref zh, .ref zd, .ref zf, .int (nI (ml)), .ref zp, .int (nI (mps)), .ref za, .ref ze, .int (be), .ref zn, .ref zb, .ref zv, .ref zw, .ref zo, .ref zq, .long (nu), .int (bq), .int (fg), .ref zl, .int (nI (hg)), .int (nI (cz)), .ref zi]))]) (va_A [(z0, .inr (5, [.ref zr, .ref zs, .ref zt, .ref zc, .ref zm, .ref zk, .ref zh, .ref zd, .ref zf, .int (nI (ml)), .ref zp, .int (nI (mps)), .ref za, .ref ze, .int (be), .ref zn, .ref zb, .ref zv, .ref zw, .ref zo, .ref zq, .long (nu), .int (bq), .int (fg), .ref zl, .int (nI (hg)), .int (nI (cz)), .ref zi]))] sz)) 0 0 (va_A [(z0, .inr (5, [.ref zr, .ref zs, .ref zt, .ref zc, .ref zm, .ref zk, .ref zh, .ref zd, .ref zf, .int (nI (ml)), .ref zp, .int (nI (mps)), .ref za, .ref ze, .int (be), .ref zn, .ref zb, .ref zv, .ref zw, .ref zo, .ref zq, .long (nu), .int (bq), .int (fg), .ref zl, .int (nI (hg)), .int (nI (cz)), .ref zi]))] sz) := by
  refine M_ofW (cc := cX5_fill) (maxL := 6) (ret := (some .int)) (by decide) rfl (Nat.le_of_ble_eq_true rfl) ?_
  intro p e s m below meth c A ls args Q hQ S0 hr hlocks hnm hK hst hA hW hl
  have hx := S0.1; have hb := S0.2.1; have hml := S0.2.2.1; have hown := S0.2.2.2.1; have hts := S0.2.2.2.2
  have hl : lv_has ls 6 [(0, .ref z0), (1, .int (nI (hj))), (2, .int (y)), (3, .int (fr)), (4, .int (sp))] := hl
  refine lv_iload_n hx hb dX5_fill_0 rfl (lv_at hl 1 rfl) ?_
  refine kSi (As := [.int (nI (hj))]) (rest := []) S0 hK hst hA hW [] (fun sz => c_X5_isHasher l D cy t hj (by omega) sz) rfl (by decide) (va_cwS 1 hts gX5_fill_X5_isHasher rfl rfl rfl (by decide +kernel) ⟨Nat.le_of_ble_eq_true rfl, Nat.le_of_ble_eq_true rfl⟩) (fun _ => rfl) rfl hl.1 rfl (Nat.le_of_ble_eq_true rfl) dX5_fill_1 ⟨Nat.le_of_ble_eq_true rfl, Nat.le_of_ble_eq_true rfl⟩ (fun r1 u1 H locs p1 hW => ?_)
  have hW : Wd D A s [(z0, .inr (5, [.ref zr, .ref zs, .ref zt, .ref zc, .ref zm, .ref zk, .ref zh, .ref zd, .ref zf, .int (nI (ml)), .ref zp, .int (nI (mps)), .ref za, .ref ze, .int (be), .ref zn, .ref zb, .ref zv, .ref zw, .ref zo, .ref zq, .long (nu), .int (bq), .int (fg), .ref zl, .int (nI (hg)), .int (nI (cz)), .ref zi]))] H locs := hW
  have q1 : r1 = nI (1) := p1
  subst q1
  refine zEq (a := 1) (tgt := 18) hx hb dX5_fill_4 (by decide) (by omega) (fun h4 => ?_) (fun h4 => ?_)
  · skip
    exfalso; omega
  · skip
    refine lv_iload_n hx hb dX5_fill_7 rfl (lv_at hl 2 rfl) ?_
    refine lv_if_lt (tgt := 18) hx hb dX5_fill_8 (by decide) (fun h8 => ?_) (fun h8 => ?_)
    · skip
      refine lv_bipush (v := (-2 : Int32)) hx hb dX5_fill_18 (by decide) ?_
      exact eI hQ hx hb hr hlocks hK hW () (rfl) (rfl) dX5_fill_20
    · skip
      refine lv_iload_n hx hb dX5_fill_11 rfl (lv_at hl 2 rfl) ?_
      refine lv_sipush (v := nI (5000)) hx hb dX5_fill_12 (by decide) ?_
      refine lv_icmp_le (tgt := 21) hx hb dX5_fill_15 (by decide) (fun h15 => ?_) (fun h15 => ?_)
      · skip
        exact hbn.elim (fun q => absurd q h8) (fun q => absurd h15 (Int32.not_le.mpr q))
      · skip
        refine lv_bipush (v := (-2 : Int32)) hx hb dX5_fill_18 (by decide) ?_
        exact eI hQ hx hb hr hlocks hK hW () (rfl) (rfl) dX5_fill_20

theorem f_X5_fill_r_0 : Cond.fieldLink RX5 20 "TreeHashesModel" "count" "[I" ∈ wsX5_fill := by decide +kernel
theorem i_X5_fill_r_X5 : ∀ w ∈ wsX50, w ∈ wsX5_fill := by decide +kernel
theorem f_X5_fill_r_2 : Cond.constant RX5 146 (40000) ∈ wsX5_fill := by decide +kernel
set_option maxHeartbeats 4000000 in
set_option maxRecDepth 100000 in
theorem c_X5_fill_r (l : Launch) (D : va_G) (cy : Nat → ClassId) (t : Nat × Nat) (z0 : Nat) (zr : Nat) (zs : Nat) (zt : Nat) (zc : Nat) (zm : Nat) (zk : Nat) (zh : Nat) (zd : Nat) (zf : Nat) (ml : Nat) (zp : Nat) (mps : Nat) (za : Nat) (ze : Nat) (be : Int32) (zn : Nat) (zb : Nat) (zv : Nat) (zw : Nat) (zo : Nat) (zq : Nat) (nu : Int64) (bq : Int32) (fg : Int32) (zl : Nat) (hg : Nat) (cz : Nat) (zi : Nat) (mt : Nat → Int32) (mcn : Nat → Int32) (hj : Nat) (nt : Nat) (n : Nat) (fr : Int32) (sp : Int32) (hj4 : hj < 4) (hct : mcn hj = nI nt) (hnt : nt ≤ 40000) (hn5 : n ≤ 5000) (hfull : 40000 < nt + n) (sz : Nat) : Met l yX5_fill wsX5_fill ({ frames := 1, cells := 0, slots := 0, locals := 20 }) (PcW D cy t [(z0, .inr (5, [.ref zr, .ref zs, .ref zt, .ref zc, .ref zm, .ref zk, .ref zh, .ref zd, .ref zf, .int (nI (ml)), .ref zp, .int (nI (mps)), .ref za, .ref ze, .int (be), .ref zn, .ref zb, .ref zv, .ref zw, .ref zo, .ref zq, .long (nu), .int (bq), .int (fg), .ref zl, .int (nI (hg)), .int (nI (cz)), .ref zi])), (zt, .inl (cy 0, 160000, .inl (mt))), (zc, .inl (cy 0, 4, .inl (mcn)))] [.ref z0, .int (nI (hj)), .int (nI (n)), .int (fr), .int (sp)] sz) (QiA D cy (fun (r : Int32) (u : Unit) => (r = (-3 : Int32))) (fun u : Unit => [(z0, .inr (5, [.ref zr, .ref zs, .ref zt, .ref zc, .ref zm, .ref zk, .ref zh, .ref zd, .ref zf, .int (nI (ml)), .ref zp, .int (nI (mps)), .ref za, .ref ze, .int (be), .ref zn, .ref zb, .ref zv, .ref zw, .ref zo, .ref zq, .long (nu), .int (bq), .int (fg), .ref zl, .int (nI (hg)), .int (nI (cz)), .ref zi])), (zt, .inl (cy 0, 160000, .inl (mt))), (zc, .inl (cy 0, 4, .inl (mcn)))]) (va_A [(z0, .inr (5, [.ref zr, .ref zs, .ref zt, .ref zc, .ref zm, .ref zk, .ref zh, .ref zd, .ref zf, .int (nI (ml)), .ref zp, .int (nI (mps)), .ref za, .ref ze, .int (be), .ref zn, .ref zb, .ref zv, .ref zw, .ref zo, .ref zq, .long (nu), .int (bq), .int (fg), .ref zl, .int (nI (hg)), .int (nI (cz)), .ref zi])), (zt, .inl (cy 0, 160000, .inl (mt))), (zc, .inl (cy 0, 4, .inl (mcn)))] sz)) 0 0 (va_A [(z0, .inr (5, [.ref zr, .ref zs, .ref zt, .ref zc, .ref zm, .ref zk, .ref zh, .ref zd, .ref zf, .int (nI (ml)), .ref zp, .int (nI (mps)), .ref za, .ref ze, .int (be), .ref zn, .ref zb, .ref zv, .ref zw, .ref zo, .ref zq, .long (nu), .int (bq), .int (fg), .ref zl, .int (nI (hg)), .int (nI (cz)), .ref zi])), (zt, .inl (cy 0, 160000, .inl (mt))), (zc, .inl (cy 0, 4, .inl (mcn)))] sz) := by
  refine M_ofW (cc := cX5_fill) (maxL := 6) (ret := (some .int)) (by decide) rfl (Nat.le_of_ble_eq_true rfl) ?_
  intro p e s m below meth c A ls args Q hQ S0 hr hlocks hnm hK hst hA hW hl
  have hx := S0.1; have hb := S0.2.1; have hml := S0.2.2.1; have hown := S0.2.2.2.1; have hts := S0.2.2.2.2
  have hl : lv_has ls 6 [(0, .ref z0), (1, .int (nI (hj))), (2, .int (nI (n))), (3, .int (fr)), (4, .int (sp))] := hl
  refine lv_iload_n hx hb dX5_fill_0 rfl (lv_at hl 1 rfl) ?_
  refine kSi (As := [.int (nI (hj))]) (rest := []) S0 hK hst hA hW [] (fun sz => c_X5_isHasher l D cy t hj (by omega) sz) rfl (by decide) (va_cwS 1 hts gX5_fill_X5_isHasher rfl rfl rfl (by decide +kernel) ⟨Nat.le_of_ble_eq_true rfl, Nat.le_of_ble_eq_true rfl⟩) (fun _ => rfl) rfl hl.1 rfl (Nat.le_of_ble_eq_true rfl) dX5_fill_1 ⟨Nat.le_of_ble_eq_true rfl, Nat.le_of_ble_eq_true rfl⟩ (fun r1 u1 H locs p1 hW => ?_)
  have hW : Wd D A s [(z0, .inr (5, [.ref zr, .ref zs, .ref zt, .ref zc, .ref zm, .ref zk, .ref zh, .ref zd, .ref zf, .int (nI (ml)), .ref zp, .int (nI (mps)), .ref za, .ref ze, .int (be), .ref zn, .ref zb, .ref zv, .ref zw, .ref zo, .ref zq, .long (nu), .int (bq), .int (fg), .ref zl, .int (nI (hg)), .int (nI (cz)), .ref zi])), (zt, .inl (cy 0, 160000, .inl (mt))), (zc, .inl (cy 0, 4, .inl (mcn)))] H locs := hW
  have q1 : r1 = nI (1) := p1
  subst q1
  refine zEq (a := 1) (tgt := 18) hx hb dX5_fill_4 (by decide) (by omega) (fun h4 => ?_) (fun h4 => ?_)
  · skip
    exfalso; omega
  · skip
    refine lv_iload_n hx hb dX5_fill_7 rfl (lv_at hl 2 rfl) ?_
    refine zLt (a := n) (tgt := 18) hx hb dX5_fill_8 (by decide) (by omega) ?_
    refine lv_iload_n hx hb dX5_fill_11 rfl (lv_at hl 2 rfl) ?_
    refine lv_sipush (v := nI (5000)) hx hb dX5_fill_12 (by decide) ?_
    refine iLe (a := n) (b := 5000) (tgt := 21) hx hb dX5_fill_15 (by decide) (by omega) (by omega) (fun h15 => ?_) (fun h15 => ?_)
    · skip
      refine lv_aload_n hx hb dX5_fill_21 rfl (lv_at hl 0 rfl) ?_
      refine va_get (D := D) (ci := 5) (v := .ref zc) (C := RX5) (T := TX5) (N := 28) hx hb hts i_X5_fill_r_X5 hown hK hW.1 0 rfl rfl 3 (by decide) (hts (.fieldLink RX5 20 "TreeHashesModel" "count" "[I") f_X5_fill_r_0) (fun _ h9 => h9) rfl dX5_fill_22 ?_
      refine lv_iload_n hx hb dX5_fill_25 rfl (lv_at hl 1 rfl) ?_
      refine rI hx hb hK hW 2 rfl (k := hj) (by omega) (by omega) dX5_fill_26 ?_
      refine tI (x' := nI (nt)) (hct) ?_
      refine lv_iload_n hx hb dX5_fill_27 rfl (lv_at hl 2 rfl) ?_
      refine lv_iadd hx hb dX5_fill_28 ?_
      refine tI (nI_add _ _) ?_
      refine lv_ldc (v := (40000 : Int32)) hx hb hown (hts (.constant RX5 146 (40000)) f_X5_fill_r_2) dX5_fill_29 ?_
      refine tI (x' := nI 40000) (by decide) ?_
      refine iLe (a := nt + n) (b := 40000) (tgt := 37) hx hb dX5_fill_31 (by decide) (by omega) (by omega) (fun h31 => ?_) (fun h31 => ?_)
      · skip
        exfalso; omega
      · skip
        refine lv_bipush (v := (-3 : Int32)) hx hb dX5_fill_34 (by decide) ?_
        exact eI hQ hx hb hr hlocks hK hW () (rfl) (rfl) dX5_fill_36
    · skip
      exfalso; omega

theorem f_X5_fill_0 : Cond.fieldLink RX5 20 "TreeHashesModel" "count" "[I" ∈ wsX5_fill := by decide +kernel
theorem i_X5_fill_X5 : ∀ w ∈ wsX50, w ∈ wsX5_fill := by decide +kernel
theorem f_X5_fill_2 : Cond.constant RX5 146 (40000) ∈ wsX5_fill := by decide +kernel
theorem f_X5_fill_3 : Cond.fieldLink RX5 17 "TreeHashesModel" "taken" "[I" ∈ wsX5_fill := by decide +kernel
set_option maxHeartbeats 4000000 in
set_option maxRecDepth 100000 in
theorem c_X5_fill (l : Launch) (D : va_G) (cy : Nat → ClassId) (t : Nat × Nat) (z0 : Nat) (zr : Nat) (zs : Nat) (zt : Nat) (zc : Nat) (zm : Nat) (zk : Nat) (zh : Nat) (zd : Nat) (zf : Nat) (ml : Nat) (zp : Nat) (mps : Nat) (za : Nat) (ze : Nat) (be : Int32) (zn : Nat) (zb : Nat) (zv : Nat) (zw : Nat) (zo : Nat) (zq : Nat) (nu : Int64) (bq : Int32) (fg : Int32) (zl : Nat) (hg : Nat) (cz : Nat) (zi : Nat) (mt : Nat → Int32) (mcn : Nat → Int32) (hj : Nat) (nt : Nat) (n : Nat) (fr : Int32) (sp : Int32) (hj4 : hj < 4) (hct : mcn hj = nI nt) (hnt : nt ≤ 40000) (hn5 : n ≤ 5000) (hfit : nt + n ≤ 40000) (sz : Nat) : Met l yX5_fill wsX5_fill ({ frames := 1, cells := 0, slots := 0, locals := 20 }) (PcW D cy t [(z0, .inr (5, [.ref zr, .ref zs, .ref zt, .ref zc, .ref zm, .ref zk, .ref zh, .ref zd, .ref zf, .int (nI (ml)), .ref zp, .int (nI (mps)), .ref za, .ref ze, .int (be), .ref zn, .ref zb, .ref zv, .ref zw, .ref zo, .ref zq, .long (nu), .int (bq), .int (fg), .ref zl, .int (nI (hg)), .int (nI (cz)), .ref zi])), (zt, .inl (cy 0, 160000, .inl (mt))), (zc, .inl (cy 0, 4, .inl (mcn)))] [.ref z0, .int (nI (hj)), .int (nI (n)), .int (fr), .int (sp)] sz) (QiA D cy (fun (r : Int32) (u : Unit) => (r = nI (nt + n))) (fun u : Unit => [(z0, .inr (5, [.ref zr, .ref zs, .ref zt, .ref zc, .ref zm, .ref zk, .ref zh, .ref zd, .ref zf, .int (nI (ml)), .ref zp, .int (nI (mps)), .ref za, .ref ze, .int (be), .ref zn, .ref zb, .ref zv, .ref zw, .ref zo, .ref zq, .long (nu), .int (bq), .int (fg), .ref zl, .int (nI (hg)), .int (nI (cz)), .ref zi])), (zt, .inl (cy 0, 160000, .inl (apG mt (40000 * hj + nt) (fun i => (fr + ((nI (i)) * sp)) &&& (nI (255))) n))), (zc, .inl (cy 0, 4, .inl (upd mcn hj (nI (nt + n)))))]) (va_A [(z0, .inr (5, [.ref zr, .ref zs, .ref zt, .ref zc, .ref zm, .ref zk, .ref zh, .ref zd, .ref zf, .int (nI (ml)), .ref zp, .int (nI (mps)), .ref za, .ref ze, .int (be), .ref zn, .ref zb, .ref zv, .ref zw, .ref zo, .ref zq, .long (nu), .int (bq), .int (fg), .ref zl, .int (nI (hg)), .int (nI (cz)), .ref zi])), (zt, .inl (cy 0, 160000, .inl (mt))), (zc, .inl (cy 0, 4, .inl (mcn)))] sz)) 0 0 (va_A [(z0, .inr (5, [.ref zr, .ref zs, .ref zt, .ref zc, .ref zm, .ref zk, .ref zh, .ref zd, .ref zf, .int (nI (ml)), .ref zp, .int (nI (mps)), .ref za, .ref ze, .int (be), .ref zn, .ref zb, .ref zv, .ref zw, .ref zo, .ref zq, .long (nu), .int (bq), .int (fg), .ref zl, .int (nI (hg)), .int (nI (cz)), .ref zi])), (zt, .inl (cy 0, 160000, .inl (mt))), (zc, .inl (cy 0, 4, .inl (mcn)))] sz) := by
  refine M_ofW (cc := cX5_fill) (maxL := 6) (ret := (some .int)) (by decide) rfl (Nat.le_of_ble_eq_true rfl) ?_
  intro p e s m below meth c A ls args Q hQ S0 hr hlocks hnm hK hst hA hW hl
  have hx := S0.1; have hb := S0.2.1; have hml := S0.2.2.1; have hown := S0.2.2.2.1; have hts := S0.2.2.2.2
  have hl : lv_has ls 6 [(0, .ref z0), (1, .int (nI (hj))), (2, .int (nI (n))), (3, .int (fr)), (4, .int (sp))] := hl
  refine lv_iload_n hx hb dX5_fill_0 rfl (lv_at hl 1 rfl) ?_
  refine kSi (As := [.int (nI (hj))]) (rest := []) S0 hK hst hA hW [] (fun sz => c_X5_isHasher l D cy t hj (by omega) sz) rfl (by decide) (va_cwS 1 hts gX5_fill_X5_isHasher rfl rfl rfl (by decide +kernel) ⟨Nat.le_of_ble_eq_true rfl, Nat.le_of_ble_eq_true rfl⟩) (fun _ => rfl) rfl hl.1 rfl (Nat.le_of_ble_eq_true rfl) dX5_fill_1 ⟨Nat.le_of_ble_eq_true rfl, Nat.le_of_ble_eq_true rfl⟩ (fun r1 u1 H locs p1 hW => ?_)
  have hW : Wd D A s [(z0, .inr (5, [.ref zr, .ref zs, .ref zt, .ref zc, .ref zm, .ref zk, .ref zh, .ref zd, .ref zf, .int (nI (ml)), .ref zp, .int (nI (mps)), .ref za, .ref ze, .int (be), .ref zn, .ref zb, .ref zv, .ref zw, .ref zo, .ref zq, .long (nu), .int (bq), .int (fg), .ref zl, .int (nI (hg)), .int (nI (cz)), .ref zi])), (zt, .inl (cy 0, 160000, .inl (mt))), (zc, .inl (cy 0, 4, .inl (mcn)))] H locs := hW
  have q1 : r1 = nI (1) := p1
  subst q1
  refine zEq (a := 1) (tgt := 18) hx hb dX5_fill_4 (by decide) (by omega) (fun h4 => ?_) (fun h4 => ?_)
  · skip
    exfalso; omega
  · skip
    refine lv_iload_n hx hb dX5_fill_7 rfl (lv_at hl 2 rfl) ?_
    refine zLt (a := n) (tgt := 18) hx hb dX5_fill_8 (by decide) (by omega) ?_
    refine lv_iload_n hx hb dX5_fill_11 rfl (lv_at hl 2 rfl) ?_
    refine lv_sipush (v := nI (5000)) hx hb dX5_fill_12 (by decide) ?_
    refine iLe (a := n) (b := 5000) (tgt := 21) hx hb dX5_fill_15 (by decide) (by omega) (by omega) (fun h15 => ?_) (fun h15 => ?_)
    · skip
      refine lv_aload_n hx hb dX5_fill_21 rfl (lv_at hl 0 rfl) ?_
      refine va_get (D := D) (ci := 5) (v := .ref zc) (C := RX5) (T := TX5) (N := 28) hx hb hts i_X5_fill_X5 hown hK hW.1 0 rfl rfl 3 (by decide) (hts (.fieldLink RX5 20 "TreeHashesModel" "count" "[I") f_X5_fill_0) (fun _ h9 => h9) rfl dX5_fill_22 ?_
      refine lv_iload_n hx hb dX5_fill_25 rfl (lv_at hl 1 rfl) ?_
      refine rI hx hb hK hW 2 rfl (k := hj) (by omega) (by omega) dX5_fill_26 ?_
      refine tI (x' := nI (nt)) (hct) ?_
      refine lv_iload_n hx hb dX5_fill_27 rfl (lv_at hl 2 rfl) ?_
      refine lv_iadd hx hb dX5_fill_28 ?_
      refine tI (nI_add _ _) ?_
      refine lv_ldc (v := (40000 : Int32)) hx hb hown (hts (.constant RX5 146 (40000)) f_X5_fill_2) dX5_fill_29 ?_
      refine tI (x' := nI 40000) (by decide) ?_
      refine iLe (a := nt + n) (b := 40000) (tgt := 37) hx hb dX5_fill_31 (by decide) (by omega) (by omega) (fun h31 => ?_) (fun h31 => ?_)
      · skip
        refine lv_iconst (v := nI (0)) hx hb dX5_fill_37 (by decide) ?_
        refine lv_istore (lv' := [(5, .int (nI (0))), (0, .ref z0), (1, .int (nI (hj))), (2, .int (nI (n))), (3, .int (fr)), (4, .int (sp))]) hx hb dX5_fill_38 hl (by decide) rfl (fun ls hl => ?_)
        have loop40 : ∀ (nF : Nat) (i : Nat), n - i < nF → (i ≤ n) → ∀ (H : Heap) (locs : List Loc), Wd D A s [(z0, .inr (5, [.ref zr, .ref zs, .ref zt, .ref zc, .ref zm, .ref zk, .ref zh, .ref zd, .ref zf, .int (nI (ml)), .ref zp, .int (nI (mps)), .ref za, .ref ze, .int (be), .ref zn, .ref zb, .ref zv, .ref zw, .ref zo, .ref zq, .long (nu), .int (bq), .int (fg), .ref zl, .int (nI (hg)), .int (nI (cz)), .ref zi])), (zt, .inl (cy 0, 160000, .inl (apG mt (40000 * hj + nt) (fun i => (fr + ((nI (i)) * sp)) &&& (nI (255))) i))), (zc, .inl (cy 0, 4, .inl (upd mcn hj (nI (nt + i)))))] H locs → ∀ ls : Array Slot, lv_has ls 6 [(0, .ref z0), (1, .int (nI (hj))), (2, .int (nI (n))), (3, .int (fr)), (4, .int (sp)), (5, .int (nI (i)))] → W p l e ({ frames := 1, cells := 0, slots := 0, locals := 20 }) s m args below meth c H locs 0 0 Q (F0 m 40 ls []) := by
          intro nF
          induction nF with
          | zero => intro i hf; exact absurd hf (Nat.not_lt_zero _)
          | succ nF ih40 =>
            intro i hf hi H locs hW ls hl
            refine lv_iload hx hb dX5_fill_40 (lv_at hl 5 rfl) ?_
            refine lv_iload_n hx hb dX5_fill_42 rfl (lv_at hl 2 rfl) ?_
            refine iGe (a := i) (b := n) (tgt := 89) hx hb dX5_fill_43 (by decide) (by omega) (by omega) (fun h43 => ?_) (fun h43 => ?_)
            · skip
              refine lv_aload_n hx hb dX5_fill_89 rfl (lv_at hl 0 rfl) ?_
              refine va_get (D := D) (ci := 5) (v := .ref zc) (C := RX5) (T := TX5) (N := 28) hx hb hts i_X5_fill_X5 hown hK hW.1 0 rfl rfl 3 (by decide) (hts (.fieldLink RX5 20 "TreeHashesModel" "count" "[I") f_X5_fill_0) (fun _ h9 => h9) rfl dX5_fill_90 ?_
              refine lv_iload_n hx hb dX5_fill_93 rfl (lv_at hl 1 rfl) ?_
              refine rI hx hb hK hW 2 rfl (k := hj) (by omega) (by omega) dX5_fill_94 ?_
              refine tI (x' := nI (nt + i)) (pk_us) ?_
              have e9 : i = n := by omega
              rw [e9] at hW
              exact eI hQ hx hb hr hlocks hK hW () (by rw [e9]) (rfl) dX5_fill_95
            · skip
              refine lv_aload_n hx hb dX5_fill_46 rfl (lv_at hl 0 rfl) ?_
              refine va_get (D := D) (ci := 5) (v := .ref zt) (C := RX5) (T := TX5) (N := 28) hx hb hts i_X5_fill_X5 hown hK hW.1 0 rfl rfl 2 (by decide) (hts (.fieldLink RX5 17 "TreeHashesModel" "taken" "[I") f_X5_fill_3) (fun _ h9 => h9) rfl dX5_fill_47 ?_
              refine lv_ldc (v := (40000 : Int32)) hx hb hown (hts (.constant RX5 146 (40000)) f_X5_fill_2) dX5_fill_50 ?_
              refine tI (x' := nI 40000) (by decide) ?_
              refine lv_iload_n hx hb dX5_fill_52 rfl (lv_at hl 1 rfl) ?_
              refine lv_imul hx hb dX5_fill_53 ?_
              refine tI (pk_mul _ _) ?_
              refine lv_aload_n hx hb dX5_fill_54 rfl (lv_at hl 0 rfl) ?_
              refine va_get (D := D) (ci := 5) (v := .ref zc) (C := RX5) (T := TX5) (N := 28) hx hb hts i_X5_fill_X5 hown hK hW.1 0 rfl rfl 3 (by decide) (hts (.fieldLink RX5 20 "TreeHashesModel" "count" "[I") f_X5_fill_0) (fun _ h9 => h9) rfl dX5_fill_55 ?_
              refine lv_iload_n hx hb dX5_fill_58 rfl (lv_at hl 1 rfl) ?_
              refine rI hx hb hK hW 2 rfl (k := hj) (by omega) (by omega) dX5_fill_59 ?_
              refine tI (x' := nI (nt + i)) (pk_us) ?_
              refine lv_iadd hx hb dX5_fill_60 ?_
              refine tI (nI_add _ _) ?_
              refine lv_iload_n hx hb dX5_fill_61 rfl (lv_at hl 3 rfl) ?_
              refine lv_iload hx hb dX5_fill_62 (lv_at hl 5 rfl) ?_
              refine lv_iload hx hb dX5_fill_64 (lv_at hl 4 rfl) ?_
              refine lv_imul hx hb dX5_fill_66 ?_
              refine lv_iadd hx hb dX5_fill_67 ?_
              refine lv_sipush (v := nI (255)) hx hb dX5_fill_68 (by decide) ?_
              refine lv_iand hx hb dX5_fill_71 ?_
              refine wI hx hb hK hW 1 rfl (k := (40000 * hj) + (nt + i)) (by omega) (by omega) dX5_fill_72 (fun H locs hW => ?_)
              have hW : Wd D A s [(z0, .inr (5, [.ref zr, .ref zs, .ref zt, .ref zc, .ref zm, .ref zk, .ref zh, .ref zd, .ref zf, .int (nI (ml)), .ref zp, .int (nI (mps)), .ref za, .ref ze, .int (be), .ref zn, .ref zb, .ref zv, .ref zw, .ref zo, .ref zq, .long (nu), .int (bq), .int (fg), .ref zl, .int (nI (hg)), .int (nI (cz)), .ref zi])), (zt, .inl (cy 0, 160000, .inl (upd (apG mt (40000 * hj + nt) (fun i => (fr + ((nI (i)) * sp)) &&& (nI (255))) i) ((40000 * hj) + (nt + i)) ((fr + ((nI (i)) * sp)) &&& (nI (255)))))), (zc, .inl (cy 0, 4, .inl (upd mcn hj (nI (nt + i)))))] H locs := hW
              rw [show (upd (apG mt (40000 * hj + nt) (fun i => (fr + ((nI (i)) * sp)) &&& (nI (255))) i) ((40000 * hj) + (nt + i)) ((fr + ((nI (i)) * sp)) &&& (nI (255)))) = (apG mt (40000 * hj + nt) (fun i => (fr + ((nI (i)) * sp)) &&& (nI (255))) (i + 1)) from by rw [← apG_s mt (40000 * hj + nt) (fun i => (fr + ((nI (i)) * sp)) &&& (nI (255))) i, Nat.add_assoc]] at hW
              have hW : Wd D A s [(z0, .inr (5, [.ref zr, .ref zs, .ref zt, .ref zc, .ref zm, .ref zk, .ref zh, .ref zd, .ref zf, .int (nI (ml)), .ref zp, .int (nI (mps)), .ref za, .ref ze, .int (be), .ref zn, .ref zb, .ref zv, .ref zw, .ref zo, .ref zq, .long (nu), .int (bq), .int (fg), .ref zl, .int (nI (hg)), .int (nI (cz)), .ref zi])), (zt, .inl (cy 0, 160000, .inl (apG mt (40000 * hj + nt) (fun i => (fr + ((nI (i)) * sp)) &&& (nI (255))) (i + 1)))), (zc, .inl (cy 0, 4, .inl (upd mcn hj (nI (nt + i)))))] H locs := hW
              refine lv_aload_n hx hb dX5_fill_73 rfl (lv_at hl 0 rfl) ?_
              refine va_get (D := D) (ci := 5) (v := .ref zc) (C := RX5) (T := TX5) (N := 28) hx hb hts i_X5_fill_X5 hown hK hW.1 0 rfl rfl 3 (by decide) (hts (.fieldLink RX5 20 "TreeHashesModel" "count" "[I") f_X5_fill_0) (fun _ h9 => h9) rfl dX5_fill_74 ?_
              refine lv_iload_n hx hb dX5_fill_77 rfl (lv_at hl 1 rfl) ?_
              refine lv_dup2_11 hx hb dX5_fill_78 rfl rfl ?_
              refine rI hx hb hK hW 2 rfl (k := hj) (by omega) (by omega) dX5_fill_79 ?_
              refine tI (x' := nI (nt + i)) (pk_us) ?_
              refine lv_iconst (v := nI (1)) hx hb dX5_fill_80 (by decide) ?_
              refine lv_iadd hx hb dX5_fill_81 ?_
              refine tI (nI_add _ _) ?_
              refine wI hx hb hK hW 2 rfl (k := hj) (by omega) (by omega) dX5_fill_82 (fun H locs hW => ?_)
              have hW : Wd D A s [(z0, .inr (5, [.ref zr, .ref zs, .ref zt, .ref zc, .ref zm, .ref zk, .ref zh, .ref zd, .ref zf, .int (nI (ml)), .ref zp, .int (nI (mps)), .ref za, .ref ze, .int (be), .ref zn, .ref zb, .ref zv, .ref zw, .ref zo, .ref zq, .long (nu), .int (bq), .int (fg), .ref zl, .int (nI (hg)), .int (nI (cz)), .ref zi])), (zt, .inl (cy 0, 160000, .inl (apG mt (40000 * hj + nt) (fun i => (fr + ((nI (i)) * sp)) &&& (nI (255))) (i + 1)))), (zc, .inl (cy 0, 4, .inl (upd (upd mcn hj (nI (nt + i))) hj (nI ((nt + i) + 1)))))] H locs := hW
              rw [show (upd (upd mcn hj (nI (nt + i))) hj (nI ((nt + i) + 1))) = (upd mcn hj (nI (nt + (i + 1)))) from upd_upd _ _ _ _] at hW
              have hW : Wd D A s [(z0, .inr (5, [.ref zr, .ref zs, .ref zt, .ref zc, .ref zm, .ref zk, .ref zh, .ref zd, .ref zf, .int (nI (ml)), .ref zp, .int (nI (mps)), .ref za, .ref ze, .int (be), .ref zn, .ref zb, .ref zv, .ref zw, .ref zo, .ref zq, .long (nu), .int (bq), .int (fg), .ref zl, .int (nI (hg)), .int (nI (cz)), .ref zi])), (zt, .inl (cy 0, 160000, .inl (apG mt (40000 * hj + nt) (fun i => (fr + ((nI (i)) * sp)) &&& (nI (255))) (i + 1)))), (zc, .inl (cy 0, 4, .inl (upd mcn hj (nI (nt + (i + 1))))))] H locs := hW
              refine lv_iinc (v := nI (i + 1)) (lv' := [(5, .int (nI (i + 1))), (0, .ref z0), (1, .int (nI (hj))), (2, .int (nI (n))), (3, .int (fr)), (4, .int (sp))]) hx hb dX5_fill_83 hl (k := 5) rfl (nI_1 _) (by decide) rfl (fun ls hl => ?_)
              refine lv_goto (tgt := 40) hx hb dX5_fill_86 (by decide) ?_
              exact ih40 (i + 1) (by omega) (by omega) _ _ hW _ (lv_sub hl [1, 2, 3, 4, 5, 0] rfl)
        rw [← upd_same hct, ← apG_0 mt (40000 * hj + nt) (fun i => (fr + ((nI (i)) * sp)) &&& (nI (255)))] at hW
        exact loop40 _ 0 (Nat.lt_succ_self _) (by omega) _ _ hW _ (lv_sub hl [1, 2, 3, 4, 5, 0] rfl)
      · skip
        exfalso; omega
    · skip
      exfalso; omega

set_option maxHeartbeats 4000000 in
set_option maxRecDepth 100000 in
theorem c_X5_told_b (l : Launch) (D : va_G) (cy : Nat → ClassId) (t : Nat × Nat) (z0 : Nat) (zr : Nat) (zs : Nat) (zt : Nat) (zc : Nat) (zm : Nat) (zk : Nat) (zh : Nat) (zd : Nat) (zf : Nat) (ml : Nat) (zp : Nat) (mps : Nat) (za : Nat) (ze : Nat) (be : Int32) (zn : Nat) (zb : Nat) (zv : Nat) (zw : Nat) (zo : Nat) (zq : Nat) (nu : Int64) (bq : Int32) (fg : Int32) (zl : Nat) (hg : Nat) (cz : Nat) (zi : Nat) (x : Int32) (y : Int32) (hbd : x < 0 ∨ nI 4 ≤ x) (sz : Nat) : Met l yX5_told wsX5_told ({ frames := 1, cells := 0, slots := 0, locals := 20 }) (PcW D cy t [(z0, .inr (5, [.ref zr, .ref zs, .ref zt, .ref zc, .ref zm, .ref zk, .ref zh, .ref zd, .ref zf, .int (nI (ml)), .ref zp, .int (nI (mps)), .ref za, .ref ze, .int (be), .ref zn, .ref zb, .ref zv, .ref zw, .ref zo, .ref zq, .long (nu), .int (bq), .int (fg), .ref zl, .int (nI (hg)), .int (nI (cz)), .ref zi]))] [.ref z0, .int (x), .int (y)] sz) (QiA D cy (fun (r : Int32) (u : Unit) => (r = (-2 : Int32))) (fun u : Unit => [(z0, .inr (5, [.ref zr, .ref zs, .ref zt, .ref zc, .ref zm, .ref zk, .ref zh, .ref zd, .ref zf, .int (nI (ml)), .ref zp, .int (nI (mps)), .ref za, .ref ze, .int (be), .ref zn, .ref zb, .ref zv, .ref zw, .ref zo, .ref zq, .long (nu), .int (bq), .int (fg), .ref zl, .int (nI (hg)), .int (nI (cz)), .ref zi]))]) (va_A [(z0, .inr (5, [.ref zr, .ref zs, .ref zt, .ref zc, .ref zm, .ref zk, .ref zh, .ref zd, .ref zf, .int (nI (ml)), .ref zp, .int (nI (mps)), .ref za, .ref ze, .int (be), .ref zn, .ref zb, .ref zv, .ref zw, .ref zo, .ref zq, .long (nu), .int (bq), .int (fg), .ref zl, .int (nI (hg)), .int (nI (cz)), .ref zi]))] sz)) 0 0 (va_A [(z0, .inr (5, [.ref zr, .ref zs, .ref zt, .ref zc, .ref zm, .ref zk, .ref zh, .ref zd, .ref zf, .int (nI (ml)), .ref zp, .int (nI (mps)), .ref za, .ref ze, .int (be), .ref zn, .ref zb, .ref zv, .ref zw, .ref zo, .ref zq, .long (nu), .int (bq), .int (fg), .ref zl, .int (nI (hg)), .int (nI (cz)), .ref zi]))] sz) := by
  refine M_ofW (cc := cX5_told) (maxL := 6) (ret := (some .int)) (by decide) rfl (Nat.le_of_ble_eq_true rfl) ?_
  intro p e s m below meth c A ls args Q hQ S0 hr hlocks hnm hK hst hA hW hl
  have hx := S0.1; have hb := S0.2.1; have hml := S0.2.2.1; have hown := S0.2.2.2.1; have hts := S0.2.2.2.2
  have hl : lv_has ls 6 [(0, .ref z0), (1, .int (x)), (2, .int (y))] := hl
  refine lv_iload_n hx hb dX5_told_0 rfl (lv_at hl 1 rfl) ?_
  refine kSi (As := [.int (x)]) (rest := []) S0 hK hst hA hW [] (fun sz => c_X5_isHasher_b l D cy t x (hbd) sz) rfl (by decide) (va_cwS 1 hts gX5_told_X5_isHasher rfl rfl rfl (by decide +kernel) ⟨Nat.le_of_ble_eq_true rfl, Nat.le_of_ble_eq_true rfl⟩) (fun _ => rfl) rfl hl.1 rfl (Nat.le_of_ble_eq_true rfl) dX5_told_1 ⟨Nat.le_of_ble_eq_true rfl, Nat.le_of_ble_eq_true rfl⟩ (fun r1 u1 H locs p1 hW => ?_)
  have hW : Wd D A s [(z0, .inr (5, [.ref zr, .ref zs, .ref zt, .ref zc, .ref zm, .ref zk, .ref zh, .ref zd, .ref zf, .int (nI (ml)), .ref zp, .int (nI (mps)), .ref za, .ref ze, .int (be), .ref zn, .ref zb, .ref zv, .ref zw, .ref zo, .ref zq, .long (nu), .int (bq), .int (fg), .ref zl, .int (nI (hg)), .int (nI (cz)), .ref zi]))] H locs := hW
  have q1 : r1 = nI (0) := p1
  subst q1
  refine zEq (a := 0) (tgt := 16) hx hb dX5_told_4 (by decide) (by omega) (fun h4 => ?_) (fun h4 => ?_)
  · skip
    refine lv_bipush (v := (-2 : Int32)) hx hb dX5_told_16 (by decide) ?_
    exact eI hQ hx hb hr hlocks hK hW () (rfl) (rfl) dX5_told_18
  · skip
    exfalso; omega

set_option maxHeartbeats 4000000 in
set_option maxRecDepth 100000 in
theorem c_X5_told_o (l : Launch) (D : va_G) (cy : Nat → ClassId) (t : Nat × Nat) (z0 : Nat) (zr : Nat) (zs : Nat) (zt : Nat) (zc : Nat) (zm : Nat) (zk : Nat) (zh : Nat) (zd : Nat) (zf : Nat) (ml : Nat) (zp : Nat) (mps : Nat) (za : Nat) (ze : Nat) (be : Int32) (zn : Nat) (zb : Nat) (zv : Nat) (zw : Nat) (zo : Nat) (zq : Nat) (nu : Int64) (bq : Int32) (fg : Int32) (zl : Nat) (hg : Nat) (cz : Nat) (zi : Nat) (hj : Nat) (y : Int32) (hj4 : hj < 4) (hbn : y < 0 ∨ nI 4 < y) (sz : Nat) : Met l yX5_told wsX5_told ({ frames := 1, cells := 0, slots := 0, locals := 20 }) (PcW D cy t [(z0, .inr (5, [.ref zr, .ref zs, .ref zt, .ref zc, .ref zm, .ref zk, .ref zh, .ref zd, .ref zf, .int (nI (ml)), .ref zp, .int (nI (mps)), .ref za, .ref ze, .int (be), .ref zn, .ref zb, .ref zv, .ref zw, .ref zo, .ref zq, .long (nu), .int (bq), .int (fg), .ref zl, .int (nI (hg)), .int (nI (cz)), .ref zi]))] [.ref z0, .int (nI (hj)), .int (y)] sz) (QiA D cy (fun (r : Int32) (u : Unit) => (r = (-2 : Int32))) (fun u : Unit => [(z0, .inr (5, [.ref zr, .ref zs, .ref zt, .ref zc, .ref zm, .ref zk, .ref zh, .ref zd, .ref zf, .int (nI (ml)), .ref zp, .int (nI (mps)), .ref za, .ref ze, .int (be), .ref zn, .ref zb, .ref zv, .ref zw, .ref zo, .ref zq, .long (nu), .int (bq), .int (fg), .ref zl, .int (nI (hg)), .int (nI (cz)), .ref zi]))]) (va_A [(z0, .inr (5, [.ref zr, .ref zs, .ref zt, .ref zc, .ref zm, .ref zk, .ref zh, .ref zd, .ref zf, .int (nI (ml)), .ref zp, .int (nI (mps)), .ref za, .ref ze, .int (be), .ref zn, .ref zb, .ref zv, .ref zw, .ref zo, .ref zq, .long (nu), .int (bq), .int (fg), .ref zl, .int (nI (hg)), .int (nI (cz)), .ref zi]))] sz)) 0 0 (va_A [(z0, .inr (5, [.ref zr, .ref zs, .ref zt, .ref zc, .ref zm, .ref zk, .ref zh, .ref zd, .ref zf, .int (nI (ml)), .ref zp, .int (nI (mps)), .ref za, .ref ze, .int (be), .ref zn, .ref zb, .ref zv, .ref zw, .ref zo, .ref zq, .long (nu), .int (bq), .int (fg), .ref zl, .int (nI (hg)), .int (nI (cz)), .ref zi]))] sz) := by
  refine M_ofW (cc := cX5_told) (maxL := 6) (ret := (some .int)) (by decide) rfl (Nat.le_of_ble_eq_true rfl) ?_
  intro p e s m below meth c A ls args Q hQ S0 hr hlocks hnm hK hst hA hW hl
  have hx := S0.1; have hb := S0.2.1; have hml := S0.2.2.1; have hown := S0.2.2.2.1; have hts := S0.2.2.2.2
  have hl : lv_has ls 6 [(0, .ref z0), (1, .int (nI (hj))), (2, .int (y))] := hl
  refine lv_iload_n hx hb dX5_told_0 rfl (lv_at hl 1 rfl) ?_
  refine kSi (As := [.int (nI (hj))]) (rest := []) S0 hK hst hA hW [] (fun sz => c_X5_isHasher l D cy t hj (by omega) sz) rfl (by decide) (va_cwS 1 hts gX5_told_X5_isHasher rfl rfl rfl (by decide +kernel) ⟨Nat.le_of_ble_eq_true rfl, Nat.le_of_ble_eq_true rfl⟩) (fun _ => rfl) rfl hl.1 rfl (Nat.le_of_ble_eq_true rfl) dX5_told_1 ⟨Nat.le_of_ble_eq_true rfl, Nat.le_of_ble_eq_true rfl⟩ (fun r1 u1 H locs p1 hW => ?_)
  have hW : Wd D A s [(z0, .inr (5, [.ref zr, .ref zs, .ref zt, .ref zc, .ref zm, .ref zk, .ref zh, .ref zd, .ref zf, .int (nI (ml)), .ref zp, .int (nI (mps)), .ref za, .ref ze, .int (be), .ref zn, .ref zb, .ref zv, .ref zw, .ref zo, .ref zq, .long (nu), .int (bq), .int (fg), .ref zl, .int (nI (hg)), .int (nI (cz)), .ref zi]))] H locs := hW
  have q1 : r1 = nI (1) := p1
  subst q1
  refine zEq (a := 1) (tgt := 16) hx hb dX5_told_4 (by decide) (by omega) (fun h4 => ?_) (fun h4 => ?_)
  · skip
    exfalso; omega
  · skip
    refine lv_iload_n hx hb dX5_told_7 rfl (lv_at hl 2 rfl) ?_
    refine lv_if_lt (tgt := 16) hx hb dX5_told_8 (by decide) (fun h8 => ?_) (fun h8 => ?_)
    · skip
      refine lv_bipush (v := (-2 : Int32)) hx hb dX5_told_16 (by decide) ?_
      exact eI hQ hx hb hr hlocks hK hW () (rfl) (rfl) dX5_told_18
    · skip
      refine lv_iload_n hx hb dX5_told_11 rfl (lv_at hl 2 rfl) ?_
      refine lv_iconst (v := nI (4)) hx hb dX5_told_12 (by decide) ?_
      refine lv_icmp_le (tgt := 19) hx hb dX5_told_13 (by decide) (fun h13 => ?_) (fun h13 => ?_)
      · skip
        exact hbn.elim (fun q => absurd q h8) (fun q => absurd h13 (Int32.not_le.mpr q))
      · skip
        refine lv_bipush (v := (-2 : Int32)) hx hb dX5_told_16 (by decide) ?_
        exact eI hQ hx hb hr hlocks hK hW () (rfl) (rfl) dX5_told_18

theorem f_X5_told_0_0 : Cond.fieldLink RX5 23 "TreeHashesModel" "mode" "[I" ∈ wsX5_told := by decide +kernel
theorem i_X5_told_0_X5 : ∀ w ∈ wsX50, w ∈ wsX5_told := by decide +kernel
set_option maxHeartbeats 4000000 in
set_option maxRecDepth 100000 in
theorem c_X5_told_0 (l : Launch) (D : va_G) (cy : Nat → ClassId) (t : Nat × Nat) (z0 : Nat) (zr : Nat) (zs : Nat) (zt : Nat) (zc : Nat) (zm : Nat) (zk : Nat) (zh : Nat) (zd : Nat) (zf : Nat) (ml : Nat) (zp : Nat) (mps : Nat) (za : Nat) (ze : Nat) (be : Int32) (zn : Nat) (zb : Nat) (zv : Nat) (zw : Nat) (zo : Nat) (zq : Nat) (nu : Int64) (bq : Int32) (fg : Int32) (zl : Nat) (hg : Nat) (cz : Nat) (zi : Nat) (mt : Nat → Int32) (mcn : Nat → Int32) (hj : Nat) (nt : Nat) (mmd : Nat → Int32) (hj4 : hj < 4) (hct : mcn hj = nI nt) (hnt : nt ≤ 40000) (sz : Nat) : Met l yX5_told wsX5_told ({ frames := 1, cells := 0, slots := 0, locals := 21 }) (PcW D cy t [(z0, .inr (5, [.ref zr, .ref zs, .ref zt, .ref zc, .ref zm, .ref zk, .ref zh, .ref zd, .ref zf, .int (nI (ml)), .ref zp, .int (nI (mps)), .ref za, .ref ze, .int (be), .ref zn, .ref zb, .ref zv, .ref zw, .ref zo, .ref zq, .long (nu), .int (bq), .int (fg), .ref zl, .int (nI (hg)), .int (nI (cz)), .ref zi])), (zc, .inl (cy 0, 4, .inl (mcn))), (zm, .inl (cy 0, 4, .inl (mmd)))] [.ref z0, .int (nI (hj)), .int (nI (0))] sz) (QiA D cy (fun (r : Int32) (u : Unit) => (r = mmd hj)) (fun u : Unit => [(z0, .inr (5, [.ref zr, .ref zs, .ref zt, .ref zc, .ref zm, .ref zk, .ref zh, .ref zd, .ref zf, .int (nI (ml)), .ref zp, .int (nI (mps)), .ref za, .ref ze, .int (be), .ref zn, .ref zb, .ref zv, .ref zw, .ref zo, .ref zq, .long (nu), .int (bq), .int (fg), .ref zl, .int (nI (hg)), .int (nI (cz)), .ref zi])), (zc, .inl (cy 0, 4, .inl (mcn))), (zm, .inl (cy 0, 4, .inl (mmd)))]) (va_A [(z0, .inr (5, [.ref zr, .ref zs, .ref zt, .ref zc, .ref zm, .ref zk, .ref zh, .ref zd, .ref zf, .int (nI (ml)), .ref zp, .int (nI (mps)), .ref za, .ref ze, .int (be), .ref zn, .ref zb, .ref zv, .ref zw, .ref zo, .ref zq, .long (nu), .int (bq), .int (fg), .ref zl, .int (nI (hg)), .int (nI (cz)), .ref zi])), (zc, .inl (cy 0, 4, .inl (mcn))), (zm, .inl (cy 0, 4, .inl (mmd)))] sz)) 0 0 (va_A [(z0, .inr (5, [.ref zr, .ref zs, .ref zt, .ref zc, .ref zm, .ref zk, .ref zh, .ref zd, .ref zf, .int (nI (ml)), .ref zp, .int (nI (mps)), .ref za, .ref ze, .int (be), .ref zn, .ref zb, .ref zv, .ref zw, .ref zo, .ref zq, .long (nu), .int (bq), .int (fg), .ref zl, .int (nI (hg)), .int (nI (cz)), .ref zi])), (zc, .inl (cy 0, 4, .inl (mcn))), (zm, .inl (cy 0, 4, .inl (mmd)))] sz) := by
  refine M_ofW (cc := cX5_told) (maxL := 6) (ret := (some .int)) (by decide) rfl (Nat.le_of_ble_eq_true rfl) ?_
  intro p e s m below meth c A ls args Q hQ S0 hr hlocks hnm hK hst hA hW hl
  have hx := S0.1; have hb := S0.2.1; have hml := S0.2.2.1; have hown := S0.2.2.2.1; have hts := S0.2.2.2.2
  have hl : lv_has ls 6 [(0, .ref z0), (1, .int (nI (hj))), (2, .int (nI (0)))] := hl
  have hcm := clo_mul nt
  refine lv_iload_n hx hb dX5_told_0 rfl (lv_at hl 1 rfl) ?_
  refine kSi (As := [.int (nI (hj))]) (rest := []) S0 hK hst hA hW [] (fun sz => c_X5_isHasher l D cy t hj (by omega) sz) rfl (by decide) (va_cwS 1 hts gX5_told_X5_isHasher rfl rfl rfl (by decide +kernel) ⟨Nat.le_of_ble_eq_true rfl, Nat.le_of_ble_eq_true rfl⟩) (fun _ => rfl) rfl hl.1 rfl (Nat.le_of_ble_eq_true rfl) dX5_told_1 ⟨Nat.le_of_ble_eq_true rfl, Nat.le_of_ble_eq_true rfl⟩ (fun r1 u1 H locs p1 hW => ?_)
  have hW : Wd D A s [(z0, .inr (5, [.ref zr, .ref zs, .ref zt, .ref zc, .ref zm, .ref zk, .ref zh, .ref zd, .ref zf, .int (nI (ml)), .ref zp, .int (nI (mps)), .ref za, .ref ze, .int (be), .ref zn, .ref zb, .ref zv, .ref zw, .ref zo, .ref zq, .long (nu), .int (bq), .int (fg), .ref zl, .int (nI (hg)), .int (nI (cz)), .ref zi])), (zc, .inl (cy 0, 4, .inl (mcn))), (zm, .inl (cy 0, 4, .inl (mmd)))] H locs := hW
  have q1 : r1 = nI (1) := p1
  subst q1
  refine zEq (a := 1) (tgt := 16) hx hb dX5_told_4 (by decide) (by omega) (fun h4 => ?_) (fun h4 => ?_)
  · skip
    exfalso; omega
  · skip
    refine lv_iload_n hx hb dX5_told_7 rfl (lv_at hl 2 rfl) ?_
    refine zLt (a := 0) (tgt := 16) hx hb dX5_told_8 (by decide) (by omega) ?_
    refine lv_iload_n hx hb dX5_told_11 rfl (lv_at hl 2 rfl) ?_
    refine lv_iconst (v := nI (4)) hx hb dX5_told_12 (by decide) ?_
    refine iLe (a := 0) (b := 4) (tgt := 19) hx hb dX5_told_13 (by decide) (by omega) (by omega) (fun h13 => ?_) (fun h13 => ?_)
    · skip
      refine lv_aload_n hx hb dX5_told_19 rfl (lv_at hl 0 rfl) ?_
      refine lv_iload_n hx hb dX5_told_20 rfl (lv_at hl 1 rfl) ?_
      refine kVi (As := [.int (nI (hj))]) (rest := []) S0 hK hst hA hW [0, 1] (fun sz => c_X5_closedOf l D cy t z0 zr zs zt zc zm zk zh zd zf ml zp mps za ze be zn zb zv zw zo zq nu bq fg zl hg cz zi mcn hj nt (by omega) (hct) (by omega) sz) rfl (by decide) (cwV 1 hts gX5_told_X5_closedOf rfl rfl rfl (by decide +kernel) ⟨Nat.le_of_ble_eq_true rfl, Nat.le_of_ble_eq_true rfl⟩) (fun _ => rfl) 0 5 rfl rfl rfl hl.1 rfl (Nat.le_of_ble_eq_true rfl) dX5_told_21 ⟨Nat.le_of_ble_eq_true rfl, Nat.le_of_ble_eq_true rfl⟩ (fun r21 u21 H locs p21 hW => ?_)
      have hW : Wd D A s [(z0, .inr (5, [.ref zr, .ref zs, .ref zt, .ref zc, .ref zm, .ref zk, .ref zh, .ref zd, .ref zf, .int (nI (ml)), .ref zp, .int (nI (mps)), .ref za, .ref ze, .int (be), .ref zn, .ref zb, .ref zv, .ref zw, .ref zo, .ref zq, .long (nu), .int (bq), .int (fg), .ref zl, .int (nI (hg)), .int (nI (cz)), .ref zi])), (zc, .inl (cy 0, 4, .inl (mcn))), (zm, .inl (cy 0, 4, .inl (mmd)))] H locs := hW
      have q21 : r21 = nI (clo nt) := p21
      subst q21
      refine lv_istore_n (lv' := [(3, .int (nI (clo nt))), (0, .ref z0), (1, .int (nI (hj))), (2, .int (nI (0)))]) hx hb dX5_told_24 rfl hl (by decide) rfl (fun ls hl => ?_)
      refine lv_iconst (v := nI (0)) hx hb dX5_told_25 (by decide) ?_
      refine lv_istore (lv' := [(4, .int (nI (0))), (3, .int (nI (clo nt))), (0, .ref z0), (1, .int (nI (hj))), (2, .int (nI (0)))]) hx hb dX5_told_26 hl (by decide) rfl (fun ls hl => ?_)
      refine lv_iload_n hx hb dX5_told_28 rfl (lv_at hl 1 rfl) ?_
      refine lv_istore (lv' := [(5, .int (nI (clo nt))), (4, .int (nI (0))), (3, .int (nI (clo nt))), (0, .ref z0), (1, .int (nI (hj))), (2, .int (nI (0)))]) hx hb dX5_told_29 hl (by decide) rfl (fun ls hl => ?_)
      have loop31 : ∀ (nF : Nat) (on : Nat) (lf : Nat), lf < nF → (on + pcn lf = pcn (clo nt)) → (lf ≤ clo nt) → ∀ (H : Heap) (locs : List Loc), Wd D A s [(z0, .inr (5, [.ref zr, .ref zs, .ref zt, .ref zc, .ref zm, .ref zk, .ref zh, .ref zd, .ref zf, .int (nI (ml)), .ref zp, .int (nI (mps)), .ref za, .ref ze, .int (be), .ref zn, .ref zb, .ref zv, .ref zw, .ref zo, .ref zq, .long (nu), .int (bq), .int (fg), .ref zl, .int (nI (hg)), .int (nI (cz)), .ref zi])), (zc, .inl (cy 0, 4, .inl (mcn))), (zm, .inl (cy 0, 4, .inl (mmd)))] H locs → ∀ ls : Array Slot, lv_has ls 6 [(0, .ref z0), (1, .int (nI (hj))), (2, .int (nI (0))), (3, .int (nI (clo nt))), (4, .int (nI (on))), (5, .int (nI (lf)))] → W p l e ({ frames := 1, cells := 0, slots := 0, locals := 21 }) s m args below meth c H locs 0 0 Q (F0 m 31 ls []) := by
        intro nF
        induction nF with
        | zero => intro on lf hf; exact absurd hf (Nat.not_lt_zero _)
        | succ nF ih31 =>
          intro on lf hf hon hlf H locs hW ls hl
          have hc5 := pcn_40 (clo nt) (by unfold clo; omega)
          refine lv_iload hx hb dX5_told_31 (lv_at hl 5 rfl) ?_
          refine zLe (a := lf) (tgt := 54) hx hb dX5_told_33 (by decide) (by omega) (fun h33 => ?_) (fun h33 => ?_)
          · skip
            have eo : on = pcn (clo nt) := by rw [h33, pcn_0] at hon; omega
            refine lv_iload_n hx hb dX5_told_54 rfl (lv_at hl 2 rfl) ?_
            refine zNe (a := 0) (tgt := 67) hx hb dX5_told_55 (by decide) (by omega) (fun h55 => ?_) (fun h55 => ?_)
            · skip
              exfalso; omega
            · skip
              refine lv_aload_n hx hb dX5_told_58 rfl (lv_at hl 0 rfl) ?_
              refine va_get (D := D) (ci := 5) (v := .ref zm) (C := RX5) (T := TX5) (N := 28) hx hb hts i_X5_told_0_X5 hown hK hW.1 0 rfl rfl 4 (by decide) (hts (.fieldLink RX5 23 "TreeHashesModel" "mode" "[I") f_X5_told_0_0) (fun _ h9 => h9) rfl dX5_told_59 ?_
              refine lv_iload_n hx hb dX5_told_62 rfl (lv_at hl 1 rfl) ?_
              refine rI hx hb hK hW 2 rfl (k := hj) (by omega) (by omega) dX5_told_63 ?_
              refine lv_goto (tgt := 112) hx hb dX5_told_64 (by decide) ?_
              exact eI hQ hx hb hr hlocks hK hW () (rfl) (rfl) dX5_told_112
          · skip
            refine lv_iload hx hb dX5_told_36 (lv_at hl 4 rfl) ?_
            refine lv_iload hx hb dX5_told_38 (lv_at hl 5 rfl) ?_
            refine lv_iconst (v := nI (2)) hx hb dX5_told_40 (by decide) ?_
            refine lv_irem hx hb dX5_told_41 (by decide) ?_
            refine tI (pk_rem (by omega) (by omega) (by omega)) ?_
            refine lv_iadd hx hb dX5_told_42 ?_
            refine tI (nI_add _ _) ?_
            refine lv_istore (lv' := [(4, .int (nI (on + (lf % 2)))), (0, .ref z0), (1, .int (nI (hj))), (2, .int (nI (0))), (3, .int (nI (clo nt))), (5, .int (nI (lf)))]) hx hb dX5_told_43 hl (by decide) rfl (fun ls hl => ?_)
            refine lv_iload hx hb dX5_told_45 (lv_at hl 5 rfl) ?_
            refine lv_iconst (v := nI (2)) hx hb dX5_told_47 (by decide) ?_
            refine lv_idiv hx hb dX5_told_48 (by decide) ?_
            refine tI (pk_div (by omega) (by omega) (by omega)) ?_
            refine lv_istore (lv' := [(5, .int (nI (lf / 2))), (4, .int (nI (on + (lf % 2)))), (0, .ref z0), (1, .int (nI (hj))), (2, .int (nI (0))), (3, .int (nI (clo nt)))]) hx hb dX5_told_49 hl (by decide) rfl (fun ls hl => ?_)
            refine lv_goto (tgt := 31) hx hb dX5_told_51 (by decide) ?_
            exact ih31 (on + (lf % 2)) (lf / 2) (by omega) (by rw [← hon, pcn_loop h33 (by omega), Nat.add_assoc]) (by omega) _ _ hW _ (lv_sub hl [2, 3, 4, 5, 1, 0] rfl)
      exact loop31 _ 0 (clo nt) (Nat.lt_succ_self _) (Nat.zero_add _) (Nat.le_refl _) _ _ hW _ (lv_sub hl [3, 4, 5, 2, 1, 0] rfl)
    · skip
      exfalso; omega

theorem f_X5_told_1_0 : Cond.fieldLink RX5 20 "TreeHashesModel" "count" "[I" ∈ wsX5_told := by decide +kernel
theorem i_X5_told_1_X5 : ∀ w ∈ wsX50, w ∈ wsX5_told := by decide +kernel
set_option maxHeartbeats 4000000 in
set_option maxRecDepth 100000 in
theorem c_X5_told_1 (l : Launch) (D : va_G) (cy : Nat → ClassId) (t : Nat × Nat) (z0 : Nat) (zr : Nat) (zs : Nat) (zt : Nat) (zc : Nat) (zm : Nat) (zk : Nat) (zh : Nat) (zd : Nat) (zf : Nat) (ml : Nat) (zp : Nat) (mps : Nat) (za : Nat) (ze : Nat) (be : Int32) (zn : Nat) (zb : Nat) (zv : Nat) (zw : Nat) (zo : Nat) (zq : Nat) (nu : Int64) (bq : Int32) (fg : Int32) (zl : Nat) (hg : Nat) (cz : Nat) (zi : Nat) (mt : Nat → Int32) (mcn : Nat → Int32) (hj : Nat) (nt : Nat) (mmd : Nat → Int32) (hj4 : hj < 4) (hct : mcn hj = nI nt) (hnt : nt ≤ 40000) (sz : Nat) : Met l yX5_told wsX5_told ({ frames := 1, cells := 0, slots := 0, locals := 21 }) (PcW D cy t [(z0, .inr (5, [.ref zr, .ref zs, .ref zt, .ref zc, .ref zm, .ref zk, .ref zh, .ref zd, .ref zf, .int (nI (ml)), .ref zp, .int (nI (mps)), .ref za, .ref ze, .int (be), .ref zn, .ref zb, .ref zv, .ref zw, .ref zo, .ref zq, .long (nu), .int (bq), .int (fg), .ref zl, .int (nI (hg)), .int (nI (cz)), .ref zi])), (zc, .inl (cy 0, 4, .inl (mcn))), (zm, .inl (cy 0, 4, .inl (mmd)))] [.ref z0, .int (nI (hj)), .int (nI (1))] sz) (QiA D cy (fun (r : Int32) (u : Unit) => (r = nI (nt))) (fun u : Unit => [(z0, .inr (5, [.ref zr, .ref zs, .ref zt, .ref zc, .ref zm, .ref zk, .ref zh, .ref zd, .ref zf, .int (nI (ml)), .ref zp, .int (nI (mps)), .ref za, .ref ze, .int (be), .ref zn, .ref zb, .ref zv, .ref zw, .ref zo, .ref zq, .long (nu), .int (bq), .int (fg), .ref zl, .int (nI (hg)), .int (nI (cz)), .ref zi])), (zc, .inl (cy 0, 4, .inl (mcn))), (zm, .inl (cy 0, 4, .inl (mmd)))]) (va_A [(z0, .inr (5, [.ref zr, .ref zs, .ref zt, .ref zc, .ref zm, .ref zk, .ref zh, .ref zd, .ref zf, .int (nI (ml)), .ref zp, .int (nI (mps)), .ref za, .ref ze, .int (be), .ref zn, .ref zb, .ref zv, .ref zw, .ref zo, .ref zq, .long (nu), .int (bq), .int (fg), .ref zl, .int (nI (hg)), .int (nI (cz)), .ref zi])), (zc, .inl (cy 0, 4, .inl (mcn))), (zm, .inl (cy 0, 4, .inl (mmd)))] sz)) 0 0 (va_A [(z0, .inr (5, [.ref zr, .ref zs, .ref zt, .ref zc, .ref zm, .ref zk, .ref zh, .ref zd, .ref zf, .int (nI (ml)), .ref zp, .int (nI (mps)), .ref za, .ref ze, .int (be), .ref zn, .ref zb, .ref zv, .ref zw, .ref zo, .ref zq, .long (nu), .int (bq), .int (fg), .ref zl, .int (nI (hg)), .int (nI (cz)), .ref zi])), (zc, .inl (cy 0, 4, .inl (mcn))), (zm, .inl (cy 0, 4, .inl (mmd)))] sz) := by
  refine M_ofW (cc := cX5_told) (maxL := 6) (ret := (some .int)) (by decide) rfl (Nat.le_of_ble_eq_true rfl) ?_
  intro p e s m below meth c A ls args Q hQ S0 hr hlocks hnm hK hst hA hW hl
  have hx := S0.1; have hb := S0.2.1; have hml := S0.2.2.1; have hown := S0.2.2.2.1; have hts := S0.2.2.2.2
  have hl : lv_has ls 6 [(0, .ref z0), (1, .int (nI (hj))), (2, .int (nI (1)))] := hl
  have hcm := clo_mul nt
  refine lv_iload_n hx hb dX5_told_0 rfl (lv_at hl 1 rfl) ?_
  refine kSi (As := [.int (nI (hj))]) (rest := []) S0 hK hst hA hW [] (fun sz => c_X5_isHasher l D cy t hj (by omega) sz) rfl (by decide) (va_cwS 1 hts gX5_told_X5_isHasher rfl rfl rfl (by decide +kernel) ⟨Nat.le_of_ble_eq_true rfl, Nat.le_of_ble_eq_true rfl⟩) (fun _ => rfl) rfl hl.1 rfl (Nat.le_of_ble_eq_true rfl) dX5_told_1 ⟨Nat.le_of_ble_eq_true rfl, Nat.le_of_ble_eq_true rfl⟩ (fun r1 u1 H locs p1 hW => ?_)
  have hW : Wd D A s [(z0, .inr (5, [.ref zr, .ref zs, .ref zt, .ref zc, .ref zm, .ref zk, .ref zh, .ref zd, .ref zf, .int (nI (ml)), .ref zp, .int (nI (mps)), .ref za, .ref ze, .int (be), .ref zn, .ref zb, .ref zv, .ref zw, .ref zo, .ref zq, .long (nu), .int (bq), .int (fg), .ref zl, .int (nI (hg)), .int (nI (cz)), .ref zi])), (zc, .inl (cy 0, 4, .inl (mcn))), (zm, .inl (cy 0, 4, .inl (mmd)))] H locs := hW
  have q1 : r1 = nI (1) := p1
  subst q1
  refine zEq (a := 1) (tgt := 16) hx hb dX5_told_4 (by decide) (by omega) (fun h4 => ?_) (fun h4 => ?_)
  · skip
    exfalso; omega
  · skip
    refine lv_iload_n hx hb dX5_told_7 rfl (lv_at hl 2 rfl) ?_
    refine zLt (a := 1) (tgt := 16) hx hb dX5_told_8 (by decide) (by omega) ?_
    refine lv_iload_n hx hb dX5_told_11 rfl (lv_at hl 2 rfl) ?_
    refine lv_iconst (v := nI (4)) hx hb dX5_told_12 (by decide) ?_
    refine iLe (a := 1) (b := 4) (tgt := 19) hx hb dX5_told_13 (by decide) (by omega) (by omega) (fun h13 => ?_) (fun h13 => ?_)
    · skip
      refine lv_aload_n hx hb dX5_told_19 rfl (lv_at hl 0 rfl) ?_
      refine lv_iload_n hx hb dX5_told_20 rfl (lv_at hl 1 rfl) ?_
      refine kVi (As := [.int (nI (hj))]) (rest := []) S0 hK hst hA hW [0, 1] (fun sz => c_X5_closedOf l D cy t z0 zr zs zt zc zm zk zh zd zf ml zp mps za ze be zn zb zv zw zo zq nu bq fg zl hg cz zi mcn hj nt (by omega) (hct) (by omega) sz) rfl (by decide) (cwV 1 hts gX5_told_X5_closedOf rfl rfl rfl (by decide +kernel) ⟨Nat.le_of_ble_eq_true rfl, Nat.le_of_ble_eq_true rfl⟩) (fun _ => rfl) 0 5 rfl rfl rfl hl.1 rfl (Nat.le_of_ble_eq_true rfl) dX5_told_21 ⟨Nat.le_of_ble_eq_true rfl, Nat.le_of_ble_eq_true rfl⟩ (fun r21 u21 H locs p21 hW => ?_)
      have hW : Wd D A s [(z0, .inr (5, [.ref zr, .ref zs, .ref zt, .ref zc, .ref zm, .ref zk, .ref zh, .ref zd, .ref zf, .int (nI (ml)), .ref zp, .int (nI (mps)), .ref za, .ref ze, .int (be), .ref zn, .ref zb, .ref zv, .ref zw, .ref zo, .ref zq, .long (nu), .int (bq), .int (fg), .ref zl, .int (nI (hg)), .int (nI (cz)), .ref zi])), (zc, .inl (cy 0, 4, .inl (mcn))), (zm, .inl (cy 0, 4, .inl (mmd)))] H locs := hW
      have q21 : r21 = nI (clo nt) := p21
      subst q21
      refine lv_istore_n (lv' := [(3, .int (nI (clo nt))), (0, .ref z0), (1, .int (nI (hj))), (2, .int (nI (1)))]) hx hb dX5_told_24 rfl hl (by decide) rfl (fun ls hl => ?_)
      refine lv_iconst (v := nI (0)) hx hb dX5_told_25 (by decide) ?_
      refine lv_istore (lv' := [(4, .int (nI (0))), (3, .int (nI (clo nt))), (0, .ref z0), (1, .int (nI (hj))), (2, .int (nI (1)))]) hx hb dX5_told_26 hl (by decide) rfl (fun ls hl => ?_)
      refine lv_iload_n hx hb dX5_told_28 rfl (lv_at hl 1 rfl) ?_
      refine lv_istore (lv' := [(5, .int (nI (clo nt))), (4, .int (nI (0))), (3, .int (nI (clo nt))), (0, .ref z0), (1, .int (nI (hj))), (2, .int (nI (1)))]) hx hb dX5_told_29 hl (by decide) rfl (fun ls hl => ?_)
      have loop31 : ∀ (nF : Nat) (on : Nat) (lf : Nat), lf < nF → (on + pcn lf = pcn (clo nt)) → (lf ≤ clo nt) → ∀ (H : Heap) (locs : List Loc), Wd D A s [(z0, .inr (5, [.ref zr, .ref zs, .ref zt, .ref zc, .ref zm, .ref zk, .ref zh, .ref zd, .ref zf, .int (nI (ml)), .ref zp, .int (nI (mps)), .ref za, .ref ze, .int (be), .ref zn, .ref zb, .ref zv, .ref zw, .ref zo, .ref zq, .long (nu), .int (bq), .int (fg), .ref zl, .int (nI (hg)), .int (nI (cz)), .ref zi])), (zc, .inl (cy 0, 4, .inl (mcn))), (zm, .inl (cy 0, 4, .inl (mmd)))] H locs → ∀ ls : Array Slot, lv_has ls 6 [(0, .ref z0), (1, .int (nI (hj))), (2, .int (nI (1))), (3, .int (nI (clo nt))), (4, .int (nI (on))), (5, .int (nI (lf)))] → W p l e ({ frames := 1, cells := 0, slots := 0, locals := 21 }) s m args below meth c H locs 0 0 Q (F0 m 31 ls []) := by
        intro nF
        induction nF with
        | zero => intro on lf hf; exact absurd hf (Nat.not_lt_zero _)
        | succ nF ih31 =>
          intro on lf hf hon hlf H locs hW ls hl
          have hc5 := pcn_40 (clo nt) (by unfold clo; omega)
          refine lv_iload hx hb dX5_told_31 (lv_at hl 5 rfl) ?_
          refine zLe (a := lf) (tgt := 54) hx hb dX5_told_33 (by decide) (by omega) (fun h33 => ?_) (fun h33 => ?_)
          · skip
            have eo : on = pcn (clo nt) := by rw [h33, pcn_0] at hon; omega
            refine lv_iload_n hx hb dX5_told_54 rfl (lv_at hl 2 rfl) ?_
            refine zNe (a := 1) (tgt := 67) hx hb dX5_told_55 (by decide) (by omega) (fun h55 => ?_) (fun h55 => ?_)
            · skip
              refine lv_iload_n hx hb dX5_told_67 rfl (lv_at hl 2 rfl) ?_
              refine lv_iconst (v := nI (1)) hx hb dX5_told_68 (by decide) ?_
              refine iNe (a := 1) (b := 1) (tgt := 81) hx hb dX5_told_69 (by decide) (by omega) (by omega) (fun h69 => ?_) (fun h69 => ?_)
              · skip
                exfalso; omega
              · skip
                refine lv_aload_n hx hb dX5_told_72 rfl (lv_at hl 0 rfl) ?_
                refine va_get (D := D) (ci := 5) (v := .ref zc) (C := RX5) (T := TX5) (N := 28) hx hb hts i_X5_told_1_X5 hown hK hW.1 0 rfl rfl 3 (by decide) (hts (.fieldLink RX5 20 "TreeHashesModel" "count" "[I") f_X5_told_1_0) (fun _ h9 => h9) rfl dX5_told_73 ?_
                refine lv_iload_n hx hb dX5_told_76 rfl (lv_at hl 1 rfl) ?_
                refine rI hx hb hK hW 1 rfl (k := hj) (by omega) (by omega) dX5_told_77 ?_
                refine tI (x' := nI (nt)) (hct) ?_
                refine lv_goto (tgt := 112) hx hb dX5_told_78 (by decide) ?_
                exact eI hQ hx hb hr hlocks hK hW () (rfl) (rfl) dX5_told_112
            · skip
              exfalso; omega
          · skip
            refine lv_iload hx hb dX5_told_36 (lv_at hl 4 rfl) ?_
            refine lv_iload hx hb dX5_told_38 (lv_at hl 5 rfl) ?_
            refine lv_iconst (v := nI (2)) hx hb dX5_told_40 (by decide) ?_
            refine lv_irem hx hb dX5_told_41 (by decide) ?_
            refine tI (pk_rem (by omega) (by omega) (by omega)) ?_
            refine lv_iadd hx hb dX5_told_42 ?_
            refine tI (nI_add _ _) ?_
            refine lv_istore (lv' := [(4, .int (nI (on + (lf % 2)))), (0, .ref z0), (1, .int (nI (hj))), (2, .int (nI (1))), (3, .int (nI (clo nt))), (5, .int (nI (lf)))]) hx hb dX5_told_43 hl (by decide) rfl (fun ls hl => ?_)
            refine lv_iload hx hb dX5_told_45 (lv_at hl 5 rfl) ?_
            refine lv_iconst (v := nI (2)) hx hb dX5_told_47 (by decide) ?_
            refine lv_idiv hx hb dX5_told_48 (by decide) ?_
            refine tI (pk_div (by omega) (by omega) (by omega)) ?_
            refine lv_istore (lv' := [(5, .int (nI (lf / 2))), (4, .int (nI (on + (lf % 2)))), (0, .ref z0), (1, .int (nI (hj))), (2, .int (nI (1))), (3, .int (nI (clo nt)))]) hx hb dX5_told_49 hl (by decide) rfl (fun ls hl => ?_)
            refine lv_goto (tgt := 31) hx hb dX5_told_51 (by decide) ?_
            exact ih31 (on + (lf % 2)) (lf / 2) (by omega) (by rw [← hon, pcn_loop h33 (by omega), Nat.add_assoc]) (by omega) _ _ hW _ (lv_sub hl [2, 3, 4, 5, 1, 0] rfl)
      exact loop31 _ 0 (clo nt) (Nat.lt_succ_self _) (Nat.zero_add _) (Nat.le_refl _) _ _ hW _ (lv_sub hl [3, 4, 5, 2, 1, 0] rfl)
    · skip
      exfalso; omega

set_option maxHeartbeats 4000000 in
set_option maxRecDepth 100000 in
theorem c_X5_told_2 (l : Launch) (D : va_G) (cy : Nat → ClassId) (t : Nat × Nat) (z0 : Nat) (zr : Nat) (zs : Nat) (zt : Nat) (zc : Nat) (zm : Nat) (zk : Nat) (zh : Nat) (zd : Nat) (zf : Nat) (ml : Nat) (zp : Nat) (mps : Nat) (za : Nat) (ze : Nat) (be : Int32) (zn : Nat) (zb : Nat) (zv : Nat) (zw : Nat) (zo : Nat) (zq : Nat) (nu : Int64) (bq : Int32) (fg : Int32) (zl : Nat) (hg : Nat) (cz : Nat) (zi : Nat) (mt : Nat → Int32) (mcn : Nat → Int32) (hj : Nat) (nt : Nat) (mmd : Nat → Int32) (hj4 : hj < 4) (hct : mcn hj = nI nt) (hnt : nt ≤ 40000) (sz : Nat) : Met l yX5_told wsX5_told ({ frames := 1, cells := 0, slots := 0, locals := 21 }) (PcW D cy t [(z0, .inr (5, [.ref zr, .ref zs, .ref zt, .ref zc, .ref zm, .ref zk, .ref zh, .ref zd, .ref zf, .int (nI (ml)), .ref zp, .int (nI (mps)), .ref za, .ref ze, .int (be), .ref zn, .ref zb, .ref zv, .ref zw, .ref zo, .ref zq, .long (nu), .int (bq), .int (fg), .ref zl, .int (nI (hg)), .int (nI (cz)), .ref zi])), (zc, .inl (cy 0, 4, .inl (mcn))), (zm, .inl (cy 0, 4, .inl (mmd)))] [.ref z0, .int (nI (hj)), .int (nI (2))] sz) (QiA D cy (fun (r : Int32) (u : Unit) => (r = nI (clo nt))) (fun u : Unit => [(z0, .inr (5, [.ref zr, .ref zs, .ref zt, .ref zc, .ref zm, .ref zk, .ref zh, .ref zd, .ref zf, .int (nI (ml)), .ref zp, .int (nI (mps)), .ref za, .ref ze, .int (be), .ref zn, .ref zb, .ref zv, .ref zw, .ref zo, .ref zq, .long (nu), .int (bq), .int (fg), .ref zl, .int (nI (hg)), .int (nI (cz)), .ref zi])), (zc, .inl (cy 0, 4, .inl (mcn))), (zm, .inl (cy 0, 4, .inl (mmd)))]) (va_A [(z0, .inr (5, [.ref zr, .ref zs, .ref zt, .ref zc, .ref zm, .ref zk, .ref zh, .ref zd, .ref zf, .int (nI (ml)), .ref zp, .int (nI (mps)), .ref za, .ref ze, .int (be), .ref zn, .ref zb, .ref zv, .ref zw, .ref zo, .ref zq, .long (nu), .int (bq), .int (fg), .ref zl, .int (nI (hg)), .int (nI (cz)), .ref zi])), (zc, .inl (cy 0, 4, .inl (mcn))), (zm, .inl (cy 0, 4, .inl (mmd)))] sz)) 0 0 (va_A [(z0, .inr (5, [.ref zr, .ref zs, .ref zt, .ref zc, .ref zm, .ref zk, .ref zh, .ref zd, .ref zf, .int (nI (ml)), .ref zp, .int (nI (mps)), .ref za, .ref ze, .int (be), .ref zn, .ref zb, .ref zv, .ref zw, .ref zo, .ref zq, .long (nu), .int (bq), .int (fg), .ref zl, .int (nI (hg)), .int (nI (cz)), .ref zi])), (zc, .inl (cy 0, 4, .inl (mcn))), (zm, .inl (cy 0, 4, .inl (mmd)))] sz) := by
  refine M_ofW (cc := cX5_told) (maxL := 6) (ret := (some .int)) (by decide) rfl (Nat.le_of_ble_eq_true rfl) ?_
  intro p e s m below meth c A ls args Q hQ S0 hr hlocks hnm hK hst hA hW hl
  have hx := S0.1; have hb := S0.2.1; have hml := S0.2.2.1; have hown := S0.2.2.2.1; have hts := S0.2.2.2.2
  have hl : lv_has ls 6 [(0, .ref z0), (1, .int (nI (hj))), (2, .int (nI (2)))] := hl
  have hcm := clo_mul nt
  refine lv_iload_n hx hb dX5_told_0 rfl (lv_at hl 1 rfl) ?_
  refine kSi (As := [.int (nI (hj))]) (rest := []) S0 hK hst hA hW [] (fun sz => c_X5_isHasher l D cy t hj (by omega) sz) rfl (by decide) (va_cwS 1 hts gX5_told_X5_isHasher rfl rfl rfl (by decide +kernel) ⟨Nat.le_of_ble_eq_true rfl, Nat.le_of_ble_eq_true rfl⟩) (fun _ => rfl) rfl hl.1 rfl (Nat.le_of_ble_eq_true rfl) dX5_told_1 ⟨Nat.le_of_ble_eq_true rfl, Nat.le_of_ble_eq_true rfl⟩ (fun r1 u1 H locs p1 hW => ?_)
  have hW : Wd D A s [(z0, .inr (5, [.ref zr, .ref zs, .ref zt, .ref zc, .ref zm, .ref zk, .ref zh, .ref zd, .ref zf, .int (nI (ml)), .ref zp, .int (nI (mps)), .ref za, .ref ze, .int (be), .ref zn, .ref zb, .ref zv, .ref zw, .ref zo, .ref zq, .long (nu), .int (bq), .int (fg), .ref zl, .int (nI (hg)), .int (nI (cz)), .ref zi])), (zc, .inl (cy 0, 4, .inl (mcn))), (zm, .inl (cy 0, 4, .inl (mmd)))] H locs := hW
  have q1 : r1 = nI (1) := p1
  subst q1
  refine zEq (a := 1) (tgt := 16) hx hb dX5_told_4 (by decide) (by omega) (fun h4 => ?_) (fun h4 => ?_)
  · skip
    exfalso; omega
  · skip
    refine lv_iload_n hx hb dX5_told_7 rfl (lv_at hl 2 rfl) ?_
    refine zLt (a := 2) (tgt := 16) hx hb dX5_told_8 (by decide) (by omega) ?_
    refine lv_iload_n hx hb dX5_told_11 rfl (lv_at hl 2 rfl) ?_
    refine lv_iconst (v := nI (4)) hx hb dX5_told_12 (by decide) ?_
    refine iLe (a := 2) (b := 4) (tgt := 19) hx hb dX5_told_13 (by decide) (by omega) (by omega) (fun h13 => ?_) (fun h13 => ?_)
    · skip
      refine lv_aload_n hx hb dX5_told_19 rfl (lv_at hl 0 rfl) ?_
      refine lv_iload_n hx hb dX5_told_20 rfl (lv_at hl 1 rfl) ?_
      refine kVi (As := [.int (nI (hj))]) (rest := []) S0 hK hst hA hW [0, 1] (fun sz => c_X5_closedOf l D cy t z0 zr zs zt zc zm zk zh zd zf ml zp mps za ze be zn zb zv zw zo zq nu bq fg zl hg cz zi mcn hj nt (by omega) (hct) (by omega) sz) rfl (by decide) (cwV 1 hts gX5_told_X5_closedOf rfl rfl rfl (by decide +kernel) ⟨Nat.le_of_ble_eq_true rfl, Nat.le_of_ble_eq_true rfl⟩) (fun _ => rfl) 0 5 rfl rfl rfl hl.1 rfl (Nat.le_of_ble_eq_true rfl) dX5_told_21 ⟨Nat.le_of_ble_eq_true rfl, Nat.le_of_ble_eq_true rfl⟩ (fun r21 u21 H locs p21 hW => ?_)
      have hW : Wd D A s [(z0, .inr (5, [.ref zr, .ref zs, .ref zt, .ref zc, .ref zm, .ref zk, .ref zh, .ref zd, .ref zf, .int (nI (ml)), .ref zp, .int (nI (mps)), .ref za, .ref ze, .int (be), .ref zn, .ref zb, .ref zv, .ref zw, .ref zo, .ref zq, .long (nu), .int (bq), .int (fg), .ref zl, .int (nI (hg)), .int (nI (cz)), .ref zi])), (zc, .inl (cy 0, 4, .inl (mcn))), (zm, .inl (cy 0, 4, .inl (mmd)))] H locs := hW
      have q21 : r21 = nI (clo nt) := p21
      subst q21
      refine lv_istore_n (lv' := [(3, .int (nI (clo nt))), (0, .ref z0), (1, .int (nI (hj))), (2, .int (nI (2)))]) hx hb dX5_told_24 rfl hl (by decide) rfl (fun ls hl => ?_)
      refine lv_iconst (v := nI (0)) hx hb dX5_told_25 (by decide) ?_
      refine lv_istore (lv' := [(4, .int (nI (0))), (3, .int (nI (clo nt))), (0, .ref z0), (1, .int (nI (hj))), (2, .int (nI (2)))]) hx hb dX5_told_26 hl (by decide) rfl (fun ls hl => ?_)
      refine lv_iload_n hx hb dX5_told_28 rfl (lv_at hl 1 rfl) ?_
      refine lv_istore (lv' := [(5, .int (nI (clo nt))), (4, .int (nI (0))), (3, .int (nI (clo nt))), (0, .ref z0), (1, .int (nI (hj))), (2, .int (nI (2)))]) hx hb dX5_told_29 hl (by decide) rfl (fun ls hl => ?_)
      have loop31 : ∀ (nF : Nat) (on : Nat) (lf : Nat), lf < nF → (on + pcn lf = pcn (clo nt)) → (lf ≤ clo nt) → ∀ (H : Heap) (locs : List Loc), Wd D A s [(z0, .inr (5, [.ref zr, .ref zs, .ref zt, .ref zc, .ref zm, .ref zk, .ref zh, .ref zd, .ref zf, .int (nI (ml)), .ref zp, .int (nI (mps)), .ref za, .ref ze, .int (be), .ref zn, .ref zb, .ref zv, .ref zw, .ref zo, .ref zq, .long (nu), .int (bq), .int (fg), .ref zl, .int (nI (hg)), .int (nI (cz)), .ref zi])), (zc, .inl (cy 0, 4, .inl (mcn))), (zm, .inl (cy 0, 4, .inl (mmd)))] H locs → ∀ ls : Array Slot, lv_has ls 6 [(0, .ref z0), (1, .int (nI (hj))), (2, .int (nI (2))), (3, .int (nI (clo nt))), (4, .int (nI (on))), (5, .int (nI (lf)))] → W p l e ({ frames := 1, cells := 0, slots := 0, locals := 21 }) s m args below meth c H locs 0 0 Q (F0 m 31 ls []) := by
        intro nF
        induction nF with
        | zero => intro on lf hf; exact absurd hf (Nat.not_lt_zero _)
        | succ nF ih31 =>
          intro on lf hf hon hlf H locs hW ls hl
          have hc5 := pcn_40 (clo nt) (by unfold clo; omega)
          refine lv_iload hx hb dX5_told_31 (lv_at hl 5 rfl) ?_
          refine zLe (a := lf) (tgt := 54) hx hb dX5_told_33 (by decide) (by omega) (fun h33 => ?_) (fun h33 => ?_)
          · skip
            have eo : on = pcn (clo nt) := by rw [h33, pcn_0] at hon; omega
            refine lv_iload_n hx hb dX5_told_54 rfl (lv_at hl 2 rfl) ?_
            refine zNe (a := 2) (tgt := 67) hx hb dX5_told_55 (by decide) (by omega) (fun h55 => ?_) (fun h55 => ?_)
            · skip
              refine lv_iload_n hx hb dX5_told_67 rfl (lv_at hl 2 rfl) ?_
              refine lv_iconst (v := nI (1)) hx hb dX5_told_68 (by decide) ?_
              refine iNe (a := 2) (b := 1) (tgt := 81) hx hb dX5_told_69 (by decide) (by omega) (by omega) (fun h69 => ?_) (fun h69 => ?_)
              · skip
                refine lv_iload_n hx hb dX5_told_81 rfl (lv_at hl 2 rfl) ?_
                refine lv_iconst (v := nI (2)) hx hb dX5_told_82 (by decide) ?_
                refine iNe (a := 2) (b := 2) (tgt := 90) hx hb dX5_told_83 (by decide) (by omega) (by omega) (fun h83 => ?_) (fun h83 => ?_)
                · skip
                  exfalso; omega
                · skip
                  refine lv_iload_n hx hb dX5_told_86 rfl (lv_at hl 3 rfl) ?_
                  refine lv_goto (tgt := 112) hx hb dX5_told_87 (by decide) ?_
                  exact eI hQ hx hb hr hlocks hK hW () (rfl) (rfl) dX5_told_112
              · skip
                exfalso; omega
            · skip
              exfalso; omega
          · skip
            refine lv_iload hx hb dX5_told_36 (lv_at hl 4 rfl) ?_
            refine lv_iload hx hb dX5_told_38 (lv_at hl 5 rfl) ?_
            refine lv_iconst (v := nI (2)) hx hb dX5_told_40 (by decide) ?_
            refine lv_irem hx hb dX5_told_41 (by decide) ?_
            refine tI (pk_rem (by omega) (by omega) (by omega)) ?_
            refine lv_iadd hx hb dX5_told_42 ?_
            refine tI (nI_add _ _) ?_
            refine lv_istore (lv' := [(4, .int (nI (on + (lf % 2)))), (0, .ref z0), (1, .int (nI (hj))), (2, .int (nI (2))), (3, .int (nI (clo nt))), (5, .int (nI (lf)))]) hx hb dX5_told_43 hl (by decide) rfl (fun ls hl => ?_)
            refine lv_iload hx hb dX5_told_45 (lv_at hl 5 rfl) ?_
            refine lv_iconst (v := nI (2)) hx hb dX5_told_47 (by decide) ?_
            refine lv_idiv hx hb dX5_told_48 (by decide) ?_
            refine tI (pk_div (by omega) (by omega) (by omega)) ?_
            refine lv_istore (lv' := [(5, .int (nI (lf / 2))), (4, .int (nI (on + (lf % 2)))), (0, .ref z0), (1, .int (nI (hj))), (2, .int (nI (2))), (3, .int (nI (clo nt)))]) hx hb dX5_told_49 hl (by decide) rfl (fun ls hl => ?_)
            refine lv_goto (tgt := 31) hx hb dX5_told_51 (by decide) ?_
            exact ih31 (on + (lf % 2)) (lf / 2) (by omega) (by rw [← hon, pcn_loop h33 (by omega), Nat.add_assoc]) (by omega) _ _ hW _ (lv_sub hl [2, 3, 4, 5, 1, 0] rfl)
      exact loop31 _ 0 (clo nt) (Nat.lt_succ_self _) (Nat.zero_add _) (Nat.le_refl _) _ _ hW _ (lv_sub hl [3, 4, 5, 2, 1, 0] rfl)
    · skip
      exfalso; omega

set_option maxHeartbeats 4000000 in
set_option maxRecDepth 100000 in
theorem c_X5_told_3 (l : Launch) (D : va_G) (cy : Nat → ClassId) (t : Nat × Nat) (z0 : Nat) (zr : Nat) (zs : Nat) (zt : Nat) (zc : Nat) (zm : Nat) (zk : Nat) (zh : Nat) (zd : Nat) (zf : Nat) (ml : Nat) (zp : Nat) (mps : Nat) (za : Nat) (ze : Nat) (be : Int32) (zn : Nat) (zb : Nat) (zv : Nat) (zw : Nat) (zo : Nat) (zq : Nat) (nu : Int64) (bq : Int32) (fg : Int32) (zl : Nat) (hg : Nat) (cz : Nat) (zi : Nat) (mt : Nat → Int32) (mcn : Nat → Int32) (hj : Nat) (nt : Nat) (mmd : Nat → Int32) (hj4 : hj < 4) (hct : mcn hj = nI nt) (hnt : nt ≤ 40000) (sz : Nat) : Met l yX5_told wsX5_told ({ frames := 1, cells := 0, slots := 0, locals := 21 }) (PcW D cy t [(z0, .inr (5, [.ref zr, .ref zs, .ref zt, .ref zc, .ref zm, .ref zk, .ref zh, .ref zd, .ref zf, .int (nI (ml)), .ref zp, .int (nI (mps)), .ref za, .ref ze, .int (be), .ref zn, .ref zb, .ref zv, .ref zw, .ref zo, .ref zq, .long (nu), .int (bq), .int (fg), .ref zl, .int (nI (hg)), .int (nI (cz)), .ref zi])), (zc, .inl (cy 0, 4, .inl (mcn))), (zm, .inl (cy 0, 4, .inl (mmd)))] [.ref z0, .int (nI (hj)), .int (nI (3))] sz) (QiA D cy (fun (r : Int32) (u : Unit) => (r = nI (pcn (clo nt)))) (fun u : Unit => [(z0, .inr (5, [.ref zr, .ref zs, .ref zt, .ref zc, .ref zm, .ref zk, .ref zh, .ref zd, .ref zf, .int (nI (ml)), .ref zp, .int (nI (mps)), .ref za, .ref ze, .int (be), .ref zn, .ref zb, .ref zv, .ref zw, .ref zo, .ref zq, .long (nu), .int (bq), .int (fg), .ref zl, .int (nI (hg)), .int (nI (cz)), .ref zi])), (zc, .inl (cy 0, 4, .inl (mcn))), (zm, .inl (cy 0, 4, .inl (mmd)))]) (va_A [(z0, .inr (5, [.ref zr, .ref zs, .ref zt, .ref zc, .ref zm, .ref zk, .ref zh, .ref zd, .ref zf, .int (nI (ml)), .ref zp, .int (nI (mps)), .ref za, .ref ze, .int (be), .ref zn, .ref zb, .ref zv, .ref zw, .ref zo, .ref zq, .long (nu), .int (bq), .int (fg), .ref zl, .int (nI (hg)), .int (nI (cz)), .ref zi])), (zc, .inl (cy 0, 4, .inl (mcn))), (zm, .inl (cy 0, 4, .inl (mmd)))] sz)) 0 0 (va_A [(z0, .inr (5, [.ref zr, .ref zs, .ref zt, .ref zc, .ref zm, .ref zk, .ref zh, .ref zd, .ref zf, .int (nI (ml)), .ref zp, .int (nI (mps)), .ref za, .ref ze, .int (be), .ref zn, .ref zb, .ref zv, .ref zw, .ref zo, .ref zq, .long (nu), .int (bq), .int (fg), .ref zl, .int (nI (hg)), .int (nI (cz)), .ref zi])), (zc, .inl (cy 0, 4, .inl (mcn))), (zm, .inl (cy 0, 4, .inl (mmd)))] sz) := by
  refine M_ofW (cc := cX5_told) (maxL := 6) (ret := (some .int)) (by decide) rfl (Nat.le_of_ble_eq_true rfl) ?_
  intro p e s m below meth c A ls args Q hQ S0 hr hlocks hnm hK hst hA hW hl
  have hx := S0.1; have hb := S0.2.1; have hml := S0.2.2.1; have hown := S0.2.2.2.1; have hts := S0.2.2.2.2
  have hl : lv_has ls 6 [(0, .ref z0), (1, .int (nI (hj))), (2, .int (nI (3)))] := hl
  have hcm := clo_mul nt
  refine lv_iload_n hx hb dX5_told_0 rfl (lv_at hl 1 rfl) ?_
  refine kSi (As := [.int (nI (hj))]) (rest := []) S0 hK hst hA hW [] (fun sz => c_X5_isHasher l D cy t hj (by omega) sz) rfl (by decide) (va_cwS 1 hts gX5_told_X5_isHasher rfl rfl rfl (by decide +kernel) ⟨Nat.le_of_ble_eq_true rfl, Nat.le_of_ble_eq_true rfl⟩) (fun _ => rfl) rfl hl.1 rfl (Nat.le_of_ble_eq_true rfl) dX5_told_1 ⟨Nat.le_of_ble_eq_true rfl, Nat.le_of_ble_eq_true rfl⟩ (fun r1 u1 H locs p1 hW => ?_)
  have hW : Wd D A s [(z0, .inr (5, [.ref zr, .ref zs, .ref zt, .ref zc, .ref zm, .ref zk, .ref zh, .ref zd, .ref zf, .int (nI (ml)), .ref zp, .int (nI (mps)), .ref za, .ref ze, .int (be), .ref zn, .ref zb, .ref zv, .ref zw, .ref zo, .ref zq, .long (nu), .int (bq), .int (fg), .ref zl, .int (nI (hg)), .int (nI (cz)), .ref zi])), (zc, .inl (cy 0, 4, .inl (mcn))), (zm, .inl (cy 0, 4, .inl (mmd)))] H locs := hW
  have q1 : r1 = nI (1) := p1
  subst q1
  refine zEq (a := 1) (tgt := 16) hx hb dX5_told_4 (by decide) (by omega) (fun h4 => ?_) (fun h4 => ?_)
  · skip
    exfalso; omega
  · skip
    refine lv_iload_n hx hb dX5_told_7 rfl (lv_at hl 2 rfl) ?_
    refine zLt (a := 3) (tgt := 16) hx hb dX5_told_8 (by decide) (by omega) ?_
    refine lv_iload_n hx hb dX5_told_11 rfl (lv_at hl 2 rfl) ?_
    refine lv_iconst (v := nI (4)) hx hb dX5_told_12 (by decide) ?_
    refine iLe (a := 3) (b := 4) (tgt := 19) hx hb dX5_told_13 (by decide) (by omega) (by omega) (fun h13 => ?_) (fun h13 => ?_)
    · skip
      refine lv_aload_n hx hb dX5_told_19 rfl (lv_at hl 0 rfl) ?_
      refine lv_iload_n hx hb dX5_told_20 rfl (lv_at hl 1 rfl) ?_
      refine kVi (As := [.int (nI (hj))]) (rest := []) S0 hK hst hA hW [0, 1] (fun sz => c_X5_closedOf l D cy t z0 zr zs zt zc zm zk zh zd zf ml zp mps za ze be zn zb zv zw zo zq nu bq fg zl hg cz zi mcn hj nt (by omega) (hct) (by omega) sz) rfl (by decide) (cwV 1 hts gX5_told_X5_closedOf rfl rfl rfl (by decide +kernel) ⟨Nat.le_of_ble_eq_true rfl, Nat.le_of_ble_eq_true rfl⟩) (fun _ => rfl) 0 5 rfl rfl rfl hl.1 rfl (Nat.le_of_ble_eq_true rfl) dX5_told_21 ⟨Nat.le_of_ble_eq_true rfl, Nat.le_of_ble_eq_true rfl⟩ (fun r21 u21 H locs p21 hW => ?_)
      have hW : Wd D A s [(z0, .inr (5, [.ref zr, .ref zs, .ref zt, .ref zc, .ref zm, .ref zk, .ref zh, .ref zd, .ref zf, .int (nI (ml)), .ref zp, .int (nI (mps)), .ref za, .ref ze, .int (be), .ref zn, .ref zb, .ref zv, .ref zw, .ref zo, .ref zq, .long (nu), .int (bq), .int (fg), .ref zl, .int (nI (hg)), .int (nI (cz)), .ref zi])), (zc, .inl (cy 0, 4, .inl (mcn))), (zm, .inl (cy 0, 4, .inl (mmd)))] H locs := hW
      have q21 : r21 = nI (clo nt) := p21
      subst q21
      refine lv_istore_n (lv' := [(3, .int (nI (clo nt))), (0, .ref z0), (1, .int (nI (hj))), (2, .int (nI (3)))]) hx hb dX5_told_24 rfl hl (by decide) rfl (fun ls hl => ?_)
      refine lv_iconst (v := nI (0)) hx hb dX5_told_25 (by decide) ?_
      refine lv_istore (lv' := [(4, .int (nI (0))), (3, .int (nI (clo nt))), (0, .ref z0), (1, .int (nI (hj))), (2, .int (nI (3)))]) hx hb dX5_told_26 hl (by decide) rfl (fun ls hl => ?_)
      refine lv_iload_n hx hb dX5_told_28 rfl (lv_at hl 1 rfl) ?_
      refine lv_istore (lv' := [(5, .int (nI (clo nt))), (4, .int (nI (0))), (3, .int (nI (clo nt))), (0, .ref z0), (1, .int (nI (hj))), (2, .int (nI (3)))]) hx hb dX5_told_29 hl (by decide) rfl (fun ls hl => ?_)
      have loop31 : ∀ (nF : Nat) (on : Nat) (lf : Nat), lf < nF → (on + pcn lf = pcn (clo nt)) → (lf ≤ clo nt) → ∀ (H : Heap) (locs : List Loc), Wd D A s [(z0, .inr (5, [.ref zr, .ref zs, .ref zt, .ref zc, .ref zm, .ref zk, .ref zh, .ref zd, .ref zf, .int (nI (ml)), .ref zp, .int (nI (mps)), .ref za, .ref ze, .int (be), .ref zn, .ref zb, .ref zv, .ref zw, .ref zo, .ref zq, .long (nu), .int (bq), .int (fg), .ref zl, .int (nI (hg)), .int (nI (cz)), .ref zi])), (zc, .inl (cy 0, 4, .inl (mcn))), (zm, .inl (cy 0, 4, .inl (mmd)))] H locs → ∀ ls : Array Slot, lv_has ls 6 [(0, .ref z0), (1, .int (nI (hj))), (2, .int (nI (3))), (3, .int (nI (clo nt))), (4, .int (nI (on))), (5, .int (nI (lf)))] → W p l e ({ frames := 1, cells := 0, slots := 0, locals := 21 }) s m args below meth c H locs 0 0 Q (F0 m 31 ls []) := by
        intro nF
        induction nF with
        | zero => intro on lf hf; exact absurd hf (Nat.not_lt_zero _)
        | succ nF ih31 =>
          intro on lf hf hon hlf H locs hW ls hl
          have hc5 := pcn_40 (clo nt) (by unfold clo; omega)
          refine lv_iload hx hb dX5_told_31 (lv_at hl 5 rfl) ?_
          refine zLe (a := lf) (tgt := 54) hx hb dX5_told_33 (by decide) (by omega) (fun h33 => ?_) (fun h33 => ?_)
          · skip
            have eo : on = pcn (clo nt) := by rw [h33, pcn_0] at hon; omega
            refine lv_iload_n hx hb dX5_told_54 rfl (lv_at hl 2 rfl) ?_
            refine zNe (a := 3) (tgt := 67) hx hb dX5_told_55 (by decide) (by omega) (fun h55 => ?_) (fun h55 => ?_)
            · skip
              refine lv_iload_n hx hb dX5_told_67 rfl (lv_at hl 2 rfl) ?_
              refine lv_iconst (v := nI (1)) hx hb dX5_told_68 (by decide) ?_
              refine iNe (a := 3) (b := 1) (tgt := 81) hx hb dX5_told_69 (by decide) (by omega) (by omega) (fun h69 => ?_) (fun h69 => ?_)
              · skip
                refine lv_iload_n hx hb dX5_told_81 rfl (lv_at hl 2 rfl) ?_
                refine lv_iconst (v := nI (2)) hx hb dX5_told_82 (by decide) ?_
                refine iNe (a := 3) (b := 2) (tgt := 90) hx hb dX5_told_83 (by decide) (by omega) (by omega) (fun h83 => ?_) (fun h83 => ?_)
                · skip
                  refine lv_iload_n hx hb dX5_told_90 rfl (lv_at hl 2 rfl) ?_
                  refine lv_iconst (v := nI (3)) hx hb dX5_told_91 (by decide) ?_
                  refine iNe (a := 3) (b := 3) (tgt := 100) hx hb dX5_told_92 (by decide) (by omega) (by omega) (fun h92 => ?_) (fun h92 => ?_)
                  · skip
                    exfalso; omega
                  · skip
                    refine lv_iload hx hb dX5_told_95 (lv_at hl 4 rfl) ?_
                    refine lv_goto (tgt := 112) hx hb dX5_told_97 (by decide) ?_
                    exact eI hQ hx hb hr hlocks hK hW () (by rw [eo]) (rfl) dX5_told_112
                · skip
                  exfalso; omega
              · skip
                exfalso; omega
            · skip
              exfalso; omega
          · skip
            refine lv_iload hx hb dX5_told_36 (lv_at hl 4 rfl) ?_
            refine lv_iload hx hb dX5_told_38 (lv_at hl 5 rfl) ?_
            refine lv_iconst (v := nI (2)) hx hb dX5_told_40 (by decide) ?_
            refine lv_irem hx hb dX5_told_41 (by decide) ?_
            refine tI (pk_rem (by omega) (by omega) (by omega)) ?_
            refine lv_iadd hx hb dX5_told_42 ?_
            refine tI (nI_add _ _) ?_
            refine lv_istore (lv' := [(4, .int (nI (on + (lf % 2)))), (0, .ref z0), (1, .int (nI (hj))), (2, .int (nI (3))), (3, .int (nI (clo nt))), (5, .int (nI (lf)))]) hx hb dX5_told_43 hl (by decide) rfl (fun ls hl => ?_)
            refine lv_iload hx hb dX5_told_45 (lv_at hl 5 rfl) ?_
            refine lv_iconst (v := nI (2)) hx hb dX5_told_47 (by decide) ?_
            refine lv_idiv hx hb dX5_told_48 (by decide) ?_
            refine tI (pk_div (by omega) (by omega) (by omega)) ?_
            refine lv_istore (lv' := [(5, .int (nI (lf / 2))), (4, .int (nI (on + (lf % 2)))), (0, .ref z0), (1, .int (nI (hj))), (2, .int (nI (3))), (3, .int (nI (clo nt)))]) hx hb dX5_told_49 hl (by decide) rfl (fun ls hl => ?_)
            refine lv_goto (tgt := 31) hx hb dX5_told_51 (by decide) ?_
            exact ih31 (on + (lf % 2)) (lf / 2) (by omega) (by rw [← hon, pcn_loop h33 (by omega), Nat.add_assoc]) (by omega) _ _ hW _ (lv_sub hl [2, 3, 4, 5, 1, 0] rfl)
      exact loop31 _ 0 (clo nt) (Nat.lt_succ_self _) (Nat.zero_add _) (Nat.le_refl _) _ _ hW _ (lv_sub hl [3, 4, 5, 2, 1, 0] rfl)
    · skip
      exfalso; omega

theorem f_X5_told_4_0 : Cond.fieldLink RX5 20 "TreeHashesModel" "count" "[I" ∈ wsX5_told := by decide +kernel
theorem i_X5_told_4_X5 : ∀ w ∈ wsX50, w ∈ wsX5_told := by decide +kernel
set_option maxHeartbeats 4000000 in
set_option maxRecDepth 100000 in
theorem c_X5_told_4 (l : Launch) (D : va_G) (cy : Nat → ClassId) (t : Nat × Nat) (z0 : Nat) (zr : Nat) (zs : Nat) (zt : Nat) (zc : Nat) (zm : Nat) (zk : Nat) (zh : Nat) (zd : Nat) (zf : Nat) (ml : Nat) (zp : Nat) (mps : Nat) (za : Nat) (ze : Nat) (be : Int32) (zn : Nat) (zb : Nat) (zv : Nat) (zw : Nat) (zo : Nat) (zq : Nat) (nu : Int64) (bq : Int32) (fg : Int32) (zl : Nat) (hg : Nat) (cz : Nat) (zi : Nat) (mt : Nat → Int32) (mcn : Nat → Int32) (hj : Nat) (nt : Nat) (mmd : Nat → Int32) (hj4 : hj < 4) (hct : mcn hj = nI nt) (hnt : nt ≤ 40000) (sz : Nat) : Met l yX5_told wsX5_told ({ frames := 1, cells := 0, slots := 0, locals := 21 }) (PcW D cy t [(z0, .inr (5, [.ref zr, .ref zs, .ref zt, .ref zc, .ref zm, .ref zk, .ref zh, .ref zd, .ref zf, .int (nI (ml)), .ref zp, .int (nI (mps)), .ref za, .ref ze, .int (be), .ref zn, .ref zb, .ref zv, .ref zw, .ref zo, .ref zq, .long (nu), .int (bq), .int (fg), .ref zl, .int (nI (hg)), .int (nI (cz)), .ref zi])), (zc, .inl (cy 0, 4, .inl (mcn))), (zm, .inl (cy 0, 4, .inl (mmd)))] [.ref z0, .int (nI (hj)), .int (nI (4))] sz) (QiA D cy (fun (r : Int32) (u : Unit) => (r = nI (nt - 1024 * clo nt))) (fun u : Unit => [(z0, .inr (5, [.ref zr, .ref zs, .ref zt, .ref zc, .ref zm, .ref zk, .ref zh, .ref zd, .ref zf, .int (nI (ml)), .ref zp, .int (nI (mps)), .ref za, .ref ze, .int (be), .ref zn, .ref zb, .ref zv, .ref zw, .ref zo, .ref zq, .long (nu), .int (bq), .int (fg), .ref zl, .int (nI (hg)), .int (nI (cz)), .ref zi])), (zc, .inl (cy 0, 4, .inl (mcn))), (zm, .inl (cy 0, 4, .inl (mmd)))]) (va_A [(z0, .inr (5, [.ref zr, .ref zs, .ref zt, .ref zc, .ref zm, .ref zk, .ref zh, .ref zd, .ref zf, .int (nI (ml)), .ref zp, .int (nI (mps)), .ref za, .ref ze, .int (be), .ref zn, .ref zb, .ref zv, .ref zw, .ref zo, .ref zq, .long (nu), .int (bq), .int (fg), .ref zl, .int (nI (hg)), .int (nI (cz)), .ref zi])), (zc, .inl (cy 0, 4, .inl (mcn))), (zm, .inl (cy 0, 4, .inl (mmd)))] sz)) 0 0 (va_A [(z0, .inr (5, [.ref zr, .ref zs, .ref zt, .ref zc, .ref zm, .ref zk, .ref zh, .ref zd, .ref zf, .int (nI (ml)), .ref zp, .int (nI (mps)), .ref za, .ref ze, .int (be), .ref zn, .ref zb, .ref zv, .ref zw, .ref zo, .ref zq, .long (nu), .int (bq), .int (fg), .ref zl, .int (nI (hg)), .int (nI (cz)), .ref zi])), (zc, .inl (cy 0, 4, .inl (mcn))), (zm, .inl (cy 0, 4, .inl (mmd)))] sz) := by
  refine M_ofW (cc := cX5_told) (maxL := 6) (ret := (some .int)) (by decide) rfl (Nat.le_of_ble_eq_true rfl) ?_
  intro p e s m below meth c A ls args Q hQ S0 hr hlocks hnm hK hst hA hW hl
  have hx := S0.1; have hb := S0.2.1; have hml := S0.2.2.1; have hown := S0.2.2.2.1; have hts := S0.2.2.2.2
  have hl : lv_has ls 6 [(0, .ref z0), (1, .int (nI (hj))), (2, .int (nI (4)))] := hl
  have hcm := clo_mul nt
  refine lv_iload_n hx hb dX5_told_0 rfl (lv_at hl 1 rfl) ?_
  refine kSi (As := [.int (nI (hj))]) (rest := []) S0 hK hst hA hW [] (fun sz => c_X5_isHasher l D cy t hj (by omega) sz) rfl (by decide) (va_cwS 1 hts gX5_told_X5_isHasher rfl rfl rfl (by decide +kernel) ⟨Nat.le_of_ble_eq_true rfl, Nat.le_of_ble_eq_true rfl⟩) (fun _ => rfl) rfl hl.1 rfl (Nat.le_of_ble_eq_true rfl) dX5_told_1 ⟨Nat.le_of_ble_eq_true rfl, Nat.le_of_ble_eq_true rfl⟩ (fun r1 u1 H locs p1 hW => ?_)
  have hW : Wd D A s [(z0, .inr (5, [.ref zr, .ref zs, .ref zt, .ref zc, .ref zm, .ref zk, .ref zh, .ref zd, .ref zf, .int (nI (ml)), .ref zp, .int (nI (mps)), .ref za, .ref ze, .int (be), .ref zn, .ref zb, .ref zv, .ref zw, .ref zo, .ref zq, .long (nu), .int (bq), .int (fg), .ref zl, .int (nI (hg)), .int (nI (cz)), .ref zi])), (zc, .inl (cy 0, 4, .inl (mcn))), (zm, .inl (cy 0, 4, .inl (mmd)))] H locs := hW
  have q1 : r1 = nI (1) := p1
  subst q1
  refine zEq (a := 1) (tgt := 16) hx hb dX5_told_4 (by decide) (by omega) (fun h4 => ?_) (fun h4 => ?_)
  · skip
    exfalso; omega
  · skip
    refine lv_iload_n hx hb dX5_told_7 rfl (lv_at hl 2 rfl) ?_
    refine zLt (a := 4) (tgt := 16) hx hb dX5_told_8 (by decide) (by omega) ?_
    refine lv_iload_n hx hb dX5_told_11 rfl (lv_at hl 2 rfl) ?_
    refine lv_iconst (v := nI (4)) hx hb dX5_told_12 (by decide) ?_
    refine iLe (a := 4) (b := 4) (tgt := 19) hx hb dX5_told_13 (by decide) (by omega) (by omega) (fun h13 => ?_) (fun h13 => ?_)
    · skip
      refine lv_aload_n hx hb dX5_told_19 rfl (lv_at hl 0 rfl) ?_
      refine lv_iload_n hx hb dX5_told_20 rfl (lv_at hl 1 rfl) ?_
      refine kVi (As := [.int (nI (hj))]) (rest := []) S0 hK hst hA hW [0, 1] (fun sz => c_X5_closedOf l D cy t z0 zr zs zt zc zm zk zh zd zf ml zp mps za ze be zn zb zv zw zo zq nu bq fg zl hg cz zi mcn hj nt (by omega) (hct) (by omega) sz) rfl (by decide) (cwV 1 hts gX5_told_X5_closedOf rfl rfl rfl (by decide +kernel) ⟨Nat.le_of_ble_eq_true rfl, Nat.le_of_ble_eq_true rfl⟩) (fun _ => rfl) 0 5 rfl rfl rfl hl.1 rfl (Nat.le_of_ble_eq_true rfl) dX5_told_21 ⟨Nat.le_of_ble_eq_true rfl, Nat.le_of_ble_eq_true rfl⟩ (fun r21 u21 H locs p21 hW => ?_)
      have hW : Wd D A s [(z0, .inr (5, [.ref zr, .ref zs, .ref zt, .ref zc, .ref zm, .ref zk, .ref zh, .ref zd, .ref zf, .int (nI (ml)), .ref zp, .int (nI (mps)), .ref za, .ref ze, .int (be), .ref zn, .ref zb, .ref zv, .ref zw, .ref zo, .ref zq, .long (nu), .int (bq), .int (fg), .ref zl, .int (nI (hg)), .int (nI (cz)), .ref zi])), (zc, .inl (cy 0, 4, .inl (mcn))), (zm, .inl (cy 0, 4, .inl (mmd)))] H locs := hW
      have q21 : r21 = nI (clo nt) := p21
      subst q21
      refine lv_istore_n (lv' := [(3, .int (nI (clo nt))), (0, .ref z0), (1, .int (nI (hj))), (2, .int (nI (4)))]) hx hb dX5_told_24 rfl hl (by decide) rfl (fun ls hl => ?_)
      refine lv_iconst (v := nI (0)) hx hb dX5_told_25 (by decide) ?_
      refine lv_istore (lv' := [(4, .int (nI (0))), (3, .int (nI (clo nt))), (0, .ref z0), (1, .int (nI (hj))), (2, .int (nI (4)))]) hx hb dX5_told_26 hl (by decide) rfl (fun ls hl => ?_)
      refine lv_iload_n hx hb dX5_told_28 rfl (lv_at hl 1 rfl) ?_
      refine lv_istore (lv' := [(5, .int (nI (clo nt))), (4, .int (nI (0))), (3, .int (nI (clo nt))), (0, .ref z0), (1, .int (nI (hj))), (2, .int (nI (4)))]) hx hb dX5_told_29 hl (by decide) rfl (fun ls hl => ?_)
      have loop31 : ∀ (nF : Nat) (on : Nat) (lf : Nat), lf < nF → (on + pcn lf = pcn (clo nt)) → (lf ≤ clo nt) → ∀ (H : Heap) (locs : List Loc), Wd D A s [(z0, .inr (5, [.ref zr, .ref zs, .ref zt, .ref zc, .ref zm, .ref zk, .ref zh, .ref zd, .ref zf, .int (nI (ml)), .ref zp, .int (nI (mps)), .ref za, .ref ze, .int (be), .ref zn, .ref zb, .ref zv, .ref zw, .ref zo, .ref zq, .long (nu), .int (bq), .int (fg), .ref zl, .int (nI (hg)), .int (nI (cz)), .ref zi])), (zc, .inl (cy 0, 4, .inl (mcn))), (zm, .inl (cy 0, 4, .inl (mmd)))] H locs → ∀ ls : Array Slot, lv_has ls 6 [(0, .ref z0), (1, .int (nI (hj))), (2, .int (nI (4))), (3, .int (nI (clo nt))), (4, .int (nI (on))), (5, .int (nI (lf)))] → W p l e ({ frames := 1, cells := 0, slots := 0, locals := 21 }) s m args below meth c H locs 0 0 Q (F0 m 31 ls []) := by
        intro nF
        induction nF with
        | zero => intro on lf hf; exact absurd hf (Nat.not_lt_zero _)
        | succ nF ih31 =>
          intro on lf hf hon hlf H locs hW ls hl
          have hc5 := pcn_40 (clo nt) (by unfold clo; omega)
          refine lv_iload hx hb dX5_told_31 (lv_at hl 5 rfl) ?_
          refine zLe (a := lf) (tgt := 54) hx hb dX5_told_33 (by decide) (by omega) (fun h33 => ?_) (fun h33 => ?_)
          · skip
            have eo : on = pcn (clo nt) := by rw [h33, pcn_0] at hon; omega
            refine lv_iload_n hx hb dX5_told_54 rfl (lv_at hl 2 rfl) ?_
            refine zNe (a := 4) (tgt := 67) hx hb dX5_told_55 (by decide) (by omega) (fun h55 => ?_) (fun h55 => ?_)
            · skip
              refine lv_iload_n hx hb dX5_told_67 rfl (lv_at hl 2 rfl) ?_
              refine lv_iconst (v := nI (1)) hx hb dX5_told_68 (by decide) ?_
              refine iNe (a := 4) (b := 1) (tgt := 81) hx hb dX5_told_69 (by decide) (by omega) (by omega) (fun h69 => ?_) (fun h69 => ?_)
              · skip
                refine lv_iload_n hx hb dX5_told_81 rfl (lv_at hl 2 rfl) ?_
                refine lv_iconst (v := nI (2)) hx hb dX5_told_82 (by decide) ?_
                refine iNe (a := 4) (b := 2) (tgt := 90) hx hb dX5_told_83 (by decide) (by omega) (by omega) (fun h83 => ?_) (fun h83 => ?_)
                · skip
                  refine lv_iload_n hx hb dX5_told_90 rfl (lv_at hl 2 rfl) ?_
                  refine lv_iconst (v := nI (3)) hx hb dX5_told_91 (by decide) ?_
                  refine iNe (a := 4) (b := 3) (tgt := 100) hx hb dX5_told_92 (by decide) (by omega) (by omega) (fun h92 => ?_) (fun h92 => ?_)
                  · skip
                    refine lv_aload_n hx hb dX5_told_100 rfl (lv_at hl 0 rfl) ?_
                    refine va_get (D := D) (ci := 5) (v := .ref zc) (C := RX5) (T := TX5) (N := 28) hx hb hts i_X5_told_4_X5 hown hK hW.1 0 rfl rfl 3 (by decide) (hts (.fieldLink RX5 20 "TreeHashesModel" "count" "[I") f_X5_told_4_0) (fun _ h9 => h9) rfl dX5_told_101 ?_
                    refine lv_iload_n hx hb dX5_told_104 rfl (lv_at hl 1 rfl) ?_
                    refine rI hx hb hK hW 1 rfl (k := hj) (by omega) (by omega) dX5_told_105 ?_
                    refine tI (x' := nI (nt)) (hct) ?_
                    refine lv_sipush (v := nI (1024)) hx hb dX5_told_106 (by decide) ?_
                    refine lv_iload_n hx hb dX5_told_109 rfl (lv_at hl 3 rfl) ?_
                    refine lv_imul hx hb dX5_told_110 ?_
                    refine tI (pk_mul _ _) ?_
                    refine lv_isub hx hb dX5_told_111 ?_
                    refine tI (pk_sub (by omega)) ?_
                    exact eI hQ hx hb hr hlocks hK hW () (rfl) (rfl) dX5_told_112
                  · skip
                    exfalso; omega
                · skip
                  exfalso; omega
              · skip
                exfalso; omega
            · skip
              exfalso; omega
          · skip
            refine lv_iload hx hb dX5_told_36 (lv_at hl 4 rfl) ?_
            refine lv_iload hx hb dX5_told_38 (lv_at hl 5 rfl) ?_
            refine lv_iconst (v := nI (2)) hx hb dX5_told_40 (by decide) ?_
            refine lv_irem hx hb dX5_told_41 (by decide) ?_
            refine tI (pk_rem (by omega) (by omega) (by omega)) ?_
            refine lv_iadd hx hb dX5_told_42 ?_
            refine tI (nI_add _ _) ?_
            refine lv_istore (lv' := [(4, .int (nI (on + (lf % 2)))), (0, .ref z0), (1, .int (nI (hj))), (2, .int (nI (4))), (3, .int (nI (clo nt))), (5, .int (nI (lf)))]) hx hb dX5_told_43 hl (by decide) rfl (fun ls hl => ?_)
            refine lv_iload hx hb dX5_told_45 (lv_at hl 5 rfl) ?_
            refine lv_iconst (v := nI (2)) hx hb dX5_told_47 (by decide) ?_
            refine lv_idiv hx hb dX5_told_48 (by decide) ?_
            refine tI (pk_div (by omega) (by omega) (by omega)) ?_
            refine lv_istore (lv' := [(5, .int (nI (lf / 2))), (4, .int (nI (on + (lf % 2)))), (0, .ref z0), (1, .int (nI (hj))), (2, .int (nI (4))), (3, .int (nI (clo nt)))]) hx hb dX5_told_49 hl (by decide) rfl (fun ls hl => ?_)
            refine lv_goto (tgt := 31) hx hb dX5_told_51 (by decide) ?_
            exact ih31 (on + (lf % 2)) (lf / 2) (by omega) (by rw [← hon, pcn_loop h33 (by omega), Nat.add_assoc]) (by omega) _ _ hW _ (lv_sub hl [2, 3, 4, 5, 1, 0] rfl)
      exact loop31 _ 0 (clo nt) (Nat.lt_succ_self _) (Nat.zero_add _) (Nat.le_refl _) _ _ hW _ (lv_sub hl [3, 4, 5, 2, 1, 0] rfl)
    · skip
      exfalso; omega

set_option maxHeartbeats 4000000 in
set_option maxRecDepth 100000 in
theorem c_X5_chain_b (l : Launch) (D : va_G) (cy : Nat → ClassId) (t : Nat × Nat) (z0 : Nat) (zr : Nat) (zs : Nat) (zt : Nat) (zc : Nat) (zm : Nat) (zk : Nat) (zh : Nat) (zd : Nat) (zf : Nat) (ml : Nat) (zp : Nat) (mps : Nat) (za : Nat) (ze : Nat) (be : Int32) (zn : Nat) (zb : Nat) (zv : Nat) (zw : Nat) (zo : Nat) (zq : Nat) (nu : Int64) (bq : Int32) (fg : Int32) (zl : Nat) (hg : Nat) (cz : Nat) (zi : Nat) (x : Int32) (y : Int32) (z : Int32) (hbd : x < 0 ∨ nI 4 ≤ x) (sz : Nat) : Met l yX5_chain wsX5_chain ({ frames := 1, cells := 0, slots := 0, locals := 20 }) (PcW D cy t [(z0, .inr (5, [.ref zr, .ref zs, .ref zt, .ref zc, .ref zm, .ref zk, .ref zh, .ref zd, .ref zf, .int (nI (ml)), .ref zp, .int (nI (mps)), .ref za, .ref ze, .int (be), .ref zn, .ref zb, .ref zv, .ref zw, .ref zo, .ref zq, .long (nu), .int (bq), .int (fg), .ref zl, .int (nI (hg)), .int (nI (cz)), .ref zi]))] [.ref z0, .int (x), .int (y), .int (z)] sz) (QiA D cy (fun (r : Int32) (u : Unit) => (r = (-2 : Int32))) (fun u : Unit => [(z0, .inr (5, [.ref zr, .ref zs, .ref zt, .ref zc, .ref zm, .ref zk, .ref zh, .ref zd, .ref zf, .int (nI (ml)), .ref zp, .int (nI (mps)), .ref za, .ref ze, .int (be), .ref zn, .ref zb, .ref zv, .ref zw, .ref zo, .ref zq, .long (nu), .int (bq), .int (fg), .ref zl, .int (nI (hg)), .int (nI (cz)), .ref zi]))]) (va_A [(z0, .inr (5, [.ref zr, .ref zs, .ref zt, .ref zc, .ref zm, .ref zk, .ref zh, .ref zd, .ref zf, .int (nI (ml)), .ref zp, .int (nI (mps)), .ref za, .ref ze, .int (be), .ref zn, .ref zb, .ref zv, .ref zw, .ref zo, .ref zq, .long (nu), .int (bq), .int (fg), .ref zl, .int (nI (hg)), .int (nI (cz)), .ref zi]))] sz)) 0 0 (va_A [(z0, .inr (5, [.ref zr, .ref zs, .ref zt, .ref zc, .ref zm, .ref zk, .ref zh, .ref zd, .ref zf, .int (nI (ml)), .ref zp, .int (nI (mps)), .ref za, .ref ze, .int (be), .ref zn, .ref zb, .ref zv, .ref zw, .ref zo, .ref zq, .long (nu), .int (bq), .int (fg), .ref zl, .int (nI (hg)), .int (nI (cz)), .ref zi]))] sz) := by
  refine M_ofW (cc := cX5_chain) (maxL := 4) (ret := (some .int)) (by decide) rfl (Nat.le_of_ble_eq_true rfl) ?_
  intro p e s m below meth c A ls args Q hQ S0 hr hlocks hnm hK hst hA hW hl
  have hx := S0.1; have hb := S0.2.1; have hml := S0.2.2.1; have hown := S0.2.2.2.1; have hts := S0.2.2.2.2
  have hl : lv_has ls 4 [(0, .ref z0), (1, .int (x)), (2, .int (y)), (3, .int (z))] := hl
  refine lv_iload_n hx hb dX5_chain_0 rfl (lv_at hl 1 rfl) ?_
  refine kSi (As := [.int (x)]) (rest := []) S0 hK hst hA hW [] (fun sz => c_X5_isHasher_b l D cy t x (hbd) sz) rfl (by decide) (va_cwS 1 hts gX5_chain_X5_isHasher rfl rfl rfl (by decide +kernel) ⟨Nat.le_of_ble_eq_true rfl, Nat.le_of_ble_eq_true rfl⟩) (fun _ => rfl) rfl hl.1 rfl (Nat.le_of_ble_eq_true rfl) dX5_chain_1 ⟨Nat.le_of_ble_eq_true rfl, Nat.le_of_ble_eq_true rfl⟩ (fun r1 u1 H locs p1 hW => ?_)
  have hW : Wd D A s [(z0, .inr (5, [.ref zr, .ref zs, .ref zt, .ref zc, .ref zm, .ref zk, .ref zh, .ref zd, .ref zf, .int (nI (ml)), .ref zp, .int (nI (mps)), .ref za, .ref ze, .int (be), .ref zn, .ref zb, .ref zv, .ref zw, .ref zo, .ref zq, .long (nu), .int (bq), .int (fg), .ref zl, .int (nI (hg)), .int (nI (cz)), .ref zi]))] H locs := hW
  have q1 : r1 = nI (0) := p1
  subst q1
  refine zNe (a := 0) (tgt := 10) hx hb dX5_chain_4 (by decide) (by omega) (fun h4 => ?_) (fun h4 => ?_)
  · skip
    exfalso; omega
  · skip
    refine lv_bipush (v := (-2 : Int32)) hx hb dX5_chain_7 (by decide) ?_
    exact eI hQ hx hb hr hlocks hK hW () (rfl) (rfl) dX5_chain_9

set_option maxHeartbeats 4000000 in
set_option maxRecDepth 100000 in
theorem c_X5_chain_o (l : Launch) (D : va_G) (cy : Nat → ClassId) (t : Nat × Nat) (z0 : Nat) (zr : Nat) (zs : Nat) (zt : Nat) (zc : Nat) (zm : Nat) (zk : Nat) (zh : Nat) (zd : Nat) (zf : Nat) (ml : Nat) (zp : Nat) (mps : Nat) (za : Nat) (ze : Nat) (be : Int32) (zn : Nat) (zb : Nat) (zv : Nat) (zw : Nat) (zo : Nat) (zq : Nat) (nu : Int64) (bq : Int32) (fg : Int32) (zl : Nat) (hg : Nat) (cz : Nat) (zi : Nat) (hj : Nat) (y : Int32) (z : Int32) (hj4 : hj < 4) (hbn : y < 0 ∨ z < 0 ∨ nI 7 < z) (sz : Nat) : Met l yX5_chain wsX5_chain ({ frames := 1, cells := 0, slots := 0, locals := 20 }) (PcW D cy t [(z0, .inr (5, [.ref zr, .ref zs, .ref zt, .ref zc, .ref zm, .ref zk, .ref zh, .ref zd, .ref zf, .int (nI (ml)), .ref zp, .int (nI (mps)), .ref za, .ref ze, .int (be), .ref zn, .ref zb, .ref zv, .ref zw, .ref zo, .ref zq, .long (nu), .int (bq), .int (fg), .ref zl, .int (nI (hg)), .int (nI (cz)), .ref zi]))] [.ref z0, .int (nI (hj)), .int (y), .int (z)] sz) (QiA D cy (fun (r : Int32) (u : Unit) => (r = nI (0))) (fun u : Unit => [(z0, .inr (5, [.ref zr, .ref zs, .ref zt, .ref zc, .ref zm, .ref zk, .ref zh, .ref zd, .ref zf, .int (nI (ml)), .ref zp, .int (nI (mps)), .ref za, .ref ze, .int (be), .ref zn, .ref zb, .ref zv, .ref zw, .ref zo, .ref zq, .long (nu), .int (bq), .int (fg), .ref zl, .int (nI (hg)), .int (nI (cz)), .ref zi]))]) (va_A [(z0, .inr (5, [.ref zr, .ref zs, .ref zt, .ref zc, .ref zm, .ref zk, .ref zh, .ref zd, .ref zf, .int (nI (ml)), .ref zp, .int (nI (mps)), .ref za, .ref ze, .int (be), .ref zn, .ref zb, .ref zv, .ref zw, .ref zo, .ref zq, .long (nu), .int (bq), .int (fg), .ref zl, .int (nI (hg)), .int (nI (cz)), .ref zi]))] sz)) 0 0 (va_A [(z0, .inr (5, [.ref zr, .ref zs, .ref zt, .ref zc, .ref zm, .ref zk, .ref zh, .ref zd, .ref zf, .int (nI (ml)), .ref zp, .int (nI (mps)), .ref za, .ref ze, .int (be), .ref zn, .ref zb, .ref zv, .ref zw, .ref zo, .ref zq, .long (nu), .int (bq), .int (fg), .ref zl, .int (nI (hg)), .int (nI (cz)), .ref zi]))] sz) := by
  refine M_ofW (cc := cX5_chain) (maxL := 4) (ret := (some .int)) (by decide) rfl (Nat.le_of_ble_eq_true rfl) ?_
  intro p e s m below meth c A ls args Q hQ S0 hr hlocks hnm hK hst hA hW hl
  have hx := S0.1; have hb := S0.2.1; have hml := S0.2.2.1; have hown := S0.2.2.2.1; have hts := S0.2.2.2.2
  have hl : lv_has ls 4 [(0, .ref z0), (1, .int (nI (hj))), (2, .int (y)), (3, .int (z))] := hl
  refine lv_iload_n hx hb dX5_chain_0 rfl (lv_at hl 1 rfl) ?_
  refine kSi (As := [.int (nI (hj))]) (rest := []) S0 hK hst hA hW [] (fun sz => c_X5_isHasher l D cy t hj (by omega) sz) rfl (by decide) (va_cwS 1 hts gX5_chain_X5_isHasher rfl rfl rfl (by decide +kernel) ⟨Nat.le_of_ble_eq_true rfl, Nat.le_of_ble_eq_true rfl⟩) (fun _ => rfl) rfl hl.1 rfl (Nat.le_of_ble_eq_true rfl) dX5_chain_1 ⟨Nat.le_of_ble_eq_true rfl, Nat.le_of_ble_eq_true rfl⟩ (fun r1 u1 H locs p1 hW => ?_)
  have hW : Wd D A s [(z0, .inr (5, [.ref zr, .ref zs, .ref zt, .ref zc, .ref zm, .ref zk, .ref zh, .ref zd, .ref zf, .int (nI (ml)), .ref zp, .int (nI (mps)), .ref za, .ref ze, .int (be), .ref zn, .ref zb, .ref zv, .ref zw, .ref zo, .ref zq, .long (nu), .int (bq), .int (fg), .ref zl, .int (nI (hg)), .int (nI (cz)), .ref zi]))] H locs := hW
  have q1 : r1 = nI (1) := p1
  subst q1
  refine zNe (a := 1) (tgt := 10) hx hb dX5_chain_4 (by decide) (by omega) (fun h4 => ?_) (fun h4 => ?_)
  · skip
    refine lv_iload_n hx hb dX5_chain_10 rfl (lv_at hl 2 rfl) ?_
    refine lv_if_lt (tgt := 24) hx hb dX5_chain_11 (by decide) (fun h11 => ?_) (fun h11 => ?_)
    · skip
      refine lv_iconst (v := nI (0)) hx hb dX5_chain_24 (by decide) ?_
      exact eI hQ hx hb hr hlocks hK hW () (rfl) (rfl) dX5_chain_25
    · skip
      refine lv_iload_n hx hb dX5_chain_14 rfl (lv_at hl 3 rfl) ?_
      refine lv_if_lt (tgt := 24) hx hb dX5_chain_15 (by decide) (fun h15 => ?_) (fun h15 => ?_)
      · skip
        refine lv_iconst (v := nI (0)) hx hb dX5_chain_24 (by decide) ?_
        exact eI hQ hx hb hr hlocks hK hW () (rfl) (rfl) dX5_chain_25
      · skip
        refine lv_iload_n hx hb dX5_chain_18 rfl (lv_at hl 3 rfl) ?_
        refine lv_bipush (v := nI (7)) hx hb dX5_chain_19 (by decide) ?_
        refine lv_icmp_le (tgt := 26) hx hb dX5_chain_21 (by decide) (fun h21 => ?_) (fun h21 => ?_)
        · skip
          exact hbn.elim (fun q => absurd q h11) (fun q => q.elim (fun q => absurd q h15) (fun q => absurd h21 (Int32.not_le.mpr q)))
        · skip
          refine lv_iconst (v := nI (0)) hx hb dX5_chain_24 (by decide) ?_
          exact eI hQ hx hb hr hlocks hK hW () (rfl) (rfl) dX5_chain_25
  · skip
    exfalso; omega

theorem f_X5_chain_0 : Cond.fieldLink RX5 117 "TreeHashesModel" "high" "I" ∈ wsX5_chain := by decide +kernel
theorem i_X5_chain_X5 : ∀ w ∈ wsX50, w ∈ wsX5_chain := by decide +kernel
theorem f_X5_chain_2 : Cond.fieldLink RX5 65 "TreeHashesModel" "pile" "[I" ∈ wsX5_chain := by decide +kernel
set_option maxHeartbeats 4000000 in
set_option maxRecDepth 100000 in
theorem c_X5_chain (l : Launch) (D : va_G) (cy : Nat → ClassId) (t : Nat × Nat) (z0 : Nat) (zr : Nat) (zs : Nat) (zt : Nat) (zc : Nat) (zm : Nat) (zk : Nat) (zh : Nat) (zd : Nat) (zf : Nat) (ml : Nat) (zp : Nat) (mps : Nat) (za : Nat) (ze : Nat) (be : Int32) (zn : Nat) (zb : Nat) (zv : Nat) (zw : Nat) (zo : Nat) (zq : Nat) (nu : Int64) (bq : Int32) (fg : Int32) (zl : Nat) (hg : Nat) (cz : Nat) (zi : Nat) (ke : Nat → Int32) (cn : Nat → Int32) (bb : Nat → Int32) (vv : Nat → Int32) (ww : Nat → Int32) (oo : Nat → Int32) (pp : Nat → Int32) (mt : Nat → Int32) (mcn : Nat → Int32) (mmd : Nat → Int32) (mk : Nat → Int32) (mh : Nat → Int32) (mdn : Nat → Int32) (hj : Nat) (nt : Nat) (md0 : Nat) (g : Nat → Int32) (K : Nat → Int32) (a : Nat) (b : Nat) (hj4 : hj < 4) (hct : mcn hj = nI nt) (hnt : nt ≤ 40000) (hKk : ∀ k, k < 8 → mk (8 * hj + k) = K k) (hmd : mdn hj = nI md0) (hmd2 : md0 ≤ clo nt) (htk : ∀ i, i < nt → mt (40000 * hj + i) = g i) (hch : ∀ c, c < md0 → ∀ k, k < 8 → mh (320 * hj + 8 * c + k) = chC K (bsO (mmd hj)) g 0 c k) (ha : a < pcn (clo nt)) (hb8 : b < 8) (ha31 : a < 2 ^ 31) (sz : Nat) : Met l yX5_chain wsX5_chain ({ frames := 6, cells := 0, slots := 0, locals := 144 }) (PcW D cy t [(z0, .inr (5, [.ref zr, .ref zs, .ref zt, .ref zc, .ref zm, .ref zk, .ref zh, .ref zd, .ref zf, .int (nI (ml)), .ref zp, .int (nI (mps)), .ref za, .ref ze, .int (be), .ref zn, .ref zb, .ref zv, .ref zw, .ref zo, .ref zq, .long (nu), .int (bq), .int (fg), .ref zl, .int (nI (hg)), .int (nI (cz)), .ref zi])), (ze, .inl (cy 0, 8, .inl (ke))), (zn, .inl (cy 0, 8, .inl (cn))), (zb, .inl (cy 0, 16, .inl (bb))), (zv, .inl (cy 0, 16, .inl (vv))), (zw, .inl (cy 0, 16, .inl (ww))), (zo, .inl (cy 0, 16, .inl (oo))), (zl, .inl (cy 0, 96, .inl (pp))), (zq, .inl (cy 0, 16, .inl (fun k => nI (orN k)))), (za, .inl (cy 0, 8, .inl (stA))), (zt, .inl (cy 0, 160000, .inl (mt))), (zc, .inl (cy 0, 4, .inl (mcn))), (zm, .inl (cy 0, 4, .inl (mmd))), (zk, .inl (cy 0, 32, .inl (mk))), (zh, .inl (cy 0, 1280, .inl (mh))), (zd, .inl (cy 0, 4, .inl (mdn)))] [.ref z0, .int (nI (hj)), .int (nI (a)), .int (nI (b))] sz) (QiA D cy (fun (r : Int32) (u : (Nat → Int32) × (Nat → Int32) × (Nat → Int32) × (Nat → Int32) × (Nat → Int32) × (Int64) × (Int32) × (Int32) × (Nat → Int32) × (Nat → Int32)) => match u with | (cn2, bb2, vv2, ww2, oo2, nu2, bq2, fg2, pp2, mh2) => (r = skS K (bsO (mmd hj)) g 0 (clo nt) a b) ∧ (∀ c, c < clo nt → ∀ k, k < 8 → mh2 (320 * hj + 8 * c + k) = chC K (bsO (mmd hj)) g 0 c k) ∧ (∀ x, (x < 320 * hj ∨ 320 * hj + 320 ≤ x) → mh2 x = mh x)) (fun u : (Nat → Int32) × (Nat → Int32) × (Nat → Int32) × (Nat → Int32) × (Nat → Int32) × (Int64) × (Int32) × (Int32) × (Nat → Int32) × (Nat → Int32) => match u with | (cn2, bb2, vv2, ww2, oo2, nu2, bq2, fg2, pp2, mh2) => [(z0, .inr (5, [.ref zr, .ref zs, .ref zt, .ref zc, .ref zm, .ref zk, .ref zh, .ref zd, .ref zf, .int (nI (ml)), .ref zp, .int (nI (mps)), .ref za, .ref ze, .int (bsO (mmd hj)), .ref zn, .ref zb, .ref zv, .ref zw, .ref zo, .ref zq, .long (nu2), .int (bq2), .int (fg2), .ref zl, .int (nI (pcn (clo nt))), .int (nI (clo nt)), .ref zi])), (ze, .inl (cy 0, 8, .inl (K))), (zn, .inl (cy 0, 8, .inl (cn2))), (zb, .inl (cy 0, 16, .inl (bb2))), (zv, .inl (cy 0, 16, .inl (vv2))), (zw, .inl (cy 0, 16, .inl (ww2))), (zo, .inl (cy 0, 16, .inl (oo2))), (zl, .inl (cy 0, 96, .inl (pp2))), (zq, .inl (cy 0, 16, .inl (fun k => nI (orN k)))), (za, .inl (cy 0, 8, .inl (stA))), (zt, .inl (cy 0, 160000, .inl (mt))), (zc, .inl (cy 0, 4, .inl (mcn))), (zm, .inl (cy 0, 4, .inl (mmd))), (zk, .inl (cy 0, 32, .inl (mk))), (zh, .inl (cy 0, 1280, .inl (mh2))), (zd, .inl (cy 0, 4, .inl (upd mdn hj (nI (clo nt)))))]) (va_A [(z0, .inr (5, [.ref zr, .ref zs, .ref zt, .ref zc, .ref zm, .ref zk, .ref zh, .ref zd, .ref zf, .int (nI (ml)), .ref zp, .int (nI (mps)), .ref za, .ref ze, .int (be), .ref zn, .ref zb, .ref zv, .ref zw, .ref zo, .ref zq, .long (nu), .int (bq), .int (fg), .ref zl, .int (nI (hg)), .int (nI (cz)), .ref zi])), (ze, .inl (cy 0, 8, .inl (ke))), (zn, .inl (cy 0, 8, .inl (cn))), (zb, .inl (cy 0, 16, .inl (bb))), (zv, .inl (cy 0, 16, .inl (vv))), (zw, .inl (cy 0, 16, .inl (ww))), (zo, .inl (cy 0, 16, .inl (oo))), (zl, .inl (cy 0, 96, .inl (pp))), (zq, .inl (cy 0, 16, .inl (fun k => nI (orN k)))), (za, .inl (cy 0, 8, .inl (stA))), (zt, .inl (cy 0, 160000, .inl (mt))), (zc, .inl (cy 0, 4, .inl (mcn))), (zm, .inl (cy 0, 4, .inl (mmd))), (zk, .inl (cy 0, 32, .inl (mk))), (zh, .inl (cy 0, 1280, .inl (mh))), (zd, .inl (cy 0, 4, .inl (mdn)))] sz)) 0 0 (va_A [(z0, .inr (5, [.ref zr, .ref zs, .ref zt, .ref zc, .ref zm, .ref zk, .ref zh, .ref zd, .ref zf, .int (nI (ml)), .ref zp, .int (nI (mps)), .ref za, .ref ze, .int (be), .ref zn, .ref zb, .ref zv, .ref zw, .ref zo, .ref zq, .long (nu), .int (bq), .int (fg), .ref zl, .int (nI (hg)), .int (nI (cz)), .ref zi])), (ze, .inl (cy 0, 8, .inl (ke))), (zn, .inl (cy 0, 8, .inl (cn))), (zb, .inl (cy 0, 16, .inl (bb))), (zv, .inl (cy 0, 16, .inl (vv))), (zw, .inl (cy 0, 16, .inl (ww))), (zo, .inl (cy 0, 16, .inl (oo))), (zl, .inl (cy 0, 96, .inl (pp))), (zq, .inl (cy 0, 16, .inl (fun k => nI (orN k)))), (za, .inl (cy 0, 8, .inl (stA))), (zt, .inl (cy 0, 160000, .inl (mt))), (zc, .inl (cy 0, 4, .inl (mcn))), (zm, .inl (cy 0, 4, .inl (mmd))), (zk, .inl (cy 0, 32, .inl (mk))), (zh, .inl (cy 0, 1280, .inl (mh))), (zd, .inl (cy 0, 4, .inl (mdn)))] sz) := by
  refine M_ofW (cc := cX5_chain) (maxL := 4) (ret := (some .int)) (by decide) rfl (Nat.le_of_ble_eq_true rfl) ?_
  intro p e s m below meth c A ls args Q hQ S0 hr hlocks hnm hK hst hA hW hl
  have hx := S0.1; have hb := S0.2.1; have hml := S0.2.2.1; have hown := S0.2.2.2.1; have hts := S0.2.2.2.2
  have hl : lv_has ls 4 [(0, .ref z0), (1, .int (nI (hj))), (2, .int (nI (a))), (3, .int (nI (b)))] := hl
  refine lv_iload_n hx hb dX5_chain_0 rfl (lv_at hl 1 rfl) ?_
  refine kSi (As := [.int (nI (hj))]) (rest := []) S0 hK hst hA hW [] (fun sz => c_X5_isHasher l D cy t hj (by omega) sz) rfl (by decide) (va_cwS 1 hts gX5_chain_X5_isHasher rfl rfl rfl (by decide +kernel) ⟨Nat.le_of_ble_eq_true rfl, Nat.le_of_ble_eq_true rfl⟩) (fun _ => rfl) rfl hl.1 rfl (Nat.le_of_ble_eq_true rfl) dX5_chain_1 ⟨Nat.le_of_ble_eq_true rfl, Nat.le_of_ble_eq_true rfl⟩ (fun r1 u1 H locs p1 hW => ?_)
  have hW : Wd D A s [(z0, .inr (5, [.ref zr, .ref zs, .ref zt, .ref zc, .ref zm, .ref zk, .ref zh, .ref zd, .ref zf, .int (nI (ml)), .ref zp, .int (nI (mps)), .ref za, .ref ze, .int (be), .ref zn, .ref zb, .ref zv, .ref zw, .ref zo, .ref zq, .long (nu), .int (bq), .int (fg), .ref zl, .int (nI (hg)), .int (nI (cz)), .ref zi])), (ze, .inl (cy 0, 8, .inl (ke))), (zn, .inl (cy 0, 8, .inl (cn))), (zb, .inl (cy 0, 16, .inl (bb))), (zv, .inl (cy 0, 16, .inl (vv))), (zw, .inl (cy 0, 16, .inl (ww))), (zo, .inl (cy 0, 16, .inl (oo))), (zl, .inl (cy 0, 96, .inl (pp))), (zq, .inl (cy 0, 16, .inl (fun k => nI (orN k)))), (za, .inl (cy 0, 8, .inl (stA))), (zt, .inl (cy 0, 160000, .inl (mt))), (zc, .inl (cy 0, 4, .inl (mcn))), (zm, .inl (cy 0, 4, .inl (mmd))), (zk, .inl (cy 0, 32, .inl (mk))), (zh, .inl (cy 0, 1280, .inl (mh))), (zd, .inl (cy 0, 4, .inl (mdn)))] H locs := hW
  have q1 : r1 = nI (1) := p1
  subst q1
  refine zNe (a := 1) (tgt := 10) hx hb dX5_chain_4 (by decide) (by omega) (fun h4 => ?_) (fun h4 => ?_)
  · skip
    refine lv_iload_n hx hb dX5_chain_10 rfl (lv_at hl 2 rfl) ?_
    refine zLt (a := a) (tgt := 24) hx hb dX5_chain_11 (by decide) (by omega) ?_
    refine lv_iload_n hx hb dX5_chain_14 rfl (lv_at hl 3 rfl) ?_
    refine zLt (a := b) (tgt := 24) hx hb dX5_chain_15 (by decide) (by omega) ?_
    refine lv_iload_n hx hb dX5_chain_18 rfl (lv_at hl 3 rfl) ?_
    refine lv_bipush (v := nI (7)) hx hb dX5_chain_19 (by decide) ?_
    refine iLe (a := b) (b := 7) (tgt := 26) hx hb dX5_chain_21 (by decide) (by omega) (by omega) (fun h21 => ?_) (fun h21 => ?_)
    · skip
      refine lv_aload_n hx hb dX5_chain_26 rfl (lv_at hl 0 rfl) ?_
      refine lv_iload_n hx hb dX5_chain_27 rfl (lv_at hl 1 rfl) ?_
      refine kVv (As := [.int (nI (hj))]) (rest := []) S0 hK hst hA hW [0, 1, 2, 3, 4, 5, 6, 7, 8, 9, 10, 11, 12, 13, 14, 15] (fun sz => c_X5_pileOf l D cy t z0 zr zs zt zc zm zk zh zd zf ml zp mps za ze be zn zb zv zw zo zq nu bq fg zl hg cz zi ke cn bb vv ww oo pp mt mcn mmd mk mh mdn hj nt md0 g K (by omega) (hct) (by omega) (hKk) (hmd) (hmd2) (htk) (hch) sz) rfl (by decide) (cwV 1 hts gX5_chain_X5_pileOf rfl rfl rfl (by decide +kernel) ⟨Nat.le_of_ble_eq_true rfl, Nat.le_of_ble_eq_true rfl⟩) (fun ⟨_, _, _, _, _, _, _, _, _, _⟩ => rfl) 0 5 rfl rfl rfl hl.1 rfl (Nat.le_of_ble_eq_true rfl) dX5_chain_28 ⟨Nat.le_of_ble_eq_true rfl, Nat.le_of_ble_eq_true rfl⟩ (fun u28 H locs p28 hW => ?_)
      obtain ⟨cn2_28, bb2_28, vv2_28, ww2_28, oo2_28, nu2_28, bq2_28, fg2_28, pp2_28, mh2_28⟩ := u28
      have hW : Wd D A s [(z0, .inr (5, [.ref zr, .ref zs, .ref zt, .ref zc, .ref zm, .ref zk, .ref zh, .ref zd, .ref zf, .int (nI (ml)), .ref zp, .int (nI (mps)), .ref za, .ref ze, .int (bsO (mmd hj)), .ref zn, .ref zb, .ref zv, .ref zw, .ref zo, .ref zq, .long (nu2_28), .int (bq2_28), .int (fg2_28), .ref zl, .int (nI (pcn (clo nt))), .int (nI (clo nt)), .ref zi])), (ze, .inl (cy 0, 8, .inl (K))), (zn, .inl (cy 0, 8, .inl (cn2_28))), (zb, .inl (cy 0, 16, .inl (bb2_28))), (zv, .inl (cy 0, 16, .inl (vv2_28))), (zw, .inl (cy 0, 16, .inl (ww2_28))), (zo, .inl (cy 0, 16, .inl (oo2_28))), (zl, .inl (cy 0, 96, .inl (pp2_28))), (zq, .inl (cy 0, 16, .inl (fun k => nI (orN k)))), (za, .inl (cy 0, 8, .inl (stA))), (zt, .inl (cy 0, 160000, .inl (mt))), (zc, .inl (cy 0, 4, .inl (mcn))), (zm, .inl (cy 0, 4, .inl (mmd))), (zk, .inl (cy 0, 32, .inl (mk))), (zh, .inl (cy 0, 1280, .inl (mh2_28))), (zd, .inl (cy 0, 4, .inl (upd mdn hj (nI (clo nt)))))] H locs := hW
      have hp5 := pcn_40 (clo nt) (by unfold clo; omega)
      refine lv_iload_n hx hb dX5_chain_31 rfl (lv_at hl 2 rfl) ?_
      refine lv_aload_n hx hb dX5_chain_32 rfl (lv_at hl 0 rfl) ?_
      refine va_get (D := D) (ci := 5) (v := .int (nI (pcn (clo nt)))) (C := RX5) (T := TX5) (N := 28) hx hb hts i_X5_chain_X5 hown hK hW.1 0 rfl rfl 25 (by decide) (hts (.fieldLink RX5 117 "TreeHashesModel" "high" "I") f_X5_chain_0) (fun _ h9 => h9) rfl dX5_chain_33 ?_
      refine iGe (a := a) (b := pcn (clo nt)) (tgt := 53) hx hb dX5_chain_36 (by decide) (by omega) (by have := pcn_40 (clo nt) (by unfold clo; omega); omega) (fun h36 => ?_) (fun h36 => ?_)
      · skip
        exfalso; omega
      · skip
        refine lv_aload_n hx hb dX5_chain_39 rfl (lv_at hl 0 rfl) ?_
        refine va_get (D := D) (ci := 5) (v := .ref zl) (C := RX5) (T := TX5) (N := 28) hx hb hts i_X5_chain_X5 hown hK hW.1 0 rfl rfl 24 (by decide) (hts (.fieldLink RX5 65 "TreeHashesModel" "pile" "[I") f_X5_chain_2) (fun _ h9 => h9) rfl dX5_chain_40 ?_
        refine lv_bipush (v := nI (8)) hx hb dX5_chain_43 (by decide) ?_
        refine lv_iload_n hx hb dX5_chain_45 rfl (lv_at hl 2 rfl) ?_
        refine lv_imul hx hb dX5_chain_46 ?_
        refine tI (pk_mul _ _) ?_
        refine lv_iload_n hx hb dX5_chain_47 rfl (lv_at hl 3 rfl) ?_
        refine lv_iadd hx hb dX5_chain_48 ?_
        refine tI (nI_add _ _) ?_
        refine rI hx hb hK hW 7 rfl (k := (8 * a) + b) (by omega) (by omega) dX5_chain_49 ?_
        refine tI (x' := skS K (bsO (mmd hj)) g 0 (clo nt) a b) (p28.1 a ha b hb8) ?_
        refine lv_goto (tgt := 54) hx hb dX5_chain_50 (by decide) ?_
        exact eI hQ hx hb hr hlocks hK hW (cn2_28, bb2_28, vv2_28, ww2_28, oo2_28, nu2_28, bq2_28, fg2_28, pp2_28, mh2_28) (⟨rfl, p28.2⟩) (rfl) dX5_chain_54
    · skip
      exfalso; omega
  · skip
    exfalso; omega

theorem f_X5_chain_n_0 : Cond.fieldLink RX5 117 "TreeHashesModel" "high" "I" ∈ wsX5_chain := by decide +kernel
theorem i_X5_chain_n_X5 : ∀ w ∈ wsX50, w ∈ wsX5_chain := by decide +kernel
set_option maxHeartbeats 4000000 in
set_option maxRecDepth 100000 in
theorem c_X5_chain_n (l : Launch) (D : va_G) (cy : Nat → ClassId) (t : Nat × Nat) (z0 : Nat) (zr : Nat) (zs : Nat) (zt : Nat) (zc : Nat) (zm : Nat) (zk : Nat) (zh : Nat) (zd : Nat) (zf : Nat) (ml : Nat) (zp : Nat) (mps : Nat) (za : Nat) (ze : Nat) (be : Int32) (zn : Nat) (zb : Nat) (zv : Nat) (zw : Nat) (zo : Nat) (zq : Nat) (nu : Int64) (bq : Int32) (fg : Int32) (zl : Nat) (hg : Nat) (cz : Nat) (zi : Nat) (ke : Nat → Int32) (cn : Nat → Int32) (bb : Nat → Int32) (vv : Nat → Int32) (ww : Nat → Int32) (oo : Nat → Int32) (pp : Nat → Int32) (mt : Nat → Int32) (mcn : Nat → Int32) (mmd : Nat → Int32) (mk : Nat → Int32) (mh : Nat → Int32) (mdn : Nat → Int32) (hj : Nat) (nt : Nat) (md0 : Nat) (g : Nat → Int32) (K : Nat → Int32) (a : Nat) (b : Nat) (hj4 : hj < 4) (hct : mcn hj = nI nt) (hnt : nt ≤ 40000) (hKk : ∀ k, k < 8 → mk (8 * hj + k) = K k) (hmd : mdn hj = nI md0) (hmd2 : md0 ≤ clo nt) (htk : ∀ i, i < nt → mt (40000 * hj + i) = g i) (hch : ∀ c, c < md0 → ∀ k, k < 8 → mh (320 * hj + 8 * c + k) = chC K (bsO (mmd hj)) g 0 c k) (ha : pcn (clo nt) ≤ a) (hb8 : b < 8) (ha31 : a < 2 ^ 31) (sz : Nat) : Met l yX5_chain wsX5_chain ({ frames := 6, cells := 0, slots := 0, locals := 144 }) (PcW D cy t [(z0, .inr (5, [.ref zr, .ref zs, .ref zt, .ref zc, .ref zm, .ref zk, .ref zh, .ref zd, .ref zf, .int (nI (ml)), .ref zp, .int (nI (mps)), .ref za, .ref ze, .int (be), .ref zn, .ref zb, .ref zv, .ref zw, .ref zo, .ref zq, .long (nu), .int (bq), .int (fg), .ref zl, .int (nI (hg)), .int (nI (cz)), .ref zi])), (ze, .inl (cy 0, 8, .inl (ke))), (zn, .inl (cy 0, 8, .inl (cn))), (zb, .inl (cy 0, 16, .inl (bb))), (zv, .inl (cy 0, 16, .inl (vv))), (zw, .inl (cy 0, 16, .inl (ww))), (zo, .inl (cy 0, 16, .inl (oo))), (zl, .inl (cy 0, 96, .inl (pp))), (zq, .inl (cy 0, 16, .inl (fun k => nI (orN k)))), (za, .inl (cy 0, 8, .inl (stA))), (zt, .inl (cy 0, 160000, .inl (mt))), (zc, .inl (cy 0, 4, .inl (mcn))), (zm, .inl (cy 0, 4, .inl (mmd))), (zk, .inl (cy 0, 32, .inl (mk))), (zh, .inl (cy 0, 1280, .inl (mh))), (zd, .inl (cy 0, 4, .inl (mdn)))] [.ref z0, .int (nI (hj)), .int (nI (a)), .int (nI (b))] sz) (QiA D cy (fun (r : Int32) (u : (Nat → Int32) × (Nat → Int32) × (Nat → Int32) × (Nat → Int32) × (Nat → Int32) × (Int64) × (Int32) × (Int32) × (Nat → Int32) × (Nat → Int32)) => match u with | (cn2, bb2, vv2, ww2, oo2, nu2, bq2, fg2, pp2, mh2) => (r = nI (0)) ∧ (∀ c, c < clo nt → ∀ k, k < 8 → mh2 (320 * hj + 8 * c + k) = chC K (bsO (mmd hj)) g 0 c k) ∧ (∀ x, (x < 320 * hj ∨ 320 * hj + 320 ≤ x) → mh2 x = mh x)) (fun u : (Nat → Int32) × (Nat → Int32) × (Nat → Int32) × (Nat → Int32) × (Nat → Int32) × (Int64) × (Int32) × (Int32) × (Nat → Int32) × (Nat → Int32) => match u with | (cn2, bb2, vv2, ww2, oo2, nu2, bq2, fg2, pp2, mh2) => [(z0, .inr (5, [.ref zr, .ref zs, .ref zt, .ref zc, .ref zm, .ref zk, .ref zh, .ref zd, .ref zf, .int (nI (ml)), .ref zp, .int (nI (mps)), .ref za, .ref ze, .int (bsO (mmd hj)), .ref zn, .ref zb, .ref zv, .ref zw, .ref zo, .ref zq, .long (nu2), .int (bq2), .int (fg2), .ref zl, .int (nI (pcn (clo nt))), .int (nI (clo nt)), .ref zi])), (ze, .inl (cy 0, 8, .inl (K))), (zn, .inl (cy 0, 8, .inl (cn2))), (zb, .inl (cy 0, 16, .inl (bb2))), (zv, .inl (cy 0, 16, .inl (vv2))), (zw, .inl (cy 0, 16, .inl (ww2))), (zo, .inl (cy 0, 16, .inl (oo2))), (zl, .inl (cy 0, 96, .inl (pp2))), (zq, .inl (cy 0, 16, .inl (fun k => nI (orN k)))), (za, .inl (cy 0, 8, .inl (stA))), (zt, .inl (cy 0, 160000, .inl (mt))), (zc, .inl (cy 0, 4, .inl (mcn))), (zm, .inl (cy 0, 4, .inl (mmd))), (zk, .inl (cy 0, 32, .inl (mk))), (zh, .inl (cy 0, 1280, .inl (mh2))), (zd, .inl (cy 0, 4, .inl (upd mdn hj (nI (clo nt)))))]) (va_A [(z0, .inr (5, [.ref zr, .ref zs, .ref zt, .ref zc, .ref zm, .ref zk, .ref zh, .ref zd, .ref zf, .int (nI (ml)), .ref zp, .int (nI (mps)), .ref za, .ref ze, .int (be), .ref zn, .ref zb, .ref zv, .ref zw, .ref zo, .ref zq, .long (nu), .int (bq), .int (fg), .ref zl, .int (nI (hg)), .int (nI (cz)), .ref zi])), (ze, .inl (cy 0, 8, .inl (ke))), (zn, .inl (cy 0, 8, .inl (cn))), (zb, .inl (cy 0, 16, .inl (bb))), (zv, .inl (cy 0, 16, .inl (vv))), (zw, .inl (cy 0, 16, .inl (ww))), (zo, .inl (cy 0, 16, .inl (oo))), (zl, .inl (cy 0, 96, .inl (pp))), (zq, .inl (cy 0, 16, .inl (fun k => nI (orN k)))), (za, .inl (cy 0, 8, .inl (stA))), (zt, .inl (cy 0, 160000, .inl (mt))), (zc, .inl (cy 0, 4, .inl (mcn))), (zm, .inl (cy 0, 4, .inl (mmd))), (zk, .inl (cy 0, 32, .inl (mk))), (zh, .inl (cy 0, 1280, .inl (mh))), (zd, .inl (cy 0, 4, .inl (mdn)))] sz)) 0 0 (va_A [(z0, .inr (5, [.ref zr, .ref zs, .ref zt, .ref zc, .ref zm, .ref zk, .ref zh, .ref zd, .ref zf, .int (nI (ml)), .ref zp, .int (nI (mps)), .ref za, .ref ze, .int (be), .ref zn, .ref zb, .ref zv, .ref zw, .ref zo, .ref zq, .long (nu), .int (bq), .int (fg), .ref zl, .int (nI (hg)), .int (nI (cz)), .ref zi])), (ze, .inl (cy 0, 8, .inl (ke))), (zn, .inl (cy 0, 8, .inl (cn))), (zb, .inl (cy 0, 16, .inl (bb))), (zv, .inl (cy 0, 16, .inl (vv))), (zw, .inl (cy 0, 16, .inl (ww))), (zo, .inl (cy 0, 16, .inl (oo))), (zl, .inl (cy 0, 96, .inl (pp))), (zq, .inl (cy 0, 16, .inl (fun k => nI (orN k)))), (za, .inl (cy 0, 8, .inl (stA))), (zt, .inl (cy 0, 160000, .inl (mt))), (zc, .inl (cy 0, 4, .inl (mcn))), (zm, .inl (cy 0, 4, .inl (mmd))), (zk, .inl (cy 0, 32, .inl (mk))), (zh, .inl (cy 0, 1280, .inl (mh))), (zd, .inl (cy 0, 4, .inl (mdn)))] sz) := by
  refine M_ofW (cc := cX5_chain) (maxL := 4) (ret := (some .int)) (by decide) rfl (Nat.le_of_ble_eq_true rfl) ?_
  intro p e s m below meth c A ls args Q hQ S0 hr hlocks hnm hK hst hA hW hl
  have hx := S0.1; have hb := S0.2.1; have hml := S0.2.2.1; have hown := S0.2.2.2.1; have hts := S0.2.2.2.2
  have hl : lv_has ls 4 [(0, .ref z0), (1, .int (nI (hj))), (2, .int (nI (a))), (3, .int (nI (b)))] := hl
  refine lv_iload_n hx hb dX5_chain_0 rfl (lv_at hl 1 rfl) ?_
  refine kSi (As := [.int (nI (hj))]) (rest := []) S0 hK hst hA hW [] (fun sz => c_X5_isHasher l D cy t hj (by omega) sz) rfl (by decide) (va_cwS 1 hts gX5_chain_X5_isHasher rfl rfl rfl (by decide +kernel) ⟨Nat.le_of_ble_eq_true rfl, Nat.le_of_ble_eq_true rfl⟩) (fun _ => rfl) rfl hl.1 rfl (Nat.le_of_ble_eq_true rfl) dX5_chain_1 ⟨Nat.le_of_ble_eq_true rfl, Nat.le_of_ble_eq_true rfl⟩ (fun r1 u1 H locs p1 hW => ?_)
  have hW : Wd D A s [(z0, .inr (5, [.ref zr, .ref zs, .ref zt, .ref zc, .ref zm, .ref zk, .ref zh, .ref zd, .ref zf, .int (nI (ml)), .ref zp, .int (nI (mps)), .ref za, .ref ze, .int (be), .ref zn, .ref zb, .ref zv, .ref zw, .ref zo, .ref zq, .long (nu), .int (bq), .int (fg), .ref zl, .int (nI (hg)), .int (nI (cz)), .ref zi])), (ze, .inl (cy 0, 8, .inl (ke))), (zn, .inl (cy 0, 8, .inl (cn))), (zb, .inl (cy 0, 16, .inl (bb))), (zv, .inl (cy 0, 16, .inl (vv))), (zw, .inl (cy 0, 16, .inl (ww))), (zo, .inl (cy 0, 16, .inl (oo))), (zl, .inl (cy 0, 96, .inl (pp))), (zq, .inl (cy 0, 16, .inl (fun k => nI (orN k)))), (za, .inl (cy 0, 8, .inl (stA))), (zt, .inl (cy 0, 160000, .inl (mt))), (zc, .inl (cy 0, 4, .inl (mcn))), (zm, .inl (cy 0, 4, .inl (mmd))), (zk, .inl (cy 0, 32, .inl (mk))), (zh, .inl (cy 0, 1280, .inl (mh))), (zd, .inl (cy 0, 4, .inl (mdn)))] H locs := hW
  have q1 : r1 = nI (1) := p1
  subst q1
  refine zNe (a := 1) (tgt := 10) hx hb dX5_chain_4 (by decide) (by omega) (fun h4 => ?_) (fun h4 => ?_)
  · skip
    refine lv_iload_n hx hb dX5_chain_10 rfl (lv_at hl 2 rfl) ?_
    refine zLt (a := a) (tgt := 24) hx hb dX5_chain_11 (by decide) (by omega) ?_
    refine lv_iload_n hx hb dX5_chain_14 rfl (lv_at hl 3 rfl) ?_
    refine zLt (a := b) (tgt := 24) hx hb dX5_chain_15 (by decide) (by omega) ?_
    refine lv_iload_n hx hb dX5_chain_18 rfl (lv_at hl 3 rfl) ?_
    refine lv_bipush (v := nI (7)) hx hb dX5_chain_19 (by decide) ?_
    refine iLe (a := b) (b := 7) (tgt := 26) hx hb dX5_chain_21 (by decide) (by omega) (by omega) (fun h21 => ?_) (fun h21 => ?_)
    · skip
      refine lv_aload_n hx hb dX5_chain_26 rfl (lv_at hl 0 rfl) ?_
      refine lv_iload_n hx hb dX5_chain_27 rfl (lv_at hl 1 rfl) ?_
      refine kVv (As := [.int (nI (hj))]) (rest := []) S0 hK hst hA hW [0, 1, 2, 3, 4, 5, 6, 7, 8, 9, 10, 11, 12, 13, 14, 15] (fun sz => c_X5_pileOf l D cy t z0 zr zs zt zc zm zk zh zd zf ml zp mps za ze be zn zb zv zw zo zq nu bq fg zl hg cz zi ke cn bb vv ww oo pp mt mcn mmd mk mh mdn hj nt md0 g K (by omega) (hct) (by omega) (hKk) (hmd) (hmd2) (htk) (hch) sz) rfl (by decide) (cwV 1 hts gX5_chain_X5_pileOf rfl rfl rfl (by decide +kernel) ⟨Nat.le_of_ble_eq_true rfl, Nat.le_of_ble_eq_true rfl⟩) (fun ⟨_, _, _, _, _, _, _, _, _, _⟩ => rfl) 0 5 rfl rfl rfl hl.1 rfl (Nat.le_of_ble_eq_true rfl) dX5_chain_28 ⟨Nat.le_of_ble_eq_true rfl, Nat.le_of_ble_eq_true rfl⟩ (fun u28 H locs p28 hW => ?_)
      obtain ⟨cn2_28, bb2_28, vv2_28, ww2_28, oo2_28, nu2_28, bq2_28, fg2_28, pp2_28, mh2_28⟩ := u28
      have hW : Wd D A s [(z0, .inr (5, [.ref zr, .ref zs, .ref zt, .ref zc, .ref zm, .ref zk, .ref zh, .ref zd, .ref zf, .int (nI (ml)), .ref zp, .int (nI (mps)), .ref za, .ref ze, .int (bsO (mmd hj)), .ref zn, .ref zb, .ref zv, .ref zw, .ref zo, .ref zq, .long (nu2_28), .int (bq2_28), .int (fg2_28), .ref zl, .int (nI (pcn (clo nt))), .int (nI (clo nt)), .ref zi])), (ze, .inl (cy 0, 8, .inl (K))), (zn, .inl (cy 0, 8, .inl (cn2_28))), (zb, .inl (cy 0, 16, .inl (bb2_28))), (zv, .inl (cy 0, 16, .inl (vv2_28))), (zw, .inl (cy 0, 16, .inl (ww2_28))), (zo, .inl (cy 0, 16, .inl (oo2_28))), (zl, .inl (cy 0, 96, .inl (pp2_28))), (zq, .inl (cy 0, 16, .inl (fun k => nI (orN k)))), (za, .inl (cy 0, 8, .inl (stA))), (zt, .inl (cy 0, 160000, .inl (mt))), (zc, .inl (cy 0, 4, .inl (mcn))), (zm, .inl (cy 0, 4, .inl (mmd))), (zk, .inl (cy 0, 32, .inl (mk))), (zh, .inl (cy 0, 1280, .inl (mh2_28))), (zd, .inl (cy 0, 4, .inl (upd mdn hj (nI (clo nt)))))] H locs := hW
      have hp5 := pcn_40 (clo nt) (by unfold clo; omega)
      refine lv_iload_n hx hb dX5_chain_31 rfl (lv_at hl 2 rfl) ?_
      refine lv_aload_n hx hb dX5_chain_32 rfl (lv_at hl 0 rfl) ?_
      refine va_get (D := D) (ci := 5) (v := .int (nI (pcn (clo nt)))) (C := RX5) (T := TX5) (N := 28) hx hb hts i_X5_chain_n_X5 hown hK hW.1 0 rfl rfl 25 (by decide) (hts (.fieldLink RX5 117 "TreeHashesModel" "high" "I") f_X5_chain_n_0) (fun _ h9 => h9) rfl dX5_chain_33 ?_
      refine iGe (a := a) (b := pcn (clo nt)) (tgt := 53) hx hb dX5_chain_36 (by decide) (by omega) (by have := pcn_40 (clo nt) (by unfold clo; omega); omega) (fun h36 => ?_) (fun h36 => ?_)
      · skip
        refine lv_iconst (v := nI (0)) hx hb dX5_chain_53 (by decide) ?_
        exact eI hQ hx hb hr hlocks hK hW (cn2_28, bb2_28, vv2_28, ww2_28, oo2_28, nu2_28, bq2_28, fg2_28, pp2_28, mh2_28) (⟨rfl, p28.2⟩) (rfl) dX5_chain_54
      · skip
        exfalso; omega
    · skip
      exfalso; omega
  · skip
    exfalso; omega
