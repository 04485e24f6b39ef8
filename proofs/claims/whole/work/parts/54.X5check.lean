set_option maxHeartbeats 4000000 in
set_option maxRecDepth 100000 in
theorem c_X5_check_b (l : Launch) (D : va_G) (cy : Nat → ClassId) (t : Nat × Nat) (z0 : Nat) (zr : Nat) (zs : Nat) (zt : Nat) (zc : Nat) (zm : Nat) (zk : Nat) (zh : Nat) (zd : Nat) (zf : Nat) (ml : Nat) (zp : Nat) (mps : Nat) (za : Nat) (ze : Nat) (be : Int32) (zn : Nat) (zb : Nat) (zv : Nat) (zw : Nat) (zo : Nat) (zq : Nat) (nu : Int64) (bq : Int32) (fg : Int32) (zl : Nat) (hg : Nat) (cz : Nat) (zi : Nat) (x : Int32) (y : Int32) (z : Int32) (hbd : x < 0 ∨ nI 8 ≤ x) (sz : Nat) : Met l yX5_check wsX5_check ({ frames := 1, cells := 0, slots := 0, locals := 20 }) (PcW D cy t [(z0, .inr (5, [.ref zr, .ref zs, .ref zt, .ref zc, .ref zm, .ref zk, .ref zh, .ref zd, .ref zf, .int (nI (ml)), .ref zp, .int (nI (mps)), .ref za, .ref ze, .int (be), .ref zn, .ref zb, .ref zv, .ref zw, .ref zo, .ref zq, .long (nu), .int (bq), .int (fg), .ref zl, .int (nI (hg)), .int (nI (cz)), .ref zi]))] [.ref z0, .int (x), .int (y), .int (z)] sz) (QiA D cy (fun (r : Int32) (u : Unit) => (r = (-2 : Int32))) (fun u : Unit => [(z0, .inr (5, [.ref zr, .ref zs, .ref zt, .ref zc, .ref zm, .ref zk, .ref zh, .ref zd, .ref zf, .int (nI (ml)), .ref zp, .int (nI (mps)), .ref za, .ref ze, .int (be), .ref zn, .ref zb, .ref zv, .ref zw, .ref zo, .ref zq, .long (nu), .int (bq), .int (fg), .ref zl, .int (nI (hg)), .int (nI (cz)), .ref zi]))]) (va_A [(z0, .inr (5, [.ref zr, .ref zs, .ref zt, .ref zc, .ref zm, .ref zk, .ref zh, .ref zd, .ref zf, .int (nI (ml)), .ref zp, .int (nI (mps)), .ref za, .ref ze, .int (be), .ref zn, .ref zb, .ref zv, .ref zw, .ref zo, .ref zq, .long (nu), .int (bq), .int (fg), .ref zl, .int (nI (hg)), .int (nI (cz)), .ref zi]))] sz)) 0 0 (va_A [(z0, .inr (5, [.ref zr, .ref zs, .ref zt, .ref zc, .ref zm, .ref zk, .ref zh, .ref zd, .ref zf, .int (nI (ml)), .ref zp, .int (nI (mps)), .ref za, .ref ze, .int (be), .ref zn, .ref zb, .ref zv, .ref zw, .ref zo, .ref zq, .long (nu), .int (bq), .int (fg), .ref zl, .int (nI (hg)), .int (nI (cz)), .ref zi]))] sz) := by
  refine M_ofW (cc := cX5_check) (maxL := 12) (ret := (some .int)) (by decide) rfl (Nat.le_of_ble_eq_true rfl) ?_
  intro p e s m below meth c A ls args Q hQ S0 hr hlocks hnm hK hst hA hW hl
  have hx := S0.1; have hb := S0.2.1; have hml := S0.2.2.1; have hown := S0.2.2.2.1; have hts := S0.2.2.2.2
  have hl : lv_has ls 12 [(0, .ref z0), (1, .int (x)), (2, .int (y)), (3, .int (z))] := hl
  refine lv_iload_n hx hb dX5_check_0 rfl (lv_at hl 1 rfl) ?_
  refine kSi (As := [.int (x)]) (rest := []) S0 hK hst hA hW [] (fun sz => c_X5_isRegister_b l D cy t x (hbd) sz) rfl (by decide) (va_cwS 1 hts gX5_check_X5_isRegister rfl rfl rfl (by decide +kernel) ⟨Nat.le_of_ble_eq_true rfl, Nat.le_of_ble_eq_true rfl⟩) (fun _ => rfl) rfl hl.1 rfl (Nat.le_of_ble_eq_true rfl) dX5_check_1 ⟨Nat.le_of_ble_eq_true rfl, Nat.le_of_ble_eq_true rfl⟩ (fun r1 u1 H locs p1 hW => ?_)
  have hW : Wd D A s [(z0, .inr (5, [.ref zr, .ref zs, .ref zt, .ref zc, .ref zm, .ref zk, .ref zh, .ref zd, .ref zf, .int (nI (ml)), .ref zp, .int (nI (mps)), .ref za, .ref ze, .int (be), .ref zn, .ref zb, .ref zv, .ref zw, .ref zo, .ref zq, .long (nu), .int (bq), .int (fg), .ref zl, .int (nI (hg)), .int (nI (cz)), .ref zi]))] H locs := hW
  have q1 : r1 = nI (0) := p1
  subst q1
  refine zEq (a := 0) (tgt := 40) hx hb dX5_check_4 (by decide) (by omega) (fun h4 => ?_) (fun h4 => ?_)
  · skip
    refine lv_bipush (v := (-2 : Int32)) hx hb dX5_check_40 (by decide) ?_
    exact eI hQ hx hb hr hlocks hK hW () (rfl) (rfl) dX5_check_42
  · skip
    exfalso; omega

theorem f_X5_check_bl_0 : Cond.constant RX5 194 (1000000) ∈ wsX5_check := by decide +kernel
set_option maxHeartbeats 4000000 in
set_option maxRecDepth 100000 in
theorem c_X5_check_bl (l : Launch) (D : va_G) (cy : Nat → ClassId) (t : Nat × Nat) (z0 : Nat) (zr : Nat) (zs : Nat) (zt : Nat) (zc : Nat) (zm : Nat) (zk : Nat) (zh : Nat) (zd : Nat) (zf : Nat) (ml : Nat) (zp : Nat) (mps : Nat) (za : Nat) (ze : Nat) (be : Int32) (zn : Nat) (zb : Nat) (zv : Nat) (zw : Nat) (zo : Nat) (zq : Nat) (nu : Int64) (bq : Int32) (fg : Int32) (zl : Nat) (hg : Nat) (cz : Nat) (zi : Nat) (ms : Nat → Int32) (mr : Nat → Int32) (ri : Nat) (cnt : Nat) (y : Int32) (z : Int32) (hr8 : ri < 8) (hsz : ms ri = nI cnt) (hc : cnt ≤ 200) (hbn : y < 0 ∨ nI 1000000 < y) (sz : Nat) : Met l yX5_check wsX5_check ({ frames := 1, cells := 0, slots := 0, locals := 20 }) (PcW D cy t [(z0, .inr (5, [.ref zr, .ref zs, .ref zt, .ref zc, .ref zm, .ref zk, .ref zh, .ref zd, .ref zf, .int (nI (ml)), .ref zp, .int (nI (mps)), .ref za, .ref ze, .int (be), .ref zn, .ref zb, .ref zv, .ref zw, .ref zo, .ref zq, .long (nu), .int (bq), .int (fg), .ref zl, .int (nI (hg)), .int (nI (cz)), .ref zi])), (zs, .inl (cy 0, 8, .inl (ms))), (zr, .inl (cy 0, 1600, .inl (mr)))] [.ref z0, .int (nI (ri)), .int (y), .int (z)] sz) (QiA D cy (fun (r : Int32) (u : Unit) => (r = (-2 : Int32))) (fun u : Unit => [(z0, .inr (5, [.ref zr, .ref zs, .ref zt, .ref zc, .ref zm, .ref zk, .ref zh, .ref zd, .ref zf, .int (nI (ml)), .ref zp, .int (nI (mps)), .ref za, .ref ze, .int (be), .ref zn, .ref zb, .ref zv, .ref zw, .ref zo, .ref zq, .long (nu), .int (bq), .int (fg), .ref zl, .int (nI (hg)), .int (nI (cz)), .ref zi])), (zs, .inl (cy 0, 8, .inl (ms))), (zr, .inl (cy 0, 1600, .inl (mr)))]) (va_A [(z0, .inr (5, [.ref zr, .ref zs, .ref zt, .ref zc, .ref zm, .ref zk, .ref zh, .ref zd, .ref zf, .int (nI (ml)), .ref zp, .int (nI (mps)), .ref za, .ref ze, .int (be), .ref zn, .ref zb, .ref zv, .ref zw, .ref zo, .ref zq, .long (nu), .int (bq), .int (fg), .ref zl, .int (nI (hg)), .int (nI (cz)), .ref zi])), (zs, .inl (cy 0, 8, .inl (ms))), (zr, .inl (cy 0, 1600, .inl (mr)))] sz)) 0 0 (va_A [(z0, .inr (5, [.ref zr, .ref zs, .ref zt, .ref zc, .ref zm, .ref zk, .ref zh, .ref zd, .ref zf, .int (nI (ml)), .ref zp, .int (nI (mps)), .ref za, .ref ze, .int (be), .ref zn, .ref zb, .ref zv, .ref zw, .ref zo, .ref zq, .long (nu), .int (bq), .int (fg), .ref zl, .int (nI (hg)), .int (nI (cz)), .ref zi])), (zs, .inl (cy 0, 8, .inl (ms))), (zr, .inl (cy 0, 1600, .inl (mr)))] sz) := by
  refine M_ofW (cc := cX5_check) (maxL := 12) (ret := (some .int)) (by decide) rfl (Nat.le_of_ble_eq_true rfl) ?_
  intro p e s m below meth c A ls args Q hQ S0 hr hlocks hnm hK hst hA hW hl
  have hx := S0.1; have hb := S0.2.1; have hml := S0.2.2.1; have hown := S0.2.2.2.1; have hts := S0.2.2.2.2
  have hl : lv_has ls 12 [(0, .ref z0), (1, .int (nI (ri))), (2, .int (y)), (3, .int (z))] := hl
  refine lv_iload_n hx hb dX5_check_0 rfl (lv_at hl 1 rfl) ?_
  refine kSi (As := [.int (nI (ri))]) (rest := []) S0 hK hst hA hW [] (fun sz => c_X5_isRegister l D cy t ri (by omega) sz) rfl (by decide) (va_cwS 1 hts gX5_check_X5_isRegister rfl rfl rfl (by decide +kernel) ⟨Nat.le_of_ble_eq_true rfl, Nat.le_of_ble_eq_true rfl⟩) (fun _ => rfl) rfl hl.1 rfl (Nat.le_of_ble_eq_true rfl) dX5_check_1 ⟨Nat.le_of_ble_eq_true rfl, Nat.le_of_ble_eq_true rfl⟩ (fun r1 u1 H locs p1 hW => ?_)
  have hW : Wd D A s [(z0, .inr (5, [.ref zr, .ref zs, .ref zt, .ref zc, .ref zm, .ref zk, .ref zh, .ref zd, .ref zf, .int (nI (ml)), .ref zp, .int (nI (mps)), .ref za, .ref ze, .int (be), .ref zn, .ref zb, .ref zv, .ref zw, .ref zo, .ref zq, .long (nu), .int (bq), .int (fg), .ref zl, .int (nI (hg)), .int (nI (cz)), .ref zi])), (zs, .inl (cy 0, 8, .inl (ms))), (zr, .inl (cy 0, 1600, .inl (mr)))] H locs := hW
  have q1 : r1 = nI (1) := p1
  subst q1
  refine zEq (a := 1) (tgt := 40) hx hb dX5_check_4 (by decide) (by omega) (fun h4 => ?_) (fun h4 => ?_)
  · skip
    exfalso; omega
  · skip
    refine lv_iload_n hx hb dX5_check_7 rfl (lv_at hl 2 rfl) ?_
    refine lv_if_lt (tgt := 40) hx hb dX5_check_8 (by decide) (fun h8 => ?_) (fun h8 => ?_)
    · skip
      refine lv_bipush (v := (-2 : Int32)) hx hb dX5_check_40 (by decide) ?_
      exact eI hQ hx hb hr hlocks hK hW () (rfl) (rfl) dX5_check_42
    · skip
      refine lv_iload_n hx hb dX5_check_11 rfl (lv_at hl 2 rfl) ?_
      refine lv_ldc (v := (1000000 : Int32)) hx hb hown (hts (.constant RX5 194 (1000000)) f_X5_check_bl_0) dX5_check_12 ?_
      refine tI (x' := nI 1000000) (by decide) ?_
      refine lv_icmp_gt (tgt := 40) hx hb dX5_check_14 (by decide) (fun h14 => ?_) (fun h14 => ?_)
      · skip
        refine lv_bipush (v := (-2 : Int32)) hx hb dX5_check_40 (by decide) ?_
        exact eI hQ hx hb hr hlocks hK hW () (rfl) (rfl) dX5_check_42
      · skip
        exact hbn.elim (fun q => absurd q h8) (fun q => absurd q h14)

theorem f_X5_check_bk_0 : Cond.constant RX5 194 (1000000) ∈ wsX5_check := by decide +kernel
set_option maxHeartbeats 4000000 in
set_option maxRecDepth 100000 in
theorem c_X5_check_bk (l : Launch) (D : va_G) (cy : Nat → ClassId) (t : Nat × Nat) (z0 : Nat) (zr : Nat) (zs : Nat) (zt : Nat) (zc : Nat) (zm : Nat) (zk : Nat) (zh : Nat) (zd : Nat) (zf : Nat) (ml : Nat) (zp : Nat) (mps : Nat) (za : Nat) (ze : Nat) (be : Int32) (zn : Nat) (zb : Nat) (zv : Nat) (zw : Nat) (zo : Nat) (zq : Nat) (nu : Int64) (bq : Int32) (fg : Int32) (zl : Nat) (hg : Nat) (cz : Nat) (zi : Nat) (ms : Nat → Int32) (mr : Nat → Int32) (ri : Nat) (cnt : Nat) (n : Nat) (z : Int32) (hr8 : ri < 8) (hsz : ms ri = nI cnt) (hc : cnt ≤ 200) (hn1 : n ≤ 1000000) (hbd : z < 0 ∨ nI (chks n) ≤ z) (sz : Nat) : Met l yX5_check wsX5_check ({ frames := 1, cells := 0, slots := 0, locals := 20 }) (PcW D cy t [(z0, .inr (5, [.ref zr, .ref zs, .ref zt, .ref zc, .ref zm, .ref zk, .ref zh, .ref zd, .ref zf, .int (nI (ml)), .ref zp, .int (nI (mps)), .ref za, .ref ze, .int (be), .ref zn, .ref zb, .ref zv, .ref zw, .ref zo, .ref zq, .long (nu), .int (bq), .int (fg), .ref zl, .int (nI (hg)), .int (nI (cz)), .ref zi])), (zs, .inl (cy 0, 8, .inl (ms))), (zr, .inl (cy 0, 1600, .inl (mr)))] [.ref z0, .int (nI (ri)), .int (nI (n)), .int (z)] sz) (QiA D cy (fun (r : Int32) (u : Unit) => (r = (-2 : Int32))) (fun u : Unit => [(z0, .inr (5, [.ref zr, .ref zs, .ref zt, .ref zc, .ref zm, .ref zk, .ref zh, .ref zd, .ref zf, .int (nI (ml)), .ref zp, .int (nI (mps)), .ref za, .ref ze, .int (be), .ref zn, .ref zb, .ref zv, .ref zw, .ref zo, .ref zq, .long (nu), .int (bq), .int (fg), .ref zl, .int (nI (hg)), .int (nI (cz)), .ref zi])), (zs, .inl (cy 0, 8, .inl (ms))), (zr, .inl (cy 0, 1600, .inl (mr)))]) (va_A [(z0, .inr (5, [.ref zr, .ref zs, .ref zt, .ref zc, .ref zm, .ref zk, .ref zh, .ref zd, .ref zf, .int (nI (ml)), .ref zp, .int (nI (mps)), .ref za, .ref ze, .int (be), .ref zn, .ref zb, .ref zv, .ref zw, .ref zo, .ref zq, .long (nu), .int (bq), .int (fg), .ref zl, .int (nI (hg)), .int (nI (cz)), .ref zi])), (zs, .inl (cy 0, 8, .inl (ms))), (zr, .inl (cy 0, 1600, .inl (mr)))] sz)) 0 0 (va_A [(z0, .inr (5, [.ref zr, .ref zs, .ref zt, .ref zc, .ref zm, .ref zk, .ref zh, .ref zd, .ref zf, .int (nI (ml)), .ref zp, .int (nI (mps)), .ref za, .ref ze, .int (be), .ref zn, .ref zb, .ref zv, .ref zw, .ref zo, .ref zq, .long (nu), .int (bq), .int (fg), .ref zl, .int (nI (hg)), .int (nI (cz)), .ref zi])), (zs, .inl (cy 0, 8, .inl (ms))), (zr, .inl (cy 0, 1600, .inl (mr)))] sz) := by
  refine M_ofW (cc := cX5_check) (maxL := 12) (ret := (some .int)) (by decide) rfl (Nat.le_of_ble_eq_true rfl) ?_
  intro p e s m below meth c A ls args Q hQ S0 hr hlocks hnm hK hst hA hW hl
  have hx := S0.1; have hb := S0.2.1; have hml := S0.2.2.1; have hown := S0.2.2.2.1; have hts := S0.2.2.2.2
  have hl : lv_has ls 12 [(0, .ref z0), (1, .int (nI (ri))), (2, .int (nI (n))), (3, .int (z))] := hl
  refine lv_iload_n hx hb dX5_check_0 rfl (lv_at hl 1 rfl) ?_
  refine kSi (As := [.int (nI (ri))]) (rest := []) S0 hK hst hA hW [] (fun sz => c_X5_isRegister l D cy t ri (by omega) sz) rfl (by decide) (va_cwS 1 hts gX5_check_X5_isRegister rfl rfl rfl (by decide +kernel) ⟨Nat.le_of_ble_eq_true rfl, Nat.le_of_ble_eq_true rfl⟩) (fun _ => rfl) rfl hl.1 rfl (Nat.le_of_ble_eq_true rfl) dX5_check_1 ⟨Nat.le_of_ble_eq_true rfl, Nat.le_of_ble_eq_true rfl⟩ (fun r1 u1 H locs p1 hW => ?_)
  have hW : Wd D A s [(z0, .inr (5, [.ref zr, .ref zs, .ref zt, .ref zc, .ref zm, .ref zk, .ref zh, .ref zd, .ref zf, .int (nI (ml)), .ref zp, .int (nI (mps)), .ref za, .ref ze, .int (be), .ref zn, .ref zb, .ref zv, .ref zw, .ref zo, .ref zq, .long (nu), .int (bq), .int (fg), .ref zl, .int (nI (hg)), .int (nI (cz)), .ref zi])), (zs, .inl (cy 0, 8, .inl (ms))), (zr, .inl (cy 0, 1600, .inl (mr)))] H locs := hW
  have q1 : r1 = nI (1) := p1
  subst q1
  refine zEq (a := 1) (tgt := 40) hx hb dX5_check_4 (by decide) (by omega) (fun h4 => ?_) (fun h4 => ?_)
  · skip
    exfalso; omega
  · skip
    refine lv_iload_n hx hb dX5_check_7 rfl (lv_at hl 2 rfl) ?_
    refine zLt (a := n) (tgt := 40) hx hb dX5_check_8 (by decide) (by omega) ?_
    refine lv_iload_n hx hb dX5_check_11 rfl (lv_at hl 2 rfl) ?_
    refine lv_ldc (v := (1000000 : Int32)) hx hb hown (hts (.constant RX5 194 (1000000)) f_X5_check_bk_0) dX5_check_12 ?_
    refine tI (x' := nI 1000000) (by decide) ?_
    refine iGt (a := n) (b := 1000000) (tgt := 40) hx hb dX5_check_14 (by decide) (by omega) (by omega) (fun h14 => ?_) (fun h14 => ?_)
    · skip
      exfalso; omega
    · skip
      refine lv_iload_n hx hb dX5_check_17 rfl (lv_at hl 3 rfl) ?_
      refine lv_if_lt (tgt := 40) hx hb dX5_check_18 (by decide) (fun h18 => ?_) (fun h18 => ?_)
      · skip
        refine lv_bipush (v := (-2 : Int32)) hx hb dX5_check_40 (by decide) ?_
        exact eI hQ hx hb hr hlocks hK hW () (rfl) (rfl) dX5_check_42
      · skip
        refine lv_iload_n hx hb dX5_check_21 rfl (lv_at hl 3 rfl) ?_
        refine lv_iload_n hx hb dX5_check_22 rfl (lv_at hl 2 rfl) ?_
        refine kSi (As := [.int (nI (n))]) (rest := [.int (z)]) S0 hK hst hA hW [] (fun sz => c_X5_chunksOf l D cy t n (by omega) sz) rfl (by decide) (va_cwS 1 hts gX5_check_X5_chunksOf rfl rfl rfl (by decide +kernel) ⟨Nat.le_of_ble_eq_true rfl, Nat.le_of_ble_eq_true rfl⟩) (fun _ => rfl) rfl hl.1 rfl (Nat.le_of_ble_eq_true rfl) dX5_check_23 ⟨Nat.le_of_ble_eq_true rfl, Nat.le_of_ble_eq_true rfl⟩ (fun r23 u23 H locs p23 hW => ?_)
        have hW : Wd D A s [(z0, .inr (5, [.ref zr, .ref zs, .ref zt, .ref zc, .ref zm, .ref zk, .ref zh, .ref zd, .ref zf, .int (nI (ml)), .ref zp, .int (nI (mps)), .ref za, .ref ze, .int (be), .ref zn, .ref zb, .ref zv, .ref zw, .ref zo, .ref zq, .long (nu), .int (bq), .int (fg), .ref zl, .int (nI (hg)), .int (nI (cz)), .ref zi])), (zs, .inl (cy 0, 8, .inl (ms))), (zr, .inl (cy 0, 1600, .inl (mr)))] H locs := hW
        have q23 : r23 = nI (chks n) := p23
        subst q23
        refine lv_icmp_ge (tgt := 40) hx hb dX5_check_26 (by decide) (fun h26 => ?_) (fun h26 => ?_)
        · skip
          refine lv_bipush (v := (-2 : Int32)) hx hb dX5_check_40 (by decide) ?_
          exact eI hQ hx hb hr hlocks hK hW () (rfl) (rfl) dX5_check_42
        · skip
          exact hbd.elim (fun q => absurd q h18) (fun q => absurd q h26)

theorem f_X5_check_bc_0 : Cond.constant RX5 194 (1000000) ∈ wsX5_check := by decide +kernel
theorem f_X5_check_bc_1 : Cond.fieldLink RX5 13 "TreeHashesModel" "sizes" "[I" ∈ wsX5_check := by decide +kernel
theorem i_X5_check_bc_X5 : ∀ w ∈ wsX50, w ∈ wsX5_check := by decide +kernel
set_option maxHeartbeats 4000000 in
set_option maxRecDepth 100000 in
theorem c_X5_check_bc (l : Launch) (D : va_G) (cy : Nat → ClassId) (t : Nat × Nat) (z0 : Nat) (zr : Nat) (zs : Nat) (zt : Nat) (zc : Nat) (zm : Nat) (zk : Nat) (zh : Nat) (zd : Nat) (zf : Nat) (ml : Nat) (zp : Nat) (mps : Nat) (za : Nat) (ze : Nat) (be : Int32) (zn : Nat) (zb : Nat) (zv : Nat) (zw : Nat) (zo : Nat) (zq : Nat) (nu : Int64) (bq : Int32) (fg : Int32) (zl : Nat) (hg : Nat) (cz : Nat) (zi : Nat) (ms : Nat → Int32) (mr : Nat → Int32) (ri : Nat) (cnt : Nat) (n : Nat) (c0 : Nat) (hr8 : ri < 8) (hsz : ms ri = nI cnt) (hc : cnt ≤ 200) (hn1 : n ≤ 1000000) (hc0 : c0 < chks n) (h32 : cnt ≠ 32) (sz : Nat) : Met l yX5_check wsX5_check ({ frames := 1, cells := 0, slots := 0, locals := 20 }) (PcW D cy t [(z0, .inr (5, [.ref zr, .ref zs, .ref zt, .ref zc, .ref zm, .ref zk, .ref zh, .ref zd, .ref zf, .int (nI (ml)), .ref zp, .int (nI (mps)), .ref za, .ref ze, .int (be), .ref zn, .ref zb, .ref zv, .ref zw, .ref zo, .ref zq, .long (nu), .int (bq), .int (fg), .ref zl, .int (nI (hg)), .int (nI (cz)), .ref zi])), (zs, .inl (cy 0, 8, .inl (ms))), (zr, .inl (cy 0, 1600, .inl (mr)))] [.ref z0, .int (nI (ri)), .int (nI (n)), .int (nI (c0))] sz) (QiA D cy (fun (r : Int32) (u : Unit) => (r = (-2 : Int32))) (fun u : Unit => [(z0, .inr (5, [.ref zr, .ref zs, .ref zt, .ref zc, .ref zm, .ref zk, .ref zh, .ref zd, .ref zf, .int (nI (ml)), .ref zp, .int (nI (mps)), .ref za, .ref ze, .int (be), .ref zn, .ref zb, .ref zv, .ref zw, .ref zo, .ref zq, .long (nu), .int (bq), .int (fg), .ref zl, .int (nI (hg)), .int (nI (cz)), .ref zi])), (zs, .inl (cy 0, 8, .inl (ms))), (zr, .inl (cy 0, 1600, .inl (mr)))]) (va_A [(z0, .inr (5, [.ref zr, .ref zs, .ref zt, .ref zc, .ref zm, .ref zk, .ref zh, .ref zd, .ref zf, .int (nI (ml)), .ref zp, .int (nI (mps)), .ref za, .ref ze, .int (be), .ref zn, .ref zb, .ref zv, .ref zw, .ref zo, .ref zq, .long (nu), .int (bq), .int (fg), .ref zl, .int (nI (hg)), .int (nI (cz)), .ref zi])), (zs, .inl (cy 0, 8, .inl (ms))), (zr, .inl (cy 0, 1600, .inl (mr)))] sz)) 0 0 (va_A [(z0, .inr (5, [.ref zr, .ref zs, .ref zt, .ref zc, .ref zm, .ref zk, .ref zh, .ref zd, .ref zf, .int (nI (ml)), .ref zp, .int (nI (mps)), .ref za, .ref ze, .int (be), .ref zn, .ref zb, .ref zv, .ref zw, .ref zo, .ref zq, .long (nu), .int (bq), .int (fg), .ref zl, .int (nI (hg)), .int (nI (cz)), .ref zi])), (zs, .inl (cy 0, 8, .inl (ms))), (zr, .inl (cy 0, 1600, .inl (mr)))] sz) := by
  refine M_ofW (cc := cX5_check) (maxL := 12) (ret := (some .int)) (by decide) rfl (Nat.le_of_ble_eq_true rfl) ?_
  intro p e s m below meth c A ls args Q hQ S0 hr hlocks hnm hK hst hA hW hl
  have hx := S0.1; have hb := S0.2.1; have hml := S0.2.2.1; have hown := S0.2.2.2.1; have hts := S0.2.2.2.2
  have hl : lv_has ls 12 [(0, .ref z0), (1, .int (nI (ri))), (2, .int (nI (n))), (3, .int (nI (c0)))] := hl
  have hq1 := chks_le hn1
  refine lv_iload_n hx hb dX5_check_0 rfl (lv_at hl 1 rfl) ?_
  refine kSi (As := [.int (nI (ri))]) (rest := []) S0 hK hst hA hW [] (fun sz => c_X5_isRegister l D cy t ri (by omega) sz) rfl (by decide) (va_cwS 1 hts gX5_check_X5_isRegister rfl rfl rfl (by decide +kernel) ⟨Nat.le_of_ble_eq_true rfl, Nat.le_of_ble_eq_true rfl⟩) (fun _ => rfl) rfl hl.1 rfl (Nat.le_of_ble_eq_true rfl) dX5_check_1 ⟨Nat.le_of_ble_eq_true rfl, Nat.le_of_ble_eq_true rfl⟩ (fun r1 u1 H locs p1 hW => ?_)
  have hW : Wd D A s [(z0, .inr (5, [.ref zr, .ref zs, .ref zt, .ref zc, .ref zm, .ref zk, .ref zh, .ref zd, .ref zf, .int (nI (ml)), .ref zp, .int (nI (mps)), .ref za, .ref ze, .int (be), .ref zn, .ref zb, .ref zv, .ref zw, .ref zo, .ref zq, .long (nu), .int (bq), .int (fg), .ref zl, .int (nI (hg)), .int (nI (cz)), .ref zi])), (zs, .inl (cy 0, 8, .inl (ms))), (zr, .inl (cy 0, 1600, .inl (mr)))] H locs := hW
  have q1 : r1 = nI (1) := p1
  subst q1
  refine zEq (a := 1) (tgt := 40) hx hb dX5_check_4 (by decide) (by omega) (fun h4 => ?_) (fun h4 => ?_)
  · skip
    exfalso; omega
  · skip
    refine lv_iload_n hx hb dX5_check_7 rfl (lv_at hl 2 rfl) ?_
    refine zLt (a := n) (tgt := 40) hx hb dX5_check_8 (by decide) (by omega) ?_
    refine lv_iload_n hx hb dX5_check_11 rfl (lv_at hl 2 rfl) ?_
    refine lv_ldc (v := (1000000 : Int32)) hx hb hown (hts (.constant RX5 194 (1000000)) f_X5_check_bc_0) dX5_check_12 ?_
    refine tI (x' := nI 1000000) (by decide) ?_
    refine iGt (a := n) (b := 1000000) (tgt := 40) hx hb dX5_check_14 (by decide) (by omega) (by omega) (fun h14 => ?_) (fun h14 => ?_)
    · skip
      exfalso; omega
    · skip
      refine lv_iload_n hx hb dX5_check_17 rfl (lv_at hl 3 rfl) ?_
      refine zLt (a := c0) (tgt := 40) hx hb dX5_check_18 (by decide) (by omega) ?_
      refine lv_iload_n hx hb dX5_check_21 rfl (lv_at hl 3 rfl) ?_
      refine lv_iload_n hx hb dX5_check_22 rfl (lv_at hl 2 rfl) ?_
      refine kSi (As := [.int (nI (n))]) (rest := [.int (nI (c0))]) S0 hK hst hA hW [] (fun sz => c_X5_chunksOf l D cy t n (by omega) sz) rfl (by decide) (va_cwS 1 hts gX5_check_X5_chunksOf rfl rfl rfl (by decide +kernel) ⟨Nat.le_of_ble_eq_true rfl, Nat.le_of_ble_eq_true rfl⟩) (fun _ => rfl) rfl hl.1 rfl (Nat.le_of_ble_eq_true rfl) dX5_check_23 ⟨Nat.le_of_ble_eq_true rfl, Nat.le_of_ble_eq_true rfl⟩ (fun r23 u23 H locs p23 hW => ?_)
      have hW : Wd D A s [(z0, .inr (5, [.ref zr, .ref zs, .ref zt, .ref zc, .ref zm, .ref zk, .ref zh, .ref zd, .ref zf, .int (nI (ml)), .ref zp, .int (nI (mps)), .ref za, .ref ze, .int (be), .ref zn, .ref zb, .ref zv, .ref zw, .ref zo, .ref zq, .long (nu), .int (bq), .int (fg), .ref zl, .int (nI (hg)), .int (nI (cz)), .ref zi])), (zs, .inl (cy 0, 8, .inl (ms))), (zr, .inl (cy 0, 1600, .inl (mr)))] H locs := hW
      have q23 : r23 = nI (chks n) := p23
      subst q23
      refine iGe (a := c0) (b := chks n) (tgt := 40) hx hb dX5_check_26 (by decide) (by omega) (by omega) (fun h26 => ?_) (fun h26 => ?_)
      · skip
        exfalso; omega
      · skip
        refine lv_aload_n hx hb dX5_check_29 rfl (lv_at hl 0 rfl) ?_
        refine va_get (D := D) (ci := 5) (v := .ref zs) (C := RX5) (T := TX5) (N := 28) hx hb hts i_X5_check_bc_X5 hown hK hW.1 0 rfl rfl 1 (by decide) (hts (.fieldLink RX5 13 "TreeHashesModel" "sizes" "[I") f_X5_check_bc_1) (fun _ h9 => h9) rfl dX5_check_30 ?_
        refine lv_iload_n hx hb dX5_check_33 rfl (lv_at hl 1 rfl) ?_
        refine rI hx hb hK hW 1 rfl (k := ri) (by omega) (by omega) dX5_check_34 ?_
        refine tI (x' := nI (cnt)) (hsz) ?_
        refine lv_bipush (v := nI (32)) hx hb dX5_check_35 (by decide) ?_
        refine iEq (a := cnt) (b := 32) (tgt := 43) hx hb dX5_check_37 (by decide) (by omega) (by omega) (fun h37 => ?_) (fun h37 => ?_)
        · skip
          exfalso; omega
        · skip
          refine lv_bipush (v := (-2 : Int32)) hx hb dX5_check_40 (by decide) ?_
          exact eI hQ hx hb hr hlocks hK hW () (rfl) (rfl) dX5_check_42

theorem f_X5_check_0_0 : Cond.constant RX5 194 (1000000) ∈ wsX5_check := by decide +kernel
theorem f_X5_check_0_1 : Cond.fieldLink RX5 13 "TreeHashesModel" "sizes" "[I" ∈ wsX5_check := by decide +kernel
theorem i_X5_check_0_X5 : ∀ w ∈ wsX50, w ∈ wsX5_check := by decide +kernel
theorem f_X5_check_0_3 : Cond.fieldLink RX5 188 "TreeHashesModel" "proofSize" "I" ∈ wsX5_check := by decide +kernel
theorem f_X5_check_0_4 : Cond.fieldLink RX5 68 "TreeHashesModel" "isLeft" "[Z" ∈ wsX5_check := by decide +kernel
set_option maxHeartbeats 4000000 in
set_option maxRecDepth 100000 in
theorem c_X5_check_0 (l : Launch) (D : va_G) (cy : Nat → ClassId) (t : Nat × Nat) (z0 : Nat) (zr : Nat) (zs : Nat) (zt : Nat) (zc : Nat) (zm : Nat) (zk : Nat) (zh : Nat) (zd : Nat) (zf : Nat) (ml : Nat) (zp : Nat) (mps : Nat) (za : Nat) (ze : Nat) (be : Int32) (zn : Nat) (zb : Nat) (zv : Nat) (zw : Nat) (zo : Nat) (zq : Nat) (nu : Int64) (bq : Int32) (fg : Int32) (zl : Nat) (hg : Nat) (cz : Nat) (zi : Nat) (ms : Nat → Int32) (mr : Nat → Int32) (ri : Nat) (cnt : Nat) (n : Nat) (c0 : Nat) (il : Nat → Int32) (hr8 : ri < 8) (hsz : ms ri = nI cnt) (hc : cnt ≤ 200) (hn1 : n ≤ 1000000) (hc0 : c0 < chks n) (h32 : cnt = 32) (hne : ∀ L, wyL c0 (chks n) L → mps ≠ cln n c0 + 32 * L) (hmp : mps ≤ 2000) (sz : Nat) : Met l yX5_check wsX5_check ({ frames := 1, cells := 0, slots := 0, locals := 21 }) (PcW D cy t [(z0, .inr (5, [.ref zr, .ref zs, .ref zt, .ref zc, .ref zm, .ref zk, .ref zh, .ref zd, .ref zf, .int (nI (ml)), .ref zp, .int (nI (mps)), .ref za, .ref ze, .int (be), .ref zn, .ref zb, .ref zv, .ref zw, .ref zo, .ref zq, .long (nu), .int (bq), .int (fg), .ref zl, .int (nI (hg)), .int (nI (cz)), .ref zi])), (zs, .inl (cy 0, 8, .inl (ms))), (zr, .inl (cy 0, 1600, .inl (mr))), (zi, .inl (cy 2, 20, .inl (il)))] [.ref z0, .int (nI (ri)), .int (nI (n)), .int (nI (c0))] sz) (QiA D cy (fun (r : Int32) (u : (Nat → Int32)) => match u with | il2 => (r = nI (0))) (fun u : (Nat → Int32) => match u with | il2 => [(z0, .inr (5, [.ref zr, .ref zs, .ref zt, .ref zc, .ref zm, .ref zk, .ref zh, .ref zd, .ref zf, .int (nI (ml)), .ref zp, .int (nI (mps)), .ref za, .ref ze, .int (be), .ref zn, .ref zb, .ref zv, .ref zw, .ref zo, .ref zq, .long (nu), .int (bq), .int (fg), .ref zl, .int (nI (hg)), .int (nI (cz)), .ref zi])), (zs, .inl (cy 0, 8, .inl (ms))), (zr, .inl (cy 0, 1600, .inl (mr))), (zi, .inl (cy 2, 20, .inl (il2)))]) (va_A [(z0, .inr (5, [.ref zr, .ref zs, .ref zt, .ref zc, .ref zm, .ref zk, .ref zh, .ref zd, .ref zf, .int (nI (ml)), .ref zp, .int (nI (mps)), .ref za, .ref ze, .int (be), .ref zn, .ref zb, .ref zv, .ref zw, .ref zo, .ref zq, .long (nu), .int (bq), .int (fg), .ref zl, .int (nI (hg)), .int (nI (cz)), .ref zi])), (zs, .inl (cy 0, 8, .inl (ms))), (zr, .inl (cy 0, 1600, .inl (mr))), (zi, .inl (cy 2, 20, .inl (il)))] sz)) 0 0 (va_A [(z0, .inr (5, [.ref zr, .ref zs, .ref zt, .ref zc, .ref zm, .ref zk, .ref zh, .ref zd, .ref zf, .int (nI (ml)), .ref zp, .int (nI (mps)), .ref za, .ref ze, .int (be), .ref zn, .ref zb, .ref zv, .ref zw, .ref zo, .ref zq, .long (nu), .int (bq), .int (fg), .ref zl, .int (nI (hg)), .int (nI (cz)), .ref zi])), (zs, .inl (cy 0, 8, .inl (ms))), (zr, .inl (cy 0, 1600, .inl (mr))), (zi, .inl (cy 2, 20, .inl (il)))] sz) := by
  refine M_ofW (cc := cX5_check) (maxL := 12) (ret := (some .int)) (by decide) rfl (Nat.le_of_ble_eq_true rfl) ?_
  intro p e s m below meth c A ls args Q hQ S0 hr hlocks hnm hK hst hA hW hl
  have hx := S0.1; have hb := S0.2.1; have hml := S0.2.2.1; have hown := S0.2.2.2.1; have hts := S0.2.2.2.2
  have hl : lv_has ls 12 [(0, .ref z0), (1, .int (nI (ri))), (2, .int (nI (n))), (3, .int (nI (c0)))] := hl
  have hq1 := chks_le hn1
  have hcl := cln_n hc0
  have hcl2 := cln_le n c0
  have hcc := chks_c hc0
  refine lv_iload_n hx hb dX5_check_0 rfl (lv_at hl 1 rfl) ?_
  refine kSi (As := [.int (nI (ri))]) (rest := []) S0 hK hst hA hW [] (fun sz => c_X5_isRegister l D cy t ri (by omega) sz) rfl (by decide) (va_cwS 1 hts gX5_check_X5_isRegister rfl rfl rfl (by decide +kernel) ⟨Nat.le_of_ble_eq_true rfl, Nat.le_of_ble_eq_true rfl⟩) (fun _ => rfl) rfl hl.1 rfl (Nat.le_of_ble_eq_true rfl) dX5_check_1 ⟨Nat.le_of_ble_eq_true rfl, Nat.le_of_ble_eq_true rfl⟩ (fun r1 u1 H locs p1 hW => ?_)
  have hW : Wd D A s [(z0, .inr (5, [.ref zr, .ref zs, .ref zt, .ref zc, .ref zm, .ref zk, .ref zh, .ref zd, .ref zf, .int (nI (ml)), .ref zp, .int (nI (mps)), .ref za, .ref ze, .int (be), .ref zn, .ref zb, .ref zv, .ref zw, .ref zo, .ref zq, .long (nu), .int (bq), .int (fg), .ref zl, .int (nI (hg)), .int (nI (cz)), .ref zi])), (zs, .inl (cy 0, 8, .inl (ms))), (zr, .inl (cy 0, 1600, .inl (mr))), (zi, .inl (cy 2, 20, .inl (il)))] H locs := hW
  have q1 : r1 = nI (1) := p1
  subst q1
  refine zEq (a := 1) (tgt := 40) hx hb dX5_check_4 (by decide) (by omega) (fun h4 => ?_) (fun h4 => ?_)
  · skip
    exfalso; omega
  · skip
    refine lv_iload_n hx hb dX5_check_7 rfl (lv_at hl 2 rfl) ?_
    refine zLt (a := n) (tgt := 40) hx hb dX5_check_8 (by decide) (by omega) ?_
    refine lv_iload_n hx hb dX5_check_11 rfl (lv_at hl 2 rfl) ?_
    refine lv_ldc (v := (1000000 : Int32)) hx hb hown (hts (.constant RX5 194 (1000000)) f_X5_check_0_0) dX5_check_12 ?_
    refine tI (x' := nI 1000000) (by decide) ?_
    refine iGt (a := n) (b := 1000000) (tgt := 40) hx hb dX5_check_14 (by decide) (by omega) (by omega) (fun h14 => ?_) (fun h14 => ?_)
    · skip
      exfalso; omega
    · skip
      refine lv_iload_n hx hb dX5_check_17 rfl (lv_at hl 3 rfl) ?_
      refine zLt (a := c0) (tgt := 40) hx hb dX5_check_18 (by decide) (by omega) ?_
      refine lv_iload_n hx hb dX5_check_21 rfl (lv_at hl 3 rfl) ?_
      refine lv_iload_n hx hb dX5_check_22 rfl (lv_at hl 2 rfl) ?_
      refine kSi (As := [.int (nI (n))]) (rest := [.int (nI (c0))]) S0 hK hst hA hW [] (fun sz => c_X5_chunksOf l D cy t n (by omega) sz) rfl (by decide) (va_cwS 1 hts gX5_check_X5_chunksOf rfl rfl rfl (by decide +kernel) ⟨Nat.le_of_ble_eq_true rfl, Nat.le_of_ble_eq_true rfl⟩) (fun _ => rfl) rfl hl.1 rfl (Nat.le_of_ble_eq_true rfl) dX5_check_23 ⟨Nat.le_of_ble_eq_true rfl, Nat.le_of_ble_eq_true rfl⟩ (fun r23 u23 H locs p23 hW => ?_)
      have hW : Wd D A s [(z0, .inr (5, [.ref zr, .ref zs, .ref zt, .ref zc, .ref zm, .ref zk, .ref zh, .ref zd, .ref zf, .int (nI (ml)), .ref zp, .int (nI (mps)), .ref za, .ref ze, .int (be), .ref zn, .ref zb, .ref zv, .ref zw, .ref zo, .ref zq, .long (nu), .int (bq), .int (fg), .ref zl, .int (nI (hg)), .int (nI (cz)), .ref zi])), (zs, .inl (cy 0, 8, .inl (ms))), (zr, .inl (cy 0, 1600, .inl (mr))), (zi, .inl (cy 2, 20, .inl (il)))] H locs := hW
      have q23 : r23 = nI (chks n) := p23
      subst q23
      refine iGe (a := c0) (b := chks n) (tgt := 40) hx hb dX5_check_26 (by decide) (by omega) (by omega) (fun h26 => ?_) (fun h26 => ?_)
      · skip
        exfalso; omega
      · skip
        refine lv_aload_n hx hb dX5_check_29 rfl (lv_at hl 0 rfl) ?_
        refine va_get (D := D) (ci := 5) (v := .ref zs) (C := RX5) (T := TX5) (N := 28) hx hb hts i_X5_check_0_X5 hown hK hW.1 0 rfl rfl 1 (by decide) (hts (.fieldLink RX5 13 "TreeHashesModel" "sizes" "[I") f_X5_check_0_1) (fun _ h9 => h9) rfl dX5_check_30 ?_
        refine lv_iload_n hx hb dX5_check_33 rfl (lv_at hl 1 rfl) ?_
        refine rI hx hb hK hW 1 rfl (k := ri) (by omega) (by omega) dX5_check_34 ?_
        refine tI (x' := nI (cnt)) (hsz) ?_
        refine lv_bipush (v := nI (32)) hx hb dX5_check_35 (by decide) ?_
        refine iEq (a := cnt) (b := 32) (tgt := 43) hx hb dX5_check_37 (by decide) (by omega) (by omega) (fun h37 => ?_) (fun h37 => ?_)
        · skip
          refine lv_iconst (v := nI (0)) hx hb dX5_check_43 (by decide) ?_
          refine lv_istore (lv' := [(4, .int (nI (0))), (0, .ref z0), (1, .int (nI (ri))), (2, .int (nI (n))), (3, .int (nI (c0)))]) hx hb dX5_check_44 hl (by decide) rfl (fun ls hl => ?_)
          refine lv_iconst (v := nI (0)) hx hb dX5_check_46 (by decide) ?_
          refine lv_istore (lv' := [(5, .int (nI (0))), (4, .int (nI (0))), (0, .ref z0), (1, .int (nI (ri))), (2, .int (nI (n))), (3, .int (nI (c0)))]) hx hb dX5_check_47 hl (by decide) rfl (fun ls hl => ?_)
          refine lv_iload_n hx hb dX5_check_49 rfl (lv_at hl 4 rfl) ?_
          refine kSi (As := [.int (nI (n))]) (rest := []) S0 hK hst hA hW [] (fun sz => c_X5_chunksOf l D cy t n (by omega) sz) rfl (by decide) (va_cwS 1 hts gX5_check_X5_chunksOf rfl rfl rfl (by decide +kernel) ⟨Nat.le_of_ble_eq_true rfl, Nat.le_of_ble_eq_true rfl⟩) (fun _ => rfl) rfl hl.1 rfl (Nat.le_of_ble_eq_true rfl) dX5_check_50 ⟨Nat.le_of_ble_eq_true rfl, Nat.le_of_ble_eq_true rfl⟩ (fun r50 u50 H locs p50 hW => ?_)
          have hW : Wd D A s [(z0, .inr (5, [.ref zr, .ref zs, .ref zt, .ref zc, .ref zm, .ref zk, .ref zh, .ref zd, .ref zf, .int (nI (ml)), .ref zp, .int (nI (mps)), .ref za, .ref ze, .int (be), .ref zn, .ref zb, .ref zv, .ref zw, .ref zo, .ref zq, .long (nu), .int (bq), .int (fg), .ref zl, .int (nI (hg)), .int (nI (cz)), .ref zi])), (zs, .inl (cy 0, 8, .inl (ms))), (zr, .inl (cy 0, 1600, .inl (mr))), (zi, .inl (cy 2, 20, .inl (il)))] H locs := hW
          have q50 : r50 = nI (chks n) := p50
          subst q50
          refine lv_istore (lv' := [(6, .int (nI (chks n))), (5, .int (nI (0))), (4, .int (nI (0))), (0, .ref z0), (1, .int (nI (ri))), (2, .int (nI (n))), (3, .int (nI (c0)))]) hx hb dX5_check_53 hl (by decide) rfl (fun ls hl => ?_)
          have loop55 : ∀ (nF : Nat) (i : Nat) (fi : Nat) (nu0 : Nat) (ix : Nat → Int32), 10 - i < nF → (i ≤ 10) → (wyS c0 (chks n) i = (fi, nu0)) → (∀ j, j < i → 1 < (wyS c0 (chks n) j).2) → (∀ j, j < i → ix j = nI (lf01 c0 (chks n) j)) → ∀ (H : Heap) (locs : List Loc), Wd D A s [(z0, .inr (5, [.ref zr, .ref zs, .ref zt, .ref zc, .ref zm, .ref zk, .ref zh, .ref zd, .ref zf, .int (nI (ml)), .ref zp, .int (nI (mps)), .ref za, .ref ze, .int (be), .ref zn, .ref zb, .ref zv, .ref zw, .ref zo, .ref zq, .long (nu), .int (bq), .int (fg), .ref zl, .int (nI (hg)), .int (nI (cz)), .ref zi])), (zs, .inl (cy 0, 8, .inl (ms))), (zr, .inl (cy 0, 1600, .inl (mr))), (zi, .inl (cy 2, 20, .inl (ix)))] H locs → ∀ ls : Array Slot, lv_has ls 12 [(0, .ref z0), (1, .int (nI (ri))), (2, .int (nI (n))), (3, .int (nI (c0))), (4, .int (nI (i))), (5, .int (nI (fi))), (6, .int (nI (nu0)))] → W p l e ({ frames := 1, cells := 0, slots := 0, locals := 21 }) s m args below meth c H locs 0 0 Q (F0 m 55 ls []) := by
            intro nF
            induction nF with
            | zero => intro i fi nu0 ix hf; exact absurd hf (Nat.not_lt_zero _)
            | succ nF ih55 =>
              intro i fi nu0 ix hf hi10 hst2 hlt hix H locs hW ls hl
              have hb9 := wyS_b hc0 i
              rw [hst2] at hb9
              have hb8 : fi + nu0 ≤ chks n ∧ fi ≤ c0 ∧ c0 < fi + nu0 := hb9
              have hb7 : nu0 ≤ 2 ^ (10 - i) := by have := wyS_p (c := c0) (n := chks n) (k := 10) (by omega) hi10; rw [hst2] at this; exact this
              refine lv_iload hx hb dX5_check_55 (lv_at hl 6 rfl) ?_
              refine lv_iconst (v := nI (1)) hx hb dX5_check_57 (by decide) ?_
              refine iLe (a := nu0) (b := 1) (tgt := 139) hx hb dX5_check_58 (by decide) (by omega) (by omega) (fun h58 => ?_) (fun h58 => ?_)
              · skip
                have hwl : wyL c0 (chks n) i := ⟨by rw [hst2]; exact h58, hlt⟩
                refine lv_iload_n hx hb dX5_check_139 rfl (lv_at hl 2 rfl) ?_
                refine lv_iload_n hx hb dX5_check_140 rfl (lv_at hl 3 rfl) ?_
                refine kSi (As := [.int (nI (n)), .int (nI (c0))]) (rest := []) S0 hK hst hA hW [] (fun sz => c_X5_chunkSize l D cy t n c0 (by omega) (by omega) sz) rfl (by decide) (va_cwS 2 hts gX5_check_X5_chunkSize rfl rfl rfl (by decide +kernel) ⟨Nat.le_of_ble_eq_true rfl, Nat.le_of_ble_eq_true rfl⟩) (fun _ => rfl) rfl hl.1 rfl (Nat.le_of_ble_eq_true rfl) dX5_check_141 ⟨Nat.le_of_ble_eq_true rfl, Nat.le_of_ble_eq_true rfl⟩ (fun r141 u141 H locs p141 hW => ?_)
                have hW : Wd D A s [(z0, .inr (5, [.ref zr, .ref zs, .ref zt, .ref zc, .ref zm, .ref zk, .ref zh, .ref zd, .ref zf, .int (nI (ml)), .ref zp, .int (nI (mps)), .ref za, .ref ze, .int (be), .ref zn, .ref zb, .ref zv, .ref zw, .ref zo, .ref zq, .long (nu), .int (bq), .int (fg), .ref zl, .int (nI (hg)), .int (nI (cz)), .ref zi])), (zs, .inl (cy 0, 8, .inl (ms))), (zr, .inl (cy 0, 1600, .inl (mr))), (zi, .inl (cy 2, 20, .inl (ix)))] H locs := hW
                have q141 : r141 = nI (cln n c0) := p141
                subst q141
                refine lv_istore (lv' := [(7, .int (nI (cln n c0))), (0, .ref z0), (1, .int (nI (ri))), (2, .int (nI (n))), (3, .int (nI (c0))), (4, .int (nI (i))), (5, .int (nI (fi))), (6, .int (nI (nu0)))]) hx hb dX5_check_144 hl (by decide) rfl (fun ls hl => ?_)
                refine lv_aload_n hx hb dX5_check_146 rfl (lv_at hl 1 rfl) ?_
                refine va_get (D := D) (ci := 5) (v := .int (nI (mps))) (C := RX5) (T := TX5) (N := 28) hx hb hts i_X5_check_0_X5 hown hK hW.1 0 rfl rfl 11 (by decide) (hts (.fieldLink RX5 188 "TreeHashesModel" "proofSize" "I") f_X5_check_0_3) (fun _ h9 => h9) rfl dX5_check_147 ?_
                refine lv_iload hx hb dX5_check_150 (lv_at hl 0 rfl) ?_
                refine lv_bipush (v := nI (32)) hx hb dX5_check_152 (by decide) ?_
                refine lv_iload hx hb dX5_check_154 (lv_at hl 5 rfl) ?_
                refine lv_imul hx hb dX5_check_156 ?_
                refine tI (pk_mul _ _) ?_
                refine lv_iadd hx hb dX5_check_157 ?_
                refine tI (nI_add _ _) ?_
                refine iEq (a := mps) (b := (cln n c0) + (32 * i)) (tgt := 163) hx hb dX5_check_158 (by decide) (by omega) (by omega) (fun h158 => ?_) (fun h158 => ?_)
                · skip
                  exact absurd h158 (hne _ hwl)
                · skip
                  refine lv_iconst (v := nI (0)) hx hb dX5_check_161 (by decide) ?_
                  exact eI hQ hx hb hr hlocks hK hW ix (rfl) (rfl) dX5_check_162
              · skip
                have hi9 : i < 10 := by rcases Nat.lt_or_ge i 10 with q | q; (exact q); (rw [show i = 10 from by omega] at hb7; have hb6 : nu0 ≤ 1 := hb7; omega)
                refine lv_iload hx hb dX5_check_61 (lv_at hl 6 rfl) ?_
                refine kSi (As := [.int (nI (nu0))]) (rest := []) S0 hK hst hA hW [] (fun sz => c_X5_leftOf l D cy t nu0 (by omega) sz) rfl (by decide) (va_cwS 1 hts gX5_check_X5_leftOf rfl rfl rfl (by decide +kernel) ⟨Nat.le_of_ble_eq_true rfl, Nat.le_of_ble_eq_true rfl⟩) (fun _ => rfl) rfl hl.1 rfl (Nat.le_of_ble_eq_true rfl) dX5_check_63 ⟨Nat.le_of_ble_eq_true rfl, Nat.le_of_ble_eq_true rfl⟩ (fun r63 u63 H locs p63 hW => ?_)
                have hW : Wd D A s [(z0, .inr (5, [.ref zr, .ref zs, .ref zt, .ref zc, .ref zm, .ref zk, .ref zh, .ref zd, .ref zf, .int (nI (ml)), .ref zp, .int (nI (mps)), .ref za, .ref ze, .int (be), .ref zn, .ref zb, .ref zv, .ref zw, .ref zo, .ref zq, .long (nu), .int (bq), .int (fg), .ref zl, .int (nI (hg)), .int (nI (cz)), .ref zi])), (zs, .inl (cy 0, 8, .inl (ms))), (zr, .inl (cy 0, 1600, .inl (mr))), (zi, .inl (cy 2, 20, .inl (ix)))] H locs := hW
                have q63 : r63 = nI (lft nu0) := p63
                subst q63
                refine lv_istore (lv' := [(7, .int (nI (lft nu0))), (0, .ref z0), (1, .int (nI (ri))), (2, .int (nI (n))), (3, .int (nI (c0))), (4, .int (nI (i))), (5, .int (nI (fi))), (6, .int (nI (nu0)))]) hx hb dX5_check_66 hl (by decide) rfl (fun ls hl => ?_)
                have hb5 := lft_lt h58
                have hb4 := lft_pos nu0
                refine lv_aload_n hx hb dX5_check_68 rfl (lv_at hl 1 rfl) ?_
                refine va_get (D := D) (ci := 5) (v := .ref zi) (C := RX5) (T := TX5) (N := 28) hx hb hts i_X5_check_0_X5 hown hK hW.1 0 rfl rfl 27 (by decide) (hts (.fieldLink RX5 68 "TreeHashesModel" "isLeft" "[Z") f_X5_check_0_4) (fun _ h9 => h9) rfl dX5_check_69 ?_
                refine lv_iload hx hb dX5_check_72 (lv_at hl 5 rfl) ?_
                refine lv_iload_n hx hb dX5_check_74 rfl (lv_at hl 4 rfl) ?_
                refine lv_iload hx hb dX5_check_75 (lv_at hl 6 rfl) ?_
                refine lv_iload hx hb dX5_check_77 (lv_at hl 0 rfl) ?_
                refine lv_iadd hx hb dX5_check_79 ?_
                refine tI (nI_add _ _) ?_
                refine iGe (a := c0) (b := fi + (lft nu0)) (tgt := 87) hx hb dX5_check_80 (by decide) (by omega) (by omega) (fun h80 => ?_) (fun h80 => ?_)
                · skip
                  refine lv_iconst (v := nI (0)) hx hb dX5_check_87 (by decide) ?_
                  refine wZ hx hb hK hW 3 rfl (k := i) (by omega) (by omega) (rfl) dX5_check_88 (fun H locs hW => ?_)
                  have hW : Wd D A s [(z0, .inr (5, [.ref zr, .ref zs, .ref zt, .ref zc, .ref zm, .ref zk, .ref zh, .ref zd, .ref zf, .int (nI (ml)), .ref zp, .int (nI (mps)), .ref za, .ref ze, .int (be), .ref zn, .ref zb, .ref zv, .ref zw, .ref zo, .ref zq, .long (nu), .int (bq), .int (fg), .ref zl, .int (nI (hg)), .int (nI (cz)), .ref zi])), (zs, .inl (cy 0, 8, .inl (ms))), (zr, .inl (cy 0, 1600, .inl (mr))), (zi, .inl (cy 2, 20, .inl (upd ix i (nI (0)))))] H locs := hW
                  refine lv_aload_n hx hb dX5_check_89 rfl (lv_at hl 1 rfl) ?_
                  refine va_get (D := D) (ci := 5) (v := .ref zi) (C := RX5) (T := TX5) (N := 28) hx hb hts i_X5_check_0_X5 hown hK hW.1 0 rfl rfl 27 (by decide) (hts (.fieldLink RX5 68 "TreeHashesModel" "isLeft" "[Z") f_X5_check_0_4) (fun _ h9 => h9) rfl dX5_check_90 ?_
                  refine lv_iload hx hb dX5_check_93 (lv_at hl 5 rfl) ?_
                  refine rZ hx hb hK hW 3 rfl (k := i) (by omega) (by omega) dX5_check_95 ?_
                  refine tI (x' := nI (0)) (pk_us) ?_
                  refine zEq (a := 0) (tgt := 104) hx hb dX5_check_96 (by decide) (by omega) (fun h96 => ?_) (fun h96 => ?_)
                  · skip
                    refine lv_iload hx hb dX5_check_104 (lv_at hl 6 rfl) ?_
                    refine lv_iload hx hb dX5_check_106 (lv_at hl 0 rfl) ?_
                    refine lv_iadd hx hb dX5_check_108 ?_
                    refine tI (nI_add _ _) ?_
                    refine lv_istore (lv' := [(5, .int (nI (fi + (lft nu0)))), (7, .int (nI (lft nu0))), (0, .ref z0), (1, .int (nI (ri))), (2, .int (nI (n))), (3, .int (nI (c0))), (4, .int (nI (i))), (6, .int (nI (nu0)))]) hx hb dX5_check_109 hl (by decide) rfl (fun ls hl => ?_)
                    refine lv_aload_n hx hb dX5_check_111 rfl (lv_at hl 2 rfl) ?_
                    refine va_get (D := D) (ci := 5) (v := .ref zi) (C := RX5) (T := TX5) (N := 28) hx hb hts i_X5_check_0_X5 hown hK hW.1 0 rfl rfl 27 (by decide) (hts (.fieldLink RX5 68 "TreeHashesModel" "isLeft" "[Z") f_X5_check_0_4) (fun _ h9 => h9) rfl dX5_check_112 ?_
                    refine lv_iload hx hb dX5_check_115 (lv_at hl 6 rfl) ?_
                    refine rZ hx hb hK hW 3 rfl (k := i) (by omega) (by omega) dX5_check_117 ?_
                    refine tI (x' := nI (0)) (pk_us) ?_
                    refine zEq (a := 0) (tgt := 126) hx hb dX5_check_118 (by decide) (by omega) (fun h118 => ?_) (fun h118 => ?_)
                    · skip
                      refine lv_iload hx hb dX5_check_126 (lv_at hl 7 rfl) ?_
                      refine lv_iload hx hb dX5_check_128 (lv_at hl 1 rfl) ?_
                      refine lv_isub hx hb dX5_check_130 ?_
                      refine tI (pk_sub (by omega)) ?_
                      refine lv_istore (lv' := [(6, .int (nI (nu0 - (lft nu0)))), (5, .int (nI (fi + (lft nu0)))), (7, .int (nI (lft nu0))), (0, .ref z0), (1, .int (nI (ri))), (2, .int (nI (n))), (3, .int (nI (c0))), (4, .int (nI (i)))]) hx hb dX5_check_131 hl (by decide) rfl (fun ls hl => ?_)
                      refine lv_iinc (v := nI (i + 1)) (lv' := [(4, .int (nI (i + 1))), (6, .int (nI (nu0 - (lft nu0)))), (5, .int (nI (fi + (lft nu0)))), (7, .int (nI (lft nu0))), (0, .ref z0), (1, .int (nI (ri))), (2, .int (nI (n))), (3, .int (nI (c0)))]) hx hb dX5_check_133 hl (k := 7) rfl (nI_1 _) (by decide) rfl (fun ls hl => ?_)
                      refine lv_goto (tgt := 55) hx hb dX5_check_136 (by decide) ?_
                      obtain ⟨e1, e2, e3⟩ := wyS_r hst2 h80
                      exact ih55 (i + 1) (fi + (lft nu0)) (nu0 - (lft nu0)) (upd ix i (nI (0))) (by omega) (by omega) (e1) (by intro j hj; rcases Nat.lt_succ_iff_lt_or_eq.mp hj with q | q; (exact hlt j q); (rw [q, hst2]; exact h58)) (by intro j hj; rcases Nat.lt_succ_iff_lt_or_eq.mp hj with q | q; (rw [pk_un (by omega)]; exact hix j q); (rw [q, pk_us]; exact lf01_r hst2 h80)) _ _ hW _ (lv_sub hl [4, 5, 6, 7, 0, 2, 1] rfl)
                    · skip
                      exfalso; omega
                  · skip
                    exfalso; omega
                · skip
                  refine lv_iconst (v := nI (1)) hx hb dX5_check_83 (by decide) ?_
                  refine lv_goto (tgt := 88) hx hb dX5_check_84 (by decide) ?_
                  refine wZ hx hb hK hW 3 rfl (k := i) (by omega) (by omega) (rfl) dX5_check_88 (fun H locs hW => ?_)
                  have hW : Wd D A s [(z0, .inr (5, [.ref zr, .ref zs, .ref zt, .ref zc, .ref zm, .ref zk, .ref zh, .ref zd, .ref zf, .int (nI (ml)), .ref zp, .int (nI (mps)), .ref za, .ref ze, .int (be), .ref zn, .ref zb, .ref zv, .ref zw, .ref zo, .ref zq, .long (nu), .int (bq), .int (fg), .ref zl, .int (nI (hg)), .int (nI (cz)), .ref zi])), (zs, .inl (cy 0, 8, .inl (ms))), (zr, .inl (cy 0, 1600, .inl (mr))), (zi, .inl (cy 2, 20, .inl (upd ix i (nI (1)))))] H locs := hW
                  refine lv_aload_n hx hb dX5_check_89 rfl (lv_at hl 1 rfl) ?_
                  refine va_get (D := D) (ci := 5) (v := .ref zi) (C := RX5) (T := TX5) (N := 28) hx hb hts i_X5_check_0_X5 hown hK hW.1 0 rfl rfl 27 (by decide) (hts (.fieldLink RX5 68 "TreeHashesModel" "isLeft" "[Z") f_X5_check_0_4) (fun _ h9 => h9) rfl dX5_check_90 ?_
                  refine lv_iload hx hb dX5_check_93 (lv_at hl 5 rfl) ?_
                  refine rZ hx hb hK hW 3 rfl (k := i) (by omega) (by omega) dX5_check_95 ?_
                  refine tI (x' := nI (1)) (pk_us) ?_
                  refine zEq (a := 1) (tgt := 104) hx hb dX5_check_96 (by decide) (by omega) (fun h96 => ?_) (fun h96 => ?_)
                  · skip
                    exfalso; omega
                  · skip
                    refine lv_iload hx hb dX5_check_99 (lv_at hl 6 rfl) ?_
                    refine lv_goto (tgt := 109) hx hb dX5_check_101 (by decide) ?_
                    refine lv_istore (lv' := [(5, .int (nI (fi))), (7, .int (nI (lft nu0))), (0, .ref z0), (1, .int (nI (ri))), (2, .int (nI (n))), (3, .int (nI (c0))), (4, .int (nI (i))), (6, .int (nI (nu0)))]) hx hb dX5_check_109 hl (by decide) rfl (fun ls hl => ?_)
                    refine lv_aload_n hx hb dX5_check_111 rfl (lv_at hl 2 rfl) ?_
                    refine va_get (D := D) (ci := 5) (v := .ref zi) (C := RX5) (T := TX5) (N := 28) hx hb hts i_X5_check_0_X5 hown hK hW.1 0 rfl rfl 27 (by decide) (hts (.fieldLink RX5 68 "TreeHashesModel" "isLeft" "[Z") f_X5_check_0_4) (fun _ h9 => h9) rfl dX5_check_112 ?_
                    refine lv_iload hx hb dX5_check_115 (lv_at hl 6 rfl) ?_
                    refine rZ hx hb hK hW 3 rfl (k := i) (by omega) (by omega) dX5_check_117 ?_
                    refine tI (x' := nI (1)) (pk_us) ?_
                    refine zEq (a := 1) (tgt := 126) hx hb dX5_check_118 (by decide) (by omega) (fun h118 => ?_) (fun h118 => ?_)
                    · skip
                      exfalso; omega
                    · skip
                      refine lv_iload hx hb dX5_check_121 (lv_at hl 1 rfl) ?_
                      refine lv_goto (tgt := 131) hx hb dX5_check_123 (by decide) ?_
                      refine lv_istore (lv' := [(6, .int (nI (lft nu0))), (5, .int (nI (fi))), (7, .int (nI (lft nu0))), (0, .ref z0), (1, .int (nI (ri))), (2, .int (nI (n))), (3, .int (nI (c0))), (4, .int (nI (i)))]) hx hb dX5_check_131 hl (by decide) rfl (fun ls hl => ?_)
                      refine lv_iinc (v := nI (i + 1)) (lv' := [(4, .int (nI (i + 1))), (6, .int (nI (lft nu0))), (5, .int (nI (fi))), (7, .int (nI (lft nu0))), (0, .ref z0), (1, .int (nI (ri))), (2, .int (nI (n))), (3, .int (nI (c0)))]) hx hb dX5_check_133 hl (k := 7) rfl (nI_1 _) (by decide) rfl (fun ls hl => ?_)
                      refine lv_goto (tgt := 55) hx hb dX5_check_136 (by decide) ?_
                      obtain ⟨e1, e2, e3⟩ := wyS_l hst2 h80
                      exact ih55 (i + 1) fi (lft nu0) (upd ix i (nI (1))) (by omega) (by omega) (e1) (by intro j hj; rcases Nat.lt_succ_iff_lt_or_eq.mp hj with q | q; (exact hlt j q); (rw [q, hst2]; exact h58)) (by intro j hj; rcases Nat.lt_succ_iff_lt_or_eq.mp hj with q | q; (rw [pk_un (by omega)]; exact hix j q); (rw [q, pk_us]; exact lf01_l hst2 h80)) _ _ hW _ (lv_sub hl [4, 5, 6, 7, 0, 2, 1] rfl)
          exact loop55 _ 0 0 (chks n) il (Nat.lt_succ_self _) (by omega) (rfl) (lt_0) (lt_0) _ _ hW _ (lv_sub hl [3, 4, 5, 6, 2, 1, 0] rfl)
        · skip
          exfalso; omega

theorem f_X5_check_0 : Cond.constant RX5 194 (1000000) ∈ wsX5_check := by decide +kernel
theorem f_X5_check_1 : Cond.fieldLink RX5 13 "TreeHashesModel" "sizes" "[I" ∈ wsX5_check := by decide +kernel
theorem i_X5_check_X5 : ∀ w ∈ wsX50, w ∈ wsX5_check := by decide +kernel
theorem f_X5_check_3 : Cond.fieldLink RX5 188 "TreeHashesModel" "proofSize" "I" ∈ wsX5_check := by decide +kernel
theorem f_X5_check_4 : Cond.fieldLink RX5 38 "TreeHashesModel" "proof" "[I" ∈ wsX5_check := by decide +kernel
theorem f_X5_check_5 : Cond.fieldLink RX5 104 "TreeHashesModel" "flags" "I" ∈ wsX5_check := by decide +kernel
theorem f_X5_check_6 : Cond.fieldLink RX5 7 "TreeHashesModel" "registers" "[I" ∈ wsX5_check := by decide +kernel
theorem f_X5_check_7 : Cond.fieldLink RX5 53 "TreeHashesModel" "v" "[I" ∈ wsX5_check := by decide +kernel
theorem f_X5_check_8 : Cond.fieldLink RX5 100 "TreeHashesModel" "number" "J" ∈ wsX5_check := by decide +kernel
theorem f_X5_check_9 : Cond.fieldLink RX5 92 "TreeHashesModel" "blockLength" "I" ∈ wsX5_check := by decide +kernel
theorem f_X5_check_10 : Cond.fieldLink RX5 114 "TreeHashesModel" "base" "I" ∈ wsX5_check := by decide +kernel
theorem f_X5_check_11 : Cond.fieldLink RX5 47 "TreeHashesModel" "chain" "[I" ∈ wsX5_check := by decide +kernel
theorem f_X5_check_12 : Cond.fieldLink RX5 44 "TreeHashesModel" "key" "[I" ∈ wsX5_check := by decide +kernel
theorem f_X5_check_13 : Cond.fieldLink RX5 50 "TreeHashesModel" "block" "[I" ∈ wsX5_check := by decide +kernel
theorem f_X5_check_14 : Cond.fieldLink RX5 68 "TreeHashesModel" "isLeft" "[Z" ∈ wsX5_check := by decide +kernel
set_option maxHeartbeats 4000000 in
set_option maxRecDepth 100000 in
theorem c_X5_check (l : Launch) (D : va_G) (cy : Nat → ClassId) (t : Nat × Nat) (z0 : Nat) (zr : Nat) (zs : Nat) (zt : Nat) (zc : Nat) (zm : Nat) (zk : Nat) (zh : Nat) (zd : Nat) (zf : Nat) (ml : Nat) (zp : Nat) (mps : Nat) (za : Nat) (ze : Nat) (be : Int32) (zn : Nat) (zb : Nat) (zv : Nat) (zw : Nat) (zo : Nat) (zq : Nat) (nu : Int64) (bq : Int32) (fg : Int32) (zl : Nat) (hg : Nat) (cz : Nat) (zi : Nat) (ms : Nat → Int32) (mr : Nat → Int32) (ri : Nat) (cnt : Nat) (n : Nat) (c0 : Nat) (il : Nat → Int32) (mp : Nat → Int32) (ke : Nat → Int32) (cn : Nat → Int32) (bb : Nat → Int32) (vv : Nat → Int32) (ww : Nat → Int32) (oo : Nat → Int32) (L0 : Nat) (hr8 : ri < 8) (hsz : ms ri = nI cnt) (hc : cnt ≤ 200) (hn1 : n ≤ 1000000) (hc0 : c0 < chks n) (h32 : cnt = 32) (hL : wyL c0 (chks n) L0) (hmp : mps = cln n c0 + 32 * L0) (hmp2 : mps ≤ 2000) (sz : Nat) : Met l yX5_check wsX5_check ({ frames := 5, cells := 0, slots := 0, locals := 120 }) (PcW D cy t [(z0, .inr (5, [.ref zr, .ref zs, .ref zt, .ref zc, .ref zm, .ref zk, .ref zh, .ref zd, .ref zf, .int (nI (ml)), .ref zp, .int (nI (mps)), .ref za, .ref ze, .int (be), .ref zn, .ref zb, .ref zv, .ref zw, .ref zo, .ref zq, .long (nu), .int (bq), .int (fg), .ref zl, .int (nI (hg)), .int (nI (cz)), .ref zi])), (zs, .inl (cy 0, 8, .inl (ms))), (zr, .inl (cy 0, 1600, .inl (mr))), (zi, .inl (cy 2, 20, .inl (il))), (zp, .inl (cy 0, 2000, .inl (mp))), (ze, .inl (cy 0, 8, .inl (ke))), (zn, .inl (cy 0, 8, .inl (cn))), (zb, .inl (cy 0, 16, .inl (bb))), (zv, .inl (cy 0, 16, .inl (vv))), (zw, .inl (cy 0, 16, .inl (ww))), (zo, .inl (cy 0, 16, .inl (oo))), (zq, .inl (cy 0, 16, .inl (fun k => nI (orN k)))), (za, .inl (cy 0, 8, .inl (stA)))] [.ref z0, .int (nI (ri)), .int (nI (n)), .int (nI (c0))] sz) (QiA D cy (fun (r : Int32) (u : (Nat → Int32) × (Nat → Int32) × (Nat → Int32)) => match u with | (il2, ww2, oo2) => ((r = 1 ∧ ∀ k, k < 32 → mr (200 * ri + k) = oby (mixV (clb (wyF c0 (chks n)) c0 (fun L k => wrd mp ((cln n c0 + 32 * L) + 4 * k)) L0 (ndC stA (nI (0)) mp 0 c0 (cln n c0))).1 (clb (wyF c0 (chks n)) c0 (fun L k => wrd mp ((cln n c0 + 32 * L) + 4 * k)) L0 (ndC stA (nI (0)) mp 0 c0 (cln n c0))).2.1 (lN 0) (clb (wyF c0 (chks n)) c0 (fun L k => wrd mp ((cln n c0 + 32 * L) + 4 * k)) L0 (ndC stA (nI (0)) mp 0 c0 (cln n c0))).2.2.2.1 ((clb (wyF c0 (chks n)) c0 (fun L k => wrd mp ((cln n c0 + 32 * L) + 4 * k)) L0 (ndC stA (nI (0)) mp 0 c0 (cln n c0))).2.2.2.2 + (nI (8)))) k) ∨ (r = 0 ∧ ∃ k, k < 32 ∧ mr (200 * ri + k) ≠ oby (mixV (clb (wyF c0 (chks n)) c0 (fun L k => wrd mp ((cln n c0 + 32 * L) + 4 * k)) L0 (ndC stA (nI (0)) mp 0 c0 (cln n c0))).1 (clb (wyF c0 (chks n)) c0 (fun L k => wrd mp ((cln n c0 + 32 * L) + 4 * k)) L0 (ndC stA (nI (0)) mp 0 c0 (cln n c0))).2.1 (lN 0) (clb (wyF c0 (chks n)) c0 (fun L k => wrd mp ((cln n c0 + 32 * L) + 4 * k)) L0 (ndC stA (nI (0)) mp 0 c0 (cln n c0))).2.2.2.1 ((clb (wyF c0 (chks n)) c0 (fun L k => wrd mp ((cln n c0 + 32 * L) + 4 * k)) L0 (ndC stA (nI (0)) mp 0 c0 (cln n c0))).2.2.2.2 + (nI (8)))) k))) (fun u : (Nat → Int32) × (Nat → Int32) × (Nat → Int32) => match u with | (il2, ww2, oo2) => [(z0, .inr (5, [.ref zr, .ref zs, .ref zt, .ref zc, .ref zm, .ref zk, .ref zh, .ref zd, .ref zf, .int (nI (ml)), .ref zp, .int (nI (mps)), .ref za, .ref ze, .int (nI (0)), .ref zn, .ref zb, .ref zv, .ref zw, .ref zo, .ref zq, .long ((clb (wyF c0 (chks n)) c0 (fun L k => wrd mp ((cln n c0 + 32 * L) + 4 * k)) L0 (ndC stA (nI (0)) mp 0 c0 (cln n c0))).2.2.1), .int ((clb (wyF c0 (chks n)) c0 (fun L k => wrd mp ((cln n c0 + 32 * L) + 4 * k)) L0 (ndC stA (nI (0)) mp 0 c0 (cln n c0))).2.2.2.1), .int ((clb (wyF c0 (chks n)) c0 (fun L k => wrd mp ((cln n c0 + 32 * L) + 4 * k)) L0 (ndC stA (nI (0)) mp 0 c0 (cln n c0))).2.2.2.2), .ref zl, .int (nI (hg)), .int (nI (cz)), .ref zi])), (zs, .inl (cy 0, 8, .inl (ms))), (zr, .inl (cy 0, 1600, .inl (mr))), (zi, .inl (cy 2, 20, .inl (il2))), (zp, .inl (cy 0, 2000, .inl (mp))), (ze, .inl (cy 0, 8, .inl (stA))), (zn, .inl (cy 0, 8, .inl ((clb (wyF c0 (chks n)) c0 (fun L k => wrd mp ((cln n c0 + 32 * L) + 4 * k)) L0 (ndC stA (nI (0)) mp 0 c0 (cln n c0))).1))), (zb, .inl (cy 0, 16, .inl ((clb (wyF c0 (chks n)) c0 (fun L k => wrd mp ((cln n c0 + 32 * L) + 4 * k)) L0 (ndC stA (nI (0)) mp 0 c0 (cln n c0))).2.1))), (zv, .inl (cy 0, 16, .inl ((mixV (clb (wyF c0 (chks n)) c0 (fun L k => wrd mp ((cln n c0 + 32 * L) + 4 * k)) L0 (ndC stA (nI (0)) mp 0 c0 (cln n c0))).1 (clb (wyF c0 (chks n)) c0 (fun L k => wrd mp ((cln n c0 + 32 * L) + 4 * k)) L0 (ndC stA (nI (0)) mp 0 c0 (cln n c0))).2.1 (lN 0) (clb (wyF c0 (chks n)) c0 (fun L k => wrd mp ((cln n c0 + 32 * L) + 4 * k)) L0 (ndC stA (nI (0)) mp 0 c0 (cln n c0))).2.2.2.1 ((clb (wyF c0 (chks n)) c0 (fun L k => wrd mp ((cln n c0 + 32 * L) + 4 * k)) L0 (ndC stA (nI (0)) mp 0 c0 (cln n c0))).2.2.2.2 + (nI (8))))))), (zw, .inl (cy 0, 16, .inl (ww2))), (zo, .inl (cy 0, 16, .inl (oo2))), (zq, .inl (cy 0, 16, .inl (fun k => nI (orN k)))), (za, .inl (cy 0, 8, .inl (stA)))]) (va_A [(z0, .inr (5, [.ref zr, .ref zs, .ref zt, .ref zc, .ref zm, .ref zk, .ref zh, .ref zd, .ref zf, .int (nI (ml)), .ref zp, .int (nI (mps)), .ref za, .ref ze, .int (be), .ref zn, .ref zb, .ref zv, .ref zw, .ref zo, .ref zq, .long (nu), .int (bq), .int (fg), .ref zl, .int (nI (hg)), .int (nI (cz)), .ref zi])), (zs, .inl (cy 0, 8, .inl (ms))), (zr, .inl (cy 0, 1600, .inl (mr))), (zi, .inl (cy 2, 20, .inl (il))), (zp, .inl (cy 0, 2000, .inl (mp))), (ze, .inl (cy 0, 8, .inl (ke))), (zn, .inl (cy 0, 8, .inl (cn))), (zb, .inl (cy 0, 16, .inl (bb))), (zv, .inl (cy 0, 16, .inl (vv))), (zw, .inl (cy 0, 16, .inl (ww))), (zo, .inl (cy 0, 16, .inl (oo))), (zq, .inl (cy 0, 16, .inl (fun k => nI (orN k)))), (za, .inl (cy 0, 8, .inl (stA)))] sz)) 0 0 (va_A [(z0, .inr (5, [.ref zr, .ref zs, .ref zt, .ref zc, .ref zm, .ref zk, .ref zh, .ref zd, .ref zf, .int (nI (ml)), .ref zp, .int (nI (mps)), .ref za, .ref ze, .int (be), .ref zn, .ref zb, .ref zv, .ref zw, .ref zo, .ref zq, .long (nu), .int (bq), .int (fg), .ref zl, .int (nI (hg)), .int (nI (cz)), .ref zi])), (zs, .inl (cy 0, 8, .inl (ms))), (zr, .inl (cy 0, 1600, .inl (mr))), (zi, .inl (cy 2, 20, .inl (il))), (zp, .inl (cy 0, 2000, .inl (mp))), (ze, .inl (cy 0, 8, .inl (ke))), (zn, .inl (cy 0, 8, .inl (cn))), (zb, .inl (cy 0, 16, .inl (bb))), (zv, .inl (cy 0, 16, .inl (vv))), (zw, .inl (cy 0, 16, .inl (ww))), (zo, .inl (cy 0, 16, .inl (oo))), (zq, .inl (cy 0, 16, .inl (fun k => nI (orN k)))), (za, .inl (cy 0, 8, .inl (stA)))] sz) := by
  refine M_ofW (cc := cX5_check) (maxL := 12) (ret := (some .int)) (by decide) rfl (Nat.le_of_ble_eq_true rfl) ?_
  intro p e s m below meth c A ls args Q hQ S0 hr hlocks hnm hK hst hA hW hl
  have hx := S0.1; have hb := S0.2.1; have hml := S0.2.2.1; have hown := S0.2.2.2.1; have hts := S0.2.2.2.2
  have hl : lv_has ls 12 [(0, .ref z0), (1, .int (nI (ri))), (2, .int (nI (n))), (3, .int (nI (c0)))] := hl
  have hq1 := chks_le hn1
  have hcl := cln_n hc0
  have hcl2 := cln_le n c0
  have hcc := chks_c hc0
  refine lv_iload_n hx hb dX5_check_0 rfl (lv_at hl 1 rfl) ?_
  refine kSi (As := [.int (nI (ri))]) (rest := []) S0 hK hst hA hW [] (fun sz => c_X5_isRegister l D cy t ri (by omega) sz) rfl (by decide) (va_cwS 1 hts gX5_check_X5_isRegister rfl rfl rfl (by decide +kernel) ⟨Nat.le_of_ble_eq_true rfl, Nat.le_of_ble_eq_true rfl⟩) (fun _ => rfl) rfl hl.1 rfl (Nat.le_of_ble_eq_true rfl) dX5_check_1 ⟨Nat.le_of_ble_eq_true rfl, Nat.le_of_ble_eq_true rfl⟩ (fun r1 u1 H locs p1 hW => ?_)
  have hW : Wd D A s [(z0, .inr (5, [.ref zr, .ref zs, .ref zt, .ref zc, .ref zm, .ref zk, .ref zh, .ref zd, .ref zf, .int (nI (ml)), .ref zp, .int (nI (mps)), .ref za, .ref ze, .int (be), .ref zn, .ref zb, .ref zv, .ref zw, .ref zo, .ref zq, .long (nu), .int (bq), .int (fg), .ref zl, .int (nI (hg)), .int (nI (cz)), .ref zi])), (zs, .inl (cy 0, 8, .inl (ms))), (zr, .inl (cy 0, 1600, .inl (mr))), (zi, .inl (cy 2, 20, .inl (il))), (zp, .inl (cy 0, 2000, .inl (mp))), (ze, .inl (cy 0, 8, .inl (ke))), (zn, .inl (cy 0, 8, .inl (cn))), (zb, .inl (cy 0, 16, .inl (bb))), (zv, .inl (cy 0, 16, .inl (vv))), (zw, .inl (cy 0, 16, .inl (ww))), (zo, .inl (cy 0, 16, .inl (oo))), (zq, .inl (cy 0, 16, .inl (fun k => nI (orN k)))), (za, .inl (cy 0, 8, .inl (stA)))] H locs := hW
  have q1 : r1 = nI (1) := p1
  subst q1
  refine zEq (a := 1) (tgt := 40) hx hb dX5_check_4 (by decide) (by omega) (fun h4 => ?_) (fun h4 => ?_)
  · skip
    exfalso; omega
  · skip
    refine lv_iload_n hx hb dX5_check_7 rfl (lv_at hl 2 rfl) ?_
    refine zLt (a := n) (tgt := 40) hx hb dX5_check_8 (by decide) (by omega) ?_
    refine lv_iload_n hx hb dX5_check_11 rfl (lv_at hl 2 rfl) ?_
    refine lv_ldc (v := (1000000 : Int32)) hx hb hown (hts (.constant RX5 194 (1000000)) f_X5_check_0) dX5_check_12 ?_
    refine tI (x' := nI 1000000) (by decide) ?_
    refine iGt (a := n) (b := 1000000) (tgt := 40) hx hb dX5_check_14 (by decide) (by omega) (by omega) (fun h14 => ?_) (fun h14 => ?_)
    · skip
      exfalso; omega
    · skip
      refine lv_iload_n hx hb dX5_check_17 rfl (lv_at hl 3 rfl) ?_
      refine zLt (a := c0) (tgt := 40) hx hb dX5_check_18 (by decide) (by omega) ?_
      refine lv_iload_n hx hb dX5_check_21 rfl (lv_at hl 3 rfl) ?_
      refine lv_iload_n hx hb dX5_check_22 rfl (lv_at hl 2 rfl) ?_
      refine kSi (As := [.int (nI (n))]) (rest := [.int (nI (c0))]) S0 hK hst hA hW [] (fun sz => c_X5_chunksOf l D cy t n (by omega) sz) rfl (by decide) (va_cwS 1 hts gX5_check_X5_chunksOf rfl rfl rfl (by decide +kernel) ⟨Nat.le_of_ble_eq_true rfl, Nat.le_of_ble_eq_true rfl⟩) (fun _ => rfl) rfl hl.1 rfl (Nat.le_of_ble_eq_true rfl) dX5_check_23 ⟨Nat.le_of_ble_eq_true rfl, Nat.le_of_ble_eq_true rfl⟩ (fun r23 u23 H locs p23 hW => ?_)
      have hW : Wd D A s [(z0, .inr (5, [.ref zr, .ref zs, .ref zt, .ref zc, .ref zm, .ref zk, .ref zh, .ref zd, .ref zf, .int (nI (ml)), .ref zp, .int (nI (mps)), .ref za, .ref ze, .int (be), .ref zn, .ref zb, .ref zv, .ref zw, .ref zo, .ref zq, .long (nu), .int (bq), .int (fg), .ref zl, .int (nI (hg)), .int (nI (cz)), .ref zi])), (zs, .inl (cy 0, 8, .inl (ms))), (zr, .inl (cy 0, 1600, .inl (mr))), (zi, .inl (cy 2, 20, .inl (il))), (zp, .inl (cy 0, 2000, .inl (mp))), (ze, .inl (cy 0, 8, .inl (ke))), (zn, .inl (cy 0, 8, .inl (cn))), (zb, .inl (cy 0, 16, .inl (bb))), (zv, .inl (cy 0, 16, .inl (vv))), (zw, .inl (cy 0, 16, .inl (ww))), (zo, .inl (cy 0, 16, .inl (oo))), (zq, .inl (cy 0, 16, .inl (fun k => nI (orN k)))), (za, .inl (cy 0, 8, .inl (stA)))] H locs := hW
      have q23 : r23 = nI (chks n) := p23
      subst q23
      refine iGe (a := c0) (b := chks n) (tgt := 40) hx hb dX5_check_26 (by decide) (by omega) (by omega) (fun h26 => ?_) (fun h26 => ?_)
      · skip
        exfalso; omega
      · skip
        refine lv_aload_n hx hb dX5_check_29 rfl (lv_at hl 0 rfl) ?_
        refine va_get (D := D) (ci := 5) (v := .ref zs) (C := RX5) (T := TX5) (N := 28) hx hb hts i_X5_check_X5 hown hK hW.1 0 rfl rfl 1 (by decide) (hts (.fieldLink RX5 13 "TreeHashesModel" "sizes" "[I") f_X5_check_1) (fun _ h9 => h9) rfl dX5_check_30 ?_
        refine lv_iload_n hx hb dX5_check_33 rfl (lv_at hl 1 rfl) ?_
        refine rI hx hb hK hW 1 rfl (k := ri) (by omega) (by omega) dX5_check_34 ?_
        refine tI (x' := nI (cnt)) (hsz) ?_
        refine lv_bipush (v := nI (32)) hx hb dX5_check_35 (by decide) ?_
        refine iEq (a := cnt) (b := 32) (tgt := 43) hx hb dX5_check_37 (by decide) (by omega) (by omega) (fun h37 => ?_) (fun h37 => ?_)
        · skip
          refine lv_iconst (v := nI (0)) hx hb dX5_check_43 (by decide) ?_
          refine lv_istore (lv' := [(4, .int (nI (0))), (0, .ref z0), (1, .int (nI (ri))), (2, .int (nI (n))), (3, .int (nI (c0)))]) hx hb dX5_check_44 hl (by decide) rfl (fun ls hl => ?_)
          refine lv_iconst (v := nI (0)) hx hb dX5_check_46 (by decide) ?_
          refine lv_istore (lv' := [(5, .int (nI (0))), (4, .int (nI (0))), (0, .ref z0), (1, .int (nI (ri))), (2, .int (nI (n))), (3, .int (nI (c0)))]) hx hb dX5_check_47 hl (by decide) rfl (fun ls hl => ?_)
          refine lv_iload_n hx hb dX5_check_49 rfl (lv_at hl 4 rfl) ?_
          refine kSi (As := [.int (nI (n))]) (rest := []) S0 hK hst hA hW [] (fun sz => c_X5_chunksOf l D cy t n (by omega) sz) rfl (by decide) (va_cwS 1 hts gX5_check_X5_chunksOf rfl rfl rfl (by decide +kernel) ⟨Nat.le_of_ble_eq_true rfl, Nat.le_of_ble_eq_true rfl⟩) (fun _ => rfl) rfl hl.1 rfl (Nat.le_of_ble_eq_true rfl) dX5_check_50 ⟨Nat.le_of_ble_eq_true rfl, Nat.le_of_ble_eq_true rfl⟩ (fun r50 u50 H locs p50 hW => ?_)
          have hW : Wd D A s [(z0, .inr (5, [.ref zr, .ref zs, .ref zt, .ref zc, .ref zm, .ref zk, .ref zh, .ref zd, .ref zf, .int (nI (ml)), .ref zp, .int (nI (mps)), .ref za, .ref ze, .int (be), .ref zn, .ref zb, .ref zv, .ref zw, .ref zo, .ref zq, .long (nu), .int (bq), .int (fg), .ref zl, .int (nI (hg)), .int (nI (cz)), .ref zi])), (zs, .inl (cy 0, 8, .inl (ms))), (zr, .inl (cy 0, 1600, .inl (mr))), (zi, .inl (cy 2, 20, .inl (il))), (zp, .inl (cy 0, 2000, .inl (mp))), (ze, .inl (cy 0, 8, .inl (ke))), (zn, .inl (cy 0, 8, .inl (cn))), (zb, .inl (cy 0, 16, .inl (bb))), (zv, .inl (cy 0, 16, .inl (vv))), (zw, .inl (cy 0, 16, .inl (ww))), (zo, .inl (cy 0, 16, .inl (oo))), (zq, .inl (cy 0, 16, .inl (fun k => nI (orN k)))), (za, .inl (cy 0, 8, .inl (stA)))] H locs := hW
          have q50 : r50 = nI (chks n) := p50
          subst q50
          refine lv_istore (lv' := [(6, .int (nI (chks n))), (5, .int (nI (0))), (4, .int (nI (0))), (0, .ref z0), (1, .int (nI (ri))), (2, .int (nI (n))), (3, .int (nI (c0)))]) hx hb dX5_check_53 hl (by decide) rfl (fun ls hl => ?_)
          have loop55 : ∀ (nF : Nat) (i : Nat) (fi : Nat) (nu0 : Nat) (ix : Nat → Int32), 10 - i < nF → (i ≤ 10) → (wyS c0 (chks n) i = (fi, nu0)) → (∀ j, j < i → 1 < (wyS c0 (chks n) j).2) → (∀ j, j < i → ix j = nI (lf01 c0 (chks n) j)) → ∀ (H : Heap) (locs : List Loc), Wd D A s [(z0, .inr (5, [.ref zr, .ref zs, .ref zt, .ref zc, .ref zm, .ref zk, .ref zh, .ref zd, .ref zf, .int (nI (ml)), .ref zp, .int (nI (mps)), .ref za, .ref ze, .int (be), .ref zn, .ref zb, .ref zv, .ref zw, .ref zo, .ref zq, .long (nu), .int (bq), .int (fg), .ref zl, .int (nI (hg)), .int (nI (cz)), .ref zi])), (zs, .inl (cy 0, 8, .inl (ms))), (zr, .inl (cy 0, 1600, .inl (mr))), (zi, .inl (cy 2, 20, .inl (ix))), (zp, .inl (cy 0, 2000, .inl (mp))), (ze, .inl (cy 0, 8, .inl (ke))), (zn, .inl (cy 0, 8, .inl (cn))), (zb, .inl (cy 0, 16, .inl (bb))), (zv, .inl (cy 0, 16, .inl (vv))), (zw, .inl (cy 0, 16, .inl (ww))), (zo, .inl (cy 0, 16, .inl (oo))), (zq, .inl (cy 0, 16, .inl (fun k => nI (orN k)))), (za, .inl (cy 0, 8, .inl (stA)))] H locs → ∀ ls : Array Slot, lv_has ls 12 [(0, .ref z0), (1, .int (nI (ri))), (2, .int (nI (n))), (3, .int (nI (c0))), (4, .int (nI (i))), (5, .int (nI (fi))), (6, .int (nI (nu0)))] → W p l e ({ frames := 5, cells := 0, slots := 0, locals := 120 }) s m args below meth c H locs 0 0 Q (F0 m 55 ls []) := by
            intro nF
            induction nF with
            | zero => intro i fi nu0 ix hf; exact absurd hf (Nat.not_lt_zero _)
            | succ nF ih55 =>
              intro i fi nu0 ix hf hi10 hst2 hlt hix H locs hW ls hl
              have hb9 := wyS_b hc0 i
              rw [hst2] at hb9
              have hb8 : fi + nu0 ≤ chks n ∧ fi ≤ c0 ∧ c0 < fi + nu0 := hb9
              have hb7 : nu0 ≤ 2 ^ (10 - i) := by have := wyS_p (c := c0) (n := chks n) (k := 10) (by omega) hi10; rw [hst2] at this; exact this
              refine lv_iload hx hb dX5_check_55 (lv_at hl 6 rfl) ?_
              refine lv_iconst (v := nI (1)) hx hb dX5_check_57 (by decide) ?_
              refine iLe (a := nu0) (b := 1) (tgt := 139) hx hb dX5_check_58 (by decide) (by omega) (by omega) (fun h58 => ?_) (fun h58 => ?_)
              · skip
                have hwl : wyL c0 (chks n) i := ⟨by rw [hst2]; exact h58, hlt⟩
                have eL : i = L0 := wyL_one hwl hL
                refine lv_iload_n hx hb dX5_check_139 rfl (lv_at hl 2 rfl) ?_
                refine lv_iload_n hx hb dX5_check_140 rfl (lv_at hl 3 rfl) ?_
                refine kSi (As := [.int (nI (n)), .int (nI (c0))]) (rest := []) S0 hK hst hA hW [] (fun sz => c_X5_chunkSize l D cy t n c0 (by omega) (by omega) sz) rfl (by decide) (va_cwS 2 hts gX5_check_X5_chunkSize rfl rfl rfl (by decide +kernel) ⟨Nat.le_of_ble_eq_true rfl, Nat.le_of_ble_eq_true rfl⟩) (fun _ => rfl) rfl hl.1 rfl (Nat.le_of_ble_eq_true rfl) dX5_check_141 ⟨Nat.le_of_ble_eq_true rfl, Nat.le_of_ble_eq_true rfl⟩ (fun r141 u141 H locs p141 hW => ?_)
                have hW : Wd D A s [(z0, .inr (5, [.ref zr, .ref zs, .ref zt, .ref zc, .ref zm, .ref zk, .ref zh, .ref zd, .ref zf, .int (nI (ml)), .ref zp, .int (nI (mps)), .ref za, .ref ze, .int (be), .ref zn, .ref zb, .ref zv, .ref zw, .ref zo, .ref zq, .long (nu), .int (bq), .int (fg), .ref zl, .int (nI (hg)), .int (nI (cz)), .ref zi])), (zs, .inl (cy 0, 8, .inl (ms))), (zr, .inl (cy 0, 1600, .inl (mr))), (zi, .inl (cy 2, 20, .inl (ix))), (zp, .inl (cy 0, 2000, .inl (mp))), (ze, .inl (cy 0, 8, .inl (ke))), (zn, .inl (cy 0, 8, .inl (cn))), (zb, .inl (cy 0, 16, .inl (bb))), (zv, .inl (cy 0, 16, .inl (vv))), (zw, .inl (cy 0, 16, .inl (ww))), (zo, .inl (cy 0, 16, .inl (oo))), (zq, .inl (cy 0, 16, .inl (fun k => nI (orN k)))), (za, .inl (cy 0, 8, .inl (stA)))] H locs := hW
                have q141 : r141 = nI (cln n c0) := p141
                subst q141
                refine lv_istore (lv' := [(7, .int (nI (cln n c0))), (0, .ref z0), (1, .int (nI (ri))), (2, .int (nI (n))), (3, .int (nI (c0))), (4, .int (nI (i))), (5, .int (nI (fi))), (6, .int (nI (nu0)))]) hx hb dX5_check_144 hl (by decide) rfl (fun ls hl => ?_)
                refine lv_aload_n hx hb dX5_check_146 rfl (lv_at hl 1 rfl) ?_
                refine va_get (D := D) (ci := 5) (v := .int (nI (mps))) (C := RX5) (T := TX5) (N := 28) hx hb hts i_X5_check_X5 hown hK hW.1 0 rfl rfl 11 (by decide) (hts (.fieldLink RX5 188 "TreeHashesModel" "proofSize" "I") f_X5_check_3) (fun _ h9 => h9) rfl dX5_check_147 ?_
                refine lv_iload hx hb dX5_check_150 (lv_at hl 0 rfl) ?_
                refine lv_bipush (v := nI (32)) hx hb dX5_check_152 (by decide) ?_
                refine lv_iload hx hb dX5_check_154 (lv_at hl 5 rfl) ?_
                refine lv_imul hx hb dX5_check_156 ?_
                refine tI (pk_mul _ _) ?_
                refine lv_iadd hx hb dX5_check_157 ?_
                refine tI (nI_add _ _) ?_
                refine iEq (a := mps) (b := (cln n c0) + (32 * i)) (tgt := 163) hx hb dX5_check_158 (by decide) (by omega) (by omega) (fun h158 => ?_) (fun h158 => ?_)
                · skip
                  refine lv_aload_n hx hb dX5_check_163 rfl (lv_at hl 1 rfl) ?_
                  refine lv_iconst (v := (-1 : Int32)) hx hb dX5_check_164 (by decide) ?_
                  refine kVv (As := [.int ((-1 : Int32))]) (rest := []) S0 hK hst hA hW [0, 5, 12] (fun sz => c_X5_useKey_s l D cy t z0 zr zs zt zc zm zk zh zd zf ml zp mps za ze be zn zb zv zw zo zq nu bq fg zl hg cz zi ke  sz) rfl (by decide) (cwV 1 hts gX5_check_X5_useKey rfl rfl rfl (by decide +kernel) ⟨Nat.le_of_ble_eq_true rfl, Nat.le_of_ble_eq_true rfl⟩) (fun _ => rfl) 0 5 rfl rfl rfl hl.1 rfl (Nat.le_of_ble_eq_true rfl) dX5_check_165 ⟨Nat.le_of_ble_eq_true rfl, Nat.le_of_ble_eq_true rfl⟩ (fun u165 H locs p165 hW => ?_)
                  have hW : Wd D A s [(z0, .inr (5, [.ref zr, .ref zs, .ref zt, .ref zc, .ref zm, .ref zk, .ref zh, .ref zd, .ref zf, .int (nI (ml)), .ref zp, .int (nI (mps)), .ref za, .ref ze, .int (nI (0)), .ref zn, .ref zb, .ref zv, .ref zw, .ref zo, .ref zq, .long (nu), .int (bq), .int (fg), .ref zl, .int (nI (hg)), .int (nI (cz)), .ref zi])), (zs, .inl (cy 0, 8, .inl (ms))), (zr, .inl (cy 0, 1600, .inl (mr))), (zi, .inl (cy 2, 20, .inl (ix))), (zp, .inl (cy 0, 2000, .inl (mp))), (ze, .inl (cy 0, 8, .inl (stA))), (zn, .inl (cy 0, 8, .inl (cn))), (zb, .inl (cy 0, 16, .inl (bb))), (zv, .inl (cy 0, 16, .inl (vv))), (zw, .inl (cy 0, 16, .inl (ww))), (zo, .inl (cy 0, 16, .inl (oo))), (zq, .inl (cy 0, 16, .inl (fun k => nI (orN k)))), (za, .inl (cy 0, 8, .inl (stA)))] H locs := hW
                  refine lv_aload_n hx hb dX5_check_168 rfl (lv_at hl 1 rfl) ?_
                  refine lv_aload_n hx hb dX5_check_169 rfl (lv_at hl 1 rfl) ?_
                  refine va_get (D := D) (ci := 5) (v := .ref zp) (C := RX5) (T := TX5) (N := 28) hx hb hts i_X5_check_X5 hown hK hW.1 0 rfl rfl 10 (by decide) (hts (.fieldLink RX5 38 "TreeHashesModel" "proof" "[I") f_X5_check_4) (fun _ h9 => h9) rfl dX5_check_170 ?_
                  refine lv_iconst (v := nI (0)) hx hb dX5_check_173 (by decide) ?_
                  refine lv_iload hx hb dX5_check_174 (lv_at hl 0 rfl) ?_
                  refine lv_iload_n hx hb dX5_check_176 rfl (lv_at hl 4 rfl) ?_
                  refine lv_i2l hx hb dX5_check_177 rfl ?_
                  refine tL (x' := lN c0) (nI_l (by omega)) ?_
                  refine kVv (As := [.ref zp, .int (nI (0)), .int (nI (cln n c0)), .long (lN c0)]) (rest := []) S0 hK hst hA hW [0, 5, 6, 7, 8, 9, 10, 11, 12, 4] (fun sz => c_X5_chunk l D cy t z0 zr zs zt zc zm zk zh zd zf ml zp mps za ze (nI (0)) zn zb zv zw zo zq nu bq fg zl hg cz zi stA cn bb vv ww oo zp 2000 mp 0 (cln n c0) c0 (by omega) (by omega) (by omega) sz) rfl (by decide) (cwV 4 hts gX5_check_X5_chunk rfl rfl rfl (by decide +kernel) ⟨Nat.le_of_ble_eq_true rfl, Nat.le_of_ble_eq_true rfl⟩) (fun ⟨_, _, _⟩ => rfl) 0 5 rfl rfl rfl hl.1 rfl (Nat.le_of_ble_eq_true rfl) dX5_check_178 ⟨Nat.le_of_ble_eq_true rfl, Nat.le_of_ble_eq_true rfl⟩ (fun u178 H locs p178 hW => ?_)
                  obtain ⟨vv2_178, ww2_178, oo2_178⟩ := u178
                  have hW : Wd D A s [(z0, .inr (5, [.ref zr, .ref zs, .ref zt, .ref zc, .ref zm, .ref zk, .ref zh, .ref zd, .ref zf, .int (nI (ml)), .ref zp, .int (nI (mps)), .ref za, .ref ze, .int ((nI (0))), .ref zn, .ref zb, .ref zv, .ref zw, .ref zo, .ref zq, .long ((ndC stA (nI (0)) mp 0 c0 (cln n c0)).2.2.1), .int ((ndC stA (nI (0)) mp 0 c0 (cln n c0)).2.2.2.1), .int ((ndC stA (nI (0)) mp 0 c0 (cln n c0)).2.2.2.2), .ref zl, .int (nI (hg)), .int (nI (cz)), .ref zi])), (zs, .inl (cy 0, 8, .inl (ms))), (zr, .inl (cy 0, 1600, .inl (mr))), (zi, .inl (cy 2, 20, .inl (ix))), (zp, .inl (cy 0, 2000, .inl (mp))), (ze, .inl (cy 0, 8, .inl (stA))), (zn, .inl (cy 0, 8, .inl ((ndC stA (nI (0)) mp 0 c0 (cln n c0)).1))), (zb, .inl (cy 0, 16, .inl ((ndC stA (nI (0)) mp 0 c0 (cln n c0)).2.1))), (zv, .inl (cy 0, 16, .inl (vv2_178))), (zw, .inl (cy 0, 16, .inl (ww2_178))), (zo, .inl (cy 0, 16, .inl (oo2_178))), (zq, .inl (cy 0, 16, .inl (fun k => nI (orN k)))), (za, .inl (cy 0, 8, .inl (stA)))] H locs := hW
                  refine lv_iload hx hb dX5_check_181 (lv_at hl 5 rfl) ?_
                  refine lv_iconst (v := nI (1)) hx hb dX5_check_183 (by decide) ?_
                  refine lv_isub hx hb dX5_check_184 ?_
                  refine lv_istore (lv' := [(8, .int ((nI (i)) - (nI (1)))), (7, .int (nI (cln n c0))), (0, .ref z0), (1, .int (nI (ri))), (2, .int (nI (n))), (3, .int (nI (c0))), (4, .int (nI (i))), (5, .int (nI (fi))), (6, .int (nI (nu0)))]) hx hb dX5_check_185 hl (by decide) rfl (fun ls hl => ?_)
                  have loop187 : ∀ (nF : Nat) (d : Nat) (cx : Nat → Int32) (bx : Nat → Int32) (vx : Nat → Int32) (wx : Nat → Int32) (ox : Nat → Int32) (nx : Int64) (qx : Int32) (gx : Int32), d < nF → (d ≤ i) → (clb (wyF c0 (chks n)) c0 (fun L k => wrd mp ((cln n c0 + 32 * L) + 4 * k)) d (cx, bx, nx, qx, gx) = (clb (wyF c0 (chks n)) c0 (fun L k => wrd mp ((cln n c0 + 32 * L) + 4 * k)) L0 (ndC stA (nI (0)) mp 0 c0 (cln n c0)))) → ∀ (H : Heap) (locs : List Loc), Wd D A s [(z0, .inr (5, [.ref zr, .ref zs, .ref zt, .ref zc, .ref zm, .ref zk, .ref zh, .ref zd, .ref zf, .int (nI (ml)), .ref zp, .int (nI (mps)), .ref za, .ref ze, .int ((nI (0))), .ref zn, .ref zb, .ref zv, .ref zw, .ref zo, .ref zq, .long (nx), .int (qx), .int (gx), .ref zl, .int (nI (hg)), .int (nI (cz)), .ref zi])), (zs, .inl (cy 0, 8, .inl (ms))), (zr, .inl (cy 0, 1600, .inl (mr))), (zi, .inl (cy 2, 20, .inl (ix))), (zp, .inl (cy 0, 2000, .inl (mp))), (ze, .inl (cy 0, 8, .inl (stA))), (zn, .inl (cy 0, 8, .inl (cx))), (zb, .inl (cy 0, 16, .inl (bx))), (zv, .inl (cy 0, 16, .inl (vx))), (zw, .inl (cy 0, 16, .inl (wx))), (zo, .inl (cy 0, 16, .inl (ox))), (zq, .inl (cy 0, 16, .inl (fun k => nI (orN k)))), (za, .inl (cy 0, 8, .inl (stA)))] H locs → ∀ ls : Array Slot, lv_has ls 12 [(0, .ref z0), (1, .int (nI (ri))), (2, .int (nI (n))), (3, .int (nI (c0))), (4, .int (nI (i))), (7, .int (nI (cln n c0))), (8, .int ((nI (d)) - (nI (1))))] → W p l e ({ frames := 5, cells := 0, slots := 0, locals := 120 }) s m args below meth c H locs 0 0 Q (F0 m 187 ls []) := by
                    intro nF
                    induction nF with
                    | zero => intro d cx bx vx wx ox nx qx gx hf; exact absurd hf (Nat.not_lt_zero _)
                    | succ nF ih187 =>
                      intro d cx bx vx wx ox nx qx gx hf hle hR H locs hW ls hl
                      refine lv_iload hx hb dX5_check_187 (lv_at hl 6 rfl) ?_
                      refine lv_if_lt (tgt := 356) hx hb dX5_check_189 (by decide) (fun h189 => ?_) (fun h189 => ?_)
                      · skip
                        have e9 : d = 0 := sub1_neg (by omega) h189
                        rw [e9] at hR
                        have hR : (cx, bx, nx, qx, gx) = (clb (wyF c0 (chks n)) c0 (fun L k => wrd mp ((cln n c0 + 32 * L) + 4 * k)) L0 (ndC stA (nI (0)) mp 0 c0 (cln n c0))) := hR
                        refine lv_aload_n hx hb dX5_check_356 rfl (lv_at hl 0 rfl) ?_
                        refine lv_lconst (v := lN 0) hx hb dX5_check_357 (by decide) ?_
                        refine lv_aload_n hx hb dX5_check_358 rfl (lv_at hl 0 rfl) ?_
                        refine va_get (D := D) (ci := 5) (v := .int (gx)) (C := RX5) (T := TX5) (N := 28) hx hb hts i_X5_check_X5 hown hK hW.1 0 rfl rfl 23 (by decide) (hts (.fieldLink RX5 104 "TreeHashesModel" "flags" "I") f_X5_check_5) (fun _ h9 => h9) rfl dX5_check_359 ?_
                        refine lv_bipush (v := nI (8)) hx hb dX5_check_362 (by decide) ?_
                        refine lv_iadd hx hb dX5_check_364 ?_
                        refine kVv (As := [.long (lN 0), .int (gx + (nI (8)))]) (rest := []) S0 hK hst hA hW [0, 6, 7, 8, 9, 10, 11, 12] (fun sz => c_X5_mix l D cy t z0 zr zs zt zc zm zk zh zd zf ml zp mps za ze (nI (0)) zn zb zv zw zo zq nx qx gx zl hg cz zi cx bx vx wx ox (lN 0) (gx + (nI (8)))  sz) rfl (by decide) (cwV 2 hts gX5_check_X5_mix rfl rfl rfl (by decide +kernel) ⟨Nat.le_of_ble_eq_true rfl, Nat.le_of_ble_eq_true rfl⟩) (fun ⟨_, _⟩ => rfl) 0 5 rfl rfl rfl hl.1 rfl (Nat.le_of_ble_eq_true rfl) dX5_check_365 ⟨Nat.le_of_ble_eq_true rfl, Nat.le_of_ble_eq_true rfl⟩ (fun u365 H locs p365 hW => ?_)
                        obtain ⟨ww2_365, oo2_365⟩ := u365
                        have hW : Wd D A s [(z0, .inr (5, [.ref zr, .ref zs, .ref zt, .ref zc, .ref zm, .ref zk, .ref zh, .ref zd, .ref zf, .int (nI (ml)), .ref zp, .int (nI (mps)), .ref za, .ref ze, .int ((nI (0))), .ref zn, .ref zb, .ref zv, .ref zw, .ref zo, .ref zq, .long (nx), .int (qx), .int (gx), .ref zl, .int (nI (hg)), .int (nI (cz)), .ref zi])), (zs, .inl (cy 0, 8, .inl (ms))), (zr, .inl (cy 0, 1600, .inl (mr))), (zi, .inl (cy 2, 20, .inl (ix))), (zp, .inl (cy 0, 2000, .inl (mp))), (ze, .inl (cy 0, 8, .inl (stA))), (zn, .inl (cy 0, 8, .inl (cx))), (zb, .inl (cy 0, 16, .inl (bx))), (zv, .inl (cy 0, 16, .inl (mixV cx bx (lN 0) qx (gx + (nI (8)))))), (zw, .inl (cy 0, 16, .inl (ww2_365))), (zo, .inl (cy 0, 16, .inl (oo2_365))), (zq, .inl (cy 0, 16, .inl (fun k => nI (orN k)))), (za, .inl (cy 0, 8, .inl (stA)))] H locs := hW
                        refine lv_iconst (v := nI (1)) hx hb dX5_check_368 (by decide) ?_
                        refine lv_istore (lv' := [(8, .int (nI (1))), (0, .ref z0), (1, .int (nI (ri))), (2, .int (nI (n))), (3, .int (nI (c0))), (4, .int (nI (i))), (7, .int (nI (cln n c0)))]) hx hb dX5_check_369 hl (by decide) rfl (fun ls hl => ?_)
                        refine lv_iconst (v := nI (0)) hx hb dX5_check_371 (by decide) ?_
                        refine lv_istore (lv' := [(9, .int (nI (0))), (8, .int (nI (1))), (0, .ref z0), (1, .int (nI (ri))), (2, .int (nI (n))), (3, .int (nI (c0))), (4, .int (nI (i))), (7, .int (nI (cln n c0)))]) hx hb dX5_check_372 hl (by decide) rfl (fun ls hl => ?_)
                        have loop374 : ∀ (nF : Nat) (q : Nat) (sm : Nat), 32 - q < nF → (q ≤ 32) → ((sm = 1 ∧ ∀ k, k < q → mr (200 * ri + k) = oby (mixV (clb (wyF c0 (chks n)) c0 (fun L k => wrd mp ((cln n c0 + 32 * L) + 4 * k)) L0 (ndC stA (nI (0)) mp 0 c0 (cln n c0))).1 (clb (wyF c0 (chks n)) c0 (fun L k => wrd mp ((cln n c0 + 32 * L) + 4 * k)) L0 (ndC stA (nI (0)) mp 0 c0 (cln n c0))).2.1 (lN 0) (clb (wyF c0 (chks n)) c0 (fun L k => wrd mp ((cln n c0 + 32 * L) + 4 * k)) L0 (ndC stA (nI (0)) mp 0 c0 (cln n c0))).2.2.2.1 ((clb (wyF c0 (chks n)) c0 (fun L k => wrd mp ((cln n c0 + 32 * L) + 4 * k)) L0 (ndC stA (nI (0)) mp 0 c0 (cln n c0))).2.2.2.2 + (nI (8)))) k) ∨ (sm = 0 ∧ ∃ k, k < q ∧ mr (200 * ri + k) ≠ oby (mixV (clb (wyF c0 (chks n)) c0 (fun L k => wrd mp ((cln n c0 + 32 * L) + 4 * k)) L0 (ndC stA (nI (0)) mp 0 c0 (cln n c0))).1 (clb (wyF c0 (chks n)) c0 (fun L k => wrd mp ((cln n c0 + 32 * L) + 4 * k)) L0 (ndC stA (nI (0)) mp 0 c0 (cln n c0))).2.1 (lN 0) (clb (wyF c0 (chks n)) c0 (fun L k => wrd mp ((cln n c0 + 32 * L) + 4 * k)) L0 (ndC stA (nI (0)) mp 0 c0 (cln n c0))).2.2.2.1 ((clb (wyF c0 (chks n)) c0 (fun L k => wrd mp ((cln n c0 + 32 * L) + 4 * k)) L0 (ndC stA (nI (0)) mp 0 c0 (cln n c0))).2.2.2.2 + (nI (8)))) k)) → ∀ (H : Heap) (locs : List Loc), Wd D A s [(z0, .inr (5, [.ref zr, .ref zs, .ref zt, .ref zc, .ref zm, .ref zk, .ref zh, .ref zd, .ref zf, .int (nI (ml)), .ref zp, .int (nI (mps)), .ref za, .ref ze, .int ((nI (0))), .ref zn, .ref zb, .ref zv, .ref zw, .ref zo, .ref zq, .long (nx), .int (qx), .int (gx), .ref zl, .int (nI (hg)), .int (nI (cz)), .ref zi])), (zs, .inl (cy 0, 8, .inl (ms))), (zr, .inl (cy 0, 1600, .inl (mr))), (zi, .inl (cy 2, 20, .inl (ix))), (zp, .inl (cy 0, 2000, .inl (mp))), (ze, .inl (cy 0, 8, .inl (stA))), (zn, .inl (cy 0, 8, .inl (cx))), (zb, .inl (cy 0, 16, .inl (bx))), (zv, .inl (cy 0, 16, .inl (mixV cx bx (lN 0) qx (gx + (nI (8)))))), (zw, .inl (cy 0, 16, .inl (ww2_365))), (zo, .inl (cy 0, 16, .inl (oo2_365))), (zq, .inl (cy 0, 16, .inl (fun k => nI (orN k)))), (za, .inl (cy 0, 8, .inl (stA)))] H locs → ∀ ls : Array Slot, lv_has ls 12 [(0, .ref z0), (1, .int (nI (ri))), (2, .int (nI (n))), (3, .int (nI (c0))), (4, .int (nI (i))), (7, .int (nI (cln n c0))), (8, .int (nI (sm))), (9, .int (nI (q)))] → W p l e ({ frames := 5, cells := 0, slots := 0, locals := 120 }) s m args below meth c H locs 0 0 Q (F0 m 374 ls []) := by
                          intro nF
                          induction nF with
                          | zero => intro q sm hf; exact absurd hf (Nat.not_lt_zero _)
                          | succ nF ih374 =>
                            intro q sm hf hq32 hsm H locs hW ls hl
                            refine lv_iload hx hb dX5_check_374 (lv_at hl 7 rfl) ?_
                            refine lv_bipush (v := nI (32)) hx hb dX5_check_376 (by decide) ?_
                            refine iGe (a := q) (b := 32) (tgt := 436) hx hb dX5_check_378 (by decide) (by omega) (by omega) (fun h378 => ?_) (fun h378 => ?_)
                            · skip
                              refine lv_iload hx hb dX5_check_436 (lv_at hl 6 rfl) ?_
                              refine zEq (a := sm) (tgt := 445) hx hb dX5_check_438 (by decide) (by omega) (fun h438 => ?_) (fun h438 => ?_)
                              · skip
                                refine lv_iconst (v := nI (0)) hx hb dX5_check_445 (by decide) ?_
                                exact eI hQ hx hb hr hlocks hK hW (ix, ww2_365, oo2_365) (hsm.elim (fun z => absurd (z.1.symm.trans h438) (by decide)) (fun z => Or.inr ⟨rfl, z.2.elim (fun k hk => ⟨k, by omega, hk.2⟩)⟩)) (by simp only [← hR]) dX5_check_446
                              · skip
                                refine lv_iconst (v := nI (1)) hx hb dX5_check_441 (by decide) ?_
                                refine lv_goto (tgt := 446) hx hb dX5_check_442 (by decide) ?_
                                exact eI hQ hx hb hr hlocks hK hW (ix, ww2_365, oo2_365) (hsm.elim (fun z => Or.inl ⟨rfl, fun k hk => z.2 k (by omega)⟩) (fun z => absurd z.1 h438)) (by simp only [← hR]) dX5_check_446
                            · skip
                              refine lv_iload hx hb dX5_check_381 (lv_at hl 6 rfl) ?_
                              refine zEq (a := sm) (tgt := 427) hx hb dX5_check_383 (by decide) (by omega) (fun h383 => ?_) (fun h383 => ?_)
                              · skip
                                refine lv_iconst (v := nI (0)) hx hb dX5_check_427 (by decide) ?_
                                refine lv_istore (lv' := [(8, .int (nI (0))), (0, .ref z0), (1, .int (nI (ri))), (2, .int (nI (n))), (3, .int (nI (c0))), (4, .int (nI (i))), (7, .int (nI (cln n c0))), (9, .int (nI (q)))]) hx hb dX5_check_428 hl (by decide) rfl (fun ls hl => ?_)
                                refine lv_iinc (v := nI (q + 1)) (lv' := [(9, .int (nI (q + 1))), (8, .int (nI (0))), (0, .ref z0), (1, .int (nI (ri))), (2, .int (nI (n))), (3, .int (nI (c0))), (4, .int (nI (i))), (7, .int (nI (cln n c0)))]) hx hb dX5_check_430 hl (k := 7) rfl (nI_1 _) (by decide) rfl (fun ls hl => ?_)
                                refine lv_goto (tgt := 374) hx hb dX5_check_433 (by decide) ?_
                                exact ih374 (q + 1) 0 (by omega) (by omega) (hsm.elim (fun z => absurd (z.1.symm.trans h383) (by decide)) (fun z => Or.inr ⟨rfl, z.2.elim (fun k hk => ⟨k, by omega, hk.2⟩)⟩)) _ _ hW _ (lv_sub hl [2, 3, 4, 5, 6, 7, 1, 0] rfl)
                              · skip
                                refine lv_aload_n hx hb dX5_check_386 rfl (lv_at hl 0 rfl) ?_
                                refine va_get (D := D) (ci := 5) (v := .ref zr) (C := RX5) (T := TX5) (N := 28) hx hb hts i_X5_check_X5 hown hK hW.1 0 rfl rfl 0 (by decide) (hts (.fieldLink RX5 7 "TreeHashesModel" "registers" "[I") f_X5_check_6) (fun _ h9 => h9) rfl dX5_check_387 ?_
                                refine lv_sipush (v := nI (200)) hx hb dX5_check_390 (by decide) ?_
                                refine lv_iload_n hx hb dX5_check_393 rfl (lv_at hl 1 rfl) ?_
                                refine lv_imul hx hb dX5_check_394 ?_
                                refine tI (pk_mul _ _) ?_
                                refine lv_iload hx hb dX5_check_395 (lv_at hl 7 rfl) ?_
                                refine lv_iadd hx hb dX5_check_397 ?_
                                refine tI (nI_add _ _) ?_
                                refine rI hx hb hK hW 2 rfl (k := (200 * ri) + q) (by omega) (by omega) dX5_check_398 ?_
                                refine lv_aload_n hx hb dX5_check_399 rfl (lv_at hl 0 rfl) ?_
                                refine va_get (D := D) (ci := 5) (v := .ref zv) (C := RX5) (T := TX5) (N := 28) hx hb hts i_X5_check_X5 hown hK hW.1 0 rfl rfl 17 (by decide) (hts (.fieldLink RX5 53 "TreeHashesModel" "v" "[I") f_X5_check_7) (fun _ h9 => h9) rfl dX5_check_400 ?_
                                refine lv_iload hx hb dX5_check_403 (lv_at hl 7 rfl) ?_
                                refine lv_iconst (v := nI (4)) hx hb dX5_check_405 (by decide) ?_
                                refine lv_idiv hx hb dX5_check_406 (by decide) ?_
                                refine tI (pk_div (by omega) (by omega) (by omega)) ?_
                                refine rI hx hb hK hW 8 rfl (k := q / 4) (by omega) (by omega) dX5_check_407 ?_
                                refine lv_bipush (v := nI (8)) hx hb dX5_check_408 (by decide) ?_
                                refine lv_iload hx hb dX5_check_410 (lv_at hl 7 rfl) ?_
                                refine lv_iconst (v := nI (4)) hx hb dX5_check_412 (by decide) ?_
                                refine lv_irem hx hb dX5_check_413 (by decide) ?_
                                refine tI (pk_rem (by omega) (by omega) (by omega)) ?_
                                refine lv_imul hx hb dX5_check_414 ?_
                                refine tI (pk_mul _ _) ?_
                                refine lv_ishr hx hb dX5_check_415 ?_
                                refine lv_sipush (v := nI (255)) hx hb dX5_check_416 (by decide) ?_
                                refine lv_iand hx hb dX5_check_419 ?_
                                refine tI (x' := oby (mixV (clb (wyF c0 (chks n)) c0 (fun L k => wrd mp ((cln n c0 + 32 * L) + 4 * k)) L0 (ndC stA (nI (0)) mp 0 c0 (cln n c0))).1 (clb (wyF c0 (chks n)) c0 (fun L k => wrd mp ((cln n c0 + 32 * L) + 4 * k)) L0 (ndC stA (nI (0)) mp 0 c0 (cln n c0))).2.1 (lN 0) (clb (wyF c0 (chks n)) c0 (fun L k => wrd mp ((cln n c0 + 32 * L) + 4 * k)) L0 (ndC stA (nI (0)) mp 0 c0 (cln n c0))).2.2.2.1 ((clb (wyF c0 (chks n)) c0 (fun L k => wrd mp ((cln n c0 + 32 * L) + 4 * k)) L0 (ndC stA (nI (0)) mp 0 c0 (cln n c0))).2.2.2.2 + (nI (8)))) q) (by rw [mby_oby _ (by omega)]; simp only [← hR]) ?_
                                refine lv_icmp_ne (tgt := 427) hx hb dX5_check_420 (by decide) (fun h420 => ?_) (fun h420 => ?_)
                                · skip
                                  refine lv_iconst (v := nI (0)) hx hb dX5_check_427 (by decide) ?_
                                  refine lv_istore (lv' := [(8, .int (nI (0))), (0, .ref z0), (1, .int (nI (ri))), (2, .int (nI (n))), (3, .int (nI (c0))), (4, .int (nI (i))), (7, .int (nI (cln n c0))), (9, .int (nI (q)))]) hx hb dX5_check_428 hl (by decide) rfl (fun ls hl => ?_)
                                  refine lv_iinc (v := nI (q + 1)) (lv' := [(9, .int (nI (q + 1))), (8, .int (nI (0))), (0, .ref z0), (1, .int (nI (ri))), (2, .int (nI (n))), (3, .int (nI (c0))), (4, .int (nI (i))), (7, .int (nI (cln n c0)))]) hx hb dX5_check_430 hl (k := 7) rfl (nI_1 _) (by decide) rfl (fun ls hl => ?_)
                                  refine lv_goto (tgt := 374) hx hb dX5_check_433 (by decide) ?_
                                  exact ih374 (q + 1) 0 (by omega) (by omega) (Or.inr ⟨rfl, q, by omega, h420⟩) _ _ hW _ (lv_sub hl [2, 3, 4, 5, 6, 7, 1, 0] rfl)
                                · skip
                                  refine lv_iconst (v := nI (1)) hx hb dX5_check_423 (by decide) ?_
                                  refine lv_goto (tgt := 428) hx hb dX5_check_424 (by decide) ?_
                                  refine lv_istore (lv' := [(8, .int (nI (1))), (0, .ref z0), (1, .int (nI (ri))), (2, .int (nI (n))), (3, .int (nI (c0))), (4, .int (nI (i))), (7, .int (nI (cln n c0))), (9, .int (nI (q)))]) hx hb dX5_check_428 hl (by decide) rfl (fun ls hl => ?_)
                                  refine lv_iinc (v := nI (q + 1)) (lv' := [(9, .int (nI (q + 1))), (8, .int (nI (1))), (0, .ref z0), (1, .int (nI (ri))), (2, .int (nI (n))), (3, .int (nI (c0))), (4, .int (nI (i))), (7, .int (nI (cln n c0)))]) hx hb dX5_check_430 hl (k := 7) rfl (nI_1 _) (by decide) rfl (fun ls hl => ?_)
                                  refine lv_goto (tgt := 374) hx hb dX5_check_433 (by decide) ?_
                                  exact ih374 (q + 1) 1 (by omega) (by omega) (Or.inl ⟨rfl, lt_s (hsm.resolve_right (fun z => h383 z.1)).2 h420⟩) _ _ hW _ (lv_sub hl [2, 3, 4, 5, 6, 7, 1, 0] rfl)
                        exact loop374 _ 0 1 (Nat.lt_succ_self _) (by omega) (Or.inl ⟨rfl, lt_0⟩) _ _ hW _ (lv_sub hl [2, 3, 4, 5, 6, 7, 1, 0] rfl)
                      · skip
                        have hd1 := sub1_pos h189
                        rw [pk_sub (show 1 ≤ d by omega)] at hl
                        refine lv_aload_n hx hb dX5_check_192 rfl (lv_at hl 0 rfl) ?_
                        refine kVv (As := []) (rest := []) S0 hK hst hA hW [0, 6, 7, 8, 9, 10, 11, 12] (fun sz => c_X5_mixIn l D cy t z0 zr zs zt zc zm zk zh zd zf ml zp mps za ze (nI (0)) zn zb zv zw zo zq nx qx gx zl hg cz zi cx bx vx wx ox  sz) rfl (by decide) (cwV 0 hts gX5_check_X5_mixIn rfl rfl rfl (by decide +kernel) ⟨Nat.le_of_ble_eq_true rfl, Nat.le_of_ble_eq_true rfl⟩) (fun ⟨_, _⟩ => rfl) 0 5 rfl rfl rfl hl.1 rfl (Nat.le_of_ble_eq_true rfl) dX5_check_193 ⟨Nat.le_of_ble_eq_true rfl, Nat.le_of_ble_eq_true rfl⟩ (fun u193 H locs p193 hW => ?_)
                        obtain ⟨ww2_193, oo2_193⟩ := u193
                        have hW : Wd D A s [(z0, .inr (5, [.ref zr, .ref zs, .ref zt, .ref zc, .ref zm, .ref zk, .ref zh, .ref zd, .ref zf, .int (nI (ml)), .ref zp, .int (nI (mps)), .ref za, .ref ze, .int ((nI (0))), .ref zn, .ref zb, .ref zv, .ref zw, .ref zo, .ref zq, .long (nx), .int (qx), .int (gx), .ref zl, .int (nI (hg)), .int (nI (cz)), .ref zi])), (zs, .inl (cy 0, 8, .inl (ms))), (zr, .inl (cy 0, 1600, .inl (mr))), (zi, .inl (cy 2, 20, .inl (ix))), (zp, .inl (cy 0, 2000, .inl (mp))), (ze, .inl (cy 0, 8, .inl (stA))), (zn, .inl (cy 0, 8, .inl (mixV cx bx nx qx gx))), (zb, .inl (cy 0, 16, .inl (bx))), (zv, .inl (cy 0, 16, .inl (mixV cx bx nx qx gx))), (zw, .inl (cy 0, 16, .inl (ww2_193))), (zo, .inl (cy 0, 16, .inl (oo2_193))), (zq, .inl (cy 0, 16, .inl (fun k => nI (orN k)))), (za, .inl (cy 0, 8, .inl (stA)))] H locs := hW
                        refine lv_iload hx hb dX5_check_196 (lv_at hl 5 rfl) ?_
                        refine lv_bipush (v := nI (32)) hx hb dX5_check_198 (by decide) ?_
                        refine lv_iload hx hb dX5_check_200 (lv_at hl 6 rfl) ?_
                        refine lv_imul hx hb dX5_check_202 ?_
                        refine tI (pk_mul _ _) ?_
                        refine lv_iadd hx hb dX5_check_203 ?_
                        refine tI (nI_add _ _) ?_
                        refine lv_istore (lv' := [(9, .int (nI ((cln n c0) + (32 * (d - 1))))), (0, .ref z0), (1, .int (nI (ri))), (2, .int (nI (n))), (3, .int (nI (c0))), (4, .int (nI (i))), (7, .int (nI (cln n c0))), (8, .int (nI (d - 1)))]) hx hb dX5_check_204 hl (by decide) rfl (fun ls hl => ?_)
                        refine lv_iconst (v := nI (0)) hx hb dX5_check_206 (by decide) ?_
                        refine lv_istore (lv' := [(10, .int (nI (0))), (9, .int (nI ((cln n c0) + (32 * (d - 1))))), (0, .ref z0), (1, .int (nI (ri))), (2, .int (nI (n))), (3, .int (nI (c0))), (4, .int (nI (i))), (7, .int (nI (cln n c0))), (8, .int (nI (d - 1)))]) hx hb dX5_check_207 hl (by decide) rfl (fun ls hl => ?_)
                        have loop209 : ∀ (nF : Nat) (k : Nat), 8 - k < nF → (k ≤ 8) → ∀ (H : Heap) (locs : List Loc), Wd D A s [(z0, .inr (5, [.ref zr, .ref zs, .ref zt, .ref zc, .ref zm, .ref zk, .ref zh, .ref zd, .ref zf, .int (nI (ml)), .ref zp, .int (nI (mps)), .ref za, .ref ze, .int ((nI (0))), .ref zn, .ref zb, .ref zv, .ref zw, .ref zo, .ref zq, .long (nx), .int (qx), .int (gx), .ref zl, .int (nI (hg)), .int (nI (cz)), .ref zi])), (zs, .inl (cy 0, 8, .inl (ms))), (zr, .inl (cy 0, 1600, .inl (mr))), (zi, .inl (cy 2, 20, .inl (ix))), (zp, .inl (cy 0, 2000, .inl (mp))), (ze, .inl (cy 0, 8, .inl (stA))), (zn, .inl (cy 0, 8, .inl (mixV cx bx nx qx gx))), (zb, .inl (cy 0, 16, .inl (jnI bx (fun k => if wyF c0 (chks n) (d - 1) < c0 then (fun k => wrd mp ((cln n c0 + 32 * (d - 1)) + 4 * k)) k else (mixV cx bx nx qx gx) k) (fun k => if wyF c0 (chks n) (d - 1) < c0 then (mixV cx bx nx qx gx) k else (fun k => wrd mp ((cln n c0 + 32 * (d - 1)) + 4 * k)) k) k))), (zv, .inl (cy 0, 16, .inl (mixV cx bx nx qx gx))), (zw, .inl (cy 0, 16, .inl (ww2_193))), (zo, .inl (cy 0, 16, .inl (oo2_193))), (zq, .inl (cy 0, 16, .inl (fun k => nI (orN k)))), (za, .inl (cy 0, 8, .inl (stA)))] H locs → ∀ ls : Array Slot, lv_has ls 12 [(0, .ref z0), (1, .int (nI (ri))), (2, .int (nI (n))), (3, .int (nI (c0))), (4, .int (nI (i))), (7, .int (nI (cln n c0))), (8, .int (nI (d - 1))), (9, .int (nI (cln n c0 + 32 * (d - 1)))), (10, .int (nI (k)))] → W p l e ({ frames := 5, cells := 0, slots := 0, locals := 120 }) s m args below meth c H locs 0 0 Q (F0 m 209 ls []) := by
                          intro nF
                          induction nF with
                          | zero => intro k hf; exact absurd hf (Nat.not_lt_zero _)
                          | succ nF ih209 =>
                            intro k hf hk H locs hW ls hl
                            refine lv_iload hx hb dX5_check_209 (lv_at hl 8 rfl) ?_
                            refine lv_bipush (v := nI (8)) hx hb dX5_check_211 (by decide) ?_
                            refine iGe (a := k) (b := 8) (tgt := 299) hx hb dX5_check_213 (by decide) (by omega) (by omega) (fun h213 => ?_) (fun h213 => ?_)
                            · skip
                              have e9 : k = 8 := by omega
                              rw [e9] at hW
                              have hW := Wd.ext hW 7 rfl (jn (fun k => if wyF c0 (chks n) (d - 1) < c0 then (fun k => wrd mp ((cln n c0 + 32 * (d - 1)) + 4 * k)) k else (mixV cx bx nx qx gx) k) (fun k => if wyF c0 (chks n) (d - 1) < c0 then (mixV cx bx nx qx gx) k else (fun k => wrd mp ((cln n c0 + 32 * (d - 1)) + 4 * k)) k)) jnI_8
                              rw [show jn (fun k => if wyF c0 (chks n) (d - 1) < c0 then (fun k => wrd mp ((cln n c0 + 32 * (d - 1)) + 4 * k)) k else (mixV cx bx nx qx gx) k) (fun k => if wyF c0 (chks n) (d - 1) < c0 then (mixV cx bx nx qx gx) k else (fun k => wrd mp ((cln n c0 + 32 * (d - 1)) + 4 * k)) k) = (if wyF c0 (chks n) (d - 1) < c0 then jn (fun k => wrd mp ((cln n c0 + 32 * (d - 1)) + 4 * k)) (mixV cx bx nx qx gx) else jn (mixV cx bx nx qx gx) (fun k => wrd mp ((cln n c0 + 32 * (d - 1)) + 4 * k))) from jn_if] at hW
                              refine lv_iconst (v := nI (0)) hx hb dX5_check_299 (by decide) ?_
                              refine lv_istore (lv' := [(10, .int (nI (0))), (0, .ref z0), (1, .int (nI (ri))), (2, .int (nI (n))), (3, .int (nI (c0))), (4, .int (nI (i))), (7, .int (nI (cln n c0))), (8, .int (nI (d - 1))), (9, .int (nI (cln n c0 + 32 * (d - 1))))]) hx hb dX5_check_300 hl (by decide) rfl (fun ls hl => ?_)
                              have loop302 : ∀ (nF : Nat) (j : Nat), 8 - j < nF → (j ≤ 8) → ∀ (H : Heap) (locs : List Loc), Wd D A s [(z0, .inr (5, [.ref zr, .ref zs, .ref zt, .ref zc, .ref zm, .ref zk, .ref zh, .ref zd, .ref zf, .int (nI (ml)), .ref zp, .int (nI (mps)), .ref za, .ref ze, .int ((nI (0))), .ref zn, .ref zb, .ref zv, .ref zw, .ref zo, .ref zq, .long (nx), .int (qx), .int (gx), .ref zl, .int (nI (hg)), .int (nI (cz)), .ref zi])), (zs, .inl (cy 0, 8, .inl (ms))), (zr, .inl (cy 0, 1600, .inl (mr))), (zi, .inl (cy 2, 20, .inl (ix))), (zp, .inl (cy 0, 2000, .inl (mp))), (ze, .inl (cy 0, 8, .inl (stA))), (zn, .inl (cy 0, 8, .inl (apG (mixV cx bx nx qx gx) 0 stA j))), (zb, .inl (cy 0, 16, .inl ((if wyF c0 (chks n) (d - 1) < c0 then jn (fun k => wrd mp ((cln n c0 + 32 * (d - 1)) + 4 * k)) (mixV cx bx nx qx gx) else jn (mixV cx bx nx qx gx) (fun k => wrd mp ((cln n c0 + 32 * (d - 1)) + 4 * k)))))), (zv, .inl (cy 0, 16, .inl (mixV cx bx nx qx gx))), (zw, .inl (cy 0, 16, .inl (ww2_193))), (zo, .inl (cy 0, 16, .inl (oo2_193))), (zq, .inl (cy 0, 16, .inl (fun k => nI (orN k)))), (za, .inl (cy 0, 8, .inl (stA)))] H locs → ∀ ls : Array Slot, lv_has ls 12 [(0, .ref z0), (1, .int (nI (ri))), (2, .int (nI (n))), (3, .int (nI (c0))), (4, .int (nI (i))), (7, .int (nI (cln n c0))), (8, .int (nI (d - 1))), (10, .int (nI (j)))] → W p l e ({ frames := 5, cells := 0, slots := 0, locals := 120 }) s m args below meth c H locs 0 0 Q (F0 m 302 ls []) := by
                                intro nF
                                induction nF with
                                | zero => intro j hf; exact absurd hf (Nat.not_lt_zero _)
                                | succ nF ih302 =>
                                  intro j hf hj H locs hW ls hl
                                  refine lv_iload hx hb dX5_check_302 (lv_at hl 7 rfl) ?_
                                  refine lv_bipush (v := nI (8)) hx hb dX5_check_304 (by decide) ?_
                                  refine iGe (a := j) (b := 8) (tgt := 329) hx hb dX5_check_306 (by decide) (by omega) (by omega) (fun h306 => ?_) (fun h306 => ?_)
                                  · skip
                                    have e9 : j = 8 := by omega
                                    rw [e9] at hW
                                    have hW := Wd.ext hW 6 rfl stA apG_all
                                    refine lv_aload_n hx hb dX5_check_329 rfl (lv_at hl 0 rfl) ?_
                                    refine lv_lconst (v := lN 0) hx hb dX5_check_330 (by decide) ?_
                                    refine va_put (D := D) (ci := 5) (v := .long (lN 0)) (ty := .long) (C := RX5) (T := TX5) (N := 28) hx hb hts i_X5_check_X5 tyX5 tyX5_ok nmX5 hown hK hW.1 hW.2.1 hW.2.2 0 rfl rfl 21 (by decide) (hts (.fieldLink RX5 100 "TreeHashesModel" "number" "J") f_X5_check_8) (fun _ h9 => h9) rfl (by decide +kernel) rfl rfl (Nat.le_of_ble_eq_true rfl) dX5_check_331 (fun H locs hP hD hS => ?_)
                                    have hW : Wd D A s [(z0, .inr (5, [.ref zr, .ref zs, .ref zt, .ref zc, .ref zm, .ref zk, .ref zh, .ref zd, .ref zf, .int (nI (ml)), .ref zp, .int (nI (mps)), .ref za, .ref ze, .int ((nI (0))), .ref zn, .ref zb, .ref zv, .ref zw, .ref zo, .ref zq, .long (lN 0), .int (qx), .int (gx), .ref zl, .int (nI (hg)), .int (nI (cz)), .ref zi])), (zs, .inl (cy 0, 8, .inl (ms))), (zr, .inl (cy 0, 1600, .inl (mr))), (zi, .inl (cy 2, 20, .inl (ix))), (zp, .inl (cy 0, 2000, .inl (mp))), (ze, .inl (cy 0, 8, .inl (stA))), (zn, .inl (cy 0, 8, .inl (stA))), (zb, .inl (cy 0, 16, .inl ((if wyF c0 (chks n) (d - 1) < c0 then jn (fun k => wrd mp ((cln n c0 + 32 * (d - 1)) + 4 * k)) (mixV cx bx nx qx gx) else jn (mixV cx bx nx qx gx) (fun k => wrd mp ((cln n c0 + 32 * (d - 1)) + 4 * k)))))), (zv, .inl (cy 0, 16, .inl (mixV cx bx nx qx gx))), (zw, .inl (cy 0, 16, .inl (ww2_193))), (zo, .inl (cy 0, 16, .inl (oo2_193))), (zq, .inl (cy 0, 16, .inl (fun k => nI (orN k)))), (za, .inl (cy 0, 8, .inl (stA)))] H locs := ⟨hP, hD, hS⟩
                                    refine lv_aload_n hx hb dX5_check_334 rfl (lv_at hl 0 rfl) ?_
                                    refine lv_bipush (v := nI (64)) hx hb dX5_check_335 (by decide) ?_
                                    refine va_put (D := D) (ci := 5) (v := .int (nI (64))) (ty := .int) (C := RX5) (T := TX5) (N := 28) hx hb hts i_X5_check_X5 tyX5 tyX5_ok nmX5 hown hK hW.1 hW.2.1 hW.2.2 0 rfl rfl 22 (by decide) (hts (.fieldLink RX5 92 "TreeHashesModel" "blockLength" "I") f_X5_check_9) (fun _ h9 => h9) rfl (by decide +kernel) rfl rfl (Nat.le_of_ble_eq_true rfl) dX5_check_337 (fun H locs hP hD hS => ?_)
                                    have hW : Wd D A s [(z0, .inr (5, [.ref zr, .ref zs, .ref zt, .ref zc, .ref zm, .ref zk, .ref zh, .ref zd, .ref zf, .int (nI (ml)), .ref zp, .int (nI (mps)), .ref za, .ref ze, .int ((nI (0))), .ref zn, .ref zb, .ref zv, .ref zw, .ref zo, .ref zq, .long (lN 0), .int (nI (64)), .int (gx), .ref zl, .int (nI (hg)), .int (nI (cz)), .ref zi])), (zs, .inl (cy 0, 8, .inl (ms))), (zr, .inl (cy 0, 1600, .inl (mr))), (zi, .inl (cy 2, 20, .inl (ix))), (zp, .inl (cy 0, 2000, .inl (mp))), (ze, .inl (cy 0, 8, .inl (stA))), (zn, .inl (cy 0, 8, .inl (stA))), (zb, .inl (cy 0, 16, .inl ((if wyF c0 (chks n) (d - 1) < c0 then jn (fun k => wrd mp ((cln n c0 + 32 * (d - 1)) + 4 * k)) (mixV cx bx nx qx gx) else jn (mixV cx bx nx qx gx) (fun k => wrd mp ((cln n c0 + 32 * (d - 1)) + 4 * k)))))), (zv, .inl (cy 0, 16, .inl (mixV cx bx nx qx gx))), (zw, .inl (cy 0, 16, .inl (ww2_193))), (zo, .inl (cy 0, 16, .inl (oo2_193))), (zq, .inl (cy 0, 16, .inl (fun k => nI (orN k)))), (za, .inl (cy 0, 8, .inl (stA)))] H locs := ⟨hP, hD, hS⟩
                                    refine lv_aload_n hx hb dX5_check_340 rfl (lv_at hl 0 rfl) ?_
                                    refine lv_aload_n hx hb dX5_check_341 rfl (lv_at hl 0 rfl) ?_
                                    refine va_get (D := D) (ci := 5) (v := .int ((nI (0)))) (C := RX5) (T := TX5) (N := 28) hx hb hts i_X5_check_X5 hown hK hW.1 0 rfl rfl 14 (by decide) (hts (.fieldLink RX5 114 "TreeHashesModel" "base" "I") f_X5_check_10) (fun _ h9 => h9) rfl dX5_check_342 ?_
                                    refine lv_iconst (v := nI (4)) hx hb dX5_check_345 (by decide) ?_
                                    refine lv_iadd hx hb dX5_check_346 ?_
                                    refine va_put (D := D) (ci := 5) (v := .int ((nI (0)) + (nI (4)))) (ty := .int) (C := RX5) (T := TX5) (N := 28) hx hb hts i_X5_check_X5 tyX5 tyX5_ok nmX5 hown hK hW.1 hW.2.1 hW.2.2 0 rfl rfl 23 (by decide) (hts (.fieldLink RX5 104 "TreeHashesModel" "flags" "I") f_X5_check_5) (fun _ h9 => h9) rfl (by decide +kernel) rfl rfl (Nat.le_of_ble_eq_true rfl) dX5_check_347 (fun H locs hP hD hS => ?_)
                                    have hW : Wd D A s [(z0, .inr (5, [.ref zr, .ref zs, .ref zt, .ref zc, .ref zm, .ref zk, .ref zh, .ref zd, .ref zf, .int (nI (ml)), .ref zp, .int (nI (mps)), .ref za, .ref ze, .int ((nI (0))), .ref zn, .ref zb, .ref zv, .ref zw, .ref zo, .ref zq, .long (lN 0), .int (nI (64)), .int ((nI (0)) + (nI (4))), .ref zl, .int (nI (hg)), .int (nI (cz)), .ref zi])), (zs, .inl (cy 0, 8, .inl (ms))), (zr, .inl (cy 0, 1600, .inl (mr))), (zi, .inl (cy 2, 20, .inl (ix))), (zp, .inl (cy 0, 2000, .inl (mp))), (ze, .inl (cy 0, 8, .inl (stA))), (zn, .inl (cy 0, 8, .inl (stA))), (zb, .inl (cy 0, 16, .inl ((if wyF c0 (chks n) (d - 1) < c0 then jn (fun k => wrd mp ((cln n c0 + 32 * (d - 1)) + 4 * k)) (mixV cx bx nx qx gx) else jn (mixV cx bx nx qx gx) (fun k => wrd mp ((cln n c0 + 32 * (d - 1)) + 4 * k)))))), (zv, .inl (cy 0, 16, .inl (mixV cx bx nx qx gx))), (zw, .inl (cy 0, 16, .inl (ww2_193))), (zo, .inl (cy 0, 16, .inl (oo2_193))), (zq, .inl (cy 0, 16, .inl (fun k => nI (orN k)))), (za, .inl (cy 0, 8, .inl (stA)))] H locs := ⟨hP, hD, hS⟩
                                    refine lv_iinc (v := (nI (d - 1)) - (nI (1))) (lv' := [(8, .int ((nI (d - 1)) - (nI (1)))), (0, .ref z0), (1, .int (nI (ri))), (2, .int (nI (n))), (3, .int (nI (c0))), (4, .int (nI (i))), (7, .int (nI (cln n c0))), (10, .int (nI (j)))]) hx hb dX5_check_350 hl (k := 6) rfl (dec1 _) (by decide) rfl (fun ls hl => ?_)
                                    refine lv_goto (tgt := 187) hx hb dX5_check_353 (by decide) ?_
                                    exact ih187 (d - 1) stA (if wyF c0 (chks n) (d - 1) < c0 then jn (fun k => wrd mp ((cln n c0 + 32 * (d - 1)) + 4 * k)) (mixV cx bx nx qx gx) else jn (mixV cx bx nx qx gx) (fun k => wrd mp ((cln n c0 + 32 * (d - 1)) + 4 * k))) (mixV cx bx nx qx gx) ww2_193 oo2_193 (lN 0) (nI (64)) ((nI (0)) + (nI (4))) (by omega) (by omega) (by rw [← hR, clb_s hd1]; rfl) _ _ hW _ (lv_sub hl [1, 2, 3, 4, 5, 6, 0] rfl)
                                  · skip
                                    refine lv_aload_n hx hb dX5_check_309 rfl (lv_at hl 0 rfl) ?_
                                    refine va_get (D := D) (ci := 5) (v := .ref zn) (C := RX5) (T := TX5) (N := 28) hx hb hts i_X5_check_X5 hown hK hW.1 0 rfl rfl 15 (by decide) (hts (.fieldLink RX5 47 "TreeHashesModel" "chain" "[I") f_X5_check_11) (fun _ h9 => h9) rfl dX5_check_310 ?_
                                    refine lv_iload hx hb dX5_check_313 (lv_at hl 7 rfl) ?_
                                    refine lv_aload_n hx hb dX5_check_315 rfl (lv_at hl 0 rfl) ?_
                                    refine va_get (D := D) (ci := 5) (v := .ref ze) (C := RX5) (T := TX5) (N := 28) hx hb hts i_X5_check_X5 hown hK hW.1 0 rfl rfl 13 (by decide) (hts (.fieldLink RX5 44 "TreeHashesModel" "key" "[I") f_X5_check_12) (fun _ h9 => h9) rfl dX5_check_316 ?_
                                    refine lv_iload hx hb dX5_check_319 (lv_at hl 7 rfl) ?_
                                    refine rI hx hb hK hW 5 rfl (k := j) (by omega) (by omega) dX5_check_321 ?_
                                    refine wI hx hb hK hW 6 rfl (k := j) (by omega) (by omega) dX5_check_322 (fun H locs hW => ?_)
                                    have hW : Wd D A s [(z0, .inr (5, [.ref zr, .ref zs, .ref zt, .ref zc, .ref zm, .ref zk, .ref zh, .ref zd, .ref zf, .int (nI (ml)), .ref zp, .int (nI (mps)), .ref za, .ref ze, .int ((nI (0))), .ref zn, .ref zb, .ref zv, .ref zw, .ref zo, .ref zq, .long (nx), .int (qx), .int (gx), .ref zl, .int (nI (hg)), .int (nI (cz)), .ref zi])), (zs, .inl (cy 0, 8, .inl (ms))), (zr, .inl (cy 0, 1600, .inl (mr))), (zi, .inl (cy 2, 20, .inl (ix))), (zp, .inl (cy 0, 2000, .inl (mp))), (ze, .inl (cy 0, 8, .inl (stA))), (zn, .inl (cy 0, 8, .inl (upd (apG (mixV cx bx nx qx gx) 0 stA j) j (stA j)))), (zb, .inl (cy 0, 16, .inl ((if wyF c0 (chks n) (d - 1) < c0 then jn (fun k => wrd mp ((cln n c0 + 32 * (d - 1)) + 4 * k)) (mixV cx bx nx qx gx) else jn (mixV cx bx nx qx gx) (fun k => wrd mp ((cln n c0 + 32 * (d - 1)) + 4 * k)))))), (zv, .inl (cy 0, 16, .inl (mixV cx bx nx qx gx))), (zw, .inl (cy 0, 16, .inl (ww2_193))), (zo, .inl (cy 0, 16, .inl (oo2_193))), (zq, .inl (cy 0, 16, .inl (fun k => nI (orN k)))), (za, .inl (cy 0, 8, .inl (stA)))] H locs := hW
                                    rw [show (upd (apG (mixV cx bx nx qx gx) 0 stA j) j (stA j)) = (apG (mixV cx bx nx qx gx) 0 stA (j + 1)) from by rw [← apG_s (mixV cx bx nx qx gx) 0 stA j, Nat.zero_add]] at hW
                                    have hW : Wd D A s [(z0, .inr (5, [.ref zr, .ref zs, .ref zt, .ref zc, .ref zm, .ref zk, .ref zh, .ref zd, .ref zf, .int (nI (ml)), .ref zp, .int (nI (mps)), .ref za, .ref ze, .int ((nI (0))), .ref zn, .ref zb, .ref zv, .ref zw, .ref zo, .ref zq, .long (nx), .int (qx), .int (gx), .ref zl, .int (nI (hg)), .int (nI (cz)), .ref zi])), (zs, .inl (cy 0, 8, .inl (ms))), (zr, .inl (cy 0, 1600, .inl (mr))), (zi, .inl (cy 2, 20, .inl (ix))), (zp, .inl (cy 0, 2000, .inl (mp))), (ze, .inl (cy 0, 8, .inl (stA))), (zn, .inl (cy 0, 8, .inl (apG (mixV cx bx nx qx gx) 0 stA (j + 1)))), (zb, .inl (cy 0, 16, .inl ((if wyF c0 (chks n) (d - 1) < c0 then jn (fun k => wrd mp ((cln n c0 + 32 * (d - 1)) + 4 * k)) (mixV cx bx nx qx gx) else jn (mixV cx bx nx qx gx) (fun k => wrd mp ((cln n c0 + 32 * (d - 1)) + 4 * k)))))), (zv, .inl (cy 0, 16, .inl (mixV cx bx nx qx gx))), (zw, .inl (cy 0, 16, .inl (ww2_193))), (zo, .inl (cy 0, 16, .inl (oo2_193))), (zq, .inl (cy 0, 16, .inl (fun k => nI (orN k)))), (za, .inl (cy 0, 8, .inl (stA)))] H locs := hW
                                    refine lv_iinc (v := nI (j + 1)) (lv' := [(10, .int (nI (j + 1))), (0, .ref z0), (1, .int (nI (ri))), (2, .int (nI (n))), (3, .int (nI (c0))), (4, .int (nI (i))), (7, .int (nI (cln n c0))), (8, .int (nI (d - 1)))]) hx hb dX5_check_323 hl (k := 7) rfl (nI_1 _) (by decide) rfl (fun ls hl => ?_)
                                    refine lv_goto (tgt := 302) hx hb dX5_check_326 (by decide) ?_
                                    exact ih302 (j + 1) (by omega) (by omega) _ _ hW _ (lv_sub hl [1, 2, 3, 4, 5, 6, 7, 0] rfl)
                              rw [← apG_0 (mixV cx bx nx qx gx) 0 stA] at hW
                              exact loop302 _ 0 (Nat.lt_succ_self _) (by omega) _ _ hW _ (lv_sub hl [1, 2, 3, 4, 5, 6, 7, 0] rfl)
                            · skip
                              refine lv_aload_n hx hb dX5_check_216 rfl (lv_at hl 0 rfl) ?_
                              refine va_get (D := D) (ci := 5) (v := .ref zp) (C := RX5) (T := TX5) (N := 28) hx hb hts i_X5_check_X5 hown hK hW.1 0 rfl rfl 10 (by decide) (hts (.fieldLink RX5 38 "TreeHashesModel" "proof" "[I") f_X5_check_4) (fun _ h9 => h9) rfl dX5_check_217 ?_
                              refine lv_iload hx hb dX5_check_220 (lv_at hl 7 rfl) ?_
                              refine lv_iconst (v := nI (4)) hx hb dX5_check_222 (by decide) ?_
                              refine lv_iload hx hb dX5_check_223 (lv_at hl 8 rfl) ?_
                              refine lv_imul hx hb dX5_check_225 ?_
                              refine tI (pk_mul _ _) ?_
                              refine lv_iadd hx hb dX5_check_226 ?_
                              refine tI (nI_add _ _) ?_
                              refine kSi (As := [.ref zp, .int (nI ((cln n c0 + 32 * (d - 1)) + (4 * k)))]) (rest := []) S0 hK hst hA hW [4] (fun sz => c_X5_wordAt l D cy t zp 2000 mp ((cln n c0 + 32 * (d - 1)) + (4 * k)) (by omega) (by omega) sz) rfl (by decide) (va_cwS 2 hts gX5_check_X5_wordAt rfl rfl rfl (by decide +kernel) ⟨Nat.le_of_ble_eq_true rfl, Nat.le_of_ble_eq_true rfl⟩) (fun _ => rfl) rfl hl.1 rfl (Nat.le_of_ble_eq_true rfl) dX5_check_227 ⟨Nat.le_of_ble_eq_true rfl, Nat.le_of_ble_eq_true rfl⟩ (fun r227 u227 H locs p227 hW => ?_)
                              have hW : Wd D A s [(z0, .inr (5, [.ref zr, .ref zs, .ref zt, .ref zc, .ref zm, .ref zk, .ref zh, .ref zd, .ref zf, .int (nI (ml)), .ref zp, .int (nI (mps)), .ref za, .ref ze, .int ((nI (0))), .ref zn, .ref zb, .ref zv, .ref zw, .ref zo, .ref zq, .long (nx), .int (qx), .int (gx), .ref zl, .int (nI (hg)), .int (nI (cz)), .ref zi])), (zs, .inl (cy 0, 8, .inl (ms))), (zr, .inl (cy 0, 1600, .inl (mr))), (zi, .inl (cy 2, 20, .inl (ix))), (zp, .inl (cy 0, 2000, .inl (mp))), (ze, .inl (cy 0, 8, .inl (stA))), (zn, .inl (cy 0, 8, .inl (mixV cx bx nx qx gx))), (zb, .inl (cy 0, 16, .inl (jnI bx (fun k => if wyF c0 (chks n) (d - 1) < c0 then (fun k => wrd mp ((cln n c0 + 32 * (d - 1)) + 4 * k)) k else (mixV cx bx nx qx gx) k) (fun k => if wyF c0 (chks n) (d - 1) < c0 then (mixV cx bx nx qx gx) k else (fun k => wrd mp ((cln n c0 + 32 * (d - 1)) + 4 * k)) k) k))), (zv, .inl (cy 0, 16, .inl (mixV cx bx nx qx gx))), (zw, .inl (cy 0, 16, .inl (ww2_193))), (zo, .inl (cy 0, 16, .inl (oo2_193))), (zq, .inl (cy 0, 16, .inl (fun k => nI (orN k)))), (za, .inl (cy 0, 8, .inl (stA)))] H locs := hW
                              have q227 : r227 = wrd mp ((cln n c0 + 32 * (d - 1)) + (4 * k)) := p227
                              subst q227
                              refine lv_istore (lv' := [(11, .int (wrd mp ((cln n c0 + 32 * (d - 1)) + (4 * k)))), (0, .ref z0), (1, .int (nI (ri))), (2, .int (nI (n))), (3, .int (nI (c0))), (4, .int (nI (i))), (7, .int (nI (cln n c0))), (8, .int (nI (d - 1))), (9, .int (nI (cln n c0 + 32 * (d - 1)))), (10, .int (nI (k)))]) hx hb dX5_check_230 hl (by decide) rfl (fun ls hl => ?_)
                              refine lv_aload_n hx hb dX5_check_232 rfl (lv_at hl 1 rfl) ?_
                              refine va_get (D := D) (ci := 5) (v := .ref zb) (C := RX5) (T := TX5) (N := 28) hx hb hts i_X5_check_X5 hown hK hW.1 0 rfl rfl 16 (by decide) (hts (.fieldLink RX5 50 "TreeHashesModel" "block" "[I") f_X5_check_13) (fun _ h9 => h9) rfl dX5_check_233 ?_
                              refine lv_iload hx hb dX5_check_236 (lv_at hl 9 rfl) ?_
                              refine lv_aload_n hx hb dX5_check_238 rfl (lv_at hl 1 rfl) ?_
                              refine va_get (D := D) (ci := 5) (v := .ref zi) (C := RX5) (T := TX5) (N := 28) hx hb hts i_X5_check_X5 hown hK hW.1 0 rfl rfl 27 (by decide) (hts (.fieldLink RX5 68 "TreeHashesModel" "isLeft" "[Z") f_X5_check_14) (fun _ h9 => h9) rfl dX5_check_239 ?_
                              refine lv_iload hx hb dX5_check_242 (lv_at hl 7 rfl) ?_
                              refine rZ hx hb hK hW 3 rfl (k := d - 1) (by omega) (by omega) dX5_check_244 ?_
                              have hlf := lf01_le c0 (chks n) (d - 1)
                              refine tI (x' := nI (lf01 c0 (chks n) (d - 1))) (hix (d - 1) (by omega)) ?_
                              have jn260 : ∀ (H : Heap) (locs : List Loc), Wd D A s [(z0, .inr (5, [.ref zr, .ref zs, .ref zt, .ref zc, .ref zm, .ref zk, .ref zh, .ref zd, .ref zf, .int (nI (ml)), .ref zp, .int (nI (mps)), .ref za, .ref ze, .int ((nI (0))), .ref zn, .ref zb, .ref zv, .ref zw, .ref zo, .ref zq, .long (nx), .int (qx), .int (gx), .ref zl, .int (nI (hg)), .int (nI (cz)), .ref zi])), (zs, .inl (cy 0, 8, .inl (ms))), (zr, .inl (cy 0, 1600, .inl (mr))), (zi, .inl (cy 2, 20, .inl (ix))), (zp, .inl (cy 0, 2000, .inl (mp))), (ze, .inl (cy 0, 8, .inl (stA))), (zn, .inl (cy 0, 8, .inl (mixV cx bx nx qx gx))), (zb, .inl (cy 0, 16, .inl (jnI bx (fun k => if wyF c0 (chks n) (d - 1) < c0 then (fun k => wrd mp ((cln n c0 + 32 * (d - 1)) + 4 * k)) k else (mixV cx bx nx qx gx) k) (fun k => if wyF c0 (chks n) (d - 1) < c0 then (mixV cx bx nx qx gx) k else (fun k => wrd mp ((cln n c0 + 32 * (d - 1)) + 4 * k)) k) k))), (zv, .inl (cy 0, 16, .inl (mixV cx bx nx qx gx))), (zw, .inl (cy 0, 16, .inl (ww2_193))), (zo, .inl (cy 0, 16, .inl (oo2_193))), (zq, .inl (cy 0, 16, .inl (fun k => nI (orN k)))), (za, .inl (cy 0, 8, .inl (stA)))] H locs → ∀ ls : Array Slot, lv_has ls 12 [(11, .int (wrd mp ((cln n c0 + 32 * (d - 1)) + (4 * k)))), (0, .ref z0), (1, .int (nI (ri))), (2, .int (nI (n))), (3, .int (nI (c0))), (4, .int (nI (i))), (7, .int (nI (cln n c0))), (8, .int (nI (d - 1))), (9, .int (nI (cln n c0 + 32 * (d - 1)))), (10, .int (nI (k)))] → W p l e ({ frames := 5, cells := 0, slots := 0, locals := 120 }) s m args below meth c H locs 0 0 Q (F0 m 260 ls [.int ((fun k => if wyF c0 (chks n) (d - 1) < c0 then (fun k => wrd mp ((cln n c0 + 32 * (d - 1)) + 4 * k)) k else (mixV cx bx nx qx gx) k) k), .int (nI (k)), .ref zb]) := by
                                intro H locs hW ls hl
                                refine wI hx hb hK hW 7 rfl (k := k) (by omega) (by omega) dX5_check_260 (fun H locs hW => ?_)
                                have hW : Wd D A s [(z0, .inr (5, [.ref zr, .ref zs, .ref zt, .ref zc, .ref zm, .ref zk, .ref zh, .ref zd, .ref zf, .int (nI (ml)), .ref zp, .int (nI (mps)), .ref za, .ref ze, .int ((nI (0))), .ref zn, .ref zb, .ref zv, .ref zw, .ref zo, .ref zq, .long (nx), .int (qx), .int (gx), .ref zl, .int (nI (hg)), .int (nI (cz)), .ref zi])), (zs, .inl (cy 0, 8, .inl (ms))), (zr, .inl (cy 0, 1600, .inl (mr))), (zi, .inl (cy 2, 20, .inl (ix))), (zp, .inl (cy 0, 2000, .inl (mp))), (ze, .inl (cy 0, 8, .inl (stA))), (zn, .inl (cy 0, 8, .inl (mixV cx bx nx qx gx))), (zb, .inl (cy 0, 16, .inl (upd (jnI bx (fun k => if wyF c0 (chks n) (d - 1) < c0 then (fun k => wrd mp ((cln n c0 + 32 * (d - 1)) + 4 * k)) k else (mixV cx bx nx qx gx) k) (fun k => if wyF c0 (chks n) (d - 1) < c0 then (mixV cx bx nx qx gx) k else (fun k => wrd mp ((cln n c0 + 32 * (d - 1)) + 4 * k)) k) k) k ((fun k => if wyF c0 (chks n) (d - 1) < c0 then (fun k => wrd mp ((cln n c0 + 32 * (d - 1)) + 4 * k)) k else (mixV cx bx nx qx gx) k) k)))), (zv, .inl (cy 0, 16, .inl (mixV cx bx nx qx gx))), (zw, .inl (cy 0, 16, .inl (ww2_193))), (zo, .inl (cy 0, 16, .inl (oo2_193))), (zq, .inl (cy 0, 16, .inl (fun k => nI (orN k)))), (za, .inl (cy 0, 8, .inl (stA)))] H locs := hW
                                refine lv_aload_n hx hb dX5_check_261 rfl (lv_at hl 1 rfl) ?_
                                refine va_get (D := D) (ci := 5) (v := .ref zb) (C := RX5) (T := TX5) (N := 28) hx hb hts i_X5_check_X5 hown hK hW.1 0 rfl rfl 16 (by decide) (hts (.fieldLink RX5 50 "TreeHashesModel" "block" "[I") f_X5_check_13) (fun _ h9 => h9) rfl dX5_check_262 ?_
                                refine lv_bipush (v := nI (8)) hx hb dX5_check_265 (by decide) ?_
                                refine lv_iload hx hb dX5_check_267 (lv_at hl 9 rfl) ?_
                                refine lv_iadd hx hb dX5_check_269 ?_
                                refine tI (nI_add _ _) ?_
                                refine lv_aload_n hx hb dX5_check_270 rfl (lv_at hl 1 rfl) ?_
                                refine va_get (D := D) (ci := 5) (v := .ref zi) (C := RX5) (T := TX5) (N := 28) hx hb hts i_X5_check_X5 hown hK hW.1 0 rfl rfl 27 (by decide) (hts (.fieldLink RX5 68 "TreeHashesModel" "isLeft" "[Z") f_X5_check_14) (fun _ h9 => h9) rfl dX5_check_271 ?_
                                refine lv_iload hx hb dX5_check_274 (lv_at hl 7 rfl) ?_
                                refine rZ hx hb hK hW 3 rfl (k := d - 1) (by omega) (by omega) dX5_check_276 ?_
                                have hlf := lf01_le c0 (chks n) (d - 1)
                                refine tI (x' := nI (lf01 c0 (chks n) (d - 1))) (hix (d - 1) (by omega)) ?_
                                have jn292 : ∀ (H : Heap) (locs : List Loc), Wd D A s [(z0, .inr (5, [.ref zr, .ref zs, .ref zt, .ref zc, .ref zm, .ref zk, .ref zh, .ref zd, .ref zf, .int (nI (ml)), .ref zp, .int (nI (mps)), .ref za, .ref ze, .int ((nI (0))), .ref zn, .ref zb, .ref zv, .ref zw, .ref zo, .ref zq, .long (nx), .int (qx), .int (gx), .ref zl, .int (nI (hg)), .int (nI (cz)), .ref zi])), (zs, .inl (cy 0, 8, .inl (ms))), (zr, .inl (cy 0, 1600, .inl (mr))), (zi, .inl (cy 2, 20, .inl (ix))), (zp, .inl (cy 0, 2000, .inl (mp))), (ze, .inl (cy 0, 8, .inl (stA))), (zn, .inl (cy 0, 8, .inl (mixV cx bx nx qx gx))), (zb, .inl (cy 0, 16, .inl (upd (jnI bx (fun k => if wyF c0 (chks n) (d - 1) < c0 then (fun k => wrd mp ((cln n c0 + 32 * (d - 1)) + 4 * k)) k else (mixV cx bx nx qx gx) k) (fun k => if wyF c0 (chks n) (d - 1) < c0 then (mixV cx bx nx qx gx) k else (fun k => wrd mp ((cln n c0 + 32 * (d - 1)) + 4 * k)) k) k) k ((fun k => if wyF c0 (chks n) (d - 1) < c0 then (fun k => wrd mp ((cln n c0 + 32 * (d - 1)) + 4 * k)) k else (mixV cx bx nx qx gx) k) k)))), (zv, .inl (cy 0, 16, .inl (mixV cx bx nx qx gx))), (zw, .inl (cy 0, 16, .inl (ww2_193))), (zo, .inl (cy 0, 16, .inl (oo2_193))), (zq, .inl (cy 0, 16, .inl (fun k => nI (orN k)))), (za, .inl (cy 0, 8, .inl (stA)))] H locs → ∀ ls : Array Slot, lv_has ls 12 [(11, .int (wrd mp ((cln n c0 + 32 * (d - 1)) + (4 * k)))), (0, .ref z0), (1, .int (nI (ri))), (2, .int (nI (n))), (3, .int (nI (c0))), (4, .int (nI (i))), (7, .int (nI (cln n c0))), (8, .int (nI (d - 1))), (9, .int (nI (cln n c0 + 32 * (d - 1)))), (10, .int (nI (k)))] → W p l e ({ frames := 5, cells := 0, slots := 0, locals := 120 }) s m args below meth c H locs 0 0 Q (F0 m 292 ls [.int ((fun k => if wyF c0 (chks n) (d - 1) < c0 then (mixV cx bx nx qx gx) k else (fun k => wrd mp ((cln n c0 + 32 * (d - 1)) + 4 * k)) k) k), .int (nI (8 + k)), .ref zb]) := by
                                  intro H locs hW ls hl
                                  refine wI hx hb hK hW 7 rfl (k := 8 + k) (by omega) (by omega) dX5_check_292 (fun H locs hW => ?_)
                                  have hW : Wd D A s [(z0, .inr (5, [.ref zr, .ref zs, .ref zt, .ref zc, .ref zm, .ref zk, .ref zh, .ref zd, .ref zf, .int (nI (ml)), .ref zp, .int (nI (mps)), .ref za, .ref ze, .int ((nI (0))), .ref zn, .ref zb, .ref zv, .ref zw, .ref zo, .ref zq, .long (nx), .int (qx), .int (gx), .ref zl, .int (nI (hg)), .int (nI (cz)), .ref zi])), (zs, .inl (cy 0, 8, .inl (ms))), (zr, .inl (cy 0, 1600, .inl (mr))), (zi, .inl (cy 2, 20, .inl (ix))), (zp, .inl (cy 0, 2000, .inl (mp))), (ze, .inl (cy 0, 8, .inl (stA))), (zn, .inl (cy 0, 8, .inl (mixV cx bx nx qx gx))), (zb, .inl (cy 0, 16, .inl (upd (upd (jnI bx (fun k => if wyF c0 (chks n) (d - 1) < c0 then (fun k => wrd mp ((cln n c0 + 32 * (d - 1)) + 4 * k)) k else (mixV cx bx nx qx gx) k) (fun k => if wyF c0 (chks n) (d - 1) < c0 then (mixV cx bx nx qx gx) k else (fun k => wrd mp ((cln n c0 + 32 * (d - 1)) + 4 * k)) k) k) k ((fun k => if wyF c0 (chks n) (d - 1) < c0 then (fun k => wrd mp ((cln n c0 + 32 * (d - 1)) + 4 * k)) k else (mixV cx bx nx qx gx) k) k)) (8 + k) ((fun k => if wyF c0 (chks n) (d - 1) < c0 then (mixV cx bx nx qx gx) k else (fun k => wrd mp ((cln n c0 + 32 * (d - 1)) + 4 * k)) k) k)))), (zv, .inl (cy 0, 16, .inl (mixV cx bx nx qx gx))), (zw, .inl (cy 0, 16, .inl (ww2_193))), (zo, .inl (cy 0, 16, .inl (oo2_193))), (zq, .inl (cy 0, 16, .inl (fun k => nI (orN k)))), (za, .inl (cy 0, 8, .inl (stA)))] H locs := hW
                                  rw [show (upd (upd (jnI bx (fun k => if wyF c0 (chks n) (d - 1) < c0 then (fun k => wrd mp ((cln n c0 + 32 * (d - 1)) + 4 * k)) k else (mixV cx bx nx qx gx) k) (fun k => if wyF c0 (chks n) (d - 1) < c0 then (mixV cx bx nx qx gx) k else (fun k => wrd mp ((cln n c0 + 32 * (d - 1)) + 4 * k)) k) k) k ((fun k => if wyF c0 (chks n) (d - 1) < c0 then (fun k => wrd mp ((cln n c0 + 32 * (d - 1)) + 4 * k)) k else (mixV cx bx nx qx gx) k) k)) (8 + k) ((fun k => if wyF c0 (chks n) (d - 1) < c0 then (mixV cx bx nx qx gx) k else (fun k => wrd mp ((cln n c0 + 32 * (d - 1)) + 4 * k)) k) k)) = (jnI bx (fun k => if wyF c0 (chks n) (d - 1) < c0 then (fun k => wrd mp ((cln n c0 + 32 * (d - 1)) + 4 * k)) k else (mixV cx bx nx qx gx) k) (fun k => if wyF c0 (chks n) (d - 1) < c0 then (mixV cx bx nx qx gx) k else (fun k => wrd mp ((cln n c0 + 32 * (d - 1)) + 4 * k)) k) (k + 1)) from jnI_s bx (fun k => if wyF c0 (chks n) (d - 1) < c0 then (fun k => wrd mp ((cln n c0 + 32 * (d - 1)) + 4 * k)) k else (mixV cx bx nx qx gx) k) (fun k => if wyF c0 (chks n) (d - 1) < c0 then (mixV cx bx nx qx gx) k else (fun k => wrd mp ((cln n c0 + 32 * (d - 1)) + 4 * k)) k) (by omega)] at hW
                                  have hW : Wd D A s [(z0, .inr (5, [.ref zr, .ref zs, .ref zt, .ref zc, .ref zm, .ref zk, .ref zh, .ref zd, .ref zf, .int (nI (ml)), .ref zp, .int (nI (mps)), .ref za, .ref ze, .int ((nI (0))), .ref zn, .ref zb, .ref zv, .ref zw, .ref zo, .ref zq, .long (nx), .int (qx), .int (gx), .ref zl, .int (nI (hg)), .int (nI (cz)), .ref zi])), (zs, .inl (cy 0, 8, .inl (ms))), (zr, .inl (cy 0, 1600, .inl (mr))), (zi, .inl (cy 2, 20, .inl (ix))), (zp, .inl (cy 0, 2000, .inl (mp))), (ze, .inl (cy 0, 8, .inl (stA))), (zn, .inl (cy 0, 8, .inl (mixV cx bx nx qx gx))), (zb, .inl (cy 0, 16, .inl (jnI bx (fun k => if wyF c0 (chks n) (d - 1) < c0 then (fun k => wrd mp ((cln n c0 + 32 * (d - 1)) + 4 * k)) k else (mixV cx bx nx qx gx) k) (fun k => if wyF c0 (chks n) (d - 1) < c0 then (mixV cx bx nx qx gx) k else (fun k => wrd mp ((cln n c0 + 32 * (d - 1)) + 4 * k)) k) (k + 1)))), (zv, .inl (cy 0, 16, .inl (mixV cx bx nx qx gx))), (zw, .inl (cy 0, 16, .inl (ww2_193))), (zo, .inl (cy 0, 16, .inl (oo2_193))), (zq, .inl (cy 0, 16, .inl (fun k => nI (orN k)))), (za, .inl (cy 0, 8, .inl (stA)))] H locs := hW
                                  refine lv_iinc (v := nI (k + 1)) (lv' := [(10, .int (nI (k + 1))), (11, .int (wrd mp ((cln n c0 + 32 * (d - 1)) + (4 * k)))), (0, .ref z0), (1, .int (nI (ri))), (2, .int (nI (n))), (3, .int (nI (c0))), (4, .int (nI (i))), (7, .int (nI (cln n c0))), (8, .int (nI (d - 1))), (9, .int (nI (cln n c0 + 32 * (d - 1))))]) hx hb dX5_check_293 hl (k := 9) rfl (nI_1 _) (by decide) rfl (fun ls hl => ?_)
                                  refine lv_goto (tgt := 209) hx hb dX5_check_296 (by decide) ?_
                                  exact ih209 (k + 1) (by omega) (by omega) _ _ hW _ (lv_sub hl [2, 3, 4, 5, 6, 7, 8, 9, 0] rfl)
                                refine zEq (a := lf01 c0 (chks n) (d - 1)) (tgt := 285) hx hb dX5_check_277 (by decide) (by omega) (fun h277 => ?_) (fun h277 => ?_)
                                · skip
                                  refine lv_aload_n hx hb dX5_check_285 rfl (lv_at hl 1 rfl) ?_
                                  refine va_get (D := D) (ci := 5) (v := .ref zn) (C := RX5) (T := TX5) (N := 28) hx hb hts i_X5_check_X5 hown hK hW.1 0 rfl rfl 15 (by decide) (hts (.fieldLink RX5 47 "TreeHashesModel" "chain" "[I") f_X5_check_11) (fun _ h9 => h9) rfl dX5_check_286 ?_
                                  refine lv_iload hx hb dX5_check_289 (lv_at hl 9 rfl) ?_
                                  refine rI hx hb hK hW 6 rfl (k := k) (by omega) (by omega) dX5_check_291 ?_
                                  refine tI (x' := (fun k => if wyF c0 (chks n) (d - 1) < c0 then (mixV cx bx nx qx gx) k else (fun k => wrd mp ((cln n c0 + 32 * (d - 1)) + 4 * k)) k) k) ((if_pos ((lf01_F hc0 hwl (by omega)).mp h277)).symm) ?_
                                  exact jn292 _ _ hW _ hl
                                · skip
                                  refine lv_iload hx hb dX5_check_280 (lv_at hl 0 rfl) ?_
                                  refine tI (x' := (fun k => if wyF c0 (chks n) (d - 1) < c0 then (mixV cx bx nx qx gx) k else (fun k => wrd mp ((cln n c0 + 32 * (d - 1)) + 4 * k)) k) k) ((if_neg (fun z => h277 ((lf01_F hc0 hwl (by omega)).mpr z))).symm) ?_
                                  refine lv_goto (tgt := 292) hx hb dX5_check_282 (by decide) ?_
                                  exact jn292 _ _ hW _ hl
                              refine zEq (a := lf01 c0 (chks n) (d - 1)) (tgt := 258) hx hb dX5_check_245 (by decide) (by omega) (fun h245 => ?_) (fun h245 => ?_)
                              · skip
                                refine lv_iload hx hb dX5_check_258 (lv_at hl 0 rfl) ?_
                                refine tI (x' := (fun k => if wyF c0 (chks n) (d - 1) < c0 then (fun k => wrd mp ((cln n c0 + 32 * (d - 1)) + 4 * k)) k else (mixV cx bx nx qx gx) k) k) ((if_pos ((lf01_F hc0 hwl (by omega)).mp h245)).symm) ?_
                                exact jn260 _ _ hW _ hl
                              · skip
                                refine lv_aload_n hx hb dX5_check_248 rfl (lv_at hl 1 rfl) ?_
                                refine va_get (D := D) (ci := 5) (v := .ref zn) (C := RX5) (T := TX5) (N := 28) hx hb hts i_X5_check_X5 hown hK hW.1 0 rfl rfl 15 (by decide) (hts (.fieldLink RX5 47 "TreeHashesModel" "chain" "[I") f_X5_check_11) (fun _ h9 => h9) rfl dX5_check_249 ?_
                                refine lv_iload hx hb dX5_check_252 (lv_at hl 9 rfl) ?_
                                refine rI hx hb hK hW 6 rfl (k := k) (by omega) (by omega) dX5_check_254 ?_
                                refine tI (x' := (fun k => if wyF c0 (chks n) (d - 1) < c0 then (fun k => wrd mp ((cln n c0 + 32 * (d - 1)) + 4 * k)) k else (mixV cx bx nx qx gx) k) k) ((if_neg (fun z => h245 ((lf01_F hc0 hwl (by omega)).mpr z))).symm) ?_
                                refine lv_goto (tgt := 260) hx hb dX5_check_255 (by decide) ?_
                                exact jn260 _ _ hW _ hl
                        rw [← jnI_0 bx (fun k => if wyF c0 (chks n) (d - 1) < c0 then (fun k => wrd mp ((cln n c0 + 32 * (d - 1)) + 4 * k)) k else (mixV cx bx nx qx gx) k) (fun k => if wyF c0 (chks n) (d - 1) < c0 then (mixV cx bx nx qx gx) k else (fun k => wrd mp ((cln n c0 + 32 * (d - 1)) + 4 * k)) k)] at hW
                        exact loop209 _ 0 (Nat.lt_succ_self _) (by omega) _ _ hW _ (lv_sub hl [2, 3, 4, 5, 6, 7, 8, 1, 0] rfl)
                  exact loop187 _ i ((ndC stA (nI (0)) mp 0 c0 (cln n c0)).1) ((ndC stA (nI (0)) mp 0 c0 (cln n c0)).2.1) vv2_178 ww2_178 oo2_178 ((ndC stA (nI (0)) mp 0 c0 (cln n c0)).2.2.1) ((ndC stA (nI (0)) mp 0 c0 (cln n c0)).2.2.2.1) ((ndC stA (nI (0)) mp 0 c0 (cln n c0)).2.2.2.2) (Nat.lt_succ_self _) (Nat.le_refl _) (by rw [← eL]) _ _ hW _ (lv_sub hl [2, 3, 4, 5, 6, 1, 0] rfl)
                · skip
                  exfalso; omega
              · skip
                have hi9 : i < 10 := by rcases Nat.lt_or_ge i 10 with q | q; (exact q); (rw [show i = 10 from by omega] at hb7; have hb6 : nu0 ≤ 1 := hb7; omega)
                refine lv_iload hx hb dX5_check_61 (lv_at hl 6 rfl) ?_
                refine kSi (As := [.int (nI (nu0))]) (rest := []) S0 hK hst hA hW [] (fun sz => c_X5_leftOf l D cy t nu0 (by omega) sz) rfl (by decide) (va_cwS 1 hts gX5_check_X5_leftOf rfl rfl rfl (by decide +kernel) ⟨Nat.le_of_ble_eq_true rfl, Nat.le_of_ble_eq_true rfl⟩) (fun _ => rfl) rfl hl.1 rfl (Nat.le_of_ble_eq_true rfl) dX5_check_63 ⟨Nat.le_of_ble_eq_true rfl, Nat.le_of_ble_eq_true rfl⟩ (fun r63 u63 H locs p63 hW => ?_)
                have hW : Wd D A s [(z0, .inr (5, [.ref zr, .ref zs, .ref zt, .ref zc, .ref zm, .ref zk, .ref zh, .ref zd, .ref zf, .int (nI (ml)), .ref zp, .int (nI (mps)), .ref za, .ref ze, .int (be), .ref zn, .ref zb, .ref zv, .ref zw, .ref zo, .ref zq, .long (nu), .int (bq), .int (fg), .ref zl, .int (nI (hg)), .int (nI (cz)), .ref zi])), (zs, .inl (cy 0, 8, .inl (ms))), (zr, .inl (cy 0, 1600, .inl (mr))), (zi, .inl (cy 2, 20, .inl (ix))), (zp, .inl (cy 0, 2000, .inl (mp))), (ze, .inl (cy 0, 8, .inl (ke))), (zn, .inl (cy 0, 8, .inl (cn))), (zb, .inl (cy 0, 16, .inl (bb))), (zv, .inl (cy 0, 16, .inl (vv))), (zw, .inl (cy 0, 16, .inl (ww))), (zo, .inl (cy 0, 16, .inl (oo))), (zq, .inl (cy 0, 16, .inl (fun k => nI (orN k)))), (za, .inl (cy 0, 8, .inl (stA)))] H locs := hW
                have q63 : r63 = nI (lft nu0) := p63
                subst q63
                refine lv_istore (lv' := [(7, .int (nI (lft nu0))), (0, .ref z0), (1, .int (nI (ri))), (2, .int (nI (n))), (3, .int (nI (c0))), (4, .int (nI (i))), (5, .int (nI (fi))), (6, .int (nI (nu0)))]) hx hb dX5_check_66 hl (by decide) rfl (fun ls hl => ?_)
                have hb5 := lft_lt h58
                have hb4 := lft_pos nu0
                refine lv_aload_n hx hb dX5_check_68 rfl (lv_at hl 1 rfl) ?_
                refine va_get (D := D) (ci := 5) (v := .ref zi) (C := RX5) (T := TX5) (N := 28) hx hb hts i_X5_check_X5 hown hK hW.1 0 rfl rfl 27 (by decide) (hts (.fieldLink RX5 68 "TreeHashesModel" "isLeft" "[Z") f_X5_check_14) (fun _ h9 => h9) rfl dX5_check_69 ?_
                refine lv_iload hx hb dX5_check_72 (lv_at hl 5 rfl) ?_
                refine lv_iload_n hx hb dX5_check_74 rfl (lv_at hl 4 rfl) ?_
                refine lv_iload hx hb dX5_check_75 (lv_at hl 6 rfl) ?_
                refine lv_iload hx hb dX5_check_77 (lv_at hl 0 rfl) ?_
                refine lv_iadd hx hb dX5_check_79 ?_
                refine tI (nI_add _ _) ?_
                refine iGe (a := c0) (b := fi + (lft nu0)) (tgt := 87) hx hb dX5_check_80 (by decide) (by omega) (by omega) (fun h80 => ?_) (fun h80 => ?_)
                · skip
                  refine lv_iconst (v := nI (0)) hx hb dX5_check_87 (by decide) ?_
                  refine wZ hx hb hK hW 3 rfl (k := i) (by omega) (by omega) (rfl) dX5_check_88 (fun H locs hW => ?_)
                  have hW : Wd D A s [(z0, .inr (5, [.ref zr, .ref zs, .ref zt, .ref zc, .ref zm, .ref zk, .ref zh, .ref zd, .ref zf, .int (nI (ml)), .ref zp, .int (nI (mps)), .ref za, .ref ze, .int (be), .ref zn, .ref zb, .ref zv, .ref zw, .ref zo, .ref zq, .long (nu), .int (bq), .int (fg), .ref zl, .int (nI (hg)), .int (nI (cz)), .ref zi])), (zs, .inl (cy 0, 8, .inl (ms))), (zr, .inl (cy 0, 1600, .inl (mr))), (zi, .inl (cy 2, 20, .inl (upd ix i (nI (0))))), (zp, .inl (cy 0, 2000, .inl (mp))), (ze, .inl (cy 0, 8, .inl (ke))), (zn, .inl (cy 0, 8, .inl (cn))), (zb, .inl (cy 0, 16, .inl (bb))), (zv, .inl (cy 0, 16, .inl (vv))), (zw, .inl (cy 0, 16, .inl (ww))), (zo, .inl (cy 0, 16, .inl (oo))), (zq, .inl (cy 0, 16, .inl (fun k => nI (orN k)))), (za, .inl (cy 0, 8, .inl (stA)))] H locs := hW
                  refine lv_aload_n hx hb dX5_check_89 rfl (lv_at hl 1 rfl) ?_
                  refine va_get (D := D) (ci := 5) (v := .ref zi) (C := RX5) (T := TX5) (N := 28) hx hb hts i_X5_check_X5 hown hK hW.1 0 rfl rfl 27 (by decide) (hts (.fieldLink RX5 68 "TreeHashesModel" "isLeft" "[Z") f_X5_check_14) (fun _ h9 => h9) rfl dX5_check_90 ?_
                  refine lv_iload hx hb dX5_check_93 (lv_at hl 5 rfl) ?_
                  refine rZ hx hb hK hW 3 rfl (k := i) (by omega) (by omega) dX5_check_95 ?_
                  refine tI (x' := nI (0)) (pk_us) ?_
                  refine zEq (a := 0) (tgt := 104) hx hb dX5_check_96 (by decide) (by omega) (fun h96 => ?_) (fun h96 => ?_)
                  · skip
                    refine lv_iload hx hb dX5_check_104 (lv_at hl 6 rfl) ?_
                    refine lv_iload hx hb dX5_check_106 (lv_at hl 0 rfl) ?_
                    refine lv_iadd hx hb dX5_check_108 ?_
                    refine tI (nI_add _ _) ?_
                    refine lv_istore (lv' := [(5, .int (nI (fi + (lft nu0)))), (7, .int (nI (lft nu0))), (0, .ref z0), (1, .int (nI (ri))), (2, .int (nI (n))), (3, .int (nI (c0))), (4, .int (nI (i))), (6, .int (nI (nu0)))]) hx hb dX5_check_109 hl (by decide) rfl (fun ls hl => ?_)
                    refine lv_aload_n hx hb dX5_check_111 rfl (lv_at hl 2 rfl) ?_
                    refine va_get (D := D) (ci := 5) (v := .ref zi) (C := RX5) (T := TX5) (N := 28) hx hb hts i_X5_check_X5 hown hK hW.1 0 rfl rfl 27 (by decide) (hts (.fieldLink RX5 68 "TreeHashesModel" "isLeft" "[Z") f_X5_check_14) (fun _ h9 => h9) rfl dX5_check_112 ?_
                    refine lv_iload hx hb dX5_check_115 (lv_at hl 6 rfl) ?_
                    refine rZ hx hb hK hW 3 rfl (k := i) (by omega) (by omega) dX5_check_117 ?_
                    refine tI (x' := nI (0)) (pk_us) ?_
                    refine zEq (a := 0) (tgt := 126) hx hb dX5_check_118 (by decide) (by omega) (fun h118 => ?_) (fun h118 => ?_)
                    · skip
                      refine lv_iload hx hb dX5_check_126 (lv_at hl 7 rfl) ?_
                      refine lv_iload hx hb dX5_check_128 (lv_at hl 1 rfl) ?_
                      refine lv_isub hx hb dX5_check_130 ?_
                      refine tI (pk_sub (by omega)) ?_
                      refine lv_istore (lv' := [(6, .int (nI (nu0 - (lft nu0)))), (5, .int (nI (fi + (lft nu0)))), (7, .int (nI (lft nu0))), (0, .ref z0), (1, .int (nI (ri))), (2, .int (nI (n))), (3, .int (nI (c0))), (4, .int (nI (i)))]) hx hb dX5_check_131 hl (by decide) rfl (fun ls hl => ?_)
                      refine lv_iinc (v := nI (i + 1)) (lv' := [(4, .int (nI (i + 1))), (6, .int (nI (nu0 - (lft nu0)))), (5, .int (nI (fi + (lft nu0)))), (7, .int (nI (lft nu0))), (0, .ref z0), (1, .int (nI (ri))), (2, .int (nI (n))), (3, .int (nI (c0)))]) hx hb dX5_check_133 hl (k := 7) rfl (nI_1 _) (by decide) rfl (fun ls hl => ?_)
                      refine lv_goto (tgt := 55) hx hb dX5_check_136 (by decide) ?_
                      obtain ⟨e1, e2, e3⟩ := wyS_r hst2 h80
                      exact ih55 (i + 1) (fi + (lft nu0)) (nu0 - (lft nu0)) (upd ix i (nI (0))) (by omega) (by omega) (e1) (by intro j hj; rcases Nat.lt_succ_iff_lt_or_eq.mp hj with q | q; (exact hlt j q); (rw [q, hst2]; exact h58)) (by intro j hj; rcases Nat.lt_succ_iff_lt_or_eq.mp hj with q | q; (rw [pk_un (by omega)]; exact hix j q); (rw [q, pk_us]; exact lf01_r hst2 h80)) _ _ hW _ (lv_sub hl [4, 5, 6, 7, 0, 2, 1] rfl)
                    · skip
                      exfalso; omega
                  · skip
                    exfalso; omega
                · skip
                  refine lv_iconst (v := nI (1)) hx hb dX5_check_83 (by decide) ?_
                  refine lv_goto (tgt := 88) hx hb dX5_check_84 (by decide) ?_
                  refine wZ hx hb hK hW 3 rfl (k := i) (by omega) (by omega) (rfl) dX5_check_88 (fun H locs hW => ?_)
                  have hW : Wd D A s [(z0, .inr (5, [.ref zr, .ref zs, .ref zt, .ref zc, .ref zm, .ref zk, .ref zh, .ref zd, .ref zf, .int (nI (ml)), .ref zp, .int (nI (mps)), .ref za, .ref ze, .int (be), .ref zn, .ref zb, .ref zv, .ref zw, .ref zo, .ref zq, .long (nu), .int (bq), .int (fg), .ref zl, .int (nI (hg)), .int (nI (cz)), .ref zi])), (zs, .inl (cy 0, 8, .inl (ms))), (zr, .inl (cy 0, 1600, .inl (mr))), (zi, .inl (cy 2, 20, .inl (upd ix i (nI (1))))), (zp, .inl (cy 0, 2000, .inl (mp))), (ze, .inl (cy 0, 8, .inl (ke))), (zn, .inl (cy 0, 8, .inl (cn))), (zb, .inl (cy 0, 16, .inl (bb))), (zv, .inl (cy 0, 16, .inl (vv))), (zw, .inl (cy 0, 16, .inl (ww))), (zo, .inl (cy 0, 16, .inl (oo))), (zq, .inl (cy 0, 16, .inl (fun k => nI (orN k)))), (za, .inl (cy 0, 8, .inl (stA)))] H locs := hW
                  refine lv_aload_n hx hb dX5_check_89 rfl (lv_at hl 1 rfl) ?_
                  refine va_get (D := D) (ci := 5) (v := .ref zi) (C := RX5) (T := TX5) (N := 28) hx hb hts i_X5_check_X5 hown hK hW.1 0 rfl rfl 27 (by decide) (hts (.fieldLink RX5 68 "TreeHashesModel" "isLeft" "[Z") f_X5_check_14) (fun _ h9 => h9) rfl dX5_check_90 ?_
                  refine lv_iload hx hb dX5_check_93 (lv_at hl 5 rfl) ?_
                  refine rZ hx hb hK hW 3 rfl (k := i) (by omega) (by omega) dX5_check_95 ?_
                  refine tI (x' := nI (1)) (pk_us) ?_
                  refine zEq (a := 1) (tgt := 104) hx hb dX5_check_96 (by decide) (by omega) (fun h96 => ?_) (fun h96 => ?_)
                  · skip
                    exfalso; omega
                  · skip
                    refine lv_iload hx hb dX5_check_99 (lv_at hl 6 rfl) ?_
                    refine lv_goto (tgt := 109) hx hb dX5_check_101 (by decide) ?_
                    refine lv_istore (lv' := [(5, .int (nI (fi))), (7, .int (nI (lft nu0))), (0, .ref z0), (1, .int (nI (ri))), (2, .int (nI (n))), (3, .int (nI (c0))), (4, .int (nI (i))), (6, .int (nI (nu0)))]) hx hb dX5_check_109 hl (by decide) rfl (fun ls hl => ?_)
                    refine lv_aload_n hx hb dX5_check_111 rfl (lv_at hl 2 rfl) ?_
                    refine va_get (D := D) (ci := 5) (v := .ref zi) (C := RX5) (T := TX5) (N := 28) hx hb hts i_X5_check_X5 hown hK hW.1 0 rfl rfl 27 (by decide) (hts (.fieldLink RX5 68 "TreeHashesModel" "isLeft" "[Z") f_X5_check_14) (fun _ h9 => h9) rfl dX5_check_112 ?_
                    refine lv_iload hx hb dX5_check_115 (lv_at hl 6 rfl) ?_
                    refine rZ hx hb hK hW 3 rfl (k := i) (by omega) (by omega) dX5_check_117 ?_
                    refine tI (x' := nI (1)) (pk_us) ?_
                    refine zEq (a := 1) (tgt := 126) hx hb dX5_check_118 (by decide) (by omega) (fun h118 => ?_) (fun h118 => ?_)
                    · skip
                      exfalso; omega
                    · skip
                      refine lv_iload hx hb dX5_check_121 (lv_at hl 1 rfl) ?_
                      refine lv_goto (tgt := 131) hx hb dX5_check_123 (by decide) ?_
                      refine lv_istore (lv' := [(6, .int (nI (lft nu0))), (5, .int (nI (fi))), (7, .int (nI (lft nu0))), (0, .ref z0), (1, .int (nI (ri))), (2, .int (nI (n))), (3, .int (nI (c0))), (4, .int (nI (i)))]) hx hb dX5_check_131 hl (by decide) rfl (fun ls hl => ?_)
                      refine lv_iinc (v := nI (i + 1)) (lv' := [(4, .int (nI (i + 1))), (6, .int (nI (lft nu0))), (5, .int (nI (fi))), (7, .int (nI (lft nu0))), (0, .ref z0), (1, .int (nI (ri))), (2, .int (nI (n))), (3, .int (nI (c0)))]) hx hb dX5_check_133 hl (k := 7) rfl (nI_1 _) (by decide) rfl (fun ls hl => ?_)
                      refine lv_goto (tgt := 55) hx hb dX5_check_136 (by decide) ?_
                      obtain ⟨e1, e2, e3⟩ := wyS_l hst2 h80
                      exact ih55 (i + 1) fi (lft nu0) (upd ix i (nI (1))) (by omega) (by omega) (e1) (by intro j hj; rcases Nat.lt_succ_iff_lt_or_eq.mp hj with q | q; (exact hlt j q); (rw [q, hst2]; exact h58)) (by intro j hj; rcases Nat.lt_succ_iff_lt_or_eq.mp hj with q | q; (rw [pk_un (by omega)]; exact hix j q); (rw [q, pk_us]; exact lf01_l hst2 h80)) _ _ hW _ (lv_sub hl [4, 5, 6, 7, 0, 2, 1] rfl)
          exact loop55 _ 0 0 (chks n) il (Nat.lt_succ_self _) (by omega) (rfl) (lt_0) (lt_0) _ _ hW _ (lv_sub hl [3, 4, 5, 6, 2, 1, 0] rfl)
        · skip
          exfalso; omega
