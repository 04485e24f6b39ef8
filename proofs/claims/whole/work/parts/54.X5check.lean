set_option maxHeartbeats 4000000 in
set_option maxRecDepth 100000 in
theorem c_X5_check_b (l : Launch) (D : va_G) (cy : Nat → ClassId) (t : Nat × Nat) (z0 : Nat) (zr : Nat) (zs : Nat) (zt : Nat) (zc : Nat) (zm : Nat) (zk : Nat) (zh : Nat) (zd : Nat) (zf : Nat) (ml : Nat) (zp : Nat) (mps : Nat) (za : Nat) (ze : Nat) (be : Int32) (zn : Nat) (zb : Nat) (zv : Nat) (zw : Nat) (zo : Nat) (zq : Nat) (nu : Int64) (bq : Int32) (fg : Int32) (zl : Nat) (hg : Nat) (cz : Nat) (zi : Nat) (x : Int32) (y : Int32) (z : Int32) (hbd : x < 0 ∨ nI 8 ≤ x) (sz : Nat) : Met l yX5_check wsX5_check ({ frames := 1, cells := 0, slots := 0, locals := 20 }) (PcW D cy t [(z0, .inr (5, [.ref zr, .ref zs, .ref zt, .ref zc, .ref zm, .ref zk, .ref zh, .ref zd, .ref zf, .int (nI (ml)), .ref zp, .int (nI (mps)), .ref za, .ref ze, .int (be), .ref zn, .ref zb, .ref zv, .ref zw, .ref zo, .ref zq, .long (nu), .int (bq), .int (fg), .ref zl, .int (nI (hg)), .int (nI (cz)), .ref zi]))] [.ref z0, .int (x), .int (y), .int (z)] sz) (QiA D cy (fun (r : Int32) (u : Unit) => (r = (-2 : Int32))) (fun u : Unit => [(z0, .inr (5, [.ref zr, .ref zs, .ref zt, .ref zc, .ref zm, .ref zk, .ref zh, .ref zd, .ref zf, .int (nI (ml)), .ref zp, .int (nI (mps)), .ref za, .ref ze, .int (be), .ref zn, .ref zb, .ref zv, .ref zw, .ref zo, .ref zq, .long (nu), .int (bq), .int (fg), .ref zl, .int (nI (hg)), .int (nI (cz)), .ref zi]))]) (va_A [(z0, .inr (5, [.ref zr, .ref zs, .ref zt, .ref zc, .ref zm, .ref zk, .ref zh, .ref zd, .ref zf, .int (nI (ml)), .ref zp, .int (nI (mps)), .ref za, .ref ze, .int (be), .ref zn, .ref zb, .ref zv, .ref zw, .ref zo, .ref zq, .long (nu), .int (bq), .int (fg), .ref zl, .int (nI (hg)), .int (nI (cz)), .ref zi]))] sz)) 0 0 (va_A [(z0, .inr (5, [.ref zr, .ref zs, .ref zt, .ref zc, .ref zm, .ref zk, .ref zh, .ref zd, .ref zf, .int (nI (ml)), .ref zp, .int (nI (mps)), .ref za, .ref ze, .int (be), .ref zn, .ref zb, .ref zv, .ref zw, .ref zo, .ref zq, .long (nu), .int (bq), .int (fg), .ref zl, .int (nI (hg)), .int (nI (cz)), .ref zi]))] sz) := by
  refine M_ofW (cc := cX5_check) (maxL := 12) (ret := (some .int)) (by decide) rfl (Nat.le_of_ble_eq_true rfl) ?_
  intro p e s m below meth c A ls args Q hQ S0 hr hlocks hnm hK hst hA hW hl
  have hx := S0.1; have hb := S0.2.1; have hml := S0.2.2.1; have hown := S0.2.2.2.1; have hts := S0.2.2.2.2
  have hl : lv_has ls 12 [(0, .ref z0), (1, .int (x)), (2, .int (y)), (3, .int (z))] := hl
  refine lv_iload_n hx hb dX5_check_0 rfl (lv_at hl 1 rfl) ?_
  refine kSi (As := [.int (x)]) (rest := []) S0 hK hst hA hW [] (fun sz => c_X5_isRegister_b l D cy t x (hbd) sz) rfl (by decide) (va_cwS 1 hts gX5_check_X5_isRegister rfl rfl rfl (by decide +kernel) ⟨Nat.le_of_ble_eq_true rfl, Nat.le_of_ble_eq_true rfl⟩) (fun _ => rfl) rfl hl.1 rfl (Nat.le_of_ble_eq_true rfl) dX5_check_1 ⟨Nat.le_of_ble_eq_true rfl, Nat.le_of_ble_eq_true rfl⟩ (fun r1 u1 H locs p1 hW => ?_)
  have hW : Wd D A s [(z0, .inr (5, [.ref zr, .ref zs, .ref zt, .ref zc, .ref zm, .ref zk, .ref zh, .ref zd, .ref zf, .int (nI (ml)), .ref zp, .int (nI (mps)), .ref za, .ref ze, .int (be), .ref zn, .ref zb, .ref zv, .ref zw, .ref zo, .ref zq, .long (nu), .int (bq), .int (fg), .ref zl, .int (nI (hg)), .int (nI (cz)), .ref zi]))] H locs := hW
  have q1 : r1 = nI (0) := p1
  subst q1
  refine zEq (a := 0) (tgt := 40) hx hb dX5_check_4 (by decide) (by omega) (fun h4 => ?_) (fun h4 => ?_)
  · skip
    refine lv_bipush (v := (-2 : Int32)) hx hb dX5_check_40 (by decide) ?_
    exact eI hQ hx hb hr hlocks hK hW () (rfl) (rfl) dX5_check_42
  · skip
    exfalso; omega

theorem f_X5_check_bl_0 : Cond.constant RX5 194 (1000000) ∈ wsX5_check := by decide +kernel
set_option maxHeartbeats 4000000 in
set_option maxRecDepth 100000 in
theorem c_X5_check_bl (l : Launch) (D : va_G) (cy : Nat → ClassId) (t : Nat × Nat) (z0 : Nat) (zr : Nat) (zs : Nat) (zt : Nat) (zc : Nat) (zm : Nat) (zk : Nat) (zh : Nat) (zd : Nat) (zf : Nat) (ml : Nat) (zp : Nat) (mps : Nat) (za : Nat) (ze : Nat) (be : Int32) (zn : Nat) (zb : Nat) (zv : Nat) (zw : Nat) (zo : Nat) (zq : Nat) (nu : Int64) (bq : Int32) (fg : Int32) (zl : Nat) (hg : Nat) (cz : Nat) (zi : Nat) (ms : Nat → Int32) (mr : Nat → Int32) (ri : Nat) (cnt : Nat) (y : Int32) (z : Int32) (hr8 : ri < 8) (hsz : ms ri = nI cnt) (hc : cnt ≤ 200) (hbn : y < 0 ∨ nI 1000000 < y) (sz : Nat) : Met l yX5_check wsX5_check ({ frames := 1, cells := 0, slots := 0, locals := 20 }) (PcW D cy t [(z0, .inr (5, [.ref zr, .ref zs, .ref zt, .ref zc, .ref zm, .ref zk, .ref zh, .ref zd, .ref zf, .int (nI (ml)), .ref zp, .int (nI (mps)), .ref za, .ref ze, .int (be), .ref zn, .ref zb, .ref zv, .ref zw, .ref zo, .ref zq, .long (nu), .int (bq), .int (fg), .ref zl, .int (nI (hg)), .int (nI (cz)), .ref zi])), (zs, .inl (cy 0, 8, .inl (ms))), (zr, .inl (cy 0, 1600, .inl (mr)))] [.ref z0, .int (nI (ri)), .int (y), .int (z)] sz) (QiA D cy (fun (r : Int32) (u : Unit) => (r = (-2 : Int32))) (fun u : Unit => [(z0, .inr (5, [.ref zr, .ref zs, .ref zt, .ref zc, .ref zm, .ref zk, .ref zh, .ref zd, .ref zf, .int (nI (ml)), .ref zp, .int (nI (mps)), .ref za, .ref ze, .int (be), .ref zn, .ref zb, .ref zv, .ref zw, .ref zo, .ref zq, .long (nu), .int (bq), .int (fg), .ref zl, .int (nI (hg)), .int (nI (cz)), .ref zi])), (zs, .inl (cy 0, 8, .inl (ms))), (zr, .inl (cy 0, 1600, .inl (mr)))]) (va_A [(z0, .inr (5, [.ref zr, .ref zs, .ref zt, .ref zc, .ref zm, .ref zk, .ref zh, .ref zd, .ref zf, .int (nI (ml)), .ref zp, .int (nI (mps)), .ref za, .ref ze, .int (be), .ref zn, .ref zb, .ref zv, .ref zw, .ref zo, .ref zq, .long (nu), .int (bq), .int (fg), .ref zl, .int (nI (hg)), .int (nI (cz)), .ref zi])), (zs, .inl (cy 0, 8, .inl (ms))), (zr, .inl (cy 0, 1600, .inl (mr)))] sz)) 0 0 (va_A [(z0, .inr (5, [.ref zr, .ref zs, .ref zt, .ref zc, .ref zm, .ref zk, .ref zh, .ref zd, .ref zf, .int (nI (ml)), .ref zp, .int (nI (mps)), .ref za, .ref ze, .int (be), .ref zn, .ref zb, .ref zv, .ref zw, .ref zo, .ref zq, .long (nu), .int (bq), .int (fg), .ref zl, .int (nI (hg)), .int (nI (cz)), .ref zi])), (zs, .inl (cy 0, 8, .inl (ms))), (zr, .inl (cy 0, 1600, .inl (mr)))] sz) := by
  refine M_ofW (cc := cX5_check) (maxL := 12) (ret := (some .int)) (by decide) rfl (Nat.le_of_ble_eq_true rfl) ?_
  intro p e s m below meth c A ls args Q hQ S0 hr hlocks hnm hK hst hA hW hl
  have hx := S0.1; have hb := S0.2.1; have hml := S0.2.2.1; have hown := S0.2.2.2.1; have hts := S0.2.2.2.2
  have hl : lv_has ls 12 [(0, .ref z0), (1, .int (nI (ri))), (2, .int (y)), (3, .int (z))] := hl
  refine lv_iload_n hx hb dX5_check_0 rfl (lv_at hl 1 rfl) ?_
  refine kSi (As := [.int (nI (ri))]) (rest := []) S0 hK hst hA hW [] (fun sz => c_X5_isRegister l D cy t ri (by omega) sz) rfl (by decide) (va_cwS 1 hts gX5_check_X5_isRegister rfl rfl rfl (by decide +kernel) ⟨Nat.le_of_ble_eq_true rfl, Nat.le_of_ble_eq_true rfl⟩) (fun _ => rfl) rfl hl.1 rfl (Nat.le_of_ble_eq_true rfl) dX5_check_1 ⟨Nat.le_of_ble_eq_true rfl, Nat.le_of_ble_eq_true rfl⟩ (fun r1 u1 H locs p1 hW => ?_)
  have hW : Wd D A s [(z0, .inr (5, [.ref zr, .ref zs, .ref zt, .ref zc, .ref zm, .ref zk, .ref zh, .ref zd, .ref zf, .int (nI (ml)), .ref zp, .int (nI (mps)), .ref za, .ref ze, .int (be), .ref zn, .ref zb, .ref zv, .ref zw, .ref zo, .ref zq, .long (nu), .int (bq), .int (fg), .ref zl, .int (nI (hg)), .int (nI (cz)), .ref zi])), (zs, .inl (cy 0, 8, .inl (ms))), (zr, .inl (cy 0, 1600, .inl (mr)))] H locs := hW
  have q1 : r1 = nI (1) := p1
  subst q1
  refine zEq (a := 1) (tgt := 40) hx hb dX5_check_4 (by decide) (by omega) (fun h4 => ?_) (fun h4 => ?_)
  · skip
    exfalso; omega
  · skip
    refine lv_iload_n hx hb dX5_check_7 rfl (lv_at hl 2 rfl) ?_
    refine lv_if_lt (tgt := 40) hx hb dX5_check_8 (by decide) (fun h8 => ?_) (fun h8 => ?_)
    · skip
      refine lv_bipush (v := (-2 : Int32)) hx hb dX5_check_40 (by decide) ?_
      exact eI hQ hx hb hr hlocks hK hW () (rfl) (rfl) dX5_check_42
    · skip
      refine lv_iload_n hx hb dX5_check_11 rfl (lv_at hl 2 rfl) ?_
      refine lv_ldc (v := (1000000 : Int32)) hx hb hown (hts (.constant RX5 194 (1000000)) f_X5_check_bl_0) dX5_check_12 ?_
      refine tI (x' := nI 1000000) (by decide) ?_
      refine lv_icmp_gt (tgt := 40) hx hb dX5_check_14 (by decide) (fun h14 => ?_) (fun h14 => ?_)
      · skip
        refine lv_bipush (v := (-2 : Int32)) hx hb dX5_check_40 (by decide) ?_
        exact eI hQ hx hb hr hlocks hK hW () (rfl) (rfl) dX5_check_42
      · skip
        exact hbn.elim (fun q => absurd q h8) (fun q => absurd q h14)

theorem f_X5_check_bk_0 : Cond.constant RX5 194 (1000000) ∈ wsX5_check := by decide +kernel
set_option maxHeartbeats 4000000 in
set_option maxRecDepth 100000 in
theorem c_X5_check_bk (l : Launch) (D : va_G) (cy : Nat → ClassId) (t : Nat × Nat) (z0 : Nat) (zr : Nat) (zs : Nat) (zt : Nat) (zc : Nat) (zm : Nat) (zk : Nat) (zh : Nat) (zd : Nat) (zf : Nat) (ml : Nat) (zp : Nat) (mps : Nat) (za : Nat) (ze : Nat) (be : Int32) (zn : Nat) (zb : Nat) (zv : Nat) (zw : Nat) (zo : Nat) (zq : Nat) (nu : Int64) (bq : Int32) (fg : Int32) (zl : Nat) (hg : Nat) (cz : Nat) (zi : Nat) (ms : Nat → Int32) (mr : Nat → Int32) (ri : Nat) (cnt : Nat) (n : Nat) (z : Int32) (hr8 : ri < 8) (hsz : ms ri = nI cnt) (hc : cnt ≤ 200) (hn1 : n ≤ 1000000) (hbd : z < 0 ∨ nI (chks n) ≤ z) (sz : Nat) : Met l yX5_check wsX5_check ({ frames := 1, cells := 0, slots := 0, locals := 20 }) (PcW D cy t [(z0, .inr (5, [.ref zr, .ref zs, .ref zt, .ref zc, .ref zm, .ref zk, .ref zh, .ref zd, .ref zf, .int (nI (ml)), .ref zp, .int (nI (mps)), .ref za, .ref ze, .int (be), .ref zn, .ref zb, .ref zv, .ref zw, .ref zo, .ref zq, .long (nu), .int (bq), .int (fg), .ref zl, .int (nI (hg)), .int (nI (cz)), .ref zi])), (zs, .inl (cy 0, 8, .inl (ms))), (zr, .inl (cy 0, 1600, .inl (mr)))] [.ref z0, .int (nI (ri)), .int (nI (n)), .int (z)] sz) (QiA D cy (fun (r : Int32) (u : Unit) => (r = (-2 : Int32))) (fun u : Unit => [(z0, .inr (5, [.ref zr, .ref zs, .ref zt, .ref zc, .ref zm, .ref zk, .ref zh, .ref zd, .ref zf, .int (nI (ml)), .ref zp, .int (nI (mps)), .ref za, .ref ze, .int (be), .ref zn, .ref zb, .ref zv, .ref zw, .ref zo, .ref zq, .long (nu), .int (bq), .int (fg), .ref zl, .int (nI (hg)), .int (nI (cz)), .ref zi])), (zs, .inl (cy 0, 8, .inl (ms))), (zr, .inl (cy 0, 1600, .inl (mr)))]) (va_A [(z0, .inr (5, [.ref zr, .ref zs, .ref zt, .ref zc, .ref zm, .ref zk, .ref zh, .ref zd, .ref zf, .int (nI (ml)), .ref zp, .int (nI (mps)), .ref za, .ref ze, .int (be), .ref zn, .ref zb, .ref zv, .ref zw, .ref zo, .ref zq, .long (nu), .int (bq), .int (fg), .ref zl, .int (nI (hg)), .int (nI (cz)), .ref zi])), (zs, .inl (cy 0, 8, .inl (ms))), (zr, .inl (cy 0, 1600, .inl (mr)))] sz)) 0 0 (va_A [(z0, .inr (5, [.ref zr, .ref zs, .ref zt, .ref zc, .ref zm, .ref zk, .ref zh, .ref zd, .ref zf, .int (nI (ml)), .ref zp, .int (nI (mps)), .ref za, .ref ze, .int (be), .ref zn, .ref zb, .ref zv, .ref zw, .ref zo, .ref zq, .long (nu), .int (bq), .int (fg), .ref zl, .int (nI (hg)), .int (nI (cz)), .ref zi])), (zs, .inl (cy 0, 8, .inl (ms))), (zr, .inl (cy 0, 1600, .inl (mr)))] sz) := by
  refine M_ofW (cc := cX5_check) (maxL := 12) (ret := (some .int)) (by decide) rfl (Nat.le_of_ble_eq_true rfl) ?_
  intro p e s m below meth c A ls args Q hQ S0 hr hlocks hnm hK hst hA hW hl
  have hx := S0.1; have hb := S0.2.1; have hml := S0.2.2.1; have hown := S0.2.2.2.1; have hts := S0.2.2.2.2
  have hl : lv_has ls 12 [(0, .ref z0), (1, .int (nI (ri))), (2, .int (nI (n))), (3, .int (z))] := hl
  refine lv_iload_n hx hb dX5_check_0 rfl (lv_at hl 1 rfl) ?_
  refine kSi (As := [.int (nI (ri))]) (rest := []) S0 hK hst hA hW [] (fun sz => c_X5_isRegister l D cy t ri (by omega) sz) rfl (by decide) (va_cwS 1 hts gX5_check_X5_isRegister rfl rfl rfl (by decide +kernel) ⟨Nat.le_of_ble_eq_true rfl, Nat.le_of_ble_eq_true rfl⟩) (fun _ => rfl) rfl hl.1 rfl (Nat.le_of_ble_eq_true rfl) dX5_check_1 ⟨Nat.le_of_ble_eq_true rfl, Nat.le_of_ble_eq_true rfl⟩ (fun r1 u1 H locs p1 hW => ?_)
  have hW : Wd D A s [(z0, .inr (5, [.ref zr, .ref zs, .ref zt, .ref zc, .ref zm, .ref zk, .ref zh, .ref zd, .ref zf, .int (nI (ml)), .ref zp, .int (nI (mps)), .ref za, .ref ze, .int (be), .ref zn, .ref zb, .ref zv, .ref zw, .ref zo, .ref zq, .long (nu), .int (bq), .int (fg), .ref zl, .int (nI (hg)), .int (nI (cz)), .ref zi])), (zs, .inl (cy 0, 8, .inl (ms))), (zr, .inl (cy 0, 1600, .inl (mr)))] H locs := hW
  have q1 : r1 = nI (1) := p1
  subst q1
  refine zEq (a := 1) (tgt := 40) hx hb dX5_check_4 (by decide) (by omega) (fun h4 => ?_) (fun h4 => ?_)
  · skip
    exfalso; omega
  · skip
    refine lv_iload_n hx hb dX5_check_7 rfl (lv_at hl 2 rfl) ?_
    refine zLt (a := n) (tgt := 40) hx hb dX5_check_8 (by decide) (by omega) ?_
    refine lv_iload_n hx hb dX5_check_11 rfl (lv_at hl 2 rfl) ?_
    refine lv_ldc (v := (1000000 : Int32)) hx hb hown (hts (.constant RX5 194 (1000000)) f_X5_check_bk_0) dX5_check_12 ?_
    refine tI (x' := nI 1000000) (by decide) ?_
    refine iGt (a := n) (b := 1000000) (tgt := 40) hx hb dX5_check_14 (by decide) (by omega) (by omega) (fun h14 => ?_) (fun h14 => ?_)
    · skip
      exfalso; omega
    · skip
      refine lv_iload_n hx hb dX5_check_17 rfl (lv_at hl 3 rfl) ?_
      refine lv_if_lt (tgt := 40) hx hb dX5_check_18 (by decide) (fun h18 => ?_) (fun h18 => ?_)
      · skip
        refine lv_bipush (v := (-2 : Int32)) hx hb dX5_check_40 (by decide) ?_
        exact eI hQ hx hb hr hlocks hK hW () (rfl) (rfl) dX5_check_42
      · skip
        refine lv_iload_n hx hb dX5_check_21 rfl (lv_at hl 3 rfl) ?_
        refine lv_iload_n hx hb dX5_check_22 rfl (lv_at hl 2 rfl) ?_
        refine kSi (As := [.int (nI (n))]) (rest := [.int (z)]) S0 hK hst hA hW [] (fun sz => c_X5_chunksOf l D cy t n (by omega) sz) rfl (by decide) (va_cwS 1 hts gX5_check_X5_chunksOf rfl rfl rfl (by decide +kernel) ⟨Nat.le_of_ble_eq_true rfl, Nat.le_of_ble_eq_true rfl⟩) (fun _ => rfl) rfl hl.1 rfl (Nat.le_of_ble_eq_true rfl) dX5_check_23 ⟨Nat.le_of_ble_eq_true rfl, Nat.le_of_ble_eq_true rfl⟩ (fun r23 u23 H locs p23 hW => ?_)
        have hW : Wd D A s [(z0, .inr (5, [.ref zr, .ref zs, .ref zt, .ref zc, .ref zm, .ref zk, .ref zh, .ref zd, .ref zf, .int (nI (ml)), .ref zp, .int (nI (mps)), .ref za, .ref ze, .int (be), .ref zn, .ref zb, .ref zv, .ref zw, .ref zo, .ref zq, .long (nu), .int (bq), .int (fg), .ref zl, .int (nI (hg)), .int (nI (cz)), .ref zi])), (zs, .inl (cy 0, 8, .inl (ms))), (zr, .inl (cy 0, 1600, .inl (mr)))] H locs := hW
        have q23 : r23 = nI (chks n) := p23
        subst q23
        refine lv_icmp_ge (tgt := 40) hx hb dX5_check_26 (by decide) (fun h26 => ?_) (fun h26 => ?_)
        · skip
          refine lv_bipush (v := (-2 : Int32)) hx hb dX5_check_40 (by decide) ?_
          exact eI hQ hx hb hr hlocks hK hW () (rfl) (rfl) dX5_check_42
        · skip
          exact hbd.elim (fun q => absurd q h18) (fun q => absurd q h26)

theorem f_X5_check_bc_0 : Cond.constant RX5 194 (1000000) ∈ wsX5_check := by decide +kernel
theorem f_X5_check_bc_1 : Cond.fieldLink RX5 13 "TreeHashesModel" "sizes" "[I" ∈ wsX5_check := by decide +kernel
theorem i_X5_check_bc_X5 : ∀ w ∈ wsX50, w ∈ wsX5_check := by decide +kernel
set_option maxHeartbeats 4000000 in
set_option maxRecDepth 100000 in
theorem c_X5_check_bc (l : Launch) (D : va_G) (cy : Nat → ClassId) (t : Nat × Nat) (z0 : Nat) (zr : Nat) (zs : Nat) (zt : Nat) (zc : Nat) (zm : Nat) (zk : Nat) (zh : Nat) (zd : Nat) (zf : Nat) (ml : Nat) (zp : Nat) (mps : Nat) (za : Nat) (ze : Nat) (be : Int32) (zn : Nat) (zb : Nat) (zv : Nat) (zw : Nat) (zo : Nat) (zq : Nat) (nu : Int64) (bq : Int32) (fg : Int32) (zl : Nat) (hg : Nat) (cz : Nat) (zi : Nat) (ms : Nat → Int32) (mr : Nat → Int32) (ri : Nat) (cnt : Nat) (n : Nat) (c0 : Nat) (hr8 : ri < 8) (hsz : ms ri = nI cnt) (hc : cnt ≤ 200) (hn1 : n ≤ 1000000) (hc0 : c0 < chks n) (h32 : cnt ≠ 32) (sz : Nat) : Met l yX5_check wsX5_check ({ frames := 1, cells := 0, slots := 0, locals := 20 }) (PcW D cy t [(z0, .inr (5, [.ref zr, .ref zs, .ref zt, .ref zc, .ref zm, .ref zk, .ref zh, .ref zd, .ref zf, .int (nI (ml)), .ref zp, .int (nI (mps)), .ref za, .ref ze, .int (be), .ref zn, .ref zb, .ref zv, .ref zw, .ref zo, .ref zq, .long (nu), .int (bq), .int (fg), .ref zl, .int (nI (hg)), .int (nI (cz)), .ref zi])), (zs, .inl (cy 0, 8, .inl (ms))), (zr, .inl (cy 0, 1600, .inl (mr)))] [.ref z0, .int (nI (ri)), .int (nI (n)), .int (nI (c0))] sz) (QiA D cy (fun (r : Int32) (u : Unit) => (r = (-2 : Int32))) (fun u : Unit => [(z0, .inr (5, [.ref zr, .ref zs, .ref zt, .ref zc, .ref zm, .ref zk, .ref zh, .ref zd, .ref zf, .int (nI (ml)), .ref zp, .int (nI (mps)), .ref za, .ref ze, .int (be), .ref zn, .ref zb, .ref zv, .ref zw, .ref zo, .ref zq, .long (nu), .int (bq), .int (fg), .ref zl, .int (nI (hg)), .int (nI (cz)), .ref zi])), (zs, .inl (cy 0, 8, .inl (ms))), (zr, .inl (cy 0, 1600, .inl (mr)))]) (va_A [(z0, .inr (5, [.ref zr, .ref zs, .ref zt, .ref zc, .ref zm, .ref zk, .ref zh, .ref zd, .ref zf, .int (nI (ml)), .ref zp, .int (nI (mps)), .ref za, .ref ze, .int (be), .ref zn, .ref zb, .ref zv, .ref zw, .ref zo, .ref zq, .long (nu), .int (bq), .int (fg), .ref zl, .int (nI (hg)), .int (nI (cz)), .ref zi])), (zs, .inl (cy 0, 8, .inl (ms))), (zr, .inl (cy 0, 1600, .inl (mr)))] sz)) 0 0 (va_A [(z0, .inr (5, [.ref zr, .ref zs, .ref zt, .ref zc, .ref zm, .ref zk, .ref zh, .ref zd, .ref zf, .int (nI (ml)), .ref zp, .int (nI (mps)), .ref za, .ref ze, .int (be), .ref zn, .ref zb, .ref zv, .ref zw, .ref zo, .ref zq, .long (nu), .int (bq), .int (fg), .ref zl, .int (nI (hg)), .int (nI (cz)), .ref zi])), (zs, .inl (cy 0, 8, .inl (ms))), (zr, .inl (cy 0, 1600, .inl (mr)))] sz) := by
  refine M_ofW (cc := cX5_check) (maxL := 12) (ret := (some .int)) (by decide) rfl (Nat.le_of_ble_eq_true rfl) ?_
  intro p e s m below meth c A ls args Q hQ S0 hr hlocks hnm hK hst hA hW hl
  have hx := S0.1; have hb := S0.2.1; have hml := S0.2.2.1; have hown := S0.2.2.2.1; have hts := S0.2.2.2.2
  have hl : lv_has ls 12 [(0, .ref z0), (1, .int (nI (ri))), (2, .int (nI (n))), (3, .int (nI (c0)))] := hl
  refine lv_iload_n hx hb dX5_check_0 rfl (lv_at hl 1 rfl) ?_
  refine kSi (As := [.int (nI (ri))]) (rest := []) S0 hK hst hA hW [] (fun sz => c_X5_isRegister l D cy t ri (by omega) sz) rfl (by decide) (va_cwS 1 hts gX5_check_X5_isRegister rfl rfl rfl (by decide +kernel) ⟨Nat.le_of_ble_eq_true rfl, Nat.le_of_ble_eq_true rfl⟩) (fun _ => rfl) rfl hl.1 rfl (Nat.le_of_ble_eq_true rfl) dX5_check_1 ⟨Nat.le_of_ble_eq_true rfl, Nat.le_of_ble_eq_true rfl⟩ (fun r1 u1 H locs p1 hW => ?_)
  have hW : Wd D A s [(z0, .inr (5, [.ref zr, .ref zs, .ref zt, .ref zc, .ref zm, .ref zk, .ref zh, .ref zd, .ref zf, .int (nI (ml)), .ref zp, .int (nI (mps)), .ref za, .ref ze, .int (be), .ref zn, .ref zb, .ref zv, .ref zw, .ref zo, .ref zq, .long (nu), .int (bq), .int (fg), .ref zl, .int (nI (hg)), .int (nI (cz)), .ref zi])), (zs, .inl (cy 0, 8, .inl (ms))), (zr, .inl (cy 0, 1600, .inl (mr)))] H locs := hW
  have q1 : r1 = nI (1) := p1
  subst q1
  refine zEq (a := 1) (tgt := 40) hx hb dX5_check_4 (by decide) (by omega) (fun h4 => ?_) (fun h4 => ?_)
  · skip
    exfalso; omega
  · skip
    refine lv_iload_n hx hb dX5_check_7 rfl (lv_at hl 2 rfl) ?_
    refine zLt (a := n) (tgt := 40) hx hb dX5_check_8 (by decide) (by omega) ?_
    refine lv_iload_n hx hb dX5_check_11 rfl (lv_at hl 2 rfl) ?_
    refine lv_ldc (v := (1000000 : Int32)) hx hb hown (hts (.constant RX5 194 (1000000)) f_X5_check_bc_0) dX5_check_12 ?_
    refine tI (x' := nI 1000000) (by decide) ?_
    refine iGt (a := n) (b := 1000000) (tgt := 40) hx hb dX5_check_14 (by decide) (by omega) (by omega) (fun h14 => ?_) (fun h14 => ?_)
    · skip
      exfalso; omega
    · skip
      refine lv_iload_n hx hb dX5_check_17 rfl (lv_at hl 3 rfl) ?_
      refine zLt (a := c0) (tgt := 40) hx hb dX5_check_18 (by decide) (by omega) ?_
      refine lv_iload_n hx hb dX5_check_21 rfl (lv_at hl 3 rfl) ?_
      refine lv_iload_n hx hb dX5_check_22 rfl (lv_at hl 2 rfl) ?_
      refine kSi (As := [.int (nI (n))]) (rest := [.int (nI (c0))]) S0 hK hst hA hW [] (fun sz => c_X5_chunksOf l D cy t n (by omega) sz) rfl (by decide) (va_cwS 1 hts gX5_check_X5_chunksOf rfl rfl rfl (by decide +kernel) ⟨Nat.le_of_ble_eq_true rfl, Nat.le_of_ble_eq_true rfl⟩) (fun _ => rfl) rfl hl.1 rfl (Nat.le_of_ble_eq_true rfl) dX5_check_23 ⟨Nat.le_of_ble_eq_true rfl, Nat.le_of_ble_eq_true rfl⟩ (fun r23 u23 H locs p23 hW => ?_)
      have hW : Wd D A s [(z0, .inr (5, [.ref zr, .ref zs, .ref zt, .ref zc, .ref zm, .ref zk, .ref zh, .ref zd, .ref zf, .int (nI (ml)), .ref zp, .int (nI (mps)), .ref za, .ref ze, .int (be), .ref zn, .ref zb, .ref zv, .ref zw, .ref zo, .ref zq, .long (nu), .int (bq), .int (fg), .ref zl, .int (nI (hg)), .int (nI (cz)), .ref zi])), (zs, .inl (cy 0, 8, .inl (ms))), (zr, .inl (cy 0, 1600, .inl (mr)))] H locs := hW
      have q23 : r23 = nI (chks n) := p23
      subst q23
      refine iGe (a := c0) (b := chks n) (tgt := 40) hx hb dX5_check_26 (by decide) (by have := chks_le hn1; omega) (by have := chks_le hn1; omega) (fun h26 => ?_) (fun h26 => ?_)
      · skip
        exfalso; omega
      · skip
        refine lv_aload_n hx hb dX5_check_29 rfl (lv_at hl 0 rfl) ?_
        refine va_get (D := D) (ci := 5) (v := .ref zs) (C := RX5) (T := TX5) (N := 28) hx hb hts i_X5_check_bc_X5 hown hK hW.1 0 rfl rfl 1 (by decide) (hts (.fieldLink RX5 13 "TreeHashesModel" "sizes" "[I") f_X5_check_bc_1) (fun _ h9 => h9) rfl dX5_check_30 ?_
        refine lv_iload_n hx hb dX5_check_33 rfl (lv_at hl 1 rfl) ?_
        refine rI hx hb hK hW 1 rfl (k := ri) (by omega) (by omega) dX5_check_34 ?_
        refine tI (x' := nI (cnt)) (hsz) ?_
        refine lv_bipush (v := nI (32)) hx hb dX5_check_35 (by decide) ?_
        refine iEq (a := cnt) (b := 32) (tgt := 43) hx hb dX5_check_37 (by decide) (by omega) (by omega) (fun h37 => ?_) (fun h37 => ?_)
        · skip
          exfalso; omega
        · skip
          refine lv_bipush (v := (-2 : Int32)) hx hb dX5_check_40 (by decide) ?_
          exact eI hQ hx hb hr hlocks hK hW () (rfl) (rfl) dX5_check_42

theorem f_X5_check_0_0 : Cond.constant RX5 194 (1000000) ∈ wsX5_check := by decide +kernel
theorem f_X5_check_0_1 : Cond.fieldLink RX5 13 "TreeHashesModel" "sizes" "[I" ∈ wsX5_check := by decide +kernel
theorem i_X5_check_0_X5 : ∀ w ∈ wsX50, w ∈ wsX5_check := by decide +kernel
theorem f_X5_check_0_3 : Cond.fieldLink RX5 188 "TreeHashesModel" "proofSize" "I" ∈ wsX5_check := by decide +kernel
theorem f_X5_check_0_4 : Cond.fieldLink RX5 68 "TreeHashesModel" "isLeft" "[Z" ∈ wsX5_check := by decide +kernel
set_option maxHeartbeats 4000000 in
set_option maxRecDepth 100000 in
theorem c_X5_check_0 (l : Launch) (D : va_G) (cy : Nat → ClassId) (t : Nat × Nat) (z0 : Nat) (zr : Nat) (zs : Nat) (zt : Nat) (zc : Nat) (zm : Nat) (zk : Nat) (zh : Nat) (zd : Nat) (zf : Nat) (ml : Nat) (zp : Nat) (mps : Nat) (za : Nat) (ze : Nat) (be : Int32) (zn : Nat) (zb : Nat) (zv : Nat) (zw : Nat) (zo : Nat) (zq : Nat) (nu : Int64) (bq : Int32) (fg : Int32) (zl : Nat) (hg : Nat) (cz : Nat) (zi : Nat) (ms : Nat → Int32) (mr : Nat → Int32) (ri : Nat) (cnt : Nat) (n : Nat) (c0 : Nat) (il : Nat → Int32) (hr8 : ri < 8) (hsz : ms ri = nI cnt) (hc : cnt ≤ 200) (hn1 : n ≤ 1000000) (hc0 : c0 < chks n) (h32 : cnt = 32) (hne : ∀ L, wyL c0 (chks n) L → mps ≠ cln n c0 + 32 * L) (hmp : mps ≤ 2000) (sz : Nat) : Met l yX5_check wsX5_check ({ frames := 1, cells := 0, slots := 0, locals := 21 }) (PcW D cy t [(z0, .inr (5, [.ref zr, .ref zs, .ref zt, .ref zc, .ref zm, .ref zk, .ref zh, .ref zd, .ref zf, .int (nI (ml)), .ref zp, .int (nI (mps)), .ref za, .ref ze, .int (be), .ref zn, .ref zb, .ref zv, .ref zw, .ref zo, .ref zq, .long (nu), .int (bq), .int (fg), .ref zl, .int (nI (hg)), .int (nI (cz)), .ref zi])), (zs, .inl (cy 0, 8, .inl (ms))), (zr, .inl (cy 0, 1600, .inl (mr))), (zi, .inl (cy 2, 20, .inl (il)))] [.ref z0, .int (nI (ri)), .int (nI (n)), .int (nI (c0))] sz) (QiA D cy (fun (r : Int32) (u : (Nat → Int32)) => match u with | il2 => (r = nI (0))) (fun u : (Nat → Int32) => match u with | il2 => [(z0, .inr (5, [.ref zr, .ref zs, .ref zt, .ref zc, .ref zm, .ref zk, .ref zh, .ref zd, .ref zf, .int (nI (ml)), .ref zp, .int (nI (mps)), .ref za, .ref ze, .int (be), .ref zn, .ref zb, .ref zv, .ref zw, .ref zo, .ref zq, .long (nu), .int (bq), .int (fg), .ref zl, .int (nI (hg)), .int (nI (cz)), .ref zi])), (zs, .inl (cy 0, 8, .inl (ms))), (zr, .inl (cy 0, 1600, .inl (mr))), (zi, .inl (cy 2, 20, .inl (il2)))]) (va_A [(z0, .inr (5, [.ref zr, .ref zs, .ref zt, .ref zc, .ref zm, .ref zk, .ref zh, .ref zd, .ref zf, .int (nI (ml)), .ref zp, .int (nI (mps)), .ref za, .ref ze, .int (be), .ref zn, .ref zb, .ref zv, .ref zw, .ref zo, .ref zq, .long (nu), .int (bq), .int (fg), .ref zl, .int (nI (hg)), .int (nI (cz)), .ref zi])), (zs, .inl (cy 0, 8, .inl (ms))), (zr, .inl (cy 0, 1600, .inl (mr))), (zi, .inl (cy 2, 20, .inl (il)))] sz)) 0 0 (va_A [(z0, .inr (5, [.ref zr, .ref zs, .ref zt, .ref zc, .ref zm, .ref zk, .ref zh, .ref zd, .ref zf, .int (nI (ml)), .ref zp, .int (nI (mps)), .ref za, .ref ze, .int (be), .ref zn, .ref zb, .ref zv, .ref zw, .ref zo, .ref zq, .long (nu), .int (bq), .int (fg), .ref zl, .int (nI (hg)), .int (nI (cz)), .ref zi])), (zs, .inl (cy 0, 8, .inl (ms))), (zr, .inl (cy 0, 1600, .inl (mr))), (zi, .inl (cy 2, 20, .inl (il)))] sz) := by
  refine M_ofW (cc := cX5_check) (maxL := 12) (ret := (some .int)) (by decide) rfl (Nat.le_of_ble_eq_true rfl) ?_
  intro p e s m below meth c A ls args Q hQ S0 hr hlocks hnm hK hst hA hW hl
  have hx := S0.1; have hb := S0.2.1; have hml := S0.2.2.1; have hown := S0.2.2.2.1; have hts := S0.2.2.2.2
  have hl : lv_has ls 12 [(0, .ref z0), (1, .int (nI (ri))), (2, .int (nI (n))), (3, .int (nI (c0)))] := hl
  have hq1 := chks_le hn1
  have hcl := cln_n hc0
  have hcl2 := cln_le n c0
  have hcc := chks_c hc0
  refine lv_iload_n hx hb dX5_check_0 rfl (lv_at hl 1 rfl) ?_
  refine kSi (As := [.int (nI (ri))]) (rest := []) S0 hK hst hA hW [] (fun sz => c_X5_isRegister l D cy t ri (by omega) sz) rfl (by decide) (va_cwS 1 hts gX5_check_X5_isRegister rfl rfl rfl (by decide +kernel) ⟨Nat.le_of_ble_eq_true rfl, Nat.le_of_ble_eq_true rfl⟩) (fun _ => rfl) rfl hl.1 rfl (Nat.le_of_ble_eq_true rfl) dX5_check_1 ⟨Nat.le_of_ble_eq_true rfl, Nat.le_of_ble_eq_true rfl⟩ (fun r1 u1 H locs p1 hW => ?_)
  have hW : Wd D A s [(z0, .inr (5, [.ref zr, .ref zs, .ref zt, .ref zc, .ref zm, .ref zk, .ref zh, .ref zd, .ref zf, .int (nI (ml)), .ref zp, .int (nI (mps)), .ref za, .ref ze, .int (be), .ref zn, .ref zb, .ref zv, .ref zw, .ref zo, .ref zq, .long (nu), .int (bq), .int (fg), .ref zl, .int (nI (hg)), .int (nI (cz)), .ref zi])), (zs, .inl (cy 0, 8, .inl (ms))), (zr, .inl (cy 0, 1600, .inl (mr))), (zi, .inl (cy 2, 20, .inl (il)))] H locs := hW
  have q1 : r1 = nI (1) := p1
  subst q1
  refine zEq (a := 1) (tgt := 40) hx hb dX5_check_4 (by decide) (by omega) (fun h4 => ?_) (fun h4 => ?_)
  · skip
    exfalso; omega
  · skip
    refine lv_iload_n hx hb dX5_check_7 rfl (lv_at hl 2 rfl) ?_
    refine zLt (a := n) (tgt := 40) hx hb dX5_check_8 (by decide) (by omega) ?_
    refine lv_iload_n hx hb dX5_check_11 rfl (lv_at hl 2 rfl) ?_
    refine lv_ldc (v := (1000000 : Int32)) hx hb hown (hts (.constant RX5 194 (1000000)) f_X5_check_0_0) dX5_check_12 ?_
    refine tI (x' := nI 1000000) (by decide) ?_
    refine iGt (a := n) (b := 1000000) (tgt := 40) hx hb dX5_check_14 (by decide) (by omega) (by omega) (fun h14 => ?_) (fun h14 => ?_)
    · skip
      exfalso; omega
    · skip
      refine lv_iload_n hx hb dX5_check_17 rfl (lv_at hl 3 rfl) ?_
      refine zLt (a := c0) (tgt := 40) hx hb dX5_check_18 (by decide) (by omega) ?_
      refine lv_iload_n hx hb dX5_check_21 rfl (lv_at hl 3 rfl) ?_
      refine lv_iload_n hx hb dX5_check_22 rfl (lv_at hl 2 rfl) ?_
      refine kSi (As := [.int (nI (n))]) (rest := [.int (nI (c0))]) S0 hK hst hA hW [] (fun sz => c_X5_chunksOf l D cy t n (by omega) sz) rfl (by decide) (va_cwS 1 hts gX5_check_X5_chunksOf rfl rfl rfl (by decide +kernel) ⟨Nat.le_of_ble_eq_true rfl, Nat.le_of_ble_eq_true rfl⟩) (fun _ => rfl) rfl hl.1 rfl (Nat.le_of_ble_eq_true rfl) dX5_check_23 ⟨Nat.le_of_ble_eq_true rfl, Nat.le_of_ble_eq_true rfl⟩ (fun r23 u23 H locs p23 hW => ?_)
      have hW : Wd D A s [(z0, .inr (5, [.ref zr, .ref zs, .ref zt, .ref zc, .ref zm, .ref zk, .ref zh, .ref zd, .ref zf, .int (nI (ml)), .ref zp, .int (nI (mps)), .ref za, .ref ze, .int (be), .ref zn, .ref zb, .ref zv, .ref zw, .ref zo, .ref zq, .long (nu), .int (bq), .int (fg), .ref zl, .int (nI (hg)), .int (nI (cz)), .ref zi])), (zs, .inl (cy 0, 8, .inl (ms))), (zr, .inl (cy 0, 1600, .inl (mr))), (zi, .inl (cy 2, 20, .inl (il)))] H locs := hW
      have q23 : r23 = nI (chks n) := p23
      subst q23
      refine iGe (a := c0) (b := chks n) (tgt := 40) hx hb dX5_check_26 (by decide) (by omega) (by omega) (fun h26 => ?_) (fun h26 => ?_)
      · skip
        exfalso; omega
      · skip
        refine lv_aload_n hx hb dX5_check_29 rfl (lv_at hl 0 rfl) ?_
        refine va_get (D := D) (ci := 5) (v := .ref zs) (C := RX5) (T := TX5) (N := 28) hx hb hts i_X5_check_0_X5 hown hK hW.1 0 rfl rfl 1 (by decide) (hts (.fieldLink RX5 13 "TreeHashesModel" "sizes" "[I") f_X5_check_0_1) (fun _ h9 => h9) rfl dX5_check_30 ?_
        refine lv_iload_n hx hb dX5_check_33 rfl (lv_at hl 1 rfl) ?_
        refine rI hx hb hK hW 1 rfl (k := ri) (by omega) (by omega) dX5_check_34 ?_
        refine tI (x' := nI (cnt)) (hsz) ?_
        refine lv_bipush (v := nI (32)) hx hb dX5_check_35 (by decide) ?_
        refine iEq (a := cnt) (b := 32) (tgt := 43) hx hb dX5_check_37 (by decide) (by omega) (by omega) (fun h37 => ?_) (fun h37 => ?_)
        · skip
          refine lv_iconst (v := nI (0)) hx hb dX5_check_43 (by decide) ?_
          refine lv_istore (lv' := [(4, .int (nI (0))), (0, .ref z0), (1, .int (nI (ri))), (2, .int (nI (n))), (3, .int (nI (c0)))]) hx hb dX5_check_44 hl (by decide) rfl (fun ls hl => ?_)
          refine lv_iconst (v := nI (0)) hx hb dX5_check_46 (by decide) ?_
          refine lv_istore (lv' := [(5, .int (nI (0))), (4, .int (nI (0))), (0, .ref z0), (1, .int (nI (ri))), (2, .int (nI (n))), (3, .int (nI (c0)))]) hx hb dX5_check_47 hl (by decide) rfl (fun ls hl => ?_)
          refine lv_iload_n hx hb dX5_check_49 rfl (lv_at hl 4 rfl) ?_
          refine kSi (As := [.int (nI (n))]) (rest := []) S0 hK hst hA hW [] (fun sz => c_X5_chunksOf l D cy t n (by omega) sz) rfl (by decide) (va_cwS 1 hts gX5_check_X5_chunksOf rfl rfl rfl (by decide +kernel) ⟨Nat.le_of_ble_eq_true rfl, Nat.le_of_ble_eq_true rfl⟩) (fun _ => rfl) rfl hl.1 rfl (Nat.le_of_ble_eq_true rfl) dX5_check_50 ⟨Nat.le_of_ble_eq_true rfl, Nat.le_of_ble_eq_true rfl⟩ (fun r50 u50 H locs p50 hW => ?_)
          have hW : Wd D A s [(z0, .inr (5, [.ref zr, .ref zs, .ref zt, .ref zc, .ref zm, .ref zk, .ref zh, .ref zd, .ref zf, .int (nI (ml)), .ref zp, .int (nI (mps)), .ref za, .ref ze, .int (be), .ref zn, .ref zb, .ref zv, .ref zw, .ref zo, .ref zq, .long (nu), .int (bq), .int (fg), .ref zl, .int (nI (hg)), .int (nI (cz)), .ref zi])), (zs, .inl (cy 0, 8, .inl (ms))), (zr, .inl (cy 0, 1600, .inl (mr))), (zi, .inl (cy 2, 20, .inl (il)))] H locs := hW
          have q50 : r50 = nI (chks n) := p50
          subst q50
          refine lv_istore (lv' := [(6, .int (nI (chks n))), (5, .int (nI (0))), (4, .int (nI (0))), (0, .ref z0), (1, .int (nI (ri))), (2, .int (nI (n))), (3, .int (nI (c0)))]) hx hb dX5_check_53 hl (by decide) rfl (fun ls hl => ?_)
          have loop55 : ∀ (nF : Nat) (i : Nat) (fi : Nat) (nu0 : Nat) (ix : Nat → Int32), 10 - i < nF → (i ≤ 10) → (wyS c0 (chks n) i = (fi, nu0)) → (∀ j, j < i → 1 < (wyS c0 (chks n) j).2) → (∀ j, j < i → ix j = nI (lf01 c0 (chks n) j)) → ∀ (H : Heap) (locs : List Loc), Wd D A s [(z0, .inr (5, [.ref zr, .ref zs, .ref zt, .ref zc, .ref zm, .ref zk, .ref zh, .ref zd, .ref zf, .int (nI (ml)), .ref zp, .int (nI (mps)), .ref za, .ref ze, .int (be), .ref zn, .ref zb, .ref zv, .ref zw, .ref zo, .ref zq, .long (nu), .int (bq), .int (fg), .ref zl, .int (nI (hg)), .int (nI (cz)), .ref zi])), (zs, .inl (cy 0, 8, .inl (ms))), (zr, .inl (cy 0, 1600, .inl (mr))), (zi, .inl (cy 2, 20, .inl (ix)))] H locs → ∀ ls : Array Slot, lv_has ls 12 [(0, .ref z0), (1, .int (nI (ri))), (2, .int (nI (n))), (3, .int (nI (c0))), (4, .int (nI (i))), (5, .int (nI (fi))), (6, .int (nI (nu0)))] → W p l e ({ frames := 1, cells := 0, slots := 0, locals := 21 }) s m args below meth c H locs 0 0 Q (F0 m 55 ls []) := by
            intro nF
            induction nF with
            | zero => intro i fi nu0 ix hf; exact absurd hf (Nat.not_lt_zero _)
            | succ nF ih55 =>
              intro i fi nu0 ix hf hi10 hst2 hlt hix H locs hW ls hl
              have hb9 := wyS_b hc0 i
              rw [hst2] at hb9
              have hb8 : fi + nu0 ≤ chks n ∧ fi ≤ c0 ∧ c0 < fi + nu0 := hb9
              have hb7 : nu0 ≤ 2 ^ (10 - i) := by have := wyS_p (c := c0) (n := chks n) (k := 10) (by omega) hi10; rw [hst2] at this; exact this
              refine lv_iload hx hb dX5_check_55 (lv_at hl 6 rfl) ?_
              refine lv_iconst (v := nI (1)) hx hb dX5_check_57 (by decide) ?_
              refine iLe (a := nu0) (b := 1) (tgt := 139) hx hb dX5_check_58 (by decide) (by omega) (by omega) (fun h58 => ?_) (fun h58 => ?_)
              · skip
                have hwl : wyL c0 (chks n) i := ⟨by rw [hst2]; exact h58, hlt⟩
                refine lv_iload_n hx hb dX5_check_139 rfl (lv_at hl 2 rfl) ?_
                refine lv_iload_n hx hb dX5_check_140 rfl (lv_at hl 3 rfl) ?_
                refine kSi (As := [.int (nI (n)), .int (nI (c0))]) (rest := []) S0 hK hst hA hW [] (fun sz => c_X5_chunkSize l D cy t n c0 (by omega) (by omega) sz) rfl (by decide) (va_cwS 2 hts gX5_check_X5_chunkSize rfl rfl rfl (by decide +kernel) ⟨Nat.le_of_ble_eq_true rfl, Nat.le_of_ble_eq_true rfl⟩) (fun _ => rfl) rfl hl.1 rfl (Nat.le_of_ble_eq_true rfl) dX5_check_141 ⟨Nat.le_of_ble_eq_true rfl, Nat.le_of_ble_eq_true rfl⟩ (fun r141 u141 H locs p141 hW => ?_)
                have hW : Wd D A s [(z0, .inr (5, [.ref zr, .ref zs, .ref zt, .ref zc, .ref zm, .ref zk, .ref zh, .ref zd, .ref zf, .int (nI (ml)), .ref zp, .int (nI (mps)), .ref za, .ref ze, .int (be), .ref zn, .ref zb, .ref zv, .ref zw, .ref zo, .ref zq, .long (nu), .int (bq), .int (fg), .ref zl, .int (nI (hg)), .int (nI (cz)), .ref zi])), (zs, .inl (cy 0, 8, .inl (ms))), (zr, .inl (cy 0, 1600, .inl (mr))), (zi, .inl (cy 2, 20, .inl (ix)))] H locs := hW
                have q141 : r141 = nI (cln n c0) := p141
                subst q141
                refine lv_istore (lv' := [(7, .int (nI (cln n c0))), (0, .ref z0), (1, .int (nI (ri))), (2, .int (nI (n))), (3, .int (nI (c0))), (4, .int (nI (i))), (5, .int (nI (fi))), (6, .int (nI (nu0)))]) hx hb dX5_check_144 hl (by decide) rfl (fun ls hl => ?_)
                refine lv_aload_n hx hb dX5_check_146 rfl (lv_at hl 1 rfl) ?_
                refine va_get (D := D) (ci := 5) (v := .int (nI (mps))) (C := RX5) (T := TX5) (N := 28) hx hb hts i_X5_check_0_X5 hown hK hW.1 0 rfl rfl 11 (by decide) (hts (.fieldLink RX5 188 "TreeHashesModel" "proofSize" "I") f_X5_check_0_3) (fun _ h9 => h9) rfl dX5_check_147 ?_
                refine lv_iload hx hb dX5_check_150 (lv_at hl 0 rfl) ?_
                refine lv_bipush (v := nI (32)) hx hb dX5_check_152 (by decide) ?_
                refine lv_iload hx hb dX5_check_154 (lv_at hl 5 rfl) ?_
                refine lv_imul hx hb dX5_check_156 ?_
                refine tI (pk_mul _ _) ?_
                refine lv_iadd hx hb dX5_check_157 ?_
                refine tI (nI_add _ _) ?_
                refine iEq (a := mps) (b := (cln n c0) + (32 * i)) (tgt := 163) hx hb dX5_check_158 (by decide) (by omega) (by omega) (fun h158 => ?_) (fun h158 => ?_)
                · skip
                  exact absurd h158 (hne _ hwl)
                · skip
                  refine lv_iconst (v := nI (0)) hx hb dX5_check_161 (by decide) ?_
                  exact eI hQ hx hb hr hlocks hK hW ix (rfl) (rfl) dX5_check_162
              · skip
                have hi9 : i < 10 := by rcases Nat.lt_or_ge i 10 with q | q; (exact q); (rw [show i = 10 from by omega] at hb7; have hb6 : nu0 ≤ 1 := hb7; omega)
                refine lv_iload hx hb dX5_check_61 (lv_at hl 6 rfl) ?_
                refine kSi (As := [.int (nI (nu0))]) (rest := []) S0 hK hst hA hW [] (fun sz => c_X5_leftOf l D cy t nu0 (by omega) sz) rfl (by decide) (va_cwS 1 hts gX5_check_X5_leftOf rfl rfl rfl (by decide +kernel) ⟨Nat.le_of_ble_eq_true rfl, Nat.le_of_ble_eq_true rfl⟩) (fun _ => rfl) rfl hl.1 rfl (Nat.le_of_ble_eq_true rfl) dX5_check_63 ⟨Nat.le_of_ble_eq_true rfl, Nat.le_of_ble_eq_true rfl⟩ (fun r63 u63 H locs p63 hW => ?_)
                have hW : Wd D A s [(z0, .inr (5, [.ref zr, .ref zs, .ref zt, .ref zc, .ref zm, .ref zk, .ref zh, .ref zd, .ref zf, .int (nI (ml)), .ref zp, .int (nI (mps)), .ref za, .ref ze, .int (be), .ref zn, .ref zb, .ref zv, .ref zw, .ref zo, .ref zq, .long (nu), .int (bq), .int (fg), .ref zl, .int (nI (hg)), .int (nI (cz)), .ref zi])), (zs, .inl (cy 0, 8, .inl (ms))), (zr, .inl (cy 0, 1600, .inl (mr))), (zi, .inl (cy 2, 20, .inl (ix)))] H locs := hW
                have q63 : r63 = nI (lft nu0) := p63
                subst q63
                refine lv_istore (lv' := [(7, .int (nI (lft nu0))), (0, .ref z0), (1, .int (nI (ri))), (2, .int (nI (n))), (3, .int (nI (c0))), (4, .int (nI (i))), (5, .int (nI (fi))), (6, .int (nI (nu0)))]) hx hb dX5_check_66 hl (by decide) rfl (fun ls hl => ?_)
                have hb5 := lft_lt h58
                have hb4 := lft_pos nu0
                refine lv_aload_n hx hb dX5_check_68 rfl (lv_at hl 1 rfl) ?_
                refine va_get (D := D) (ci := 5) (v := .ref zi) (C := RX5) (T := TX5) (N := 28) hx hb hts i_X5_check_0_X5 hown hK hW.1 0 rfl rfl 27 (by decide) (hts (.fieldLink RX5 68 "TreeHashesModel" "isLeft" "[Z") f_X5_check_0_4) (fun _ h9 => h9) rfl dX5_check_69 ?_
                refine lv_iload hx hb dX5_check_72 (lv_at hl 5 rfl) ?_
                refine lv_iload_n hx hb dX5_check_74 rfl (lv_at hl 4 rfl) ?_
                refine lv_iload hx hb dX5_check_75 (lv_at hl 6 rfl) ?_
                refine lv_iload hx hb dX5_check_77 (lv_at hl 0 rfl) ?_
                refine lv_iadd hx hb dX5_check_79 ?_
                refine tI (nI_add _ _) ?_
                refine iGe (a := c0) (b := fi + (lft nu0)) (tgt := 87) hx hb dX5_check_80 (by decide) (by omega) (by omega) (fun h80 => ?_) (fun h80 => ?_)
                · skip
                  refine lv_iconst (v := nI (0)) hx hb dX5_check_87 (by decide) ?_
                  refine wZ hx hb hK hW 3 rfl (k := i) (by omega) (by omega) (rfl) dX5_check_88 (fun H locs hW => ?_)
                  have hW : Wd D A s [(z0, .inr (5, [.ref zr, .ref zs, .ref zt, .ref zc, .ref zm, .ref zk, .ref zh, .ref zd, .ref zf, .int (nI (ml)), .ref zp, .int (nI (mps)), .ref za, .ref ze, .int (be), .ref zn, .ref zb, .ref zv, .ref zw, .ref zo, .ref zq, .long (nu), .int (bq), .int (fg), .ref zl, .int (nI (hg)), .int (nI (cz)), .ref zi])), (zs, .inl (cy 0, 8, .inl (ms))), (zr, .inl (cy 0, 1600, .inl (mr))), (zi, .inl (cy 2, 20, .inl (upd ix i (nI (0)))))] H locs := hW
                  refine lv_aload_n hx hb dX5_check_89 rfl (lv_at hl 1 rfl) ?_
                  refine va_get (D := D) (ci := 5) (v := .ref zi) (C := RX5) (T := TX5) (N := 28) hx hb hts i_X5_check_0_X5 hown hK hW.1 0 rfl rfl 27 (by decide) (hts (.fieldLink RX5 68 "TreeHashesModel" "isLeft" "[Z") f_X5_check_0_4) (fun _ h9 => h9) rfl dX5_check_90 ?_
                  refine lv_iload hx hb dX5_check_93 (lv_at hl 5 rfl) ?_
                  refine rZ hx hb hK hW 3 rfl (k := i) (by omega) (by omega) dX5_check_95 ?_
                  refine tI (x' := nI (0)) (pk_us) ?_
                  refine zEq (a := 0) (tgt := 104) hx hb dX5_check_96 (by decide) (by omega) (fun h96 => ?_) (fun h96 => ?_)
                  · skip
                    refine lv_iload hx hb dX5_check_104 (lv_at hl 6 rfl) ?_
                    refine lv_iload hx hb dX5_check_106 (lv_at hl 0 rfl) ?_
                    refine lv_iadd hx hb dX5_check_108 ?_
                    refine tI (nI_add _ _) ?_
                    refine lv_istore (lv' := [(5, .int (nI (fi + (lft nu0)))), (7, .int (nI (lft nu0))), (0, .ref z0), (1, .int (nI (ri))), (2, .int (nI (n))), (3, .int (nI (c0))), (4, .int (nI (i))), (6, .int (nI (nu0)))]) hx hb dX5_check_109 hl (by decide) rfl (fun ls hl => ?_)
                    refine lv_aload_n hx hb dX5_check_111 rfl (lv_at hl 2 rfl) ?_
                    refine va_get (D := D) (ci := 5) (v := .ref zi) (C := RX5) (T := TX5) (N := 28) hx hb hts i_X5_check_0_X5 hown hK hW.1 0 rfl rfl 27 (by decide) (hts (.fieldLink RX5 68 "TreeHashesModel" "isLeft" "[Z") f_X5_check_0_4) (fun _ h9 => h9) rfl dX5_check_112 ?_
                    refine lv_iload hx hb dX5_check_115 (lv_at hl 6 rfl) ?_
                    refine rZ hx hb hK hW 3 rfl (k := i) (by omega) (by omega) dX5_check_117 ?_
                    refine tI (x' := nI (0)) (pk_us) ?_
                    refine zEq (a := 0) (tgt := 126) hx hb dX5_check_118 (by decide) (by omega) (fun h118 => ?_) (fun h118 => ?_)
                    · skip
                      refine lv_iload hx hb dX5_check_126 (lv_at hl 7 rfl) ?_
                      refine lv_iload hx hb dX5_check_128 (lv_at hl 1 rfl) ?_
                      refine lv_isub hx hb dX5_check_130 ?_
                      refine tI (pk_sub (by omega)) ?_
                      refine lv_istore (lv' := [(6, .int (nI (nu0 - (lft nu0)))), (5, .int (nI (fi + (lft nu0)))), (7, .int (nI (lft nu0))), (0, .ref z0), (1, .int (nI (ri))), (2, .int (nI (n))), (3, .int (nI (c0))), (4, .int (nI (i)))]) hx hb dX5_check_131 hl (by decide) rfl (fun ls hl => ?_)
                      refine lv_iinc (v := nI (i + 1)) (lv' := [(4, .int (nI (i + 1))), (6, .int (nI (nu0 - (lft nu0)))), (5, .int (nI (fi + (lft nu0)))), (7, .int (nI (lft nu0))), (0, .ref z0), (1, .int (nI (ri))), (2, .int (nI (n))), (3, .int (nI (c0)))]) hx hb dX5_check_133 hl (k := 7) rfl (nI_1 _) (by decide) rfl (fun ls hl => ?_)
                      refine lv_goto (tgt := 55) hx hb dX5_check_136 (by decide) ?_
                      obtain ⟨e1, e2, e3⟩ := wyS_r hst2 h80
                      exact ih55 (i + 1) (fi + (lft nu0)) (nu0 - (lft nu0)) (upd ix i (nI (0))) (by omega) (by omega) (e1) (by intro j hj; rcases Nat.lt_succ_iff_lt_or_eq.mp hj with q | q; (exact hlt j q); (rw [q, hst2]; exact h58)) (by intro j hj; rcases Nat.lt_succ_iff_lt_or_eq.mp hj with q | q; (rw [pk_un (by omega)]; exact hix j q); (rw [q, pk_us]; exact lf01_r hst2 h80)) _ _ hW _ (lv_sub hl [4, 5, 6, 7, 0, 2, 1] rfl)
                    · skip
                      exfalso; omega
                  · skip
                    exfalso; omega
                · skip
                  refine lv_iconst (v := nI (1)) hx hb dX5_check_83 (by decide) ?_
                  refine lv_goto (tgt := 88) hx hb dX5_check_84 (by decide) ?_
                  refine wZ hx hb hK hW 3 rfl (k := i) (by omega) (by omega) (rfl) dX5_check_88 (fun H locs hW => ?_)
                  have hW : Wd D A s [(z0, .inr (5, [.ref zr, .ref zs, .ref zt, .ref zc, .ref zm, .ref zk, .ref zh, .ref zd, .ref zf, .int (nI (ml)), .ref zp, .int (nI (mps)), .ref za, .ref ze, .int (be), .ref zn, .ref zb, .ref zv, .ref zw, .ref zo, .ref zq, .long (nu), .int (bq), .int (fg), .ref zl, .int (nI (hg)), .int (nI (cz)), .ref zi])), (zs, .inl (cy 0, 8, .inl (ms))), (zr, .inl (cy 0, 1600, .inl (mr))), (zi, .inl (cy 2, 20, .inl (upd ix i (nI (1)))))] H locs := hW
                  refine lv_aload_n hx hb dX5_check_89 rfl (lv_at hl 1 rfl) ?_
                  refine va_get (D := D) (ci := 5) (v := .ref zi) (C := RX5) (T := TX5) (N := 28) hx hb hts i_X5_check_0_X5 hown hK hW.1 0 rfl rfl 27 (by decide) (hts (.fieldLink RX5 68 "TreeHashesModel" "isLeft" "[Z") f_X5_check_0_4) (fun _ h9 => h9) rfl dX5_check_90 ?_
                  refine lv_iload hx hb dX5_check_93 (lv_at hl 5 rfl) ?_
                  refine rZ hx hb hK hW 3 rfl (k := i) (by omega) (by omega) dX5_check_95 ?_
                  refine tI (x' := nI (1)) (pk_us) ?_
                  refine zEq (a := 1) (tgt := 104) hx hb dX5_check_96 (by decide) (by omega) (fun h96 => ?_) (fun h96 => ?_)
                  · skip
                    exfalso; omega
                  · skip
                    refine lv_iload hx hb dX5_check_99 (lv_at hl 6 rfl) ?_
                    refine lv_goto (tgt := 109) hx hb dX5_check_101 (by decide) ?_
                    refine lv_istore (lv' := [(5, .int (nI (fi))), (7, .int (nI (lft nu0))), (0, .ref z0), (1, .int (nI (ri))), (2, .int (nI (n))), (3, .int (nI (c0))), (4, .int (nI (i))), (6, .int (nI (nu0)))]) hx hb dX5_check_109 hl (by decide) rfl (fun ls hl => ?_)
                    refine lv_aload_n hx hb dX5_check_111 rfl (lv_at hl 2 rfl) ?_
                    refine va_get (D := D) (ci := 5) (v := .ref zi) (C := RX5) (T := TX5) (N := 28) hx hb hts i_X5_check_0_X5 hown hK hW.1 0 rfl rfl 27 (by decide) (hts (.fieldLink RX5 68 "TreeHashesModel" "isLeft" "[Z") f_X5_check_0_4) (fun _ h9 => h9) rfl dX5_check_112 ?_
                    refine lv_iload hx hb dX5_check_115 (lv_at hl 6 rfl) ?_
                    refine rZ hx hb hK hW 3 rfl (k := i) (by omega) (by omega) dX5_check_117 ?_
                    refine tI (x' := nI (1)) (pk_us) ?_
                    refine zEq (a := 1) (tgt := 126) hx hb dX5_check_118 (by decide) (by omega) (fun h118 => ?_) (fun h118 => ?_)
                    · skip
                      exfalso; omega
                    · skip
                      refine lv_iload hx hb dX5_check_121 (lv_at hl 1 rfl) ?_
                      refine lv_goto (tgt := 131) hx hb dX5_check_123 (by decide) ?_
                      refine lv_istore (lv' := [(6, .int (nI (lft nu0))), (5, .int (nI (fi))), (7, .int (nI (lft nu0))), (0, .ref z0), (1, .int (nI (ri))), (2, .int (nI (n))), (3, .int (nI (c0))), (4, .int (nI (i)))]) hx hb dX5_check_131 hl (by decide) rfl (fun ls hl => ?_)
                      refine lv_iinc (v := nI (i + 1)) (lv' := [(4, .int (nI (i + 1))), (6, .int (nI (lft nu0))), (5, .int (nI (fi))), (7, .int (nI (lft nu0))), (0, .ref z0), (1, .int (nI (ri))), (2, .int (nI (n))), (3, .int (nI (c0)))]) hx hb dX5_check_133 hl (k := 7) rfl (nI_1 _) (by decide) rfl (fun ls hl => ?_)
                      refine lv_goto (tgt := 55) hx hb dX5_check_136 (by decide) ?_
                      obtain ⟨e1, e2, e3⟩ := wyS_l hst2 h80
                      exact ih55 (i + 1) fi (lft nu0) (upd ix i (nI (1))) (by omega) (by omega) (e1) (by intro j hj; rcases Nat.lt_succ_iff_lt_or_eq.mp hj with q | q; (exact hlt j q); (rw [q, hst2]; exact h58)) (by intro j hj; rcases Nat.lt_succ_iff_lt_or_eq.mp hj with q | q; (rw [pk_un (by omega)]; exact hix j q); (rw [q, pk_us]; exact lf01_l hst2 h80)) _ _ hW _ (lv_sub hl [4, 5, 6, 7, 0, 2, 1] rfl)
          exact loop55 _ 0 0 (chks n) il (Nat.lt_succ_self _) (by omega) (rfl) (lt_0) (lt_0) _ _ hW _ (lv_sub hl [3, 4, 5, 6, 2, 1, 0] rfl)
        · skip
          exfalso; omega
