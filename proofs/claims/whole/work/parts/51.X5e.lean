set_option maxHeartbeats 4000000 in
set_option maxRecDepth 100000 in
theorem c_X5_copy_b (l : Launch) (D : va_G) (cy : Nat → ClassId) (t : Nat × Nat) (z0 : Nat) (zr : Nat) (zs : Nat) (zt : Nat) (zc : Nat) (zm : Nat) (zk : Nat) (zh : Nat) (zd : Nat) (zf : Nat) (ml : Nat) (zp : Nat) (mps : Nat) (za : Nat) (ze : Nat) (be : Int32) (zn : Nat) (zb : Nat) (zv : Nat) (zw : Nat) (zo : Nat) (zq : Nat) (nu : Int64) (bq : Int32) (fg : Int32) (zl : Nat) (hg : Nat) (cz : Nat) (zi : Nat) (x : Int32) (y : Int32) (hbd : x < 0 ∨ nI 4 ≤ x) (sz : Nat) : Met l yX5_copy wsX5_copy ({ frames := 1, cells := 0, slots := 0, locals := 20 }) (PcW D cy t [(z0, .inr (5, [.ref zr, .ref zs, .ref zt, .ref zc, .ref zm, .ref zk, .ref zh, .ref zd, .ref zf, .int (nI (ml)), .ref zp, .int (nI (mps)), .ref za, .ref ze, .int (be), .ref zn, .ref zb, .ref zv, .ref zw, .ref zo, .ref zq, .long (nu), .int (bq), .int (fg), .ref zl, .int (nI (hg)), .int (nI (cz)), .ref zi]))] [.ref z0, .int (x), .int (y)] sz) (QiA D cy (fun (r : Int32) (u : Unit) => (r = (-2 : Int32))) (fun u : Unit => [(z0, .inr (5, [.ref zr, .ref zs, .ref zt, .ref zc, .ref zm, .ref zk, .ref zh, .ref zd, .ref zf, .int (nI (ml)), .ref zp, .int (nI (mps)), .ref za, .ref ze, .int (be), .ref zn, .ref zb, .ref zv, .ref zw, .ref zo, .ref zq, .long (nu), .int (bq), .int (fg), .ref zl, .int (nI (hg)), .int (nI (cz)), .ref zi]))]) (va_A [(z0, .inr (5, [.ref zr, .ref zs, .ref zt, .ref zc, .ref zm, .ref zk, .ref zh, .ref zd, .ref zf, .int (nI (ml)), .ref zp, .int (nI (mps)), .ref za, .ref ze, .int (be), .ref zn, .ref zb, .ref zv, .ref zw, .ref zo, .ref zq, .long (nu), .int (bq), .int (fg), .ref zl, .int (nI (hg)), .int (nI (cz)), .ref zi]))] sz)) 0 0 (va_A [(z0, .inr (5, [.ref zr, .ref zs, .ref zt, .ref zc, .ref zm, .ref zk, .ref zh, .ref zd, .ref zf, .int (nI (ml)), .ref zp, .int (nI (mps)), .ref za, .ref ze, .int (be), .ref zn, .ref zb, .ref zv, .ref zw, .ref zo, .ref zq, .long (nu), .int (bq), .int (fg), .ref zl, .int (nI (hg)), .int (nI (cz)), .ref zi]))] sz) := by
  refine M_ofW (cc := cX5_copy) (maxL := 4) (ret := (some .int)) (by decide) rfl (Nat.le_of_ble_eq_true rfl) ?_
  intro p e s m below meth c A ls args Q hQ S0 hr hlocks hnm hK hst hA hW hl
  have hx := S0.1; have hb := S0.2.1; have hml := S0.2.2.1; have hown := S0.2.2.2.1; have hts := S0.2.2.2.2
  have hl : lv_has ls 4 [(0, .ref z0), (1, .int (x)), (2, .int (y))] := hl
  refine lv_iload_n hx hb dX5_copy_0 rfl (lv_at hl 1 rfl) ?_
  refine kSi (As := [.int (x)]) (rest := []) S0 hK hst hA hW [] (fun sz => c_X5_isHasher_b l D cy t x (hbd) sz) rfl (by decide) (va_cwS 1 hts gX5_copy_X5_isHasher rfl rfl rfl (by decide +kernel) ⟨Nat.le_of_ble_eq_true rfl, Nat.le_of_ble_eq_true rfl⟩) (fun _ => rfl) rfl hl.1 rfl (Nat.le_of_ble_eq_true rfl) dX5_copy_1 ⟨Nat.le_of_ble_eq_true rfl, Nat.le_of_ble_eq_true rfl⟩ (fun r1 u1 H locs p1 hW => ?_)
  have hW : Wd D A s [(z0, .inr (5, [.ref zr, .ref zs, .ref zt, .ref zc, .ref zm, .ref zk, .ref zh, .ref zd, .ref zf, .int (nI (ml)), .ref zp, .int (nI (mps)), .ref za, .ref ze, .int (be), .ref zn, .ref zb, .ref zv, .ref zw, .ref zo, .ref zq, .long (nu), .int (bq), .int (fg), .ref zl, .int (nI (hg)), .int (nI (cz)), .ref zi]))] H locs := hW
  have q1 : r1 = nI (0) := p1
  subst q1
  refine zEq (a := 0) (tgt := 14) hx hb dX5_copy_4 (by decide) (by omega) (fun h4 => ?_) (fun h4 => ?_)
  · skip
    refine lv_bipush (v := (-2 : Int32)) hx hb dX5_copy_14 (by decide) ?_
    exact eI hQ hx hb hr hlocks hK hW () (rfl) (rfl) dX5_copy_16
  · skip
    exfalso; omega

set_option maxHeartbeats 4000000 in
set_option maxRecDepth 100000 in
theorem c_X5_copy_b2 (l : Launch) (D : va_G) (cy : Nat → ClassId) (t : Nat × Nat) (z0 : Nat) (zr : Nat) (zs : Nat) (zt : Nat) (zc : Nat) (zm : Nat) (zk : Nat) (zh : Nat) (zd : Nat) (zf : Nat) (ml : Nat) (zp : Nat) (mps : Nat) (za : Nat) (ze : Nat) (be : Int32) (zn : Nat) (zb : Nat) (zv : Nat) (zw : Nat) (zo : Nat) (zq : Nat) (nu : Int64) (bq : Int32) (fg : Int32) (zl : Nat) (hg : Nat) (cz : Nat) (zi : Nat) (hj : Nat) (x : Int32) (hj4 : hj < 4) (hbd : x < 0 ∨ nI 4 ≤ x) (sz : Nat) : Met l yX5_copy wsX5_copy ({ frames := 1, cells := 0, slots := 0, locals := 20 }) (PcW D cy t [(z0, .inr (5, [.ref zr, .ref zs, .ref zt, .ref zc, .ref zm, .ref zk, .ref zh, .ref zd, .ref zf, .int (nI (ml)), .ref zp, .int (nI (mps)), .ref za, .ref ze, .int (be), .ref zn, .ref zb, .ref zv, .ref zw, .ref zo, .ref zq, .long (nu), .int (bq), .int (fg), .ref zl, .int (nI (hg)), .int (nI (cz)), .ref zi]))] [.ref z0, .int (nI (hj)), .int (x)] sz) (QiA D cy (fun (r : Int32) (u : Unit) => (r = (-2 : Int32))) (fun u : Unit => [(z0, .inr (5, [.ref zr, .ref zs, .ref zt, .ref zc, .ref zm, .ref zk, .ref zh, .ref zd, .ref zf, .int (nI (ml)), .ref zp, .int (nI (mps)), .ref za, .ref ze, .int (be), .ref zn, .ref zb, .ref zv, .ref zw, .ref zo, .ref zq, .long (nu), .int (bq), .int (fg), .ref zl, .int (nI (hg)), .int (nI (cz)), .ref zi]))]) (va_A [(z0, .inr (5, [.ref zr, .ref zs, .ref zt, .ref zc, .ref zm, .ref zk, .ref zh, .ref zd, .ref zf, .int (nI (ml)), .ref zp, .int (nI (mps)), .ref za, .ref ze, .int (be), .ref zn, .ref zb, .ref zv, .ref zw, .ref zo, .ref zq, .long (nu), .int (bq), .int (fg), .ref zl, .int (nI (hg)), .int (nI (cz)), .ref zi]))] sz)) 0 0 (va_A [(z0, .inr (5, [.ref zr, .ref zs, .ref zt, .ref zc, .ref zm, .ref zk, .ref zh, .ref zd, .ref zf, .int (nI (ml)), .ref zp, .int (nI (mps)), .ref za, .ref ze, .int (be), .ref zn, .ref zb, .ref zv, .ref zw, .ref zo, .ref zq, .long (nu), .int (bq), .int (fg), .ref zl, .int (nI (hg)), .int (nI (cz)), .ref zi]))] sz) := by
  refine M_ofW (cc := cX5_copy) (maxL := 4) (ret := (some .int)) (by decide) rfl (Nat.le_of_ble_eq_true rfl) ?_
  intro p e s m below meth c A ls args Q hQ S0 hr hlocks hnm hK hst hA hW hl
  have hx := S0.1; have hb := S0.2.1; have hml := S0.2.2.1; have hown := S0.2.2.2.1; have hts := S0.2.2.2.2
  have hl : lv_has ls 4 [(0, .ref z0), (1, .int (nI (hj))), (2, .int (x))] := hl
  refine lv_iload_n hx hb dX5_copy_0 rfl (lv_at hl 1 rfl) ?_
  refine kSi (As := [.int (nI (hj))]) (rest := []) S0 hK hst hA hW [] (fun sz => c_X5_isHasher l D cy t hj (by omega) sz) rfl (by decide) (va_cwS 1 hts gX5_copy_X5_isHasher rfl rfl rfl (by decide +kernel) ⟨Nat.le_of_ble_eq_true rfl, Nat.le_of_ble_eq_true rfl⟩) (fun _ => rfl) rfl hl.1 rfl (Nat.le_of_ble_eq_true rfl) dX5_copy_1 ⟨Nat.le_of_ble_eq_true rfl, Nat.le_of_ble_eq_true rfl⟩ (fun r1 u1 H locs p1 hW => ?_)
  have hW : Wd D A s [(z0, .inr (5, [.ref zr, .ref zs, .ref zt, .ref zc, .ref zm, .ref zk, .ref zh, .ref zd, .ref zf, .int (nI (ml)), .ref zp, .int (nI (mps)), .ref za, .ref ze, .int (be), .ref zn, .ref zb, .ref zv, .ref zw, .ref zo, .ref zq, .long (nu), .int (bq), .int (fg), .ref zl, .int (nI (hg)), .int (nI (cz)), .ref zi]))] H locs := hW
  have q1 : r1 = nI (1) := p1
  subst q1
  refine zEq (a := 1) (tgt := 14) hx hb dX5_copy_4 (by decide) (by omega) (fun h4 => ?_) (fun h4 => ?_)
  · skip
    exfalso; omega
  · skip
    refine lv_iload_n hx hb dX5_copy_7 rfl (lv_at hl 2 rfl) ?_
    refine kSi (As := [.int (x)]) (rest := []) S0 hK hst hA hW [] (fun sz => c_X5_isHasher_b l D cy t x (hbd) sz) rfl (by decide) (va_cwS 1 hts gX5_copy_X5_isHasher rfl rfl rfl (by decide +kernel) ⟨Nat.le_of_ble_eq_true rfl, Nat.le_of_ble_eq_true rfl⟩) (fun _ => rfl) rfl hl.1 rfl (Nat.le_of_ble_eq_true rfl) dX5_copy_8 ⟨Nat.le_of_ble_eq_true rfl, Nat.le_of_ble_eq_true rfl⟩ (fun r8 u8 H locs p8 hW => ?_)
    have hW : Wd D A s [(z0, .inr (5, [.ref zr, .ref zs, .ref zt, .ref zc, .ref zm, .ref zk, .ref zh, .ref zd, .ref zf, .int (nI (ml)), .ref zp, .int (nI (mps)), .ref za, .ref ze, .int (be), .ref zn, .ref zb, .ref zv, .ref zw, .ref zo, .ref zq, .long (nu), .int (bq), .int (fg), .ref zl, .int (nI (hg)), .int (nI (cz)), .ref zi]))] H locs := hW
    have q8 : r8 = nI (0) := p8
    subst q8
    refine zNe (a := 0) (tgt := 17) hx hb dX5_copy_11 (by decide) (by omega) (fun h11 => ?_) (fun h11 => ?_)
    · skip
      exfalso; omega
    · skip
      refine lv_bipush (v := (-2 : Int32)) hx hb dX5_copy_14 (by decide) ?_
      exact eI hQ hx hb hr hlocks hK hW () (rfl) (rfl) dX5_copy_16

theorem f_X5_copy_0 : Cond.fieldLink RX5 20 "TreeHashesModel" "count" "[I" ∈ wsX5_copy := by decide +kernel
theorem i_X5_copy_X5 : ∀ w ∈ wsX50, w ∈ wsX5_copy := by decide +kernel
theorem f_X5_copy_2 : Cond.fieldLink RX5 23 "TreeHashesModel" "mode" "[I" ∈ wsX5_copy := by decide +kernel
theorem f_X5_copy_3 : Cond.fieldLink RX5 32 "TreeHashesModel" "made" "[I" ∈ wsX5_copy := by decide +kernel
theorem f_X5_copy_4 : Cond.fieldLink RX5 29 "TreeHashesModel" "chains" "[I" ∈ wsX5_copy := by decide +kernel
theorem f_X5_copy_5 : Cond.fieldLink RX5 26 "TreeHashesModel" "keys" "[I" ∈ wsX5_copy := by decide +kernel
theorem f_X5_copy_6 : Cond.fieldLink RX5 17 "TreeHashesModel" "taken" "[I" ∈ wsX5_copy := by decide +kernel
theorem f_X5_copy_7 : Cond.constant RX5 146 (40000) ∈ wsX5_copy := by decide +kernel
set_option maxHeartbeats 4000000 in
set_option maxRecDepth 100000 in
theorem c_X5_copy (l : Launch) (D : va_G) (cy : Nat → ClassId) (t : Nat × Nat) (z0 : Nat) (zr : Nat) (zs : Nat) (zt : Nat) (zc : Nat) (zm : Nat) (zk : Nat) (zh : Nat) (zd : Nat) (zf : Nat) (ml : Nat) (zp : Nat) (mps : Nat) (za : Nat) (ze : Nat) (be : Int32) (zn : Nat) (zb : Nat) (zv : Nat) (zw : Nat) (zo : Nat) (zq : Nat) (nu : Int64) (bq : Int32) (fg : Int32) (zl : Nat) (hg : Nat) (cz : Nat) (zi : Nat) (mt : Nat → Int32) (mcn : Nat → Int32) (mmd : Nat → Int32) (mk : Nat → Int32) (mh : Nat → Int32) (mdn : Nat → Int32) (fj : Nat) (hj : Nat) (nt : Nat) (hj4 : hj < 4) (fj4 : fj < 4) (hct : mcn fj = nI nt) (hnt : nt ≤ 40000) (sz : Nat) : Met l yX5_copy wsX5_copy ({ frames := 1, cells := 0, slots := 0, locals := 20 }) (PcW D cy t [(z0, .inr (5, [.ref zr, .ref zs, .ref zt, .ref zc, .ref zm, .ref zk, .ref zh, .ref zd, .ref zf, .int (nI (ml)), .ref zp, .int (nI (mps)), .ref za, .ref ze, .int (be), .ref zn, .ref zb, .ref zv, .ref zw, .ref zo, .ref zq, .long (nu), .int (bq), .int (fg), .ref zl, .int (nI (hg)), .int (nI (cz)), .ref zi])), (zt, .inl (cy 0, 160000, .inl (mt))), (zc, .inl (cy 0, 4, .inl (mcn))), (zm, .inl (cy 0, 4, .inl (mmd))), (zk, .inl (cy 0, 32, .inl (mk))), (zh, .inl (cy 0, 1280, .inl (mh))), (zd, .inl (cy 0, 4, .inl (mdn)))] [.ref z0, .int (nI (fj)), .int (nI (hj))] sz) (QiA D cy (fun (r : Int32) (u : Unit) => (r = nI (nt))) (fun u : Unit => [(z0, .inr (5, [.ref zr, .ref zs, .ref zt, .ref zc, .ref zm, .ref zk, .ref zh, .ref zd, .ref zf, .int (nI (ml)), .ref zp, .int (nI (mps)), .ref za, .ref ze, .int (be), .ref zn, .ref zb, .ref zv, .ref zw, .ref zo, .ref zq, .long (nu), .int (bq), .int (fg), .ref zl, .int (nI (hg)), .int (nI (cz)), .ref zi])), (zt, .inl (cy 0, 160000, .inl (apG mt (40000 * hj) (fun i => mt (40000 * fj + i)) nt))), (zc, .inl (cy 0, 4, .inl (upd mcn hj (nI nt)))), (zm, .inl (cy 0, 4, .inl (upd mmd hj (mmd fj)))), (zk, .inl (cy 0, 32, .inl (apG mk (8 * hj) (fun k => mk (8 * fj + k)) 8))), (zh, .inl (cy 0, 1280, .inl (apG mh (320 * hj) (fun k => mh (320 * fj + k)) 320))), (zd, .inl (cy 0, 4, .inl (upd mdn hj (mdn fj))))]) (va_A [(z0, .inr (5, [.ref zr, .ref zs, .ref zt, .ref zc, .ref zm, .ref zk, .ref zh, .ref zd, .ref zf, .int (nI (ml)), .ref zp, .int (nI (mps)), .ref za, .ref ze, .int (be), .ref zn, .ref zb, .ref zv, .ref zw, .ref zo, .ref zq, .long (nu), .int (bq), .int (fg), .ref zl, .int (nI (hg)), .int (nI (cz)), .ref zi])), (zt, .inl (cy 0, 160000, .inl (mt))), (zc, .inl (cy 0, 4, .inl (mcn))), (zm, .inl (cy 0, 4, .inl (mmd))), (zk, .inl (cy 0, 32, .inl (mk))), (zh, .inl (cy 0, 1280, .inl (mh))), (zd, .inl (cy 0, 4, .inl (mdn)))] sz)) 0 0 (va_A [(z0, .inr (5, [.ref zr, .ref zs, .ref zt, .ref zc, .ref zm, .ref zk, .ref zh, .ref zd, .ref zf, .int (nI (ml)), .ref zp, .int (nI (mps)), .ref za, .ref ze, .int (be), .ref zn, .ref zb, .ref zv, .ref zw, .ref zo, .ref zq, .long (nu), .int (bq), .int (fg), .ref zl, .int (nI (hg)), .int (nI (cz)), .ref zi])), (zt, .inl (cy 0, 160000, .inl (mt))), (zc, .inl (cy 0, 4, .inl (mcn))), (zm, .inl (cy 0, 4, .inl (mmd))), (zk, .inl (cy 0, 32, .inl (mk))), (zh, .inl (cy 0, 1280, .inl (mh))), (zd, .inl (cy 0, 4, .inl (mdn)))] sz) := by
  refine M_ofW (cc := cX5_copy) (maxL := 4) (ret := (some .int)) (by decide) rfl (Nat.le_of_ble_eq_true rfl) ?_
  intro p e s m below meth c A ls args Q hQ S0 hr hlocks hnm hK hst hA hW hl
  have hx := S0.1; have hb := S0.2.1; have hml := S0.2.2.1; have hown := S0.2.2.2.1; have hts := S0.2.2.2.2
  have hl : lv_has ls 4 [(0, .ref z0), (1, .int (nI (fj))), (2, .int (nI (hj)))] := hl
  refine lv_iload_n hx hb dX5_copy_0 rfl (lv_at hl 1 rfl) ?_
  refine kSi (As := [.int (nI (fj))]) (rest := []) S0 hK hst hA hW [] (fun sz => c_X5_isHasher l D cy t fj (by omega) sz) rfl (by decide) (va_cwS 1 hts gX5_copy_X5_isHasher rfl rfl rfl (by decide +kernel) ⟨Nat.le_of_ble_eq_true rfl, Nat.le_of_ble_eq_true rfl⟩) (fun _ => rfl) rfl hl.1 rfl (Nat.le_of_ble_eq_true rfl) dX5_copy_1 ⟨Nat.le_of_ble_eq_true rfl, Nat.le_of_ble_eq_true rfl⟩ (fun r1 u1 H locs p1 hW => ?_)
  have hW : Wd D A s [(z0, .inr (5, [.ref zr, .ref zs, .ref zt, .ref zc, .ref zm, .ref zk, .ref zh, .ref zd, .ref zf, .int (nI (ml)), .ref zp, .int (nI (mps)), .ref za, .ref ze, .int (be), .ref zn, .ref zb, .ref zv, .ref zw, .ref zo, .ref zq, .long (nu), .int (bq), .int (fg), .ref zl, .int (nI (hg)), .int (nI (cz)), .ref zi])), (zt, .inl (cy 0, 160000, .inl (mt))), (zc, .inl (cy 0, 4, .inl (mcn))), (zm, .inl (cy 0, 4, .inl (mmd))), (zk, .inl (cy 0, 32, .inl (mk))), (zh, .inl (cy 0, 1280, .inl (mh))), (zd, .inl (cy 0, 4, .inl (mdn)))] H locs := hW
  have q1 : r1 = nI (1) := p1
  subst q1
  refine zEq (a := 1) (tgt := 14) hx hb dX5_copy_4 (by decide) (by omega) (fun h4 => ?_) (fun h4 => ?_)
  · skip
    exfalso; omega
  · skip
    refine lv_iload_n hx hb dX5_copy_7 rfl (lv_at hl 2 rfl) ?_
    refine kSi (As := [.int (nI (hj))]) (rest := []) S0 hK hst hA hW [] (fun sz => c_X5_isHasher l D cy t hj (by omega) sz) rfl (by decide) (va_cwS 1 hts gX5_copy_X5_isHasher rfl rfl rfl (by decide +kernel) ⟨Nat.le_of_ble_eq_true rfl, Nat.le_of_ble_eq_true rfl⟩) (fun _ => rfl) rfl hl.1 rfl (Nat.le_of_ble_eq_true rfl) dX5_copy_8 ⟨Nat.le_of_ble_eq_true rfl, Nat.le_of_ble_eq_true rfl⟩ (fun r8 u8 H locs p8 hW => ?_)
    have hW : Wd D A s [(z0, .inr (5, [.ref zr, .ref zs, .ref zt, .ref zc, .ref zm, .ref zk, .ref zh, .ref zd, .ref zf, .int (nI (ml)), .ref zp, .int (nI (mps)), .ref za, .ref ze, .int (be), .ref zn, .ref zb, .ref zv, .ref zw, .ref zo, .ref zq, .long (nu), .int (bq), .int (fg), .ref zl, .int (nI (hg)), .int (nI (cz)), .ref zi])), (zt, .inl (cy 0, 160000, .inl (mt))), (zc, .inl (cy 0, 4, .inl (mcn))), (zm, .inl (cy 0, 4, .inl (mmd))), (zk, .inl (cy 0, 32, .inl (mk))), (zh, .inl (cy 0, 1280, .inl (mh))), (zd, .inl (cy 0, 4, .inl (mdn)))] H locs := hW
    have q8 : r8 = nI (1) := p8
    subst q8
    refine zNe (a := 1) (tgt := 17) hx hb dX5_copy_11 (by decide) (by omega) (fun h11 => ?_) (fun h11 => ?_)
    · skip
      refine lv_iconst (v := nI (0)) hx hb dX5_copy_17 (by decide) ?_
      refine lv_istore_n (lv' := [(3, .int (nI (0))), (0, .ref z0), (1, .int (nI (fj))), (2, .int (nI (hj)))]) hx hb dX5_copy_18 rfl hl (by decide) rfl (fun ls hl => ?_)
      have loop19 : ∀ (nF : Nat) (i : Nat), nt - i < nF → (i ≤ nt) → ∀ (H : Heap) (locs : List Loc), Wd D A s [(z0, .inr (5, [.ref zr, .ref zs, .ref zt, .ref zc, .ref zm, .ref zk, .ref zh, .ref zd, .ref zf, .int (nI (ml)), .ref zp, .int (nI (mps)), .ref za, .ref ze, .int (be), .ref zn, .ref zb, .ref zv, .ref zw, .ref zo, .ref zq, .long (nu), .int (bq), .int (fg), .ref zl, .int (nI (hg)), .int (nI (cz)), .ref zi])), (zt, .inl (cy 0, 160000, .inl (apG mt (40000 * hj) (fun i => mt (40000 * fj + i)) i))), (zc, .inl (cy 0, 4, .inl (mcn))), (zm, .inl (cy 0, 4, .inl (mmd))), (zk, .inl (cy 0, 32, .inl (mk))), (zh, .inl (cy 0, 1280, .inl (mh))), (zd, .inl (cy 0, 4, .inl (mdn)))] H locs → ∀ ls : Array Slot, lv_has ls 4 [(0, .ref z0), (1, .int (nI (fj))), (2, .int (nI (hj))), (3, .int (nI (i)))] → W p l e ({ frames := 1, cells := 0, slots := 0, locals := 20 }) s m args below meth c H locs 0 0 Q (F0 m 19 ls []) := by
        intro nF
        induction nF with
        | zero => intro i hf; exact absurd hf (Nat.not_lt_zero _)
        | succ nF ih19 =>
          intro i hf hi H locs hW ls hl
          refine lv_iload_n hx hb dX5_copy_19 rfl (lv_at hl 3 rfl) ?_
          refine lv_aload_n hx hb dX5_copy_20 rfl (lv_at hl 0 rfl) ?_
          refine va_get (D := D) (ci := 5) (v := .ref zc) (C := RX5) (T := TX5) (N := 28) hx hb hts i_X5_copy_X5 hown hK hW.1 0 rfl rfl 3 (by decide) (hts (.fieldLink RX5 20 "TreeHashesModel" "count" "[I") f_X5_copy_0) (fun _ h9 => h9) rfl dX5_copy_21 ?_
          refine lv_iload_n hx hb dX5_copy_24 rfl (lv_at hl 1 rfl) ?_
          refine rI hx hb hK hW 2 rfl (k := fj) (by omega) (by omega) dX5_copy_25 ?_
          refine tI (x' := nI (nt)) (hct) ?_
          refine iGe (a := i) (b := nt) (tgt := 57) hx hb dX5_copy_26 (by decide) (by omega) (by omega) (fun h26 => ?_) (fun h26 => ?_)
          · skip
            have e9 : i = nt := by omega
            rw [e9] at hW
            refine lv_iconst (v := nI (0)) hx hb dX5_copy_57 (by decide) ?_
            refine lv_istore_n (lv' := [(3, .int (nI (0))), (0, .ref z0), (1, .int (nI (fj))), (2, .int (nI (hj)))]) hx hb dX5_copy_58 rfl hl (by decide) rfl (fun ls hl => ?_)
            have loop59 : ∀ (nF : Nat) (i : Nat), 8 - i < nF → (i ≤ 8) → ∀ (H : Heap) (locs : List Loc), Wd D A s [(z0, .inr (5, [.ref zr, .ref zs, .ref zt, .ref zc, .ref zm, .ref zk, .ref zh, .ref zd, .ref zf, .int (nI (ml)), .ref zp, .int (nI (mps)), .ref za, .ref ze, .int (be), .ref zn, .ref zb, .ref zv, .ref zw, .ref zo, .ref zq, .long (nu), .int (bq), .int (fg), .ref zl, .int (nI (hg)), .int (nI (cz)), .ref zi])), (zt, .inl (cy 0, 160000, .inl (apG mt (40000 * hj) (fun i => mt (40000 * fj + i)) nt))), (zc, .inl (cy 0, 4, .inl (mcn))), (zm, .inl (cy 0, 4, .inl (mmd))), (zk, .inl (cy 0, 32, .inl (apG mk (8 * hj) (fun k => mk (8 * fj + k)) i))), (zh, .inl (cy 0, 1280, .inl (mh))), (zd, .inl (cy 0, 4, .inl (mdn)))] H locs → ∀ ls : Array Slot, lv_has ls 4 [(0, .ref z0), (1, .int (nI (fj))), (2, .int (nI (hj))), (3, .int (nI (i)))] → W p l e ({ frames := 1, cells := 0, slots := 0, locals := 20 }) s m args below meth c H locs 0 0 Q (F0 m 59 ls []) := by
              intro nF
              induction nF with
              | zero => intro i hf; exact absurd hf (Nat.not_lt_zero _)
              | succ nF ih59 =>
                intro i hf hi H locs hW ls hl
                refine lv_iload_n hx hb dX5_copy_59 rfl (lv_at hl 3 rfl) ?_
                refine lv_bipush (v := nI (8)) hx hb dX5_copy_60 (by decide) ?_
                refine iGe (a := i) (b := 8) (tgt := 93) hx hb dX5_copy_62 (by decide) (by omega) (by omega) (fun h62 => ?_) (fun h62 => ?_)
                · skip
                  have e9 : i = 8 := by omega
                  rw [e9] at hW
                  refine lv_iconst (v := nI (0)) hx hb dX5_copy_93 (by decide) ?_
                  refine lv_istore_n (lv' := [(3, .int (nI (0))), (0, .ref z0), (1, .int (nI (fj))), (2, .int (nI (hj)))]) hx hb dX5_copy_94 rfl hl (by decide) rfl (fun ls hl => ?_)
                  have loop95 : ∀ (nF : Nat) (i : Nat), 320 - i < nF → (i ≤ 320) → ∀ (H : Heap) (locs : List Loc), Wd D A s [(z0, .inr (5, [.ref zr, .ref zs, .ref zt, .ref zc, .ref zm, .ref zk, .ref zh, .ref zd, .ref zf, .int (nI (ml)), .ref zp, .int (nI (mps)), .ref za, .ref ze, .int (be), .ref zn, .ref zb, .ref zv, .ref zw, .ref zo, .ref zq, .long (nu), .int (bq), .int (fg), .ref zl, .int (nI (hg)), .int (nI (cz)), .ref zi])), (zt, .inl (cy 0, 160000, .inl (apG mt (40000 * hj) (fun i => mt (40000 * fj + i)) nt))), (zc, .inl (cy 0, 4, .inl (mcn))), (zm, .inl (cy 0, 4, .inl (mmd))), (zk, .inl (cy 0, 32, .inl (apG mk (8 * hj) (fun k => mk (8 * fj + k)) 8))), (zh, .inl (cy 0, 1280, .inl (apG mh (320 * hj) (fun k => mh (320 * fj + k)) i))), (zd, .inl (cy 0, 4, .inl (mdn)))] H locs → ∀ ls : Array Slot, lv_has ls 4 [(0, .ref z0), (1, .int (nI (fj))), (2, .int (nI (hj))), (3, .int (nI (i)))] → W p l e ({ frames := 1, cells := 0, slots := 0, locals := 20 }) s m args below meth c H locs 0 0 Q (F0 m 95 ls []) := by
                    intro nF
                    induction nF with
                    | zero => intro i hf; exact absurd hf (Nat.not_lt_zero _)
                    | succ nF ih95 =>
                      intro i hf hi H locs hW ls hl
                      refine lv_iload_n hx hb dX5_copy_95 rfl (lv_at hl 3 rfl) ?_
                      refine lv_sipush (v := nI (320)) hx hb dX5_copy_96 (by decide) ?_
                      refine iGe (a := i) (b := 320) (tgt := 132) hx hb dX5_copy_99 (by decide) (by omega) (by omega) (fun h99 => ?_) (fun h99 => ?_)
                      · skip
                        have e9 : i = 320 := by omega
                        rw [e9] at hW
                        refine lv_aload_n hx hb dX5_copy_132 rfl (lv_at hl 0 rfl) ?_
                        refine va_get (D := D) (ci := 5) (v := .ref zc) (C := RX5) (T := TX5) (N := 28) hx hb hts i_X5_copy_X5 hown hK hW.1 0 rfl rfl 3 (by decide) (hts (.fieldLink RX5 20 "TreeHashesModel" "count" "[I") f_X5_copy_0) (fun _ h9 => h9) rfl dX5_copy_133 ?_
                        refine lv_iload_n hx hb dX5_copy_136 rfl (lv_at hl 2 rfl) ?_
                        refine lv_aload_n hx hb dX5_copy_137 rfl (lv_at hl 0 rfl) ?_
                        refine va_get (D := D) (ci := 5) (v := .ref zc) (C := RX5) (T := TX5) (N := 28) hx hb hts i_X5_copy_X5 hown hK hW.1 0 rfl rfl 3 (by decide) (hts (.fieldLink RX5 20 "TreeHashesModel" "count" "[I") f_X5_copy_0) (fun _ h9 => h9) rfl dX5_copy_138 ?_
                        refine lv_iload_n hx hb dX5_copy_141 rfl (lv_at hl 1 rfl) ?_
                        refine rI hx hb hK hW 2 rfl (k := fj) (by omega) (by omega) dX5_copy_142 ?_
                        refine tI (x' := nI (nt)) (hct) ?_
                        refine wI hx hb hK hW 2 rfl (k := hj) (by omega) (by omega) dX5_copy_143 (fun H locs hW => ?_)
                        have hW : Wd D A s [(z0, .inr (5, [.ref zr, .ref zs, .ref zt, .ref zc, .ref zm, .ref zk, .ref zh, .ref zd, .ref zf, .int (nI (ml)), .ref zp, .int (nI (mps)), .ref za, .ref ze, .int (be), .ref zn, .ref zb, .ref zv, .ref zw, .ref zo, .ref zq, .long (nu), .int (bq), .int (fg), .ref zl, .int (nI (hg)), .int (nI (cz)), .ref zi])), (zt, .inl (cy 0, 160000, .inl (apG mt (40000 * hj) (fun i => mt (40000 * fj + i)) nt))), (zc, .inl (cy 0, 4, .inl (upd mcn hj (nI (nt))))), (zm, .inl (cy 0, 4, .inl (mmd))), (zk, .inl (cy 0, 32, .inl (apG mk (8 * hj) (fun k => mk (8 * fj + k)) 8))), (zh, .inl (cy 0, 1280, .inl (apG mh (320 * hj) (fun k => mh (320 * fj + k)) 320))), (zd, .inl (cy 0, 4, .inl (mdn)))] H locs := hW
                        refine lv_aload_n hx hb dX5_copy_144 rfl (lv_at hl 0 rfl) ?_
                        refine va_get (D := D) (ci := 5) (v := .ref zm) (C := RX5) (T := TX5) (N := 28) hx hb hts i_X5_copy_X5 hown hK hW.1 0 rfl rfl 4 (by decide) (hts (.fieldLink RX5 23 "TreeHashesModel" "mode" "[I") f_X5_copy_2) (fun _ h9 => h9) rfl dX5_copy_145 ?_
                        refine lv_iload_n hx hb dX5_copy_148 rfl (lv_at hl 2 rfl) ?_
                        refine lv_aload_n hx hb dX5_copy_149 rfl (lv_at hl 0 rfl) ?_
                        refine va_get (D := D) (ci := 5) (v := .ref zm) (C := RX5) (T := TX5) (N := 28) hx hb hts i_X5_copy_X5 hown hK hW.1 0 rfl rfl 4 (by decide) (hts (.fieldLink RX5 23 "TreeHashesModel" "mode" "[I") f_X5_copy_2) (fun _ h9 => h9) rfl dX5_copy_150 ?_
                        refine lv_iload_n hx hb dX5_copy_153 rfl (lv_at hl 1 rfl) ?_
                        refine rI hx hb hK hW 3 rfl (k := fj) (by omega) (by omega) dX5_copy_154 ?_
                        refine wI hx hb hK hW 3 rfl (k := hj) (by omega) (by omega) dX5_copy_155 (fun H locs hW => ?_)
                        have hW : Wd D A s [(z0, .inr (5, [.ref zr, .ref zs, .ref zt, .ref zc, .ref zm, .ref zk, .ref zh, .ref zd, .ref zf, .int (nI (ml)), .ref zp, .int (nI (mps)), .ref za, .ref ze, .int (be), .ref zn, .ref zb, .ref zv, .ref zw, .ref zo, .ref zq, .long (nu), .int (bq), .int (fg), .ref zl, .int (nI (hg)), .int (nI (cz)), .ref zi])), (zt, .inl (cy 0, 160000, .inl (apG mt (40000 * hj) (fun i => mt (40000 * fj + i)) nt))), (zc, .inl (cy 0, 4, .inl (upd mcn hj (nI (nt))))), (zm, .inl (cy 0, 4, .inl (upd mmd hj (mmd fj)))), (zk, .inl (cy 0, 32, .inl (apG mk (8 * hj) (fun k => mk (8 * fj + k)) 8))), (zh, .inl (cy 0, 1280, .inl (apG mh (320 * hj) (fun k => mh (320 * fj + k)) 320))), (zd, .inl (cy 0, 4, .inl (mdn)))] H locs := hW
                        refine lv_aload_n hx hb dX5_copy_156 rfl (lv_at hl 0 rfl) ?_
                        refine va_get (D := D) (ci := 5) (v := .ref zd) (C := RX5) (T := TX5) (N := 28) hx hb hts i_X5_copy_X5 hown hK hW.1 0 rfl rfl 7 (by decide) (hts (.fieldLink RX5 32 "TreeHashesModel" "made" "[I") f_X5_copy_3) (fun _ h9 => h9) rfl dX5_copy_157 ?_
                        refine lv_iload_n hx hb dX5_copy_160 rfl (lv_at hl 2 rfl) ?_
                        refine lv_aload_n hx hb dX5_copy_161 rfl (lv_at hl 0 rfl) ?_
                        refine va_get (D := D) (ci := 5) (v := .ref zd) (C := RX5) (T := TX5) (N := 28) hx hb hts i_X5_copy_X5 hown hK hW.1 0 rfl rfl 7 (by decide) (hts (.fieldLink RX5 32 "TreeHashesModel" "made" "[I") f_X5_copy_3) (fun _ h9 => h9) rfl dX5_copy_162 ?_
                        refine lv_iload_n hx hb dX5_copy_165 rfl (lv_at hl 1 rfl) ?_
                        refine rI hx hb hK hW 6 rfl (k := fj) (by omega) (by omega) dX5_copy_166 ?_
                        refine wI hx hb hK hW 6 rfl (k := hj) (by omega) (by omega) dX5_copy_167 (fun H locs hW => ?_)
                        have hW : Wd D A s [(z0, .inr (5, [.ref zr, .ref zs, .ref zt, .ref zc, .ref zm, .ref zk, .ref zh, .ref zd, .ref zf, .int (nI (ml)), .ref zp, .int (nI (mps)), .ref za, .ref ze, .int (be), .ref zn, .ref zb, .ref zv, .ref zw, .ref zo, .ref zq, .long (nu), .int (bq), .int (fg), .ref zl, .int (nI (hg)), .int (nI (cz)), .ref zi])), (zt, .inl (cy 0, 160000, .inl (apG mt (40000 * hj) (fun i => mt (40000 * fj + i)) nt))), (zc, .inl (cy 0, 4, .inl (upd mcn hj (nI (nt))))), (zm, .inl (cy 0, 4, .inl (upd mmd hj (mmd fj)))), (zk, .inl (cy 0, 32, .inl (apG mk (8 * hj) (fun k => mk (8 * fj + k)) 8))), (zh, .inl (cy 0, 1280, .inl (apG mh (320 * hj) (fun k => mh (320 * fj + k)) 320))), (zd, .inl (cy 0, 4, .inl (upd mdn hj (mdn fj))))] H locs := hW
                        refine lv_aload_n hx hb dX5_copy_168 rfl (lv_at hl 0 rfl) ?_
                        refine va_get (D := D) (ci := 5) (v := .ref zc) (C := RX5) (T := TX5) (N := 28) hx hb hts i_X5_copy_X5 hown hK hW.1 0 rfl rfl 3 (by decide) (hts (.fieldLink RX5 20 "TreeHashesModel" "count" "[I") f_X5_copy_0) (fun _ h9 => h9) rfl dX5_copy_169 ?_
                        refine lv_iload_n hx hb dX5_copy_172 rfl (lv_at hl 2 rfl) ?_
                        refine rI hx hb hK hW 2 rfl (k := hj) (by omega) (by omega) dX5_copy_173 ?_
                        refine tI (x' := nI (nt)) (pk_us) ?_
                        exact eI hQ hx hb hr hlocks hK hW () (rfl) (rfl) dX5_copy_174
                      · skip
                        refine lv_aload_n hx hb dX5_copy_102 rfl (lv_at hl 0 rfl) ?_
                        refine va_get (D := D) (ci := 5) (v := .ref zh) (C := RX5) (T := TX5) (N := 28) hx hb hts i_X5_copy_X5 hown hK hW.1 0 rfl rfl 6 (by decide) (hts (.fieldLink RX5 29 "TreeHashesModel" "chains" "[I") f_X5_copy_4) (fun _ h9 => h9) rfl dX5_copy_103 ?_
                        refine lv_sipush (v := nI (320)) hx hb dX5_copy_106 (by decide) ?_
                        refine lv_iload_n hx hb dX5_copy_109 rfl (lv_at hl 2 rfl) ?_
                        refine lv_imul hx hb dX5_copy_110 ?_
                        refine tI (pk_mul _ _) ?_
                        refine lv_iload_n hx hb dX5_copy_111 rfl (lv_at hl 3 rfl) ?_
                        refine lv_iadd hx hb dX5_copy_112 ?_
                        refine tI (nI_add _ _) ?_
                        refine lv_aload_n hx hb dX5_copy_113 rfl (lv_at hl 0 rfl) ?_
                        refine va_get (D := D) (ci := 5) (v := .ref zh) (C := RX5) (T := TX5) (N := 28) hx hb hts i_X5_copy_X5 hown hK hW.1 0 rfl rfl 6 (by decide) (hts (.fieldLink RX5 29 "TreeHashesModel" "chains" "[I") f_X5_copy_4) (fun _ h9 => h9) rfl dX5_copy_114 ?_
                        refine lv_sipush (v := nI (320)) hx hb dX5_copy_117 (by decide) ?_
                        refine lv_iload_n hx hb dX5_copy_120 rfl (lv_at hl 1 rfl) ?_
                        refine lv_imul hx hb dX5_copy_121 ?_
                        refine tI (pk_mul _ _) ?_
                        refine lv_iload_n hx hb dX5_copy_122 rfl (lv_at hl 3 rfl) ?_
                        refine lv_iadd hx hb dX5_copy_123 ?_
                        refine tI (nI_add _ _) ?_
                        refine rI hx hb hK hW 5 rfl (k := (320 * fj) + i) (by omega) (by omega) dX5_copy_124 ?_
                        refine tI (x' := mh (320 * fj + i)) (apG_out (by omega)) ?_
                        refine wI hx hb hK hW 5 rfl (k := (320 * hj) + i) (by omega) (by omega) dX5_copy_125 (fun H locs hW => ?_)
                        have hW : Wd D A s [(z0, .inr (5, [.ref zr, .ref zs, .ref zt, .ref zc, .ref zm, .ref zk, .ref zh, .ref zd, .ref zf, .int (nI (ml)), .ref zp, .int (nI (mps)), .ref za, .ref ze, .int (be), .ref zn, .ref zb, .ref zv, .ref zw, .ref zo, .ref zq, .long (nu), .int (bq), .int (fg), .ref zl, .int (nI (hg)), .int (nI (cz)), .ref zi])), (zt, .inl (cy 0, 160000, .inl (apG mt (40000 * hj) (fun i => mt (40000 * fj + i)) nt))), (zc, .inl (cy 0, 4, .inl (mcn))), (zm, .inl (cy 0, 4, .inl (mmd))), (zk, .inl (cy 0, 32, .inl (apG mk (8 * hj) (fun k => mk (8 * fj + k)) 8))), (zh, .inl (cy 0, 1280, .inl (upd (apG mh (320 * hj) (fun k => mh (320 * fj + k)) i) ((320 * hj) + i) (mh (320 * fj + i))))), (zd, .inl (cy 0, 4, .inl (mdn)))] H locs := hW
                        rw [show (upd (apG mh (320 * hj) (fun k => mh (320 * fj + k)) i) ((320 * hj) + i) (mh (320 * fj + i))) = (apG mh (320 * hj) (fun k => mh (320 * fj + k)) (i + 1)) from apG_s mh (320 * hj) (fun k => mh (320 * fj + k)) i] at hW
                        have hW : Wd D A s [(z0, .inr (5, [.ref zr, .ref zs, .ref zt, .ref zc, .ref zm, .ref zk, .ref zh, .ref zd, .ref zf, .int (nI (ml)), .ref zp, .int (nI (mps)), .ref za, .ref ze, .int (be), .ref zn, .ref zb, .ref zv, .ref zw, .ref zo, .ref zq, .long (nu), .int (bq), .int (fg), .ref zl, .int (nI (hg)), .int (nI (cz)), .ref zi])), (zt, .inl (cy 0, 160000, .inl (apG mt (40000 * hj) (fun i => mt (40000 * fj + i)) nt))), (zc, .inl (cy 0, 4, .inl (mcn))), (zm, .inl (cy 0, 4, .inl (mmd))), (zk, .inl (cy 0, 32, .inl (apG mk (8 * hj) (fun k => mk (8 * fj + k)) 8))), (zh, .inl (cy 0, 1280, .inl (apG mh (320 * hj) (fun k => mh (320 * fj + k)) (i + 1)))), (zd, .inl (cy 0, 4, .inl (mdn)))] H locs := hW
                        refine lv_iinc (v := nI (i + 1)) (lv' := [(3, .int (nI (i + 1))), (0, .ref z0), (1, .int (nI (fj))), (2, .int (nI (hj)))]) hx hb dX5_copy_126 hl (k := 3) rfl (nI_1 _) (by decide) rfl (fun ls hl => ?_)
                        refine lv_goto (tgt := 95) hx hb dX5_copy_129 (by decide) ?_
                        exact ih95 (i + 1) (by omega) (by omega) _ _ hW _ (lv_sub hl [1, 2, 3, 0] rfl)
                  rw [← apG_0 mh (320 * hj) (fun k => mh (320 * fj + k))] at hW
                  exact loop95 _ 0 (Nat.lt_succ_self _) (by omega) _ _ hW _ (lv_sub hl [1, 2, 3, 0] rfl)
                · skip
                  refine lv_aload_n hx hb dX5_copy_65 rfl (lv_at hl 0 rfl) ?_
                  refine va_get (D := D) (ci := 5) (v := .ref zk) (C := RX5) (T := TX5) (N := 28) hx hb hts i_X5_copy_X5 hown hK hW.1 0 rfl rfl 5 (by decide) (hts (.fieldLink RX5 26 "TreeHashesModel" "keys" "[I") f_X5_copy_5) (fun _ h9 => h9) rfl dX5_copy_66 ?_
                  refine lv_bipush (v := nI (8)) hx hb dX5_copy_69 (by decide) ?_
                  refine lv_iload_n hx hb dX5_copy_71 rfl (lv_at hl 2 rfl) ?_
                  refine lv_imul hx hb dX5_copy_72 ?_
                  refine tI (pk_mul _ _) ?_
                  refine lv_iload_n hx hb dX5_copy_73 rfl (lv_at hl 3 rfl) ?_
                  refine lv_iadd hx hb dX5_copy_74 ?_
                  refine tI (nI_add _ _) ?_
                  refine lv_aload_n hx hb dX5_copy_75 rfl (lv_at hl 0 rfl) ?_
                  refine va_get (D := D) (ci := 5) (v := .ref zk) (C := RX5) (T := TX5) (N := 28) hx hb hts i_X5_copy_X5 hown hK hW.1 0 rfl rfl 5 (by decide) (hts (.fieldLink RX5 26 "TreeHashesModel" "keys" "[I") f_X5_copy_5) (fun _ h9 => h9) rfl dX5_copy_76 ?_
                  refine lv_bipush (v := nI (8)) hx hb dX5_copy_79 (by decide) ?_
                  refine lv_iload_n hx hb dX5_copy_81 rfl (lv_at hl 1 rfl) ?_
                  refine lv_imul hx hb dX5_copy_82 ?_
                  refine tI (pk_mul _ _) ?_
                  refine lv_iload_n hx hb dX5_copy_83 rfl (lv_at hl 3 rfl) ?_
                  refine lv_iadd hx hb dX5_copy_84 ?_
                  refine tI (nI_add _ _) ?_
                  refine rI hx hb hK hW 4 rfl (k := (8 * fj) + i) (by omega) (by omega) dX5_copy_85 ?_
                  refine tI (x' := mk (8 * fj + i)) (apG_out (by omega)) ?_
                  refine wI hx hb hK hW 4 rfl (k := (8 * hj) + i) (by omega) (by omega) dX5_copy_86 (fun H locs hW => ?_)
                  have hW : Wd D A s [(z0, .inr (5, [.ref zr, .ref zs, .ref zt, .ref zc, .ref zm, .ref zk, .ref zh, .ref zd, .ref zf, .int (nI (ml)), .ref zp, .int (nI (mps)), .ref za, .ref ze, .int (be), .ref zn, .ref zb, .ref zv, .ref zw, .ref zo, .ref zq, .long (nu), .int (bq), .int (fg), .ref zl, .int (nI (hg)), .int (nI (cz)), .ref zi])), (zt, .inl (cy 0, 160000, .inl (apG mt (40000 * hj) (fun i => mt (40000 * fj + i)) nt))), (zc, .inl (cy 0, 4, .inl (mcn))), (zm, .inl (cy 0, 4, .inl (mmd))), (zk, .inl (cy 0, 32, .inl (upd (apG mk (8 * hj) (fun k => mk (8 * fj + k)) i) ((8 * hj) + i) (mk (8 * fj + i))))), (zh, .inl (cy 0, 1280, .inl (mh))), (zd, .inl (cy 0, 4, .inl (mdn)))] H locs := hW
                  rw [show (upd (apG mk (8 * hj) (fun k => mk (8 * fj + k)) i) ((8 * hj) + i) (mk (8 * fj + i))) = (apG mk (8 * hj) (fun k => mk (8 * fj + k)) (i + 1)) from apG_s mk (8 * hj) (fun k => mk (8 * fj + k)) i] at hW
                  have hW : Wd D A s [(z0, .inr (5, [.ref zr, .ref zs, .ref zt, .ref zc, .ref zm, .ref zk, .ref zh, .ref zd, .ref zf, .int (nI (ml)), .ref zp, .int (nI (mps)), .ref za, .ref ze, .int (be), .ref zn, .ref zb, .ref zv, .ref zw, .ref zo, .ref zq, .long (nu), .int (bq), .int (fg), .ref zl, .int (nI (hg)), .int (nI (cz)), .ref zi])), (zt, .inl (cy 0, 160000, .inl (apG mt (40000 * hj) (fun i => mt (40000 * fj + i)) nt))), (zc, .inl (cy 0, 4, .inl (mcn))), (zm, .inl (cy 0, 4, .inl (mmd))), (zk, .inl (cy 0, 32, .inl (apG mk (8 * hj) (fun k => mk (8 * fj + k)) (i + 1)))), (zh, .inl (cy 0, 1280, .inl (mh))), (zd, .inl (cy 0, 4, .inl (mdn)))] H locs := hW
                  refine lv_iinc (v := nI (i + 1)) (lv' := [(3, .int (nI (i + 1))), (0, .ref z0), (1, .int (nI (fj))), (2, .int (nI (hj)))]) hx hb dX5_copy_87 hl (k := 3) rfl (nI_1 _) (by decide) rfl (fun ls hl => ?_)
                  refine lv_goto (tgt := 59) hx hb dX5_copy_90 (by decide) ?_
                  exact ih59 (i + 1) (by omega) (by omega) _ _ hW _ (lv_sub hl [1, 2, 3, 0] rfl)
            rw [← apG_0 mk (8 * hj) (fun k => mk (8 * fj + k))] at hW
            exact loop59 _ 0 (Nat.lt_succ_self _) (by omega) _ _ hW _ (lv_sub hl [1, 2, 3, 0] rfl)
          · skip
            refine lv_aload_n hx hb dX5_copy_29 rfl (lv_at hl 0 rfl) ?_
            refine va_get (D := D) (ci := 5) (v := .ref zt) (C := RX5) (T := TX5) (N := 28) hx hb hts i_X5_copy_X5 hown hK hW.1 0 rfl rfl 2 (by decide) (hts (.fieldLink RX5 17 "TreeHashesModel" "taken" "[I") f_X5_copy_6) (fun _ h9 => h9) rfl dX5_copy_30 ?_
            refine lv_ldc (v := (40000 : Int32)) hx hb hown (hts (.constant RX5 146 (40000)) f_X5_copy_7) dX5_copy_33 ?_
            refine tI (x' := nI 40000) (by decide) ?_
            refine lv_iload_n hx hb dX5_copy_35 rfl (lv_at hl 2 rfl) ?_
            refine lv_imul hx hb dX5_copy_36 ?_
            refine tI (pk_mul _ _) ?_
            refine lv_iload_n hx hb dX5_copy_37 rfl (lv_at hl 3 rfl) ?_
            refine lv_iadd hx hb dX5_copy_38 ?_
            refine tI (nI_add _ _) ?_
            refine lv_aload_n hx hb dX5_copy_39 rfl (lv_at hl 0 rfl) ?_
            refine va_get (D := D) (ci := 5) (v := .ref zt) (C := RX5) (T := TX5) (N := 28) hx hb hts i_X5_copy_X5 hown hK hW.1 0 rfl rfl 2 (by decide) (hts (.fieldLink RX5 17 "TreeHashesModel" "taken" "[I") f_X5_copy_6) (fun _ h9 => h9) rfl dX5_copy_40 ?_
            refine lv_ldc (v := (40000 : Int32)) hx hb hown (hts (.constant RX5 146 (40000)) f_X5_copy_7) dX5_copy_43 ?_
            refine tI (x' := nI 40000) (by decide) ?_
            refine lv_iload_n hx hb dX5_copy_45 rfl (lv_at hl 1 rfl) ?_
            refine lv_imul hx hb dX5_copy_46 ?_
            refine tI (pk_mul _ _) ?_
            refine lv_iload_n hx hb dX5_copy_47 rfl (lv_at hl 3 rfl) ?_
            refine lv_iadd hx hb dX5_copy_48 ?_
            refine tI (nI_add _ _) ?_
            refine rI hx hb hK hW 1 rfl (k := (40000 * fj) + i) (by omega) (by omega) dX5_copy_49 ?_
            refine tI (x' := mt (40000 * fj + i)) (apG_out (by omega)) ?_
            refine wI hx hb hK hW 1 rfl (k := (40000 * hj) + i) (by omega) (by omega) dX5_copy_50 (fun H locs hW => ?_)
            have hW : Wd D A s [(z0, .inr (5, [.ref zr, .ref zs, .ref zt, .ref zc, .ref zm, .ref zk, .ref zh, .ref zd, .ref zf, .int (nI (ml)), .ref zp, .int (nI (mps)), .ref za, .ref ze, .int (be), .ref zn, .ref zb, .ref zv, .ref zw, .ref zo, .ref zq, .long (nu), .int (bq), .int (fg), .ref zl, .int (nI (hg)), .int (nI (cz)), .ref zi])), (zt, .inl (cy 0, 160000, .inl (upd (apG mt (40000 * hj) (fun i => mt (40000 * fj + i)) i) ((40000 * hj) + i) (mt (40000 * fj + i))))), (zc, .inl (cy 0, 4, .inl (mcn))), (zm, .inl (cy 0, 4, .inl (mmd))), (zk, .inl (cy 0, 32, .inl (mk))), (zh, .inl (cy 0, 1280, .inl (mh))), (zd, .inl (cy 0, 4, .inl (mdn)))] H locs := hW
            rw [show (upd (apG mt (40000 * hj) (fun i => mt (40000 * fj + i)) i) ((40000 * hj) + i) (mt (40000 * fj + i))) = (apG mt (40000 * hj) (fun i => mt (40000 * fj + i)) (i + 1)) from apG_s mt (40000 * hj) (fun i => mt (40000 * fj + i)) i] at hW
            have hW : Wd D A s [(z0, .inr (5, [.ref zr, .ref zs, .ref zt, .ref zc, .ref zm, .ref zk, .ref zh, .ref zd, .ref zf, .int (nI (ml)), .ref zp, .int (nI (mps)), .ref za, .ref ze, .int (be), .ref zn, .ref zb, .ref zv, .ref zw, .ref zo, .ref zq, .long (nu), .int (bq), .int (fg), .ref zl, .int (nI (hg)), .int (nI (cz)), .ref zi])), (zt, .inl (cy 0, 160000, .inl (apG mt (40000 * hj) (fun i => mt (40000 * fj + i)) (i + 1)))), (zc, .inl (cy 0, 4, .inl (mcn))), (zm, .inl (cy 0, 4, .inl (mmd))), (zk, .inl (cy 0, 32, .inl (mk))), (zh, .inl (cy 0, 1280, .inl (mh))), (zd, .inl (cy 0, 4, .inl (mdn)))] H locs := hW
            refine lv_iinc (v := nI (i + 1)) (lv' := [(3, .int (nI (i + 1))), (0, .ref z0), (1, .int (nI (fj))), (2, .int (nI (hj)))]) hx hb dX5_copy_51 hl (k := 3) rfl (nI_1 _) (by decide) rfl (fun ls hl => ?_)
            refine lv_goto (tgt := 19) hx hb dX5_copy_54 (by decide) ?_
            exact ih19 (i + 1) (by omega) (by omega) _ _ hW _ (lv_sub hl [1, 2, 3, 0] rfl)
      rw [← apG_0 mt (40000 * hj) (fun i => mt (40000 * fj + i))] at hW
      exact loop19 _ 0 (Nat.lt_succ_self _) (by omega) _ _ hW _ (lv_sub hl [1, 2, 3, 0] rfl)
    · skip
      exfalso; omega

set_option maxHeartbeats 4000000 in
set_option maxRecDepth 100000 in
theorem c_X5_begin_b (l : Launch) (D : va_G) (cy : Nat → ClassId) (t : Nat × Nat) (z0 : Nat) (zr : Nat) (zs : Nat) (zt : Nat) (zc : Nat) (zm : Nat) (zk : Nat) (zh : Nat) (zd : Nat) (zf : Nat) (ml : Nat) (zp : Nat) (mps : Nat) (za : Nat) (ze : Nat) (be : Int32) (zn : Nat) (zb : Nat) (zv : Nat) (zw : Nat) (zo : Nat) (zq : Nat) (nu : Int64) (bq : Int32) (fg : Int32) (zl : Nat) (hg : Nat) (cz : Nat) (zi : Nat) (x : Int32) (y : Int32) (z : Int32) (hbd : x < 0 ∨ nI 4 ≤ x) (sz : Nat) : Met l yX5_begin wsX5_begin ({ frames := 1, cells := 0, slots := 0, locals := 20 }) (PcW D cy t [(z0, .inr (5, [.ref zr, .ref zs, .ref zt, .ref zc, .ref zm, .ref zk, .ref zh, .ref zd, .ref zf, .int (nI (ml)), .ref zp, .int (nI (mps)), .ref za, .ref ze, .int (be), .ref zn, .ref zb, .ref zv, .ref zw, .ref zo, .ref zq, .long (nu), .int (bq), .int (fg), .ref zl, .int (nI (hg)), .int (nI (cz)), .ref zi]))] [.ref z0, .int (x), .int (y), .int (z)] sz) (QiA D cy (fun (r : Int32) (u : Unit) => (r = (-2 : Int32))) (fun u : Unit => [(z0, .inr (5, [.ref zr, .ref zs, .ref zt, .ref zc, .ref zm, .ref zk, .ref zh, .ref zd, .ref zf, .int (nI (ml)), .ref zp, .int (nI (mps)), .ref za, .ref ze, .int (be), .ref zn, .ref zb, .ref zv, .ref zw, .ref zo, .ref zq, .long (nu), .int (bq), .int (fg), .ref zl, .int (nI (hg)), .int (nI (cz)), .ref zi]))]) (va_A [(z0, .inr (5, [.ref zr, .ref zs, .ref zt, .ref zc, .ref zm, .ref zk, .ref zh, .ref zd, .ref zf, .int (nI (ml)), .ref zp, .int (nI (mps)), .ref za, .ref ze, .int (be), .ref zn, .ref zb, .ref zv, .ref zw, .ref zo, .ref zq, .long (nu), .int (bq), .int (fg), .ref zl, .int (nI (hg)), .int (nI (cz)), .ref zi]))] sz)) 0 0 (va_A [(z0, .inr (5, [.ref zr, .ref zs, .ref zt, .ref zc, .ref zm, .ref zk, .ref zh, .ref zd, .ref zf, .int (nI (ml)), .ref zp, .int (nI (mps)), .ref za, .ref ze, .int (be), .ref zn, .ref zb, .ref zv, .ref zw, .ref zo, .ref zq, .long (nu), .int (bq), .int (fg), .ref zl, .int (nI (hg)), .int (nI (cz)), .ref zi]))] sz) := by
  refine M_ofW (cc := cX5_begin) (maxL := 5) (ret := (some .int)) (by decide) rfl (Nat.le_of_ble_eq_true rfl) ?_
  intro p e s m below meth c A ls args Q hQ S0 hr hlocks hnm hK hst hA hW hl
  have hx := S0.1; have hb := S0.2.1; have hml := S0.2.2.1; have hown := S0.2.2.2.1; have hts := S0.2.2.2.2
  have hl : lv_has ls 5 [(0, .ref z0), (1, .int (x)), (2, .int (y)), (3, .int (z))] := hl
  refine lv_iload_n hx hb dX5_begin_0 rfl (lv_at hl 1 rfl) ?_
  refine kSi (As := [.int (x)]) (rest := []) S0 hK hst hA hW [] (fun sz => c_X5_isHasher_b l D cy t x (hbd) sz) rfl (by decide) (va_cwS 1 hts gX5_begin_X5_isHasher rfl rfl rfl (by decide +kernel) ⟨Nat.le_of_ble_eq_true rfl, Nat.le_of_ble_eq_true rfl⟩) (fun _ => rfl) rfl hl.1 rfl (Nat.le_of_ble_eq_true rfl) dX5_begin_1 ⟨Nat.le_of_ble_eq_true rfl, Nat.le_of_ble_eq_true rfl⟩ (fun r1 u1 H locs p1 hW => ?_)
  have hW : Wd D A s [(z0, .inr (5, [.ref zr, .ref zs, .ref zt, .ref zc, .ref zm, .ref zk, .ref zh, .ref zd, .ref zf, .int (nI (ml)), .ref zp, .int (nI (mps)), .ref za, .ref ze, .int (be), .ref zn, .ref zb, .ref zv, .ref zw, .ref zo, .ref zq, .long (nu), .int (bq), .int (fg), .ref zl, .int (nI (hg)), .int (nI (cz)), .ref zi]))] H locs := hW
  have q1 : r1 = nI (0) := p1
  subst q1
  refine zEq (a := 0) (tgt := 43) hx hb dX5_begin_4 (by decide) (by omega) (fun h4 => ?_) (fun h4 => ?_)
  · skip
    refine lv_bipush (v := (-2 : Int32)) hx hb dX5_begin_43 (by decide) ?_
    exact eI hQ hx hb hr hlocks hK hW () (rfl) (rfl) dX5_begin_45
  · skip
    exfalso; omega

theorem f_X5_begin_0_0 : Cond.fieldLink RX5 20 "TreeHashesModel" "count" "[I" ∈ wsX5_begin := by decide +kernel
theorem i_X5_begin_0_X5 : ∀ w ∈ wsX50, w ∈ wsX5_begin := by decide +kernel
theorem f_X5_begin_0_2 : Cond.fieldLink RX5 32 "TreeHashesModel" "made" "[I" ∈ wsX5_begin := by decide +kernel
theorem f_X5_begin_0_3 : Cond.fieldLink RX5 23 "TreeHashesModel" "mode" "[I" ∈ wsX5_begin := by decide +kernel
set_option maxHeartbeats 4000000 in
set_option maxRecDepth 100000 in
theorem c_X5_begin_0 (l : Launch) (D : va_G) (cy : Nat → ClassId) (t : Nat × Nat) (z0 : Nat) (zr : Nat) (zs : Nat) (zt : Nat) (zc : Nat) (zm : Nat) (zk : Nat) (zh : Nat) (zd : Nat) (zf : Nat) (ml : Nat) (zp : Nat) (mps : Nat) (za : Nat) (ze : Nat) (be : Int32) (zn : Nat) (zb : Nat) (zv : Nat) (zw : Nat) (zo : Nat) (zq : Nat) (nu : Int64) (bq : Int32) (fg : Int32) (zl : Nat) (hg : Nat) (cz : Nat) (zi : Nat) (mcn : Nat → Int32) (mmd : Nat → Int32) (mk : Nat → Int32) (mdn : Nat → Int32) (hj : Nat) (x : Int32) (hj4 : hj < 4) (sz : Nat) : Met l yX5_begin wsX5_begin ({ frames := 1, cells := 0, slots := 0, locals := 22 }) (PcW D cy t [(z0, .inr (5, [.ref zr, .ref zs, .ref zt, .ref zc, .ref zm, .ref zk, .ref zh, .ref zd, .ref zf, .int (nI (ml)), .ref zp, .int (nI (mps)), .ref za, .ref ze, .int (be), .ref zn, .ref zb, .ref zv, .ref zw, .ref zo, .ref zq, .long (nu), .int (bq), .int (fg), .ref zl, .int (nI (hg)), .int (nI (cz)), .ref zi])), (zc, .inl (cy 0, 4, .inl (mcn))), (zm, .inl (cy 0, 4, .inl (mmd))), (zk, .inl (cy 0, 32, .inl (mk))), (zd, .inl (cy 0, 4, .inl (mdn))), (za, .inl (cy 0, 8, .inl (stA)))] [.ref z0, .int (nI (hj)), .int (nI (0)), .int (x)] sz) (QiA D cy (fun (r : Int32) (u : Unit) => (r = nI (0))) (fun u : Unit => [(z0, .inr (5, [.ref zr, .ref zs, .ref zt, .ref zc, .ref zm, .ref zk, .ref zh, .ref zd, .ref zf, .int (nI (ml)), .ref zp, .int (nI (mps)), .ref za, .ref ze, .int (be), .ref zn, .ref zb, .ref zv, .ref zw, .ref zo, .ref zq, .long (nu), .int (bq), .int (fg), .ref zl, .int (nI (hg)), .int (nI (cz)), .ref zi])), (zc, .inl (cy 0, 4, .inl (upd mcn hj (nI (0))))), (zm, .inl (cy 0, 4, .inl (upd mmd hj (nI (0))))), (zk, .inl (cy 0, 32, .inl (apG mk (8 * hj) stA 8))), (zd, .inl (cy 0, 4, .inl (upd mdn hj (nI (0))))), (za, .inl (cy 0, 8, .inl (stA)))]) (va_A [(z0, .inr (5, [.ref zr, .ref zs, .ref zt, .ref zc, .ref zm, .ref zk, .ref zh, .ref zd, .ref zf, .int (nI (ml)), .ref zp, .int (nI (mps)), .ref za, .ref ze, .int (be), .ref zn, .ref zb, .ref zv, .ref zw, .ref zo, .ref zq, .long (nu), .int (bq), .int (fg), .ref zl, .int (nI (hg)), .int (nI (cz)), .ref zi])), (zc, .inl (cy 0, 4, .inl (mcn))), (zm, .inl (cy 0, 4, .inl (mmd))), (zk, .inl (cy 0, 32, .inl (mk))), (zd, .inl (cy 0, 4, .inl (mdn))), (za, .inl (cy 0, 8, .inl (stA)))] sz)) 0 0 (va_A [(z0, .inr (5, [.ref zr, .ref zs, .ref zt, .ref zc, .ref zm, .ref zk, .ref zh, .ref zd, .ref zf, .int (nI (ml)), .ref zp, .int (nI (mps)), .ref za, .ref ze, .int (be), .ref zn, .ref zb, .ref zv, .ref zw, .ref zo, .ref zq, .long (nu), .int (bq), .int (fg), .ref zl, .int (nI (hg)), .int (nI (cz)), .ref zi])), (zc, .inl (cy 0, 4, .inl (mcn))), (zm, .inl (cy 0, 4, .inl (mmd))), (zk, .inl (cy 0, 32, .inl (mk))), (zd, .inl (cy 0, 4, .inl (mdn))), (za, .inl (cy 0, 8, .inl (stA)))] sz) := by
  refine M_ofW (cc := cX5_begin) (maxL := 5) (ret := (some .int)) (by decide) rfl (Nat.le_of_ble_eq_true rfl) ?_
  intro p e s m below meth c A ls args Q hQ S0 hr hlocks hnm hK hst hA hW hl
  have hx := S0.1; have hb := S0.2.1; have hml := S0.2.2.1; have hown := S0.2.2.2.1; have hts := S0.2.2.2.2
  have hl : lv_has ls 5 [(0, .ref z0), (1, .int (nI (hj))), (2, .int (nI (0))), (3, .int (x))] := hl
  refine lv_iload_n hx hb dX5_begin_0 rfl (lv_at hl 1 rfl) ?_
  refine kSi (As := [.int (nI (hj))]) (rest := []) S0 hK hst hA hW [] (fun sz => c_X5_isHasher l D cy t hj (by omega) sz) rfl (by decide) (va_cwS 1 hts gX5_begin_X5_isHasher rfl rfl rfl (by decide +kernel) ⟨Nat.le_of_ble_eq_true rfl, Nat.le_of_ble_eq_true rfl⟩) (fun _ => rfl) rfl hl.1 rfl (Nat.le_of_ble_eq_true rfl) dX5_begin_1 ⟨Nat.le_of_ble_eq_true rfl, Nat.le_of_ble_eq_true rfl⟩ (fun r1 u1 H locs p1 hW => ?_)
  have hW : Wd D A s [(z0, .inr (5, [.ref zr, .ref zs, .ref zt, .ref zc, .ref zm, .ref zk, .ref zh, .ref zd, .ref zf, .int (nI (ml)), .ref zp, .int (nI (mps)), .ref za, .ref ze, .int (be), .ref zn, .ref zb, .ref zv, .ref zw, .ref zo, .ref zq, .long (nu), .int (bq), .int (fg), .ref zl, .int (nI (hg)), .int (nI (cz)), .ref zi])), (zc, .inl (cy 0, 4, .inl (mcn))), (zm, .inl (cy 0, 4, .inl (mmd))), (zk, .inl (cy 0, 32, .inl (mk))), (zd, .inl (cy 0, 4, .inl (mdn))), (za, .inl (cy 0, 8, .inl (stA)))] H locs := hW
  have q1 : r1 = nI (1) := p1
  subst q1
  refine zEq (a := 1) (tgt := 43) hx hb dX5_begin_4 (by decide) (by omega) (fun h4 => ?_) (fun h4 => ?_)
  · skip
    exfalso; omega
  · skip
    refine lv_iload_n hx hb dX5_begin_7 rfl (lv_at hl 2 rfl) ?_
    refine zLt (a := 0) (tgt := 43) hx hb dX5_begin_8 (by decide) (by omega) ?_
    refine lv_iload_n hx hb dX5_begin_11 rfl (lv_at hl 2 rfl) ?_
    refine lv_iconst (v := nI (2)) hx hb dX5_begin_12 (by decide) ?_
    refine iGt (a := 0) (b := 2) (tgt := 43) hx hb dX5_begin_13 (by decide) (by omega) (by omega) (fun h13 => ?_) (fun h13 => ?_)
    · skip
      exfalso; omega
    · skip
      refine lv_iload_n hx hb dX5_begin_16 rfl (lv_at hl 2 rfl) ?_
      refine zLe (a := 0) (tgt := 27) hx hb dX5_begin_17 (by decide) (by omega) (fun h17 => ?_) (fun h17 => ?_)
      · skip
        refine lv_iload_n hx hb dX5_begin_27 rfl (lv_at hl 2 rfl) ?_
        refine lv_iconst (v := nI (1)) hx hb dX5_begin_28 (by decide) ?_
        refine iNe (a := 0) (b := 1) (tgt := 46) hx hb dX5_begin_29 (by decide) (by omega) (by omega) (fun h29 => ?_) (fun h29 => ?_)
        · skip
          refine lv_aload_n hx hb dX5_begin_46 rfl (lv_at hl 0 rfl) ?_
          refine va_get (D := D) (ci := 5) (v := .ref zc) (C := RX5) (T := TX5) (N := 28) hx hb hts i_X5_begin_0_X5 hown hK hW.1 0 rfl rfl 3 (by decide) (hts (.fieldLink RX5 20 "TreeHashesModel" "count" "[I") f_X5_begin_0_0) (fun _ h9 => h9) rfl dX5_begin_47 ?_
          refine lv_iload_n hx hb dX5_begin_50 rfl (lv_at hl 1 rfl) ?_
          refine lv_iconst (v := nI (0)) hx hb dX5_begin_51 (by decide) ?_
          refine wI hx hb hK hW 1 rfl (k := hj) (by omega) (by omega) dX5_begin_52 (fun H locs hW => ?_)
          have hW : Wd D A s [(z0, .inr (5, [.ref zr, .ref zs, .ref zt, .ref zc, .ref zm, .ref zk, .ref zh, .ref zd, .ref zf, .int (nI (ml)), .ref zp, .int (nI (mps)), .ref za, .ref ze, .int (be), .ref zn, .ref zb, .ref zv, .ref zw, .ref zo, .ref zq, .long (nu), .int (bq), .int (fg), .ref zl, .int (nI (hg)), .int (nI (cz)), .ref zi])), (zc, .inl (cy 0, 4, .inl (upd mcn hj (nI (0))))), (zm, .inl (cy 0, 4, .inl (mmd))), (zk, .inl (cy 0, 32, .inl (mk))), (zd, .inl (cy 0, 4, .inl (mdn))), (za, .inl (cy 0, 8, .inl (stA)))] H locs := hW
          refine lv_aload_n hx hb dX5_begin_53 rfl (lv_at hl 0 rfl) ?_
          refine va_get (D := D) (ci := 5) (v := .ref zd) (C := RX5) (T := TX5) (N := 28) hx hb hts i_X5_begin_0_X5 hown hK hW.1 0 rfl rfl 7 (by decide) (hts (.fieldLink RX5 32 "TreeHashesModel" "made" "[I") f_X5_begin_0_2) (fun _ h9 => h9) rfl dX5_begin_54 ?_
          refine lv_iload_n hx hb dX5_begin_57 rfl (lv_at hl 1 rfl) ?_
          refine lv_iconst (v := nI (0)) hx hb dX5_begin_58 (by decide) ?_
          refine wI hx hb hK hW 4 rfl (k := hj) (by omega) (by omega) dX5_begin_59 (fun H locs hW => ?_)
          have hW : Wd D A s [(z0, .inr (5, [.ref zr, .ref zs, .ref zt, .ref zc, .ref zm, .ref zk, .ref zh, .ref zd, .ref zf, .int (nI (ml)), .ref zp, .int (nI (mps)), .ref za, .ref ze, .int (be), .ref zn, .ref zb, .ref zv, .ref zw, .ref zo, .ref zq, .long (nu), .int (bq), .int (fg), .ref zl, .int (nI (hg)), .int (nI (cz)), .ref zi])), (zc, .inl (cy 0, 4, .inl (upd mcn hj (nI (0))))), (zm, .inl (cy 0, 4, .inl (mmd))), (zk, .inl (cy 0, 32, .inl (mk))), (zd, .inl (cy 0, 4, .inl (upd mdn hj (nI (0))))), (za, .inl (cy 0, 8, .inl (stA)))] H locs := hW
          refine lv_aload_n hx hb dX5_begin_60 rfl (lv_at hl 0 rfl) ?_
          refine va_get (D := D) (ci := 5) (v := .ref zm) (C := RX5) (T := TX5) (N := 28) hx hb hts i_X5_begin_0_X5 hown hK hW.1 0 rfl rfl 4 (by decide) (hts (.fieldLink RX5 23 "TreeHashesModel" "mode" "[I") f_X5_begin_0_3) (fun _ h9 => h9) rfl dX5_begin_61 ?_
          refine lv_iload_n hx hb dX5_begin_64 rfl (lv_at hl 1 rfl) ?_
          refine lv_iload_n hx hb dX5_begin_65 rfl (lv_at hl 2 rfl) ?_
          refine wI hx hb hK hW 2 rfl (k := hj) (by omega) (by omega) dX5_begin_66 (fun H locs hW => ?_)
          have hW : Wd D A s [(z0, .inr (5, [.ref zr, .ref zs, .ref zt, .ref zc, .ref zm, .ref zk, .ref zh, .ref zd, .ref zf, .int (nI (ml)), .ref zp, .int (nI (mps)), .ref za, .ref ze, .int (be), .ref zn, .ref zb, .ref zv, .ref zw, .ref zo, .ref zq, .long (nu), .int (bq), .int (fg), .ref zl, .int (nI (hg)), .int (nI (cz)), .ref zi])), (zc, .inl (cy 0, 4, .inl (upd mcn hj (nI (0))))), (zm, .inl (cy 0, 4, .inl (upd mmd hj (nI (0))))), (zk, .inl (cy 0, 32, .inl (mk))), (zd, .inl (cy 0, 4, .inl (upd mdn hj (nI (0))))), (za, .inl (cy 0, 8, .inl (stA)))] H locs := hW
          refine lv_aload_n hx hb dX5_begin_67 rfl (lv_at hl 0 rfl) ?_
          refine lv_iload_n hx hb dX5_begin_68 rfl (lv_at hl 1 rfl) ?_
          refine kVv (As := [.int (nI (hj))]) (rest := []) S0 hK hst hA hW [0, 3, 5] (fun sz => c_X5_plain l D cy t z0 zr zs zt zc zm zk zh zd zf ml zp mps za ze be zn zb zv zw zo zq nu bq fg zl hg cz zi mk hj (by omega) sz) rfl (by decide) (cwV 1 hts gX5_begin_X5_plain rfl rfl rfl (by decide +kernel) ⟨Nat.le_of_ble_eq_true rfl, Nat.le_of_ble_eq_true rfl⟩) (fun _ => rfl) 0 5 rfl rfl rfl hl.1 rfl (Nat.le_of_ble_eq_true rfl) dX5_begin_69 ⟨Nat.le_of_ble_eq_true rfl, Nat.le_of_ble_eq_true rfl⟩ (fun u69 H locs p69 hW => ?_)
          have hW : Wd D A s [(z0, .inr (5, [.ref zr, .ref zs, .ref zt, .ref zc, .ref zm, .ref zk, .ref zh, .ref zd, .ref zf, .int (nI (ml)), .ref zp, .int (nI (mps)), .ref za, .ref ze, .int (be), .ref zn, .ref zb, .ref zv, .ref zw, .ref zo, .ref zq, .long (nu), .int (bq), .int (fg), .ref zl, .int (nI (hg)), .int (nI (cz)), .ref zi])), (zc, .inl (cy 0, 4, .inl (upd mcn hj (nI (0))))), (zm, .inl (cy 0, 4, .inl (upd mmd hj (nI (0))))), (zk, .inl (cy 0, 32, .inl (apG mk (8 * hj) stA 8))), (zd, .inl (cy 0, 4, .inl (upd mdn hj (nI (0))))), (za, .inl (cy 0, 8, .inl (stA)))] H locs := hW
          refine lv_iload_n hx hb dX5_begin_72 rfl (lv_at hl 2 rfl) ?_
          refine lv_iconst (v := nI (1)) hx hb dX5_begin_73 (by decide) ?_
          refine iNe (a := 0) (b := 1) (tgt := 125) hx hb dX5_begin_74 (by decide) (by omega) (by omega) (fun h74 => ?_) (fun h74 => ?_)
          · skip
            refine lv_iload_n hx hb dX5_begin_125 rfl (lv_at hl 2 rfl) ?_
            refine lv_iconst (v := nI (2)) hx hb dX5_begin_126 (by decide) ?_
            refine iNe (a := 0) (b := 2) (tgt := 208) hx hb dX5_begin_127 (by decide) (by omega) (by omega) (fun h127 => ?_) (fun h127 => ?_)
            · skip
              refine lv_iconst (v := nI (0)) hx hb dX5_begin_208 (by decide) ?_
              exact eI hQ hx hb hr hlocks hK hW () (rfl) (rfl) dX5_begin_209
            · skip
              exfalso; omega
          · skip
            exfalso; omega
        · skip
          exfalso; omega
      · skip
        exfalso; omega

set_option maxHeartbeats 4000000 in
set_option maxRecDepth 100000 in
theorem c_X5_begin_br (l : Launch) (D : va_G) (cy : Nat → ClassId) (t : Nat × Nat) (z0 : Nat) (zr : Nat) (zs : Nat) (zt : Nat) (zc : Nat) (zm : Nat) (zk : Nat) (zh : Nat) (zd : Nat) (zf : Nat) (ml : Nat) (zp : Nat) (mps : Nat) (za : Nat) (ze : Nat) (be : Int32) (zn : Nat) (zb : Nat) (zv : Nat) (zw : Nat) (zo : Nat) (zq : Nat) (nu : Int64) (bq : Int32) (fg : Int32) (zl : Nat) (hg : Nat) (cz : Nat) (zi : Nat) (hj : Nat) (x : Int32) (y : Int32) (hj4 : hj < 4) (hy0 : ¬ y = 0) (hbd : x < 0 ∨ nI 8 ≤ x) (sz : Nat) : Met l yX5_begin wsX5_begin ({ frames := 1, cells := 0, slots := 0, locals := 20 }) (PcW D cy t [(z0, .inr (5, [.ref zr, .ref zs, .ref zt, .ref zc, .ref zm, .ref zk, .ref zh, .ref zd, .ref zf, .int (nI (ml)), .ref zp, .int (nI (mps)), .ref za, .ref ze, .int (be), .ref zn, .ref zb, .ref zv, .ref zw, .ref zo, .ref zq, .long (nu), .int (bq), .int (fg), .ref zl, .int (nI (hg)), .int (nI (cz)), .ref zi]))] [.ref z0, .int (nI (hj)), .int (y), .int (x)] sz) (QiA D cy (fun (r : Int32) (u : Unit) => (r = (-2 : Int32))) (fun u : Unit => [(z0, .inr (5, [.ref zr, .ref zs, .ref zt, .ref zc, .ref zm, .ref zk, .ref zh, .ref zd, .ref zf, .int (nI (ml)), .ref zp, .int (nI (mps)), .ref za, .ref ze, .int (be), .ref zn, .ref zb, .ref zv, .ref zw, .ref zo, .ref zq, .long (nu), .int (bq), .int (fg), .ref zl, .int (nI (hg)), .int (nI (cz)), .ref zi]))]) (va_A [(z0, .inr (5, [.ref zr, .ref zs, .ref zt, .ref zc, .ref zm, .ref zk, .ref zh, .ref zd, .ref zf, .int (nI (ml)), .ref zp, .int (nI (mps)), .ref za, .ref ze, .int (be), .ref zn, .ref zb, .ref zv, .ref zw, .ref zo, .ref zq, .long (nu), .int (bq), .int (fg), .ref zl, .int (nI (hg)), .int (nI (cz)), .ref zi]))] sz)) 0 0 (va_A [(z0, .inr (5, [.ref zr, .ref zs, .ref zt, .ref zc, .ref zm, .ref zk, .ref zh, .ref zd, .ref zf, .int (nI (ml)), .ref zp, .int (nI (mps)), .ref za, .ref ze, .int (be), .ref zn, .ref zb, .ref zv, .ref zw, .ref zo, .ref zq, .long (nu), .int (bq), .int (fg), .ref zl, .int (nI (hg)), .int (nI (cz)), .ref zi]))] sz) := by
  refine M_ofW (cc := cX5_begin) (maxL := 5) (ret := (some .int)) (by decide) rfl (Nat.le_of_ble_eq_true rfl) ?_
  intro p e s m below meth c A ls args Q hQ S0 hr hlocks hnm hK hst hA hW hl
  have hx := S0.1; have hb := S0.2.1; have hml := S0.2.2.1; have hown := S0.2.2.2.1; have hts := S0.2.2.2.2
  have hl : lv_has ls 5 [(0, .ref z0), (1, .int (nI (hj))), (2, .int (y)), (3, .int (x))] := hl
  refine lv_iload_n hx hb dX5_begin_0 rfl (lv_at hl 1 rfl) ?_
  refine kSi (As := [.int (nI (hj))]) (rest := []) S0 hK hst hA hW [] (fun sz => c_X5_isHasher l D cy t hj (by omega) sz) rfl (by decide) (va_cwS 1 hts gX5_begin_X5_isHasher rfl rfl rfl (by decide +kernel) ⟨Nat.le_of_ble_eq_true rfl, Nat.le_of_ble_eq_true rfl⟩) (fun _ => rfl) rfl hl.1 rfl (Nat.le_of_ble_eq_true rfl) dX5_begin_1 ⟨Nat.le_of_ble_eq_true rfl, Nat.le_of_ble_eq_true rfl⟩ (fun r1 u1 H locs p1 hW => ?_)
  have hW : Wd D A s [(z0, .inr (5, [.ref zr, .ref zs, .ref zt, .ref zc, .ref zm, .ref zk, .ref zh, .ref zd, .ref zf, .int (nI (ml)), .ref zp, .int (nI (mps)), .ref za, .ref ze, .int (be), .ref zn, .ref zb, .ref zv, .ref zw, .ref zo, .ref zq, .long (nu), .int (bq), .int (fg), .ref zl, .int (nI (hg)), .int (nI (cz)), .ref zi]))] H locs := hW
  have q1 : r1 = nI (1) := p1
  subst q1
  refine zEq (a := 1) (tgt := 43) hx hb dX5_begin_4 (by decide) (by omega) (fun h4 => ?_) (fun h4 => ?_)
  · skip
    exfalso; omega
  · skip
    refine lv_iload_n hx hb dX5_begin_7 rfl (lv_at hl 2 rfl) ?_
    refine lv_if_lt (tgt := 43) hx hb dX5_begin_8 (by decide) (fun h8 => ?_) (fun h8 => ?_)
    · skip
      refine lv_bipush (v := (-2 : Int32)) hx hb dX5_begin_43 (by decide) ?_
      exact eI hQ hx hb hr hlocks hK hW () (rfl) (rfl) dX5_begin_45
    · skip
      refine lv_iload_n hx hb dX5_begin_11 rfl (lv_at hl 2 rfl) ?_
      refine lv_iconst (v := nI (2)) hx hb dX5_begin_12 (by decide) ?_
      refine lv_icmp_gt (tgt := 43) hx hb dX5_begin_13 (by decide) (fun h13 => ?_) (fun h13 => ?_)
      · skip
        refine lv_bipush (v := (-2 : Int32)) hx hb dX5_begin_43 (by decide) ?_
        exact eI hQ hx hb hr hlocks hK hW () (rfl) (rfl) dX5_begin_45
      · skip
        refine lv_iload_n hx hb dX5_begin_16 rfl (lv_at hl 2 rfl) ?_
        refine lv_if_le (tgt := 27) hx hb dX5_begin_17 (by decide) (fun h17 => ?_) (fun h17 => ?_)
        · skip
          exact absurd (Int32.le_antisymm h17 (Int32.not_lt.mp h8)) hy0
        · skip
          refine lv_iload_n hx hb dX5_begin_20 rfl (lv_at hl 3 rfl) ?_
          refine kSi (As := [.int (x)]) (rest := []) S0 hK hst hA hW [] (fun sz => c_X5_isRegister_b l D cy t x (hbd) sz) rfl (by decide) (va_cwS 1 hts gX5_begin_X5_isRegister rfl rfl rfl (by decide +kernel) ⟨Nat.le_of_ble_eq_true rfl, Nat.le_of_ble_eq_true rfl⟩) (fun _ => rfl) rfl hl.1 rfl (Nat.le_of_ble_eq_true rfl) dX5_begin_21 ⟨Nat.le_of_ble_eq_true rfl, Nat.le_of_ble_eq_true rfl⟩ (fun r21 u21 H locs p21 hW => ?_)
          have hW : Wd D A s [(z0, .inr (5, [.ref zr, .ref zs, .ref zt, .ref zc, .ref zm, .ref zk, .ref zh, .ref zd, .ref zf, .int (nI (ml)), .ref zp, .int (nI (mps)), .ref za, .ref ze, .int (be), .ref zn, .ref zb, .ref zv, .ref zw, .ref zo, .ref zq, .long (nu), .int (bq), .int (fg), .ref zl, .int (nI (hg)), .int (nI (cz)), .ref zi]))] H locs := hW
          have q21 : r21 = nI (0) := p21
          subst q21
          refine zEq (a := 0) (tgt := 43) hx hb dX5_begin_24 (by decide) (by omega) (fun h24 => ?_) (fun h24 => ?_)
          · skip
            refine lv_bipush (v := (-2 : Int32)) hx hb dX5_begin_43 (by decide) ?_
            exact eI hQ hx hb hr hlocks hK hW () (rfl) (rfl) dX5_begin_45
          · skip
            exfalso; omega

theorem f_X5_begin_1_0 : Cond.fieldLink RX5 13 "TreeHashesModel" "sizes" "[I" ∈ wsX5_begin := by decide +kernel
theorem i_X5_begin_1_X5 : ∀ w ∈ wsX50, w ∈ wsX5_begin := by decide +kernel
theorem f_X5_begin_1_2 : Cond.fieldLink RX5 20 "TreeHashesModel" "count" "[I" ∈ wsX5_begin := by decide +kernel
theorem f_X5_begin_1_3 : Cond.fieldLink RX5 32 "TreeHashesModel" "made" "[I" ∈ wsX5_begin := by decide +kernel
theorem f_X5_begin_1_4 : Cond.fieldLink RX5 23 "TreeHashesModel" "mode" "[I" ∈ wsX5_begin := by decide +kernel
theorem f_X5_begin_1_5 : Cond.fieldLink RX5 26 "TreeHashesModel" "keys" "[I" ∈ wsX5_begin := by decide +kernel
theorem f_X5_begin_1_6 : Cond.fieldLink RX5 7 "TreeHashesModel" "registers" "[I" ∈ wsX5_begin := by decide +kernel
set_option maxHeartbeats 4000000 in
set_option maxRecDepth 100000 in
theorem c_X5_begin_1 (l : Launch) (D : va_G) (cy : Nat → ClassId) (t : Nat × Nat) (z0 : Nat) (zr : Nat) (zs : Nat) (zt : Nat) (zc : Nat) (zm : Nat) (zk : Nat) (zh : Nat) (zd : Nat) (zf : Nat) (ml : Nat) (zp : Nat) (mps : Nat) (za : Nat) (ze : Nat) (be : Int32) (zn : Nat) (zb : Nat) (zv : Nat) (zw : Nat) (zo : Nat) (zq : Nat) (nu : Int64) (bq : Int32) (fg : Int32) (zl : Nat) (hg : Nat) (cz : Nat) (zi : Nat) (mcn : Nat → Int32) (mmd : Nat → Int32) (mk : Nat → Int32) (mdn : Nat → Int32) (hj : Nat) (ms : Nat → Int32) (mr : Nat → Int32) (ri : Nat) (cnt : Nat) (hj4 : hj < 4) (hr8 : ri < 8) (hsz : ms ri = nI cnt) (hc : cnt ≤ 200) (h32 : cnt = 32) (sz : Nat) : Met l yX5_begin wsX5_begin ({ frames := 1, cells := 0, slots := 0, locals := 22 }) (PcW D cy t [(z0, .inr (5, [.ref zr, .ref zs, .ref zt, .ref zc, .ref zm, .ref zk, .ref zh, .ref zd, .ref zf, .int (nI (ml)), .ref zp, .int (nI (mps)), .ref za, .ref ze, .int (be), .ref zn, .ref zb, .ref zv, .ref zw, .ref zo, .ref zq, .long (nu), .int (bq), .int (fg), .ref zl, .int (nI (hg)), .int (nI (cz)), .ref zi])), (zc, .inl (cy 0, 4, .inl (mcn))), (zm, .inl (cy 0, 4, .inl (mmd))), (zk, .inl (cy 0, 32, .inl (mk))), (zd, .inl (cy 0, 4, .inl (mdn))), (za, .inl (cy 0, 8, .inl (stA))), (zs, .inl (cy 0, 8, .inl (ms))), (zr, .inl (cy 0, 1600, .inl (mr)))] [.ref z0, .int (nI (hj)), .int (nI (1)), .int (nI (ri))] sz) (QiA D cy (fun (r : Int32) (u : Unit) => (r = nI (0))) (fun u : Unit => [(z0, .inr (5, [.ref zr, .ref zs, .ref zt, .ref zc, .ref zm, .ref zk, .ref zh, .ref zd, .ref zf, .int (nI (ml)), .ref zp, .int (nI (mps)), .ref za, .ref ze, .int (be), .ref zn, .ref zb, .ref zv, .ref zw, .ref zo, .ref zq, .long (nu), .int (bq), .int (fg), .ref zl, .int (nI (hg)), .int (nI (cz)), .ref zi])), (zc, .inl (cy 0, 4, .inl (upd mcn hj (nI (0))))), (zm, .inl (cy 0, 4, .inl (upd mmd hj (nI (1))))), (zk, .inl (cy 0, 32, .inl (apG (apG mk (8 * hj) stA 8) (8 * hj) (fun k => wrd mr (200 * ri + 4 * k)) 8))), (zd, .inl (cy 0, 4, .inl (upd mdn hj (nI (0))))), (za, .inl (cy 0, 8, .inl (stA))), (zs, .inl (cy 0, 8, .inl (ms))), (zr, .inl (cy 0, 1600, .inl (mr)))]) (va_A [(z0, .inr (5, [.ref zr, .ref zs, .ref zt, .ref zc, .ref zm, .ref zk, .ref zh, .ref zd, .ref zf, .int (nI (ml)), .ref zp, .int (nI (mps)), .ref za, .ref ze, .int (be), .ref zn, .ref zb, .ref zv, .ref zw, .ref zo, .ref zq, .long (nu), .int (bq), .int (fg), .ref zl, .int (nI (hg)), .int (nI (cz)), .ref zi])), (zc, .inl (cy 0, 4, .inl (mcn))), (zm, .inl (cy 0, 4, .inl (mmd))), (zk, .inl (cy 0, 32, .inl (mk))), (zd, .inl (cy 0, 4, .inl (mdn))), (za, .inl (cy 0, 8, .inl (stA))), (zs, .inl (cy 0, 8, .inl (ms))), (zr, .inl (cy 0, 1600, .inl (mr)))] sz)) 0 0 (va_A [(z0, .inr (5, [.ref zr, .ref zs, .ref zt, .ref zc, .ref zm, .ref zk, .ref zh, .ref zd, .ref zf, .int (nI (ml)), .ref zp, .int (nI (mps)), .ref za, .ref ze, .int (be), .ref zn, .ref zb, .ref zv, .ref zw, .ref zo, .ref zq, .long (nu), .int (bq), .int (fg), .ref zl, .int (nI (hg)), .int (nI (cz)), .ref zi])), (zc, .inl (cy 0, 4, .inl (mcn))), (zm, .inl (cy 0, 4, .inl (mmd))), (zk, .inl (cy 0, 32, .inl (mk))), (zd, .inl (cy 0, 4, .inl (mdn))), (za, .inl (cy 0, 8, .inl (stA))), (zs, .inl (cy 0, 8, .inl (ms))), (zr, .inl (cy 0, 1600, .inl (mr)))] sz) := by
  refine M_ofW (cc := cX5_begin) (maxL := 5) (ret := (some .int)) (by decide) rfl (Nat.le_of_ble_eq_true rfl) ?_
  intro p e s m below meth c A ls args Q hQ S0 hr hlocks hnm hK hst hA hW hl
  have hx := S0.1; have hb := S0.2.1; have hml := S0.2.2.1; have hown := S0.2.2.2.1; have hts := S0.2.2.2.2
  have hl : lv_has ls 5 [(0, .ref z0), (1, .int (nI (hj))), (2, .int (nI (1))), (3, .int (nI (ri)))] := hl
  refine lv_iload_n hx hb dX5_begin_0 rfl (lv_at hl 1 rfl) ?_
  refine kSi (As := [.int (nI (hj))]) (rest := []) S0 hK hst hA hW [] (fun sz => c_X5_isHasher l D cy t hj (by omega) sz) rfl (by decide) (va_cwS 1 hts gX5_begin_X5_isHasher rfl rfl rfl (by decide +kernel) ⟨Nat.le_of_ble_eq_true rfl, Nat.le_of_ble_eq_true rfl⟩) (fun _ => rfl) rfl hl.1 rfl (Nat.le_of_ble_eq_true rfl) dX5_begin_1 ⟨Nat.le_of_ble_eq_true rfl, Nat.le_of_ble_eq_true rfl⟩ (fun r1 u1 H locs p1 hW => ?_)
  have hW : Wd D A s [(z0, .inr (5, [.ref zr, .ref zs, .ref zt, .ref zc, .ref zm, .ref zk, .ref zh, .ref zd, .ref zf, .int (nI (ml)), .ref zp, .int (nI (mps)), .ref za, .ref ze, .int (be), .ref zn, .ref zb, .ref zv, .ref zw, .ref zo, .ref zq, .long (nu), .int (bq), .int (fg), .ref zl, .int (nI (hg)), .int (nI (cz)), .ref zi])), (zc, .inl (cy 0, 4, .inl (mcn))), (zm, .inl (cy 0, 4, .inl (mmd))), (zk, .inl (cy 0, 32, .inl (mk))), (zd, .inl (cy 0, 4, .inl (mdn))), (za, .inl (cy 0, 8, .inl (stA))), (zs, .inl (cy 0, 8, .inl (ms))), (zr, .inl (cy 0, 1600, .inl (mr)))] H locs := hW
  have q1 : r1 = nI (1) := p1
  subst q1
  refine zEq (a := 1) (tgt := 43) hx hb dX5_begin_4 (by decide) (by omega) (fun h4 => ?_) (fun h4 => ?_)
  · skip
    exfalso; omega
  · skip
    refine lv_iload_n hx hb dX5_begin_7 rfl (lv_at hl 2 rfl) ?_
    refine zLt (a := 1) (tgt := 43) hx hb dX5_begin_8 (by decide) (by omega) ?_
    refine lv_iload_n hx hb dX5_begin_11 rfl (lv_at hl 2 rfl) ?_
    refine lv_iconst (v := nI (2)) hx hb dX5_begin_12 (by decide) ?_
    refine iGt (a := 1) (b := 2) (tgt := 43) hx hb dX5_begin_13 (by decide) (by omega) (by omega) (fun h13 => ?_) (fun h13 => ?_)
    · skip
      exfalso; omega
    · skip
      refine lv_iload_n hx hb dX5_begin_16 rfl (lv_at hl 2 rfl) ?_
      refine zLe (a := 1) (tgt := 27) hx hb dX5_begin_17 (by decide) (by omega) (fun h17 => ?_) (fun h17 => ?_)
      · skip
        exfalso; omega
      · skip
        refine lv_iload_n hx hb dX5_begin_20 rfl (lv_at hl 3 rfl) ?_
        refine kSi (As := [.int (nI (ri))]) (rest := []) S0 hK hst hA hW [] (fun sz => c_X5_isRegister l D cy t ri (by omega) sz) rfl (by decide) (va_cwS 1 hts gX5_begin_X5_isRegister rfl rfl rfl (by decide +kernel) ⟨Nat.le_of_ble_eq_true rfl, Nat.le_of_ble_eq_true rfl⟩) (fun _ => rfl) rfl hl.1 rfl (Nat.le_of_ble_eq_true rfl) dX5_begin_21 ⟨Nat.le_of_ble_eq_true rfl, Nat.le_of_ble_eq_true rfl⟩ (fun r21 u21 H locs p21 hW => ?_)
        have hW : Wd D A s [(z0, .inr (5, [.ref zr, .ref zs, .ref zt, .ref zc, .ref zm, .ref zk, .ref zh, .ref zd, .ref zf, .int (nI (ml)), .ref zp, .int (nI (mps)), .ref za, .ref ze, .int (be), .ref zn, .ref zb, .ref zv, .ref zw, .ref zo, .ref zq, .long (nu), .int (bq), .int (fg), .ref zl, .int (nI (hg)), .int (nI (cz)), .ref zi])), (zc, .inl (cy 0, 4, .inl (mcn))), (zm, .inl (cy 0, 4, .inl (mmd))), (zk, .inl (cy 0, 32, .inl (mk))), (zd, .inl (cy 0, 4, .inl (mdn))), (za, .inl (cy 0, 8, .inl (stA))), (zs, .inl (cy 0, 8, .inl (ms))), (zr, .inl (cy 0, 1600, .inl (mr)))] H locs := hW
        have q21 : r21 = nI (1) := p21
        subst q21
        refine zEq (a := 1) (tgt := 43) hx hb dX5_begin_24 (by decide) (by omega) (fun h24 => ?_) (fun h24 => ?_)
        · skip
          exfalso; omega
        · skip
          refine lv_iload_n hx hb dX5_begin_27 rfl (lv_at hl 2 rfl) ?_
          refine lv_iconst (v := nI (1)) hx hb dX5_begin_28 (by decide) ?_
          refine iNe (a := 1) (b := 1) (tgt := 46) hx hb dX5_begin_29 (by decide) (by omega) (by omega) (fun h29 => ?_) (fun h29 => ?_)
          · skip
            exfalso; omega
          · skip
            refine lv_aload_n hx hb dX5_begin_32 rfl (lv_at hl 0 rfl) ?_
            refine va_get (D := D) (ci := 5) (v := .ref zs) (C := RX5) (T := TX5) (N := 28) hx hb hts i_X5_begin_1_X5 hown hK hW.1 0 rfl rfl 1 (by decide) (hts (.fieldLink RX5 13 "TreeHashesModel" "sizes" "[I") f_X5_begin_1_0) (fun _ h9 => h9) rfl dX5_begin_33 ?_
            refine lv_iload_n hx hb dX5_begin_36 rfl (lv_at hl 3 rfl) ?_
            refine rI hx hb hK hW 6 rfl (k := ri) (by omega) (by omega) dX5_begin_37 ?_
            refine tI (x' := nI (cnt)) (hsz) ?_
            refine lv_bipush (v := nI (32)) hx hb dX5_begin_38 (by decide) ?_
            refine iEq (a := cnt) (b := 32) (tgt := 46) hx hb dX5_begin_40 (by decide) (by omega) (by omega) (fun h40 => ?_) (fun h40 => ?_)
            · skip
              refine lv_aload_n hx hb dX5_begin_46 rfl (lv_at hl 0 rfl) ?_
              refine va_get (D := D) (ci := 5) (v := .ref zc) (C := RX5) (T := TX5) (N := 28) hx hb hts i_X5_begin_1_X5 hown hK hW.1 0 rfl rfl 3 (by decide) (hts (.fieldLink RX5 20 "TreeHashesModel" "count" "[I") f_X5_begin_1_2) (fun _ h9 => h9) rfl dX5_begin_47 ?_
              refine lv_iload_n hx hb dX5_begin_50 rfl (lv_at hl 1 rfl) ?_
              refine lv_iconst (v := nI (0)) hx hb dX5_begin_51 (by decide) ?_
              refine wI hx hb hK hW 1 rfl (k := hj) (by omega) (by omega) dX5_begin_52 (fun H locs hW => ?_)
              have hW : Wd D A s [(z0, .inr (5, [.ref zr, .ref zs, .ref zt, .ref zc, .ref zm, .ref zk, .ref zh, .ref zd, .ref zf, .int (nI (ml)), .ref zp, .int (nI (mps)), .ref za, .ref ze, .int (be), .ref zn, .ref zb, .ref zv, .ref zw, .ref zo, .ref zq, .long (nu), .int (bq), .int (fg), .ref zl, .int (nI (hg)), .int (nI (cz)), .ref zi])), (zc, .inl (cy 0, 4, .inl (upd mcn hj (nI (0))))), (zm, .inl (cy 0, 4, .inl (mmd))), (zk, .inl (cy 0, 32, .inl (mk))), (zd, .inl (cy 0, 4, .inl (mdn))), (za, .inl (cy 0, 8, .inl (stA))), (zs, .inl (cy 0, 8, .inl (ms))), (zr, .inl (cy 0, 1600, .inl (mr)))] H locs := hW
              refine lv_aload_n hx hb dX5_begin_53 rfl (lv_at hl 0 rfl) ?_
              refine va_get (D := D) (ci := 5) (v := .ref zd) (C := RX5) (T := TX5) (N := 28) hx hb hts i_X5_begin_1_X5 hown hK hW.1 0 rfl rfl 7 (by decide) (hts (.fieldLink RX5 32 "TreeHashesModel" "made" "[I") f_X5_begin_1_3) (fun _ h9 => h9) rfl dX5_begin_54 ?_
              refine lv_iload_n hx hb dX5_begin_57 rfl (lv_at hl 1 rfl) ?_
              refine lv_iconst (v := nI (0)) hx hb dX5_begin_58 (by decide) ?_
              refine wI hx hb hK hW 4 rfl (k := hj) (by omega) (by omega) dX5_begin_59 (fun H locs hW => ?_)
              have hW : Wd D A s [(z0, .inr (5, [.ref zr, .ref zs, .ref zt, .ref zc, .ref zm, .ref zk, .ref zh, .ref zd, .ref zf, .int (nI (ml)), .ref zp, .int (nI (mps)), .ref za, .ref ze, .int (be), .ref zn, .ref zb, .ref zv, .ref zw, .ref zo, .ref zq, .long (nu), .int (bq), .int (fg), .ref zl, .int (nI (hg)), .int (nI (cz)), .ref zi])), (zc, .inl (cy 0, 4, .inl (upd mcn hj (nI (0))))), (zm, .inl (cy 0, 4, .inl (mmd))), (zk, .inl (cy 0, 32, .inl (mk))), (zd, .inl (cy 0, 4, .inl (upd mdn hj (nI (0))))), (za, .inl (cy 0, 8, .inl (stA))), (zs, .inl (cy 0, 8, .inl (ms))), (zr, .inl (cy 0, 1600, .inl (mr)))] H locs := hW
              refine lv_aload_n hx hb dX5_begin_60 rfl (lv_at hl 0 rfl) ?_
              refine va_get (D := D) (ci := 5) (v := .ref zm) (C := RX5) (T := TX5) (N := 28) hx hb hts i_X5_begin_1_X5 hown hK hW.1 0 rfl rfl 4 (by decide) (hts (.fieldLink RX5 23 "TreeHashesModel" "mode" "[I") f_X5_begin_1_4) (fun _ h9 => h9) rfl dX5_begin_61 ?_
              refine lv_iload_n hx hb dX5_begin_64 rfl (lv_at hl 1 rfl) ?_
              refine lv_iload_n hx hb dX5_begin_65 rfl (lv_at hl 2 rfl) ?_
              refine wI hx hb hK hW 2 rfl (k := hj) (by omega) (by omega) dX5_begin_66 (fun H locs hW => ?_)
              have hW : Wd D A s [(z0, .inr (5, [.ref zr, .ref zs, .ref zt, .ref zc, .ref zm, .ref zk, .ref zh, .ref zd, .ref zf, .int (nI (ml)), .ref zp, .int (nI (mps)), .ref za, .ref ze, .int (be), .ref zn, .ref zb, .ref zv, .ref zw, .ref zo, .ref zq, .long (nu), .int (bq), .int (fg), .ref zl, .int (nI (hg)), .int (nI (cz)), .ref zi])), (zc, .inl (cy 0, 4, .inl (upd mcn hj (nI (0))))), (zm, .inl (cy 0, 4, .inl (upd mmd hj (nI (1))))), (zk, .inl (cy 0, 32, .inl (mk))), (zd, .inl (cy 0, 4, .inl (upd mdn hj (nI (0))))), (za, .inl (cy 0, 8, .inl (stA))), (zs, .inl (cy 0, 8, .inl (ms))), (zr, .inl (cy 0, 1600, .inl (mr)))] H locs := hW
              refine lv_aload_n hx hb dX5_begin_67 rfl (lv_at hl 0 rfl) ?_
              refine lv_iload_n hx hb dX5_begin_68 rfl (lv_at hl 1 rfl) ?_
              refine kVv (As := [.int (nI (hj))]) (rest := []) S0 hK hst hA hW [0, 3, 5] (fun sz => c_X5_plain l D cy t z0 zr zs zt zc zm zk zh zd zf ml zp mps za ze be zn zb zv zw zo zq nu bq fg zl hg cz zi mk hj (by omega) sz) rfl (by decide) (cwV 1 hts gX5_begin_X5_plain rfl rfl rfl (by decide +kernel) ⟨Nat.le_of_ble_eq_true rfl, Nat.le_of_ble_eq_true rfl⟩) (fun _ => rfl) 0 5 rfl rfl rfl hl.1 rfl (Nat.le_of_ble_eq_true rfl) dX5_begin_69 ⟨Nat.le_of_ble_eq_true rfl, Nat.le_of_ble_eq_true rfl⟩ (fun u69 H locs p69 hW => ?_)
              have hW : Wd D A s [(z0, .inr (5, [.ref zr, .ref zs, .ref zt, .ref zc, .ref zm, .ref zk, .ref zh, .ref zd, .ref zf, .int (nI (ml)), .ref zp, .int (nI (mps)), .ref za, .ref ze, .int (be), .ref zn, .ref zb, .ref zv, .ref zw, .ref zo, .ref zq, .long (nu), .int (bq), .int (fg), .ref zl, .int (nI (hg)), .int (nI (cz)), .ref zi])), (zc, .inl (cy 0, 4, .inl (upd mcn hj (nI (0))))), (zm, .inl (cy 0, 4, .inl (upd mmd hj (nI (1))))), (zk, .inl (cy 0, 32, .inl (apG mk (8 * hj) stA 8))), (zd, .inl (cy 0, 4, .inl (upd mdn hj (nI (0))))), (za, .inl (cy 0, 8, .inl (stA))), (zs, .inl (cy 0, 8, .inl (ms))), (zr, .inl (cy 0, 1600, .inl (mr)))] H locs := hW
              refine lv_iload_n hx hb dX5_begin_72 rfl (lv_at hl 2 rfl) ?_
              refine lv_iconst (v := nI (1)) hx hb dX5_begin_73 (by decide) ?_
              refine iNe (a := 1) (b := 1) (tgt := 125) hx hb dX5_begin_74 (by decide) (by omega) (by omega) (fun h74 => ?_) (fun h74 => ?_)
              · skip
                exfalso; omega
              · skip
                refine lv_iconst (v := nI (0)) hx hb dX5_begin_77 (by decide) ?_
                refine lv_istore (lv' := [(4, .int (nI (0))), (0, .ref z0), (1, .int (nI (hj))), (2, .int (nI (1))), (3, .int (nI (ri)))]) hx hb dX5_begin_78 hl (by decide) rfl (fun ls hl => ?_)
                have loop80 : ∀ (nF : Nat) (i : Nat), 8 - i < nF → (i ≤ 8) → ∀ (H : Heap) (locs : List Loc), Wd D A s [(z0, .inr (5, [.ref zr, .ref zs, .ref zt, .ref zc, .ref zm, .ref zk, .ref zh, .ref zd, .ref zf, .int (nI (ml)), .ref zp, .int (nI (mps)), .ref za, .ref ze, .int (be), .ref zn, .ref zb, .ref zv, .ref zw, .ref zo, .ref zq, .long (nu), .int (bq), .int (fg), .ref zl, .int (nI (hg)), .int (nI (cz)), .ref zi])), (zc, .inl (cy 0, 4, .inl (upd mcn hj (nI (0))))), (zm, .inl (cy 0, 4, .inl (upd mmd hj (nI (1))))), (zk, .inl (cy 0, 32, .inl (apG (apG mk (8 * hj) stA 8) (8 * hj) (fun k => wrd mr (200 * ri + 4 * k)) i))), (zd, .inl (cy 0, 4, .inl (upd mdn hj (nI (0))))), (za, .inl (cy 0, 8, .inl (stA))), (zs, .inl (cy 0, 8, .inl (ms))), (zr, .inl (cy 0, 1600, .inl (mr)))] H locs → ∀ ls : Array Slot, lv_has ls 5 [(0, .ref z0), (1, .int (nI (hj))), (2, .int (nI (1))), (3, .int (nI (ri))), (4, .int (nI (i)))] → W p l e ({ frames := 1, cells := 0, slots := 0, locals := 22 }) s m args below meth c H locs 0 0 Q (F0 m 80 ls []) := by
                  intro nF
                  induction nF with
                  | zero => intro i hf; exact absurd hf (Nat.not_lt_zero _)
                  | succ nF ih80 =>
                    intro i hf hi H locs hW ls hl
                    refine lv_iload hx hb dX5_begin_80 (lv_at hl 4 rfl) ?_
                    refine lv_bipush (v := nI (8)) hx hb dX5_begin_82 (by decide) ?_
                    refine iGe (a := i) (b := 8) (tgt := 122) hx hb dX5_begin_84 (by decide) (by omega) (by omega) (fun h84 => ?_) (fun h84 => ?_)
                    · skip
                      refine lv_goto (tgt := 208) hx hb dX5_begin_122 (by decide) ?_
                      refine lv_iconst (v := nI (0)) hx hb dX5_begin_208 (by decide) ?_
                      have e9 : i = 8 := by omega
                      rw [e9] at hW
                      exact eI hQ hx hb hr hlocks hK hW () (rfl) (rfl) dX5_begin_209
                    · skip
                      refine lv_aload_n hx hb dX5_begin_87 rfl (lv_at hl 0 rfl) ?_
                      refine va_get (D := D) (ci := 5) (v := .ref zk) (C := RX5) (T := TX5) (N := 28) hx hb hts i_X5_begin_1_X5 hown hK hW.1 0 rfl rfl 5 (by decide) (hts (.fieldLink RX5 26 "TreeHashesModel" "keys" "[I") f_X5_begin_1_5) (fun _ h9 => h9) rfl dX5_begin_88 ?_
                      refine lv_bipush (v := nI (8)) hx hb dX5_begin_91 (by decide) ?_
                      refine lv_iload_n hx hb dX5_begin_93 rfl (lv_at hl 1 rfl) ?_
                      refine lv_imul hx hb dX5_begin_94 ?_
                      refine tI (pk_mul _ _) ?_
                      refine lv_iload hx hb dX5_begin_95 (lv_at hl 4 rfl) ?_
                      refine lv_iadd hx hb dX5_begin_97 ?_
                      refine tI (nI_add _ _) ?_
                      refine lv_aload_n hx hb dX5_begin_98 rfl (lv_at hl 0 rfl) ?_
                      refine va_get (D := D) (ci := 5) (v := .ref zr) (C := RX5) (T := TX5) (N := 28) hx hb hts i_X5_begin_1_X5 hown hK hW.1 0 rfl rfl 0 (by decide) (hts (.fieldLink RX5 7 "TreeHashesModel" "registers" "[I") f_X5_begin_1_6) (fun _ h9 => h9) rfl dX5_begin_99 ?_
                      refine lv_sipush (v := nI (200)) hx hb dX5_begin_102 (by decide) ?_
                      refine lv_iload_n hx hb dX5_begin_105 rfl (lv_at hl 3 rfl) ?_
                      refine lv_imul hx hb dX5_begin_106 ?_
                      refine tI (pk_mul _ _) ?_
                      refine lv_iconst (v := nI (4)) hx hb dX5_begin_107 (by decide) ?_
                      refine lv_iload hx hb dX5_begin_108 (lv_at hl 4 rfl) ?_
                      refine lv_imul hx hb dX5_begin_110 ?_
                      refine tI (pk_mul _ _) ?_
                      refine lv_iadd hx hb dX5_begin_111 ?_
                      refine tI (nI_add _ _) ?_
                      refine kSi (As := [.ref zr, .int (nI ((200 * ri) + (4 * i)))]) (rest := [.int (nI ((8 * hj) + i)), .ref zk]) S0 hK hst hA hW [7] (fun sz => c_X5_wordAt l D cy t zr 1600 mr ((200 * ri) + (4 * i)) (by omega) (by omega) sz) rfl (by decide) (va_cwS 2 hts gX5_begin_X5_wordAt rfl rfl rfl (by decide +kernel) ⟨Nat.le_of_ble_eq_true rfl, Nat.le_of_ble_eq_true rfl⟩) (fun _ => rfl) rfl hl.1 rfl (Nat.le_of_ble_eq_true rfl) dX5_begin_112 ⟨Nat.le_of_ble_eq_true rfl, Nat.le_of_ble_eq_true rfl⟩ (fun r112 u112 H locs p112 hW => ?_)
                      have hW : Wd D A s [(z0, .inr (5, [.ref zr, .ref zs, .ref zt, .ref zc, .ref zm, .ref zk, .ref zh, .ref zd, .ref zf, .int (nI (ml)), .ref zp, .int (nI (mps)), .ref za, .ref ze, .int (be), .ref zn, .ref zb, .ref zv, .ref zw, .ref zo, .ref zq, .long (nu), .int (bq), .int (fg), .ref zl, .int (nI (hg)), .int (nI (cz)), .ref zi])), (zc, .inl (cy 0, 4, .inl (upd mcn hj (nI (0))))), (zm, .inl (cy 0, 4, .inl (upd mmd hj (nI (1))))), (zk, .inl (cy 0, 32, .inl (apG (apG mk (8 * hj) stA 8) (8 * hj) (fun k => wrd mr (200 * ri + 4 * k)) i))), (zd, .inl (cy 0, 4, .inl (upd mdn hj (nI (0))))), (za, .inl (cy 0, 8, .inl (stA))), (zs, .inl (cy 0, 8, .inl (ms))), (zr, .inl (cy 0, 1600, .inl (mr)))] H locs := hW
                      have q112 : r112 = wrd mr ((200 * ri) + (4 * i)) := p112
                      subst q112
                      refine wI hx hb hK hW 3 rfl (k := (8 * hj) + i) (by omega) (by omega) dX5_begin_115 (fun H locs hW => ?_)
                      have hW : Wd D A s [(z0, .inr (5, [.ref zr, .ref zs, .ref zt, .ref zc, .ref zm, .ref zk, .ref zh, .ref zd, .ref zf, .int (nI (ml)), .ref zp, .int (nI (mps)), .ref za, .ref ze, .int (be), .ref zn, .ref zb, .ref zv, .ref zw, .ref zo, .ref zq, .long (nu), .int (bq), .int (fg), .ref zl, .int (nI (hg)), .int (nI (cz)), .ref zi])), (zc, .inl (cy 0, 4, .inl (upd mcn hj (nI (0))))), (zm, .inl (cy 0, 4, .inl (upd mmd hj (nI (1))))), (zk, .inl (cy 0, 32, .inl (upd (apG (apG mk (8 * hj) stA 8) (8 * hj) (fun k => wrd mr (200 * ri + 4 * k)) i) ((8 * hj) + i) (wrd mr ((200 * ri) + (4 * i)))))), (zd, .inl (cy 0, 4, .inl (upd mdn hj (nI (0))))), (za, .inl (cy 0, 8, .inl (stA))), (zs, .inl (cy 0, 8, .inl (ms))), (zr, .inl (cy 0, 1600, .inl (mr)))] H locs := hW
                      rw [show (upd (apG (apG mk (8 * hj) stA 8) (8 * hj) (fun k => wrd mr (200 * ri + 4 * k)) i) ((8 * hj) + i) (wrd mr ((200 * ri) + (4 * i)))) = (apG (apG mk (8 * hj) stA 8) (8 * hj) (fun k => wrd mr (200 * ri + 4 * k)) (i + 1)) from apG_s (apG mk (8 * hj) stA 8) (8 * hj) (fun k => wrd mr (200 * ri + 4 * k)) i] at hW
                      have hW : Wd D A s [(z0, .inr (5, [.ref zr, .ref zs, .ref zt, .ref zc, .ref zm, .ref zk, .ref zh, .ref zd, .ref zf, .int (nI (ml)), .ref zp, .int (nI (mps)), .ref za, .ref ze, .int (be), .ref zn, .ref zb, .ref zv, .ref zw, .ref zo, .ref zq, .long (nu), .int (bq), .int (fg), .ref zl, .int (nI (hg)), .int (nI (cz)), .ref zi])), (zc, .inl (cy 0, 4, .inl (upd mcn hj (nI (0))))), (zm, .inl (cy 0, 4, .inl (upd mmd hj (nI (1))))), (zk, .inl (cy 0, 32, .inl (apG (apG mk (8 * hj) stA 8) (8 * hj) (fun k => wrd mr (200 * ri + 4 * k)) (i + 1)))), (zd, .inl (cy 0, 4, .inl (upd mdn hj (nI (0))))), (za, .inl (cy 0, 8, .inl (stA))), (zs, .inl (cy 0, 8, .inl (ms))), (zr, .inl (cy 0, 1600, .inl (mr)))] H locs := hW
                      refine lv_iinc (v := nI (i + 1)) (lv' := [(4, .int (nI (i + 1))), (0, .ref z0), (1, .int (nI (hj))), (2, .int (nI (1))), (3, .int (nI (ri)))]) hx hb dX5_begin_116 hl (k := 4) rfl (nI_1 _) (by decide) rfl (fun ls hl => ?_)
                      refine lv_goto (tgt := 80) hx hb dX5_begin_119 (by decide) ?_
                      exact ih80 (i + 1) (by omega) (by omega) _ _ hW _ (lv_sub hl [1, 2, 3, 4, 0] rfl)
                rw [← apG_0 (apG mk (8 * hj) stA 8) (8 * hj) (fun k => wrd mr (200 * ri + 4 * k))] at hW
                exact loop80 _ 0 (Nat.lt_succ_self _) (by omega) _ _ hW _ (lv_sub hl [1, 2, 3, 4, 0] rfl)
            · skip
              exfalso; omega

theorem f_X5_begin_1b_0 : Cond.fieldLink RX5 13 "TreeHashesModel" "sizes" "[I" ∈ wsX5_begin := by decide +kernel
theorem i_X5_begin_1b_X5 : ∀ w ∈ wsX50, w ∈ wsX5_begin := by decide +kernel
set_option maxHeartbeats 4000000 in
set_option maxRecDepth 100000 in
theorem c_X5_begin_1b (l : Launch) (D : va_G) (cy : Nat → ClassId) (t : Nat × Nat) (z0 : Nat) (zr : Nat) (zs : Nat) (zt : Nat) (zc : Nat) (zm : Nat) (zk : Nat) (zh : Nat) (zd : Nat) (zf : Nat) (ml : Nat) (zp : Nat) (mps : Nat) (za : Nat) (ze : Nat) (be : Int32) (zn : Nat) (zb : Nat) (zv : Nat) (zw : Nat) (zo : Nat) (zq : Nat) (nu : Int64) (bq : Int32) (fg : Int32) (zl : Nat) (hg : Nat) (cz : Nat) (zi : Nat) (hj : Nat) (ms : Nat → Int32) (mr : Nat → Int32) (ri : Nat) (cnt : Nat) (hj4 : hj < 4) (hr8 : ri < 8) (hsz : ms ri = nI cnt) (hc : cnt ≤ 200) (h32 : cnt ≠ 32) (sz : Nat) : Met l yX5_begin wsX5_begin ({ frames := 1, cells := 0, slots := 0, locals := 20 }) (PcW D cy t [(z0, .inr (5, [.ref zr, .ref zs, .ref zt, .ref zc, .ref zm, .ref zk, .ref zh, .ref zd, .ref zf, .int (nI (ml)), .ref zp, .int (nI (mps)), .ref za, .ref ze, .int (be), .ref zn, .ref zb, .ref zv, .ref zw, .ref zo, .ref zq, .long (nu), .int (bq), .int (fg), .ref zl, .int (nI (hg)), .int (nI (cz)), .ref zi])), (zs, .inl (cy 0, 8, .inl (ms))), (zr, .inl (cy 0, 1600, .inl (mr)))] [.ref z0, .int (nI (hj)), .int (nI (1)), .int (nI (ri))] sz) (QiA D cy (fun (r : Int32) (u : Unit) => (r = (-2 : Int32))) (fun u : Unit => [(z0, .inr (5, [.ref zr, .ref zs, .ref zt, .ref zc, .ref zm, .ref zk, .ref zh, .ref zd, .ref zf, .int (nI (ml)), .ref zp, .int (nI (mps)), .ref za, .ref ze, .int (be), .ref zn, .ref zb, .ref zv, .ref zw, .ref zo, .ref zq, .long (nu), .int (bq), .int (fg), .ref zl, .int (nI (hg)), .int (nI (cz)), .ref zi])), (zs, .inl (cy 0, 8, .inl (ms))), (zr, .inl (cy 0, 1600, .inl (mr)))]) (va_A [(z0, .inr (5, [.ref zr, .ref zs, .ref zt, .ref zc, .ref zm, .ref zk, .ref zh, .ref zd, .ref zf, .int (nI (ml)), .ref zp, .int (nI (mps)), .ref za, .ref ze, .int (be), .ref zn, .ref zb, .ref zv, .ref zw, .ref zo, .ref zq, .long (nu), .int (bq), .int (fg), .ref zl, .int (nI (hg)), .int (nI (cz)), .ref zi])), (zs, .inl (cy 0, 8, .inl (ms))), (zr, .inl (cy 0, 1600, .inl (mr)))] sz)) 0 0 (va_A [(z0, .inr (5, [.ref zr, .ref zs, .ref zt, .ref zc, .ref zm, .ref zk, .ref zh, .ref zd, .ref zf, .int (nI (ml)), .ref zp, .int (nI (mps)), .ref za, .ref ze, .int (be), .ref zn, .ref zb, .ref zv, .ref zw, .ref zo, .ref zq, .long (nu), .int (bq), .int (fg), .ref zl, .int (nI (hg)), .int (nI (cz)), .ref zi])), (zs, .inl (cy 0, 8, .inl (ms))), (zr, .inl (cy 0, 1600, .inl (mr)))] sz) := by
  refine M_ofW (cc := cX5_begin) (maxL := 5) (ret := (some .int)) (by decide) rfl (Nat.le_of_ble_eq_true rfl) ?_
  intro p e s m below meth c A ls args Q hQ S0 hr hlocks hnm hK hst hA hW hl
  have hx := S0.1; have hb := S0.2.1; have hml := S0.2.2.1; have hown := S0.2.2.2.1; have hts := S0.2.2.2.2
  have hl : lv_has ls 5 [(0, .ref z0), (1, .int (nI (hj))), (2, .int (nI (1))), (3, .int (nI (ri)))] := hl
  refine lv_iload_n hx hb dX5_begin_0 rfl (lv_at hl 1 rfl) ?_
  refine kSi (As := [.int (nI (hj))]) (rest := []) S0 hK hst hA hW [] (fun sz => c_X5_isHasher l D cy t hj (by omega) sz) rfl (by decide) (va_cwS 1 hts gX5_begin_X5_isHasher rfl rfl rfl (by decide +kernel) ⟨Nat.le_of_ble_eq_true rfl, Nat.le_of_ble_eq_true rfl⟩) (fun _ => rfl) rfl hl.1 rfl (Nat.le_of_ble_eq_true rfl) dX5_begin_1 ⟨Nat.le_of_ble_eq_true rfl, Nat.le_of_ble_eq_true rfl⟩ (fun r1 u1 H locs p1 hW => ?_)
  have hW : Wd D A s [(z0, .inr (5, [.ref zr, .ref zs, .ref zt, .ref zc, .ref zm, .ref zk, .ref zh, .ref zd, .ref zf, .int (nI (ml)), .ref zp, .int (nI (mps)), .ref za, .ref ze, .int (be), .ref zn, .ref zb, .ref zv, .ref zw, .ref zo, .ref zq, .long (nu), .int (bq), .int (fg), .ref zl, .int (nI (hg)), .int (nI (cz)), .ref zi])), (zs, .inl (cy 0, 8, .inl (ms))), (zr, .inl (cy 0, 1600, .inl (mr)))] H locs := hW
  have q1 : r1 = nI (1) := p1
  subst q1
  refine zEq (a := 1) (tgt := 43) hx hb dX5_begin_4 (by decide) (by omega) (fun h4 => ?_) (fun h4 => ?_)
  · skip
    exfalso; omega
  · skip
    refine lv_iload_n hx hb dX5_begin_7 rfl (lv_at hl 2 rfl) ?_
    refine zLt (a := 1) (tgt := 43) hx hb dX5_begin_8 (by decide) (by omega) ?_
    refine lv_iload_n hx hb dX5_begin_11 rfl (lv_at hl 2 rfl) ?_
    refine lv_iconst (v := nI (2)) hx hb dX5_begin_12 (by decide) ?_
    refine iGt (a := 1) (b := 2) (tgt := 43) hx hb dX5_begin_13 (by decide) (by omega) (by omega) (fun h13 => ?_) (fun h13 => ?_)
    · skip
      exfalso; omega
    · skip
      refine lv_iload_n hx hb dX5_begin_16 rfl (lv_at hl 2 rfl) ?_
      refine zLe (a := 1) (tgt := 27) hx hb dX5_begin_17 (by decide) (by omega) (fun h17 => ?_) (fun h17 => ?_)
      · skip
        exfalso; omega
      · skip
        refine lv_iload_n hx hb dX5_begin_20 rfl (lv_at hl 3 rfl) ?_
        refine kSi (As := [.int (nI (ri))]) (rest := []) S0 hK hst hA hW [] (fun sz => c_X5_isRegister l D cy t ri (by omega) sz) rfl (by decide) (va_cwS 1 hts gX5_begin_X5_isRegister rfl rfl rfl (by decide +kernel) ⟨Nat.le_of_ble_eq_true rfl, Nat.le_of_ble_eq_true rfl⟩) (fun _ => rfl) rfl hl.1 rfl (Nat.le_of_ble_eq_true rfl) dX5_begin_21 ⟨Nat.le_of_ble_eq_true rfl, Nat.le_of_ble_eq_true rfl⟩ (fun r21 u21 H locs p21 hW => ?_)
        have hW : Wd D A s [(z0, .inr (5, [.ref zr, .ref zs, .ref zt, .ref zc, .ref zm, .ref zk, .ref zh, .ref zd, .ref zf, .int (nI (ml)), .ref zp, .int (nI (mps)), .ref za, .ref ze, .int (be), .ref zn, .ref zb, .ref zv, .ref zw, .ref zo, .ref zq, .long (nu), .int (bq), .int (fg), .ref zl, .int (nI (hg)), .int (nI (cz)), .ref zi])), (zs, .inl (cy 0, 8, .inl (ms))), (zr, .inl (cy 0, 1600, .inl (mr)))] H locs := hW
        have q21 : r21 = nI (1) := p21
        subst q21
        refine zEq (a := 1) (tgt := 43) hx hb dX5_begin_24 (by decide) (by omega) (fun h24 => ?_) (fun h24 => ?_)
        · skip
          exfalso; omega
        · skip
          refine lv_iload_n hx hb dX5_begin_27 rfl (lv_at hl 2 rfl) ?_
          refine lv_iconst (v := nI (1)) hx hb dX5_begin_28 (by decide) ?_
          refine iNe (a := 1) (b := 1) (tgt := 46) hx hb dX5_begin_29 (by decide) (by omega) (by omega) (fun h29 => ?_) (fun h29 => ?_)
          · skip
            exfalso; omega
          · skip
            refine lv_aload_n hx hb dX5_begin_32 rfl (lv_at hl 0 rfl) ?_
            refine va_get (D := D) (ci := 5) (v := .ref zs) (C := RX5) (T := TX5) (N := 28) hx hb hts i_X5_begin_1b_X5 hown hK hW.1 0 rfl rfl 1 (by decide) (hts (.fieldLink RX5 13 "TreeHashesModel" "sizes" "[I") f_X5_begin_1b_0) (fun _ h9 => h9) rfl dX5_begin_33 ?_
            refine lv_iload_n hx hb dX5_begin_36 rfl (lv_at hl 3 rfl) ?_
            refine rI hx hb hK hW 1 rfl (k := ri) (by omega) (by omega) dX5_begin_37 ?_
            refine tI (x' := nI (cnt)) (hsz) ?_
            refine lv_bipush (v := nI (32)) hx hb dX5_begin_38 (by decide) ?_
            refine iEq (a := cnt) (b := 32) (tgt := 46) hx hb dX5_begin_40 (by decide) (by omega) (by omega) (fun h40 => ?_) (fun h40 => ?_)
            · skip
              exfalso; omega
            · skip
              refine lv_bipush (v := (-2 : Int32)) hx hb dX5_begin_43 (by decide) ?_
              exact eI hQ hx hb hr hlocks hK hW () (rfl) (rfl) dX5_begin_45

set_option maxHeartbeats 4000000 in
set_option maxRecDepth 100000 in
theorem c_X5_begin_bm (l : Launch) (D : va_G) (cy : Nat → ClassId) (t : Nat × Nat) (z0 : Nat) (zr : Nat) (zs : Nat) (zt : Nat) (zc : Nat) (zm : Nat) (zk : Nat) (zh : Nat) (zd : Nat) (zf : Nat) (ml : Nat) (zp : Nat) (mps : Nat) (za : Nat) (ze : Nat) (be : Int32) (zn : Nat) (zb : Nat) (zv : Nat) (zw : Nat) (zo : Nat) (zq : Nat) (nu : Int64) (bq : Int32) (fg : Int32) (zl : Nat) (hg : Nat) (cz : Nat) (zi : Nat) (hj : Nat) (ms : Nat → Int32) (mr : Nat → Int32) (ri : Nat) (cnt : Nat) (y : Int32) (hj4 : hj < 4) (hr8 : ri < 8) (hsz : ms ri = nI cnt) (hc : cnt ≤ 200) (hy0 : ¬ y = 0) (hy1 : ¬ y = nI 1) (hy2 : ¬ y = nI 2) (sz : Nat) : Met l yX5_begin wsX5_begin ({ frames := 1, cells := 0, slots := 0, locals := 20 }) (PcW D cy t [(z0, .inr (5, [.ref zr, .ref zs, .ref zt, .ref zc, .ref zm, .ref zk, .ref zh, .ref zd, .ref zf, .int (nI (ml)), .ref zp, .int (nI (mps)), .ref za, .ref ze, .int (be), .ref zn, .ref zb, .ref zv, .ref zw, .ref zo, .ref zq, .long (nu), .int (bq), .int (fg), .ref zl, .int (nI (hg)), .int (nI (cz)), .ref zi])), (zs, .inl (cy 0, 8, .inl (ms))), (zr, .inl (cy 0, 1600, .inl (mr)))] [.ref z0, .int (nI (hj)), .int (y), .int (nI (ri))] sz) (QiA D cy (fun (r : Int32) (u : Unit) => (r = (-2 : Int32))) (fun u : Unit => [(z0, .inr (5, [.ref zr, .ref zs, .ref zt, .ref zc, .ref zm, .ref zk, .ref zh, .ref zd, .ref zf, .int (nI (ml)), .ref zp, .int (nI (mps)), .ref za, .ref ze, .int (be), .ref zn, .ref zb, .ref zv, .ref zw, .ref zo, .ref zq, .long (nu), .int (bq), .int (fg), .ref zl, .int (nI (hg)), .int (nI (cz)), .ref zi])), (zs, .inl (cy 0, 8, .inl (ms))), (zr, .inl (cy 0, 1600, .inl (mr)))]) (va_A [(z0, .inr (5, [.ref zr, .ref zs, .ref zt, .ref zc, .ref zm, .ref zk, .ref zh, .ref zd, .ref zf, .int (nI (ml)), .ref zp, .int (nI (mps)), .ref za, .ref ze, .int (be), .ref zn, .ref zb, .ref zv, .ref zw, .ref zo, .ref zq, .long (nu), .int (bq), .int (fg), .ref zl, .int (nI (hg)), .int (nI (cz)), .ref zi])), (zs, .inl (cy 0, 8, .inl (ms))), (zr, .inl (cy 0, 1600, .inl (mr)))] sz)) 0 0 (va_A [(z0, .inr (5, [.ref zr, .ref zs, .ref zt, .ref zc, .ref zm, .ref zk, .ref zh, .ref zd, .ref zf, .int (nI (ml)), .ref zp, .int (nI (mps)), .ref za, .ref ze, .int (be), .ref zn, .ref zb, .ref zv, .ref zw, .ref zo, .ref zq, .long (nu), .int (bq), .int (fg), .ref zl, .int (nI (hg)), .int (nI (cz)), .ref zi])), (zs, .inl (cy 0, 8, .inl (ms))), (zr, .inl (cy 0, 1600, .inl (mr)))] sz) := by
  refine M_ofW (cc := cX5_begin) (maxL := 5) (ret := (some .int)) (by decide) rfl (Nat.le_of_ble_eq_true rfl) ?_
  intro p e s m below meth c A ls args Q hQ S0 hr hlocks hnm hK hst hA hW hl
  have hx := S0.1; have hb := S0.2.1; have hml := S0.2.2.1; have hown := S0.2.2.2.1; have hts := S0.2.2.2.2
  have hl : lv_has ls 5 [(0, .ref z0), (1, .int (nI (hj))), (2, .int (y)), (3, .int (nI (ri)))] := hl
  refine lv_iload_n hx hb dX5_begin_0 rfl (lv_at hl 1 rfl) ?_
  refine kSi (As := [.int (nI (hj))]) (rest := []) S0 hK hst hA hW [] (fun sz => c_X5_isHasher l D cy t hj (by omega) sz) rfl (by decide) (va_cwS 1 hts gX5_begin_X5_isHasher rfl rfl rfl (by decide +kernel) ⟨Nat.le_of_ble_eq_true rfl, Nat.le_of_ble_eq_true rfl⟩) (fun _ => rfl) rfl hl.1 rfl (Nat.le_of_ble_eq_true rfl) dX5_begin_1 ⟨Nat.le_of_ble_eq_true rfl, Nat.le_of_ble_eq_true rfl⟩ (fun r1 u1 H locs p1 hW => ?_)
  have hW : Wd D A s [(z0, .inr (5, [.ref zr, .ref zs, .ref zt, .ref zc, .ref zm, .ref zk, .ref zh, .ref zd, .ref zf, .int (nI (ml)), .ref zp, .int (nI (mps)), .ref za, .ref ze, .int (be), .ref zn, .ref zb, .ref zv, .ref zw, .ref zo, .ref zq, .long (nu), .int (bq), .int (fg), .ref zl, .int (nI (hg)), .int (nI (cz)), .ref zi])), (zs, .inl (cy 0, 8, .inl (ms))), (zr, .inl (cy 0, 1600, .inl (mr)))] H locs := hW
  have q1 : r1 = nI (1) := p1
  subst q1
  refine zEq (a := 1) (tgt := 43) hx hb dX5_begin_4 (by decide) (by omega) (fun h4 => ?_) (fun h4 => ?_)
  · skip
    exfalso; omega
  · skip
    refine lv_iload_n hx hb dX5_begin_7 rfl (lv_at hl 2 rfl) ?_
    refine lv_if_lt (tgt := 43) hx hb dX5_begin_8 (by decide) (fun h8 => ?_) (fun h8 => ?_)
    · skip
      refine lv_bipush (v := (-2 : Int32)) hx hb dX5_begin_43 (by decide) ?_
      exact eI hQ hx hb hr hlocks hK hW () (rfl) (rfl) dX5_begin_45
    · skip
      refine lv_iload_n hx hb dX5_begin_11 rfl (lv_at hl 2 rfl) ?_
      refine lv_iconst (v := nI (2)) hx hb dX5_begin_12 (by decide) ?_
      refine lv_icmp_gt (tgt := 43) hx hb dX5_begin_13 (by decide) (fun h13 => ?_) (fun h13 => ?_)
      · skip
        refine lv_bipush (v := (-2 : Int32)) hx hb dX5_begin_43 (by decide) ?_
        exact eI hQ hx hb hr hlocks hK hW () (rfl) (rfl) dX5_begin_45
      · skip
        obtain ⟨j, hj9, rfl⟩ := ix_le h8 (Int32.not_lt.mp h13) (by omega); rcases (by omega : j = 0 ∨ j = 1 ∨ j = 2) with rfl | rfl | rfl; (exact absurd rfl hy0); (exact absurd rfl hy1); (exact absurd rfl hy2)

theorem f_X5_begin_2_0 : Cond.fieldLink RX5 20 "TreeHashesModel" "count" "[I" ∈ wsX5_begin := by decide +kernel
theorem i_X5_begin_2_X5 : ∀ w ∈ wsX50, w ∈ wsX5_begin := by decide +kernel
theorem f_X5_begin_2_2 : Cond.fieldLink RX5 32 "TreeHashesModel" "made" "[I" ∈ wsX5_begin := by decide +kernel
theorem f_X5_begin_2_3 : Cond.fieldLink RX5 23 "TreeHashesModel" "mode" "[I" ∈ wsX5_begin := by decide +kernel
theorem f_X5_begin_2_4 : Cond.fieldLink RX5 114 "TreeHashesModel" "base" "I" ∈ wsX5_begin := by decide +kernel
theorem f_X5_begin_2_5 : Cond.fieldLink RX5 7 "TreeHashesModel" "registers" "[I" ∈ wsX5_begin := by decide +kernel
theorem f_X5_begin_2_6 : Cond.fieldLink RX5 13 "TreeHashesModel" "sizes" "[I" ∈ wsX5_begin := by decide +kernel
theorem f_X5_begin_2_7 : Cond.fieldLink RX5 104 "TreeHashesModel" "flags" "I" ∈ wsX5_begin := by decide +kernel
theorem f_X5_begin_2_8 : Cond.fieldLink RX5 26 "TreeHashesModel" "keys" "[I" ∈ wsX5_begin := by decide +kernel
theorem f_X5_begin_2_9 : Cond.fieldLink RX5 53 "TreeHashesModel" "v" "[I" ∈ wsX5_begin := by decide +kernel
set_option maxHeartbeats 4000000 in
set_option maxRecDepth 100000 in
theorem c_X5_begin_2 (l : Launch) (D : va_G) (cy : Nat → ClassId) (t : Nat × Nat) (z0 : Nat) (zr : Nat) (zs : Nat) (zt : Nat) (zc : Nat) (zm : Nat) (zk : Nat) (zh : Nat) (zd : Nat) (zf : Nat) (ml : Nat) (zp : Nat) (mps : Nat) (za : Nat) (ze : Nat) (be : Int32) (zn : Nat) (zb : Nat) (zv : Nat) (zw : Nat) (zo : Nat) (zq : Nat) (nu : Int64) (bq : Int32) (fg : Int32) (zl : Nat) (hg : Nat) (cz : Nat) (zi : Nat) (mcn : Nat → Int32) (mmd : Nat → Int32) (mk : Nat → Int32) (mdn : Nat → Int32) (hj : Nat) (ms : Nat → Int32) (mr : Nat → Int32) (ri : Nat) (cnt : Nat) (ke : Nat → Int32) (cn : Nat → Int32) (bb : Nat → Int32) (vv : Nat → Int32) (ww : Nat → Int32) (oo : Nat → Int32) (hj4 : hj < 4) (hr8 : ri < 8) (hsz : ms ri = nI cnt) (hc : cnt ≤ 200) (sz : Nat) : Met l yX5_begin wsX5_begin ({ frames := 5, cells := 0, slots := 0, locals := 120 }) (PcW D cy t [(z0, .inr (5, [.ref zr, .ref zs, .ref zt, .ref zc, .ref zm, .ref zk, .ref zh, .ref zd, .ref zf, .int (nI (ml)), .ref zp, .int (nI (mps)), .ref za, .ref ze, .int (be), .ref zn, .ref zb, .ref zv, .ref zw, .ref zo, .ref zq, .long (nu), .int (bq), .int (fg), .ref zl, .int (nI (hg)), .int (nI (cz)), .ref zi])), (zc, .inl (cy 0, 4, .inl (mcn))), (zm, .inl (cy 0, 4, .inl (mmd))), (zk, .inl (cy 0, 32, .inl (mk))), (zd, .inl (cy 0, 4, .inl (mdn))), (za, .inl (cy 0, 8, .inl (stA))), (zs, .inl (cy 0, 8, .inl (ms))), (zr, .inl (cy 0, 1600, .inl (mr))), (ze, .inl (cy 0, 8, .inl (ke))), (zn, .inl (cy 0, 8, .inl (cn))), (zb, .inl (cy 0, 16, .inl (bb))), (zv, .inl (cy 0, 16, .inl (vv))), (zw, .inl (cy 0, 16, .inl (ww))), (zo, .inl (cy 0, 16, .inl (oo))), (zq, .inl (cy 0, 16, .inl (fun k => nI (orN k))))] [.ref z0, .int (nI (hj)), .int (nI (2)), .int (nI (ri))] sz) (QiA D cy (fun (r : Int32) (u : (Nat → Int32) × (Nat → Int32)) => match u with | (ww2, oo2) => (r = nI (0))) (fun u : (Nat → Int32) × (Nat → Int32) => match u with | (ww2, oo2) => [(z0, .inr (5, [.ref zr, .ref zs, .ref zt, .ref zc, .ref zm, .ref zk, .ref zh, .ref zd, .ref zf, .int (nI (ml)), .ref zp, .int (nI (mps)), .ref za, .ref ze, .int (nI (32)), .ref zn, .ref zb, .ref zv, .ref zw, .ref zo, .ref zq, .long ((ndC stA (nI (32)) mr (200 * ri) 0 cnt).2.2.1), .int ((ndC stA (nI (32)) mr (200 * ri) 0 cnt).2.2.2.1), .int ((ndC stA (nI (32)) mr (200 * ri) 0 cnt).2.2.2.2), .ref zl, .int (nI (hg)), .int (nI (cz)), .ref zi])), (zc, .inl (cy 0, 4, .inl (upd mcn hj (nI (0))))), (zm, .inl (cy 0, 4, .inl (upd mmd hj (nI (2))))), (zk, .inl (cy 0, 32, .inl (apG (apG mk (8 * hj) stA 8) (8 * hj) (mixV (ndC stA (nI (32)) mr (200 * ri) 0 cnt).1 (ndC stA (nI (32)) mr (200 * ri) 0 cnt).2.1 (lN 0) (ndC stA (nI (32)) mr (200 * ri) 0 cnt).2.2.2.1 ((ndC stA (nI (32)) mr (200 * ri) 0 cnt).2.2.2.2 + (nI (8)))) 8))), (zd, .inl (cy 0, 4, .inl (upd mdn hj (nI (0))))), (za, .inl (cy 0, 8, .inl (stA))), (zs, .inl (cy 0, 8, .inl (ms))), (zr, .inl (cy 0, 1600, .inl (mr))), (ze, .inl (cy 0, 8, .inl (stA))), (zn, .inl (cy 0, 8, .inl ((ndC stA (nI (32)) mr (200 * ri) 0 cnt).1))), (zb, .inl (cy 0, 16, .inl ((ndC stA (nI (32)) mr (200 * ri) 0 cnt).2.1))), (zv, .inl (cy 0, 16, .inl ((mixV (ndC stA (nI (32)) mr (200 * ri) 0 cnt).1 (ndC stA (nI (32)) mr (200 * ri) 0 cnt).2.1 (lN 0) (ndC stA (nI (32)) mr (200 * ri) 0 cnt).2.2.2.1 ((ndC stA (nI (32)) mr (200 * ri) 0 cnt).2.2.2.2 + (nI (8))))))), (zw, .inl (cy 0, 16, .inl (ww2))), (zo, .inl (cy 0, 16, .inl (oo2))), (zq, .inl (cy 0, 16, .inl (fun k => nI (orN k))))]) (va_A [(z0, .inr (5, [.ref zr, .ref zs, .ref zt, .ref zc, .ref zm, .ref zk, .ref zh, .ref zd, .ref zf, .int (nI (ml)), .ref zp, .int (nI (mps)), .ref za, .ref ze, .int (be), .ref zn, .ref zb, .ref zv, .ref zw, .ref zo, .ref zq, .long (nu), .int (bq), .int (fg), .ref zl, .int (nI (hg)), .int (nI (cz)), .ref zi])), (zc, .inl (cy 0, 4, .inl (mcn))), (zm, .inl (cy 0, 4, .inl (mmd))), (zk, .inl (cy 0, 32, .inl (mk))), (zd, .inl (cy 0, 4, .inl (mdn))), (za, .inl (cy 0, 8, .inl (stA))), (zs, .inl (cy 0, 8, .inl (ms))), (zr, .inl (cy 0, 1600, .inl (mr))), (ze, .inl (cy 0, 8, .inl (ke))), (zn, .inl (cy 0, 8, .inl (cn))), (zb, .inl (cy 0, 16, .inl (bb))), (zv, .inl (cy 0, 16, .inl (vv))), (zw, .inl (cy 0, 16, .inl (ww))), (zo, .inl (cy 0, 16, .inl (oo))), (zq, .inl (cy 0, 16, .inl (fun k => nI (orN k))))] sz)) 0 0 (va_A [(z0, .inr (5, [.ref zr, .ref zs, .ref zt, .ref zc, .ref zm, .ref zk, .ref zh, .ref zd, .ref zf, .int (nI (ml)), .ref zp, .int (nI (mps)), .ref za, .ref ze, .int (be), .ref zn, .ref zb, .ref zv, .ref zw, .ref zo, .ref zq, .long (nu), .int (bq), .int (fg), .ref zl, .int (nI (hg)), .int (nI (cz)), .ref zi])), (zc, .inl (cy 0, 4, .inl (mcn))), (zm, .inl (cy 0, 4, .inl (mmd))), (zk, .inl (cy 0, 32, .inl (mk))), (zd, .inl (cy 0, 4, .inl (mdn))), (za, .inl (cy 0, 8, .inl (stA))), (zs, .inl (cy 0, 8, .inl (ms))), (zr, .inl (cy 0, 1600, .inl (mr))), (ze, .inl (cy 0, 8, .inl (ke))), (zn, .inl (cy 0, 8, .inl (cn))), (zb, .inl (cy 0, 16, .inl (bb))), (zv, .inl (cy 0, 16, .inl (vv))), (zw, .inl (cy 0, 16, .inl (ww))), (zo, .inl (cy 0, 16, .inl (oo))), (zq, .inl (cy 0, 16, .inl (fun k => nI (orN k))))] sz) := by
  refine M_ofW (cc := cX5_begin) (maxL := 5) (ret := (some .int)) (by decide) rfl (Nat.le_of_ble_eq_true rfl) ?_
  intro p e s m below meth c A ls args Q hQ S0 hr hlocks hnm hK hst hA hW hl
  have hx := S0.1; have hb := S0.2.1; have hml := S0.2.2.1; have hown := S0.2.2.2.1; have hts := S0.2.2.2.2
  have hl : lv_has ls 5 [(0, .ref z0), (1, .int (nI (hj))), (2, .int (nI (2))), (3, .int (nI (ri)))] := hl
  refine lv_iload_n hx hb dX5_begin_0 rfl (lv_at hl 1 rfl) ?_
  refine kSi (As := [.int (nI (hj))]) (rest := []) S0 hK hst hA hW [] (fun sz => c_X5_isHasher l D cy t hj (by omega) sz) rfl (by decide) (va_cwS 1 hts gX5_begin_X5_isHasher rfl rfl rfl (by decide +kernel) ⟨Nat.le_of_ble_eq_true rfl, Nat.le_of_ble_eq_true rfl⟩) (fun _ => rfl) rfl hl.1 rfl (Nat.le_of_ble_eq_true rfl) dX5_begin_1 ⟨Nat.le_of_ble_eq_true rfl, Nat.le_of_ble_eq_true rfl⟩ (fun r1 u1 H locs p1 hW => ?_)
  have hW : Wd D A s [(z0, .inr (5, [.ref zr, .ref zs, .ref zt, .ref zc, .ref zm, .ref zk, .ref zh, .ref zd, .ref zf, .int (nI (ml)), .ref zp, .int (nI (mps)), .ref za, .ref ze, .int (be), .ref zn, .ref zb, .ref zv, .ref zw, .ref zo, .ref zq, .long (nu), .int (bq), .int (fg), .ref zl, .int (nI (hg)), .int (nI (cz)), .ref zi])), (zc, .inl (cy 0, 4, .inl (mcn))), (zm, .inl (cy 0, 4, .inl (mmd))), (zk, .inl (cy 0, 32, .inl (mk))), (zd, .inl (cy 0, 4, .inl (mdn))), (za, .inl (cy 0, 8, .inl (stA))), (zs, .inl (cy 0, 8, .inl (ms))), (zr, .inl (cy 0, 1600, .inl (mr))), (ze, .inl (cy 0, 8, .inl (ke))), (zn, .inl (cy 0, 8, .inl (cn))), (zb, .inl (cy 0, 16, .inl (bb))), (zv, .inl (cy 0, 16, .inl (vv))), (zw, .inl (cy 0, 16, .inl (ww))), (zo, .inl (cy 0, 16, .inl (oo))), (zq, .inl (cy 0, 16, .inl (fun k => nI (orN k))))] H locs := hW
  have q1 : r1 = nI (1) := p1
  subst q1
  refine zEq (a := 1) (tgt := 43) hx hb dX5_begin_4 (by decide) (by omega) (fun h4 => ?_) (fun h4 => ?_)
  · skip
    exfalso; omega
  · skip
    refine lv_iload_n hx hb dX5_begin_7 rfl (lv_at hl 2 rfl) ?_
    refine zLt (a := 2) (tgt := 43) hx hb dX5_begin_8 (by decide) (by omega) ?_
    refine lv_iload_n hx hb dX5_begin_11 rfl (lv_at hl 2 rfl) ?_
    refine lv_iconst (v := nI (2)) hx hb dX5_begin_12 (by decide) ?_
    refine iGt (a := 2) (b := 2) (tgt := 43) hx hb dX5_begin_13 (by decide) (by omega) (by omega) (fun h13 => ?_) (fun h13 => ?_)
    · skip
      exfalso; omega
    · skip
      refine lv_iload_n hx hb dX5_begin_16 rfl (lv_at hl 2 rfl) ?_
      refine zLe (a := 2) (tgt := 27) hx hb dX5_begin_17 (by decide) (by omega) (fun h17 => ?_) (fun h17 => ?_)
      · skip
        exfalso; omega
      · skip
        refine lv_iload_n hx hb dX5_begin_20 rfl (lv_at hl 3 rfl) ?_
        refine kSi (As := [.int (nI (ri))]) (rest := []) S0 hK hst hA hW [] (fun sz => c_X5_isRegister l D cy t ri (by omega) sz) rfl (by decide) (va_cwS 1 hts gX5_begin_X5_isRegister rfl rfl rfl (by decide +kernel) ⟨Nat.le_of_ble_eq_true rfl, Nat.le_of_ble_eq_true rfl⟩) (fun _ => rfl) rfl hl.1 rfl (Nat.le_of_ble_eq_true rfl) dX5_begin_21 ⟨Nat.le_of_ble_eq_true rfl, Nat.le_of_ble_eq_true rfl⟩ (fun r21 u21 H locs p21 hW => ?_)
        have hW : Wd D A s [(z0, .inr (5, [.ref zr, .ref zs, .ref zt, .ref zc, .ref zm, .ref zk, .ref zh, .ref zd, .ref zf, .int (nI (ml)), .ref zp, .int (nI (mps)), .ref za, .ref ze, .int (be), .ref zn, .ref zb, .ref zv, .ref zw, .ref zo, .ref zq, .long (nu), .int (bq), .int (fg), .ref zl, .int (nI (hg)), .int (nI (cz)), .ref zi])), (zc, .inl (cy 0, 4, .inl (mcn))), (zm, .inl (cy 0, 4, .inl (mmd))), (zk, .inl (cy 0, 32, .inl (mk))), (zd, .inl (cy 0, 4, .inl (mdn))), (za, .inl (cy 0, 8, .inl (stA))), (zs, .inl (cy 0, 8, .inl (ms))), (zr, .inl (cy 0, 1600, .inl (mr))), (ze, .inl (cy 0, 8, .inl (ke))), (zn, .inl (cy 0, 8, .inl (cn))), (zb, .inl (cy 0, 16, .inl (bb))), (zv, .inl (cy 0, 16, .inl (vv))), (zw, .inl (cy 0, 16, .inl (ww))), (zo, .inl (cy 0, 16, .inl (oo))), (zq, .inl (cy 0, 16, .inl (fun k => nI (orN k))))] H locs := hW
        have q21 : r21 = nI (1) := p21
        subst q21
        refine zEq (a := 1) (tgt := 43) hx hb dX5_begin_24 (by decide) (by omega) (fun h24 => ?_) (fun h24 => ?_)
        · skip
          exfalso; omega
        · skip
          refine lv_iload_n hx hb dX5_begin_27 rfl (lv_at hl 2 rfl) ?_
          refine lv_iconst (v := nI (1)) hx hb dX5_begin_28 (by decide) ?_
          refine iNe (a := 2) (b := 1) (tgt := 46) hx hb dX5_begin_29 (by decide) (by omega) (by omega) (fun h29 => ?_) (fun h29 => ?_)
          · skip
            refine lv_aload_n hx hb dX5_begin_46 rfl (lv_at hl 0 rfl) ?_
            refine va_get (D := D) (ci := 5) (v := .ref zc) (C := RX5) (T := TX5) (N := 28) hx hb hts i_X5_begin_2_X5 hown hK hW.1 0 rfl rfl 3 (by decide) (hts (.fieldLink RX5 20 "TreeHashesModel" "count" "[I") f_X5_begin_2_0) (fun _ h9 => h9) rfl dX5_begin_47 ?_
            refine lv_iload_n hx hb dX5_begin_50 rfl (lv_at hl 1 rfl) ?_
            refine lv_iconst (v := nI (0)) hx hb dX5_begin_51 (by decide) ?_
            refine wI hx hb hK hW 1 rfl (k := hj) (by omega) (by omega) dX5_begin_52 (fun H locs hW => ?_)
            have hW : Wd D A s [(z0, .inr (5, [.ref zr, .ref zs, .ref zt, .ref zc, .ref zm, .ref zk, .ref zh, .ref zd, .ref zf, .int (nI (ml)), .ref zp, .int (nI (mps)), .ref za, .ref ze, .int (be), .ref zn, .ref zb, .ref zv, .ref zw, .ref zo, .ref zq, .long (nu), .int (bq), .int (fg), .ref zl, .int (nI (hg)), .int (nI (cz)), .ref zi])), (zc, .inl (cy 0, 4, .inl (upd mcn hj (nI (0))))), (zm, .inl (cy 0, 4, .inl (mmd))), (zk, .inl (cy 0, 32, .inl (mk))), (zd, .inl (cy 0, 4, .inl (mdn))), (za, .inl (cy 0, 8, .inl (stA))), (zs, .inl (cy 0, 8, .inl (ms))), (zr, .inl (cy 0, 1600, .inl (mr))), (ze, .inl (cy 0, 8, .inl (ke))), (zn, .inl (cy 0, 8, .inl (cn))), (zb, .inl (cy 0, 16, .inl (bb))), (zv, .inl (cy 0, 16, .inl (vv))), (zw, .inl (cy 0, 16, .inl (ww))), (zo, .inl (cy 0, 16, .inl (oo))), (zq, .inl (cy 0, 16, .inl (fun k => nI (orN k))))] H locs := hW
            refine lv_aload_n hx hb dX5_begin_53 rfl (lv_at hl 0 rfl) ?_
            refine va_get (D := D) (ci := 5) (v := .ref zd) (C := RX5) (T := TX5) (N := 28) hx hb hts i_X5_begin_2_X5 hown hK hW.1 0 rfl rfl 7 (by decide) (hts (.fieldLink RX5 32 "TreeHashesModel" "made" "[I") f_X5_begin_2_2) (fun _ h9 => h9) rfl dX5_begin_54 ?_
            refine lv_iload_n hx hb dX5_begin_57 rfl (lv_at hl 1 rfl) ?_
            refine lv_iconst (v := nI (0)) hx hb dX5_begin_58 (by decide) ?_
            refine wI hx hb hK hW 4 rfl (k := hj) (by omega) (by omega) dX5_begin_59 (fun H locs hW => ?_)
            have hW : Wd D A s [(z0, .inr (5, [.ref zr, .ref zs, .ref zt, .ref zc, .ref zm, .ref zk, .ref zh, .ref zd, .ref zf, .int (nI (ml)), .ref zp, .int (nI (mps)), .ref za, .ref ze, .int (be), .ref zn, .ref zb, .ref zv, .ref zw, .ref zo, .ref zq, .long (nu), .int (bq), .int (fg), .ref zl, .int (nI (hg)), .int (nI (cz)), .ref zi])), (zc, .inl (cy 0, 4, .inl (upd mcn hj (nI (0))))), (zm, .inl (cy 0, 4, .inl (mmd))), (zk, .inl (cy 0, 32, .inl (mk))), (zd, .inl (cy 0, 4, .inl (upd mdn hj (nI (0))))), (za, .inl (cy 0, 8, .inl (stA))), (zs, .inl (cy 0, 8, .inl (ms))), (zr, .inl (cy 0, 1600, .inl (mr))), (ze, .inl (cy 0, 8, .inl (ke))), (zn, .inl (cy 0, 8, .inl (cn))), (zb, .inl (cy 0, 16, .inl (bb))), (zv, .inl (cy 0, 16, .inl (vv))), (zw, .inl (cy 0, 16, .inl (ww))), (zo, .inl (cy 0, 16, .inl (oo))), (zq, .inl (cy 0, 16, .inl (fun k => nI (orN k))))] H locs := hW
            refine lv_aload_n hx hb dX5_begin_60 rfl (lv_at hl 0 rfl) ?_
            refine va_get (D := D) (ci := 5) (v := .ref zm) (C := RX5) (T := TX5) (N := 28) hx hb hts i_X5_begin_2_X5 hown hK hW.1 0 rfl rfl 4 (by decide) (hts (.fieldLink RX5 23 "TreeHashesModel" "mode" "[I") f_X5_begin_2_3) (fun _ h9 => h9) rfl dX5_begin_61 ?_
            refine lv_iload_n hx hb dX5_begin_64 rfl (lv_at hl 1 rfl) ?_
            refine lv_iload_n hx hb dX5_begin_65 rfl (lv_at hl 2 rfl) ?_
            refine wI hx hb hK hW 2 rfl (k := hj) (by omega) (by omega) dX5_begin_66 (fun H locs hW => ?_)
            have hW : Wd D A s [(z0, .inr (5, [.ref zr, .ref zs, .ref zt, .ref zc, .ref zm, .ref zk, .ref zh, .ref zd, .ref zf, .int (nI (ml)), .ref zp, .int (nI (mps)), .ref za, .ref ze, .int (be), .ref zn, .ref zb, .ref zv, .ref zw, .ref zo, .ref zq, .long (nu), .int (bq), .int (fg), .ref zl, .int (nI (hg)), .int (nI (cz)), .ref zi])), (zc, .inl (cy 0, 4, .inl (upd mcn hj (nI (0))))), (zm, .inl (cy 0, 4, .inl (upd mmd hj (nI (2))))), (zk, .inl (cy 0, 32, .inl (mk))), (zd, .inl (cy 0, 4, .inl (upd mdn hj (nI (0))))), (za, .inl (cy 0, 8, .inl (stA))), (zs, .inl (cy 0, 8, .inl (ms))), (zr, .inl (cy 0, 1600, .inl (mr))), (ze, .inl (cy 0, 8, .inl (ke))), (zn, .inl (cy 0, 8, .inl (cn))), (zb, .inl (cy 0, 16, .inl (bb))), (zv, .inl (cy 0, 16, .inl (vv))), (zw, .inl (cy 0, 16, .inl (ww))), (zo, .inl (cy 0, 16, .inl (oo))), (zq, .inl (cy 0, 16, .inl (fun k => nI (orN k))))] H locs := hW
            refine lv_aload_n hx hb dX5_begin_67 rfl (lv_at hl 0 rfl) ?_
            refine lv_iload_n hx hb dX5_begin_68 rfl (lv_at hl 1 rfl) ?_
            refine kVv (As := [.int (nI (hj))]) (rest := []) S0 hK hst hA hW [0, 3, 5] (fun sz => c_X5_plain l D cy t z0 zr zs zt zc zm zk zh zd zf ml zp mps za ze be zn zb zv zw zo zq nu bq fg zl hg cz zi mk hj (by omega) sz) rfl (by decide) (cwV 1 hts gX5_begin_X5_plain rfl rfl rfl (by decide +kernel) ⟨Nat.le_of_ble_eq_true rfl, Nat.le_of_ble_eq_true rfl⟩) (fun _ => rfl) 0 5 rfl rfl rfl hl.1 rfl (Nat.le_of_ble_eq_true rfl) dX5_begin_69 ⟨Nat.le_of_ble_eq_true rfl, Nat.le_of_ble_eq_true rfl⟩ (fun u69 H locs p69 hW => ?_)
            have hW : Wd D A s [(z0, .inr (5, [.ref zr, .ref zs, .ref zt, .ref zc, .ref zm, .ref zk, .ref zh, .ref zd, .ref zf, .int (nI (ml)), .ref zp, .int (nI (mps)), .ref za, .ref ze, .int (be), .ref zn, .ref zb, .ref zv, .ref zw, .ref zo, .ref zq, .long (nu), .int (bq), .int (fg), .ref zl, .int (nI (hg)), .int (nI (cz)), .ref zi])), (zc, .inl (cy 0, 4, .inl (upd mcn hj (nI (0))))), (zm, .inl (cy 0, 4, .inl (upd mmd hj (nI (2))))), (zk, .inl (cy 0, 32, .inl (apG mk (8 * hj) stA 8))), (zd, .inl (cy 0, 4, .inl (upd mdn hj (nI (0))))), (za, .inl (cy 0, 8, .inl (stA))), (zs, .inl (cy 0, 8, .inl (ms))), (zr, .inl (cy 0, 1600, .inl (mr))), (ze, .inl (cy 0, 8, .inl (ke))), (zn, .inl (cy 0, 8, .inl (cn))), (zb, .inl (cy 0, 16, .inl (bb))), (zv, .inl (cy 0, 16, .inl (vv))), (zw, .inl (cy 0, 16, .inl (ww))), (zo, .inl (cy 0, 16, .inl (oo))), (zq, .inl (cy 0, 16, .inl (fun k => nI (orN k))))] H locs := hW
            refine lv_iload_n hx hb dX5_begin_72 rfl (lv_at hl 2 rfl) ?_
            refine lv_iconst (v := nI (1)) hx hb dX5_begin_73 (by decide) ?_
            refine iNe (a := 2) (b := 1) (tgt := 125) hx hb dX5_begin_74 (by decide) (by omega) (by omega) (fun h74 => ?_) (fun h74 => ?_)
            · skip
              refine lv_iload_n hx hb dX5_begin_125 rfl (lv_at hl 2 rfl) ?_
              refine lv_iconst (v := nI (2)) hx hb dX5_begin_126 (by decide) ?_
              refine iNe (a := 2) (b := 2) (tgt := 208) hx hb dX5_begin_127 (by decide) (by omega) (by omega) (fun h127 => ?_) (fun h127 => ?_)
              · skip
                exfalso; omega
              · skip
                refine lv_aload_n hx hb dX5_begin_130 rfl (lv_at hl 0 rfl) ?_
                refine lv_iconst (v := (-1 : Int32)) hx hb dX5_begin_131 (by decide) ?_
                refine kVv (As := [.int ((-1 : Int32))]) (rest := []) S0 hK hst hA hW [0, 8, 5] (fun sz => c_X5_useKey_s l D cy t z0 zr zs zt zc zm zk zh zd zf ml zp mps za ze be zn zb zv zw zo zq nu bq fg zl hg cz zi ke  sz) rfl (by decide) (cwV 1 hts gX5_begin_X5_useKey rfl rfl rfl (by decide +kernel) ⟨Nat.le_of_ble_eq_true rfl, Nat.le_of_ble_eq_true rfl⟩) (fun _ => rfl) 0 5 rfl rfl rfl hl.1 rfl (Nat.le_of_ble_eq_true rfl) dX5_begin_132 ⟨Nat.le_of_ble_eq_true rfl, Nat.le_of_ble_eq_true rfl⟩ (fun u132 H locs p132 hW => ?_)
                have hW : Wd D A s [(z0, .inr (5, [.ref zr, .ref zs, .ref zt, .ref zc, .ref zm, .ref zk, .ref zh, .ref zd, .ref zf, .int (nI (ml)), .ref zp, .int (nI (mps)), .ref za, .ref ze, .int (nI (0)), .ref zn, .ref zb, .ref zv, .ref zw, .ref zo, .ref zq, .long (nu), .int (bq), .int (fg), .ref zl, .int (nI (hg)), .int (nI (cz)), .ref zi])), (zc, .inl (cy 0, 4, .inl (upd mcn hj (nI (0))))), (zm, .inl (cy 0, 4, .inl (upd mmd hj (nI (2))))), (zk, .inl (cy 0, 32, .inl (apG mk (8 * hj) stA 8))), (zd, .inl (cy 0, 4, .inl (upd mdn hj (nI (0))))), (za, .inl (cy 0, 8, .inl (stA))), (zs, .inl (cy 0, 8, .inl (ms))), (zr, .inl (cy 0, 1600, .inl (mr))), (ze, .inl (cy 0, 8, .inl (stA))), (zn, .inl (cy 0, 8, .inl (cn))), (zb, .inl (cy 0, 16, .inl (bb))), (zv, .inl (cy 0, 16, .inl (vv))), (zw, .inl (cy 0, 16, .inl (ww))), (zo, .inl (cy 0, 16, .inl (oo))), (zq, .inl (cy 0, 16, .inl (fun k => nI (orN k))))] H locs := hW
                refine lv_aload_n hx hb dX5_begin_135 rfl (lv_at hl 0 rfl) ?_
                refine lv_bipush (v := nI (32)) hx hb dX5_begin_136 (by decide) ?_
                refine va_put (D := D) (ci := 5) (v := .int (nI (32))) (ty := .int) (C := RX5) (T := TX5) (N := 28) hx hb hts i_X5_begin_2_X5 tyX5 tyX5_ok nmX5 hown hK hW.1 hW.2.1 hW.2.2 0 rfl rfl 14 (by decide) (hts (.fieldLink RX5 114 "TreeHashesModel" "base" "I") f_X5_begin_2_4) (fun _ h9 => h9) rfl (by decide +kernel) rfl rfl (Nat.le_of_ble_eq_true rfl) dX5_begin_138 (fun H locs hP hD hS => ?_)
                have hW : Wd D A s [(z0, .inr (5, [.ref zr, .ref zs, .ref zt, .ref zc, .ref zm, .ref zk, .ref zh, .ref zd, .ref zf, .int (nI (ml)), .ref zp, .int (nI (mps)), .ref za, .ref ze, .int (nI (32)), .ref zn, .ref zb, .ref zv, .ref zw, .ref zo, .ref zq, .long (nu), .int (bq), .int (fg), .ref zl, .int (nI (hg)), .int (nI (cz)), .ref zi])), (zc, .inl (cy 0, 4, .inl (upd mcn hj (nI (0))))), (zm, .inl (cy 0, 4, .inl (upd mmd hj (nI (2))))), (zk, .inl (cy 0, 32, .inl (apG mk (8 * hj) stA 8))), (zd, .inl (cy 0, 4, .inl (upd mdn hj (nI (0))))), (za, .inl (cy 0, 8, .inl (stA))), (zs, .inl (cy 0, 8, .inl (ms))), (zr, .inl (cy 0, 1600, .inl (mr))), (ze, .inl (cy 0, 8, .inl (stA))), (zn, .inl (cy 0, 8, .inl (cn))), (zb, .inl (cy 0, 16, .inl (bb))), (zv, .inl (cy 0, 16, .inl (vv))), (zw, .inl (cy 0, 16, .inl (ww))), (zo, .inl (cy 0, 16, .inl (oo))), (zq, .inl (cy 0, 16, .inl (fun k => nI (orN k))))] H locs := ⟨hP, hD, hS⟩
                refine lv_aload_n hx hb dX5_begin_141 rfl (lv_at hl 0 rfl) ?_
                refine lv_aload_n hx hb dX5_begin_142 rfl (lv_at hl 0 rfl) ?_
                refine va_get (D := D) (ci := 5) (v := .ref zr) (C := RX5) (T := TX5) (N := 28) hx hb hts i_X5_begin_2_X5 hown hK hW.1 0 rfl rfl 0 (by decide) (hts (.fieldLink RX5 7 "TreeHashesModel" "registers" "[I") f_X5_begin_2_5) (fun _ h9 => h9) rfl dX5_begin_143 ?_
                refine lv_sipush (v := nI (200)) hx hb dX5_begin_146 (by decide) ?_
                refine lv_iload_n hx hb dX5_begin_149 rfl (lv_at hl 3 rfl) ?_
                refine lv_imul hx hb dX5_begin_150 ?_
                refine tI (pk_mul _ _) ?_
                refine lv_aload_n hx hb dX5_begin_151 rfl (lv_at hl 0 rfl) ?_
                refine va_get (D := D) (ci := 5) (v := .ref zs) (C := RX5) (T := TX5) (N := 28) hx hb hts i_X5_begin_2_X5 hown hK hW.1 0 rfl rfl 1 (by decide) (hts (.fieldLink RX5 13 "TreeHashesModel" "sizes" "[I") f_X5_begin_2_6) (fun _ h9 => h9) rfl dX5_begin_152 ?_
                refine lv_iload_n hx hb dX5_begin_155 rfl (lv_at hl 3 rfl) ?_
                refine rI hx hb hK hW 6 rfl (k := ri) (by omega) (by omega) dX5_begin_156 ?_
                refine tI (x' := nI (cnt)) (hsz) ?_
                refine lv_lconst (v := lN 0) hx hb dX5_begin_157 (by decide) ?_
                refine kVv (As := [.ref zr, .int (nI (200 * ri)), .int (nI (cnt)), .long (lN 0)]) (rest := []) S0 hK hst hA hW [0, 8, 9, 10, 11, 12, 13, 14, 5, 7] (fun sz => c_X5_chunk l D cy t z0 zr zs zt zc zm zk zh zd zf ml zp mps za ze (nI (32)) zn zb zv zw zo zq nu bq fg zl hg cz zi stA cn bb vv ww oo zr 1600 mr (200 * ri) cnt 0 (by omega) (by omega) (by omega) sz) rfl (by decide) (cwV 4 hts gX5_begin_X5_chunk rfl rfl rfl (by decide +kernel) ⟨Nat.le_of_ble_eq_true rfl, Nat.le_of_ble_eq_true rfl⟩) (fun ⟨_, _, _⟩ => rfl) 0 5 rfl rfl rfl hl.1 rfl (Nat.le_of_ble_eq_true rfl) dX5_begin_158 ⟨Nat.le_of_ble_eq_true rfl, Nat.le_of_ble_eq_true rfl⟩ (fun u158 H locs p158 hW => ?_)
                obtain ⟨vv2_158, ww2_158, oo2_158⟩ := u158
                have hW : Wd D A s [(z0, .inr (5, [.ref zr, .ref zs, .ref zt, .ref zc, .ref zm, .ref zk, .ref zh, .ref zd, .ref zf, .int (nI (ml)), .ref zp, .int (nI (mps)), .ref za, .ref ze, .int ((nI (32))), .ref zn, .ref zb, .ref zv, .ref zw, .ref zo, .ref zq, .long ((ndC stA (nI (32)) mr (200 * ri) 0 cnt).2.2.1), .int ((ndC stA (nI (32)) mr (200 * ri) 0 cnt).2.2.2.1), .int ((ndC stA (nI (32)) mr (200 * ri) 0 cnt).2.2.2.2), .ref zl, .int (nI (hg)), .int (nI (cz)), .ref zi])), (zc, .inl (cy 0, 4, .inl (upd mcn hj (nI (0))))), (zm, .inl (cy 0, 4, .inl (upd mmd hj (nI (2))))), (zk, .inl (cy 0, 32, .inl (apG mk (8 * hj) stA 8))), (zd, .inl (cy 0, 4, .inl (upd mdn hj (nI (0))))), (za, .inl (cy 0, 8, .inl (stA))), (zs, .inl (cy 0, 8, .inl (ms))), (zr, .inl (cy 0, 1600, .inl (mr))), (ze, .inl (cy 0, 8, .inl (stA))), (zn, .inl (cy 0, 8, .inl ((ndC stA (nI (32)) mr (200 * ri) 0 cnt).1))), (zb, .inl (cy 0, 16, .inl ((ndC stA (nI (32)) mr (200 * ri) 0 cnt).2.1))), (zv, .inl (cy 0, 16, .inl (vv2_158))), (zw, .inl (cy 0, 16, .inl (ww2_158))), (zo, .inl (cy 0, 16, .inl (oo2_158))), (zq, .inl (cy 0, 16, .inl (fun k => nI (orN k))))] H locs := hW
                refine lv_aload_n hx hb dX5_begin_161 rfl (lv_at hl 0 rfl) ?_
                refine lv_lconst (v := lN 0) hx hb dX5_begin_162 (by decide) ?_
                refine lv_aload_n hx hb dX5_begin_163 rfl (lv_at hl 0 rfl) ?_
                refine va_get (D := D) (ci := 5) (v := .int ((ndC stA (nI (32)) mr (200 * ri) 0 cnt).2.2.2.2)) (C := RX5) (T := TX5) (N := 28) hx hb hts i_X5_begin_2_X5 hown hK hW.1 0 rfl rfl 23 (by decide) (hts (.fieldLink RX5 104 "TreeHashesModel" "flags" "I") f_X5_begin_2_7) (fun _ h9 => h9) rfl dX5_begin_164 ?_
                refine lv_bipush (v := nI (8)) hx hb dX5_begin_167 (by decide) ?_
                refine lv_iadd hx hb dX5_begin_169 ?_
                refine kVv (As := [.long (lN 0), .int (((ndC stA (nI (32)) mr (200 * ri) 0 cnt).2.2.2.2) + (nI (8)))]) (rest := []) S0 hK hst hA hW [0, 9, 10, 11, 12, 13, 14, 5] (fun sz => c_X5_mix l D cy t z0 zr zs zt zc zm zk zh zd zf ml zp mps za ze (nI (32)) zn zb zv zw zo zq ((ndC stA (nI (32)) mr (200 * ri) 0 cnt).2.2.1) ((ndC stA (nI (32)) mr (200 * ri) 0 cnt).2.2.2.1) ((ndC stA (nI (32)) mr (200 * ri) 0 cnt).2.2.2.2) zl hg cz zi ((ndC stA (nI (32)) mr (200 * ri) 0 cnt).1) ((ndC stA (nI (32)) mr (200 * ri) 0 cnt).2.1) vv2_158 ww2_158 oo2_158 (lN 0) (((ndC stA (nI (32)) mr (200 * ri) 0 cnt).2.2.2.2) + (nI (8)))  sz) rfl (by decide) (cwV 2 hts gX5_begin_X5_mix rfl rfl rfl (by decide +kernel) ⟨Nat.le_of_ble_eq_true rfl, Nat.le_of_ble_eq_true rfl⟩) (fun ⟨_, _⟩ => rfl) 0 5 rfl rfl rfl hl.1 rfl (Nat.le_of_ble_eq_true rfl) dX5_begin_170 ⟨Nat.le_of_ble_eq_true rfl, Nat.le_of_ble_eq_true rfl⟩ (fun u170 H locs p170 hW => ?_)
                obtain ⟨ww2_170, oo2_170⟩ := u170
                have hW : Wd D A s [(z0, .inr (5, [.ref zr, .ref zs, .ref zt, .ref zc, .ref zm, .ref zk, .ref zh, .ref zd, .ref zf, .int (nI (ml)), .ref zp, .int (nI (mps)), .ref za, .ref ze, .int ((nI (32))), .ref zn, .ref zb, .ref zv, .ref zw, .ref zo, .ref zq, .long (((ndC stA (nI (32)) mr (200 * ri) 0 cnt).2.2.1)), .int (((ndC stA (nI (32)) mr (200 * ri) 0 cnt).2.2.2.1)), .int (((ndC stA (nI (32)) mr (200 * ri) 0 cnt).2.2.2.2)), .ref zl, .int (nI (hg)), .int (nI (cz)), .ref zi])), (zc, .inl (cy 0, 4, .inl (upd mcn hj (nI (0))))), (zm, .inl (cy 0, 4, .inl (upd mmd hj (nI (2))))), (zk, .inl (cy 0, 32, .inl (apG mk (8 * hj) stA 8))), (zd, .inl (cy 0, 4, .inl (upd mdn hj (nI (0))))), (za, .inl (cy 0, 8, .inl (stA))), (zs, .inl (cy 0, 8, .inl (ms))), (zr, .inl (cy 0, 1600, .inl (mr))), (ze, .inl (cy 0, 8, .inl (stA))), (zn, .inl (cy 0, 8, .inl (((ndC stA (nI (32)) mr (200 * ri) 0 cnt).1)))), (zb, .inl (cy 0, 16, .inl (((ndC stA (nI (32)) mr (200 * ri) 0 cnt).2.1)))), (zv, .inl (cy 0, 16, .inl (mixV ((ndC stA (nI (32)) mr (200 * ri) 0 cnt).1) ((ndC stA (nI (32)) mr (200 * ri) 0 cnt).2.1) (lN 0) ((ndC stA (nI (32)) mr (200 * ri) 0 cnt).2.2.2.1) (((ndC stA (nI (32)) mr (200 * ri) 0 cnt).2.2.2.2) + (nI (8)))))), (zw, .inl (cy 0, 16, .inl (ww2_170))), (zo, .inl (cy 0, 16, .inl (oo2_170))), (zq, .inl (cy 0, 16, .inl (fun k => nI (orN k))))] H locs := hW
                refine lv_iconst (v := nI (0)) hx hb dX5_begin_173 (by decide) ?_
                refine lv_istore (lv' := [(4, .int (nI (0))), (0, .ref z0), (1, .int (nI (hj))), (2, .int (nI (2))), (3, .int (nI (ri)))]) hx hb dX5_begin_174 hl (by decide) rfl (fun ls hl => ?_)
                have loop176 : ∀ (nF : Nat) (i : Nat), 8 - i < nF → (i ≤ 8) → ∀ (H : Heap) (locs : List Loc), Wd D A s [(z0, .inr (5, [.ref zr, .ref zs, .ref zt, .ref zc, .ref zm, .ref zk, .ref zh, .ref zd, .ref zf, .int (nI (ml)), .ref zp, .int (nI (mps)), .ref za, .ref ze, .int ((nI (32))), .ref zn, .ref zb, .ref zv, .ref zw, .ref zo, .ref zq, .long (((ndC stA (nI (32)) mr (200 * ri) 0 cnt).2.2.1)), .int (((ndC stA (nI (32)) mr (200 * ri) 0 cnt).2.2.2.1)), .int (((ndC stA (nI (32)) mr (200 * ri) 0 cnt).2.2.2.2)), .ref zl, .int (nI (hg)), .int (nI (cz)), .ref zi])), (zc, .inl (cy 0, 4, .inl (upd mcn hj (nI (0))))), (zm, .inl (cy 0, 4, .inl (upd mmd hj (nI (2))))), (zk, .inl (cy 0, 32, .inl (apG (apG mk (8 * hj) stA 8) (8 * hj) (mixV (ndC stA (nI (32)) mr (200 * ri) 0 cnt).1 (ndC stA (nI (32)) mr (200 * ri) 0 cnt).2.1 (lN 0) (ndC stA (nI (32)) mr (200 * ri) 0 cnt).2.2.2.1 ((ndC stA (nI (32)) mr (200 * ri) 0 cnt).2.2.2.2 + (nI (8)))) i))), (zd, .inl (cy 0, 4, .inl (upd mdn hj (nI (0))))), (za, .inl (cy 0, 8, .inl (stA))), (zs, .inl (cy 0, 8, .inl (ms))), (zr, .inl (cy 0, 1600, .inl (mr))), (ze, .inl (cy 0, 8, .inl (stA))), (zn, .inl (cy 0, 8, .inl (((ndC stA (nI (32)) mr (200 * ri) 0 cnt).1)))), (zb, .inl (cy 0, 16, .inl (((ndC stA (nI (32)) mr (200 * ri) 0 cnt).2.1)))), (zv, .inl (cy 0, 16, .inl (mixV ((ndC stA (nI (32)) mr (200 * ri) 0 cnt).1) ((ndC stA (nI (32)) mr (200 * ri) 0 cnt).2.1) (lN 0) ((ndC stA (nI (32)) mr (200 * ri) 0 cnt).2.2.2.1) (((ndC stA (nI (32)) mr (200 * ri) 0 cnt).2.2.2.2) + (nI (8)))))), (zw, .inl (cy 0, 16, .inl (ww2_170))), (zo, .inl (cy 0, 16, .inl (oo2_170))), (zq, .inl (cy 0, 16, .inl (fun k => nI (orN k))))] H locs → ∀ ls : Array Slot, lv_has ls 5 [(0, .ref z0), (1, .int (nI (hj))), (2, .int (nI (2))), (3, .int (nI (ri))), (4, .int (nI (i)))] → W p l e ({ frames := 5, cells := 0, slots := 0, locals := 120 }) s m args below meth c H locs 0 0 Q (F0 m 176 ls []) := by
                  intro nF
                  induction nF with
                  | zero => intro i hf; exact absurd hf (Nat.not_lt_zero _)
                  | succ nF ih176 =>
                    intro i hf hi H locs hW ls hl
                    refine lv_iload hx hb dX5_begin_176 (lv_at hl 4 rfl) ?_
                    refine lv_bipush (v := nI (8)) hx hb dX5_begin_178 (by decide) ?_
                    refine iGe (a := i) (b := 8) (tgt := 208) hx hb dX5_begin_180 (by decide) (by omega) (by omega) (fun h180 => ?_) (fun h180 => ?_)
                    · skip
                      refine lv_iconst (v := nI (0)) hx hb dX5_begin_208 (by decide) ?_
                      have e9 : i = 8 := by omega
                      rw [e9] at hW
                      exact eI hQ hx hb hr hlocks hK hW (ww2_170, oo2_170) (rfl) (rfl) dX5_begin_209
                    · skip
                      refine lv_aload_n hx hb dX5_begin_183 rfl (lv_at hl 0 rfl) ?_
                      refine va_get (D := D) (ci := 5) (v := .ref zk) (C := RX5) (T := TX5) (N := 28) hx hb hts i_X5_begin_2_X5 hown hK hW.1 0 rfl rfl 5 (by decide) (hts (.fieldLink RX5 26 "TreeHashesModel" "keys" "[I") f_X5_begin_2_8) (fun _ h9 => h9) rfl dX5_begin_184 ?_
                      refine lv_bipush (v := nI (8)) hx hb dX5_begin_187 (by decide) ?_
                      refine lv_iload_n hx hb dX5_begin_189 rfl (lv_at hl 1 rfl) ?_
                      refine lv_imul hx hb dX5_begin_190 ?_
                      refine tI (pk_mul _ _) ?_
                      refine lv_iload hx hb dX5_begin_191 (lv_at hl 4 rfl) ?_
                      refine lv_iadd hx hb dX5_begin_193 ?_
                      refine tI (nI_add _ _) ?_
                      refine lv_aload_n hx hb dX5_begin_194 rfl (lv_at hl 0 rfl) ?_
                      refine va_get (D := D) (ci := 5) (v := .ref zv) (C := RX5) (T := TX5) (N := 28) hx hb hts i_X5_begin_2_X5 hown hK hW.1 0 rfl rfl 17 (by decide) (hts (.fieldLink RX5 53 "TreeHashesModel" "v" "[I") f_X5_begin_2_9) (fun _ h9 => h9) rfl dX5_begin_195 ?_
                      refine lv_iload hx hb dX5_begin_198 (lv_at hl 4 rfl) ?_
                      refine rI hx hb hK hW 11 rfl (k := i) (by omega) (by omega) dX5_begin_200 ?_
                      refine wI hx hb hK hW 3 rfl (k := (8 * hj) + i) (by omega) (by omega) dX5_begin_201 (fun H locs hW => ?_)
                      have hW : Wd D A s [(z0, .inr (5, [.ref zr, .ref zs, .ref zt, .ref zc, .ref zm, .ref zk, .ref zh, .ref zd, .ref zf, .int (nI (ml)), .ref zp, .int (nI (mps)), .ref za, .ref ze, .int ((nI (32))), .ref zn, .ref zb, .ref zv, .ref zw, .ref zo, .ref zq, .long (((ndC stA (nI (32)) mr (200 * ri) 0 cnt).2.2.1)), .int (((ndC stA (nI (32)) mr (200 * ri) 0 cnt).2.2.2.1)), .int (((ndC stA (nI (32)) mr (200 * ri) 0 cnt).2.2.2.2)), .ref zl, .int (nI (hg)), .int (nI (cz)), .ref zi])), (zc, .inl (cy 0, 4, .inl (upd mcn hj (nI (0))))), (zm, .inl (cy 0, 4, .inl (upd mmd hj (nI (2))))), (zk, .inl (cy 0, 32, .inl (upd (apG (apG mk (8 * hj) stA 8) (8 * hj) (mixV (ndC stA (nI (32)) mr (200 * ri) 0 cnt).1 (ndC stA (nI (32)) mr (200 * ri) 0 cnt).2.1 (lN 0) (ndC stA (nI (32)) mr (200 * ri) 0 cnt).2.2.2.1 ((ndC stA (nI (32)) mr (200 * ri) 0 cnt).2.2.2.2 + (nI (8)))) i) ((8 * hj) + i) ((mixV ((ndC stA (nI (32)) mr (200 * ri) 0 cnt).1) ((ndC stA (nI (32)) mr (200 * ri) 0 cnt).2.1) (lN 0) ((ndC stA (nI (32)) mr (200 * ri) 0 cnt).2.2.2.1) (((ndC stA (nI (32)) mr (200 * ri) 0 cnt).2.2.2.2) + (nI (8)))) i)))), (zd, .inl (cy 0, 4, .inl (upd mdn hj (nI (0))))), (za, .inl (cy 0, 8, .inl (stA))), (zs, .inl (cy 0, 8, .inl (ms))), (zr, .inl (cy 0, 1600, .inl (mr))), (ze, .inl (cy 0, 8, .inl (stA))), (zn, .inl (cy 0, 8, .inl (((ndC stA (nI (32)) mr (200 * ri) 0 cnt).1)))), (zb, .inl (cy 0, 16, .inl (((ndC stA (nI (32)) mr (200 * ri) 0 cnt).2.1)))), (zv, .inl (cy 0, 16, .inl (mixV ((ndC stA (nI (32)) mr (200 * ri) 0 cnt).1) ((ndC stA (nI (32)) mr (200 * ri) 0 cnt).2.1) (lN 0) ((ndC stA (nI (32)) mr (200 * ri) 0 cnt).2.2.2.1) (((ndC stA (nI (32)) mr (200 * ri) 0 cnt).2.2.2.2) + (nI (8)))))), (zw, .inl (cy 0, 16, .inl (ww2_170))), (zo, .inl (cy 0, 16, .inl (oo2_170))), (zq, .inl (cy 0, 16, .inl (fun k => nI (orN k))))] H locs := hW
                      rw [show (upd (apG (apG mk (8 * hj) stA 8) (8 * hj) (mixV (ndC stA (nI (32)) mr (200 * ri) 0 cnt).1 (ndC stA (nI (32)) mr (200 * ri) 0 cnt).2.1 (lN 0) (ndC stA (nI (32)) mr (200 * ri) 0 cnt).2.2.2.1 ((ndC stA (nI (32)) mr (200 * ri) 0 cnt).2.2.2.2 + (nI (8)))) i) ((8 * hj) + i) ((mixV ((ndC stA (nI (32)) mr (200 * ri) 0 cnt).1) ((ndC stA (nI (32)) mr (200 * ri) 0 cnt).2.1) (lN 0) ((ndC stA (nI (32)) mr (200 * ri) 0 cnt).2.2.2.1) (((ndC stA (nI (32)) mr (200 * ri) 0 cnt).2.2.2.2) + (nI (8)))) i)) = (apG (apG mk (8 * hj) stA 8) (8 * hj) (mixV (ndC stA (nI (32)) mr (200 * ri) 0 cnt).1 (ndC stA (nI (32)) mr (200 * ri) 0 cnt).2.1 (lN 0) (ndC stA (nI (32)) mr (200 * ri) 0 cnt).2.2.2.1 ((ndC stA (nI (32)) mr (200 * ri) 0 cnt).2.2.2.2 + (nI (8)))) (i + 1)) from apG_s (apG mk (8 * hj) stA 8) (8 * hj) (mixV (ndC stA (nI (32)) mr (200 * ri) 0 cnt).1 (ndC stA (nI (32)) mr (200 * ri) 0 cnt).2.1 (lN 0) (ndC stA (nI (32)) mr (200 * ri) 0 cnt).2.2.2.1 ((ndC stA (nI (32)) mr (200 * ri) 0 cnt).2.2.2.2 + (nI (8)))) i] at hW
                      have hW : Wd D A s [(z0, .inr (5, [.ref zr, .ref zs, .ref zt, .ref zc, .ref zm, .ref zk, .ref zh, .ref zd, .ref zf, .int (nI (ml)), .ref zp, .int (nI (mps)), .ref za, .ref ze, .int ((nI (32))), .ref zn, .ref zb, .ref zv, .ref zw, .ref zo, .ref zq, .long (((ndC stA (nI (32)) mr (200 * ri) 0 cnt).2.2.1)), .int (((ndC stA (nI (32)) mr (200 * ri) 0 cnt).2.2.2.1)), .int (((ndC stA (nI (32)) mr (200 * ri) 0 cnt).2.2.2.2)), .ref zl, .int (nI (hg)), .int (nI (cz)), .ref zi])), (zc, .inl (cy 0, 4, .inl (upd mcn hj (nI (0))))), (zm, .inl (cy 0, 4, .inl (upd mmd hj (nI (2))))), (zk, .inl (cy 0, 32, .inl (apG (apG mk (8 * hj) stA 8) (8 * hj) (mixV (ndC stA (nI (32)) mr (200 * ri) 0 cnt).1 (ndC stA (nI (32)) mr (200 * ri) 0 cnt).2.1 (lN 0) (ndC stA (nI (32)) mr (200 * ri) 0 cnt).2.2.2.1 ((ndC stA (nI (32)) mr (200 * ri) 0 cnt).2.2.2.2 + (nI (8)))) (i + 1)))), (zd, .inl (cy 0, 4, .inl (upd mdn hj (nI (0))))), (za, .inl (cy 0, 8, .inl (stA))), (zs, .inl (cy 0, 8, .inl (ms))), (zr, .inl (cy 0, 1600, .inl (mr))), (ze, .inl (cy 0, 8, .inl (stA))), (zn, .inl (cy 0, 8, .inl (((ndC stA (nI (32)) mr (200 * ri) 0 cnt).1)))), (zb, .inl (cy 0, 16, .inl (((ndC stA (nI (32)) mr (200 * ri) 0 cnt).2.1)))), (zv, .inl (cy 0, 16, .inl (mixV ((ndC stA (nI (32)) mr (200 * ri) 0 cnt).1) ((ndC stA (nI (32)) mr (200 * ri) 0 cnt).2.1) (lN 0) ((ndC stA (nI (32)) mr (200 * ri) 0 cnt).2.2.2.1) (((ndC stA (nI (32)) mr (200 * ri) 0 cnt).2.2.2.2) + (nI (8)))))), (zw, .inl (cy 0, 16, .inl (ww2_170))), (zo, .inl (cy 0, 16, .inl (oo2_170))), (zq, .inl (cy 0, 16, .inl (fun k => nI (orN k))))] H locs := hW
                      refine lv_iinc (v := nI (i + 1)) (lv' := [(4, .int (nI (i + 1))), (0, .ref z0), (1, .int (nI (hj))), (2, .int (nI (2))), (3, .int (nI (ri)))]) hx hb dX5_begin_202 hl (k := 4) rfl (nI_1 _) (by decide) rfl (fun ls hl => ?_)
                      refine lv_goto (tgt := 176) hx hb dX5_begin_205 (by decide) ?_
                      exact ih176 (i + 1) (by omega) (by omega) _ _ hW _ (lv_sub hl [1, 2, 3, 4, 0] rfl)
                rw [← apG_0 (apG mk (8 * hj) stA 8) (8 * hj) (mixV (ndC stA (nI (32)) mr (200 * ri) 0 cnt).1 (ndC stA (nI (32)) mr (200 * ri) 0 cnt).2.1 (lN 0) (ndC stA (nI (32)) mr (200 * ri) 0 cnt).2.2.2.1 ((ndC stA (nI (32)) mr (200 * ri) 0 cnt).2.2.2.2 + (nI (8))))] at hW
                exact loop176 _ 0 (Nat.lt_succ_self _) (by omega) _ _ hW _ (lv_sub hl [1, 2, 3, 4, 0] rfl)
            · skip
              exfalso; omega
          · skip
            exfalso; omega

set_option maxHeartbeats 4000000 in
set_option maxRecDepth 100000 in
theorem c_X5_output_b (l : Launch) (D : va_G) (cy : Nat → ClassId) (t : Nat × Nat) (z0 : Nat) (zr : Nat) (zs : Nat) (zt : Nat) (zc : Nat) (zm : Nat) (zk : Nat) (zh : Nat) (zd : Nat) (zf : Nat) (ml : Nat) (zp : Nat) (mps : Nat) (za : Nat) (ze : Nat) (be : Int32) (zn : Nat) (zb : Nat) (zv : Nat) (zw : Nat) (zo : Nat) (zq : Nat) (nu : Int64) (bq : Int32) (fg : Int32) (zl : Nat) (hg : Nat) (cz : Nat) (zi : Nat) (x : Int32) (y : Int32) (z : Int32) (w0 : Int64) (hbd : x < 0 ∨ nI 4 ≤ x) (sz : Nat) : Met l yX5_output wsX5_output ({ frames := 1, cells := 0, slots := 0, locals := 20 }) (PcW D cy t [(z0, .inr (5, [.ref zr, .ref zs, .ref zt, .ref zc, .ref zm, .ref zk, .ref zh, .ref zd, .ref zf, .int (nI (ml)), .ref zp, .int (nI (mps)), .ref za, .ref ze, .int (be), .ref zn, .ref zb, .ref zv, .ref zw, .ref zo, .ref zq, .long (nu), .int (bq), .int (fg), .ref zl, .int (nI (hg)), .int (nI (cz)), .ref zi]))] [.ref z0, .int (x), .int (y), .int (z), .long (w0)] sz) (QiA D cy (fun (r : Int32) (u : Unit) => (r = (-2 : Int32))) (fun u : Unit => [(z0, .inr (5, [.ref zr, .ref zs, .ref zt, .ref zc, .ref zm, .ref zk, .ref zh, .ref zd, .ref zf, .int (nI (ml)), .ref zp, .int (nI (mps)), .ref za, .ref ze, .int (be), .ref zn, .ref zb, .ref zv, .ref zw, .ref zo, .ref zq, .long (nu), .int (bq), .int (fg), .ref zl, .int (nI (hg)), .int (nI (cz)), .ref zi]))]) (va_A [(z0, .inr (5, [.ref zr, .ref zs, .ref zt, .ref zc, .ref zm, .ref zk, .ref zh, .ref zd, .ref zf, .int (nI (ml)), .ref zp, .int (nI (mps)), .ref za, .ref ze, .int (be), .ref zn, .ref zb, .ref zv, .ref zw, .ref zo, .ref zq, .long (nu), .int (bq), .int (fg), .ref zl, .int (nI (hg)), .int (nI (cz)), .ref zi]))] sz)) 0 0 (va_A [(z0, .inr (5, [.ref zr, .ref zs, .ref zt, .ref zc, .ref zm, .ref zk, .ref zh, .ref zd, .ref zf, .int (nI (ml)), .ref zp, .int (nI (mps)), .ref za, .ref ze, .int (be), .ref zn, .ref zb, .ref zv, .ref zw, .ref zo, .ref zq, .long (nu), .int (bq), .int (fg), .ref zl, .int (nI (hg)), .int (nI (cz)), .ref zi]))] sz) := by
  refine M_ofW (cc := cX5_output) (maxL := 12) (ret := (some .int)) (by decide) rfl (Nat.le_of_ble_eq_true rfl) ?_
  intro p e s m below meth c A ls args Q hQ S0 hr hlocks hnm hK hst hA hW hl
  have hx := S0.1; have hb := S0.2.1; have hml := S0.2.2.1; have hown := S0.2.2.2.1; have hts := S0.2.2.2.2
  have hl : lv_has ls 12 [(0, .ref z0), (1, .int (x)), (2, .int (y)), (3, .int (z)), (4, .long (w0))] := hl
  refine lv_iload_n hx hb dX5_output_0 rfl (lv_at hl 1 rfl) ?_
  refine kSi (As := [.int (x)]) (rest := []) S0 hK hst hA hW [] (fun sz => c_X5_isHasher_b l D cy t x (hbd) sz) rfl (by decide) (va_cwS 1 hts gX5_output_X5_isHasher rfl rfl rfl (by decide +kernel) ⟨Nat.le_of_ble_eq_true rfl, Nat.le_of_ble_eq_true rfl⟩) (fun _ => rfl) rfl hl.1 rfl (Nat.le_of_ble_eq_true rfl) dX5_output_1 ⟨Nat.le_of_ble_eq_true rfl, Nat.le_of_ble_eq_true rfl⟩ (fun r1 u1 H locs p1 hW => ?_)
  have hW : Wd D A s [(z0, .inr (5, [.ref zr, .ref zs, .ref zt, .ref zc, .ref zm, .ref zk, .ref zh, .ref zd, .ref zf, .int (nI (ml)), .ref zp, .int (nI (mps)), .ref za, .ref ze, .int (be), .ref zn, .ref zb, .ref zv, .ref zw, .ref zo, .ref zq, .long (nu), .int (bq), .int (fg), .ref zl, .int (nI (hg)), .int (nI (cz)), .ref zi]))] H locs := hW
  have q1 : r1 = nI (0) := p1
  subst q1
  refine zEq (a := 0) (tgt := 37) hx hb dX5_output_4 (by decide) (by omega) (fun h4 => ?_) (fun h4 => ?_)
  · skip
    refine lv_bipush (v := (-2 : Int32)) hx hb dX5_output_37 (by decide) ?_
    exact eI hQ hx hb hr hlocks hK hW () (rfl) (rfl) dX5_output_39
  · skip
    exfalso; omega

set_option maxHeartbeats 4000000 in
set_option maxRecDepth 100000 in
theorem c_X5_output_b2 (l : Launch) (D : va_G) (cy : Nat → ClassId) (t : Nat × Nat) (z0 : Nat) (zr : Nat) (zs : Nat) (zt : Nat) (zc : Nat) (zm : Nat) (zk : Nat) (zh : Nat) (zd : Nat) (zf : Nat) (ml : Nat) (zp : Nat) (mps : Nat) (za : Nat) (ze : Nat) (be : Int32) (zn : Nat) (zb : Nat) (zv : Nat) (zw : Nat) (zo : Nat) (zq : Nat) (nu : Int64) (bq : Int32) (fg : Int32) (zl : Nat) (hg : Nat) (cz : Nat) (zi : Nat) (hj : Nat) (x : Int32) (z : Int32) (w0 : Int64) (hj4 : hj < 4) (hbd : x < 0 ∨ nI 8 ≤ x) (sz : Nat) : Met l yX5_output wsX5_output ({ frames := 1, cells := 0, slots := 0, locals := 20 }) (PcW D cy t [(z0, .inr (5, [.ref zr, .ref zs, .ref zt, .ref zc, .ref zm, .ref zk, .ref zh, .ref zd, .ref zf, .int (nI (ml)), .ref zp, .int (nI (mps)), .ref za, .ref ze, .int (be), .ref zn, .ref zb, .ref zv, .ref zw, .ref zo, .ref zq, .long (nu), .int (bq), .int (fg), .ref zl, .int (nI (hg)), .int (nI (cz)), .ref zi]))] [.ref z0, .int (nI (hj)), .int (x), .int (z), .long (w0)] sz) (QiA D cy (fun (r : Int32) (u : Unit) => (r = (-2 : Int32))) (fun u : Unit => [(z0, .inr (5, [.ref zr, .ref zs, .ref zt, .ref zc, .ref zm, .ref zk, .ref zh, .ref zd, .ref zf, .int (nI (ml)), .ref zp, .int (nI (mps)), .ref za, .ref ze, .int (be), .ref zn, .ref zb, .ref zv, .ref zw, .ref zo, .ref zq, .long (nu), .int (bq), .int (fg), .ref zl, .int (nI (hg)), .int (nI (cz)), .ref zi]))]) (va_A [(z0, .inr (5, [.ref zr, .ref zs, .ref zt, .ref zc, .ref zm, .ref zk, .ref zh, .ref zd, .ref zf, .int (nI (ml)), .ref zp, .int (nI (mps)), .ref za, .ref ze, .int (be), .ref zn, .ref zb, .ref zv, .ref zw, .ref zo, .ref zq, .long (nu), .int (bq), .int (fg), .ref zl, .int (nI (hg)), .int (nI (cz)), .ref zi]))] sz)) 0 0 (va_A [(z0, .inr (5, [.ref zr, .ref zs, .ref zt, .ref zc, .ref zm, .ref zk, .ref zh, .ref zd, .ref zf, .int (nI (ml)), .ref zp, .int (nI (mps)), .ref za, .ref ze, .int (be), .ref zn, .ref zb, .ref zv, .ref zw, .ref zo, .ref zq, .long (nu), .int (bq), .int (fg), .ref zl, .int (nI (hg)), .int (nI (cz)), .ref zi]))] sz) := by
  refine M_ofW (cc := cX5_output) (maxL := 12) (ret := (some .int)) (by decide) rfl (Nat.le_of_ble_eq_true rfl) ?_
  intro p e s m below meth c A ls args Q hQ S0 hr hlocks hnm hK hst hA hW hl
  have hx := S0.1; have hb := S0.2.1; have hml := S0.2.2.1; have hown := S0.2.2.2.1; have hts := S0.2.2.2.2
  have hl : lv_has ls 12 [(0, .ref z0), (1, .int (nI (hj))), (2, .int (x)), (3, .int (z)), (4, .long (w0))] := hl
  refine lv_iload_n hx hb dX5_output_0 rfl (lv_at hl 1 rfl) ?_
  refine kSi (As := [.int (nI (hj))]) (rest := []) S0 hK hst hA hW [] (fun sz => c_X5_isHasher l D cy t hj (by omega) sz) rfl (by decide) (va_cwS 1 hts gX5_output_X5_isHasher rfl rfl rfl (by decide +kernel) ⟨Nat.le_of_ble_eq_true rfl, Nat.le_of_ble_eq_true rfl⟩) (fun _ => rfl) rfl hl.1 rfl (Nat.le_of_ble_eq_true rfl) dX5_output_1 ⟨Nat.le_of_ble_eq_true rfl, Nat.le_of_ble_eq_true rfl⟩ (fun r1 u1 H locs p1 hW => ?_)
  have hW : Wd D A s [(z0, .inr (5, [.ref zr, .ref zs, .ref zt, .ref zc, .ref zm, .ref zk, .ref zh, .ref zd, .ref zf, .int (nI (ml)), .ref zp, .int (nI (mps)), .ref za, .ref ze, .int (be), .ref zn, .ref zb, .ref zv, .ref zw, .ref zo, .ref zq, .long (nu), .int (bq), .int (fg), .ref zl, .int (nI (hg)), .int (nI (cz)), .ref zi]))] H locs := hW
  have q1 : r1 = nI (1) := p1
  subst q1
  refine zEq (a := 1) (tgt := 37) hx hb dX5_output_4 (by decide) (by omega) (fun h4 => ?_) (fun h4 => ?_)
  · skip
    exfalso; omega
  · skip
    refine lv_iload_n hx hb dX5_output_7 rfl (lv_at hl 2 rfl) ?_
    refine kSi (As := [.int (x)]) (rest := []) S0 hK hst hA hW [] (fun sz => c_X5_isRegister_b l D cy t x (hbd) sz) rfl (by decide) (va_cwS 1 hts gX5_output_X5_isRegister rfl rfl rfl (by decide +kernel) ⟨Nat.le_of_ble_eq_true rfl, Nat.le_of_ble_eq_true rfl⟩) (fun _ => rfl) rfl hl.1 rfl (Nat.le_of_ble_eq_true rfl) dX5_output_8 ⟨Nat.le_of_ble_eq_true rfl, Nat.le_of_ble_eq_true rfl⟩ (fun r8 u8 H locs p8 hW => ?_)
    have hW : Wd D A s [(z0, .inr (5, [.ref zr, .ref zs, .ref zt, .ref zc, .ref zm, .ref zk, .ref zh, .ref zd, .ref zf, .int (nI (ml)), .ref zp, .int (nI (mps)), .ref za, .ref ze, .int (be), .ref zn, .ref zb, .ref zv, .ref zw, .ref zo, .ref zq, .long (nu), .int (bq), .int (fg), .ref zl, .int (nI (hg)), .int (nI (cz)), .ref zi]))] H locs := hW
    have q8 : r8 = nI (0) := p8
    subst q8
    refine zEq (a := 0) (tgt := 37) hx hb dX5_output_11 (by decide) (by omega) (fun h11 => ?_) (fun h11 => ?_)
    · skip
      refine lv_bipush (v := (-2 : Int32)) hx hb dX5_output_37 (by decide) ?_
      exact eI hQ hx hb hr hlocks hK hW () (rfl) (rfl) dX5_output_39
    · skip
      exfalso; omega

set_option maxHeartbeats 4000000 in
set_option maxRecDepth 100000 in
theorem c_X5_output_bn (l : Launch) (D : va_G) (cy : Nat → ClassId) (t : Nat × Nat) (z0 : Nat) (zr : Nat) (zs : Nat) (zt : Nat) (zc : Nat) (zm : Nat) (zk : Nat) (zh : Nat) (zd : Nat) (zf : Nat) (ml : Nat) (zp : Nat) (mps : Nat) (za : Nat) (ze : Nat) (be : Int32) (zn : Nat) (zb : Nat) (zv : Nat) (zw : Nat) (zo : Nat) (zq : Nat) (nu : Int64) (bq : Int32) (fg : Int32) (zl : Nat) (hg : Nat) (cz : Nat) (zi : Nat) (hj : Nat) (ri : Nat) (z : Int32) (w0 : Int64) (hj4 : hj < 4) (hr8 : ri < 8) (hbn : z < 0 ∨ nI 200 < z) (sz : Nat) : Met l yX5_output wsX5_output ({ frames := 1, cells := 0, slots := 0, locals := 20 }) (PcW D cy t [(z0, .inr (5, [.ref zr, .ref zs, .ref zt, .ref zc, .ref zm, .ref zk, .ref zh, .ref zd, .ref zf, .int (nI (ml)), .ref zp, .int (nI (mps)), .ref za, .ref ze, .int (be), .ref zn, .ref zb, .ref zv, .ref zw, .ref zo, .ref zq, .long (nu), .int (bq), .int (fg), .ref zl, .int (nI (hg)), .int (nI (cz)), .ref zi]))] [.ref z0, .int (nI (hj)), .int (nI (ri)), .int (z), .long (w0)] sz) (QiA D cy (fun (r : Int32) (u : Unit) => (r = (-2 : Int32))) (fun u : Unit => [(z0, .inr (5, [.ref zr, .ref zs, .ref zt, .ref zc, .ref zm, .ref zk, .ref zh, .ref zd, .ref zf, .int (nI (ml)), .ref zp, .int (nI (mps)), .ref za, .ref ze, .int (be), .ref zn, .ref zb, .ref zv, .ref zw, .ref zo, .ref zq, .long (nu), .int (bq), .int (fg), .ref zl, .int (nI (hg)), .int (nI (cz)), .ref zi]))]) (va_A [(z0, .inr (5, [.ref zr, .ref zs, .ref zt, .ref zc, .ref zm, .ref zk, .ref zh, .ref zd, .ref zf, .int (nI (ml)), .ref zp, .int (nI (mps)), .ref za, .ref ze, .int (be), .ref zn, .ref zb, .ref zv, .ref zw, .ref zo, .ref zq, .long (nu), .int (bq), .int (fg), .ref zl, .int (nI (hg)), .int (nI (cz)), .ref zi]))] sz)) 0 0 (va_A [(z0, .inr (5, [.ref zr, .ref zs, .ref zt, .ref zc, .ref zm, .ref zk, .ref zh, .ref zd, .ref zf, .int (nI (ml)), .ref zp, .int (nI (mps)), .ref za, .ref ze, .int (be), .ref zn, .ref zb, .ref zv, .ref zw, .ref zo, .ref zq, .long (nu), .int (bq), .int (fg), .ref zl, .int (nI (hg)), .int (nI (cz)), .ref zi]))] sz) := by
  refine M_ofW (cc := cX5_output) (maxL := 12) (ret := (some .int)) (by decide) rfl (Nat.le_of_ble_eq_true rfl) ?_
  intro p e s m below meth c A ls args Q hQ S0 hr hlocks hnm hK hst hA hW hl
  have hx := S0.1; have hb := S0.2.1; have hml := S0.2.2.1; have hown := S0.2.2.2.1; have hts := S0.2.2.2.2
  have hl : lv_has ls 12 [(0, .ref z0), (1, .int (nI (hj))), (2, .int (nI (ri))), (3, .int (z)), (4, .long (w0))] := hl
  refine lv_iload_n hx hb dX5_output_0 rfl (lv_at hl 1 rfl) ?_
  refine kSi (As := [.int (nI (hj))]) (rest := []) S0 hK hst hA hW [] (fun sz => c_X5_isHasher l D cy t hj (by omega) sz) rfl (by decide) (va_cwS 1 hts gX5_output_X5_isHasher rfl rfl rfl (by decide +kernel) ⟨Nat.le_of_ble_eq_true rfl, Nat.le_of_ble_eq_true rfl⟩) (fun _ => rfl) rfl hl.1 rfl (Nat.le_of_ble_eq_true rfl) dX5_output_1 ⟨Nat.le_of_ble_eq_true rfl, Nat.le_of_ble_eq_true rfl⟩ (fun r1 u1 H locs p1 hW => ?_)
  have hW : Wd D A s [(z0, .inr (5, [.ref zr, .ref zs, .ref zt, .ref zc, .ref zm, .ref zk, .ref zh, .ref zd, .ref zf, .int (nI (ml)), .ref zp, .int (nI (mps)), .ref za, .ref ze, .int (be), .ref zn, .ref zb, .ref zv, .ref zw, .ref zo, .ref zq, .long (nu), .int (bq), .int (fg), .ref zl, .int (nI (hg)), .int (nI (cz)), .ref zi]))] H locs := hW
  have q1 : r1 = nI (1) := p1
  subst q1
  refine zEq (a := 1) (tgt := 37) hx hb dX5_output_4 (by decide) (by omega) (fun h4 => ?_) (fun h4 => ?_)
  · skip
    exfalso; omega
  · skip
    refine lv_iload_n hx hb dX5_output_7 rfl (lv_at hl 2 rfl) ?_
    refine kSi (As := [.int (nI (ri))]) (rest := []) S0 hK hst hA hW [] (fun sz => c_X5_isRegister l D cy t ri (by omega) sz) rfl (by decide) (va_cwS 1 hts gX5_output_X5_isRegister rfl rfl rfl (by decide +kernel) ⟨Nat.le_of_ble_eq_true rfl, Nat.le_of_ble_eq_true rfl⟩) (fun _ => rfl) rfl hl.1 rfl (Nat.le_of_ble_eq_true rfl) dX5_output_8 ⟨Nat.le_of_ble_eq_true rfl, Nat.le_of_ble_eq_true rfl⟩ (fun r8 u8 H locs p8 hW => ?_)
    have hW : Wd D A s [(z0, .inr (5, [.ref zr, .ref zs, .ref zt, .ref zc, .ref zm, .ref zk, .ref zh, .ref zd, .ref zf, .int (nI (ml)), .ref zp, .int (nI (mps)), .ref za, .ref ze, .int (be), .ref zn, .ref zb, .ref zv, .ref zw, .ref zo, .ref zq, .long (nu), .int (bq), .int (fg), .ref zl, .int (nI (hg)), .int (nI (cz)), .ref zi]))] H locs := hW
    have q8 : r8 = nI (1) := p8
    subst q8
    refine zEq (a := 1) (tgt := 37) hx hb dX5_output_11 (by decide) (by omega) (fun h11 => ?_) (fun h11 => ?_)
    · skip
      exfalso; omega
    · skip
      refine lv_iload_n hx hb dX5_output_14 rfl (lv_at hl 3 rfl) ?_
      refine lv_if_lt (tgt := 37) hx hb dX5_output_15 (by decide) (fun h15 => ?_) (fun h15 => ?_)
      · skip
        refine lv_bipush (v := (-2 : Int32)) hx hb dX5_output_37 (by decide) ?_
        exact eI hQ hx hb hr hlocks hK hW () (rfl) (rfl) dX5_output_39
      · skip
        refine lv_iload_n hx hb dX5_output_18 rfl (lv_at hl 3 rfl) ?_
        refine lv_sipush (v := nI (200)) hx hb dX5_output_19 (by decide) ?_
        refine lv_icmp_gt (tgt := 37) hx hb dX5_output_22 (by decide) (fun h22 => ?_) (fun h22 => ?_)
        · skip
          refine lv_bipush (v := (-2 : Int32)) hx hb dX5_output_37 (by decide) ?_
          exact eI hQ hx hb hr hlocks hK hW () (rfl) (rfl) dX5_output_39
        · skip
          exact hbn.elim (fun q => absurd q h15) (fun q => absurd q h22)

theorem f_X5_output_bp_0 : Cond.constantLong RX5 163 (4611686018427387904) ∈ wsX5_output := by decide +kernel
set_option maxHeartbeats 4000000 in
set_option maxRecDepth 100000 in
theorem c_X5_output_bp (l : Launch) (D : va_G) (cy : Nat → ClassId) (t : Nat × Nat) (z0 : Nat) (zr : Nat) (zs : Nat) (zt : Nat) (zc : Nat) (zm : Nat) (zk : Nat) (zh : Nat) (zd : Nat) (zf : Nat) (ml : Nat) (zp : Nat) (mps : Nat) (za : Nat) (ze : Nat) (be : Int32) (zn : Nat) (zb : Nat) (zv : Nat) (zw : Nat) (zo : Nat) (zq : Nat) (nu : Int64) (bq : Int32) (fg : Int32) (zl : Nat) (hg : Nat) (cz : Nat) (zi : Nat) (hj : Nat) (ri : Nat) (n : Nat) (w0 : Int64) (hj4 : hj < 4) (hr8 : ri < 8) (hn2 : n ≤ 200) (hbp : w0 < lN 0 ∨ (4611686018427387904 : Int64) < w0) (sz : Nat) : Met l yX5_output wsX5_output ({ frames := 1, cells := 0, slots := 0, locals := 25 }) (PcW D cy t [(z0, .inr (5, [.ref zr, .ref zs, .ref zt, .ref zc, .ref zm, .ref zk, .ref zh, .ref zd, .ref zf, .int (nI (ml)), .ref zp, .int (nI (mps)), .ref za, .ref ze, .int (be), .ref zn, .ref zb, .ref zv, .ref zw, .ref zo, .ref zq, .long (nu), .int (bq), .int (fg), .ref zl, .int (nI (hg)), .int (nI (cz)), .ref zi]))] [.ref z0, .int (nI (hj)), .int (nI (ri)), .int (nI (n)), .long (w0)] sz) (QiA D cy (fun (r : Int32) (u : Unit) => (r = (-2 : Int32))) (fun u : Unit => [(z0, .inr (5, [.ref zr, .ref zs, .ref zt, .ref zc, .ref zm, .ref zk, .ref zh, .ref zd, .ref zf, .int (nI (ml)), .ref zp, .int (nI (mps)), .ref za, .ref ze, .int (be), .ref zn, .ref zb, .ref zv, .ref zw, .ref zo, .ref zq, .long (nu), .int (bq), .int (fg), .ref zl, .int (nI (hg)), .int (nI (cz)), .ref zi]))]) (va_A [(z0, .inr (5, [.ref zr, .ref zs, .ref zt, .ref zc, .ref zm, .ref zk, .ref zh, .ref zd, .ref zf, .int (nI (ml)), .ref zp, .int (nI (mps)), .ref za, .ref ze, .int (be), .ref zn, .ref zb, .ref zv, .ref zw, .ref zo, .ref zq, .long (nu), .int (bq), .int (fg), .ref zl, .int (nI (hg)), .int (nI (cz)), .ref zi]))] sz)) 0 0 (va_A [(z0, .inr (5, [.ref zr, .ref zs, .ref zt, .ref zc, .ref zm, .ref zk, .ref zh, .ref zd, .ref zf, .int (nI (ml)), .ref zp, .int (nI (mps)), .ref za, .ref ze, .int (be), .ref zn, .ref zb, .ref zv, .ref zw, .ref zo, .ref zq, .long (nu), .int (bq), .int (fg), .ref zl, .int (nI (hg)), .int (nI (cz)), .ref zi]))] sz) := by
  refine M_ofW (cc := cX5_output) (maxL := 12) (ret := (some .int)) (by decide) rfl (Nat.le_of_ble_eq_true rfl) ?_
  intro p e s m below meth c A ls args Q hQ S0 hr hlocks hnm hK hst hA hW hl
  have hx := S0.1; have hb := S0.2.1; have hml := S0.2.2.1; have hown := S0.2.2.2.1; have hts := S0.2.2.2.2
  have hl : lv_has ls 12 [(0, .ref z0), (1, .int (nI (hj))), (2, .int (nI (ri))), (3, .int (nI (n))), (4, .long (w0))] := hl
  refine lv_iload_n hx hb dX5_output_0 rfl (lv_at hl 1 rfl) ?_
  refine kSi (As := [.int (nI (hj))]) (rest := []) S0 hK hst hA hW [] (fun sz => c_X5_isHasher l D cy t hj (by omega) sz) rfl (by decide) (va_cwS 1 hts gX5_output_X5_isHasher rfl rfl rfl (by decide +kernel) ⟨Nat.le_of_ble_eq_true rfl, Nat.le_of_ble_eq_true rfl⟩) (fun _ => rfl) rfl hl.1 rfl (Nat.le_of_ble_eq_true rfl) dX5_output_1 ⟨Nat.le_of_ble_eq_true rfl, Nat.le_of_ble_eq_true rfl⟩ (fun r1 u1 H locs p1 hW => ?_)
  have hW : Wd D A s [(z0, .inr (5, [.ref zr, .ref zs, .ref zt, .ref zc, .ref zm, .ref zk, .ref zh, .ref zd, .ref zf, .int (nI (ml)), .ref zp, .int (nI (mps)), .ref za, .ref ze, .int (be), .ref zn, .ref zb, .ref zv, .ref zw, .ref zo, .ref zq, .long (nu), .int (bq), .int (fg), .ref zl, .int (nI (hg)), .int (nI (cz)), .ref zi]))] H locs := hW
  have q1 : r1 = nI (1) := p1
  subst q1
  refine zEq (a := 1) (tgt := 37) hx hb dX5_output_4 (by decide) (by omega) (fun h4 => ?_) (fun h4 => ?_)
  · skip
    exfalso; omega
  · skip
    refine lv_iload_n hx hb dX5_output_7 rfl (lv_at hl 2 rfl) ?_
    refine kSi (As := [.int (nI (ri))]) (rest := []) S0 hK hst hA hW [] (fun sz => c_X5_isRegister l D cy t ri (by omega) sz) rfl (by decide) (va_cwS 1 hts gX5_output_X5_isRegister rfl rfl rfl (by decide +kernel) ⟨Nat.le_of_ble_eq_true rfl, Nat.le_of_ble_eq_true rfl⟩) (fun _ => rfl) rfl hl.1 rfl (Nat.le_of_ble_eq_true rfl) dX5_output_8 ⟨Nat.le_of_ble_eq_true rfl, Nat.le_of_ble_eq_true rfl⟩ (fun r8 u8 H locs p8 hW => ?_)
    have hW : Wd D A s [(z0, .inr (5, [.ref zr, .ref zs, .ref zt, .ref zc, .ref zm, .ref zk, .ref zh, .ref zd, .ref zf, .int (nI (ml)), .ref zp, .int (nI (mps)), .ref za, .ref ze, .int (be), .ref zn, .ref zb, .ref zv, .ref zw, .ref zo, .ref zq, .long (nu), .int (bq), .int (fg), .ref zl, .int (nI (hg)), .int (nI (cz)), .ref zi]))] H locs := hW
    have q8 : r8 = nI (1) := p8
    subst q8
    refine zEq (a := 1) (tgt := 37) hx hb dX5_output_11 (by decide) (by omega) (fun h11 => ?_) (fun h11 => ?_)
    · skip
      exfalso; omega
    · skip
      refine lv_iload_n hx hb dX5_output_14 rfl (lv_at hl 3 rfl) ?_
      refine zLt (a := n) (tgt := 37) hx hb dX5_output_15 (by decide) (by omega) ?_
      refine lv_iload_n hx hb dX5_output_18 rfl (lv_at hl 3 rfl) ?_
      refine lv_sipush (v := nI (200)) hx hb dX5_output_19 (by decide) ?_
      refine iGt (a := n) (b := 200) (tgt := 37) hx hb dX5_output_22 (by decide) (by omega) (by omega) (fun h22 => ?_) (fun h22 => ?_)
      · skip
        exfalso; omega
      · skip
        refine lv_lload hx hb dX5_output_25 (lv_at hl 4 rfl) ?_
        refine lv_lconst (v := lN 0) hx hb dX5_output_27 (by decide) ?_
        refine lv_ldc2 (v := (4611686018427387904 : Int64)) hx hb hown (hts (.constantLong RX5 163 (4611686018427387904)) f_X5_output_bp_0) dX5_output_28 ?_
        refine kSi (As := [.long (w0), .long (lN 0), .long ((4611686018427387904 : Int64))]) (rest := []) S0 hK hst hA hW [] (fun sz => c_X5_in_b l D cy t w0 (hbp) sz) rfl (by decide) (va_cwS 3 hts gX5_output_X5_in rfl rfl rfl (by decide +kernel) ⟨Nat.le_of_ble_eq_true rfl, Nat.le_of_ble_eq_true rfl⟩) (fun _ => rfl) rfl hl.1 rfl (Nat.le_of_ble_eq_true rfl) dX5_output_31 ⟨Nat.le_of_ble_eq_true rfl, Nat.le_of_ble_eq_true rfl⟩ (fun r31 u31 H locs p31 hW => ?_)
        have hW : Wd D A s [(z0, .inr (5, [.ref zr, .ref zs, .ref zt, .ref zc, .ref zm, .ref zk, .ref zh, .ref zd, .ref zf, .int (nI (ml)), .ref zp, .int (nI (mps)), .ref za, .ref ze, .int (be), .ref zn, .ref zb, .ref zv, .ref zw, .ref zo, .ref zq, .long (nu), .int (bq), .int (fg), .ref zl, .int (nI (hg)), .int (nI (cz)), .ref zi]))] H locs := hW
        have q31 : r31 = nI (0) := p31
        subst q31
        refine zNe (a := 0) (tgt := 40) hx hb dX5_output_34 (by decide) (by omega) (fun h34 => ?_) (fun h34 => ?_)
        · skip
          exfalso; omega
        · skip
          refine lv_bipush (v := (-2 : Int32)) hx hb dX5_output_37 (by decide) ?_
          exact eI hQ hx hb hr hlocks hK hW () (rfl) (rfl) dX5_output_39

theorem f_X5_output_0 : Cond.constantLong RX5 163 (4611686018427387904) ∈ wsX5_output := by decide +kernel
theorem f_X5_output_1 : Cond.constantLong RX5 172 (-1) ∈ wsX5_output := by decide +kernel
theorem f_X5_output_2 : Cond.fieldLink RX5 13 "TreeHashesModel" "sizes" "[I" ∈ wsX5_output := by decide +kernel
theorem i_X5_output_X5 : ∀ w ∈ wsX50, w ∈ wsX5_output := by decide +kernel
theorem f_X5_output_4 : Cond.constantLong RX5 174 (64) ∈ wsX5_output := by decide +kernel
theorem f_X5_output_5 : Cond.fieldLink RX5 53 "TreeHashesModel" "v" "[I" ∈ wsX5_output := by decide +kernel
theorem f_X5_output_6 : Cond.fieldLink RX5 7 "TreeHashesModel" "registers" "[I" ∈ wsX5_output := by decide +kernel
theorem f_X5_output_7 : Cond.constantLong RX5 176 (4) ∈ wsX5_output := by decide +kernel
theorem f_X5_output_8 : Cond.fieldLink RX5 104 "TreeHashesModel" "flags" "I" ∈ wsX5_output := by decide +kernel
set_option maxHeartbeats 4000000 in
set_option maxRecDepth 100000 in
theorem c_X5_output (l : Launch) (D : va_G) (cy : Nat → ClassId) (t : Nat × Nat) (z0 : Nat) (zr : Nat) (zs : Nat) (zt : Nat) (zc : Nat) (zm : Nat) (zk : Nat) (zh : Nat) (zd : Nat) (zf : Nat) (ml : Nat) (zp : Nat) (mps : Nat) (za : Nat) (ze : Nat) (be : Int32) (zn : Nat) (zb : Nat) (zv : Nat) (zw : Nat) (zo : Nat) (zq : Nat) (nu : Int64) (bq : Int32) (fg : Int32) (zl : Nat) (hg : Nat) (cz : Nat) (zi : Nat) (ke : Nat → Int32) (cn : Nat → Int32) (bb : Nat → Int32) (vv : Nat → Int32) (ww : Nat → Int32) (oo : Nat → Int32) (pp : Nat → Int32) (mt : Nat → Int32) (mcn : Nat → Int32) (mmd : Nat → Int32) (mk : Nat → Int32) (mh : Nat → Int32) (mdn : Nat → Int32) (hj : Nat) (nt : Nat) (md0 : Nat) (g : Nat → Int32) (K : Nat → Int32) (ms : Nat → Int32) (mr : Nat → Int32) (ri : Nat) (n : Nat) (pl : Nat) (hj4 : hj < 4) (hct : mcn hj = nI nt) (hnt : nt ≤ 40000) (hKk : ∀ k, k < 8 → mk (8 * hj + k) = K k) (hmd : mdn hj = nI md0) (hmd2 : md0 ≤ clo nt) (htk : ∀ i, i < nt → mt (40000 * hj + i) = g i) (hch : ∀ c, c < md0 → ∀ k, k < 8 → mh (320 * hj + 8 * c + k) = chC K (bsO (mmd hj)) g 0 c k) (hr8 : ri < 8) (hn2 : n ≤ 200) (hpl : pl ≤ 2 ^ 62) (sz : Nat) : Met l yX5_output wsX5_output ({ frames := 7, cells := 0, slots := 0, locals := 166 }) (PcW D cy t [(z0, .inr (5, [.ref zr, .ref zs, .ref zt, .ref zc, .ref zm, .ref zk, .ref zh, .ref zd, .ref zf, .int (nI (ml)), .ref zp, .int (nI (mps)), .ref za, .ref ze, .int (be), .ref zn, .ref zb, .ref zv, .ref zw, .ref zo, .ref zq, .long (nu), .int (bq), .int (fg), .ref zl, .int (nI (hg)), .int (nI (cz)), .ref zi])), (ze, .inl (cy 0, 8, .inl (ke))), (zn, .inl (cy 0, 8, .inl (cn))), (zb, .inl (cy 0, 16, .inl (bb))), (zv, .inl (cy 0, 16, .inl (vv))), (zw, .inl (cy 0, 16, .inl (ww))), (zo, .inl (cy 0, 16, .inl (oo))), (zl, .inl (cy 0, 96, .inl (pp))), (zq, .inl (cy 0, 16, .inl (fun k => nI (orN k)))), (za, .inl (cy 0, 8, .inl (stA))), (zt, .inl (cy 0, 160000, .inl (mt))), (zc, .inl (cy 0, 4, .inl (mcn))), (zm, .inl (cy 0, 4, .inl (mmd))), (zk, .inl (cy 0, 32, .inl (mk))), (zh, .inl (cy 0, 1280, .inl (mh))), (zd, .inl (cy 0, 4, .inl (mdn))), (zs, .inl (cy 0, 8, .inl (ms))), (zr, .inl (cy 0, 1600, .inl (mr)))] [.ref z0, .int (nI (hj)), .int (nI (ri)), .int (nI (n)), .long (lN pl)] sz) (QiA D cy (fun (r : Int32) (u : (Nat → Int32) × (Nat → Int32) × (Nat → Int32) × (Nat → Int32) × (Nat → Int32)) => match u with | (vv2, ww2, oo2, pp2, mh2) => (r = nI (n)) ∧ (∀ c, c < clo nt → ∀ k, k < 8 → mh2 (320 * hj + 8 * c + k) = chC K (bsO (mmd hj)) g 0 c k) ∧ (∀ x, (x < 320 * hj ∨ 320 * hj + 320 ≤ x) → mh2 x = mh x)) (fun u : (Nat → Int32) × (Nat → Int32) × (Nat → Int32) × (Nat → Int32) × (Nat → Int32) => match u with | (vv2, ww2, oo2, pp2, mh2) => [(z0, .inr (5, [.ref zr, .ref zs, .ref zt, .ref zc, .ref zm, .ref zk, .ref zh, .ref zd, .ref zf, .int (nI (ml)), .ref zp, .int (nI (mps)), .ref za, .ref ze, .int (bsO (mmd hj)), .ref zn, .ref zb, .ref zv, .ref zw, .ref zo, .ref zq, .long ((rtN K (bsO (mmd hj)) g 0 nt).2.2.1), .int ((rtN K (bsO (mmd hj)) g 0 nt).2.2.2.1), .int ((rtN K (bsO (mmd hj)) g 0 nt).2.2.2.2), .ref zl, .int (nI (0)), .int (nI (clo nt)), .ref zi])), (ze, .inl (cy 0, 8, .inl (K))), (zn, .inl (cy 0, 8, .inl ((rtN K (bsO (mmd hj)) g 0 nt).1))), (zb, .inl (cy 0, 16, .inl ((rtN K (bsO (mmd hj)) g 0 nt).2.1))), (zv, .inl (cy 0, 16, .inl (vv2))), (zw, .inl (cy 0, 16, .inl (ww2))), (zo, .inl (cy 0, 16, .inl (oo2))), (zl, .inl (cy 0, 96, .inl (pp2))), (zq, .inl (cy 0, 16, .inl (fun k => nI (orN k)))), (za, .inl (cy 0, 8, .inl (stA))), (zt, .inl (cy 0, 160000, .inl (mt))), (zc, .inl (cy 0, 4, .inl (mcn))), (zm, .inl (cy 0, 4, .inl (mmd))), (zk, .inl (cy 0, 32, .inl (mk))), (zh, .inl (cy 0, 1280, .inl (mh2))), (zd, .inl (cy 0, 4, .inl (upd mdn hj (nI (clo nt))))), (zs, .inl (cy 0, 8, .inl (upd ms ri (nI n)))), (zr, .inl (cy 0, 1600, .inl (apG mr (200 * ri) (fun k => outB (rtN K (bsO (mmd hj)) g 0 nt).1 (rtN K (bsO (mmd hj)) g 0 nt).2.1 (rtN K (bsO (mmd hj)) g 0 nt).2.2.2.1 ((rtN K (bsO (mmd hj)) g 0 nt).2.2.2.2 + (nI (8))) (pl + k)) n)))]) (va_A [(z0, .inr (5, [.ref zr, .ref zs, .ref zt, .ref zc, .ref zm, .ref zk, .ref zh, .ref zd, .ref zf, .int (nI (ml)), .ref zp, .int (nI (mps)), .ref za, .ref ze, .int (be), .ref zn, .ref zb, .ref zv, .ref zw, .ref zo, .ref zq, .long (nu), .int (bq), .int (fg), .ref zl, .int (nI (hg)), .int (nI (cz)), .ref zi])), (ze, .inl (cy 0, 8, .inl (ke))), (zn, .inl (cy 0, 8, .inl (cn))), (zb, .inl (cy 0, 16, .inl (bb))), (zv, .inl (cy 0, 16, .inl (vv))), (zw, .inl (cy 0, 16, .inl (ww))), (zo, .inl (cy 0, 16, .inl (oo))), (zl, .inl (cy 0, 96, .inl (pp))), (zq, .inl (cy 0, 16, .inl (fun k => nI (orN k)))), (za, .inl (cy 0, 8, .inl (stA))), (zt, .inl (cy 0, 160000, .inl (mt))), (zc, .inl (cy 0, 4, .inl (mcn))), (zm, .inl (cy 0, 4, .inl (mmd))), (zk, .inl (cy 0, 32, .inl (mk))), (zh, .inl (cy 0, 1280, .inl (mh))), (zd, .inl (cy 0, 4, .inl (mdn))), (zs, .inl (cy 0, 8, .inl (ms))), (zr, .inl (cy 0, 1600, .inl (mr)))] sz)) 0 0 (va_A [(z0, .inr (5, [.ref zr, .ref zs, .ref zt, .ref zc, .ref zm, .ref zk, .ref zh, .ref zd, .ref zf, .int (nI (ml)), .ref zp, .int (nI (mps)), .ref za, .ref ze, .int (be), .ref zn, .ref zb, .ref zv, .ref zw, .ref zo, .ref zq, .long (nu), .int (bq), .int (fg), .ref zl, .int (nI (hg)), .int (nI (cz)), .ref zi])), (ze, .inl (cy 0, 8, .inl (ke))), (zn, .inl (cy 0, 8, .inl (cn))), (zb, .inl (cy 0, 16, .inl (bb))), (zv, .inl (cy 0, 16, .inl (vv))), (zw, .inl (cy 0, 16, .inl (ww))), (zo, .inl (cy 0, 16, .inl (oo))), (zl, .inl (cy 0, 96, .inl (pp))), (zq, .inl (cy 0, 16, .inl (fun k => nI (orN k)))), (za, .inl (cy 0, 8, .inl (stA))), (zt, .inl (cy 0, 160000, .inl (mt))), (zc, .inl (cy 0, 4, .inl (mcn))), (zm, .inl (cy 0, 4, .inl (mmd))), (zk, .inl (cy 0, 32, .inl (mk))), (zh, .inl (cy 0, 1280, .inl (mh))), (zd, .inl (cy 0, 4, .inl (mdn))), (zs, .inl (cy 0, 8, .inl (ms))), (zr, .inl (cy 0, 1600, .inl (mr)))] sz) := by
  refine M_ofW (cc := cX5_output) (maxL := 12) (ret := (some .int)) (by decide) rfl (Nat.le_of_ble_eq_true rfl) ?_
  intro p e s m below meth c A ls args Q hQ S0 hr hlocks hnm hK hst hA hW hl
  have hx := S0.1; have hb := S0.2.1; have hml := S0.2.2.1; have hown := S0.2.2.2.1; have hts := S0.2.2.2.2
  have hl : lv_has ls 12 [(0, .ref z0), (1, .int (nI (hj))), (2, .int (nI (ri))), (3, .int (nI (n))), (4, .long (lN pl))] := hl
  refine lv_iload_n hx hb dX5_output_0 rfl (lv_at hl 1 rfl) ?_
  refine kSi (As := [.int (nI (hj))]) (rest := []) S0 hK hst hA hW [] (fun sz => c_X5_isHasher l D cy t hj (by omega) sz) rfl (by decide) (va_cwS 1 hts gX5_output_X5_isHasher rfl rfl rfl (by decide +kernel) ⟨Nat.le_of_ble_eq_true rfl, Nat.le_of_ble_eq_true rfl⟩) (fun _ => rfl) rfl hl.1 rfl (Nat.le_of_ble_eq_true rfl) dX5_output_1 ⟨Nat.le_of_ble_eq_true rfl, Nat.le_of_ble_eq_true rfl⟩ (fun r1 u1 H locs p1 hW => ?_)
  have hW : Wd D A s [(z0, .inr (5, [.ref zr, .ref zs, .ref zt, .ref zc, .ref zm, .ref zk, .ref zh, .ref zd, .ref zf, .int (nI (ml)), .ref zp, .int (nI (mps)), .ref za, .ref ze, .int (be), .ref zn, .ref zb, .ref zv, .ref zw, .ref zo, .ref zq, .long (nu), .int (bq), .int (fg), .ref zl, .int (nI (hg)), .int (nI (cz)), .ref zi])), (ze, .inl (cy 0, 8, .inl (ke))), (zn, .inl (cy 0, 8, .inl (cn))), (zb, .inl (cy 0, 16, .inl (bb))), (zv, .inl (cy 0, 16, .inl (vv))), (zw, .inl (cy 0, 16, .inl (ww))), (zo, .inl (cy 0, 16, .inl (oo))), (zl, .inl (cy 0, 96, .inl (pp))), (zq, .inl (cy 0, 16, .inl (fun k => nI (orN k)))), (za, .inl (cy 0, 8, .inl (stA))), (zt, .inl (cy 0, 160000, .inl (mt))), (zc, .inl (cy 0, 4, .inl (mcn))), (zm, .inl (cy 0, 4, .inl (mmd))), (zk, .inl (cy 0, 32, .inl (mk))), (zh, .inl (cy 0, 1280, .inl (mh))), (zd, .inl (cy 0, 4, .inl (mdn))), (zs, .inl (cy 0, 8, .inl (ms))), (zr, .inl (cy 0, 1600, .inl (mr)))] H locs := hW
  have q1 : r1 = nI (1) := p1
  subst q1
  refine zEq (a := 1) (tgt := 37) hx hb dX5_output_4 (by decide) (by omega) (fun h4 => ?_) (fun h4 => ?_)
  · skip
    exfalso; omega
  · skip
    refine lv_iload_n hx hb dX5_output_7 rfl (lv_at hl 2 rfl) ?_
    refine kSi (As := [.int (nI (ri))]) (rest := []) S0 hK hst hA hW [] (fun sz => c_X5_isRegister l D cy t ri (by omega) sz) rfl (by decide) (va_cwS 1 hts gX5_output_X5_isRegister rfl rfl rfl (by decide +kernel) ⟨Nat.le_of_ble_eq_true rfl, Nat.le_of_ble_eq_true rfl⟩) (fun _ => rfl) rfl hl.1 rfl (Nat.le_of_ble_eq_true rfl) dX5_output_8 ⟨Nat.le_of_ble_eq_true rfl, Nat.le_of_ble_eq_true rfl⟩ (fun r8 u8 H locs p8 hW => ?_)
    have hW : Wd D A s [(z0, .inr (5, [.ref zr, .ref zs, .ref zt, .ref zc, .ref zm, .ref zk, .ref zh, .ref zd, .ref zf, .int (nI (ml)), .ref zp, .int (nI (mps)), .ref za, .ref ze, .int (be), .ref zn, .ref zb, .ref zv, .ref zw, .ref zo, .ref zq, .long (nu), .int (bq), .int (fg), .ref zl, .int (nI (hg)), .int (nI (cz)), .ref zi])), (ze, .inl (cy 0, 8, .inl (ke))), (zn, .inl (cy 0, 8, .inl (cn))), (zb, .inl (cy 0, 16, .inl (bb))), (zv, .inl (cy 0, 16, .inl (vv))), (zw, .inl (cy 0, 16, .inl (ww))), (zo, .inl (cy 0, 16, .inl (oo))), (zl, .inl (cy 0, 96, .inl (pp))), (zq, .inl (cy 0, 16, .inl (fun k => nI (orN k)))), (za, .inl (cy 0, 8, .inl (stA))), (zt, .inl (cy 0, 160000, .inl (mt))), (zc, .inl (cy 0, 4, .inl (mcn))), (zm, .inl (cy 0, 4, .inl (mmd))), (zk, .inl (cy 0, 32, .inl (mk))), (zh, .inl (cy 0, 1280, .inl (mh))), (zd, .inl (cy 0, 4, .inl (mdn))), (zs, .inl (cy 0, 8, .inl (ms))), (zr, .inl (cy 0, 1600, .inl (mr)))] H locs := hW
    have q8 : r8 = nI (1) := p8
    subst q8
    refine zEq (a := 1) (tgt := 37) hx hb dX5_output_11 (by decide) (by omega) (fun h11 => ?_) (fun h11 => ?_)
    · skip
      exfalso; omega
    · skip
      refine lv_iload_n hx hb dX5_output_14 rfl (lv_at hl 3 rfl) ?_
      refine zLt (a := n) (tgt := 37) hx hb dX5_output_15 (by decide) (by omega) ?_
      refine lv_iload_n hx hb dX5_output_18 rfl (lv_at hl 3 rfl) ?_
      refine lv_sipush (v := nI (200)) hx hb dX5_output_19 (by decide) ?_
      refine iGt (a := n) (b := 200) (tgt := 37) hx hb dX5_output_22 (by decide) (by omega) (by omega) (fun h22 => ?_) (fun h22 => ?_)
      · skip
        exfalso; omega
      · skip
        refine lv_lload hx hb dX5_output_25 (lv_at hl 4 rfl) ?_
        refine lv_lconst (v := lN 0) hx hb dX5_output_27 (by decide) ?_
        refine lv_ldc2 (v := (4611686018427387904 : Int64)) hx hb hown (hts (.constantLong RX5 163 (4611686018427387904)) f_X5_output_0) dX5_output_28 ?_
        refine kSi (As := [.long (lN pl), .long (lN 0), .long ((4611686018427387904 : Int64))]) (rest := []) S0 hK hst hA hW [] (fun sz => c_X5_in l D cy t pl (by omega) sz) rfl (by decide) (va_cwS 3 hts gX5_output_X5_in rfl rfl rfl (by decide +kernel) ⟨Nat.le_of_ble_eq_true rfl, Nat.le_of_ble_eq_true rfl⟩) (fun _ => rfl) rfl hl.1 rfl (Nat.le_of_ble_eq_true rfl) dX5_output_31 ⟨Nat.le_of_ble_eq_true rfl, Nat.le_of_ble_eq_true rfl⟩ (fun r31 u31 H locs p31 hW => ?_)
        have hW : Wd D A s [(z0, .inr (5, [.ref zr, .ref zs, .ref zt, .ref zc, .ref zm, .ref zk, .ref zh, .ref zd, .ref zf, .int (nI (ml)), .ref zp, .int (nI (mps)), .ref za, .ref ze, .int (be), .ref zn, .ref zb, .ref zv, .ref zw, .ref zo, .ref zq, .long (nu), .int (bq), .int (fg), .ref zl, .int (nI (hg)), .int (nI (cz)), .ref zi])), (ze, .inl (cy 0, 8, .inl (ke))), (zn, .inl (cy 0, 8, .inl (cn))), (zb, .inl (cy 0, 16, .inl (bb))), (zv, .inl (cy 0, 16, .inl (vv))), (zw, .inl (cy 0, 16, .inl (ww))), (zo, .inl (cy 0, 16, .inl (oo))), (zl, .inl (cy 0, 96, .inl (pp))), (zq, .inl (cy 0, 16, .inl (fun k => nI (orN k)))), (za, .inl (cy 0, 8, .inl (stA))), (zt, .inl (cy 0, 160000, .inl (mt))), (zc, .inl (cy 0, 4, .inl (mcn))), (zm, .inl (cy 0, 4, .inl (mmd))), (zk, .inl (cy 0, 32, .inl (mk))), (zh, .inl (cy 0, 1280, .inl (mh))), (zd, .inl (cy 0, 4, .inl (mdn))), (zs, .inl (cy 0, 8, .inl (ms))), (zr, .inl (cy 0, 1600, .inl (mr)))] H locs := hW
        have q31 : r31 = nI (1) := p31
        subst q31
        refine zNe (a := 1) (tgt := 40) hx hb dX5_output_34 (by decide) (by omega) (fun h34 => ?_) (fun h34 => ?_)
        · skip
          refine lv_aload_n hx hb dX5_output_40 rfl (lv_at hl 0 rfl) ?_
          refine lv_iload_n hx hb dX5_output_41 rfl (lv_at hl 1 rfl) ?_
          refine kVv (As := [.int (nI (hj))]) (rest := []) S0 hK hst hA hW [0, 1, 2, 3, 4, 5, 6, 7, 8, 9, 10, 11, 12, 13, 14, 15] (fun sz => c_X5_rootOf l D cy t z0 zr zs zt zc zm zk zh zd zf ml zp mps za ze be zn zb zv zw zo zq nu bq fg zl hg cz zi ke cn bb vv ww oo pp mt mcn mmd mk mh mdn hj nt md0 g K (by omega) (hct) (by omega) (hKk) (hmd) (hmd2) (htk) (hch) sz) rfl (by decide) (cwV 1 hts gX5_output_X5_rootOf rfl rfl rfl (by decide +kernel) ⟨Nat.le_of_ble_eq_true rfl, Nat.le_of_ble_eq_true rfl⟩) (fun ⟨_, _, _, _, _⟩ => rfl) 0 5 rfl rfl rfl hl.1 rfl (Nat.le_of_ble_eq_true rfl) dX5_output_42 ⟨Nat.le_of_ble_eq_true rfl, Nat.le_of_ble_eq_true rfl⟩ (fun u42 H locs p42 hW => ?_)
          obtain ⟨vv2_42, ww2_42, oo2_42, pp2_42, mh2_42⟩ := u42
          have hW : Wd D A s [(z0, .inr (5, [.ref zr, .ref zs, .ref zt, .ref zc, .ref zm, .ref zk, .ref zh, .ref zd, .ref zf, .int (nI (ml)), .ref zp, .int (nI (mps)), .ref za, .ref ze, .int (bsO (mmd hj)), .ref zn, .ref zb, .ref zv, .ref zw, .ref zo, .ref zq, .long ((rtN K (bsO (mmd hj)) g 0 nt).2.2.1), .int ((rtN K (bsO (mmd hj)) g 0 nt).2.2.2.1), .int ((rtN K (bsO (mmd hj)) g 0 nt).2.2.2.2), .ref zl, .int (nI (0)), .int (nI (clo nt)), .ref zi])), (ze, .inl (cy 0, 8, .inl (K))), (zn, .inl (cy 0, 8, .inl ((rtN K (bsO (mmd hj)) g 0 nt).1))), (zb, .inl (cy 0, 16, .inl ((rtN K (bsO (mmd hj)) g 0 nt).2.1))), (zv, .inl (cy 0, 16, .inl (vv2_42))), (zw, .inl (cy 0, 16, .inl (ww2_42))), (zo, .inl (cy 0, 16, .inl (oo2_42))), (zl, .inl (cy 0, 96, .inl (pp2_42))), (zq, .inl (cy 0, 16, .inl (fun k => nI (orN k)))), (za, .inl (cy 0, 8, .inl (stA))), (zt, .inl (cy 0, 160000, .inl (mt))), (zc, .inl (cy 0, 4, .inl (mcn))), (zm, .inl (cy 0, 4, .inl (mmd))), (zk, .inl (cy 0, 32, .inl (mk))), (zh, .inl (cy 0, 1280, .inl (mh2_42))), (zd, .inl (cy 0, 4, .inl (upd mdn hj (nI (clo nt))))), (zs, .inl (cy 0, 8, .inl (ms))), (zr, .inl (cy 0, 1600, .inl (mr)))] H locs := hW
          refine lv_ldc2 (v := (-1 : Int64)) hx hb hown (hts (.constantLong RX5 172 (-1)) f_X5_output_1) dX5_output_45 ?_
          refine lv_lstore (lv' := [(6, .long ((-1 : Int64))), (0, .ref z0), (1, .int (nI (hj))), (2, .int (nI (ri))), (3, .int (nI (n))), (4, .long (lN pl))]) hx hb dX5_output_48 hl (by decide) rfl (fun ls hl => ?_)
          refine lv_iconst (v := nI (0)) hx hb dX5_output_50 (by decide) ?_
          refine lv_istore (lv' := [(8, .int (nI (0))), (6, .long ((-1 : Int64))), (0, .ref z0), (1, .int (nI (hj))), (2, .int (nI (ri))), (3, .int (nI (n))), (4, .long (lN pl))]) hx hb dX5_output_51 hl (by decide) rfl (fun ls hl => ?_)
          have loop53 : ∀ (nF : Nat) (i : Nat) (mz : Int64) (vx : Nat → Int32) (wx : Nat → Int32) (ox : Nat → Int32), n - i < nF → (i ≤ n) → (i = 0 → mz = -1) → (0 < i → mz = lN ((pl + (i - 1)) / 64) ∧ vx = mixV (rtN K (bsO (mmd hj)) g 0 nt).1 (rtN K (bsO (mmd hj)) g 0 nt).2.1 (lN ((pl + (i - 1)) / 64)) (rtN K (bsO (mmd hj)) g 0 nt).2.2.2.1 ((rtN K (bsO (mmd hj)) g 0 nt).2.2.2.2 + (nI (8)))) → ∀ (H : Heap) (locs : List Loc), Wd D A s [(z0, .inr (5, [.ref zr, .ref zs, .ref zt, .ref zc, .ref zm, .ref zk, .ref zh, .ref zd, .ref zf, .int (nI (ml)), .ref zp, .int (nI (mps)), .ref za, .ref ze, .int (bsO (mmd hj)), .ref zn, .ref zb, .ref zv, .ref zw, .ref zo, .ref zq, .long ((rtN K (bsO (mmd hj)) g 0 nt).2.2.1), .int ((rtN K (bsO (mmd hj)) g 0 nt).2.2.2.1), .int ((rtN K (bsO (mmd hj)) g 0 nt).2.2.2.2), .ref zl, .int (nI (0)), .int (nI (clo nt)), .ref zi])), (ze, .inl (cy 0, 8, .inl (K))), (zn, .inl (cy 0, 8, .inl ((rtN K (bsO (mmd hj)) g 0 nt).1))), (zb, .inl (cy 0, 16, .inl ((rtN K (bsO (mmd hj)) g 0 nt).2.1))), (zv, .inl (cy 0, 16, .inl (vx))), (zw, .inl (cy 0, 16, .inl (wx))), (zo, .inl (cy 0, 16, .inl (ox))), (zl, .inl (cy 0, 96, .inl (pp2_42))), (zq, .inl (cy 0, 16, .inl (fun k => nI (orN k)))), (za, .inl (cy 0, 8, .inl (stA))), (zt, .inl (cy 0, 160000, .inl (mt))), (zc, .inl (cy 0, 4, .inl (mcn))), (zm, .inl (cy 0, 4, .inl (mmd))), (zk, .inl (cy 0, 32, .inl (mk))), (zh, .inl (cy 0, 1280, .inl (mh2_42))), (zd, .inl (cy 0, 4, .inl (upd mdn hj (nI (clo nt))))), (zs, .inl (cy 0, 8, .inl (ms))), (zr, .inl (cy 0, 1600, .inl (apG mr (200 * ri) (fun k => outB (rtN K (bsO (mmd hj)) g 0 nt).1 (rtN K (bsO (mmd hj)) g 0 nt).2.1 (rtN K (bsO (mmd hj)) g 0 nt).2.2.2.1 ((rtN K (bsO (mmd hj)) g 0 nt).2.2.2.2 + (nI (8))) (pl + k)) i)))] H locs → ∀ ls : Array Slot, lv_has ls 12 [(0, .ref z0), (1, .int (nI (hj))), (2, .int (nI (ri))), (3, .int (nI (n))), (4, .long (lN pl)), (6, .long (mz)), (8, .int (nI (i)))] → W p l e ({ frames := 7, cells := 0, slots := 0, locals := 166 }) s m args below meth c H locs 0 0 Q (F0 m 53 ls []) := by
            intro nF
            induction nF with
            | zero => intro i mz vx wx ox hf; exact absurd hf (Nat.not_lt_zero _)
            | succ nF ih53 =>
              intro i mz vx wx ox hf hi hz0 hz1 H locs hW ls hl
              refine lv_iload hx hb dX5_output_53 (lv_at hl 6 rfl) ?_
              refine lv_iload_n hx hb dX5_output_55 rfl (lv_at hl 3 rfl) ?_
              refine iGe (a := i) (b := n) (tgt := 152) hx hb dX5_output_56 (by decide) (by omega) (by omega) (fun h56 => ?_) (fun h56 => ?_)
              · skip
                refine lv_aload_n hx hb dX5_output_152 rfl (lv_at hl 0 rfl) ?_
                refine va_get (D := D) (ci := 5) (v := .ref zs) (C := RX5) (T := TX5) (N := 28) hx hb hts i_X5_output_X5 hown hK hW.1 0 rfl rfl 1 (by decide) (hts (.fieldLink RX5 13 "TreeHashesModel" "sizes" "[I") f_X5_output_2) (fun _ h9 => h9) rfl dX5_output_153 ?_
                refine lv_iload_n hx hb dX5_output_156 rfl (lv_at hl 2 rfl) ?_
                refine lv_iload_n hx hb dX5_output_157 rfl (lv_at hl 3 rfl) ?_
                refine wI hx hb hK hW 16 rfl (k := ri) (by omega) (by omega) dX5_output_158 (fun H locs hW => ?_)
                have hW : Wd D A s [(z0, .inr (5, [.ref zr, .ref zs, .ref zt, .ref zc, .ref zm, .ref zk, .ref zh, .ref zd, .ref zf, .int (nI (ml)), .ref zp, .int (nI (mps)), .ref za, .ref ze, .int (bsO (mmd hj)), .ref zn, .ref zb, .ref zv, .ref zw, .ref zo, .ref zq, .long ((rtN K (bsO (mmd hj)) g 0 nt).2.2.1), .int ((rtN K (bsO (mmd hj)) g 0 nt).2.2.2.1), .int ((rtN K (bsO (mmd hj)) g 0 nt).2.2.2.2), .ref zl, .int (nI (0)), .int (nI (clo nt)), .ref zi])), (ze, .inl (cy 0, 8, .inl (K))), (zn, .inl (cy 0, 8, .inl ((rtN K (bsO (mmd hj)) g 0 nt).1))), (zb, .inl (cy 0, 16, .inl ((rtN K (bsO (mmd hj)) g 0 nt).2.1))), (zv, .inl (cy 0, 16, .inl (vx))), (zw, .inl (cy 0, 16, .inl (wx))), (zo, .inl (cy 0, 16, .inl (ox))), (zl, .inl (cy 0, 96, .inl (pp2_42))), (zq, .inl (cy 0, 16, .inl (fun k => nI (orN k)))), (za, .inl (cy 0, 8, .inl (stA))), (zt, .inl (cy 0, 160000, .inl (mt))), (zc, .inl (cy 0, 4, .inl (mcn))), (zm, .inl (cy 0, 4, .inl (mmd))), (zk, .inl (cy 0, 32, .inl (mk))), (zh, .inl (cy 0, 1280, .inl (mh2_42))), (zd, .inl (cy 0, 4, .inl (upd mdn hj (nI (clo nt))))), (zs, .inl (cy 0, 8, .inl (upd ms ri (nI (n))))), (zr, .inl (cy 0, 1600, .inl (apG mr (200 * ri) (fun k => outB (rtN K (bsO (mmd hj)) g 0 nt).1 (rtN K (bsO (mmd hj)) g 0 nt).2.1 (rtN K (bsO (mmd hj)) g 0 nt).2.2.2.1 ((rtN K (bsO (mmd hj)) g 0 nt).2.2.2.2 + (nI (8))) (pl + k)) i)))] H locs := hW
                refine lv_iload_n hx hb dX5_output_159 rfl (lv_at hl 3 rfl) ?_
                have e9 : i = n := by omega
                rw [e9] at hW
                exact eI hQ hx hb hr hlocks hK hW (vx, wx, ox, pp2_42, mh2_42) (⟨rfl, p42⟩) (rfl) dX5_output_160
              · skip
                refine lv_lload hx hb dX5_output_59 (lv_at hl 4 rfl) ?_
                refine lv_iload hx hb dX5_output_61 (lv_at hl 6 rfl) ?_
                refine lv_i2l hx hb dX5_output_63 rfl ?_
                refine lv_ladd hx hb dX5_output_64 ?_
                refine tL (x' := lN (pl + i)) (by rw [nI_l (by omega), lN_add]) ?_
                refine lv_lstore (lv' := [(9, .long (lN (pl + i))), (0, .ref z0), (1, .int (nI (hj))), (2, .int (nI (ri))), (3, .int (nI (n))), (4, .long (lN pl)), (6, .long (mz)), (8, .int (nI (i)))]) hx hb dX5_output_65 hl (by decide) rfl (fun ls hl => ?_)
                refine lv_lload hx hb dX5_output_67 (lv_at hl 0 rfl) ?_
                refine lv_ldc2 (v := (64 : Int64)) hx hb hown (hts (.constantLong RX5 174 (64)) f_X5_output_4) dX5_output_69 ?_
                refine lv_ldiv hx hb dX5_output_72 (by decide) ?_
                refine tL (x' := lN ((pl + i) / 64)) (pk_lDiv (b := 64) (by omega) (by decide) (by decide)) ?_
                refine lv_lload hx hb dX5_output_73 (lv_at hl 6 rfl) ?_
                refine W.lcmp hx hb dX5_output_75 ?_
                refine lv_if_eq (tgt := 100) hx hb dX5_output_76 (by decide) (fun h76 => ?_) (fun h76 => ?_)
                · skip
                  have h76 : mz = lN ((pl + i) / 64) := ((lg_cmp_eq _ _).mp h76).symm
                  have hip : 0 < i := by rcases Nat.eq_zero_or_pos i with q | q; (exact absurd (h76.symm.trans (hz0 q)) (lN_ne (by omega))); (exact q)
                  have hq7 : (pl + (i - 1)) / 64 = ((pl + i) / 64) := (pk_lEQ (by omega) (by omega)).mp ((hz1 hip).1.symm.trans h76)
                  have hvx : vx = mixV (rtN K (bsO (mmd hj)) g 0 nt).1 (rtN K (bsO (mmd hj)) g 0 nt).2.1 (lN ((pl + i) / 64)) (rtN K (bsO (mmd hj)) g 0 nt).2.2.2.1 ((rtN K (bsO (mmd hj)) g 0 nt).2.2.2.2 + (nI (8))) := by rw [(hz1 hip).2, hq7]
                  refine lv_aload_n hx hb dX5_output_100 rfl (lv_at hl 1 rfl) ?_
                  refine va_get (D := D) (ci := 5) (v := .ref zv) (C := RX5) (T := TX5) (N := 28) hx hb hts i_X5_output_X5 hown hK hW.1 0 rfl rfl 17 (by decide) (hts (.fieldLink RX5 53 "TreeHashesModel" "v" "[I") f_X5_output_5) (fun _ h9 => h9) rfl dX5_output_101 ?_
                  refine lv_lload hx hb dX5_output_104 (lv_at hl 0 rfl) ?_
                  refine lv_ldc2 (v := (64 : Int64)) hx hb hown (hts (.constantLong RX5 174 (64)) f_X5_output_4) dX5_output_106 ?_
                  refine lv_lrem hx hb dX5_output_109 (by decide) ?_
                  refine tL (x' := lN ((pl + i) % 64)) (pk_lRem (b := 64) (by omega) (by decide) (by decide)) ?_
                  refine lv_l2i hx hb dX5_output_110 rfl ?_
                  refine tI (x' := nI ((pl + i) % 64)) (lN_i _) ?_
                  refine lv_iconst (v := nI (4)) hx hb dX5_output_111 (by decide) ?_
                  refine lv_idiv hx hb dX5_output_112 (by decide) ?_
                  refine tI (pk_div (by omega) (by omega) (by omega)) ?_
                  refine rI hx hb hK hW 4 rfl (k := ((pl + i) % 64) / 4) (by omega) (by omega) dX5_output_113 ?_
                  refine lv_istore (lv' := [(11, .int (vx (((pl + i) % 64) / 4))), (9, .long (lN (pl + i))), (0, .ref z0), (1, .int (nI (hj))), (2, .int (nI (ri))), (3, .int (nI (n))), (4, .long (lN pl)), (6, .long (mz)), (8, .int (nI (i)))]) hx hb dX5_output_114 hl (by decide) rfl (fun ls hl => ?_)
                  refine lv_aload_n hx hb dX5_output_116 rfl (lv_at hl 2 rfl) ?_
                  refine va_get (D := D) (ci := 5) (v := .ref zr) (C := RX5) (T := TX5) (N := 28) hx hb hts i_X5_output_X5 hown hK hW.1 0 rfl rfl 0 (by decide) (hts (.fieldLink RX5 7 "TreeHashesModel" "registers" "[I") f_X5_output_6) (fun _ h9 => h9) rfl dX5_output_117 ?_
                  refine lv_sipush (v := nI (200)) hx hb dX5_output_120 (by decide) ?_
                  refine lv_iload_n hx hb dX5_output_123 rfl (lv_at hl 4 rfl) ?_
                  refine lv_imul hx hb dX5_output_124 ?_
                  refine tI (pk_mul _ _) ?_
                  refine lv_iload hx hb dX5_output_125 (lv_at hl 8 rfl) ?_
                  refine lv_iadd hx hb dX5_output_127 ?_
                  refine tI (nI_add _ _) ?_
                  refine lv_iload hx hb dX5_output_128 (lv_at hl 0 rfl) ?_
                  refine lv_bipush (v := nI (8)) hx hb dX5_output_130 (by decide) ?_
                  refine lv_lload hx hb dX5_output_132 (lv_at hl 1 rfl) ?_
                  refine lv_ldc2 (v := (4 : Int64)) hx hb hown (hts (.constantLong RX5 176 (4)) f_X5_output_7) dX5_output_134 ?_
                  refine lv_lrem hx hb dX5_output_137 (by decide) ?_
                  refine tL (x' := lN ((pl + i) % 4)) (pk_lRem (b := 4) (by omega) (by decide) (by decide)) ?_
                  refine lv_l2i hx hb dX5_output_138 rfl ?_
                  refine tI (x' := nI ((pl + i) % 64 % 4)) (by rw [lN_i, show (pl + i) % 4 = (pl + i) % 64 % 4 from by omega]) ?_
                  refine lv_imul hx hb dX5_output_139 ?_
                  refine tI (pk_mul _ _) ?_
                  refine lv_ishr hx hb dX5_output_140 ?_
                  refine lv_sipush (v := nI (255)) hx hb dX5_output_141 (by decide) ?_
                  refine lv_iand hx hb dX5_output_144 ?_
                  refine tI (x' := outB (rtN K (bsO (mmd hj)) g 0 nt).1 (rtN K (bsO (mmd hj)) g 0 nt).2.1 (rtN K (bsO (mmd hj)) g 0 nt).2.2.2.1 ((rtN K (bsO (mmd hj)) g 0 nt).2.2.2.2 + (nI (8))) (pl + i)) (by rw [mby_oby _ (by omega)]; first | rfl | (rw [hvx]; rfl)) ?_
                  refine wI hx hb hK hW 17 rfl (k := (200 * ri) + i) (by omega) (by omega) dX5_output_145 (fun H locs hW => ?_)
                  have hW : Wd D A s [(z0, .inr (5, [.ref zr, .ref zs, .ref zt, .ref zc, .ref zm, .ref zk, .ref zh, .ref zd, .ref zf, .int (nI (ml)), .ref zp, .int (nI (mps)), .ref za, .ref ze, .int (bsO (mmd hj)), .ref zn, .ref zb, .ref zv, .ref zw, .ref zo, .ref zq, .long ((rtN K (bsO (mmd hj)) g 0 nt).2.2.1), .int ((rtN K (bsO (mmd hj)) g 0 nt).2.2.2.1), .int ((rtN K (bsO (mmd hj)) g 0 nt).2.2.2.2), .ref zl, .int (nI (0)), .int (nI (clo nt)), .ref zi])), (ze, .inl (cy 0, 8, .inl (K))), (zn, .inl (cy 0, 8, .inl ((rtN K (bsO (mmd hj)) g 0 nt).1))), (zb, .inl (cy 0, 16, .inl ((rtN K (bsO (mmd hj)) g 0 nt).2.1))), (zv, .inl (cy 0, 16, .inl (vx))), (zw, .inl (cy 0, 16, .inl (wx))), (zo, .inl (cy 0, 16, .inl (ox))), (zl, .inl (cy 0, 96, .inl (pp2_42))), (zq, .inl (cy 0, 16, .inl (fun k => nI (orN k)))), (za, .inl (cy 0, 8, .inl (stA))), (zt, .inl (cy 0, 160000, .inl (mt))), (zc, .inl (cy 0, 4, .inl (mcn))), (zm, .inl (cy 0, 4, .inl (mmd))), (zk, .inl (cy 0, 32, .inl (mk))), (zh, .inl (cy 0, 1280, .inl (mh2_42))), (zd, .inl (cy 0, 4, .inl (upd mdn hj (nI (clo nt))))), (zs, .inl (cy 0, 8, .inl (ms))), (zr, .inl (cy 0, 1600, .inl (upd (apG mr (200 * ri) (fun k => outB (rtN K (bsO (mmd hj)) g 0 nt).1 (rtN K (bsO (mmd hj)) g 0 nt).2.1 (rtN K (bsO (mmd hj)) g 0 nt).2.2.2.1 ((rtN K (bsO (mmd hj)) g 0 nt).2.2.2.2 + (nI (8))) (pl + k)) i) ((200 * ri) + i) (outB (rtN K (bsO (mmd hj)) g 0 nt).1 (rtN K (bsO (mmd hj)) g 0 nt).2.1 (rtN K (bsO (mmd hj)) g 0 nt).2.2.2.1 ((rtN K (bsO (mmd hj)) g 0 nt).2.2.2.2 + (nI (8))) (pl + i)))))] H locs := hW
                  rw [show (upd (apG mr (200 * ri) (fun k => outB (rtN K (bsO (mmd hj)) g 0 nt).1 (rtN K (bsO (mmd hj)) g 0 nt).2.1 (rtN K (bsO (mmd hj)) g 0 nt).2.2.2.1 ((rtN K (bsO (mmd hj)) g 0 nt).2.2.2.2 + (nI (8))) (pl + k)) i) ((200 * ri) + i) (outB (rtN K (bsO (mmd hj)) g 0 nt).1 (rtN K (bsO (mmd hj)) g 0 nt).2.1 (rtN K (bsO (mmd hj)) g 0 nt).2.2.2.1 ((rtN K (bsO (mmd hj)) g 0 nt).2.2.2.2 + (nI (8))) (pl + i))) = (apG mr (200 * ri) (fun k => outB (rtN K (bsO (mmd hj)) g 0 nt).1 (rtN K (bsO (mmd hj)) g 0 nt).2.1 (rtN K (bsO (mmd hj)) g 0 nt).2.2.2.1 ((rtN K (bsO (mmd hj)) g 0 nt).2.2.2.2 + (nI (8))) (pl + k)) (i + 1)) from apG_s mr (200 * ri) (fun k => outB (rtN K (bsO (mmd hj)) g 0 nt).1 (rtN K (bsO (mmd hj)) g 0 nt).2.1 (rtN K (bsO (mmd hj)) g 0 nt).2.2.2.1 ((rtN K (bsO (mmd hj)) g 0 nt).2.2.2.2 + (nI (8))) (pl + k)) i] at hW
                  have hW : Wd D A s [(z0, .inr (5, [.ref zr, .ref zs, .ref zt, .ref zc, .ref zm, .ref zk, .ref zh, .ref zd, .ref zf, .int (nI (ml)), .ref zp, .int (nI (mps)), .ref za, .ref ze, .int (bsO (mmd hj)), .ref zn, .ref zb, .ref zv, .ref zw, .ref zo, .ref zq, .long ((rtN K (bsO (mmd hj)) g 0 nt).2.2.1), .int ((rtN K (bsO (mmd hj)) g 0 nt).2.2.2.1), .int ((rtN K (bsO (mmd hj)) g 0 nt).2.2.2.2), .ref zl, .int (nI (0)), .int (nI (clo nt)), .ref zi])), (ze, .inl (cy 0, 8, .inl (K))), (zn, .inl (cy 0, 8, .inl ((rtN K (bsO (mmd hj)) g 0 nt).1))), (zb, .inl (cy 0, 16, .inl ((rtN K (bsO (mmd hj)) g 0 nt).2.1))), (zv, .inl (cy 0, 16, .inl (vx))), (zw, .inl (cy 0, 16, .inl (wx))), (zo, .inl (cy 0, 16, .inl (ox))), (zl, .inl (cy 0, 96, .inl (pp2_42))), (zq, .inl (cy 0, 16, .inl (fun k => nI (orN k)))), (za, .inl (cy 0, 8, .inl (stA))), (zt, .inl (cy 0, 160000, .inl (mt))), (zc, .inl (cy 0, 4, .inl (mcn))), (zm, .inl (cy 0, 4, .inl (mmd))), (zk, .inl (cy 0, 32, .inl (mk))), (zh, .inl (cy 0, 1280, .inl (mh2_42))), (zd, .inl (cy 0, 4, .inl (upd mdn hj (nI (clo nt))))), (zs, .inl (cy 0, 8, .inl (ms))), (zr, .inl (cy 0, 1600, .inl (apG mr (200 * ri) (fun k => outB (rtN K (bsO (mmd hj)) g 0 nt).1 (rtN K (bsO (mmd hj)) g 0 nt).2.1 (rtN K (bsO (mmd hj)) g 0 nt).2.2.2.1 ((rtN K (bsO (mmd hj)) g 0 nt).2.2.2.2 + (nI (8))) (pl + k)) (i + 1))))] H locs := hW
                  refine lv_iinc (v := nI (i + 1)) (lv' := [(8, .int (nI (i + 1))), (11, .int (vx (((pl + i) % 64) / 4))), (9, .long (lN (pl + i))), (0, .ref z0), (1, .int (nI (hj))), (2, .int (nI (ri))), (3, .int (nI (n))), (4, .long (lN pl)), (6, .long (mz))]) hx hb dX5_output_146 hl (k := 8) rfl (nI_1 _) (by decide) rfl (fun ls hl => ?_)
                  refine lv_goto (tgt := 53) hx hb dX5_output_149 (by decide) ?_
                  exact ih53 (i + 1) mz vx wx ox (by omega) (by omega) (fun q => absurd q (Nat.succ_ne_zero i)) (fun _ => by rw [Nat.add_sub_cancel]; exact ⟨h76, hvx⟩) _ _ hW _ (lv_sub hl [3, 4, 5, 6, 7, 8, 0] rfl)
                · skip
                  refine lv_lload hx hb dX5_output_79 (lv_at hl 0 rfl) ?_
                  refine lv_ldc2 (v := (64 : Int64)) hx hb hown (hts (.constantLong RX5 174 (64)) f_X5_output_4) dX5_output_81 ?_
                  refine lv_ldiv hx hb dX5_output_84 (by decide) ?_
                  refine tL (x' := lN ((pl + i) / 64)) (pk_lDiv (b := 64) (by omega) (by decide) (by decide)) ?_
                  refine lv_lstore (lv' := [(6, .long (lN ((pl + i) / 64))), (9, .long (lN (pl + i))), (0, .ref z0), (1, .int (nI (hj))), (2, .int (nI (ri))), (3, .int (nI (n))), (4, .long (lN pl)), (8, .int (nI (i)))]) hx hb dX5_output_85 hl (by decide) rfl (fun ls hl => ?_)
                  refine lv_aload_n hx hb dX5_output_87 rfl (lv_at hl 2 rfl) ?_
                  refine lv_lload hx hb dX5_output_88 (lv_at hl 0 rfl) ?_
                  refine lv_aload_n hx hb dX5_output_90 rfl (lv_at hl 2 rfl) ?_
                  refine va_get (D := D) (ci := 5) (v := .int ((rtN K (bsO (mmd hj)) g 0 nt).2.2.2.2)) (C := RX5) (T := TX5) (N := 28) hx hb hts i_X5_output_X5 hown hK hW.1 0 rfl rfl 23 (by decide) (hts (.fieldLink RX5 104 "TreeHashesModel" "flags" "I") f_X5_output_8) (fun _ h9 => h9) rfl dX5_output_91 ?_
                  refine lv_bipush (v := nI (8)) hx hb dX5_output_94 (by decide) ?_
                  refine lv_iadd hx hb dX5_output_96 ?_
                  refine kVv (As := [.long (lN ((pl + i) / 64)), .int (((rtN K (bsO (mmd hj)) g 0 nt).2.2.2.2) + (nI (8)))]) (rest := []) S0 hK hst hA hW [0, 2, 3, 4, 5, 6, 8, 9] (fun sz => c_X5_mix l D cy t z0 zr zs zt zc zm zk zh zd zf ml zp mps za ze (bsO (mmd hj)) zn zb zv zw zo zq ((rtN K (bsO (mmd hj)) g 0 nt).2.2.1) ((rtN K (bsO (mmd hj)) g 0 nt).2.2.2.1) ((rtN K (bsO (mmd hj)) g 0 nt).2.2.2.2) zl 0 (clo nt) zi ((rtN K (bsO (mmd hj)) g 0 nt).1) ((rtN K (bsO (mmd hj)) g 0 nt).2.1) vx wx ox (lN ((pl + i) / 64)) (((rtN K (bsO (mmd hj)) g 0 nt).2.2.2.2) + (nI (8)))  sz) rfl (by decide) (cwV 2 hts gX5_output_X5_mix rfl rfl rfl (by decide +kernel) ⟨Nat.le_of_ble_eq_true rfl, Nat.le_of_ble_eq_true rfl⟩) (fun ⟨_, _⟩ => rfl) 0 5 rfl rfl rfl hl.1 rfl (Nat.le_of_ble_eq_true rfl) dX5_output_97 ⟨Nat.le_of_ble_eq_true rfl, Nat.le_of_ble_eq_true rfl⟩ (fun u97 H locs p97 hW => ?_)
                  obtain ⟨ww2_97, oo2_97⟩ := u97
                  have hW : Wd D A s [(z0, .inr (5, [.ref zr, .ref zs, .ref zt, .ref zc, .ref zm, .ref zk, .ref zh, .ref zd, .ref zf, .int (nI (ml)), .ref zp, .int (nI (mps)), .ref za, .ref ze, .int ((bsO (mmd hj))), .ref zn, .ref zb, .ref zv, .ref zw, .ref zo, .ref zq, .long (((rtN K (bsO (mmd hj)) g 0 nt).2.2.1)), .int (((rtN K (bsO (mmd hj)) g 0 nt).2.2.2.1)), .int (((rtN K (bsO (mmd hj)) g 0 nt).2.2.2.2)), .ref zl, .int (nI (0)), .int (nI ((clo nt))), .ref zi])), (ze, .inl (cy 0, 8, .inl (K))), (zn, .inl (cy 0, 8, .inl (((rtN K (bsO (mmd hj)) g 0 nt).1)))), (zb, .inl (cy 0, 16, .inl (((rtN K (bsO (mmd hj)) g 0 nt).2.1)))), (zv, .inl (cy 0, 16, .inl (mixV ((rtN K (bsO (mmd hj)) g 0 nt).1) ((rtN K (bsO (mmd hj)) g 0 nt).2.1) (lN ((pl + i) / 64)) ((rtN K (bsO (mmd hj)) g 0 nt).2.2.2.1) (((rtN K (bsO (mmd hj)) g 0 nt).2.2.2.2) + (nI (8)))))), (zw, .inl (cy 0, 16, .inl (ww2_97))), (zo, .inl (cy 0, 16, .inl (oo2_97))), (zl, .inl (cy 0, 96, .inl (pp2_42))), (zq, .inl (cy 0, 16, .inl (fun k => nI (orN k)))), (za, .inl (cy 0, 8, .inl (stA))), (zt, .inl (cy 0, 160000, .inl (mt))), (zc, .inl (cy 0, 4, .inl (mcn))), (zm, .inl (cy 0, 4, .inl (mmd))), (zk, .inl (cy 0, 32, .inl (mk))), (zh, .inl (cy 0, 1280, .inl (mh2_42))), (zd, .inl (cy 0, 4, .inl (upd mdn hj (nI (clo nt))))), (zs, .inl (cy 0, 8, .inl (ms))), (zr, .inl (cy 0, 1600, .inl (apG mr (200 * ri) (fun k => outB (rtN K (bsO (mmd hj)) g 0 nt).1 (rtN K (bsO (mmd hj)) g 0 nt).2.1 (rtN K (bsO (mmd hj)) g 0 nt).2.2.2.1 ((rtN K (bsO (mmd hj)) g 0 nt).2.2.2.2 + (nI (8))) (pl + k)) i)))] H locs := hW
                  refine lv_aload_n hx hb dX5_output_100 rfl (lv_at hl 2 rfl) ?_
                  refine va_get (D := D) (ci := 5) (v := .ref zv) (C := RX5) (T := TX5) (N := 28) hx hb hts i_X5_output_X5 hown hK hW.1 0 rfl rfl 17 (by decide) (hts (.fieldLink RX5 53 "TreeHashesModel" "v" "[I") f_X5_output_5) (fun _ h9 => h9) rfl dX5_output_101 ?_
                  refine lv_lload hx hb dX5_output_104 (lv_at hl 1 rfl) ?_
                  refine lv_ldc2 (v := (64 : Int64)) hx hb hown (hts (.constantLong RX5 174 (64)) f_X5_output_4) dX5_output_106 ?_
                  refine lv_lrem hx hb dX5_output_109 (by decide) ?_
                  refine tL (x' := lN ((pl + i) % 64)) (pk_lRem (b := 64) (by omega) (by decide) (by decide)) ?_
                  refine lv_l2i hx hb dX5_output_110 rfl ?_
                  refine tI (x' := nI ((pl + i) % 64)) (lN_i _) ?_
                  refine lv_iconst (v := nI (4)) hx hb dX5_output_111 (by decide) ?_
                  refine lv_idiv hx hb dX5_output_112 (by decide) ?_
                  refine tI (pk_div (by omega) (by omega) (by omega)) ?_
                  refine rI hx hb hK hW 4 rfl (k := ((pl + i) % 64) / 4) (by omega) (by omega) dX5_output_113 ?_
                  refine lv_istore (lv' := [(11, .int ((mixV ((rtN K (bsO (mmd hj)) g 0 nt).1) ((rtN K (bsO (mmd hj)) g 0 nt).2.1) (lN ((pl + i) / 64)) ((rtN K (bsO (mmd hj)) g 0 nt).2.2.2.1) (((rtN K (bsO (mmd hj)) g 0 nt).2.2.2.2) + (nI (8)))) (((pl + i) % 64) / 4))), (6, .long (lN ((pl + i) / 64))), (9, .long (lN (pl + i))), (0, .ref z0), (1, .int (nI (hj))), (2, .int (nI (ri))), (3, .int (nI (n))), (4, .long (lN pl)), (8, .int (nI (i)))]) hx hb dX5_output_114 hl (by decide) rfl (fun ls hl => ?_)
                  refine lv_aload_n hx hb dX5_output_116 rfl (lv_at hl 3 rfl) ?_
                  refine va_get (D := D) (ci := 5) (v := .ref zr) (C := RX5) (T := TX5) (N := 28) hx hb hts i_X5_output_X5 hown hK hW.1 0 rfl rfl 0 (by decide) (hts (.fieldLink RX5 7 "TreeHashesModel" "registers" "[I") f_X5_output_6) (fun _ h9 => h9) rfl dX5_output_117 ?_
                  refine lv_sipush (v := nI (200)) hx hb dX5_output_120 (by decide) ?_
                  refine lv_iload_n hx hb dX5_output_123 rfl (lv_at hl 5 rfl) ?_
                  refine lv_imul hx hb dX5_output_124 ?_
                  refine tI (pk_mul _ _) ?_
                  refine lv_iload hx hb dX5_output_125 (lv_at hl 8 rfl) ?_
                  refine lv_iadd hx hb dX5_output_127 ?_
                  refine tI (nI_add _ _) ?_
                  refine lv_iload hx hb dX5_output_128 (lv_at hl 0 rfl) ?_
                  refine lv_bipush (v := nI (8)) hx hb dX5_output_130 (by decide) ?_
                  refine lv_lload hx hb dX5_output_132 (lv_at hl 2 rfl) ?_
                  refine lv_ldc2 (v := (4 : Int64)) hx hb hown (hts (.constantLong RX5 176 (4)) f_X5_output_7) dX5_output_134 ?_
                  refine lv_lrem hx hb dX5_output_137 (by decide) ?_
                  refine tL (x' := lN ((pl + i) % 4)) (pk_lRem (b := 4) (by omega) (by decide) (by decide)) ?_
                  refine lv_l2i hx hb dX5_output_138 rfl ?_
                  refine tI (x' := nI ((pl + i) % 64 % 4)) (by rw [lN_i, show (pl + i) % 4 = (pl + i) % 64 % 4 from by omega]) ?_
                  refine lv_imul hx hb dX5_output_139 ?_
                  refine tI (pk_mul _ _) ?_
                  refine lv_ishr hx hb dX5_output_140 ?_
                  refine lv_sipush (v := nI (255)) hx hb dX5_output_141 (by decide) ?_
                  refine lv_iand hx hb dX5_output_144 ?_
                  refine tI (x' := outB (rtN K (bsO (mmd hj)) g 0 nt).1 (rtN K (bsO (mmd hj)) g 0 nt).2.1 (rtN K (bsO (mmd hj)) g 0 nt).2.2.2.1 ((rtN K (bsO (mmd hj)) g 0 nt).2.2.2.2 + (nI (8))) (pl + i)) (by rw [mby_oby _ (by omega)]; first | rfl | (rw [hvx]; rfl)) ?_
                  refine wI hx hb hK hW 17 rfl (k := (200 * ri) + i) (by omega) (by omega) dX5_output_145 (fun H locs hW => ?_)
                  have hW : Wd D A s [(z0, .inr (5, [.ref zr, .ref zs, .ref zt, .ref zc, .ref zm, .ref zk, .ref zh, .ref zd, .ref zf, .int (nI (ml)), .ref zp, .int (nI (mps)), .ref za, .ref ze, .int ((bsO (mmd hj))), .ref zn, .ref zb, .ref zv, .ref zw, .ref zo, .ref zq, .long (((rtN K (bsO (mmd hj)) g 0 nt).2.2.1)), .int (((rtN K (bsO (mmd hj)) g 0 nt).2.2.2.1)), .int (((rtN K (bsO (mmd hj)) g 0 nt).2.2.2.2)), .ref zl, .int (nI (0)), .int (nI ((clo nt))), .ref zi])), (ze, .inl (cy 0, 8, .inl (K))), (zn, .inl (cy 0, 8, .inl (((rtN K (bsO (mmd hj)) g 0 nt).1)))), (zb, .inl (cy 0, 16, .inl (((rtN K (bsO (mmd hj)) g 0 nt).2.1)))), (zv, .inl (cy 0, 16, .inl (mixV ((rtN K (bsO (mmd hj)) g 0 nt).1) ((rtN K (bsO (mmd hj)) g 0 nt).2.1) (lN ((pl + i) / 64)) ((rtN K (bsO (mmd hj)) g 0 nt).2.2.2.1) (((rtN K (bsO (mmd hj)) g 0 nt).2.2.2.2) + (nI (8)))))), (zw, .inl (cy 0, 16, .inl (ww2_97))), (zo, .inl (cy 0, 16, .inl (oo2_97))), (zl, .inl (cy 0, 96, .inl (pp2_42))), (zq, .inl (cy 0, 16, .inl (fun k => nI (orN k)))), (za, .inl (cy 0, 8, .inl (stA))), (zt, .inl (cy 0, 160000, .inl (mt))), (zc, .inl (cy 0, 4, .inl (mcn))), (zm, .inl (cy 0, 4, .inl (mmd))), (zk, .inl (cy 0, 32, .inl (mk))), (zh, .inl (cy 0, 1280, .inl (mh2_42))), (zd, .inl (cy 0, 4, .inl (upd mdn hj (nI (clo nt))))), (zs, .inl (cy 0, 8, .inl (ms))), (zr, .inl (cy 0, 1600, .inl (upd (apG mr (200 * ri) (fun k => outB (rtN K (bsO (mmd hj)) g 0 nt).1 (rtN K (bsO (mmd hj)) g 0 nt).2.1 (rtN K (bsO (mmd hj)) g 0 nt).2.2.2.1 ((rtN K (bsO (mmd hj)) g 0 nt).2.2.2.2 + (nI (8))) (pl + k)) i) ((200 * ri) + i) (outB (rtN K (bsO (mmd hj)) g 0 nt).1 (rtN K (bsO (mmd hj)) g 0 nt).2.1 (rtN K (bsO (mmd hj)) g 0 nt).2.2.2.1 ((rtN K (bsO (mmd hj)) g 0 nt).2.2.2.2 + (nI (8))) (pl + i)))))] H locs := hW
                  rw [show (upd (apG mr (200 * ri) (fun k => outB (rtN K (bsO (mmd hj)) g 0 nt).1 (rtN K (bsO (mmd hj)) g 0 nt).2.1 (rtN K (bsO (mmd hj)) g 0 nt).2.2.2.1 ((rtN K (bsO (mmd hj)) g 0 nt).2.2.2.2 + (nI (8))) (pl + k)) i) ((200 * ri) + i) (outB (rtN K (bsO (mmd hj)) g 0 nt).1 (rtN K (bsO (mmd hj)) g 0 nt).2.1 (rtN K (bsO (mmd hj)) g 0 nt).2.2.2.1 ((rtN K (bsO (mmd hj)) g 0 nt).2.2.2.2 + (nI (8))) (pl + i))) = (apG mr (200 * ri) (fun k => outB (rtN K (bsO (mmd hj)) g 0 nt).1 (rtN K (bsO (mmd hj)) g 0 nt).2.1 (rtN K (bsO (mmd hj)) g 0 nt).2.2.2.1 ((rtN K (bsO (mmd hj)) g 0 nt).2.2.2.2 + (nI (8))) (pl + k)) (i + 1)) from apG_s mr (200 * ri) (fun k => outB (rtN K (bsO (mmd hj)) g 0 nt).1 (rtN K (bsO (mmd hj)) g 0 nt).2.1 (rtN K (bsO (mmd hj)) g 0 nt).2.2.2.1 ((rtN K (bsO (mmd hj)) g 0 nt).2.2.2.2 + (nI (8))) (pl + k)) i] at hW
                  have hW : Wd D A s [(z0, .inr (5, [.ref zr, .ref zs, .ref zt, .ref zc, .ref zm, .ref zk, .ref zh, .ref zd, .ref zf, .int (nI (ml)), .ref zp, .int (nI (mps)), .ref za, .ref ze, .int ((bsO (mmd hj))), .ref zn, .ref zb, .ref zv, .ref zw, .ref zo, .ref zq, .long (((rtN K (bsO (mmd hj)) g 0 nt).2.2.1)), .int (((rtN K (bsO (mmd hj)) g 0 nt).2.2.2.1)), .int (((rtN K (bsO (mmd hj)) g 0 nt).2.2.2.2)), .ref zl, .int (nI (0)), .int (nI ((clo nt))), .ref zi])), (ze, .inl (cy 0, 8, .inl (K))), (zn, .inl (cy 0, 8, .inl (((rtN K (bsO (mmd hj)) g 0 nt).1)))), (zb, .inl (cy 0, 16, .inl (((rtN K (bsO (mmd hj)) g 0 nt).2.1)))), (zv, .inl (cy 0, 16, .inl (mixV ((rtN K (bsO (mmd hj)) g 0 nt).1) ((rtN K (bsO (mmd hj)) g 0 nt).2.1) (lN ((pl + i) / 64)) ((rtN K (bsO (mmd hj)) g 0 nt).2.2.2.1) (((rtN K (bsO (mmd hj)) g 0 nt).2.2.2.2) + (nI (8)))))), (zw, .inl (cy 0, 16, .inl (ww2_97))), (zo, .inl (cy 0, 16, .inl (oo2_97))), (zl, .inl (cy 0, 96, .inl (pp2_42))), (zq, .inl (cy 0, 16, .inl (fun k => nI (orN k)))), (za, .inl (cy 0, 8, .inl (stA))), (zt, .inl (cy 0, 160000, .inl (mt))), (zc, .inl (cy 0, 4, .inl (mcn))), (zm, .inl (cy 0, 4, .inl (mmd))), (zk, .inl (cy 0, 32, .inl (mk))), (zh, .inl (cy 0, 1280, .inl (mh2_42))), (zd, .inl (cy 0, 4, .inl (upd mdn hj (nI (clo nt))))), (zs, .inl (cy 0, 8, .inl (ms))), (zr, .inl (cy 0, 1600, .inl (apG mr (200 * ri) (fun k => outB (rtN K (bsO (mmd hj)) g 0 nt).1 (rtN K (bsO (mmd hj)) g 0 nt).2.1 (rtN K (bsO (mmd hj)) g 0 nt).2.2.2.1 ((rtN K (bsO (mmd hj)) g 0 nt).2.2.2.2 + (nI (8))) (pl + k)) (i + 1))))] H locs := hW
                  refine lv_iinc (v := nI (i + 1)) (lv' := [(8, .int (nI (i + 1))), (11, .int ((mixV ((rtN K (bsO (mmd hj)) g 0 nt).1) ((rtN K (bsO (mmd hj)) g 0 nt).2.1) (lN ((pl + i) / 64)) ((rtN K (bsO (mmd hj)) g 0 nt).2.2.2.1) (((rtN K (bsO (mmd hj)) g 0 nt).2.2.2.2) + (nI (8)))) (((pl + i) % 64) / 4))), (6, .long (lN ((pl + i) / 64))), (9, .long (lN (pl + i))), (0, .ref z0), (1, .int (nI (hj))), (2, .int (nI (ri))), (3, .int (nI (n))), (4, .long (lN pl))]) hx hb dX5_output_146 hl (k := 8) rfl (nI_1 _) (by decide) rfl (fun ls hl => ?_)
                  refine lv_goto (tgt := 53) hx hb dX5_output_149 (by decide) ?_
                  exact ih53 (i + 1) (lN ((pl + i) / 64)) (mixV ((rtN K (bsO (mmd hj)) g 0 nt).1) ((rtN K (bsO (mmd hj)) g 0 nt).2.1) (lN ((pl + i) / 64)) ((rtN K (bsO (mmd hj)) g 0 nt).2.2.2.1) (((rtN K (bsO (mmd hj)) g 0 nt).2.2.2.2) + (nI (8)))) ww2_97 oo2_97 (by omega) (by omega) (fun q => absurd q (Nat.succ_ne_zero i)) (fun _ => by rw [Nat.add_sub_cancel]; exact ⟨rfl, rfl⟩) _ _ hW _ (lv_sub hl [4, 5, 6, 7, 8, 2, 0] rfl)
          rw [← apG_0 mr (200 * ri) (fun k => outB (rtN K (bsO (mmd hj)) g 0 nt).1 (rtN K (bsO (mmd hj)) g 0 nt).2.1 (rtN K (bsO (mmd hj)) g 0 nt).2.2.2.1 ((rtN K (bsO (mmd hj)) g 0 nt).2.2.2.2 + (nI (8))) (pl + k))] at hW
          exact loop53 _ 0 (-1 : Int64) vv2_42 ww2_42 oo2_42 (Nat.lt_succ_self _) (by omega) (fun _ => rfl) (fun q => absurd q (Nat.lt_irrefl 0)) _ _ hW _ (lv_sub hl [2, 3, 4, 5, 6, 1, 0] rfl)
        · skip
          exfalso; omega

set_option maxHeartbeats 4000000 in
set_option maxRecDepth 100000 in
theorem c_X5_root_b (l : Launch) (D : va_G) (cy : Nat → ClassId) (t : Nat × Nat) (z0 : Nat) (zr : Nat) (zs : Nat) (zt : Nat) (zc : Nat) (zm : Nat) (zk : Nat) (zh : Nat) (zd : Nat) (zf : Nat) (ml : Nat) (zp : Nat) (mps : Nat) (za : Nat) (ze : Nat) (be : Int32) (zn : Nat) (zb : Nat) (zv : Nat) (zw : Nat) (zo : Nat) (zq : Nat) (nu : Int64) (bq : Int32) (fg : Int32) (zl : Nat) (hg : Nat) (cz : Nat) (zi : Nat) (x : Int32) (hbd : x < 0 ∨ nI 8 ≤ x) (sz : Nat) : Met l yX5_root wsX5_root ({ frames := 1, cells := 0, slots := 0, locals := 20 }) (PcW D cy t [(z0, .inr (5, [.ref zr, .ref zs, .ref zt, .ref zc, .ref zm, .ref zk, .ref zh, .ref zd, .ref zf, .int (nI (ml)), .ref zp, .int (nI (mps)), .ref za, .ref ze, .int (be), .ref zn, .ref zb, .ref zv, .ref zw, .ref zo, .ref zq, .long (nu), .int (bq), .int (fg), .ref zl, .int (nI (hg)), .int (nI (cz)), .ref zi]))] [.ref z0, .int (x)] sz) (QiA D cy (fun (r : Int32) (u : Unit) => (r = (-2 : Int32))) (fun u : Unit => [(z0, .inr (5, [.ref zr, .ref zs, .ref zt, .ref zc, .ref zm, .ref zk, .ref zh, .ref zd, .ref zf, .int (nI (ml)), .ref zp, .int (nI (mps)), .ref za, .ref ze, .int (be), .ref zn, .ref zb, .ref zv, .ref zw, .ref zo, .ref zq, .long (nu), .int (bq), .int (fg), .ref zl, .int (nI (hg)), .int (nI (cz)), .ref zi]))]) (va_A [(z0, .inr (5, [.ref zr, .ref zs, .ref zt, .ref zc, .ref zm, .ref zk, .ref zh, .ref zd, .ref zf, .int (nI (ml)), .ref zp, .int (nI (mps)), .ref za, .ref ze, .int (be), .ref zn, .ref zb, .ref zv, .ref zw, .ref zo, .ref zq, .long (nu), .int (bq), .int (fg), .ref zl, .int (nI (hg)), .int (nI (cz)), .ref zi]))] sz)) 0 0 (va_A [(z0, .inr (5, [.ref zr, .ref zs, .ref zt, .ref zc, .ref zm, .ref zk, .ref zh, .ref zd, .ref zf, .int (nI (ml)), .ref zp, .int (nI (mps)), .ref za, .ref ze, .int (be), .ref zn, .ref zb, .ref zv, .ref zw, .ref zo, .ref zq, .long (nu), .int (bq), .int (fg), .ref zl, .int (nI (hg)), .int (nI (cz)), .ref zi]))] sz) := by
  refine M_ofW (cc := cX5_root) (maxL := 3) (ret := (some .int)) (by decide) rfl (Nat.le_of_ble_eq_true rfl) ?_
  intro p e s m below meth c A ls args Q hQ S0 hr hlocks hnm hK hst hA hW hl
  have hx := S0.1; have hb := S0.2.1; have hml := S0.2.2.1; have hown := S0.2.2.2.1; have hts := S0.2.2.2.2
  have hl : lv_has ls 3 [(0, .ref z0), (1, .int (x))] := hl
  refine lv_iload_n hx hb dX5_root_0 rfl (lv_at hl 1 rfl) ?_
  refine kSi (As := [.int (x)]) (rest := []) S0 hK hst hA hW [] (fun sz => c_X5_isRegister_b l D cy t x (hbd) sz) rfl (by decide) (va_cwS 1 hts gX5_root_X5_isRegister rfl rfl rfl (by decide +kernel) ⟨Nat.le_of_ble_eq_true rfl, Nat.le_of_ble_eq_true rfl⟩) (fun _ => rfl) rfl hl.1 rfl (Nat.le_of_ble_eq_true rfl) dX5_root_1 ⟨Nat.le_of_ble_eq_true rfl, Nat.le_of_ble_eq_true rfl⟩ (fun r1 u1 H locs p1 hW => ?_)
  have hW : Wd D A s [(z0, .inr (5, [.ref zr, .ref zs, .ref zt, .ref zc, .ref zm, .ref zk, .ref zh, .ref zd, .ref zf, .int (nI (ml)), .ref zp, .int (nI (mps)), .ref za, .ref ze, .int (be), .ref zn, .ref zb, .ref zv, .ref zw, .ref zo, .ref zq, .long (nu), .int (bq), .int (fg), .ref zl, .int (nI (hg)), .int (nI (cz)), .ref zi]))] H locs := hW
  have q1 : r1 = nI (0) := p1
  subst q1
  refine zNe (a := 0) (tgt := 10) hx hb dX5_root_4 (by decide) (by omega) (fun h4 => ?_) (fun h4 => ?_)
  · skip
    exfalso; omega
  · skip
    refine lv_bipush (v := (-2 : Int32)) hx hb dX5_root_7 (by decide) ?_
    exact eI hQ hx hb hr hlocks hK hW () (rfl) (rfl) dX5_root_9

theorem f_X5_root_0 : Cond.fieldLink RX5 35 "TreeHashesModel" "file" "[I" ∈ wsX5_root := by decide +kernel
theorem i_X5_root_X5 : ∀ w ∈ wsX50, w ∈ wsX5_root := by decide +kernel
theorem f_X5_root_2 : Cond.fieldLink RX5 178 "TreeHashesModel" "length" "I" ∈ wsX5_root := by decide +kernel
theorem f_X5_root_3 : Cond.fieldLink RX5 104 "TreeHashesModel" "flags" "I" ∈ wsX5_root := by decide +kernel
theorem f_X5_root_4 : Cond.fieldLink RX5 13 "TreeHashesModel" "sizes" "[I" ∈ wsX5_root := by decide +kernel
theorem f_X5_root_5 : Cond.fieldLink RX5 7 "TreeHashesModel" "registers" "[I" ∈ wsX5_root := by decide +kernel
theorem f_X5_root_6 : Cond.fieldLink RX5 53 "TreeHashesModel" "v" "[I" ∈ wsX5_root := by decide +kernel
set_option maxHeartbeats 4000000 in
set_option maxRecDepth 100000 in
theorem c_X5_root (l : Launch) (D : va_G) (cy : Nat → ClassId) (t : Nat × Nat) (z0 : Nat) (zr : Nat) (zs : Nat) (zt : Nat) (zc : Nat) (zm : Nat) (zk : Nat) (zh : Nat) (zd : Nat) (zf : Nat) (ml : Nat) (zp : Nat) (mps : Nat) (za : Nat) (ze : Nat) (be : Int32) (zn : Nat) (zb : Nat) (zv : Nat) (zw : Nat) (zo : Nat) (zq : Nat) (nu : Int64) (bq : Int32) (fg : Int32) (zl : Nat) (hg : Nat) (cz : Nat) (zi : Nat) (ke : Nat → Int32) (cn : Nat → Int32) (bb : Nat → Int32) (vv : Nat → Int32) (ww : Nat → Int32) (oo : Nat → Int32) (pp : Nat → Int32) (ms : Nat → Int32) (mr : Nat → Int32) (ri : Nat) (mf : Nat → Int32) (hr8 : ri < 8) (hml : ml ≤ 20000) (sz : Nat) : Met l yX5_root wsX5_root ({ frames := 6, cells := 0, slots := 0, locals := 146 }) (PcW D cy t [(z0, .inr (5, [.ref zr, .ref zs, .ref zt, .ref zc, .ref zm, .ref zk, .ref zh, .ref zd, .ref zf, .int (nI (ml)), .ref zp, .int (nI (mps)), .ref za, .ref ze, .int (be), .ref zn, .ref zb, .ref zv, .ref zw, .ref zo, .ref zq, .long (nu), .int (bq), .int (fg), .ref zl, .int (nI (hg)), .int (nI (cz)), .ref zi])), (ze, .inl (cy 0, 8, .inl (ke))), (zn, .inl (cy 0, 8, .inl (cn))), (zb, .inl (cy 0, 16, .inl (bb))), (zv, .inl (cy 0, 16, .inl (vv))), (zw, .inl (cy 0, 16, .inl (ww))), (zo, .inl (cy 0, 16, .inl (oo))), (zl, .inl (cy 0, 96, .inl (pp))), (zq, .inl (cy 0, 16, .inl (fun k => nI (orN k)))), (za, .inl (cy 0, 8, .inl (stA))), (zs, .inl (cy 0, 8, .inl (ms))), (zr, .inl (cy 0, 1600, .inl (mr))), (zf, .inl (cy 0, 20000, .inl (mf)))] [.ref z0, .int (nI (ri))] sz) (QiA D cy (fun (r : Int32) (u : (Nat → Int32) × (Nat → Int32) × (Nat → Int32)) => match u with | (ww2, oo2, pp2) => (r = nI (ml))) (fun u : (Nat → Int32) × (Nat → Int32) × (Nat → Int32) => match u with | (ww2, oo2, pp2) => [(z0, .inr (5, [.ref zr, .ref zs, .ref zt, .ref zc, .ref zm, .ref zk, .ref zh, .ref zd, .ref zf, .int (nI (ml)), .ref zp, .int (nI (mps)), .ref za, .ref ze, .int (nI (0)), .ref zn, .ref zb, .ref zv, .ref zw, .ref zo, .ref zq, .long ((rtN stA (nI (0)) (fun k => mf ((0 + 1024 * 0) + k)) 0 (tT ml 0 (chks ml))).2.2.1), .int ((rtN stA (nI (0)) (fun k => mf ((0 + 1024 * 0) + k)) 0 (tT ml 0 (chks ml))).2.2.2.1), .int ((rtN stA (nI (0)) (fun k => mf ((0 + 1024 * 0) + k)) 0 (tT ml 0 (chks ml))).2.2.2.2), .ref zl, .int (nI (0)), .int (nI (chks ml - 1 - 0)), .ref zi])), (ze, .inl (cy 0, 8, .inl (stA))), (zn, .inl (cy 0, 8, .inl ((rtN stA (nI (0)) (fun k => mf ((0 + 1024 * 0) + k)) 0 (tT ml 0 (chks ml))).1))), (zb, .inl (cy 0, 16, .inl ((rtN stA (nI (0)) (fun k => mf ((0 + 1024 * 0) + k)) 0 (tT ml 0 (chks ml))).2.1))), (zv, .inl (cy 0, 16, .inl ((mixV (rtN stA (nI (0)) (fun k => mf ((0 + 1024 * 0) + k)) 0 (tT ml 0 (chks ml))).1 (rtN stA (nI (0)) (fun k => mf ((0 + 1024 * 0) + k)) 0 (tT ml 0 (chks ml))).2.1 (lN 0) (rtN stA (nI (0)) (fun k => mf ((0 + 1024 * 0) + k)) 0 (tT ml 0 (chks ml))).2.2.2.1 ((rtN stA (nI (0)) (fun k => mf ((0 + 1024 * 0) + k)) 0 (tT ml 0 (chks ml))).2.2.2.2 + (nI (8))))))), (zw, .inl (cy 0, 16, .inl (ww2))), (zo, .inl (cy 0, 16, .inl (oo2))), (zl, .inl (cy 0, 96, .inl (pp2))), (zq, .inl (cy 0, 16, .inl (fun k => nI (orN k)))), (za, .inl (cy 0, 8, .inl (stA))), (zs, .inl (cy 0, 8, .inl (upd ms ri (nI (32))))), (zr, .inl (cy 0, 1600, .inl (apG mr (200 * ri) (oby (mixV (rtN stA (nI (0)) (fun k => mf ((0 + 1024 * 0) + k)) 0 (tT ml 0 (chks ml))).1 (rtN stA (nI (0)) (fun k => mf ((0 + 1024 * 0) + k)) 0 (tT ml 0 (chks ml))).2.1 (lN 0) (rtN stA (nI (0)) (fun k => mf ((0 + 1024 * 0) + k)) 0 (tT ml 0 (chks ml))).2.2.2.1 ((rtN stA (nI (0)) (fun k => mf ((0 + 1024 * 0) + k)) 0 (tT ml 0 (chks ml))).2.2.2.2 + (nI (8))))) 32))), (zf, .inl (cy 0, 20000, .inl (mf)))]) (va_A [(z0, .inr (5, [.ref zr, .ref zs, .ref zt, .ref zc, .ref zm, .ref zk, .ref zh, .ref zd, .ref zf, .int (nI (ml)), .ref zp, .int (nI (mps)), .ref za, .ref ze, .int (be), .ref zn, .ref zb, .ref zv, .ref zw, .ref zo, .ref zq, .long (nu), .int (bq), .int (fg), .ref zl, .int (nI (hg)), .int (nI (cz)), .ref zi])), (ze, .inl (cy 0, 8, .inl (ke))), (zn, .inl (cy 0, 8, .inl (cn))), (zb, .inl (cy 0, 16, .inl (bb))), (zv, .inl (cy 0, 16, .inl (vv))), (zw, .inl (cy 0, 16, .inl (ww))), (zo, .inl (cy 0, 16, .inl (oo))), (zl, .inl (cy 0, 96, .inl (pp))), (zq, .inl (cy 0, 16, .inl (fun k => nI (orN k)))), (za, .inl (cy 0, 8, .inl (stA))), (zs, .inl (cy 0, 8, .inl (ms))), (zr, .inl (cy 0, 1600, .inl (mr))), (zf, .inl (cy 0, 20000, .inl (mf)))] sz)) 0 0 (va_A [(z0, .inr (5, [.ref zr, .ref zs, .ref zt, .ref zc, .ref zm, .ref zk, .ref zh, .ref zd, .ref zf, .int (nI (ml)), .ref zp, .int (nI (mps)), .ref za, .ref ze, .int (be), .ref zn, .ref zb, .ref zv, .ref zw, .ref zo, .ref zq, .long (nu), .int (bq), .int (fg), .ref zl, .int (nI (hg)), .int (nI (cz)), .ref zi])), (ze, .inl (cy 0, 8, .inl (ke))), (zn, .inl (cy 0, 8, .inl (cn))), (zb, .inl (cy 0, 16, .inl (bb))), (zv, .inl (cy 0, 16, .inl (vv))), (zw, .inl (cy 0, 16, .inl (ww))), (zo, .inl (cy 0, 16, .inl (oo))), (zl, .inl (cy 0, 96, .inl (pp))), (zq, .inl (cy 0, 16, .inl (fun k => nI (orN k)))), (za, .inl (cy 0, 8, .inl (stA))), (zs, .inl (cy 0, 8, .inl (ms))), (zr, .inl (cy 0, 1600, .inl (mr))), (zf, .inl (cy 0, 20000, .inl (mf)))] sz) := by
  refine M_ofW (cc := cX5_root) (maxL := 3) (ret := (some .int)) (by decide) rfl (Nat.le_of_ble_eq_true rfl) ?_
  intro p e s m below meth c A ls args Q hQ S0 hr hlocks hnm hK hst hA hW hl
  have hx := S0.1; have hb := S0.2.1; have hml := S0.2.2.1; have hown := S0.2.2.2.1; have hts := S0.2.2.2.2
  have hl : lv_has ls 3 [(0, .ref z0), (1, .int (nI (ri)))] := hl
  refine lv_iload_n hx hb dX5_root_0 rfl (lv_at hl 1 rfl) ?_
  refine kSi (As := [.int (nI (ri))]) (rest := []) S0 hK hst hA hW [] (fun sz => c_X5_isRegister l D cy t ri (by omega) sz) rfl (by decide) (va_cwS 1 hts gX5_root_X5_isRegister rfl rfl rfl (by decide +kernel) ⟨Nat.le_of_ble_eq_true rfl, Nat.le_of_ble_eq_true rfl⟩) (fun _ => rfl) rfl hl.1 rfl (Nat.le_of_ble_eq_true rfl) dX5_root_1 ⟨Nat.le_of_ble_eq_true rfl, Nat.le_of_ble_eq_true rfl⟩ (fun r1 u1 H locs p1 hW => ?_)
  have hW : Wd D A s [(z0, .inr (5, [.ref zr, .ref zs, .ref zt, .ref zc, .ref zm, .ref zk, .ref zh, .ref zd, .ref zf, .int (nI (ml)), .ref zp, .int (nI (mps)), .ref za, .ref ze, .int (be), .ref zn, .ref zb, .ref zv, .ref zw, .ref zo, .ref zq, .long (nu), .int (bq), .int (fg), .ref zl, .int (nI (hg)), .int (nI (cz)), .ref zi])), (ze, .inl (cy 0, 8, .inl (ke))), (zn, .inl (cy 0, 8, .inl (cn))), (zb, .inl (cy 0, 16, .inl (bb))), (zv, .inl (cy 0, 16, .inl (vv))), (zw, .inl (cy 0, 16, .inl (ww))), (zo, .inl (cy 0, 16, .inl (oo))), (zl, .inl (cy 0, 96, .inl (pp))), (zq, .inl (cy 0, 16, .inl (fun k => nI (orN k)))), (za, .inl (cy 0, 8, .inl (stA))), (zs, .inl (cy 0, 8, .inl (ms))), (zr, .inl (cy 0, 1600, .inl (mr))), (zf, .inl (cy 0, 20000, .inl (mf)))] H locs := hW
  have q1 : r1 = nI (1) := p1
  subst q1
  refine zNe (a := 1) (tgt := 10) hx hb dX5_root_4 (by decide) (by omega) (fun h4 => ?_) (fun h4 => ?_)
  · skip
    refine lv_aload_n hx hb dX5_root_10 rfl (lv_at hl 0 rfl) ?_
    refine lv_iconst (v := (-1 : Int32)) hx hb dX5_root_11 (by decide) ?_
    refine kVv (As := [.int ((-1 : Int32))]) (rest := []) S0 hK hst hA hW [0, 1, 9] (fun sz => c_X5_useKey_s l D cy t z0 zr zs zt zc zm zk zh zd zf ml zp mps za ze be zn zb zv zw zo zq nu bq fg zl hg cz zi ke  sz) rfl (by decide) (cwV 1 hts gX5_root_X5_useKey rfl rfl rfl (by decide +kernel) ⟨Nat.le_of_ble_eq_true rfl, Nat.le_of_ble_eq_true rfl⟩) (fun _ => rfl) 0 5 rfl rfl rfl hl.1 rfl (Nat.le_of_ble_eq_true rfl) dX5_root_12 ⟨Nat.le_of_ble_eq_true rfl, Nat.le_of_ble_eq_true rfl⟩ (fun u12 H locs p12 hW => ?_)
    have hW : Wd D A s [(z0, .inr (5, [.ref zr, .ref zs, .ref zt, .ref zc, .ref zm, .ref zk, .ref zh, .ref zd, .ref zf, .int (nI (ml)), .ref zp, .int (nI (mps)), .ref za, .ref ze, .int (nI (0)), .ref zn, .ref zb, .ref zv, .ref zw, .ref zo, .ref zq, .long (nu), .int (bq), .int (fg), .ref zl, .int (nI (hg)), .int (nI (cz)), .ref zi])), (ze, .inl (cy 0, 8, .inl (stA))), (zn, .inl (cy 0, 8, .inl (cn))), (zb, .inl (cy 0, 16, .inl (bb))), (zv, .inl (cy 0, 16, .inl (vv))), (zw, .inl (cy 0, 16, .inl (ww))), (zo, .inl (cy 0, 16, .inl (oo))), (zl, .inl (cy 0, 96, .inl (pp))), (zq, .inl (cy 0, 16, .inl (fun k => nI (orN k)))), (za, .inl (cy 0, 8, .inl (stA))), (zs, .inl (cy 0, 8, .inl (ms))), (zr, .inl (cy 0, 1600, .inl (mr))), (zf, .inl (cy 0, 20000, .inl (mf)))] H locs := hW
    refine lv_aload_n hx hb dX5_root_15 rfl (lv_at hl 0 rfl) ?_
    refine lv_aload_n hx hb dX5_root_16 rfl (lv_at hl 0 rfl) ?_
    refine va_get (D := D) (ci := 5) (v := .ref zf) (C := RX5) (T := TX5) (N := 28) hx hb hts i_X5_root_X5 hown hK hW.1 0 rfl rfl 8 (by decide) (hts (.fieldLink RX5 35 "TreeHashesModel" "file" "[I") f_X5_root_0) (fun _ h9 => h9) rfl dX5_root_17 ?_
    refine lv_iconst (v := nI (0)) hx hb dX5_root_20 (by decide) ?_
    refine lv_aload_n hx hb dX5_root_21 rfl (lv_at hl 0 rfl) ?_
    refine va_get (D := D) (ci := 5) (v := .int (nI (ml))) (C := RX5) (T := TX5) (N := 28) hx hb hts i_X5_root_X5 hown hK hW.1 0 rfl rfl 9 (by decide) (hts (.fieldLink RX5 178 "TreeHashesModel" "length" "I") f_X5_root_2) (fun _ h9 => h9) rfl dX5_root_22 ?_
    refine lv_iconst (v := nI (0)) hx hb dX5_root_25 (by decide) ?_
    refine lv_aload_n hx hb dX5_root_26 rfl (lv_at hl 0 rfl) ?_
    refine va_get (D := D) (ci := 5) (v := .int (nI (ml))) (C := RX5) (T := TX5) (N := 28) hx hb hts i_X5_root_X5 hown hK hW.1 0 rfl rfl 9 (by decide) (hts (.fieldLink RX5 178 "TreeHashesModel" "length" "I") f_X5_root_2) (fun _ h9 => h9) rfl dX5_root_27 ?_
    refine kSi (As := [.int (nI (ml))]) (rest := [.int (nI (0)), .int (nI (ml)), .int (nI (0)), .ref zf, .ref z0]) S0 hK hst hA hW [] (fun sz => c_X5_chunksOf l D cy t ml (by omega) sz) rfl (by decide) (va_cwS 1 hts gX5_root_X5_chunksOf rfl rfl rfl (by decide +kernel) ⟨Nat.le_of_ble_eq_true rfl, Nat.le_of_ble_eq_true rfl⟩) (fun _ => rfl) rfl hl.1 rfl (Nat.le_of_ble_eq_true rfl) dX5_root_30 ⟨Nat.le_of_ble_eq_true rfl, Nat.le_of_ble_eq_true rfl⟩ (fun r30 u30 H locs p30 hW => ?_)
    have hW : Wd D A s [(z0, .inr (5, [.ref zr, .ref zs, .ref zt, .ref zc, .ref zm, .ref zk, .ref zh, .ref zd, .ref zf, .int (nI (ml)), .ref zp, .int (nI (mps)), .ref za, .ref ze, .int (nI (0)), .ref zn, .ref zb, .ref zv, .ref zw, .ref zo, .ref zq, .long (nu), .int (bq), .int (fg), .ref zl, .int (nI (hg)), .int (nI (cz)), .ref zi])), (ze, .inl (cy 0, 8, .inl (stA))), (zn, .inl (cy 0, 8, .inl (cn))), (zb, .inl (cy 0, 16, .inl (bb))), (zv, .inl (cy 0, 16, .inl (vv))), (zw, .inl (cy 0, 16, .inl (ww))), (zo, .inl (cy 0, 16, .inl (oo))), (zl, .inl (cy 0, 96, .inl (pp))), (zq, .inl (cy 0, 16, .inl (fun k => nI (orN k)))), (za, .inl (cy 0, 8, .inl (stA))), (zs, .inl (cy 0, 8, .inl (ms))), (zr, .inl (cy 0, 1600, .inl (mr))), (zf, .inl (cy 0, 20000, .inl (mf)))] H locs := hW
    have q30 : r30 = nI (chks ml) := p30
    subst q30
    refine kVv (As := [.ref zf, .int (nI (0)), .int (nI (ml)), .int (nI (0)), .int (nI (chks ml))]) (rest := []) S0 hK hst hA hW [0, 1, 2, 3, 4, 5, 6, 7, 8, 9, 12] (fun sz => c_X5_tree l D cy t z0 zr zs zt zc zm zk zh zd zf ml zp mps za ze (nI (0)) zn zb zv zw zo zq nu bq fg zl hg cz zi stA cn bb vv ww oo pp zf 20000 mf 0 ml 0 (chks ml) (by omega) (by omega) (by omega) (chks_pos ml) (Nat.le_refl _) sz) rfl (by decide) (cwV 5 hts gX5_root_X5_tree rfl rfl rfl (by decide +kernel) ⟨Nat.le_of_ble_eq_true rfl, Nat.le_of_ble_eq_true rfl⟩) (fun ⟨_, _, _, _⟩ => rfl) 0 5 rfl rfl rfl hl.1 rfl (Nat.le_of_ble_eq_true rfl) dX5_root_33 ⟨Nat.le_of_ble_eq_true rfl, Nat.le_of_ble_eq_true rfl⟩ (fun u33 H locs p33 hW => ?_)
    obtain ⟨vv2_33, ww2_33, oo2_33, pp2_33⟩ := u33
    have hW : Wd D A s [(z0, .inr (5, [.ref zr, .ref zs, .ref zt, .ref zc, .ref zm, .ref zk, .ref zh, .ref zd, .ref zf, .int (nI (ml)), .ref zp, .int (nI (mps)), .ref za, .ref ze, .int ((nI (0))), .ref zn, .ref zb, .ref zv, .ref zw, .ref zo, .ref zq, .long ((rtN stA (nI (0)) (fun k => mf ((0 + 1024 * 0) + k)) 0 (tT ml 0 (chks ml))).2.2.1), .int ((rtN stA (nI (0)) (fun k => mf ((0 + 1024 * 0) + k)) 0 (tT ml 0 (chks ml))).2.2.2.1), .int ((rtN stA (nI (0)) (fun k => mf ((0 + 1024 * 0) + k)) 0 (tT ml 0 (chks ml))).2.2.2.2), .ref zl, .int (nI (0)), .int (nI ((chks ml) - 1 - 0)), .ref zi])), (ze, .inl (cy 0, 8, .inl (stA))), (zn, .inl (cy 0, 8, .inl ((rtN stA (nI (0)) (fun k => mf ((0 + 1024 * 0) + k)) 0 (tT ml 0 (chks ml))).1))), (zb, .inl (cy 0, 16, .inl ((rtN stA (nI (0)) (fun k => mf ((0 + 1024 * 0) + k)) 0 (tT ml 0 (chks ml))).2.1))), (zv, .inl (cy 0, 16, .inl (vv2_33))), (zw, .inl (cy 0, 16, .inl (ww2_33))), (zo, .inl (cy 0, 16, .inl (oo2_33))), (zl, .inl (cy 0, 96, .inl (pp2_33))), (zq, .inl (cy 0, 16, .inl (fun k => nI (orN k)))), (za, .inl (cy 0, 8, .inl (stA))), (zs, .inl (cy 0, 8, .inl (ms))), (zr, .inl (cy 0, 1600, .inl (mr))), (zf, .inl (cy 0, 20000, .inl (mf)))] H locs := hW
    refine lv_aload_n hx hb dX5_root_36 rfl (lv_at hl 0 rfl) ?_
    refine lv_lconst (v := lN 0) hx hb dX5_root_37 (by decide) ?_
    refine lv_aload_n hx hb dX5_root_38 rfl (lv_at hl 0 rfl) ?_
    refine va_get (D := D) (ci := 5) (v := .int ((rtN stA (nI (0)) (fun k => mf ((0 + 1024 * 0) + k)) 0 (tT ml 0 (chks ml))).2.2.2.2)) (C := RX5) (T := TX5) (N := 28) hx hb hts i_X5_root_X5 hown hK hW.1 0 rfl rfl 23 (by decide) (hts (.fieldLink RX5 104 "TreeHashesModel" "flags" "I") f_X5_root_3) (fun _ h9 => h9) rfl dX5_root_39 ?_
    refine lv_bipush (v := nI (8)) hx hb dX5_root_42 (by decide) ?_
    refine lv_iadd hx hb dX5_root_44 ?_
    refine kVv (As := [.long (lN 0), .int (((rtN stA (nI (0)) (fun k => mf ((0 + 1024 * 0) + k)) 0 (tT ml 0 (chks ml))).2.2.2.2) + (nI (8)))]) (rest := []) S0 hK hst hA hW [0, 2, 3, 4, 5, 6, 8, 9] (fun sz => c_X5_mix l D cy t z0 zr zs zt zc zm zk zh zd zf ml zp mps za ze (nI (0)) zn zb zv zw zo zq ((rtN stA (nI (0)) (fun k => mf ((0 + 1024 * 0) + k)) 0 (tT ml 0 (chks ml))).2.2.1) ((rtN stA (nI (0)) (fun k => mf ((0 + 1024 * 0) + k)) 0 (tT ml 0 (chks ml))).2.2.2.1) ((rtN stA (nI (0)) (fun k => mf ((0 + 1024 * 0) + k)) 0 (tT ml 0 (chks ml))).2.2.2.2) zl 0 ((chks ml) - 1 - 0) zi ((rtN stA (nI (0)) (fun k => mf ((0 + 1024 * 0) + k)) 0 (tT ml 0 (chks ml))).1) ((rtN stA (nI (0)) (fun k => mf ((0 + 1024 * 0) + k)) 0 (tT ml 0 (chks ml))).2.1) vv2_33 ww2_33 oo2_33 (lN 0) (((rtN stA (nI (0)) (fun k => mf ((0 + 1024 * 0) + k)) 0 (tT ml 0 (chks ml))).2.2.2.2) + (nI (8)))  sz) rfl (by decide) (cwV 2 hts gX5_root_X5_mix rfl rfl rfl (by decide +kernel) ⟨Nat.le_of_ble_eq_true rfl, Nat.le_of_ble_eq_true rfl⟩) (fun ⟨_, _⟩ => rfl) 0 5 rfl rfl rfl hl.1 rfl (Nat.le_of_ble_eq_true rfl) dX5_root_45 ⟨Nat.le_of_ble_eq_true rfl, Nat.le_of_ble_eq_true rfl⟩ (fun u45 H locs p45 hW => ?_)
    obtain ⟨ww2_45, oo2_45⟩ := u45
    have hW : Wd D A s [(z0, .inr (5, [.ref zr, .ref zs, .ref zt, .ref zc, .ref zm, .ref zk, .ref zh, .ref zd, .ref zf, .int (nI (ml)), .ref zp, .int (nI (mps)), .ref za, .ref ze, .int ((nI (0))), .ref zn, .ref zb, .ref zv, .ref zw, .ref zo, .ref zq, .long (((rtN stA (nI (0)) (fun k => mf ((0 + 1024 * 0) + k)) 0 (tT ml 0 (chks ml))).2.2.1)), .int (((rtN stA (nI (0)) (fun k => mf ((0 + 1024 * 0) + k)) 0 (tT ml 0 (chks ml))).2.2.2.1)), .int (((rtN stA (nI (0)) (fun k => mf ((0 + 1024 * 0) + k)) 0 (tT ml 0 (chks ml))).2.2.2.2)), .ref zl, .int (nI (0)), .int (nI (((chks ml) - 1 - 0))), .ref zi])), (ze, .inl (cy 0, 8, .inl (stA))), (zn, .inl (cy 0, 8, .inl (((rtN stA (nI (0)) (fun k => mf ((0 + 1024 * 0) + k)) 0 (tT ml 0 (chks ml))).1)))), (zb, .inl (cy 0, 16, .inl (((rtN stA (nI (0)) (fun k => mf ((0 + 1024 * 0) + k)) 0 (tT ml 0 (chks ml))).2.1)))), (zv, .inl (cy 0, 16, .inl (mixV ((rtN stA (nI (0)) (fun k => mf ((0 + 1024 * 0) + k)) 0 (tT ml 0 (chks ml))).1) ((rtN stA (nI (0)) (fun k => mf ((0 + 1024 * 0) + k)) 0 (tT ml 0 (chks ml))).2.1) (lN 0) ((rtN stA (nI (0)) (fun k => mf ((0 + 1024 * 0) + k)) 0 (tT ml 0 (chks ml))).2.2.2.1) (((rtN stA (nI (0)) (fun k => mf ((0 + 1024 * 0) + k)) 0 (tT ml 0 (chks ml))).2.2.2.2) + (nI (8)))))), (zw, .inl (cy 0, 16, .inl (ww2_45))), (zo, .inl (cy 0, 16, .inl (oo2_45))), (zl, .inl (cy 0, 96, .inl (pp2_33))), (zq, .inl (cy 0, 16, .inl (fun k => nI (orN k)))), (za, .inl (cy 0, 8, .inl (stA))), (zs, .inl (cy 0, 8, .inl (ms))), (zr, .inl (cy 0, 1600, .inl (mr))), (zf, .inl (cy 0, 20000, .inl (mf)))] H locs := hW
    refine lv_iconst (v := nI (0)) hx hb dX5_root_48 (by decide) ?_
    refine lv_istore_n (lv' := [(2, .int (nI (0))), (0, .ref z0), (1, .int (nI (ri)))]) hx hb dX5_root_49 rfl hl (by decide) rfl (fun ls hl => ?_)
    have loop50 : ∀ (nF : Nat) (i : Nat), 32 - i < nF → (i ≤ 32) → ∀ (H : Heap) (locs : List Loc), Wd D A s [(z0, .inr (5, [.ref zr, .ref zs, .ref zt, .ref zc, .ref zm, .ref zk, .ref zh, .ref zd, .ref zf, .int (nI (ml)), .ref zp, .int (nI (mps)), .ref za, .ref ze, .int ((nI (0))), .ref zn, .ref zb, .ref zv, .ref zw, .ref zo, .ref zq, .long (((rtN stA (nI (0)) (fun k => mf ((0 + 1024 * 0) + k)) 0 (tT ml 0 (chks ml))).2.2.1)), .int (((rtN stA (nI (0)) (fun k => mf ((0 + 1024 * 0) + k)) 0 (tT ml 0 (chks ml))).2.2.2.1)), .int (((rtN stA (nI (0)) (fun k => mf ((0 + 1024 * 0) + k)) 0 (tT ml 0 (chks ml))).2.2.2.2)), .ref zl, .int (nI (0)), .int (nI (((chks ml) - 1 - 0))), .ref zi])), (ze, .inl (cy 0, 8, .inl (stA))), (zn, .inl (cy 0, 8, .inl (((rtN stA (nI (0)) (fun k => mf ((0 + 1024 * 0) + k)) 0 (tT ml 0 (chks ml))).1)))), (zb, .inl (cy 0, 16, .inl (((rtN stA (nI (0)) (fun k => mf ((0 + 1024 * 0) + k)) 0 (tT ml 0 (chks ml))).2.1)))), (zv, .inl (cy 0, 16, .inl (mixV ((rtN stA (nI (0)) (fun k => mf ((0 + 1024 * 0) + k)) 0 (tT ml 0 (chks ml))).1) ((rtN stA (nI (0)) (fun k => mf ((0 + 1024 * 0) + k)) 0 (tT ml 0 (chks ml))).2.1) (lN 0) ((rtN stA (nI (0)) (fun k => mf ((0 + 1024 * 0) + k)) 0 (tT ml 0 (chks ml))).2.2.2.1) (((rtN stA (nI (0)) (fun k => mf ((0 + 1024 * 0) + k)) 0 (tT ml 0 (chks ml))).2.2.2.2) + (nI (8)))))), (zw, .inl (cy 0, 16, .inl (ww2_45))), (zo, .inl (cy 0, 16, .inl (oo2_45))), (zl, .inl (cy 0, 96, .inl (pp2_33))), (zq, .inl (cy 0, 16, .inl (fun k => nI (orN k)))), (za, .inl (cy 0, 8, .inl (stA))), (zs, .inl (cy 0, 8, .inl (ms))), (zr, .inl (cy 0, 1600, .inl (apG mr (200 * ri) (oby (mixV (rtN stA (nI (0)) (fun k => mf ((0 + 1024 * 0) + k)) 0 (tT ml 0 (chks ml))).1 (rtN stA (nI (0)) (fun k => mf ((0 + 1024 * 0) + k)) 0 (tT ml 0 (chks ml))).2.1 (lN 0) (rtN stA (nI (0)) (fun k => mf ((0 + 1024 * 0) + k)) 0 (tT ml 0 (chks ml))).2.2.2.1 ((rtN stA (nI (0)) (fun k => mf ((0 + 1024 * 0) + k)) 0 (tT ml 0 (chks ml))).2.2.2.2 + (nI (8))))) i))), (zf, .inl (cy 0, 20000, .inl (mf)))] H locs → ∀ ls : Array Slot, lv_has ls 3 [(0, .ref z0), (1, .int (nI (ri))), (2, .int (nI (i)))] → W p l e ({ frames := 6, cells := 0, slots := 0, locals := 146 }) s m args below meth c H locs 0 0 Q (F0 m 50 ls []) := by
      intro nF
      induction nF with
      | zero => intro i hf; exact absurd hf (Nat.not_lt_zero _)
      | succ nF ih50 =>
        intro i hf hi H locs hW ls hl
        refine lv_iload_n hx hb dX5_root_50 rfl (lv_at hl 2 rfl) ?_
        refine lv_bipush (v := nI (32)) hx hb dX5_root_51 (by decide) ?_
        refine iGe (a := i) (b := 32) (tgt := 93) hx hb dX5_root_53 (by decide) (by omega) (by omega) (fun h53 => ?_) (fun h53 => ?_)
        · skip
          refine lv_aload_n hx hb dX5_root_93 rfl (lv_at hl 0 rfl) ?_
          refine va_get (D := D) (ci := 5) (v := .ref zs) (C := RX5) (T := TX5) (N := 28) hx hb hts i_X5_root_X5 hown hK hW.1 0 rfl rfl 1 (by decide) (hts (.fieldLink RX5 13 "TreeHashesModel" "sizes" "[I") f_X5_root_4) (fun _ h9 => h9) rfl dX5_root_94 ?_
          refine lv_iload_n hx hb dX5_root_97 rfl (lv_at hl 1 rfl) ?_
          refine lv_bipush (v := nI (32)) hx hb dX5_root_98 (by decide) ?_
          refine wI hx hb hK hW 10 rfl (k := ri) (by omega) (by omega) dX5_root_100 (fun H locs hW => ?_)
          have hW : Wd D A s [(z0, .inr (5, [.ref zr, .ref zs, .ref zt, .ref zc, .ref zm, .ref zk, .ref zh, .ref zd, .ref zf, .int (nI (ml)), .ref zp, .int (nI (mps)), .ref za, .ref ze, .int ((nI (0))), .ref zn, .ref zb, .ref zv, .ref zw, .ref zo, .ref zq, .long (((rtN stA (nI (0)) (fun k => mf ((0 + 1024 * 0) + k)) 0 (tT ml 0 (chks ml))).2.2.1)), .int (((rtN stA (nI (0)) (fun k => mf ((0 + 1024 * 0) + k)) 0 (tT ml 0 (chks ml))).2.2.2.1)), .int (((rtN stA (nI (0)) (fun k => mf ((0 + 1024 * 0) + k)) 0 (tT ml 0 (chks ml))).2.2.2.2)), .ref zl, .int (nI (0)), .int (nI (((chks ml) - 1 - 0))), .ref zi])), (ze, .inl (cy 0, 8, .inl (stA))), (zn, .inl (cy 0, 8, .inl (((rtN stA (nI (0)) (fun k => mf ((0 + 1024 * 0) + k)) 0 (tT ml 0 (chks ml))).1)))), (zb, .inl (cy 0, 16, .inl (((rtN stA (nI (0)) (fun k => mf ((0 + 1024 * 0) + k)) 0 (tT ml 0 (chks ml))).2.1)))), (zv, .inl (cy 0, 16, .inl (mixV ((rtN stA (nI (0)) (fun k => mf ((0 + 1024 * 0) + k)) 0 (tT ml 0 (chks ml))).1) ((rtN stA (nI (0)) (fun k => mf ((0 + 1024 * 0) + k)) 0 (tT ml 0 (chks ml))).2.1) (lN 0) ((rtN stA (nI (0)) (fun k => mf ((0 + 1024 * 0) + k)) 0 (tT ml 0 (chks ml))).2.2.2.1) (((rtN stA (nI (0)) (fun k => mf ((0 + 1024 * 0) + k)) 0 (tT ml 0 (chks ml))).2.2.2.2) + (nI (8)))))), (zw, .inl (cy 0, 16, .inl (ww2_45))), (zo, .inl (cy 0, 16, .inl (oo2_45))), (zl, .inl (cy 0, 96, .inl (pp2_33))), (zq, .inl (cy 0, 16, .inl (fun k => nI (orN k)))), (za, .inl (cy 0, 8, .inl (stA))), (zs, .inl (cy 0, 8, .inl (upd ms ri (nI (32))))), (zr, .inl (cy 0, 1600, .inl (apG mr (200 * ri) (oby (mixV (rtN stA (nI (0)) (fun k => mf ((0 + 1024 * 0) + k)) 0 (tT ml 0 (chks ml))).1 (rtN stA (nI (0)) (fun k => mf ((0 + 1024 * 0) + k)) 0 (tT ml 0 (chks ml))).2.1 (lN 0) (rtN stA (nI (0)) (fun k => mf ((0 + 1024 * 0) + k)) 0 (tT ml 0 (chks ml))).2.2.2.1 ((rtN stA (nI (0)) (fun k => mf ((0 + 1024 * 0) + k)) 0 (tT ml 0 (chks ml))).2.2.2.2 + (nI (8))))) i))), (zf, .inl (cy 0, 20000, .inl (mf)))] H locs := hW
          refine lv_aload_n hx hb dX5_root_101 rfl (lv_at hl 0 rfl) ?_
          refine va_get (D := D) (ci := 5) (v := .int (nI (ml))) (C := RX5) (T := TX5) (N := 28) hx hb hts i_X5_root_X5 hown hK hW.1 0 rfl rfl 9 (by decide) (hts (.fieldLink RX5 178 "TreeHashesModel" "length" "I") f_X5_root_2) (fun _ h9 => h9) rfl dX5_root_102 ?_
          have e9 : i = 32 := by omega
          rw [e9] at hW
          exact eI hQ hx hb hr hlocks hK hW (ww2_45, oo2_45, pp2_33) (rfl) (rfl) dX5_root_105
        · skip
          refine lv_aload_n hx hb dX5_root_56 rfl (lv_at hl 0 rfl) ?_
          refine va_get (D := D) (ci := 5) (v := .ref zr) (C := RX5) (T := TX5) (N := 28) hx hb hts i_X5_root_X5 hown hK hW.1 0 rfl rfl 0 (by decide) (hts (.fieldLink RX5 7 "TreeHashesModel" "registers" "[I") f_X5_root_5) (fun _ h9 => h9) rfl dX5_root_57 ?_
          refine lv_sipush (v := nI (200)) hx hb dX5_root_60 (by decide) ?_
          refine lv_iload_n hx hb dX5_root_63 rfl (lv_at hl 1 rfl) ?_
          refine lv_imul hx hb dX5_root_64 ?_
          refine tI (pk_mul _ _) ?_
          refine lv_iload_n hx hb dX5_root_65 rfl (lv_at hl 2 rfl) ?_
          refine lv_iadd hx hb dX5_root_66 ?_
          refine tI (nI_add _ _) ?_
          refine lv_aload_n hx hb dX5_root_67 rfl (lv_at hl 0 rfl) ?_
          refine va_get (D := D) (ci := 5) (v := .ref zv) (C := RX5) (T := TX5) (N := 28) hx hb hts i_X5_root_X5 hown hK hW.1 0 rfl rfl 17 (by decide) (hts (.fieldLink RX5 53 "TreeHashesModel" "v" "[I") f_X5_root_6) (fun _ h9 => h9) rfl dX5_root_68 ?_
          refine lv_iload_n hx hb dX5_root_71 rfl (lv_at hl 2 rfl) ?_
          refine lv_iconst (v := nI (4)) hx hb dX5_root_72 (by decide) ?_
          refine lv_idiv hx hb dX5_root_73 (by decide) ?_
          refine tI (pk_div (by omega) (by omega) (by omega)) ?_
          refine rI hx hb hK hW 4 rfl (k := i / 4) (by omega) (by omega) dX5_root_74 ?_
          refine lv_bipush (v := nI (8)) hx hb dX5_root_75 (by decide) ?_
          refine lv_iload_n hx hb dX5_root_77 rfl (lv_at hl 2 rfl) ?_
          refine lv_iconst (v := nI (4)) hx hb dX5_root_78 (by decide) ?_
          refine lv_irem hx hb dX5_root_79 (by decide) ?_
          refine tI (pk_rem (by omega) (by omega) (by omega)) ?_
          refine lv_imul hx hb dX5_root_80 ?_
          refine tI (pk_mul _ _) ?_
          refine lv_ishr hx hb dX5_root_81 ?_
          refine lv_sipush (v := nI (255)) hx hb dX5_root_82 (by decide) ?_
          refine lv_iand hx hb dX5_root_85 ?_
          refine tI (x' := oby (mixV (rtN stA (nI (0)) (fun k => mf ((0 + 1024 * 0) + k)) 0 (tT ml 0 (chks ml))).1 (rtN stA (nI (0)) (fun k => mf ((0 + 1024 * 0) + k)) 0 (tT ml 0 (chks ml))).2.1 (lN 0) (rtN stA (nI (0)) (fun k => mf ((0 + 1024 * 0) + k)) 0 (tT ml 0 (chks ml))).2.2.2.1 ((rtN stA (nI (0)) (fun k => mf ((0 + 1024 * 0) + k)) 0 (tT ml 0 (chks ml))).2.2.2.2 + (nI (8)))) i) (mby_oby _ (by omega)) ?_
          refine wI hx hb hK hW 11 rfl (k := (200 * ri) + i) (by omega) (by omega) dX5_root_86 (fun H locs hW => ?_)
          have hW : Wd D A s [(z0, .inr (5, [.ref zr, .ref zs, .ref zt, .ref zc, .ref zm, .ref zk, .ref zh, .ref zd, .ref zf, .int (nI (ml)), .ref zp, .int (nI (mps)), .ref za, .ref ze, .int ((nI (0))), .ref zn, .ref zb, .ref zv, .ref zw, .ref zo, .ref zq, .long (((rtN stA (nI (0)) (fun k => mf ((0 + 1024 * 0) + k)) 0 (tT ml 0 (chks ml))).2.2.1)), .int (((rtN stA (nI (0)) (fun k => mf ((0 + 1024 * 0) + k)) 0 (tT ml 0 (chks ml))).2.2.2.1)), .int (((rtN stA (nI (0)) (fun k => mf ((0 + 1024 * 0) + k)) 0 (tT ml 0 (chks ml))).2.2.2.2)), .ref zl, .int (nI (0)), .int (nI (((chks ml) - 1 - 0))), .ref zi])), (ze, .inl (cy 0, 8, .inl (stA))), (zn, .inl (cy 0, 8, .inl (((rtN stA (nI (0)) (fun k => mf ((0 + 1024 * 0) + k)) 0 (tT ml 0 (chks ml))).1)))), (zb, .inl (cy 0, 16, .inl (((rtN stA (nI (0)) (fun k => mf ((0 + 1024 * 0) + k)) 0 (tT ml 0 (chks ml))).2.1)))), (zv, .inl (cy 0, 16, .inl (mixV ((rtN stA (nI (0)) (fun k => mf ((0 + 1024 * 0) + k)) 0 (tT ml 0 (chks ml))).1) ((rtN stA (nI (0)) (fun k => mf ((0 + 1024 * 0) + k)) 0 (tT ml 0 (chks ml))).2.1) (lN 0) ((rtN stA (nI (0)) (fun k => mf ((0 + 1024 * 0) + k)) 0 (tT ml 0 (chks ml))).2.2.2.1) (((rtN stA (nI (0)) (fun k => mf ((0 + 1024 * 0) + k)) 0 (tT ml 0 (chks ml))).2.2.2.2) + (nI (8)))))), (zw, .inl (cy 0, 16, .inl (ww2_45))), (zo, .inl (cy 0, 16, .inl (oo2_45))), (zl, .inl (cy 0, 96, .inl (pp2_33))), (zq, .inl (cy 0, 16, .inl (fun k => nI (orN k)))), (za, .inl (cy 0, 8, .inl (stA))), (zs, .inl (cy 0, 8, .inl (ms))), (zr, .inl (cy 0, 1600, .inl (upd (apG mr (200 * ri) (oby (mixV (rtN stA (nI (0)) (fun k => mf ((0 + 1024 * 0) + k)) 0 (tT ml 0 (chks ml))).1 (rtN stA (nI (0)) (fun k => mf ((0 + 1024 * 0) + k)) 0 (tT ml 0 (chks ml))).2.1 (lN 0) (rtN stA (nI (0)) (fun k => mf ((0 + 1024 * 0) + k)) 0 (tT ml 0 (chks ml))).2.2.2.1 ((rtN stA (nI (0)) (fun k => mf ((0 + 1024 * 0) + k)) 0 (tT ml 0 (chks ml))).2.2.2.2 + (nI (8))))) i) ((200 * ri) + i) (oby (mixV (rtN stA (nI (0)) (fun k => mf ((0 + 1024 * 0) + k)) 0 (tT ml 0 (chks ml))).1 (rtN stA (nI (0)) (fun k => mf ((0 + 1024 * 0) + k)) 0 (tT ml 0 (chks ml))).2.1 (lN 0) (rtN stA (nI (0)) (fun k => mf ((0 + 1024 * 0) + k)) 0 (tT ml 0 (chks ml))).2.2.2.1 ((rtN stA (nI (0)) (fun k => mf ((0 + 1024 * 0) + k)) 0 (tT ml 0 (chks ml))).2.2.2.2 + (nI (8)))) i)))), (zf, .inl (cy 0, 20000, .inl (mf)))] H locs := hW
          rw [show (upd (apG mr (200 * ri) (oby (mixV (rtN stA (nI (0)) (fun k => mf ((0 + 1024 * 0) + k)) 0 (tT ml 0 (chks ml))).1 (rtN stA (nI (0)) (fun k => mf ((0 + 1024 * 0) + k)) 0 (tT ml 0 (chks ml))).2.1 (lN 0) (rtN stA (nI (0)) (fun k => mf ((0 + 1024 * 0) + k)) 0 (tT ml 0 (chks ml))).2.2.2.1 ((rtN stA (nI (0)) (fun k => mf ((0 + 1024 * 0) + k)) 0 (tT ml 0 (chks ml))).2.2.2.2 + (nI (8))))) i) ((200 * ri) + i) (oby (mixV (rtN stA (nI (0)) (fun k => mf ((0 + 1024 * 0) + k)) 0 (tT ml 0 (chks ml))).1 (rtN stA (nI (0)) (fun k => mf ((0 + 1024 * 0) + k)) 0 (tT ml 0 (chks ml))).2.1 (lN 0) (rtN stA (nI (0)) (fun k => mf ((0 + 1024 * 0) + k)) 0 (tT ml 0 (chks ml))).2.2.2.1 ((rtN stA (nI (0)) (fun k => mf ((0 + 1024 * 0) + k)) 0 (tT ml 0 (chks ml))).2.2.2.2 + (nI (8)))) i)) = (apG mr (200 * ri) (oby (mixV (rtN stA (nI (0)) (fun k => mf ((0 + 1024 * 0) + k)) 0 (tT ml 0 (chks ml))).1 (rtN stA (nI (0)) (fun k => mf ((0 + 1024 * 0) + k)) 0 (tT ml 0 (chks ml))).2.1 (lN 0) (rtN stA (nI (0)) (fun k => mf ((0 + 1024 * 0) + k)) 0 (tT ml 0 (chks ml))).2.2.2.1 ((rtN stA (nI (0)) (fun k => mf ((0 + 1024 * 0) + k)) 0 (tT ml 0 (chks ml))).2.2.2.2 + (nI (8))))) (i + 1)) from apG_s mr (200 * ri) (oby (mixV (rtN stA (nI (0)) (fun k => mf ((0 + 1024 * 0) + k)) 0 (tT ml 0 (chks ml))).1 (rtN stA (nI (0)) (fun k => mf ((0 + 1024 * 0) + k)) 0 (tT ml 0 (chks ml))).2.1 (lN 0) (rtN stA (nI (0)) (fun k => mf ((0 + 1024 * 0) + k)) 0 (tT ml 0 (chks ml))).2.2.2.1 ((rtN stA (nI (0)) (fun k => mf ((0 + 1024 * 0) + k)) 0 (tT ml 0 (chks ml))).2.2.2.2 + (nI (8))))) i] at hW
          have hW : Wd D A s [(z0, .inr (5, [.ref zr, .ref zs, .ref zt, .ref zc, .ref zm, .ref zk, .ref zh, .ref zd, .ref zf, .int (nI (ml)), .ref zp, .int (nI (mps)), .ref za, .ref ze, .int ((nI (0))), .ref zn, .ref zb, .ref zv, .ref zw, .ref zo, .ref zq, .long (((rtN stA (nI (0)) (fun k => mf ((0 + 1024 * 0) + k)) 0 (tT ml 0 (chks ml))).2.2.1)), .int (((rtN stA (nI (0)) (fun k => mf ((0 + 1024 * 0) + k)) 0 (tT ml 0 (chks ml))).2.2.2.1)), .int (((rtN stA (nI (0)) (fun k => mf ((0 + 1024 * 0) + k)) 0 (tT ml 0 (chks ml))).2.2.2.2)), .ref zl, .int (nI (0)), .int (nI (((chks ml) - 1 - 0))), .ref zi])), (ze, .inl (cy 0, 8, .inl (stA))), (zn, .inl (cy 0, 8, .inl (((rtN stA (nI (0)) (fun k => mf ((0 + 1024 * 0) + k)) 0 (tT ml 0 (chks ml))).1)))), (zb, .inl (cy 0, 16, .inl (((rtN stA (nI (0)) (fun k => mf ((0 + 1024 * 0) + k)) 0 (tT ml 0 (chks ml))).2.1)))), (zv, .inl (cy 0, 16, .inl (mixV ((rtN stA (nI (0)) (fun k => mf ((0 + 1024 * 0) + k)) 0 (tT ml 0 (chks ml))).1) ((rtN stA (nI (0)) (fun k => mf ((0 + 1024 * 0) + k)) 0 (tT ml 0 (chks ml))).2.1) (lN 0) ((rtN stA (nI (0)) (fun k => mf ((0 + 1024 * 0) + k)) 0 (tT ml 0 (chks ml))).2.2.2.1) (((rtN stA (nI (0)) (fun k => mf ((0 + 1024 * 0) + k)) 0 (tT ml 0 (chks ml))).2.2.2.2) + (nI (8)))))), (zw, .inl (cy 0, 16, .inl (ww2_45))), (zo, .inl (cy 0, 16, .inl (oo2_45))), (zl, .inl (cy 0, 96, .inl (pp2_33))), (zq, .inl (cy 0, 16, .inl (fun k => nI (orN k)))), (za, .inl (cy 0, 8, .inl (stA))), (zs, .inl (cy 0, 8, .inl (ms))), (zr, .inl (cy 0, 1600, .inl (apG mr (200 * ri) (oby (mixV (rtN stA (nI (0)) (fun k => mf ((0 + 1024 * 0) + k)) 0 (tT ml 0 (chks ml))).1 (rtN stA (nI (0)) (fun k => mf ((0 + 1024 * 0) + k)) 0 (tT ml 0 (chks ml))).2.1 (lN 0) (rtN stA (nI (0)) (fun k => mf ((0 + 1024 * 0) + k)) 0 (tT ml 0 (chks ml))).2.2.2.1 ((rtN stA (nI (0)) (fun k => mf ((0 + 1024 * 0) + k)) 0 (tT ml 0 (chks ml))).2.2.2.2 + (nI (8))))) (i + 1)))), (zf, .inl (cy 0, 20000, .inl (mf)))] H locs := hW
          refine lv_iinc (v := nI (i + 1)) (lv' := [(2, .int (nI (i + 1))), (0, .ref z0), (1, .int (nI (ri)))]) hx hb dX5_root_87 hl (k := 2) rfl (nI_1 _) (by decide) rfl (fun ls hl => ?_)
          refine lv_goto (tgt := 50) hx hb dX5_root_90 (by decide) ?_
          exact ih50 (i + 1) (by omega) (by omega) _ _ hW _ (lv_sub hl [1, 2, 0] rfl)
    rw [← apG_0 mr (200 * ri) (oby (mixV (rtN stA (nI (0)) (fun k => mf ((0 + 1024 * 0) + k)) 0 (tT ml 0 (chks ml))).1 (rtN stA (nI (0)) (fun k => mf ((0 + 1024 * 0) + k)) 0 (tT ml 0 (chks ml))).2.1 (lN 0) (rtN stA (nI (0)) (fun k => mf ((0 + 1024 * 0) + k)) 0 (tT ml 0 (chks ml))).2.2.2.1 ((rtN stA (nI (0)) (fun k => mf ((0 + 1024 * 0) + k)) 0 (tT ml 0 (chks ml))).2.2.2.2 + (nI (8)))))] at hW
    exact loop50 _ 0 (Nat.lt_succ_self _) (by omega) _ _ hW _ (lv_sub hl [1, 2, 0] rfl)
  · skip
    exfalso; omega
