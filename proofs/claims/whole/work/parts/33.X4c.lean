set_option maxHeartbeats 4000000 in
set_option maxRecDepth 100000 in
theorem c_X4_told_b (l : Launch) (D : va_G) (cy : Nat → ClassId) (t : Nat × Nat) (x0 : Nat) (xr : Nat) (xh : Nat) (xf : Nat) (xp : Nat) (xw : Nat) (xy : Nat) (xd : Nat) (x : Int32) (y : Int32) (hbd : x < 0 ∨ nI 4 ≤ x) (sz : Nat) : Met l yX4_told wsX4_told ({ frames := 1, cells := 0, slots := 0, locals := 20 }) (PcW D cy t [(x0, .inr (4, [.ref xr, .ref xh, .ref xf, .ref xp, .ref xw, .ref xy, .ref xd]))] [.ref x0, .int (x), .int (y)] sz) (QiA D cy (fun (r : Int32) (u : Unit) => (r = (-2 : Int32))) (fun u : Unit => [(x0, .inr (4, [.ref xr, .ref xh, .ref xf, .ref xp, .ref xw, .ref xy, .ref xd]))]) (va_A [(x0, .inr (4, [.ref xr, .ref xh, .ref xf, .ref xp, .ref xw, .ref xy, .ref xd]))] sz)) 0 0 (va_A [(x0, .inr (4, [.ref xr, .ref xh, .ref xf, .ref xp, .ref xw, .ref xy, .ref xd]))] sz) := by
  refine M_ofW (cc := cX4_told) (maxL := 3) (ret := (some .int)) (by decide) rfl (Nat.le_of_ble_eq_true rfl) ?_
  intro p e s m below meth c A ls args Q hQ S0 hr hlocks hnm hK hst hA hW hl
  have hx := S0.1; have hb := S0.2.1; have hml := S0.2.2.1; have hown := S0.2.2.2.1; have hts := S0.2.2.2.2
  have hl : lv_has ls 3 [(0, .ref x0), (1, .int (x)), (2, .int (y))] := hl
  refine lv_iload_n hx hb dX4_told_0 rfl (lv_at hl 1 rfl) ?_
  refine kSi (As := [.int (x)]) (rest := []) S0 hK hst hA hW [] (fun sz => c_X4_isHasher_b l D cy t x (hbd) sz) rfl (by decide) (va_cwS 1 hts gX4_told_X4_isHasher rfl rfl rfl (by decide +kernel) ⟨Nat.le_of_ble_eq_true rfl, Nat.le_of_ble_eq_true rfl⟩) (fun _ => rfl) rfl hl.1 rfl (Nat.le_of_ble_eq_true rfl) dX4_told_1 ⟨Nat.le_of_ble_eq_true rfl, Nat.le_of_ble_eq_true rfl⟩ (fun r1 u1 H locs p1 hW => ?_)
  have hW : Wd D A s [(x0, .inr (4, [.ref xr, .ref xh, .ref xf, .ref xp, .ref xw, .ref xy, .ref xd]))] H locs := hW
  have q1 : r1 = nI (0) := p1
  subst q1
  refine zNe (a := 0) (tgt := 10) hx hb dX4_told_4 (by decide) (by omega) (fun h4 => ?_) (fun h4 => ?_)
  · skip
    exfalso; omega
  · skip
    refine lv_bipush (v := (-2 : Int32)) hx hb dX4_told_7 (by decide) ?_
    exact eI hQ hx hb hr hlocks hK hW () (rfl) (rfl) dX4_told_9

theorem f_X4_told_0_0 : Cond.fieldLink RX4 17 "TreeHashes" "hashers" "[LTreeHashes$Hasher;" ∈ wsX4_told := by decide +kernel
theorem i_X4_told_0_X4 : ∀ w ∈ wsX40, w ∈ wsX4_told := by decide +kernel
theorem i_X4_told_0_X1 : ∀ w ∈ wsX10, w ∈ wsX4_told := by decide +kernel
set_option maxHeartbeats 4000000 in
set_option maxRecDepth 100000 in
theorem c_X4_told_0 (l : Launch) (D : va_G) (cy : Nat → ClassId) (t : Nat × Nat) (x0 : Nat) (xr : Nat) (xh : Nat) (xf : Nat) (xp : Nat) (xw : Nat) (xy : Nat) (xd : Nat) (hh : Nat → Option Nat) (hj : Nat) (m0 : Nat) (h0 : Nat) (qk : Nat) (qs : Nat) (qc : Nat) (qb : Nat) (md : Int32) (bs : Int32) (fc : Nat) (tk : Nat) (cl : Nat) (dp : Nat) (bk : Nat) (ib : Nat) (kf : Nat → Int32) (sf : Nat → Int32) (cf : Nat → Int32) (bf : Nat → Int32) (hhj : hh hj = some h0) (hj4 : hj < 4) (sz : Nat) : Met l yX4_told wsX4_told ({ frames := 1, cells := 0, slots := 0, locals := 20 }) (PcW D cy t [(x0, .inr (4, [.ref xr, .ref xh, .ref xf, .ref xp, .ref xw, .ref xy, .ref xd])), (xh, .inl (cy 4, 4, .inr (.inr (.inr (.inr (hh)))))), (h0, .inr (1, [.ref m0, .ref qk, .ref qs, .ref qc, .ref qb, .int (md), .int (bs), .int (nI (fc)), .int (nI (tk)), .int (nI (cl)), .int (nI (dp)), .int (nI (bk)), .int (nI (ib))])), (qk, .inl (cy 0, 8, .inl (kf))), (qs, .inl (cy 0, 40, .inl (sf))), (qc, .inl (cy 0, 8, .inl (cf))), (qb, .inl (cy 0, 16, .inl (bf)))] [.ref x0, .int (nI (hj)), .int (nI (0))] sz) (QiA D cy (fun (r : Int32) (u : Unit) => (r = md)) (fun u : Unit => [(x0, .inr (4, [.ref xr, .ref xh, .ref xf, .ref xp, .ref xw, .ref xy, .ref xd])), (xh, .inl (cy 4, 4, .inr (.inr (.inr (.inr (hh)))))), (h0, .inr (1, [.ref m0, .ref qk, .ref qs, .ref qc, .ref qb, .int (md), .int (bs), .int (nI (fc)), .int (nI (tk)), .int (nI (cl)), .int (nI (dp)), .int (nI (bk)), .int (nI (ib))])), (qk, .inl (cy 0, 8, .inl (kf))), (qs, .inl (cy 0, 40, .inl (sf))), (qc, .inl (cy 0, 8, .inl (cf))), (qb, .inl (cy 0, 16, .inl (bf)))]) (va_A [(x0, .inr (4, [.ref xr, .ref xh, .ref xf, .ref xp, .ref xw, .ref xy, .ref xd])), (xh, .inl (cy 4, 4, .inr (.inr (.inr (.inr (hh)))))), (h0, .inr (1, [.ref m0, .ref qk, .ref qs, .ref qc, .ref qb, .int (md), .int (bs), .int (nI (fc)), .int (nI (tk)), .int (nI (cl)), .int (nI (dp)), .int (nI (bk)), .int (nI (ib))])), (qk, .inl (cy 0, 8, .inl (kf))), (qs, .inl (cy 0, 40, .inl (sf))), (qc, .inl (cy 0, 8, .inl (cf))), (qb, .inl (cy 0, 16, .inl (bf)))] sz)) 0 0 (va_A [(x0, .inr (4, [.ref xr, .ref xh, .ref xf, .ref xp, .ref xw, .ref xy, .ref xd])), (xh, .inl (cy 4, 4, .inr (.inr (.inr (.inr (hh)))))), (h0, .inr (1, [.ref m0, .ref qk, .ref qs, .ref qc, .ref qb, .int (md), .int (bs), .int (nI (fc)), .int (nI (tk)), .int (nI (cl)), .int (nI (dp)), .int (nI (bk)), .int (nI (ib))])), (qk, .inl (cy 0, 8, .inl (kf))), (qs, .inl (cy 0, 40, .inl (sf))), (qc, .inl (cy 0, 8, .inl (cf))), (qb, .inl (cy 0, 16, .inl (bf)))] sz) := by
  refine M_ofW (cc := cX4_told) (maxL := 3) (ret := (some .int)) (by decide) rfl (Nat.le_of_ble_eq_true rfl) ?_
  intro p e s m below meth c A ls args Q hQ S0 hr hlocks hnm hK hst hA hW hl
  have hx := S0.1; have hb := S0.2.1; have hml := S0.2.2.1; have hown := S0.2.2.2.1; have hts := S0.2.2.2.2
  have hl : lv_has ls 3 [(0, .ref x0), (1, .int (nI (hj))), (2, .int (nI (0)))] := hl
  refine lv_iload_n hx hb dX4_told_0 rfl (lv_at hl 1 rfl) ?_
  refine kSi (As := [.int (nI (hj))]) (rest := []) S0 hK hst hA hW [] (fun sz => c_X4_isHasher l D cy t hj (by omega) sz) rfl (by decide) (va_cwS 1 hts gX4_told_X4_isHasher rfl rfl rfl (by decide +kernel) ⟨Nat.le_of_ble_eq_true rfl, Nat.le_of_ble_eq_true rfl⟩) (fun _ => rfl) rfl hl.1 rfl (Nat.le_of_ble_eq_true rfl) dX4_told_1 ⟨Nat.le_of_ble_eq_true rfl, Nat.le_of_ble_eq_true rfl⟩ (fun r1 u1 H locs p1 hW => ?_)
  have hW : Wd D A s [(x0, .inr (4, [.ref xr, .ref xh, .ref xf, .ref xp, .ref xw, .ref xy, .ref xd])), (xh, .inl (cy 4, 4, .inr (.inr (.inr (.inr (hh)))))), (h0, .inr (1, [.ref m0, .ref qk, .ref qs, .ref qc, .ref qb, .int (md), .int (bs), .int (nI (fc)), .int (nI (tk)), .int (nI (cl)), .int (nI (dp)), .int (nI (bk)), .int (nI (ib))])), (qk, .inl (cy 0, 8, .inl (kf))), (qs, .inl (cy 0, 40, .inl (sf))), (qc, .inl (cy 0, 8, .inl (cf))), (qb, .inl (cy 0, 16, .inl (bf)))] H locs := hW
  have q1 : r1 = nI (1) := p1
  subst q1
  refine zNe (a := 1) (tgt := 10) hx hb dX4_told_4 (by decide) (by omega) (fun h4 => ?_) (fun h4 => ?_)
  · skip
    refine lv_iload_n hx hb dX4_told_10 rfl (lv_at hl 2 rfl) ?_
    refine lv_tableIn (tgt := 44) hx hb dX4_told_11 (by decide) (by decide) rfl (by decide) ?_
    refine lv_aload_n hx hb dX4_told_44 rfl (lv_at hl 0 rfl) ?_
    refine va_get (D := D) (ci := 4) (v := .ref xh) (C := RX4) (T := TX4) (N := 7) hx hb hts i_X4_told_0_X4 hown hK hW.1 0 rfl rfl 1 (by decide) (hts (.fieldLink RX4 17 "TreeHashes" "hashers" "[LTreeHashes$Hasher;") f_X4_told_0_0) (fun _ h9 => h9) rfl dX4_told_45 ?_
    refine lv_iload_n hx hb dX4_told_48 rfl (lv_at hl 1 rfl) ?_
    refine rA hx hb hK hW 1 (t0 := 4) rfl rfl (k := hj) (by omega) (by decide) (hhj) dX4_told_49 ?_
    refine va_getN (D := D) (ci := 1) (v := .int (md)) (C := RX1) (T := TX1) (N := 13) hx hb hts i_X4_told_0_X1 hown hK hW.1 2 rfl rfl 5 (by decide) (va_Nw.use rfl (hst.2.2.1 ("TreeHashes", 116, "TreeHashes$Hasher", "mode", "I", "TreeHashes") (by decide))) (fun _ h9 => h9) rfl dX4_told_50 ?_
    exact eI hQ hx hb hr hlocks hK hW () (rfl) (rfl) dX4_told_53
  · skip
    exfalso; omega

theorem f_X4_told_1_0 : Cond.fieldLink RX4 17 "TreeHashes" "hashers" "[LTreeHashes$Hasher;" ∈ wsX4_told := by decide +kernel
theorem i_X4_told_1_X4 : ∀ w ∈ wsX40, w ∈ wsX4_told := by decide +kernel
theorem i_X4_told_1_X1 : ∀ w ∈ wsX10, w ∈ wsX4_told := by decide +kernel
set_option maxHeartbeats 4000000 in
set_option maxRecDepth 100000 in
theorem c_X4_told_1 (l : Launch) (D : va_G) (cy : Nat → ClassId) (t : Nat × Nat) (x0 : Nat) (xr : Nat) (xh : Nat) (xf : Nat) (xp : Nat) (xw : Nat) (xy : Nat) (xd : Nat) (hh : Nat → Option Nat) (hj : Nat) (m0 : Nat) (h0 : Nat) (qk : Nat) (qs : Nat) (qc : Nat) (qb : Nat) (md : Int32) (bs : Int32) (fc : Nat) (tk : Nat) (cl : Nat) (dp : Nat) (bk : Nat) (ib : Nat) (kf : Nat → Int32) (sf : Nat → Int32) (cf : Nat → Int32) (bf : Nat → Int32) (hhj : hh hj = some h0) (hj4 : hj < 4) (sz : Nat) : Met l yX4_told wsX4_told ({ frames := 1, cells := 0, slots := 0, locals := 20 }) (PcW D cy t [(x0, .inr (4, [.ref xr, .ref xh, .ref xf, .ref xp, .ref xw, .ref xy, .ref xd])), (xh, .inl (cy 4, 4, .inr (.inr (.inr (.inr (hh)))))), (h0, .inr (1, [.ref m0, .ref qk, .ref qs, .ref qc, .ref qb, .int (md), .int (bs), .int (nI (fc)), .int (nI (tk)), .int (nI (cl)), .int (nI (dp)), .int (nI (bk)), .int (nI (ib))])), (qk, .inl (cy 0, 8, .inl (kf))), (qs, .inl (cy 0, 40, .inl (sf))), (qc, .inl (cy 0, 8, .inl (cf))), (qb, .inl (cy 0, 16, .inl (bf)))] [.ref x0, .int (nI (hj)), .int (nI (1))] sz) (QiA D cy (fun (r : Int32) (u : Unit) => (r = nI (tk))) (fun u : Unit => [(x0, .inr (4, [.ref xr, .ref xh, .ref xf, .ref xp, .ref xw, .ref xy, .ref xd])), (xh, .inl (cy 4, 4, .inr (.inr (.inr (.inr (hh)))))), (h0, .inr (1, [.ref m0, .ref qk, .ref qs, .ref qc, .ref qb, .int (md), .int (bs), .int (nI (fc)), .int (nI (tk)), .int (nI (cl)), .int (nI (dp)), .int (nI (bk)), .int (nI (ib))])), (qk, .inl (cy 0, 8, .inl (kf))), (qs, .inl (cy 0, 40, .inl (sf))), (qc, .inl (cy 0, 8, .inl (cf))), (qb, .inl (cy 0, 16, .inl (bf)))]) (va_A [(x0, .inr (4, [.ref xr, .ref xh, .ref xf, .ref xp, .ref xw, .ref xy, .ref xd])), (xh, .inl (cy 4, 4, .inr (.inr (.inr (.inr (hh)))))), (h0, .inr (1, [.ref m0, .ref qk, .ref qs, .ref qc, .ref qb, .int (md), .int (bs), .int (nI (fc)), .int (nI (tk)), .int (nI (cl)), .int (nI (dp)), .int (nI (bk)), .int (nI (ib))])), (qk, .inl (cy 0, 8, .inl (kf))), (qs, .inl (cy 0, 40, .inl (sf))), (qc, .inl (cy 0, 8, .inl (cf))), (qb, .inl (cy 0, 16, .inl (bf)))] sz)) 0 0 (va_A [(x0, .inr (4, [.ref xr, .ref xh, .ref xf, .ref xp, .ref xw, .ref xy, .ref xd])), (xh, .inl (cy 4, 4, .inr (.inr (.inr (.inr (hh)))))), (h0, .inr (1, [.ref m0, .ref qk, .ref qs, .ref qc, .ref qb, .int (md), .int (bs), .int (nI (fc)), .int (nI (tk)), .int (nI (cl)), .int (nI (dp)), .int (nI (bk)), .int (nI (ib))])), (qk, .inl (cy 0, 8, .inl (kf))), (qs, .inl (cy 0, 40, .inl (sf))), (qc, .inl (cy 0, 8, .inl (cf))), (qb, .inl (cy 0, 16, .inl (bf)))] sz) := by
  refine M_ofW (cc := cX4_told) (maxL := 3) (ret := (some .int)) (by decide) rfl (Nat.le_of_ble_eq_true rfl) ?_
  intro p e s m below meth c A ls args Q hQ S0 hr hlocks hnm hK hst hA hW hl
  have hx := S0.1; have hb := S0.2.1; have hml := S0.2.2.1; have hown := S0.2.2.2.1; have hts := S0.2.2.2.2
  have hl : lv_has ls 3 [(0, .ref x0), (1, .int (nI (hj))), (2, .int (nI (1)))] := hl
  refine lv_iload_n hx hb dX4_told_0 rfl (lv_at hl 1 rfl) ?_
  refine kSi (As := [.int (nI (hj))]) (rest := []) S0 hK hst hA hW [] (fun sz => c_X4_isHasher l D cy t hj (by omega) sz) rfl (by decide) (va_cwS 1 hts gX4_told_X4_isHasher rfl rfl rfl (by decide +kernel) ⟨Nat.le_of_ble_eq_true rfl, Nat.le_of_ble_eq_true rfl⟩) (fun _ => rfl) rfl hl.1 rfl (Nat.le_of_ble_eq_true rfl) dX4_told_1 ⟨Nat.le_of_ble_eq_true rfl, Nat.le_of_ble_eq_true rfl⟩ (fun r1 u1 H locs p1 hW => ?_)
  have hW : Wd D A s [(x0, .inr (4, [.ref xr, .ref xh, .ref xf, .ref xp, .ref xw, .ref xy, .ref xd])), (xh, .inl (cy 4, 4, .inr (.inr (.inr (.inr (hh)))))), (h0, .inr (1, [.ref m0, .ref qk, .ref qs, .ref qc, .ref qb, .int (md), .int (bs), .int (nI (fc)), .int (nI (tk)), .int (nI (cl)), .int (nI (dp)), .int (nI (bk)), .int (nI (ib))])), (qk, .inl (cy 0, 8, .inl (kf))), (qs, .inl (cy 0, 40, .inl (sf))), (qc, .inl (cy 0, 8, .inl (cf))), (qb, .inl (cy 0, 16, .inl (bf)))] H locs := hW
  have q1 : r1 = nI (1) := p1
  subst q1
  refine zNe (a := 1) (tgt := 10) hx hb dX4_told_4 (by decide) (by omega) (fun h4 => ?_) (fun h4 => ?_)
  · skip
    refine lv_iload_n hx hb dX4_told_10 rfl (lv_at hl 2 rfl) ?_
    refine lv_tableIn (tgt := 54) hx hb dX4_told_11 (by decide) (by decide) rfl (by decide) ?_
    refine lv_aload_n hx hb dX4_told_54 rfl (lv_at hl 0 rfl) ?_
    refine va_get (D := D) (ci := 4) (v := .ref xh) (C := RX4) (T := TX4) (N := 7) hx hb hts i_X4_told_1_X4 hown hK hW.1 0 rfl rfl 1 (by decide) (hts (.fieldLink RX4 17 "TreeHashes" "hashers" "[LTreeHashes$Hasher;") f_X4_told_1_0) (fun _ h9 => h9) rfl dX4_told_55 ?_
    refine lv_iload_n hx hb dX4_told_58 rfl (lv_at hl 1 rfl) ?_
    refine rA hx hb hK hW 1 (t0 := 4) rfl rfl (k := hj) (by omega) (by decide) (hhj) dX4_told_59 ?_
    refine va_getN (D := D) (ci := 1) (v := .int (nI (tk))) (C := RX1) (T := TX1) (N := 13) hx hb hts i_X4_told_1_X1 hown hK hW.1 2 rfl rfl 8 (by decide) (va_Nw.use rfl (hst.2.2.1 ("TreeHashes", 89, "TreeHashes$Hasher", "taken", "I", "TreeHashes") (by decide))) (fun _ h9 => h9) rfl dX4_told_60 ?_
    exact eI hQ hx hb hr hlocks hK hW () (rfl) (rfl) dX4_told_63
  · skip
    exfalso; omega

theorem f_X4_told_2_0 : Cond.fieldLink RX4 17 "TreeHashes" "hashers" "[LTreeHashes$Hasher;" ∈ wsX4_told := by decide +kernel
theorem i_X4_told_2_X4 : ∀ w ∈ wsX40, w ∈ wsX4_told := by decide +kernel
theorem i_X4_told_2_X1 : ∀ w ∈ wsX10, w ∈ wsX4_told := by decide +kernel
set_option maxHeartbeats 4000000 in
set_option maxRecDepth 100000 in
theorem c_X4_told_2 (l : Launch) (D : va_G) (cy : Nat → ClassId) (t : Nat × Nat) (x0 : Nat) (xr : Nat) (xh : Nat) (xf : Nat) (xp : Nat) (xw : Nat) (xy : Nat) (xd : Nat) (hh : Nat → Option Nat) (hj : Nat) (m0 : Nat) (h0 : Nat) (qk : Nat) (qs : Nat) (qc : Nat) (qb : Nat) (md : Int32) (bs : Int32) (fc : Nat) (tk : Nat) (cl : Nat) (dp : Nat) (bk : Nat) (ib : Nat) (kf : Nat → Int32) (sf : Nat → Int32) (cf : Nat → Int32) (bf : Nat → Int32) (hhj : hh hj = some h0) (hj4 : hj < 4) (sz : Nat) : Met l yX4_told wsX4_told ({ frames := 1, cells := 0, slots := 0, locals := 20 }) (PcW D cy t [(x0, .inr (4, [.ref xr, .ref xh, .ref xf, .ref xp, .ref xw, .ref xy, .ref xd])), (xh, .inl (cy 4, 4, .inr (.inr (.inr (.inr (hh)))))), (h0, .inr (1, [.ref m0, .ref qk, .ref qs, .ref qc, .ref qb, .int (md), .int (bs), .int (nI (fc)), .int (nI (tk)), .int (nI (cl)), .int (nI (dp)), .int (nI (bk)), .int (nI (ib))])), (qk, .inl (cy 0, 8, .inl (kf))), (qs, .inl (cy 0, 40, .inl (sf))), (qc, .inl (cy 0, 8, .inl (cf))), (qb, .inl (cy 0, 16, .inl (bf)))] [.ref x0, .int (nI (hj)), .int (nI (2))] sz) (QiA D cy (fun (r : Int32) (u : Unit) => (r = nI (cl))) (fun u : Unit => [(x0, .inr (4, [.ref xr, .ref xh, .ref xf, .ref xp, .ref xw, .ref xy, .ref xd])), (xh, .inl (cy 4, 4, .inr (.inr (.inr (.inr (hh)))))), (h0, .inr (1, [.ref m0, .ref qk, .ref qs, .ref qc, .ref qb, .int (md), .int (bs), .int (nI (fc)), .int (nI (tk)), .int (nI (cl)), .int (nI (dp)), .int (nI (bk)), .int (nI (ib))])), (qk, .inl (cy 0, 8, .inl (kf))), (qs, .inl (cy 0, 40, .inl (sf))), (qc, .inl (cy 0, 8, .inl (cf))), (qb, .inl (cy 0, 16, .inl (bf)))]) (va_A [(x0, .inr (4, [.ref xr, .ref xh, .ref xf, .ref xp, .ref xw, .ref xy, .ref xd])), (xh, .inl (cy 4, 4, .inr (.inr (.inr (.inr (hh)))))), (h0, .inr (1, [.ref m0, .ref qk, .ref qs, .ref qc, .ref qb, .int (md), .int (bs), .int (nI (fc)), .int (nI (tk)), .int (nI (cl)), .int (nI (dp)), .int (nI (bk)), .int (nI (ib))])), (qk, .inl (cy 0, 8, .inl (kf))), (qs, .inl (cy 0, 40, .inl (sf))), (qc, .inl (cy 0, 8, .inl (cf))), (qb, .inl (cy 0, 16, .inl (bf)))] sz)) 0 0 (va_A [(x0, .inr (4, [.ref xr, .ref xh, .ref xf, .ref xp, .ref xw, .ref xy, .ref xd])), (xh, .inl (cy 4, 4, .inr (.inr (.inr (.inr (hh)))))), (h0, .inr (1, [.ref m0, .ref qk, .ref qs, .ref qc, .ref qb, .int (md), .int (bs), .int (nI (fc)), .int (nI (tk)), .int (nI (cl)), .int (nI (dp)), .int (nI (bk)), .int (nI (ib))])), (qk, .inl (cy 0, 8, .inl (kf))), (qs, .inl (cy 0, 40, .inl (sf))), (qc, .inl (cy 0, 8, .inl (cf))), (qb, .inl (cy 0, 16, .inl (bf)))] sz) := by
  refine M_ofW (cc := cX4_told) (maxL := 3) (ret := (some .int)) (by decide) rfl (Nat.le_of_ble_eq_true rfl) ?_
  intro p e s m below meth c A ls args Q hQ S0 hr hlocks hnm hK hst hA hW hl
  have hx := S0.1; have hb := S0.2.1; have hml := S0.2.2.1; have hown := S0.2.2.2.1; have hts := S0.2.2.2.2
  have hl : lv_has ls 3 [(0, .ref x0), (1, .int (nI (hj))), (2, .int (nI (2)))] := hl
  refine lv_iload_n hx hb dX4_told_0 rfl (lv_at hl 1 rfl) ?_
  refine kSi (As := [.int (nI (hj))]) (rest := []) S0 hK hst hA hW [] (fun sz => c_X4_isHasher l D cy t hj (by omega) sz) rfl (by decide) (va_cwS 1 hts gX4_told_X4_isHasher rfl rfl rfl (by decide +kernel) ⟨Nat.le_of_ble_eq_true rfl, Nat.le_of_ble_eq_true rfl⟩) (fun _ => rfl) rfl hl.1 rfl (Nat.le_of_ble_eq_true rfl) dX4_told_1 ⟨Nat.le_of_ble_eq_true rfl, Nat.le_of_ble_eq_true rfl⟩ (fun r1 u1 H locs p1 hW => ?_)
  have hW : Wd D A s [(x0, .inr (4, [.ref xr, .ref xh, .ref xf, .ref xp, .ref xw, .ref xy, .ref xd])), (xh, .inl (cy 4, 4, .inr (.inr (.inr (.inr (hh)))))), (h0, .inr (1, [.ref m0, .ref qk, .ref qs, .ref qc, .ref qb, .int (md), .int (bs), .int (nI (fc)), .int (nI (tk)), .int (nI (cl)), .int (nI (dp)), .int (nI (bk)), .int (nI (ib))])), (qk, .inl (cy 0, 8, .inl (kf))), (qs, .inl (cy 0, 40, .inl (sf))), (qc, .inl (cy 0, 8, .inl (cf))), (qb, .inl (cy 0, 16, .inl (bf)))] H locs := hW
  have q1 : r1 = nI (1) := p1
  subst q1
  refine zNe (a := 1) (tgt := 10) hx hb dX4_told_4 (by decide) (by omega) (fun h4 => ?_) (fun h4 => ?_)
  · skip
    refine lv_iload_n hx hb dX4_told_10 rfl (lv_at hl 2 rfl) ?_
    refine lv_tableIn (tgt := 64) hx hb dX4_told_11 (by decide) (by decide) rfl (by decide) ?_
    refine lv_aload_n hx hb dX4_told_64 rfl (lv_at hl 0 rfl) ?_
    refine va_get (D := D) (ci := 4) (v := .ref xh) (C := RX4) (T := TX4) (N := 7) hx hb hts i_X4_told_2_X4 hown hK hW.1 0 rfl rfl 1 (by decide) (hts (.fieldLink RX4 17 "TreeHashes" "hashers" "[LTreeHashes$Hasher;") f_X4_told_2_0) (fun _ h9 => h9) rfl dX4_told_65 ?_
    refine lv_iload_n hx hb dX4_told_68 rfl (lv_at hl 1 rfl) ?_
    refine rA hx hb hK hW 1 (t0 := 4) rfl rfl (k := hj) (by omega) (by decide) (hhj) dX4_told_69 ?_
    refine va_getN (D := D) (ci := 1) (v := .int (nI (cl))) (C := RX1) (T := TX1) (N := 13) hx hb hts i_X4_told_2_X1 hown hK hW.1 2 rfl rfl 9 (by decide) (va_Nw.use rfl (hst.2.2.1 ("TreeHashes", 119, "TreeHashes$Hasher", "closed", "I", "TreeHashes") (by decide))) (fun _ h9 => h9) rfl dX4_told_70 ?_
    exact eI hQ hx hb hr hlocks hK hW () (rfl) (rfl) dX4_told_73
  · skip
    exfalso; omega

theorem f_X4_told_3_0 : Cond.fieldLink RX4 17 "TreeHashes" "hashers" "[LTreeHashes$Hasher;" ∈ wsX4_told := by decide +kernel
theorem i_X4_told_3_X4 : ∀ w ∈ wsX40, w ∈ wsX4_told := by decide +kernel
theorem i_X4_told_3_X1 : ∀ w ∈ wsX10, w ∈ wsX4_told := by decide +kernel
set_option maxHeartbeats 4000000 in
set_option maxRecDepth 100000 in
theorem c_X4_told_3 (l : Launch) (D : va_G) (cy : Nat → ClassId) (t : Nat × Nat) (x0 : Nat) (xr : Nat) (xh : Nat) (xf : Nat) (xp : Nat) (xw : Nat) (xy : Nat) (xd : Nat) (hh : Nat → Option Nat) (hj : Nat) (m0 : Nat) (h0 : Nat) (qk : Nat) (qs : Nat) (qc : Nat) (qb : Nat) (md : Int32) (bs : Int32) (fc : Nat) (tk : Nat) (cl : Nat) (dp : Nat) (bk : Nat) (ib : Nat) (kf : Nat → Int32) (sf : Nat → Int32) (cf : Nat → Int32) (bf : Nat → Int32) (hhj : hh hj = some h0) (hj4 : hj < 4) (sz : Nat) : Met l yX4_told wsX4_told ({ frames := 1, cells := 0, slots := 0, locals := 20 }) (PcW D cy t [(x0, .inr (4, [.ref xr, .ref xh, .ref xf, .ref xp, .ref xw, .ref xy, .ref xd])), (xh, .inl (cy 4, 4, .inr (.inr (.inr (.inr (hh)))))), (h0, .inr (1, [.ref m0, .ref qk, .ref qs, .ref qc, .ref qb, .int (md), .int (bs), .int (nI (fc)), .int (nI (tk)), .int (nI (cl)), .int (nI (dp)), .int (nI (bk)), .int (nI (ib))])), (qk, .inl (cy 0, 8, .inl (kf))), (qs, .inl (cy 0, 40, .inl (sf))), (qc, .inl (cy 0, 8, .inl (cf))), (qb, .inl (cy 0, 16, .inl (bf)))] [.ref x0, .int (nI (hj)), .int (nI (3))] sz) (QiA D cy (fun (r : Int32) (u : Unit) => (r = nI (dp))) (fun u : Unit => [(x0, .inr (4, [.ref xr, .ref xh, .ref xf, .ref xp, .ref xw, .ref xy, .ref xd])), (xh, .inl (cy 4, 4, .inr (.inr (.inr (.inr (hh)))))), (h0, .inr (1, [.ref m0, .ref qk, .ref qs, .ref qc, .ref qb, .int (md), .int (bs), .int (nI (fc)), .int (nI (tk)), .int (nI (cl)), .int (nI (dp)), .int (nI (bk)), .int (nI (ib))])), (qk, .inl (cy 0, 8, .inl (kf))), (qs, .inl (cy 0, 40, .inl (sf))), (qc, .inl (cy 0, 8, .inl (cf))), (qb, .inl (cy 0, 16, .inl (bf)))]) (va_A [(x0, .inr (4, [.ref xr, .ref xh, .ref xf, .ref xp, .ref xw, .ref xy, .ref xd])), (xh, .inl (cy 4, 4, .inr (.inr (.inr (.inr (hh)))))), (h0, .inr (1, [.ref m0, .ref qk, .ref qs, .ref qc, .ref qb, .int (md), .int (bs), .int (nI (fc)), .int (nI (tk)), .int (nI (cl)), .int (nI (dp)), .int (nI (bk)), .int (nI (ib))])), (qk, .inl (cy 0, 8, .inl (kf))), (qs, .inl (cy 0, 40, .inl (sf))), (qc, .inl (cy 0, 8, .inl (cf))), (qb, .inl (cy 0, 16, .inl (bf)))] sz)) 0 0 (va_A [(x0, .inr (4, [.ref xr, .ref xh, .ref xf, .ref xp, .ref xw, .ref xy, .ref xd])), (xh, .inl (cy 4, 4, .inr (.inr (.inr (.inr (hh)))))), (h0, .inr (1, [.ref m0, .ref qk, .ref qs, .ref qc, .ref qb, .int (md), .int (bs), .int (nI (fc)), .int (nI (tk)), .int (nI (cl)), .int (nI (dp)), .int (nI (bk)), .int (nI (ib))])), (qk, .inl (cy 0, 8, .inl (kf))), (qs, .inl (cy 0, 40, .inl (sf))), (qc, .inl (cy 0, 8, .inl (cf))), (qb, .inl (cy 0, 16, .inl (bf)))] sz) := by
  refine M_ofW (cc := cX4_told) (maxL := 3) (ret := (some .int)) (by decide) rfl (Nat.le_of_ble_eq_true rfl) ?_
  intro p e s m below meth c A ls args Q hQ S0 hr hlocks hnm hK hst hA hW hl
  have hx := S0.1; have hb := S0.2.1; have hml := S0.2.2.1; have hown := S0.2.2.2.1; have hts := S0.2.2.2.2
  have hl : lv_has ls 3 [(0, .ref x0), (1, .int (nI (hj))), (2, .int (nI (3)))] := hl
  refine lv_iload_n hx hb dX4_told_0 rfl (lv_at hl 1 rfl) ?_
  refine kSi (As := [.int (nI (hj))]) (rest := []) S0 hK hst hA hW [] (fun sz => c_X4_isHasher l D cy t hj (by omega) sz) rfl (by decide) (va_cwS 1 hts gX4_told_X4_isHasher rfl rfl rfl (by decide +kernel) ⟨Nat.le_of_ble_eq_true rfl, Nat.le_of_ble_eq_true rfl⟩) (fun _ => rfl) rfl hl.1 rfl (Nat.le_of_ble_eq_true rfl) dX4_told_1 ⟨Nat.le_of_ble_eq_true rfl, Nat.le_of_ble_eq_true rfl⟩ (fun r1 u1 H locs p1 hW => ?_)
  have hW : Wd D A s [(x0, .inr (4, [.ref xr, .ref xh, .ref xf, .ref xp, .ref xw, .ref xy, .ref xd])), (xh, .inl (cy 4, 4, .inr (.inr (.inr (.inr (hh)))))), (h0, .inr (1, [.ref m0, .ref qk, .ref qs, .ref qc, .ref qb, .int (md), .int (bs), .int (nI (fc)), .int (nI (tk)), .int (nI (cl)), .int (nI (dp)), .int (nI (bk)), .int (nI (ib))])), (qk, .inl (cy 0, 8, .inl (kf))), (qs, .inl (cy 0, 40, .inl (sf))), (qc, .inl (cy 0, 8, .inl (cf))), (qb, .inl (cy 0, 16, .inl (bf)))] H locs := hW
  have q1 : r1 = nI (1) := p1
  subst q1
  refine zNe (a := 1) (tgt := 10) hx hb dX4_told_4 (by decide) (by omega) (fun h4 => ?_) (fun h4 => ?_)
  · skip
    refine lv_iload_n hx hb dX4_told_10 rfl (lv_at hl 2 rfl) ?_
    refine lv_tableIn (tgt := 74) hx hb dX4_told_11 (by decide) (by decide) rfl (by decide) ?_
    refine lv_aload_n hx hb dX4_told_74 rfl (lv_at hl 0 rfl) ?_
    refine va_get (D := D) (ci := 4) (v := .ref xh) (C := RX4) (T := TX4) (N := 7) hx hb hts i_X4_told_3_X4 hown hK hW.1 0 rfl rfl 1 (by decide) (hts (.fieldLink RX4 17 "TreeHashes" "hashers" "[LTreeHashes$Hasher;") f_X4_told_3_0) (fun _ h9 => h9) rfl dX4_told_75 ?_
    refine lv_iload_n hx hb dX4_told_78 rfl (lv_at hl 1 rfl) ?_
    refine rA hx hb hK hW 1 (t0 := 4) rfl rfl (k := hj) (by omega) (by decide) (hhj) dX4_told_79 ?_
    refine va_getN (D := D) (ci := 1) (v := .int (nI (dp))) (C := RX1) (T := TX1) (N := 13) hx hb hts i_X4_told_3_X1 hown hK hW.1 2 rfl rfl 10 (by decide) (va_Nw.use rfl (hst.2.2.1 ("TreeHashes", 122, "TreeHashes$Hasher", "depth", "I", "TreeHashes") (by decide))) (fun _ h9 => h9) rfl dX4_told_80 ?_
    exact eI hQ hx hb hr hlocks hK hW () (rfl) (rfl) dX4_told_83
  · skip
    exfalso; omega

theorem f_X4_told_4_0 : Cond.fieldLink RX4 17 "TreeHashes" "hashers" "[LTreeHashes$Hasher;" ∈ wsX4_told := by decide +kernel
theorem i_X4_told_4_X4 : ∀ w ∈ wsX40, w ∈ wsX4_told := by decide +kernel
set_option maxHeartbeats 4000000 in
set_option maxRecDepth 100000 in
theorem c_X4_told_4 (l : Launch) (D : va_G) (cy : Nat → ClassId) (t : Nat × Nat) (x0 : Nat) (xr : Nat) (xh : Nat) (xf : Nat) (xp : Nat) (xw : Nat) (xy : Nat) (xd : Nat) (hh : Nat → Option Nat) (hj : Nat) (m0 : Nat) (h0 : Nat) (qk : Nat) (qs : Nat) (qc : Nat) (qb : Nat) (md : Int32) (bs : Int32) (fc : Nat) (tk : Nat) (cl : Nat) (dp : Nat) (bk : Nat) (ib : Nat) (kf : Nat → Int32) (sf : Nat → Int32) (cf : Nat → Int32) (bf : Nat → Int32) (hhj : hh hj = some h0) (hj4 : hj < 4) (sz : Nat) : Met l yX4_told wsX4_told ({ frames := 1, cells := 0, slots := 0, locals := 20 }) (PcW D cy t [(x0, .inr (4, [.ref xr, .ref xh, .ref xf, .ref xp, .ref xw, .ref xy, .ref xd])), (xh, .inl (cy 4, 4, .inr (.inr (.inr (.inr (hh)))))), (h0, .inr (1, [.ref m0, .ref qk, .ref qs, .ref qc, .ref qb, .int (md), .int (bs), .int (nI (fc)), .int (nI (tk)), .int (nI (cl)), .int (nI (dp)), .int (nI (bk)), .int (nI (ib))])), (qk, .inl (cy 0, 8, .inl (kf))), (qs, .inl (cy 0, 40, .inl (sf))), (qc, .inl (cy 0, 8, .inl (cf))), (qb, .inl (cy 0, 16, .inl (bf)))] [.ref x0, .int (nI (hj)), .int (nI (4))] sz) (QiA D cy (fun (r : Int32) (u : Unit) => (r = nI (bk * 64 + ib))) (fun u : Unit => [(x0, .inr (4, [.ref xr, .ref xh, .ref xf, .ref xp, .ref xw, .ref xy, .ref xd])), (xh, .inl (cy 4, 4, .inr (.inr (.inr (.inr (hh)))))), (h0, .inr (1, [.ref m0, .ref qk, .ref qs, .ref qc, .ref qb, .int (md), .int (bs), .int (nI (fc)), .int (nI (tk)), .int (nI (cl)), .int (nI (dp)), .int (nI (bk)), .int (nI (ib))])), (qk, .inl (cy 0, 8, .inl (kf))), (qs, .inl (cy 0, 40, .inl (sf))), (qc, .inl (cy 0, 8, .inl (cf))), (qb, .inl (cy 0, 16, .inl (bf)))]) (va_A [(x0, .inr (4, [.ref xr, .ref xh, .ref xf, .ref xp, .ref xw, .ref xy, .ref xd])), (xh, .inl (cy 4, 4, .inr (.inr (.inr (.inr (hh)))))), (h0, .inr (1, [.ref m0, .ref qk, .ref qs, .ref qc, .ref qb, .int (md), .int (bs), .int (nI (fc)), .int (nI (tk)), .int (nI (cl)), .int (nI (dp)), .int (nI (bk)), .int (nI (ib))])), (qk, .inl (cy 0, 8, .inl (kf))), (qs, .inl (cy 0, 40, .inl (sf))), (qc, .inl (cy 0, 8, .inl (cf))), (qb, .inl (cy 0, 16, .inl (bf)))] sz)) 0 0 (va_A [(x0, .inr (4, [.ref xr, .ref xh, .ref xf, .ref xp, .ref xw, .ref xy, .ref xd])), (xh, .inl (cy 4, 4, .inr (.inr (.inr (.inr (hh)))))), (h0, .inr (1, [.ref m0, .ref qk, .ref qs, .ref qc, .ref qb, .int (md), .int (bs), .int (nI (fc)), .int (nI (tk)), .int (nI (cl)), .int (nI (dp)), .int (nI (bk)), .int (nI (ib))])), (qk, .inl (cy 0, 8, .inl (kf))), (qs, .inl (cy 0, 40, .inl (sf))), (qc, .inl (cy 0, 8, .inl (cf))), (qb, .inl (cy 0, 16, .inl (bf)))] sz) := by
  refine M_ofW (cc := cX4_told) (maxL := 3) (ret := (some .int)) (by decide) rfl (Nat.le_of_ble_eq_true rfl) ?_
  intro p e s m below meth c A ls args Q hQ S0 hr hlocks hnm hK hst hA hW hl
  have hx := S0.1; have hb := S0.2.1; have hml := S0.2.2.1; have hown := S0.2.2.2.1; have hts := S0.2.2.2.2
  have hl : lv_has ls 3 [(0, .ref x0), (1, .int (nI (hj))), (2, .int (nI (4)))] := hl
  refine lv_iload_n hx hb dX4_told_0 rfl (lv_at hl 1 rfl) ?_
  refine kSi (As := [.int (nI (hj))]) (rest := []) S0 hK hst hA hW [] (fun sz => c_X4_isHasher l D cy t hj (by omega) sz) rfl (by decide) (va_cwS 1 hts gX4_told_X4_isHasher rfl rfl rfl (by decide +kernel) ⟨Nat.le_of_ble_eq_true rfl, Nat.le_of_ble_eq_true rfl⟩) (fun _ => rfl) rfl hl.1 rfl (Nat.le_of_ble_eq_true rfl) dX4_told_1 ⟨Nat.le_of_ble_eq_true rfl, Nat.le_of_ble_eq_true rfl⟩ (fun r1 u1 H locs p1 hW => ?_)
  have hW : Wd D A s [(x0, .inr (4, [.ref xr, .ref xh, .ref xf, .ref xp, .ref xw, .ref xy, .ref xd])), (xh, .inl (cy 4, 4, .inr (.inr (.inr (.inr (hh)))))), (h0, .inr (1, [.ref m0, .ref qk, .ref qs, .ref qc, .ref qb, .int (md), .int (bs), .int (nI (fc)), .int (nI (tk)), .int (nI (cl)), .int (nI (dp)), .int (nI (bk)), .int (nI (ib))])), (qk, .inl (cy 0, 8, .inl (kf))), (qs, .inl (cy 0, 40, .inl (sf))), (qc, .inl (cy 0, 8, .inl (cf))), (qb, .inl (cy 0, 16, .inl (bf)))] H locs := hW
  have q1 : r1 = nI (1) := p1
  subst q1
  refine zNe (a := 1) (tgt := 10) hx hb dX4_told_4 (by decide) (by omega) (fun h4 => ?_) (fun h4 => ?_)
  · skip
    refine lv_iload_n hx hb dX4_told_10 rfl (lv_at hl 2 rfl) ?_
    refine lv_tableIn (tgt := 84) hx hb dX4_told_11 (by decide) (by decide) rfl (by decide) ?_
    refine lv_aload_n hx hb dX4_told_84 rfl (lv_at hl 0 rfl) ?_
    refine va_get (D := D) (ci := 4) (v := .ref xh) (C := RX4) (T := TX4) (N := 7) hx hb hts i_X4_told_4_X4 hown hK hW.1 0 rfl rfl 1 (by decide) (hts (.fieldLink RX4 17 "TreeHashes" "hashers" "[LTreeHashes$Hasher;") f_X4_told_4_0) (fun _ h9 => h9) rfl dX4_told_85 ?_
    refine lv_iload_n hx hb dX4_told_88 rfl (lv_at hl 1 rfl) ?_
    refine rA hx hb hK hW 1 (t0 := 4) rfl rfl (k := hj) (by omega) (by decide) (hhj) dX4_told_89 ?_
    refine kVi (As := []) (rest := []) S0 hK hst hA hW [2] (fun sz => c_X1_inChunk l D cy t m0 h0 qk qs qc qb md bs fc tk cl dp bk ib  sz) rfl (by decide) (cwV 0 hts gX4_told_X1_inChunk rfl rfl rfl (by decide +kernel) ⟨Nat.le_of_ble_eq_true rfl, Nat.le_of_ble_eq_true rfl⟩) (fun _ => rfl) 0 1 rfl rfl rfl hl.1 rfl (Nat.le_of_ble_eq_true rfl) dX4_told_90 ⟨Nat.le_of_ble_eq_true rfl, Nat.le_of_ble_eq_true rfl⟩ (fun r90 u90 H locs p90 hW => ?_)
    have hW : Wd D A s [(x0, .inr (4, [.ref xr, .ref xh, .ref xf, .ref xp, .ref xw, .ref xy, .ref xd])), (xh, .inl (cy 4, 4, .inr (.inr (.inr (.inr (hh)))))), (h0, .inr (1, [.ref m0, .ref qk, .ref qs, .ref qc, .ref qb, .int (md), .int (bs), .int (nI (fc)), .int (nI (tk)), .int (nI (cl)), .int (nI (dp)), .int (nI (bk)), .int (nI (ib))])), (qk, .inl (cy 0, 8, .inl (kf))), (qs, .inl (cy 0, 40, .inl (sf))), (qc, .inl (cy 0, 8, .inl (cf))), (qb, .inl (cy 0, 16, .inl (bf)))] H locs := hW
    have q90 : r90 = nI (bk * 64 + ib) := p90
    subst q90
    exact eI hQ hx hb hr hlocks hK hW () (rfl) (rfl) dX4_told_93
  · skip
    exfalso; omega

set_option maxHeartbeats 4000000 in
set_option maxRecDepth 100000 in
theorem c_X4_told_o (l : Launch) (D : va_G) (cy : Nat → ClassId) (t : Nat × Nat) (x0 : Nat) (xr : Nat) (xh : Nat) (xf : Nat) (xp : Nat) (xw : Nat) (xy : Nat) (xd : Nat) (hh : Nat → Option Nat) (hj : Nat) (m0 : Nat) (h0 : Nat) (qk : Nat) (qs : Nat) (qc : Nat) (qb : Nat) (md : Int32) (bs : Int32) (fc : Nat) (tk : Nat) (cl : Nat) (dp : Nat) (bk : Nat) (ib : Nat) (kf : Nat → Int32) (sf : Nat → Int32) (cf : Nat → Int32) (bf : Nat → Int32) (y : Int32) (hhj : hh hj = some h0) (hj4 : hj < 4) (hout : y.toInt < 0 ∨ 4 < y.toInt) (sz : Nat) : Met l yX4_told wsX4_told ({ frames := 1, cells := 0, slots := 0, locals := 20 }) (PcW D cy t [(x0, .inr (4, [.ref xr, .ref xh, .ref xf, .ref xp, .ref xw, .ref xy, .ref xd])), (xh, .inl (cy 4, 4, .inr (.inr (.inr (.inr (hh)))))), (h0, .inr (1, [.ref m0, .ref qk, .ref qs, .ref qc, .ref qb, .int (md), .int (bs), .int (nI (fc)), .int (nI (tk)), .int (nI (cl)), .int (nI (dp)), .int (nI (bk)), .int (nI (ib))])), (qk, .inl (cy 0, 8, .inl (kf))), (qs, .inl (cy 0, 40, .inl (sf))), (qc, .inl (cy 0, 8, .inl (cf))), (qb, .inl (cy 0, 16, .inl (bf)))] [.ref x0, .int (nI (hj)), .int (y)] sz) (QiA D cy (fun (r : Int32) (u : Unit) => (r = (-2 : Int32))) (fun u : Unit => [(x0, .inr (4, [.ref xr, .ref xh, .ref xf, .ref xp, .ref xw, .ref xy, .ref xd])), (xh, .inl (cy 4, 4, .inr (.inr (.inr (.inr (hh)))))), (h0, .inr (1, [.ref m0, .ref qk, .ref qs, .ref qc, .ref qb, .int (md), .int (bs), .int (nI (fc)), .int (nI (tk)), .int (nI (cl)), .int (nI (dp)), .int (nI (bk)), .int (nI (ib))])), (qk, .inl (cy 0, 8, .inl (kf))), (qs, .inl (cy 0, 40, .inl (sf))), (qc, .inl (cy 0, 8, .inl (cf))), (qb, .inl (cy 0, 16, .inl (bf)))]) (va_A [(x0, .inr (4, [.ref xr, .ref xh, .ref xf, .ref xp, .ref xw, .ref xy, .ref xd])), (xh, .inl (cy 4, 4, .inr (.inr (.inr (.inr (hh)))))), (h0, .inr (1, [.ref m0, .ref qk, .ref qs, .ref qc, .ref qb, .int (md), .int (bs), .int (nI (fc)), .int (nI (tk)), .int (nI (cl)), .int (nI (dp)), .int (nI (bk)), .int (nI (ib))])), (qk, .inl (cy 0, 8, .inl (kf))), (qs, .inl (cy 0, 40, .inl (sf))), (qc, .inl (cy 0, 8, .inl (cf))), (qb, .inl (cy 0, 16, .inl (bf)))] sz)) 0 0 (va_A [(x0, .inr (4, [.ref xr, .ref xh, .ref xf, .ref xp, .ref xw, .ref xy, .ref xd])), (xh, .inl (cy 4, 4, .inr (.inr (.inr (.inr (hh)))))), (h0, .inr (1, [.ref m0, .ref qk, .ref qs, .ref qc, .ref qb, .int (md), .int (bs), .int (nI (fc)), .int (nI (tk)), .int (nI (cl)), .int (nI (dp)), .int (nI (bk)), .int (nI (ib))])), (qk, .inl (cy 0, 8, .inl (kf))), (qs, .inl (cy 0, 40, .inl (sf))), (qc, .inl (cy 0, 8, .inl (cf))), (qb, .inl (cy 0, 16, .inl (bf)))] sz) := by
  refine M_ofW (cc := cX4_told) (maxL := 3) (ret := (some .int)) (by decide) rfl (Nat.le_of_ble_eq_true rfl) ?_
  intro p e s m below meth c A ls args Q hQ S0 hr hlocks hnm hK hst hA hW hl
  have hx := S0.1; have hb := S0.2.1; have hml := S0.2.2.1; have hown := S0.2.2.2.1; have hts := S0.2.2.2.2
  have hl : lv_has ls 3 [(0, .ref x0), (1, .int (nI (hj))), (2, .int (y))] := hl
  refine lv_iload_n hx hb dX4_told_0 rfl (lv_at hl 1 rfl) ?_
  refine kSi (As := [.int (nI (hj))]) (rest := []) S0 hK hst hA hW [] (fun sz => c_X4_isHasher l D cy t hj (by omega) sz) rfl (by decide) (va_cwS 1 hts gX4_told_X4_isHasher rfl rfl rfl (by decide +kernel) ⟨Nat.le_of_ble_eq_true rfl, Nat.le_of_ble_eq_true rfl⟩) (fun _ => rfl) rfl hl.1 rfl (Nat.le_of_ble_eq_true rfl) dX4_told_1 ⟨Nat.le_of_ble_eq_true rfl, Nat.le_of_ble_eq_true rfl⟩ (fun r1 u1 H locs p1 hW => ?_)
  have hW : Wd D A s [(x0, .inr (4, [.ref xr, .ref xh, .ref xf, .ref xp, .ref xw, .ref xy, .ref xd])), (xh, .inl (cy 4, 4, .inr (.inr (.inr (.inr (hh)))))), (h0, .inr (1, [.ref m0, .ref qk, .ref qs, .ref qc, .ref qb, .int (md), .int (bs), .int (nI (fc)), .int (nI (tk)), .int (nI (cl)), .int (nI (dp)), .int (nI (bk)), .int (nI (ib))])), (qk, .inl (cy 0, 8, .inl (kf))), (qs, .inl (cy 0, 40, .inl (sf))), (qc, .inl (cy 0, 8, .inl (cf))), (qb, .inl (cy 0, 16, .inl (bf)))] H locs := hW
  have q1 : r1 = nI (1) := p1
  subst q1
  refine zNe (a := 1) (tgt := 10) hx hb dX4_told_4 (by decide) (by omega) (fun h4 => ?_) (fun h4 => ?_)
  · skip
    refine lv_iload_n hx hb dX4_told_10 rfl (lv_at hl 2 rfl) ?_
    refine lv_tableOut (tgt := 94) hx hb dX4_told_11 (hout) (by decide) ?_
    refine lv_bipush (v := (-2 : Int32)) hx hb dX4_told_94 (by decide) ?_
    exact eI hQ hx hb hr hlocks hK hW () (rfl) (rfl) dX4_told_96
  · skip
    exfalso; omega

set_option maxHeartbeats 4000000 in
set_option maxRecDepth 100000 in
theorem c_X4_chain_b (l : Launch) (D : va_G) (cy : Nat → ClassId) (t : Nat × Nat) (x0 : Nat) (xr : Nat) (xh : Nat) (xf : Nat) (xp : Nat) (xw : Nat) (xy : Nat) (xd : Nat) (x : Int32) (y : Int32) (z : Int32) (hbd : x < 0 ∨ nI 4 ≤ x) (sz : Nat) : Met l yX4_chain wsX4_chain ({ frames := 1, cells := 0, slots := 0, locals := 20 }) (PcW D cy t [(x0, .inr (4, [.ref xr, .ref xh, .ref xf, .ref xp, .ref xw, .ref xy, .ref xd]))] [.ref x0, .int (x), .int (y), .int (z)] sz) (QiA D cy (fun (r : Int32) (u : Unit) => (r = (-2 : Int32))) (fun u : Unit => [(x0, .inr (4, [.ref xr, .ref xh, .ref xf, .ref xp, .ref xw, .ref xy, .ref xd]))]) (va_A [(x0, .inr (4, [.ref xr, .ref xh, .ref xf, .ref xp, .ref xw, .ref xy, .ref xd]))] sz)) 0 0 (va_A [(x0, .inr (4, [.ref xr, .ref xh, .ref xf, .ref xp, .ref xw, .ref xy, .ref xd]))] sz) := by
  refine M_ofW (cc := cX4_chain) (maxL := 4) (ret := (some .int)) (by decide) rfl (Nat.le_of_ble_eq_true rfl) ?_
  intro p e s m below meth c A ls args Q hQ S0 hr hlocks hnm hK hst hA hW hl
  have hx := S0.1; have hb := S0.2.1; have hml := S0.2.2.1; have hown := S0.2.2.2.1; have hts := S0.2.2.2.2
  have hl : lv_has ls 4 [(0, .ref x0), (1, .int (x)), (2, .int (y)), (3, .int (z))] := hl
  refine lv_iload_n hx hb dX4_chain_0 rfl (lv_at hl 1 rfl) ?_
  refine kSi (As := [.int (x)]) (rest := []) S0 hK hst hA hW [] (fun sz => c_X4_isHasher_b l D cy t x (hbd) sz) rfl (by decide) (va_cwS 1 hts gX4_chain_X4_isHasher rfl rfl rfl (by decide +kernel) ⟨Nat.le_of_ble_eq_true rfl, Nat.le_of_ble_eq_true rfl⟩) (fun _ => rfl) rfl hl.1 rfl (Nat.le_of_ble_eq_true rfl) dX4_chain_1 ⟨Nat.le_of_ble_eq_true rfl, Nat.le_of_ble_eq_true rfl⟩ (fun r1 u1 H locs p1 hW => ?_)
  have hW : Wd D A s [(x0, .inr (4, [.ref xr, .ref xh, .ref xf, .ref xp, .ref xw, .ref xy, .ref xd]))] H locs := hW
  have q1 : r1 = nI (0) := p1
  subst q1
  refine zEq (a := 0) (tgt := 21) hx hb dX4_chain_4 (by decide) (by omega) (fun h4 => ?_) (fun h4 => ?_)
  · skip
    refine lv_bipush (v := (-2 : Int32)) hx hb dX4_chain_21 (by decide) ?_
    exact eI hQ hx hb hr hlocks hK hW () (rfl) (rfl) dX4_chain_23
  · skip
    exfalso; omega

theorem f_X4_chain_0 : Cond.fieldLink RX4 17 "TreeHashes" "hashers" "[LTreeHashes$Hasher;" ∈ wsX4_chain := by decide +kernel
theorem i_X4_chain_X4 : ∀ w ∈ wsX40, w ∈ wsX4_chain := by decide +kernel
set_option maxHeartbeats 4000000 in
set_option maxRecDepth 100000 in
theorem c_X4_chain (l : Launch) (D : va_G) (cy : Nat → ClassId) (t : Nat × Nat) (x0 : Nat) (xr : Nat) (xh : Nat) (xf : Nat) (xp : Nat) (xw : Nat) (xy : Nat) (xd : Nat) (hh : Nat → Option Nat) (hj : Nat) (m0 : Nat) (h0 : Nat) (qk : Nat) (qs : Nat) (qc : Nat) (qb : Nat) (md : Int32) (bs : Int32) (fc : Nat) (tk : Nat) (cl : Nat) (dp : Nat) (bk : Nat) (ib : Nat) (kf : Nat → Int32) (sf : Nat → Int32) (cf : Nat → Int32) (bf : Nat → Int32) (x : Int32) (y : Int32) (hhj : hh hj = some h0) (hj4 : hj < 4) (hd : dp ≤ 5) (sz : Nat) : Met l yX4_chain wsX4_chain ({ frames := 1, cells := 0, slots := 0, locals := 22 }) (PcW D cy t [(x0, .inr (4, [.ref xr, .ref xh, .ref xf, .ref xp, .ref xw, .ref xy, .ref xd])), (xh, .inl (cy 4, 4, .inr (.inr (.inr (.inr (hh)))))), (h0, .inr (1, [.ref m0, .ref qk, .ref qs, .ref qc, .ref qb, .int (md), .int (bs), .int (nI (fc)), .int (nI (tk)), .int (nI (cl)), .int (nI (dp)), .int (nI (bk)), .int (nI (ib))])), (qk, .inl (cy 0, 8, .inl (kf))), (qs, .inl (cy 0, 40, .inl (sf))), (qc, .inl (cy 0, 8, .inl (cf))), (qb, .inl (cy 0, 16, .inl (bf)))] [.ref x0, .int (nI (hj)), .int (x), .int (y)] sz) (QiA D cy (fun (r : Int32) (u : Unit) => ((r = 0 ∧ (x < 0 ∨ nI dp ≤ x ∨ y < 0 ∨ nI 8 ≤ y)) ∨ ∃ a b : Nat, a < dp ∧ b < 8 ∧ x = nI a ∧ y = nI b ∧ r = sf (a * 8 + b))) (fun u : Unit => [(x0, .inr (4, [.ref xr, .ref xh, .ref xf, .ref xp, .ref xw, .ref xy, .ref xd])), (xh, .inl (cy 4, 4, .inr (.inr (.inr (.inr (hh)))))), (h0, .inr (1, [.ref m0, .ref qk, .ref qs, .ref qc, .ref qb, .int (md), .int (bs), .int (nI (fc)), .int (nI (tk)), .int (nI (cl)), .int (nI (dp)), .int (nI (bk)), .int (nI (ib))])), (qk, .inl (cy 0, 8, .inl (kf))), (qs, .inl (cy 0, 40, .inl (sf))), (qc, .inl (cy 0, 8, .inl (cf))), (qb, .inl (cy 0, 16, .inl (bf)))]) (va_A [(x0, .inr (4, [.ref xr, .ref xh, .ref xf, .ref xp, .ref xw, .ref xy, .ref xd])), (xh, .inl (cy 4, 4, .inr (.inr (.inr (.inr (hh)))))), (h0, .inr (1, [.ref m0, .ref qk, .ref qs, .ref qc, .ref qb, .int (md), .int (bs), .int (nI (fc)), .int (nI (tk)), .int (nI (cl)), .int (nI (dp)), .int (nI (bk)), .int (nI (ib))])), (qk, .inl (cy 0, 8, .inl (kf))), (qs, .inl (cy 0, 40, .inl (sf))), (qc, .inl (cy 0, 8, .inl (cf))), (qb, .inl (cy 0, 16, .inl (bf)))] sz)) 0 0 (va_A [(x0, .inr (4, [.ref xr, .ref xh, .ref xf, .ref xp, .ref xw, .ref xy, .ref xd])), (xh, .inl (cy 4, 4, .inr (.inr (.inr (.inr (hh)))))), (h0, .inr (1, [.ref m0, .ref qk, .ref qs, .ref qc, .ref qb, .int (md), .int (bs), .int (nI (fc)), .int (nI (tk)), .int (nI (cl)), .int (nI (dp)), .int (nI (bk)), .int (nI (ib))])), (qk, .inl (cy 0, 8, .inl (kf))), (qs, .inl (cy 0, 40, .inl (sf))), (qc, .inl (cy 0, 8, .inl (cf))), (qb, .inl (cy 0, 16, .inl (bf)))] sz) := by
  refine M_ofW (cc := cX4_chain) (maxL := 4) (ret := (some .int)) (by decide) rfl (Nat.le_of_ble_eq_true rfl) ?_
  intro p e s m below meth c A ls args Q hQ S0 hr hlocks hnm hK hst hA hW hl
  have hx := S0.1; have hb := S0.2.1; have hml := S0.2.2.1; have hown := S0.2.2.2.1; have hts := S0.2.2.2.2
  have hl : lv_has ls 4 [(0, .ref x0), (1, .int (nI (hj))), (2, .int (x)), (3, .int (y))] := hl
  refine lv_iload_n hx hb dX4_chain_0 rfl (lv_at hl 1 rfl) ?_
  refine kSi (As := [.int (nI (hj))]) (rest := []) S0 hK hst hA hW [] (fun sz => c_X4_isHasher l D cy t hj (by omega) sz) rfl (by decide) (va_cwS 1 hts gX4_chain_X4_isHasher rfl rfl rfl (by decide +kernel) ⟨Nat.le_of_ble_eq_true rfl, Nat.le_of_ble_eq_true rfl⟩) (fun _ => rfl) rfl hl.1 rfl (Nat.le_of_ble_eq_true rfl) dX4_chain_1 ⟨Nat.le_of_ble_eq_true rfl, Nat.le_of_ble_eq_true rfl⟩ (fun r1 u1 H locs p1 hW => ?_)
  have hW : Wd D A s [(x0, .inr (4, [.ref xr, .ref xh, .ref xf, .ref xp, .ref xw, .ref xy, .ref xd])), (xh, .inl (cy 4, 4, .inr (.inr (.inr (.inr (hh)))))), (h0, .inr (1, [.ref m0, .ref qk, .ref qs, .ref qc, .ref qb, .int (md), .int (bs), .int (nI (fc)), .int (nI (tk)), .int (nI (cl)), .int (nI (dp)), .int (nI (bk)), .int (nI (ib))])), (qk, .inl (cy 0, 8, .inl (kf))), (qs, .inl (cy 0, 40, .inl (sf))), (qc, .inl (cy 0, 8, .inl (cf))), (qb, .inl (cy 0, 16, .inl (bf)))] H locs := hW
  have q1 : r1 = nI (1) := p1
  subst q1
  refine zEq (a := 1) (tgt := 21) hx hb dX4_chain_4 (by decide) (by omega) (fun h4 => ?_) (fun h4 => ?_)
  · skip
    exfalso; omega
  · skip
    refine lv_aload_n hx hb dX4_chain_7 rfl (lv_at hl 0 rfl) ?_
    refine va_get (D := D) (ci := 4) (v := .ref xh) (C := RX4) (T := TX4) (N := 7) hx hb hts i_X4_chain_X4 hown hK hW.1 0 rfl rfl 1 (by decide) (hts (.fieldLink RX4 17 "TreeHashes" "hashers" "[LTreeHashes$Hasher;") f_X4_chain_0) (fun _ h9 => h9) rfl dX4_chain_8 ?_
    refine lv_iload_n hx hb dX4_chain_11 rfl (lv_at hl 1 rfl) ?_
    refine rA hx hb hK hW 1 (t0 := 4) rfl rfl (k := hj) (by omega) (by decide) (hhj) dX4_chain_12 ?_
    refine lv_iload_n hx hb dX4_chain_13 rfl (lv_at hl 2 rfl) ?_
    refine lv_iload_n hx hb dX4_chain_14 rfl (lv_at hl 3 rfl) ?_
    refine kVi (As := [.int (x), .int (y)]) (rest := []) S0 hK hst hA hW [2, 4] (fun sz => c_X1_stackWord l D cy t m0 h0 qk qs qc qb md bs fc tk cl dp bk ib sf x y (by omega) sz) rfl (by decide) (cwV 2 hts gX4_chain_X1_stackWord rfl rfl rfl (by decide +kernel) ⟨Nat.le_of_ble_eq_true rfl, Nat.le_of_ble_eq_true rfl⟩) (fun _ => rfl) 0 1 rfl rfl rfl hl.1 rfl (Nat.le_of_ble_eq_true rfl) dX4_chain_15 ⟨Nat.le_of_ble_eq_true rfl, Nat.le_of_ble_eq_true rfl⟩ (fun r15 u15 H locs p15 hW => ?_)
    have hW : Wd D A s [(x0, .inr (4, [.ref xr, .ref xh, .ref xf, .ref xp, .ref xw, .ref xy, .ref xd])), (xh, .inl (cy 4, 4, .inr (.inr (.inr (.inr (hh)))))), (h0, .inr (1, [.ref m0, .ref qk, .ref qs, .ref qc, .ref qb, .int (md), .int (bs), .int (nI (fc)), .int (nI (tk)), .int (nI (cl)), .int (nI (dp)), .int (nI (bk)), .int (nI (ib))])), (qk, .inl (cy 0, 8, .inl (kf))), (qs, .inl (cy 0, 40, .inl (sf))), (qc, .inl (cy 0, 8, .inl (cf))), (qb, .inl (cy 0, 16, .inl (bf)))] H locs := hW
    refine lv_goto (tgt := 23) hx hb dX4_chain_18 (by decide) ?_
    exact eI hQ hx hb hr hlocks hK hW () (p15) (rfl) dX4_chain_23

set_option maxHeartbeats 4000000 in
set_option maxRecDepth 100000 in
theorem c_X4_copy_b (l : Launch) (D : va_G) (cy : Nat → ClassId) (t : Nat × Nat) (x0 : Nat) (xr : Nat) (xh : Nat) (xf : Nat) (xp : Nat) (xw : Nat) (xy : Nat) (xd : Nat) (x : Int32) (y : Int32) (hbd : x < 0 ∨ nI 4 ≤ x) (sz : Nat) : Met l yX4_copy wsX4_copy ({ frames := 1, cells := 0, slots := 0, locals := 20 }) (PcW D cy t [(x0, .inr (4, [.ref xr, .ref xh, .ref xf, .ref xp, .ref xw, .ref xy, .ref xd]))] [.ref x0, .int (x), .int (y)] sz) (QiA D cy (fun (r : Int32) (u : Unit) => (r = (-2 : Int32))) (fun u : Unit => [(x0, .inr (4, [.ref xr, .ref xh, .ref xf, .ref xp, .ref xw, .ref xy, .ref xd]))]) (va_A [(x0, .inr (4, [.ref xr, .ref xh, .ref xf, .ref xp, .ref xw, .ref xy, .ref xd]))] sz)) 0 0 (va_A [(x0, .inr (4, [.ref xr, .ref xh, .ref xf, .ref xp, .ref xw, .ref xy, .ref xd]))] sz) := by
  refine M_ofW (cc := cX4_copy) (maxL := 3) (ret := (some .int)) (by decide) rfl (Nat.le_of_ble_eq_true rfl) ?_
  intro p e s m below meth c A ls args Q hQ S0 hr hlocks hnm hK hst hA hW hl
  have hx := S0.1; have hb := S0.2.1; have hml := S0.2.2.1; have hown := S0.2.2.2.1; have hts := S0.2.2.2.2
  have hl : lv_has ls 3 [(0, .ref x0), (1, .int (x)), (2, .int (y))] := hl
  refine lv_iload_n hx hb dX4_copy_0 rfl (lv_at hl 1 rfl) ?_
  refine kSi (As := [.int (x)]) (rest := []) S0 hK hst hA hW [] (fun sz => c_X4_isHasher_b l D cy t x (hbd) sz) rfl (by decide) (va_cwS 1 hts gX4_copy_X4_isHasher rfl rfl rfl (by decide +kernel) ⟨Nat.le_of_ble_eq_true rfl, Nat.le_of_ble_eq_true rfl⟩) (fun _ => rfl) rfl hl.1 rfl (Nat.le_of_ble_eq_true rfl) dX4_copy_1 ⟨Nat.le_of_ble_eq_true rfl, Nat.le_of_ble_eq_true rfl⟩ (fun r1 u1 H locs p1 hW => ?_)
  have hW : Wd D A s [(x0, .inr (4, [.ref xr, .ref xh, .ref xf, .ref xp, .ref xw, .ref xy, .ref xd]))] H locs := hW
  have q1 : r1 = nI (0) := p1
  subst q1
  refine zEq (a := 0) (tgt := 14) hx hb dX4_copy_4 (by decide) (by omega) (fun h4 => ?_) (fun h4 => ?_)
  · skip
    refine lv_bipush (v := (-2 : Int32)) hx hb dX4_copy_14 (by decide) ?_
    exact eI hQ hx hb hr hlocks hK hW () (rfl) (rfl) dX4_copy_16
  · skip
    exfalso; omega

set_option maxHeartbeats 4000000 in
set_option maxRecDepth 100000 in
theorem c_X4_copy_b2 (l : Launch) (D : va_G) (cy : Nat → ClassId) (t : Nat × Nat) (x0 : Nat) (xr : Nat) (xh : Nat) (xf : Nat) (xp : Nat) (xw : Nat) (xy : Nat) (xd : Nat) (hh : Nat → Option Nat) (hj : Nat) (m0 : Nat) (h0 : Nat) (qk : Nat) (qs : Nat) (qc : Nat) (qb : Nat) (md : Int32) (bs : Int32) (fc : Nat) (tk : Nat) (cl : Nat) (dp : Nat) (bk : Nat) (ib : Nat) (kf : Nat → Int32) (sf : Nat → Int32) (cf : Nat → Int32) (bf : Nat → Int32) (x : Int32) (hhj : hh hj = some h0) (hj4 : hj < 4) (hbd : x < 0 ∨ nI 4 ≤ x) (sz : Nat) : Met l yX4_copy wsX4_copy ({ frames := 1, cells := 0, slots := 0, locals := 20 }) (PcW D cy t [(x0, .inr (4, [.ref xr, .ref xh, .ref xf, .ref xp, .ref xw, .ref xy, .ref xd])), (xh, .inl (cy 4, 4, .inr (.inr (.inr (.inr (hh)))))), (h0, .inr (1, [.ref m0, .ref qk, .ref qs, .ref qc, .ref qb, .int (md), .int (bs), .int (nI (fc)), .int (nI (tk)), .int (nI (cl)), .int (nI (dp)), .int (nI (bk)), .int (nI (ib))])), (qk, .inl (cy 0, 8, .inl (kf))), (qs, .inl (cy 0, 40, .inl (sf))), (qc, .inl (cy 0, 8, .inl (cf))), (qb, .inl (cy 0, 16, .inl (bf)))] [.ref x0, .int (nI (hj)), .int (x)] sz) (QiA D cy (fun (r : Int32) (u : Unit) => (r = (-2 : Int32))) (fun u : Unit => [(x0, .inr (4, [.ref xr, .ref xh, .ref xf, .ref xp, .ref xw, .ref xy, .ref xd])), (xh, .inl (cy 4, 4, .inr (.inr (.inr (.inr (hh)))))), (h0, .inr (1, [.ref m0, .ref qk, .ref qs, .ref qc, .ref qb, .int (md), .int (bs), .int (nI (fc)), .int (nI (tk)), .int (nI (cl)), .int (nI (dp)), .int (nI (bk)), .int (nI (ib))])), (qk, .inl (cy 0, 8, .inl (kf))), (qs, .inl (cy 0, 40, .inl (sf))), (qc, .inl (cy 0, 8, .inl (cf))), (qb, .inl (cy 0, 16, .inl (bf)))]) (va_A [(x0, .inr (4, [.ref xr, .ref xh, .ref xf, .ref xp, .ref xw, .ref xy, .ref xd])), (xh, .inl (cy 4, 4, .inr (.inr (.inr (.inr (hh)))))), (h0, .inr (1, [.ref m0, .ref qk, .ref qs, .ref qc, .ref qb, .int (md), .int (bs), .int (nI (fc)), .int (nI (tk)), .int (nI (cl)), .int (nI (dp)), .int (nI (bk)), .int (nI (ib))])), (qk, .inl (cy 0, 8, .inl (kf))), (qs, .inl (cy 0, 40, .inl (sf))), (qc, .inl (cy 0, 8, .inl (cf))), (qb, .inl (cy 0, 16, .inl (bf)))] sz)) 0 0 (va_A [(x0, .inr (4, [.ref xr, .ref xh, .ref xf, .ref xp, .ref xw, .ref xy, .ref xd])), (xh, .inl (cy 4, 4, .inr (.inr (.inr (.inr (hh)))))), (h0, .inr (1, [.ref m0, .ref qk, .ref qs, .ref qc, .ref qb, .int (md), .int (bs), .int (nI (fc)), .int (nI (tk)), .int (nI (cl)), .int (nI (dp)), .int (nI (bk)), .int (nI (ib))])), (qk, .inl (cy 0, 8, .inl (kf))), (qs, .inl (cy 0, 40, .inl (sf))), (qc, .inl (cy 0, 8, .inl (cf))), (qb, .inl (cy 0, 16, .inl (bf)))] sz) := by
  refine M_ofW (cc := cX4_copy) (maxL := 3) (ret := (some .int)) (by decide) rfl (Nat.le_of_ble_eq_true rfl) ?_
  intro p e s m below meth c A ls args Q hQ S0 hr hlocks hnm hK hst hA hW hl
  have hx := S0.1; have hb := S0.2.1; have hml := S0.2.2.1; have hown := S0.2.2.2.1; have hts := S0.2.2.2.2
  have hl : lv_has ls 3 [(0, .ref x0), (1, .int (nI (hj))), (2, .int (x))] := hl
  refine lv_iload_n hx hb dX4_copy_0 rfl (lv_at hl 1 rfl) ?_
  refine kSi (As := [.int (nI (hj))]) (rest := []) S0 hK hst hA hW [] (fun sz => c_X4_isHasher l D cy t hj (by omega) sz) rfl (by decide) (va_cwS 1 hts gX4_copy_X4_isHasher rfl rfl rfl (by decide +kernel) ⟨Nat.le_of_ble_eq_true rfl, Nat.le_of_ble_eq_true rfl⟩) (fun _ => rfl) rfl hl.1 rfl (Nat.le_of_ble_eq_true rfl) dX4_copy_1 ⟨Nat.le_of_ble_eq_true rfl, Nat.le_of_ble_eq_true rfl⟩ (fun r1 u1 H locs p1 hW => ?_)
  have hW : Wd D A s [(x0, .inr (4, [.ref xr, .ref xh, .ref xf, .ref xp, .ref xw, .ref xy, .ref xd])), (xh, .inl (cy 4, 4, .inr (.inr (.inr (.inr (hh)))))), (h0, .inr (1, [.ref m0, .ref qk, .ref qs, .ref qc, .ref qb, .int (md), .int (bs), .int (nI (fc)), .int (nI (tk)), .int (nI (cl)), .int (nI (dp)), .int (nI (bk)), .int (nI (ib))])), (qk, .inl (cy 0, 8, .inl (kf))), (qs, .inl (cy 0, 40, .inl (sf))), (qc, .inl (cy 0, 8, .inl (cf))), (qb, .inl (cy 0, 16, .inl (bf)))] H locs := hW
  have q1 : r1 = nI (1) := p1
  subst q1
  refine zEq (a := 1) (tgt := 14) hx hb dX4_copy_4 (by decide) (by omega) (fun h4 => ?_) (fun h4 => ?_)
  · skip
    exfalso; omega
  · skip
    refine lv_iload_n hx hb dX4_copy_7 rfl (lv_at hl 2 rfl) ?_
    refine kSi (As := [.int (x)]) (rest := []) S0 hK hst hA hW [] (fun sz => c_X4_isHasher_b l D cy t x (hbd) sz) rfl (by decide) (va_cwS 1 hts gX4_copy_X4_isHasher rfl rfl rfl (by decide +kernel) ⟨Nat.le_of_ble_eq_true rfl, Nat.le_of_ble_eq_true rfl⟩) (fun _ => rfl) rfl hl.1 rfl (Nat.le_of_ble_eq_true rfl) dX4_copy_8 ⟨Nat.le_of_ble_eq_true rfl, Nat.le_of_ble_eq_true rfl⟩ (fun r8 u8 H locs p8 hW => ?_)
    have hW : Wd D A s [(x0, .inr (4, [.ref xr, .ref xh, .ref xf, .ref xp, .ref xw, .ref xy, .ref xd])), (xh, .inl (cy 4, 4, .inr (.inr (.inr (.inr (hh)))))), (h0, .inr (1, [.ref m0, .ref qk, .ref qs, .ref qc, .ref qb, .int (md), .int (bs), .int (nI (fc)), .int (nI (tk)), .int (nI (cl)), .int (nI (dp)), .int (nI (bk)), .int (nI (ib))])), (qk, .inl (cy 0, 8, .inl (kf))), (qs, .inl (cy 0, 40, .inl (sf))), (qc, .inl (cy 0, 8, .inl (cf))), (qb, .inl (cy 0, 16, .inl (bf)))] H locs := hW
    have q8 : r8 = nI (0) := p8
    subst q8
    refine zNe (a := 0) (tgt := 17) hx hb dX4_copy_11 (by decide) (by omega) (fun h11 => ?_) (fun h11 => ?_)
    · skip
      exfalso; omega
    · skip
      refine lv_bipush (v := (-2 : Int32)) hx hb dX4_copy_14 (by decide) ?_
      exact eI hQ hx hb hr hlocks hK hW () (rfl) (rfl) dX4_copy_16

theorem f_X4_copy_0 : Cond.fieldLink RX4 17 "TreeHashes" "hashers" "[LTreeHashes$Hasher;" ∈ wsX4_copy := by decide +kernel
theorem i_X4_copy_X4 : ∀ w ∈ wsX40, w ∈ wsX4_copy := by decide +kernel
theorem i_X4_copy_X1 : ∀ w ∈ wsX10, w ∈ wsX4_copy := by decide +kernel
set_option maxHeartbeats 4000000 in
set_option maxRecDepth 100000 in
theorem c_X4_copy (l : Launch) (D : va_G) (cy : Nat → ClassId) (t : Nat × Nat) (x0 : Nat) (xr : Nat) (xh : Nat) (xf : Nat) (xp : Nat) (xw : Nat) (xy : Nat) (xd : Nat) (hh : Nat → Option Nat) (hj : Nat) (fj : Nat) (m0 : Nat) (h0 : Nat) (qk : Nat) (qs : Nat) (qc : Nat) (qb : Nat) (md : Int32) (bs : Int32) (fc : Nat) (tk : Nat) (cl : Nat) (dp : Nat) (bk : Nat) (ib : Nat) (kf : Nat → Int32) (sf : Nat → Int32) (cf : Nat → Int32) (bf : Nat → Int32) (g0 : Nat) (p0 : Nat) (pk : Nat) (ps : Nat) (pc : Nat) (pb : Nat) (md2 : Int32) (bs2 : Int32) (fc2 : Nat) (tk2 : Nat) (cl2 : Nat) (dp2 : Nat) (bk2 : Nat) (ib2 : Nat) (kf2 : Nat → Int32) (sf2 : Nat → Int32) (cf2 : Nat → Int32) (bf2 : Nat → Int32) (hhj : hh hj = some h0) (hj4 : hj < 4) (hfj : hh fj = some g0) (fj4 : fj < 4) (sz : Nat) : Met l yX4_copy wsX4_copy ({ frames := 2, cells := 0, slots := 0, locals := 43 }) (PcW D cy t [(x0, .inr (4, [.ref xr, .ref xh, .ref xf, .ref xp, .ref xw, .ref xy, .ref xd])), (xh, .inl (cy 4, 4, .inr (.inr (.inr (.inr (hh)))))), (h0, .inr (1, [.ref m0, .ref qk, .ref qs, .ref qc, .ref qb, .int (md), .int (bs), .int (nI (fc)), .int (nI (tk)), .int (nI (cl)), .int (nI (dp)), .int (nI (bk)), .int (nI (ib))])), (qk, .inl (cy 0, 8, .inl (kf))), (qs, .inl (cy 0, 40, .inl (sf))), (qc, .inl (cy 0, 8, .inl (cf))), (qb, .inl (cy 0, 16, .inl (bf))), (g0, .inr (1, [.ref p0, .ref pk, .ref ps, .ref pc, .ref pb, .int (md2), .int (bs2), .int (nI (fc2)), .int (nI (tk2)), .int (nI (cl2)), .int (nI (dp2)), .int (nI (bk2)), .int (nI (ib2))])), (pk, .inl (cy 0, 8, .inl (kf2))), (ps, .inl (cy 0, 40, .inl (sf2))), (pc, .inl (cy 0, 8, .inl (cf2))), (pb, .inl (cy 0, 16, .inl (bf2)))] [.ref x0, .int (nI (fj)), .int (nI (hj))] sz) (QiA D cy (fun (r : Int32) (u : Unit) => (r = nI (tk2))) (fun u : Unit => [(x0, .inr (4, [.ref xr, .ref xh, .ref xf, .ref xp, .ref xw, .ref xy, .ref xd])), (xh, .inl (cy 4, 4, .inr (.inr (.inr (.inr (hh)))))), (h0, .inr (1, [.ref m0, .ref qk, .ref qs, .ref qc, .ref qb, .int (md2), .int (bs2), .int (nI (fc2)), .int (nI (tk2)), .int (nI (cl2)), .int (nI (dp2)), .int (nI (bk2)), .int (nI (ib2))])), (qk, .inl (cy 0, 8, .inl (kf2))), (qs, .inl (cy 0, 40, .inl (sf2))), (qc, .inl (cy 0, 8, .inl (cf2))), (qb, .inl (cy 0, 16, .inl (bf2))), (g0, .inr (1, [.ref p0, .ref pk, .ref ps, .ref pc, .ref pb, .int (md2), .int (bs2), .int (nI (fc2)), .int (nI (tk2)), .int (nI (cl2)), .int (nI (dp2)), .int (nI (bk2)), .int (nI (ib2))])), (pk, .inl (cy 0, 8, .inl (kf2))), (ps, .inl (cy 0, 40, .inl (sf2))), (pc, .inl (cy 0, 8, .inl (cf2))), (pb, .inl (cy 0, 16, .inl (bf2)))]) (va_A [(x0, .inr (4, [.ref xr, .ref xh, .ref xf, .ref xp, .ref xw, .ref xy, .ref xd])), (xh, .inl (cy 4, 4, .inr (.inr (.inr (.inr (hh)))))), (h0, .inr (1, [.ref m0, .ref qk, .ref qs, .ref qc, .ref qb, .int (md), .int (bs), .int (nI (fc)), .int (nI (tk)), .int (nI (cl)), .int (nI (dp)), .int (nI (bk)), .int (nI (ib))])), (qk, .inl (cy 0, 8, .inl (kf))), (qs, .inl (cy 0, 40, .inl (sf))), (qc, .inl (cy 0, 8, .inl (cf))), (qb, .inl (cy 0, 16, .inl (bf))), (g0, .inr (1, [.ref p0, .ref pk, .ref ps, .ref pc, .ref pb, .int (md2), .int (bs2), .int (nI (fc2)), .int (nI (tk2)), .int (nI (cl2)), .int (nI (dp2)), .int (nI (bk2)), .int (nI (ib2))])), (pk, .inl (cy 0, 8, .inl (kf2))), (ps, .inl (cy 0, 40, .inl (sf2))), (pc, .inl (cy 0, 8, .inl (cf2))), (pb, .inl (cy 0, 16, .inl (bf2)))] sz)) 0 0 (va_A [(x0, .inr (4, [.ref xr, .ref xh, .ref xf, .ref xp, .ref xw, .ref xy, .ref xd])), (xh, .inl (cy 4, 4, .inr (.inr (.inr (.inr (hh)))))), (h0, .inr (1, [.ref m0, .ref qk, .ref qs, .ref qc, .ref qb, .int (md), .int (bs), .int (nI (fc)), .int (nI (tk)), .int (nI (cl)), .int (nI (dp)), .int (nI (bk)), .int (nI (ib))])), (qk, .inl (cy 0, 8, .inl (kf))), (qs, .inl (cy 0, 40, .inl (sf))), (qc, .inl (cy 0, 8, .inl (cf))), (qb, .inl (cy 0, 16, .inl (bf))), (g0, .inr (1, [.ref p0, .ref pk, .ref ps, .ref pc, .ref pb, .int (md2), .int (bs2), .int (nI (fc2)), .int (nI (tk2)), .int (nI (cl2)), .int (nI (dp2)), .int (nI (bk2)), .int (nI (ib2))])), (pk, .inl (cy 0, 8, .inl (kf2))), (ps, .inl (cy 0, 40, .inl (sf2))), (pc, .inl (cy 0, 8, .inl (cf2))), (pb, .inl (cy 0, 16, .inl (bf2)))] sz) := by
  refine M_ofW (cc := cX4_copy) (maxL := 3) (ret := (some .int)) (by decide) rfl (Nat.le_of_ble_eq_true rfl) ?_
  intro p e s m below meth c A ls args Q hQ S0 hr hlocks hnm hK hst hA hW hl
  have hx := S0.1; have hb := S0.2.1; have hml := S0.2.2.1; have hown := S0.2.2.2.1; have hts := S0.2.2.2.2
  have hl : lv_has ls 3 [(0, .ref x0), (1, .int (nI (fj))), (2, .int (nI (hj)))] := hl
  refine lv_iload_n hx hb dX4_copy_0 rfl (lv_at hl 1 rfl) ?_
  refine kSi (As := [.int (nI (fj))]) (rest := []) S0 hK hst hA hW [] (fun sz => c_X4_isHasher l D cy t fj (by omega) sz) rfl (by decide) (va_cwS 1 hts gX4_copy_X4_isHasher rfl rfl rfl (by decide +kernel) ⟨Nat.le_of_ble_eq_true rfl, Nat.le_of_ble_eq_true rfl⟩) (fun _ => rfl) rfl hl.1 rfl (Nat.le_of_ble_eq_true rfl) dX4_copy_1 ⟨Nat.le_of_ble_eq_true rfl, Nat.le_of_ble_eq_true rfl⟩ (fun r1 u1 H locs p1 hW => ?_)
  have hW : Wd D A s [(x0, .inr (4, [.ref xr, .ref xh, .ref xf, .ref xp, .ref xw, .ref xy, .ref xd])), (xh, .inl (cy 4, 4, .inr (.inr (.inr (.inr (hh)))))), (h0, .inr (1, [.ref m0, .ref qk, .ref qs, .ref qc, .ref qb, .int (md), .int (bs), .int (nI (fc)), .int (nI (tk)), .int (nI (cl)), .int (nI (dp)), .int (nI (bk)), .int (nI (ib))])), (qk, .inl (cy 0, 8, .inl (kf))), (qs, .inl (cy 0, 40, .inl (sf))), (qc, .inl (cy 0, 8, .inl (cf))), (qb, .inl (cy 0, 16, .inl (bf))), (g0, .inr (1, [.ref p0, .ref pk, .ref ps, .ref pc, .ref pb, .int (md2), .int (bs2), .int (nI (fc2)), .int (nI (tk2)), .int (nI (cl2)), .int (nI (dp2)), .int (nI (bk2)), .int (nI (ib2))])), (pk, .inl (cy 0, 8, .inl (kf2))), (ps, .inl (cy 0, 40, .inl (sf2))), (pc, .inl (cy 0, 8, .inl (cf2))), (pb, .inl (cy 0, 16, .inl (bf2)))] H locs := hW
  have q1 : r1 = nI (1) := p1
  subst q1
  refine zEq (a := 1) (tgt := 14) hx hb dX4_copy_4 (by decide) (by omega) (fun h4 => ?_) (fun h4 => ?_)
  · skip
    exfalso; omega
  · skip
    refine lv_iload_n hx hb dX4_copy_7 rfl (lv_at hl 2 rfl) ?_
    refine kSi (As := [.int (nI (hj))]) (rest := []) S0 hK hst hA hW [] (fun sz => c_X4_isHasher l D cy t hj (by omega) sz) rfl (by decide) (va_cwS 1 hts gX4_copy_X4_isHasher rfl rfl rfl (by decide +kernel) ⟨Nat.le_of_ble_eq_true rfl, Nat.le_of_ble_eq_true rfl⟩) (fun _ => rfl) rfl hl.1 rfl (Nat.le_of_ble_eq_true rfl) dX4_copy_8 ⟨Nat.le_of_ble_eq_true rfl, Nat.le_of_ble_eq_true rfl⟩ (fun r8 u8 H locs p8 hW => ?_)
    have hW : Wd D A s [(x0, .inr (4, [.ref xr, .ref xh, .ref xf, .ref xp, .ref xw, .ref xy, .ref xd])), (xh, .inl (cy 4, 4, .inr (.inr (.inr (.inr (hh)))))), (h0, .inr (1, [.ref m0, .ref qk, .ref qs, .ref qc, .ref qb, .int (md), .int (bs), .int (nI (fc)), .int (nI (tk)), .int (nI (cl)), .int (nI (dp)), .int (nI (bk)), .int (nI (ib))])), (qk, .inl (cy 0, 8, .inl (kf))), (qs, .inl (cy 0, 40, .inl (sf))), (qc, .inl (cy 0, 8, .inl (cf))), (qb, .inl (cy 0, 16, .inl (bf))), (g0, .inr (1, [.ref p0, .ref pk, .ref ps, .ref pc, .ref pb, .int (md2), .int (bs2), .int (nI (fc2)), .int (nI (tk2)), .int (nI (cl2)), .int (nI (dp2)), .int (nI (bk2)), .int (nI (ib2))])), (pk, .inl (cy 0, 8, .inl (kf2))), (ps, .inl (cy 0, 40, .inl (sf2))), (pc, .inl (cy 0, 8, .inl (cf2))), (pb, .inl (cy 0, 16, .inl (bf2)))] H locs := hW
    have q8 : r8 = nI (1) := p8
    subst q8
    refine zNe (a := 1) (tgt := 17) hx hb dX4_copy_11 (by decide) (by omega) (fun h11 => ?_) (fun h11 => ?_)
    · skip
      refine lv_aload_n hx hb dX4_copy_17 rfl (lv_at hl 0 rfl) ?_
      refine va_get (D := D) (ci := 4) (v := .ref xh) (C := RX4) (T := TX4) (N := 7) hx hb hts i_X4_copy_X4 hown hK hW.1 0 rfl rfl 1 (by decide) (hts (.fieldLink RX4 17 "TreeHashes" "hashers" "[LTreeHashes$Hasher;") f_X4_copy_0) (fun _ h9 => h9) rfl dX4_copy_18 ?_
      refine lv_iload_n hx hb dX4_copy_21 rfl (lv_at hl 2 rfl) ?_
      refine rA hx hb hK hW 1 (t0 := 4) rfl rfl (k := hj) (by omega) (by decide) (hhj) dX4_copy_22 ?_
      refine lv_aload_n hx hb dX4_copy_23 rfl (lv_at hl 0 rfl) ?_
      refine va_get (D := D) (ci := 4) (v := .ref xh) (C := RX4) (T := TX4) (N := 7) hx hb hts i_X4_copy_X4 hown hK hW.1 0 rfl rfl 1 (by decide) (hts (.fieldLink RX4 17 "TreeHashes" "hashers" "[LTreeHashes$Hasher;") f_X4_copy_0) (fun _ h9 => h9) rfl dX4_copy_24 ?_
      refine lv_iload_n hx hb dX4_copy_27 rfl (lv_at hl 1 rfl) ?_
      refine rA hx hb hK hW 1 (t0 := 4) rfl rfl (k := fj) (by omega) (by decide) (hfj) dX4_copy_28 ?_
      refine kVv (As := [.ref g0]) (rest := []) S0 hK hst hA hW [2, 3, 4, 5, 6, 7, 8, 9, 10, 11] (fun sz => c_X1_becomeAs l D cy t m0 h0 qk qs qc qb md bs fc tk cl dp bk ib kf sf cf bf g0 p0 pk ps pc pb md2 bs2 fc2 tk2 cl2 dp2 bk2 ib2 kf2 sf2 cf2 bf2  sz) rfl (by decide) (cwV 1 hts gX4_copy_X1_becomeAs rfl rfl rfl (by decide +kernel) ⟨Nat.le_of_ble_eq_true rfl, Nat.le_of_ble_eq_true rfl⟩) (fun _ => rfl) 0 1 rfl rfl rfl hl.1 rfl (Nat.le_of_ble_eq_true rfl) dX4_copy_29 ⟨Nat.le_of_ble_eq_true rfl, Nat.le_of_ble_eq_true rfl⟩ (fun u29 H locs p29 hW => ?_)
      have hW : Wd D A s [(x0, .inr (4, [.ref xr, .ref xh, .ref xf, .ref xp, .ref xw, .ref xy, .ref xd])), (xh, .inl (cy 4, 4, .inr (.inr (.inr (.inr (hh)))))), (h0, .inr (1, [.ref m0, .ref qk, .ref qs, .ref qc, .ref qb, .int (md2), .int (bs2), .int (nI (fc2)), .int (nI (tk2)), .int (nI (cl2)), .int (nI (dp2)), .int (nI (bk2)), .int (nI (ib2))])), (qk, .inl (cy 0, 8, .inl (kf2))), (qs, .inl (cy 0, 40, .inl (sf2))), (qc, .inl (cy 0, 8, .inl (cf2))), (qb, .inl (cy 0, 16, .inl (bf2))), (g0, .inr (1, [.ref p0, .ref pk, .ref ps, .ref pc, .ref pb, .int (md2), .int (bs2), .int (nI (fc2)), .int (nI (tk2)), .int (nI (cl2)), .int (nI (dp2)), .int (nI (bk2)), .int (nI (ib2))])), (pk, .inl (cy 0, 8, .inl (kf2))), (ps, .inl (cy 0, 40, .inl (sf2))), (pc, .inl (cy 0, 8, .inl (cf2))), (pb, .inl (cy 0, 16, .inl (bf2)))] H locs := hW
      refine lv_aload_n hx hb dX4_copy_32 rfl (lv_at hl 0 rfl) ?_
      refine va_get (D := D) (ci := 4) (v := .ref xh) (C := RX4) (T := TX4) (N := 7) hx hb hts i_X4_copy_X4 hown hK hW.1 0 rfl rfl 1 (by decide) (hts (.fieldLink RX4 17 "TreeHashes" "hashers" "[LTreeHashes$Hasher;") f_X4_copy_0) (fun _ h9 => h9) rfl dX4_copy_33 ?_
      refine lv_iload_n hx hb dX4_copy_36 rfl (lv_at hl 2 rfl) ?_
      refine rA hx hb hK hW 1 (t0 := 4) rfl rfl (k := hj) (by omega) (by decide) (hhj) dX4_copy_37 ?_
      refine va_getN (D := D) (ci := 1) (v := .int (nI (tk2))) (C := RX1) (T := TX1) (N := 13) hx hb hts i_X4_copy_X1 hown hK hW.1 2 rfl rfl 8 (by decide) (va_Nw.use rfl (hst.2.2.1 ("TreeHashes", 89, "TreeHashes$Hasher", "taken", "I", "TreeHashes") (by decide))) (fun _ h9 => h9) rfl dX4_copy_38 ?_
      exact eI hQ hx hb hr hlocks hK hW () (rfl) (rfl) dX4_copy_41
    · skip
      exfalso; omega

theorem f_X4_copy_a_0 : Cond.fieldLink RX4 17 "TreeHashes" "hashers" "[LTreeHashes$Hasher;" ∈ wsX4_copy := by decide +kernel
theorem i_X4_copy_a_X4 : ∀ w ∈ wsX40, w ∈ wsX4_copy := by decide +kernel
theorem i_X4_copy_a_X1 : ∀ w ∈ wsX10, w ∈ wsX4_copy := by decide +kernel
set_option maxHeartbeats 4000000 in
set_option maxRecDepth 100000 in
theorem c_X4_copy_a (l : Launch) (D : va_G) (cy : Nat → ClassId) (t : Nat × Nat) (x0 : Nat) (xr : Nat) (xh : Nat) (xf : Nat) (xp : Nat) (xw : Nat) (xy : Nat) (xd : Nat) (hh : Nat → Option Nat) (hj : Nat) (m0 : Nat) (h0 : Nat) (qk : Nat) (qs : Nat) (qc : Nat) (qb : Nat) (md : Int32) (bs : Int32) (fc : Nat) (tk : Nat) (cl : Nat) (dp : Nat) (bk : Nat) (ib : Nat) (kf : Nat → Int32) (sf : Nat → Int32) (cf : Nat → Int32) (bf : Nat → Int32) (hhj : hh hj = some h0) (hj4 : hj < 4) (sz : Nat) : Met l yX4_copy wsX4_copy ({ frames := 2, cells := 0, slots := 0, locals := 43 }) (PcW D cy t [(x0, .inr (4, [.ref xr, .ref xh, .ref xf, .ref xp, .ref xw, .ref xy, .ref xd])), (xh, .inl (cy 4, 4, .inr (.inr (.inr (.inr (hh)))))), (h0, .inr (1, [.ref m0, .ref qk, .ref qs, .ref qc, .ref qb, .int (md), .int (bs), .int (nI (fc)), .int (nI (tk)), .int (nI (cl)), .int (nI (dp)), .int (nI (bk)), .int (nI (ib))])), (qk, .inl (cy 0, 8, .inl (kf))), (qs, .inl (cy 0, 40, .inl (sf))), (qc, .inl (cy 0, 8, .inl (cf))), (qb, .inl (cy 0, 16, .inl (bf)))] [.ref x0, .int (nI (hj)), .int (nI (hj))] sz) (QiA D cy (fun (r : Int32) (u : Unit) => (r = nI (tk))) (fun u : Unit => [(x0, .inr (4, [.ref xr, .ref xh, .ref xf, .ref xp, .ref xw, .ref xy, .ref xd])), (xh, .inl (cy 4, 4, .inr (.inr (.inr (.inr (hh)))))), (h0, .inr (1, [.ref m0, .ref qk, .ref qs, .ref qc, .ref qb, .int (md), .int (bs), .int (nI (fc)), .int (nI (tk)), .int (nI (cl)), .int (nI (dp)), .int (nI (bk)), .int (nI (ib))])), (qk, .inl (cy 0, 8, .inl (kf))), (qs, .inl (cy 0, 40, .inl (sf))), (qc, .inl (cy 0, 8, .inl (cf))), (qb, .inl (cy 0, 16, .inl (bf)))]) (va_A [(x0, .inr (4, [.ref xr, .ref xh, .ref xf, .ref xp, .ref xw, .ref xy, .ref xd])), (xh, .inl (cy 4, 4, .inr (.inr (.inr (.inr (hh)))))), (h0, .inr (1, [.ref m0, .ref qk, .ref qs, .ref qc, .ref qb, .int (md), .int (bs), .int (nI (fc)), .int (nI (tk)), .int (nI (cl)), .int (nI (dp)), .int (nI (bk)), .int (nI (ib))])), (qk, .inl (cy 0, 8, .inl (kf))), (qs, .inl (cy 0, 40, .inl (sf))), (qc, .inl (cy 0, 8, .inl (cf))), (qb, .inl (cy 0, 16, .inl (bf)))] sz)) 0 0 (va_A [(x0, .inr (4, [.ref xr, .ref xh, .ref xf, .ref xp, .ref xw, .ref xy, .ref xd])), (xh, .inl (cy 4, 4, .inr (.inr (.inr (.inr (hh)))))), (h0, .inr (1, [.ref m0, .ref qk, .ref qs, .ref qc, .ref qb, .int (md), .int (bs), .int (nI (fc)), .int (nI (tk)), .int (nI (cl)), .int (nI (dp)), .int (nI (bk)), .int (nI (ib))])), (qk, .inl (cy 0, 8, .inl (kf))), (qs, .inl (cy 0, 40, .inl (sf))), (qc, .inl (cy 0, 8, .inl (cf))), (qb, .inl (cy 0, 16, .inl (bf)))] sz) := by
  refine M_ofW (cc := cX4_copy) (maxL := 3) (ret := (some .int)) (by decide) rfl (Nat.le_of_ble_eq_true rfl) ?_
  intro p e s m below meth c A ls args Q hQ S0 hr hlocks hnm hK hst hA hW hl
  have hx := S0.1; have hb := S0.2.1; have hml := S0.2.2.1; have hown := S0.2.2.2.1; have hts := S0.2.2.2.2
  have hl : lv_has ls 3 [(0, .ref x0), (1, .int (nI (hj))), (2, .int (nI (hj)))] := hl
  refine lv_iload_n hx hb dX4_copy_0 rfl (lv_at hl 1 rfl) ?_
  refine kSi (As := [.int (nI (hj))]) (rest := []) S0 hK hst hA hW [] (fun sz => c_X4_isHasher l D cy t hj (by omega) sz) rfl (by decide) (va_cwS 1 hts gX4_copy_X4_isHasher rfl rfl rfl (by decide +kernel) ⟨Nat.le_of_ble_eq_true rfl, Nat.le_of_ble_eq_true rfl⟩) (fun _ => rfl) rfl hl.1 rfl (Nat.le_of_ble_eq_true rfl) dX4_copy_1 ⟨Nat.le_of_ble_eq_true rfl, Nat.le_of_ble_eq_true rfl⟩ (fun r1 u1 H locs p1 hW => ?_)
  have hW : Wd D A s [(x0, .inr (4, [.ref xr, .ref xh, .ref xf, .ref xp, .ref xw, .ref xy, .ref xd])), (xh, .inl (cy 4, 4, .inr (.inr (.inr (.inr (hh)))))), (h0, .inr (1, [.ref m0, .ref qk, .ref qs, .ref qc, .ref qb, .int (md), .int (bs), .int (nI (fc)), .int (nI (tk)), .int (nI (cl)), .int (nI (dp)), .int (nI (bk)), .int (nI (ib))])), (qk, .inl (cy 0, 8, .inl (kf))), (qs, .inl (cy 0, 40, .inl (sf))), (qc, .inl (cy 0, 8, .inl (cf))), (qb, .inl (cy 0, 16, .inl (bf)))] H locs := hW
  have q1 : r1 = nI (1) := p1
  subst q1
  refine zEq (a := 1) (tgt := 14) hx hb dX4_copy_4 (by decide) (by omega) (fun h4 => ?_) (fun h4 => ?_)
  · skip
    exfalso; omega
  · skip
    refine lv_iload_n hx hb dX4_copy_7 rfl (lv_at hl 2 rfl) ?_
    refine kSi (As := [.int (nI (hj))]) (rest := []) S0 hK hst hA hW [] (fun sz => c_X4_isHasher l D cy t hj (by omega) sz) rfl (by decide) (va_cwS 1 hts gX4_copy_X4_isHasher rfl rfl rfl (by decide +kernel) ⟨Nat.le_of_ble_eq_true rfl, Nat.le_of_ble_eq_true rfl⟩) (fun _ => rfl) rfl hl.1 rfl (Nat.le_of_ble_eq_true rfl) dX4_copy_8 ⟨Nat.le_of_ble_eq_true rfl, Nat.le_of_ble_eq_true rfl⟩ (fun r8 u8 H locs p8 hW => ?_)
    have hW : Wd D A s [(x0, .inr (4, [.ref xr, .ref xh, .ref xf, .ref xp, .ref xw, .ref xy, .ref xd])), (xh, .inl (cy 4, 4, .inr (.inr (.inr (.inr (hh)))))), (h0, .inr (1, [.ref m0, .ref qk, .ref qs, .ref qc, .ref qb, .int (md), .int (bs), .int (nI (fc)), .int (nI (tk)), .int (nI (cl)), .int (nI (dp)), .int (nI (bk)), .int (nI (ib))])), (qk, .inl (cy 0, 8, .inl (kf))), (qs, .inl (cy 0, 40, .inl (sf))), (qc, .inl (cy 0, 8, .inl (cf))), (qb, .inl (cy 0, 16, .inl (bf)))] H locs := hW
    have q8 : r8 = nI (1) := p8
    subst q8
    refine zNe (a := 1) (tgt := 17) hx hb dX4_copy_11 (by decide) (by omega) (fun h11 => ?_) (fun h11 => ?_)
    · skip
      refine lv_aload_n hx hb dX4_copy_17 rfl (lv_at hl 0 rfl) ?_
      refine va_get (D := D) (ci := 4) (v := .ref xh) (C := RX4) (T := TX4) (N := 7) hx hb hts i_X4_copy_a_X4 hown hK hW.1 0 rfl rfl 1 (by decide) (hts (.fieldLink RX4 17 "TreeHashes" "hashers" "[LTreeHashes$Hasher;") f_X4_copy_a_0) (fun _ h9 => h9) rfl dX4_copy_18 ?_
      refine lv_iload_n hx hb dX4_copy_21 rfl (lv_at hl 2 rfl) ?_
      refine rA hx hb hK hW 1 (t0 := 4) rfl rfl (k := hj) (by omega) (by decide) (hhj) dX4_copy_22 ?_
      refine lv_aload_n hx hb dX4_copy_23 rfl (lv_at hl 0 rfl) ?_
      refine va_get (D := D) (ci := 4) (v := .ref xh) (C := RX4) (T := TX4) (N := 7) hx hb hts i_X4_copy_a_X4 hown hK hW.1 0 rfl rfl 1 (by decide) (hts (.fieldLink RX4 17 "TreeHashes" "hashers" "[LTreeHashes$Hasher;") f_X4_copy_a_0) (fun _ h9 => h9) rfl dX4_copy_24 ?_
      refine lv_iload_n hx hb dX4_copy_27 rfl (lv_at hl 1 rfl) ?_
      refine rA hx hb hK hW 1 (t0 := 4) rfl rfl (k := hj) (by omega) (by decide) (hhj) dX4_copy_28 ?_
      refine kVv (As := [.ref h0]) (rest := []) S0 hK hst hA hW [2, 3, 4, 5, 6] (fun sz => c_X1_becomeAs_a l D cy t m0 h0 qk qs qc qb md bs fc tk cl dp bk ib kf sf cf bf  sz) rfl (by decide) (cwV 1 hts gX4_copy_X1_becomeAs rfl rfl rfl (by decide +kernel) ⟨Nat.le_of_ble_eq_true rfl, Nat.le_of_ble_eq_true rfl⟩) (fun _ => rfl) 0 1 rfl rfl rfl hl.1 rfl (Nat.le_of_ble_eq_true rfl) dX4_copy_29 ⟨Nat.le_of_ble_eq_true rfl, Nat.le_of_ble_eq_true rfl⟩ (fun u29 H locs p29 hW => ?_)
      have hW : Wd D A s [(x0, .inr (4, [.ref xr, .ref xh, .ref xf, .ref xp, .ref xw, .ref xy, .ref xd])), (xh, .inl (cy 4, 4, .inr (.inr (.inr (.inr (hh)))))), (h0, .inr (1, [.ref m0, .ref qk, .ref qs, .ref qc, .ref qb, .int (md), .int (bs), .int (nI (fc)), .int (nI (tk)), .int (nI (cl)), .int (nI (dp)), .int (nI (bk)), .int (nI (ib))])), (qk, .inl (cy 0, 8, .inl (kf))), (qs, .inl (cy 0, 40, .inl (sf))), (qc, .inl (cy 0, 8, .inl (cf))), (qb, .inl (cy 0, 16, .inl (bf)))] H locs := hW
      refine lv_aload_n hx hb dX4_copy_32 rfl (lv_at hl 0 rfl) ?_
      refine va_get (D := D) (ci := 4) (v := .ref xh) (C := RX4) (T := TX4) (N := 7) hx hb hts i_X4_copy_a_X4 hown hK hW.1 0 rfl rfl 1 (by decide) (hts (.fieldLink RX4 17 "TreeHashes" "hashers" "[LTreeHashes$Hasher;") f_X4_copy_a_0) (fun _ h9 => h9) rfl dX4_copy_33 ?_
      refine lv_iload_n hx hb dX4_copy_36 rfl (lv_at hl 2 rfl) ?_
      refine rA hx hb hK hW 1 (t0 := 4) rfl rfl (k := hj) (by omega) (by decide) (hhj) dX4_copy_37 ?_
      refine va_getN (D := D) (ci := 1) (v := .int (nI (tk))) (C := RX1) (T := TX1) (N := 13) hx hb hts i_X4_copy_a_X1 hown hK hW.1 2 rfl rfl 8 (by decide) (va_Nw.use rfl (hst.2.2.1 ("TreeHashes", 89, "TreeHashes$Hasher", "taken", "I", "TreeHashes") (by decide))) (fun _ h9 => h9) rfl dX4_copy_38 ?_
      exact eI hQ hx hb hr hlocks hK hW () (rfl) (rfl) dX4_copy_41
    · skip
      exfalso; omega

set_option maxHeartbeats 4000000 in
set_option maxRecDepth 100000 in
theorem c_X4_begin_b (l : Launch) (D : va_G) (cy : Nat → ClassId) (t : Nat × Nat) (x0 : Nat) (xr : Nat) (xh : Nat) (xf : Nat) (xp : Nat) (xw : Nat) (xy : Nat) (xd : Nat) (x : Int32) (y : Int32) (z : Int32) (hbd : x < 0 ∨ nI 4 ≤ x) (sz : Nat) : Met l yX4_begin wsX4_begin ({ frames := 1, cells := 0, slots := 0, locals := 20 }) (PcW D cy t [(x0, .inr (4, [.ref xr, .ref xh, .ref xf, .ref xp, .ref xw, .ref xy, .ref xd]))] [.ref x0, .int (x), .int (y), .int (z)] sz) (QiA D cy (fun (r : Int32) (u : Unit) => (r = (-2 : Int32))) (fun u : Unit => [(x0, .inr (4, [.ref xr, .ref xh, .ref xf, .ref xp, .ref xw, .ref xy, .ref xd]))]) (va_A [(x0, .inr (4, [.ref xr, .ref xh, .ref xf, .ref xp, .ref xw, .ref xy, .ref xd]))] sz)) 0 0 (va_A [(x0, .inr (4, [.ref xr, .ref xh, .ref xf, .ref xp, .ref xw, .ref xy, .ref xd]))] sz) := by
  refine M_ofW (cc := cX4_begin) (maxL := 4) (ret := (some .int)) (by decide) rfl (Nat.le_of_ble_eq_true rfl) ?_
  intro p e s m below meth c A ls args Q hQ S0 hr hlocks hnm hK hst hA hW hl
  have hx := S0.1; have hb := S0.2.1; have hml := S0.2.2.1; have hown := S0.2.2.2.1; have hts := S0.2.2.2.2
  have hl : lv_has ls 4 [(0, .ref x0), (1, .int (x)), (2, .int (y)), (3, .int (z))] := hl
  refine lv_iload_n hx hb dX4_begin_0 rfl (lv_at hl 1 rfl) ?_
  refine kSi (As := [.int (x)]) (rest := []) S0 hK hst hA hW [] (fun sz => c_X4_isHasher_b l D cy t x (hbd) sz) rfl (by decide) (va_cwS 1 hts gX4_begin_X4_isHasher rfl rfl rfl (by decide +kernel) ⟨Nat.le_of_ble_eq_true rfl, Nat.le_of_ble_eq_true rfl⟩) (fun _ => rfl) rfl hl.1 rfl (Nat.le_of_ble_eq_true rfl) dX4_begin_1 ⟨Nat.le_of_ble_eq_true rfl, Nat.le_of_ble_eq_true rfl⟩ (fun r1 u1 H locs p1 hW => ?_)
  have hW : Wd D A s [(x0, .inr (4, [.ref xr, .ref xh, .ref xf, .ref xp, .ref xw, .ref xy, .ref xd]))] H locs := hW
  have q1 : r1 = nI (0) := p1
  subst q1
  refine zNe (a := 0) (tgt := 10) hx hb dX4_begin_4 (by decide) (by omega) (fun h4 => ?_) (fun h4 => ?_)
  · skip
    exfalso; omega
  · skip
    refine lv_bipush (v := (-2 : Int32)) hx hb dX4_begin_7 (by decide) ?_
    exact eI hQ hx hb hr hlocks hK hW () (rfl) (rfl) dX4_begin_9

theorem f_X4_begin_0_0 : Cond.fieldLink RX4 17 "TreeHashes" "hashers" "[LTreeHashes$Hasher;" ∈ wsX4_begin := by decide +kernel
theorem i_X4_begin_0_X4 : ∀ w ∈ wsX40, w ∈ wsX4_begin := by decide +kernel
theorem f_X4_begin_0_2 : Cond.fieldLink RX4 71 "TreeHashes$Mix" "START" "[I" ∈ wsX4_begin := by decide +kernel
set_option maxHeartbeats 4000000 in
set_option maxRecDepth 100000 in
theorem c_X4_begin_0 (l : Launch) (D : va_G) (cy : Nat → ClassId) (t : Nat × Nat) (x0 : Nat) (xr : Nat) (xh : Nat) (xf : Nat) (xp : Nat) (xw : Nat) (xy : Nat) (xd : Nat) (hh : Nat → Option Nat) (hj : Nat) (m0 : Nat) (h0 : Nat) (qk : Nat) (qs : Nat) (qc : Nat) (qb : Nat) (md : Int32) (bs : Int32) (fc : Nat) (tk : Nat) (cl : Nat) (dp : Nat) (bk : Nat) (ib : Nat) (kf : Nat → Int32) (cf : Nat → Int32) (bf : Nat → Int32) (x : Int32) (hhj : hh hj = some h0) (hj4 : hj < 4) (sz : Nat) : Met l yX4_begin wsX4_begin ({ frames := 3, cells := 0, slots := 0, locals := 66 }) (PcW D cy t [(x0, .inr (4, [.ref xr, .ref xh, .ref xf, .ref xp, .ref xw, .ref xy, .ref xd])), (xh, .inl (cy 4, 4, .inr (.inr (.inr (.inr (hh)))))), (h0, .inr (1, [.ref m0, .ref qk, .ref qs, .ref qc, .ref qb, .int (md), .int (bs), .int (nI (fc)), .int (nI (tk)), .int (nI (cl)), .int (nI (dp)), .int (nI (bk)), .int (nI (ib))])), (qk, .inl (cy 0, 8, .inl (kf))), (qc, .inl (cy 0, 8, .inl (cf))), (qb, .inl (cy 0, 16, .inl (bf)))] [.ref x0, .int (nI (hj)), .int (nI (0)), .int (x)] sz) (QiA D cy (fun (r : Int32) (u : Unit) => (r = nI (0))) (fun u : Unit => [(x0, .inr (4, [.ref xr, .ref xh, .ref xf, .ref xp, .ref xw, .ref xy, .ref xd])), (xh, .inl (cy 4, 4, .inr (.inr (.inr (.inr (hh)))))), (h0, .inr (1, [.ref m0, .ref qk, .ref qs, .ref qc, .ref qb, .int ((nI (0))), .int ((nI (0))), .int (nI (0)), .int (nI (0)), .int (nI (0)), .int (nI (0)), .int (nI (0)), .int (nI (0))])), (qk, .inl (cy 0, 8, .inl (stA))), (qc, .inl (cy 0, 8, .inl (stA))), (qb, .inl (cy 0, 16, .inl ((fun _ => nI (0)))))]) (va_A [(x0, .inr (4, [.ref xr, .ref xh, .ref xf, .ref xp, .ref xw, .ref xy, .ref xd])), (xh, .inl (cy 4, 4, .inr (.inr (.inr (.inr (hh)))))), (h0, .inr (1, [.ref m0, .ref qk, .ref qs, .ref qc, .ref qb, .int (md), .int (bs), .int (nI (fc)), .int (nI (tk)), .int (nI (cl)), .int (nI (dp)), .int (nI (bk)), .int (nI (ib))])), (qk, .inl (cy 0, 8, .inl (kf))), (qc, .inl (cy 0, 8, .inl (cf))), (qb, .inl (cy 0, 16, .inl (bf)))] sz)) 0 0 (va_A [(x0, .inr (4, [.ref xr, .ref xh, .ref xf, .ref xp, .ref xw, .ref xy, .ref xd])), (xh, .inl (cy 4, 4, .inr (.inr (.inr (.inr (hh)))))), (h0, .inr (1, [.ref m0, .ref qk, .ref qs, .ref qc, .ref qb, .int (md), .int (bs), .int (nI (fc)), .int (nI (tk)), .int (nI (cl)), .int (nI (dp)), .int (nI (bk)), .int (nI (ib))])), (qk, .inl (cy 0, 8, .inl (kf))), (qc, .inl (cy 0, 8, .inl (cf))), (qb, .inl (cy 0, 16, .inl (bf)))] sz) := by
  refine M_ofW (cc := cX4_begin) (maxL := 4) (ret := (some .int)) (by decide) rfl (Nat.le_of_ble_eq_true rfl) ?_
  intro p e s m below meth c A ls args Q hQ S0 hr hlocks hnm hK hst hA hW hl
  have hx := S0.1; have hb := S0.2.1; have hml := S0.2.2.1; have hown := S0.2.2.2.1; have hts := S0.2.2.2.2
  have hl : lv_has ls 4 [(0, .ref x0), (1, .int (nI (hj))), (2, .int (nI (0))), (3, .int (x))] := hl
  refine lv_iload_n hx hb dX4_begin_0 rfl (lv_at hl 1 rfl) ?_
  refine kSi (As := [.int (nI (hj))]) (rest := []) S0 hK hst hA hW [] (fun sz => c_X4_isHasher l D cy t hj (by omega) sz) rfl (by decide) (va_cwS 1 hts gX4_begin_X4_isHasher rfl rfl rfl (by decide +kernel) ⟨Nat.le_of_ble_eq_true rfl, Nat.le_of_ble_eq_true rfl⟩) (fun _ => rfl) rfl hl.1 rfl (Nat.le_of_ble_eq_true rfl) dX4_begin_1 ⟨Nat.le_of_ble_eq_true rfl, Nat.le_of_ble_eq_true rfl⟩ (fun r1 u1 H locs p1 hW => ?_)
  have hW : Wd D A s [(x0, .inr (4, [.ref xr, .ref xh, .ref xf, .ref xp, .ref xw, .ref xy, .ref xd])), (xh, .inl (cy 4, 4, .inr (.inr (.inr (.inr (hh)))))), (h0, .inr (1, [.ref m0, .ref qk, .ref qs, .ref qc, .ref qb, .int (md), .int (bs), .int (nI (fc)), .int (nI (tk)), .int (nI (cl)), .int (nI (dp)), .int (nI (bk)), .int (nI (ib))])), (qk, .inl (cy 0, 8, .inl (kf))), (qc, .inl (cy 0, 8, .inl (cf))), (qb, .inl (cy 0, 16, .inl (bf)))] H locs := hW
  have q1 : r1 = nI (1) := p1
  subst q1
  refine zNe (a := 1) (tgt := 10) hx hb dX4_begin_4 (by decide) (by omega) (fun h4 => ?_) (fun h4 => ?_)
  · skip
    refine lv_iload_n hx hb dX4_begin_10 rfl (lv_at hl 2 rfl) ?_
    refine zNe (a := 0) (tgt := 31) hx hb dX4_begin_11 (by decide) (by omega) (fun h11 => ?_) (fun h11 => ?_)
    · skip
      exfalso; omega
    · skip
      refine lv_aload_n hx hb dX4_begin_14 rfl (lv_at hl 0 rfl) ?_
      refine va_get (D := D) (ci := 4) (v := .ref xh) (C := RX4) (T := TX4) (N := 7) hx hb hts i_X4_begin_0_X4 hown hK hW.1 0 rfl rfl 1 (by decide) (hts (.fieldLink RX4 17 "TreeHashes" "hashers" "[LTreeHashes$Hasher;") f_X4_begin_0_0) (fun _ h9 => h9) rfl dX4_begin_15 ?_
      refine lv_iload_n hx hb dX4_begin_18 rfl (lv_at hl 1 rfl) ?_
      refine rA hx hb hK hW 1 (t0 := 4) rfl rfl (k := hj) (by omega) (by decide) (hhj) dX4_begin_19 ?_
      refine lv_iconst (v := nI (0)) hx hb dX4_begin_20 (by decide) ?_
      refine lv_iconst (v := nI (0)) hx hb dX4_begin_21 (by decide) ?_
      refine va_gets hx hb hst.1.1 hW.2.2 hown (hts (.fieldLink RX4 71 "TreeHashes$Mix" "START" "[I") f_X4_begin_0_2) (fun _ h9 => h9) dX4_begin_22 ?_
      refine lv_iconst (v := nI (0)) hx hb dX4_begin_25 (by decide) ?_
      refine kVv (As := [.int (nI (0)), .int (nI (0)), .ref t.1, .int (nI (0))]) (rest := []) S0 hK hst hA hW [2, 3, 4, 5] (fun sz => c_X1_restart_s l D cy t m0 h0 qk qs qc qb md bs fc tk cl dp bk ib kf cf bf (nI (0)) (nI (0)) 0  sz) rfl (by decide) (cwV 4 hts gX4_begin_X1_restart rfl rfl rfl (by decide +kernel) ⟨Nat.le_of_ble_eq_true rfl, Nat.le_of_ble_eq_true rfl⟩) (fun _ => rfl) 0 1 rfl rfl rfl hl.1 rfl (Nat.le_of_ble_eq_true rfl) dX4_begin_26 ⟨Nat.le_of_ble_eq_true rfl, Nat.le_of_ble_eq_true rfl⟩ (fun u26 H locs p26 hW => ?_)
      have hW : Wd D A s [(x0, .inr (4, [.ref xr, .ref xh, .ref xf, .ref xp, .ref xw, .ref xy, .ref xd])), (xh, .inl (cy 4, 4, .inr (.inr (.inr (.inr (hh)))))), (h0, .inr (1, [.ref m0, .ref qk, .ref qs, .ref qc, .ref qb, .int ((nI (0))), .int ((nI (0))), .int (nI (0)), .int (nI (0)), .int (nI (0)), .int (nI (0)), .int (nI (0)), .int (nI (0))])), (qk, .inl (cy 0, 8, .inl (stA))), (qc, .inl (cy 0, 8, .inl (stA))), (qb, .inl (cy 0, 16, .inl ((fun _ => nI (0)))))] H locs := hW
      refine lv_iconst (v := nI (0)) hx hb dX4_begin_29 (by decide) ?_
      exact eI hQ hx hb hr hlocks hK hW () (rfl) (rfl) dX4_begin_30
  · skip
    exfalso; omega

set_option maxHeartbeats 4000000 in
set_option maxRecDepth 100000 in
theorem c_X4_begin_br (l : Launch) (D : va_G) (cy : Nat → ClassId) (t : Nat × Nat) (x0 : Nat) (xr : Nat) (xh : Nat) (xf : Nat) (xp : Nat) (xw : Nat) (xy : Nat) (xd : Nat) (hh : Nat → Option Nat) (hj : Nat) (m0 : Nat) (h0 : Nat) (qk : Nat) (qs : Nat) (qc : Nat) (qb : Nat) (md : Int32) (bs : Int32) (fc : Nat) (tk : Nat) (cl : Nat) (dp : Nat) (bk : Nat) (ib : Nat) (kf : Nat → Int32) (cf : Nat → Int32) (bf : Nat → Int32) (x : Int32) (y : Int32) (hhj : hh hj = some h0) (hj4 : hj < 4) (hy0 : ¬ y = 0) (hbd : x < 0 ∨ nI 8 ≤ x) (sz : Nat) : Met l yX4_begin wsX4_begin ({ frames := 1, cells := 0, slots := 0, locals := 20 }) (PcW D cy t [(x0, .inr (4, [.ref xr, .ref xh, .ref xf, .ref xp, .ref xw, .ref xy, .ref xd])), (xh, .inl (cy 4, 4, .inr (.inr (.inr (.inr (hh)))))), (h0, .inr (1, [.ref m0, .ref qk, .ref qs, .ref qc, .ref qb, .int (md), .int (bs), .int (nI (fc)), .int (nI (tk)), .int (nI (cl)), .int (nI (dp)), .int (nI (bk)), .int (nI (ib))])), (qk, .inl (cy 0, 8, .inl (kf))), (qc, .inl (cy 0, 8, .inl (cf))), (qb, .inl (cy 0, 16, .inl (bf)))] [.ref x0, .int (nI (hj)), .int (y), .int (x)] sz) (QiA D cy (fun (r : Int32) (u : Unit) => (r = (-2 : Int32))) (fun u : Unit => [(x0, .inr (4, [.ref xr, .ref xh, .ref xf, .ref xp, .ref xw, .ref xy, .ref xd])), (xh, .inl (cy 4, 4, .inr (.inr (.inr (.inr (hh)))))), (h0, .inr (1, [.ref m0, .ref qk, .ref qs, .ref qc, .ref qb, .int (md), .int (bs), .int (nI (fc)), .int (nI (tk)), .int (nI (cl)), .int (nI (dp)), .int (nI (bk)), .int (nI (ib))])), (qk, .inl (cy 0, 8, .inl (kf))), (qc, .inl (cy 0, 8, .inl (cf))), (qb, .inl (cy 0, 16, .inl (bf)))]) (va_A [(x0, .inr (4, [.ref xr, .ref xh, .ref xf, .ref xp, .ref xw, .ref xy, .ref xd])), (xh, .inl (cy 4, 4, .inr (.inr (.inr (.inr (hh)))))), (h0, .inr (1, [.ref m0, .ref qk, .ref qs, .ref qc, .ref qb, .int (md), .int (bs), .int (nI (fc)), .int (nI (tk)), .int (nI (cl)), .int (nI (dp)), .int (nI (bk)), .int (nI (ib))])), (qk, .inl (cy 0, 8, .inl (kf))), (qc, .inl (cy 0, 8, .inl (cf))), (qb, .inl (cy 0, 16, .inl (bf)))] sz)) 0 0 (va_A [(x0, .inr (4, [.ref xr, .ref xh, .ref xf, .ref xp, .ref xw, .ref xy, .ref xd])), (xh, .inl (cy 4, 4, .inr (.inr (.inr (.inr (hh)))))), (h0, .inr (1, [.ref m0, .ref qk, .ref qs, .ref qc, .ref qb, .int (md), .int (bs), .int (nI (fc)), .int (nI (tk)), .int (nI (cl)), .int (nI (dp)), .int (nI (bk)), .int (nI (ib))])), (qk, .inl (cy 0, 8, .inl (kf))), (qc, .inl (cy 0, 8, .inl (cf))), (qb, .inl (cy 0, 16, .inl (bf)))] sz) := by
  refine M_ofW (cc := cX4_begin) (maxL := 4) (ret := (some .int)) (by decide) rfl (Nat.le_of_ble_eq_true rfl) ?_
  intro p e s m below meth c A ls args Q hQ S0 hr hlocks hnm hK hst hA hW hl
  have hx := S0.1; have hb := S0.2.1; have hml := S0.2.2.1; have hown := S0.2.2.2.1; have hts := S0.2.2.2.2
  have hl : lv_has ls 4 [(0, .ref x0), (1, .int (nI (hj))), (2, .int (y)), (3, .int (x))] := hl
  refine lv_iload_n hx hb dX4_begin_0 rfl (lv_at hl 1 rfl) ?_
  refine kSi (As := [.int (nI (hj))]) (rest := []) S0 hK hst hA hW [] (fun sz => c_X4_isHasher l D cy t hj (by omega) sz) rfl (by decide) (va_cwS 1 hts gX4_begin_X4_isHasher rfl rfl rfl (by decide +kernel) ⟨Nat.le_of_ble_eq_true rfl, Nat.le_of_ble_eq_true rfl⟩) (fun _ => rfl) rfl hl.1 rfl (Nat.le_of_ble_eq_true rfl) dX4_begin_1 ⟨Nat.le_of_ble_eq_true rfl, Nat.le_of_ble_eq_true rfl⟩ (fun r1 u1 H locs p1 hW => ?_)
  have hW : Wd D A s [(x0, .inr (4, [.ref xr, .ref xh, .ref xf, .ref xp, .ref xw, .ref xy, .ref xd])), (xh, .inl (cy 4, 4, .inr (.inr (.inr (.inr (hh)))))), (h0, .inr (1, [.ref m0, .ref qk, .ref qs, .ref qc, .ref qb, .int (md), .int (bs), .int (nI (fc)), .int (nI (tk)), .int (nI (cl)), .int (nI (dp)), .int (nI (bk)), .int (nI (ib))])), (qk, .inl (cy 0, 8, .inl (kf))), (qc, .inl (cy 0, 8, .inl (cf))), (qb, .inl (cy 0, 16, .inl (bf)))] H locs := hW
  have q1 : r1 = nI (1) := p1
  subst q1
  refine zNe (a := 1) (tgt := 10) hx hb dX4_begin_4 (by decide) (by omega) (fun h4 => ?_) (fun h4 => ?_)
  · skip
    refine lv_iload_n hx hb dX4_begin_10 rfl (lv_at hl 2 rfl) ?_
    refine lv_if_ne (tgt := 31) hx hb dX4_begin_11 (by decide) (fun h11 => ?_) (fun h11 => ?_)
    · skip
      refine lv_iload_n hx hb dX4_begin_31 rfl (lv_at hl 3 rfl) ?_
      refine kSi (As := [.int (x)]) (rest := []) S0 hK hst hA hW [] (fun sz => c_X4_isRegister_b l D cy t x (hbd) sz) rfl (by decide) (va_cwS 1 hts gX4_begin_X4_isRegister rfl rfl rfl (by decide +kernel) ⟨Nat.le_of_ble_eq_true rfl, Nat.le_of_ble_eq_true rfl⟩) (fun _ => rfl) rfl hl.1 rfl (Nat.le_of_ble_eq_true rfl) dX4_begin_32 ⟨Nat.le_of_ble_eq_true rfl, Nat.le_of_ble_eq_true rfl⟩ (fun r32 u32 H locs p32 hW => ?_)
      have hW : Wd D A s [(x0, .inr (4, [.ref xr, .ref xh, .ref xf, .ref xp, .ref xw, .ref xy, .ref xd])), (xh, .inl (cy 4, 4, .inr (.inr (.inr (.inr (hh)))))), (h0, .inr (1, [.ref m0, .ref qk, .ref qs, .ref qc, .ref qb, .int (md), .int (bs), .int (nI (fc)), .int (nI (tk)), .int (nI (cl)), .int (nI (dp)), .int (nI (bk)), .int (nI (ib))])), (qk, .inl (cy 0, 8, .inl (kf))), (qc, .inl (cy 0, 8, .inl (cf))), (qb, .inl (cy 0, 16, .inl (bf)))] H locs := hW
      have q32 : r32 = nI (0) := p32
      subst q32
      refine zNe (a := 0) (tgt := 41) hx hb dX4_begin_35 (by decide) (by omega) (fun h35 => ?_) (fun h35 => ?_)
      · skip
        exfalso; omega
      · skip
        refine lv_bipush (v := (-2 : Int32)) hx hb dX4_begin_38 (by decide) ?_
        exact eI hQ hx hb hr hlocks hK hW () (rfl) (rfl) dX4_begin_40
    · skip
      exact absurd h11 hy0
  · skip
    exfalso; omega

theorem f_X4_begin_1_0 : Cond.fieldLink RX4 11 "TreeHashes" "registers" "[LTreeHashes$Bytes;" ∈ wsX4_begin := by decide +kernel
theorem i_X4_begin_1_X4 : ∀ w ∈ wsX40, w ∈ wsX4_begin := by decide +kernel
theorem i_X4_begin_1_X0 : ∀ w ∈ wsX00, w ∈ wsX4_begin := by decide +kernel
theorem f_X4_begin_1_3 : Cond.fieldLink RX4 43 "TreeHashes" "words" "[I" ∈ wsX4_begin := by decide +kernel
theorem f_X4_begin_1_4 : Cond.fieldLink RX4 17 "TreeHashes" "hashers" "[LTreeHashes$Hasher;" ∈ wsX4_begin := by decide +kernel
set_option maxHeartbeats 4000000 in
set_option maxRecDepth 100000 in
theorem c_X4_begin_1 (l : Launch) (D : va_G) (cy : Nat → ClassId) (t : Nat × Nat) (x0 : Nat) (xr : Nat) (xh : Nat) (xf : Nat) (xp : Nat) (xw : Nat) (xy : Nat) (xd : Nat) (hh : Nat → Option Nat) (hj : Nat) (m0 : Nat) (h0 : Nat) (qk : Nat) (qs : Nat) (qc : Nat) (qb : Nat) (md : Int32) (bs : Int32) (fc : Nat) (tk : Nat) (cl : Nat) (dp : Nat) (bk : Nat) (ib : Nat) (kf : Nat → Int32) (cf : Nat → Int32) (bf : Nat → Int32) (rr : Nat → Option Nat) (ri : Nat) (b0 : Nat) (b1 : Nat) (cnt : Nat) (f : Nat → Int32) (wd : Nat → Int32) (hhj : hh hj = some h0) (hj4 : hj < 4) (hri : rr ri = some b0) (hr8 : ri < 8) (hc : cnt ≤ 200) (h32 : cnt = 32) (sz : Nat) : Met l yX4_begin wsX4_begin ({ frames := 3, cells := 0, slots := 0, locals := 66 }) (PcW D cy t [(x0, .inr (4, [.ref xr, .ref xh, .ref xf, .ref xp, .ref xw, .ref xy, .ref xd])), (xh, .inl (cy 4, 4, .inr (.inr (.inr (.inr (hh)))))), (h0, .inr (1, [.ref m0, .ref qk, .ref qs, .ref qc, .ref qb, .int (md), .int (bs), .int (nI (fc)), .int (nI (tk)), .int (nI (cl)), .int (nI (dp)), .int (nI (bk)), .int (nI (ib))])), (qk, .inl (cy 0, 8, .inl (kf))), (qc, .inl (cy 0, 8, .inl (cf))), (qb, .inl (cy 0, 16, .inl (bf))), (xr, .inl (cy 3, 8, .inr (.inr (.inr (.inr (rr)))))), (b0, .inr (0, [.ref b1, .int (nI (cnt))])), (b1, .inl (cy 1, 200, .inl (f))), (xd, .inl (cy 0, 8, .inl (wd)))] [.ref x0, .int (nI (hj)), .int (nI (1)), .int (nI (ri))] sz) (QiA D cy (fun (r : Int32) (u : Unit) => (r = nI (0))) (fun u : Unit => [(x0, .inr (4, [.ref xr, .ref xh, .ref xf, .ref xp, .ref xw, .ref xy, .ref xd])), (xh, .inl (cy 4, 4, .inr (.inr (.inr (.inr (hh)))))), (h0, .inr (1, [.ref m0, .ref qk, .ref qs, .ref qc, .ref qb, .int ((nI (1))), .int ((nI (16))), .int (nI (0)), .int (nI (0)), .int (nI (0)), .int (nI (0)), .int (nI (0)), .int (nI (0))])), (qk, .inl (cy 0, 8, .inl ((fun k => wrd (lo8 f) (4 * k))))), (qc, .inl (cy 0, 8, .inl ((fun k => wrd (lo8 f) (4 * k))))), (qb, .inl (cy 0, 16, .inl ((fun _ => nI (0))))), (xr, .inl (cy 3, 8, .inr (.inr (.inr (.inr (rr)))))), (b0, .inr (0, [.ref b1, .int (nI (cnt))])), (b1, .inl (cy 1, 200, .inl (f))), (xd, .inl (cy 0, 8, .inl ((fun k => wrd (lo8 f) (4 * k)))))]) (va_A [(x0, .inr (4, [.ref xr, .ref xh, .ref xf, .ref xp, .ref xw, .ref xy, .ref xd])), (xh, .inl (cy 4, 4, .inr (.inr (.inr (.inr (hh)))))), (h0, .inr (1, [.ref m0, .ref qk, .ref qs, .ref qc, .ref qb, .int (md), .int (bs), .int (nI (fc)), .int (nI (tk)), .int (nI (cl)), .int (nI (dp)), .int (nI (bk)), .int (nI (ib))])), (qk, .inl (cy 0, 8, .inl (kf))), (qc, .inl (cy 0, 8, .inl (cf))), (qb, .inl (cy 0, 16, .inl (bf))), (xr, .inl (cy 3, 8, .inr (.inr (.inr (.inr (rr)))))), (b0, .inr (0, [.ref b1, .int (nI (cnt))])), (b1, .inl (cy 1, 200, .inl (f))), (xd, .inl (cy 0, 8, .inl (wd)))] sz)) 0 0 (va_A [(x0, .inr (4, [.ref xr, .ref xh, .ref xf, .ref xp, .ref xw, .ref xy, .ref xd])), (xh, .inl (cy 4, 4, .inr (.inr (.inr (.inr (hh)))))), (h0, .inr (1, [.ref m0, .ref qk, .ref qs, .ref qc, .ref qb, .int (md), .int (bs), .int (nI (fc)), .int (nI (tk)), .int (nI (cl)), .int (nI (dp)), .int (nI (bk)), .int (nI (ib))])), (qk, .inl (cy 0, 8, .inl (kf))), (qc, .inl (cy 0, 8, .inl (cf))), (qb, .inl (cy 0, 16, .inl (bf))), (xr, .inl (cy 3, 8, .inr (.inr (.inr (.inr (rr)))))), (b0, .inr (0, [.ref b1, .int (nI (cnt))])), (b1, .inl (cy 1, 200, .inl (f))), (xd, .inl (cy 0, 8, .inl (wd)))] sz) := by
  refine M_ofW (cc := cX4_begin) (maxL := 4) (ret := (some .int)) (by decide) rfl (Nat.le_of_ble_eq_true rfl) ?_
  intro p e s m below meth c A ls args Q hQ S0 hr hlocks hnm hK hst hA hW hl
  have hx := S0.1; have hb := S0.2.1; have hml := S0.2.2.1; have hown := S0.2.2.2.1; have hts := S0.2.2.2.2
  have hl : lv_has ls 4 [(0, .ref x0), (1, .int (nI (hj))), (2, .int (nI (1))), (3, .int (nI (ri)))] := hl
  refine lv_iload_n hx hb dX4_begin_0 rfl (lv_at hl 1 rfl) ?_
  refine kSi (As := [.int (nI (hj))]) (rest := []) S0 hK hst hA hW [] (fun sz => c_X4_isHasher l D cy t hj (by omega) sz) rfl (by decide) (va_cwS 1 hts gX4_begin_X4_isHasher rfl rfl rfl (by decide +kernel) ⟨Nat.le_of_ble_eq_true rfl, Nat.le_of_ble_eq_true rfl⟩) (fun _ => rfl) rfl hl.1 rfl (Nat.le_of_ble_eq_true rfl) dX4_begin_1 ⟨Nat.le_of_ble_eq_true rfl, Nat.le_of_ble_eq_true rfl⟩ (fun r1 u1 H locs p1 hW => ?_)
  have hW : Wd D A s [(x0, .inr (4, [.ref xr, .ref xh, .ref xf, .ref xp, .ref xw, .ref xy, .ref xd])), (xh, .inl (cy 4, 4, .inr (.inr (.inr (.inr (hh)))))), (h0, .inr (1, [.ref m0, .ref qk, .ref qs, .ref qc, .ref qb, .int (md), .int (bs), .int (nI (fc)), .int (nI (tk)), .int (nI (cl)), .int (nI (dp)), .int (nI (bk)), .int (nI (ib))])), (qk, .inl (cy 0, 8, .inl (kf))), (qc, .inl (cy 0, 8, .inl (cf))), (qb, .inl (cy 0, 16, .inl (bf))), (xr, .inl (cy 3, 8, .inr (.inr (.inr (.inr (rr)))))), (b0, .inr (0, [.ref b1, .int (nI (cnt))])), (b1, .inl (cy 1, 200, .inl (f))), (xd, .inl (cy 0, 8, .inl (wd)))] H locs := hW
  have q1 : r1 = nI (1) := p1
  subst q1
  refine zNe (a := 1) (tgt := 10) hx hb dX4_begin_4 (by decide) (by omega) (fun h4 => ?_) (fun h4 => ?_)
  · skip
    refine lv_iload_n hx hb dX4_begin_10 rfl (lv_at hl 2 rfl) ?_
    refine zNe (a := 1) (tgt := 31) hx hb dX4_begin_11 (by decide) (by omega) (fun h11 => ?_) (fun h11 => ?_)
    · skip
      refine lv_iload_n hx hb dX4_begin_31 rfl (lv_at hl 3 rfl) ?_
      refine kSi (As := [.int (nI (ri))]) (rest := []) S0 hK hst hA hW [] (fun sz => c_X4_isRegister l D cy t ri (by omega) sz) rfl (by decide) (va_cwS 1 hts gX4_begin_X4_isRegister rfl rfl rfl (by decide +kernel) ⟨Nat.le_of_ble_eq_true rfl, Nat.le_of_ble_eq_true rfl⟩) (fun _ => rfl) rfl hl.1 rfl (Nat.le_of_ble_eq_true rfl) dX4_begin_32 ⟨Nat.le_of_ble_eq_true rfl, Nat.le_of_ble_eq_true rfl⟩ (fun r32 u32 H locs p32 hW => ?_)
      have hW : Wd D A s [(x0, .inr (4, [.ref xr, .ref xh, .ref xf, .ref xp, .ref xw, .ref xy, .ref xd])), (xh, .inl (cy 4, 4, .inr (.inr (.inr (.inr (hh)))))), (h0, .inr (1, [.ref m0, .ref qk, .ref qs, .ref qc, .ref qb, .int (md), .int (bs), .int (nI (fc)), .int (nI (tk)), .int (nI (cl)), .int (nI (dp)), .int (nI (bk)), .int (nI (ib))])), (qk, .inl (cy 0, 8, .inl (kf))), (qc, .inl (cy 0, 8, .inl (cf))), (qb, .inl (cy 0, 16, .inl (bf))), (xr, .inl (cy 3, 8, .inr (.inr (.inr (.inr (rr)))))), (b0, .inr (0, [.ref b1, .int (nI (cnt))])), (b1, .inl (cy 1, 200, .inl (f))), (xd, .inl (cy 0, 8, .inl (wd)))] H locs := hW
      have q32 : r32 = nI (1) := p32
      subst q32
      refine zNe (a := 1) (tgt := 41) hx hb dX4_begin_35 (by decide) (by omega) (fun h35 => ?_) (fun h35 => ?_)
      · skip
        refine lv_iload_n hx hb dX4_begin_41 rfl (lv_at hl 2 rfl) ?_
        refine lv_iconst (v := nI (1)) hx hb dX4_begin_42 (by decide) ?_
        refine iNe (a := 1) (b := 1) (tgt := 93) hx hb dX4_begin_43 (by decide) (by omega) (by omega) (fun h43 => ?_) (fun h43 => ?_)
        · skip
          exfalso; omega
        · skip
          refine lv_aload_n hx hb dX4_begin_46 rfl (lv_at hl 0 rfl) ?_
          refine va_get (D := D) (ci := 4) (v := .ref xr) (C := RX4) (T := TX4) (N := 7) hx hb hts i_X4_begin_1_X4 hown hK hW.1 0 rfl rfl 0 (by decide) (hts (.fieldLink RX4 11 "TreeHashes" "registers" "[LTreeHashes$Bytes;") f_X4_begin_1_0) (fun _ h9 => h9) rfl dX4_begin_47 ?_
          refine lv_iload_n hx hb dX4_begin_50 rfl (lv_at hl 3 rfl) ?_
          refine rA hx hb hK hW 6 (t0 := 3) rfl rfl (k := ri) (by omega) (by decide) (hri) dX4_begin_51 ?_
          refine va_getN (D := D) (ci := 0) (v := .int (nI (cnt))) (C := RX0) (T := TX0) (N := 2) hx hb hts i_X4_begin_1_X0 hown hK hW.1 7 rfl rfl 1 (by decide) (va_Nw.use rfl (hst.2.2.1 ("TreeHashes", 57, "TreeHashes$Bytes", "count", "I", "TreeHashes") (by decide))) (fun _ h9 => h9) rfl dX4_begin_52 ?_
          refine lv_bipush (v := nI (32)) hx hb dX4_begin_55 (by decide) ?_
          refine iNe (a := cnt) (b := 32) (tgt := 93) hx hb dX4_begin_57 (by decide) (by omega) (by omega) (fun h57 => ?_) (fun h57 => ?_)
          · skip
            exfalso; omega
          · skip
            refine lv_aload_n hx hb dX4_begin_60 rfl (lv_at hl 0 rfl) ?_
            refine va_get (D := D) (ci := 4) (v := .ref xr) (C := RX4) (T := TX4) (N := 7) hx hb hts i_X4_begin_1_X4 hown hK hW.1 0 rfl rfl 0 (by decide) (hts (.fieldLink RX4 11 "TreeHashes" "registers" "[LTreeHashes$Bytes;") f_X4_begin_1_0) (fun _ h9 => h9) rfl dX4_begin_61 ?_
            refine lv_iload_n hx hb dX4_begin_64 rfl (lv_at hl 3 rfl) ?_
            refine rA hx hb hK hW 6 (t0 := 3) rfl rfl (k := ri) (by omega) (by decide) (hri) dX4_begin_65 ?_
            refine lv_iconst (v := nI (0)) hx hb dX4_begin_66 (by decide) ?_
            refine lv_aload_n hx hb dX4_begin_67 rfl (lv_at hl 0 rfl) ?_
            refine va_get (D := D) (ci := 4) (v := .ref xd) (C := RX4) (T := TX4) (N := 7) hx hb hts i_X4_begin_1_X4 hown hK hW.1 0 rfl rfl 6 (by decide) (hts (.fieldLink RX4 43 "TreeHashes" "words" "[I") f_X4_begin_1_3) (fun _ h9 => h9) rfl dX4_begin_68 ?_
            refine kVv (As := [.int (nI (0)), .ref xd]) (rest := []) S0 hK hst hA hW [7, 8, 9] (fun sz => c_X0_readChain l D cy t b0 b1 200 cnt f 0 xd wd (by omega) (by omega) (by omega) sz) rfl (by decide) (cwV 2 hts gX4_begin_X0_readChain rfl rfl rfl (by decide +kernel) ⟨Nat.le_of_ble_eq_true rfl, Nat.le_of_ble_eq_true rfl⟩) (fun _ => rfl) 0 0 rfl rfl rfl hl.1 rfl (Nat.le_of_ble_eq_true rfl) dX4_begin_71 ⟨Nat.le_of_ble_eq_true rfl, Nat.le_of_ble_eq_true rfl⟩ (fun u71 H locs p71 hW => ?_)
            have hW : Wd D A s [(x0, .inr (4, [.ref xr, .ref xh, .ref xf, .ref xp, .ref xw, .ref xy, .ref xd])), (xh, .inl (cy 4, 4, .inr (.inr (.inr (.inr (hh)))))), (h0, .inr (1, [.ref m0, .ref qk, .ref qs, .ref qc, .ref qb, .int (md), .int (bs), .int (nI (fc)), .int (nI (tk)), .int (nI (cl)), .int (nI (dp)), .int (nI (bk)), .int (nI (ib))])), (qk, .inl (cy 0, 8, .inl (kf))), (qc, .inl (cy 0, 8, .inl (cf))), (qb, .inl (cy 0, 16, .inl (bf))), (xr, .inl (cy 3, 8, .inr (.inr (.inr (.inr (rr)))))), (b0, .inr (0, [.ref b1, .int (nI (cnt))])), (b1, .inl (cy 1, 200, .inl (f))), (xd, .inl (cy 0, 8, .inl (apG wd 0 (fun k => wrd (lo8 f) (0 + 4 * k)) 8)))] H locs := hW
            have hW := Wd.ext hW 9 rfl ((fun k => wrd (lo8 f) (4 * k))) (fun k hk => by rw [apG_all k hk, Nat.zero_add])
            have hW : Wd D A s [(x0, .inr (4, [.ref xr, .ref xh, .ref xf, .ref xp, .ref xw, .ref xy, .ref xd])), (xh, .inl (cy 4, 4, .inr (.inr (.inr (.inr (hh)))))), (h0, .inr (1, [.ref m0, .ref qk, .ref qs, .ref qc, .ref qb, .int (md), .int (bs), .int (nI (fc)), .int (nI (tk)), .int (nI (cl)), .int (nI (dp)), .int (nI (bk)), .int (nI (ib))])), (qk, .inl (cy 0, 8, .inl (kf))), (qc, .inl (cy 0, 8, .inl (cf))), (qb, .inl (cy 0, 16, .inl (bf))), (xr, .inl (cy 3, 8, .inr (.inr (.inr (.inr (rr)))))), (b0, .inr (0, [.ref b1, .int (nI (cnt))])), (b1, .inl (cy 1, 200, .inl (f))), (xd, .inl (cy 0, 8, .inl ((fun k => wrd (lo8 f) (4 * k)))))] H locs := hW
            refine lv_aload_n hx hb dX4_begin_74 rfl (lv_at hl 0 rfl) ?_
            refine va_get (D := D) (ci := 4) (v := .ref xh) (C := RX4) (T := TX4) (N := 7) hx hb hts i_X4_begin_1_X4 hown hK hW.1 0 rfl rfl 1 (by decide) (hts (.fieldLink RX4 17 "TreeHashes" "hashers" "[LTreeHashes$Hasher;") f_X4_begin_1_4) (fun _ h9 => h9) rfl dX4_begin_75 ?_
            refine lv_iload_n hx hb dX4_begin_78 rfl (lv_at hl 1 rfl) ?_
            refine rA hx hb hK hW 1 (t0 := 4) rfl rfl (k := hj) (by omega) (by decide) (hhj) dX4_begin_79 ?_
            refine lv_iconst (v := nI (1)) hx hb dX4_begin_80 (by decide) ?_
            refine lv_bipush (v := nI (16)) hx hb dX4_begin_81 (by decide) ?_
            refine lv_aload_n hx hb dX4_begin_83 rfl (lv_at hl 0 rfl) ?_
            refine va_get (D := D) (ci := 4) (v := .ref xd) (C := RX4) (T := TX4) (N := 7) hx hb hts i_X4_begin_1_X4 hown hK hW.1 0 rfl rfl 6 (by decide) (hts (.fieldLink RX4 43 "TreeHashes" "words" "[I") f_X4_begin_1_3) (fun _ h9 => h9) rfl dX4_begin_84 ?_
            refine lv_iconst (v := nI (0)) hx hb dX4_begin_87 (by decide) ?_
            refine kVv (As := [.int (nI (1)), .int (nI (16)), .ref xd, .int (nI (0))]) (rest := []) S0 hK hst hA hW [2, 3, 4, 5, 9] (fun sz => c_X1_restart l D cy t m0 h0 qk qs qc qb md bs fc tk cl dp bk ib kf cf bf (nI (1)) (nI (16)) 0 xd (fun k => wrd (lo8 f) (4 * k))  sz) rfl (by decide) (cwV 4 hts gX4_begin_X1_restart rfl rfl rfl (by decide +kernel) ⟨Nat.le_of_ble_eq_true rfl, Nat.le_of_ble_eq_true rfl⟩) (fun _ => rfl) 0 1 rfl rfl rfl hl.1 rfl (Nat.le_of_ble_eq_true rfl) dX4_begin_88 ⟨Nat.le_of_ble_eq_true rfl, Nat.le_of_ble_eq_true rfl⟩ (fun u88 H locs p88 hW => ?_)
            have hW : Wd D A s [(x0, .inr (4, [.ref xr, .ref xh, .ref xf, .ref xp, .ref xw, .ref xy, .ref xd])), (xh, .inl (cy 4, 4, .inr (.inr (.inr (.inr (hh)))))), (h0, .inr (1, [.ref m0, .ref qk, .ref qs, .ref qc, .ref qb, .int ((nI (1))), .int ((nI (16))), .int (nI (0)), .int (nI (0)), .int (nI (0)), .int (nI (0)), .int (nI (0)), .int (nI (0))])), (qk, .inl (cy 0, 8, .inl ((fun k => wrd (lo8 f) (4 * k))))), (qc, .inl (cy 0, 8, .inl ((fun k => wrd (lo8 f) (4 * k))))), (qb, .inl (cy 0, 16, .inl ((fun _ => nI (0))))), (xr, .inl (cy 3, 8, .inr (.inr (.inr (.inr (rr)))))), (b0, .inr (0, [.ref b1, .int (nI (cnt))])), (b1, .inl (cy 1, 200, .inl (f))), (xd, .inl (cy 0, 8, .inl ((fun k => wrd (lo8 f) (4 * k)))))] H locs := hW
            refine lv_iconst (v := nI (0)) hx hb dX4_begin_91 (by decide) ?_
            exact eI hQ hx hb hr hlocks hK hW () (rfl) (rfl) dX4_begin_92
      · skip
        exfalso; omega
    · skip
      exfalso; omega
  · skip
    exfalso; omega

theorem f_X4_begin_1b_0 : Cond.fieldLink RX4 11 "TreeHashes" "registers" "[LTreeHashes$Bytes;" ∈ wsX4_begin := by decide +kernel
theorem i_X4_begin_1b_X4 : ∀ w ∈ wsX40, w ∈ wsX4_begin := by decide +kernel
theorem i_X4_begin_1b_X0 : ∀ w ∈ wsX00, w ∈ wsX4_begin := by decide +kernel
set_option maxHeartbeats 4000000 in
set_option maxRecDepth 100000 in
theorem c_X4_begin_1b (l : Launch) (D : va_G) (cy : Nat → ClassId) (t : Nat × Nat) (x0 : Nat) (xr : Nat) (xh : Nat) (xf : Nat) (xp : Nat) (xw : Nat) (xy : Nat) (xd : Nat) (hh : Nat → Option Nat) (hj : Nat) (m0 : Nat) (h0 : Nat) (qk : Nat) (qs : Nat) (qc : Nat) (qb : Nat) (md : Int32) (bs : Int32) (fc : Nat) (tk : Nat) (cl : Nat) (dp : Nat) (bk : Nat) (ib : Nat) (kf : Nat → Int32) (cf : Nat → Int32) (bf : Nat → Int32) (rr : Nat → Option Nat) (ri : Nat) (b0 : Nat) (b1 : Nat) (cnt : Nat) (f : Nat → Int32) (hhj : hh hj = some h0) (hj4 : hj < 4) (hri : rr ri = some b0) (hr8 : ri < 8) (hc : cnt ≤ 200) (h32 : cnt ≠ 32) (sz : Nat) : Met l yX4_begin wsX4_begin ({ frames := 1, cells := 0, slots := 0, locals := 20 }) (PcW D cy t [(x0, .inr (4, [.ref xr, .ref xh, .ref xf, .ref xp, .ref xw, .ref xy, .ref xd])), (xh, .inl (cy 4, 4, .inr (.inr (.inr (.inr (hh)))))), (h0, .inr (1, [.ref m0, .ref qk, .ref qs, .ref qc, .ref qb, .int (md), .int (bs), .int (nI (fc)), .int (nI (tk)), .int (nI (cl)), .int (nI (dp)), .int (nI (bk)), .int (nI (ib))])), (qk, .inl (cy 0, 8, .inl (kf))), (qc, .inl (cy 0, 8, .inl (cf))), (qb, .inl (cy 0, 16, .inl (bf))), (xr, .inl (cy 3, 8, .inr (.inr (.inr (.inr (rr)))))), (b0, .inr (0, [.ref b1, .int (nI (cnt))])), (b1, .inl (cy 1, 200, .inl (f)))] [.ref x0, .int (nI (hj)), .int (nI (1)), .int (nI (ri))] sz) (QiA D cy (fun (r : Int32) (u : Unit) => (r = (-2 : Int32))) (fun u : Unit => [(x0, .inr (4, [.ref xr, .ref xh, .ref xf, .ref xp, .ref xw, .ref xy, .ref xd])), (xh, .inl (cy 4, 4, .inr (.inr (.inr (.inr (hh)))))), (h0, .inr (1, [.ref m0, .ref qk, .ref qs, .ref qc, .ref qb, .int (md), .int (bs), .int (nI (fc)), .int (nI (tk)), .int (nI (cl)), .int (nI (dp)), .int (nI (bk)), .int (nI (ib))])), (qk, .inl (cy 0, 8, .inl (kf))), (qc, .inl (cy 0, 8, .inl (cf))), (qb, .inl (cy 0, 16, .inl (bf))), (xr, .inl (cy 3, 8, .inr (.inr (.inr (.inr (rr)))))), (b0, .inr (0, [.ref b1, .int (nI (cnt))])), (b1, .inl (cy 1, 200, .inl (f)))]) (va_A [(x0, .inr (4, [.ref xr, .ref xh, .ref xf, .ref xp, .ref xw, .ref xy, .ref xd])), (xh, .inl (cy 4, 4, .inr (.inr (.inr (.inr (hh)))))), (h0, .inr (1, [.ref m0, .ref qk, .ref qs, .ref qc, .ref qb, .int (md), .int (bs), .int (nI (fc)), .int (nI (tk)), .int (nI (cl)), .int (nI (dp)), .int (nI (bk)), .int (nI (ib))])), (qk, .inl (cy 0, 8, .inl (kf))), (qc, .inl (cy 0, 8, .inl (cf))), (qb, .inl (cy 0, 16, .inl (bf))), (xr, .inl (cy 3, 8, .inr (.inr (.inr (.inr (rr)))))), (b0, .inr (0, [.ref b1, .int (nI (cnt))])), (b1, .inl (cy 1, 200, .inl (f)))] sz)) 0 0 (va_A [(x0, .inr (4, [.ref xr, .ref xh, .ref xf, .ref xp, .ref xw, .ref xy, .ref xd])), (xh, .inl (cy 4, 4, .inr (.inr (.inr (.inr (hh)))))), (h0, .inr (1, [.ref m0, .ref qk, .ref qs, .ref qc, .ref qb, .int (md), .int (bs), .int (nI (fc)), .int (nI (tk)), .int (nI (cl)), .int (nI (dp)), .int (nI (bk)), .int (nI (ib))])), (qk, .inl (cy 0, 8, .inl (kf))), (qc, .inl (cy 0, 8, .inl (cf))), (qb, .inl (cy 0, 16, .inl (bf))), (xr, .inl (cy 3, 8, .inr (.inr (.inr (.inr (rr)))))), (b0, .inr (0, [.ref b1, .int (nI (cnt))])), (b1, .inl (cy 1, 200, .inl (f)))] sz) := by
  refine M_ofW (cc := cX4_begin) (maxL := 4) (ret := (some .int)) (by decide) rfl (Nat.le_of_ble_eq_true rfl) ?_
  intro p e s m below meth c A ls args Q hQ S0 hr hlocks hnm hK hst hA hW hl
  have hx := S0.1; have hb := S0.2.1; have hml := S0.2.2.1; have hown := S0.2.2.2.1; have hts := S0.2.2.2.2
  have hl : lv_has ls 4 [(0, .ref x0), (1, .int (nI (hj))), (2, .int (nI (1))), (3, .int (nI (ri)))] := hl
  refine lv_iload_n hx hb dX4_begin_0 rfl (lv_at hl 1 rfl) ?_
  refine kSi (As := [.int (nI (hj))]) (rest := []) S0 hK hst hA hW [] (fun sz => c_X4_isHasher l D cy t hj (by omega) sz) rfl (by decide) (va_cwS 1 hts gX4_begin_X4_isHasher rfl rfl rfl (by decide +kernel) ⟨Nat.le_of_ble_eq_true rfl, Nat.le_of_ble_eq_true rfl⟩) (fun _ => rfl) rfl hl.1 rfl (Nat.le_of_ble_eq_true rfl) dX4_begin_1 ⟨Nat.le_of_ble_eq_true rfl, Nat.le_of_ble_eq_true rfl⟩ (fun r1 u1 H locs p1 hW => ?_)
  have hW : Wd D A s [(x0, .inr (4, [.ref xr, .ref xh, .ref xf, .ref xp, .ref xw, .ref xy, .ref xd])), (xh, .inl (cy 4, 4, .inr (.inr (.inr (.inr (hh)))))), (h0, .inr (1, [.ref m0, .ref qk, .ref qs, .ref qc, .ref qb, .int (md), .int (bs), .int (nI (fc)), .int (nI (tk)), .int (nI (cl)), .int (nI (dp)), .int (nI (bk)), .int (nI (ib))])), (qk, .inl (cy 0, 8, .inl (kf))), (qc, .inl (cy 0, 8, .inl (cf))), (qb, .inl (cy 0, 16, .inl (bf))), (xr, .inl (cy 3, 8, .inr (.inr (.inr (.inr (rr)))))), (b0, .inr (0, [.ref b1, .int (nI (cnt))])), (b1, .inl (cy 1, 200, .inl (f)))] H locs := hW
  have q1 : r1 = nI (1) := p1
  subst q1
  refine zNe (a := 1) (tgt := 10) hx hb dX4_begin_4 (by decide) (by omega) (fun h4 => ?_) (fun h4 => ?_)
  · skip
    refine lv_iload_n hx hb dX4_begin_10 rfl (lv_at hl 2 rfl) ?_
    refine zNe (a := 1) (tgt := 31) hx hb dX4_begin_11 (by decide) (by omega) (fun h11 => ?_) (fun h11 => ?_)
    · skip
      refine lv_iload_n hx hb dX4_begin_31 rfl (lv_at hl 3 rfl) ?_
      refine kSi (As := [.int (nI (ri))]) (rest := []) S0 hK hst hA hW [] (fun sz => c_X4_isRegister l D cy t ri (by omega) sz) rfl (by decide) (va_cwS 1 hts gX4_begin_X4_isRegister rfl rfl rfl (by decide +kernel) ⟨Nat.le_of_ble_eq_true rfl, Nat.le_of_ble_eq_true rfl⟩) (fun _ => rfl) rfl hl.1 rfl (Nat.le_of_ble_eq_true rfl) dX4_begin_32 ⟨Nat.le_of_ble_eq_true rfl, Nat.le_of_ble_eq_true rfl⟩ (fun r32 u32 H locs p32 hW => ?_)
      have hW : Wd D A s [(x0, .inr (4, [.ref xr, .ref xh, .ref xf, .ref xp, .ref xw, .ref xy, .ref xd])), (xh, .inl (cy 4, 4, .inr (.inr (.inr (.inr (hh)))))), (h0, .inr (1, [.ref m0, .ref qk, .ref qs, .ref qc, .ref qb, .int (md), .int (bs), .int (nI (fc)), .int (nI (tk)), .int (nI (cl)), .int (nI (dp)), .int (nI (bk)), .int (nI (ib))])), (qk, .inl (cy 0, 8, .inl (kf))), (qc, .inl (cy 0, 8, .inl (cf))), (qb, .inl (cy 0, 16, .inl (bf))), (xr, .inl (cy 3, 8, .inr (.inr (.inr (.inr (rr)))))), (b0, .inr (0, [.ref b1, .int (nI (cnt))])), (b1, .inl (cy 1, 200, .inl (f)))] H locs := hW
      have q32 : r32 = nI (1) := p32
      subst q32
      refine zNe (a := 1) (tgt := 41) hx hb dX4_begin_35 (by decide) (by omega) (fun h35 => ?_) (fun h35 => ?_)
      · skip
        refine lv_iload_n hx hb dX4_begin_41 rfl (lv_at hl 2 rfl) ?_
        refine lv_iconst (v := nI (1)) hx hb dX4_begin_42 (by decide) ?_
        refine iNe (a := 1) (b := 1) (tgt := 93) hx hb dX4_begin_43 (by decide) (by omega) (by omega) (fun h43 => ?_) (fun h43 => ?_)
        · skip
          exfalso; omega
        · skip
          refine lv_aload_n hx hb dX4_begin_46 rfl (lv_at hl 0 rfl) ?_
          refine va_get (D := D) (ci := 4) (v := .ref xr) (C := RX4) (T := TX4) (N := 7) hx hb hts i_X4_begin_1b_X4 hown hK hW.1 0 rfl rfl 0 (by decide) (hts (.fieldLink RX4 11 "TreeHashes" "registers" "[LTreeHashes$Bytes;") f_X4_begin_1b_0) (fun _ h9 => h9) rfl dX4_begin_47 ?_
          refine lv_iload_n hx hb dX4_begin_50 rfl (lv_at hl 3 rfl) ?_
          refine rA hx hb hK hW 6 (t0 := 3) rfl rfl (k := ri) (by omega) (by decide) (hri) dX4_begin_51 ?_
          refine va_getN (D := D) (ci := 0) (v := .int (nI (cnt))) (C := RX0) (T := TX0) (N := 2) hx hb hts i_X4_begin_1b_X0 hown hK hW.1 7 rfl rfl 1 (by decide) (va_Nw.use rfl (hst.2.2.1 ("TreeHashes", 57, "TreeHashes$Bytes", "count", "I", "TreeHashes") (by decide))) (fun _ h9 => h9) rfl dX4_begin_52 ?_
          refine lv_bipush (v := nI (32)) hx hb dX4_begin_55 (by decide) ?_
          refine iNe (a := cnt) (b := 32) (tgt := 93) hx hb dX4_begin_57 (by decide) (by omega) (by omega) (fun h57 => ?_) (fun h57 => ?_)
          · skip
            refine lv_iload_n hx hb dX4_begin_93 rfl (lv_at hl 2 rfl) ?_
            refine lv_iconst (v := nI (2)) hx hb dX4_begin_94 (by decide) ?_
            refine iNe (a := 1) (b := 2) (tgt := 127) hx hb dX4_begin_95 (by decide) (by omega) (by omega) (fun h95 => ?_) (fun h95 => ?_)
            · skip
              refine lv_bipush (v := (-2 : Int32)) hx hb dX4_begin_127 (by decide) ?_
              exact eI hQ hx hb hr hlocks hK hW () (rfl) (rfl) dX4_begin_129
            · skip
              exfalso; omega
          · skip
            exfalso; omega
      · skip
        exfalso; omega
    · skip
      exfalso; omega
  · skip
    exfalso; omega

set_option maxHeartbeats 4000000 in
set_option maxRecDepth 100000 in
theorem c_X4_begin_bm (l : Launch) (D : va_G) (cy : Nat → ClassId) (t : Nat × Nat) (x0 : Nat) (xr : Nat) (xh : Nat) (xf : Nat) (xp : Nat) (xw : Nat) (xy : Nat) (xd : Nat) (hh : Nat → Option Nat) (hj : Nat) (m0 : Nat) (h0 : Nat) (qk : Nat) (qs : Nat) (qc : Nat) (qb : Nat) (md : Int32) (bs : Int32) (fc : Nat) (tk : Nat) (cl : Nat) (dp : Nat) (bk : Nat) (ib : Nat) (kf : Nat → Int32) (cf : Nat → Int32) (bf : Nat → Int32) (rr : Nat → Option Nat) (ri : Nat) (b0 : Nat) (b1 : Nat) (cnt : Nat) (f : Nat → Int32) (y : Int32) (hhj : hh hj = some h0) (hj4 : hj < 4) (hri : rr ri = some b0) (hr8 : ri < 8) (hc : cnt ≤ 200) (hy0 : ¬ y = 0) (hy1 : ¬ y = nI 1) (hy2 : ¬ y = nI 2) (sz : Nat) : Met l yX4_begin wsX4_begin ({ frames := 1, cells := 0, slots := 0, locals := 20 }) (PcW D cy t [(x0, .inr (4, [.ref xr, .ref xh, .ref xf, .ref xp, .ref xw, .ref xy, .ref xd])), (xh, .inl (cy 4, 4, .inr (.inr (.inr (.inr (hh)))))), (h0, .inr (1, [.ref m0, .ref qk, .ref qs, .ref qc, .ref qb, .int (md), .int (bs), .int (nI (fc)), .int (nI (tk)), .int (nI (cl)), .int (nI (dp)), .int (nI (bk)), .int (nI (ib))])), (qk, .inl (cy 0, 8, .inl (kf))), (qc, .inl (cy 0, 8, .inl (cf))), (qb, .inl (cy 0, 16, .inl (bf))), (xr, .inl (cy 3, 8, .inr (.inr (.inr (.inr (rr)))))), (b0, .inr (0, [.ref b1, .int (nI (cnt))])), (b1, .inl (cy 1, 200, .inl (f)))] [.ref x0, .int (nI (hj)), .int (y), .int (nI (ri))] sz) (QiA D cy (fun (r : Int32) (u : Unit) => (r = (-2 : Int32))) (fun u : Unit => [(x0, .inr (4, [.ref xr, .ref xh, .ref xf, .ref xp, .ref xw, .ref xy, .ref xd])), (xh, .inl (cy 4, 4, .inr (.inr (.inr (.inr (hh)))))), (h0, .inr (1, [.ref m0, .ref qk, .ref qs, .ref qc, .ref qb, .int (md), .int (bs), .int (nI (fc)), .int (nI (tk)), .int (nI (cl)), .int (nI (dp)), .int (nI (bk)), .int (nI (ib))])), (qk, .inl (cy 0, 8, .inl (kf))), (qc, .inl (cy 0, 8, .inl (cf))), (qb, .inl (cy 0, 16, .inl (bf))), (xr, .inl (cy 3, 8, .inr (.inr (.inr (.inr (rr)))))), (b0, .inr (0, [.ref b1, .int (nI (cnt))])), (b1, .inl (cy 1, 200, .inl (f)))]) (va_A [(x0, .inr (4, [.ref xr, .ref xh, .ref xf, .ref xp, .ref xw, .ref xy, .ref xd])), (xh, .inl (cy 4, 4, .inr (.inr (.inr (.inr (hh)))))), (h0, .inr (1, [.ref m0, .ref qk, .ref qs, .ref qc, .ref qb, .int (md), .int (bs), .int (nI (fc)), .int (nI (tk)), .int (nI (cl)), .int (nI (dp)), .int (nI (bk)), .int (nI (ib))])), (qk, .inl (cy 0, 8, .inl (kf))), (qc, .inl (cy 0, 8, .inl (cf))), (qb, .inl (cy 0, 16, .inl (bf))), (xr, .inl (cy 3, 8, .inr (.inr (.inr (.inr (rr)))))), (b0, .inr (0, [.ref b1, .int (nI (cnt))])), (b1, .inl (cy 1, 200, .inl (f)))] sz)) 0 0 (va_A [(x0, .inr (4, [.ref xr, .ref xh, .ref xf, .ref xp, .ref xw, .ref xy, .ref xd])), (xh, .inl (cy 4, 4, .inr (.inr (.inr (.inr (hh)))))), (h0, .inr (1, [.ref m0, .ref qk, .ref qs, .ref qc, .ref qb, .int (md), .int (bs), .int (nI (fc)), .int (nI (tk)), .int (nI (cl)), .int (nI (dp)), .int (nI (bk)), .int (nI (ib))])), (qk, .inl (cy 0, 8, .inl (kf))), (qc, .inl (cy 0, 8, .inl (cf))), (qb, .inl (cy 0, 16, .inl (bf))), (xr, .inl (cy 3, 8, .inr (.inr (.inr (.inr (rr)))))), (b0, .inr (0, [.ref b1, .int (nI (cnt))])), (b1, .inl (cy 1, 200, .inl (f)))] sz) := by
  refine M_ofW (cc := cX4_begin) (maxL := 4) (ret := (some .int)) (by decide) rfl (Nat.le_of_ble_eq_true rfl) ?_
  intro p e s m below meth c A ls args Q hQ S0 hr hlocks hnm hK hst hA hW hl
  have hx := S0.1; have hb := S0.2.1; have hml := S0.2.2.1; have hown := S0.2.2.2.1; have hts := S0.2.2.2.2
  have hl : lv_has ls 4 [(0, .ref x0), (1, .int (nI (hj))), (2, .int (y)), (3, .int (nI (ri)))] := hl
  refine lv_iload_n hx hb dX4_begin_0 rfl (lv_at hl 1 rfl) ?_
  refine kSi (As := [.int (nI (hj))]) (rest := []) S0 hK hst hA hW [] (fun sz => c_X4_isHasher l D cy t hj (by omega) sz) rfl (by decide) (va_cwS 1 hts gX4_begin_X4_isHasher rfl rfl rfl (by decide +kernel) ⟨Nat.le_of_ble_eq_true rfl, Nat.le_of_ble_eq_true rfl⟩) (fun _ => rfl) rfl hl.1 rfl (Nat.le_of_ble_eq_true rfl) dX4_begin_1 ⟨Nat.le_of_ble_eq_true rfl, Nat.le_of_ble_eq_true rfl⟩ (fun r1 u1 H locs p1 hW => ?_)
  have hW : Wd D A s [(x0, .inr (4, [.ref xr, .ref xh, .ref xf, .ref xp, .ref xw, .ref xy, .ref xd])), (xh, .inl (cy 4, 4, .inr (.inr (.inr (.inr (hh)))))), (h0, .inr (1, [.ref m0, .ref qk, .ref qs, .ref qc, .ref qb, .int (md), .int (bs), .int (nI (fc)), .int (nI (tk)), .int (nI (cl)), .int (nI (dp)), .int (nI (bk)), .int (nI (ib))])), (qk, .inl (cy 0, 8, .inl (kf))), (qc, .inl (cy 0, 8, .inl (cf))), (qb, .inl (cy 0, 16, .inl (bf))), (xr, .inl (cy 3, 8, .inr (.inr (.inr (.inr (rr)))))), (b0, .inr (0, [.ref b1, .int (nI (cnt))])), (b1, .inl (cy 1, 200, .inl (f)))] H locs := hW
  have q1 : r1 = nI (1) := p1
  subst q1
  refine zNe (a := 1) (tgt := 10) hx hb dX4_begin_4 (by decide) (by omega) (fun h4 => ?_) (fun h4 => ?_)
  · skip
    refine lv_iload_n hx hb dX4_begin_10 rfl (lv_at hl 2 rfl) ?_
    refine lv_if_ne (tgt := 31) hx hb dX4_begin_11 (by decide) (fun h11 => ?_) (fun h11 => ?_)
    · skip
      refine lv_iload_n hx hb dX4_begin_31 rfl (lv_at hl 3 rfl) ?_
      refine kSi (As := [.int (nI (ri))]) (rest := []) S0 hK hst hA hW [] (fun sz => c_X4_isRegister l D cy t ri (by omega) sz) rfl (by decide) (va_cwS 1 hts gX4_begin_X4_isRegister rfl rfl rfl (by decide +kernel) ⟨Nat.le_of_ble_eq_true rfl, Nat.le_of_ble_eq_true rfl⟩) (fun _ => rfl) rfl hl.1 rfl (Nat.le_of_ble_eq_true rfl) dX4_begin_32 ⟨Nat.le_of_ble_eq_true rfl, Nat.le_of_ble_eq_true rfl⟩ (fun r32 u32 H locs p32 hW => ?_)
      have hW : Wd D A s [(x0, .inr (4, [.ref xr, .ref xh, .ref xf, .ref xp, .ref xw, .ref xy, .ref xd])), (xh, .inl (cy 4, 4, .inr (.inr (.inr (.inr (hh)))))), (h0, .inr (1, [.ref m0, .ref qk, .ref qs, .ref qc, .ref qb, .int (md), .int (bs), .int (nI (fc)), .int (nI (tk)), .int (nI (cl)), .int (nI (dp)), .int (nI (bk)), .int (nI (ib))])), (qk, .inl (cy 0, 8, .inl (kf))), (qc, .inl (cy 0, 8, .inl (cf))), (qb, .inl (cy 0, 16, .inl (bf))), (xr, .inl (cy 3, 8, .inr (.inr (.inr (.inr (rr)))))), (b0, .inr (0, [.ref b1, .int (nI (cnt))])), (b1, .inl (cy 1, 200, .inl (f)))] H locs := hW
      have q32 : r32 = nI (1) := p32
      subst q32
      refine zNe (a := 1) (tgt := 41) hx hb dX4_begin_35 (by decide) (by omega) (fun h35 => ?_) (fun h35 => ?_)
      · skip
        refine lv_iload_n hx hb dX4_begin_41 rfl (lv_at hl 2 rfl) ?_
        refine lv_iconst (v := nI (1)) hx hb dX4_begin_42 (by decide) ?_
        refine lv_icmp_ne (tgt := 93) hx hb dX4_begin_43 (by decide) (fun h43 => ?_) (fun h43 => ?_)
        · skip
          refine lv_iload_n hx hb dX4_begin_93 rfl (lv_at hl 2 rfl) ?_
          refine lv_iconst (v := nI (2)) hx hb dX4_begin_94 (by decide) ?_
          refine lv_icmp_ne (tgt := 127) hx hb dX4_begin_95 (by decide) (fun h95 => ?_) (fun h95 => ?_)
          · skip
            refine lv_bipush (v := (-2 : Int32)) hx hb dX4_begin_127 (by decide) ?_
            exact eI hQ hx hb hr hlocks hK hW () (rfl) (rfl) dX4_begin_129
          · skip
            exact absurd h95 hy2
        · skip
          exact absurd h43 hy1
      · skip
        exfalso; omega
    · skip
      exact absurd h11 hy0
  · skip
    exfalso; omega

theorem f_X4_begin_2_0 : Cond.fieldLink RX4 11 "TreeHashes" "registers" "[LTreeHashes$Bytes;" ∈ wsX4_begin := by decide +kernel
theorem i_X4_begin_2_X4 : ∀ w ∈ wsX40, w ∈ wsX4_begin := by decide +kernel
theorem f_X4_begin_2_2 : Cond.fieldLink RX4 17 "TreeHashes" "hashers" "[LTreeHashes$Hasher;" ∈ wsX4_begin := by decide +kernel
theorem f_X4_begin_2_3 : Cond.fieldLink RX4 43 "TreeHashes" "words" "[I" ∈ wsX4_begin := by decide +kernel
set_option maxHeartbeats 4000000 in
set_option maxRecDepth 100000 in
theorem c_X4_begin_2 (l : Launch) (D : va_G) (cy : Nat → ClassId) (t : Nat × Nat) (x0 : Nat) (xr : Nat) (xh : Nat) (xf : Nat) (xp : Nat) (xw : Nat) (xy : Nat) (xd : Nat) (hh : Nat → Option Nat) (hj : Nat) (m0 : Nat) (h0 : Nat) (qk : Nat) (qs : Nat) (qc : Nat) (qb : Nat) (md : Int32) (bs : Int32) (fc : Nat) (tk : Nat) (cl : Nat) (dp : Nat) (bk : Nat) (ib : Nat) (kf : Nat → Int32) (cf : Nat → Int32) (bf : Nat → Int32) (rr : Nat → Option Nat) (ri : Nat) (b0 : Nat) (b1 : Nat) (cnt : Nat) (f : Nat → Int32) (wd : Nat → Int32) (km0 : Nat) (kmc : Nat) (kmb : Nat) (kmv : Nat) (kaw : Nat) (kan : Nat) (kct : Int64) (kln : Int32) (kfl : Int32) (kqk : Nat) (kqs : Nat) (kqc : Nat) (kqb : Nat) (kmd : Int32) (kbs : Int32) (kfc : Nat) (ktk : Nat) (kcl : Nat) (kdp : Nat) (kbk : Nat) (kib : Nat) (kkf : Nat → Int32) (ksf : Nat → Int32) (kcf : Nat → Int32) (kbf : Nat → Int32) (kch : Nat → Int32) (kbl : Nat → Int32) (kv : Nat → Int32) (kw : Nat → Int32) (knw : Nat → Int32) (hhj : hh hj = some h0) (hj4 : hj < 4) (hri : rr ri = some b0) (hr8 : ri < 8) (hc : cnt ≤ 200) (sz : Nat) : Met l yX4_begin wsX4_begin ({ frames := 6, cells := 0, slots := 0, locals := 139 }) (PcW D cy t [(x0, .inr (4, [.ref xr, .ref xh, .ref xf, .ref xp, .ref xw, .ref xy, .ref xd])), (xh, .inl (cy 4, 4, .inr (.inr (.inr (.inr (hh)))))), (h0, .inr (1, [.ref m0, .ref qk, .ref qs, .ref qc, .ref qb, .int (md), .int (bs), .int (nI (fc)), .int (nI (tk)), .int (nI (cl)), .int (nI (dp)), .int (nI (bk)), .int (nI (ib))])), (qk, .inl (cy 0, 8, .inl (kf))), (qc, .inl (cy 0, 8, .inl (cf))), (qb, .inl (cy 0, 16, .inl (bf))), (xr, .inl (cy 3, 8, .inr (.inr (.inr (.inr (rr)))))), (b0, .inr (0, [.ref b1, .int (nI (cnt))])), (b1, .inl (cy 1, 200, .inl (f))), (xd, .inl (cy 0, 8, .inl (wd))), (xw, .inr (1, [.ref km0, .ref kqk, .ref kqs, .ref kqc, .ref kqb, .int (kmd), .int (kbs), .int (nI (kfc)), .int (nI (ktk)), .int (nI (kcl)), .int (nI (kdp)), .int (nI (kbk)), .int (nI (kib))])), (kqk, .inl (cy 0, 8, .inl (kkf))), (kqs, .inl (cy 0, 40, .inl (ksf))), (kqc, .inl (cy 0, 8, .inl (kcf))), (kqb, .inl (cy 0, 16, .inl (kbf))), (km0, .inr (2, [.ref kmc, .ref kmb, .long (kct), .int (kln), .int (kfl), .ref kmv, .ref kaw, .ref kan])), (kmc, .inl (cy 0, 8, .inl (kch))), (kmb, .inl (cy 0, 16, .inl (kbl))), (kmv, .inl (cy 0, 16, .inl (kv))), (kaw, .inl (cy 0, 16, .inl (kw))), (kan, .inl (cy 0, 16, .inl (knw)))] [.ref x0, .int (nI (hj)), .int (nI (2)), .int (nI (ri))] sz) (QiA D cy (fun (r : Int32) (u : (Nat → Int32) × (Nat) × (Nat) × (Nat → Int32) × (Nat → Int32)) => match u with | (sf2, aw2, an2, w2, nw2) => (r = nI (0))) (fun u : (Nat → Int32) × (Nat) × (Nat) × (Nat → Int32) × (Nat → Int32) => match u with | (sf2, aw2, an2, w2, nw2) => [(x0, .inr (4, [.ref xr, .ref xh, .ref xf, .ref xp, .ref xw, .ref xy, .ref xd])), (xh, .inl (cy 4, 4, .inr (.inr (.inr (.inr (hh)))))), (h0, .inr (1, [.ref m0, .ref qk, .ref qs, .ref qc, .ref qb, .int ((nI (2))), .int ((nI (64))), .int (nI (0)), .int (nI (0)), .int (nI (0)), .int (nI (0)), .int (nI (0)), .int (nI (0))])), (qk, .inl (cy 0, 8, .inl ((mixV (rtN stA (nI (32)) (lo8 f) 0 cnt).1 (rtN stA (nI (32)) (lo8 f) 0 cnt).2.1 (rtN stA (nI (32)) (lo8 f) 0 cnt).2.2.1 (rtN stA (nI (32)) (lo8 f) 0 cnt).2.2.2.1 ((rtN stA (nI (32)) (lo8 f) 0 cnt).2.2.2.2 ||| (nI (8))))))), (qc, .inl (cy 0, 8, .inl ((mixV (rtN stA (nI (32)) (lo8 f) 0 cnt).1 (rtN stA (nI (32)) (lo8 f) 0 cnt).2.1 (rtN stA (nI (32)) (lo8 f) 0 cnt).2.2.1 (rtN stA (nI (32)) (lo8 f) 0 cnt).2.2.2.1 ((rtN stA (nI (32)) (lo8 f) 0 cnt).2.2.2.2 ||| (nI (8))))))), (qb, .inl (cy 0, 16, .inl ((fun _ => nI (0))))), (xr, .inl (cy 3, 8, .inr (.inr (.inr (.inr (rr)))))), (b0, .inr (0, [.ref b1, .int (nI (cnt))])), (b1, .inl (cy 1, 200, .inl (f))), (xd, .inl (cy 0, 8, .inl ((mixV (rtN stA (nI (32)) (lo8 f) 0 cnt).1 (rtN stA (nI (32)) (lo8 f) 0 cnt).2.1 (rtN stA (nI (32)) (lo8 f) 0 cnt).2.2.1 (rtN stA (nI (32)) (lo8 f) 0 cnt).2.2.2.1 ((rtN stA (nI (32)) (lo8 f) 0 cnt).2.2.2.2 ||| (nI (8))))))), (xw, .inr (1, [.ref km0, .ref kqk, .ref kqs, .ref kqc, .ref kqb, .int (nI (0)), .int (nI (32)), .int (nI (0)), .int (nI (cnt)), .int (nI (clo cnt)), .int (nI (hdp cnt)), .int (nI (hbk cnt)), .int (nI (hib cnt))])), (kqk, .inl (cy 0, 8, .inl (stA))), (kqs, .inl (cy 0, 40, .inl (sf2))), (kqc, .inl (cy 0, 8, .inl (hcf stA (nI (32)) (lo8 f) 0 cnt))), (kqb, .inl (cy 0, 16, .inl (hbf (lo8 f) cnt))), (km0, .inr (2, [.ref kmc, .ref kmb, .long ((rtN stA (nI (32)) (lo8 f) 0 cnt).2.2.1), .int ((rtN stA (nI (32)) (lo8 f) 0 cnt).2.2.2.1), .int ((rtN stA (nI (32)) (lo8 f) 0 cnt).2.2.2.2 ||| (nI (8))), .ref kmv, .ref aw2, .ref an2])), (kmc, .inl (cy 0, 8, .inl ((rtN stA (nI (32)) (lo8 f) 0 cnt).1))), (kmb, .inl (cy 0, 16, .inl ((rtN stA (nI (32)) (lo8 f) 0 cnt).2.1))), (kmv, .inl (cy 0, 16, .inl ((mixV (rtN stA (nI (32)) (lo8 f) 0 cnt).1 (rtN stA (nI (32)) (lo8 f) 0 cnt).2.1 (rtN stA (nI (32)) (lo8 f) 0 cnt).2.2.1 (rtN stA (nI (32)) (lo8 f) 0 cnt).2.2.2.1 ((rtN stA (nI (32)) (lo8 f) 0 cnt).2.2.2.2 ||| (nI (8))))))), (aw2, .inl (cy 0, 16, .inl (w2))), (an2, .inl (cy 0, 16, .inl (nw2)))]) (va_A [(x0, .inr (4, [.ref xr, .ref xh, .ref xf, .ref xp, .ref xw, .ref xy, .ref xd])), (xh, .inl (cy 4, 4, .inr (.inr (.inr (.inr (hh)))))), (h0, .inr (1, [.ref m0, .ref qk, .ref qs, .ref qc, .ref qb, .int (md), .int (bs), .int (nI (fc)), .int (nI (tk)), .int (nI (cl)), .int (nI (dp)), .int (nI (bk)), .int (nI (ib))])), (qk, .inl (cy 0, 8, .inl (kf))), (qc, .inl (cy 0, 8, .inl (cf))), (qb, .inl (cy 0, 16, .inl (bf))), (xr, .inl (cy 3, 8, .inr (.inr (.inr (.inr (rr)))))), (b0, .inr (0, [.ref b1, .int (nI (cnt))])), (b1, .inl (cy 1, 200, .inl (f))), (xd, .inl (cy 0, 8, .inl (wd))), (xw, .inr (1, [.ref km0, .ref kqk, .ref kqs, .ref kqc, .ref kqb, .int (kmd), .int (kbs), .int (nI (kfc)), .int (nI (ktk)), .int (nI (kcl)), .int (nI (kdp)), .int (nI (kbk)), .int (nI (kib))])), (kqk, .inl (cy 0, 8, .inl (kkf))), (kqs, .inl (cy 0, 40, .inl (ksf))), (kqc, .inl (cy 0, 8, .inl (kcf))), (kqb, .inl (cy 0, 16, .inl (kbf))), (km0, .inr (2, [.ref kmc, .ref kmb, .long (kct), .int (kln), .int (kfl), .ref kmv, .ref kaw, .ref kan])), (kmc, .inl (cy 0, 8, .inl (kch))), (kmb, .inl (cy 0, 16, .inl (kbl))), (kmv, .inl (cy 0, 16, .inl (kv))), (kaw, .inl (cy 0, 16, .inl (kw))), (kan, .inl (cy 0, 16, .inl (knw)))] sz)) 0 0 (va_A [(x0, .inr (4, [.ref xr, .ref xh, .ref xf, .ref xp, .ref xw, .ref xy, .ref xd])), (xh, .inl (cy 4, 4, .inr (.inr (.inr (.inr (hh)))))), (h0, .inr (1, [.ref m0, .ref qk, .ref qs, .ref qc, .ref qb, .int (md), .int (bs), .int (nI (fc)), .int (nI (tk)), .int (nI (cl)), .int (nI (dp)), .int (nI (bk)), .int (nI (ib))])), (qk, .inl (cy 0, 8, .inl (kf))), (qc, .inl (cy 0, 8, .inl (cf))), (qb, .inl (cy 0, 16, .inl (bf))), (xr, .inl (cy 3, 8, .inr (.inr (.inr (.inr (rr)))))), (b0, .inr (0, [.ref b1, .int (nI (cnt))])), (b1, .inl (cy 1, 200, .inl (f))), (xd, .inl (cy 0, 8, .inl (wd))), (xw, .inr (1, [.ref km0, .ref kqk, .ref kqs, .ref kqc, .ref kqb, .int (kmd), .int (kbs), .int (nI (kfc)), .int (nI (ktk)), .int (nI (kcl)), .int (nI (kdp)), .int (nI (kbk)), .int (nI (kib))])), (kqk, .inl (cy 0, 8, .inl (kkf))), (kqs, .inl (cy 0, 40, .inl (ksf))), (kqc, .inl (cy 0, 8, .inl (kcf))), (kqb, .inl (cy 0, 16, .inl (kbf))), (km0, .inr (2, [.ref kmc, .ref kmb, .long (kct), .int (kln), .int (kfl), .ref kmv, .ref kaw, .ref kan])), (kmc, .inl (cy 0, 8, .inl (kch))), (kmb, .inl (cy 0, 16, .inl (kbl))), (kmv, .inl (cy 0, 16, .inl (kv))), (kaw, .inl (cy 0, 16, .inl (kw))), (kan, .inl (cy 0, 16, .inl (knw)))] sz) := by
  refine M_ofW (cc := cX4_begin) (maxL := 4) (ret := (some .int)) (by decide) rfl (Nat.le_of_ble_eq_true rfl) ?_
  intro p e s m below meth c A ls args Q hQ S0 hr hlocks hnm hK hst hA hW hl
  have hx := S0.1; have hb := S0.2.1; have hml := S0.2.2.1; have hown := S0.2.2.2.1; have hts := S0.2.2.2.2
  have hl : lv_has ls 4 [(0, .ref x0), (1, .int (nI (hj))), (2, .int (nI (2))), (3, .int (nI (ri)))] := hl
  refine lv_iload_n hx hb dX4_begin_0 rfl (lv_at hl 1 rfl) ?_
  refine kSi (As := [.int (nI (hj))]) (rest := []) S0 hK hst hA hW [] (fun sz => c_X4_isHasher l D cy t hj (by omega) sz) rfl (by decide) (va_cwS 1 hts gX4_begin_X4_isHasher rfl rfl rfl (by decide +kernel) ⟨Nat.le_of_ble_eq_true rfl, Nat.le_of_ble_eq_true rfl⟩) (fun _ => rfl) rfl hl.1 rfl (Nat.le_of_ble_eq_true rfl) dX4_begin_1 ⟨Nat.le_of_ble_eq_true rfl, Nat.le_of_ble_eq_true rfl⟩ (fun r1 u1 H locs p1 hW => ?_)
  have hW : Wd D A s [(x0, .inr (4, [.ref xr, .ref xh, .ref xf, .ref xp, .ref xw, .ref xy, .ref xd])), (xh, .inl (cy 4, 4, .inr (.inr (.inr (.inr (hh)))))), (h0, .inr (1, [.ref m0, .ref qk, .ref qs, .ref qc, .ref qb, .int (md), .int (bs), .int (nI (fc)), .int (nI (tk)), .int (nI (cl)), .int (nI (dp)), .int (nI (bk)), .int (nI (ib))])), (qk, .inl (cy 0, 8, .inl (kf))), (qc, .inl (cy 0, 8, .inl (cf))), (qb, .inl (cy 0, 16, .inl (bf))), (xr, .inl (cy 3, 8, .inr (.inr (.inr (.inr (rr)))))), (b0, .inr (0, [.ref b1, .int (nI (cnt))])), (b1, .inl (cy 1, 200, .inl (f))), (xd, .inl (cy 0, 8, .inl (wd))), (xw, .inr (1, [.ref km0, .ref kqk, .ref kqs, .ref kqc, .ref kqb, .int (kmd), .int (kbs), .int (nI (kfc)), .int (nI (ktk)), .int (nI (kcl)), .int (nI (kdp)), .int (nI (kbk)), .int (nI (kib))])), (kqk, .inl (cy 0, 8, .inl (kkf))), (kqs, .inl (cy 0, 40, .inl (ksf))), (kqc, .inl (cy 0, 8, .inl (kcf))), (kqb, .inl (cy 0, 16, .inl (kbf))), (km0, .inr (2, [.ref kmc, .ref kmb, .long (kct), .int (kln), .int (kfl), .ref kmv, .ref kaw, .ref kan])), (kmc, .inl (cy 0, 8, .inl (kch))), (kmb, .inl (cy 0, 16, .inl (kbl))), (kmv, .inl (cy 0, 16, .inl (kv))), (kaw, .inl (cy 0, 16, .inl (kw))), (kan, .inl (cy 0, 16, .inl (knw)))] H locs := hW
  have q1 : r1 = nI (1) := p1
  subst q1
  refine zNe (a := 1) (tgt := 10) hx hb dX4_begin_4 (by decide) (by omega) (fun h4 => ?_) (fun h4 => ?_)
  · skip
    refine lv_iload_n hx hb dX4_begin_10 rfl (lv_at hl 2 rfl) ?_
    refine zNe (a := 2) (tgt := 31) hx hb dX4_begin_11 (by decide) (by omega) (fun h11 => ?_) (fun h11 => ?_)
    · skip
      refine lv_iload_n hx hb dX4_begin_31 rfl (lv_at hl 3 rfl) ?_
      refine kSi (As := [.int (nI (ri))]) (rest := []) S0 hK hst hA hW [] (fun sz => c_X4_isRegister l D cy t ri (by omega) sz) rfl (by decide) (va_cwS 1 hts gX4_begin_X4_isRegister rfl rfl rfl (by decide +kernel) ⟨Nat.le_of_ble_eq_true rfl, Nat.le_of_ble_eq_true rfl⟩) (fun _ => rfl) rfl hl.1 rfl (Nat.le_of_ble_eq_true rfl) dX4_begin_32 ⟨Nat.le_of_ble_eq_true rfl, Nat.le_of_ble_eq_true rfl⟩ (fun r32 u32 H locs p32 hW => ?_)
      have hW : Wd D A s [(x0, .inr (4, [.ref xr, .ref xh, .ref xf, .ref xp, .ref xw, .ref xy, .ref xd])), (xh, .inl (cy 4, 4, .inr (.inr (.inr (.inr (hh)))))), (h0, .inr (1, [.ref m0, .ref qk, .ref qs, .ref qc, .ref qb, .int (md), .int (bs), .int (nI (fc)), .int (nI (tk)), .int (nI (cl)), .int (nI (dp)), .int (nI (bk)), .int (nI (ib))])), (qk, .inl (cy 0, 8, .inl (kf))), (qc, .inl (cy 0, 8, .inl (cf))), (qb, .inl (cy 0, 16, .inl (bf))), (xr, .inl (cy 3, 8, .inr (.inr (.inr (.inr (rr)))))), (b0, .inr (0, [.ref b1, .int (nI (cnt))])), (b1, .inl (cy 1, 200, .inl (f))), (xd, .inl (cy 0, 8, .inl (wd))), (xw, .inr (1, [.ref km0, .ref kqk, .ref kqs, .ref kqc, .ref kqb, .int (kmd), .int (kbs), .int (nI (kfc)), .int (nI (ktk)), .int (nI (kcl)), .int (nI (kdp)), .int (nI (kbk)), .int (nI (kib))])), (kqk, .inl (cy 0, 8, .inl (kkf))), (kqs, .inl (cy 0, 40, .inl (ksf))), (kqc, .inl (cy 0, 8, .inl (kcf))), (kqb, .inl (cy 0, 16, .inl (kbf))), (km0, .inr (2, [.ref kmc, .ref kmb, .long (kct), .int (kln), .int (kfl), .ref kmv, .ref kaw, .ref kan])), (kmc, .inl (cy 0, 8, .inl (kch))), (kmb, .inl (cy 0, 16, .inl (kbl))), (kmv, .inl (cy 0, 16, .inl (kv))), (kaw, .inl (cy 0, 16, .inl (kw))), (kan, .inl (cy 0, 16, .inl (knw)))] H locs := hW
      have q32 : r32 = nI (1) := p32
      subst q32
      refine zNe (a := 1) (tgt := 41) hx hb dX4_begin_35 (by decide) (by omega) (fun h35 => ?_) (fun h35 => ?_)
      · skip
        refine lv_iload_n hx hb dX4_begin_41 rfl (lv_at hl 2 rfl) ?_
        refine lv_iconst (v := nI (1)) hx hb dX4_begin_42 (by decide) ?_
        refine iNe (a := 2) (b := 1) (tgt := 93) hx hb dX4_begin_43 (by decide) (by omega) (by omega) (fun h43 => ?_) (fun h43 => ?_)
        · skip
          refine lv_iload_n hx hb dX4_begin_93 rfl (lv_at hl 2 rfl) ?_
          refine lv_iconst (v := nI (2)) hx hb dX4_begin_94 (by decide) ?_
          refine iNe (a := 2) (b := 2) (tgt := 127) hx hb dX4_begin_95 (by decide) (by omega) (by omega) (fun h95 => ?_) (fun h95 => ?_)
          · skip
            exfalso; omega
          · skip
            refine lv_aload_n hx hb dX4_begin_98 rfl (lv_at hl 0 rfl) ?_
            refine lv_aload_n hx hb dX4_begin_99 rfl (lv_at hl 0 rfl) ?_
            refine va_get (D := D) (ci := 4) (v := .ref xr) (C := RX4) (T := TX4) (N := 7) hx hb hts i_X4_begin_2_X4 hown hK hW.1 0 rfl rfl 0 (by decide) (hts (.fieldLink RX4 11 "TreeHashes" "registers" "[LTreeHashes$Bytes;") f_X4_begin_2_0) (fun _ h9 => h9) rfl dX4_begin_100 ?_
            refine lv_iload_n hx hb dX4_begin_103 rfl (lv_at hl 3 rfl) ?_
            refine rA hx hb hK hW 6 (t0 := 3) rfl rfl (k := ri) (by omega) (by decide) (hri) dX4_begin_104 ?_
            refine kVv (As := [.ref b0]) (rest := []) S0 hK hst hA hW [0, 10, 11, 12, 13, 14, 15, 16, 17, 18, 19, 20, 7, 8, 9] (fun sz => c_X4_deriveKey l D cy t x0 xr xh xf xp xw xy xd km0 kmc kmb kmv kaw kan kct kln kfl kqk kqs kqc kqb kmd kbs kfc ktk kcl kdp kbk kib kkf ksf kcf kbf kch kbl kv kw knw b0 b1 cnt f wd (by omega) sz) rfl (by decide) (cwV 1 hts gX4_begin_X4_deriveKey rfl rfl rfl (by decide +kernel) ⟨Nat.le_of_ble_eq_true rfl, Nat.le_of_ble_eq_true rfl⟩) (fun ⟨_, _, _, _, _⟩ => rfl) 0 4 rfl rfl rfl hl.1 rfl (Nat.le_of_ble_eq_true rfl) dX4_begin_105 ⟨Nat.le_of_ble_eq_true rfl, Nat.le_of_ble_eq_true rfl⟩ (fun u105 H locs p105 hW => ?_)
            obtain ⟨sf2_105, aw2_105, an2_105, w2_105, nw2_105⟩ := u105
            have hW : Wd D A s [(x0, .inr (4, [.ref xr, .ref xh, .ref xf, .ref xp, .ref xw, .ref xy, .ref xd])), (xh, .inl (cy 4, 4, .inr (.inr (.inr (.inr (hh)))))), (h0, .inr (1, [.ref m0, .ref qk, .ref qs, .ref qc, .ref qb, .int (md), .int (bs), .int (nI (fc)), .int (nI (tk)), .int (nI (cl)), .int (nI (dp)), .int (nI (bk)), .int (nI (ib))])), (qk, .inl (cy 0, 8, .inl (kf))), (qc, .inl (cy 0, 8, .inl (cf))), (qb, .inl (cy 0, 16, .inl (bf))), (xr, .inl (cy 3, 8, .inr (.inr (.inr (.inr (rr)))))), (b0, .inr (0, [.ref b1, .int (nI (cnt))])), (b1, .inl (cy 1, 200, .inl (f))), (xd, .inl (cy 0, 8, .inl ((mixV (rtN stA (nI (32)) (lo8 f) 0 cnt).1 (rtN stA (nI (32)) (lo8 f) 0 cnt).2.1 (rtN stA (nI (32)) (lo8 f) 0 cnt).2.2.1 (rtN stA (nI (32)) (lo8 f) 0 cnt).2.2.2.1 ((rtN stA (nI (32)) (lo8 f) 0 cnt).2.2.2.2 ||| (nI (8))))))), (xw, .inr (1, [.ref km0, .ref kqk, .ref kqs, .ref kqc, .ref kqb, .int (nI (0)), .int (nI (32)), .int (nI (0)), .int (nI (cnt)), .int (nI (clo cnt)), .int (nI (hdp cnt)), .int (nI (hbk cnt)), .int (nI (hib cnt))])), (kqk, .inl (cy 0, 8, .inl (stA))), (kqs, .inl (cy 0, 40, .inl (sf2_105))), (kqc, .inl (cy 0, 8, .inl (hcf stA (nI (32)) (lo8 f) 0 cnt))), (kqb, .inl (cy 0, 16, .inl (hbf (lo8 f) cnt))), (km0, .inr (2, [.ref kmc, .ref kmb, .long ((rtN stA (nI (32)) (lo8 f) 0 cnt).2.2.1), .int ((rtN stA (nI (32)) (lo8 f) 0 cnt).2.2.2.1), .int ((rtN stA (nI (32)) (lo8 f) 0 cnt).2.2.2.2 ||| (nI (8))), .ref kmv, .ref aw2_105, .ref an2_105])), (kmc, .inl (cy 0, 8, .inl ((rtN stA (nI (32)) (lo8 f) 0 cnt).1))), (kmb, .inl (cy 0, 16, .inl ((rtN stA (nI (32)) (lo8 f) 0 cnt).2.1))), (kmv, .inl (cy 0, 16, .inl ((mixV (rtN stA (nI (32)) (lo8 f) 0 cnt).1 (rtN stA (nI (32)) (lo8 f) 0 cnt).2.1 (rtN stA (nI (32)) (lo8 f) 0 cnt).2.2.1 (rtN stA (nI (32)) (lo8 f) 0 cnt).2.2.2.1 ((rtN stA (nI (32)) (lo8 f) 0 cnt).2.2.2.2 ||| (nI (8))))))), (aw2_105, .inl (cy 0, 16, .inl (w2_105))), (an2_105, .inl (cy 0, 16, .inl (nw2_105)))] H locs := hW
            refine lv_aload_n hx hb dX4_begin_108 rfl (lv_at hl 0 rfl) ?_
            refine va_get (D := D) (ci := 4) (v := .ref xh) (C := RX4) (T := TX4) (N := 7) hx hb hts i_X4_begin_2_X4 hown hK hW.1 0 rfl rfl 1 (by decide) (hts (.fieldLink RX4 17 "TreeHashes" "hashers" "[LTreeHashes$Hasher;") f_X4_begin_2_2) (fun _ h9 => h9) rfl dX4_begin_109 ?_
            refine lv_iload_n hx hb dX4_begin_112 rfl (lv_at hl 1 rfl) ?_
            refine rA hx hb hK hW 1 (t0 := 4) rfl rfl (k := hj) (by omega) (by decide) (hhj) dX4_begin_113 ?_
            refine lv_iconst (v := nI (2)) hx hb dX4_begin_114 (by decide) ?_
            refine lv_bipush (v := nI (64)) hx hb dX4_begin_115 (by decide) ?_
            refine lv_aload_n hx hb dX4_begin_117 rfl (lv_at hl 0 rfl) ?_
            refine va_get (D := D) (ci := 4) (v := .ref xd) (C := RX4) (T := TX4) (N := 7) hx hb hts i_X4_begin_2_X4 hown hK hW.1 0 rfl rfl 6 (by decide) (hts (.fieldLink RX4 43 "TreeHashes" "words" "[I") f_X4_begin_2_3) (fun _ h9 => h9) rfl dX4_begin_118 ?_
            refine lv_iconst (v := nI (0)) hx hb dX4_begin_121 (by decide) ?_
            refine kVv (As := [.int (nI (2)), .int (nI (64)), .ref xd, .int (nI (0))]) (rest := []) S0 hK hst hA hW [2, 3, 4, 5, 9] (fun sz => c_X1_restart l D cy t m0 h0 qk qs qc qb md bs fc tk cl dp bk ib kf cf bf (nI (2)) (nI (64)) 0 xd (mixV (rtN stA (nI (32)) (lo8 f) 0 cnt).1 (rtN stA (nI (32)) (lo8 f) 0 cnt).2.1 (rtN stA (nI (32)) (lo8 f) 0 cnt).2.2.1 (rtN stA (nI (32)) (lo8 f) 0 cnt).2.2.2.1 ((rtN stA (nI (32)) (lo8 f) 0 cnt).2.2.2.2 ||| (nI (8))))  sz) rfl (by decide) (cwV 4 hts gX4_begin_X1_restart rfl rfl rfl (by decide +kernel) ⟨Nat.le_of_ble_eq_true rfl, Nat.le_of_ble_eq_true rfl⟩) (fun _ => rfl) 0 1 rfl rfl rfl hl.1 rfl (Nat.le_of_ble_eq_true rfl) dX4_begin_122 ⟨Nat.le_of_ble_eq_true rfl, Nat.le_of_ble_eq_true rfl⟩ (fun u122 H locs p122 hW => ?_)
            have hW : Wd D A s [(x0, .inr (4, [.ref xr, .ref xh, .ref xf, .ref xp, .ref xw, .ref xy, .ref xd])), (xh, .inl (cy 4, 4, .inr (.inr (.inr (.inr (hh)))))), (h0, .inr (1, [.ref m0, .ref qk, .ref qs, .ref qc, .ref qb, .int ((nI (2))), .int ((nI (64))), .int (nI (0)), .int (nI (0)), .int (nI (0)), .int (nI (0)), .int (nI (0)), .int (nI (0))])), (qk, .inl (cy 0, 8, .inl ((mixV (rtN stA (nI (32)) (lo8 f) 0 cnt).1 (rtN stA (nI (32)) (lo8 f) 0 cnt).2.1 (rtN stA (nI (32)) (lo8 f) 0 cnt).2.2.1 (rtN stA (nI (32)) (lo8 f) 0 cnt).2.2.2.1 ((rtN stA (nI (32)) (lo8 f) 0 cnt).2.2.2.2 ||| (nI (8))))))), (qc, .inl (cy 0, 8, .inl ((mixV (rtN stA (nI (32)) (lo8 f) 0 cnt).1 (rtN stA (nI (32)) (lo8 f) 0 cnt).2.1 (rtN stA (nI (32)) (lo8 f) 0 cnt).2.2.1 (rtN stA (nI (32)) (lo8 f) 0 cnt).2.2.2.1 ((rtN stA (nI (32)) (lo8 f) 0 cnt).2.2.2.2 ||| (nI (8))))))), (qb, .inl (cy 0, 16, .inl ((fun _ => nI (0))))), (xr, .inl (cy 3, 8, .inr (.inr (.inr (.inr (rr)))))), (b0, .inr (0, [.ref b1, .int (nI (cnt))])), (b1, .inl (cy 1, 200, .inl (f))), (xd, .inl (cy 0, 8, .inl ((mixV (rtN stA (nI (32)) (lo8 f) 0 cnt).1 (rtN stA (nI (32)) (lo8 f) 0 cnt).2.1 (rtN stA (nI (32)) (lo8 f) 0 cnt).2.2.1 (rtN stA (nI (32)) (lo8 f) 0 cnt).2.2.2.1 ((rtN stA (nI (32)) (lo8 f) 0 cnt).2.2.2.2 ||| (nI (8))))))), (xw, .inr (1, [.ref km0, .ref kqk, .ref kqs, .ref kqc, .ref kqb, .int (nI (0)), .int (nI (32)), .int (nI (0)), .int (nI (cnt)), .int (nI (clo cnt)), .int (nI (hdp cnt)), .int (nI (hbk cnt)), .int (nI (hib cnt))])), (kqk, .inl (cy 0, 8, .inl (stA))), (kqs, .inl (cy 0, 40, .inl (sf2_105))), (kqc, .inl (cy 0, 8, .inl (hcf stA (nI (32)) (lo8 f) 0 cnt))), (kqb, .inl (cy 0, 16, .inl (hbf (lo8 f) cnt))), (km0, .inr (2, [.ref kmc, .ref kmb, .long ((rtN stA (nI (32)) (lo8 f) 0 cnt).2.2.1), .int ((rtN stA (nI (32)) (lo8 f) 0 cnt).2.2.2.1), .int ((rtN stA (nI (32)) (lo8 f) 0 cnt).2.2.2.2 ||| (nI (8))), .ref kmv, .ref aw2_105, .ref an2_105])), (kmc, .inl (cy 0, 8, .inl ((rtN stA (nI (32)) (lo8 f) 0 cnt).1))), (kmb, .inl (cy 0, 16, .inl ((rtN stA (nI (32)) (lo8 f) 0 cnt).2.1))), (kmv, .inl (cy 0, 16, .inl ((mixV (rtN stA (nI (32)) (lo8 f) 0 cnt).1 (rtN stA (nI (32)) (lo8 f) 0 cnt).2.1 (rtN stA (nI (32)) (lo8 f) 0 cnt).2.2.1 (rtN stA (nI (32)) (lo8 f) 0 cnt).2.2.2.1 ((rtN stA (nI (32)) (lo8 f) 0 cnt).2.2.2.2 ||| (nI (8))))))), (aw2_105, .inl (cy 0, 16, .inl (w2_105))), (an2_105, .inl (cy 0, 16, .inl (nw2_105)))] H locs := hW
            refine lv_iconst (v := nI (0)) hx hb dX4_begin_125 (by decide) ?_
            exact eI hQ hx hb hr hlocks hK hW (sf2_105, aw2_105, an2_105, w2_105, nw2_105) (rfl) (rfl) dX4_begin_126
        · skip
          exfalso; omega
      · skip
        exfalso; omega
    · skip
      exfalso; omega
  · skip
    exfalso; omega

set_option maxHeartbeats 4000000 in
set_option maxRecDepth 100000 in
theorem c_X4_take_b (l : Launch) (D : va_G) (cy : Nat → ClassId) (t : Nat × Nat) (x0 : Nat) (xr : Nat) (xh : Nat) (xf : Nat) (xp : Nat) (xw : Nat) (xy : Nat) (xd : Nat) (x : Int32) (y : Int32) (hbd : x < 0 ∨ nI 4 ≤ x) (sz : Nat) : Met l yX4_take wsX4_take ({ frames := 1, cells := 0, slots := 0, locals := 20 }) (PcW D cy t [(x0, .inr (4, [.ref xr, .ref xh, .ref xf, .ref xp, .ref xw, .ref xy, .ref xd]))] [.ref x0, .int (x), .int (y)] sz) (QiA D cy (fun (r : Int32) (u : Unit) => (r = (-2 : Int32))) (fun u : Unit => [(x0, .inr (4, [.ref xr, .ref xh, .ref xf, .ref xp, .ref xw, .ref xy, .ref xd]))]) (va_A [(x0, .inr (4, [.ref xr, .ref xh, .ref xf, .ref xp, .ref xw, .ref xy, .ref xd]))] sz)) 0 0 (va_A [(x0, .inr (4, [.ref xr, .ref xh, .ref xf, .ref xp, .ref xw, .ref xy, .ref xd]))] sz) := by
  refine M_ofW (cc := cX4_take) (maxL := 3) (ret := (some .int)) (by decide) rfl (Nat.le_of_ble_eq_true rfl) ?_
  intro p e s m below meth c A ls args Q hQ S0 hr hlocks hnm hK hst hA hW hl
  have hx := S0.1; have hb := S0.2.1; have hml := S0.2.2.1; have hown := S0.2.2.2.1; have hts := S0.2.2.2.2
  have hl : lv_has ls 3 [(0, .ref x0), (1, .int (x)), (2, .int (y))] := hl
  refine lv_iload_n hx hb dX4_take_0 rfl (lv_at hl 1 rfl) ?_
  refine kSi (As := [.int (x)]) (rest := []) S0 hK hst hA hW [] (fun sz => c_X4_isHasher_b l D cy t x (hbd) sz) rfl (by decide) (va_cwS 1 hts gX4_take_X4_isHasher rfl rfl rfl (by decide +kernel) ⟨Nat.le_of_ble_eq_true rfl, Nat.le_of_ble_eq_true rfl⟩) (fun _ => rfl) rfl hl.1 rfl (Nat.le_of_ble_eq_true rfl) dX4_take_1 ⟨Nat.le_of_ble_eq_true rfl, Nat.le_of_ble_eq_true rfl⟩ (fun r1 u1 H locs p1 hW => ?_)
  have hW : Wd D A s [(x0, .inr (4, [.ref xr, .ref xh, .ref xf, .ref xp, .ref xw, .ref xy, .ref xd]))] H locs := hW
  have q1 : r1 = nI (0) := p1
  subst q1
  refine zEq (a := 0) (tgt := 14) hx hb dX4_take_4 (by decide) (by omega) (fun h4 => ?_) (fun h4 => ?_)
  · skip
    refine lv_bipush (v := (-2 : Int32)) hx hb dX4_take_14 (by decide) ?_
    exact eI hQ hx hb hr hlocks hK hW () (rfl) (rfl) dX4_take_16
  · skip
    exfalso; omega

set_option maxHeartbeats 4000000 in
set_option maxRecDepth 100000 in
theorem c_X4_take_b2 (l : Launch) (D : va_G) (cy : Nat → ClassId) (t : Nat × Nat) (x0 : Nat) (xr : Nat) (xh : Nat) (xf : Nat) (xp : Nat) (xw : Nat) (xy : Nat) (xd : Nat) (hh : Nat → Option Nat) (hj : Nat) (m0 : Nat) (h0 : Nat) (qk : Nat) (qs : Nat) (qc : Nat) (qb : Nat) (md : Int32) (bs : Int32) (fc : Nat) (tk : Nat) (cl : Nat) (dp : Nat) (bk : Nat) (ib : Nat) (kf : Nat → Int32) (sf : Nat → Int32) (cf : Nat → Int32) (bf : Nat → Int32) (x : Int32) (hhj : hh hj = some h0) (hj4 : hj < 4) (hbd : x < 0 ∨ nI 8 ≤ x) (sz : Nat) : Met l yX4_take wsX4_take ({ frames := 1, cells := 0, slots := 0, locals := 20 }) (PcW D cy t [(x0, .inr (4, [.ref xr, .ref xh, .ref xf, .ref xp, .ref xw, .ref xy, .ref xd])), (xh, .inl (cy 4, 4, .inr (.inr (.inr (.inr (hh)))))), (h0, .inr (1, [.ref m0, .ref qk, .ref qs, .ref qc, .ref qb, .int (md), .int (bs), .int (nI (fc)), .int (nI (tk)), .int (nI (cl)), .int (nI (dp)), .int (nI (bk)), .int (nI (ib))])), (qk, .inl (cy 0, 8, .inl (kf))), (qs, .inl (cy 0, 40, .inl (sf))), (qc, .inl (cy 0, 8, .inl (cf))), (qb, .inl (cy 0, 16, .inl (bf)))] [.ref x0, .int (nI (hj)), .int (x)] sz) (QiA D cy (fun (r : Int32) (u : Unit) => (r = (-2 : Int32))) (fun u : Unit => [(x0, .inr (4, [.ref xr, .ref xh, .ref xf, .ref xp, .ref xw, .ref xy, .ref xd])), (xh, .inl (cy 4, 4, .inr (.inr (.inr (.inr (hh)))))), (h0, .inr (1, [.ref m0, .ref qk, .ref qs, .ref qc, .ref qb, .int (md), .int (bs), .int (nI (fc)), .int (nI (tk)), .int (nI (cl)), .int (nI (dp)), .int (nI (bk)), .int (nI (ib))])), (qk, .inl (cy 0, 8, .inl (kf))), (qs, .inl (cy 0, 40, .inl (sf))), (qc, .inl (cy 0, 8, .inl (cf))), (qb, .inl (cy 0, 16, .inl (bf)))]) (va_A [(x0, .inr (4, [.ref xr, .ref xh, .ref xf, .ref xp, .ref xw, .ref xy, .ref xd])), (xh, .inl (cy 4, 4, .inr (.inr (.inr (.inr (hh)))))), (h0, .inr (1, [.ref m0, .ref qk, .ref qs, .ref qc, .ref qb, .int (md), .int (bs), .int (nI (fc)), .int (nI (tk)), .int (nI (cl)), .int (nI (dp)), .int (nI (bk)), .int (nI (ib))])), (qk, .inl (cy 0, 8, .inl (kf))), (qs, .inl (cy 0, 40, .inl (sf))), (qc, .inl (cy 0, 8, .inl (cf))), (qb, .inl (cy 0, 16, .inl (bf)))] sz)) 0 0 (va_A [(x0, .inr (4, [.ref xr, .ref xh, .ref xf, .ref xp, .ref xw, .ref xy, .ref xd])), (xh, .inl (cy 4, 4, .inr (.inr (.inr (.inr (hh)))))), (h0, .inr (1, [.ref m0, .ref qk, .ref qs, .ref qc, .ref qb, .int (md), .int (bs), .int (nI (fc)), .int (nI (tk)), .int (nI (cl)), .int (nI (dp)), .int (nI (bk)), .int (nI (ib))])), (qk, .inl (cy 0, 8, .inl (kf))), (qs, .inl (cy 0, 40, .inl (sf))), (qc, .inl (cy 0, 8, .inl (cf))), (qb, .inl (cy 0, 16, .inl (bf)))] sz) := by
  refine M_ofW (cc := cX4_take) (maxL := 3) (ret := (some .int)) (by decide) rfl (Nat.le_of_ble_eq_true rfl) ?_
  intro p e s m below meth c A ls args Q hQ S0 hr hlocks hnm hK hst hA hW hl
  have hx := S0.1; have hb := S0.2.1; have hml := S0.2.2.1; have hown := S0.2.2.2.1; have hts := S0.2.2.2.2
  have hl : lv_has ls 3 [(0, .ref x0), (1, .int (nI (hj))), (2, .int (x))] := hl
  refine lv_iload_n hx hb dX4_take_0 rfl (lv_at hl 1 rfl) ?_
  refine kSi (As := [.int (nI (hj))]) (rest := []) S0 hK hst hA hW [] (fun sz => c_X4_isHasher l D cy t hj (by omega) sz) rfl (by decide) (va_cwS 1 hts gX4_take_X4_isHasher rfl rfl rfl (by decide +kernel) ⟨Nat.le_of_ble_eq_true rfl, Nat.le_of_ble_eq_true rfl⟩) (fun _ => rfl) rfl hl.1 rfl (Nat.le_of_ble_eq_true rfl) dX4_take_1 ⟨Nat.le_of_ble_eq_true rfl, Nat.le_of_ble_eq_true rfl⟩ (fun r1 u1 H locs p1 hW => ?_)
  have hW : Wd D A s [(x0, .inr (4, [.ref xr, .ref xh, .ref xf, .ref xp, .ref xw, .ref xy, .ref xd])), (xh, .inl (cy 4, 4, .inr (.inr (.inr (.inr (hh)))))), (h0, .inr (1, [.ref m0, .ref qk, .ref qs, .ref qc, .ref qb, .int (md), .int (bs), .int (nI (fc)), .int (nI (tk)), .int (nI (cl)), .int (nI (dp)), .int (nI (bk)), .int (nI (ib))])), (qk, .inl (cy 0, 8, .inl (kf))), (qs, .inl (cy 0, 40, .inl (sf))), (qc, .inl (cy 0, 8, .inl (cf))), (qb, .inl (cy 0, 16, .inl (bf)))] H locs := hW
  have q1 : r1 = nI (1) := p1
  subst q1
  refine zEq (a := 1) (tgt := 14) hx hb dX4_take_4 (by decide) (by omega) (fun h4 => ?_) (fun h4 => ?_)
  · skip
    exfalso; omega
  · skip
    refine lv_iload_n hx hb dX4_take_7 rfl (lv_at hl 2 rfl) ?_
    refine kSi (As := [.int (x)]) (rest := []) S0 hK hst hA hW [] (fun sz => c_X4_isRegister_b l D cy t x (hbd) sz) rfl (by decide) (va_cwS 1 hts gX4_take_X4_isRegister rfl rfl rfl (by decide +kernel) ⟨Nat.le_of_ble_eq_true rfl, Nat.le_of_ble_eq_true rfl⟩) (fun _ => rfl) rfl hl.1 rfl (Nat.le_of_ble_eq_true rfl) dX4_take_8 ⟨Nat.le_of_ble_eq_true rfl, Nat.le_of_ble_eq_true rfl⟩ (fun r8 u8 H locs p8 hW => ?_)
    have hW : Wd D A s [(x0, .inr (4, [.ref xr, .ref xh, .ref xf, .ref xp, .ref xw, .ref xy, .ref xd])), (xh, .inl (cy 4, 4, .inr (.inr (.inr (.inr (hh)))))), (h0, .inr (1, [.ref m0, .ref qk, .ref qs, .ref qc, .ref qb, .int (md), .int (bs), .int (nI (fc)), .int (nI (tk)), .int (nI (cl)), .int (nI (dp)), .int (nI (bk)), .int (nI (ib))])), (qk, .inl (cy 0, 8, .inl (kf))), (qs, .inl (cy 0, 40, .inl (sf))), (qc, .inl (cy 0, 8, .inl (cf))), (qb, .inl (cy 0, 16, .inl (bf)))] H locs := hW
    have q8 : r8 = nI (0) := p8
    subst q8
    refine zNe (a := 0) (tgt := 17) hx hb dX4_take_11 (by decide) (by omega) (fun h11 => ?_) (fun h11 => ?_)
    · skip
      exfalso; omega
    · skip
      refine lv_bipush (v := (-2 : Int32)) hx hb dX4_take_14 (by decide) ?_
      exact eI hQ hx hb hr hlocks hK hW () (rfl) (rfl) dX4_take_16

theorem f_X4_take_r_0 : Cond.fieldLink RX4 11 "TreeHashes" "registers" "[LTreeHashes$Bytes;" ∈ wsX4_take := by decide +kernel
theorem i_X4_take_r_X4 : ∀ w ∈ wsX40, w ∈ wsX4_take := by decide +kernel
theorem i_X4_take_r_X0 : ∀ w ∈ wsX00, w ∈ wsX4_take := by decide +kernel
theorem f_X4_take_r_3 : Cond.constant RX4 88 (40000) ∈ wsX4_take := by decide +kernel
theorem f_X4_take_r_4 : Cond.fieldLink RX4 17 "TreeHashes" "hashers" "[LTreeHashes$Hasher;" ∈ wsX4_take := by decide +kernel
theorem i_X4_take_r_X1 : ∀ w ∈ wsX10, w ∈ wsX4_take := by decide +kernel
set_option maxHeartbeats 4000000 in
set_option maxRecDepth 100000 in
theorem c_X4_take_r (l : Launch) (D : va_G) (cy : Nat → ClassId) (t : Nat × Nat) (x0 : Nat) (xr : Nat) (xh : Nat) (xf : Nat) (xp : Nat) (xw : Nat) (xy : Nat) (xd : Nat) (hh : Nat → Option Nat) (hj : Nat) (m0 : Nat) (h0 : Nat) (qk : Nat) (qs : Nat) (qc : Nat) (qb : Nat) (md : Int32) (bs : Int32) (fc : Nat) (tk : Nat) (cl : Nat) (dp : Nat) (bk : Nat) (ib : Nat) (kf : Nat → Int32) (sf : Nat → Int32) (cf : Nat → Int32) (bf : Nat → Int32) (rr : Nat → Option Nat) (ri : Nat) (b0 : Nat) (b1 : Nat) (cnt : Nat) (f : Nat → Int32) (hhj : hh hj = some h0) (hj4 : hj < 4) (hri : rr ri = some b0) (hr8 : ri < 8) (hc : cnt ≤ 200) (htk : tk ≤ 40000) (hfull : 40000 < tk + cnt) (sz : Nat) : Met l yX4_take wsX4_take ({ frames := 1, cells := 0, slots := 0, locals := 20 }) (PcW D cy t [(x0, .inr (4, [.ref xr, .ref xh, .ref xf, .ref xp, .ref xw, .ref xy, .ref xd])), (xh, .inl (cy 4, 4, .inr (.inr (.inr (.inr (hh)))))), (h0, .inr (1, [.ref m0, .ref qk, .ref qs, .ref qc, .ref qb, .int (md), .int (bs), .int (nI (fc)), .int (nI (tk)), .int (nI (cl)), .int (nI (dp)), .int (nI (bk)), .int (nI (ib))])), (qk, .inl (cy 0, 8, .inl (kf))), (qs, .inl (cy 0, 40, .inl (sf))), (qc, .inl (cy 0, 8, .inl (cf))), (qb, .inl (cy 0, 16, .inl (bf))), (xr, .inl (cy 3, 8, .inr (.inr (.inr (.inr (rr)))))), (b0, .inr (0, [.ref b1, .int (nI (cnt))])), (b1, .inl (cy 1, 200, .inl (f)))] [.ref x0, .int (nI (hj)), .int (nI (ri))] sz) (QiA D cy (fun (r : Int32) (u : Unit) => (r = (-3 : Int32))) (fun u : Unit => [(x0, .inr (4, [.ref xr, .ref xh, .ref xf, .ref xp, .ref xw, .ref xy, .ref xd])), (xh, .inl (cy 4, 4, .inr (.inr (.inr (.inr (hh)))))), (h0, .inr (1, [.ref m0, .ref qk, .ref qs, .ref qc, .ref qb, .int (md), .int (bs), .int (nI (fc)), .int (nI (tk)), .int (nI (cl)), .int (nI (dp)), .int (nI (bk)), .int (nI (ib))])), (qk, .inl (cy 0, 8, .inl (kf))), (qs, .inl (cy 0, 40, .inl (sf))), (qc, .inl (cy 0, 8, .inl (cf))), (qb, .inl (cy 0, 16, .inl (bf))), (xr, .inl (cy 3, 8, .inr (.inr (.inr (.inr (rr)))))), (b0, .inr (0, [.ref b1, .int (nI (cnt))])), (b1, .inl (cy 1, 200, .inl (f)))]) (va_A [(x0, .inr (4, [.ref xr, .ref xh, .ref xf, .ref xp, .ref xw, .ref xy, .ref xd])), (xh, .inl (cy 4, 4, .inr (.inr (.inr (.inr (hh)))))), (h0, .inr (1, [.ref m0, .ref qk, .ref qs, .ref qc, .ref qb, .int (md), .int (bs), .int (nI (fc)), .int (nI (tk)), .int (nI (cl)), .int (nI (dp)), .int (nI (bk)), .int (nI (ib))])), (qk, .inl (cy 0, 8, .inl (kf))), (qs, .inl (cy 0, 40, .inl (sf))), (qc, .inl (cy 0, 8, .inl (cf))), (qb, .inl (cy 0, 16, .inl (bf))), (xr, .inl (cy 3, 8, .inr (.inr (.inr (.inr (rr)))))), (b0, .inr (0, [.ref b1, .int (nI (cnt))])), (b1, .inl (cy 1, 200, .inl (f)))] sz)) 0 0 (va_A [(x0, .inr (4, [.ref xr, .ref xh, .ref xf, .ref xp, .ref xw, .ref xy, .ref xd])), (xh, .inl (cy 4, 4, .inr (.inr (.inr (.inr (hh)))))), (h0, .inr (1, [.ref m0, .ref qk, .ref qs, .ref qc, .ref qb, .int (md), .int (bs), .int (nI (fc)), .int (nI (tk)), .int (nI (cl)), .int (nI (dp)), .int (nI (bk)), .int (nI (ib))])), (qk, .inl (cy 0, 8, .inl (kf))), (qs, .inl (cy 0, 40, .inl (sf))), (qc, .inl (cy 0, 8, .inl (cf))), (qb, .inl (cy 0, 16, .inl (bf))), (xr, .inl (cy 3, 8, .inr (.inr (.inr (.inr (rr)))))), (b0, .inr (0, [.ref b1, .int (nI (cnt))])), (b1, .inl (cy 1, 200, .inl (f)))] sz) := by
  refine M_ofW (cc := cX4_take) (maxL := 3) (ret := (some .int)) (by decide) rfl (Nat.le_of_ble_eq_true rfl) ?_
  intro p e s m below meth c A ls args Q hQ S0 hr hlocks hnm hK hst hA hW hl
  have hx := S0.1; have hb := S0.2.1; have hml := S0.2.2.1; have hown := S0.2.2.2.1; have hts := S0.2.2.2.2
  have hl : lv_has ls 3 [(0, .ref x0), (1, .int (nI (hj))), (2, .int (nI (ri)))] := hl
  refine lv_iload_n hx hb dX4_take_0 rfl (lv_at hl 1 rfl) ?_
  refine kSi (As := [.int (nI (hj))]) (rest := []) S0 hK hst hA hW [] (fun sz => c_X4_isHasher l D cy t hj (by omega) sz) rfl (by decide) (va_cwS 1 hts gX4_take_X4_isHasher rfl rfl rfl (by decide +kernel) ⟨Nat.le_of_ble_eq_true rfl, Nat.le_of_ble_eq_true rfl⟩) (fun _ => rfl) rfl hl.1 rfl (Nat.le_of_ble_eq_true rfl) dX4_take_1 ⟨Nat.le_of_ble_eq_true rfl, Nat.le_of_ble_eq_true rfl⟩ (fun r1 u1 H locs p1 hW => ?_)
  have hW : Wd D A s [(x0, .inr (4, [.ref xr, .ref xh, .ref xf, .ref xp, .ref xw, .ref xy, .ref xd])), (xh, .inl (cy 4, 4, .inr (.inr (.inr (.inr (hh)))))), (h0, .inr (1, [.ref m0, .ref qk, .ref qs, .ref qc, .ref qb, .int (md), .int (bs), .int (nI (fc)), .int (nI (tk)), .int (nI (cl)), .int (nI (dp)), .int (nI (bk)), .int (nI (ib))])), (qk, .inl (cy 0, 8, .inl (kf))), (qs, .inl (cy 0, 40, .inl (sf))), (qc, .inl (cy 0, 8, .inl (cf))), (qb, .inl (cy 0, 16, .inl (bf))), (xr, .inl (cy 3, 8, .inr (.inr (.inr (.inr (rr)))))), (b0, .inr (0, [.ref b1, .int (nI (cnt))])), (b1, .inl (cy 1, 200, .inl (f)))] H locs := hW
  have q1 : r1 = nI (1) := p1
  subst q1
  refine zEq (a := 1) (tgt := 14) hx hb dX4_take_4 (by decide) (by omega) (fun h4 => ?_) (fun h4 => ?_)
  · skip
    exfalso; omega
  · skip
    refine lv_iload_n hx hb dX4_take_7 rfl (lv_at hl 2 rfl) ?_
    refine kSi (As := [.int (nI (ri))]) (rest := []) S0 hK hst hA hW [] (fun sz => c_X4_isRegister l D cy t ri (by omega) sz) rfl (by decide) (va_cwS 1 hts gX4_take_X4_isRegister rfl rfl rfl (by decide +kernel) ⟨Nat.le_of_ble_eq_true rfl, Nat.le_of_ble_eq_true rfl⟩) (fun _ => rfl) rfl hl.1 rfl (Nat.le_of_ble_eq_true rfl) dX4_take_8 ⟨Nat.le_of_ble_eq_true rfl, Nat.le_of_ble_eq_true rfl⟩ (fun r8 u8 H locs p8 hW => ?_)
    have hW : Wd D A s [(x0, .inr (4, [.ref xr, .ref xh, .ref xf, .ref xp, .ref xw, .ref xy, .ref xd])), (xh, .inl (cy 4, 4, .inr (.inr (.inr (.inr (hh)))))), (h0, .inr (1, [.ref m0, .ref qk, .ref qs, .ref qc, .ref qb, .int (md), .int (bs), .int (nI (fc)), .int (nI (tk)), .int (nI (cl)), .int (nI (dp)), .int (nI (bk)), .int (nI (ib))])), (qk, .inl (cy 0, 8, .inl (kf))), (qs, .inl (cy 0, 40, .inl (sf))), (qc, .inl (cy 0, 8, .inl (cf))), (qb, .inl (cy 0, 16, .inl (bf))), (xr, .inl (cy 3, 8, .inr (.inr (.inr (.inr (rr)))))), (b0, .inr (0, [.ref b1, .int (nI (cnt))])), (b1, .inl (cy 1, 200, .inl (f)))] H locs := hW
    have q8 : r8 = nI (1) := p8
    subst q8
    refine zNe (a := 1) (tgt := 17) hx hb dX4_take_11 (by decide) (by omega) (fun h11 => ?_) (fun h11 => ?_)
    · skip
      refine lv_aload_n hx hb dX4_take_17 rfl (lv_at hl 0 rfl) ?_
      refine va_get (D := D) (ci := 4) (v := .ref xr) (C := RX4) (T := TX4) (N := 7) hx hb hts i_X4_take_r_X4 hown hK hW.1 0 rfl rfl 0 (by decide) (hts (.fieldLink RX4 11 "TreeHashes" "registers" "[LTreeHashes$Bytes;") f_X4_take_r_0) (fun _ h9 => h9) rfl dX4_take_18 ?_
      refine lv_iload_n hx hb dX4_take_21 rfl (lv_at hl 2 rfl) ?_
      refine rA hx hb hK hW 7 (t0 := 3) rfl rfl (k := ri) (by omega) (by decide) (hri) dX4_take_22 ?_
      refine va_getN (D := D) (ci := 0) (v := .int (nI (cnt))) (C := RX0) (T := TX0) (N := 2) hx hb hts i_X4_take_r_X0 hown hK hW.1 8 rfl rfl 1 (by decide) (va_Nw.use rfl (hst.2.2.1 ("TreeHashes", 57, "TreeHashes$Bytes", "count", "I", "TreeHashes") (by decide))) (fun _ h9 => h9) rfl dX4_take_23 ?_
      refine lv_ldc (v := (40000 : Int32)) hx hb hown (hts (.constant RX4 88 (40000)) f_X4_take_r_3) dX4_take_26 ?_
      refine tI (x' := nI 40000) (by decide) ?_
      refine lv_aload_n hx hb dX4_take_28 rfl (lv_at hl 0 rfl) ?_
      refine va_get (D := D) (ci := 4) (v := .ref xh) (C := RX4) (T := TX4) (N := 7) hx hb hts i_X4_take_r_X4 hown hK hW.1 0 rfl rfl 1 (by decide) (hts (.fieldLink RX4 17 "TreeHashes" "hashers" "[LTreeHashes$Hasher;") f_X4_take_r_4) (fun _ h9 => h9) rfl dX4_take_29 ?_
      refine lv_iload_n hx hb dX4_take_32 rfl (lv_at hl 1 rfl) ?_
      refine rA hx hb hK hW 1 (t0 := 4) rfl rfl (k := hj) (by omega) (by decide) (hhj) dX4_take_33 ?_
      refine va_getN (D := D) (ci := 1) (v := .int (nI (tk))) (C := RX1) (T := TX1) (N := 13) hx hb hts i_X4_take_r_X1 hown hK hW.1 2 rfl rfl 8 (by decide) (va_Nw.use rfl (hst.2.2.1 ("TreeHashes", 89, "TreeHashes$Hasher", "taken", "I", "TreeHashes") (by decide))) (fun _ h9 => h9) rfl dX4_take_34 ?_
      refine lv_isub hx hb dX4_take_37 ?_
      refine tI (pk_sub (by omega)) ?_
      refine iLe (a := cnt) (b := 40000 - tk) (tgt := 44) hx hb dX4_take_38 (by decide) (by omega) (by omega) (fun h38 => ?_) (fun h38 => ?_)
      · skip
        exfalso; omega
      · skip
        refine lv_bipush (v := (-3 : Int32)) hx hb dX4_take_41 (by decide) ?_
        exact eI hQ hx hb hr hlocks hK hW () (rfl) (rfl) dX4_take_43
    · skip
      exfalso; omega

theorem f_X4_take_0 : Cond.fieldLink RX4 11 "TreeHashes" "registers" "[LTreeHashes$Bytes;" ∈ wsX4_take := by decide +kernel
theorem i_X4_take_X4 : ∀ w ∈ wsX40, w ∈ wsX4_take := by decide +kernel
theorem i_X4_take_X0 : ∀ w ∈ wsX00, w ∈ wsX4_take := by decide +kernel
theorem f_X4_take_3 : Cond.constant RX4 88 (40000) ∈ wsX4_take := by decide +kernel
theorem f_X4_take_4 : Cond.fieldLink RX4 17 "TreeHashes" "hashers" "[LTreeHashes$Hasher;" ∈ wsX4_take := by decide +kernel
theorem i_X4_take_X1 : ∀ w ∈ wsX10, w ∈ wsX4_take := by decide +kernel
set_option maxHeartbeats 4000000 in
set_option maxRecDepth 100000 in
theorem c_X4_take (l : Launch) (D : va_G) (cy : Nat → ClassId) (t : Nat × Nat) (x0 : Nat) (xr : Nat) (xh : Nat) (xf : Nat) (xp : Nat) (xw : Nat) (xy : Nat) (xd : Nat) (hh : Nat → Option Nat) (hj : Nat) (m0 : Nat) (mc : Nat) (mb : Nat) (mv : Nat) (aw : Nat) (an : Nat) (ct : Int64) (ln : Int32) (fl : Int32) (h0 : Nat) (qk : Nat) (qs : Nat) (qc : Nat) (qb : Nat) (md : Int32) (bs : Int32) (fc : Nat) (nt : Nat) (kf : Nat → Int32) (sf : Nat → Int32) (g : Nat → Int32) (ch : Nat → Int32) (bl : Nat → Int32) (v : Nat → Int32) (w : Nat → Int32) (nw : Nat → Int32) (rr : Nat → Option Nat) (ri : Nat) (b0 : Nat) (b1 : Nat) (cnt : Nat) (f : Nat → Int32) (hhj : hh hj = some h0) (hj4 : hj < 4) (hri : rr ri = some b0) (hr8 : ri < 8) (hc : cnt ≤ 200) (hfc : fc ≤ 1000) (hSk : SKr sf (skS kf bs g fc (clo nt)) (hdp nt)) (ht : nt + cnt ≤ 40000) (hg : ∀ i, i < cnt → g (nt + i) = f i &&& 255) (sz : Nat) : Met l yX4_take wsX4_take ({ frames := 5, cells := 0, slots := 0, locals := 118 }) (PcW D cy t [(x0, .inr (4, [.ref xr, .ref xh, .ref xf, .ref xp, .ref xw, .ref xy, .ref xd])), (xh, .inl (cy 4, 4, .inr (.inr (.inr (.inr (hh)))))), (h0, .inr (1, [.ref m0, .ref qk, .ref qs, .ref qc, .ref qb, .int (md), .int (bs), .int (nI (fc)), .int (nI (nt)), .int (nI (clo nt)), .int (nI (hdp nt)), .int (nI (hbk nt)), .int (nI (hib nt))])), (qk, .inl (cy 0, 8, .inl (kf))), (qs, .inl (cy 0, 40, .inl (sf))), (qc, .inl (cy 0, 8, .inl (hcf kf bs g fc nt))), (qb, .inl (cy 0, 16, .inl (hbf g nt))), (m0, .inr (2, [.ref mc, .ref mb, .long (ct), .int (ln), .int (fl), .ref mv, .ref aw, .ref an])), (mc, .inl (cy 0, 8, .inl (ch))), (mb, .inl (cy 0, 16, .inl (bl))), (mv, .inl (cy 0, 16, .inl (v))), (aw, .inl (cy 0, 16, .inl (w))), (an, .inl (cy 0, 16, .inl (nw))), (xr, .inl (cy 3, 8, .inr (.inr (.inr (.inr (rr)))))), (b0, .inr (0, [.ref b1, .int (nI (cnt))])), (b1, .inl (cy 1, 200, .inl (f)))] [.ref x0, .int (nI (hj)), .int (nI (ri))] sz) (QiA D cy (fun (r : Int32) (u : (Nat → Int32) × (Nat → Int32) × (Nat → Int32) × (Int64) × (Int32) × (Int32) × (Nat → Int32) × (Nat) × (Nat) × (Nat → Int32) × (Nat → Int32)) => match u with | (sf2, ch2, bl2, ct2, ln2, fl2, v2, aw2, an2, w2, nw2) => (r = nI (nt + cnt)) ∧ (SKr sf2 (skS kf bs g fc (clo (nt + cnt))) (hdp (nt + cnt)))) (fun u : (Nat → Int32) × (Nat → Int32) × (Nat → Int32) × (Int64) × (Int32) × (Int32) × (Nat → Int32) × (Nat) × (Nat) × (Nat → Int32) × (Nat → Int32) => match u with | (sf2, ch2, bl2, ct2, ln2, fl2, v2, aw2, an2, w2, nw2) => [(x0, .inr (4, [.ref xr, .ref xh, .ref xf, .ref xp, .ref xw, .ref xy, .ref xd])), (xh, .inl (cy 4, 4, .inr (.inr (.inr (.inr (hh)))))), (h0, .inr (1, [.ref m0, .ref qk, .ref qs, .ref qc, .ref qb, .int (md), .int (bs), .int (nI (fc)), .int (nI (nt + cnt)), .int (nI (clo (nt + cnt))), .int (nI (hdp (nt + cnt))), .int (nI (hbk (nt + cnt))), .int (nI (hib (nt + cnt)))])), (qk, .inl (cy 0, 8, .inl (kf))), (qs, .inl (cy 0, 40, .inl (sf2))), (qc, .inl (cy 0, 8, .inl (hcf kf bs g fc (nt + cnt)))), (qb, .inl (cy 0, 16, .inl (hbf g (nt + cnt)))), (m0, .inr (2, [.ref mc, .ref mb, .long (ct2), .int (ln2), .int (fl2), .ref mv, .ref aw2, .ref an2])), (mc, .inl (cy 0, 8, .inl (ch2))), (mb, .inl (cy 0, 16, .inl (bl2))), (mv, .inl (cy 0, 16, .inl (v2))), (aw2, .inl (cy 0, 16, .inl (w2))), (an2, .inl (cy 0, 16, .inl (nw2))), (xr, .inl (cy 3, 8, .inr (.inr (.inr (.inr (rr)))))), (b0, .inr (0, [.ref b1, .int (nI (cnt))])), (b1, .inl (cy 1, 200, .inl (f)))]) (va_A [(x0, .inr (4, [.ref xr, .ref xh, .ref xf, .ref xp, .ref xw, .ref xy, .ref xd])), (xh, .inl (cy 4, 4, .inr (.inr (.inr (.inr (hh)))))), (h0, .inr (1, [.ref m0, .ref qk, .ref qs, .ref qc, .ref qb, .int (md), .int (bs), .int (nI (fc)), .int (nI (nt)), .int (nI (clo nt)), .int (nI (hdp nt)), .int (nI (hbk nt)), .int (nI (hib nt))])), (qk, .inl (cy 0, 8, .inl (kf))), (qs, .inl (cy 0, 40, .inl (sf))), (qc, .inl (cy 0, 8, .inl (hcf kf bs g fc nt))), (qb, .inl (cy 0, 16, .inl (hbf g nt))), (m0, .inr (2, [.ref mc, .ref mb, .long (ct), .int (ln), .int (fl), .ref mv, .ref aw, .ref an])), (mc, .inl (cy 0, 8, .inl (ch))), (mb, .inl (cy 0, 16, .inl (bl))), (mv, .inl (cy 0, 16, .inl (v))), (aw, .inl (cy 0, 16, .inl (w))), (an, .inl (cy 0, 16, .inl (nw))), (xr, .inl (cy 3, 8, .inr (.inr (.inr (.inr (rr)))))), (b0, .inr (0, [.ref b1, .int (nI (cnt))])), (b1, .inl (cy 1, 200, .inl (f)))] sz)) 0 0 (va_A [(x0, .inr (4, [.ref xr, .ref xh, .ref xf, .ref xp, .ref xw, .ref xy, .ref xd])), (xh, .inl (cy 4, 4, .inr (.inr (.inr (.inr (hh)))))), (h0, .inr (1, [.ref m0, .ref qk, .ref qs, .ref qc, .ref qb, .int (md), .int (bs), .int (nI (fc)), .int (nI (nt)), .int (nI (clo nt)), .int (nI (hdp nt)), .int (nI (hbk nt)), .int (nI (hib nt))])), (qk, .inl (cy 0, 8, .inl (kf))), (qs, .inl (cy 0, 40, .inl (sf))), (qc, .inl (cy 0, 8, .inl (hcf kf bs g fc nt))), (qb, .inl (cy 0, 16, .inl (hbf g nt))), (m0, .inr (2, [.ref mc, .ref mb, .long (ct), .int (ln), .int (fl), .ref mv, .ref aw, .ref an])), (mc, .inl (cy 0, 8, .inl (ch))), (mb, .inl (cy 0, 16, .inl (bl))), (mv, .inl (cy 0, 16, .inl (v))), (aw, .inl (cy 0, 16, .inl (w))), (an, .inl (cy 0, 16, .inl (nw))), (xr, .inl (cy 3, 8, .inr (.inr (.inr (.inr (rr)))))), (b0, .inr (0, [.ref b1, .int (nI (cnt))])), (b1, .inl (cy 1, 200, .inl (f)))] sz) := by
  refine M_ofW (cc := cX4_take) (maxL := 3) (ret := (some .int)) (by decide) rfl (Nat.le_of_ble_eq_true rfl) ?_
  intro p e s m below meth c A ls args Q hQ S0 hr hlocks hnm hK hst hA hW hl
  have hx := S0.1; have hb := S0.2.1; have hml := S0.2.2.1; have hown := S0.2.2.2.1; have hts := S0.2.2.2.2
  have hl : lv_has ls 3 [(0, .ref x0), (1, .int (nI (hj))), (2, .int (nI (ri)))] := hl
  refine lv_iload_n hx hb dX4_take_0 rfl (lv_at hl 1 rfl) ?_
  refine kSi (As := [.int (nI (hj))]) (rest := []) S0 hK hst hA hW [] (fun sz => c_X4_isHasher l D cy t hj (by omega) sz) rfl (by decide) (va_cwS 1 hts gX4_take_X4_isHasher rfl rfl rfl (by decide +kernel) ⟨Nat.le_of_ble_eq_true rfl, Nat.le_of_ble_eq_true rfl⟩) (fun _ => rfl) rfl hl.1 rfl (Nat.le_of_ble_eq_true rfl) dX4_take_1 ⟨Nat.le_of_ble_eq_true rfl, Nat.le_of_ble_eq_true rfl⟩ (fun r1 u1 H locs p1 hW => ?_)
  have hW : Wd D A s [(x0, .inr (4, [.ref xr, .ref xh, .ref xf, .ref xp, .ref xw, .ref xy, .ref xd])), (xh, .inl (cy 4, 4, .inr (.inr (.inr (.inr (hh)))))), (h0, .inr (1, [.ref m0, .ref qk, .ref qs, .ref qc, .ref qb, .int (md), .int (bs), .int (nI (fc)), .int (nI (nt)), .int (nI (clo nt)), .int (nI (hdp nt)), .int (nI (hbk nt)), .int (nI (hib nt))])), (qk, .inl (cy 0, 8, .inl (kf))), (qs, .inl (cy 0, 40, .inl (sf))), (qc, .inl (cy 0, 8, .inl (hcf kf bs g fc nt))), (qb, .inl (cy 0, 16, .inl (hbf g nt))), (m0, .inr (2, [.ref mc, .ref mb, .long (ct), .int (ln), .int (fl), .ref mv, .ref aw, .ref an])), (mc, .inl (cy 0, 8, .inl (ch))), (mb, .inl (cy 0, 16, .inl (bl))), (mv, .inl (cy 0, 16, .inl (v))), (aw, .inl (cy 0, 16, .inl (w))), (an, .inl (cy 0, 16, .inl (nw))), (xr, .inl (cy 3, 8, .inr (.inr (.inr (.inr (rr)))))), (b0, .inr (0, [.ref b1, .int (nI (cnt))])), (b1, .inl (cy 1, 200, .inl (f)))] H locs := hW
  have q1 : r1 = nI (1) := p1
  subst q1
  refine zEq (a := 1) (tgt := 14) hx hb dX4_take_4 (by decide) (by omega) (fun h4 => ?_) (fun h4 => ?_)
  · skip
    exfalso; omega
  · skip
    refine lv_iload_n hx hb dX4_take_7 rfl (lv_at hl 2 rfl) ?_
    refine kSi (As := [.int (nI (ri))]) (rest := []) S0 hK hst hA hW [] (fun sz => c_X4_isRegister l D cy t ri (by omega) sz) rfl (by decide) (va_cwS 1 hts gX4_take_X4_isRegister rfl rfl rfl (by decide +kernel) ⟨Nat.le_of_ble_eq_true rfl, Nat.le_of_ble_eq_true rfl⟩) (fun _ => rfl) rfl hl.1 rfl (Nat.le_of_ble_eq_true rfl) dX4_take_8 ⟨Nat.le_of_ble_eq_true rfl, Nat.le_of_ble_eq_true rfl⟩ (fun r8 u8 H locs p8 hW => ?_)
    have hW : Wd D A s [(x0, .inr (4, [.ref xr, .ref xh, .ref xf, .ref xp, .ref xw, .ref xy, .ref xd])), (xh, .inl (cy 4, 4, .inr (.inr (.inr (.inr (hh)))))), (h0, .inr (1, [.ref m0, .ref qk, .ref qs, .ref qc, .ref qb, .int (md), .int (bs), .int (nI (fc)), .int (nI (nt)), .int (nI (clo nt)), .int (nI (hdp nt)), .int (nI (hbk nt)), .int (nI (hib nt))])), (qk, .inl (cy 0, 8, .inl (kf))), (qs, .inl (cy 0, 40, .inl (sf))), (qc, .inl (cy 0, 8, .inl (hcf kf bs g fc nt))), (qb, .inl (cy 0, 16, .inl (hbf g nt))), (m0, .inr (2, [.ref mc, .ref mb, .long (ct), .int (ln), .int (fl), .ref mv, .ref aw, .ref an])), (mc, .inl (cy 0, 8, .inl (ch))), (mb, .inl (cy 0, 16, .inl (bl))), (mv, .inl (cy 0, 16, .inl (v))), (aw, .inl (cy 0, 16, .inl (w))), (an, .inl (cy 0, 16, .inl (nw))), (xr, .inl (cy 3, 8, .inr (.inr (.inr (.inr (rr)))))), (b0, .inr (0, [.ref b1, .int (nI (cnt))])), (b1, .inl (cy 1, 200, .inl (f)))] H locs := hW
    have q8 : r8 = nI (1) := p8
    subst q8
    refine zNe (a := 1) (tgt := 17) hx hb dX4_take_11 (by decide) (by omega) (fun h11 => ?_) (fun h11 => ?_)
    · skip
      refine lv_aload_n hx hb dX4_take_17 rfl (lv_at hl 0 rfl) ?_
      refine va_get (D := D) (ci := 4) (v := .ref xr) (C := RX4) (T := TX4) (N := 7) hx hb hts i_X4_take_X4 hown hK hW.1 0 rfl rfl 0 (by decide) (hts (.fieldLink RX4 11 "TreeHashes" "registers" "[LTreeHashes$Bytes;") f_X4_take_0) (fun _ h9 => h9) rfl dX4_take_18 ?_
      refine lv_iload_n hx hb dX4_take_21 rfl (lv_at hl 2 rfl) ?_
      refine rA hx hb hK hW 13 (t0 := 3) rfl rfl (k := ri) (by omega) (by decide) (hri) dX4_take_22 ?_
      refine va_getN (D := D) (ci := 0) (v := .int (nI (cnt))) (C := RX0) (T := TX0) (N := 2) hx hb hts i_X4_take_X0 hown hK hW.1 14 rfl rfl 1 (by decide) (va_Nw.use rfl (hst.2.2.1 ("TreeHashes", 57, "TreeHashes$Bytes", "count", "I", "TreeHashes") (by decide))) (fun _ h9 => h9) rfl dX4_take_23 ?_
      refine lv_ldc (v := (40000 : Int32)) hx hb hown (hts (.constant RX4 88 (40000)) f_X4_take_3) dX4_take_26 ?_
      refine tI (x' := nI 40000) (by decide) ?_
      refine lv_aload_n hx hb dX4_take_28 rfl (lv_at hl 0 rfl) ?_
      refine va_get (D := D) (ci := 4) (v := .ref xh) (C := RX4) (T := TX4) (N := 7) hx hb hts i_X4_take_X4 hown hK hW.1 0 rfl rfl 1 (by decide) (hts (.fieldLink RX4 17 "TreeHashes" "hashers" "[LTreeHashes$Hasher;") f_X4_take_4) (fun _ h9 => h9) rfl dX4_take_29 ?_
      refine lv_iload_n hx hb dX4_take_32 rfl (lv_at hl 1 rfl) ?_
      refine rA hx hb hK hW 1 (t0 := 4) rfl rfl (k := hj) (by omega) (by decide) (hhj) dX4_take_33 ?_
      refine va_getN (D := D) (ci := 1) (v := .int (nI (nt))) (C := RX1) (T := TX1) (N := 13) hx hb hts i_X4_take_X1 hown hK hW.1 2 rfl rfl 8 (by decide) (va_Nw.use rfl (hst.2.2.1 ("TreeHashes", 89, "TreeHashes$Hasher", "taken", "I", "TreeHashes") (by decide))) (fun _ h9 => h9) rfl dX4_take_34 ?_
      refine lv_isub hx hb dX4_take_37 ?_
      refine tI (pk_sub (by omega)) ?_
      refine iLe (a := cnt) (b := 40000 - nt) (tgt := 44) hx hb dX4_take_38 (by decide) (by omega) (by omega) (fun h38 => ?_) (fun h38 => ?_)
      · skip
        refine lv_aload_n hx hb dX4_take_44 rfl (lv_at hl 0 rfl) ?_
        refine va_get (D := D) (ci := 4) (v := .ref xh) (C := RX4) (T := TX4) (N := 7) hx hb hts i_X4_take_X4 hown hK hW.1 0 rfl rfl 1 (by decide) (hts (.fieldLink RX4 17 "TreeHashes" "hashers" "[LTreeHashes$Hasher;") f_X4_take_4) (fun _ h9 => h9) rfl dX4_take_45 ?_
        refine lv_iload_n hx hb dX4_take_48 rfl (lv_at hl 1 rfl) ?_
        refine rA hx hb hK hW 1 (t0 := 4) rfl rfl (k := hj) (by omega) (by decide) (hhj) dX4_take_49 ?_
        refine lv_aload_n hx hb dX4_take_50 rfl (lv_at hl 0 rfl) ?_
        refine va_get (D := D) (ci := 4) (v := .ref xr) (C := RX4) (T := TX4) (N := 7) hx hb hts i_X4_take_X4 hown hK hW.1 0 rfl rfl 0 (by decide) (hts (.fieldLink RX4 11 "TreeHashes" "registers" "[LTreeHashes$Bytes;") f_X4_take_0) (fun _ h9 => h9) rfl dX4_take_51 ?_
        refine lv_iload_n hx hb dX4_take_54 rfl (lv_at hl 2 rfl) ?_
        refine rA hx hb hK hW 13 (t0 := 3) rfl rfl (k := ri) (by omega) (by decide) (hri) dX4_take_55 ?_
        refine lv_iconst (v := nI (0)) hx hb dX4_take_56 (by decide) ?_
        refine lv_aload_n hx hb dX4_take_57 rfl (lv_at hl 0 rfl) ?_
        refine va_get (D := D) (ci := 4) (v := .ref xr) (C := RX4) (T := TX4) (N := 7) hx hb hts i_X4_take_X4 hown hK hW.1 0 rfl rfl 0 (by decide) (hts (.fieldLink RX4 11 "TreeHashes" "registers" "[LTreeHashes$Bytes;") f_X4_take_0) (fun _ h9 => h9) rfl dX4_take_58 ?_
        refine lv_iload_n hx hb dX4_take_61 rfl (lv_at hl 2 rfl) ?_
        refine rA hx hb hK hW 13 (t0 := 3) rfl rfl (k := ri) (by omega) (by decide) (hri) dX4_take_62 ?_
        refine va_getN (D := D) (ci := 0) (v := .int (nI (cnt))) (C := RX0) (T := TX0) (N := 2) hx hb hts i_X4_take_X0 hown hK hW.1 14 rfl rfl 1 (by decide) (va_Nw.use rfl (hst.2.2.1 ("TreeHashes", 57, "TreeHashes$Bytes", "count", "I", "TreeHashes") (by decide))) (fun _ h9 => h9) rfl dX4_take_63 ?_
        refine kVv (As := [.ref b0, .int (nI (0)), .int (nI (cnt))]) (rest := []) S0 hK hst hA hW [2, 3, 4, 5, 6, 7, 8, 9, 10, 11, 12, 14, 15] (fun sz => c_X1_absorb l D cy t m0 mc mb mv aw an ct ln fl h0 qk qs qc qb md bs fc nt kf sf g ch bl v w nw b0 b1 200 cnt f 0 cnt (by omega) (by omega) (hSk) (by omega) (by omega) (by omega) (fun i hi => by rw [Nat.zero_add]; exact hg i hi) sz) rfl (by decide) (cwV 3 hts gX4_take_X1_absorb rfl rfl rfl (by decide +kernel) ⟨Nat.le_of_ble_eq_true rfl, Nat.le_of_ble_eq_true rfl⟩) (fun ⟨_, _, _, _, _, _, _, _, _, _, _⟩ => rfl) 0 1 rfl rfl rfl hl.1 rfl (Nat.le_of_ble_eq_true rfl) dX4_take_66 ⟨Nat.le_of_ble_eq_true rfl, Nat.le_of_ble_eq_true rfl⟩ (fun u66 H locs p66 hW => ?_)
        obtain ⟨sf2_66, ch2_66, bl2_66, ct2_66, ln2_66, fl2_66, v2_66, aw2_66, an2_66, w2_66, nw2_66⟩ := u66
        have hW : Wd D A s [(x0, .inr (4, [.ref xr, .ref xh, .ref xf, .ref xp, .ref xw, .ref xy, .ref xd])), (xh, .inl (cy 4, 4, .inr (.inr (.inr (.inr (hh)))))), (h0, .inr (1, [.ref m0, .ref qk, .ref qs, .ref qc, .ref qb, .int (md), .int (bs), .int (nI (fc)), .int (nI (nt + cnt)), .int (nI (clo (nt + cnt))), .int (nI (hdp (nt + cnt))), .int (nI (hbk (nt + cnt))), .int (nI (hib (nt + cnt)))])), (qk, .inl (cy 0, 8, .inl (kf))), (qs, .inl (cy 0, 40, .inl (sf2_66))), (qc, .inl (cy 0, 8, .inl (hcf kf bs g fc (nt + cnt)))), (qb, .inl (cy 0, 16, .inl (hbf g (nt + cnt)))), (m0, .inr (2, [.ref mc, .ref mb, .long (ct2_66), .int (ln2_66), .int (fl2_66), .ref mv, .ref aw2_66, .ref an2_66])), (mc, .inl (cy 0, 8, .inl (ch2_66))), (mb, .inl (cy 0, 16, .inl (bl2_66))), (mv, .inl (cy 0, 16, .inl (v2_66))), (aw2_66, .inl (cy 0, 16, .inl (w2_66))), (an2_66, .inl (cy 0, 16, .inl (nw2_66))), (xr, .inl (cy 3, 8, .inr (.inr (.inr (.inr (rr)))))), (b0, .inr (0, [.ref b1, .int (nI (cnt))])), (b1, .inl (cy 1, 200, .inl (f)))] H locs := hW
        refine lv_aload_n hx hb dX4_take_69 rfl (lv_at hl 0 rfl) ?_
        refine va_get (D := D) (ci := 4) (v := .ref xh) (C := RX4) (T := TX4) (N := 7) hx hb hts i_X4_take_X4 hown hK hW.1 0 rfl rfl 1 (by decide) (hts (.fieldLink RX4 17 "TreeHashes" "hashers" "[LTreeHashes$Hasher;") f_X4_take_4) (fun _ h9 => h9) rfl dX4_take_70 ?_
        refine lv_iload_n hx hb dX4_take_73 rfl (lv_at hl 1 rfl) ?_
        refine rA hx hb hK hW 1 (t0 := 4) rfl rfl (k := hj) (by omega) (by decide) (hhj) dX4_take_74 ?_
        refine va_getN (D := D) (ci := 1) (v := .int (nI (nt + cnt))) (C := RX1) (T := TX1) (N := 13) hx hb hts i_X4_take_X1 hown hK hW.1 2 rfl rfl 8 (by decide) (va_Nw.use rfl (hst.2.2.1 ("TreeHashes", 89, "TreeHashes$Hasher", "taken", "I", "TreeHashes") (by decide))) (fun _ h9 => h9) rfl dX4_take_75 ?_
        exact eI hQ hx hb hr hlocks hK hW (sf2_66, ch2_66, bl2_66, ct2_66, ln2_66, fl2_66, v2_66, aw2_66, an2_66, w2_66, nw2_66) (⟨rfl, p66⟩) (rfl) dX4_take_78
      · skip
        exfalso; omega
    · skip
      exfalso; omega

set_option maxHeartbeats 4000000 in
set_option maxRecDepth 100000 in
theorem c_X4_fill_b (l : Launch) (D : va_G) (cy : Nat → ClassId) (t : Nat × Nat) (x0 : Nat) (xr : Nat) (xh : Nat) (xf : Nat) (xp : Nat) (xw : Nat) (xy : Nat) (xd : Nat) (x : Int32) (y : Int32) (fr : Int32) (sp : Int32) (hbd : x < 0 ∨ nI 4 ≤ x) (sz : Nat) : Met l yX4_fill wsX4_fill ({ frames := 1, cells := 0, slots := 0, locals := 20 }) (PcW D cy t [(x0, .inr (4, [.ref xr, .ref xh, .ref xf, .ref xp, .ref xw, .ref xy, .ref xd]))] [.ref x0, .int (x), .int (y), .int (fr), .int (sp)] sz) (QiA D cy (fun (r : Int32) (u : Unit) => (r = (-2 : Int32))) (fun u : Unit => [(x0, .inr (4, [.ref xr, .ref xh, .ref xf, .ref xp, .ref xw, .ref xy, .ref xd]))]) (va_A [(x0, .inr (4, [.ref xr, .ref xh, .ref xf, .ref xp, .ref xw, .ref xy, .ref xd]))] sz)) 0 0 (va_A [(x0, .inr (4, [.ref xr, .ref xh, .ref xf, .ref xp, .ref xw, .ref xy, .ref xd]))] sz) := by
  refine M_ofW (cc := cX4_fill) (maxL := 6) (ret := (some .int)) (by decide) rfl (Nat.le_of_ble_eq_true rfl) ?_
  intro p e s m below meth c A ls args Q hQ S0 hr hlocks hnm hK hst hA hW hl
  have hx := S0.1; have hb := S0.2.1; have hml := S0.2.2.1; have hown := S0.2.2.2.1; have hts := S0.2.2.2.2
  have hl : lv_has ls 6 [(0, .ref x0), (1, .int (x)), (2, .int (y)), (3, .int (fr)), (4, .int (sp))] := hl
  refine lv_iload_n hx hb dX4_fill_0 rfl (lv_at hl 1 rfl) ?_
  refine kSi (As := [.int (x)]) (rest := []) S0 hK hst hA hW [] (fun sz => c_X4_isHasher_b l D cy t x (hbd) sz) rfl (by decide) (va_cwS 1 hts gX4_fill_X4_isHasher rfl rfl rfl (by decide +kernel) ⟨Nat.le_of_ble_eq_true rfl, Nat.le_of_ble_eq_true rfl⟩) (fun _ => rfl) rfl hl.1 rfl (Nat.le_of_ble_eq_true rfl) dX4_fill_1 ⟨Nat.le_of_ble_eq_true rfl, Nat.le_of_ble_eq_true rfl⟩ (fun r1 u1 H locs p1 hW => ?_)
  have hW : Wd D A s [(x0, .inr (4, [.ref xr, .ref xh, .ref xf, .ref xp, .ref xw, .ref xy, .ref xd]))] H locs := hW
  have q1 : r1 = nI (0) := p1
  subst q1
  refine zEq (a := 0) (tgt := 18) hx hb dX4_fill_4 (by decide) (by omega) (fun h4 => ?_) (fun h4 => ?_)
  · skip
    refine lv_bipush (v := (-2 : Int32)) hx hb dX4_fill_18 (by decide) ?_
    exact eI hQ hx hb hr hlocks hK hW () (rfl) (rfl) dX4_fill_20
  · skip
    exfalso; omega

set_option maxHeartbeats 4000000 in
set_option maxRecDepth 100000 in
theorem c_X4_fill_bn (l : Launch) (D : va_G) (cy : Nat → ClassId) (t : Nat × Nat) (x0 : Nat) (xr : Nat) (xh : Nat) (xf : Nat) (xp : Nat) (xw : Nat) (xy : Nat) (xd : Nat) (hh : Nat → Option Nat) (hj : Nat) (m0 : Nat) (h0 : Nat) (qk : Nat) (qs : Nat) (qc : Nat) (qb : Nat) (md : Int32) (bs : Int32) (fc : Nat) (tk : Nat) (cl : Nat) (dp : Nat) (bk : Nat) (ib : Nat) (kf : Nat → Int32) (sf : Nat → Int32) (cf : Nat → Int32) (bf : Nat → Int32) (y : Int32) (fr : Int32) (sp : Int32) (hhj : hh hj = some h0) (hj4 : hj < 4) (hbn : y < 0 ∨ nI 5000 < y) (sz : Nat) : Met l yX4_fill wsX4_fill ({ frames := 1, cells := 0, slots := 0, locals := 20 }) (PcW D cy t [(x0, .inr (4, [.ref xr, .ref xh, .ref xf, .ref xp, .ref xw, .ref xy, .ref xd])), (xh, .inl (cy 4, 4, .inr (.inr (.inr (.inr (hh)))))), (h0, .inr (1, [.ref m0, .ref qk, .ref qs, .ref qc, .ref qb, .int (md), .int (bs), .int (nI (fc)), .int (nI (tk)), .int (nI (cl)), .int (nI (dp)), .int (nI (bk)), .int (nI (ib))])), (qk, .inl (cy 0, 8, .inl (kf))), (qs, .inl (cy 0, 40, .inl (sf))), (qc, .inl (cy 0, 8, .inl (cf))), (qb, .inl (cy 0, 16, .inl (bf)))] [.ref x0, .int (nI (hj)), .int (y), .int (fr), .int (sp)] sz) (QiA D cy (fun (r : Int32) (u : Unit) => (r = (-2 : Int32))) (fun u : Unit => [(x0, .inr (4, [.ref xr, .ref xh, .ref xf, .ref xp, .ref xw, .ref xy, .ref xd])), (xh, .inl (cy 4, 4, .inr (.inr (.inr (.inr (hh)))))), (h0, .inr (1, [.ref m0, .ref qk, .ref qs, .ref qc, .ref qb, .int (md), .int (bs), .int (nI (fc)), .int (nI (tk)), .int (nI (cl)), .int (nI (dp)), .int (nI (bk)), .int (nI (ib))])), (qk, .inl (cy 0, 8, .inl (kf))), (qs, .inl (cy 0, 40, .inl (sf))), (qc, .inl (cy 0, 8, .inl (cf))), (qb, .inl (cy 0, 16, .inl (bf)))]) (va_A [(x0, .inr (4, [.ref xr, .ref xh, .ref xf, .ref xp, .ref xw, .ref xy, .ref xd])), (xh, .inl (cy 4, 4, .inr (.inr (.inr (.inr (hh)))))), (h0, .inr (1, [.ref m0, .ref qk, .ref qs, .ref qc, .ref qb, .int (md), .int (bs), .int (nI (fc)), .int (nI (tk)), .int (nI (cl)), .int (nI (dp)), .int (nI (bk)), .int (nI (ib))])), (qk, .inl (cy 0, 8, .inl (kf))), (qs, .inl (cy 0, 40, .inl (sf))), (qc, .inl (cy 0, 8, .inl (cf))), (qb, .inl (cy 0, 16, .inl (bf)))] sz)) 0 0 (va_A [(x0, .inr (4, [.ref xr, .ref xh, .ref xf, .ref xp, .ref xw, .ref xy, .ref xd])), (xh, .inl (cy 4, 4, .inr (.inr (.inr (.inr (hh)))))), (h0, .inr (1, [.ref m0, .ref qk, .ref qs, .ref qc, .ref qb, .int (md), .int (bs), .int (nI (fc)), .int (nI (tk)), .int (nI (cl)), .int (nI (dp)), .int (nI (bk)), .int (nI (ib))])), (qk, .inl (cy 0, 8, .inl (kf))), (qs, .inl (cy 0, 40, .inl (sf))), (qc, .inl (cy 0, 8, .inl (cf))), (qb, .inl (cy 0, 16, .inl (bf)))] sz) := by
  refine M_ofW (cc := cX4_fill) (maxL := 6) (ret := (some .int)) (by decide) rfl (Nat.le_of_ble_eq_true rfl) ?_
  intro p e s m below meth c A ls args Q hQ S0 hr hlocks hnm hK hst hA hW hl
  have hx := S0.1; have hb := S0.2.1; have hml := S0.2.2.1; have hown := S0.2.2.2.1; have hts := S0.2.2.2.2
  have hl : lv_has ls 6 [(0, .ref x0), (1, .int (nI (hj))), (2, .int (y)), (3, .int (fr)), (4, .int (sp))] := hl
  refine lv_iload_n hx hb dX4_fill_0 rfl (lv_at hl 1 rfl) ?_
  refine kSi (As := [.int (nI (hj))]) (rest := []) S0 hK hst hA hW [] (fun sz => c_X4_isHasher l D cy t hj (by omega) sz) rfl (by decide) (va_cwS 1 hts gX4_fill_X4_isHasher rfl rfl rfl (by decide +kernel) ⟨Nat.le_of_ble_eq_true rfl, Nat.le_of_ble_eq_true rfl⟩) (fun _ => rfl) rfl hl.1 rfl (Nat.le_of_ble_eq_true rfl) dX4_fill_1 ⟨Nat.le_of_ble_eq_true rfl, Nat.le_of_ble_eq_true rfl⟩ (fun r1 u1 H locs p1 hW => ?_)
  have hW : Wd D A s [(x0, .inr (4, [.ref xr, .ref xh, .ref xf, .ref xp, .ref xw, .ref xy, .ref xd])), (xh, .inl (cy 4, 4, .inr (.inr (.inr (.inr (hh)))))), (h0, .inr (1, [.ref m0, .ref qk, .ref qs, .ref qc, .ref qb, .int (md), .int (bs), .int (nI (fc)), .int (nI (tk)), .int (nI (cl)), .int (nI (dp)), .int (nI (bk)), .int (nI (ib))])), (qk, .inl (cy 0, 8, .inl (kf))), (qs, .inl (cy 0, 40, .inl (sf))), (qc, .inl (cy 0, 8, .inl (cf))), (qb, .inl (cy 0, 16, .inl (bf)))] H locs := hW
  have q1 : r1 = nI (1) := p1
  subst q1
  refine zEq (a := 1) (tgt := 18) hx hb dX4_fill_4 (by decide) (by omega) (fun h4 => ?_) (fun h4 => ?_)
  · skip
    exfalso; omega
  · skip
    refine lv_iload_n hx hb dX4_fill_7 rfl (lv_at hl 2 rfl) ?_
    refine lv_if_lt (tgt := 18) hx hb dX4_fill_8 (by decide) (fun h8 => ?_) (fun h8 => ?_)
    · skip
      refine lv_bipush (v := (-2 : Int32)) hx hb dX4_fill_18 (by decide) ?_
      exact eI hQ hx hb hr hlocks hK hW () (rfl) (rfl) dX4_fill_20
    · skip
      refine lv_iload_n hx hb dX4_fill_11 rfl (lv_at hl 2 rfl) ?_
      refine lv_sipush (v := nI (5000)) hx hb dX4_fill_12 (by decide) ?_
      refine lv_icmp_le (tgt := 21) hx hb dX4_fill_15 (by decide) (fun h15 => ?_) (fun h15 => ?_)
      · skip
        exact hbn.elim (fun q => absurd q h8) (fun q => absurd h15 (Int32.not_le.mpr q))
      · skip
        refine lv_bipush (v := (-2 : Int32)) hx hb dX4_fill_18 (by decide) ?_
        exact eI hQ hx hb hr hlocks hK hW () (rfl) (rfl) dX4_fill_20

theorem f_X4_fill_r_0 : Cond.constant RX4 88 (40000) ∈ wsX4_fill := by decide +kernel
theorem f_X4_fill_r_1 : Cond.fieldLink RX4 17 "TreeHashes" "hashers" "[LTreeHashes$Hasher;" ∈ wsX4_fill := by decide +kernel
theorem i_X4_fill_r_X4 : ∀ w ∈ wsX40, w ∈ wsX4_fill := by decide +kernel
theorem i_X4_fill_r_X1 : ∀ w ∈ wsX10, w ∈ wsX4_fill := by decide +kernel
set_option maxHeartbeats 4000000 in
set_option maxRecDepth 100000 in
theorem c_X4_fill_r (l : Launch) (D : va_G) (cy : Nat → ClassId) (t : Nat × Nat) (x0 : Nat) (xr : Nat) (xh : Nat) (xf : Nat) (xp : Nat) (xw : Nat) (xy : Nat) (xd : Nat) (hh : Nat → Option Nat) (hj : Nat) (m0 : Nat) (h0 : Nat) (qk : Nat) (qs : Nat) (qc : Nat) (qb : Nat) (md : Int32) (bs : Int32) (fc : Nat) (tk : Nat) (cl : Nat) (dp : Nat) (bk : Nat) (ib : Nat) (kf : Nat → Int32) (sf : Nat → Int32) (cf : Nat → Int32) (bf : Nat → Int32) (n : Nat) (fr : Int32) (sp : Int32) (hhj : hh hj = some h0) (hj4 : hj < 4) (hn5 : n ≤ 5000) (htk : tk ≤ 40000) (hfull : 40000 < tk + n) (sz : Nat) : Met l yX4_fill wsX4_fill ({ frames := 1, cells := 0, slots := 0, locals := 20 }) (PcW D cy t [(x0, .inr (4, [.ref xr, .ref xh, .ref xf, .ref xp, .ref xw, .ref xy, .ref xd])), (xh, .inl (cy 4, 4, .inr (.inr (.inr (.inr (hh)))))), (h0, .inr (1, [.ref m0, .ref qk, .ref qs, .ref qc, .ref qb, .int (md), .int (bs), .int (nI (fc)), .int (nI (tk)), .int (nI (cl)), .int (nI (dp)), .int (nI (bk)), .int (nI (ib))])), (qk, .inl (cy 0, 8, .inl (kf))), (qs, .inl (cy 0, 40, .inl (sf))), (qc, .inl (cy 0, 8, .inl (cf))), (qb, .inl (cy 0, 16, .inl (bf)))] [.ref x0, .int (nI (hj)), .int (nI (n)), .int (fr), .int (sp)] sz) (QiA D cy (fun (r : Int32) (u : Unit) => (r = (-3 : Int32))) (fun u : Unit => [(x0, .inr (4, [.ref xr, .ref xh, .ref xf, .ref xp, .ref xw, .ref xy, .ref xd])), (xh, .inl (cy 4, 4, .inr (.inr (.inr (.inr (hh)))))), (h0, .inr (1, [.ref m0, .ref qk, .ref qs, .ref qc, .ref qb, .int (md), .int (bs), .int (nI (fc)), .int (nI (tk)), .int (nI (cl)), .int (nI (dp)), .int (nI (bk)), .int (nI (ib))])), (qk, .inl (cy 0, 8, .inl (kf))), (qs, .inl (cy 0, 40, .inl (sf))), (qc, .inl (cy 0, 8, .inl (cf))), (qb, .inl (cy 0, 16, .inl (bf)))]) (va_A [(x0, .inr (4, [.ref xr, .ref xh, .ref xf, .ref xp, .ref xw, .ref xy, .ref xd])), (xh, .inl (cy 4, 4, .inr (.inr (.inr (.inr (hh)))))), (h0, .inr (1, [.ref m0, .ref qk, .ref qs, .ref qc, .ref qb, .int (md), .int (bs), .int (nI (fc)), .int (nI (tk)), .int (nI (cl)), .int (nI (dp)), .int (nI (bk)), .int (nI (ib))])), (qk, .inl (cy 0, 8, .inl (kf))), (qs, .inl (cy 0, 40, .inl (sf))), (qc, .inl (cy 0, 8, .inl (cf))), (qb, .inl (cy 0, 16, .inl (bf)))] sz)) 0 0 (va_A [(x0, .inr (4, [.ref xr, .ref xh, .ref xf, .ref xp, .ref xw, .ref xy, .ref xd])), (xh, .inl (cy 4, 4, .inr (.inr (.inr (.inr (hh)))))), (h0, .inr (1, [.ref m0, .ref qk, .ref qs, .ref qc, .ref qb, .int (md), .int (bs), .int (nI (fc)), .int (nI (tk)), .int (nI (cl)), .int (nI (dp)), .int (nI (bk)), .int (nI (ib))])), (qk, .inl (cy 0, 8, .inl (kf))), (qs, .inl (cy 0, 40, .inl (sf))), (qc, .inl (cy 0, 8, .inl (cf))), (qb, .inl (cy 0, 16, .inl (bf)))] sz) := by
  refine M_ofW (cc := cX4_fill) (maxL := 6) (ret := (some .int)) (by decide) rfl (Nat.le_of_ble_eq_true rfl) ?_
  intro p e s m below meth c A ls args Q hQ S0 hr hlocks hnm hK hst hA hW hl
  have hx := S0.1; have hb := S0.2.1; have hml := S0.2.2.1; have hown := S0.2.2.2.1; have hts := S0.2.2.2.2
  have hl : lv_has ls 6 [(0, .ref x0), (1, .int (nI (hj))), (2, .int (nI (n))), (3, .int (fr)), (4, .int (sp))] := hl
  refine lv_iload_n hx hb dX4_fill_0 rfl (lv_at hl 1 rfl) ?_
  refine kSi (As := [.int (nI (hj))]) (rest := []) S0 hK hst hA hW [] (fun sz => c_X4_isHasher l D cy t hj (by omega) sz) rfl (by decide) (va_cwS 1 hts gX4_fill_X4_isHasher rfl rfl rfl (by decide +kernel) ⟨Nat.le_of_ble_eq_true rfl, Nat.le_of_ble_eq_true rfl⟩) (fun _ => rfl) rfl hl.1 rfl (Nat.le_of_ble_eq_true rfl) dX4_fill_1 ⟨Nat.le_of_ble_eq_true rfl, Nat.le_of_ble_eq_true rfl⟩ (fun r1 u1 H locs p1 hW => ?_)
  have hW : Wd D A s [(x0, .inr (4, [.ref xr, .ref xh, .ref xf, .ref xp, .ref xw, .ref xy, .ref xd])), (xh, .inl (cy 4, 4, .inr (.inr (.inr (.inr (hh)))))), (h0, .inr (1, [.ref m0, .ref qk, .ref qs, .ref qc, .ref qb, .int (md), .int (bs), .int (nI (fc)), .int (nI (tk)), .int (nI (cl)), .int (nI (dp)), .int (nI (bk)), .int (nI (ib))])), (qk, .inl (cy 0, 8, .inl (kf))), (qs, .inl (cy 0, 40, .inl (sf))), (qc, .inl (cy 0, 8, .inl (cf))), (qb, .inl (cy 0, 16, .inl (bf)))] H locs := hW
  have q1 : r1 = nI (1) := p1
  subst q1
  refine zEq (a := 1) (tgt := 18) hx hb dX4_fill_4 (by decide) (by omega) (fun h4 => ?_) (fun h4 => ?_)
  · skip
    exfalso; omega
  · skip
    refine lv_iload_n hx hb dX4_fill_7 rfl (lv_at hl 2 rfl) ?_
    refine zLt (a := n) (tgt := 18) hx hb dX4_fill_8 (by decide) (by omega) ?_
    refine lv_iload_n hx hb dX4_fill_11 rfl (lv_at hl 2 rfl) ?_
    refine lv_sipush (v := nI (5000)) hx hb dX4_fill_12 (by decide) ?_
    refine iLe (a := n) (b := 5000) (tgt := 21) hx hb dX4_fill_15 (by decide) (by omega) (by omega) (fun h15 => ?_) (fun h15 => ?_)
    · skip
      refine lv_iload_n hx hb dX4_fill_21 rfl (lv_at hl 2 rfl) ?_
      refine lv_ldc (v := (40000 : Int32)) hx hb hown (hts (.constant RX4 88 (40000)) f_X4_fill_r_0) dX4_fill_22 ?_
      refine tI (x' := nI 40000) (by decide) ?_
      refine lv_aload_n hx hb dX4_fill_24 rfl (lv_at hl 0 rfl) ?_
      refine va_get (D := D) (ci := 4) (v := .ref xh) (C := RX4) (T := TX4) (N := 7) hx hb hts i_X4_fill_r_X4 hown hK hW.1 0 rfl rfl 1 (by decide) (hts (.fieldLink RX4 17 "TreeHashes" "hashers" "[LTreeHashes$Hasher;") f_X4_fill_r_1) (fun _ h9 => h9) rfl dX4_fill_25 ?_
      refine lv_iload_n hx hb dX4_fill_28 rfl (lv_at hl 1 rfl) ?_
      refine rA hx hb hK hW 1 (t0 := 4) rfl rfl (k := hj) (by omega) (by decide) (hhj) dX4_fill_29 ?_
      refine va_getN (D := D) (ci := 1) (v := .int (nI (tk))) (C := RX1) (T := TX1) (N := 13) hx hb hts i_X4_fill_r_X1 hown hK hW.1 2 rfl rfl 8 (by decide) (va_Nw.use rfl (hst.2.2.1 ("TreeHashes", 89, "TreeHashes$Hasher", "taken", "I", "TreeHashes") (by decide))) (fun _ h9 => h9) rfl dX4_fill_30 ?_
      refine lv_isub hx hb dX4_fill_33 ?_
      refine tI (pk_sub (by omega)) ?_
      refine iLe (a := n) (b := 40000 - tk) (tgt := 40) hx hb dX4_fill_34 (by decide) (by omega) (by omega) (fun h34 => ?_) (fun h34 => ?_)
      · skip
        exfalso; omega
      · skip
        refine lv_bipush (v := (-3 : Int32)) hx hb dX4_fill_37 (by decide) ?_
        exact eI hQ hx hb hr hlocks hK hW () (rfl) (rfl) dX4_fill_39
    · skip
      exfalso; omega

theorem f_X4_fill_0 : Cond.constant RX4 88 (40000) ∈ wsX4_fill := by decide +kernel
theorem f_X4_fill_1 : Cond.fieldLink RX4 17 "TreeHashes" "hashers" "[LTreeHashes$Hasher;" ∈ wsX4_fill := by decide +kernel
theorem i_X4_fill_X4 : ∀ w ∈ wsX40, w ∈ wsX4_fill := by decide +kernel
theorem i_X4_fill_X1 : ∀ w ∈ wsX10, w ∈ wsX4_fill := by decide +kernel
set_option maxHeartbeats 4000000 in
set_option maxRecDepth 100000 in
theorem c_X4_fill (l : Launch) (D : va_G) (cy : Nat → ClassId) (t : Nat × Nat) (x0 : Nat) (xr : Nat) (xh : Nat) (xf : Nat) (xp : Nat) (xw : Nat) (xy : Nat) (xd : Nat) (hh : Nat → Option Nat) (hj : Nat) (m0 : Nat) (mc : Nat) (mb : Nat) (mv : Nat) (aw : Nat) (an : Nat) (ct : Int64) (ln : Int32) (fl : Int32) (h0 : Nat) (qk : Nat) (qs : Nat) (qc : Nat) (qb : Nat) (md : Int32) (bs : Int32) (fc : Nat) (nt : Nat) (kf : Nat → Int32) (sf : Nat → Int32) (g : Nat → Int32) (ch : Nat → Int32) (bl : Nat → Int32) (v : Nat → Int32) (w : Nat → Int32) (nw : Nat → Int32) (n : Nat) (fr : Int32) (sp : Int32) (hhj : hh hj = some h0) (hj4 : hj < 4) (hfc : fc ≤ 1000) (hSk : SKr sf (skS kf bs g fc (clo nt)) (hdp nt)) (hn5 : n ≤ 5000) (ht : nt + n ≤ 40000) (hg : ∀ i, i < n → g (nt + i) = (fr + (nI i * sp)) &&& nI 255) (sz : Nat) : Met l yX4_fill wsX4_fill ({ frames := 4, cells := 0, slots := 0, locals := 94 }) (PcW D cy t [(x0, .inr (4, [.ref xr, .ref xh, .ref xf, .ref xp, .ref xw, .ref xy, .ref xd])), (xh, .inl (cy 4, 4, .inr (.inr (.inr (.inr (hh)))))), (h0, .inr (1, [.ref m0, .ref qk, .ref qs, .ref qc, .ref qb, .int (md), .int (bs), .int (nI (fc)), .int (nI (nt)), .int (nI (clo nt)), .int (nI (hdp nt)), .int (nI (hbk nt)), .int (nI (hib nt))])), (qk, .inl (cy 0, 8, .inl (kf))), (qs, .inl (cy 0, 40, .inl (sf))), (qc, .inl (cy 0, 8, .inl (hcf kf bs g fc nt))), (qb, .inl (cy 0, 16, .inl (hbf g nt))), (m0, .inr (2, [.ref mc, .ref mb, .long (ct), .int (ln), .int (fl), .ref mv, .ref aw, .ref an])), (mc, .inl (cy 0, 8, .inl (ch))), (mb, .inl (cy 0, 16, .inl (bl))), (mv, .inl (cy 0, 16, .inl (v))), (aw, .inl (cy 0, 16, .inl (w))), (an, .inl (cy 0, 16, .inl (nw)))] [.ref x0, .int (nI (hj)), .int (nI (n)), .int (fr), .int (sp)] sz) (QiA D cy (fun (r : Int32) (u : (Nat → Int32) × (Nat → Int32) × (Nat → Int32) × (Int64) × (Int32) × (Int32) × (Nat → Int32) × (Nat) × (Nat) × (Nat → Int32) × (Nat → Int32)) => match u with | (sf2, ch2, bl2, ct2, ln2, fl2, v2, aw2, an2, w2, nw2) => (r = nI (nt + n)) ∧ (SKr sf2 (skS kf bs g fc (clo (nt + n))) (hdp (nt + n)))) (fun u : (Nat → Int32) × (Nat → Int32) × (Nat → Int32) × (Int64) × (Int32) × (Int32) × (Nat → Int32) × (Nat) × (Nat) × (Nat → Int32) × (Nat → Int32) => match u with | (sf2, ch2, bl2, ct2, ln2, fl2, v2, aw2, an2, w2, nw2) => [(x0, .inr (4, [.ref xr, .ref xh, .ref xf, .ref xp, .ref xw, .ref xy, .ref xd])), (xh, .inl (cy 4, 4, .inr (.inr (.inr (.inr (hh)))))), (h0, .inr (1, [.ref m0, .ref qk, .ref qs, .ref qc, .ref qb, .int (md), .int (bs), .int (nI (fc)), .int (nI (nt + n)), .int (nI (clo (nt + n))), .int (nI (hdp (nt + n))), .int (nI (hbk (nt + n))), .int (nI (hib (nt + n)))])), (qk, .inl (cy 0, 8, .inl (kf))), (qs, .inl (cy 0, 40, .inl (sf2))), (qc, .inl (cy 0, 8, .inl (hcf kf bs g fc (nt + n)))), (qb, .inl (cy 0, 16, .inl (hbf g (nt + n)))), (m0, .inr (2, [.ref mc, .ref mb, .long (ct2), .int (ln2), .int (fl2), .ref mv, .ref aw2, .ref an2])), (mc, .inl (cy 0, 8, .inl (ch2))), (mb, .inl (cy 0, 16, .inl (bl2))), (mv, .inl (cy 0, 16, .inl (v2))), (aw2, .inl (cy 0, 16, .inl (w2))), (an2, .inl (cy 0, 16, .inl (nw2)))]) (va_A [(x0, .inr (4, [.ref xr, .ref xh, .ref xf, .ref xp, .ref xw, .ref xy, .ref xd])), (xh, .inl (cy 4, 4, .inr (.inr (.inr (.inr (hh)))))), (h0, .inr (1, [.ref m0, .ref qk, .ref qs, .ref qc, .ref qb, .int (md), .int (bs), .int (nI (fc)), .int (nI (nt)), .int (nI (clo nt)), .int (nI (hdp nt)), .int (nI (hbk nt)), .int (nI (hib nt))])), (qk, .inl (cy 0, 8, .inl (kf))), (qs, .inl (cy 0, 40, .inl (sf))), (qc, .inl (cy 0, 8, .inl (hcf kf bs g fc nt))), (qb, .inl (cy 0, 16, .inl (hbf g nt))), (m0, .inr (2, [.ref mc, .ref mb, .long (ct), .int (ln), .int (fl), .ref mv, .ref aw, .ref an])), (mc, .inl (cy 0, 8, .inl (ch))), (mb, .inl (cy 0, 16, .inl (bl))), (mv, .inl (cy 0, 16, .inl (v))), (aw, .inl (cy 0, 16, .inl (w))), (an, .inl (cy 0, 16, .inl (nw)))] sz)) 0 0 (va_A [(x0, .inr (4, [.ref xr, .ref xh, .ref xf, .ref xp, .ref xw, .ref xy, .ref xd])), (xh, .inl (cy 4, 4, .inr (.inr (.inr (.inr (hh)))))), (h0, .inr (1, [.ref m0, .ref qk, .ref qs, .ref qc, .ref qb, .int (md), .int (bs), .int (nI (fc)), .int (nI (nt)), .int (nI (clo nt)), .int (nI (hdp nt)), .int (nI (hbk nt)), .int (nI (hib nt))])), (qk, .inl (cy 0, 8, .inl (kf))), (qs, .inl (cy 0, 40, .inl (sf))), (qc, .inl (cy 0, 8, .inl (hcf kf bs g fc nt))), (qb, .inl (cy 0, 16, .inl (hbf g nt))), (m0, .inr (2, [.ref mc, .ref mb, .long (ct), .int (ln), .int (fl), .ref mv, .ref aw, .ref an])), (mc, .inl (cy 0, 8, .inl (ch))), (mb, .inl (cy 0, 16, .inl (bl))), (mv, .inl (cy 0, 16, .inl (v))), (aw, .inl (cy 0, 16, .inl (w))), (an, .inl (cy 0, 16, .inl (nw)))] sz) := by
  refine M_ofW (cc := cX4_fill) (maxL := 6) (ret := (some .int)) (by decide) rfl (Nat.le_of_ble_eq_true rfl) ?_
  intro p e s m below meth c A ls args Q hQ S0 hr hlocks hnm hK hst hA hW hl
  have hx := S0.1; have hb := S0.2.1; have hml := S0.2.2.1; have hown := S0.2.2.2.1; have hts := S0.2.2.2.2
  have hl : lv_has ls 6 [(0, .ref x0), (1, .int (nI (hj))), (2, .int (nI (n))), (3, .int (fr)), (4, .int (sp))] := hl
  refine lv_iload_n hx hb dX4_fill_0 rfl (lv_at hl 1 rfl) ?_
  refine kSi (As := [.int (nI (hj))]) (rest := []) S0 hK hst hA hW [] (fun sz => c_X4_isHasher l D cy t hj (by omega) sz) rfl (by decide) (va_cwS 1 hts gX4_fill_X4_isHasher rfl rfl rfl (by decide +kernel) ⟨Nat.le_of_ble_eq_true rfl, Nat.le_of_ble_eq_true rfl⟩) (fun _ => rfl) rfl hl.1 rfl (Nat.le_of_ble_eq_true rfl) dX4_fill_1 ⟨Nat.le_of_ble_eq_true rfl, Nat.le_of_ble_eq_true rfl⟩ (fun r1 u1 H locs p1 hW => ?_)
  have hW : Wd D A s [(x0, .inr (4, [.ref xr, .ref xh, .ref xf, .ref xp, .ref xw, .ref xy, .ref xd])), (xh, .inl (cy 4, 4, .inr (.inr (.inr (.inr (hh)))))), (h0, .inr (1, [.ref m0, .ref qk, .ref qs, .ref qc, .ref qb, .int (md), .int (bs), .int (nI (fc)), .int (nI (nt)), .int (nI (clo nt)), .int (nI (hdp nt)), .int (nI (hbk nt)), .int (nI (hib nt))])), (qk, .inl (cy 0, 8, .inl (kf))), (qs, .inl (cy 0, 40, .inl (sf))), (qc, .inl (cy 0, 8, .inl (hcf kf bs g fc nt))), (qb, .inl (cy 0, 16, .inl (hbf g nt))), (m0, .inr (2, [.ref mc, .ref mb, .long (ct), .int (ln), .int (fl), .ref mv, .ref aw, .ref an])), (mc, .inl (cy 0, 8, .inl (ch))), (mb, .inl (cy 0, 16, .inl (bl))), (mv, .inl (cy 0, 16, .inl (v))), (aw, .inl (cy 0, 16, .inl (w))), (an, .inl (cy 0, 16, .inl (nw)))] H locs := hW
  have q1 : r1 = nI (1) := p1
  subst q1
  refine zEq (a := 1) (tgt := 18) hx hb dX4_fill_4 (by decide) (by omega) (fun h4 => ?_) (fun h4 => ?_)
  · skip
    exfalso; omega
  · skip
    refine lv_iload_n hx hb dX4_fill_7 rfl (lv_at hl 2 rfl) ?_
    refine zLt (a := n) (tgt := 18) hx hb dX4_fill_8 (by decide) (by omega) ?_
    refine lv_iload_n hx hb dX4_fill_11 rfl (lv_at hl 2 rfl) ?_
    refine lv_sipush (v := nI (5000)) hx hb dX4_fill_12 (by decide) ?_
    refine iLe (a := n) (b := 5000) (tgt := 21) hx hb dX4_fill_15 (by decide) (by omega) (by omega) (fun h15 => ?_) (fun h15 => ?_)
    · skip
      refine lv_iload_n hx hb dX4_fill_21 rfl (lv_at hl 2 rfl) ?_
      refine lv_ldc (v := (40000 : Int32)) hx hb hown (hts (.constant RX4 88 (40000)) f_X4_fill_0) dX4_fill_22 ?_
      refine tI (x' := nI 40000) (by decide) ?_
      refine lv_aload_n hx hb dX4_fill_24 rfl (lv_at hl 0 rfl) ?_
      refine va_get (D := D) (ci := 4) (v := .ref xh) (C := RX4) (T := TX4) (N := 7) hx hb hts i_X4_fill_X4 hown hK hW.1 0 rfl rfl 1 (by decide) (hts (.fieldLink RX4 17 "TreeHashes" "hashers" "[LTreeHashes$Hasher;") f_X4_fill_1) (fun _ h9 => h9) rfl dX4_fill_25 ?_
      refine lv_iload_n hx hb dX4_fill_28 rfl (lv_at hl 1 rfl) ?_
      refine rA hx hb hK hW 1 (t0 := 4) rfl rfl (k := hj) (by omega) (by decide) (hhj) dX4_fill_29 ?_
      refine va_getN (D := D) (ci := 1) (v := .int (nI (nt))) (C := RX1) (T := TX1) (N := 13) hx hb hts i_X4_fill_X1 hown hK hW.1 2 rfl rfl 8 (by decide) (va_Nw.use rfl (hst.2.2.1 ("TreeHashes", 89, "TreeHashes$Hasher", "taken", "I", "TreeHashes") (by decide))) (fun _ h9 => h9) rfl dX4_fill_30 ?_
      refine lv_isub hx hb dX4_fill_33 ?_
      refine tI (pk_sub (by omega)) ?_
      refine iLe (a := n) (b := 40000 - nt) (tgt := 40) hx hb dX4_fill_34 (by decide) (by omega) (by omega) (fun h34 => ?_) (fun h34 => ?_)
      · skip
        refine lv_iconst (v := nI (0)) hx hb dX4_fill_40 (by decide) ?_
        refine lv_istore (lv' := [(5, .int (nI (0))), (0, .ref x0), (1, .int (nI (hj))), (2, .int (nI (n))), (3, .int (fr)), (4, .int (sp))]) hx hb dX4_fill_41 hl (by decide) rfl (fun ls hl => ?_)
        have loop43 : ∀ (nF : Nat) (i : Nat) (sx : Nat → Int32) (chx : Nat → Int32) (blx : Nat → Int32) (cx : Int64) (lx : Int32) (fx : Int32) (vx : Nat → Int32) (ax : Nat) (ay : Nat) (wx : Nat → Int32) (nx : Nat → Int32), n - i < nF → (i ≤ n) → (SKr sx (skS kf bs g fc (clo (nt + i))) (hdp (nt + i))) → ∀ (H : Heap) (locs : List Loc), Wd D A s [(x0, .inr (4, [.ref xr, .ref xh, .ref xf, .ref xp, .ref xw, .ref xy, .ref xd])), (xh, .inl (cy 4, 4, .inr (.inr (.inr (.inr (hh)))))), (h0, .inr (1, [.ref m0, .ref qk, .ref qs, .ref qc, .ref qb, .int (md), .int (bs), .int (nI (fc)), .int (nI (nt + i)), .int (nI (clo (nt + i))), .int (nI (hdp (nt + i))), .int (nI (hbk (nt + i))), .int (nI (hib (nt + i)))])), (qk, .inl (cy 0, 8, .inl (kf))), (qs, .inl (cy 0, 40, .inl (sx))), (qc, .inl (cy 0, 8, .inl (hcf kf bs g fc (nt + i)))), (qb, .inl (cy 0, 16, .inl (hbf g (nt + i)))), (m0, .inr (2, [.ref mc, .ref mb, .long (cx), .int (lx), .int (fx), .ref mv, .ref ax, .ref ay])), (mc, .inl (cy 0, 8, .inl (chx))), (mb, .inl (cy 0, 16, .inl (blx))), (mv, .inl (cy 0, 16, .inl (vx))), (ax, .inl (cy 0, 16, .inl (wx))), (ay, .inl (cy 0, 16, .inl (nx)))] H locs → ∀ ls : Array Slot, lv_has ls 6 [(0, .ref x0), (1, .int (nI (hj))), (2, .int (nI (n))), (3, .int (fr)), (4, .int (sp)), (5, .int (nI (i)))] → W p l e ({ frames := 4, cells := 0, slots := 0, locals := 94 }) s m args below meth c H locs 0 0 Q (F0 m 43 ls []) := by
          intro nF
          induction nF with
          | zero => intro i sx chx blx cx lx fx vx ax ay wx nx hf; exact absurd hf (Nat.not_lt_zero _)
          | succ nF ih43 =>
            intro i sx chx blx cx lx fx vx ax ay wx nx hf hi hSx H locs hW ls hl
            refine lv_iload hx hb dX4_fill_43 (lv_at hl 5 rfl) ?_
            refine lv_iload_n hx hb dX4_fill_45 rfl (lv_at hl 2 rfl) ?_
            refine iGe (a := i) (b := n) (tgt := 71) hx hb dX4_fill_46 (by decide) (by omega) (by omega) (fun h46 => ?_) (fun h46 => ?_)
            · skip
              refine lv_aload_n hx hb dX4_fill_71 rfl (lv_at hl 0 rfl) ?_
              refine va_get (D := D) (ci := 4) (v := .ref xh) (C := RX4) (T := TX4) (N := 7) hx hb hts i_X4_fill_X4 hown hK hW.1 0 rfl rfl 1 (by decide) (hts (.fieldLink RX4 17 "TreeHashes" "hashers" "[LTreeHashes$Hasher;") f_X4_fill_1) (fun _ h9 => h9) rfl dX4_fill_72 ?_
              refine lv_iload_n hx hb dX4_fill_75 rfl (lv_at hl 1 rfl) ?_
              refine rA hx hb hK hW 1 (t0 := 4) rfl rfl (k := hj) (by omega) (by decide) (hhj) dX4_fill_76 ?_
              refine va_getN (D := D) (ci := 1) (v := .int (nI (nt + i))) (C := RX1) (T := TX1) (N := 13) hx hb hts i_X4_fill_X1 hown hK hW.1 2 rfl rfl 8 (by decide) (va_Nw.use rfl (hst.2.2.1 ("TreeHashes", 89, "TreeHashes$Hasher", "taken", "I", "TreeHashes") (by decide))) (fun _ h9 => h9) rfl dX4_fill_77 ?_
              have e9 : i = n := by omega
              rw [e9] at hW hSx
              exact eI hQ hx hb hr hlocks hK hW (sx, chx, blx, cx, lx, fx, vx, ax, ay, wx, nx) (⟨by rw [e9], hSx⟩) (rfl) dX4_fill_80
            · skip
              refine lv_aload_n hx hb dX4_fill_49 rfl (lv_at hl 0 rfl) ?_
              refine va_get (D := D) (ci := 4) (v := .ref xh) (C := RX4) (T := TX4) (N := 7) hx hb hts i_X4_fill_X4 hown hK hW.1 0 rfl rfl 1 (by decide) (hts (.fieldLink RX4 17 "TreeHashes" "hashers" "[LTreeHashes$Hasher;") f_X4_fill_1) (fun _ h9 => h9) rfl dX4_fill_50 ?_
              refine lv_iload_n hx hb dX4_fill_53 rfl (lv_at hl 1 rfl) ?_
              refine rA hx hb hK hW 1 (t0 := 4) rfl rfl (k := hj) (by omega) (by decide) (hhj) dX4_fill_54 ?_
              refine lv_iload_n hx hb dX4_fill_55 rfl (lv_at hl 3 rfl) ?_
              refine lv_iload hx hb dX4_fill_56 (lv_at hl 5 rfl) ?_
              refine lv_iload hx hb dX4_fill_58 (lv_at hl 4 rfl) ?_
              refine lv_imul hx hb dX4_fill_60 ?_
              refine lv_iadd hx hb dX4_fill_61 ?_
              refine kVv (As := [.int (fr + ((nI (i)) * sp))]) (rest := []) S0 hK hst hA hW [2, 3, 4, 5, 6, 7, 8, 9, 10, 11, 12] (fun sz => c_X1_absorbByte l D cy t m0 mc mb mv ax ay cx lx fx h0 qk qs qc qb md bs fc (nt + i) kf sx g chx blx vx wx nx (fr + ((nI (i)) * sp)) (by omega) (by omega) (hSx) (hg i (by omega)) sz) rfl (by decide) (cwV 1 hts gX4_fill_X1_absorbByte rfl rfl rfl (by decide +kernel) ⟨Nat.le_of_ble_eq_true rfl, Nat.le_of_ble_eq_true rfl⟩) (fun ⟨_, _, _, _, _, _, _, _, _, _, _⟩ => rfl) 0 1 rfl rfl rfl hl.1 rfl (Nat.le_of_ble_eq_true rfl) dX4_fill_62 ⟨Nat.le_of_ble_eq_true rfl, Nat.le_of_ble_eq_true rfl⟩ (fun u62 H locs p62 hW => ?_)
              obtain ⟨sf2_62, ch2_62, bl2_62, ct2_62, ln2_62, fl2_62, v2_62, aw2_62, an2_62, w2_62, nw2_62⟩ := u62
              have hW : Wd D A s [(x0, .inr (4, [.ref xr, .ref xh, .ref xf, .ref xp, .ref xw, .ref xy, .ref xd])), (xh, .inl (cy 4, 4, .inr (.inr (.inr (.inr (hh)))))), (h0, .inr (1, [.ref m0, .ref qk, .ref qs, .ref qc, .ref qb, .int (md), .int (bs), .int (nI (fc)), .int (nI ((nt + i) + 1)), .int (nI (clo ((nt + i) + 1))), .int (nI (hdp ((nt + i) + 1))), .int (nI (hbk ((nt + i) + 1))), .int (nI (hib ((nt + i) + 1)))])), (qk, .inl (cy 0, 8, .inl (kf))), (qs, .inl (cy 0, 40, .inl (sf2_62))), (qc, .inl (cy 0, 8, .inl (hcf kf bs g fc ((nt + i) + 1)))), (qb, .inl (cy 0, 16, .inl (hbf g ((nt + i) + 1)))), (m0, .inr (2, [.ref mc, .ref mb, .long (ct2_62), .int (ln2_62), .int (fl2_62), .ref mv, .ref aw2_62, .ref an2_62])), (mc, .inl (cy 0, 8, .inl (ch2_62))), (mb, .inl (cy 0, 16, .inl (bl2_62))), (mv, .inl (cy 0, 16, .inl (v2_62))), (aw2_62, .inl (cy 0, 16, .inl (w2_62))), (an2_62, .inl (cy 0, 16, .inl (nw2_62)))] H locs := hW
              refine lv_iinc (v := nI (i + 1)) (lv' := [(5, .int (nI (i + 1))), (0, .ref x0), (1, .int (nI (hj))), (2, .int (nI (n))), (3, .int (fr)), (4, .int (sp))]) hx hb dX4_fill_65 hl (k := 5) rfl (nI_1 _) (by decide) rfl (fun ls hl => ?_)
              refine lv_goto (tgt := 43) hx hb dX4_fill_68 (by decide) ?_
              exact ih43 (i + 1) sf2_62 ch2_62 bl2_62 ct2_62 ln2_62 fl2_62 v2_62 aw2_62 an2_62 w2_62 nw2_62 (by omega) (by omega) (p62) _ _ hW _ (lv_sub hl [1, 2, 3, 4, 5, 0] rfl)
        exact loop43 _ 0 sf ch bl ct ln fl v aw an w nw (Nat.lt_succ_self _) (by omega) (hSk) _ _ hW _ (lv_sub hl [1, 2, 3, 4, 5, 0] rfl)
      · skip
        exfalso; omega
    · skip
      exfalso; omega

set_option maxHeartbeats 4000000 in
set_option maxRecDepth 100000 in
theorem c_X4_output_b (l : Launch) (D : va_G) (cy : Nat → ClassId) (t : Nat × Nat) (x0 : Nat) (xr : Nat) (xh : Nat) (xf : Nat) (xp : Nat) (xw : Nat) (xy : Nat) (xd : Nat) (x : Int32) (y : Int32) (z : Int32) (w0 : Int64) (hbd : x < 0 ∨ nI 4 ≤ x) (sz : Nat) : Met l yX4_output wsX4_output ({ frames := 1, cells := 0, slots := 0, locals := 20 }) (PcW D cy t [(x0, .inr (4, [.ref xr, .ref xh, .ref xf, .ref xp, .ref xw, .ref xy, .ref xd]))] [.ref x0, .int (x), .int (y), .int (z), .long (w0)] sz) (QiA D cy (fun (r : Int32) (u : Unit) => (r = (-2 : Int32))) (fun u : Unit => [(x0, .inr (4, [.ref xr, .ref xh, .ref xf, .ref xp, .ref xw, .ref xy, .ref xd]))]) (va_A [(x0, .inr (4, [.ref xr, .ref xh, .ref xf, .ref xp, .ref xw, .ref xy, .ref xd]))] sz)) 0 0 (va_A [(x0, .inr (4, [.ref xr, .ref xh, .ref xf, .ref xp, .ref xw, .ref xy, .ref xd]))] sz) := by
  refine M_ofW (cc := cX4_output) (maxL := 6) (ret := (some .int)) (by decide) rfl (Nat.le_of_ble_eq_true rfl) ?_
  intro p e s m below meth c A ls args Q hQ S0 hr hlocks hnm hK hst hA hW hl
  have hx := S0.1; have hb := S0.2.1; have hml := S0.2.2.1; have hown := S0.2.2.2.1; have hts := S0.2.2.2.2
  have hl : lv_has ls 6 [(0, .ref x0), (1, .int (x)), (2, .int (y)), (3, .int (z)), (4, .long (w0))] := hl
  refine lv_iload_n hx hb dX4_output_0 rfl (lv_at hl 1 rfl) ?_
  refine kSi (As := [.int (x)]) (rest := []) S0 hK hst hA hW [] (fun sz => c_X4_isHasher_b l D cy t x (hbd) sz) rfl (by decide) (va_cwS 1 hts gX4_output_X4_isHasher rfl rfl rfl (by decide +kernel) ⟨Nat.le_of_ble_eq_true rfl, Nat.le_of_ble_eq_true rfl⟩) (fun _ => rfl) rfl hl.1 rfl (Nat.le_of_ble_eq_true rfl) dX4_output_1 ⟨Nat.le_of_ble_eq_true rfl, Nat.le_of_ble_eq_true rfl⟩ (fun r1 u1 H locs p1 hW => ?_)
  have hW : Wd D A s [(x0, .inr (4, [.ref xr, .ref xh, .ref xf, .ref xp, .ref xw, .ref xy, .ref xd]))] H locs := hW
  have q1 : r1 = nI (0) := p1
  subst q1
  refine zEq (a := 0) (tgt := 25) hx hb dX4_output_4 (by decide) (by omega) (fun h4 => ?_) (fun h4 => ?_)
  · skip
    refine lv_bipush (v := (-2 : Int32)) hx hb dX4_output_25 (by decide) ?_
    exact eI hQ hx hb hr hlocks hK hW () (rfl) (rfl) dX4_output_27
  · skip
    exfalso; omega

set_option maxHeartbeats 4000000 in
set_option maxRecDepth 100000 in
theorem c_X4_output_b2 (l : Launch) (D : va_G) (cy : Nat → ClassId) (t : Nat × Nat) (x0 : Nat) (xr : Nat) (xh : Nat) (xf : Nat) (xp : Nat) (xw : Nat) (xy : Nat) (xd : Nat) (hh : Nat → Option Nat) (hj : Nat) (m0 : Nat) (h0 : Nat) (qk : Nat) (qs : Nat) (qc : Nat) (qb : Nat) (md : Int32) (bs : Int32) (fc : Nat) (tk : Nat) (cl : Nat) (dp : Nat) (bk : Nat) (ib : Nat) (kf : Nat → Int32) (sf : Nat → Int32) (cf : Nat → Int32) (bf : Nat → Int32) (x : Int32) (z : Int32) (w0 : Int64) (hhj : hh hj = some h0) (hj4 : hj < 4) (hbd : x < 0 ∨ nI 8 ≤ x) (sz : Nat) : Met l yX4_output wsX4_output ({ frames := 1, cells := 0, slots := 0, locals := 20 }) (PcW D cy t [(x0, .inr (4, [.ref xr, .ref xh, .ref xf, .ref xp, .ref xw, .ref xy, .ref xd])), (xh, .inl (cy 4, 4, .inr (.inr (.inr (.inr (hh)))))), (h0, .inr (1, [.ref m0, .ref qk, .ref qs, .ref qc, .ref qb, .int (md), .int (bs), .int (nI (fc)), .int (nI (tk)), .int (nI (cl)), .int (nI (dp)), .int (nI (bk)), .int (nI (ib))])), (qk, .inl (cy 0, 8, .inl (kf))), (qs, .inl (cy 0, 40, .inl (sf))), (qc, .inl (cy 0, 8, .inl (cf))), (qb, .inl (cy 0, 16, .inl (bf)))] [.ref x0, .int (nI (hj)), .int (x), .int (z), .long (w0)] sz) (QiA D cy (fun (r : Int32) (u : Unit) => (r = (-2 : Int32))) (fun u : Unit => [(x0, .inr (4, [.ref xr, .ref xh, .ref xf, .ref xp, .ref xw, .ref xy, .ref xd])), (xh, .inl (cy 4, 4, .inr (.inr (.inr (.inr (hh)))))), (h0, .inr (1, [.ref m0, .ref qk, .ref qs, .ref qc, .ref qb, .int (md), .int (bs), .int (nI (fc)), .int (nI (tk)), .int (nI (cl)), .int (nI (dp)), .int (nI (bk)), .int (nI (ib))])), (qk, .inl (cy 0, 8, .inl (kf))), (qs, .inl (cy 0, 40, .inl (sf))), (qc, .inl (cy 0, 8, .inl (cf))), (qb, .inl (cy 0, 16, .inl (bf)))]) (va_A [(x0, .inr (4, [.ref xr, .ref xh, .ref xf, .ref xp, .ref xw, .ref xy, .ref xd])), (xh, .inl (cy 4, 4, .inr (.inr (.inr (.inr (hh)))))), (h0, .inr (1, [.ref m0, .ref qk, .ref qs, .ref qc, .ref qb, .int (md), .int (bs), .int (nI (fc)), .int (nI (tk)), .int (nI (cl)), .int (nI (dp)), .int (nI (bk)), .int (nI (ib))])), (qk, .inl (cy 0, 8, .inl (kf))), (qs, .inl (cy 0, 40, .inl (sf))), (qc, .inl (cy 0, 8, .inl (cf))), (qb, .inl (cy 0, 16, .inl (bf)))] sz)) 0 0 (va_A [(x0, .inr (4, [.ref xr, .ref xh, .ref xf, .ref xp, .ref xw, .ref xy, .ref xd])), (xh, .inl (cy 4, 4, .inr (.inr (.inr (.inr (hh)))))), (h0, .inr (1, [.ref m0, .ref qk, .ref qs, .ref qc, .ref qb, .int (md), .int (bs), .int (nI (fc)), .int (nI (tk)), .int (nI (cl)), .int (nI (dp)), .int (nI (bk)), .int (nI (ib))])), (qk, .inl (cy 0, 8, .inl (kf))), (qs, .inl (cy 0, 40, .inl (sf))), (qc, .inl (cy 0, 8, .inl (cf))), (qb, .inl (cy 0, 16, .inl (bf)))] sz) := by
  refine M_ofW (cc := cX4_output) (maxL := 6) (ret := (some .int)) (by decide) rfl (Nat.le_of_ble_eq_true rfl) ?_
  intro p e s m below meth c A ls args Q hQ S0 hr hlocks hnm hK hst hA hW hl
  have hx := S0.1; have hb := S0.2.1; have hml := S0.2.2.1; have hown := S0.2.2.2.1; have hts := S0.2.2.2.2
  have hl : lv_has ls 6 [(0, .ref x0), (1, .int (nI (hj))), (2, .int (x)), (3, .int (z)), (4, .long (w0))] := hl
  refine lv_iload_n hx hb dX4_output_0 rfl (lv_at hl 1 rfl) ?_
  refine kSi (As := [.int (nI (hj))]) (rest := []) S0 hK hst hA hW [] (fun sz => c_X4_isHasher l D cy t hj (by omega) sz) rfl (by decide) (va_cwS 1 hts gX4_output_X4_isHasher rfl rfl rfl (by decide +kernel) ⟨Nat.le_of_ble_eq_true rfl, Nat.le_of_ble_eq_true rfl⟩) (fun _ => rfl) rfl hl.1 rfl (Nat.le_of_ble_eq_true rfl) dX4_output_1 ⟨Nat.le_of_ble_eq_true rfl, Nat.le_of_ble_eq_true rfl⟩ (fun r1 u1 H locs p1 hW => ?_)
  have hW : Wd D A s [(x0, .inr (4, [.ref xr, .ref xh, .ref xf, .ref xp, .ref xw, .ref xy, .ref xd])), (xh, .inl (cy 4, 4, .inr (.inr (.inr (.inr (hh)))))), (h0, .inr (1, [.ref m0, .ref qk, .ref qs, .ref qc, .ref qb, .int (md), .int (bs), .int (nI (fc)), .int (nI (tk)), .int (nI (cl)), .int (nI (dp)), .int (nI (bk)), .int (nI (ib))])), (qk, .inl (cy 0, 8, .inl (kf))), (qs, .inl (cy 0, 40, .inl (sf))), (qc, .inl (cy 0, 8, .inl (cf))), (qb, .inl (cy 0, 16, .inl (bf)))] H locs := hW
  have q1 : r1 = nI (1) := p1
  subst q1
  refine zEq (a := 1) (tgt := 25) hx hb dX4_output_4 (by decide) (by omega) (fun h4 => ?_) (fun h4 => ?_)
  · skip
    exfalso; omega
  · skip
    refine lv_iload_n hx hb dX4_output_7 rfl (lv_at hl 2 rfl) ?_
    refine kSi (As := [.int (x)]) (rest := []) S0 hK hst hA hW [] (fun sz => c_X4_isRegister_b l D cy t x (hbd) sz) rfl (by decide) (va_cwS 1 hts gX4_output_X4_isRegister rfl rfl rfl (by decide +kernel) ⟨Nat.le_of_ble_eq_true rfl, Nat.le_of_ble_eq_true rfl⟩) (fun _ => rfl) rfl hl.1 rfl (Nat.le_of_ble_eq_true rfl) dX4_output_8 ⟨Nat.le_of_ble_eq_true rfl, Nat.le_of_ble_eq_true rfl⟩ (fun r8 u8 H locs p8 hW => ?_)
    have hW : Wd D A s [(x0, .inr (4, [.ref xr, .ref xh, .ref xf, .ref xp, .ref xw, .ref xy, .ref xd])), (xh, .inl (cy 4, 4, .inr (.inr (.inr (.inr (hh)))))), (h0, .inr (1, [.ref m0, .ref qk, .ref qs, .ref qc, .ref qb, .int (md), .int (bs), .int (nI (fc)), .int (nI (tk)), .int (nI (cl)), .int (nI (dp)), .int (nI (bk)), .int (nI (ib))])), (qk, .inl (cy 0, 8, .inl (kf))), (qs, .inl (cy 0, 40, .inl (sf))), (qc, .inl (cy 0, 8, .inl (cf))), (qb, .inl (cy 0, 16, .inl (bf)))] H locs := hW
    have q8 : r8 = nI (0) := p8
    subst q8
    refine zEq (a := 0) (tgt := 25) hx hb dX4_output_11 (by decide) (by omega) (fun h11 => ?_) (fun h11 => ?_)
    · skip
      refine lv_bipush (v := (-2 : Int32)) hx hb dX4_output_25 (by decide) ?_
      exact eI hQ hx hb hr hlocks hK hW () (rfl) (rfl) dX4_output_27
    · skip
      exfalso; omega

set_option maxHeartbeats 4000000 in
set_option maxRecDepth 100000 in
theorem c_X4_output_bn (l : Launch) (D : va_G) (cy : Nat → ClassId) (t : Nat × Nat) (x0 : Nat) (xr : Nat) (xh : Nat) (xf : Nat) (xp : Nat) (xw : Nat) (xy : Nat) (xd : Nat) (hh : Nat → Option Nat) (hj : Nat) (m0 : Nat) (h0 : Nat) (qk : Nat) (qs : Nat) (qc : Nat) (qb : Nat) (md : Int32) (bs : Int32) (fc : Nat) (tk : Nat) (cl : Nat) (dp : Nat) (bk : Nat) (ib : Nat) (kf : Nat → Int32) (sf : Nat → Int32) (cf : Nat → Int32) (bf : Nat → Int32) (rr : Nat → Option Nat) (ri : Nat) (b0 : Nat) (b1 : Nat) (cnt : Nat) (f : Nat → Int32) (z : Int32) (w0 : Int64) (hhj : hh hj = some h0) (hj4 : hj < 4) (hri : rr ri = some b0) (hr8 : ri < 8) (hc : cnt ≤ 200) (hbn : z < 0 ∨ nI 200 < z) (sz : Nat) : Met l yX4_output wsX4_output ({ frames := 1, cells := 0, slots := 0, locals := 20 }) (PcW D cy t [(x0, .inr (4, [.ref xr, .ref xh, .ref xf, .ref xp, .ref xw, .ref xy, .ref xd])), (xh, .inl (cy 4, 4, .inr (.inr (.inr (.inr (hh)))))), (h0, .inr (1, [.ref m0, .ref qk, .ref qs, .ref qc, .ref qb, .int (md), .int (bs), .int (nI (fc)), .int (nI (tk)), .int (nI (cl)), .int (nI (dp)), .int (nI (bk)), .int (nI (ib))])), (qk, .inl (cy 0, 8, .inl (kf))), (qs, .inl (cy 0, 40, .inl (sf))), (qc, .inl (cy 0, 8, .inl (cf))), (qb, .inl (cy 0, 16, .inl (bf))), (xr, .inl (cy 3, 8, .inr (.inr (.inr (.inr (rr)))))), (b0, .inr (0, [.ref b1, .int (nI (cnt))])), (b1, .inl (cy 1, 200, .inl (f)))] [.ref x0, .int (nI (hj)), .int (nI (ri)), .int (z), .long (w0)] sz) (QiA D cy (fun (r : Int32) (u : Unit) => (r = (-2 : Int32))) (fun u : Unit => [(x0, .inr (4, [.ref xr, .ref xh, .ref xf, .ref xp, .ref xw, .ref xy, .ref xd])), (xh, .inl (cy 4, 4, .inr (.inr (.inr (.inr (hh)))))), (h0, .inr (1, [.ref m0, .ref qk, .ref qs, .ref qc, .ref qb, .int (md), .int (bs), .int (nI (fc)), .int (nI (tk)), .int (nI (cl)), .int (nI (dp)), .int (nI (bk)), .int (nI (ib))])), (qk, .inl (cy 0, 8, .inl (kf))), (qs, .inl (cy 0, 40, .inl (sf))), (qc, .inl (cy 0, 8, .inl (cf))), (qb, .inl (cy 0, 16, .inl (bf))), (xr, .inl (cy 3, 8, .inr (.inr (.inr (.inr (rr)))))), (b0, .inr (0, [.ref b1, .int (nI (cnt))])), (b1, .inl (cy 1, 200, .inl (f)))]) (va_A [(x0, .inr (4, [.ref xr, .ref xh, .ref xf, .ref xp, .ref xw, .ref xy, .ref xd])), (xh, .inl (cy 4, 4, .inr (.inr (.inr (.inr (hh)))))), (h0, .inr (1, [.ref m0, .ref qk, .ref qs, .ref qc, .ref qb, .int (md), .int (bs), .int (nI (fc)), .int (nI (tk)), .int (nI (cl)), .int (nI (dp)), .int (nI (bk)), .int (nI (ib))])), (qk, .inl (cy 0, 8, .inl (kf))), (qs, .inl (cy 0, 40, .inl (sf))), (qc, .inl (cy 0, 8, .inl (cf))), (qb, .inl (cy 0, 16, .inl (bf))), (xr, .inl (cy 3, 8, .inr (.inr (.inr (.inr (rr)))))), (b0, .inr (0, [.ref b1, .int (nI (cnt))])), (b1, .inl (cy 1, 200, .inl (f)))] sz)) 0 0 (va_A [(x0, .inr (4, [.ref xr, .ref xh, .ref xf, .ref xp, .ref xw, .ref xy, .ref xd])), (xh, .inl (cy 4, 4, .inr (.inr (.inr (.inr (hh)))))), (h0, .inr (1, [.ref m0, .ref qk, .ref qs, .ref qc, .ref qb, .int (md), .int (bs), .int (nI (fc)), .int (nI (tk)), .int (nI (cl)), .int (nI (dp)), .int (nI (bk)), .int (nI (ib))])), (qk, .inl (cy 0, 8, .inl (kf))), (qs, .inl (cy 0, 40, .inl (sf))), (qc, .inl (cy 0, 8, .inl (cf))), (qb, .inl (cy 0, 16, .inl (bf))), (xr, .inl (cy 3, 8, .inr (.inr (.inr (.inr (rr)))))), (b0, .inr (0, [.ref b1, .int (nI (cnt))])), (b1, .inl (cy 1, 200, .inl (f)))] sz) := by
  refine M_ofW (cc := cX4_output) (maxL := 6) (ret := (some .int)) (by decide) rfl (Nat.le_of_ble_eq_true rfl) ?_
  intro p e s m below meth c A ls args Q hQ S0 hr hlocks hnm hK hst hA hW hl
  have hx := S0.1; have hb := S0.2.1; have hml := S0.2.2.1; have hown := S0.2.2.2.1; have hts := S0.2.2.2.2
  have hl : lv_has ls 6 [(0, .ref x0), (1, .int (nI (hj))), (2, .int (nI (ri))), (3, .int (z)), (4, .long (w0))] := hl
  refine lv_iload_n hx hb dX4_output_0 rfl (lv_at hl 1 rfl) ?_
  refine kSi (As := [.int (nI (hj))]) (rest := []) S0 hK hst hA hW [] (fun sz => c_X4_isHasher l D cy t hj (by omega) sz) rfl (by decide) (va_cwS 1 hts gX4_output_X4_isHasher rfl rfl rfl (by decide +kernel) ⟨Nat.le_of_ble_eq_true rfl, Nat.le_of_ble_eq_true rfl⟩) (fun _ => rfl) rfl hl.1 rfl (Nat.le_of_ble_eq_true rfl) dX4_output_1 ⟨Nat.le_of_ble_eq_true rfl, Nat.le_of_ble_eq_true rfl⟩ (fun r1 u1 H locs p1 hW => ?_)
  have hW : Wd D A s [(x0, .inr (4, [.ref xr, .ref xh, .ref xf, .ref xp, .ref xw, .ref xy, .ref xd])), (xh, .inl (cy 4, 4, .inr (.inr (.inr (.inr (hh)))))), (h0, .inr (1, [.ref m0, .ref qk, .ref qs, .ref qc, .ref qb, .int (md), .int (bs), .int (nI (fc)), .int (nI (tk)), .int (nI (cl)), .int (nI (dp)), .int (nI (bk)), .int (nI (ib))])), (qk, .inl (cy 0, 8, .inl (kf))), (qs, .inl (cy 0, 40, .inl (sf))), (qc, .inl (cy 0, 8, .inl (cf))), (qb, .inl (cy 0, 16, .inl (bf))), (xr, .inl (cy 3, 8, .inr (.inr (.inr (.inr (rr)))))), (b0, .inr (0, [.ref b1, .int (nI (cnt))])), (b1, .inl (cy 1, 200, .inl (f)))] H locs := hW
  have q1 : r1 = nI (1) := p1
  subst q1
  refine zEq (a := 1) (tgt := 25) hx hb dX4_output_4 (by decide) (by omega) (fun h4 => ?_) (fun h4 => ?_)
  · skip
    exfalso; omega
  · skip
    refine lv_iload_n hx hb dX4_output_7 rfl (lv_at hl 2 rfl) ?_
    refine kSi (As := [.int (nI (ri))]) (rest := []) S0 hK hst hA hW [] (fun sz => c_X4_isRegister l D cy t ri (by omega) sz) rfl (by decide) (va_cwS 1 hts gX4_output_X4_isRegister rfl rfl rfl (by decide +kernel) ⟨Nat.le_of_ble_eq_true rfl, Nat.le_of_ble_eq_true rfl⟩) (fun _ => rfl) rfl hl.1 rfl (Nat.le_of_ble_eq_true rfl) dX4_output_8 ⟨Nat.le_of_ble_eq_true rfl, Nat.le_of_ble_eq_true rfl⟩ (fun r8 u8 H locs p8 hW => ?_)
    have hW : Wd D A s [(x0, .inr (4, [.ref xr, .ref xh, .ref xf, .ref xp, .ref xw, .ref xy, .ref xd])), (xh, .inl (cy 4, 4, .inr (.inr (.inr (.inr (hh)))))), (h0, .inr (1, [.ref m0, .ref qk, .ref qs, .ref qc, .ref qb, .int (md), .int (bs), .int (nI (fc)), .int (nI (tk)), .int (nI (cl)), .int (nI (dp)), .int (nI (bk)), .int (nI (ib))])), (qk, .inl (cy 0, 8, .inl (kf))), (qs, .inl (cy 0, 40, .inl (sf))), (qc, .inl (cy 0, 8, .inl (cf))), (qb, .inl (cy 0, 16, .inl (bf))), (xr, .inl (cy 3, 8, .inr (.inr (.inr (.inr (rr)))))), (b0, .inr (0, [.ref b1, .int (nI (cnt))])), (b1, .inl (cy 1, 200, .inl (f)))] H locs := hW
    have q8 : r8 = nI (1) := p8
    subst q8
    refine zEq (a := 1) (tgt := 25) hx hb dX4_output_11 (by decide) (by omega) (fun h11 => ?_) (fun h11 => ?_)
    · skip
      exfalso; omega
    · skip
      refine lv_iload_n hx hb dX4_output_14 rfl (lv_at hl 3 rfl) ?_
      refine lv_if_lt (tgt := 25) hx hb dX4_output_15 (by decide) (fun h15 => ?_) (fun h15 => ?_)
      · skip
        refine lv_bipush (v := (-2 : Int32)) hx hb dX4_output_25 (by decide) ?_
        exact eI hQ hx hb hr hlocks hK hW () (rfl) (rfl) dX4_output_27
      · skip
        refine lv_iload_n hx hb dX4_output_18 rfl (lv_at hl 3 rfl) ?_
        refine lv_sipush (v := nI (200)) hx hb dX4_output_19 (by decide) ?_
        refine lv_icmp_le (tgt := 28) hx hb dX4_output_22 (by decide) (fun h22 => ?_) (fun h22 => ?_)
        · skip
          exact hbn.elim (fun q => absurd q h15) (fun q => absurd h22 (Int32.not_le.mpr q))
        · skip
          refine lv_bipush (v := (-2 : Int32)) hx hb dX4_output_25 (by decide) ?_
          exact eI hQ hx hb hr hlocks hK hW () (rfl) (rfl) dX4_output_27

theorem f_X4_output_bp_0 : Cond.constantLong RX4 99 (4611686018427387904) ∈ wsX4_output := by decide +kernel
set_option maxHeartbeats 4000000 in
set_option maxRecDepth 100000 in
theorem c_X4_output_bp (l : Launch) (D : va_G) (cy : Nat → ClassId) (t : Nat × Nat) (x0 : Nat) (xr : Nat) (xh : Nat) (xf : Nat) (xp : Nat) (xw : Nat) (xy : Nat) (xd : Nat) (hh : Nat → Option Nat) (hj : Nat) (m0 : Nat) (h0 : Nat) (qk : Nat) (qs : Nat) (qc : Nat) (qb : Nat) (md : Int32) (bs : Int32) (fc : Nat) (tk : Nat) (cl : Nat) (dp : Nat) (bk : Nat) (ib : Nat) (kf : Nat → Int32) (sf : Nat → Int32) (cf : Nat → Int32) (bf : Nat → Int32) (rr : Nat → Option Nat) (ri : Nat) (b0 : Nat) (b1 : Nat) (cnt : Nat) (f : Nat → Int32) (n : Nat) (w0 : Int64) (hhj : hh hj = some h0) (hj4 : hj < 4) (hri : rr ri = some b0) (hr8 : ri < 8) (hc : cnt ≤ 200) (hn2 : n ≤ 200) (hbp : w0 < lN 0 ∨ (4611686018427387904 : Int64) < w0) (sz : Nat) : Met l yX4_output wsX4_output ({ frames := 1, cells := 0, slots := 0, locals := 20 }) (PcW D cy t [(x0, .inr (4, [.ref xr, .ref xh, .ref xf, .ref xp, .ref xw, .ref xy, .ref xd])), (xh, .inl (cy 4, 4, .inr (.inr (.inr (.inr (hh)))))), (h0, .inr (1, [.ref m0, .ref qk, .ref qs, .ref qc, .ref qb, .int (md), .int (bs), .int (nI (fc)), .int (nI (tk)), .int (nI (cl)), .int (nI (dp)), .int (nI (bk)), .int (nI (ib))])), (qk, .inl (cy 0, 8, .inl (kf))), (qs, .inl (cy 0, 40, .inl (sf))), (qc, .inl (cy 0, 8, .inl (cf))), (qb, .inl (cy 0, 16, .inl (bf))), (xr, .inl (cy 3, 8, .inr (.inr (.inr (.inr (rr)))))), (b0, .inr (0, [.ref b1, .int (nI (cnt))])), (b1, .inl (cy 1, 200, .inl (f)))] [.ref x0, .int (nI (hj)), .int (nI (ri)), .int (nI (n)), .long (w0)] sz) (QiA D cy (fun (r : Int32) (u : Unit) => (r = (-2 : Int32))) (fun u : Unit => [(x0, .inr (4, [.ref xr, .ref xh, .ref xf, .ref xp, .ref xw, .ref xy, .ref xd])), (xh, .inl (cy 4, 4, .inr (.inr (.inr (.inr (hh)))))), (h0, .inr (1, [.ref m0, .ref qk, .ref qs, .ref qc, .ref qb, .int (md), .int (bs), .int (nI (fc)), .int (nI (tk)), .int (nI (cl)), .int (nI (dp)), .int (nI (bk)), .int (nI (ib))])), (qk, .inl (cy 0, 8, .inl (kf))), (qs, .inl (cy 0, 40, .inl (sf))), (qc, .inl (cy 0, 8, .inl (cf))), (qb, .inl (cy 0, 16, .inl (bf))), (xr, .inl (cy 3, 8, .inr (.inr (.inr (.inr (rr)))))), (b0, .inr (0, [.ref b1, .int (nI (cnt))])), (b1, .inl (cy 1, 200, .inl (f)))]) (va_A [(x0, .inr (4, [.ref xr, .ref xh, .ref xf, .ref xp, .ref xw, .ref xy, .ref xd])), (xh, .inl (cy 4, 4, .inr (.inr (.inr (.inr (hh)))))), (h0, .inr (1, [.ref m0, .ref qk, .ref qs, .ref qc, .ref qb, .int (md), .int (bs), .int (nI (fc)), .int (nI (tk)), .int (nI (cl)), .int (nI (dp)), .int (nI (bk)), .int (nI (ib))])), (qk, .inl (cy 0, 8, .inl (kf))), (qs, .inl (cy 0, 40, .inl (sf))), (qc, .inl (cy 0, 8, .inl (cf))), (qb, .inl (cy 0, 16, .inl (bf))), (xr, .inl (cy 3, 8, .inr (.inr (.inr (.inr (rr)))))), (b0, .inr (0, [.ref b1, .int (nI (cnt))])), (b1, .inl (cy 1, 200, .inl (f)))] sz)) 0 0 (va_A [(x0, .inr (4, [.ref xr, .ref xh, .ref xf, .ref xp, .ref xw, .ref xy, .ref xd])), (xh, .inl (cy 4, 4, .inr (.inr (.inr (.inr (hh)))))), (h0, .inr (1, [.ref m0, .ref qk, .ref qs, .ref qc, .ref qb, .int (md), .int (bs), .int (nI (fc)), .int (nI (tk)), .int (nI (cl)), .int (nI (dp)), .int (nI (bk)), .int (nI (ib))])), (qk, .inl (cy 0, 8, .inl (kf))), (qs, .inl (cy 0, 40, .inl (sf))), (qc, .inl (cy 0, 8, .inl (cf))), (qb, .inl (cy 0, 16, .inl (bf))), (xr, .inl (cy 3, 8, .inr (.inr (.inr (.inr (rr)))))), (b0, .inr (0, [.ref b1, .int (nI (cnt))])), (b1, .inl (cy 1, 200, .inl (f)))] sz) := by
  refine M_ofW (cc := cX4_output) (maxL := 6) (ret := (some .int)) (by decide) rfl (Nat.le_of_ble_eq_true rfl) ?_
  intro p e s m below meth c A ls args Q hQ S0 hr hlocks hnm hK hst hA hW hl
  have hx := S0.1; have hb := S0.2.1; have hml := S0.2.2.1; have hown := S0.2.2.2.1; have hts := S0.2.2.2.2
  have hl : lv_has ls 6 [(0, .ref x0), (1, .int (nI (hj))), (2, .int (nI (ri))), (3, .int (nI (n))), (4, .long (w0))] := hl
  refine lv_iload_n hx hb dX4_output_0 rfl (lv_at hl 1 rfl) ?_
  refine kSi (As := [.int (nI (hj))]) (rest := []) S0 hK hst hA hW [] (fun sz => c_X4_isHasher l D cy t hj (by omega) sz) rfl (by decide) (va_cwS 1 hts gX4_output_X4_isHasher rfl rfl rfl (by decide +kernel) ⟨Nat.le_of_ble_eq_true rfl, Nat.le_of_ble_eq_true rfl⟩) (fun _ => rfl) rfl hl.1 rfl (Nat.le_of_ble_eq_true rfl) dX4_output_1 ⟨Nat.le_of_ble_eq_true rfl, Nat.le_of_ble_eq_true rfl⟩ (fun r1 u1 H locs p1 hW => ?_)
  have hW : Wd D A s [(x0, .inr (4, [.ref xr, .ref xh, .ref xf, .ref xp, .ref xw, .ref xy, .ref xd])), (xh, .inl (cy 4, 4, .inr (.inr (.inr (.inr (hh)))))), (h0, .inr (1, [.ref m0, .ref qk, .ref qs, .ref qc, .ref qb, .int (md), .int (bs), .int (nI (fc)), .int (nI (tk)), .int (nI (cl)), .int (nI (dp)), .int (nI (bk)), .int (nI (ib))])), (qk, .inl (cy 0, 8, .inl (kf))), (qs, .inl (cy 0, 40, .inl (sf))), (qc, .inl (cy 0, 8, .inl (cf))), (qb, .inl (cy 0, 16, .inl (bf))), (xr, .inl (cy 3, 8, .inr (.inr (.inr (.inr (rr)))))), (b0, .inr (0, [.ref b1, .int (nI (cnt))])), (b1, .inl (cy 1, 200, .inl (f)))] H locs := hW
  have q1 : r1 = nI (1) := p1
  subst q1
  refine zEq (a := 1) (tgt := 25) hx hb dX4_output_4 (by decide) (by omega) (fun h4 => ?_) (fun h4 => ?_)
  · skip
    exfalso; omega
  · skip
    refine lv_iload_n hx hb dX4_output_7 rfl (lv_at hl 2 rfl) ?_
    refine kSi (As := [.int (nI (ri))]) (rest := []) S0 hK hst hA hW [] (fun sz => c_X4_isRegister l D cy t ri (by omega) sz) rfl (by decide) (va_cwS 1 hts gX4_output_X4_isRegister rfl rfl rfl (by decide +kernel) ⟨Nat.le_of_ble_eq_true rfl, Nat.le_of_ble_eq_true rfl⟩) (fun _ => rfl) rfl hl.1 rfl (Nat.le_of_ble_eq_true rfl) dX4_output_8 ⟨Nat.le_of_ble_eq_true rfl, Nat.le_of_ble_eq_true rfl⟩ (fun r8 u8 H locs p8 hW => ?_)
    have hW : Wd D A s [(x0, .inr (4, [.ref xr, .ref xh, .ref xf, .ref xp, .ref xw, .ref xy, .ref xd])), (xh, .inl (cy 4, 4, .inr (.inr (.inr (.inr (hh)))))), (h0, .inr (1, [.ref m0, .ref qk, .ref qs, .ref qc, .ref qb, .int (md), .int (bs), .int (nI (fc)), .int (nI (tk)), .int (nI (cl)), .int (nI (dp)), .int (nI (bk)), .int (nI (ib))])), (qk, .inl (cy 0, 8, .inl (kf))), (qs, .inl (cy 0, 40, .inl (sf))), (qc, .inl (cy 0, 8, .inl (cf))), (qb, .inl (cy 0, 16, .inl (bf))), (xr, .inl (cy 3, 8, .inr (.inr (.inr (.inr (rr)))))), (b0, .inr (0, [.ref b1, .int (nI (cnt))])), (b1, .inl (cy 1, 200, .inl (f)))] H locs := hW
    have q8 : r8 = nI (1) := p8
    subst q8
    refine zEq (a := 1) (tgt := 25) hx hb dX4_output_11 (by decide) (by omega) (fun h11 => ?_) (fun h11 => ?_)
    · skip
      exfalso; omega
    · skip
      refine lv_iload_n hx hb dX4_output_14 rfl (lv_at hl 3 rfl) ?_
      refine zLt (a := n) (tgt := 25) hx hb dX4_output_15 (by decide) (by omega) ?_
      refine lv_iload_n hx hb dX4_output_18 rfl (lv_at hl 3 rfl) ?_
      refine lv_sipush (v := nI (200)) hx hb dX4_output_19 (by decide) ?_
      refine iLe (a := n) (b := 200) (tgt := 28) hx hb dX4_output_22 (by decide) (by omega) (by omega) (fun h22 => ?_) (fun h22 => ?_)
      · skip
        refine lv_lload hx hb dX4_output_28 (lv_at hl 4 rfl) ?_
        refine lv_lconst (v := lN 0) hx hb dX4_output_30 (by decide) ?_
        refine W.lcmp hx hb dX4_output_31 ?_
        refine lv_if_lt (tgt := 44) hx hb dX4_output_32 (by decide) (fun h32 => ?_) (fun h32 => ?_)
        · skip
          refine lv_bipush (v := (-2 : Int32)) hx hb dX4_output_44 (by decide) ?_
          exact eI hQ hx hb hr hlocks hK hW () (rfl) (rfl) dX4_output_46
        · skip
          refine lv_lload hx hb dX4_output_35 (lv_at hl 4 rfl) ?_
          refine lv_ldc2 (v := (4611686018427387904 : Int64)) hx hb hown (hts (.constantLong RX4 99 (4611686018427387904)) f_X4_output_bp_0) dX4_output_37 ?_
          refine W.lcmp hx hb dX4_output_40 ?_
          refine lv_if_le (tgt := 47) hx hb dX4_output_41 (by decide) (fun h41 => ?_) (fun h41 => ?_)
          · skip
            exact hbp.elim (fun q => absurd ((lg_cmp_lt _ _).mpr q) h32) (fun q => absurd ((lg_cmp_le _ _).mp h41) (Int64.not_le.mpr q))
          · skip
            refine lv_bipush (v := (-2 : Int32)) hx hb dX4_output_44 (by decide) ?_
            exact eI hQ hx hb hr hlocks hK hW () (rfl) (rfl) dX4_output_46
      · skip
        exfalso; omega

theorem f_X4_output_0 : Cond.constantLong RX4 99 (4611686018427387904) ∈ wsX4_output := by decide +kernel
theorem f_X4_output_1 : Cond.fieldLink RX4 17 "TreeHashes" "hashers" "[LTreeHashes$Hasher;" ∈ wsX4_output := by decide +kernel
theorem i_X4_output_X4 : ∀ w ∈ wsX40, w ∈ wsX4_output := by decide +kernel
theorem i_X4_output_X1 : ∀ w ∈ wsX10, w ∈ wsX4_output := by decide +kernel
theorem f_X4_output_4 : Cond.fieldLink RX4 11 "TreeHashes" "registers" "[LTreeHashes$Bytes;" ∈ wsX4_output := by decide +kernel
set_option maxHeartbeats 4000000 in
set_option maxRecDepth 100000 in
theorem c_X4_output (l : Launch) (D : va_G) (cy : Nat → ClassId) (t : Nat × Nat) (x0 : Nat) (xr : Nat) (xh : Nat) (xf : Nat) (xp : Nat) (xw : Nat) (xy : Nat) (xd : Nat) (hh : Nat → Option Nat) (hj : Nat) (m0 : Nat) (mc : Nat) (mb : Nat) (mv : Nat) (aw : Nat) (an : Nat) (ct : Int64) (ln : Int32) (fl : Int32) (h0 : Nat) (qk : Nat) (qs : Nat) (qc : Nat) (qb : Nat) (md : Int32) (bs : Int32) (fc : Nat) (nt : Nat) (kf : Nat → Int32) (sf : Nat → Int32) (g : Nat → Int32) (ch : Nat → Int32) (bl : Nat → Int32) (v : Nat → Int32) (w : Nat → Int32) (nw : Nat → Int32) (rr : Nat → Option Nat) (ri : Nat) (b0 : Nat) (b1 : Nat) (cnt : Nat) (f : Nat → Int32) (n : Nat) (pl : Nat) (hhj : hh hj = some h0) (hj4 : hj < 4) (hri : rr ri = some b0) (hr8 : ri < 8) (hc : cnt ≤ 200) (hfc : fc ≤ 1000) (hSk : SKr sf (skS kf bs g fc (clo nt)) (hdp nt)) (ht : nt ≤ 40000) (hn2 : n ≤ 200) (hpl : pl ≤ 2 ^ 62) (sz : Nat) : Met l yX4_output wsX4_output ({ frames := 3, cells := 0, slots := 0, locals := 77 }) (PcW D cy t [(x0, .inr (4, [.ref xr, .ref xh, .ref xf, .ref xp, .ref xw, .ref xy, .ref xd])), (xh, .inl (cy 4, 4, .inr (.inr (.inr (.inr (hh)))))), (h0, .inr (1, [.ref m0, .ref qk, .ref qs, .ref qc, .ref qb, .int (md), .int (bs), .int (nI (fc)), .int (nI (nt)), .int (nI (clo nt)), .int (nI (hdp nt)), .int (nI (hbk nt)), .int (nI (hib nt))])), (qk, .inl (cy 0, 8, .inl (kf))), (qs, .inl (cy 0, 40, .inl (sf))), (qc, .inl (cy 0, 8, .inl (hcf kf bs g fc nt))), (qb, .inl (cy 0, 16, .inl (hbf g nt))), (m0, .inr (2, [.ref mc, .ref mb, .long (ct), .int (ln), .int (fl), .ref mv, .ref aw, .ref an])), (mc, .inl (cy 0, 8, .inl (ch))), (mb, .inl (cy 0, 16, .inl (bl))), (mv, .inl (cy 0, 16, .inl (v))), (aw, .inl (cy 0, 16, .inl (w))), (an, .inl (cy 0, 16, .inl (nw))), (xr, .inl (cy 3, 8, .inr (.inr (.inr (.inr (rr)))))), (b0, .inr (0, [.ref b1, .int (nI (cnt))])), (b1, .inl (cy 1, 200, .inl (f)))] [.ref x0, .int (nI (hj)), .int (nI (ri)), .int (nI (n)), .long (lN pl)] sz) (QiA D cy (fun (r : Int32) (u : (Int64) × (Nat → Int32) × (Nat) × (Nat) × (Nat → Int32) × (Nat → Int32)) => match u with | (ct2, v2, aw2, an2, w2, nw2) => (r = nI (n))) (fun u : (Int64) × (Nat → Int32) × (Nat) × (Nat) × (Nat → Int32) × (Nat → Int32) => match u with | (ct2, v2, aw2, an2, w2, nw2) => [(x0, .inr (4, [.ref xr, .ref xh, .ref xf, .ref xp, .ref xw, .ref xy, .ref xd])), (xh, .inl (cy 4, 4, .inr (.inr (.inr (.inr (hh)))))), (h0, .inr (1, [.ref m0, .ref qk, .ref qs, .ref qc, .ref qb, .int (md), .int (bs), .int (nI (fc)), .int (nI (nt)), .int (nI (clo nt)), .int (nI (hdp nt)), .int (nI (hbk nt)), .int (nI (hib nt))])), (qk, .inl (cy 0, 8, .inl (kf))), (qs, .inl (cy 0, 40, .inl (sf))), (qc, .inl (cy 0, 8, .inl (hcf kf bs g fc nt))), (qb, .inl (cy 0, 16, .inl (hbf g nt))), (m0, .inr (2, [.ref mc, .ref mb, .long (ct2), .int ((rtN kf bs g fc nt).2.2.2.1), .int ((rtN kf bs g fc nt).2.2.2.2 ||| (nI (8))), .ref mv, .ref aw2, .ref an2])), (mc, .inl (cy 0, 8, .inl ((rtN kf bs g fc nt).1))), (mb, .inl (cy 0, 16, .inl ((rtN kf bs g fc nt).2.1))), (mv, .inl (cy 0, 16, .inl (v2))), (aw2, .inl (cy 0, 16, .inl (w2))), (an2, .inl (cy 0, 16, .inl (nw2))), (xr, .inl (cy 3, 8, .inr (.inr (.inr (.inr (rr)))))), (b0, .inr (0, [.ref b1, .int (nI (n))])), (b1, .inl (cy 1, 200, .inl (apG f 0 (fun k => b8 (outB (rtN kf bs g fc nt).1 (rtN kf bs g fc nt).2.1 (rtN kf bs g fc nt).2.2.2.1 ((rtN kf bs g fc nt).2.2.2.2 ||| (nI (8))) (pl + k))) n)))]) (va_A [(x0, .inr (4, [.ref xr, .ref xh, .ref xf, .ref xp, .ref xw, .ref xy, .ref xd])), (xh, .inl (cy 4, 4, .inr (.inr (.inr (.inr (hh)))))), (h0, .inr (1, [.ref m0, .ref qk, .ref qs, .ref qc, .ref qb, .int (md), .int (bs), .int (nI (fc)), .int (nI (nt)), .int (nI (clo nt)), .int (nI (hdp nt)), .int (nI (hbk nt)), .int (nI (hib nt))])), (qk, .inl (cy 0, 8, .inl (kf))), (qs, .inl (cy 0, 40, .inl (sf))), (qc, .inl (cy 0, 8, .inl (hcf kf bs g fc nt))), (qb, .inl (cy 0, 16, .inl (hbf g nt))), (m0, .inr (2, [.ref mc, .ref mb, .long (ct), .int (ln), .int (fl), .ref mv, .ref aw, .ref an])), (mc, .inl (cy 0, 8, .inl (ch))), (mb, .inl (cy 0, 16, .inl (bl))), (mv, .inl (cy 0, 16, .inl (v))), (aw, .inl (cy 0, 16, .inl (w))), (an, .inl (cy 0, 16, .inl (nw))), (xr, .inl (cy 3, 8, .inr (.inr (.inr (.inr (rr)))))), (b0, .inr (0, [.ref b1, .int (nI (cnt))])), (b1, .inl (cy 1, 200, .inl (f)))] sz)) 0 0 (va_A [(x0, .inr (4, [.ref xr, .ref xh, .ref xf, .ref xp, .ref xw, .ref xy, .ref xd])), (xh, .inl (cy 4, 4, .inr (.inr (.inr (.inr (hh)))))), (h0, .inr (1, [.ref m0, .ref qk, .ref qs, .ref qc, .ref qb, .int (md), .int (bs), .int (nI (fc)), .int (nI (nt)), .int (nI (clo nt)), .int (nI (hdp nt)), .int (nI (hbk nt)), .int (nI (hib nt))])), (qk, .inl (cy 0, 8, .inl (kf))), (qs, .inl (cy 0, 40, .inl (sf))), (qc, .inl (cy 0, 8, .inl (hcf kf bs g fc nt))), (qb, .inl (cy 0, 16, .inl (hbf g nt))), (m0, .inr (2, [.ref mc, .ref mb, .long (ct), .int (ln), .int (fl), .ref mv, .ref aw, .ref an])), (mc, .inl (cy 0, 8, .inl (ch))), (mb, .inl (cy 0, 16, .inl (bl))), (mv, .inl (cy 0, 16, .inl (v))), (aw, .inl (cy 0, 16, .inl (w))), (an, .inl (cy 0, 16, .inl (nw))), (xr, .inl (cy 3, 8, .inr (.inr (.inr (.inr (rr)))))), (b0, .inr (0, [.ref b1, .int (nI (cnt))])), (b1, .inl (cy 1, 200, .inl (f)))] sz) := by
  refine M_ofW (cc := cX4_output) (maxL := 6) (ret := (some .int)) (by decide) rfl (Nat.le_of_ble_eq_true rfl) ?_
  intro p e s m below meth c A ls args Q hQ S0 hr hlocks hnm hK hst hA hW hl
  have hx := S0.1; have hb := S0.2.1; have hml := S0.2.2.1; have hown := S0.2.2.2.1; have hts := S0.2.2.2.2
  have hl : lv_has ls 6 [(0, .ref x0), (1, .int (nI (hj))), (2, .int (nI (ri))), (3, .int (nI (n))), (4, .long (lN pl))] := hl
  refine lv_iload_n hx hb dX4_output_0 rfl (lv_at hl 1 rfl) ?_
  refine kSi (As := [.int (nI (hj))]) (rest := []) S0 hK hst hA hW [] (fun sz => c_X4_isHasher l D cy t hj (by omega) sz) rfl (by decide) (va_cwS 1 hts gX4_output_X4_isHasher rfl rfl rfl (by decide +kernel) ⟨Nat.le_of_ble_eq_true rfl, Nat.le_of_ble_eq_true rfl⟩) (fun _ => rfl) rfl hl.1 rfl (Nat.le_of_ble_eq_true rfl) dX4_output_1 ⟨Nat.le_of_ble_eq_true rfl, Nat.le_of_ble_eq_true rfl⟩ (fun r1 u1 H locs p1 hW => ?_)
  have hW : Wd D A s [(x0, .inr (4, [.ref xr, .ref xh, .ref xf, .ref xp, .ref xw, .ref xy, .ref xd])), (xh, .inl (cy 4, 4, .inr (.inr (.inr (.inr (hh)))))), (h0, .inr (1, [.ref m0, .ref qk, .ref qs, .ref qc, .ref qb, .int (md), .int (bs), .int (nI (fc)), .int (nI (nt)), .int (nI (clo nt)), .int (nI (hdp nt)), .int (nI (hbk nt)), .int (nI (hib nt))])), (qk, .inl (cy 0, 8, .inl (kf))), (qs, .inl (cy 0, 40, .inl (sf))), (qc, .inl (cy 0, 8, .inl (hcf kf bs g fc nt))), (qb, .inl (cy 0, 16, .inl (hbf g nt))), (m0, .inr (2, [.ref mc, .ref mb, .long (ct), .int (ln), .int (fl), .ref mv, .ref aw, .ref an])), (mc, .inl (cy 0, 8, .inl (ch))), (mb, .inl (cy 0, 16, .inl (bl))), (mv, .inl (cy 0, 16, .inl (v))), (aw, .inl (cy 0, 16, .inl (w))), (an, .inl (cy 0, 16, .inl (nw))), (xr, .inl (cy 3, 8, .inr (.inr (.inr (.inr (rr)))))), (b0, .inr (0, [.ref b1, .int (nI (cnt))])), (b1, .inl (cy 1, 200, .inl (f)))] H locs := hW
  have q1 : r1 = nI (1) := p1
  subst q1
  refine zEq (a := 1) (tgt := 25) hx hb dX4_output_4 (by decide) (by omega) (fun h4 => ?_) (fun h4 => ?_)
  · skip
    exfalso; omega
  · skip
    refine lv_iload_n hx hb dX4_output_7 rfl (lv_at hl 2 rfl) ?_
    refine kSi (As := [.int (nI (ri))]) (rest := []) S0 hK hst hA hW [] (fun sz => c_X4_isRegister l D cy t ri (by omega) sz) rfl (by decide) (va_cwS 1 hts gX4_output_X4_isRegister rfl rfl rfl (by decide +kernel) ⟨Nat.le_of_ble_eq_true rfl, Nat.le_of_ble_eq_true rfl⟩) (fun _ => rfl) rfl hl.1 rfl (Nat.le_of_ble_eq_true rfl) dX4_output_8 ⟨Nat.le_of_ble_eq_true rfl, Nat.le_of_ble_eq_true rfl⟩ (fun r8 u8 H locs p8 hW => ?_)
    have hW : Wd D A s [(x0, .inr (4, [.ref xr, .ref xh, .ref xf, .ref xp, .ref xw, .ref xy, .ref xd])), (xh, .inl (cy 4, 4, .inr (.inr (.inr (.inr (hh)))))), (h0, .inr (1, [.ref m0, .ref qk, .ref qs, .ref qc, .ref qb, .int (md), .int (bs), .int (nI (fc)), .int (nI (nt)), .int (nI (clo nt)), .int (nI (hdp nt)), .int (nI (hbk nt)), .int (nI (hib nt))])), (qk, .inl (cy 0, 8, .inl (kf))), (qs, .inl (cy 0, 40, .inl (sf))), (qc, .inl (cy 0, 8, .inl (hcf kf bs g fc nt))), (qb, .inl (cy 0, 16, .inl (hbf g nt))), (m0, .inr (2, [.ref mc, .ref mb, .long (ct), .int (ln), .int (fl), .ref mv, .ref aw, .ref an])), (mc, .inl (cy 0, 8, .inl (ch))), (mb, .inl (cy 0, 16, .inl (bl))), (mv, .inl (cy 0, 16, .inl (v))), (aw, .inl (cy 0, 16, .inl (w))), (an, .inl (cy 0, 16, .inl (nw))), (xr, .inl (cy 3, 8, .inr (.inr (.inr (.inr (rr)))))), (b0, .inr (0, [.ref b1, .int (nI (cnt))])), (b1, .inl (cy 1, 200, .inl (f)))] H locs := hW
    have q8 : r8 = nI (1) := p8
    subst q8
    refine zEq (a := 1) (tgt := 25) hx hb dX4_output_11 (by decide) (by omega) (fun h11 => ?_) (fun h11 => ?_)
    · skip
      exfalso; omega
    · skip
      refine lv_iload_n hx hb dX4_output_14 rfl (lv_at hl 3 rfl) ?_
      refine zLt (a := n) (tgt := 25) hx hb dX4_output_15 (by decide) (by omega) ?_
      refine lv_iload_n hx hb dX4_output_18 rfl (lv_at hl 3 rfl) ?_
      refine lv_sipush (v := nI (200)) hx hb dX4_output_19 (by decide) ?_
      refine iLe (a := n) (b := 200) (tgt := 28) hx hb dX4_output_22 (by decide) (by omega) (by omega) (fun h22 => ?_) (fun h22 => ?_)
      · skip
        refine lv_lload hx hb dX4_output_28 (lv_at hl 4 rfl) ?_
        refine lv_lconst (v := lN 0) hx hb dX4_output_30 (by decide) ?_
        refine W.lcmp hx hb dX4_output_31 ?_
        refine lv_if_lt (tgt := 44) hx hb dX4_output_32 (by decide) (fun h32 => ?_) (fun h32 => ?_)
        · skip
          exact absurd ((lg_cmp_lt _ _).mp h32) (fun q => Nat.not_lt_zero _ ((pk_lLT (by omega) (by decide)).mp q))
        · skip
          refine lv_lload hx hb dX4_output_35 (lv_at hl 4 rfl) ?_
          refine lv_ldc2 (v := (4611686018427387904 : Int64)) hx hb hown (hts (.constantLong RX4 99 (4611686018427387904)) f_X4_output_0) dX4_output_37 ?_
          refine W.lcmp hx hb dX4_output_40 ?_
          refine lv_if_le (tgt := 47) hx hb dX4_output_41 (by decide) (fun h41 => ?_) (fun h41 => ?_)
          · skip
            refine lv_aload_n hx hb dX4_output_47 rfl (lv_at hl 0 rfl) ?_
            refine va_get (D := D) (ci := 4) (v := .ref xh) (C := RX4) (T := TX4) (N := 7) hx hb hts i_X4_output_X4 hown hK hW.1 0 rfl rfl 1 (by decide) (hts (.fieldLink RX4 17 "TreeHashes" "hashers" "[LTreeHashes$Hasher;") f_X4_output_1) (fun _ h9 => h9) rfl dX4_output_48 ?_
            refine lv_iload_n hx hb dX4_output_51 rfl (lv_at hl 1 rfl) ?_
            refine rA hx hb hK hW 1 (t0 := 4) rfl rfl (k := hj) (by omega) (by decide) (hhj) dX4_output_52 ?_
            refine kVv (As := []) (rest := []) S0 hK hst hA hW [2, 3, 4, 5, 6, 7, 8, 9, 10, 11, 12] (fun sz => c_X1_prepareLast l D cy t m0 mc mb mv aw an ct ln fl h0 qk qs qc qb md bs fc nt (clo nt) (hdp nt) (hbk nt) (hib nt) ch bl v w nw kf sf (hcf kf bs g fc nt) (hbf g nt) (skS kf bs g fc (clo nt)) (by have := clo_le nt; omega) (by have := (h_nums nt).2.2; omega) (hdp_5 (by omega)) (hSk) sz) rfl (by decide) (cwV 0 hts gX4_output_X1_prepareLast rfl rfl rfl (by decide +kernel) ⟨Nat.le_of_ble_eq_true rfl, Nat.le_of_ble_eq_true rfl⟩) (fun ⟨_, _, _, _, _⟩ => rfl) 0 1 rfl rfl rfl hl.1 rfl (Nat.le_of_ble_eq_true rfl) dX4_output_53 ⟨Nat.le_of_ble_eq_true rfl, Nat.le_of_ble_eq_true rfl⟩ (fun u53 H locs p53 hW => ?_)
            obtain ⟨v2_53, aw2_53, an2_53, w2_53, nw2_53⟩ := u53
            have hW : Wd D A s [(x0, .inr (4, [.ref xr, .ref xh, .ref xf, .ref xp, .ref xw, .ref xy, .ref xd])), (xh, .inl (cy 4, 4, .inr (.inr (.inr (.inr (hh)))))), (h0, .inr (1, [.ref m0, .ref qk, .ref qs, .ref qc, .ref qb, .int (md), .int (bs), .int (nI (fc)), .int (nI (nt)), .int (nI ((clo nt))), .int (nI ((hdp nt))), .int (nI ((hbk nt))), .int (nI ((hib nt)))])), (qk, .inl (cy 0, 8, .inl (kf))), (qs, .inl (cy 0, 40, .inl (sf))), (qc, .inl (cy 0, 8, .inl ((hcf kf bs g fc nt)))), (qb, .inl (cy 0, 16, .inl ((hbf g nt)))), (m0, .inr (2, [.ref mc, .ref mb, .long ((upN kf bs (skS kf bs g fc (clo nt)) (hdp nt) ((hcf kf bs g fc nt), (hbf g nt), lN (fc + (clo nt)), nI ((hib nt)), (bs + (nI (fst0 (hbk nt)))) + (nI (2)))).2.2.1), .int ((upN kf bs (skS kf bs g fc (clo nt)) (hdp nt) ((hcf kf bs g fc nt), (hbf g nt), lN (fc + (clo nt)), nI ((hib nt)), (bs + (nI (fst0 (hbk nt)))) + (nI (2)))).2.2.2.1), .int ((upN kf bs (skS kf bs g fc (clo nt)) (hdp nt) ((hcf kf bs g fc nt), (hbf g nt), lN (fc + (clo nt)), nI ((hib nt)), (bs + (nI (fst0 (hbk nt)))) + (nI (2)))).2.2.2.2), .ref mv, .ref aw2_53, .ref an2_53])), (mc, .inl (cy 0, 8, .inl ((upN kf bs (skS kf bs g fc (clo nt)) (hdp nt) ((hcf kf bs g fc nt), (hbf g nt), lN (fc + (clo nt)), nI ((hib nt)), (bs + (nI (fst0 (hbk nt)))) + (nI (2)))).1))), (mb, .inl (cy 0, 16, .inl ((upN kf bs (skS kf bs g fc (clo nt)) (hdp nt) ((hcf kf bs g fc nt), (hbf g nt), lN (fc + (clo nt)), nI ((hib nt)), (bs + (nI (fst0 (hbk nt)))) + (nI (2)))).2.1))), (mv, .inl (cy 0, 16, .inl (v2_53))), (aw2_53, .inl (cy 0, 16, .inl (w2_53))), (an2_53, .inl (cy 0, 16, .inl (nw2_53))), (xr, .inl (cy 3, 8, .inr (.inr (.inr (.inr (rr)))))), (b0, .inr (0, [.ref b1, .int (nI (cnt))])), (b1, .inl (cy 1, 200, .inl (f)))] H locs := hW
            rw [rtN_h] at hW
            have hW : Wd D A s [(x0, .inr (4, [.ref xr, .ref xh, .ref xf, .ref xp, .ref xw, .ref xy, .ref xd])), (xh, .inl (cy 4, 4, .inr (.inr (.inr (.inr (hh)))))), (h0, .inr (1, [.ref m0, .ref qk, .ref qs, .ref qc, .ref qb, .int (md), .int (bs), .int (nI (fc)), .int (nI (nt)), .int (nI ((clo nt))), .int (nI ((hdp nt))), .int (nI ((hbk nt))), .int (nI ((hib nt)))])), (qk, .inl (cy 0, 8, .inl (kf))), (qs, .inl (cy 0, 40, .inl (sf))), (qc, .inl (cy 0, 8, .inl ((hcf kf bs g fc nt)))), (qb, .inl (cy 0, 16, .inl ((hbf g nt)))), (m0, .inr (2, [.ref mc, .ref mb, .long ((rtN kf bs g fc nt).2.2.1), .int ((rtN kf bs g fc nt).2.2.2.1), .int ((rtN kf bs g fc nt).2.2.2.2), .ref mv, .ref aw2_53, .ref an2_53])), (mc, .inl (cy 0, 8, .inl ((rtN kf bs g fc nt).1))), (mb, .inl (cy 0, 16, .inl ((rtN kf bs g fc nt).2.1))), (mv, .inl (cy 0, 16, .inl (v2_53))), (aw2_53, .inl (cy 0, 16, .inl (w2_53))), (an2_53, .inl (cy 0, 16, .inl (nw2_53))), (xr, .inl (cy 3, 8, .inr (.inr (.inr (.inr (rr)))))), (b0, .inr (0, [.ref b1, .int (nI (cnt))])), (b1, .inl (cy 1, 200, .inl (f)))] H locs := hW
            refine lv_aload_n hx hb dX4_output_56 rfl (lv_at hl 0 rfl) ?_
            refine va_get (D := D) (ci := 4) (v := .ref xh) (C := RX4) (T := TX4) (N := 7) hx hb hts i_X4_output_X4 hown hK hW.1 0 rfl rfl 1 (by decide) (hts (.fieldLink RX4 17 "TreeHashes" "hashers" "[LTreeHashes$Hasher;") f_X4_output_1) (fun _ h9 => h9) rfl dX4_output_57 ?_
            refine lv_iload_n hx hb dX4_output_60 rfl (lv_at hl 1 rfl) ?_
            refine rA hx hb hK hW 1 (t0 := 4) rfl rfl (k := hj) (by omega) (by decide) (hhj) dX4_output_61 ?_
            refine va_getN (D := D) (ci := 1) (v := .ref m0) (C := RX1) (T := TX1) (N := 13) hx hb hts i_X4_output_X1 hown hK hW.1 2 rfl rfl 0 (by decide) (va_Nw.use rfl (hst.2.2.1 ("TreeHashes", 104, "TreeHashes$Hasher", "mix", "LTreeHashes$Mix;", "TreeHashes") (by decide))) (fun _ h9 => h9) rfl dX4_output_62 ?_
            refine lv_aload_n hx hb dX4_output_65 rfl (lv_at hl 0 rfl) ?_
            refine va_get (D := D) (ci := 4) (v := .ref xr) (C := RX4) (T := TX4) (N := 7) hx hb hts i_X4_output_X4 hown hK hW.1 0 rfl rfl 0 (by decide) (hts (.fieldLink RX4 11 "TreeHashes" "registers" "[LTreeHashes$Bytes;") f_X4_output_4) (fun _ h9 => h9) rfl dX4_output_66 ?_
            refine lv_iload_n hx hb dX4_output_69 rfl (lv_at hl 2 rfl) ?_
            refine rA hx hb hK hW 13 (t0 := 3) rfl rfl (k := ri) (by omega) (by decide) (hri) dX4_output_70 ?_
            refine lv_iload_n hx hb dX4_output_71 rfl (lv_at hl 3 rfl) ?_
            refine lv_lload hx hb dX4_output_72 (lv_at hl 4 rfl) ?_
            refine kVv (As := [.ref b0, .int (nI (n)), .long (lN pl)]) (rest := []) S0 hK hst hA hW [7, 8, 9, 10, 11, 12, 14, 15] (fun sz => c_X2_writeOutput l D cy t m0 mc mb mv aw2_53 an2_53 ((rtN kf bs g fc nt).2.2.1) ((rtN kf bs g fc nt).2.2.2.1) ((rtN kf bs g fc nt).2.2.2.2) ((rtN kf bs g fc nt).1) ((rtN kf bs g fc nt).2.1) v2_53 w2_53 nw2_53 b0 b1 200 cnt f n pl (by omega) (by omega) (by omega) (by omega) sz) rfl (by decide) (cwV 3 hts gX4_output_X2_writeOutput rfl rfl rfl (by decide +kernel) ⟨Nat.le_of_ble_eq_true rfl, Nat.le_of_ble_eq_true rfl⟩) (fun ⟨_, _, _, _, _, _⟩ => rfl) 0 2 rfl rfl rfl hl.1 rfl (Nat.le_of_ble_eq_true rfl) dX4_output_74 ⟨Nat.le_of_ble_eq_true rfl, Nat.le_of_ble_eq_true rfl⟩ (fun u74 H locs p74 hW => ?_)
            obtain ⟨ct2_74, v2_74, aw2_74, an2_74, w2_74, nw2_74⟩ := u74
            have hW : Wd D A s [(x0, .inr (4, [.ref xr, .ref xh, .ref xf, .ref xp, .ref xw, .ref xy, .ref xd])), (xh, .inl (cy 4, 4, .inr (.inr (.inr (.inr (hh)))))), (h0, .inr (1, [.ref m0, .ref qk, .ref qs, .ref qc, .ref qb, .int (md), .int (bs), .int (nI (fc)), .int (nI (nt)), .int (nI ((clo nt))), .int (nI ((hdp nt))), .int (nI ((hbk nt))), .int (nI ((hib nt)))])), (qk, .inl (cy 0, 8, .inl (kf))), (qs, .inl (cy 0, 40, .inl (sf))), (qc, .inl (cy 0, 8, .inl ((hcf kf bs g fc nt)))), (qb, .inl (cy 0, 16, .inl ((hbf g nt)))), (m0, .inr (2, [.ref mc, .ref mb, .long (ct2_74), .int (((rtN kf bs g fc nt).2.2.2.1)), .int ((((rtN kf bs g fc nt).2.2.2.2) ||| (nI (8)))), .ref mv, .ref aw2_74, .ref an2_74])), (mc, .inl (cy 0, 8, .inl (((rtN kf bs g fc nt).1)))), (mb, .inl (cy 0, 16, .inl (((rtN kf bs g fc nt).2.1)))), (mv, .inl (cy 0, 16, .inl (v2_74))), (aw2_74, .inl (cy 0, 16, .inl (w2_74))), (an2_74, .inl (cy 0, 16, .inl (nw2_74))), (xr, .inl (cy 3, 8, .inr (.inr (.inr (.inr (rr)))))), (b0, .inr (0, [.ref b1, .int (nI (n))])), (b1, .inl (cy 1, 200, .inl (apG f 0 (fun k => b8 (outB ((rtN kf bs g fc nt).1) ((rtN kf bs g fc nt).2.1) ((rtN kf bs g fc nt).2.2.2.1) (((rtN kf bs g fc nt).2.2.2.2) ||| (nI (8))) (pl + k))) n)))] H locs := hW
            refine lv_iload_n hx hb dX4_output_77 rfl (lv_at hl 3 rfl) ?_
            exact eI hQ hx hb hr hlocks hK hW (ct2_74, v2_74, aw2_74, an2_74, w2_74, nw2_74) (rfl) (rfl) dX4_output_78
          · skip
            exact absurd ((lg_cmp_le _ _).mpr (show lN pl ≤ lN 4611686018427387904 from (pk_lLE (by omega) (by decide)).mpr (by omega))) h41
      · skip
        exfalso; omega
