theorem f_X0_init_200_0 : Cond.methodLink RX0 3 objectInit ∈ wsX0_init := by decide +kernel
theorem f_X0_init_200_1 : Cond.instanceMethod objectInit ∈ wsX0_init := by decide +kernel
theorem f_X0_init_200_2 : Cond.code objectInit ⟨#[0xb1]⟩ 1 none ∈ wsX0_init := by decide +kernel
theorem f_X0_init_200_3 : Cond.methodLink RX0 9 Lib.Math.max.name ∈ wsX0_init := by decide +kernel
theorem f_X0_init_200_4 : Cond.static Lib.Math.max.name ∈ wsX0_init := by decide +kernel
theorem f_X0_init_200_5 : Cond.initialized "java/lang/Math" ∈ wsX0_init := by decide +kernel
theorem f_X0_init_200_6 : Cond.code Lib.Math.max.name Lib.Math.max.code 2 (some .int) ∈ wsX0_init := by decide +kernel
theorem f_X0_init_200_7 : Cond.arrayClass .byte ∈ wsX0_init := by decide +kernel
theorem f_X0_init_200_8 : Cond.fieldLink RX0 15 "TreeHashes$Bytes" "row" "[B" ∈ wsX0_init := by decide +kernel
theorem i_X0_init_200_X0 : ∀ w ∈ wsX00, w ∈ wsX0_init := by decide +kernel
set_option maxHeartbeats 4000000 in
set_option maxRecDepth 100000 in
theorem c_X0_init_200 (l : Launch) (D : va_G) (cy : Nat → ClassId) (t : Nat × Nat) (a0 : Nat)  (sz : Nat) : Met l yX0_init wsX0_init ({ frames := 1, cells := 1, slots := 200, locals := 21 }) (PcW D cy t [(a0, .inr (0, [.null, .int (nI (0))]))] [.ref a0, .int (nI (200))] sz) (QvA D cy (fun u : (Nat) => match u with | a1 => True) (fun u : (Nat) => match u with | a1 => [(a0, .inr (0, [.ref a1, .int (nI (0))])), (a1, .inl (cy 1, 200, .inl (fun _ => nI 0)))]) (va_A [(a0, .inr (0, [.null, .int (nI (0))]))] sz)) 1 200 (va_A [(a0, .inr (0, [.null, .int (nI (0))]))] sz) := by
  refine M_ofW (cc := cX0_init) (maxL := 2) (ret := none) (by decide) rfl (Nat.le_of_ble_eq_true rfl) ?_
  intro p e s m below meth c A ls args Q hQ S0 hr hlocks hnm hK hst hA hW hl
  have hx := S0.1; have hb := S0.2.1; have hml := S0.2.2.1; have hown := S0.2.2.2.1; have hts := S0.2.2.2.2
  have hl : lv_has ls 2 [(0, .ref a0), (1, .int (nI (200)))] := hl
  refine lv_aload_n hx hb dX0_init_0 rfl (lv_at hl 0 rfl) ?_
  refine W.objInit hx hb hown (hts (.methodLink RX0 3 objectInit) f_X0_init_200_0) (hts (.instanceMethod objectInit) f_X0_init_200_1) (hts (.code objectInit ⟨#[0xb1]⟩ 1 none) f_X0_init_200_2) rfl (by rw [hml]; exact hl.1) rfl dX0_init_1 (Nat.le_of_ble_eq_true rfl) (Nat.le_of_ble_eq_true rfl) ?_
  refine W.eq (g2 := F0 m 4 ls []) rfl ?_
  refine lv_aload_n hx hb dX0_init_4 rfl (lv_at hl 0 rfl) ?_
  refine lv_iconst (v := nI (0)) hx hb dX0_init_5 (by decide) ?_
  refine lv_iload_n hx hb dX0_init_6 rfl (lv_at hl 1 rfl) ?_
  refine va_mmax hx hb (by rw [hml]; exact hl.1.symm) hown (hts (.methodLink RX0 9 Lib.Math.max.name) f_X0_init_200_3) (hts (.static Lib.Math.max.name) f_X0_init_200_4) (hts (.initialized "java/lang/Math") f_X0_init_200_5) (hts (.code Lib.Math.max.name Lib.Math.max.code 2 (some .int)) f_X0_init_200_6) (Nat.le_of_ble_eq_true rfl) (Nat.le_of_ble_eq_true rfl) (Nat.zero_le _) (Nat.zero_le _) dX0_init_7 ?_
  refine tI (x' := nI (200)) (by decide) ?_
  refine nwA (aty := .byte) (ty := .byte) (t0 := 1) (N := 200) hx hb (hts (.arrayClass .byte) f_X0_init_200_7) rfl rfl ra_byte rfl hK hA hW (by decide) (Nat.le_of_ble_eq_true rfl) (Nat.le_of_ble_eq_true rfl) (Nat.le_of_ble_eq_true rfl) dX0_init_10 (fun q10 H hW => ?_)
  have hW : Wd D A s [(a0, .inr (0, [.null, .int (nI (0))])), (q10, .inl (cy 1, 200, .inl (fun _ => nI 0)))] _ _ := hW
  refine W.widen (k := 1) (n := 200) (Nat.le_of_ble_eq_true rfl) (Nat.le_of_ble_eq_true rfl) ?_
  refine va_putF (D := D) (ci := 0) (v := .ref q10) (ty := .array .byte) (C := RX0) (T := TX0) (N := 2) hx hb hts i_X0_init_200_X0 tyX0 tyX0_ok nmX0 hown hK hW.1 hW.2.1 hW.2.2 0 rfl rfl 0 (by decide) (hts (.fieldLink RX0 15 "TreeHashes$Bytes" "row" "[B") f_X0_init_200_8) (fun _ h9 => h9) rfl hnm rfl (by decide +kernel) rfl rfl (Nat.le_of_ble_eq_true rfl) dX0_init_12 (fun H locs hP hD hS => ?_)
  have hW : Wd D A s [(a0, .inr (0, [.ref q10, .int (nI (0))])), (q10, .inl (cy 1, 200, .inl (fun _ => nI 0)))] H locs := ⟨hP, hD, hS⟩
  exact eV hQ hx hb hr hlocks hK hW q10 (trivial) (rfl) dX0_init_15

theorem f_X0_init_20000_0 : Cond.methodLink RX0 3 objectInit ∈ wsX0_init := by decide +kernel
theorem f_X0_init_20000_1 : Cond.instanceMethod objectInit ∈ wsX0_init := by decide +kernel
theorem f_X0_init_20000_2 : Cond.code objectInit ⟨#[0xb1]⟩ 1 none ∈ wsX0_init := by decide +kernel
theorem f_X0_init_20000_3 : Cond.methodLink RX0 9 Lib.Math.max.name ∈ wsX0_init := by decide +kernel
theorem f_X0_init_20000_4 : Cond.static Lib.Math.max.name ∈ wsX0_init := by decide +kernel
theorem f_X0_init_20000_5 : Cond.initialized "java/lang/Math" ∈ wsX0_init := by decide +kernel
theorem f_X0_init_20000_6 : Cond.code Lib.Math.max.name Lib.Math.max.code 2 (some .int) ∈ wsX0_init := by decide +kernel
theorem f_X0_init_20000_7 : Cond.arrayClass .byte ∈ wsX0_init := by decide +kernel
theorem f_X0_init_20000_8 : Cond.fieldLink RX0 15 "TreeHashes$Bytes" "row" "[B" ∈ wsX0_init := by decide +kernel
theorem i_X0_init_20000_X0 : ∀ w ∈ wsX00, w ∈ wsX0_init := by decide +kernel
set_option maxHeartbeats 4000000 in
set_option maxRecDepth 100000 in
theorem c_X0_init_20000 (l : Launch) (D : va_G) (cy : Nat → ClassId) (t : Nat × Nat) (a0 : Nat)  (sz : Nat) : Met l yX0_init wsX0_init ({ frames := 1, cells := 1, slots := 20000, locals := 21 }) (PcW D cy t [(a0, .inr (0, [.null, .int (nI (0))]))] [.ref a0, .int (nI (20000))] sz) (QvA D cy (fun u : (Nat) => match u with | a1 => True) (fun u : (Nat) => match u with | a1 => [(a0, .inr (0, [.ref a1, .int (nI (0))])), (a1, .inl (cy 1, 20000, .inl (fun _ => nI 0)))]) (va_A [(a0, .inr (0, [.null, .int (nI (0))]))] sz)) 1 20000 (va_A [(a0, .inr (0, [.null, .int (nI (0))]))] sz) := by
  refine M_ofW (cc := cX0_init) (maxL := 2) (ret := none) (by decide) rfl (Nat.le_of_ble_eq_true rfl) ?_
  intro p e s m below meth c A ls args Q hQ S0 hr hlocks hnm hK hst hA hW hl
  have hx := S0.1; have hb := S0.2.1; have hml := S0.2.2.1; have hown := S0.2.2.2.1; have hts := S0.2.2.2.2
  have hl : lv_has ls 2 [(0, .ref a0), (1, .int (nI (20000)))] := hl
  refine lv_aload_n hx hb dX0_init_0 rfl (lv_at hl 0 rfl) ?_
  refine W.objInit hx hb hown (hts (.methodLink RX0 3 objectInit) f_X0_init_20000_0) (hts (.instanceMethod objectInit) f_X0_init_20000_1) (hts (.code objectInit ⟨#[0xb1]⟩ 1 none) f_X0_init_20000_2) rfl (by rw [hml]; exact hl.1) rfl dX0_init_1 (Nat.le_of_ble_eq_true rfl) (Nat.le_of_ble_eq_true rfl) ?_
  refine W.eq (g2 := F0 m 4 ls []) rfl ?_
  refine lv_aload_n hx hb dX0_init_4 rfl (lv_at hl 0 rfl) ?_
  refine lv_iconst (v := nI (0)) hx hb dX0_init_5 (by decide) ?_
  refine lv_iload_n hx hb dX0_init_6 rfl (lv_at hl 1 rfl) ?_
  refine va_mmax hx hb (by rw [hml]; exact hl.1.symm) hown (hts (.methodLink RX0 9 Lib.Math.max.name) f_X0_init_20000_3) (hts (.static Lib.Math.max.name) f_X0_init_20000_4) (hts (.initialized "java/lang/Math") f_X0_init_20000_5) (hts (.code Lib.Math.max.name Lib.Math.max.code 2 (some .int)) f_X0_init_20000_6) (Nat.le_of_ble_eq_true rfl) (Nat.le_of_ble_eq_true rfl) (Nat.zero_le _) (Nat.zero_le _) dX0_init_7 ?_
  refine tI (x' := nI (20000)) (by decide) ?_
  refine nwA (aty := .byte) (ty := .byte) (t0 := 1) (N := 20000) hx hb (hts (.arrayClass .byte) f_X0_init_20000_7) rfl rfl ra_byte rfl hK hA hW (by decide) (Nat.le_of_ble_eq_true rfl) (Nat.le_of_ble_eq_true rfl) (Nat.le_of_ble_eq_true rfl) dX0_init_10 (fun q10 H hW => ?_)
  have hW : Wd D A s [(a0, .inr (0, [.null, .int (nI (0))])), (q10, .inl (cy 1, 20000, .inl (fun _ => nI 0)))] _ _ := hW
  refine W.widen (k := 1) (n := 20000) (Nat.le_of_ble_eq_true rfl) (Nat.le_of_ble_eq_true rfl) ?_
  refine va_putF (D := D) (ci := 0) (v := .ref q10) (ty := .array .byte) (C := RX0) (T := TX0) (N := 2) hx hb hts i_X0_init_20000_X0 tyX0 tyX0_ok nmX0 hown hK hW.1 hW.2.1 hW.2.2 0 rfl rfl 0 (by decide) (hts (.fieldLink RX0 15 "TreeHashes$Bytes" "row" "[B") f_X0_init_20000_8) (fun _ h9 => h9) rfl hnm rfl (by decide +kernel) rfl rfl (Nat.le_of_ble_eq_true rfl) dX0_init_12 (fun H locs hP hD hS => ?_)
  have hW : Wd D A s [(a0, .inr (0, [.ref q10, .int (nI (0))])), (q10, .inl (cy 1, 20000, .inl (fun _ => nI 0)))] H locs := ⟨hP, hD, hS⟩
  exact eV hQ hx hb hr hlocks hK hW q10 (trivial) (rfl) dX0_init_15

theorem f_X0_init_1184_0 : Cond.methodLink RX0 3 objectInit ∈ wsX0_init := by decide +kernel
theorem f_X0_init_1184_1 : Cond.instanceMethod objectInit ∈ wsX0_init := by decide +kernel
theorem f_X0_init_1184_2 : Cond.code objectInit ⟨#[0xb1]⟩ 1 none ∈ wsX0_init := by decide +kernel
theorem f_X0_init_1184_3 : Cond.methodLink RX0 9 Lib.Math.max.name ∈ wsX0_init := by decide +kernel
theorem f_X0_init_1184_4 : Cond.static Lib.Math.max.name ∈ wsX0_init := by decide +kernel
theorem f_X0_init_1184_5 : Cond.initialized "java/lang/Math" ∈ wsX0_init := by decide +kernel
theorem f_X0_init_1184_6 : Cond.code Lib.Math.max.name Lib.Math.max.code 2 (some .int) ∈ wsX0_init := by decide +kernel
theorem f_X0_init_1184_7 : Cond.arrayClass .byte ∈ wsX0_init := by decide +kernel
theorem f_X0_init_1184_8 : Cond.fieldLink RX0 15 "TreeHashes$Bytes" "row" "[B" ∈ wsX0_init := by decide +kernel
theorem i_X0_init_1184_X0 : ∀ w ∈ wsX00, w ∈ wsX0_init := by decide +kernel
set_option maxHeartbeats 4000000 in
set_option maxRecDepth 100000 in
theorem c_X0_init_1184 (l : Launch) (D : va_G) (cy : Nat → ClassId) (t : Nat × Nat) (a0 : Nat)  (sz : Nat) : Met l yX0_init wsX0_init ({ frames := 1, cells := 1, slots := 1184, locals := 21 }) (PcW D cy t [(a0, .inr (0, [.null, .int (nI (0))]))] [.ref a0, .int (nI (1184))] sz) (QvA D cy (fun u : (Nat) => match u with | a1 => True) (fun u : (Nat) => match u with | a1 => [(a0, .inr (0, [.ref a1, .int (nI (0))])), (a1, .inl (cy 1, 1184, .inl (fun _ => nI 0)))]) (va_A [(a0, .inr (0, [.null, .int (nI (0))]))] sz)) 1 1184 (va_A [(a0, .inr (0, [.null, .int (nI (0))]))] sz) := by
  refine M_ofW (cc := cX0_init) (maxL := 2) (ret := none) (by decide) rfl (Nat.le_of_ble_eq_true rfl) ?_
  intro p e s m below meth c A ls args Q hQ S0 hr hlocks hnm hK hst hA hW hl
  have hx := S0.1; have hb := S0.2.1; have hml := S0.2.2.1; have hown := S0.2.2.2.1; have hts := S0.2.2.2.2
  have hl : lv_has ls 2 [(0, .ref a0), (1, .int (nI (1184)))] := hl
  refine lv_aload_n hx hb dX0_init_0 rfl (lv_at hl 0 rfl) ?_
  refine W.objInit hx hb hown (hts (.methodLink RX0 3 objectInit) f_X0_init_1184_0) (hts (.instanceMethod objectInit) f_X0_init_1184_1) (hts (.code objectInit ⟨#[0xb1]⟩ 1 none) f_X0_init_1184_2) rfl (by rw [hml]; exact hl.1) rfl dX0_init_1 (Nat.le_of_ble_eq_true rfl) (Nat.le_of_ble_eq_true rfl) ?_
  refine W.eq (g2 := F0 m 4 ls []) rfl ?_
  refine lv_aload_n hx hb dX0_init_4 rfl (lv_at hl 0 rfl) ?_
  refine lv_iconst (v := nI (0)) hx hb dX0_init_5 (by decide) ?_
  refine lv_iload_n hx hb dX0_init_6 rfl (lv_at hl 1 rfl) ?_
  refine va_mmax hx hb (by rw [hml]; exact hl.1.symm) hown (hts (.methodLink RX0 9 Lib.Math.max.name) f_X0_init_1184_3) (hts (.static Lib.Math.max.name) f_X0_init_1184_4) (hts (.initialized "java/lang/Math") f_X0_init_1184_5) (hts (.code Lib.Math.max.name Lib.Math.max.code 2 (some .int)) f_X0_init_1184_6) (Nat.le_of_ble_eq_true rfl) (Nat.le_of_ble_eq_true rfl) (Nat.zero_le _) (Nat.zero_le _) dX0_init_7 ?_
  refine tI (x' := nI (1184)) (by decide) ?_
  refine nwA (aty := .byte) (ty := .byte) (t0 := 1) (N := 1184) hx hb (hts (.arrayClass .byte) f_X0_init_1184_7) rfl rfl ra_byte rfl hK hA hW (by decide) (Nat.le_of_ble_eq_true rfl) (Nat.le_of_ble_eq_true rfl) (Nat.le_of_ble_eq_true rfl) dX0_init_10 (fun q10 H hW => ?_)
  have hW : Wd D A s [(a0, .inr (0, [.null, .int (nI (0))])), (q10, .inl (cy 1, 1184, .inl (fun _ => nI 0)))] _ _ := hW
  refine W.widen (k := 1) (n := 1184) (Nat.le_of_ble_eq_true rfl) (Nat.le_of_ble_eq_true rfl) ?_
  refine va_putF (D := D) (ci := 0) (v := .ref q10) (ty := .array .byte) (C := RX0) (T := TX0) (N := 2) hx hb hts i_X0_init_1184_X0 tyX0 tyX0_ok nmX0 hown hK hW.1 hW.2.1 hW.2.2 0 rfl rfl 0 (by decide) (hts (.fieldLink RX0 15 "TreeHashes$Bytes" "row" "[B") f_X0_init_1184_8) (fun _ h9 => h9) rfl hnm rfl (by decide +kernel) rfl rfl (Nat.le_of_ble_eq_true rfl) dX0_init_12 (fun H locs hP hD hS => ?_)
  have hW : Wd D A s [(a0, .inr (0, [.ref q10, .int (nI (0))])), (q10, .inl (cy 1, 1184, .inl (fun _ => nI 0)))] H locs := ⟨hP, hD, hS⟩
  exact eV hQ hx hb hr hlocks hK hW q10 (trivial) (rfl) dX0_init_15

theorem f_X2_init_0 : Cond.methodLink RX2 3 objectInit ∈ wsX2_init := by decide +kernel
theorem f_X2_init_1 : Cond.instanceMethod objectInit ∈ wsX2_init := by decide +kernel
theorem f_X2_init_2 : Cond.code objectInit ⟨#[0xb1]⟩ 1 none ∈ wsX2_init := by decide +kernel
theorem f_X2_init_3 : Cond.arrayClass .int ∈ wsX2_init := by decide +kernel
theorem f_X2_init_4 : Cond.fieldLink RX2 9 "TreeHashes$Mix" "chain" "[I" ∈ wsX2_init := by decide +kernel
theorem i_X2_init_X2 : ∀ w ∈ wsX20, w ∈ wsX2_init := by decide +kernel
theorem f_X2_init_6 : Cond.fieldLink RX2 15 "TreeHashes$Mix" "block" "[I" ∈ wsX2_init := by decide +kernel
theorem f_X2_init_7 : Cond.fieldLink RX2 18 "TreeHashes$Mix" "v" "[I" ∈ wsX2_init := by decide +kernel
theorem f_X2_init_8 : Cond.fieldLink RX2 21 "TreeHashes$Mix" "w" "[I" ∈ wsX2_init := by decide +kernel
theorem f_X2_init_9 : Cond.fieldLink RX2 24 "TreeHashes$Mix" "nextW" "[I" ∈ wsX2_init := by decide +kernel
set_option maxHeartbeats 4000000 in
set_option maxRecDepth 100000 in
theorem c_X2_init (l : Launch) (D : va_G) (cy : Nat → ClassId) (t : Nat × Nat) (m0 : Nat)  (sz : Nat) : Met l yX2_init wsX2_init ({ frames := 1, cells := 5, slots := 72, locals := 20 }) (PcW D cy t [(m0, .inr (2, [.null, .null, .long (0), .int (nI (0)), .int (nI (0)), .null, .null, .null]))] [.ref m0] sz) (QvA D cy (fun u : (Nat) × (Nat) × (Nat) × (Nat) × (Nat) => match u with | (mc, mb, mv, aw, an) => True) (fun u : (Nat) × (Nat) × (Nat) × (Nat) × (Nat) => match u with | (mc, mb, mv, aw, an) => [(m0, .inr (2, [.ref mc, .ref mb, .long (0), .int (nI (0)), .int (nI (0)), .ref mv, .ref aw, .ref an])), (mc, .inl (cy 0, 8, .inl (fun _ => nI 0))), (mb, .inl (cy 0, 16, .inl (fun _ => nI 0))), (mv, .inl (cy 0, 16, .inl (fun _ => nI 0))), (aw, .inl (cy 0, 16, .inl (fun _ => nI 0))), (an, .inl (cy 0, 16, .inl (fun _ => nI 0)))]) (va_A [(m0, .inr (2, [.null, .null, .long (0), .int (nI (0)), .int (nI (0)), .null, .null, .null]))] sz)) 5 72 (va_A [(m0, .inr (2, [.null, .null, .long (0), .int (nI (0)), .int (nI (0)), .null, .null, .null]))] sz) := by
  refine M_ofW (cc := cX2_init) (maxL := 1) (ret := none) (by decide) rfl (Nat.le_of_ble_eq_true rfl) ?_
  intro p e s m below meth c A ls args Q hQ S0 hr hlocks hnm hK hst hA hW hl
  have hx := S0.1; have hb := S0.2.1; have hml := S0.2.2.1; have hown := S0.2.2.2.1; have hts := S0.2.2.2.2
  have hl : lv_has ls 1 [(0, .ref m0)] := hl
  refine lv_aload_n hx hb dX2_init_0 rfl (lv_at hl 0 rfl) ?_
  refine W.objInit hx hb hown (hts (.methodLink RX2 3 objectInit) f_X2_init_0) (hts (.instanceMethod objectInit) f_X2_init_1) (hts (.code objectInit ⟨#[0xb1]⟩ 1 none) f_X2_init_2) rfl (by rw [hml]; exact hl.1) rfl dX2_init_1 (Nat.le_of_ble_eq_true rfl) (Nat.le_of_ble_eq_true rfl) ?_
  refine W.eq (g2 := F0 m 4 ls []) rfl ?_
  refine lv_aload_n hx hb dX2_init_4 rfl (lv_at hl 0 rfl) ?_
  refine lv_bipush (v := nI (8)) hx hb dX2_init_5 (by decide) ?_
  refine nwA (aty := .int) (ty := .int) (t0 := 0) (N := 8) hx hb (hts (.arrayClass .int) f_X2_init_3) rfl rfl ra_int rfl hK hA hW (by decide) (Nat.le_of_ble_eq_true rfl) (Nat.le_of_ble_eq_true rfl) (Nat.le_of_ble_eq_true rfl) dX2_init_7 (fun q7 H hW => ?_)
  have hW : Wd D A s [(m0, .inr (2, [.null, .null, .long (0), .int (nI (0)), .int (nI (0)), .null, .null, .null])), (q7, .inl (cy 0, 8, .inl (fun _ => nI 0)))] _ _ := hW
  refine W.widen (k := 1) (n := 8) (Nat.le_of_ble_eq_true rfl) (Nat.le_of_ble_eq_true rfl) ?_
  refine va_putF (D := D) (ci := 2) (v := .ref q7) (ty := .array .int) (C := RX2) (T := TX2) (N := 8) hx hb hts i_X2_init_X2 tyX2 tyX2_ok nmX2 hown hK hW.1 hW.2.1 hW.2.2 0 rfl rfl 0 (by decide) (hts (.fieldLink RX2 9 "TreeHashes$Mix" "chain" "[I") f_X2_init_4) (fun _ h9 => h9) rfl hnm rfl (by decide +kernel) rfl rfl (Nat.le_of_ble_eq_true rfl) dX2_init_9 (fun H locs hP hD hS => ?_)
  have hW : Wd D A s [(m0, .inr (2, [.ref q7, .null, .long (0), .int (nI (0)), .int (nI (0)), .null, .null, .null])), (q7, .inl (cy 0, 8, .inl (fun _ => nI 0)))] H locs := ⟨hP, hD, hS⟩
  refine lv_aload_n hx hb dX2_init_12 rfl (lv_at hl 0 rfl) ?_
  refine lv_bipush (v := nI (16)) hx hb dX2_init_13 (by decide) ?_
  refine nwA (aty := .int) (ty := .int) (t0 := 0) (N := 16) hx hb (hts (.arrayClass .int) f_X2_init_3) rfl rfl ra_int rfl hK hA hW (by decide) (Nat.le_of_ble_eq_true rfl) (Nat.le_of_ble_eq_true rfl) (Nat.le_of_ble_eq_true rfl) dX2_init_15 (fun q15 H hW => ?_)
  have hW : Wd D A s [(m0, .inr (2, [.ref q7, .null, .long (0), .int (nI (0)), .int (nI (0)), .null, .null, .null])), (q7, .inl (cy 0, 8, .inl (fun _ => nI 0))), (q15, .inl (cy 0, 16, .inl (fun _ => nI 0)))] _ _ := hW
  refine W.widen (k := 2) (n := 24) (Nat.le_of_ble_eq_true rfl) (Nat.le_of_ble_eq_true rfl) ?_
  refine va_putF (D := D) (ci := 2) (v := .ref q15) (ty := .array .int) (C := RX2) (T := TX2) (N := 8) hx hb hts i_X2_init_X2 tyX2 tyX2_ok nmX2 hown hK hW.1 hW.2.1 hW.2.2 0 rfl rfl 1 (by decide) (hts (.fieldLink RX2 15 "TreeHashes$Mix" "block" "[I") f_X2_init_6) (fun _ h9 => h9) rfl hnm rfl (by decide +kernel) rfl rfl (Nat.le_of_ble_eq_true rfl) dX2_init_17 (fun H locs hP hD hS => ?_)
  have hW : Wd D A s [(m0, .inr (2, [.ref q7, .ref q15, .long (0), .int (nI (0)), .int (nI (0)), .null, .null, .null])), (q7, .inl (cy 0, 8, .inl (fun _ => nI 0))), (q15, .inl (cy 0, 16, .inl (fun _ => nI 0)))] H locs := ⟨hP, hD, hS⟩
  refine lv_aload_n hx hb dX2_init_20 rfl (lv_at hl 0 rfl) ?_
  refine lv_bipush (v := nI (16)) hx hb dX2_init_21 (by decide) ?_
  refine nwA (aty := .int) (ty := .int) (t0 := 0) (N := 16) hx hb (hts (.arrayClass .int) f_X2_init_3) rfl rfl ra_int rfl hK hA hW (by decide) (Nat.le_of_ble_eq_true rfl) (Nat.le_of_ble_eq_true rfl) (Nat.le_of_ble_eq_true rfl) dX2_init_23 (fun q23 H hW => ?_)
  have hW : Wd D A s [(m0, .inr (2, [.ref q7, .ref q15, .long (0), .int (nI (0)), .int (nI (0)), .null, .null, .null])), (q7, .inl (cy 0, 8, .inl (fun _ => nI 0))), (q15, .inl (cy 0, 16, .inl (fun _ => nI 0))), (q23, .inl (cy 0, 16, .inl (fun _ => nI 0)))] _ _ := hW
  refine W.widen (k := 3) (n := 40) (Nat.le_of_ble_eq_true rfl) (Nat.le_of_ble_eq_true rfl) ?_
  refine va_putF (D := D) (ci := 2) (v := .ref q23) (ty := .array .int) (C := RX2) (T := TX2) (N := 8) hx hb hts i_X2_init_X2 tyX2 tyX2_ok nmX2 hown hK hW.1 hW.2.1 hW.2.2 0 rfl rfl 5 (by decide) (hts (.fieldLink RX2 18 "TreeHashes$Mix" "v" "[I") f_X2_init_7) (fun _ h9 => h9) rfl hnm rfl (by decide +kernel) rfl rfl (Nat.le_of_ble_eq_true rfl) dX2_init_25 (fun H locs hP hD hS => ?_)
  have hW : Wd D A s [(m0, .inr (2, [.ref q7, .ref q15, .long (0), .int (nI (0)), .int (nI (0)), .ref q23, .null, .null])), (q7, .inl (cy 0, 8, .inl (fun _ => nI 0))), (q15, .inl (cy 0, 16, .inl (fun _ => nI 0))), (q23, .inl (cy 0, 16, .inl (fun _ => nI 0)))] H locs := ⟨hP, hD, hS⟩
  refine lv_aload_n hx hb dX2_init_28 rfl (lv_at hl 0 rfl) ?_
  refine lv_bipush (v := nI (16)) hx hb dX2_init_29 (by decide) ?_
  refine nwA (aty := .int) (ty := .int) (t0 := 0) (N := 16) hx hb (hts (.arrayClass .int) f_X2_init_3) rfl rfl ra_int rfl hK hA hW (by decide) (Nat.le_of_ble_eq_true rfl) (Nat.le_of_ble_eq_true rfl) (Nat.le_of_ble_eq_true rfl) dX2_init_31 (fun q31 H hW => ?_)
  have hW : Wd D A s [(m0, .inr (2, [.ref q7, .ref q15, .long (0), .int (nI (0)), .int (nI (0)), .ref q23, .null, .null])), (q7, .inl (cy 0, 8, .inl (fun _ => nI 0))), (q15, .inl (cy 0, 16, .inl (fun _ => nI 0))), (q23, .inl (cy 0, 16, .inl (fun _ => nI 0))), (q31, .inl (cy 0, 16, .inl (fun _ => nI 0)))] _ _ := hW
  refine W.widen (k := 4) (n := 56) (Nat.le_of_ble_eq_true rfl) (Nat.le_of_ble_eq_true rfl) ?_
  refine va_put (D := D) (ci := 2) (v := .ref q31) (ty := .array .int) (C := RX2) (T := TX2) (N := 8) hx hb hts i_X2_init_X2 tyX2 tyX2_ok nmX2 hown hK hW.1 hW.2.1 hW.2.2 0 rfl rfl 6 (by decide) (hts (.fieldLink RX2 21 "TreeHashes$Mix" "w" "[I") f_X2_init_8) (fun _ h9 => h9) rfl (by decide +kernel) rfl rfl (Nat.le_of_ble_eq_true rfl) dX2_init_33 (fun H locs hP hD hS => ?_)
  have hW : Wd D A s [(m0, .inr (2, [.ref q7, .ref q15, .long (0), .int (nI (0)), .int (nI (0)), .ref q23, .ref q31, .null])), (q7, .inl (cy 0, 8, .inl (fun _ => nI 0))), (q15, .inl (cy 0, 16, .inl (fun _ => nI 0))), (q23, .inl (cy 0, 16, .inl (fun _ => nI 0))), (q31, .inl (cy 0, 16, .inl (fun _ => nI 0)))] H locs := ⟨hP, hD, hS⟩
  refine lv_aload_n hx hb dX2_init_36 rfl (lv_at hl 0 rfl) ?_
  refine lv_bipush (v := nI (16)) hx hb dX2_init_37 (by decide) ?_
  refine nwA (aty := .int) (ty := .int) (t0 := 0) (N := 16) hx hb (hts (.arrayClass .int) f_X2_init_3) rfl rfl ra_int rfl hK hA hW (by decide) (Nat.le_of_ble_eq_true rfl) (Nat.le_of_ble_eq_true rfl) (Nat.le_of_ble_eq_true rfl) dX2_init_39 (fun q39 H hW => ?_)
  have hW : Wd D A s [(m0, .inr (2, [.ref q7, .ref q15, .long (0), .int (nI (0)), .int (nI (0)), .ref q23, .ref q31, .null])), (q7, .inl (cy 0, 8, .inl (fun _ => nI 0))), (q15, .inl (cy 0, 16, .inl (fun _ => nI 0))), (q23, .inl (cy 0, 16, .inl (fun _ => nI 0))), (q31, .inl (cy 0, 16, .inl (fun _ => nI 0))), (q39, .inl (cy 0, 16, .inl (fun _ => nI 0)))] _ _ := hW
  refine W.widen (k := 5) (n := 72) (Nat.le_of_ble_eq_true rfl) (Nat.le_of_ble_eq_true rfl) ?_
  refine va_put (D := D) (ci := 2) (v := .ref q39) (ty := .array .int) (C := RX2) (T := TX2) (N := 8) hx hb hts i_X2_init_X2 tyX2 tyX2_ok nmX2 hown hK hW.1 hW.2.1 hW.2.2 0 rfl rfl 7 (by decide) (hts (.fieldLink RX2 24 "TreeHashes$Mix" "nextW" "[I") f_X2_init_9) (fun _ h9 => h9) rfl (by decide +kernel) rfl rfl (Nat.le_of_ble_eq_true rfl) dX2_init_41 (fun H locs hP hD hS => ?_)
  have hW : Wd D A s [(m0, .inr (2, [.ref q7, .ref q15, .long (0), .int (nI (0)), .int (nI (0)), .ref q23, .ref q31, .ref q39])), (q7, .inl (cy 0, 8, .inl (fun _ => nI 0))), (q15, .inl (cy 0, 16, .inl (fun _ => nI 0))), (q23, .inl (cy 0, 16, .inl (fun _ => nI 0))), (q31, .inl (cy 0, 16, .inl (fun _ => nI 0))), (q39, .inl (cy 0, 16, .inl (fun _ => nI 0)))] H locs := ⟨hP, hD, hS⟩
  exact eV hQ hx hb hr hlocks hK hW (q7, q15, q23, q31, q39) (trivial) (rfl) dX2_init_44

theorem f_X3_init_0 : Cond.methodLink RX3 1 objectInit ∈ wsX3_init := by decide +kernel
theorem f_X3_init_1 : Cond.instanceMethod objectInit ∈ wsX3_init := by decide +kernel
theorem f_X3_init_2 : Cond.code objectInit ⟨#[0xb1]⟩ 1 none ∈ wsX3_init := by decide +kernel
theorem f_X3_init_3 : Cond.arrayClass .int ∈ wsX3_init := by decide +kernel
theorem f_X3_init_4 : Cond.fieldLink RX3 9 "TreeHashes$Way" "otherFirst" "[I" ∈ wsX3_init := by decide +kernel
theorem i_X3_init_X3 : ∀ w ∈ wsX30, w ∈ wsX3_init := by decide +kernel
theorem f_X3_init_6 : Cond.fieldLink RX3 13 "TreeHashes$Way" "otherChunks" "[I" ∈ wsX3_init := by decide +kernel
set_option maxHeartbeats 4000000 in
set_option maxRecDepth 100000 in
theorem c_X3_init (l : Launch) (D : va_G) (cy : Nat → ClassId) (t : Nat × Nat) (y0 : Nat)  (sz : Nat) : Met l yX3_init wsX3_init ({ frames := 1, cells := 2, slots := 20, locals := 20 }) (PcW D cy t [(y0, .inr (3, [.null, .null, .int (nI (0))]))] [.ref y0] sz) (QvA D cy (fun u : (Nat) × (Nat) => match u with | (y1, y2) => True) (fun u : (Nat) × (Nat) => match u with | (y1, y2) => [(y0, .inr (3, [.ref y1, .ref y2, .int (nI (0))])), (y1, .inl (cy 0, 10, .inl (fun _ => nI 0))), (y2, .inl (cy 0, 10, .inl (fun _ => nI 0)))]) (va_A [(y0, .inr (3, [.null, .null, .int (nI (0))]))] sz)) 2 20 (va_A [(y0, .inr (3, [.null, .null, .int (nI (0))]))] sz) := by
  refine M_ofW (cc := cX3_init) (maxL := 1) (ret := none) (by decide) rfl (Nat.le_of_ble_eq_true rfl) ?_
  intro p e s m below meth c A ls args Q hQ S0 hr hlocks hnm hK hst hA hW hl
  have hx := S0.1; have hb := S0.2.1; have hml := S0.2.2.1; have hown := S0.2.2.2.1; have hts := S0.2.2.2.2
  have hl : lv_has ls 1 [(0, .ref y0)] := hl
  refine lv_aload_n hx hb dX3_init_0 rfl (lv_at hl 0 rfl) ?_
  refine W.objInit hx hb hown (hts (.methodLink RX3 1 objectInit) f_X3_init_0) (hts (.instanceMethod objectInit) f_X3_init_1) (hts (.code objectInit ⟨#[0xb1]⟩ 1 none) f_X3_init_2) rfl (by rw [hml]; exact hl.1) rfl dX3_init_1 (Nat.le_of_ble_eq_true rfl) (Nat.le_of_ble_eq_true rfl) ?_
  refine W.eq (g2 := F0 m 4 ls []) rfl ?_
  refine lv_aload_n hx hb dX3_init_4 rfl (lv_at hl 0 rfl) ?_
  refine lv_bipush (v := nI (10)) hx hb dX3_init_5 (by decide) ?_
  refine nwA (aty := .int) (ty := .int) (t0 := 0) (N := 10) hx hb (hts (.arrayClass .int) f_X3_init_3) rfl rfl ra_int rfl hK hA hW (by decide) (Nat.le_of_ble_eq_true rfl) (Nat.le_of_ble_eq_true rfl) (Nat.le_of_ble_eq_true rfl) dX3_init_7 (fun q7 H hW => ?_)
  have hW : Wd D A s [(y0, .inr (3, [.null, .null, .int (nI (0))])), (q7, .inl (cy 0, 10, .inl (fun _ => nI 0)))] _ _ := hW
  refine W.widen (k := 1) (n := 10) (Nat.le_of_ble_eq_true rfl) (Nat.le_of_ble_eq_true rfl) ?_
  refine va_putF (D := D) (ci := 3) (v := .ref q7) (ty := .array .int) (C := RX3) (T := TX3) (N := 3) hx hb hts i_X3_init_X3 tyX3 tyX3_ok nmX3 hown hK hW.1 hW.2.1 hW.2.2 0 rfl rfl 0 (by decide) (hts (.fieldLink RX3 9 "TreeHashes$Way" "otherFirst" "[I") f_X3_init_4) (fun _ h9 => h9) rfl hnm rfl (by decide +kernel) rfl rfl (Nat.le_of_ble_eq_true rfl) dX3_init_9 (fun H locs hP hD hS => ?_)
  have hW : Wd D A s [(y0, .inr (3, [.ref q7, .null, .int (nI (0))])), (q7, .inl (cy 0, 10, .inl (fun _ => nI 0)))] H locs := ⟨hP, hD, hS⟩
  refine lv_aload_n hx hb dX3_init_12 rfl (lv_at hl 0 rfl) ?_
  refine lv_bipush (v := nI (10)) hx hb dX3_init_13 (by decide) ?_
  refine nwA (aty := .int) (ty := .int) (t0 := 0) (N := 10) hx hb (hts (.arrayClass .int) f_X3_init_3) rfl rfl ra_int rfl hK hA hW (by decide) (Nat.le_of_ble_eq_true rfl) (Nat.le_of_ble_eq_true rfl) (Nat.le_of_ble_eq_true rfl) dX3_init_15 (fun q15 H hW => ?_)
  have hW : Wd D A s [(y0, .inr (3, [.ref q7, .null, .int (nI (0))])), (q7, .inl (cy 0, 10, .inl (fun _ => nI 0))), (q15, .inl (cy 0, 10, .inl (fun _ => nI 0)))] _ _ := hW
  refine W.widen (k := 2) (n := 20) (Nat.le_of_ble_eq_true rfl) (Nat.le_of_ble_eq_true rfl) ?_
  refine va_putF (D := D) (ci := 3) (v := .ref q15) (ty := .array .int) (C := RX3) (T := TX3) (N := 3) hx hb hts i_X3_init_X3 tyX3 tyX3_ok nmX3 hown hK hW.1 hW.2.1 hW.2.2 0 rfl rfl 1 (by decide) (hts (.fieldLink RX3 13 "TreeHashes$Way" "otherChunks" "[I") f_X3_init_6) (fun _ h9 => h9) rfl hnm rfl (by decide +kernel) rfl rfl (Nat.le_of_ble_eq_true rfl) dX3_init_17 (fun H locs hP hD hS => ?_)
  have hW : Wd D A s [(y0, .inr (3, [.ref q7, .ref q15, .int (nI (0))])), (q7, .inl (cy 0, 10, .inl (fun _ => nI 0))), (q15, .inl (cy 0, 10, .inl (fun _ => nI 0)))] H locs := ⟨hP, hD, hS⟩
  exact eV hQ hx hb hr hlocks hK hW (q7, q15) (trivial) (rfl) dX3_init_20

theorem f_X1_init_0 : Cond.methodLink RX1 5 objectInit ∈ wsX1_init := by decide +kernel
theorem f_X1_init_1 : Cond.instanceMethod objectInit ∈ wsX1_init := by decide +kernel
theorem f_X1_init_2 : Cond.code objectInit ⟨#[0xb1]⟩ 1 none ∈ wsX1_init := by decide +kernel
theorem i_X1_init_X2 : ∀ w ∈ wsX20, w ∈ wsX1_init := by decide +kernel
theorem f_X1_init_4 : Cond.classLink RX1 11 RX2 ∈ wsX1_init := by decide +kernel
theorem f_X1_init_5 : Cond.instantiable RX2 8 ∈ wsX1_init := by decide +kernel
theorem f_X1_init_6 : Cond.initialized RX2 ∈ wsX1_init := by decide +kernel
theorem f_X1_init_7 : Cond.instanceMethod yX2_init ∈ wsX1_init := by decide +kernel
theorem f_X1_init_8 : Cond.fieldLink RX1 14 "TreeHashes$Hasher" "mix" "LTreeHashes$Mix;" ∈ wsX1_init := by decide +kernel
theorem i_X1_init_X1 : ∀ w ∈ wsX10, w ∈ wsX1_init := by decide +kernel
theorem f_X1_init_10 : Cond.arrayClass .int ∈ wsX1_init := by decide +kernel
theorem f_X1_init_11 : Cond.fieldLink RX1 18 "TreeHashes$Hasher" "key" "[I" ∈ wsX1_init := by decide +kernel
theorem f_X1_init_12 : Cond.fieldLink RX1 22 "TreeHashes$Hasher" "stack" "[I" ∈ wsX1_init := by decide +kernel
theorem f_X1_init_13 : Cond.fieldLink RX1 25 "TreeHashes$Hasher" "chunkChain" "[I" ∈ wsX1_init := by decide +kernel
theorem f_X1_init_14 : Cond.fieldLink RX1 28 "TreeHashes$Hasher" "block" "[I" ∈ wsX1_init := by decide +kernel
theorem f_X1_init_15 : Cond.fieldLink RX1 31 "TreeHashes$Mix" "START" "[I" ∈ wsX1_init := by decide +kernel
set_option maxHeartbeats 4000000 in
set_option maxRecDepth 100000 in
theorem c_X1_init (l : Launch) (D : va_G) (cy : Nat → ClassId) (t : Nat × Nat) (h0 : Nat)  (sz : Nat) : Met l yX1_init wsX1_init ({ frames := 3, cells := 10, slots := 152, locals := 66 }) (PcW D cy t [(h0, .inr (1, [.null, .null, .null, .null, .null, .int (nI (0)), .int (nI (0)), .int (nI (0)), .int (nI (0)), .int (nI (0)), .int (nI (0)), .int (nI (0)), .int (nI (0))]))] [.ref h0] sz) (QvA D cy (fun u : (Nat) × (Nat) × (Nat) × (Nat) × (Nat) × (Nat) × (Nat) × (Nat) × (Nat) × (Nat) => match u with | (m0, mc, mb, mv, aw, an, qk, qs, qc, qb) => True) (fun u : (Nat) × (Nat) × (Nat) × (Nat) × (Nat) × (Nat) × (Nat) × (Nat) × (Nat) × (Nat) => match u with | (m0, mc, mb, mv, aw, an, qk, qs, qc, qb) => [(h0, .inr (1, [.ref m0, .ref qk, .ref qs, .ref qc, .ref qb, .int (nI (0)), .int (nI (0)), .int (nI (0)), .int (nI (0)), .int (nI (0)), .int (nI (0)), .int (nI (0)), .int (nI (0))])), (m0, .inr (2, [.ref mc, .ref mb, .long (0), .int (nI (0)), .int (nI (0)), .ref mv, .ref aw, .ref an])), (mc, .inl (cy 0, 8, .inl (fun _ => nI 0))), (mb, .inl (cy 0, 16, .inl (fun _ => nI 0))), (mv, .inl (cy 0, 16, .inl (fun _ => nI 0))), (aw, .inl (cy 0, 16, .inl (fun _ => nI 0))), (an, .inl (cy 0, 16, .inl (fun _ => nI 0))), (qk, .inl (cy 0, 8, .inl (stA))), (qs, .inl (cy 0, 40, .inl (fun _ => nI 0))), (qc, .inl (cy 0, 8, .inl (stA))), (qb, .inl (cy 0, 16, .inl (fun _ => nI (0))))]) (va_A [(h0, .inr (1, [.null, .null, .null, .null, .null, .int (nI (0)), .int (nI (0)), .int (nI (0)), .int (nI (0)), .int (nI (0)), .int (nI (0)), .int (nI (0)), .int (nI (0))]))] sz)) 10 152 (va_A [(h0, .inr (1, [.null, .null, .null, .null, .null, .int (nI (0)), .int (nI (0)), .int (nI (0)), .int (nI (0)), .int (nI (0)), .int (nI (0)), .int (nI (0)), .int (nI (0))]))] sz) := by
  refine M_ofW (cc := cX1_init) (maxL := 1) (ret := none) (by decide) rfl (Nat.le_of_ble_eq_true rfl) ?_
  intro p e s m below meth c A ls args Q hQ S0 hr hlocks hnm hK hst hA hW hl
  have hx := S0.1; have hb := S0.2.1; have hml := S0.2.2.1; have hown := S0.2.2.2.1; have hts := S0.2.2.2.2
  have hl : lv_has ls 1 [(0, .ref h0)] := hl
  refine lv_aload_n hx hb dX1_init_0 rfl (lv_at hl 0 rfl) ?_
  refine W.objInit hx hb hown (hts (.methodLink RX1 5 objectInit) f_X1_init_0) (hts (.instanceMethod objectInit) f_X1_init_1) (hts (.code objectInit ⟨#[0xb1]⟩ 1 none) f_X1_init_2) rfl (by rw [hml]; exact hl.1) rfl dX1_init_1 (Nat.le_of_ble_eq_true rfl) (Nat.le_of_ble_eq_true rfl) ?_
  refine W.eq (g2 := F0 m 4 ls []) rfl ?_
  refine lv_aload_n hx hb dX1_init_4 rfl (lv_at hl 0 rfl) ?_
  refine va_new (D := D) (ci := 2) (fs := [.null, .null, .long (0), .int (nI (0)), .int (nI (0)), .null, .null, .null]) (C := RX2) (T := TX2) (N := 8) hx hb hts i_X1_init_X2 tyX2 tyX2_ok hown (hts (.classLink RX1 11 RX2) f_X1_init_4) (hts (.instantiable RX2 8) f_X1_init_5) (hts (.initialized RX2) f_X1_init_6) hK hW.1 hW.2.1 hW.2.2 hA rfl (fun j hj => by rcases (show j = 0 ∨ j = 1 ∨ j = 2 ∨ j = 3 ∨ j = 4 ∨ j = 5 ∨ j = 6 ∨ j = 7 by omega) with rfl | rfl | rfl | rfl | rfl | rfl | rfl | rfl <;> rfl) (Nat.le_of_ble_eq_true rfl) (Nat.le_of_ble_eq_true rfl) dX1_init_5 (fun q5 H hP hD hS => ?_)
  have hW : Wd D A s [(h0, .inr (1, [.null, .null, .null, .null, .null, .int (nI (0)), .int (nI (0)), .int (nI (0)), .int (nI (0)), .int (nI (0)), .int (nI (0)), .int (nI (0)), .int (nI (0))])), (q5, .inr (2, [.null, .null, .long (0), .int (nI (0)), .int (nI (0)), .null, .null, .null]))] H _ := ⟨hP, hD, hS⟩
  refine W.widen (k := 1) (n := 8) (Nat.le_of_ble_eq_true rfl) (Nat.le_of_ble_eq_true rfl) ?_
  refine lv_dup hx hb dX1_init_8 rfl ?_
  refine kIN (wa := (fun u : (Nat) × (Nat) × (Nat) × (Nat) × (Nat) => match u with | (mc, mb, mv, aw, an) => [(q5, .inr (2, [.ref mc, .ref mb, .long (0), .int (nI (0)), .int (nI (0)), .ref mv, .ref aw, .ref an]))])) (wb := (fun u : (Nat) × (Nat) × (Nat) × (Nat) × (Nat) => match u with | (mc, mb, mv, aw, an) => [(mc, .inl (cy 0, 8, .inl (fun _ => nI 0))), (mb, .inl (cy 0, 16, .inl (fun _ => nI 0))), (mv, .inl (cy 0, 16, .inl (fun _ => nI 0))), (aw, .inl (cy 0, 16, .inl (fun _ => nI 0))), (an, .inl (cy 0, 16, .inl (fun _ => nI 0)))])) (As := []) (rest := [.ref q5, .ref h0]) S0 hK hst hA hW [1] (fun sz => c_X2_init l D cy t q5 sz) rfl (by decide) ⟨va_cnB 0 hts gX1_init_X2_init_n13 rfl rfl rfl (hst.2.2.2 ("TreeHashes$Hasher", 13, yX2_init, "TreeHashes") (by decide)) (hts (.initialized RX2) f_X1_init_6) (by decide +kernel) ⟨Nat.le_of_ble_eq_true rfl, Nat.le_of_ble_eq_true rfl⟩, rfl, hts (.instanceMethod yX2_init) f_X1_init_7⟩ (fun ⟨_, _, _, _, _⟩ => rfl) rfl hl.1 rfl (Nat.le_of_ble_eq_true rfl) dX1_init_9 ⟨Nat.le_of_ble_eq_true rfl, Nat.le_of_ble_eq_true rfl⟩ (fun u9 H locs p9 hW => ?_)
  obtain ⟨mc_9, mb_9, mv_9, aw_9, an_9⟩ := u9
  have hW : Wd D A s [(h0, .inr (1, [.null, .null, .null, .null, .null, .int (nI (0)), .int (nI (0)), .int (nI (0)), .int (nI (0)), .int (nI (0)), .int (nI (0)), .int (nI (0)), .int (nI (0))])), (q5, .inr (2, [.ref mc_9, .ref mb_9, .long (0), .int (nI (0)), .int (nI (0)), .ref mv_9, .ref aw_9, .ref an_9])), (mc_9, .inl (cy 0, 8, .inl (fun _ => nI 0))), (mb_9, .inl (cy 0, 16, .inl (fun _ => nI 0))), (mv_9, .inl (cy 0, 16, .inl (fun _ => nI 0))), (aw_9, .inl (cy 0, 16, .inl (fun _ => nI 0))), (an_9, .inl (cy 0, 16, .inl (fun _ => nI 0)))] _ _ := hW
  refine W.widen (k := 6) (n := 80) (Nat.le_of_ble_eq_true rfl) (Nat.le_of_ble_eq_true rfl) ?_
  refine va_putF (D := D) (ci := 1) (v := .ref q5) (ty := .object "TreeHashes$Mix") (C := RX1) (T := TX1) (N := 13) hx hb hts i_X1_init_X1 tyX1 tyX1_ok nmX1 hown hK hW.1 hW.2.1 hW.2.2 0 rfl rfl 0 (by decide) (hts (.fieldLink RX1 14 "TreeHashes$Hasher" "mix" "LTreeHashes$Mix;") f_X1_init_8) (fun _ h9 => h9) rfl hnm rfl (by decide +kernel) rfl rfl (Nat.le_of_ble_eq_true rfl) dX1_init_12 (fun H locs hP hD hS => ?_)
  have hW : Wd D A s [(h0, .inr (1, [.ref q5, .null, .null, .null, .null, .int (nI (0)), .int (nI (0)), .int (nI (0)), .int (nI (0)), .int (nI (0)), .int (nI (0)), .int (nI (0)), .int (nI (0))])), (q5, .inr (2, [.ref mc_9, .ref mb_9, .long (0), .int (nI (0)), .int (nI (0)), .ref mv_9, .ref aw_9, .ref an_9])), (mc_9, .inl (cy 0, 8, .inl (fun _ => nI 0))), (mb_9, .inl (cy 0, 16, .inl (fun _ => nI 0))), (mv_9, .inl (cy 0, 16, .inl (fun _ => nI 0))), (aw_9, .inl (cy 0, 16, .inl (fun _ => nI 0))), (an_9, .inl (cy 0, 16, .inl (fun _ => nI 0)))] H locs := ⟨hP, hD, hS⟩
  refine lv_aload_n hx hb dX1_init_15 rfl (lv_at hl 0 rfl) ?_
  refine lv_bipush (v := nI (8)) hx hb dX1_init_16 (by decide) ?_
  refine nwA (aty := .int) (ty := .int) (t0 := 0) (N := 8) hx hb (hts (.arrayClass .int) f_X1_init_10) rfl rfl ra_int rfl hK hA hW (by decide) (Nat.le_of_ble_eq_true rfl) (Nat.le_of_ble_eq_true rfl) (Nat.le_of_ble_eq_true rfl) dX1_init_18 (fun q18 H hW => ?_)
  have hW : Wd D A s [(h0, .inr (1, [.ref q5, .null, .null, .null, .null, .int (nI (0)), .int (nI (0)), .int (nI (0)), .int (nI (0)), .int (nI (0)), .int (nI (0)), .int (nI (0)), .int (nI (0))])), (q5, .inr (2, [.ref mc_9, .ref mb_9, .long (0), .int (nI (0)), .int (nI (0)), .ref mv_9, .ref aw_9, .ref an_9])), (mc_9, .inl (cy 0, 8, .inl (fun _ => nI 0))), (mb_9, .inl (cy 0, 16, .inl (fun _ => nI 0))), (mv_9, .inl (cy 0, 16, .inl (fun _ => nI 0))), (aw_9, .inl (cy 0, 16, .inl (fun _ => nI 0))), (an_9, .inl (cy 0, 16, .inl (fun _ => nI 0))), (q18, .inl (cy 0, 8, .inl (fun _ => nI 0)))] _ _ := hW
  refine W.widen (k := 7) (n := 88) (Nat.le_of_ble_eq_true rfl) (Nat.le_of_ble_eq_true rfl) ?_
  refine va_putF (D := D) (ci := 1) (v := .ref q18) (ty := .array .int) (C := RX1) (T := TX1) (N := 13) hx hb hts i_X1_init_X1 tyX1 tyX1_ok nmX1 hown hK hW.1 hW.2.1 hW.2.2 0 rfl rfl 1 (by decide) (hts (.fieldLink RX1 18 "TreeHashes$Hasher" "key" "[I") f_X1_init_11) (fun _ h9 => h9) rfl hnm rfl (by decide +kernel) rfl rfl (Nat.le_of_ble_eq_true rfl) dX1_init_20 (fun H locs hP hD hS => ?_)
  have hW : Wd D A s [(h0, .inr (1, [.ref q5, .ref q18, .null, .null, .null, .int (nI (0)), .int (nI (0)), .int (nI (0)), .int (nI (0)), .int (nI (0)), .int (nI (0)), .int (nI (0)), .int (nI (0))])), (q5, .inr (2, [.ref mc_9, .ref mb_9, .long (0), .int (nI (0)), .int (nI (0)), .ref mv_9, .ref aw_9, .ref an_9])), (mc_9, .inl (cy 0, 8, .inl (fun _ => nI 0))), (mb_9, .inl (cy 0, 16, .inl (fun _ => nI 0))), (mv_9, .inl (cy 0, 16, .inl (fun _ => nI 0))), (aw_9, .inl (cy 0, 16, .inl (fun _ => nI 0))), (an_9, .inl (cy 0, 16, .inl (fun _ => nI 0))), (q18, .inl (cy 0, 8, .inl (fun _ => nI 0)))] H locs := ⟨hP, hD, hS⟩
  refine lv_aload_n hx hb dX1_init_23 rfl (lv_at hl 0 rfl) ?_
  refine lv_bipush (v := nI (40)) hx hb dX1_init_24 (by decide) ?_
  refine nwA (aty := .int) (ty := .int) (t0 := 0) (N := 40) hx hb (hts (.arrayClass .int) f_X1_init_10) rfl rfl ra_int rfl hK hA hW (by decide) (Nat.le_of_ble_eq_true rfl) (Nat.le_of_ble_eq_true rfl) (Nat.le_of_ble_eq_true rfl) dX1_init_26 (fun q26 H hW => ?_)
  have hW : Wd D A s [(h0, .inr (1, [.ref q5, .ref q18, .null, .null, .null, .int (nI (0)), .int (nI (0)), .int (nI (0)), .int (nI (0)), .int (nI (0)), .int (nI (0)), .int (nI (0)), .int (nI (0))])), (q5, .inr (2, [.ref mc_9, .ref mb_9, .long (0), .int (nI (0)), .int (nI (0)), .ref mv_9, .ref aw_9, .ref an_9])), (mc_9, .inl (cy 0, 8, .inl (fun _ => nI 0))), (mb_9, .inl (cy 0, 16, .inl (fun _ => nI 0))), (mv_9, .inl (cy 0, 16, .inl (fun _ => nI 0))), (aw_9, .inl (cy 0, 16, .inl (fun _ => nI 0))), (an_9, .inl (cy 0, 16, .inl (fun _ => nI 0))), (q18, .inl (cy 0, 8, .inl (fun _ => nI 0))), (q26, .inl (cy 0, 40, .inl (fun _ => nI 0)))] _ _ := hW
  refine W.widen (k := 8) (n := 128) (Nat.le_of_ble_eq_true rfl) (Nat.le_of_ble_eq_true rfl) ?_
  refine va_putF (D := D) (ci := 1) (v := .ref q26) (ty := .array .int) (C := RX1) (T := TX1) (N := 13) hx hb hts i_X1_init_X1 tyX1 tyX1_ok nmX1 hown hK hW.1 hW.2.1 hW.2.2 0 rfl rfl 2 (by decide) (hts (.fieldLink RX1 22 "TreeHashes$Hasher" "stack" "[I") f_X1_init_12) (fun _ h9 => h9) rfl hnm rfl (by decide +kernel) rfl rfl (Nat.le_of_ble_eq_true rfl) dX1_init_28 (fun H locs hP hD hS => ?_)
  have hW : Wd D A s [(h0, .inr (1, [.ref q5, .ref q18, .ref q26, .null, .null, .int (nI (0)), .int (nI (0)), .int (nI (0)), .int (nI (0)), .int (nI (0)), .int (nI (0)), .int (nI (0)), .int (nI (0))])), (q5, .inr (2, [.ref mc_9, .ref mb_9, .long (0), .int (nI (0)), .int (nI (0)), .ref mv_9, .ref aw_9, .ref an_9])), (mc_9, .inl (cy 0, 8, .inl (fun _ => nI 0))), (mb_9, .inl (cy 0, 16, .inl (fun _ => nI 0))), (mv_9, .inl (cy 0, 16, .inl (fun _ => nI 0))), (aw_9, .inl (cy 0, 16, .inl (fun _ => nI 0))), (an_9, .inl (cy 0, 16, .inl (fun _ => nI 0))), (q18, .inl (cy 0, 8, .inl (fun _ => nI 0))), (q26, .inl (cy 0, 40, .inl (fun _ => nI 0)))] H locs := ⟨hP, hD, hS⟩
  refine lv_aload_n hx hb dX1_init_31 rfl (lv_at hl 0 rfl) ?_
  refine lv_bipush (v := nI (8)) hx hb dX1_init_32 (by decide) ?_
  refine nwA (aty := .int) (ty := .int) (t0 := 0) (N := 8) hx hb (hts (.arrayClass .int) f_X1_init_10) rfl rfl ra_int rfl hK hA hW (by decide) (Nat.le_of_ble_eq_true rfl) (Nat.le_of_ble_eq_true rfl) (Nat.le_of_ble_eq_true rfl) dX1_init_34 (fun q34 H hW => ?_)
  have hW : Wd D A s [(h0, .inr (1, [.ref q5, .ref q18, .ref q26, .null, .null, .int (nI (0)), .int (nI (0)), .int (nI (0)), .int (nI (0)), .int (nI (0)), .int (nI (0)), .int (nI (0)), .int (nI (0))])), (q5, .inr (2, [.ref mc_9, .ref mb_9, .long (0), .int (nI (0)), .int (nI (0)), .ref mv_9, .ref aw_9, .ref an_9])), (mc_9, .inl (cy 0, 8, .inl (fun _ => nI 0))), (mb_9, .inl (cy 0, 16, .inl (fun _ => nI 0))), (mv_9, .inl (cy 0, 16, .inl (fun _ => nI 0))), (aw_9, .inl (cy 0, 16, .inl (fun _ => nI 0))), (an_9, .inl (cy 0, 16, .inl (fun _ => nI 0))), (q18, .inl (cy 0, 8, .inl (fun _ => nI 0))), (q26, .inl (cy 0, 40, .inl (fun _ => nI 0))), (q34, .inl (cy 0, 8, .inl (fun _ => nI 0)))] _ _ := hW
  refine W.widen (k := 9) (n := 136) (Nat.le_of_ble_eq_true rfl) (Nat.le_of_ble_eq_true rfl) ?_
  refine va_putF (D := D) (ci := 1) (v := .ref q34) (ty := .array .int) (C := RX1) (T := TX1) (N := 13) hx hb hts i_X1_init_X1 tyX1 tyX1_ok nmX1 hown hK hW.1 hW.2.1 hW.2.2 0 rfl rfl 3 (by decide) (hts (.fieldLink RX1 25 "TreeHashes$Hasher" "chunkChain" "[I") f_X1_init_13) (fun _ h9 => h9) rfl hnm rfl (by decide +kernel) rfl rfl (Nat.le_of_ble_eq_true rfl) dX1_init_36 (fun H locs hP hD hS => ?_)
  have hW : Wd D A s [(h0, .inr (1, [.ref q5, .ref q18, .ref q26, .ref q34, .null, .int (nI (0)), .int (nI (0)), .int (nI (0)), .int (nI (0)), .int (nI (0)), .int (nI (0)), .int (nI (0)), .int (nI (0))])), (q5, .inr (2, [.ref mc_9, .ref mb_9, .long (0), .int (nI (0)), .int (nI (0)), .ref mv_9, .ref aw_9, .ref an_9])), (mc_9, .inl (cy 0, 8, .inl (fun _ => nI 0))), (mb_9, .inl (cy 0, 16, .inl (fun _ => nI 0))), (mv_9, .inl (cy 0, 16, .inl (fun _ => nI 0))), (aw_9, .inl (cy 0, 16, .inl (fun _ => nI 0))), (an_9, .inl (cy 0, 16, .inl (fun _ => nI 0))), (q18, .inl (cy 0, 8, .inl (fun _ => nI 0))), (q26, .inl (cy 0, 40, .inl (fun _ => nI 0))), (q34, .inl (cy 0, 8, .inl (fun _ => nI 0)))] H locs := ⟨hP, hD, hS⟩
  refine lv_aload_n hx hb dX1_init_39 rfl (lv_at hl 0 rfl) ?_
  refine lv_bipush (v := nI (16)) hx hb dX1_init_40 (by decide) ?_
  refine nwA (aty := .int) (ty := .int) (t0 := 0) (N := 16) hx hb (hts (.arrayClass .int) f_X1_init_10) rfl rfl ra_int rfl hK hA hW (by decide) (Nat.le_of_ble_eq_true rfl) (Nat.le_of_ble_eq_true rfl) (Nat.le_of_ble_eq_true rfl) dX1_init_42 (fun q42 H hW => ?_)
  have hW : Wd D A s [(h0, .inr (1, [.ref q5, .ref q18, .ref q26, .ref q34, .null, .int (nI (0)), .int (nI (0)), .int (nI (0)), .int (nI (0)), .int (nI (0)), .int (nI (0)), .int (nI (0)), .int (nI (0))])), (q5, .inr (2, [.ref mc_9, .ref mb_9, .long (0), .int (nI (0)), .int (nI (0)), .ref mv_9, .ref aw_9, .ref an_9])), (mc_9, .inl (cy 0, 8, .inl (fun _ => nI 0))), (mb_9, .inl (cy 0, 16, .inl (fun _ => nI 0))), (mv_9, .inl (cy 0, 16, .inl (fun _ => nI 0))), (aw_9, .inl (cy 0, 16, .inl (fun _ => nI 0))), (an_9, .inl (cy 0, 16, .inl (fun _ => nI 0))), (q18, .inl (cy 0, 8, .inl (fun _ => nI 0))), (q26, .inl (cy 0, 40, .inl (fun _ => nI 0))), (q34, .inl (cy 0, 8, .inl (fun _ => nI 0))), (q42, .inl (cy 0, 16, .inl (fun _ => nI 0)))] _ _ := hW
  refine W.widen (k := 10) (n := 152) (Nat.le_of_ble_eq_true rfl) (Nat.le_of_ble_eq_true rfl) ?_
  refine va_putF (D := D) (ci := 1) (v := .ref q42) (ty := .array .int) (C := RX1) (T := TX1) (N := 13) hx hb hts i_X1_init_X1 tyX1 tyX1_ok nmX1 hown hK hW.1 hW.2.1 hW.2.2 0 rfl rfl 4 (by decide) (hts (.fieldLink RX1 28 "TreeHashes$Hasher" "block" "[I") f_X1_init_14) (fun _ h9 => h9) rfl hnm rfl (by decide +kernel) rfl rfl (Nat.le_of_ble_eq_true rfl) dX1_init_44 (fun H locs hP hD hS => ?_)
  have hW : Wd D A s [(h0, .inr (1, [.ref q5, .ref q18, .ref q26, .ref q34, .ref q42, .int (nI (0)), .int (nI (0)), .int (nI (0)), .int (nI (0)), .int (nI (0)), .int (nI (0)), .int (nI (0)), .int (nI (0))])), (q5, .inr (2, [.ref mc_9, .ref mb_9, .long (0), .int (nI (0)), .int (nI (0)), .ref mv_9, .ref aw_9, .ref an_9])), (mc_9, .inl (cy 0, 8, .inl (fun _ => nI 0))), (mb_9, .inl (cy 0, 16, .inl (fun _ => nI 0))), (mv_9, .inl (cy 0, 16, .inl (fun _ => nI 0))), (aw_9, .inl (cy 0, 16, .inl (fun _ => nI 0))), (an_9, .inl (cy 0, 16, .inl (fun _ => nI 0))), (q18, .inl (cy 0, 8, .inl (fun _ => nI 0))), (q26, .inl (cy 0, 40, .inl (fun _ => nI 0))), (q34, .inl (cy 0, 8, .inl (fun _ => nI 0))), (q42, .inl (cy 0, 16, .inl (fun _ => nI 0)))] H locs := ⟨hP, hD, hS⟩
  refine lv_aload_n hx hb dX1_init_47 rfl (lv_at hl 0 rfl) ?_
  refine lv_iconst (v := nI (0)) hx hb dX1_init_48 (by decide) ?_
  refine lv_iconst (v := nI (0)) hx hb dX1_init_49 (by decide) ?_
  refine va_gets hx hb hst.1.1 hW.2.2 hown (hts (.fieldLink RX1 31 "TreeHashes$Mix" "START" "[I") f_X1_init_15) (fun _ h9 => h9) dX1_init_50 ?_
  refine lv_iconst (v := nI (0)) hx hb dX1_init_53 (by decide) ?_
  refine kVv (As := [.int (nI (0)), .int (nI (0)), .ref t.1, .int (nI (0))]) (rest := []) S0 hK hst hA hW [0, 7, 9, 10] (fun sz => c_X1_restart_s l D cy t q5 h0 q18 q26 q34 q42 (nI (0)) (nI (0)) 0 0 0 0 0 0 (fun _ => nI 0) (fun _ => nI 0) (fun _ => nI 0) (nI (0)) (nI (0)) 0  sz) rfl (by decide) (cwV 4 hts gX1_init_X1_restart rfl rfl rfl (by decide +kernel) ⟨Nat.le_of_ble_eq_true rfl, Nat.le_of_ble_eq_true rfl⟩) (fun _ => rfl) 0 1 rfl rfl rfl hl.1 rfl (Nat.le_of_ble_eq_true rfl) dX1_init_54 ⟨Nat.le_of_ble_eq_true rfl, Nat.le_of_ble_eq_true rfl⟩ (fun u54 H locs p54 hW => ?_)
  have hW : Wd D A s [(h0, .inr (1, [.ref q5, .ref q18, .ref q26, .ref q34, .ref q42, .int ((nI (0))), .int ((nI (0))), .int (nI (0)), .int (nI (0)), .int (nI (0)), .int (nI (0)), .int (nI (0)), .int (nI (0))])), (q5, .inr (2, [.ref mc_9, .ref mb_9, .long (0), .int (nI (0)), .int (nI (0)), .ref mv_9, .ref aw_9, .ref an_9])), (mc_9, .inl (cy 0, 8, .inl (fun _ => nI 0))), (mb_9, .inl (cy 0, 16, .inl (fun _ => nI 0))), (mv_9, .inl (cy 0, 16, .inl (fun _ => nI 0))), (aw_9, .inl (cy 0, 16, .inl (fun _ => nI 0))), (an_9, .inl (cy 0, 16, .inl (fun _ => nI 0))), (q18, .inl (cy 0, 8, .inl (stA))), (q26, .inl (cy 0, 40, .inl (fun _ => nI 0))), (q34, .inl (cy 0, 8, .inl (stA))), (q42, .inl (cy 0, 16, .inl ((fun _ => nI (0)))))] _ _ := hW
  exact eV hQ hx hb hr hlocks hK hW (q5, mc_9, mb_9, mv_9, aw_9, an_9, q18, q26, q34, q42) (trivial) (rfl) dX1_init_57
