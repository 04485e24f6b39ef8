theorem f_X2_turn_0 : Cond.fieldLink RX2 18 "TreeHashes$Mix" "v" "[I" ∈ wsX2_turn := by decide +kernel
theorem i_X2_turn_X2 : ∀ w ∈ wsX20, w ∈ wsX2_turn := by decide +kernel
set_option maxHeartbeats 4000000 in
set_option maxRecDepth 100000 in
theorem c_X2_turn (l : Launch) (D : va_G) (cy : Nat → ClassId) (t : Nat × Nat) (m0 : Nat) (mc : Nat) (mb : Nat) (mv : Nat) (aw : Nat) (an : Nat) (ct : Int64) (ln : Int32) (fl : Int32) (v : Nat → Int32) (ia : Nat) (ib : Nat) (ic : Nat) (id : Nat) (x : Int32) (y : Int32) (ha : ia < 16) (hb0 : ib < 16) (hc : ic < 16) (hd : id < 16) (sz : Nat) : Met l yX2_turn wsX2_turn ({ frames := 0, cells := 0, slots := 0, locals := 0 }) (PcW D cy t [(m0, .inr (2, [.ref mc, .ref mb, .long (ct), .int (ln), .int (fl), .ref mv, .ref aw, .ref an])), (mv, .inl (cy 0, 16, .inl (v)))] [.ref m0, .int (nI (ia)), .int (nI (ib)), .int (nI (ic)), .int (nI (id)), .int (x), .int (y)] sz) (QvA D cy (fun u : Unit => True) (fun u : Unit => [(m0, .inr (2, [.ref mc, .ref mb, .long (ct), .int (ln), .int (fl), .ref mv, .ref aw, .ref an])), (mv, .inl (cy 0, 16, .inl (tn v ia ib ic id x y)))]) (va_A [(m0, .inr (2, [.ref mc, .ref mb, .long (ct), .int (ln), .int (fl), .ref mv, .ref aw, .ref an])), (mv, .inl (cy 0, 16, .inl (v)))] sz)) 0 0 (va_A [(m0, .inr (2, [.ref mc, .ref mb, .long (ct), .int (ln), .int (fl), .ref mv, .ref aw, .ref an])), (mv, .inl (cy 0, 16, .inl (v)))] sz) := by
  refine M_ofW (cc := cX2_turn) (maxL := 11) (ret := none) (by decide) rfl (Nat.le_of_ble_eq_true rfl) ?_
  intro p e s m below meth c A ls args Q hQ S0 hr hlocks hnm hK hst hA hW hl
  have hx := S0.1; have hb := S0.2.1; have hml := S0.2.2.1; have hown := S0.2.2.2.1; have hts := S0.2.2.2.2
  have hl : lv_has ls 11 [(0, .ref m0), (1, .int (nI (ia))), (2, .int (nI (ib))), (3, .int (nI (ic))), (4, .int (nI (id))), (5, .int (x)), (6, .int (y))] := hl
  refine lv_aload_n hx hb dX2_turn_0 rfl (lv_at hl 0 rfl) ?_
  refine va_get (D := D) (ci := 2) (v := .ref mv) (C := RX2) (T := TX2) (N := 8) hx hb hts i_X2_turn_X2 hown hK hW.1 0 rfl rfl 5 (by decide) (hts (.fieldLink RX2 18 "TreeHashes$Mix" "v" "[I") f_X2_turn_0) (fun _ h9 => h9) rfl dX2_turn_1 ?_
  refine lv_iload_n hx hb dX2_turn_4 rfl (lv_at hl 1 rfl) ?_
  refine rI hx hb hK hW 1 rfl (k := ia) (by omega) (by omega) dX2_turn_5 ?_
  refine lv_aload_n hx hb dX2_turn_6 rfl (lv_at hl 0 rfl) ?_
  refine va_get (D := D) (ci := 2) (v := .ref mv) (C := RX2) (T := TX2) (N := 8) hx hb hts i_X2_turn_X2 hown hK hW.1 0 rfl rfl 5 (by decide) (hts (.fieldLink RX2 18 "TreeHashes$Mix" "v" "[I") f_X2_turn_0) (fun _ h9 => h9) rfl dX2_turn_7 ?_
  refine lv_iload_n hx hb dX2_turn_10 rfl (lv_at hl 2 rfl) ?_
  refine rI hx hb hK hW 1 rfl (k := ib) (by omega) (by omega) dX2_turn_11 ?_
  refine lv_iadd hx hb dX2_turn_12 ?_
  refine lv_iload hx hb dX2_turn_13 (lv_at hl 5 rfl) ?_
  refine lv_iadd hx hb dX2_turn_15 ?_
  refine lv_topi (fun va1 e_va1 => ?_)
  refine lv_istore (lv' := [(7, .int (va1)), (0, .ref m0), (1, .int (nI (ia))), (2, .int (nI (ib))), (3, .int (nI (ic))), (4, .int (nI (id))), (5, .int (x)), (6, .int (y))]) hx hb dX2_turn_16 hl (by decide) rfl (fun ls hl => ?_)
  refine lv_aload_n hx hb dX2_turn_18 rfl (lv_at hl 1 rfl) ?_
  refine va_get (D := D) (ci := 2) (v := .ref mv) (C := RX2) (T := TX2) (N := 8) hx hb hts i_X2_turn_X2 hown hK hW.1 0 rfl rfl 5 (by decide) (hts (.fieldLink RX2 18 "TreeHashes$Mix" "v" "[I") f_X2_turn_0) (fun _ h9 => h9) rfl dX2_turn_19 ?_
  refine lv_iload hx hb dX2_turn_22 (lv_at hl 5 rfl) ?_
  refine rI hx hb hK hW 1 rfl (k := id) (by omega) (by omega) dX2_turn_24 ?_
  refine lv_iload hx hb dX2_turn_25 (lv_at hl 0 rfl) ?_
  refine lv_ixor hx hb dX2_turn_27 ?_
  refine lv_topi (fun vd1 e_vd1 => ?_)
  refine lv_istore (lv' := [(8, .int (vd1)), (7, .int (va1)), (0, .ref m0), (1, .int (nI (ia))), (2, .int (nI (ib))), (3, .int (nI (ic))), (4, .int (nI (id))), (5, .int (x)), (6, .int (y))]) hx hb dX2_turn_28 hl (by decide) rfl (fun ls hl => ?_)
  refine lv_iload hx hb dX2_turn_30 (lv_at hl 0 rfl) ?_
  refine lv_bipush (v := nI (16)) hx hb dX2_turn_32 (by decide) ?_
  refine lv_iushr hx hb dX2_turn_34 rfl ?_
  refine lv_iload hx hb dX2_turn_35 (lv_at hl 0 rfl) ?_
  refine lv_bipush (v := nI (16)) hx hb dX2_turn_37 (by decide) ?_
  refine lv_ishl hx hb dX2_turn_39 ?_
  refine lv_ior hx hb dX2_turn_40 ?_
  refine lv_topi (fun vd2 e_vd2 => ?_)
  refine lv_istore (lv' := [(8, .int (vd2)), (7, .int (va1)), (0, .ref m0), (1, .int (nI (ia))), (2, .int (nI (ib))), (3, .int (nI (ic))), (4, .int (nI (id))), (5, .int (x)), (6, .int (y))]) hx hb dX2_turn_41 hl (by decide) rfl (fun ls hl => ?_)
  refine lv_aload_n hx hb dX2_turn_43 rfl (lv_at hl 2 rfl) ?_
  refine va_get (D := D) (ci := 2) (v := .ref mv) (C := RX2) (T := TX2) (N := 8) hx hb hts i_X2_turn_X2 hown hK hW.1 0 rfl rfl 5 (by decide) (hts (.fieldLink RX2 18 "TreeHashes$Mix" "v" "[I") f_X2_turn_0) (fun _ h9 => h9) rfl dX2_turn_44 ?_
  refine lv_iload_n hx hb dX2_turn_47 rfl (lv_at hl 5 rfl) ?_
  refine rI hx hb hK hW 1 rfl (k := ic) (by omega) (by omega) dX2_turn_48 ?_
  refine lv_iload hx hb dX2_turn_49 (lv_at hl 0 rfl) ?_
  refine lv_iadd hx hb dX2_turn_51 ?_
  refine lv_topi (fun vc1 e_vc1 => ?_)
  refine lv_istore (lv' := [(9, .int (vc1)), (8, .int (vd2)), (7, .int (va1)), (0, .ref m0), (1, .int (nI (ia))), (2, .int (nI (ib))), (3, .int (nI (ic))), (4, .int (nI (id))), (5, .int (x)), (6, .int (y))]) hx hb dX2_turn_52 hl (by decide) rfl (fun ls hl => ?_)
  refine lv_aload_n hx hb dX2_turn_54 rfl (lv_at hl 3 rfl) ?_
  refine va_get (D := D) (ci := 2) (v := .ref mv) (C := RX2) (T := TX2) (N := 8) hx hb hts i_X2_turn_X2 hown hK hW.1 0 rfl rfl 5 (by decide) (hts (.fieldLink RX2 18 "TreeHashes$Mix" "v" "[I") f_X2_turn_0) (fun _ h9 => h9) rfl dX2_turn_55 ?_
  refine lv_iload_n hx hb dX2_turn_58 rfl (lv_at hl 5 rfl) ?_
  refine rI hx hb hK hW 1 rfl (k := ib) (by omega) (by omega) dX2_turn_59 ?_
  refine lv_iload hx hb dX2_turn_60 (lv_at hl 0 rfl) ?_
  refine lv_ixor hx hb dX2_turn_62 ?_
  refine lv_topi (fun vb1 e_vb1 => ?_)
  refine lv_istore (lv' := [(10, .int (vb1)), (9, .int (vc1)), (8, .int (vd2)), (7, .int (va1)), (0, .ref m0), (1, .int (nI (ia))), (2, .int (nI (ib))), (3, .int (nI (ic))), (4, .int (nI (id))), (5, .int (x)), (6, .int (y))]) hx hb dX2_turn_63 hl (by decide) rfl (fun ls hl => ?_)
  refine lv_iload hx hb dX2_turn_65 (lv_at hl 0 rfl) ?_
  refine lv_bipush (v := nI (12)) hx hb dX2_turn_67 (by decide) ?_
  refine lv_iushr hx hb dX2_turn_69 rfl ?_
  refine lv_iload hx hb dX2_turn_70 (lv_at hl 0 rfl) ?_
  refine lv_bipush (v := nI (20)) hx hb dX2_turn_72 (by decide) ?_
  refine lv_ishl hx hb dX2_turn_74 ?_
  refine lv_ior hx hb dX2_turn_75 ?_
  refine lv_topi (fun vb2 e_vb2 => ?_)
  refine lv_istore (lv' := [(10, .int (vb2)), (9, .int (vc1)), (8, .int (vd2)), (7, .int (va1)), (0, .ref m0), (1, .int (nI (ia))), (2, .int (nI (ib))), (3, .int (nI (ic))), (4, .int (nI (id))), (5, .int (x)), (6, .int (y))]) hx hb dX2_turn_76 hl (by decide) rfl (fun ls hl => ?_)
  refine lv_iload hx hb dX2_turn_78 (lv_at hl 3 rfl) ?_
  refine lv_iload hx hb dX2_turn_80 (lv_at hl 0 rfl) ?_
  refine lv_iload hx hb dX2_turn_82 (lv_at hl 10 rfl) ?_
  refine lv_iadd hx hb dX2_turn_84 ?_
  refine lv_iadd hx hb dX2_turn_85 ?_
  refine lv_topi (fun va2 e_va2 => ?_)
  refine lv_istore (lv' := [(7, .int (va2)), (10, .int (vb2)), (9, .int (vc1)), (8, .int (vd2)), (0, .ref m0), (1, .int (nI (ia))), (2, .int (nI (ib))), (3, .int (nI (ic))), (4, .int (nI (id))), (5, .int (x)), (6, .int (y))]) hx hb dX2_turn_86 hl (by decide) rfl (fun ls hl => ?_)
  refine lv_iload hx hb dX2_turn_88 (lv_at hl 3 rfl) ?_
  refine lv_iload hx hb dX2_turn_90 (lv_at hl 0 rfl) ?_
  refine lv_ixor hx hb dX2_turn_92 ?_
  refine lv_topi (fun vd3 e_vd3 => ?_)
  refine lv_istore (lv' := [(8, .int (vd3)), (7, .int (va2)), (10, .int (vb2)), (9, .int (vc1)), (0, .ref m0), (1, .int (nI (ia))), (2, .int (nI (ib))), (3, .int (nI (ic))), (4, .int (nI (id))), (5, .int (x)), (6, .int (y))]) hx hb dX2_turn_93 hl (by decide) rfl (fun ls hl => ?_)
  refine lv_iload hx hb dX2_turn_95 (lv_at hl 0 rfl) ?_
  refine lv_bipush (v := nI (8)) hx hb dX2_turn_97 (by decide) ?_
  refine lv_iushr hx hb dX2_turn_99 rfl ?_
  refine lv_iload hx hb dX2_turn_100 (lv_at hl 0 rfl) ?_
  refine lv_bipush (v := nI (24)) hx hb dX2_turn_102 (by decide) ?_
  refine lv_ishl hx hb dX2_turn_104 ?_
  refine lv_ior hx hb dX2_turn_105 ?_
  refine lv_topi (fun vd4 e_vd4 => ?_)
  refine lv_istore (lv' := [(8, .int (vd4)), (7, .int (va2)), (10, .int (vb2)), (9, .int (vc1)), (0, .ref m0), (1, .int (nI (ia))), (2, .int (nI (ib))), (3, .int (nI (ic))), (4, .int (nI (id))), (5, .int (x)), (6, .int (y))]) hx hb dX2_turn_106 hl (by decide) rfl (fun ls hl => ?_)
  refine lv_iload hx hb dX2_turn_108 (lv_at hl 3 rfl) ?_
  refine lv_iload hx hb dX2_turn_110 (lv_at hl 0 rfl) ?_
  refine lv_iadd hx hb dX2_turn_112 ?_
  refine lv_topi (fun vc2 e_vc2 => ?_)
  refine lv_istore (lv' := [(9, .int (vc2)), (8, .int (vd4)), (7, .int (va2)), (10, .int (vb2)), (0, .ref m0), (1, .int (nI (ia))), (2, .int (nI (ib))), (3, .int (nI (ic))), (4, .int (nI (id))), (5, .int (x)), (6, .int (y))]) hx hb dX2_turn_113 hl (by decide) rfl (fun ls hl => ?_)
  refine lv_iload hx hb dX2_turn_115 (lv_at hl 3 rfl) ?_
  refine lv_iload hx hb dX2_turn_117 (lv_at hl 0 rfl) ?_
  refine lv_ixor hx hb dX2_turn_119 ?_
  refine lv_topi (fun vb3 e_vb3 => ?_)
  refine lv_istore (lv' := [(10, .int (vb3)), (9, .int (vc2)), (8, .int (vd4)), (7, .int (va2)), (0, .ref m0), (1, .int (nI (ia))), (2, .int (nI (ib))), (3, .int (nI (ic))), (4, .int (nI (id))), (5, .int (x)), (6, .int (y))]) hx hb dX2_turn_120 hl (by decide) rfl (fun ls hl => ?_)
  refine lv_iload hx hb dX2_turn_122 (lv_at hl 0 rfl) ?_
  refine lv_bipush (v := nI (7)) hx hb dX2_turn_124 (by decide) ?_
  refine lv_iushr hx hb dX2_turn_126 rfl ?_
  refine lv_iload hx hb dX2_turn_127 (lv_at hl 0 rfl) ?_
  refine lv_bipush (v := nI (25)) hx hb dX2_turn_129 (by decide) ?_
  refine lv_ishl hx hb dX2_turn_131 ?_
  refine lv_ior hx hb dX2_turn_132 ?_
  refine lv_topi (fun vb4 e_vb4 => ?_)
  refine lv_istore (lv' := [(10, .int (vb4)), (9, .int (vc2)), (8, .int (vd4)), (7, .int (va2)), (0, .ref m0), (1, .int (nI (ia))), (2, .int (nI (ib))), (3, .int (nI (ic))), (4, .int (nI (id))), (5, .int (x)), (6, .int (y))]) hx hb dX2_turn_133 hl (by decide) rfl (fun ls hl => ?_)
  refine lv_aload_n hx hb dX2_turn_135 rfl (lv_at hl 4 rfl) ?_
  refine va_get (D := D) (ci := 2) (v := .ref mv) (C := RX2) (T := TX2) (N := 8) hx hb hts i_X2_turn_X2 hown hK hW.1 0 rfl rfl 5 (by decide) (hts (.fieldLink RX2 18 "TreeHashes$Mix" "v" "[I") f_X2_turn_0) (fun _ h9 => h9) rfl dX2_turn_136 ?_
  refine lv_iload_n hx hb dX2_turn_139 rfl (lv_at hl 5 rfl) ?_
  refine lv_iload hx hb dX2_turn_140 (lv_at hl 3 rfl) ?_
  refine wI hx hb hK hW 1 rfl (k := ia) (by omega) (by omega) dX2_turn_142 (fun H locs hW => ?_)
  have hW : Wd D A s [(m0, .inr (2, [.ref mc, .ref mb, .long (ct), .int (ln), .int (fl), .ref mv, .ref aw, .ref an])), (mv, .inl (cy 0, 16, .inl (upd v ia va2)))] H locs := hW
  refine lv_aload_n hx hb dX2_turn_143 rfl (lv_at hl 4 rfl) ?_
  refine va_get (D := D) (ci := 2) (v := .ref mv) (C := RX2) (T := TX2) (N := 8) hx hb hts i_X2_turn_X2 hown hK hW.1 0 rfl rfl 5 (by decide) (hts (.fieldLink RX2 18 "TreeHashes$Mix" "v" "[I") f_X2_turn_0) (fun _ h9 => h9) rfl dX2_turn_144 ?_
  refine lv_iload_n hx hb dX2_turn_147 rfl (lv_at hl 6 rfl) ?_
  refine lv_iload hx hb dX2_turn_148 (lv_at hl 0 rfl) ?_
  refine wI hx hb hK hW 1 rfl (k := ib) (by omega) (by omega) dX2_turn_150 (fun H locs hW => ?_)
  have hW : Wd D A s [(m0, .inr (2, [.ref mc, .ref mb, .long (ct), .int (ln), .int (fl), .ref mv, .ref aw, .ref an])), (mv, .inl (cy 0, 16, .inl (upd (upd v ia va2) ib vb4)))] H locs := hW
  refine lv_aload_n hx hb dX2_turn_151 rfl (lv_at hl 4 rfl) ?_
  refine va_get (D := D) (ci := 2) (v := .ref mv) (C := RX2) (T := TX2) (N := 8) hx hb hts i_X2_turn_X2 hown hK hW.1 0 rfl rfl 5 (by decide) (hts (.fieldLink RX2 18 "TreeHashes$Mix" "v" "[I") f_X2_turn_0) (fun _ h9 => h9) rfl dX2_turn_152 ?_
  refine lv_iload_n hx hb dX2_turn_155 rfl (lv_at hl 7 rfl) ?_
  refine lv_iload hx hb dX2_turn_156 (lv_at hl 1 rfl) ?_
  refine wI hx hb hK hW 1 rfl (k := ic) (by omega) (by omega) dX2_turn_158 (fun H locs hW => ?_)
  have hW : Wd D A s [(m0, .inr (2, [.ref mc, .ref mb, .long (ct), .int (ln), .int (fl), .ref mv, .ref aw, .ref an])), (mv, .inl (cy 0, 16, .inl (upd (upd (upd v ia va2) ib vb4) ic vc2)))] H locs := hW
  refine lv_aload_n hx hb dX2_turn_159 rfl (lv_at hl 4 rfl) ?_
  refine va_get (D := D) (ci := 2) (v := .ref mv) (C := RX2) (T := TX2) (N := 8) hx hb hts i_X2_turn_X2 hown hK hW.1 0 rfl rfl 5 (by decide) (hts (.fieldLink RX2 18 "TreeHashes$Mix" "v" "[I") f_X2_turn_0) (fun _ h9 => h9) rfl dX2_turn_160 ?_
  refine lv_iload hx hb dX2_turn_163 (lv_at hl 8 rfl) ?_
  refine lv_iload hx hb dX2_turn_165 (lv_at hl 2 rfl) ?_
  refine wI hx hb hK hW 1 rfl (k := id) (by omega) (by omega) dX2_turn_167 (fun H locs hW => ?_)
  have hW : Wd D A s [(m0, .inr (2, [.ref mc, .ref mb, .long (ct), .int (ln), .int (fl), .ref mv, .ref aw, .ref an])), (mv, .inl (cy 0, 16, .inl (upd (upd (upd (upd v ia va2) ib vb4) ic vc2) id vd4)))] H locs := hW
  exact eV hQ hx hb hr hlocks hK hW () (trivial) (by subst_vars; rfl) dX2_turn_168

theorem f_X2_reorder_0 : Cond.fieldLink RX2 21 "TreeHashes$Mix" "w" "[I" ∈ wsX2_reorder := by decide +kernel
theorem i_X2_reorder_X2 : ∀ w ∈ wsX20, w ∈ wsX2_reorder := by decide +kernel
theorem f_X2_reorder_2 : Cond.fieldLink RX2 24 "TreeHashes$Mix" "nextW" "[I" ∈ wsX2_reorder := by decide +kernel
theorem f_X2_reorder_3 : Cond.fieldLink RX2 83 "TreeHashes$Mix" "ORDER" "[I" ∈ wsX2_reorder := by decide +kernel
set_option maxHeartbeats 4000000 in
set_option maxRecDepth 100000 in
theorem c_X2_reorder (l : Launch) (D : va_G) (cy : Nat → ClassId) (t : Nat × Nat) (m0 : Nat) (mc : Nat) (mb : Nat) (mv : Nat) (aw : Nat) (an : Nat) (ct : Int64) (ln : Int32) (fl : Int32) (w : Nat → Int32) (nw : Nat → Int32)  (sz : Nat) : Met l yX2_reorder wsX2_reorder ({ frames := 0, cells := 0, slots := 0, locals := 0 }) (PcW D cy t [(m0, .inr (2, [.ref mc, .ref mb, .long (ct), .int (ln), .int (fl), .ref mv, .ref aw, .ref an])), (aw, .inl (cy 0, 16, .inl (w))), (an, .inl (cy 0, 16, .inl (nw)))] [.ref m0] sz) (QvA D cy (fun u : Unit => True) (fun u : Unit => [(m0, .inr (2, [.ref mc, .ref mb, .long (ct), .int (ln), .int (fl), .ref mv, .ref an, .ref aw])), (an, .inl (cy 0, 16, .inl (fun k => w (orN k)))), (aw, .inl (cy 0, 16, .inl (w)))]) (va_A [(m0, .inr (2, [.ref mc, .ref mb, .long (ct), .int (ln), .int (fl), .ref mv, .ref aw, .ref an])), (aw, .inl (cy 0, 16, .inl (w))), (an, .inl (cy 0, 16, .inl (nw)))] sz)) 0 0 (va_A [(m0, .inr (2, [.ref mc, .ref mb, .long (ct), .int (ln), .int (fl), .ref mv, .ref aw, .ref an])), (aw, .inl (cy 0, 16, .inl (w))), (an, .inl (cy 0, 16, .inl (nw)))] sz) := by
  refine M_ofW (cc := cX2_reorder) (maxL := 2) (ret := none) (by decide) rfl (Nat.le_of_ble_eq_true rfl) ?_
  intro p e s m below meth c A ls args Q hQ S0 hr hlocks hnm hK hst hA hW hl
  have hx := S0.1; have hb := S0.2.1; have hml := S0.2.2.1; have hown := S0.2.2.2.1; have hts := S0.2.2.2.2
  have hl : lv_has ls 2 [(0, .ref m0)] := hl
  refine lv_iconst (v := nI (0)) hx hb dX2_reorder_0 (by decide) ?_
  refine lv_istore_n (lv' := [(1, .int (nI (0))), (0, .ref m0)]) hx hb dX2_reorder_1 rfl hl (by decide) rfl (fun ls hl => ?_)
  have loop2 : ∀ (nF : Nat) (i : Nat), 16 - i < nF → (i ≤ 16) → ∀ (H : Heap) (locs : List Loc), Wd D A s [(m0, .inr (2, [.ref mc, .ref mb, .long (ct), .int (ln), .int (fl), .ref mv, .ref aw, .ref an])), (aw, .inl (cy 0, 16, .inl (w))), (an, .inl (cy 0, 16, .inl (apG nw 0 (fun k => w (orN k)) i)))] H locs → ∀ ls : Array Slot, lv_has ls 2 [(0, .ref m0), (1, .int (nI (i)))] → W p l e ({ frames := 0, cells := 0, slots := 0, locals := 0 }) s m args below meth c H locs 0 0 Q (F0 m 2 ls []) := by
    intro nF
    induction nF with
    | zero => intro i hf; exact absurd hf (Nat.not_lt_zero _)
    | succ nF ih2 =>
      intro i hf hi H locs hW ls hl
      refine lv_iload_n hx hb dX2_reorder_2 rfl (lv_at hl 1 rfl) ?_
      refine lv_bipush (v := nI (16)) hx hb dX2_reorder_3 (by decide) ?_
      refine iGe (a := i) (b := 16) (tgt := 30) hx hb dX2_reorder_5 (by decide) (by omega) (by omega) (fun h5 => ?_) (fun h5 => ?_)
      · skip
        refine lv_aload_n hx hb dX2_reorder_30 rfl (lv_at hl 0 rfl) ?_
        refine va_get (D := D) (ci := 2) (v := .ref aw) (C := RX2) (T := TX2) (N := 8) hx hb hts i_X2_reorder_X2 hown hK hW.1 0 rfl rfl 6 (by decide) (hts (.fieldLink RX2 21 "TreeHashes$Mix" "w" "[I") f_X2_reorder_0) (fun _ h9 => h9) rfl dX2_reorder_31 ?_
        refine lv_astore_n (lv' := [(1, .ref aw), (0, .ref m0)]) hx hb dX2_reorder_34 rfl hl (by decide) rfl (fun ls hl => ?_)
        refine lv_aload_n hx hb dX2_reorder_35 rfl (lv_at hl 1 rfl) ?_
        refine lv_aload_n hx hb dX2_reorder_36 rfl (lv_at hl 1 rfl) ?_
        refine va_get (D := D) (ci := 2) (v := .ref an) (C := RX2) (T := TX2) (N := 8) hx hb hts i_X2_reorder_X2 hown hK hW.1 0 rfl rfl 7 (by decide) (hts (.fieldLink RX2 24 "TreeHashes$Mix" "nextW" "[I") f_X2_reorder_2) (fun _ h9 => h9) rfl dX2_reorder_37 ?_
        refine va_put (D := D) (ci := 2) (v := .ref an) (ty := .array .int) (C := RX2) (T := TX2) (N := 8) hx hb hts i_X2_reorder_X2 tyX2 tyX2_ok nmX2 hown hK hW.1 hW.2.1 hW.2.2 0 rfl rfl 6 (by decide) (hts (.fieldLink RX2 21 "TreeHashes$Mix" "w" "[I") f_X2_reorder_0) (fun _ h9 => h9) rfl (by decide +kernel) rfl rfl (Nat.le_of_ble_eq_true rfl) dX2_reorder_40 (fun H locs hP hD hS => ?_)
        have hW : Wd D A s [(m0, .inr (2, [.ref mc, .ref mb, .long (ct), .int (ln), .int (fl), .ref mv, .ref an, .ref an])), (aw, .inl (cy 0, 16, .inl (w))), (an, .inl (cy 0, 16, .inl (apG nw 0 (fun k => w (orN k)) i)))] H locs := ⟨hP, hD, hS⟩
        refine lv_aload_n hx hb dX2_reorder_43 rfl (lv_at hl 1 rfl) ?_
        refine lv_aload_n hx hb dX2_reorder_44 rfl (lv_at hl 0 rfl) ?_
        refine va_put (D := D) (ci := 2) (v := .ref aw) (ty := .array .int) (C := RX2) (T := TX2) (N := 8) hx hb hts i_X2_reorder_X2 tyX2 tyX2_ok nmX2 hown hK hW.1 hW.2.1 hW.2.2 0 rfl rfl 7 (by decide) (hts (.fieldLink RX2 24 "TreeHashes$Mix" "nextW" "[I") f_X2_reorder_2) (fun _ h9 => h9) rfl (by decide +kernel) rfl rfl (Nat.le_of_ble_eq_true rfl) dX2_reorder_45 (fun H locs hP hD hS => ?_)
        have hW : Wd D A s [(m0, .inr (2, [.ref mc, .ref mb, .long (ct), .int (ln), .int (fl), .ref mv, .ref an, .ref aw])), (aw, .inl (cy 0, 16, .inl (w))), (an, .inl (cy 0, 16, .inl (apG nw 0 (fun k => w (orN k)) i)))] H locs := ⟨hP, hD, hS⟩
        have e9 : i = 16 := by omega
        try rw [e9] at hW
        have hW := Wd.ext hW 2 rfl (fun k => w (orN k)) apG_all
        have hW := Wd.sub (ws' := [(m0, .inr (2, [.ref mc, .ref mb, .long (ct), .int (ln), .int (fl), .ref mv, .ref an, .ref aw])), (an, .inl (cy 0, 16, .inl (fun k => w (orN k)))), (aw, .inl (cy 0, 16, .inl (w)))]) hW [0, 2, 1] (by decide) rfl
        exact eV hQ hx hb hr hlocks hK hW () (trivial) (rfl) dX2_reorder_48
      · skip
        refine lv_aload_n hx hb dX2_reorder_8 rfl (lv_at hl 0 rfl) ?_
        refine va_get (D := D) (ci := 2) (v := .ref an) (C := RX2) (T := TX2) (N := 8) hx hb hts i_X2_reorder_X2 hown hK hW.1 0 rfl rfl 7 (by decide) (hts (.fieldLink RX2 24 "TreeHashes$Mix" "nextW" "[I") f_X2_reorder_2) (fun _ h9 => h9) rfl dX2_reorder_9 ?_
        refine lv_iload_n hx hb dX2_reorder_12 rfl (lv_at hl 1 rfl) ?_
        refine lv_aload_n hx hb dX2_reorder_13 rfl (lv_at hl 0 rfl) ?_
        refine va_get (D := D) (ci := 2) (v := .ref aw) (C := RX2) (T := TX2) (N := 8) hx hb hts i_X2_reorder_X2 hown hK hW.1 0 rfl rfl 6 (by decide) (hts (.fieldLink RX2 21 "TreeHashes$Mix" "w" "[I") f_X2_reorder_0) (fun _ h9 => h9) rfl dX2_reorder_14 ?_
        refine va_gets hx hb hst.2.1.1 hW.2.2 hown (hts (.fieldLink RX2 83 "TreeHashes$Mix" "ORDER" "[I") f_X2_reorder_3) (fun _ h9 => h9) dX2_reorder_17 ?_
        refine lv_iload_n hx hb dX2_reorder_20 rfl (lv_at hl 1 rfl) ?_
        refine rS (g := (fun k => nI (orN k))) hx hb hst.2.1.2 hW (k := i) (n := 16) (by omega) (by decide) dX2_reorder_21 ?_
        refine rI hx hb hK hW 1 rfl (k := orN i) (orN_lt _) (by omega) dX2_reorder_22 ?_
        refine wI hx hb hK hW 2 rfl (k := i) (by omega) (by omega) dX2_reorder_23 (fun H locs hW => ?_)
        have hW : Wd D A s [(m0, .inr (2, [.ref mc, .ref mb, .long (ct), .int (ln), .int (fl), .ref mv, .ref aw, .ref an])), (aw, .inl (cy 0, 16, .inl (w))), (an, .inl (cy 0, 16, .inl (upd (apG nw 0 (fun k => w (orN k)) i) i (w (orN i)))))] H locs := hW
        rw [show (upd (apG nw 0 (fun k => w (orN k)) i) i (w (orN i))) = (apG nw 0 (fun k => w (orN k)) (i + 1)) from by rw [← apG_s nw 0 (fun k => w (orN k)) i, Nat.zero_add]] at hW
        have hW : Wd D A s [(m0, .inr (2, [.ref mc, .ref mb, .long (ct), .int (ln), .int (fl), .ref mv, .ref aw, .ref an])), (aw, .inl (cy 0, 16, .inl (w))), (an, .inl (cy 0, 16, .inl (apG nw 0 (fun k => w (orN k)) (i + 1))))] H locs := hW
        refine lv_iinc (v := nI (i + 1)) (lv' := [(1, .int (nI (i + 1))), (0, .ref m0)]) hx hb dX2_reorder_24 hl (k := 1) rfl (nI_1 _) (by decide) rfl (fun ls hl => ?_)
        refine lv_goto (tgt := 2) hx hb dX2_reorder_27 (by decide) ?_
        exact ih2 (i + 1) (by omega) (by omega) _ _ hW _ (lv_sub hl [1, 0] rfl)
  rw [← apG_0 nw 0 (fun k => w (orN k))] at hW
  exact loop2 _ 0 (Nat.lt_succ_self _) (by omega) _ _ hW _ (lv_sub hl [1, 0] rfl)

theorem f_X2_fillIn_0 : Cond.fieldLink RX2 18 "TreeHashes$Mix" "v" "[I" ∈ wsX2_fillIn := by decide +kernel
theorem i_X2_fillIn_X2 : ∀ w ∈ wsX20, w ∈ wsX2_fillIn := by decide +kernel
theorem f_X2_fillIn_2 : Cond.fieldLink RX2 27 "TreeHashes$Mix" "count" "J" ∈ wsX2_fillIn := by decide +kernel
theorem f_X2_fillIn_3 : Cond.fieldLink RX2 31 "TreeHashes$Mix" "length" "I" ∈ wsX2_fillIn := by decide +kernel
theorem f_X2_fillIn_4 : Cond.fieldLink RX2 35 "TreeHashes$Mix" "flags" "I" ∈ wsX2_fillIn := by decide +kernel
theorem f_X2_fillIn_5 : Cond.fieldLink RX2 21 "TreeHashes$Mix" "w" "[I" ∈ wsX2_fillIn := by decide +kernel
theorem f_X2_fillIn_6 : Cond.fieldLink RX2 15 "TreeHashes$Mix" "block" "[I" ∈ wsX2_fillIn := by decide +kernel
theorem f_X2_fillIn_7 : Cond.fieldLink RX2 80 "TreeHashes$Mix" "START" "[I" ∈ wsX2_fillIn := by decide +kernel
theorem f_X2_fillIn_8 : Cond.fieldLink RX2 9 "TreeHashes$Mix" "chain" "[I" ∈ wsX2_fillIn := by decide +kernel
set_option maxHeartbeats 4000000 in
set_option maxRecDepth 100000 in
theorem c_X2_fillIn (l : Launch) (D : va_G) (cy : Nat → ClassId) (t : Nat × Nat) (m0 : Nat) (mc : Nat) (mb : Nat) (mv : Nat) (aw : Nat) (an : Nat) (ct : Int64) (ln : Int32) (fl : Int32) (ch : Nat → Int32) (bl : Nat → Int32) (v : Nat → Int32) (w : Nat → Int32)  (sz : Nat) : Met l yX2_fillIn wsX2_fillIn ({ frames := 0, cells := 0, slots := 0, locals := 0 }) (PcW D cy t [(m0, .inr (2, [.ref mc, .ref mb, .long (ct), .int (ln), .int (fl), .ref mv, .ref aw, .ref an])), (mc, .inl (cy 0, 8, .inl (ch))), (mb, .inl (cy 0, 16, .inl (bl))), (mv, .inl (cy 0, 16, .inl (v))), (aw, .inl (cy 0, 16, .inl (w)))] [.ref m0] sz) (QvA D cy (fun u : Unit => True) (fun u : Unit => [(m0, .inr (2, [.ref mc, .ref mb, .long (ct), .int (ln), .int (fl), .ref mv, .ref aw, .ref an])), (mc, .inl (cy 0, 8, .inl (ch))), (mb, .inl (cy 0, 16, .inl (bl))), (mv, .inl (cy 0, 16, .inl (vin ch ct ln fl))), (aw, .inl (cy 0, 16, .inl (bl)))]) (va_A [(m0, .inr (2, [.ref mc, .ref mb, .long (ct), .int (ln), .int (fl), .ref mv, .ref aw, .ref an])), (mc, .inl (cy 0, 8, .inl (ch))), (mb, .inl (cy 0, 16, .inl (bl))), (mv, .inl (cy 0, 16, .inl (v))), (aw, .inl (cy 0, 16, .inl (w)))] sz)) 0 0 (va_A [(m0, .inr (2, [.ref mc, .ref mb, .long (ct), .int (ln), .int (fl), .ref mv, .ref aw, .ref an])), (mc, .inl (cy 0, 8, .inl (ch))), (mb, .inl (cy 0, 16, .inl (bl))), (mv, .inl (cy 0, 16, .inl (v))), (aw, .inl (cy 0, 16, .inl (w)))] sz) := by
  refine M_ofW (cc := cX2_fillIn) (maxL := 2) (ret := none) (by decide) rfl (Nat.le_of_ble_eq_true rfl) ?_
  intro p e s m below meth c A ls args Q hQ S0 hr hlocks hnm hK hst hA hW hl
  have hx := S0.1; have hb := S0.2.1; have hml := S0.2.2.1; have hown := S0.2.2.2.1; have hts := S0.2.2.2.2
  have hl : lv_has ls 2 [(0, .ref m0)] := hl
  refine lv_iconst (v := nI (0)) hx hb dX2_fillIn_0 (by decide) ?_
  refine lv_istore_n (lv' := [(1, .int (nI (0))), (0, .ref m0)]) hx hb dX2_fillIn_1 rfl hl (by decide) rfl (fun ls hl => ?_)
  have loop2 : ∀ (nF : Nat) (i : Nat), 8 - i < nF → (i ≤ 8) → ∀ (H : Heap) (locs : List Loc), Wd D A s [(m0, .inr (2, [.ref mc, .ref mb, .long (ct), .int (ln), .int (fl), .ref mv, .ref aw, .ref an])), (mc, .inl (cy 0, 8, .inl (ch))), (mb, .inl (cy 0, 16, .inl (bl))), (mv, .inl (cy 0, 16, .inl (apG v 0 ch i))), (aw, .inl (cy 0, 16, .inl (w)))] H locs → ∀ ls : Array Slot, lv_has ls 2 [(0, .ref m0), (1, .int (nI (i)))] → W p l e ({ frames := 0, cells := 0, slots := 0, locals := 0 }) s m args below meth c H locs 0 0 Q (F0 m 2 ls []) := by
    intro nF
    induction nF with
    | zero => intro i hf; exact absurd hf (Nat.not_lt_zero _)
    | succ nF ih2 =>
      intro i hf hi H locs hW ls hl
      refine lv_iload_n hx hb dX2_fillIn_2 rfl (lv_at hl 1 rfl) ?_
      refine lv_bipush (v := nI (8)) hx hb dX2_fillIn_3 (by decide) ?_
      refine iGe (a := i) (b := 8) (tgt := 26) hx hb dX2_fillIn_5 (by decide) (by omega) (by omega) (fun h5 => ?_) (fun h5 => ?_)
      · skip
        refine lv_iconst (v := nI (0)) hx hb dX2_fillIn_26 (by decide) ?_
        refine lv_istore_n (lv' := [(1, .int (nI (0))), (0, .ref m0)]) hx hb dX2_fillIn_27 rfl hl (by decide) rfl (fun ls hl => ?_)
        have e9 : i = 8 := by omega
        try rw [e9] at hW
        have loop28 : ∀ (nF : Nat) (i2 : Nat), 4 - i2 < nF → (i2 ≤ 4) → ∀ (H : Heap) (locs : List Loc), Wd D A s [(m0, .inr (2, [.ref mc, .ref mb, .long (ct), .int (ln), .int (fl), .ref mv, .ref aw, .ref an])), (mc, .inl (cy 0, 8, .inl (ch))), (mb, .inl (cy 0, 16, .inl (bl))), (mv, .inl (cy 0, 16, .inl (apG (apG v 0 ch 8) 8 stA i2))), (aw, .inl (cy 0, 16, .inl (w)))] H locs → ∀ ls : Array Slot, lv_has ls 2 [(0, .ref m0), (1, .int (nI (i2)))] → W p l e ({ frames := 0, cells := 0, slots := 0, locals := 0 }) s m args below meth c H locs 0 0 Q (F0 m 28 ls []) := by
          intro nF
          induction nF with
          | zero => intro i2 hf; exact absurd hf (Nat.not_lt_zero _)
          | succ nF ih28 =>
            intro i2 hf hi2 H locs hW ls hl
            refine lv_iload_n hx hb dX2_fillIn_28 rfl (lv_at hl 1 rfl) ?_
            refine lv_iconst (v := nI (4)) hx hb dX2_fillIn_29 (by decide) ?_
            refine iGe (a := i2) (b := 4) (tgt := 53) hx hb dX2_fillIn_30 (by decide) (by omega) (by omega) (fun h30 => ?_) (fun h30 => ?_)
            · skip
              have e9 : i2 = 4 := by omega
              try rw [e9] at hW
              refine lv_aload_n hx hb dX2_fillIn_53 rfl (lv_at hl 0 rfl) ?_
              refine va_get (D := D) (ci := 2) (v := .ref mv) (C := RX2) (T := TX2) (N := 8) hx hb hts i_X2_fillIn_X2 hown hK hW.1 0 rfl rfl 5 (by decide) (hts (.fieldLink RX2 18 "TreeHashes$Mix" "v" "[I") f_X2_fillIn_0) (fun _ h9 => h9) rfl dX2_fillIn_54 ?_
              refine lv_bipush (v := nI (12)) hx hb dX2_fillIn_57 (by decide) ?_
              refine lv_aload_n hx hb dX2_fillIn_59 rfl (lv_at hl 0 rfl) ?_
              refine va_get (D := D) (ci := 2) (v := .long (ct)) (C := RX2) (T := TX2) (N := 8) hx hb hts i_X2_fillIn_X2 hown hK hW.1 0 rfl rfl 2 (by decide) (hts (.fieldLink RX2 27 "TreeHashes$Mix" "count" "J") f_X2_fillIn_2) (fun _ h9 => h9) rfl dX2_fillIn_60 ?_
              refine lv_l2i hx hb dX2_fillIn_63 rfl ?_
              refine wI hx hb hK hW 3 rfl (k := 12) (by omega) (by omega) dX2_fillIn_64 (fun H locs hW => ?_)
              have hW : Wd D A s [(m0, .inr (2, [.ref mc, .ref mb, .long (ct), .int (ln), .int (fl), .ref mv, .ref aw, .ref an])), (mc, .inl (cy 0, 8, .inl (ch))), (mb, .inl (cy 0, 16, .inl (bl))), (mv, .inl (cy 0, 16, .inl (upd (apG (apG v 0 ch 8) 8 stA 4) 12 ct.toInt32))), (aw, .inl (cy 0, 16, .inl (w)))] H locs := hW
              refine lv_aload_n hx hb dX2_fillIn_65 rfl (lv_at hl 0 rfl) ?_
              refine va_get (D := D) (ci := 2) (v := .ref mv) (C := RX2) (T := TX2) (N := 8) hx hb hts i_X2_fillIn_X2 hown hK hW.1 0 rfl rfl 5 (by decide) (hts (.fieldLink RX2 18 "TreeHashes$Mix" "v" "[I") f_X2_fillIn_0) (fun _ h9 => h9) rfl dX2_fillIn_66 ?_
              refine lv_bipush (v := nI (13)) hx hb dX2_fillIn_69 (by decide) ?_
              refine lv_aload_n hx hb dX2_fillIn_71 rfl (lv_at hl 0 rfl) ?_
              refine va_get (D := D) (ci := 2) (v := .long (ct)) (C := RX2) (T := TX2) (N := 8) hx hb hts i_X2_fillIn_X2 hown hK hW.1 0 rfl rfl 2 (by decide) (hts (.fieldLink RX2 27 "TreeHashes$Mix" "count" "J") f_X2_fillIn_2) (fun _ h9 => h9) rfl dX2_fillIn_72 ?_
              refine lv_bipush (v := nI (32)) hx hb dX2_fillIn_75 (by decide) ?_
              refine lv_lushr hx hb dX2_fillIn_77 rfl ?_
              refine lv_l2i hx hb dX2_fillIn_78 rfl ?_
              refine wI hx hb hK hW 3 rfl (k := 13) (by omega) (by omega) dX2_fillIn_79 (fun H locs hW => ?_)
              have hW : Wd D A s [(m0, .inr (2, [.ref mc, .ref mb, .long (ct), .int (ln), .int (fl), .ref mv, .ref aw, .ref an])), (mc, .inl (cy 0, 8, .inl (ch))), (mb, .inl (cy 0, 16, .inl (bl))), (mv, .inl (cy 0, 16, .inl (upd (upd (apG (apG v 0 ch 8) 8 stA 4) 12 ct.toInt32) 13 (((ct.toUInt64 >>> ((nI (32)).toInt64.toUInt64 &&& Int64.toUInt64 63)).toInt64).toInt32)))), (aw, .inl (cy 0, 16, .inl (w)))] H locs := hW
              refine lv_aload_n hx hb dX2_fillIn_80 rfl (lv_at hl 0 rfl) ?_
              refine va_get (D := D) (ci := 2) (v := .ref mv) (C := RX2) (T := TX2) (N := 8) hx hb hts i_X2_fillIn_X2 hown hK hW.1 0 rfl rfl 5 (by decide) (hts (.fieldLink RX2 18 "TreeHashes$Mix" "v" "[I") f_X2_fillIn_0) (fun _ h9 => h9) rfl dX2_fillIn_81 ?_
              refine lv_bipush (v := nI (14)) hx hb dX2_fillIn_84 (by decide) ?_
              refine lv_aload_n hx hb dX2_fillIn_86 rfl (lv_at hl 0 rfl) ?_
              refine va_get (D := D) (ci := 2) (v := .int (ln)) (C := RX2) (T := TX2) (N := 8) hx hb hts i_X2_fillIn_X2 hown hK hW.1 0 rfl rfl 3 (by decide) (hts (.fieldLink RX2 31 "TreeHashes$Mix" "length" "I") f_X2_fillIn_3) (fun _ h9 => h9) rfl dX2_fillIn_87 ?_
              refine wI hx hb hK hW 3 rfl (k := 14) (by omega) (by omega) dX2_fillIn_90 (fun H locs hW => ?_)
              have hW : Wd D A s [(m0, .inr (2, [.ref mc, .ref mb, .long (ct), .int (ln), .int (fl), .ref mv, .ref aw, .ref an])), (mc, .inl (cy 0, 8, .inl (ch))), (mb, .inl (cy 0, 16, .inl (bl))), (mv, .inl (cy 0, 16, .inl (upd (upd (upd (apG (apG v 0 ch 8) 8 stA 4) 12 ct.toInt32) 13 (((ct.toUInt64 >>> ((nI (32)).toInt64.toUInt64 &&& Int64.toUInt64 63)).toInt64).toInt32)) 14 ln))), (aw, .inl (cy 0, 16, .inl (w)))] H locs := hW
              refine lv_aload_n hx hb dX2_fillIn_91 rfl (lv_at hl 0 rfl) ?_
              refine va_get (D := D) (ci := 2) (v := .ref mv) (C := RX2) (T := TX2) (N := 8) hx hb hts i_X2_fillIn_X2 hown hK hW.1 0 rfl rfl 5 (by decide) (hts (.fieldLink RX2 18 "TreeHashes$Mix" "v" "[I") f_X2_fillIn_0) (fun _ h9 => h9) rfl dX2_fillIn_92 ?_
              refine lv_bipush (v := nI (15)) hx hb dX2_fillIn_95 (by decide) ?_
              refine lv_aload_n hx hb dX2_fillIn_97 rfl (lv_at hl 0 rfl) ?_
              refine va_get (D := D) (ci := 2) (v := .int (fl)) (C := RX2) (T := TX2) (N := 8) hx hb hts i_X2_fillIn_X2 hown hK hW.1 0 rfl rfl 4 (by decide) (hts (.fieldLink RX2 35 "TreeHashes$Mix" "flags" "I") f_X2_fillIn_4) (fun _ h9 => h9) rfl dX2_fillIn_98 ?_
              refine wI hx hb hK hW 3 rfl (k := 15) (by omega) (by omega) dX2_fillIn_101 (fun H locs hW => ?_)
              have hW : Wd D A s [(m0, .inr (2, [.ref mc, .ref mb, .long (ct), .int (ln), .int (fl), .ref mv, .ref aw, .ref an])), (mc, .inl (cy 0, 8, .inl (ch))), (mb, .inl (cy 0, 16, .inl (bl))), (mv, .inl (cy 0, 16, .inl (upd (upd (upd (upd (apG (apG v 0 ch 8) 8 stA 4) 12 ct.toInt32) 13 (((ct.toUInt64 >>> ((nI (32)).toInt64.toUInt64 &&& Int64.toUInt64 63)).toInt64).toInt32)) 14 ln) 15 fl))), (aw, .inl (cy 0, 16, .inl (w)))] H locs := hW
              have hW := Wd.ext hW 3 rfl (vin ch ct ln fl) (vin_ok rfl rfl)
              have hW : Wd D A s [(m0, .inr (2, [.ref mc, .ref mb, .long (ct), .int (ln), .int (fl), .ref mv, .ref aw, .ref an])), (mc, .inl (cy 0, 8, .inl (ch))), (mb, .inl (cy 0, 16, .inl (bl))), (mv, .inl (cy 0, 16, .inl (vin ch ct ln fl))), (aw, .inl (cy 0, 16, .inl (w)))] H locs := hW
              refine lv_iconst (v := nI (0)) hx hb dX2_fillIn_102 (by decide) ?_
              refine lv_istore_n (lv' := [(1, .int (nI (0))), (0, .ref m0)]) hx hb dX2_fillIn_103 rfl hl (by decide) rfl (fun ls hl => ?_)
              have loop104 : ∀ (nF : Nat) (i3 : Nat), 16 - i3 < nF → (i3 ≤ 16) → ∀ (H : Heap) (locs : List Loc), Wd D A s [(m0, .inr (2, [.ref mc, .ref mb, .long (ct), .int (ln), .int (fl), .ref mv, .ref aw, .ref an])), (mc, .inl (cy 0, 8, .inl (ch))), (mb, .inl (cy 0, 16, .inl (bl))), (mv, .inl (cy 0, 16, .inl (vin ch ct ln fl))), (aw, .inl (cy 0, 16, .inl (apG w 0 bl i3)))] H locs → ∀ ls : Array Slot, lv_has ls 2 [(0, .ref m0), (1, .int (nI (i3)))] → W p l e ({ frames := 0, cells := 0, slots := 0, locals := 0 }) s m args below meth c H locs 0 0 Q (F0 m 104 ls []) := by
                intro nF
                induction nF with
                | zero => intro i3 hf; exact absurd hf (Nat.not_lt_zero _)
                | succ nF ih104 =>
                  intro i3 hf hi3 H locs hW ls hl
                  refine lv_iload_n hx hb dX2_fillIn_104 rfl (lv_at hl 1 rfl) ?_
                  refine lv_bipush (v := nI (16)) hx hb dX2_fillIn_105 (by decide) ?_
                  refine iGe (a := i3) (b := 16) (tgt := 128) hx hb dX2_fillIn_107 (by decide) (by omega) (by omega) (fun h107 => ?_) (fun h107 => ?_)
                  · skip
                    have e9 : i3 = 16 := by omega
                    try rw [e9] at hW
                    have hW := Wd.ext hW 4 rfl bl apG_all
                    exact eV hQ hx hb hr hlocks hK hW () (trivial) (rfl) dX2_fillIn_128
                  · skip
                    refine lv_aload_n hx hb dX2_fillIn_110 rfl (lv_at hl 0 rfl) ?_
                    refine va_get (D := D) (ci := 2) (v := .ref aw) (C := RX2) (T := TX2) (N := 8) hx hb hts i_X2_fillIn_X2 hown hK hW.1 0 rfl rfl 6 (by decide) (hts (.fieldLink RX2 21 "TreeHashes$Mix" "w" "[I") f_X2_fillIn_5) (fun _ h9 => h9) rfl dX2_fillIn_111 ?_
                    refine lv_iload_n hx hb dX2_fillIn_114 rfl (lv_at hl 1 rfl) ?_
                    refine lv_aload_n hx hb dX2_fillIn_115 rfl (lv_at hl 0 rfl) ?_
                    refine va_get (D := D) (ci := 2) (v := .ref mb) (C := RX2) (T := TX2) (N := 8) hx hb hts i_X2_fillIn_X2 hown hK hW.1 0 rfl rfl 1 (by decide) (hts (.fieldLink RX2 15 "TreeHashes$Mix" "block" "[I") f_X2_fillIn_6) (fun _ h9 => h9) rfl dX2_fillIn_116 ?_
                    refine lv_iload_n hx hb dX2_fillIn_119 rfl (lv_at hl 1 rfl) ?_
                    refine rI hx hb hK hW 2 rfl (k := i3) (by omega) (by omega) dX2_fillIn_120 ?_
                    refine wI hx hb hK hW 4 rfl (k := i3) (by omega) (by omega) dX2_fillIn_121 (fun H locs hW => ?_)
                    have hW : Wd D A s [(m0, .inr (2, [.ref mc, .ref mb, .long (ct), .int (ln), .int (fl), .ref mv, .ref aw, .ref an])), (mc, .inl (cy 0, 8, .inl (ch))), (mb, .inl (cy 0, 16, .inl (bl))), (mv, .inl (cy 0, 16, .inl (vin ch ct ln fl))), (aw, .inl (cy 0, 16, .inl (upd (apG w 0 bl i3) i3 (bl i3))))] H locs := hW
                    rw [show (upd (apG w 0 bl i3) i3 (bl i3)) = (apG w 0 bl (i3 + 1)) from by rw [← apG_s w 0 bl i3, Nat.zero_add]] at hW
                    have hW : Wd D A s [(m0, .inr (2, [.ref mc, .ref mb, .long (ct), .int (ln), .int (fl), .ref mv, .ref aw, .ref an])), (mc, .inl (cy 0, 8, .inl (ch))), (mb, .inl (cy 0, 16, .inl (bl))), (mv, .inl (cy 0, 16, .inl (vin ch ct ln fl))), (aw, .inl (cy 0, 16, .inl (apG w 0 bl (i3 + 1))))] H locs := hW
                    refine lv_iinc (v := nI (i3 + 1)) (lv' := [(1, .int (nI (i3 + 1))), (0, .ref m0)]) hx hb dX2_fillIn_122 hl (k := 1) rfl (nI_1 _) (by decide) rfl (fun ls hl => ?_)
                    refine lv_goto (tgt := 104) hx hb dX2_fillIn_125 (by decide) ?_
                    exact ih104 (i3 + 1) (by omega) (by omega) _ _ hW _ (lv_sub hl [1, 0] rfl)
              rw [← apG_0 w 0 bl] at hW
              exact loop104 _ 0 (Nat.lt_succ_self _) (by omega) _ _ hW _ (lv_sub hl [1, 0] rfl)
            · skip
              refine lv_aload_n hx hb dX2_fillIn_33 rfl (lv_at hl 0 rfl) ?_
              refine va_get (D := D) (ci := 2) (v := .ref mv) (C := RX2) (T := TX2) (N := 8) hx hb hts i_X2_fillIn_X2 hown hK hW.1 0 rfl rfl 5 (by decide) (hts (.fieldLink RX2 18 "TreeHashes$Mix" "v" "[I") f_X2_fillIn_0) (fun _ h9 => h9) rfl dX2_fillIn_34 ?_
              refine lv_bipush (v := nI (8)) hx hb dX2_fillIn_37 (by decide) ?_
              refine lv_iload_n hx hb dX2_fillIn_39 rfl (lv_at hl 1 rfl) ?_
              refine lv_iadd hx hb dX2_fillIn_40 ?_
              refine tI (nI_add _ _) ?_
              refine va_gets hx hb hst.1.1 hW.2.2 hown (hts (.fieldLink RX2 80 "TreeHashes$Mix" "START" "[I") f_X2_fillIn_7) (fun _ h9 => h9) dX2_fillIn_41 ?_
              refine lv_iload_n hx hb dX2_fillIn_44 rfl (lv_at hl 1 rfl) ?_
              refine rS (g := stA) hx hb hst.1.2 hW (k := i2) (n := 8) (by omega) (by decide) dX2_fillIn_45 ?_
              refine wI hx hb hK hW 3 rfl (k := 8 + i2) (by omega) (by omega) dX2_fillIn_46 (fun H locs hW => ?_)
              have hW : Wd D A s [(m0, .inr (2, [.ref mc, .ref mb, .long (ct), .int (ln), .int (fl), .ref mv, .ref aw, .ref an])), (mc, .inl (cy 0, 8, .inl (ch))), (mb, .inl (cy 0, 16, .inl (bl))), (mv, .inl (cy 0, 16, .inl (upd (apG (apG v 0 ch 8) 8 stA i2) (8 + i2) (stA i2)))), (aw, .inl (cy 0, 16, .inl (w)))] H locs := hW
              rw [show (upd (apG (apG v 0 ch 8) 8 stA i2) (8 + i2) (stA i2)) = (apG (apG v 0 ch 8) 8 stA (i2 + 1)) from apG_s (apG v 0 ch 8) 8 stA i2] at hW
              have hW : Wd D A s [(m0, .inr (2, [.ref mc, .ref mb, .long (ct), .int (ln), .int (fl), .ref mv, .ref aw, .ref an])), (mc, .inl (cy 0, 8, .inl (ch))), (mb, .inl (cy 0, 16, .inl (bl))), (mv, .inl (cy 0, 16, .inl (apG (apG v 0 ch 8) 8 stA (i2 + 1)))), (aw, .inl (cy 0, 16, .inl (w)))] H locs := hW
              refine lv_iinc (v := nI (i2 + 1)) (lv' := [(1, .int (nI (i2 + 1))), (0, .ref m0)]) hx hb dX2_fillIn_47 hl (k := 1) rfl (nI_1 _) (by decide) rfl (fun ls hl => ?_)
              refine lv_goto (tgt := 28) hx hb dX2_fillIn_50 (by decide) ?_
              exact ih28 (i2 + 1) (by omega) (by omega) _ _ hW _ (lv_sub hl [1, 0] rfl)
        rw [← apG_0 (apG v 0 ch 8) 8 stA] at hW
        exact loop28 _ 0 (Nat.lt_succ_self _) (by omega) _ _ hW _ (lv_sub hl [1, 0] rfl)
      · skip
        refine lv_aload_n hx hb dX2_fillIn_8 rfl (lv_at hl 0 rfl) ?_
        refine va_get (D := D) (ci := 2) (v := .ref mv) (C := RX2) (T := TX2) (N := 8) hx hb hts i_X2_fillIn_X2 hown hK hW.1 0 rfl rfl 5 (by decide) (hts (.fieldLink RX2 18 "TreeHashes$Mix" "v" "[I") f_X2_fillIn_0) (fun _ h9 => h9) rfl dX2_fillIn_9 ?_
        refine lv_iload_n hx hb dX2_fillIn_12 rfl (lv_at hl 1 rfl) ?_
        refine lv_aload_n hx hb dX2_fillIn_13 rfl (lv_at hl 0 rfl) ?_
        refine va_get (D := D) (ci := 2) (v := .ref mc) (C := RX2) (T := TX2) (N := 8) hx hb hts i_X2_fillIn_X2 hown hK hW.1 0 rfl rfl 0 (by decide) (hts (.fieldLink RX2 9 "TreeHashes$Mix" "chain" "[I") f_X2_fillIn_8) (fun _ h9 => h9) rfl dX2_fillIn_14 ?_
        refine lv_iload_n hx hb dX2_fillIn_17 rfl (lv_at hl 1 rfl) ?_
        refine rI hx hb hK hW 1 rfl (k := i) (by omega) (by omega) dX2_fillIn_18 ?_
        refine wI hx hb hK hW 3 rfl (k := i) (by omega) (by omega) dX2_fillIn_19 (fun H locs hW => ?_)
        have hW : Wd D A s [(m0, .inr (2, [.ref mc, .ref mb, .long (ct), .int (ln), .int (fl), .ref mv, .ref aw, .ref an])), (mc, .inl (cy 0, 8, .inl (ch))), (mb, .inl (cy 0, 16, .inl (bl))), (mv, .inl (cy 0, 16, .inl (upd (apG v 0 ch i) i (ch i)))), (aw, .inl (cy 0, 16, .inl (w)))] H locs := hW
        rw [show (upd (apG v 0 ch i) i (ch i)) = (apG v 0 ch (i + 1)) from by rw [← apG_s v 0 ch i, Nat.zero_add]] at hW
        have hW : Wd D A s [(m0, .inr (2, [.ref mc, .ref mb, .long (ct), .int (ln), .int (fl), .ref mv, .ref aw, .ref an])), (mc, .inl (cy 0, 8, .inl (ch))), (mb, .inl (cy 0, 16, .inl (bl))), (mv, .inl (cy 0, 16, .inl (apG v 0 ch (i + 1)))), (aw, .inl (cy 0, 16, .inl (w)))] H locs := hW
        refine lv_iinc (v := nI (i + 1)) (lv' := [(1, .int (nI (i + 1))), (0, .ref m0)]) hx hb dX2_fillIn_20 hl (k := 1) rfl (nI_1 _) (by decide) rfl (fun ls hl => ?_)
        refine lv_goto (tgt := 2) hx hb dX2_fillIn_23 (by decide) ?_
        exact ih2 (i + 1) (by omega) (by omega) _ _ hW _ (lv_sub hl [1, 0] rfl)
  rw [← apG_0 v 0 ch] at hW
  exact loop2 _ 0 (Nat.lt_succ_self _) (by omega) _ _ hW _ (lv_sub hl [1, 0] rfl)

theorem f_X2_run_0 : Cond.fieldLink RX2 18 "TreeHashes$Mix" "v" "[I" ∈ wsX2_run := by decide +kernel
theorem i_X2_run_X2 : ∀ w ∈ wsX20, w ∈ wsX2_run := by decide +kernel
theorem f_X2_run_2 : Cond.fieldLink RX2 9 "TreeHashes$Mix" "chain" "[I" ∈ wsX2_run := by decide +kernel
theorem f_X2_run_3 : Cond.fieldLink RX2 21 "TreeHashes$Mix" "w" "[I" ∈ wsX2_run := by decide +kernel
set_option maxHeartbeats 4000000 in
set_option maxRecDepth 100000 in
theorem c_X2_run (l : Launch) (D : va_G) (cy : Nat → ClassId) (t : Nat × Nat) (m0 : Nat) (mc : Nat) (mb : Nat) (mv : Nat) (aw : Nat) (an : Nat) (ct : Int64) (ln : Int32) (fl : Int32) (ch : Nat → Int32) (bl : Nat → Int32) (v : Nat → Int32) (w : Nat → Int32) (nw : Nat → Int32)  (sz : Nat) : Met l yX2_run wsX2_run ({ frames := 1, cells := 0, slots := 0, locals := 30 }) (PcW D cy t [(m0, .inr (2, [.ref mc, .ref mb, .long (ct), .int (ln), .int (fl), .ref mv, .ref aw, .ref an])), (mc, .inl (cy 0, 8, .inl (ch))), (mb, .inl (cy 0, 16, .inl (bl))), (mv, .inl (cy 0, 16, .inl (v))), (aw, .inl (cy 0, 16, .inl (w))), (an, .inl (cy 0, 16, .inl (nw)))] [.ref m0] sz) (QvA D cy (fun u : (Nat) × (Nat) × (Nat → Int32) × (Nat → Int32) => match u with | (aw2, an2, w2, nw2) => True) (fun u : (Nat) × (Nat) × (Nat → Int32) × (Nat → Int32) => match u with | (aw2, an2, w2, nw2) => [(m0, .inr (2, [.ref mc, .ref mb, .long (ct), .int (ln), .int (fl), .ref mv, .ref aw2, .ref an2])), (mc, .inl (cy 0, 8, .inl (ch))), (mb, .inl (cy 0, 16, .inl (bl))), (mv, .inl (cy 0, 16, .inl (mixV ch bl ct ln fl))), (aw2, .inl (cy 0, 16, .inl (w2))), (an2, .inl (cy 0, 16, .inl (nw2)))]) (va_A [(m0, .inr (2, [.ref mc, .ref mb, .long (ct), .int (ln), .int (fl), .ref mv, .ref aw, .ref an])), (mc, .inl (cy 0, 8, .inl (ch))), (mb, .inl (cy 0, 16, .inl (bl))), (mv, .inl (cy 0, 16, .inl (v))), (aw, .inl (cy 0, 16, .inl (w))), (an, .inl (cy 0, 16, .inl (nw)))] sz)) 0 0 (va_A [(m0, .inr (2, [.ref mc, .ref mb, .long (ct), .int (ln), .int (fl), .ref mv, .ref aw, .ref an])), (mc, .inl (cy 0, 8, .inl (ch))), (mb, .inl (cy 0, 16, .inl (bl))), (mv, .inl (cy 0, 16, .inl (v))), (aw, .inl (cy 0, 16, .inl (w))), (an, .inl (cy 0, 16, .inl (nw)))] sz) := by
  refine M_ofW (cc := cX2_run) (maxL := 2) (ret := none) (by decide) rfl (Nat.le_of_ble_eq_true rfl) ?_
  intro p e s m below meth c A ls args Q hQ S0 hr hlocks hnm hK hst hA hW hl
  have hx := S0.1; have hb := S0.2.1; have hml := S0.2.2.1; have hown := S0.2.2.2.1; have hts := S0.2.2.2.2
  have hl : lv_has ls 2 [(0, .ref m0)] := hl
  refine lv_aload_n hx hb dX2_run_0 rfl (lv_at hl 0 rfl) ?_
  refine kVv (As := []) (rest := []) S0 hK hst hA hW [0, 1, 2, 3, 4] (fun sz => c_X2_fillIn l D cy t m0 mc mb mv aw an ct ln fl ch bl v w  sz) rfl (by decide) (cwV 0 hts gX2_run_X2_fillIn rfl rfl rfl (by decide +kernel) ⟨Nat.le_of_ble_eq_true rfl, Nat.le_of_ble_eq_true rfl⟩) (fun _ => rfl) 0 2 rfl rfl rfl hl.1 rfl (Nat.le_of_ble_eq_true rfl) dX2_run_1 ⟨Nat.le_of_ble_eq_true rfl, Nat.le_of_ble_eq_true rfl⟩ (fun u1 H locs p1 hW => ?_)
  have hW : Wd D A s [(m0, .inr (2, [.ref mc, .ref mb, .long (ct), .int (ln), .int (fl), .ref mv, .ref aw, .ref an])), (mc, .inl (cy 0, 8, .inl (ch))), (mb, .inl (cy 0, 16, .inl (bl))), (mv, .inl (cy 0, 16, .inl (vin ch ct ln fl))), (aw, .inl (cy 0, 16, .inl (bl))), (an, .inl (cy 0, 16, .inl (nw)))] H locs := hW
  refine lv_iconst (v := nI (0)) hx hb dX2_run_4 (by decide) ?_
  refine lv_istore_n (lv' := [(1, .int (nI (0))), (0, .ref m0)]) hx hb dX2_run_5 rfl hl (by decide) rfl (fun ls hl => ?_)
  have loop6 : ∀ (nF : Nat) (i : Nat) (ax : Nat) (ay : Nat) (ny : Nat → Int32), 7 - i < nF → (i ≤ 7) → ∀ (H : Heap) (locs : List Loc), Wd D A s [(m0, .inr (2, [.ref mc, .ref mb, .long (ct), .int (ln), .int (fl), .ref mv, .ref ax, .ref ay])), (mc, .inl (cy 0, 8, .inl (ch))), (mb, .inl (cy 0, 16, .inl (bl))), (mv, .inl (cy 0, 16, .inl (vr (vin ch ct ln fl) bl i))), (ax, .inl (cy 0, 16, .inl (wr bl i))), (ay, .inl (cy 0, 16, .inl (ny)))] H locs → ∀ ls : Array Slot, lv_has ls 2 [(0, .ref m0), (1, .int (nI (i)))] → W p l e ({ frames := 1, cells := 0, slots := 0, locals := 30 }) s m args below meth c H locs 0 0 Q (F0 m 6 ls []) := by
    intro nF
    induction nF with
    | zero => intro i ax ay ny hf; exact absurd hf (Nat.not_lt_zero _)
    | succ nF ih6 =>
      intro i ax ay ny hf hi H locs hW ls hl
      refine lv_iload_n hx hb dX2_run_6 rfl (lv_at hl 1 rfl) ?_
      refine lv_bipush (v := nI (7)) hx hb dX2_run_7 (by decide) ?_
      refine iGe (a := i) (b := 7) (tgt := 212) hx hb dX2_run_9 (by decide) (by omega) (by omega) (fun h9 => ?_) (fun h9 => ?_)
      · skip
        refine lv_iconst (v := nI (0)) hx hb dX2_run_212 (by decide) ?_
        refine lv_istore_n (lv' := [(1, .int (nI (0))), (0, .ref m0)]) hx hb dX2_run_213 rfl hl (by decide) rfl (fun ls hl => ?_)
        have e9 : i = 7 := by omega
        try rw [e9] at hW
        have loop214 : ∀ (nF : Nat) (i2 : Nat), 8 - i2 < nF → (i2 ≤ 8) → ∀ (H : Heap) (locs : List Loc), Wd D A s [(m0, .inr (2, [.ref mc, .ref mb, .long (ct), .int (ln), .int (fl), .ref mv, .ref ax, .ref ay])), (mc, .inl (cy 0, 8, .inl (ch))), (mb, .inl (cy 0, 16, .inl (bl))), (mv, .inl (cy 0, 16, .inl (fin (vr (vin ch ct ln fl) bl 7) ch i2))), (ax, .inl (cy 0, 16, .inl (wr bl 7))), (ay, .inl (cy 0, 16, .inl (ny)))] H locs → ∀ ls : Array Slot, lv_has ls 2 [(0, .ref m0), (1, .int (nI (i2)))] → W p l e ({ frames := 1, cells := 0, slots := 0, locals := 30 }) s m args below meth c H locs 0 0 Q (F0 m 214 ls []) := by
          intro nF
          induction nF with
          | zero => intro i2 hf; exact absurd hf (Nat.not_lt_zero _)
          | succ nF ih214 =>
            intro i2 hf hi2 H locs hW ls hl
            refine lv_iload_n hx hb dX2_run_214 rfl (lv_at hl 1 rfl) ?_
            refine lv_bipush (v := nI (8)) hx hb dX2_run_215 (by decide) ?_
            refine iGe (a := i2) (b := 8) (tgt := 262) hx hb dX2_run_217 (by decide) (by omega) (by omega) (fun h217 => ?_) (fun h217 => ?_)
            · skip
              have e9 : i2 = 8 := by omega
              try rw [e9] at hW
              exact eV hQ hx hb hr hlocks hK hW (ax, ay, wr bl 7, ny) (trivial) (rfl) dX2_run_262
            · skip
              refine lv_aload_n hx hb dX2_run_220 rfl (lv_at hl 0 rfl) ?_
              refine va_get (D := D) (ci := 2) (v := .ref mv) (C := RX2) (T := TX2) (N := 8) hx hb hts i_X2_run_X2 hown hK hW.1 0 rfl rfl 5 (by decide) (hts (.fieldLink RX2 18 "TreeHashes$Mix" "v" "[I") f_X2_run_0) (fun _ h9 => h9) rfl dX2_run_221 ?_
              refine lv_iload_n hx hb dX2_run_224 rfl (lv_at hl 1 rfl) ?_
              refine lv_dup2_11 hx hb dX2_run_225 rfl rfl ?_
              refine rI hx hb hK hW 3 rfl (k := i2) (by omega) (by omega) dX2_run_226 ?_
              refine lv_aload_n hx hb dX2_run_227 rfl (lv_at hl 0 rfl) ?_
              refine va_get (D := D) (ci := 2) (v := .ref mv) (C := RX2) (T := TX2) (N := 8) hx hb hts i_X2_run_X2 hown hK hW.1 0 rfl rfl 5 (by decide) (hts (.fieldLink RX2 18 "TreeHashes$Mix" "v" "[I") f_X2_run_0) (fun _ h9 => h9) rfl dX2_run_228 ?_
              refine lv_iload_n hx hb dX2_run_231 rfl (lv_at hl 1 rfl) ?_
              refine lv_bipush (v := nI (8)) hx hb dX2_run_232 (by decide) ?_
              refine lv_iadd hx hb dX2_run_234 ?_
              refine tI (nI_add _ _) ?_
              refine rI hx hb hK hW 3 rfl (k := i2 + 8) (by omega) (by omega) dX2_run_235 ?_
              refine lv_ixor hx hb dX2_run_236 ?_
              refine wI hx hb hK hW 3 rfl (k := i2) (by omega) (by omega) dX2_run_237 (fun H locs hW => ?_)
              have hW : Wd D A s [(m0, .inr (2, [.ref mc, .ref mb, .long (ct), .int (ln), .int (fl), .ref mv, .ref ax, .ref ay])), (mc, .inl (cy 0, 8, .inl (ch))), (mb, .inl (cy 0, 16, .inl (bl))), (mv, .inl (cy 0, 16, .inl (upd (fin (vr (vin ch ct ln fl) bl 7) ch i2) i2 (((fin (vr (vin ch ct ln fl) bl 7) ch i2) i2) ^^^ ((fin (vr (vin ch ct ln fl) bl 7) ch i2) (i2 + 8)))))), (ax, .inl (cy 0, 16, .inl (wr bl 7))), (ay, .inl (cy 0, 16, .inl (ny)))] H locs := hW
              refine lv_aload_n hx hb dX2_run_238 rfl (lv_at hl 0 rfl) ?_
              refine va_get (D := D) (ci := 2) (v := .ref mv) (C := RX2) (T := TX2) (N := 8) hx hb hts i_X2_run_X2 hown hK hW.1 0 rfl rfl 5 (by decide) (hts (.fieldLink RX2 18 "TreeHashes$Mix" "v" "[I") f_X2_run_0) (fun _ h9 => h9) rfl dX2_run_239 ?_
              refine lv_iload_n hx hb dX2_run_242 rfl (lv_at hl 1 rfl) ?_
              refine lv_bipush (v := nI (8)) hx hb dX2_run_243 (by decide) ?_
              refine lv_iadd hx hb dX2_run_245 ?_
              refine tI (nI_add _ _) ?_
              refine lv_dup2_11 hx hb dX2_run_246 rfl rfl ?_
              refine rI hx hb hK hW 3 rfl (k := i2 + 8) (by omega) (by omega) dX2_run_247 ?_
              refine lv_aload_n hx hb dX2_run_248 rfl (lv_at hl 0 rfl) ?_
              refine va_get (D := D) (ci := 2) (v := .ref mc) (C := RX2) (T := TX2) (N := 8) hx hb hts i_X2_run_X2 hown hK hW.1 0 rfl rfl 0 (by decide) (hts (.fieldLink RX2 9 "TreeHashes$Mix" "chain" "[I") f_X2_run_2) (fun _ h9 => h9) rfl dX2_run_249 ?_
              refine lv_iload_n hx hb dX2_run_252 rfl (lv_at hl 1 rfl) ?_
              refine rI hx hb hK hW 1 rfl (k := i2) (by omega) (by omega) dX2_run_253 ?_
              refine lv_ixor hx hb dX2_run_254 ?_
              refine wI hx hb hK hW 3 rfl (k := i2 + 8) (by omega) (by omega) dX2_run_255 (fun H locs hW => ?_)
              have hW : Wd D A s [(m0, .inr (2, [.ref mc, .ref mb, .long (ct), .int (ln), .int (fl), .ref mv, .ref ax, .ref ay])), (mc, .inl (cy 0, 8, .inl (ch))), (mb, .inl (cy 0, 16, .inl (bl))), (mv, .inl (cy 0, 16, .inl (upd (upd (fin (vr (vin ch ct ln fl) bl 7) ch i2) i2 (((fin (vr (vin ch ct ln fl) bl 7) ch i2) i2) ^^^ ((fin (vr (vin ch ct ln fl) bl 7) ch i2) (i2 + 8)))) (i2 + 8) (((upd (fin (vr (vin ch ct ln fl) bl 7) ch i2) i2 (((fin (vr (vin ch ct ln fl) bl 7) ch i2) i2) ^^^ ((fin (vr (vin ch ct ln fl) bl 7) ch i2) (i2 + 8)))) (i2 + 8)) ^^^ (ch i2))))), (ax, .inl (cy 0, 16, .inl (wr bl 7))), (ay, .inl (cy 0, 16, .inl (ny)))] H locs := hW
              rw [show (upd (upd (fin (vr (vin ch ct ln fl) bl 7) ch i2) i2 (((fin (vr (vin ch ct ln fl) bl 7) ch i2) i2) ^^^ ((fin (vr (vin ch ct ln fl) bl 7) ch i2) (i2 + 8)))) (i2 + 8) (((upd (fin (vr (vin ch ct ln fl) bl 7) ch i2) i2 (((fin (vr (vin ch ct ln fl) bl 7) ch i2) i2) ^^^ ((fin (vr (vin ch ct ln fl) bl 7) ch i2) (i2 + 8)))) (i2 + 8)) ^^^ (ch i2))) = (fin (vr (vin ch ct ln fl) bl 7) ch (i2 + 1)) from fin_s _ _ (by omega)] at hW
              have hW : Wd D A s [(m0, .inr (2, [.ref mc, .ref mb, .long (ct), .int (ln), .int (fl), .ref mv, .ref ax, .ref ay])), (mc, .inl (cy 0, 8, .inl (ch))), (mb, .inl (cy 0, 16, .inl (bl))), (mv, .inl (cy 0, 16, .inl (fin (vr (vin ch ct ln fl) bl 7) ch (i2 + 1)))), (ax, .inl (cy 0, 16, .inl (wr bl 7))), (ay, .inl (cy 0, 16, .inl (ny)))] H locs := hW
              refine lv_iinc (v := nI (i2 + 1)) (lv' := [(1, .int (nI (i2 + 1))), (0, .ref m0)]) hx hb dX2_run_256 hl (k := 1) rfl (nI_1 _) (by decide) rfl (fun ls hl => ?_)
              refine lv_goto (tgt := 214) hx hb dX2_run_259 (by decide) ?_
              exact ih214 (i2 + 1) (by omega) (by omega) _ _ hW _ (lv_sub hl [1, 0] rfl)
        rw [← fin_0 (vr (vin ch ct ln fl) bl 7) ch] at hW
        exact loop214 _ 0 (Nat.lt_succ_self _) (by omega) _ _ hW _ (lv_sub hl [1, 0] rfl)
      · skip
        refine lv_aload_n hx hb dX2_run_12 rfl (lv_at hl 0 rfl) ?_
        refine lv_iconst (v := nI (0)) hx hb dX2_run_13 (by decide) ?_
        refine lv_iconst (v := nI (4)) hx hb dX2_run_14 (by decide) ?_
        refine lv_bipush (v := nI (8)) hx hb dX2_run_15 (by decide) ?_
        refine lv_bipush (v := nI (12)) hx hb dX2_run_17 (by decide) ?_
        refine lv_aload_n hx hb dX2_run_19 rfl (lv_at hl 0 rfl) ?_
        refine va_get (D := D) (ci := 2) (v := .ref ax) (C := RX2) (T := TX2) (N := 8) hx hb hts i_X2_run_X2 hown hK hW.1 0 rfl rfl 6 (by decide) (hts (.fieldLink RX2 21 "TreeHashes$Mix" "w" "[I") f_X2_run_3) (fun _ h9 => h9) rfl dX2_run_20 ?_
        refine lv_iconst (v := nI (0)) hx hb dX2_run_23 (by decide) ?_
        refine rI hx hb hK hW 4 rfl (k := 0) (by omega) (by omega) dX2_run_24 ?_
        refine lv_aload_n hx hb dX2_run_25 rfl (lv_at hl 0 rfl) ?_
        refine va_get (D := D) (ci := 2) (v := .ref ax) (C := RX2) (T := TX2) (N := 8) hx hb hts i_X2_run_X2 hown hK hW.1 0 rfl rfl 6 (by decide) (hts (.fieldLink RX2 21 "TreeHashes$Mix" "w" "[I") f_X2_run_3) (fun _ h9 => h9) rfl dX2_run_26 ?_
        refine lv_iconst (v := nI (1)) hx hb dX2_run_29 (by decide) ?_
        refine rI hx hb hK hW 4 rfl (k := 1) (by omega) (by omega) dX2_run_30 ?_
        refine kVv (As := [.int (nI (0)), .int (nI (4)), .int (nI (8)), .int (nI (12)), .int ((wr bl i) 0), .int ((wr bl i) 1)]) (rest := []) S0 hK hst hA hW [0, 3] (fun sz => c_X2_turn l D cy t m0 mc mb mv ax ay ct ln fl (vr (vin ch ct ln fl) bl i) 0 4 8 12 ((wr bl i) 0) ((wr bl i) 1) (by omega) (by omega) (by omega) (by omega) sz) rfl (by decide) (cwV 6 hts gX2_run_X2_turn rfl rfl rfl (by decide +kernel) ⟨Nat.le_of_ble_eq_true rfl, Nat.le_of_ble_eq_true rfl⟩) (fun _ => rfl) 0 2 rfl rfl rfl hl.1 rfl (Nat.le_of_ble_eq_true rfl) dX2_run_31 ⟨Nat.le_of_ble_eq_true rfl, Nat.le_of_ble_eq_true rfl⟩ (fun u31 H locs p31 hW => ?_)
        have hW : Wd D A s [(m0, .inr (2, [.ref mc, .ref mb, .long (ct), .int (ln), .int (fl), .ref mv, .ref ax, .ref ay])), (mc, .inl (cy 0, 8, .inl (ch))), (mb, .inl (cy 0, 16, .inl (bl))), (mv, .inl (cy 0, 16, .inl (tn (vr (vin ch ct ln fl) bl i) 0 4 8 12 ((wr bl i) 0) ((wr bl i) 1)))), (ax, .inl (cy 0, 16, .inl (wr bl i))), (ay, .inl (cy 0, 16, .inl (ny)))] H locs := hW
        refine lv_aload_n hx hb dX2_run_34 rfl (lv_at hl 0 rfl) ?_
        refine lv_iconst (v := nI (1)) hx hb dX2_run_35 (by decide) ?_
        refine lv_iconst (v := nI (5)) hx hb dX2_run_36 (by decide) ?_
        refine lv_bipush (v := nI (9)) hx hb dX2_run_37 (by decide) ?_
        refine lv_bipush (v := nI (13)) hx hb dX2_run_39 (by decide) ?_
        refine lv_aload_n hx hb dX2_run_41 rfl (lv_at hl 0 rfl) ?_
        refine va_get (D := D) (ci := 2) (v := .ref ax) (C := RX2) (T := TX2) (N := 8) hx hb hts i_X2_run_X2 hown hK hW.1 0 rfl rfl 6 (by decide) (hts (.fieldLink RX2 21 "TreeHashes$Mix" "w" "[I") f_X2_run_3) (fun _ h9 => h9) rfl dX2_run_42 ?_
        refine lv_iconst (v := nI (2)) hx hb dX2_run_45 (by decide) ?_
        refine rI hx hb hK hW 4 rfl (k := 2) (by omega) (by omega) dX2_run_46 ?_
        refine lv_aload_n hx hb dX2_run_47 rfl (lv_at hl 0 rfl) ?_
        refine va_get (D := D) (ci := 2) (v := .ref ax) (C := RX2) (T := TX2) (N := 8) hx hb hts i_X2_run_X2 hown hK hW.1 0 rfl rfl 6 (by decide) (hts (.fieldLink RX2 21 "TreeHashes$Mix" "w" "[I") f_X2_run_3) (fun _ h9 => h9) rfl dX2_run_48 ?_
        refine lv_iconst (v := nI (3)) hx hb dX2_run_51 (by decide) ?_
        refine rI hx hb hK hW 4 rfl (k := 3) (by omega) (by omega) dX2_run_52 ?_
        refine kVv (As := [.int (nI (1)), .int (nI (5)), .int (nI (9)), .int (nI (13)), .int ((wr bl i) 2), .int ((wr bl i) 3)]) (rest := []) S0 hK hst hA hW [0, 3] (fun sz => c_X2_turn l D cy t m0 mc mb mv ax ay ct ln fl (tn (vr (vin ch ct ln fl) bl i) 0 4 8 12 ((wr bl i) 0) ((wr bl i) 1)) 1 5 9 13 ((wr bl i) 2) ((wr bl i) 3) (by omega) (by omega) (by omega) (by omega) sz) rfl (by decide) (cwV 6 hts gX2_run_X2_turn rfl rfl rfl (by decide +kernel) ⟨Nat.le_of_ble_eq_true rfl, Nat.le_of_ble_eq_true rfl⟩) (fun _ => rfl) 0 2 rfl rfl rfl hl.1 rfl (Nat.le_of_ble_eq_true rfl) dX2_run_53 ⟨Nat.le_of_ble_eq_true rfl, Nat.le_of_ble_eq_true rfl⟩ (fun u53 H locs p53 hW => ?_)
        have hW : Wd D A s [(m0, .inr (2, [.ref mc, .ref mb, .long (ct), .int (ln), .int (fl), .ref mv, .ref ax, .ref ay])), (mc, .inl (cy 0, 8, .inl (ch))), (mb, .inl (cy 0, 16, .inl (bl))), (mv, .inl (cy 0, 16, .inl (tn (tn (vr (vin ch ct ln fl) bl i) 0 4 8 12 ((wr bl i) 0) ((wr bl i) 1)) 1 5 9 13 ((wr bl i) 2) ((wr bl i) 3)))), (ax, .inl (cy 0, 16, .inl (wr bl i))), (ay, .inl (cy 0, 16, .inl (ny)))] H locs := hW
        refine lv_aload_n hx hb dX2_run_56 rfl (lv_at hl 0 rfl) ?_
        refine lv_iconst (v := nI (2)) hx hb dX2_run_57 (by decide) ?_
        refine lv_bipush (v := nI (6)) hx hb dX2_run_58 (by decide) ?_
        refine lv_bipush (v := nI (10)) hx hb dX2_run_60 (by decide) ?_
        refine lv_bipush (v := nI (14)) hx hb dX2_run_62 (by decide) ?_
        refine lv_aload_n hx hb dX2_run_64 rfl (lv_at hl 0 rfl) ?_
        refine va_get (D := D) (ci := 2) (v := .ref ax) (C := RX2) (T := TX2) (N := 8) hx hb hts i_X2_run_X2 hown hK hW.1 0 rfl rfl 6 (by decide) (hts (.fieldLink RX2 21 "TreeHashes$Mix" "w" "[I") f_X2_run_3) (fun _ h9 => h9) rfl dX2_run_65 ?_
        refine lv_iconst (v := nI (4)) hx hb dX2_run_68 (by decide) ?_
        refine rI hx hb hK hW 4 rfl (k := 4) (by omega) (by omega) dX2_run_69 ?_
        refine lv_aload_n hx hb dX2_run_70 rfl (lv_at hl 0 rfl) ?_
        refine va_get (D := D) (ci := 2) (v := .ref ax) (C := RX2) (T := TX2) (N := 8) hx hb hts i_X2_run_X2 hown hK hW.1 0 rfl rfl 6 (by decide) (hts (.fieldLink RX2 21 "TreeHashes$Mix" "w" "[I") f_X2_run_3) (fun _ h9 => h9) rfl dX2_run_71 ?_
        refine lv_iconst (v := nI (5)) hx hb dX2_run_74 (by decide) ?_
        refine rI hx hb hK hW 4 rfl (k := 5) (by omega) (by omega) dX2_run_75 ?_
        refine kVv (As := [.int (nI (2)), .int (nI (6)), .int (nI (10)), .int (nI (14)), .int ((wr bl i) 4), .int ((wr bl i) 5)]) (rest := []) S0 hK hst hA hW [0, 3] (fun sz => c_X2_turn l D cy t m0 mc mb mv ax ay ct ln fl (tn (tn (vr (vin ch ct ln fl) bl i) 0 4 8 12 ((wr bl i) 0) ((wr bl i) 1)) 1 5 9 13 ((wr bl i) 2) ((wr bl i) 3)) 2 6 10 14 ((wr bl i) 4) ((wr bl i) 5) (by omega) (by omega) (by omega) (by omega) sz) rfl (by decide) (cwV 6 hts gX2_run_X2_turn rfl rfl rfl (by decide +kernel) ⟨Nat.le_of_ble_eq_true rfl, Nat.le_of_ble_eq_true rfl⟩) (fun _ => rfl) 0 2 rfl rfl rfl hl.1 rfl (Nat.le_of_ble_eq_true rfl) dX2_run_76 ⟨Nat.le_of_ble_eq_true rfl, Nat.le_of_ble_eq_true rfl⟩ (fun u76 H locs p76 hW => ?_)
        have hW : Wd D A s [(m0, .inr (2, [.ref mc, .ref mb, .long (ct), .int (ln), .int (fl), .ref mv, .ref ax, .ref ay])), (mc, .inl (cy 0, 8, .inl (ch))), (mb, .inl (cy 0, 16, .inl (bl))), (mv, .inl (cy 0, 16, .inl (tn (tn (tn (vr (vin ch ct ln fl) bl i) 0 4 8 12 ((wr bl i) 0) ((wr bl i) 1)) 1 5 9 13 ((wr bl i) 2) ((wr bl i) 3)) 2 6 10 14 ((wr bl i) 4) ((wr bl i) 5)))), (ax, .inl (cy 0, 16, .inl (wr bl i))), (ay, .inl (cy 0, 16, .inl (ny)))] H locs := hW
        refine lv_aload_n hx hb dX2_run_79 rfl (lv_at hl 0 rfl) ?_
        refine lv_iconst (v := nI (3)) hx hb dX2_run_80 (by decide) ?_
        refine lv_bipush (v := nI (7)) hx hb dX2_run_81 (by decide) ?_
        refine lv_bipush (v := nI (11)) hx hb dX2_run_83 (by decide) ?_
        refine lv_bipush (v := nI (15)) hx hb dX2_run_85 (by decide) ?_
        refine lv_aload_n hx hb dX2_run_87 rfl (lv_at hl 0 rfl) ?_
        refine va_get (D := D) (ci := 2) (v := .ref ax) (C := RX2) (T := TX2) (N := 8) hx hb hts i_X2_run_X2 hown hK hW.1 0 rfl rfl 6 (by decide) (hts (.fieldLink RX2 21 "TreeHashes$Mix" "w" "[I") f_X2_run_3) (fun _ h9 => h9) rfl dX2_run_88 ?_
        refine lv_bipush (v := nI (6)) hx hb dX2_run_91 (by decide) ?_
        refine rI hx hb hK hW 4 rfl (k := 6) (by omega) (by omega) dX2_run_93 ?_
        refine lv_aload_n hx hb dX2_run_94 rfl (lv_at hl 0 rfl) ?_
        refine va_get (D := D) (ci := 2) (v := .ref ax) (C := RX2) (T := TX2) (N := 8) hx hb hts i_X2_run_X2 hown hK hW.1 0 rfl rfl 6 (by decide) (hts (.fieldLink RX2 21 "TreeHashes$Mix" "w" "[I") f_X2_run_3) (fun _ h9 => h9) rfl dX2_run_95 ?_
        refine lv_bipush (v := nI (7)) hx hb dX2_run_98 (by decide) ?_
        refine rI hx hb hK hW 4 rfl (k := 7) (by omega) (by omega) dX2_run_100 ?_
        refine kVv (As := [.int (nI (3)), .int (nI (7)), .int (nI (11)), .int (nI (15)), .int ((wr bl i) 6), .int ((wr bl i) 7)]) (rest := []) S0 hK hst hA hW [0, 3] (fun sz => c_X2_turn l D cy t m0 mc mb mv ax ay ct ln fl (tn (tn (tn (vr (vin ch ct ln fl) bl i) 0 4 8 12 ((wr bl i) 0) ((wr bl i) 1)) 1 5 9 13 ((wr bl i) 2) ((wr bl i) 3)) 2 6 10 14 ((wr bl i) 4) ((wr bl i) 5)) 3 7 11 15 ((wr bl i) 6) ((wr bl i) 7) (by omega) (by omega) (by omega) (by omega) sz) rfl (by decide) (cwV 6 hts gX2_run_X2_turn rfl rfl rfl (by decide +kernel) ⟨Nat.le_of_ble_eq_true rfl, Nat.le_of_ble_eq_true rfl⟩) (fun _ => rfl) 0 2 rfl rfl rfl hl.1 rfl (Nat.le_of_ble_eq_true rfl) dX2_run_101 ⟨Nat.le_of_ble_eq_true rfl, Nat.le_of_ble_eq_true rfl⟩ (fun u101 H locs p101 hW => ?_)
        have hW : Wd D A s [(m0, .inr (2, [.ref mc, .ref mb, .long (ct), .int (ln), .int (fl), .ref mv, .ref ax, .ref ay])), (mc, .inl (cy 0, 8, .inl (ch))), (mb, .inl (cy 0, 16, .inl (bl))), (mv, .inl (cy 0, 16, .inl (tn (tn (tn (tn (vr (vin ch ct ln fl) bl i) 0 4 8 12 ((wr bl i) 0) ((wr bl i) 1)) 1 5 9 13 ((wr bl i) 2) ((wr bl i) 3)) 2 6 10 14 ((wr bl i) 4) ((wr bl i) 5)) 3 7 11 15 ((wr bl i) 6) ((wr bl i) 7)))), (ax, .inl (cy 0, 16, .inl (wr bl i))), (ay, .inl (cy 0, 16, .inl (ny)))] H locs := hW
        refine lv_aload_n hx hb dX2_run_104 rfl (lv_at hl 0 rfl) ?_
        refine lv_iconst (v := nI (0)) hx hb dX2_run_105 (by decide) ?_
        refine lv_iconst (v := nI (5)) hx hb dX2_run_106 (by decide) ?_
        refine lv_bipush (v := nI (10)) hx hb dX2_run_107 (by decide) ?_
        refine lv_bipush (v := nI (15)) hx hb dX2_run_109 (by decide) ?_
        refine lv_aload_n hx hb dX2_run_111 rfl (lv_at hl 0 rfl) ?_
        refine va_get (D := D) (ci := 2) (v := .ref ax) (C := RX2) (T := TX2) (N := 8) hx hb hts i_X2_run_X2 hown hK hW.1 0 rfl rfl 6 (by decide) (hts (.fieldLink RX2 21 "TreeHashes$Mix" "w" "[I") f_X2_run_3) (fun _ h9 => h9) rfl dX2_run_112 ?_
        refine lv_bipush (v := nI (8)) hx hb dX2_run_115 (by decide) ?_
        refine rI hx hb hK hW 4 rfl (k := 8) (by omega) (by omega) dX2_run_117 ?_
        refine lv_aload_n hx hb dX2_run_118 rfl (lv_at hl 0 rfl) ?_
        refine va_get (D := D) (ci := 2) (v := .ref ax) (C := RX2) (T := TX2) (N := 8) hx hb hts i_X2_run_X2 hown hK hW.1 0 rfl rfl 6 (by decide) (hts (.fieldLink RX2 21 "TreeHashes$Mix" "w" "[I") f_X2_run_3) (fun _ h9 => h9) rfl dX2_run_119 ?_
        refine lv_bipush (v := nI (9)) hx hb dX2_run_122 (by decide) ?_
        refine rI hx hb hK hW 4 rfl (k := 9) (by omega) (by omega) dX2_run_124 ?_
        refine kVv (As := [.int (nI (0)), .int (nI (5)), .int (nI (10)), .int (nI (15)), .int ((wr bl i) 8), .int ((wr bl i) 9)]) (rest := []) S0 hK hst hA hW [0, 3] (fun sz => c_X2_turn l D cy t m0 mc mb mv ax ay ct ln fl (tn (tn (tn (tn (vr (vin ch ct ln fl) bl i) 0 4 8 12 ((wr bl i) 0) ((wr bl i) 1)) 1 5 9 13 ((wr bl i) 2) ((wr bl i) 3)) 2 6 10 14 ((wr bl i) 4) ((wr bl i) 5)) 3 7 11 15 ((wr bl i) 6) ((wr bl i) 7)) 0 5 10 15 ((wr bl i) 8) ((wr bl i) 9) (by omega) (by omega) (by omega) (by omega) sz) rfl (by decide) (cwV 6 hts gX2_run_X2_turn rfl rfl rfl (by decide +kernel) ⟨Nat.le_of_ble_eq_true rfl, Nat.le_of_ble_eq_true rfl⟩) (fun _ => rfl) 0 2 rfl rfl rfl hl.1 rfl (Nat.le_of_ble_eq_true rfl) dX2_run_125 ⟨Nat.le_of_ble_eq_true rfl, Nat.le_of_ble_eq_true rfl⟩ (fun u125 H locs p125 hW => ?_)
        have hW : Wd D A s [(m0, .inr (2, [.ref mc, .ref mb, .long (ct), .int (ln), .int (fl), .ref mv, .ref ax, .ref ay])), (mc, .inl (cy 0, 8, .inl (ch))), (mb, .inl (cy 0, 16, .inl (bl))), (mv, .inl (cy 0, 16, .inl (tn (tn (tn (tn (tn (vr (vin ch ct ln fl) bl i) 0 4 8 12 ((wr bl i) 0) ((wr bl i) 1)) 1 5 9 13 ((wr bl i) 2) ((wr bl i) 3)) 2 6 10 14 ((wr bl i) 4) ((wr bl i) 5)) 3 7 11 15 ((wr bl i) 6) ((wr bl i) 7)) 0 5 10 15 ((wr bl i) 8) ((wr bl i) 9)))), (ax, .inl (cy 0, 16, .inl (wr bl i))), (ay, .inl (cy 0, 16, .inl (ny)))] H locs := hW
        refine lv_aload_n hx hb dX2_run_128 rfl (lv_at hl 0 rfl) ?_
        refine lv_iconst (v := nI (1)) hx hb dX2_run_129 (by decide) ?_
        refine lv_bipush (v := nI (6)) hx hb dX2_run_130 (by decide) ?_
        refine lv_bipush (v := nI (11)) hx hb dX2_run_132 (by decide) ?_
        refine lv_bipush (v := nI (12)) hx hb dX2_run_134 (by decide) ?_
        refine lv_aload_n hx hb dX2_run_136 rfl (lv_at hl 0 rfl) ?_
        refine va_get (D := D) (ci := 2) (v := .ref ax) (C := RX2) (T := TX2) (N := 8) hx hb hts i_X2_run_X2 hown hK hW.1 0 rfl rfl 6 (by decide) (hts (.fieldLink RX2 21 "TreeHashes$Mix" "w" "[I") f_X2_run_3) (fun _ h9 => h9) rfl dX2_run_137 ?_
        refine lv_bipush (v := nI (10)) hx hb dX2_run_140 (by decide) ?_
        refine rI hx hb hK hW 4 rfl (k := 10) (by omega) (by omega) dX2_run_142 ?_
        refine lv_aload_n hx hb dX2_run_143 rfl (lv_at hl 0 rfl) ?_
        refine va_get (D := D) (ci := 2) (v := .ref ax) (C := RX2) (T := TX2) (N := 8) hx hb hts i_X2_run_X2 hown hK hW.1 0 rfl rfl 6 (by decide) (hts (.fieldLink RX2 21 "TreeHashes$Mix" "w" "[I") f_X2_run_3) (fun _ h9 => h9) rfl dX2_run_144 ?_
        refine lv_bipush (v := nI (11)) hx hb dX2_run_147 (by decide) ?_
        refine rI hx hb hK hW 4 rfl (k := 11) (by omega) (by omega) dX2_run_149 ?_
        refine kVv (As := [.int (nI (1)), .int (nI (6)), .int (nI (11)), .int (nI (12)), .int ((wr bl i) 10), .int ((wr bl i) 11)]) (rest := []) S0 hK hst hA hW [0, 3] (fun sz => c_X2_turn l D cy t m0 mc mb mv ax ay ct ln fl (tn (tn (tn (tn (tn (vr (vin ch ct ln fl) bl i) 0 4 8 12 ((wr bl i) 0) ((wr bl i) 1)) 1 5 9 13 ((wr bl i) 2) ((wr bl i) 3)) 2 6 10 14 ((wr bl i) 4) ((wr bl i) 5)) 3 7 11 15 ((wr bl i) 6) ((wr bl i) 7)) 0 5 10 15 ((wr bl i) 8) ((wr bl i) 9)) 1 6 11 12 ((wr bl i) 10) ((wr bl i) 11) (by omega) (by omega) (by omega) (by omega) sz) rfl (by decide) (cwV 6 hts gX2_run_X2_turn rfl rfl rfl (by decide +kernel) ⟨Nat.le_of_ble_eq_true rfl, Nat.le_of_ble_eq_true rfl⟩) (fun _ => rfl) 0 2 rfl rfl rfl hl.1 rfl (Nat.le_of_ble_eq_true rfl) dX2_run_150 ⟨Nat.le_of_ble_eq_true rfl, Nat.le_of_ble_eq_true rfl⟩ (fun u150 H locs p150 hW => ?_)
        have hW : Wd D A s [(m0, .inr (2, [.ref mc, .ref mb, .long (ct), .int (ln), .int (fl), .ref mv, .ref ax, .ref ay])), (mc, .inl (cy 0, 8, .inl (ch))), (mb, .inl (cy 0, 16, .inl (bl))), (mv, .inl (cy 0, 16, .inl (tn (tn (tn (tn (tn (tn (vr (vin ch ct ln fl) bl i) 0 4 8 12 ((wr bl i) 0) ((wr bl i) 1)) 1 5 9 13 ((wr bl i) 2) ((wr bl i) 3)) 2 6 10 14 ((wr bl i) 4) ((wr bl i) 5)) 3 7 11 15 ((wr bl i) 6) ((wr bl i) 7)) 0 5 10 15 ((wr bl i) 8) ((wr bl i) 9)) 1 6 11 12 ((wr bl i) 10) ((wr bl i) 11)))), (ax, .inl (cy 0, 16, .inl (wr bl i))), (ay, .inl (cy 0, 16, .inl (ny)))] H locs := hW
        refine lv_aload_n hx hb dX2_run_153 rfl (lv_at hl 0 rfl) ?_
        refine lv_iconst (v := nI (2)) hx hb dX2_run_154 (by decide) ?_
        refine lv_bipush (v := nI (7)) hx hb dX2_run_155 (by decide) ?_
        refine lv_bipush (v := nI (8)) hx hb dX2_run_157 (by decide) ?_
        refine lv_bipush (v := nI (13)) hx hb dX2_run_159 (by decide) ?_
        refine lv_aload_n hx hb dX2_run_161 rfl (lv_at hl 0 rfl) ?_
        refine va_get (D := D) (ci := 2) (v := .ref ax) (C := RX2) (T := TX2) (N := 8) hx hb hts i_X2_run_X2 hown hK hW.1 0 rfl rfl 6 (by decide) (hts (.fieldLink RX2 21 "TreeHashes$Mix" "w" "[I") f_X2_run_3) (fun _ h9 => h9) rfl dX2_run_162 ?_
        refine lv_bipush (v := nI (12)) hx hb dX2_run_165 (by decide) ?_
        refine rI hx hb hK hW 4 rfl (k := 12) (by omega) (by omega) dX2_run_167 ?_
        refine lv_aload_n hx hb dX2_run_168 rfl (lv_at hl 0 rfl) ?_
        refine va_get (D := D) (ci := 2) (v := .ref ax) (C := RX2) (T := TX2) (N := 8) hx hb hts i_X2_run_X2 hown hK hW.1 0 rfl rfl 6 (by decide) (hts (.fieldLink RX2 21 "TreeHashes$Mix" "w" "[I") f_X2_run_3) (fun _ h9 => h9) rfl dX2_run_169 ?_
        refine lv_bipush (v := nI (13)) hx hb dX2_run_172 (by decide) ?_
        refine rI hx hb hK hW 4 rfl (k := 13) (by omega) (by omega) dX2_run_174 ?_
        refine kVv (As := [.int (nI (2)), .int (nI (7)), .int (nI (8)), .int (nI (13)), .int ((wr bl i) 12), .int ((wr bl i) 13)]) (rest := []) S0 hK hst hA hW [0, 3] (fun sz => c_X2_turn l D cy t m0 mc mb mv ax ay ct ln fl (tn (tn (tn (tn (tn (tn (vr (vin ch ct ln fl) bl i) 0 4 8 12 ((wr bl i) 0) ((wr bl i) 1)) 1 5 9 13 ((wr bl i) 2) ((wr bl i) 3)) 2 6 10 14 ((wr bl i) 4) ((wr bl i) 5)) 3 7 11 15 ((wr bl i) 6) ((wr bl i) 7)) 0 5 10 15 ((wr bl i) 8) ((wr bl i) 9)) 1 6 11 12 ((wr bl i) 10) ((wr bl i) 11)) 2 7 8 13 ((wr bl i) 12) ((wr bl i) 13) (by omega) (by omega) (by omega) (by omega) sz) rfl (by decide) (cwV 6 hts gX2_run_X2_turn rfl rfl rfl (by decide +kernel) ⟨Nat.le_of_ble_eq_true rfl, Nat.le_of_ble_eq_true rfl⟩) (fun _ => rfl) 0 2 rfl rfl rfl hl.1 rfl (Nat.le_of_ble_eq_true rfl) dX2_run_175 ⟨Nat.le_of_ble_eq_true rfl, Nat.le_of_ble_eq_true rfl⟩ (fun u175 H locs p175 hW => ?_)
        have hW : Wd D A s [(m0, .inr (2, [.ref mc, .ref mb, .long (ct), .int (ln), .int (fl), .ref mv, .ref ax, .ref ay])), (mc, .inl (cy 0, 8, .inl (ch))), (mb, .inl (cy 0, 16, .inl (bl))), (mv, .inl (cy 0, 16, .inl (tn (tn (tn (tn (tn (tn (tn (vr (vin ch ct ln fl) bl i) 0 4 8 12 ((wr bl i) 0) ((wr bl i) 1)) 1 5 9 13 ((wr bl i) 2) ((wr bl i) 3)) 2 6 10 14 ((wr bl i) 4) ((wr bl i) 5)) 3 7 11 15 ((wr bl i) 6) ((wr bl i) 7)) 0 5 10 15 ((wr bl i) 8) ((wr bl i) 9)) 1 6 11 12 ((wr bl i) 10) ((wr bl i) 11)) 2 7 8 13 ((wr bl i) 12) ((wr bl i) 13)))), (ax, .inl (cy 0, 16, .inl (wr bl i))), (ay, .inl (cy 0, 16, .inl (ny)))] H locs := hW
        refine lv_aload_n hx hb dX2_run_178 rfl (lv_at hl 0 rfl) ?_
        refine lv_iconst (v := nI (3)) hx hb dX2_run_179 (by decide) ?_
        refine lv_iconst (v := nI (4)) hx hb dX2_run_180 (by decide) ?_
        refine lv_bipush (v := nI (9)) hx hb dX2_run_181 (by decide) ?_
        refine lv_bipush (v := nI (14)) hx hb dX2_run_183 (by decide) ?_
        refine lv_aload_n hx hb dX2_run_185 rfl (lv_at hl 0 rfl) ?_
        refine va_get (D := D) (ci := 2) (v := .ref ax) (C := RX2) (T := TX2) (N := 8) hx hb hts i_X2_run_X2 hown hK hW.1 0 rfl rfl 6 (by decide) (hts (.fieldLink RX2 21 "TreeHashes$Mix" "w" "[I") f_X2_run_3) (fun _ h9 => h9) rfl dX2_run_186 ?_
        refine lv_bipush (v := nI (14)) hx hb dX2_run_189 (by decide) ?_
        refine rI hx hb hK hW 4 rfl (k := 14) (by omega) (by omega) dX2_run_191 ?_
        refine lv_aload_n hx hb dX2_run_192 rfl (lv_at hl 0 rfl) ?_
        refine va_get (D := D) (ci := 2) (v := .ref ax) (C := RX2) (T := TX2) (N := 8) hx hb hts i_X2_run_X2 hown hK hW.1 0 rfl rfl 6 (by decide) (hts (.fieldLink RX2 21 "TreeHashes$Mix" "w" "[I") f_X2_run_3) (fun _ h9 => h9) rfl dX2_run_193 ?_
        refine lv_bipush (v := nI (15)) hx hb dX2_run_196 (by decide) ?_
        refine rI hx hb hK hW 4 rfl (k := 15) (by omega) (by omega) dX2_run_198 ?_
        refine kVv (As := [.int (nI (3)), .int (nI (4)), .int (nI (9)), .int (nI (14)), .int ((wr bl i) 14), .int ((wr bl i) 15)]) (rest := []) S0 hK hst hA hW [0, 3] (fun sz => c_X2_turn l D cy t m0 mc mb mv ax ay ct ln fl (tn (tn (tn (tn (tn (tn (tn (vr (vin ch ct ln fl) bl i) 0 4 8 12 ((wr bl i) 0) ((wr bl i) 1)) 1 5 9 13 ((wr bl i) 2) ((wr bl i) 3)) 2 6 10 14 ((wr bl i) 4) ((wr bl i) 5)) 3 7 11 15 ((wr bl i) 6) ((wr bl i) 7)) 0 5 10 15 ((wr bl i) 8) ((wr bl i) 9)) 1 6 11 12 ((wr bl i) 10) ((wr bl i) 11)) 2 7 8 13 ((wr bl i) 12) ((wr bl i) 13)) 3 4 9 14 ((wr bl i) 14) ((wr bl i) 15) (by omega) (by omega) (by omega) (by omega) sz) rfl (by decide) (cwV 6 hts gX2_run_X2_turn rfl rfl rfl (by decide +kernel) ⟨Nat.le_of_ble_eq_true rfl, Nat.le_of_ble_eq_true rfl⟩) (fun _ => rfl) 0 2 rfl rfl rfl hl.1 rfl (Nat.le_of_ble_eq_true rfl) dX2_run_199 ⟨Nat.le_of_ble_eq_true rfl, Nat.le_of_ble_eq_true rfl⟩ (fun u199 H locs p199 hW => ?_)
        have hW : Wd D A s [(m0, .inr (2, [.ref mc, .ref mb, .long (ct), .int (ln), .int (fl), .ref mv, .ref ax, .ref ay])), (mc, .inl (cy 0, 8, .inl (ch))), (mb, .inl (cy 0, 16, .inl (bl))), (mv, .inl (cy 0, 16, .inl (tn (tn (tn (tn (tn (tn (tn (tn (vr (vin ch ct ln fl) bl i) 0 4 8 12 ((wr bl i) 0) ((wr bl i) 1)) 1 5 9 13 ((wr bl i) 2) ((wr bl i) 3)) 2 6 10 14 ((wr bl i) 4) ((wr bl i) 5)) 3 7 11 15 ((wr bl i) 6) ((wr bl i) 7)) 0 5 10 15 ((wr bl i) 8) ((wr bl i) 9)) 1 6 11 12 ((wr bl i) 10) ((wr bl i) 11)) 2 7 8 13 ((wr bl i) 12) ((wr bl i) 13)) 3 4 9 14 ((wr bl i) 14) ((wr bl i) 15)))), (ax, .inl (cy 0, 16, .inl (wr bl i))), (ay, .inl (cy 0, 16, .inl (ny)))] H locs := hW
        rw [show (tn (tn (tn (tn (tn (tn (tn (tn (vr (vin ch ct ln fl) bl i) 0 4 8 12 ((wr bl i) 0) ((wr bl i) 1)) 1 5 9 13 ((wr bl i) 2) ((wr bl i) 3)) 2 6 10 14 ((wr bl i) 4) ((wr bl i) 5)) 3 7 11 15 ((wr bl i) 6) ((wr bl i) 7)) 0 5 10 15 ((wr bl i) 8) ((wr bl i) 9)) 1 6 11 12 ((wr bl i) 10) ((wr bl i) 11)) 2 7 8 13 ((wr bl i) 12) ((wr bl i) 13)) 3 4 9 14 ((wr bl i) 14) ((wr bl i) 15)) = (vr (vin ch ct ln fl) bl (i + 1)) from rfl] at hW
        have hW : Wd D A s [(m0, .inr (2, [.ref mc, .ref mb, .long (ct), .int (ln), .int (fl), .ref mv, .ref ax, .ref ay])), (mc, .inl (cy 0, 8, .inl (ch))), (mb, .inl (cy 0, 16, .inl (bl))), (mv, .inl (cy 0, 16, .inl (vr (vin ch ct ln fl) bl (i + 1)))), (ax, .inl (cy 0, 16, .inl (wr bl i))), (ay, .inl (cy 0, 16, .inl (ny)))] H locs := hW
        refine lv_aload_n hx hb dX2_run_202 rfl (lv_at hl 0 rfl) ?_
        refine kVv (As := []) (rest := []) S0 hK hst hA hW [0, 4, 5] (fun sz => c_X2_reorder l D cy t m0 mc mb mv ax ay ct ln fl (wr bl i) ny  sz) rfl (by decide) (cwV 0 hts gX2_run_X2_reorder rfl rfl rfl (by decide +kernel) ⟨Nat.le_of_ble_eq_true rfl, Nat.le_of_ble_eq_true rfl⟩) (fun _ => rfl) 0 2 rfl rfl rfl hl.1 rfl (Nat.le_of_ble_eq_true rfl) dX2_run_203 ⟨Nat.le_of_ble_eq_true rfl, Nat.le_of_ble_eq_true rfl⟩ (fun u203 H locs p203 hW => ?_)
        have hW : Wd D A s [(m0, .inr (2, [.ref mc, .ref mb, .long (ct), .int (ln), .int (fl), .ref mv, .ref ay, .ref ax])), (mc, .inl (cy 0, 8, .inl (ch))), (mb, .inl (cy 0, 16, .inl (bl))), (mv, .inl (cy 0, 16, .inl (vr (vin ch ct ln fl) bl (i + 1)))), (ay, .inl (cy 0, 16, .inl (fun k => (wr bl i) (orN k)))), (ax, .inl (cy 0, 16, .inl ((wr bl i))))] H locs := hW
        rw [show (fun k => (wr bl i) (orN k)) = (wr bl (i + 1)) from rfl] at hW
        have hW : Wd D A s [(m0, .inr (2, [.ref mc, .ref mb, .long (ct), .int (ln), .int (fl), .ref mv, .ref ay, .ref ax])), (mc, .inl (cy 0, 8, .inl (ch))), (mb, .inl (cy 0, 16, .inl (bl))), (mv, .inl (cy 0, 16, .inl (vr (vin ch ct ln fl) bl (i + 1)))), (ay, .inl (cy 0, 16, .inl (wr bl (i + 1)))), (ax, .inl (cy 0, 16, .inl ((wr bl i))))] H locs := hW
        refine lv_iinc (v := nI (i + 1)) (lv' := [(1, .int (nI (i + 1))), (0, .ref m0)]) hx hb dX2_run_206 hl (k := 1) rfl (nI_1 _) (by decide) rfl (fun ls hl => ?_)
        refine lv_goto (tgt := 6) hx hb dX2_run_209 (by decide) ?_
        exact ih6 (i + 1) ay ax (wr bl i) (by omega) (by omega) _ _ hW _ (lv_sub hl [1, 0] rfl)
  exact loop6 _ 0 aw an nw (Nat.lt_succ_self _) (by omega) _ _ hW _ (lv_sub hl [1, 0] rfl)

theorem f_X2_prepare_0 : Cond.fieldLink RX2 9 "TreeHashes$Mix" "chain" "[I" ∈ wsX2_prepare := by decide +kernel
theorem i_X2_prepare_X2 : ∀ w ∈ wsX20, w ∈ wsX2_prepare := by decide +kernel
theorem f_X2_prepare_2 : Cond.fieldLink RX2 15 "TreeHashes$Mix" "block" "[I" ∈ wsX2_prepare := by decide +kernel
theorem f_X2_prepare_3 : Cond.fieldLink RX2 27 "TreeHashes$Mix" "count" "J" ∈ wsX2_prepare := by decide +kernel
theorem f_X2_prepare_4 : Cond.fieldLink RX2 31 "TreeHashes$Mix" "length" "I" ∈ wsX2_prepare := by decide +kernel
theorem f_X2_prepare_5 : Cond.fieldLink RX2 35 "TreeHashes$Mix" "flags" "I" ∈ wsX2_prepare := by decide +kernel
set_option maxHeartbeats 4000000 in
set_option maxRecDepth 100000 in
theorem c_X2_prepare (l : Launch) (D : va_G) (cy : Nat → ClassId) (t : Nat × Nat) (m0 : Nat) (mc : Nat) (mb : Nat) (mv : Nat) (aw : Nat) (an : Nat) (ct : Int64) (ln : Int32) (fl : Int32) (ch : Nat → Int32) (bl : Nat → Int32) (kc : Nat) (kb : Nat) (kf : Nat → Int32) (kg : Nat → Int32) (ct2 : Int64) (ln2 : Int32) (fl2 : Int32)  (sz : Nat) : Met l yX2_prepare wsX2_prepare ({ frames := 0, cells := 0, slots := 0, locals := 0 }) (PcW D cy t [(m0, .inr (2, [.ref mc, .ref mb, .long (ct), .int (ln), .int (fl), .ref mv, .ref aw, .ref an])), (mc, .inl (cy 0, 8, .inl (ch))), (mb, .inl (cy 0, 16, .inl (bl))), (kc, .inl (cy 0, 8, .inl (kf))), (kb, .inl (cy 0, 16, .inl (kg)))] [.ref m0, .ref kc, .ref kb, .long (ct2), .int (ln2), .int (fl2)] sz) (QvA D cy (fun u : Unit => True) (fun u : Unit => [(m0, .inr (2, [.ref mc, .ref mb, .long (ct2), .int (ln2), .int (fl2), .ref mv, .ref aw, .ref an])), (mc, .inl (cy 0, 8, .inl (kf))), (mb, .inl (cy 0, 16, .inl (kg))), (kc, .inl (cy 0, 8, .inl (kf))), (kb, .inl (cy 0, 16, .inl (kg)))]) (va_A [(m0, .inr (2, [.ref mc, .ref mb, .long (ct), .int (ln), .int (fl), .ref mv, .ref aw, .ref an])), (mc, .inl (cy 0, 8, .inl (ch))), (mb, .inl (cy 0, 16, .inl (bl))), (kc, .inl (cy 0, 8, .inl (kf))), (kb, .inl (cy 0, 16, .inl (kg)))] sz)) 0 0 (va_A [(m0, .inr (2, [.ref mc, .ref mb, .long (ct), .int (ln), .int (fl), .ref mv, .ref aw, .ref an])), (mc, .inl (cy 0, 8, .inl (ch))), (mb, .inl (cy 0, 16, .inl (bl))), (kc, .inl (cy 0, 8, .inl (kf))), (kb, .inl (cy 0, 16, .inl (kg)))] sz) := by
  refine M_ofW (cc := cX2_prepare) (maxL := 8) (ret := none) (by decide) rfl (Nat.le_of_ble_eq_true rfl) ?_
  intro p e s m below meth c A ls args Q hQ S0 hr hlocks hnm hK hst hA hW hl
  have hx := S0.1; have hb := S0.2.1; have hml := S0.2.2.1; have hown := S0.2.2.2.1; have hts := S0.2.2.2.2
  have hl : lv_has ls 8 [(0, .ref m0), (1, .ref kc), (2, .ref kb), (3, .long (ct2)), (5, .int (ln2)), (6, .int (fl2))] := hl
  refine lv_iconst (v := nI (0)) hx hb dX2_prepare_0 (by decide) ?_
  refine lv_istore (lv' := [(7, .int (nI (0))), (0, .ref m0), (1, .ref kc), (2, .ref kb), (3, .long (ct2)), (5, .int (ln2)), (6, .int (fl2))]) hx hb dX2_prepare_1 hl (by decide) rfl (fun ls hl => ?_)
  have loop3 : ∀ (nF : Nat) (i : Nat), 8 - i < nF → (i ≤ 8) → ∀ (H : Heap) (locs : List Loc), Wd D A s [(m0, .inr (2, [.ref mc, .ref mb, .long (ct), .int (ln), .int (fl), .ref mv, .ref aw, .ref an])), (mc, .inl (cy 0, 8, .inl (apG ch 0 kf i))), (mb, .inl (cy 0, 16, .inl (bl))), (kc, .inl (cy 0, 8, .inl (kf))), (kb, .inl (cy 0, 16, .inl (kg)))] H locs → ∀ ls : Array Slot, lv_has ls 8 [(0, .ref m0), (1, .ref kc), (2, .ref kb), (3, .long (ct2)), (5, .int (ln2)), (6, .int (fl2)), (7, .int (nI (i)))] → W p l e ({ frames := 0, cells := 0, slots := 0, locals := 0 }) s m args below meth c H locs 0 0 Q (F0 m 3 ls []) := by
    intro nF
    induction nF with
    | zero => intro i hf; exact absurd hf (Nat.not_lt_zero _)
    | succ nF ih3 =>
      intro i hf hi H locs hW ls hl
      refine lv_iload hx hb dX2_prepare_3 (lv_at hl 6 rfl) ?_
      refine lv_aload_n hx hb dX2_prepare_5 rfl (lv_at hl 0 rfl) ?_
      refine va_get (D := D) (ci := 2) (v := .ref mc) (C := RX2) (T := TX2) (N := 8) hx hb hts i_X2_prepare_X2 hown hK hW.1 0 rfl rfl 0 (by decide) (hts (.fieldLink RX2 9 "TreeHashes$Mix" "chain" "[I") f_X2_prepare_0) (fun _ h9 => h9) rfl dX2_prepare_6 ?_
      refine alI hx hb hK hW 1 0 (ci := 0) rfl rfl dX2_prepare_9 ?_
      refine iGe (a := i) (b := 8) (tgt := 37) hx hb dX2_prepare_10 (by decide) (by omega) (by omega) (fun h10 => ?_) (fun h10 => ?_)
      · skip
        refine lv_iconst (v := nI (0)) hx hb dX2_prepare_37 (by decide) ?_
        refine lv_istore (lv' := [(7, .int (nI (0))), (0, .ref m0), (1, .ref kc), (2, .ref kb), (3, .long (ct2)), (5, .int (ln2)), (6, .int (fl2))]) hx hb dX2_prepare_38 hl (by decide) rfl (fun ls hl => ?_)
        have e9 : i = 8 := by omega
        try rw [e9] at hW
        have loop40 : ∀ (nF : Nat) (i2 : Nat), 16 - i2 < nF → (i2 ≤ 16) → ∀ (H : Heap) (locs : List Loc), Wd D A s [(m0, .inr (2, [.ref mc, .ref mb, .long (ct), .int (ln), .int (fl), .ref mv, .ref aw, .ref an])), (mc, .inl (cy 0, 8, .inl (apG ch 0 kf 8))), (mb, .inl (cy 0, 16, .inl (apG bl 0 kg i2))), (kc, .inl (cy 0, 8, .inl (kf))), (kb, .inl (cy 0, 16, .inl (kg)))] H locs → ∀ ls : Array Slot, lv_has ls 8 [(0, .ref m0), (1, .ref kc), (2, .ref kb), (3, .long (ct2)), (5, .int (ln2)), (6, .int (fl2)), (7, .int (nI (i2)))] → W p l e ({ frames := 0, cells := 0, slots := 0, locals := 0 }) s m args below meth c H locs 0 0 Q (F0 m 40 ls []) := by
          intro nF
          induction nF with
          | zero => intro i2 hf; exact absurd hf (Nat.not_lt_zero _)
          | succ nF ih40 =>
            intro i2 hf hi2 H locs hW ls hl
            refine lv_iload hx hb dX2_prepare_40 (lv_at hl 6 rfl) ?_
            refine lv_aload_n hx hb dX2_prepare_42 rfl (lv_at hl 0 rfl) ?_
            refine va_get (D := D) (ci := 2) (v := .ref mb) (C := RX2) (T := TX2) (N := 8) hx hb hts i_X2_prepare_X2 hown hK hW.1 0 rfl rfl 1 (by decide) (hts (.fieldLink RX2 15 "TreeHashes$Mix" "block" "[I") f_X2_prepare_2) (fun _ h9 => h9) rfl dX2_prepare_43 ?_
            refine alI hx hb hK hW 2 0 (ci := 0) rfl rfl dX2_prepare_46 ?_
            refine iGe (a := i2) (b := 16) (tgt := 74) hx hb dX2_prepare_47 (by decide) (by omega) (by omega) (fun h47 => ?_) (fun h47 => ?_)
            · skip
              refine lv_aload_n hx hb dX2_prepare_74 rfl (lv_at hl 0 rfl) ?_
              refine lv_lload_n hx hb dX2_prepare_75 rfl (lv_at hl 3 rfl) ?_
              refine va_put (D := D) (ci := 2) (v := .long (ct2)) (ty := .long) (C := RX2) (T := TX2) (N := 8) hx hb hts i_X2_prepare_X2 tyX2 tyX2_ok nmX2 hown hK hW.1 hW.2.1 hW.2.2 0 rfl rfl 2 (by decide) (hts (.fieldLink RX2 27 "TreeHashes$Mix" "count" "J") f_X2_prepare_3) (fun _ h9 => h9) rfl (by decide +kernel) rfl rfl (Nat.le_of_ble_eq_true rfl) dX2_prepare_76 (fun H locs hP hD hS => ?_)
              have hW : Wd D A s [(m0, .inr (2, [.ref mc, .ref mb, .long (ct2), .int (ln), .int (fl), .ref mv, .ref aw, .ref an])), (mc, .inl (cy 0, 8, .inl (apG ch 0 kf 8))), (mb, .inl (cy 0, 16, .inl (apG bl 0 kg i2))), (kc, .inl (cy 0, 8, .inl (kf))), (kb, .inl (cy 0, 16, .inl (kg)))] H locs := ⟨hP, hD, hS⟩
              refine lv_aload_n hx hb dX2_prepare_79 rfl (lv_at hl 0 rfl) ?_
              refine lv_iload hx hb dX2_prepare_80 (lv_at hl 4 rfl) ?_
              refine va_put (D := D) (ci := 2) (v := .int (ln2)) (ty := .int) (C := RX2) (T := TX2) (N := 8) hx hb hts i_X2_prepare_X2 tyX2 tyX2_ok nmX2 hown hK hW.1 hW.2.1 hW.2.2 0 rfl rfl 3 (by decide) (hts (.fieldLink RX2 31 "TreeHashes$Mix" "length" "I") f_X2_prepare_4) (fun _ h9 => h9) rfl (by decide +kernel) rfl rfl (Nat.le_of_ble_eq_true rfl) dX2_prepare_82 (fun H locs hP hD hS => ?_)
              have hW : Wd D A s [(m0, .inr (2, [.ref mc, .ref mb, .long (ct2), .int (ln2), .int (fl), .ref mv, .ref aw, .ref an])), (mc, .inl (cy 0, 8, .inl (apG ch 0 kf 8))), (mb, .inl (cy 0, 16, .inl (apG bl 0 kg i2))), (kc, .inl (cy 0, 8, .inl (kf))), (kb, .inl (cy 0, 16, .inl (kg)))] H locs := ⟨hP, hD, hS⟩
              refine lv_aload_n hx hb dX2_prepare_85 rfl (lv_at hl 0 rfl) ?_
              refine lv_iload hx hb dX2_prepare_86 (lv_at hl 5 rfl) ?_
              refine va_put (D := D) (ci := 2) (v := .int (fl2)) (ty := .int) (C := RX2) (T := TX2) (N := 8) hx hb hts i_X2_prepare_X2 tyX2 tyX2_ok nmX2 hown hK hW.1 hW.2.1 hW.2.2 0 rfl rfl 4 (by decide) (hts (.fieldLink RX2 35 "TreeHashes$Mix" "flags" "I") f_X2_prepare_5) (fun _ h9 => h9) rfl (by decide +kernel) rfl rfl (Nat.le_of_ble_eq_true rfl) dX2_prepare_88 (fun H locs hP hD hS => ?_)
              have hW : Wd D A s [(m0, .inr (2, [.ref mc, .ref mb, .long (ct2), .int (ln2), .int (fl2), .ref mv, .ref aw, .ref an])), (mc, .inl (cy 0, 8, .inl (apG ch 0 kf 8))), (mb, .inl (cy 0, 16, .inl (apG bl 0 kg i2))), (kc, .inl (cy 0, 8, .inl (kf))), (kb, .inl (cy 0, 16, .inl (kg)))] H locs := ⟨hP, hD, hS⟩
              have e9 : i2 = 16 := by omega
              try rw [e9] at hW
              have hW := Wd.ext hW 1 rfl kf apG_all
              have hW := Wd.ext hW 2 rfl kg apG_all
              exact eV hQ hx hb hr hlocks hK hW () (trivial) (rfl) dX2_prepare_91
            · skip
              refine lv_iload hx hb dX2_prepare_50 (lv_at hl 6 rfl) ?_
              refine lv_aload_n hx hb dX2_prepare_52 rfl (lv_at hl 2 rfl) ?_
              refine alI hx hb hK hW 4 0 (ci := 0) rfl rfl dX2_prepare_53 ?_
              refine iGe (a := i2) (b := 16) (tgt := 74) hx hb dX2_prepare_54 (by decide) (by omega) (by omega) (fun h54 => ?_) (fun h54 => ?_)
              · skip
                exfalso; omega
              · skip
                refine lv_aload_n hx hb dX2_prepare_57 rfl (lv_at hl 0 rfl) ?_
                refine va_get (D := D) (ci := 2) (v := .ref mb) (C := RX2) (T := TX2) (N := 8) hx hb hts i_X2_prepare_X2 hown hK hW.1 0 rfl rfl 1 (by decide) (hts (.fieldLink RX2 15 "TreeHashes$Mix" "block" "[I") f_X2_prepare_2) (fun _ h9 => h9) rfl dX2_prepare_58 ?_
                refine lv_iload hx hb dX2_prepare_61 (lv_at hl 6 rfl) ?_
                refine lv_aload_n hx hb dX2_prepare_63 rfl (lv_at hl 2 rfl) ?_
                refine lv_iload hx hb dX2_prepare_64 (lv_at hl 6 rfl) ?_
                refine rI hx hb hK hW 4 rfl (k := i2) (by omega) (by omega) dX2_prepare_66 ?_
                refine wI hx hb hK hW 2 rfl (k := i2) (by omega) (by omega) dX2_prepare_67 (fun H locs hW => ?_)
                have hW : Wd D A s [(m0, .inr (2, [.ref mc, .ref mb, .long (ct), .int (ln), .int (fl), .ref mv, .ref aw, .ref an])), (mc, .inl (cy 0, 8, .inl (apG ch 0 kf 8))), (mb, .inl (cy 0, 16, .inl (upd (apG bl 0 kg i2) i2 (kg i2)))), (kc, .inl (cy 0, 8, .inl (kf))), (kb, .inl (cy 0, 16, .inl (kg)))] H locs := hW
                rw [show (upd (apG bl 0 kg i2) i2 (kg i2)) = (apG bl 0 kg (i2 + 1)) from by rw [← apG_s bl 0 kg i2, Nat.zero_add]] at hW
                have hW : Wd D A s [(m0, .inr (2, [.ref mc, .ref mb, .long (ct), .int (ln), .int (fl), .ref mv, .ref aw, .ref an])), (mc, .inl (cy 0, 8, .inl (apG ch 0 kf 8))), (mb, .inl (cy 0, 16, .inl (apG bl 0 kg (i2 + 1)))), (kc, .inl (cy 0, 8, .inl (kf))), (kb, .inl (cy 0, 16, .inl (kg)))] H locs := hW
                refine lv_iinc (v := nI (i2 + 1)) (lv' := [(7, .int (nI (i2 + 1))), (0, .ref m0), (1, .ref kc), (2, .ref kb), (3, .long (ct2)), (5, .int (ln2)), (6, .int (fl2))]) hx hb dX2_prepare_68 hl (k := 6) rfl (nI_1 _) (by decide) rfl (fun ls hl => ?_)
                refine lv_goto (tgt := 40) hx hb dX2_prepare_71 (by decide) ?_
                exact ih40 (i2 + 1) (by omega) (by omega) _ _ hW _ (lv_sub hl [1, 2, 3, 4, 5, 6, 0] rfl)
        rw [← apG_0 bl 0 kg] at hW
        exact loop40 _ 0 (Nat.lt_succ_self _) (by omega) _ _ hW _ (lv_sub hl [1, 2, 3, 4, 5, 6, 0] rfl)
      · skip
        refine lv_iload hx hb dX2_prepare_13 (lv_at hl 6 rfl) ?_
        refine lv_aload_n hx hb dX2_prepare_15 rfl (lv_at hl 1 rfl) ?_
        refine alI hx hb hK hW 3 0 (ci := 0) rfl rfl dX2_prepare_16 ?_
        refine iGe (a := i) (b := 8) (tgt := 37) hx hb dX2_prepare_17 (by decide) (by omega) (by omega) (fun h17 => ?_) (fun h17 => ?_)
        · skip
          exfalso; omega
        · skip
          refine lv_aload_n hx hb dX2_prepare_20 rfl (lv_at hl 0 rfl) ?_
          refine va_get (D := D) (ci := 2) (v := .ref mc) (C := RX2) (T := TX2) (N := 8) hx hb hts i_X2_prepare_X2 hown hK hW.1 0 rfl rfl 0 (by decide) (hts (.fieldLink RX2 9 "TreeHashes$Mix" "chain" "[I") f_X2_prepare_0) (fun _ h9 => h9) rfl dX2_prepare_21 ?_
          refine lv_iload hx hb dX2_prepare_24 (lv_at hl 6 rfl) ?_
          refine lv_aload_n hx hb dX2_prepare_26 rfl (lv_at hl 1 rfl) ?_
          refine lv_iload hx hb dX2_prepare_27 (lv_at hl 6 rfl) ?_
          refine rI hx hb hK hW 3 rfl (k := i) (by omega) (by omega) dX2_prepare_29 ?_
          refine wI hx hb hK hW 1 rfl (k := i) (by omega) (by omega) dX2_prepare_30 (fun H locs hW => ?_)
          have hW : Wd D A s [(m0, .inr (2, [.ref mc, .ref mb, .long (ct), .int (ln), .int (fl), .ref mv, .ref aw, .ref an])), (mc, .inl (cy 0, 8, .inl (upd (apG ch 0 kf i) i (kf i)))), (mb, .inl (cy 0, 16, .inl (bl))), (kc, .inl (cy 0, 8, .inl (kf))), (kb, .inl (cy 0, 16, .inl (kg)))] H locs := hW
          rw [show (upd (apG ch 0 kf i) i (kf i)) = (apG ch 0 kf (i + 1)) from by rw [← apG_s ch 0 kf i, Nat.zero_add]] at hW
          have hW : Wd D A s [(m0, .inr (2, [.ref mc, .ref mb, .long (ct), .int (ln), .int (fl), .ref mv, .ref aw, .ref an])), (mc, .inl (cy 0, 8, .inl (apG ch 0 kf (i + 1)))), (mb, .inl (cy 0, 16, .inl (bl))), (kc, .inl (cy 0, 8, .inl (kf))), (kb, .inl (cy 0, 16, .inl (kg)))] H locs := hW
          refine lv_iinc (v := nI (i + 1)) (lv' := [(7, .int (nI (i + 1))), (0, .ref m0), (1, .ref kc), (2, .ref kb), (3, .long (ct2)), (5, .int (ln2)), (6, .int (fl2))]) hx hb dX2_prepare_31 hl (k := 6) rfl (nI_1 _) (by decide) rfl (fun ls hl => ?_)
          refine lv_goto (tgt := 3) hx hb dX2_prepare_34 (by decide) ?_
          exact ih3 (i + 1) (by omega) (by omega) _ _ hW _ (lv_sub hl [1, 2, 3, 4, 5, 6, 0] rfl)
  rw [← apG_0 ch 0 kf] at hW
  exact loop3 _ 0 (Nat.lt_succ_self _) (by omega) _ _ hW _ (lv_sub hl [1, 2, 3, 4, 5, 6, 0] rfl)

theorem f_X2_prepare_b_0 : Cond.fieldLink RX2 9 "TreeHashes$Mix" "chain" "[I" ∈ wsX2_prepare := by decide +kernel
theorem i_X2_prepare_b_X2 : ∀ w ∈ wsX20, w ∈ wsX2_prepare := by decide +kernel
theorem f_X2_prepare_b_2 : Cond.fieldLink RX2 15 "TreeHashes$Mix" "block" "[I" ∈ wsX2_prepare := by decide +kernel
theorem f_X2_prepare_b_3 : Cond.fieldLink RX2 27 "TreeHashes$Mix" "count" "J" ∈ wsX2_prepare := by decide +kernel
theorem f_X2_prepare_b_4 : Cond.fieldLink RX2 31 "TreeHashes$Mix" "length" "I" ∈ wsX2_prepare := by decide +kernel
theorem f_X2_prepare_b_5 : Cond.fieldLink RX2 35 "TreeHashes$Mix" "flags" "I" ∈ wsX2_prepare := by decide +kernel
set_option maxHeartbeats 4000000 in
set_option maxRecDepth 100000 in
theorem c_X2_prepare_b (l : Launch) (D : va_G) (cy : Nat → ClassId) (t : Nat × Nat) (m0 : Nat) (mc : Nat) (mb : Nat) (mv : Nat) (aw : Nat) (an : Nat) (ct : Int64) (ln : Int32) (fl : Int32) (ch : Nat → Int32) (bl : Nat → Int32) (kc : Nat) (kf : Nat → Int32) (ct2 : Int64) (ln2 : Int32) (fl2 : Int32)  (sz : Nat) : Met l yX2_prepare wsX2_prepare ({ frames := 0, cells := 0, slots := 0, locals := 0 }) (PcW D cy t [(m0, .inr (2, [.ref mc, .ref mb, .long (ct), .int (ln), .int (fl), .ref mv, .ref aw, .ref an])), (mc, .inl (cy 0, 8, .inl (ch))), (mb, .inl (cy 0, 16, .inl (bl))), (kc, .inl (cy 0, 8, .inl (kf)))] [.ref m0, .ref kc, .ref mb, .long (ct2), .int (ln2), .int (fl2)] sz) (QvA D cy (fun u : Unit => True) (fun u : Unit => [(m0, .inr (2, [.ref mc, .ref mb, .long (ct2), .int (ln2), .int (fl2), .ref mv, .ref aw, .ref an])), (mc, .inl (cy 0, 8, .inl (kf))), (mb, .inl (cy 0, 16, .inl (bl))), (kc, .inl (cy 0, 8, .inl (kf)))]) (va_A [(m0, .inr (2, [.ref mc, .ref mb, .long (ct), .int (ln), .int (fl), .ref mv, .ref aw, .ref an])), (mc, .inl (cy 0, 8, .inl (ch))), (mb, .inl (cy 0, 16, .inl (bl))), (kc, .inl (cy 0, 8, .inl (kf)))] sz)) 0 0 (va_A [(m0, .inr (2, [.ref mc, .ref mb, .long (ct), .int (ln), .int (fl), .ref mv, .ref aw, .ref an])), (mc, .inl (cy 0, 8, .inl (ch))), (mb, .inl (cy 0, 16, .inl (bl))), (kc, .inl (cy 0, 8, .inl (kf)))] sz) := by
  refine M_ofW (cc := cX2_prepare) (maxL := 8) (ret := none) (by decide) rfl (Nat.le_of_ble_eq_true rfl) ?_
  intro p e s m below meth c A ls args Q hQ S0 hr hlocks hnm hK hst hA hW hl
  have hx := S0.1; have hb := S0.2.1; have hml := S0.2.2.1; have hown := S0.2.2.2.1; have hts := S0.2.2.2.2
  have hl : lv_has ls 8 [(0, .ref m0), (1, .ref kc), (2, .ref mb), (3, .long (ct2)), (5, .int (ln2)), (6, .int (fl2))] := hl
  refine lv_iconst (v := nI (0)) hx hb dX2_prepare_0 (by decide) ?_
  refine lv_istore (lv' := [(7, .int (nI (0))), (0, .ref m0), (1, .ref kc), (2, .ref mb), (3, .long (ct2)), (5, .int (ln2)), (6, .int (fl2))]) hx hb dX2_prepare_1 hl (by decide) rfl (fun ls hl => ?_)
  have loop3 : ∀ (nF : Nat) (i : Nat), 8 - i < nF → (i ≤ 8) → ∀ (H : Heap) (locs : List Loc), Wd D A s [(m0, .inr (2, [.ref mc, .ref mb, .long (ct), .int (ln), .int (fl), .ref mv, .ref aw, .ref an])), (mc, .inl (cy 0, 8, .inl (apG ch 0 kf i))), (mb, .inl (cy 0, 16, .inl (bl))), (kc, .inl (cy 0, 8, .inl (kf)))] H locs → ∀ ls : Array Slot, lv_has ls 8 [(0, .ref m0), (1, .ref kc), (2, .ref mb), (3, .long (ct2)), (5, .int (ln2)), (6, .int (fl2)), (7, .int (nI (i)))] → W p l e ({ frames := 0, cells := 0, slots := 0, locals := 0 }) s m args below meth c H locs 0 0 Q (F0 m 3 ls []) := by
    intro nF
    induction nF with
    | zero => intro i hf; exact absurd hf (Nat.not_lt_zero _)
    | succ nF ih3 =>
      intro i hf hi H locs hW ls hl
      refine lv_iload hx hb dX2_prepare_3 (lv_at hl 6 rfl) ?_
      refine lv_aload_n hx hb dX2_prepare_5 rfl (lv_at hl 0 rfl) ?_
      refine va_get (D := D) (ci := 2) (v := .ref mc) (C := RX2) (T := TX2) (N := 8) hx hb hts i_X2_prepare_b_X2 hown hK hW.1 0 rfl rfl 0 (by decide) (hts (.fieldLink RX2 9 "TreeHashes$Mix" "chain" "[I") f_X2_prepare_b_0) (fun _ h9 => h9) rfl dX2_prepare_6 ?_
      refine alI hx hb hK hW 1 0 (ci := 0) rfl rfl dX2_prepare_9 ?_
      refine iGe (a := i) (b := 8) (tgt := 37) hx hb dX2_prepare_10 (by decide) (by omega) (by omega) (fun h10 => ?_) (fun h10 => ?_)
      · skip
        refine lv_iconst (v := nI (0)) hx hb dX2_prepare_37 (by decide) ?_
        refine lv_istore (lv' := [(7, .int (nI (0))), (0, .ref m0), (1, .ref kc), (2, .ref mb), (3, .long (ct2)), (5, .int (ln2)), (6, .int (fl2))]) hx hb dX2_prepare_38 hl (by decide) rfl (fun ls hl => ?_)
        have e9 : i = 8 := by omega
        try rw [e9] at hW
        have loop40 : ∀ (nF : Nat) (i2 : Nat), 16 - i2 < nF → (i2 ≤ 16) → ∀ (H : Heap) (locs : List Loc), Wd D A s [(m0, .inr (2, [.ref mc, .ref mb, .long (ct), .int (ln), .int (fl), .ref mv, .ref aw, .ref an])), (mc, .inl (cy 0, 8, .inl (apG ch 0 kf 8))), (mb, .inl (cy 0, 16, .inl (bl))), (kc, .inl (cy 0, 8, .inl (kf)))] H locs → ∀ ls : Array Slot, lv_has ls 8 [(0, .ref m0), (1, .ref kc), (2, .ref mb), (3, .long (ct2)), (5, .int (ln2)), (6, .int (fl2)), (7, .int (nI (i2)))] → W p l e ({ frames := 0, cells := 0, slots := 0, locals := 0 }) s m args below meth c H locs 0 0 Q (F0 m 40 ls []) := by
          intro nF
          induction nF with
          | zero => intro i2 hf; exact absurd hf (Nat.not_lt_zero _)
          | succ nF ih40 =>
            intro i2 hf hi2 H locs hW ls hl
            refine lv_iload hx hb dX2_prepare_40 (lv_at hl 6 rfl) ?_
            refine lv_aload_n hx hb dX2_prepare_42 rfl (lv_at hl 0 rfl) ?_
            refine va_get (D := D) (ci := 2) (v := .ref mb) (C := RX2) (T := TX2) (N := 8) hx hb hts i_X2_prepare_b_X2 hown hK hW.1 0 rfl rfl 1 (by decide) (hts (.fieldLink RX2 15 "TreeHashes$Mix" "block" "[I") f_X2_prepare_b_2) (fun _ h9 => h9) rfl dX2_prepare_43 ?_
            refine alI hx hb hK hW 2 0 (ci := 0) rfl rfl dX2_prepare_46 ?_
            refine iGe (a := i2) (b := 16) (tgt := 74) hx hb dX2_prepare_47 (by decide) (by omega) (by omega) (fun h47 => ?_) (fun h47 => ?_)
            · skip
              refine lv_aload_n hx hb dX2_prepare_74 rfl (lv_at hl 0 rfl) ?_
              refine lv_lload_n hx hb dX2_prepare_75 rfl (lv_at hl 3 rfl) ?_
              refine va_put (D := D) (ci := 2) (v := .long (ct2)) (ty := .long) (C := RX2) (T := TX2) (N := 8) hx hb hts i_X2_prepare_b_X2 tyX2 tyX2_ok nmX2 hown hK hW.1 hW.2.1 hW.2.2 0 rfl rfl 2 (by decide) (hts (.fieldLink RX2 27 "TreeHashes$Mix" "count" "J") f_X2_prepare_b_3) (fun _ h9 => h9) rfl (by decide +kernel) rfl rfl (Nat.le_of_ble_eq_true rfl) dX2_prepare_76 (fun H locs hP hD hS => ?_)
              have hW : Wd D A s [(m0, .inr (2, [.ref mc, .ref mb, .long (ct2), .int (ln), .int (fl), .ref mv, .ref aw, .ref an])), (mc, .inl (cy 0, 8, .inl (apG ch 0 kf 8))), (mb, .inl (cy 0, 16, .inl (bl))), (kc, .inl (cy 0, 8, .inl (kf)))] H locs := ⟨hP, hD, hS⟩
              refine lv_aload_n hx hb dX2_prepare_79 rfl (lv_at hl 0 rfl) ?_
              refine lv_iload hx hb dX2_prepare_80 (lv_at hl 4 rfl) ?_
              refine va_put (D := D) (ci := 2) (v := .int (ln2)) (ty := .int) (C := RX2) (T := TX2) (N := 8) hx hb hts i_X2_prepare_b_X2 tyX2 tyX2_ok nmX2 hown hK hW.1 hW.2.1 hW.2.2 0 rfl rfl 3 (by decide) (hts (.fieldLink RX2 31 "TreeHashes$Mix" "length" "I") f_X2_prepare_b_4) (fun _ h9 => h9) rfl (by decide +kernel) rfl rfl (Nat.le_of_ble_eq_true rfl) dX2_prepare_82 (fun H locs hP hD hS => ?_)
              have hW : Wd D A s [(m0, .inr (2, [.ref mc, .ref mb, .long (ct2), .int (ln2), .int (fl), .ref mv, .ref aw, .ref an])), (mc, .inl (cy 0, 8, .inl (apG ch 0 kf 8))), (mb, .inl (cy 0, 16, .inl (bl))), (kc, .inl (cy 0, 8, .inl (kf)))] H locs := ⟨hP, hD, hS⟩
              refine lv_aload_n hx hb dX2_prepare_85 rfl (lv_at hl 0 rfl) ?_
              refine lv_iload hx hb dX2_prepare_86 (lv_at hl 5 rfl) ?_
              refine va_put (D := D) (ci := 2) (v := .int (fl2)) (ty := .int) (C := RX2) (T := TX2) (N := 8) hx hb hts i_X2_prepare_b_X2 tyX2 tyX2_ok nmX2 hown hK hW.1 hW.2.1 hW.2.2 0 rfl rfl 4 (by decide) (hts (.fieldLink RX2 35 "TreeHashes$Mix" "flags" "I") f_X2_prepare_b_5) (fun _ h9 => h9) rfl (by decide +kernel) rfl rfl (Nat.le_of_ble_eq_true rfl) dX2_prepare_88 (fun H locs hP hD hS => ?_)
              have hW : Wd D A s [(m0, .inr (2, [.ref mc, .ref mb, .long (ct2), .int (ln2), .int (fl2), .ref mv, .ref aw, .ref an])), (mc, .inl (cy 0, 8, .inl (apG ch 0 kf 8))), (mb, .inl (cy 0, 16, .inl (bl))), (kc, .inl (cy 0, 8, .inl (kf)))] H locs := ⟨hP, hD, hS⟩
              have e9 : i2 = 16 := by omega
              try rw [e9] at hW
              have hW := Wd.ext hW 1 rfl kf apG_all
              exact eV hQ hx hb hr hlocks hK hW () (trivial) (rfl) dX2_prepare_91
            · skip
              refine lv_iload hx hb dX2_prepare_50 (lv_at hl 6 rfl) ?_
              refine lv_aload_n hx hb dX2_prepare_52 rfl (lv_at hl 2 rfl) ?_
              refine alI hx hb hK hW 2 0 (ci := 0) rfl rfl dX2_prepare_53 ?_
              refine iGe (a := i2) (b := 16) (tgt := 74) hx hb dX2_prepare_54 (by decide) (by omega) (by omega) (fun h54 => ?_) (fun h54 => ?_)
              · skip
                exfalso; omega
              · skip
                refine lv_aload_n hx hb dX2_prepare_57 rfl (lv_at hl 0 rfl) ?_
                refine va_get (D := D) (ci := 2) (v := .ref mb) (C := RX2) (T := TX2) (N := 8) hx hb hts i_X2_prepare_b_X2 hown hK hW.1 0 rfl rfl 1 (by decide) (hts (.fieldLink RX2 15 "TreeHashes$Mix" "block" "[I") f_X2_prepare_b_2) (fun _ h9 => h9) rfl dX2_prepare_58 ?_
                refine lv_iload hx hb dX2_prepare_61 (lv_at hl 6 rfl) ?_
                refine lv_aload_n hx hb dX2_prepare_63 rfl (lv_at hl 2 rfl) ?_
                refine lv_iload hx hb dX2_prepare_64 (lv_at hl 6 rfl) ?_
                refine rI hx hb hK hW 2 rfl (k := i2) (by omega) (by omega) dX2_prepare_66 ?_
                refine wI hx hb hK hW 2 rfl (k := i2) (by omega) (by omega) dX2_prepare_67 (fun H locs hW => ?_)
                have hW : Wd D A s [(m0, .inr (2, [.ref mc, .ref mb, .long (ct), .int (ln), .int (fl), .ref mv, .ref aw, .ref an])), (mc, .inl (cy 0, 8, .inl (apG ch 0 kf 8))), (mb, .inl (cy 0, 16, .inl (upd bl i2 (bl i2)))), (kc, .inl (cy 0, 8, .inl (kf)))] H locs := hW
                rw [show (upd bl i2 (bl i2)) = (bl) from upd_self bl i2] at hW
                have hW : Wd D A s [(m0, .inr (2, [.ref mc, .ref mb, .long (ct), .int (ln), .int (fl), .ref mv, .ref aw, .ref an])), (mc, .inl (cy 0, 8, .inl (apG ch 0 kf 8))), (mb, .inl (cy 0, 16, .inl (bl))), (kc, .inl (cy 0, 8, .inl (kf)))] H locs := hW
                refine lv_iinc (v := nI (i2 + 1)) (lv' := [(7, .int (nI (i2 + 1))), (0, .ref m0), (1, .ref kc), (2, .ref mb), (3, .long (ct2)), (5, .int (ln2)), (6, .int (fl2))]) hx hb dX2_prepare_68 hl (k := 6) rfl (nI_1 _) (by decide) rfl (fun ls hl => ?_)
                refine lv_goto (tgt := 40) hx hb dX2_prepare_71 (by decide) ?_
                exact ih40 (i2 + 1) (by omega) (by omega) _ _ hW _ (lv_sub hl [1, 2, 3, 4, 5, 6, 0] rfl)
        exact loop40 _ 0 (Nat.lt_succ_self _) (by omega) _ _ hW _ (lv_sub hl [1, 2, 3, 4, 5, 6, 0] rfl)
      · skip
        refine lv_iload hx hb dX2_prepare_13 (lv_at hl 6 rfl) ?_
        refine lv_aload_n hx hb dX2_prepare_15 rfl (lv_at hl 1 rfl) ?_
        refine alI hx hb hK hW 3 0 (ci := 0) rfl rfl dX2_prepare_16 ?_
        refine iGe (a := i) (b := 8) (tgt := 37) hx hb dX2_prepare_17 (by decide) (by omega) (by omega) (fun h17 => ?_) (fun h17 => ?_)
        · skip
          exfalso; omega
        · skip
          refine lv_aload_n hx hb dX2_prepare_20 rfl (lv_at hl 0 rfl) ?_
          refine va_get (D := D) (ci := 2) (v := .ref mc) (C := RX2) (T := TX2) (N := 8) hx hb hts i_X2_prepare_b_X2 hown hK hW.1 0 rfl rfl 0 (by decide) (hts (.fieldLink RX2 9 "TreeHashes$Mix" "chain" "[I") f_X2_prepare_b_0) (fun _ h9 => h9) rfl dX2_prepare_21 ?_
          refine lv_iload hx hb dX2_prepare_24 (lv_at hl 6 rfl) ?_
          refine lv_aload_n hx hb dX2_prepare_26 rfl (lv_at hl 1 rfl) ?_
          refine lv_iload hx hb dX2_prepare_27 (lv_at hl 6 rfl) ?_
          refine rI hx hb hK hW 3 rfl (k := i) (by omega) (by omega) dX2_prepare_29 ?_
          refine wI hx hb hK hW 1 rfl (k := i) (by omega) (by omega) dX2_prepare_30 (fun H locs hW => ?_)
          have hW : Wd D A s [(m0, .inr (2, [.ref mc, .ref mb, .long (ct), .int (ln), .int (fl), .ref mv, .ref aw, .ref an])), (mc, .inl (cy 0, 8, .inl (upd (apG ch 0 kf i) i (kf i)))), (mb, .inl (cy 0, 16, .inl (bl))), (kc, .inl (cy 0, 8, .inl (kf)))] H locs := hW
          rw [show (upd (apG ch 0 kf i) i (kf i)) = (apG ch 0 kf (i + 1)) from by rw [← apG_s ch 0 kf i, Nat.zero_add]] at hW
          have hW : Wd D A s [(m0, .inr (2, [.ref mc, .ref mb, .long (ct), .int (ln), .int (fl), .ref mv, .ref aw, .ref an])), (mc, .inl (cy 0, 8, .inl (apG ch 0 kf (i + 1)))), (mb, .inl (cy 0, 16, .inl (bl))), (kc, .inl (cy 0, 8, .inl (kf)))] H locs := hW
          refine lv_iinc (v := nI (i + 1)) (lv' := [(7, .int (nI (i + 1))), (0, .ref m0), (1, .ref kc), (2, .ref mb), (3, .long (ct2)), (5, .int (ln2)), (6, .int (fl2))]) hx hb dX2_prepare_31 hl (k := 6) rfl (nI_1 _) (by decide) rfl (fun ls hl => ?_)
          refine lv_goto (tgt := 3) hx hb dX2_prepare_34 (by decide) ?_
          exact ih3 (i + 1) (by omega) (by omega) _ _ hW _ (lv_sub hl [1, 2, 3, 4, 5, 6, 0] rfl)
  rw [← apG_0 ch 0 kf] at hW
  exact loop3 _ 0 (Nat.lt_succ_self _) (by omega) _ _ hW _ (lv_sub hl [1, 2, 3, 4, 5, 6, 0] rfl)

theorem f_X2_prepare_s_0 : Cond.fieldLink RX2 9 "TreeHashes$Mix" "chain" "[I" ∈ wsX2_prepare := by decide +kernel
theorem i_X2_prepare_s_X2 : ∀ w ∈ wsX20, w ∈ wsX2_prepare := by decide +kernel
theorem f_X2_prepare_s_2 : Cond.fieldLink RX2 15 "TreeHashes$Mix" "block" "[I" ∈ wsX2_prepare := by decide +kernel
theorem f_X2_prepare_s_3 : Cond.fieldLink RX2 27 "TreeHashes$Mix" "count" "J" ∈ wsX2_prepare := by decide +kernel
theorem f_X2_prepare_s_4 : Cond.fieldLink RX2 31 "TreeHashes$Mix" "length" "I" ∈ wsX2_prepare := by decide +kernel
theorem f_X2_prepare_s_5 : Cond.fieldLink RX2 35 "TreeHashes$Mix" "flags" "I" ∈ wsX2_prepare := by decide +kernel
set_option maxHeartbeats 4000000 in
set_option maxRecDepth 100000 in
theorem c_X2_prepare_s (l : Launch) (D : va_G) (cy : Nat → ClassId) (t : Nat × Nat) (m0 : Nat) (mc : Nat) (mb : Nat) (mv : Nat) (aw : Nat) (an : Nat) (ct : Int64) (ln : Int32) (fl : Int32) (ch : Nat → Int32) (bl : Nat → Int32) (ct2 : Int64) (ln2 : Int32) (fl2 : Int32)  (sz : Nat) : Met l yX2_prepare wsX2_prepare ({ frames := 0, cells := 0, slots := 0, locals := 0 }) (PcW D cy t [(m0, .inr (2, [.ref mc, .ref mb, .long (ct), .int (ln), .int (fl), .ref mv, .ref aw, .ref an])), (mc, .inl (cy 0, 8, .inl (ch))), (mb, .inl (cy 0, 16, .inl (bl)))] [.ref m0, .ref t.1, .ref mb, .long (ct2), .int (ln2), .int (fl2)] sz) (QvA D cy (fun u : Unit => True) (fun u : Unit => [(m0, .inr (2, [.ref mc, .ref mb, .long (ct2), .int (ln2), .int (fl2), .ref mv, .ref aw, .ref an])), (mc, .inl (cy 0, 8, .inl (stA))), (mb, .inl (cy 0, 16, .inl (bl)))]) (va_A [(m0, .inr (2, [.ref mc, .ref mb, .long (ct), .int (ln), .int (fl), .ref mv, .ref aw, .ref an])), (mc, .inl (cy 0, 8, .inl (ch))), (mb, .inl (cy 0, 16, .inl (bl)))] sz)) 0 0 (va_A [(m0, .inr (2, [.ref mc, .ref mb, .long (ct), .int (ln), .int (fl), .ref mv, .ref aw, .ref an])), (mc, .inl (cy 0, 8, .inl (ch))), (mb, .inl (cy 0, 16, .inl (bl)))] sz) := by
  refine M_ofW (cc := cX2_prepare) (maxL := 8) (ret := none) (by decide) rfl (Nat.le_of_ble_eq_true rfl) ?_
  intro p e s m below meth c A ls args Q hQ S0 hr hlocks hnm hK hst hA hW hl
  have hx := S0.1; have hb := S0.2.1; have hml := S0.2.2.1; have hown := S0.2.2.2.1; have hts := S0.2.2.2.2
  have hl : lv_has ls 8 [(0, .ref m0), (1, .ref t.1), (2, .ref mb), (3, .long (ct2)), (5, .int (ln2)), (6, .int (fl2))] := hl
  refine lv_iconst (v := nI (0)) hx hb dX2_prepare_0 (by decide) ?_
  refine lv_istore (lv' := [(7, .int (nI (0))), (0, .ref m0), (1, .ref t.1), (2, .ref mb), (3, .long (ct2)), (5, .int (ln2)), (6, .int (fl2))]) hx hb dX2_prepare_1 hl (by decide) rfl (fun ls hl => ?_)
  have loop3 : ∀ (nF : Nat) (i : Nat), 8 - i < nF → (i ≤ 8) → ∀ (H : Heap) (locs : List Loc), Wd D A s [(m0, .inr (2, [.ref mc, .ref mb, .long (ct), .int (ln), .int (fl), .ref mv, .ref aw, .ref an])), (mc, .inl (cy 0, 8, .inl (apG ch 0 stA i))), (mb, .inl (cy 0, 16, .inl (bl)))] H locs → ∀ ls : Array Slot, lv_has ls 8 [(0, .ref m0), (1, .ref t.1), (2, .ref mb), (3, .long (ct2)), (5, .int (ln2)), (6, .int (fl2)), (7, .int (nI (i)))] → W p l e ({ frames := 0, cells := 0, slots := 0, locals := 0 }) s m args below meth c H locs 0 0 Q (F0 m 3 ls []) := by
    intro nF
    induction nF with
    | zero => intro i hf; exact absurd hf (Nat.not_lt_zero _)
    | succ nF ih3 =>
      intro i hf hi H locs hW ls hl
      refine lv_iload hx hb dX2_prepare_3 (lv_at hl 6 rfl) ?_
      refine lv_aload_n hx hb dX2_prepare_5 rfl (lv_at hl 0 rfl) ?_
      refine va_get (D := D) (ci := 2) (v := .ref mc) (C := RX2) (T := TX2) (N := 8) hx hb hts i_X2_prepare_s_X2 hown hK hW.1 0 rfl rfl 0 (by decide) (hts (.fieldLink RX2 9 "TreeHashes$Mix" "chain" "[I") f_X2_prepare_s_0) (fun _ h9 => h9) rfl dX2_prepare_6 ?_
      refine alI hx hb hK hW 1 0 (ci := 0) rfl rfl dX2_prepare_9 ?_
      refine iGe (a := i) (b := 8) (tgt := 37) hx hb dX2_prepare_10 (by decide) (by omega) (by omega) (fun h10 => ?_) (fun h10 => ?_)
      · skip
        refine lv_iconst (v := nI (0)) hx hb dX2_prepare_37 (by decide) ?_
        refine lv_istore (lv' := [(7, .int (nI (0))), (0, .ref m0), (1, .ref t.1), (2, .ref mb), (3, .long (ct2)), (5, .int (ln2)), (6, .int (fl2))]) hx hb dX2_prepare_38 hl (by decide) rfl (fun ls hl => ?_)
        have e9 : i = 8 := by omega
        try rw [e9] at hW
        have loop40 : ∀ (nF : Nat) (i2 : Nat), 16 - i2 < nF → (i2 ≤ 16) → ∀ (H : Heap) (locs : List Loc), Wd D A s [(m0, .inr (2, [.ref mc, .ref mb, .long (ct), .int (ln), .int (fl), .ref mv, .ref aw, .ref an])), (mc, .inl (cy 0, 8, .inl (apG ch 0 stA 8))), (mb, .inl (cy 0, 16, .inl (bl)))] H locs → ∀ ls : Array Slot, lv_has ls 8 [(0, .ref m0), (1, .ref t.1), (2, .ref mb), (3, .long (ct2)), (5, .int (ln2)), (6, .int (fl2)), (7, .int (nI (i2)))] → W p l e ({ frames := 0, cells := 0, slots := 0, locals := 0 }) s m args below meth c H locs 0 0 Q (F0 m 40 ls []) := by
          intro nF
          induction nF with
          | zero => intro i2 hf; exact absurd hf (Nat.not_lt_zero _)
          | succ nF ih40 =>
            intro i2 hf hi2 H locs hW ls hl
            refine lv_iload hx hb dX2_prepare_40 (lv_at hl 6 rfl) ?_
            refine lv_aload_n hx hb dX2_prepare_42 rfl (lv_at hl 0 rfl) ?_
            refine va_get (D := D) (ci := 2) (v := .ref mb) (C := RX2) (T := TX2) (N := 8) hx hb hts i_X2_prepare_s_X2 hown hK hW.1 0 rfl rfl 1 (by decide) (hts (.fieldLink RX2 15 "TreeHashes$Mix" "block" "[I") f_X2_prepare_s_2) (fun _ h9 => h9) rfl dX2_prepare_43 ?_
            refine alI hx hb hK hW 2 0 (ci := 0) rfl rfl dX2_prepare_46 ?_
            refine iGe (a := i2) (b := 16) (tgt := 74) hx hb dX2_prepare_47 (by decide) (by omega) (by omega) (fun h47 => ?_) (fun h47 => ?_)
            · skip
              refine lv_aload_n hx hb dX2_prepare_74 rfl (lv_at hl 0 rfl) ?_
              refine lv_lload_n hx hb dX2_prepare_75 rfl (lv_at hl 3 rfl) ?_
              refine va_put (D := D) (ci := 2) (v := .long (ct2)) (ty := .long) (C := RX2) (T := TX2) (N := 8) hx hb hts i_X2_prepare_s_X2 tyX2 tyX2_ok nmX2 hown hK hW.1 hW.2.1 hW.2.2 0 rfl rfl 2 (by decide) (hts (.fieldLink RX2 27 "TreeHashes$Mix" "count" "J") f_X2_prepare_s_3) (fun _ h9 => h9) rfl (by decide +kernel) rfl rfl (Nat.le_of_ble_eq_true rfl) dX2_prepare_76 (fun H locs hP hD hS => ?_)
              have hW : Wd D A s [(m0, .inr (2, [.ref mc, .ref mb, .long (ct2), .int (ln), .int (fl), .ref mv, .ref aw, .ref an])), (mc, .inl (cy 0, 8, .inl (apG ch 0 stA 8))), (mb, .inl (cy 0, 16, .inl (bl)))] H locs := ⟨hP, hD, hS⟩
              refine lv_aload_n hx hb dX2_prepare_79 rfl (lv_at hl 0 rfl) ?_
              refine lv_iload hx hb dX2_prepare_80 (lv_at hl 4 rfl) ?_
              refine va_put (D := D) (ci := 2) (v := .int (ln2)) (ty := .int) (C := RX2) (T := TX2) (N := 8) hx hb hts i_X2_prepare_s_X2 tyX2 tyX2_ok nmX2 hown hK hW.1 hW.2.1 hW.2.2 0 rfl rfl 3 (by decide) (hts (.fieldLink RX2 31 "TreeHashes$Mix" "length" "I") f_X2_prepare_s_4) (fun _ h9 => h9) rfl (by decide +kernel) rfl rfl (Nat.le_of_ble_eq_true rfl) dX2_prepare_82 (fun H locs hP hD hS => ?_)
              have hW : Wd D A s [(m0, .inr (2, [.ref mc, .ref mb, .long (ct2), .int (ln2), .int (fl), .ref mv, .ref aw, .ref an])), (mc, .inl (cy 0, 8, .inl (apG ch 0 stA 8))), (mb, .inl (cy 0, 16, .inl (bl)))] H locs := ⟨hP, hD, hS⟩
              refine lv_aload_n hx hb dX2_prepare_85 rfl (lv_at hl 0 rfl) ?_
              refine lv_iload hx hb dX2_prepare_86 (lv_at hl 5 rfl) ?_
              refine va_put (D := D) (ci := 2) (v := .int (fl2)) (ty := .int) (C := RX2) (T := TX2) (N := 8) hx hb hts i_X2_prepare_s_X2 tyX2 tyX2_ok nmX2 hown hK hW.1 hW.2.1 hW.2.2 0 rfl rfl 4 (by decide) (hts (.fieldLink RX2 35 "TreeHashes$Mix" "flags" "I") f_X2_prepare_s_5) (fun _ h9 => h9) rfl (by decide +kernel) rfl rfl (Nat.le_of_ble_eq_true rfl) dX2_prepare_88 (fun H locs hP hD hS => ?_)
              have hW : Wd D A s [(m0, .inr (2, [.ref mc, .ref mb, .long (ct2), .int (ln2), .int (fl2), .ref mv, .ref aw, .ref an])), (mc, .inl (cy 0, 8, .inl (apG ch 0 stA 8))), (mb, .inl (cy 0, 16, .inl (bl)))] H locs := ⟨hP, hD, hS⟩
              have e9 : i2 = 16 := by omega
              try rw [e9] at hW
              have hW := Wd.ext hW 1 rfl stA apG_all
              exact eV hQ hx hb hr hlocks hK hW () (trivial) (rfl) dX2_prepare_91
            · skip
              refine lv_iload hx hb dX2_prepare_50 (lv_at hl 6 rfl) ?_
              refine lv_aload_n hx hb dX2_prepare_52 rfl (lv_at hl 2 rfl) ?_
              refine alI hx hb hK hW 2 0 (ci := 0) rfl rfl dX2_prepare_53 ?_
              refine iGe (a := i2) (b := 16) (tgt := 74) hx hb dX2_prepare_54 (by decide) (by omega) (by omega) (fun h54 => ?_) (fun h54 => ?_)
              · skip
                exfalso; omega
              · skip
                refine lv_aload_n hx hb dX2_prepare_57 rfl (lv_at hl 0 rfl) ?_
                refine va_get (D := D) (ci := 2) (v := .ref mb) (C := RX2) (T := TX2) (N := 8) hx hb hts i_X2_prepare_s_X2 hown hK hW.1 0 rfl rfl 1 (by decide) (hts (.fieldLink RX2 15 "TreeHashes$Mix" "block" "[I") f_X2_prepare_s_2) (fun _ h9 => h9) rfl dX2_prepare_58 ?_
                refine lv_iload hx hb dX2_prepare_61 (lv_at hl 6 rfl) ?_
                refine lv_aload_n hx hb dX2_prepare_63 rfl (lv_at hl 2 rfl) ?_
                refine lv_iload hx hb dX2_prepare_64 (lv_at hl 6 rfl) ?_
                refine rI hx hb hK hW 2 rfl (k := i2) (by omega) (by omega) dX2_prepare_66 ?_
                refine wI hx hb hK hW 2 rfl (k := i2) (by omega) (by omega) dX2_prepare_67 (fun H locs hW => ?_)
                have hW : Wd D A s [(m0, .inr (2, [.ref mc, .ref mb, .long (ct), .int (ln), .int (fl), .ref mv, .ref aw, .ref an])), (mc, .inl (cy 0, 8, .inl (apG ch 0 stA 8))), (mb, .inl (cy 0, 16, .inl (upd bl i2 (bl i2))))] H locs := hW
                rw [show (upd bl i2 (bl i2)) = (bl) from upd_self bl i2] at hW
                have hW : Wd D A s [(m0, .inr (2, [.ref mc, .ref mb, .long (ct), .int (ln), .int (fl), .ref mv, .ref aw, .ref an])), (mc, .inl (cy 0, 8, .inl (apG ch 0 stA 8))), (mb, .inl (cy 0, 16, .inl (bl)))] H locs := hW
                refine lv_iinc (v := nI (i2 + 1)) (lv' := [(7, .int (nI (i2 + 1))), (0, .ref m0), (1, .ref t.1), (2, .ref mb), (3, .long (ct2)), (5, .int (ln2)), (6, .int (fl2))]) hx hb dX2_prepare_68 hl (k := 6) rfl (nI_1 _) (by decide) rfl (fun ls hl => ?_)
                refine lv_goto (tgt := 40) hx hb dX2_prepare_71 (by decide) ?_
                exact ih40 (i2 + 1) (by omega) (by omega) _ _ hW _ (lv_sub hl [1, 2, 3, 4, 5, 6, 0] rfl)
        exact loop40 _ 0 (Nat.lt_succ_self _) (by omega) _ _ hW _ (lv_sub hl [1, 2, 3, 4, 5, 6, 0] rfl)
      · skip
        refine lv_iload hx hb dX2_prepare_13 (lv_at hl 6 rfl) ?_
        refine lv_aload_n hx hb dX2_prepare_15 rfl (lv_at hl 1 rfl) ?_
        refine va_tlen hx hb hst.1.2 hW.2.2 (v := nI 8) (by decide) dX2_prepare_16 ?_
        refine iGe (a := i) (b := 8) (tgt := 37) hx hb dX2_prepare_17 (by decide) (by omega) (by omega) (fun h17 => ?_) (fun h17 => ?_)
        · skip
          exfalso; omega
        · skip
          refine lv_aload_n hx hb dX2_prepare_20 rfl (lv_at hl 0 rfl) ?_
          refine va_get (D := D) (ci := 2) (v := .ref mc) (C := RX2) (T := TX2) (N := 8) hx hb hts i_X2_prepare_s_X2 hown hK hW.1 0 rfl rfl 0 (by decide) (hts (.fieldLink RX2 9 "TreeHashes$Mix" "chain" "[I") f_X2_prepare_s_0) (fun _ h9 => h9) rfl dX2_prepare_21 ?_
          refine lv_iload hx hb dX2_prepare_24 (lv_at hl 6 rfl) ?_
          refine lv_aload_n hx hb dX2_prepare_26 rfl (lv_at hl 1 rfl) ?_
          refine lv_iload hx hb dX2_prepare_27 (lv_at hl 6 rfl) ?_
          refine rS (g := stA) hx hb hst.1.2 hW (k := i) (n := 8) (by omega) (by decide) dX2_prepare_29 ?_
          refine wI hx hb hK hW 1 rfl (k := i) (by omega) (by omega) dX2_prepare_30 (fun H locs hW => ?_)
          have hW : Wd D A s [(m0, .inr (2, [.ref mc, .ref mb, .long (ct), .int (ln), .int (fl), .ref mv, .ref aw, .ref an])), (mc, .inl (cy 0, 8, .inl (upd (apG ch 0 stA i) i (stA i)))), (mb, .inl (cy 0, 16, .inl (bl)))] H locs := hW
          rw [show (upd (apG ch 0 stA i) i (stA i)) = (apG ch 0 stA (i + 1)) from by rw [← apG_s ch 0 stA i, Nat.zero_add]] at hW
          have hW : Wd D A s [(m0, .inr (2, [.ref mc, .ref mb, .long (ct), .int (ln), .int (fl), .ref mv, .ref aw, .ref an])), (mc, .inl (cy 0, 8, .inl (apG ch 0 stA (i + 1)))), (mb, .inl (cy 0, 16, .inl (bl)))] H locs := hW
          refine lv_iinc (v := nI (i + 1)) (lv' := [(7, .int (nI (i + 1))), (0, .ref m0), (1, .ref t.1), (2, .ref mb), (3, .long (ct2)), (5, .int (ln2)), (6, .int (fl2))]) hx hb dX2_prepare_31 hl (k := 6) rfl (nI_1 _) (by decide) rfl (fun ls hl => ?_)
          refine lv_goto (tgt := 3) hx hb dX2_prepare_34 (by decide) ?_
          exact ih3 (i + 1) (by omega) (by omega) _ _ hW _ (lv_sub hl [1, 2, 3, 4, 5, 6, 0] rfl)
  rw [← apG_0 ch 0 stA] at hW
  exact loop3 _ 0 (Nat.lt_succ_self _) (by omega) _ _ hW _ (lv_sub hl [1, 2, 3, 4, 5, 6, 0] rfl)

set_option maxHeartbeats 4000000 in
set_option maxRecDepth 100000 in
theorem c_X2_wordOf (l : Launch) (D : va_G) (cy : Nat → ClassId) (t : Nat × Nat) (lc : Nat) (nl : Nat) (lf : Nat → Int32) (i : Nat) (hi : i < nl) (hn : nl < 2 ^ 31) (sz : Nat) : Met l yX2_wordOf wsX2_wordOf ({ frames := 0, cells := 0, slots := 0, locals := 0 }) (PcW D cy t [(lc, .inl (cy 0, nl, .inl (lf)))] [.ref lc, .int (nI (i))] sz) (QiA D cy (fun (r : Int32) (u : Unit) => (r = lf i)) (fun u : Unit => [(lc, .inl (cy 0, nl, .inl (lf)))]) (va_A [(lc, .inl (cy 0, nl, .inl (lf)))] sz)) 0 0 (va_A [(lc, .inl (cy 0, nl, .inl (lf)))] sz) := by
  refine M_ofW (cc := cX2_wordOf) (maxL := 2) (ret := (some .int)) (by decide) rfl (Nat.le_of_ble_eq_true rfl) ?_
  intro p e s m below meth c A ls args Q hQ S0 hr hlocks hnm hK hst hA hW hl
  have hx := S0.1; have hb := S0.2.1; have hml := S0.2.2.1; have hown := S0.2.2.2.1; have hts := S0.2.2.2.2
  have hl : lv_has ls 2 [(0, .ref lc), (1, .int (nI (i)))] := hl
  refine lv_iload_n hx hb dX2_wordOf_0 rfl (lv_at hl 1 rfl) ?_
  refine zLt (a := i) (tgt := 16) hx hb dX2_wordOf_1 (by decide) (by omega) ?_
  refine lv_iload_n hx hb dX2_wordOf_4 rfl (lv_at hl 1 rfl) ?_
  refine lv_aload_n hx hb dX2_wordOf_5 rfl (lv_at hl 0 rfl) ?_
  refine alI hx hb hK hW 0 0 (ci := 0) rfl rfl dX2_wordOf_6 ?_
  refine iGe (a := i) (b := nl) (tgt := 16) hx hb dX2_wordOf_7 (by decide) (by omega) (by omega) (fun h7 => ?_) (fun h7 => ?_)
  · skip
    exfalso; omega
  · skip
    refine lv_aload_n hx hb dX2_wordOf_10 rfl (lv_at hl 0 rfl) ?_
    refine lv_iload_n hx hb dX2_wordOf_11 rfl (lv_at hl 1 rfl) ?_
    refine rI hx hb hK hW 0 rfl (k := i) (by omega) (by omega) dX2_wordOf_12 ?_
    refine lv_goto (tgt := 17) hx hb dX2_wordOf_13 (by decide) ?_
    exact eI hQ hx hb hr hlocks hK hW () (rfl) (rfl) dX2_wordOf_17

theorem f_X2_joinBehind_0 : Cond.fieldLink RX2 15 "TreeHashes$Mix" "block" "[I" ∈ wsX2_joinBehind := by decide +kernel
theorem i_X2_joinBehind_X2 : ∀ w ∈ wsX20, w ∈ wsX2_joinBehind := by decide +kernel
theorem f_X2_joinBehind_2 : Cond.fieldLink RX2 18 "TreeHashes$Mix" "v" "[I" ∈ wsX2_joinBehind := by decide +kernel
set_option maxHeartbeats 4000000 in
set_option maxRecDepth 100000 in
theorem c_X2_joinBehind (l : Launch) (D : va_G) (cy : Nat → ClassId) (t : Nat × Nat) (m0 : Nat) (mc : Nat) (mb : Nat) (mv : Nat) (aw : Nat) (an : Nat) (ct : Int64) (ln : Int32) (fl : Int32) (ch : Nat → Int32) (bl : Nat → Int32) (v : Nat → Int32) (lc : Nat) (nl : Nat) (lf : Nat → Int32) (k0 : Nat) (kc : Nat) (kf : Nat → Int32) (bs : Int32) (hk : k0 + 8 ≤ nl) (hn : nl < 2 ^ 31) (sz : Nat) : Met l yX2_joinBehind wsX2_joinBehind ({ frames := 1, cells := 0, slots := 0, locals := 27 }) (PcW D cy t [(m0, .inr (2, [.ref mc, .ref mb, .long (ct), .int (ln), .int (fl), .ref mv, .ref aw, .ref an])), (mc, .inl (cy 0, 8, .inl (ch))), (mb, .inl (cy 0, 16, .inl (bl))), (mv, .inl (cy 0, 16, .inl (v))), (lc, .inl (cy 0, nl, .inl (lf))), (kc, .inl (cy 0, 8, .inl (kf)))] [.ref m0, .ref lc, .int (nI (k0)), .ref kc, .int (bs)] sz) (QvA D cy (fun u : Unit => True) (fun u : Unit => [(m0, .inr (2, [.ref mc, .ref mb, .long (lN 0), .int (nI (64)), .int (bs + (nI (4))), .ref mv, .ref aw, .ref an])), (mc, .inl (cy 0, 8, .inl (kf))), (mb, .inl (cy 0, 16, .inl (jn (fun k => lf (k0 + k)) v))), (mv, .inl (cy 0, 16, .inl (v))), (lc, .inl (cy 0, nl, .inl (lf))), (kc, .inl (cy 0, 8, .inl (kf)))]) (va_A [(m0, .inr (2, [.ref mc, .ref mb, .long (ct), .int (ln), .int (fl), .ref mv, .ref aw, .ref an])), (mc, .inl (cy 0, 8, .inl (ch))), (mb, .inl (cy 0, 16, .inl (bl))), (mv, .inl (cy 0, 16, .inl (v))), (lc, .inl (cy 0, nl, .inl (lf))), (kc, .inl (cy 0, 8, .inl (kf)))] sz)) 0 0 (va_A [(m0, .inr (2, [.ref mc, .ref mb, .long (ct), .int (ln), .int (fl), .ref mv, .ref aw, .ref an])), (mc, .inl (cy 0, 8, .inl (ch))), (mb, .inl (cy 0, 16, .inl (bl))), (mv, .inl (cy 0, 16, .inl (v))), (lc, .inl (cy 0, nl, .inl (lf))), (kc, .inl (cy 0, 8, .inl (kf)))] sz) := by
  refine M_ofW (cc := cX2_joinBehind) (maxL := 6) (ret := none) (by decide) rfl (Nat.le_of_ble_eq_true rfl) ?_
  intro p e s m below meth c A ls args Q hQ S0 hr hlocks hnm hK hst hA hW hl
  have hx := S0.1; have hb := S0.2.1; have hml := S0.2.2.1; have hown := S0.2.2.2.1; have hts := S0.2.2.2.2
  have hl : lv_has ls 6 [(0, .ref m0), (1, .ref lc), (2, .int (nI (k0))), (3, .ref kc), (4, .int (bs))] := hl
  refine lv_iconst (v := nI (0)) hx hb dX2_joinBehind_0 (by decide) ?_
  refine lv_istore (lv' := [(5, .int (nI (0))), (0, .ref m0), (1, .ref lc), (2, .int (nI (k0))), (3, .ref kc), (4, .int (bs))]) hx hb dX2_joinBehind_1 hl (by decide) rfl (fun ls hl => ?_)
  have loop3 : ∀ (nF : Nat) (i : Nat), 8 - i < nF → (i ≤ 8) → ∀ (H : Heap) (locs : List Loc), Wd D A s [(m0, .inr (2, [.ref mc, .ref mb, .long (ct), .int (ln), .int (fl), .ref mv, .ref aw, .ref an])), (mc, .inl (cy 0, 8, .inl (ch))), (mb, .inl (cy 0, 16, .inl (jnI bl (fun k => lf (k0 + k)) v i))), (mv, .inl (cy 0, 16, .inl (v))), (lc, .inl (cy 0, nl, .inl (lf))), (kc, .inl (cy 0, 8, .inl (kf)))] H locs → ∀ ls : Array Slot, lv_has ls 6 [(0, .ref m0), (1, .ref lc), (2, .int (nI (k0))), (3, .ref kc), (4, .int (bs)), (5, .int (nI (i)))] → W p l e ({ frames := 1, cells := 0, slots := 0, locals := 27 }) s m args below meth c H locs 0 0 Q (F0 m 3 ls []) := by
    intro nF
    induction nF with
    | zero => intro i hf; exact absurd hf (Nat.not_lt_zero _)
    | succ nF ih3 =>
      intro i hf hi H locs hW ls hl
      refine lv_iload hx hb dX2_joinBehind_3 (lv_at hl 5 rfl) ?_
      refine lv_bipush (v := nI (8)) hx hb dX2_joinBehind_5 (by decide) ?_
      refine iGe (a := i) (b := 8) (tgt := 48) hx hb dX2_joinBehind_7 (by decide) (by omega) (by omega) (fun h7 => ?_) (fun h7 => ?_)
      · skip
        have e9 : i = 8 := by omega
        try rw [e9] at hW
        have hW := Wd.ext hW 2 rfl (jn (fun k => lf (k0 + k)) v) jnI_8
        refine lv_aload_n hx hb dX2_joinBehind_48 rfl (lv_at hl 0 rfl) ?_
        refine lv_aload_n hx hb dX2_joinBehind_49 rfl (lv_at hl 3 rfl) ?_
        refine lv_aload_n hx hb dX2_joinBehind_50 rfl (lv_at hl 0 rfl) ?_
        refine va_get (D := D) (ci := 2) (v := .ref mb) (C := RX2) (T := TX2) (N := 8) hx hb hts i_X2_joinBehind_X2 hown hK hW.1 0 rfl rfl 1 (by decide) (hts (.fieldLink RX2 15 "TreeHashes$Mix" "block" "[I") f_X2_joinBehind_0) (fun _ h9 => h9) rfl dX2_joinBehind_51 ?_
        refine lv_lconst (v := lN 0) hx hb dX2_joinBehind_54 (by decide) ?_
        refine lv_bipush (v := nI (64)) hx hb dX2_joinBehind_55 (by decide) ?_
        refine lv_iload hx hb dX2_joinBehind_57 (lv_at hl 4 rfl) ?_
        refine lv_iconst (v := nI (4)) hx hb dX2_joinBehind_59 (by decide) ?_
        refine lv_iadd hx hb dX2_joinBehind_60 ?_
        refine kVv (As := [.ref kc, .ref mb, .long (lN 0), .int (nI (64)), .int (bs + (nI (4)))]) (rest := []) S0 hK hst hA hW [0, 1, 2, 5] (fun sz => c_X2_prepare_b l D cy t m0 mc mb mv aw an ct ln fl ch (jn (fun k => lf (k0 + k)) v) kc kf (lN 0) (nI (64)) (bs + (nI (4)))  sz) rfl (by decide) (cwV 5 hts gX2_joinBehind_X2_prepare rfl rfl rfl (by decide +kernel) ⟨Nat.le_of_ble_eq_true rfl, Nat.le_of_ble_eq_true rfl⟩) (fun _ => rfl) 0 2 rfl rfl rfl hl.1 rfl (Nat.le_of_ble_eq_true rfl) dX2_joinBehind_61 ⟨Nat.le_of_ble_eq_true rfl, Nat.le_of_ble_eq_true rfl⟩ (fun u61 H locs p61 hW => ?_)
        have hW : Wd D A s [(m0, .inr (2, [.ref mc, .ref mb, .long ((lN 0)), .int ((nI (64))), .int ((bs + (nI (4)))), .ref mv, .ref aw, .ref an])), (mc, .inl (cy 0, 8, .inl (kf))), (mb, .inl (cy 0, 16, .inl ((jn (fun k => lf (k0 + k)) v)))), (mv, .inl (cy 0, 16, .inl (v))), (lc, .inl (cy 0, nl, .inl (lf))), (kc, .inl (cy 0, 8, .inl (kf)))] H locs := hW
        exact eV hQ hx hb hr hlocks hK hW () (trivial) (rfl) dX2_joinBehind_64
      · skip
        refine lv_aload_n hx hb dX2_joinBehind_10 rfl (lv_at hl 0 rfl) ?_
        refine va_get (D := D) (ci := 2) (v := .ref mb) (C := RX2) (T := TX2) (N := 8) hx hb hts i_X2_joinBehind_X2 hown hK hW.1 0 rfl rfl 1 (by decide) (hts (.fieldLink RX2 15 "TreeHashes$Mix" "block" "[I") f_X2_joinBehind_0) (fun _ h9 => h9) rfl dX2_joinBehind_11 ?_
        refine lv_iload hx hb dX2_joinBehind_14 (lv_at hl 5 rfl) ?_
        refine lv_aload_n hx hb dX2_joinBehind_16 rfl (lv_at hl 1 rfl) ?_
        refine lv_iload_n hx hb dX2_joinBehind_17 rfl (lv_at hl 2 rfl) ?_
        refine lv_iload hx hb dX2_joinBehind_18 (lv_at hl 5 rfl) ?_
        refine lv_iadd hx hb dX2_joinBehind_20 ?_
        refine tI (nI_add _ _) ?_
        refine kSi (As := [.ref lc, .int (nI (k0 + i))]) (rest := [.int (nI (i)), .ref mb]) S0 hK hst hA hW [4] (fun sz => c_X2_wordOf l D cy t lc nl lf (k0 + i) (by omega) (by omega) sz) rfl (by decide) (va_cwS 2 hts gX2_joinBehind_X2_wordOf rfl rfl rfl (by decide +kernel) ⟨Nat.le_of_ble_eq_true rfl, Nat.le_of_ble_eq_true rfl⟩) (fun _ => rfl) rfl hl.1 rfl (Nat.le_of_ble_eq_true rfl) dX2_joinBehind_21 ⟨Nat.le_of_ble_eq_true rfl, Nat.le_of_ble_eq_true rfl⟩ (fun r21 u21 H locs p21 hW => ?_)
        have hW : Wd D A s [(m0, .inr (2, [.ref mc, .ref mb, .long (ct), .int (ln), .int (fl), .ref mv, .ref aw, .ref an])), (mc, .inl (cy 0, 8, .inl (ch))), (mb, .inl (cy 0, 16, .inl (jnI bl (fun k => lf (k0 + k)) v i))), (mv, .inl (cy 0, 16, .inl (v))), (lc, .inl (cy 0, nl, .inl (lf))), (kc, .inl (cy 0, 8, .inl (kf)))] H locs := hW
        have q21 : r21 = lf (k0 + i) := p21
        subst q21
        refine wI hx hb hK hW 2 rfl (k := i) (by omega) (by omega) dX2_joinBehind_24 (fun H locs hW => ?_)
        have hW : Wd D A s [(m0, .inr (2, [.ref mc, .ref mb, .long (ct), .int (ln), .int (fl), .ref mv, .ref aw, .ref an])), (mc, .inl (cy 0, 8, .inl (ch))), (mb, .inl (cy 0, 16, .inl (upd (jnI bl (fun k => lf (k0 + k)) v i) i (lf (k0 + i))))), (mv, .inl (cy 0, 16, .inl (v))), (lc, .inl (cy 0, nl, .inl (lf))), (kc, .inl (cy 0, 8, .inl (kf)))] H locs := hW
        refine lv_aload_n hx hb dX2_joinBehind_25 rfl (lv_at hl 0 rfl) ?_
        refine va_get (D := D) (ci := 2) (v := .ref mb) (C := RX2) (T := TX2) (N := 8) hx hb hts i_X2_joinBehind_X2 hown hK hW.1 0 rfl rfl 1 (by decide) (hts (.fieldLink RX2 15 "TreeHashes$Mix" "block" "[I") f_X2_joinBehind_0) (fun _ h9 => h9) rfl dX2_joinBehind_26 ?_
        refine lv_bipush (v := nI (8)) hx hb dX2_joinBehind_29 (by decide) ?_
        refine lv_iload hx hb dX2_joinBehind_31 (lv_at hl 5 rfl) ?_
        refine lv_iadd hx hb dX2_joinBehind_33 ?_
        refine tI (nI_add _ _) ?_
        refine lv_aload_n hx hb dX2_joinBehind_34 rfl (lv_at hl 0 rfl) ?_
        refine va_get (D := D) (ci := 2) (v := .ref mv) (C := RX2) (T := TX2) (N := 8) hx hb hts i_X2_joinBehind_X2 hown hK hW.1 0 rfl rfl 5 (by decide) (hts (.fieldLink RX2 18 "TreeHashes$Mix" "v" "[I") f_X2_joinBehind_2) (fun _ h9 => h9) rfl dX2_joinBehind_35 ?_
        refine lv_iload hx hb dX2_joinBehind_38 (lv_at hl 5 rfl) ?_
        refine rI hx hb hK hW 3 rfl (k := i) (by omega) (by omega) dX2_joinBehind_40 ?_
        refine wI hx hb hK hW 2 rfl (k := 8 + i) (by omega) (by omega) dX2_joinBehind_41 (fun H locs hW => ?_)
        have hW : Wd D A s [(m0, .inr (2, [.ref mc, .ref mb, .long (ct), .int (ln), .int (fl), .ref mv, .ref aw, .ref an])), (mc, .inl (cy 0, 8, .inl (ch))), (mb, .inl (cy 0, 16, .inl (upd (upd (jnI bl (fun k => lf (k0 + k)) v i) i (lf (k0 + i))) (8 + i) (v i)))), (mv, .inl (cy 0, 16, .inl (v))), (lc, .inl (cy 0, nl, .inl (lf))), (kc, .inl (cy 0, 8, .inl (kf)))] H locs := hW
        rw [show (upd (upd (jnI bl (fun k => lf (k0 + k)) v i) i (lf (k0 + i))) (8 + i) (v i)) = (jnI bl (fun k => lf (k0 + k)) v (i + 1)) from jnI_s bl (fun k => lf (k0 + k)) v (by omega)] at hW
        have hW : Wd D A s [(m0, .inr (2, [.ref mc, .ref mb, .long (ct), .int (ln), .int (fl), .ref mv, .ref aw, .ref an])), (mc, .inl (cy 0, 8, .inl (ch))), (mb, .inl (cy 0, 16, .inl (jnI bl (fun k => lf (k0 + k)) v (i + 1)))), (mv, .inl (cy 0, 16, .inl (v))), (lc, .inl (cy 0, nl, .inl (lf))), (kc, .inl (cy 0, 8, .inl (kf)))] H locs := hW
        refine lv_iinc (v := nI (i + 1)) (lv' := [(5, .int (nI (i + 1))), (0, .ref m0), (1, .ref lc), (2, .int (nI (k0))), (3, .ref kc), (4, .int (bs))]) hx hb dX2_joinBehind_42 hl (k := 5) rfl (nI_1 _) (by decide) rfl (fun ls hl => ?_)
        refine lv_goto (tgt := 3) hx hb dX2_joinBehind_45 (by decide) ?_
        exact ih3 (i + 1) (by omega) (by omega) _ _ hW _ (lv_sub hl [1, 2, 3, 4, 5, 0] rfl)
  rw [← jnI_0 bl (fun k => lf (k0 + k)) v] at hW
  exact loop3 _ 0 (Nat.lt_succ_self _) (by omega) _ _ hW _ (lv_sub hl [1, 2, 3, 4, 5, 0] rfl)

theorem f_X2_joinBehind_s_0 : Cond.fieldLink RX2 15 "TreeHashes$Mix" "block" "[I" ∈ wsX2_joinBehind := by decide +kernel
theorem i_X2_joinBehind_s_X2 : ∀ w ∈ wsX20, w ∈ wsX2_joinBehind := by decide +kernel
theorem f_X2_joinBehind_s_2 : Cond.fieldLink RX2 18 "TreeHashes$Mix" "v" "[I" ∈ wsX2_joinBehind := by decide +kernel
set_option maxHeartbeats 4000000 in
set_option maxRecDepth 100000 in
theorem c_X2_joinBehind_s (l : Launch) (D : va_G) (cy : Nat → ClassId) (t : Nat × Nat) (m0 : Nat) (mc : Nat) (mb : Nat) (mv : Nat) (aw : Nat) (an : Nat) (ct : Int64) (ln : Int32) (fl : Int32) (ch : Nat → Int32) (bl : Nat → Int32) (v : Nat → Int32) (lc : Nat) (nl : Nat) (lf : Nat → Int32) (k0 : Nat) (bs : Int32) (hk : k0 + 8 ≤ nl) (hn : nl < 2 ^ 31) (sz : Nat) : Met l yX2_joinBehind wsX2_joinBehind ({ frames := 1, cells := 0, slots := 0, locals := 27 }) (PcW D cy t [(m0, .inr (2, [.ref mc, .ref mb, .long (ct), .int (ln), .int (fl), .ref mv, .ref aw, .ref an])), (mc, .inl (cy 0, 8, .inl (ch))), (mb, .inl (cy 0, 16, .inl (bl))), (mv, .inl (cy 0, 16, .inl (v))), (lc, .inl (cy 0, nl, .inl (lf)))] [.ref m0, .ref lc, .int (nI (k0)), .ref t.1, .int (bs)] sz) (QvA D cy (fun u : Unit => True) (fun u : Unit => [(m0, .inr (2, [.ref mc, .ref mb, .long (lN 0), .int (nI (64)), .int (bs + (nI (4))), .ref mv, .ref aw, .ref an])), (mc, .inl (cy 0, 8, .inl (stA))), (mb, .inl (cy 0, 16, .inl (jn (fun k => lf (k0 + k)) v))), (mv, .inl (cy 0, 16, .inl (v))), (lc, .inl (cy 0, nl, .inl (lf)))]) (va_A [(m0, .inr (2, [.ref mc, .ref mb, .long (ct), .int (ln), .int (fl), .ref mv, .ref aw, .ref an])), (mc, .inl (cy 0, 8, .inl (ch))), (mb, .inl (cy 0, 16, .inl (bl))), (mv, .inl (cy 0, 16, .inl (v))), (lc, .inl (cy 0, nl, .inl (lf)))] sz)) 0 0 (va_A [(m0, .inr (2, [.ref mc, .ref mb, .long (ct), .int (ln), .int (fl), .ref mv, .ref aw, .ref an])), (mc, .inl (cy 0, 8, .inl (ch))), (mb, .inl (cy 0, 16, .inl (bl))), (mv, .inl (cy 0, 16, .inl (v))), (lc, .inl (cy 0, nl, .inl (lf)))] sz) := by
  refine M_ofW (cc := cX2_joinBehind) (maxL := 6) (ret := none) (by decide) rfl (Nat.le_of_ble_eq_true rfl) ?_
  intro p e s m below meth c A ls args Q hQ S0 hr hlocks hnm hK hst hA hW hl
  have hx := S0.1; have hb := S0.2.1; have hml := S0.2.2.1; have hown := S0.2.2.2.1; have hts := S0.2.2.2.2
  have hl : lv_has ls 6 [(0, .ref m0), (1, .ref lc), (2, .int (nI (k0))), (3, .ref t.1), (4, .int (bs))] := hl
  refine lv_iconst (v := nI (0)) hx hb dX2_joinBehind_0 (by decide) ?_
  refine lv_istore (lv' := [(5, .int (nI (0))), (0, .ref m0), (1, .ref lc), (2, .int (nI (k0))), (3, .ref t.1), (4, .int (bs))]) hx hb dX2_joinBehind_1 hl (by decide) rfl (fun ls hl => ?_)
  have loop3 : ∀ (nF : Nat) (i : Nat), 8 - i < nF → (i ≤ 8) → ∀ (H : Heap) (locs : List Loc), Wd D A s [(m0, .inr (2, [.ref mc, .ref mb, .long (ct), .int (ln), .int (fl), .ref mv, .ref aw, .ref an])), (mc, .inl (cy 0, 8, .inl (ch))), (mb, .inl (cy 0, 16, .inl (jnI bl (fun k => lf (k0 + k)) v i))), (mv, .inl (cy 0, 16, .inl (v))), (lc, .inl (cy 0, nl, .inl (lf)))] H locs → ∀ ls : Array Slot, lv_has ls 6 [(0, .ref m0), (1, .ref lc), (2, .int (nI (k0))), (3, .ref t.1), (4, .int (bs)), (5, .int (nI (i)))] → W p l e ({ frames := 1, cells := 0, slots := 0, locals := 27 }) s m args below meth c H locs 0 0 Q (F0 m 3 ls []) := by
    intro nF
    induction nF with
    | zero => intro i hf; exact absurd hf (Nat.not_lt_zero _)
    | succ nF ih3 =>
      intro i hf hi H locs hW ls hl
      refine lv_iload hx hb dX2_joinBehind_3 (lv_at hl 5 rfl) ?_
      refine lv_bipush (v := nI (8)) hx hb dX2_joinBehind_5 (by decide) ?_
      refine iGe (a := i) (b := 8) (tgt := 48) hx hb dX2_joinBehind_7 (by decide) (by omega) (by omega) (fun h7 => ?_) (fun h7 => ?_)
      · skip
        have e9 : i = 8 := by omega
        try rw [e9] at hW
        have hW := Wd.ext hW 2 rfl (jn (fun k => lf (k0 + k)) v) jnI_8
        refine lv_aload_n hx hb dX2_joinBehind_48 rfl (lv_at hl 0 rfl) ?_
        refine lv_aload_n hx hb dX2_joinBehind_49 rfl (lv_at hl 3 rfl) ?_
        refine lv_aload_n hx hb dX2_joinBehind_50 rfl (lv_at hl 0 rfl) ?_
        refine va_get (D := D) (ci := 2) (v := .ref mb) (C := RX2) (T := TX2) (N := 8) hx hb hts i_X2_joinBehind_s_X2 hown hK hW.1 0 rfl rfl 1 (by decide) (hts (.fieldLink RX2 15 "TreeHashes$Mix" "block" "[I") f_X2_joinBehind_s_0) (fun _ h9 => h9) rfl dX2_joinBehind_51 ?_
        refine lv_lconst (v := lN 0) hx hb dX2_joinBehind_54 (by decide) ?_
        refine lv_bipush (v := nI (64)) hx hb dX2_joinBehind_55 (by decide) ?_
        refine lv_iload hx hb dX2_joinBehind_57 (lv_at hl 4 rfl) ?_
        refine lv_iconst (v := nI (4)) hx hb dX2_joinBehind_59 (by decide) ?_
        refine lv_iadd hx hb dX2_joinBehind_60 ?_
        refine kVv (As := [.ref t.1, .ref mb, .long (lN 0), .int (nI (64)), .int (bs + (nI (4)))]) (rest := []) S0 hK hst hA hW [0, 1, 2] (fun sz => c_X2_prepare_s l D cy t m0 mc mb mv aw an ct ln fl ch (jn (fun k => lf (k0 + k)) v) (lN 0) (nI (64)) (bs + (nI (4)))  sz) rfl (by decide) (cwV 5 hts gX2_joinBehind_X2_prepare rfl rfl rfl (by decide +kernel) ⟨Nat.le_of_ble_eq_true rfl, Nat.le_of_ble_eq_true rfl⟩) (fun _ => rfl) 0 2 rfl rfl rfl hl.1 rfl (Nat.le_of_ble_eq_true rfl) dX2_joinBehind_61 ⟨Nat.le_of_ble_eq_true rfl, Nat.le_of_ble_eq_true rfl⟩ (fun u61 H locs p61 hW => ?_)
        have hW : Wd D A s [(m0, .inr (2, [.ref mc, .ref mb, .long ((lN 0)), .int ((nI (64))), .int ((bs + (nI (4)))), .ref mv, .ref aw, .ref an])), (mc, .inl (cy 0, 8, .inl (stA))), (mb, .inl (cy 0, 16, .inl ((jn (fun k => lf (k0 + k)) v)))), (mv, .inl (cy 0, 16, .inl (v))), (lc, .inl (cy 0, nl, .inl (lf)))] H locs := hW
        exact eV hQ hx hb hr hlocks hK hW () (trivial) (rfl) dX2_joinBehind_64
      · skip
        refine lv_aload_n hx hb dX2_joinBehind_10 rfl (lv_at hl 0 rfl) ?_
        refine va_get (D := D) (ci := 2) (v := .ref mb) (C := RX2) (T := TX2) (N := 8) hx hb hts i_X2_joinBehind_s_X2 hown hK hW.1 0 rfl rfl 1 (by decide) (hts (.fieldLink RX2 15 "TreeHashes$Mix" "block" "[I") f_X2_joinBehind_s_0) (fun _ h9 => h9) rfl dX2_joinBehind_11 ?_
        refine lv_iload hx hb dX2_joinBehind_14 (lv_at hl 5 rfl) ?_
        refine lv_aload_n hx hb dX2_joinBehind_16 rfl (lv_at hl 1 rfl) ?_
        refine lv_iload_n hx hb dX2_joinBehind_17 rfl (lv_at hl 2 rfl) ?_
        refine lv_iload hx hb dX2_joinBehind_18 (lv_at hl 5 rfl) ?_
        refine lv_iadd hx hb dX2_joinBehind_20 ?_
        refine tI (nI_add _ _) ?_
        refine kSi (As := [.ref lc, .int (nI (k0 + i))]) (rest := [.int (nI (i)), .ref mb]) S0 hK hst hA hW [4] (fun sz => c_X2_wordOf l D cy t lc nl lf (k0 + i) (by omega) (by omega) sz) rfl (by decide) (va_cwS 2 hts gX2_joinBehind_X2_wordOf rfl rfl rfl (by decide +kernel) ⟨Nat.le_of_ble_eq_true rfl, Nat.le_of_ble_eq_true rfl⟩) (fun _ => rfl) rfl hl.1 rfl (Nat.le_of_ble_eq_true rfl) dX2_joinBehind_21 ⟨Nat.le_of_ble_eq_true rfl, Nat.le_of_ble_eq_true rfl⟩ (fun r21 u21 H locs p21 hW => ?_)
        have hW : Wd D A s [(m0, .inr (2, [.ref mc, .ref mb, .long (ct), .int (ln), .int (fl), .ref mv, .ref aw, .ref an])), (mc, .inl (cy 0, 8, .inl (ch))), (mb, .inl (cy 0, 16, .inl (jnI bl (fun k => lf (k0 + k)) v i))), (mv, .inl (cy 0, 16, .inl (v))), (lc, .inl (cy 0, nl, .inl (lf)))] H locs := hW
        have q21 : r21 = lf (k0 + i) := p21
        subst q21
        refine wI hx hb hK hW 2 rfl (k := i) (by omega) (by omega) dX2_joinBehind_24 (fun H locs hW => ?_)
        have hW : Wd D A s [(m0, .inr (2, [.ref mc, .ref mb, .long (ct), .int (ln), .int (fl), .ref mv, .ref aw, .ref an])), (mc, .inl (cy 0, 8, .inl (ch))), (mb, .inl (cy 0, 16, .inl (upd (jnI bl (fun k => lf (k0 + k)) v i) i (lf (k0 + i))))), (mv, .inl (cy 0, 16, .inl (v))), (lc, .inl (cy 0, nl, .inl (lf)))] H locs := hW
        refine lv_aload_n hx hb dX2_joinBehind_25 rfl (lv_at hl 0 rfl) ?_
        refine va_get (D := D) (ci := 2) (v := .ref mb) (C := RX2) (T := TX2) (N := 8) hx hb hts i_X2_joinBehind_s_X2 hown hK hW.1 0 rfl rfl 1 (by decide) (hts (.fieldLink RX2 15 "TreeHashes$Mix" "block" "[I") f_X2_joinBehind_s_0) (fun _ h9 => h9) rfl dX2_joinBehind_26 ?_
        refine lv_bipush (v := nI (8)) hx hb dX2_joinBehind_29 (by decide) ?_
        refine lv_iload hx hb dX2_joinBehind_31 (lv_at hl 5 rfl) ?_
        refine lv_iadd hx hb dX2_joinBehind_33 ?_
        refine tI (nI_add _ _) ?_
        refine lv_aload_n hx hb dX2_joinBehind_34 rfl (lv_at hl 0 rfl) ?_
        refine va_get (D := D) (ci := 2) (v := .ref mv) (C := RX2) (T := TX2) (N := 8) hx hb hts i_X2_joinBehind_s_X2 hown hK hW.1 0 rfl rfl 5 (by decide) (hts (.fieldLink RX2 18 "TreeHashes$Mix" "v" "[I") f_X2_joinBehind_s_2) (fun _ h9 => h9) rfl dX2_joinBehind_35 ?_
        refine lv_iload hx hb dX2_joinBehind_38 (lv_at hl 5 rfl) ?_
        refine rI hx hb hK hW 3 rfl (k := i) (by omega) (by omega) dX2_joinBehind_40 ?_
        refine wI hx hb hK hW 2 rfl (k := 8 + i) (by omega) (by omega) dX2_joinBehind_41 (fun H locs hW => ?_)
        have hW : Wd D A s [(m0, .inr (2, [.ref mc, .ref mb, .long (ct), .int (ln), .int (fl), .ref mv, .ref aw, .ref an])), (mc, .inl (cy 0, 8, .inl (ch))), (mb, .inl (cy 0, 16, .inl (upd (upd (jnI bl (fun k => lf (k0 + k)) v i) i (lf (k0 + i))) (8 + i) (v i)))), (mv, .inl (cy 0, 16, .inl (v))), (lc, .inl (cy 0, nl, .inl (lf)))] H locs := hW
        rw [show (upd (upd (jnI bl (fun k => lf (k0 + k)) v i) i (lf (k0 + i))) (8 + i) (v i)) = (jnI bl (fun k => lf (k0 + k)) v (i + 1)) from jnI_s bl (fun k => lf (k0 + k)) v (by omega)] at hW
        have hW : Wd D A s [(m0, .inr (2, [.ref mc, .ref mb, .long (ct), .int (ln), .int (fl), .ref mv, .ref aw, .ref an])), (mc, .inl (cy 0, 8, .inl (ch))), (mb, .inl (cy 0, 16, .inl (jnI bl (fun k => lf (k0 + k)) v (i + 1)))), (mv, .inl (cy 0, 16, .inl (v))), (lc, .inl (cy 0, nl, .inl (lf)))] H locs := hW
        refine lv_iinc (v := nI (i + 1)) (lv' := [(5, .int (nI (i + 1))), (0, .ref m0), (1, .ref lc), (2, .int (nI (k0))), (3, .ref t.1), (4, .int (bs))]) hx hb dX2_joinBehind_42 hl (k := 5) rfl (nI_1 _) (by decide) rfl (fun ls hl => ?_)
        refine lv_goto (tgt := 3) hx hb dX2_joinBehind_45 (by decide) ?_
        exact ih3 (i + 1) (by omega) (by omega) _ _ hW _ (lv_sub hl [1, 2, 3, 4, 5, 0] rfl)
  rw [← jnI_0 bl (fun k => lf (k0 + k)) v] at hW
  exact loop3 _ 0 (Nat.lt_succ_self _) (by omega) _ _ hW _ (lv_sub hl [1, 2, 3, 4, 5, 0] rfl)

theorem f_X2_joinBefore_0 : Cond.fieldLink RX2 15 "TreeHashes$Mix" "block" "[I" ∈ wsX2_joinBefore := by decide +kernel
theorem i_X2_joinBefore_X2 : ∀ w ∈ wsX20, w ∈ wsX2_joinBefore := by decide +kernel
theorem f_X2_joinBefore_2 : Cond.fieldLink RX2 18 "TreeHashes$Mix" "v" "[I" ∈ wsX2_joinBefore := by decide +kernel
set_option maxHeartbeats 4000000 in
set_option maxRecDepth 100000 in
theorem c_X2_joinBefore (l : Launch) (D : va_G) (cy : Nat → ClassId) (t : Nat × Nat) (m0 : Nat) (mc : Nat) (mb : Nat) (mv : Nat) (aw : Nat) (an : Nat) (ct : Int64) (ln : Int32) (fl : Int32) (ch : Nat → Int32) (bl : Nat → Int32) (v : Nat → Int32) (lc : Nat) (nl : Nat) (lf : Nat → Int32) (kc : Nat) (kf : Nat → Int32) (bs : Int32) (hk : 0 + 8 ≤ nl) (hn : nl < 2 ^ 31) (sz : Nat) : Met l yX2_joinBefore wsX2_joinBefore ({ frames := 1, cells := 0, slots := 0, locals := 27 }) (PcW D cy t [(m0, .inr (2, [.ref mc, .ref mb, .long (ct), .int (ln), .int (fl), .ref mv, .ref aw, .ref an])), (mc, .inl (cy 0, 8, .inl (ch))), (mb, .inl (cy 0, 16, .inl (bl))), (mv, .inl (cy 0, 16, .inl (v))), (lc, .inl (cy 0, nl, .inl (lf))), (kc, .inl (cy 0, 8, .inl (kf)))] [.ref m0, .ref lc, .ref kc, .int (bs)] sz) (QvA D cy (fun u : Unit => True) (fun u : Unit => [(m0, .inr (2, [.ref mc, .ref mb, .long (lN 0), .int (nI (64)), .int (bs + (nI (4))), .ref mv, .ref aw, .ref an])), (mc, .inl (cy 0, 8, .inl (kf))), (mb, .inl (cy 0, 16, .inl (jn v (fun k => lf (0 + k))))), (mv, .inl (cy 0, 16, .inl (v))), (lc, .inl (cy 0, nl, .inl (lf))), (kc, .inl (cy 0, 8, .inl (kf)))]) (va_A [(m0, .inr (2, [.ref mc, .ref mb, .long (ct), .int (ln), .int (fl), .ref mv, .ref aw, .ref an])), (mc, .inl (cy 0, 8, .inl (ch))), (mb, .inl (cy 0, 16, .inl (bl))), (mv, .inl (cy 0, 16, .inl (v))), (lc, .inl (cy 0, nl, .inl (lf))), (kc, .inl (cy 0, 8, .inl (kf)))] sz)) 0 0 (va_A [(m0, .inr (2, [.ref mc, .ref mb, .long (ct), .int (ln), .int (fl), .ref mv, .ref aw, .ref an])), (mc, .inl (cy 0, 8, .inl (ch))), (mb, .inl (cy 0, 16, .inl (bl))), (mv, .inl (cy 0, 16, .inl (v))), (lc, .inl (cy 0, nl, .inl (lf))), (kc, .inl (cy 0, 8, .inl (kf)))] sz) := by
  refine M_ofW (cc := cX2_joinBefore) (maxL := 5) (ret := none) (by decide) rfl (Nat.le_of_ble_eq_true rfl) ?_
  intro p e s m below meth c A ls args Q hQ S0 hr hlocks hnm hK hst hA hW hl
  have hx := S0.1; have hb := S0.2.1; have hml := S0.2.2.1; have hown := S0.2.2.2.1; have hts := S0.2.2.2.2
  have hl : lv_has ls 5 [(0, .ref m0), (1, .ref lc), (2, .ref kc), (3, .int (bs))] := hl
  refine lv_iconst (v := nI (0)) hx hb dX2_joinBefore_0 (by decide) ?_
  refine lv_istore (lv' := [(4, .int (nI (0))), (0, .ref m0), (1, .ref lc), (2, .ref kc), (3, .int (bs))]) hx hb dX2_joinBefore_1 hl (by decide) rfl (fun ls hl => ?_)
  have loop3 : ∀ (nF : Nat) (i : Nat), 8 - i < nF → (i ≤ 8) → ∀ (H : Heap) (locs : List Loc), Wd D A s [(m0, .inr (2, [.ref mc, .ref mb, .long (ct), .int (ln), .int (fl), .ref mv, .ref aw, .ref an])), (mc, .inl (cy 0, 8, .inl (ch))), (mb, .inl (cy 0, 16, .inl (jnI bl v (fun k => lf (0 + k)) i))), (mv, .inl (cy 0, 16, .inl (v))), (lc, .inl (cy 0, nl, .inl (lf))), (kc, .inl (cy 0, 8, .inl (kf)))] H locs → ∀ ls : Array Slot, lv_has ls 5 [(0, .ref m0), (1, .ref lc), (2, .ref kc), (3, .int (bs)), (4, .int (nI (i)))] → W p l e ({ frames := 1, cells := 0, slots := 0, locals := 27 }) s m args below meth c H locs 0 0 Q (F0 m 3 ls []) := by
    intro nF
    induction nF with
    | zero => intro i hf; exact absurd hf (Nat.not_lt_zero _)
    | succ nF ih3 =>
      intro i hf hi H locs hW ls hl
      refine lv_iload hx hb dX2_joinBefore_3 (lv_at hl 4 rfl) ?_
      refine lv_bipush (v := nI (8)) hx hb dX2_joinBefore_5 (by decide) ?_
      refine iGe (a := i) (b := 8) (tgt := 46) hx hb dX2_joinBefore_7 (by decide) (by omega) (by omega) (fun h7 => ?_) (fun h7 => ?_)
      · skip
        have e9 : i = 8 := by omega
        try rw [e9] at hW
        have hW := Wd.ext hW 2 rfl (jn v (fun k => lf (0 + k))) jnI_8
        refine lv_aload_n hx hb dX2_joinBefore_46 rfl (lv_at hl 0 rfl) ?_
        refine lv_aload_n hx hb dX2_joinBefore_47 rfl (lv_at hl 2 rfl) ?_
        refine lv_aload_n hx hb dX2_joinBefore_48 rfl (lv_at hl 0 rfl) ?_
        refine va_get (D := D) (ci := 2) (v := .ref mb) (C := RX2) (T := TX2) (N := 8) hx hb hts i_X2_joinBefore_X2 hown hK hW.1 0 rfl rfl 1 (by decide) (hts (.fieldLink RX2 15 "TreeHashes$Mix" "block" "[I") f_X2_joinBefore_0) (fun _ h9 => h9) rfl dX2_joinBefore_49 ?_
        refine lv_lconst (v := lN 0) hx hb dX2_joinBefore_52 (by decide) ?_
        refine lv_bipush (v := nI (64)) hx hb dX2_joinBefore_53 (by decide) ?_
        refine lv_iload_n hx hb dX2_joinBefore_55 rfl (lv_at hl 3 rfl) ?_
        refine lv_iconst (v := nI (4)) hx hb dX2_joinBefore_56 (by decide) ?_
        refine lv_iadd hx hb dX2_joinBefore_57 ?_
        refine kVv (As := [.ref kc, .ref mb, .long (lN 0), .int (nI (64)), .int (bs + (nI (4)))]) (rest := []) S0 hK hst hA hW [0, 1, 2, 5] (fun sz => c_X2_prepare_b l D cy t m0 mc mb mv aw an ct ln fl ch (jn v (fun k => lf (0 + k))) kc kf (lN 0) (nI (64)) (bs + (nI (4)))  sz) rfl (by decide) (cwV 5 hts gX2_joinBefore_X2_prepare rfl rfl rfl (by decide +kernel) ⟨Nat.le_of_ble_eq_true rfl, Nat.le_of_ble_eq_true rfl⟩) (fun _ => rfl) 0 2 rfl rfl rfl hl.1 rfl (Nat.le_of_ble_eq_true rfl) dX2_joinBefore_58 ⟨Nat.le_of_ble_eq_true rfl, Nat.le_of_ble_eq_true rfl⟩ (fun u58 H locs p58 hW => ?_)
        have hW : Wd D A s [(m0, .inr (2, [.ref mc, .ref mb, .long ((lN 0)), .int ((nI (64))), .int ((bs + (nI (4)))), .ref mv, .ref aw, .ref an])), (mc, .inl (cy 0, 8, .inl (kf))), (mb, .inl (cy 0, 16, .inl ((jn v (fun k => lf (0 + k)))))), (mv, .inl (cy 0, 16, .inl (v))), (lc, .inl (cy 0, nl, .inl (lf))), (kc, .inl (cy 0, 8, .inl (kf)))] H locs := hW
        exact eV hQ hx hb hr hlocks hK hW () (trivial) (rfl) dX2_joinBefore_61
      · skip
        refine lv_aload_n hx hb dX2_joinBefore_10 rfl (lv_at hl 0 rfl) ?_
        refine va_get (D := D) (ci := 2) (v := .ref mb) (C := RX2) (T := TX2) (N := 8) hx hb hts i_X2_joinBefore_X2 hown hK hW.1 0 rfl rfl 1 (by decide) (hts (.fieldLink RX2 15 "TreeHashes$Mix" "block" "[I") f_X2_joinBefore_0) (fun _ h9 => h9) rfl dX2_joinBefore_11 ?_
        refine lv_iload hx hb dX2_joinBefore_14 (lv_at hl 4 rfl) ?_
        refine lv_aload_n hx hb dX2_joinBefore_16 rfl (lv_at hl 0 rfl) ?_
        refine va_get (D := D) (ci := 2) (v := .ref mv) (C := RX2) (T := TX2) (N := 8) hx hb hts i_X2_joinBefore_X2 hown hK hW.1 0 rfl rfl 5 (by decide) (hts (.fieldLink RX2 18 "TreeHashes$Mix" "v" "[I") f_X2_joinBefore_2) (fun _ h9 => h9) rfl dX2_joinBefore_17 ?_
        refine lv_iload hx hb dX2_joinBefore_20 (lv_at hl 4 rfl) ?_
        refine rI hx hb hK hW 3 rfl (k := i) (by omega) (by omega) dX2_joinBefore_22 ?_
        refine wI hx hb hK hW 2 rfl (k := i) (by omega) (by omega) dX2_joinBefore_23 (fun H locs hW => ?_)
        have hW : Wd D A s [(m0, .inr (2, [.ref mc, .ref mb, .long (ct), .int (ln), .int (fl), .ref mv, .ref aw, .ref an])), (mc, .inl (cy 0, 8, .inl (ch))), (mb, .inl (cy 0, 16, .inl (upd (jnI bl v (fun k => lf (0 + k)) i) i (v i)))), (mv, .inl (cy 0, 16, .inl (v))), (lc, .inl (cy 0, nl, .inl (lf))), (kc, .inl (cy 0, 8, .inl (kf)))] H locs := hW
        refine lv_aload_n hx hb dX2_joinBefore_24 rfl (lv_at hl 0 rfl) ?_
        refine va_get (D := D) (ci := 2) (v := .ref mb) (C := RX2) (T := TX2) (N := 8) hx hb hts i_X2_joinBefore_X2 hown hK hW.1 0 rfl rfl 1 (by decide) (hts (.fieldLink RX2 15 "TreeHashes$Mix" "block" "[I") f_X2_joinBefore_0) (fun _ h9 => h9) rfl dX2_joinBefore_25 ?_
        refine lv_bipush (v := nI (8)) hx hb dX2_joinBefore_28 (by decide) ?_
        refine lv_iload hx hb dX2_joinBefore_30 (lv_at hl 4 rfl) ?_
        refine lv_iadd hx hb dX2_joinBefore_32 ?_
        refine tI (nI_add _ _) ?_
        refine lv_aload_n hx hb dX2_joinBefore_33 rfl (lv_at hl 1 rfl) ?_
        refine lv_iload hx hb dX2_joinBefore_34 (lv_at hl 4 rfl) ?_
        refine kSi (As := [.ref lc, .int (nI (i))]) (rest := [.int (nI (8 + i)), .ref mb]) S0 hK hst hA hW [4] (fun sz => c_X2_wordOf l D cy t lc nl lf i (by omega) (by omega) sz) rfl (by decide) (va_cwS 2 hts gX2_joinBefore_X2_wordOf rfl rfl rfl (by decide +kernel) ⟨Nat.le_of_ble_eq_true rfl, Nat.le_of_ble_eq_true rfl⟩) (fun _ => rfl) rfl hl.1 rfl (Nat.le_of_ble_eq_true rfl) dX2_joinBefore_36 ⟨Nat.le_of_ble_eq_true rfl, Nat.le_of_ble_eq_true rfl⟩ (fun r36 u36 H locs p36 hW => ?_)
        have hW : Wd D A s [(m0, .inr (2, [.ref mc, .ref mb, .long (ct), .int (ln), .int (fl), .ref mv, .ref aw, .ref an])), (mc, .inl (cy 0, 8, .inl (ch))), (mb, .inl (cy 0, 16, .inl (upd (jnI bl v (fun k => lf (0 + k)) i) i (v i)))), (mv, .inl (cy 0, 16, .inl (v))), (lc, .inl (cy 0, nl, .inl (lf))), (kc, .inl (cy 0, 8, .inl (kf)))] H locs := hW
        have q36 : r36 = lf i := p36
        subst q36
        refine tI (x' := lf (0 + i)) (by rw [Nat.zero_add]) ?_
        refine wI hx hb hK hW 2 rfl (k := 8 + i) (by omega) (by omega) dX2_joinBefore_39 (fun H locs hW => ?_)
        have hW : Wd D A s [(m0, .inr (2, [.ref mc, .ref mb, .long (ct), .int (ln), .int (fl), .ref mv, .ref aw, .ref an])), (mc, .inl (cy 0, 8, .inl (ch))), (mb, .inl (cy 0, 16, .inl (upd (upd (jnI bl v (fun k => lf (0 + k)) i) i (v i)) (8 + i) (lf (0 + i))))), (mv, .inl (cy 0, 16, .inl (v))), (lc, .inl (cy 0, nl, .inl (lf))), (kc, .inl (cy 0, 8, .inl (kf)))] H locs := hW
        rw [show (upd (upd (jnI bl v (fun k => lf (0 + k)) i) i (v i)) (8 + i) (lf (0 + i))) = (jnI bl v (fun k => lf (0 + k)) (i + 1)) from jnI_s bl v (fun k => lf (0 + k)) (by omega)] at hW
        have hW : Wd D A s [(m0, .inr (2, [.ref mc, .ref mb, .long (ct), .int (ln), .int (fl), .ref mv, .ref aw, .ref an])), (mc, .inl (cy 0, 8, .inl (ch))), (mb, .inl (cy 0, 16, .inl (jnI bl v (fun k => lf (0 + k)) (i + 1)))), (mv, .inl (cy 0, 16, .inl (v))), (lc, .inl (cy 0, nl, .inl (lf))), (kc, .inl (cy 0, 8, .inl (kf)))] H locs := hW
        refine lv_iinc (v := nI (i + 1)) (lv' := [(4, .int (nI (i + 1))), (0, .ref m0), (1, .ref lc), (2, .ref kc), (3, .int (bs))]) hx hb dX2_joinBefore_40 hl (k := 4) rfl (nI_1 _) (by decide) rfl (fun ls hl => ?_)
        refine lv_goto (tgt := 3) hx hb dX2_joinBefore_43 (by decide) ?_
        exact ih3 (i + 1) (by omega) (by omega) _ _ hW _ (lv_sub hl [1, 2, 3, 4, 0] rfl)
  rw [← jnI_0 bl v (fun k => lf (0 + k))] at hW
  exact loop3 _ 0 (Nat.lt_succ_self _) (by omega) _ _ hW _ (lv_sub hl [1, 2, 3, 4, 0] rfl)

theorem f_X2_joinBefore_s_0 : Cond.fieldLink RX2 15 "TreeHashes$Mix" "block" "[I" ∈ wsX2_joinBefore := by decide +kernel
theorem i_X2_joinBefore_s_X2 : ∀ w ∈ wsX20, w ∈ wsX2_joinBefore := by decide +kernel
theorem f_X2_joinBefore_s_2 : Cond.fieldLink RX2 18 "TreeHashes$Mix" "v" "[I" ∈ wsX2_joinBefore := by decide +kernel
set_option maxHeartbeats 4000000 in
set_option maxRecDepth 100000 in
theorem c_X2_joinBefore_s (l : Launch) (D : va_G) (cy : Nat → ClassId) (t : Nat × Nat) (m0 : Nat) (mc : Nat) (mb : Nat) (mv : Nat) (aw : Nat) (an : Nat) (ct : Int64) (ln : Int32) (fl : Int32) (ch : Nat → Int32) (bl : Nat → Int32) (v : Nat → Int32) (lc : Nat) (nl : Nat) (lf : Nat → Int32) (bs : Int32) (hk : 0 + 8 ≤ nl) (hn : nl < 2 ^ 31) (sz : Nat) : Met l yX2_joinBefore wsX2_joinBefore ({ frames := 1, cells := 0, slots := 0, locals := 27 }) (PcW D cy t [(m0, .inr (2, [.ref mc, .ref mb, .long (ct), .int (ln), .int (fl), .ref mv, .ref aw, .ref an])), (mc, .inl (cy 0, 8, .inl (ch))), (mb, .inl (cy 0, 16, .inl (bl))), (mv, .inl (cy 0, 16, .inl (v))), (lc, .inl (cy 0, nl, .inl (lf)))] [.ref m0, .ref lc, .ref t.1, .int (bs)] sz) (QvA D cy (fun u : Unit => True) (fun u : Unit => [(m0, .inr (2, [.ref mc, .ref mb, .long (lN 0), .int (nI (64)), .int (bs + (nI (4))), .ref mv, .ref aw, .ref an])), (mc, .inl (cy 0, 8, .inl (stA))), (mb, .inl (cy 0, 16, .inl (jn v (fun k => lf (0 + k))))), (mv, .inl (cy 0, 16, .inl (v))), (lc, .inl (cy 0, nl, .inl (lf)))]) (va_A [(m0, .inr (2, [.ref mc, .ref mb, .long (ct), .int (ln), .int (fl), .ref mv, .ref aw, .ref an])), (mc, .inl (cy 0, 8, .inl (ch))), (mb, .inl (cy 0, 16, .inl (bl))), (mv, .inl (cy 0, 16, .inl (v))), (lc, .inl (cy 0, nl, .inl (lf)))] sz)) 0 0 (va_A [(m0, .inr (2, [.ref mc, .ref mb, .long (ct), .int (ln), .int (fl), .ref mv, .ref aw, .ref an])), (mc, .inl (cy 0, 8, .inl (ch))), (mb, .inl (cy 0, 16, .inl (bl))), (mv, .inl (cy 0, 16, .inl (v))), (lc, .inl (cy 0, nl, .inl (lf)))] sz) := by
  refine M_ofW (cc := cX2_joinBefore) (maxL := 5) (ret := none) (by decide) rfl (Nat.le_of_ble_eq_true rfl) ?_
  intro p e s m below meth c A ls args Q hQ S0 hr hlocks hnm hK hst hA hW hl
  have hx := S0.1; have hb := S0.2.1; have hml := S0.2.2.1; have hown := S0.2.2.2.1; have hts := S0.2.2.2.2
  have hl : lv_has ls 5 [(0, .ref m0), (1, .ref lc), (2, .ref t.1), (3, .int (bs))] := hl
  refine lv_iconst (v := nI (0)) hx hb dX2_joinBefore_0 (by decide) ?_
  refine lv_istore (lv' := [(4, .int (nI (0))), (0, .ref m0), (1, .ref lc), (2, .ref t.1), (3, .int (bs))]) hx hb dX2_joinBefore_1 hl (by decide) rfl (fun ls hl => ?_)
  have loop3 : ∀ (nF : Nat) (i : Nat), 8 - i < nF → (i ≤ 8) → ∀ (H : Heap) (locs : List Loc), Wd D A s [(m0, .inr (2, [.ref mc, .ref mb, .long (ct), .int (ln), .int (fl), .ref mv, .ref aw, .ref an])), (mc, .inl (cy 0, 8, .inl (ch))), (mb, .inl (cy 0, 16, .inl (jnI bl v (fun k => lf (0 + k)) i))), (mv, .inl (cy 0, 16, .inl (v))), (lc, .inl (cy 0, nl, .inl (lf)))] H locs → ∀ ls : Array Slot, lv_has ls 5 [(0, .ref m0), (1, .ref lc), (2, .ref t.1), (3, .int (bs)), (4, .int (nI (i)))] → W p l e ({ frames := 1, cells := 0, slots := 0, locals := 27 }) s m args below meth c H locs 0 0 Q (F0 m 3 ls []) := by
    intro nF
    induction nF with
    | zero => intro i hf; exact absurd hf (Nat.not_lt_zero _)
    | succ nF ih3 =>
      intro i hf hi H locs hW ls hl
      refine lv_iload hx hb dX2_joinBefore_3 (lv_at hl 4 rfl) ?_
      refine lv_bipush (v := nI (8)) hx hb dX2_joinBefore_5 (by decide) ?_
      refine iGe (a := i) (b := 8) (tgt := 46) hx hb dX2_joinBefore_7 (by decide) (by omega) (by omega) (fun h7 => ?_) (fun h7 => ?_)
      · skip
        have e9 : i = 8 := by omega
        try rw [e9] at hW
        have hW := Wd.ext hW 2 rfl (jn v (fun k => lf (0 + k))) jnI_8
        refine lv_aload_n hx hb dX2_joinBefore_46 rfl (lv_at hl 0 rfl) ?_
        refine lv_aload_n hx hb dX2_joinBefore_47 rfl (lv_at hl 2 rfl) ?_
        refine lv_aload_n hx hb dX2_joinBefore_48 rfl (lv_at hl 0 rfl) ?_
        refine va_get (D := D) (ci := 2) (v := .ref mb) (C := RX2) (T := TX2) (N := 8) hx hb hts i_X2_joinBefore_s_X2 hown hK hW.1 0 rfl rfl 1 (by decide) (hts (.fieldLink RX2 15 "TreeHashes$Mix" "block" "[I") f_X2_joinBefore_s_0) (fun _ h9 => h9) rfl dX2_joinBefore_49 ?_
        refine lv_lconst (v := lN 0) hx hb dX2_joinBefore_52 (by decide) ?_
        refine lv_bipush (v := nI (64)) hx hb dX2_joinBefore_53 (by decide) ?_
        refine lv_iload_n hx hb dX2_joinBefore_55 rfl (lv_at hl 3 rfl) ?_
        refine lv_iconst (v := nI (4)) hx hb dX2_joinBefore_56 (by decide) ?_
        refine lv_iadd hx hb dX2_joinBefore_57 ?_
        refine kVv (As := [.ref t.1, .ref mb, .long (lN 0), .int (nI (64)), .int (bs + (nI (4)))]) (rest := []) S0 hK hst hA hW [0, 1, 2] (fun sz => c_X2_prepare_s l D cy t m0 mc mb mv aw an ct ln fl ch (jn v (fun k => lf (0 + k))) (lN 0) (nI (64)) (bs + (nI (4)))  sz) rfl (by decide) (cwV 5 hts gX2_joinBefore_X2_prepare rfl rfl rfl (by decide +kernel) ⟨Nat.le_of_ble_eq_true rfl, Nat.le_of_ble_eq_true rfl⟩) (fun _ => rfl) 0 2 rfl rfl rfl hl.1 rfl (Nat.le_of_ble_eq_true rfl) dX2_joinBefore_58 ⟨Nat.le_of_ble_eq_true rfl, Nat.le_of_ble_eq_true rfl⟩ (fun u58 H locs p58 hW => ?_)
        have hW : Wd D A s [(m0, .inr (2, [.ref mc, .ref mb, .long ((lN 0)), .int ((nI (64))), .int ((bs + (nI (4)))), .ref mv, .ref aw, .ref an])), (mc, .inl (cy 0, 8, .inl (stA))), (mb, .inl (cy 0, 16, .inl ((jn v (fun k => lf (0 + k)))))), (mv, .inl (cy 0, 16, .inl (v))), (lc, .inl (cy 0, nl, .inl (lf)))] H locs := hW
        exact eV hQ hx hb hr hlocks hK hW () (trivial) (rfl) dX2_joinBefore_61
      · skip
        refine lv_aload_n hx hb dX2_joinBefore_10 rfl (lv_at hl 0 rfl) ?_
        refine va_get (D := D) (ci := 2) (v := .ref mb) (C := RX2) (T := TX2) (N := 8) hx hb hts i_X2_joinBefore_s_X2 hown hK hW.1 0 rfl rfl 1 (by decide) (hts (.fieldLink RX2 15 "TreeHashes$Mix" "block" "[I") f_X2_joinBefore_s_0) (fun _ h9 => h9) rfl dX2_joinBefore_11 ?_
        refine lv_iload hx hb dX2_joinBefore_14 (lv_at hl 4 rfl) ?_
        refine lv_aload_n hx hb dX2_joinBefore_16 rfl (lv_at hl 0 rfl) ?_
        refine va_get (D := D) (ci := 2) (v := .ref mv) (C := RX2) (T := TX2) (N := 8) hx hb hts i_X2_joinBefore_s_X2 hown hK hW.1 0 rfl rfl 5 (by decide) (hts (.fieldLink RX2 18 "TreeHashes$Mix" "v" "[I") f_X2_joinBefore_s_2) (fun _ h9 => h9) rfl dX2_joinBefore_17 ?_
        refine lv_iload hx hb dX2_joinBefore_20 (lv_at hl 4 rfl) ?_
        refine rI hx hb hK hW 3 rfl (k := i) (by omega) (by omega) dX2_joinBefore_22 ?_
        refine wI hx hb hK hW 2 rfl (k := i) (by omega) (by omega) dX2_joinBefore_23 (fun H locs hW => ?_)
        have hW : Wd D A s [(m0, .inr (2, [.ref mc, .ref mb, .long (ct), .int (ln), .int (fl), .ref mv, .ref aw, .ref an])), (mc, .inl (cy 0, 8, .inl (ch))), (mb, .inl (cy 0, 16, .inl (upd (jnI bl v (fun k => lf (0 + k)) i) i (v i)))), (mv, .inl (cy 0, 16, .inl (v))), (lc, .inl (cy 0, nl, .inl (lf)))] H locs := hW
        refine lv_aload_n hx hb dX2_joinBefore_24 rfl (lv_at hl 0 rfl) ?_
        refine va_get (D := D) (ci := 2) (v := .ref mb) (C := RX2) (T := TX2) (N := 8) hx hb hts i_X2_joinBefore_s_X2 hown hK hW.1 0 rfl rfl 1 (by decide) (hts (.fieldLink RX2 15 "TreeHashes$Mix" "block" "[I") f_X2_joinBefore_s_0) (fun _ h9 => h9) rfl dX2_joinBefore_25 ?_
        refine lv_bipush (v := nI (8)) hx hb dX2_joinBefore_28 (by decide) ?_
        refine lv_iload hx hb dX2_joinBefore_30 (lv_at hl 4 rfl) ?_
        refine lv_iadd hx hb dX2_joinBefore_32 ?_
        refine tI (nI_add _ _) ?_
        refine lv_aload_n hx hb dX2_joinBefore_33 rfl (lv_at hl 1 rfl) ?_
        refine lv_iload hx hb dX2_joinBefore_34 (lv_at hl 4 rfl) ?_
        refine kSi (As := [.ref lc, .int (nI (i))]) (rest := [.int (nI (8 + i)), .ref mb]) S0 hK hst hA hW [4] (fun sz => c_X2_wordOf l D cy t lc nl lf i (by omega) (by omega) sz) rfl (by decide) (va_cwS 2 hts gX2_joinBefore_X2_wordOf rfl rfl rfl (by decide +kernel) ⟨Nat.le_of_ble_eq_true rfl, Nat.le_of_ble_eq_true rfl⟩) (fun _ => rfl) rfl hl.1 rfl (Nat.le_of_ble_eq_true rfl) dX2_joinBefore_36 ⟨Nat.le_of_ble_eq_true rfl, Nat.le_of_ble_eq_true rfl⟩ (fun r36 u36 H locs p36 hW => ?_)
        have hW : Wd D A s [(m0, .inr (2, [.ref mc, .ref mb, .long (ct), .int (ln), .int (fl), .ref mv, .ref aw, .ref an])), (mc, .inl (cy 0, 8, .inl (ch))), (mb, .inl (cy 0, 16, .inl (upd (jnI bl v (fun k => lf (0 + k)) i) i (v i)))), (mv, .inl (cy 0, 16, .inl (v))), (lc, .inl (cy 0, nl, .inl (lf)))] H locs := hW
        have q36 : r36 = lf i := p36
        subst q36
        refine tI (x' := lf (0 + i)) (by rw [Nat.zero_add]) ?_
        refine wI hx hb hK hW 2 rfl (k := 8 + i) (by omega) (by omega) dX2_joinBefore_39 (fun H locs hW => ?_)
        have hW : Wd D A s [(m0, .inr (2, [.ref mc, .ref mb, .long (ct), .int (ln), .int (fl), .ref mv, .ref aw, .ref an])), (mc, .inl (cy 0, 8, .inl (ch))), (mb, .inl (cy 0, 16, .inl (upd (upd (jnI bl v (fun k => lf (0 + k)) i) i (v i)) (8 + i) (lf (0 + i))))), (mv, .inl (cy 0, 16, .inl (v))), (lc, .inl (cy 0, nl, .inl (lf)))] H locs := hW
        rw [show (upd (upd (jnI bl v (fun k => lf (0 + k)) i) i (v i)) (8 + i) (lf (0 + i))) = (jnI bl v (fun k => lf (0 + k)) (i + 1)) from jnI_s bl v (fun k => lf (0 + k)) (by omega)] at hW
        have hW : Wd D A s [(m0, .inr (2, [.ref mc, .ref mb, .long (ct), .int (ln), .int (fl), .ref mv, .ref aw, .ref an])), (mc, .inl (cy 0, 8, .inl (ch))), (mb, .inl (cy 0, 16, .inl (jnI bl v (fun k => lf (0 + k)) (i + 1)))), (mv, .inl (cy 0, 16, .inl (v))), (lc, .inl (cy 0, nl, .inl (lf)))] H locs := hW
        refine lv_iinc (v := nI (i + 1)) (lv' := [(4, .int (nI (i + 1))), (0, .ref m0), (1, .ref lc), (2, .ref t.1), (3, .int (bs))]) hx hb dX2_joinBefore_40 hl (k := 4) rfl (nI_1 _) (by decide) rfl (fun ls hl => ?_)
        refine lv_goto (tgt := 3) hx hb dX2_joinBefore_43 (by decide) ?_
        exact ih3 (i + 1) (by omega) (by omega) _ _ hW _ (lv_sub hl [1, 2, 3, 4, 0] rfl)
  rw [← jnI_0 bl v (fun k => lf (0 + k))] at hW
  exact loop3 _ 0 (Nat.lt_succ_self _) (by omega) _ _ hW _ (lv_sub hl [1, 2, 3, 4, 0] rfl)

theorem f_X2_makeRoot_0 : Cond.fieldLink RX2 35 "TreeHashes$Mix" "flags" "I" ∈ wsX2_makeRoot := by decide +kernel
theorem i_X2_makeRoot_X2 : ∀ w ∈ wsX20, w ∈ wsX2_makeRoot := by decide +kernel
set_option maxHeartbeats 4000000 in
set_option maxRecDepth 100000 in
theorem c_X2_makeRoot (l : Launch) (D : va_G) (cy : Nat → ClassId) (t : Nat × Nat) (m0 : Nat) (mc : Nat) (mb : Nat) (mv : Nat) (aw : Nat) (an : Nat) (ct : Int64) (ln : Int32) (fl : Int32)  (sz : Nat) : Met l yX2_makeRoot wsX2_makeRoot ({ frames := 0, cells := 0, slots := 0, locals := 0 }) (PcW D cy t [(m0, .inr (2, [.ref mc, .ref mb, .long (ct), .int (ln), .int (fl), .ref mv, .ref aw, .ref an]))] [.ref m0] sz) (QvA D cy (fun u : Unit => True) (fun u : Unit => [(m0, .inr (2, [.ref mc, .ref mb, .long (ct), .int (ln), .int (fl ||| (nI (8))), .ref mv, .ref aw, .ref an]))]) (va_A [(m0, .inr (2, [.ref mc, .ref mb, .long (ct), .int (ln), .int (fl), .ref mv, .ref aw, .ref an]))] sz)) 0 0 (va_A [(m0, .inr (2, [.ref mc, .ref mb, .long (ct), .int (ln), .int (fl), .ref mv, .ref aw, .ref an]))] sz) := by
  refine M_ofW (cc := cX2_makeRoot) (maxL := 1) (ret := none) (by decide) rfl (Nat.le_of_ble_eq_true rfl) ?_
  intro p e s m below meth c A ls args Q hQ S0 hr hlocks hnm hK hst hA hW hl
  have hx := S0.1; have hb := S0.2.1; have hml := S0.2.2.1; have hown := S0.2.2.2.1; have hts := S0.2.2.2.2
  have hl : lv_has ls 1 [(0, .ref m0)] := hl
  refine lv_aload_n hx hb dX2_makeRoot_0 rfl (lv_at hl 0 rfl) ?_
  refine lv_dup hx hb dX2_makeRoot_1 rfl ?_
  refine va_get (D := D) (ci := 2) (v := .int (fl)) (C := RX2) (T := TX2) (N := 8) hx hb hts i_X2_makeRoot_X2 hown hK hW.1 0 rfl rfl 4 (by decide) (hts (.fieldLink RX2 35 "TreeHashes$Mix" "flags" "I") f_X2_makeRoot_0) (fun _ h9 => h9) rfl dX2_makeRoot_2 ?_
  refine lv_bipush (v := nI (8)) hx hb dX2_makeRoot_5 (by decide) ?_
  refine lv_ior hx hb dX2_makeRoot_7 ?_
  refine va_put (D := D) (ci := 2) (v := .int (fl ||| (nI (8)))) (ty := .int) (C := RX2) (T := TX2) (N := 8) hx hb hts i_X2_makeRoot_X2 tyX2 tyX2_ok nmX2 hown hK hW.1 hW.2.1 hW.2.2 0 rfl rfl 4 (by decide) (hts (.fieldLink RX2 35 "TreeHashes$Mix" "flags" "I") f_X2_makeRoot_0) (fun _ h9 => h9) rfl (by decide +kernel) rfl rfl (Nat.le_of_ble_eq_true rfl) dX2_makeRoot_8 (fun H locs hP hD hS => ?_)
  have hW : Wd D A s [(m0, .inr (2, [.ref mc, .ref mb, .long (ct), .int (ln), .int (fl ||| (nI (8))), .ref mv, .ref aw, .ref an]))] H locs := ⟨hP, hD, hS⟩
  exact eV hQ hx hb hr hlocks hK hW () (trivial) (rfl) dX2_makeRoot_11

theorem f_X2_writeChain_0 : Cond.fieldLink RX2 18 "TreeHashes$Mix" "v" "[I" ∈ wsX2_writeChain := by decide +kernel
theorem i_X2_writeChain_X2 : ∀ w ∈ wsX20, w ∈ wsX2_writeChain := by decide +kernel
set_option maxHeartbeats 4000000 in
set_option maxRecDepth 100000 in
theorem c_X2_writeChain (l : Launch) (D : va_G) (cy : Nat → ClassId) (t : Nat × Nat) (m0 : Nat) (mc : Nat) (mb : Nat) (mv : Nat) (aw : Nat) (an : Nat) (ct : Int64) (ln : Int32) (fl : Int32) (v : Nat → Int32) (lc : Nat) (nl : Nat) (lf : Nat → Int32) (k0 : Nat) (hk : k0 + 8 ≤ nl) (hn : nl < 2 ^ 31) (sz : Nat) : Met l yX2_writeChain wsX2_writeChain ({ frames := 0, cells := 0, slots := 0, locals := 0 }) (PcW D cy t [(m0, .inr (2, [.ref mc, .ref mb, .long (ct), .int (ln), .int (fl), .ref mv, .ref aw, .ref an])), (mv, .inl (cy 0, 16, .inl (v))), (lc, .inl (cy 0, nl, .inl (lf)))] [.ref m0, .ref lc, .int (nI (k0))] sz) (QvA D cy (fun u : Unit => True) (fun u : Unit => [(m0, .inr (2, [.ref mc, .ref mb, .long (ct), .int (ln), .int (fl), .ref mv, .ref aw, .ref an])), (mv, .inl (cy 0, 16, .inl (v))), (lc, .inl (cy 0, nl, .inl (apG lf k0 v 8)))]) (va_A [(m0, .inr (2, [.ref mc, .ref mb, .long (ct), .int (ln), .int (fl), .ref mv, .ref aw, .ref an])), (mv, .inl (cy 0, 16, .inl (v))), (lc, .inl (cy 0, nl, .inl (lf)))] sz)) 0 0 (va_A [(m0, .inr (2, [.ref mc, .ref mb, .long (ct), .int (ln), .int (fl), .ref mv, .ref aw, .ref an])), (mv, .inl (cy 0, 16, .inl (v))), (lc, .inl (cy 0, nl, .inl (lf)))] sz) := by
  refine M_ofW (cc := cX2_writeChain) (maxL := 5) (ret := none) (by decide) rfl (Nat.le_of_ble_eq_true rfl) ?_
  intro p e s m below meth c A ls args Q hQ S0 hr hlocks hnm hK hst hA hW hl
  have hx := S0.1; have hb := S0.2.1; have hml := S0.2.2.1; have hown := S0.2.2.2.1; have hts := S0.2.2.2.2
  have hl : lv_has ls 5 [(0, .ref m0), (1, .ref lc), (2, .int (nI (k0)))] := hl
  refine lv_iconst (v := nI (0)) hx hb dX2_writeChain_0 (by decide) ?_
  refine lv_istore_n (lv' := [(3, .int (nI (0))), (0, .ref m0), (1, .ref lc), (2, .int (nI (k0)))]) hx hb dX2_writeChain_1 rfl hl (by decide) rfl (fun ls hl => ?_)
  have loop2 : ∀ (nF : Nat) (i : Nat), 8 - i < nF → (i ≤ 8) → ∀ (H : Heap) (locs : List Loc), Wd D A s [(m0, .inr (2, [.ref mc, .ref mb, .long (ct), .int (ln), .int (fl), .ref mv, .ref aw, .ref an])), (mv, .inl (cy 0, 16, .inl (v))), (lc, .inl (cy 0, nl, .inl (apG lf k0 v i)))] H locs → ∀ ls : Array Slot, lv_has ls 5 [(0, .ref m0), (1, .ref lc), (2, .int (nI (k0))), (3, .int (nI (i)))] → W p l e ({ frames := 0, cells := 0, slots := 0, locals := 0 }) s m args below meth c H locs 0 0 Q (F0 m 2 ls []) := by
    intro nF
    induction nF with
    | zero => intro i hf; exact absurd hf (Nat.not_lt_zero _)
    | succ nF ih2 =>
      intro i hf hi H locs hW ls hl
      refine lv_iload_n hx hb dX2_writeChain_2 rfl (lv_at hl 3 rfl) ?_
      refine lv_bipush (v := nI (8)) hx hb dX2_writeChain_3 (by decide) ?_
      refine iGe (a := i) (b := 8) (tgt := 41) hx hb dX2_writeChain_5 (by decide) (by omega) (by omega) (fun h5 => ?_) (fun h5 => ?_)
      · skip
        have e9 : i = 8 := by omega
        try rw [e9] at hW
        exact eV hQ hx hb hr hlocks hK hW () (trivial) (rfl) dX2_writeChain_41
      · skip
        refine lv_iload_n hx hb dX2_writeChain_8 rfl (lv_at hl 2 rfl) ?_
        refine lv_iload_n hx hb dX2_writeChain_9 rfl (lv_at hl 3 rfl) ?_
        refine lv_iadd hx hb dX2_writeChain_10 ?_
        refine tI (nI_add _ _) ?_
        refine lv_istore (lv' := [(4, .int (nI (k0 + i))), (0, .ref m0), (1, .ref lc), (2, .int (nI (k0))), (3, .int (nI (i)))]) hx hb dX2_writeChain_11 hl (by decide) rfl (fun ls hl => ?_)
        refine lv_iload hx hb dX2_writeChain_13 (lv_at hl 0 rfl) ?_
        refine zLt (a := k0 + i) (tgt := 35) hx hb dX2_writeChain_15 (by decide) (by omega) ?_
        refine lv_iload hx hb dX2_writeChain_18 (lv_at hl 0 rfl) ?_
        refine lv_aload_n hx hb dX2_writeChain_20 rfl (lv_at hl 2 rfl) ?_
        refine alI hx hb hK hW 2 0 (ci := 0) rfl rfl dX2_writeChain_21 ?_
        refine iGe (a := k0 + i) (b := nl) (tgt := 35) hx hb dX2_writeChain_22 (by decide) (by omega) (by omega) (fun h22 => ?_) (fun h22 => ?_)
        · skip
          exfalso; omega
        · skip
          refine lv_aload_n hx hb dX2_writeChain_25 rfl (lv_at hl 2 rfl) ?_
          refine lv_iload hx hb dX2_writeChain_26 (lv_at hl 0 rfl) ?_
          refine lv_aload_n hx hb dX2_writeChain_28 rfl (lv_at hl 1 rfl) ?_
          refine va_get (D := D) (ci := 2) (v := .ref mv) (C := RX2) (T := TX2) (N := 8) hx hb hts i_X2_writeChain_X2 hown hK hW.1 0 rfl rfl 5 (by decide) (hts (.fieldLink RX2 18 "TreeHashes$Mix" "v" "[I") f_X2_writeChain_0) (fun _ h9 => h9) rfl dX2_writeChain_29 ?_
          refine lv_iload_n hx hb dX2_writeChain_32 rfl (lv_at hl 4 rfl) ?_
          refine rI hx hb hK hW 1 rfl (k := i) (by omega) (by omega) dX2_writeChain_33 ?_
          refine wI hx hb hK hW 2 rfl (k := k0 + i) (by omega) (by omega) dX2_writeChain_34 (fun H locs hW => ?_)
          have hW : Wd D A s [(m0, .inr (2, [.ref mc, .ref mb, .long (ct), .int (ln), .int (fl), .ref mv, .ref aw, .ref an])), (mv, .inl (cy 0, 16, .inl (v))), (lc, .inl (cy 0, nl, .inl (upd (apG lf k0 v i) (k0 + i) (v i))))] H locs := hW
          rw [show (upd (apG lf k0 v i) (k0 + i) (v i)) = (apG lf k0 v (i + 1)) from apG_s lf k0 v i] at hW
          have hW : Wd D A s [(m0, .inr (2, [.ref mc, .ref mb, .long (ct), .int (ln), .int (fl), .ref mv, .ref aw, .ref an])), (mv, .inl (cy 0, 16, .inl (v))), (lc, .inl (cy 0, nl, .inl (apG lf k0 v (i + 1))))] H locs := hW
          refine lv_iinc (v := nI (i + 1)) (lv' := [(3, .int (nI (i + 1))), (4, .int (nI (k0 + i))), (0, .ref m0), (1, .ref lc), (2, .int (nI (k0)))]) hx hb dX2_writeChain_35 hl (k := 4) rfl (nI_1 _) (by decide) rfl (fun ls hl => ?_)
          refine lv_goto (tgt := 2) hx hb dX2_writeChain_38 (by decide) ?_
          exact ih2 (i + 1) (by omega) (by omega) _ _ hW _ (lv_sub hl [2, 3, 4, 0] rfl)
  rw [← apG_0 lf k0 v] at hW
  exact loop2 _ 0 (Nat.lt_succ_self _) (by omega) _ _ hW _ (lv_sub hl [1, 2, 3, 0] rfl)

theorem f_X2_outputByte_0 : Cond.fieldLink RX2 18 "TreeHashes$Mix" "v" "[I" ∈ wsX2_outputByte := by decide +kernel
theorem i_X2_outputByte_X2 : ∀ w ∈ wsX20, w ∈ wsX2_outputByte := by decide +kernel
set_option maxHeartbeats 4000000 in
set_option maxRecDepth 100000 in
theorem c_X2_outputByte (l : Launch) (D : va_G) (cy : Nat → ClassId) (t : Nat × Nat) (m0 : Nat) (mc : Nat) (mb : Nat) (mv : Nat) (aw : Nat) (an : Nat) (ct : Int64) (ln : Int32) (fl : Int32) (v : Nat → Int32) (i : Nat) (hi : i < 64) (sz : Nat) : Met l yX2_outputByte wsX2_outputByte ({ frames := 0, cells := 0, slots := 0, locals := 0 }) (PcW D cy t [(m0, .inr (2, [.ref mc, .ref mb, .long (ct), .int (ln), .int (fl), .ref mv, .ref aw, .ref an])), (mv, .inl (cy 0, 16, .inl (v)))] [.ref m0, .int (nI (i))] sz) (QiA D cy (fun (r : Int32) (u : Unit) => (r = oby v i)) (fun u : Unit => [(m0, .inr (2, [.ref mc, .ref mb, .long (ct), .int (ln), .int (fl), .ref mv, .ref aw, .ref an])), (mv, .inl (cy 0, 16, .inl (v)))]) (va_A [(m0, .inr (2, [.ref mc, .ref mb, .long (ct), .int (ln), .int (fl), .ref mv, .ref aw, .ref an])), (mv, .inl (cy 0, 16, .inl (v)))] sz)) 0 0 (va_A [(m0, .inr (2, [.ref mc, .ref mb, .long (ct), .int (ln), .int (fl), .ref mv, .ref aw, .ref an])), (mv, .inl (cy 0, 16, .inl (v)))] sz) := by
  refine M_ofW (cc := cX2_outputByte) (maxL := 2) (ret := (some .int)) (by decide) rfl (Nat.le_of_ble_eq_true rfl) ?_
  intro p e s m below meth c A ls args Q hQ S0 hr hlocks hnm hK hst hA hW hl
  have hx := S0.1; have hb := S0.2.1; have hml := S0.2.2.1; have hown := S0.2.2.2.1; have hts := S0.2.2.2.2
  have hl : lv_has ls 2 [(0, .ref m0), (1, .int (nI (i)))] := hl
  refine lv_aload_n hx hb dX2_outputByte_0 rfl (lv_at hl 0 rfl) ?_
  refine va_get (D := D) (ci := 2) (v := .ref mv) (C := RX2) (T := TX2) (N := 8) hx hb hts i_X2_outputByte_X2 hown hK hW.1 0 rfl rfl 5 (by decide) (hts (.fieldLink RX2 18 "TreeHashes$Mix" "v" "[I") f_X2_outputByte_0) (fun _ h9 => h9) rfl dX2_outputByte_1 ?_
  refine lv_iload_n hx hb dX2_outputByte_4 rfl (lv_at hl 1 rfl) ?_
  refine lv_iconst (v := nI (2)) hx hb dX2_outputByte_5 (by decide) ?_
  refine lv_ishr hx hb dX2_outputByte_6 ?_
  refine tI (x' := nI (i / 2 ^ 2)) (pk_shrN (by omega) _ 2 (by decide)) ?_
  refine rI hx hb hK hW 1 rfl (k := i / 2 ^ 2) (by omega) (by omega) dX2_outputByte_7 ?_
  refine lv_bipush (v := nI (8)) hx hb dX2_outputByte_8 (by decide) ?_
  refine lv_iload_n hx hb dX2_outputByte_10 rfl (lv_at hl 1 rfl) ?_
  refine lv_iconst (v := nI (3)) hx hb dX2_outputByte_11 (by decide) ?_
  refine lv_iand hx hb dX2_outputByte_12 ?_
  refine tI (x' := nI (i % 2 ^ 2)) (pk_andN (by omega) 2 (by decide)) ?_
  refine lv_imul hx hb dX2_outputByte_13 ?_
  refine tI (pk_mul _ _) ?_
  refine lv_iushr hx hb dX2_outputByte_14 rfl ?_
  refine lv_sipush (v := nI (255)) hx hb dX2_outputByte_15 (by decide) ?_
  refine lv_iand hx hb dX2_outputByte_18 ?_
  refine tI (x' := oby v i) (rfl) ?_
  exact eI hQ hx hb hr hlocks hK hW () (rfl) (rfl) dX2_outputByte_19
