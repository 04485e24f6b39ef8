theorem tb_1 : (.initialized RX4 : Cond) ∈ lw_tbl := by
  unfold lw_tbl
  exact List.mem_append_right _ (List.mem_of_getElem? (i := 1) (by decide +kernel))
theorem tb_2 : (.initialized RX0 : Cond) ∈ lw_tbl := by
  unfold lw_tbl
  exact List.mem_append_right _ (List.mem_of_getElem? (i := 2) (by decide +kernel))
theorem tb_4 : (.initialized RX1 : Cond) ∈ lw_tbl := by
  unfold lw_tbl
  exact List.mem_append_right _ (List.mem_of_getElem? (i := 4) (by decide +kernel))
theorem tb_5 : (.initialized RX2 : Cond) ∈ lw_tbl := by
  unfold lw_tbl
  exact List.mem_append_right _ (List.mem_of_getElem? (i := 5) (by decide +kernel))
theorem tb_7 : (.initialized RX5 : Cond) ∈ lw_tbl := by
  unfold lw_tbl
  exact List.mem_append_right _ (List.mem_of_getElem? (i := 7) (by decide +kernel))
theorem tb_8 : (.classLink RL 7 RX4 : Cond) ∈ lw_tbl := by
  unfold lw_tbl
  exact List.mem_append_right _ (List.mem_of_getElem? (i := 8) (by decide +kernel))
theorem tb_9 : (.instantiable RX4 7 : Cond) ∈ lw_tbl := by
  unfold lw_tbl
  exact List.mem_append_right _ (List.mem_of_getElem? (i := 9) (by decide +kernel))
theorem tb_10 : (.methodLink RL 9 yX4_init : Cond) ∈ lw_tbl := by
  unfold lw_tbl
  exact List.mem_append_right _ (List.mem_of_getElem? (i := 10) (by decide +kernel))
theorem tb_11 : (.instanceMethod yX4_init : Cond) ∈ lw_tbl := by
  unfold lw_tbl
  exact List.mem_append_right _ (List.mem_of_getElem? (i := 11) (by decide +kernel))
theorem tb_17 : (.arrayOver (.object RX0) : Cond) ∈ lw_tbl := by
  unfold lw_tbl
  exact List.mem_append_right _ (List.mem_of_getElem? (i := 17) (by decide +kernel))
theorem tb_19 : (.arrayOver (.object RX1) : Cond) ∈ lw_tbl := by
  unfold lw_tbl
  exact List.mem_append_right _ (List.mem_of_getElem? (i := 19) (by decide +kernel))
theorem tb_20 : (.instantiable RX0 2 : Cond) ∈ lw_tbl := by
  unfold lw_tbl
  exact List.mem_append_right _ (List.mem_of_getElem? (i := 20) (by decide +kernel))
theorem tb_30 : (.fieldLinkNest "TreeHashes" 57 "TreeHashes$Bytes" "count" "I" "TreeHashes" : Cond) ∈ lw_tbl := by
  unfold lw_tbl
  exact List.mem_append_right _ (List.mem_of_getElem? (i := 30) (by decide +kernel))
theorem tb_36 : (.arrayClass .byte : Cond) ∈ lw_tbl := by
  unfold lw_tbl
  exact List.mem_append_right _ (List.mem_of_getElem? (i := 36) (by decide +kernel))
theorem tb_37 : (.instantiable RX1 13 : Cond) ∈ lw_tbl := by
  unfold lw_tbl
  exact List.mem_append_right _ (List.mem_of_getElem? (i := 37) (by decide +kernel))
theorem tb_43 : (.instantiable RX2 8 : Cond) ∈ lw_tbl := by
  unfold lw_tbl
  exact List.mem_append_right _ (List.mem_of_getElem? (i := 43) (by decide +kernel))
theorem tb_44 : (.methodLinkNest "TreeHashes$Hasher" 13 yX2_init "TreeHashes" : Cond) ∈ lw_tbl := by
  unfold lw_tbl
  exact List.mem_append_right _ (List.mem_of_getElem? (i := 44) (by decide +kernel))
theorem tb_73 : (.arrayClass .int : Cond) ∈ lw_tbl := by
  unfold lw_tbl
  exact List.mem_append_right _ (List.mem_of_getElem? (i := 73) (by decide +kernel))
theorem tb_75 : (.laysStatic RX2 "START" "[I" : Cond) ∈ lw_tbl := by
  unfold lw_tbl
  exact List.mem_append_right _ (List.mem_of_getElem? (i := 75) (by decide +kernel))
theorem tb_92 : (.fieldLinkNest "TreeHashes" 104 "TreeHashes$Hasher" "mix" "LTreeHashes$Mix;" "TreeHashes" : Cond) ∈ lw_tbl := by
  unfold lw_tbl
  exact List.mem_append_right _ (List.mem_of_getElem? (i := 92) (by decide +kernel))
theorem tb_98 : (.fieldLinkNest "TreeHashes" 116 "TreeHashes$Hasher" "mode" "I" "TreeHashes" : Cond) ∈ lw_tbl := by
  unfold lw_tbl
  exact List.mem_append_right _ (List.mem_of_getElem? (i := 98) (by decide +kernel))
theorem tb_102 : (.fieldLinkNest "TreeHashes" 89 "TreeHashes$Hasher" "taken" "I" "TreeHashes" : Cond) ∈ lw_tbl := by
  unfold lw_tbl
  exact List.mem_append_right _ (List.mem_of_getElem? (i := 102) (by decide +kernel))
theorem tb_104 : (.fieldLinkNest "TreeHashes" 119 "TreeHashes$Hasher" "closed" "I" "TreeHashes" : Cond) ∈ lw_tbl := by
  unfold lw_tbl
  exact List.mem_append_right _ (List.mem_of_getElem? (i := 104) (by decide +kernel))
theorem tb_106 : (.fieldLinkNest "TreeHashes" 122 "TreeHashes$Hasher" "depth" "I" "TreeHashes" : Cond) ∈ lw_tbl := by
  unfold lw_tbl
  exact List.mem_append_right _ (List.mem_of_getElem? (i := 106) (by decide +kernel))
theorem tb_137 : (.instantiable RX3 3 : Cond) ∈ lw_tbl := by
  unfold lw_tbl
  exact List.mem_append_right _ (List.mem_of_getElem? (i := 137) (by decide +kernel))
theorem tb_138 : (.methodLinkNest "TreeHashes" 38 yX3_init "TreeHashes" : Cond) ∈ lw_tbl := by
  unfold lw_tbl
  exact List.mem_append_right _ (List.mem_of_getElem? (i := 138) (by decide +kernel))
theorem tb_143 : (.fieldLinkNest "TreeHashes" 160 "TreeHashes$Way" "otherFirst" "[I" "TreeHashes" : Cond) ∈ lw_tbl := by
  unfold lw_tbl
  exact List.mem_append_right _ (List.mem_of_getElem? (i := 143) (by decide +kernel))
theorem tb_145 : (.fieldLinkNest "TreeHashes" 163 "TreeHashes$Way" "otherChunks" "[I" "TreeHashes" : Cond) ∈ lw_tbl := by
  unfold lw_tbl
  exact List.mem_append_right _ (List.mem_of_getElem? (i := 145) (by decide +kernel))
theorem tb_147 : (.fieldLinkNest "TreeHashes" 157 "TreeHashes$Way" "levels" "I" "TreeHashes" : Cond) ∈ lw_tbl := by
  unfold lw_tbl
  exact List.mem_append_right _ (List.mem_of_getElem? (i := 147) (by decide +kernel))
theorem tb_273 : (.laysStatic RX2 "ORDER" "[I" : Cond) ∈ lw_tbl := by
  unfold lw_tbl
  exact List.mem_append_right _ (List.mem_of_getElem? (i := 273) (by decide +kernel))
theorem tb_439 : (.classLink RL 10 RX5 : Cond) ∈ lw_tbl := by
  unfold lw_tbl
  exact List.mem_append_right _ (List.mem_of_getElem? (i := 439) (by decide +kernel))
theorem tb_440 : (.instantiable RX5 28 : Cond) ∈ lw_tbl := by
  unfold lw_tbl
  exact List.mem_append_right _ (List.mem_of_getElem? (i := 440) (by decide +kernel))
theorem tb_441 : (.methodLink RL 12 yX5_init : Cond) ∈ lw_tbl := by
  unfold lw_tbl
  exact List.mem_append_right _ (List.mem_of_getElem? (i := 441) (by decide +kernel))
theorem tb_442 : (.instanceMethod yX5_init : Cond) ∈ lw_tbl := by
  unfold lw_tbl
  exact List.mem_append_right _ (List.mem_of_getElem? (i := 442) (by decide +kernel))
theorem tb_545 : (.arrayClass .boolean : Cond) ∈ lw_tbl := by
  unfold lw_tbl
  exact List.mem_append_right _ (List.mem_of_getElem? (i := 545) (by decide +kernel))
section STW
variable {args : Array Value} {s : State}
theorem st_arr {ty : FieldType} (h : (Cond.arrayClass ty).before args s = true) (hR : ∀ cA, s.vm.findClass ("[" ++ ty.toString) = some cA → va_RA s cA ty) : ∃ cA, ArrOfT s cA ty ∧ va_RA s cA ty := by
  obtain ⟨c, k, comp, h1, h2, h3⟩ := Cond.arrayClass_spec h
  exact ⟨c, fun n z => ⟨fun k h => (by cases h), k, h2, comp, h3⟩, hR c h1⟩
theorem st_over {C : String} (h : va_AO C s) : ∃ cA, ArrOfT s cA (.object C) ∧ va_RA s cA (.object C) := by
  obtain ⟨comp, c, k, h1, h2, h3, h4, h5⟩ := Cond.arrayOver_spec h
  exact ⟨c, fun N z => ⟨(fun k h => by cases h), k, h3, comp, h4⟩, k, comp, h3, h4, h1, h5⟩
theorem st_K (hts : ∀ w ∈ lw_tbl, w.before args s = true) : ∃ (D : va_G) (cy : Nat → ClassId), va_K D vwCl (TYS cy) s := by
  obtain ⟨c0, j0, k0⟩ := u_known (C := RX0) (T := TX0) (N := 2) (n := 2) hts wl_wsX00 (hts (.instantiable RX0 2) tb_20)
  obtain ⟨c1, j1, k1⟩ := u_known (C := RX1) (T := TX1) (N := 13) (n := 13) hts wl_wsX10 (hts (.instantiable RX1 13) tb_37)
  obtain ⟨c2, j2, k2⟩ := u_known (C := RX2) (T := TX2) (N := 8) (n := 8) hts wl_wsX20 (hts (.instantiable RX2 8) tb_43)
  obtain ⟨c3, j3, k3⟩ := u_known (C := RX3) (T := TX3) (N := 3) (n := 3) hts wl_wsX30 (hts (.instantiable RX3 3) tb_137)
  obtain ⟨c4, j4, k4⟩ := u_known (C := RX4) (T := TX4) (N := 7) (n := 7) hts wl_wsX40 (hts (.instantiable RX4 7) tb_9)
  obtain ⟨c5, j5, k5⟩ := u_known (C := RX5) (T := TX5) (N := 28) (n := 28) hts wl_wsX50 (hts (.instantiable RX5 28) tb_440)
  obtain ⟨a0, g0, r0⟩ := st_arr (ty := .int) (hts (.arrayClass .int) tb_73) (fun _ h => h)
  obtain ⟨a1, g1, r1⟩ := st_arr (ty := .byte) (hts (.arrayClass .byte) tb_36) (fun _ h => h)
  obtain ⟨a2, g2, r2⟩ := st_arr (ty := .boolean) (hts (.arrayClass .boolean) tb_545) (fun _ h => h)
  obtain ⟨a3, g3, r3⟩ := st_over (C := RX0) (va_AO.of (hts (.arrayOver (.object RX0)) tb_17))
  obtain ⟨a4, g4, r4⟩ := st_over (C := RX1) (va_AO.of (hts (.arrayOver (.object RX1)) tb_19))
  refine ⟨(fun k => match k with | 0 => c0 | 1 => c1 | 2 => c2 | 3 => c3 | 4 => c4 | _ => c5, fun k => match k with | 0 => j0 | 1 => j1 | 2 => j2 | 3 => j3 | 4 => j4 | _ => j5), fun k => match k with | 0 => a0 | 1 => a1 | 2 => a2 | 3 => a3 | _ => a4, ?_, ?_⟩
  · intro k q hq
    match k, hq with
    | 0, hq => cases hq; exact k0
    | 1, hq => cases hq; exact k1
    | 2, hq => cases hq; exact k2
    | 3, hq => cases hq; exact k3
    | 4, hq => cases hq; exact k4
    | 5, hq => cases hq; exact k5
    | k + 6, hq => first | (simp [vwCl] at hq; done) | (cases hq; done)
  · intro k q hq
    match k, hq with
    | 0, hq => cases hq; exact ⟨g0, r0⟩
    | 1, hq => cases hq; exact ⟨g1, r1⟩
    | 2, hq => cases hq; exact ⟨g2, r2⟩
    | 3, hq => cases hq; exact ⟨g3, r3⟩
    | 4, hq => cases hq; exact ⟨g4, r4⟩
    | k + 5, hq => first | (simp [TYS] at hq; done) | (cases hq; done)
theorem st_N (hts : ∀ w ∈ lw_tbl, w.before args s = true) : Nst s := by
  constructor
  · unfold nestF
    exact List.forall_mem_cons.mpr ⟨va_Nw.of rfl (hts _ tb_92), List.forall_mem_cons.mpr ⟨va_Nw.of rfl (hts _ tb_98), List.forall_mem_cons.mpr ⟨va_Nw.of rfl (hts _ tb_104), List.forall_mem_cons.mpr ⟨va_Nw.of rfl (hts _ tb_106), List.forall_mem_cons.mpr ⟨va_Nw.of rfl (hts _ tb_147), List.forall_mem_cons.mpr ⟨va_Nw.of rfl (hts _ tb_143), List.forall_mem_cons.mpr ⟨va_Nw.of rfl (hts _ tb_145), List.forall_mem_cons.mpr ⟨va_Nw.of rfl (hts _ tb_30), List.forall_mem_cons.mpr ⟨va_Nw.of rfl (hts _ tb_102), fun _ h => absurd h List.not_mem_nil⟩⟩⟩⟩⟩⟩⟩⟩⟩
  · unfold nestM
    exact List.forall_mem_cons.mpr ⟨va_Nw.of rfl (hts _ tb_138), List.forall_mem_cons.mpr ⟨va_Nw.of rfl (hts _ tb_44), fun _ h => absurd h List.not_mem_nil⟩⟩
theorem st_START (hgv : (Jvm.Cond.and given_1 narrow_1).before args s = true) : ∃ t : Nat, (Term.static RX2 "START" "[I").eval args s none [] s = some (.ref t) ∧ va_T .int t 8 (fun k => .int (stA k)) (fun q => s.heap.size ≤ q) s s.heap := by
  have hs := flat_of_before _ hgv
  have harr : (Cond.arrayOf (.static "TreeHashes$Mix" "START" "[I") .int).before args s = true := hs _ (by decide +kernel)
  have hlen : (Cond.eq (.length (.static "TreeHashes$Mix" "START" "[I")) (.int 8)).before args s = true := hs _ (by decide +kernel)
  have e0 : (Cond.eq (.elem (.static "TreeHashes$Mix" "START" "[I") (.int 0)) (.int 1779033703)).before args s = true := hs _ (by decide +kernel)
  have e1 : (Cond.eq (.elem (.static "TreeHashes$Mix" "START" "[I") (.int 1)) (.int (-1150833019))).before args s = true := hs _ (by decide +kernel)
  have e2 : (Cond.eq (.elem (.static "TreeHashes$Mix" "START" "[I") (.int 2)) (.int 1013904242)).before args s = true := hs _ (by decide +kernel)
  have e3 : (Cond.eq (.elem (.static "TreeHashes$Mix" "START" "[I") (.int 3)) (.int (-1521486534))).before args s = true := hs _ (by decide +kernel)
  have e4 : (Cond.eq (.elem (.static "TreeHashes$Mix" "START" "[I") (.int 4)) (.int 1359893119)).before args s = true := hs _ (by decide +kernel)
  have e5 : (Cond.eq (.elem (.static "TreeHashes$Mix" "START" "[I") (.int 5)) (.int (-1694144372))).before args s = true := hs _ (by decide +kernel)
  have e6 : (Cond.eq (.elem (.static "TreeHashes$Mix" "START" "[I") (.int 6)) (.int 528734635)).before args s = true := hs _ (by decide +kernel)
  have e7 : (Cond.eq (.elem (.static "TreeHashes$Mix" "START" "[I") (.int 7)) (.int 1541459225)).before args s = true := hs _ (by decide +kernel)
  refine va_Tof (by decide) harr (va_eqt hlen) (fun j hj => ?_) (fun a ha => Nat.not_le.mpr ha)
  obtain rfl | rfl | rfl | rfl | rfl | rfl | rfl | rfl := (by omega : j = 0 ∨ j = 1 ∨ j = 2 ∨ j = 3 ∨ j = 4 ∨ j = 5 ∨ j = 6 ∨ j = 7)
  · exact va_eqt e0
  · exact va_eqt e1
  · exact va_eqt e2
  · exact va_eqt e3
  · exact va_eqt e4
  · exact va_eqt e5
  · exact va_eqt e6
  · exact va_eqt e7
theorem st_ORDER (hgv : (Jvm.Cond.and given_1 narrow_1).before args s = true) : ∃ t : Nat, (Term.static RX2 "ORDER" "[I").eval args s none [] s = some (.ref t) ∧ va_T .int t 16 (fun k => .int (nI (orN k))) (fun q => s.heap.size ≤ q) s s.heap := by
  have hs := flat_of_before _ hgv
  have harr : (Cond.arrayOf (.static "TreeHashes$Mix" "ORDER" "[I") .int).before args s = true := hs _ (by decide +kernel)
  have hlen : (Cond.eq (.length (.static "TreeHashes$Mix" "ORDER" "[I")) (.int 16)).before args s = true := hs _ (by decide +kernel)
  have e0 : (Cond.eq (.elem (.static "TreeHashes$Mix" "ORDER" "[I") (.int 0)) (.int 2)).before args s = true := hs _ (by decide +kernel)
  have e1 : (Cond.eq (.elem (.static "TreeHashes$Mix" "ORDER" "[I") (.int 1)) (.int 6)).before args s = true := hs _ (by decide +kernel)
  have e2 : (Cond.eq (.elem (.static "TreeHashes$Mix" "ORDER" "[I") (.int 2)) (.int 3)).before args s = true := hs _ (by decide +kernel)
  have e3 : (Cond.eq (.elem (.static "TreeHashes$Mix" "ORDER" "[I") (.int 3)) (.int 10)).before args s = true := hs _ (by decide +kernel)
  have e4 : (Cond.eq (.elem (.static "TreeHashes$Mix" "ORDER" "[I") (.int 4)) (.int 7)).before args s = true := hs _ (by decide +kernel)
  have e5 : (Cond.eq (.elem (.static "TreeHashes$Mix" "ORDER" "[I") (.int 5)) (.int 0)).before args s = true := hs _ (by decide +kernel)
  have e6 : (Cond.eq (.elem (.static "TreeHashes$Mix" "ORDER" "[I") (.int 6)) (.int 4)).before args s = true := hs _ (by decide +kernel)
  have e7 : (Cond.eq (.elem (.static "TreeHashes$Mix" "ORDER" "[I") (.int 7)) (.int 13)).before args s = true := hs _ (by decide +kernel)
  have e8 : (Cond.eq (.elem (.static "TreeHashes$Mix" "ORDER" "[I") (.int 8)) (.int 1)).before args s = true := hs _ (by decide +kernel)
  have e9 : (Cond.eq (.elem (.static "TreeHashes$Mix" "ORDER" "[I") (.int 9)) (.int 11)).before args s = true := hs _ (by decide +kernel)
  have e10 : (Cond.eq (.elem (.static "TreeHashes$Mix" "ORDER" "[I") (.int 10)) (.int 12)).before args s = true := hs _ (by decide +kernel)
  have e11 : (Cond.eq (.elem (.static "TreeHashes$Mix" "ORDER" "[I") (.int 11)) (.int 5)).before args s = true := hs _ (by decide +kernel)
  have e12 : (Cond.eq (.elem (.static "TreeHashes$Mix" "ORDER" "[I") (.int 12)) (.int 9)).before args s = true := hs _ (by decide +kernel)
  have e13 : (Cond.eq (.elem (.static "TreeHashes$Mix" "ORDER" "[I") (.int 13)) (.int 14)).before args s = true := hs _ (by decide +kernel)
  have e14 : (Cond.eq (.elem (.static "TreeHashes$Mix" "ORDER" "[I") (.int 14)) (.int 15)).before args s = true := hs _ (by decide +kernel)
  have e15 : (Cond.eq (.elem (.static "TreeHashes$Mix" "ORDER" "[I") (.int 15)) (.int 8)).before args s = true := hs _ (by decide +kernel)
  refine va_Tof (by decide) harr (va_eqt hlen) (fun j hj => ?_) (fun a ha => Nat.not_le.mpr ha)
  obtain rfl | rfl | rfl | rfl | rfl | rfl | rfl | rfl | rfl | rfl | rfl | rfl | rfl | rfl | rfl | rfl := (by omega : j = 0 ∨ j = 1 ∨ j = 2 ∨ j = 3 ∨ j = 4 ∨ j = 5 ∨ j = 6 ∨ j = 7 ∨ j = 8 ∨ j = 9 ∨ j = 10 ∨ j = 11 ∨ j = 12 ∨ j = 13 ∨ j = 14 ∨ j = 15)
  · exact va_eqt e0
  · exact va_eqt e1
  · exact va_eqt e2
  · exact va_eqt e3
  · exact va_eqt e4
  · exact va_eqt e5
  · exact va_eqt e6
  · exact va_eqt e7
  · exact va_eqt e8
  · exact va_eqt e9
  · exact va_eqt e10
  · exact va_eqt e11
  · exact va_eqt e12
  · exact va_eqt e13
  · exact va_eqt e14
  · exact va_eqt e15
theorem st_Stat (hts : ∀ w ∈ lw_tbl, w.before args s = true) (hgv : (Jvm.Cond.and given_1 narrow_1).before args s = true) : ∃ t : Nat × Nat, Stat t (fun q => s.heap.size ≤ q) s s.heap := by
  obtain ⟨t1, h1, h2⟩ := st_START hgv
  obtain ⟨t2, h3, h4⟩ := st_ORDER hgv
  exact ⟨(t1, t2), ⟨va_Zof (hts _ tb_75) (hts _ tb_5) h1 (fun a ha => Nat.not_le.mpr ha), h2⟩, ⟨va_Zof (hts _ tb_273) (hts _ tb_5) h3 (fun a ha => Nat.not_le.mpr ha), h4⟩, st_N hts⟩
end STW
