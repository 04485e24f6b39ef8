section START
variable {p : Program} {e : Env} {s : State} {m : MethodId} {below : List Frame} {meth : Method} {c : Code} {Q : State → Prop} {H : Heap} {locs : List Loc} {D : va_G} {cy : Nat → ClassId} {t : Nat × Nat} {A : Nat → Prop} {b L : Nat} {xs : Nat → Int32}
set_option maxHeartbeats 4000000 in
set_option maxRecDepth 100000 in
theorem st_new4 (l : Launch) (X : LC p m c s D cy t A b L xs) (hts0 : ∀ w ∈ lw_tbl, w.before #[Value.ref b] s = true) (hW : Wd D A s [] H locs) {ls : Array Slot} (hl : lv_has ls 4 [(0, .ref b)])
    (kk : ∀ (x0 : Nat) (u : (Nat) × (Nat) × (Nat) × (Nat) × (Nat) × (Nat) × (Nat) × (Nat) × (Nat) × (Nat) × (Nat) × (Nat) × (Nat) × (Nat) × (Nat) × (Nat) × (Nat) × (Nat) × (Nat) × (Nat) × (Nat) × (Nat → Nat) × (Nat → Nat) × (Nat → Nat → Nat)) (H : Heap) (locs : List Loc), Wd D A s (xW cy x0 u) H locs → W p l e room_1 s m #[Value.ref b] below meth c H locs 82 23679 Q (F0 m 7 ls [.ref x0])) : W p l e room_1 s m #[Value.ref b] below meth c H locs 0 0 Q (F0 m 0 ls []) := by
  obtain ⟨S0, hK, hst, hA, -⟩ := X
  have hx := S0.1; have hb := S0.2.1; have hml := S0.2.2.1; have hown := S0.2.2.2.1; have hts := S0.2.2.2.2
  refine va_new (D := D) (ci := 4) (fs := [.null, .null, .null, .null, .null, .null, .null]) (C := RX4) (T := TX4) (N := 7) hx hb hts0 wl_wsX40 tyX4 tyX4_ok hown (hts0 (.classLink RL 7 RX4) tb_8) (hts0 (.instantiable RX4 7) tb_9) (hts0 (.initialized RX4) tb_1) hK hW.1 hW.2.1 hW.2.2 hA rfl (fun j hj => by rcases (show j = 0 ∨ j = 1 ∨ j = 2 ∨ j = 3 ∨ j = 4 ∨ j = 5 ∨ j = 6 by omega) with rfl | rfl | rfl | rfl | rfl | rfl | rfl <;> rfl) (Nat.le_of_ble_eq_true rfl) (Nat.le_of_ble_eq_true rfl) dL_law_0 (fun x0 H hP hD hS => ?_)
  have hW : Wd D A s [(x0, .inr (4, [.null, .null, .null, .null, .null, .null, .null]))] H locs := ⟨hP, hD, hS⟩
  refine lv_dup hx hb dL_law_3 rfl ?_
  refine kIX (w1 := xW cy x0) (As := []) (rest := [.ref x0]) (va_AO.of (hts0 (.arrayOver (.object RX0)) tb_17)) (va_AO.of (hts0 (.arrayOver (.object RX1)) tb_19)) S0 hK hst hA hW [0] (fun sz => c_X4_init l D cy t x0 sz) rfl (by decide) (cwI 0 hts gL_law_X4_init rfl rfl rfl (hts0 (.initialized RX4) tb_1) (hts0 (.methodLink RL 9 yX4_init) tb_10) (hts0 (.instanceMethod yX4_init) tb_11) rfl (by decide +kernel) ⟨Nat.le_of_ble_eq_true rfl, Nat.le_of_ble_eq_true rfl⟩) (fun ⟨_, _, _, _, _, _, _, _, _, _, _, _, _, _, _, _, _, _, _, _, _, _, _, _⟩ => rfl) rfl hl.1 rfl (Nat.le_of_ble_eq_true rfl) dL_law_4 ⟨Nat.le_of_ble_eq_true rfl, Nat.le_of_ble_eq_true rfl⟩ (fun u H locs _ hW => ?_)
  obtain ⟨xr, xh, xf, f1, xp, pq1, xw, wm0, wmc, wmb, wmv, waw, wan, wqk, wqs, wqc, wqb, xy, y1, y2, xd, ra, rb, hq⟩ := u
  rw [put_one _ _ rfl] at hW
  exact kk x0 (xr, xh, xf, f1, xp, pq1, xw, wm0, wmc, wmb, wmv, waw, wan, wqk, wqs, wqc, wqb, xy, y1, y2, xd, ra, rb, hq) H locs hW
set_option maxHeartbeats 4000000 in
set_option maxRecDepth 100000 in
theorem st_new5 (l : Launch) (X : LC p m c s D cy t A b L xs) (hts0 : ∀ w ∈ lw_tbl, w.before #[Value.ref b] s = true) {x0 : Nat} {u : (Nat) × (Nat) × (Nat) × (Nat) × (Nat) × (Nat) × (Nat) × (Nat) × (Nat) × (Nat) × (Nat) × (Nat) × (Nat) × (Nat) × (Nat) × (Nat) × (Nat) × (Nat) × (Nat) × (Nat) × (Nat) × (Nat → Nat) × (Nat → Nat) × (Nat → Nat → Nat)} (hW : Wd D A s (xW cy x0 u) H locs) {ls : Array Slot} (hl : lv_has ls 4 [(1, .ref x0), (0, .ref b)])
    (kk : ∀ (z0 : Nat) (v : (Nat) × (Nat) × (Nat) × (Nat) × (Nat) × (Nat) × (Nat) × (Nat) × (Nat) × (Nat) × (Nat) × (Nat) × (Nat) × (Nat) × (Nat) × (Nat) × (Nat) × (Nat) × (Nat) × (Nat)) (H : Heap) (locs : List Loc), Wd D A s (xW cy x0 u ++ zW cy z0 v) H locs → W p l e room_1 s m #[Value.ref b] below meth c H locs 103 208859 Q (F0 m 15 ls [.ref z0])) : W p l e room_1 s m #[Value.ref b] below meth c H locs 82 23679 Q (F0 m 8 ls []) := by
  obtain ⟨S0, hK, hst, hA, -⟩ := X
  have hx := S0.1; have hb := S0.2.1; have hml := S0.2.2.1; have hown := S0.2.2.2.1; have hts := S0.2.2.2.2
  obtain ⟨xr, xh, xf, f1, xp, pq1, xw, wm0, wmc, wmb, wmv, waw, wan, wqk, wqs, wqc, wqb, xy, y1, y2, xd, ra, rb, hq⟩ := u
  refine va_new (D := D) (ci := 5) (fs := [.null, .null, .null, .null, .null, .null, .null, .null, .null, .int (nI (0)), .null, .int (nI (0)), .null, .null, .int (nI (0)), .null, .null, .null, .null, .null, .null, .long (0), .int (nI (0)), .int (nI (0)), .null, .int (nI (0)), .int (nI (0)), .null]) (C := RX5) (T := TX5) (N := 28) hx hb hts0 wl_wsX50 tyX5 tyX5_ok hown (hts0 (.classLink RL 10 RX5) tb_439) (hts0 (.instantiable RX5 28) tb_440) (hts0 (.initialized RX5) tb_7) hK hW.1 hW.2.1 hW.2.2 hA rfl (fun j hj => by rcases (show j = 0 ∨ j = 1 ∨ j = 2 ∨ j = 3 ∨ j = 4 ∨ j = 5 ∨ j = 6 ∨ j = 7 ∨ j = 8 ∨ j = 9 ∨ j = 10 ∨ j = 11 ∨ j = 12 ∨ j = 13 ∨ j = 14 ∨ j = 15 ∨ j = 16 ∨ j = 17 ∨ j = 18 ∨ j = 19 ∨ j = 20 ∨ j = 21 ∨ j = 22 ∨ j = 23 ∨ j = 24 ∨ j = 25 ∨ j = 26 ∨ j = 27 by omega) with rfl | rfl | rfl | rfl | rfl | rfl | rfl | rfl | rfl | rfl | rfl | rfl | rfl | rfl | rfl | rfl | rfl | rfl | rfl | rfl | rfl | rfl | rfl | rfl | rfl | rfl | rfl | rfl <;> rfl) (Nat.le_of_ble_eq_true rfl) (Nat.le_of_ble_eq_true rfl) dL_law_8 (fun z0 H hP hD hS => ?_)
  have hW : Wd D A s (xW cy x0 (xr, xh, xf, f1, xp, pq1, xw, wm0, wmc, wmb, wmv, waw, wan, wqk, wqs, wqc, wqb, xy, y1, y2, xd, ra, rb, hq) ++ [(z0, .inr (5, [.null, .null, .null, .null, .null, .null, .null, .null, .null, .int (nI (0)), .null, .int (nI (0)), .null, .null, .int (nI (0)), .null, .null, .null, .null, .null, .null, .long (0), .int (nI (0)), .int (nI (0)), .null, .int (nI (0)), .int (nI (0)), .null]))]) H locs := ⟨hP, hD, hS⟩
  refine lv_dup hx hb dL_law_11 rfl ?_
  refine kIW (w1 := zW cy z0) (As := []) (rest := [.ref z0]) S0 hK hst hA hW [82] (fun sz => c_X5_init l D cy t z0 sz) rfl (by decide) (cwI 0 hts gL_law_X5_init rfl rfl rfl (hts0 (.initialized RX5) tb_7) (hts0 (.methodLink RL 12 yX5_init) tb_441) (hts0 (.instanceMethod yX5_init) tb_442) rfl (by decide +kernel) ⟨Nat.le_of_ble_eq_true rfl, Nat.le_of_ble_eq_true rfl⟩) (fun ⟨_, _, _, _, _, _, _, _, _, _, _, _, _, _, _, _, _, _, _, _⟩ => rfl) rfl hl.1 rfl (Nat.le_of_ble_eq_true rfl) dL_law_12 ⟨Nat.le_of_ble_eq_true rfl, Nat.le_of_ble_eq_true rfl⟩ (fun v H locs _ hW => ?_)
  obtain ⟨zr, zs, zt, zc, zm, zk, zh, zd, zf, zp, za, ze, zn, zb, zv, zw, zo, zq, zl, zi⟩ := v
  rw [put_snoc _ _ _ 82 rfl rfl] at hW
  exact kk z0 (zr, zs, zt, zc, zm, zk, zh, zd, zf, zp, za, ze, zn, zb, zv, zw, zo, zq, zl, zi) H locs hW
set_option maxHeartbeats 4000000 in
set_option maxRecDepth 100000 in
/-- the law from its entry to its last row -/
theorem law_all (l : Launch) (hL : L ≤ 3072) (hx : p.tables.exec = Jvm.exec) (hb : c.code = code) (hml : c.maxLocals = 4) (hown : s.vm.findClass RL = some m.cls) (hts0 : ∀ w ∈ lw_tbl, w.before #[Value.ref b] s = true) (hX : va_X b L xs s s.heap) (hbl : b < s.heap.size) (hgv : (Jvm.Cond.and given_1 narrow_1).before #[Value.ref b] s = true)
    (ke : ∀ (H : Heap) (ls : Array Slot), W p l e room_1 s m #[Value.ref b] below meth c H [] 600000 7302250 Q (F0 m 874 ls [])) : W p l e room_1 s m #[Value.ref b] below meth c s.heap [] 0 0 Q (entryFrame m ([Value.ref b] : List Value).toArray 4) := by
  have hts : ∀ w ∈ wsL_law, w.before #[Value.ref b] s = true := fun w hw => hts0 w (wsL_law_in w hw)
  obtain ⟨D, cy, hK⟩ := st_K hts0
  obtain ⟨t, hst⟩ := st_Stat hts0 hgv
  have X : LC p m c s D cy t (fun q => s.heap.size ≤ q) b L xs := ⟨⟨hx, hb, hml, hown, hts⟩, hK, hst, fun _ h => h, hX, hbl, Nat.not_le.mpr hbl, hL⟩
  have hW : Wd D (fun q => s.heap.size ≤ q) s [] s.heap [] := ⟨fun k q h => by simp at h, ⟨fun i j p q h => by simp at h, fun k q h => by simp at h⟩, va_S.rf⟩
  have hl := lv_entry ([.ref b]) (n := 4) (Nat.le_of_ble_eq_true rfl)
  rw [lg_entry_eq]
  generalize (lg_sl ([.ref b]) ++ List.replicate (4 - (lg_sl ([.ref b])).length) Slot.unset).toArray = ls at hl ⊢
  have hl : lv_has ls 4 [(0, .ref b)] := hl
  refine st_new4 l X hts0 hW hl (fun x0 u H locs hW => ?_)
  refine lv_astore_n (lv' := [(1, .ref x0), (0, .ref b)]) hx hb dL_law_7 rfl hl (by decide) rfl (fun ls hl => ?_)
  refine st_new5 l X hts0 hW hl (fun z0 v H locs hW => ?_)
  refine lv_astore_n (lv' := [(2, .ref z0), (1, .ref x0), (0, .ref b)]) hx hb dL_law_15 rfl hl (by decide) rfl (fun ls hl => ?_)
  refine lv_iconst (v := nI 0) hx hb dL_law_16 (by decide) ?_
  refine lv_istore_n (lv' := [(3, .int (nI 0)), (2, .ref z0), (1, .ref x0), (0, .ref b)]) hx hb dL_law_17 rfl hl (by decide) rfl (fun ls hl => ?_)
  refine W.widen (k := 600000) (n := 7302250) (Nat.le_of_ble_eq_true rfl) (Nat.le_of_ble_eq_true rfl) ?_
  obtain ⟨xr, xh, xf, f1, xp, pq1, xw, wm0, wmc, wmb, wmv, waw, wan, wqk, wqs, wqc, wqb, xy, y1, y2, xd, ra, rb, hq⟩ := u
  obtain ⟨zr, zs, zt, zc, zm, zk, zh, zd, zf, zp, za, ze, zn, zb, zv, zw, zo, zq, zl, zi⟩ := v
  rw [← LW_of (xW cy x0 (xr, xh, xf, f1, xp, pq1, xw, wm0, wmc, wmb, wmv, waw, wan, wqk, wqs, wqc, wqb, xy, y1, y2, xd, ra, rb, hq) ++ zW cy z0 (zr, zs, zt, zc, zm, zk, zh, zd, zf, zp, za, ze, zn, zb, zv, zw, zo, zq, zl, zi)) rfl] at hW
  exact law_loop (a := (adX x0 xr xh xf f1 xp pq1 xw xy y1 y2 xd)) (z := (adZ z0 zr zs zt zc zm zk zh zd zf zp za ze zn zb zv zw zo zq zl zi)) X ⟨Nat.le_refl _, Nat.le_refl _⟩ (fun H locs F ls hW => va_forget (fun q hq => hW.2.2.2.2 q hq) (ke H ls)) (L + 1) 0 (by omega) (Nat.zero_le L) ls (lv_sub hl [3, 2, 1, 0] rfl) H locs _ _ _ _ _ _ _ _ _ _ _ (st_x (cy := cy) (x0 := x0) (z0 := z0) (xr := xr) (xh := xh) (xf := xf) (f1 := f1) (xp := xp) (pq1 := pq1) (xw := xw) (wm0 := wm0) (wmc := wmc) (wmb := wmb) (wmv := wmv) (waw := waw) (wan := wan) (wqk := wqk) (wqs := wqs) (wqc := wqc) (wqb := wqb) (xy := xy) (y1 := y1) (y2 := y2) (xd := xd) (ra := ra) (rb := rb) (hq := hq) (zr := zr) (zs := zs) (zt := zt) (zc := zc) (zm := zm) (zk := zk) (zh := zh) (zd := zd) (zf := zf) (zp := zp) (za := za) (ze := ze) (zn := zn) (zb := zb) (zv := zv) (zw := zw) (zo := zo) (zq := zq) (zl := zl) (zi := zi)) (st_m (cy := cy) (x0 := x0) (z0 := z0) (xr := xr) (xh := xh) (xf := xf) (f1 := f1) (xp := xp) (pq1 := pq1) (xw := xw) (wm0 := wm0) (wmc := wmc) (wmb := wmb) (wmv := wmv) (waw := waw) (wan := wan) (wqk := wqk) (wqs := wqs) (wqc := wqc) (wqb := wqb) (xy := xy) (y1 := y1) (y2 := y2) (xd := xd) (ra := ra) (rb := rb) (hq := hq) (zr := zr) (zs := zs) (zt := zt) (zc := zc) (zm := zm) (zk := zk) (zh := zh) (zd := zd) (zf := zf) (zp := zp) (za := za) (ze := ze) (zn := zn) (zb := zb) (zv := zv) (zw := zw) (zo := zo) (zq := zq) (zl := zl) (zi := zi)) st_s hW
end START
