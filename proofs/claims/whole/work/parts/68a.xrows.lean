section ROW68a
variable {p : Program} {l : Launch} {e : Env} {s : State} {m : MethodId} {below : List Frame} {meth : Method} {c : Code} {H : Heap} {locs : List Loc} {cells slots : Nat} {Q : State → Prop} {D : va_G} {cy : Nat → ClassId} {t : Nat × Nat} {A : Nat → Prop} {F : Nat → cellT} {b L i0 : Nat} {xs : Nat → Int32} {ls : Array Slot} {a ra rb ha z cnt : Nat → Nat} {f : Nat → Nat → Int32} {fn0 : Nat} {ff : Nat → Int32} {pn : Nat} {pf : Nat → Int32} {md : Nat → Int32} {K g : Nat → Nat → Int32} {nt : Nat → Nat}
set_option maxHeartbeats 4000000 in
theorem x_add_b (X : LC p m c s D cy t A b L xs) (hI : INVx F cy a ra rb ha cnt f fn0 ff pn pf md K g nt) (hN : INVs cnt fn0 pn md nt) (hW : Wd D A s (LW F) H locs) (hsz : ls.size = 4) (hf : cells ≤ 600000 ∧ slots ≤ 7302250)  (x9 : Int32) (y9 : Int32) (w0 : Int64) (y_hbd : x9 < 0 ∨ nI 8 ≤ x9)
    (kk : ∀ (H1 : Heap) (locs1 : List Loc), Wd D A s (LW F) H1 locs1 → W p l e room_1 s m #[Value.ref b] below meth c H1 locs1 cells slots Q (F0 m 162 ls (.int ((-2 : Int32)) :: []))) : W p l e room_1 s m #[Value.ref b] below meth c H locs cells slots Q (F0 m 159 ls [.long (w0), .int (y9), .int (x9), .ref (a 0)]) := by
  obtain ⟨i0, i1, i2, ⟨i3, i4⟩, ⟨i5, i6⟩, i7, ⟨lv, of, oc, i8, i9, i10⟩, ⟨wd, i11⟩, i12, i13⟩ := hI
  refine kL (As := [.int (x9), .int (y9), .long (w0)]) (rest := []) X hW [0] (fun sz => c_X4_add_b l D cy t (a 0) (a 1) (a 2) (a 3) (a 5) (a 7) (a 8) (a 11) x9 y9 w0 y_hbd sz) rfl (And.intro i0 True.intro) (by decide) (by decide) (cwV 3 X.1.2.2.2.2 gL_law_X4_add rfl rfl rfl (by decide +kernel) ⟨Nat.le_of_ble_eq_true rfl, Nat.le_of_ble_eq_true rfl⟩) (fun _ => rfl) 0 4 rfl rfl rfl hsz rfl (Nat.le_of_ble_eq_true rfl) dL_law_159 hf (fun r9 u9 H1 locs1 F1 hp hE hq hW1 => ?_)
  have hr9 := hp
  replace hr9 : r9 = (-2 : Int32) := hr9
  subst hr9
  have eF := same_F hq hE rfl (And.intro i0 True.intro)
  rw [eF] at hW1
  exact kk H1 locs1 hW1
set_option maxHeartbeats 4000000 in
theorem x_add_bn (X : LC p m c s D cy t A b L xs) (hI : INVx F cy a ra rb ha cnt f fn0 ff pn pf md K g nt) (hN : INVs cnt fn0 pn md nt) (hW : Wd D A s (LW F) H locs) (hsz : ls.size = 4) (hf : cells ≤ 600000 ∧ slots ≤ 7302250) {r : Nat} (hr : r < 8) (y9 : Int32) (w0 : Int64) (y_hc : (cnt r) ≤ 200) (y_hbn : y9 < nI 1 ∨ nI 8 < y9)
    (kk : ∀ (H1 : Heap) (locs1 : List Loc), Wd D A s (LW F) H1 locs1 → W p l e room_1 s m #[Value.ref b] below meth c H1 locs1 cells slots Q (F0 m 162 ls (.int ((-2 : Int32)) :: []))) : W p l e room_1 s m #[Value.ref b] below meth c H locs cells slots Q (F0 m 159 ls [.long (w0), .int (y9), .int (nI (r)), .ref (a 0)]) := by
  obtain ⟨i0, i1, i2, ⟨i3, i4⟩, ⟨i5, i6⟩, i7, ⟨lv, of, oc, i8, i9, i10⟩, ⟨wd, i11⟩, i12, i13⟩ := hI
  refine kL (As := [.int (nI (r)), .int (y9), .long (w0)]) (rest := []) X hW [0, 1, 22 + 2 * r, 23 + 2 * r] (fun sz => c_X4_add_bn l D cy t (a 0) (a 1) (a 2) (a 3) (a 5) (a 7) (a 8) (a 11) (fun i => some (ra i)) r (ra r) (rb r) (cnt r) (f r) y9 w0 rfl hr y_hc y_hbn sz) rfl (And.intro i0 (And.intro i1 (And.intro ((i12 r hr).1) (And.intro ((i12 r hr).2) True.intro)))) (by intro j hj; simp only [List.mem_cons, List.not_mem_nil, or_false] at hj; omega) (by simp only [List.nodup_cons, List.mem_cons, List.not_mem_nil, or_false, not_false_eq_true, List.nodup_nil, and_true]; omega) (cwV 3 X.1.2.2.2.2 gL_law_X4_add rfl rfl rfl (by decide +kernel) ⟨Nat.le_of_ble_eq_true rfl, Nat.le_of_ble_eq_true rfl⟩) (fun _ => rfl) 0 4 rfl rfl rfl hsz rfl (Nat.le_of_ble_eq_true rfl) dL_law_159 hf (fun r9 u9 H1 locs1 F1 hp hE hq hW1 => ?_)
  have hr9 := hp
  replace hr9 : r9 = (-2 : Int32) := hr9
  subst hr9
  have eF := same_F hq hE rfl (And.intro i0 (And.intro i1 (And.intro ((i12 r hr).1) (And.intro ((i12 r hr).2) True.intro))))
  rw [eF] at hW1
  exact kk H1 locs1 hW1
set_option maxHeartbeats 4000000 in
theorem x_add_r (X : LC p m c s D cy t A b L xs) (hI : INVx F cy a ra rb ha cnt f fn0 ff pn pf md K g nt) (hN : INVs cnt fn0 pn md nt) (hW : Wd D A s (LW F) H locs) (hsz : ls.size = 4) (hf : cells ≤ 600000 ∧ slots ≤ 7302250) {r : Nat} (hr : r < 8) (k : Nat) (w0 : Int64) (y_hc : (cnt r) ≤ 200) (y_hk1 : 1 ≤ k) (y_hk8 : k ≤ 8) (y_hfull : 200 < (cnt r) + k)
    (kk : ∀ (H1 : Heap) (locs1 : List Loc), Wd D A s (LW F) H1 locs1 → W p l e room_1 s m #[Value.ref b] below meth c H1 locs1 cells slots Q (F0 m 162 ls (.int ((-3 : Int32)) :: []))) : W p l e room_1 s m #[Value.ref b] below meth c H locs cells slots Q (F0 m 159 ls [.long (w0), .int (nI (k)), .int (nI (r)), .ref (a 0)]) := by
  obtain ⟨i0, i1, i2, ⟨i3, i4⟩, ⟨i5, i6⟩, i7, ⟨lv, of, oc, i8, i9, i10⟩, ⟨wd, i11⟩, i12, i13⟩ := hI
  refine kL (As := [.int (nI (r)), .int (nI (k)), .long (w0)]) (rest := []) X hW [0, 1, 22 + 2 * r, 23 + 2 * r] (fun sz => c_X4_add_r l D cy t (a 0) (a 1) (a 2) (a 3) (a 5) (a 7) (a 8) (a 11) (fun i => some (ra i)) r (ra r) (rb r) (cnt r) (f r) k w0 rfl hr y_hc y_hk1 y_hk8 y_hfull sz) rfl (And.intro i0 (And.intro i1 (And.intro ((i12 r hr).1) (And.intro ((i12 r hr).2) True.intro)))) (by intro j hj; simp only [List.mem_cons, List.not_mem_nil, or_false] at hj; omega) (by simp only [List.nodup_cons, List.mem_cons, List.not_mem_nil, or_false, not_false_eq_true, List.nodup_nil, and_true]; omega) (cwV 3 X.1.2.2.2.2 gL_law_X4_add rfl rfl rfl (by decide +kernel) ⟨Nat.le_of_ble_eq_true rfl, Nat.le_of_ble_eq_true rfl⟩) (fun _ => rfl) 0 4 rfl rfl rfl hsz rfl (Nat.le_of_ble_eq_true rfl) dL_law_159 hf (fun r9 u9 H1 locs1 F1 hp hE hq hW1 => ?_)
  have hr9 := hp
  replace hr9 : r9 = (-3 : Int32) := hr9
  subst hr9
  have eF := same_F hq hE rfl (And.intro i0 (And.intro i1 (And.intro ((i12 r hr).1) (And.intro ((i12 r hr).2) True.intro))))
  rw [eF] at hW1
  exact kk H1 locs1 hW1
set_option maxHeartbeats 4000000 in
theorem x_clear_b (X : LC p m c s D cy t A b L xs) (hI : INVx F cy a ra rb ha cnt f fn0 ff pn pf md K g nt) (hN : INVs cnt fn0 pn md nt) (hW : Wd D A s (LW F) H locs) (hsz : ls.size = 4) (hf : cells ≤ 600000 ∧ slots ≤ 7302250)  (x9 : Int32) (y_hbd : x9 < 0 ∨ nI 8 ≤ x9)
    (kk : ∀ (H1 : Heap) (locs1 : List Loc), Wd D A s (LW F) H1 locs1 → W p l e room_1 s m #[Value.ref b] below meth c H1 locs1 cells slots Q (F0 m 210 ls (.int ((-2 : Int32)) :: []))) : W p l e room_1 s m #[Value.ref b] below meth c H locs cells slots Q (F0 m 207 ls [.int (x9), .ref (a 0)]) := by
  obtain ⟨i0, i1, i2, ⟨i3, i4⟩, ⟨i5, i6⟩, i7, ⟨lv, of, oc, i8, i9, i10⟩, ⟨wd, i11⟩, i12, i13⟩ := hI
  refine kL (As := [.int (x9)]) (rest := []) X hW [0] (fun sz => c_X4_clear_b l D cy t (a 0) (a 1) (a 2) (a 3) (a 5) (a 7) (a 8) (a 11) x9 y_hbd sz) rfl (And.intro i0 True.intro) (by decide) (by decide) (cwV 1 X.1.2.2.2.2 gL_law_X4_clear rfl rfl rfl (by decide +kernel) ⟨Nat.le_of_ble_eq_true rfl, Nat.le_of_ble_eq_true rfl⟩) (fun _ => rfl) 0 4 rfl rfl rfl hsz rfl (Nat.le_of_ble_eq_true rfl) dL_law_207 hf (fun r9 u9 H1 locs1 F1 hp hE hq hW1 => ?_)
  have hr9 := hp
  replace hr9 : r9 = (-2 : Int32) := hr9
  subst hr9
  have eF := same_F hq hE rfl (And.intro i0 True.intro)
  rw [eF] at hW1
  exact kk H1 locs1 hW1
set_option maxHeartbeats 4000000 in
theorem x_size_b (X : LC p m c s D cy t A b L xs) (hI : INVx F cy a ra rb ha cnt f fn0 ff pn pf md K g nt) (hN : INVs cnt fn0 pn md nt) (hW : Wd D A s (LW F) H locs) (hsz : ls.size = 4) (hf : cells ≤ 600000 ∧ slots ≤ 7302250)  (x9 : Int32) (y_hbd : x9 < 0 ∨ nI 8 ≤ x9)
    (kk : ∀ (H1 : Heap) (locs1 : List Loc), Wd D A s (LW F) H1 locs1 → W p l e room_1 s m #[Value.ref b] below meth c H1 locs1 cells slots Q (F0 m 233 ls (.int ((-2 : Int32)) :: []))) : W p l e room_1 s m #[Value.ref b] below meth c H locs cells slots Q (F0 m 230 ls [.int (x9), .ref (a 0)]) := by
  obtain ⟨i0, i1, i2, ⟨i3, i4⟩, ⟨i5, i6⟩, i7, ⟨lv, of, oc, i8, i9, i10⟩, ⟨wd, i11⟩, i12, i13⟩ := hI
  refine kL (As := [.int (x9)]) (rest := []) X hW [0] (fun sz => c_X4_size_b l D cy t (a 0) (a 1) (a 2) (a 3) (a 5) (a 7) (a 8) (a 11) x9 y_hbd sz) rfl (And.intro i0 True.intro) (by decide) (by decide) (cwV 1 X.1.2.2.2.2 gL_law_X4_size rfl rfl rfl (by decide +kernel) ⟨Nat.le_of_ble_eq_true rfl, Nat.le_of_ble_eq_true rfl⟩) (fun _ => rfl) 0 4 rfl rfl rfl hsz rfl (Nat.le_of_ble_eq_true rfl) dL_law_230 hf (fun r9 u9 H1 locs1 F1 hp hE hq hW1 => ?_)
  have hr9 := hp
  replace hr9 : r9 = (-2 : Int32) := hr9
  subst hr9
  have eF := same_F hq hE rfl (And.intro i0 True.intro)
  rw [eF] at hW1
  exact kk H1 locs1 hW1
set_option maxHeartbeats 4000000 in
theorem x_size (X : LC p m c s D cy t A b L xs) (hI : INVx F cy a ra rb ha cnt f fn0 ff pn pf md K g nt) (hN : INVs cnt fn0 pn md nt) (hW : Wd D A s (LW F) H locs) (hsz : ls.size = 4) (hf : cells ≤ 600000 ∧ slots ≤ 7302250) {r : Nat} (hr : r < 8)  (y_hc : (cnt r) ≤ 200)
    (kk : ∀ (H1 : Heap) (locs1 : List Loc), Wd D A s (LW F) H1 locs1 → W p l e room_1 s m #[Value.ref b] below meth c H1 locs1 cells slots Q (F0 m 233 ls (.int (nI ((cnt r))) :: []))) : W p l e room_1 s m #[Value.ref b] below meth c H locs cells slots Q (F0 m 230 ls [.int (nI (r)), .ref (a 0)]) := by
  obtain ⟨i0, i1, i2, ⟨i3, i4⟩, ⟨i5, i6⟩, i7, ⟨lv, of, oc, i8, i9, i10⟩, ⟨wd, i11⟩, i12, i13⟩ := hI
  refine kL (As := [.int (nI (r))]) (rest := []) X hW [0, 1, 22 + 2 * r, 23 + 2 * r] (fun sz => c_X4_size l D cy t (a 0) (a 1) (a 2) (a 3) (a 5) (a 7) (a 8) (a 11) (fun i => some (ra i)) r (ra r) (rb r) (cnt r) (f r) rfl hr y_hc sz) rfl (And.intro i0 (And.intro i1 (And.intro ((i12 r hr).1) (And.intro ((i12 r hr).2) True.intro)))) (by intro j hj; simp only [List.mem_cons, List.not_mem_nil, or_false] at hj; omega) (by simp only [List.nodup_cons, List.mem_cons, List.not_mem_nil, or_false, not_false_eq_true, List.nodup_nil, and_true]; omega) (cwV 1 X.1.2.2.2.2 gL_law_X4_size rfl rfl rfl (by decide +kernel) ⟨Nat.le_of_ble_eq_true rfl, Nat.le_of_ble_eq_true rfl⟩) (fun _ => rfl) 0 4 rfl rfl rfl hsz rfl (Nat.le_of_ble_eq_true rfl) dL_law_230 hf (fun r9 u9 H1 locs1 F1 hp hE hq hW1 => ?_)
  have hr9 := hp
  replace hr9 : r9 = nI ((cnt r)) := hr9
  subst hr9
  have eF := same_F hq hE rfl (And.intro i0 (And.intro i1 (And.intro ((i12 r hr).1) (And.intro ((i12 r hr).2) True.intro))))
  rw [eF] at hW1
  exact kk H1 locs1 hW1
set_option maxHeartbeats 4000000 in
theorem x_at_b (X : LC p m c s D cy t A b L xs) (hI : INVx F cy a ra rb ha cnt f fn0 ff pn pf md K g nt) (hN : INVs cnt fn0 pn md nt) (hW : Wd D A s (LW F) H locs) (hsz : ls.size = 4) (hf : cells ≤ 600000 ∧ slots ≤ 7302250)  (x9 : Int32) (y9 : Int32) (y_hbd : x9 < 0 ∨ nI 8 ≤ x9)
    (kk : ∀ (H1 : Heap) (locs1 : List Loc), Wd D A s (LW F) H1 locs1 → W p l e room_1 s m #[Value.ref b] below meth c H1 locs1 cells slots Q (F0 m 261 ls (.int ((-2 : Int32)) :: []))) : W p l e room_1 s m #[Value.ref b] below meth c H locs cells slots Q (F0 m 258 ls [.int (y9), .int (x9), .ref (a 0)]) := by
  obtain ⟨i0, i1, i2, ⟨i3, i4⟩, ⟨i5, i6⟩, i7, ⟨lv, of, oc, i8, i9, i10⟩, ⟨wd, i11⟩, i12, i13⟩ := hI
  refine kL (As := [.int (x9), .int (y9)]) (rest := []) X hW [0] (fun sz => c_X4_at_b l D cy t (a 0) (a 1) (a 2) (a 3) (a 5) (a 7) (a 8) (a 11) x9 y9 y_hbd sz) rfl (And.intro i0 True.intro) (by decide) (by decide) (cwV 2 X.1.2.2.2.2 gL_law_X4_at rfl rfl rfl (by decide +kernel) ⟨Nat.le_of_ble_eq_true rfl, Nat.le_of_ble_eq_true rfl⟩) (fun _ => rfl) 0 4 rfl rfl rfl hsz rfl (Nat.le_of_ble_eq_true rfl) dL_law_258 hf (fun r9 u9 H1 locs1 F1 hp hE hq hW1 => ?_)
  have hr9 := hp
  replace hr9 : r9 = (-2 : Int32) := hr9
  subst hr9
  have eF := same_F hq hE rfl (And.intro i0 True.intro)
  rw [eF] at hW1
  exact kk H1 locs1 hW1
set_option maxHeartbeats 4000000 in
theorem x_at (X : LC p m c s D cy t A b L xs) (hI : INVx F cy a ra rb ha cnt f fn0 ff pn pf md K g nt) (hN : INVs cnt fn0 pn md nt) (hW : Wd D A s (LW F) H locs) (hsz : ls.size = 4) (hf : cells ≤ 600000 ∧ slots ≤ 7302250) {r : Nat} (hr : r < 8) (y9 : Int32) (y_hc : (cnt r) ≤ 200)
    (kk : ∀ (H1 : Heap) (locs1 : List Loc), Wd D A s (LW F) H1 locs1 → W p l e room_1 s m #[Value.ref b] below meth c H1 locs1 cells slots Q (F0 m 261 ls (.int (byt (f r) (cnt r) y9) :: []))) : W p l e room_1 s m #[Value.ref b] below meth c H locs cells slots Q (F0 m 258 ls [.int (y9), .int (nI (r)), .ref (a 0)]) := by
  obtain ⟨i0, i1, i2, ⟨i3, i4⟩, ⟨i5, i6⟩, i7, ⟨lv, of, oc, i8, i9, i10⟩, ⟨wd, i11⟩, i12, i13⟩ := hI
  refine kL (As := [.int (nI (r)), .int (y9)]) (rest := []) X hW [0, 1, 22 + 2 * r, 23 + 2 * r] (fun sz => c_X4_at l D cy t (a 0) (a 1) (a 2) (a 3) (a 5) (a 7) (a 8) (a 11) (fun i => some (ra i)) r (ra r) (rb r) (cnt r) (f r) y9 rfl hr y_hc sz) rfl (And.intro i0 (And.intro i1 (And.intro ((i12 r hr).1) (And.intro ((i12 r hr).2) True.intro)))) (by intro j hj; simp only [List.mem_cons, List.not_mem_nil, or_false] at hj; omega) (by simp only [List.nodup_cons, List.mem_cons, List.not_mem_nil, or_false, not_false_eq_true, List.nodup_nil, and_true]; omega) (cwV 2 X.1.2.2.2.2 gL_law_X4_at rfl rfl rfl (by decide +kernel) ⟨Nat.le_of_ble_eq_true rfl, Nat.le_of_ble_eq_true rfl⟩) (fun _ => rfl) 0 4 rfl rfl rfl hsz rfl (Nat.le_of_ble_eq_true rfl) dL_law_258 hf (fun r9 u9 H1 locs1 F1 hp hE hq hW1 => ?_)
  have hr9 := hp
  replace hr9 : r9 = byt (f r) (cnt r) y9 := hr9
  subst hr9
  have eF := same_F hq hE rfl (And.intro i0 (And.intro i1 (And.intro ((i12 r hr).1) (And.intro ((i12 r hr).2) True.intro))))
  rw [eF] at hW1
  exact kk H1 locs1 hW1
set_option maxHeartbeats 4000000 in
theorem x_grow_b (X : LC p m c s D cy t A b L xs) (hI : INVx F cy a ra rb ha cnt f fn0 ff pn pf md K g nt) (hN : INVs cnt fn0 pn md nt) (hW : Wd D A s (LW F) H locs) (hsz : ls.size = 4) (hf : cells ≤ 600000 ∧ slots ≤ 7302250)  (x9 : Int32) (fr : Int32) (sp : Int32) (y_hbn : x9 < nI 1 ∨ nI 5000 < x9)
    (kk : ∀ (H1 : Heap) (locs1 : List Loc), Wd D A s (LW F) H1 locs1 → W p l e room_1 s m #[Value.ref b] below meth c H1 locs1 cells slots Q (F0 m 620 ls (.int ((-2 : Int32)) :: []))) : W p l e room_1 s m #[Value.ref b] below meth c H locs cells slots Q (F0 m 617 ls [.int (sp), .int (fr), .int (x9), .ref (a 0)]) := by
  obtain ⟨i0, i1, i2, ⟨i3, i4⟩, ⟨i5, i6⟩, i7, ⟨lv, of, oc, i8, i9, i10⟩, ⟨wd, i11⟩, i12, i13⟩ := hI
  refine kL (As := [.int (x9), .int (fr), .int (sp)]) (rest := []) X hW [0] (fun sz => c_X4_grow_b l D cy t (a 0) (a 1) (a 2) (a 3) (a 5) (a 7) (a 8) (a 11) x9 fr sp y_hbn sz) rfl (And.intro i0 True.intro) (by decide) (by decide) (cwV 3 X.1.2.2.2.2 gL_law_X4_grow rfl rfl rfl (by decide +kernel) ⟨Nat.le_of_ble_eq_true rfl, Nat.le_of_ble_eq_true rfl⟩) (fun _ => rfl) 0 4 rfl rfl rfl hsz rfl (Nat.le_of_ble_eq_true rfl) dL_law_617 hf (fun r9 u9 H1 locs1 F1 hp hE hq hW1 => ?_)
  have hr9 := hp
  replace hr9 : r9 = (-2 : Int32) := hr9
  subst hr9
  have eF := same_F hq hE rfl (And.intro i0 True.intro)
  rw [eF] at hW1
  exact kk H1 locs1 hW1
set_option maxHeartbeats 4000000 in
theorem x_grow_r (X : LC p m c s D cy t A b L xs) (hI : INVx F cy a ra rb ha cnt f fn0 ff pn pf md K g nt) (hN : INVs cnt fn0 pn md nt) (hW : Wd D A s (LW F) H locs) (hsz : ls.size = 4) (hf : cells ≤ 600000 ∧ slots ≤ 7302250)  (n : Nat) (fr : Int32) (sp : Int32) (y_hn1 : 1 ≤ n) (y_hn5 : n ≤ 5000) (y_hfull : 20000 < fn0 + n)
    (kk : ∀ (H1 : Heap) (locs1 : List Loc), Wd D A s (LW F) H1 locs1 → W p l e room_1 s m #[Value.ref b] below meth c H1 locs1 cells slots Q (F0 m 620 ls (.int ((-3 : Int32)) :: []))) : W p l e room_1 s m #[Value.ref b] below meth c H locs cells slots Q (F0 m 617 ls [.int (sp), .int (fr), .int (nI (n)), .ref (a 0)]) := by
  obtain ⟨i0, i1, i2, ⟨i3, i4⟩, ⟨i5, i6⟩, i7, ⟨lv, of, oc, i8, i9, i10⟩, ⟨wd, i11⟩, i12, i13⟩ := hI
  refine kL (As := [.int (nI (n)), .int (fr), .int (sp)]) (rest := []) X hW [0, 3, 4] (fun sz => c_X4_grow_r l D cy t (a 0) (a 1) (a 2) (a 3) (a 5) (a 7) (a 8) (a 11) (a 4) fn0 ff n fr sp hN.2.1 y_hn1 y_hn5 y_hfull sz) rfl (And.intro i0 (And.intro i3 (And.intro i4 True.intro))) (by decide) (by decide) (cwV 3 X.1.2.2.2.2 gL_law_X4_grow rfl rfl rfl (by decide +kernel) ⟨Nat.le_of_ble_eq_true rfl, Nat.le_of_ble_eq_true rfl⟩) (fun _ => rfl) 0 4 rfl rfl rfl hsz rfl (Nat.le_of_ble_eq_true rfl) dL_law_617 hf (fun r9 u9 H1 locs1 F1 hp hE hq hW1 => ?_)
  have hr9 := hp
  replace hr9 : r9 = (-3 : Int32) := hr9
  subst hr9
  have eF := same_F hq hE rfl (And.intro i0 (And.intro i3 (And.intro i4 True.intro)))
  rw [eF] at hW1
  exact kk H1 locs1 hW1
set_option maxHeartbeats 4000000 in
theorem x_spoil_b (X : LC p m c s D cy t A b L xs) (hI : INVx F cy a ra rb ha cnt f fn0 ff pn pf md K g nt) (hN : INVs cnt fn0 pn md nt) (hW : Wd D A s (LW F) H locs) (hsz : ls.size = 4) (hf : cells ≤ 600000 ∧ slots ≤ 7302250)  (x9 : Int32) (y9 : Int32) (y_hbd : x9 < 0 ∨ nI fn0 ≤ x9 ∨ y9 < 0 ∨ nI 255 < y9)
    (kk : ∀ (H1 : Heap) (locs1 : List Loc), Wd D A s (LW F) H1 locs1 → W p l e room_1 s m #[Value.ref b] below meth c H1 locs1 cells slots Q (F0 m 658 ls (.int ((-2 : Int32)) :: []))) : W p l e room_1 s m #[Value.ref b] below meth c H locs cells slots Q (F0 m 655 ls [.int (y9), .int (x9), .ref (a 0)]) := by
  obtain ⟨i0, i1, i2, ⟨i3, i4⟩, ⟨i5, i6⟩, i7, ⟨lv, of, oc, i8, i9, i10⟩, ⟨wd, i11⟩, i12, i13⟩ := hI
  refine kL (As := [.int (x9), .int (y9)]) (rest := []) X hW [0, 3, 4] (fun sz => c_X4_spoil_b l D cy t (a 0) (a 1) (a 2) (a 3) (a 5) (a 7) (a 8) (a 11) (a 4) fn0 ff x9 y9 hN.2.1 y_hbd sz) rfl (And.intro i0 (And.intro i3 (And.intro i4 True.intro))) (by decide) (by decide) (cwV 2 X.1.2.2.2.2 gL_law_X4_spoil rfl rfl rfl (by decide +kernel) ⟨Nat.le_of_ble_eq_true rfl, Nat.le_of_ble_eq_true rfl⟩) (fun _ => rfl) 0 4 rfl rfl rfl hsz rfl (Nat.le_of_ble_eq_true rfl) dL_law_655 hf (fun r9 u9 H1 locs1 F1 hp hE hq hW1 => ?_)
  have hr9 := hp
  replace hr9 : r9 = (-2 : Int32) := hr9
  subst hr9
  have eF := same_F hq hE rfl (And.intro i0 (And.intro i3 (And.intro i4 True.intro)))
  rw [eF] at hW1
  exact kk H1 locs1 hW1
set_option maxHeartbeats 4000000 in
theorem x_shorten_b (X : LC p m c s D cy t A b L xs) (hI : INVx F cy a ra rb ha cnt f fn0 ff pn pf md K g nt) (hN : INVs cnt fn0 pn md nt) (hW : Wd D A s (LW F) H locs) (hsz : ls.size = 4) (hf : cells ≤ 600000 ∧ slots ≤ 7302250)  (x9 : Int32) (y_hbd : x9 < 0 ∨ nI fn0 < x9)
    (kk : ∀ (H1 : Heap) (locs1 : List Loc), Wd D A s (LW F) H1 locs1 → W p l e room_1 s m #[Value.ref b] below meth c H1 locs1 cells slots Q (F0 m 686 ls (.int ((-2 : Int32)) :: []))) : W p l e room_1 s m #[Value.ref b] below meth c H locs cells slots Q (F0 m 683 ls [.int (x9), .ref (a 0)]) := by
  obtain ⟨i0, i1, i2, ⟨i3, i4⟩, ⟨i5, i6⟩, i7, ⟨lv, of, oc, i8, i9, i10⟩, ⟨wd, i11⟩, i12, i13⟩ := hI
  refine kL (As := [.int (x9)]) (rest := []) X hW [0, 3, 4] (fun sz => c_X4_shorten_b l D cy t (a 0) (a 1) (a 2) (a 3) (a 5) (a 7) (a 8) (a 11) (a 4) fn0 ff x9 hN.2.1 y_hbd sz) rfl (And.intro i0 (And.intro i3 (And.intro i4 True.intro))) (by decide) (by decide) (cwV 1 X.1.2.2.2.2 gL_law_X4_shorten rfl rfl rfl (by decide +kernel) ⟨Nat.le_of_ble_eq_true rfl, Nat.le_of_ble_eq_true rfl⟩) (fun _ => rfl) 0 4 rfl rfl rfl hsz rfl (Nat.le_of_ble_eq_true rfl) dL_law_683 hf (fun r9 u9 H1 locs1 F1 hp hE hq hW1 => ?_)
  have hr9 := hp
  replace hr9 : r9 = (-2 : Int32) := hr9
  subst hr9
  have eF := same_F hq hE rfl (And.intro i0 (And.intro i3 (And.intro i4 True.intro)))
  rw [eF] at hW1
  exact kk H1 locs1 hW1
set_option maxHeartbeats 4000000 in
theorem x_forge_b (X : LC p m c s D cy t A b L xs) (hI : INVx F cy a ra rb ha cnt f fn0 ff pn pf md K g nt) (hN : INVs cnt fn0 pn md nt) (hW : Wd D A s (LW F) H locs) (hsz : ls.size = 4) (hf : cells ≤ 600000 ∧ slots ≤ 7302250)  (x9 : Int32) (y9 : Int32) (y_hbd : x9 < 0 ∨ nI pn ≤ x9 ∨ y9 < 0 ∨ nI 255 < y9)
    (kk : ∀ (H1 : Heap) (locs1 : List Loc), Wd D A s (LW F) H1 locs1 → W p l e room_1 s m #[Value.ref b] below meth c H1 locs1 cells slots Q (F0 m 783 ls (.int ((-2 : Int32)) :: []))) : W p l e room_1 s m #[Value.ref b] below meth c H locs cells slots Q (F0 m 780 ls [.int (y9), .int (x9), .ref (a 0)]) := by
  obtain ⟨i0, i1, i2, ⟨i3, i4⟩, ⟨i5, i6⟩, i7, ⟨lv, of, oc, i8, i9, i10⟩, ⟨wd, i11⟩, i12, i13⟩ := hI
  refine kL (As := [.int (x9), .int (y9)]) (rest := []) X hW [0, 5, 6] (fun sz => c_X4_forge_b l D cy t (a 0) (a 1) (a 2) (a 3) (a 5) (a 7) (a 8) (a 11) (a 6) pn pf x9 y9 hN.2.2.1 y_hbd sz) rfl (And.intro i0 (And.intro i5 (And.intro i6 True.intro))) (by decide) (by decide) (cwV 2 X.1.2.2.2.2 gL_law_X4_forge rfl rfl rfl (by decide +kernel) ⟨Nat.le_of_ble_eq_true rfl, Nat.le_of_ble_eq_true rfl⟩) (fun _ => rfl) 0 4 rfl rfl rfl hsz rfl (Nat.le_of_ble_eq_true rfl) dL_law_780 hf (fun r9 u9 H1 locs1 F1 hp hE hq hW1 => ?_)
  have hr9 := hp
  replace hr9 : r9 = (-2 : Int32) := hr9
  subst hr9
  have eF := same_F hq hE rfl (And.intro i0 (And.intro i5 (And.intro i6 True.intro)))
  rw [eF] at hW1
  exact kk H1 locs1 hW1
set_option maxHeartbeats 4000000 in
theorem x_cut_b (X : LC p m c s D cy t A b L xs) (hI : INVx F cy a ra rb ha cnt f fn0 ff pn pf md K g nt) (hN : INVs cnt fn0 pn md nt) (hW : Wd D A s (LW F) H locs) (hsz : ls.size = 4) (hf : cells ≤ 600000 ∧ slots ≤ 7302250)  (x9 : Int32) (y_hbd : x9 < 0 ∨ nI pn < x9)
    (kk : ∀ (H1 : Heap) (locs1 : List Loc), Wd D A s (LW F) H1 locs1 → W p l e room_1 s m #[Value.ref b] below meth c H1 locs1 cells slots Q (F0 m 811 ls (.int ((-2 : Int32)) :: []))) : W p l e room_1 s m #[Value.ref b] below meth c H locs cells slots Q (F0 m 808 ls [.int (x9), .ref (a 0)]) := by
  obtain ⟨i0, i1, i2, ⟨i3, i4⟩, ⟨i5, i6⟩, i7, ⟨lv, of, oc, i8, i9, i10⟩, ⟨wd, i11⟩, i12, i13⟩ := hI
  refine kL (As := [.int (x9)]) (rest := []) X hW [0, 5, 6] (fun sz => c_X4_cut_b l D cy t (a 0) (a 1) (a 2) (a 3) (a 5) (a 7) (a 8) (a 11) (a 6) pn pf x9 hN.2.2.1 y_hbd sz) rfl (And.intro i0 (And.intro i5 (And.intro i6 True.intro))) (by decide) (by decide) (cwV 1 X.1.2.2.2.2 gL_law_X4_cut rfl rfl rfl (by decide +kernel) ⟨Nat.le_of_ble_eq_true rfl, Nat.le_of_ble_eq_true rfl⟩) (fun _ => rfl) 0 4 rfl rfl rfl hsz rfl (Nat.le_of_ble_eq_true rfl) dL_law_808 hf (fun r9 u9 H1 locs1 F1 hp hE hq hW1 => ?_)
  have hr9 := hp
  replace hr9 : r9 = (-2 : Int32) := hr9
  subst hr9
  have eF := same_F hq hE rfl (And.intro i0 (And.intro i5 (And.intro i6 True.intro)))
  rw [eF] at hW1
  exact kk H1 locs1 hW1
set_option maxHeartbeats 4000000 in
theorem x_proof (X : LC p m c s D cy t A b L xs) (hI : INVx F cy a ra rb ha cnt f fn0 ff pn pf md K g nt) (hN : INVs cnt fn0 pn md nt) (hW : Wd D A s (LW F) H locs) (hsz : ls.size = 4) (hf : cells ≤ 600000 ∧ slots ≤ 7302250)  (y9 : Int32) 
    (kk : ∀ (H1 : Heap) (locs1 : List Loc), Wd D A s (LW F) H1 locs1 → W p l e room_1 s m #[Value.ref b] below meth c H1 locs1 cells slots Q (F0 m 755 ls (.int (byt pf pn y9) :: []))) : W p l e room_1 s m #[Value.ref b] below meth c H locs cells slots Q (F0 m 752 ls [.int (y9), .ref (a 0)]) := by
  obtain ⟨i0, i1, i2, ⟨i3, i4⟩, ⟨i5, i6⟩, i7, ⟨lv, of, oc, i8, i9, i10⟩, ⟨wd, i11⟩, i12, i13⟩ := hI
  refine kL (As := [.int (y9)]) (rest := []) X hW [0, 5, 6] (fun sz => c_X4_proof l D cy t (a 0) (a 1) (a 2) (a 3) (a 5) (a 7) (a 8) (a 11) (a 6) pn pf y9 hN.2.2.1 sz) rfl (And.intro i0 (And.intro i5 (And.intro i6 True.intro))) (by decide) (by decide) (cwV 1 X.1.2.2.2.2 gL_law_X4_proof rfl rfl rfl (by decide +kernel) ⟨Nat.le_of_ble_eq_true rfl, Nat.le_of_ble_eq_true rfl⟩) (fun _ => rfl) 0 4 rfl rfl rfl hsz rfl (Nat.le_of_ble_eq_true rfl) dL_law_752 hf (fun r9 u9 H1 locs1 F1 hp hE hq hW1 => ?_)
  have hr9 := hp
  replace hr9 : r9 = byt pf pn y9 := hr9
  subst hr9
  have eF := same_F hq hE rfl (And.intro i0 (And.intro i5 (And.intro i6 True.intro)))
  rw [eF] at hW1
  exact kk H1 locs1 hW1
set_option maxHeartbeats 4000000 in
theorem x_told_b (X : LC p m c s D cy t A b L xs) (hI : INVx F cy a ra rb ha cnt f fn0 ff pn pf md K g nt) (hN : INVs cnt fn0 pn md nt) (hW : Wd D A s (LW F) H locs) (hsz : ls.size = 4) (hf : cells ≤ 600000 ∧ slots ≤ 7302250)  (x9 : Int32) (y9 : Int32) (y_hbd : x9 < 0 ∨ nI 4 ≤ x9)
    (kk : ∀ (H1 : Heap) (locs1 : List Loc), Wd D A s (LW F) H1 locs1 → W p l e room_1 s m #[Value.ref b] below meth c H1 locs1 cells slots Q (F0 m 539 ls (.int ((-2 : Int32)) :: []))) : W p l e room_1 s m #[Value.ref b] below meth c H locs cells slots Q (F0 m 536 ls [.int (y9), .int (x9), .ref (a 0)]) := by
  obtain ⟨i0, i1, i2, ⟨i3, i4⟩, ⟨i5, i6⟩, i7, ⟨lv, of, oc, i8, i9, i10⟩, ⟨wd, i11⟩, i12, i13⟩ := hI
  refine kL (As := [.int (x9), .int (y9)]) (rest := []) X hW [0] (fun sz => c_X4_told_b l D cy t (a 0) (a 1) (a 2) (a 3) (a 5) (a 7) (a 8) (a 11) x9 y9 y_hbd sz) rfl (And.intro i0 True.intro) (by decide) (by decide) (cwV 2 X.1.2.2.2.2 gL_law_X4_told rfl rfl rfl (by decide +kernel) ⟨Nat.le_of_ble_eq_true rfl, Nat.le_of_ble_eq_true rfl⟩) (fun _ => rfl) 0 4 rfl rfl rfl hsz rfl (Nat.le_of_ble_eq_true rfl) dL_law_536 hf (fun r9 u9 H1 locs1 F1 hp hE hq hW1 => ?_)
  have hr9 := hp
  replace hr9 : r9 = (-2 : Int32) := hr9
  subst hr9
  have eF := same_F hq hE rfl (And.intro i0 True.intro)
  rw [eF] at hW1
  exact kk H1 locs1 hW1
set_option maxHeartbeats 4000000 in
theorem x_told_0 (X : LC p m c s D cy t A b L xs) (hI : INVx F cy a ra rb ha cnt f fn0 ff pn pf md K g nt) (hN : INVs cnt fn0 pn md nt) (hW : Wd D A s (LW F) H locs) (hsz : ls.size = 4) (hf : cells ≤ 600000 ∧ slots ≤ 7302250) {h : Nat} (hh : h < 4)  
    (kk : ∀ (H1 : Heap) (locs1 : List Loc), Wd D A s (LW F) H1 locs1 → W p l e room_1 s m #[Value.ref b] below meth c H1 locs1 cells slots Q (F0 m 539 ls (.int ((md h)) :: []))) : W p l e room_1 s m #[Value.ref b] below meth c H locs cells slots Q (F0 m 536 ls [.int (nI (0)), .int (nI (h)), .ref (a 0)]) := by
  obtain ⟨i0, i1, i2, ⟨i3, i4⟩, ⟨i5, i6⟩, i7, ⟨lv, of, oc, i8, i9, i10⟩, ⟨wd, i11⟩, i12, i13⟩ := hI
  obtain ⟨Ad, sf, ch, bl, v, w, nw, ct, ln, fl, eh, ⟨g0, g1, g2, g3, g4, g5, g6, g7, g8, g9, g10⟩, sk⟩ := i13 h hh
  rw [eh] at g0
  refine kL (As := [.int (nI (h)), .int (nI (0))]) (rest := []) X hW [0, 2, 38 + 11 * h, 38 + 11 * h + 7, 38 + 11 * h + 8, 38 + 11 * h + 9, 38 + 11 * h + 10] (fun sz => c_X4_told_0 l D cy t (a 0) (a 1) (a 2) (a 3) (a 5) (a 7) (a 8) (a 11) (fun i => some (ha i)) h (Ad 1) (ha h) (Ad 7) (Ad 8) (Ad 9) (Ad 10) (md h) (bsO (md h)) 0 (nt h) (clo (nt h)) (hdp (nt h)) (hbk (nt h)) (hib (nt h)) (K h) sf (hcf (K h) (bsO (md h)) (g h) 0 (nt h)) (hbf (g h) (nt h)) rfl hh sz) rfl (And.intro i0 (And.intro i2 (And.intro g0 (And.intro g7 (And.intro g8 (And.intro g9 (And.intro g10 True.intro))))))) (by intro j hj; simp only [List.mem_cons, List.not_mem_nil, or_false] at hj; omega) (by simp only [List.nodup_cons, List.mem_cons, List.not_mem_nil, or_false, not_false_eq_true, List.nodup_nil, and_true]; omega) (cwV 2 X.1.2.2.2.2 gL_law_X4_told rfl rfl rfl (by decide +kernel) ⟨Nat.le_of_ble_eq_true rfl, Nat.le_of_ble_eq_true rfl⟩) (fun _ => rfl) 0 4 rfl rfl rfl hsz rfl (Nat.le_of_ble_eq_true rfl) dL_law_536 hf (fun r9 u9 H1 locs1 F1 hp hE hq hW1 => ?_)
  have hr9 := hp
  replace hr9 : r9 = (md h) := hr9
  subst hr9
  have eF := same_F hq hE rfl (And.intro i0 (And.intro i2 (And.intro g0 (And.intro g7 (And.intro g8 (And.intro g9 (And.intro g10 True.intro)))))))
  rw [eF] at hW1
  exact kk H1 locs1 hW1
set_option maxHeartbeats 4000000 in
theorem x_told_1 (X : LC p m c s D cy t A b L xs) (hI : INVx F cy a ra rb ha cnt f fn0 ff pn pf md K g nt) (hN : INVs cnt fn0 pn md nt) (hW : Wd D A s (LW F) H locs) (hsz : ls.size = 4) (hf : cells ≤ 600000 ∧ slots ≤ 7302250) {h : Nat} (hh : h < 4)  
    (kk : ∀ (H1 : Heap) (locs1 : List Loc), Wd D A s (LW F) H1 locs1 → W p l e room_1 s m #[Value.ref b] below meth c H1 locs1 cells slots Q (F0 m 539 ls (.int (nI ((nt h))) :: []))) : W p l e room_1 s m #[Value.ref b] below meth c H locs cells slots Q (F0 m 536 ls [.int (nI (1)), .int (nI (h)), .ref (a 0)]) := by
  obtain ⟨i0, i1, i2, ⟨i3, i4⟩, ⟨i5, i6⟩, i7, ⟨lv, of, oc, i8, i9, i10⟩, ⟨wd, i11⟩, i12, i13⟩ := hI
  obtain ⟨Ad, sf, ch, bl, v, w, nw, ct, ln, fl, eh, ⟨g0, g1, g2, g3, g4, g5, g6, g7, g8, g9, g10⟩, sk⟩ := i13 h hh
  rw [eh] at g0
  refine kL (As := [.int (nI (h)), .int (nI (1))]) (rest := []) X hW [0, 2, 38 + 11 * h, 38 + 11 * h + 7, 38 + 11 * h + 8, 38 + 11 * h + 9, 38 + 11 * h + 10] (fun sz => c_X4_told_1 l D cy t (a 0) (a 1) (a 2) (a 3) (a 5) (a 7) (a 8) (a 11) (fun i => some (ha i)) h (Ad 1) (ha h) (Ad 7) (Ad 8) (Ad 9) (Ad 10) (md h) (bsO (md h)) 0 (nt h) (clo (nt h)) (hdp (nt h)) (hbk (nt h)) (hib (nt h)) (K h) sf (hcf (K h) (bsO (md h)) (g h) 0 (nt h)) (hbf (g h) (nt h)) rfl hh sz) rfl (And.intro i0 (And.intro i2 (And.intro g0 (And.intro g7 (And.intro g8 (And.intro g9 (And.intro g10 True.intro))))))) (by intro j hj; simp only [List.mem_cons, List.not_mem_nil, or_false] at hj; omega) (by simp only [List.nodup_cons, List.mem_cons, List.not_mem_nil, or_false, not_false_eq_true, List.nodup_nil, and_true]; omega) (cwV 2 X.1.2.2.2.2 gL_law_X4_told rfl rfl rfl (by decide +kernel) ⟨Nat.le_of_ble_eq_true rfl, Nat.le_of_ble_eq_true rfl⟩) (fun _ => rfl) 0 4 rfl rfl rfl hsz rfl (Nat.le_of_ble_eq_true rfl) dL_law_536 hf (fun r9 u9 H1 locs1 F1 hp hE hq hW1 => ?_)
  have hr9 := hp
  replace hr9 : r9 = nI ((nt h)) := hr9
  subst hr9
  have eF := same_F hq hE rfl (And.intro i0 (And.intro i2 (And.intro g0 (And.intro g7 (And.intro g8 (And.intro g9 (And.intro g10 True.intro)))))))
  rw [eF] at hW1
  exact kk H1 locs1 hW1
set_option maxHeartbeats 4000000 in
theorem x_told_2 (X : LC p m c s D cy t A b L xs) (hI : INVx F cy a ra rb ha cnt f fn0 ff pn pf md K g nt) (hN : INVs cnt fn0 pn md nt) (hW : Wd D A s (LW F) H locs) (hsz : ls.size = 4) (hf : cells ≤ 600000 ∧ slots ≤ 7302250) {h : Nat} (hh : h < 4)  
    (kk : ∀ (H1 : Heap) (locs1 : List Loc), Wd D A s (LW F) H1 locs1 → W p l e room_1 s m #[Value.ref b] below meth c H1 locs1 cells slots Q (F0 m 539 ls (.int (nI ((clo (nt h)))) :: []))) : W p l e room_1 s m #[Value.ref b] below meth c H locs cells slots Q (F0 m 536 ls [.int (nI (2)), .int (nI (h)), .ref (a 0)]) := by
  obtain ⟨i0, i1, i2, ⟨i3, i4⟩, ⟨i5, i6⟩, i7, ⟨lv, of, oc, i8, i9, i10⟩, ⟨wd, i11⟩, i12, i13⟩ := hI
  obtain ⟨Ad, sf, ch, bl, v, w, nw, ct, ln, fl, eh, ⟨g0, g1, g2, g3, g4, g5, g6, g7, g8, g9, g10⟩, sk⟩ := i13 h hh
  rw [eh] at g0
  refine kL (As := [.int (nI (h)), .int (nI (2))]) (rest := []) X hW [0, 2, 38 + 11 * h, 38 + 11 * h + 7, 38 + 11 * h + 8, 38 + 11 * h + 9, 38 + 11 * h + 10] (fun sz => c_X4_told_2 l D cy t (a 0) (a 1) (a 2) (a 3) (a 5) (a 7) (a 8) (a 11) (fun i => some (ha i)) h (Ad 1) (ha h) (Ad 7) (Ad 8) (Ad 9) (Ad 10) (md h) (bsO (md h)) 0 (nt h) (clo (nt h)) (hdp (nt h)) (hbk (nt h)) (hib (nt h)) (K h) sf (hcf (K h) (bsO (md h)) (g h) 0 (nt h)) (hbf (g h) (nt h)) rfl hh sz) rfl (And.intro i0 (And.intro i2 (And.intro g0 (And.intro g7 (And.intro g8 (And.intro g9 (And.intro g10 True.intro))))))) (by intro j hj; simp only [List.mem_cons, List.not_mem_nil, or_false] at hj; omega) (by simp only [List.nodup_cons, List.mem_cons, List.not_mem_nil, or_false, not_false_eq_true, List.nodup_nil, and_true]; omega) (cwV 2 X.1.2.2.2.2 gL_law_X4_told rfl rfl rfl (by decide +kernel) ⟨Nat.le_of_ble_eq_true rfl, Nat.le_of_ble_eq_true rfl⟩) (fun _ => rfl) 0 4 rfl rfl rfl hsz rfl (Nat.le_of_ble_eq_true rfl) dL_law_536 hf (fun r9 u9 H1 locs1 F1 hp hE hq hW1 => ?_)
  have hr9 := hp
  replace hr9 : r9 = nI ((clo (nt h))) := hr9
  subst hr9
  have eF := same_F hq hE rfl (And.intro i0 (And.intro i2 (And.intro g0 (And.intro g7 (And.intro g8 (And.intro g9 (And.intro g10 True.intro)))))))
  rw [eF] at hW1
  exact kk H1 locs1 hW1
set_option maxHeartbeats 4000000 in
theorem x_told_3 (X : LC p m c s D cy t A b L xs) (hI : INVx F cy a ra rb ha cnt f fn0 ff pn pf md K g nt) (hN : INVs cnt fn0 pn md nt) (hW : Wd D A s (LW F) H locs) (hsz : ls.size = 4) (hf : cells ≤ 600000 ∧ slots ≤ 7302250) {h : Nat} (hh : h < 4)  
    (kk : ∀ (H1 : Heap) (locs1 : List Loc), Wd D A s (LW F) H1 locs1 → W p l e room_1 s m #[Value.ref b] below meth c H1 locs1 cells slots Q (F0 m 539 ls (.int (nI ((hdp (nt h)))) :: []))) : W p l e room_1 s m #[Value.ref b] below meth c H locs cells slots Q (F0 m 536 ls [.int (nI (3)), .int (nI (h)), .ref (a 0)]) := by
  obtain ⟨i0, i1, i2, ⟨i3, i4⟩, ⟨i5, i6⟩, i7, ⟨lv, of, oc, i8, i9, i10⟩, ⟨wd, i11⟩, i12, i13⟩ := hI
  obtain ⟨Ad, sf, ch, bl, v, w, nw, ct, ln, fl, eh, ⟨g0, g1, g2, g3, g4, g5, g6, g7, g8, g9, g10⟩, sk⟩ := i13 h hh
  rw [eh] at g0
  refine kL (As := [.int (nI (h)), .int (nI (3))]) (rest := []) X hW [0, 2, 38 + 11 * h, 38 + 11 * h + 7, 38 + 11 * h + 8, 38 + 11 * h + 9, 38 + 11 * h + 10] (fun sz => c_X4_told_3 l D cy t (a 0) (a 1) (a 2) (a 3) (a 5) (a 7) (a 8) (a 11) (fun i => some (ha i)) h (Ad 1) (ha h) (Ad 7) (Ad 8) (Ad 9) (Ad 10) (md h) (bsO (md h)) 0 (nt h) (clo (nt h)) (hdp (nt h)) (hbk (nt h)) (hib (nt h)) (K h) sf (hcf (K h) (bsO (md h)) (g h) 0 (nt h)) (hbf (g h) (nt h)) rfl hh sz) rfl (And.intro i0 (And.intro i2 (And.intro g0 (And.intro g7 (And.intro g8 (And.intro g9 (And.intro g10 True.intro))))))) (by intro j hj; simp only [List.mem_cons, List.not_mem_nil, or_false] at hj; omega) (by simp only [List.nodup_cons, List.mem_cons, List.not_mem_nil, or_false, not_false_eq_true, List.nodup_nil, and_true]; omega) (cwV 2 X.1.2.2.2.2 gL_law_X4_told rfl rfl rfl (by decide +kernel) ⟨Nat.le_of_ble_eq_true rfl, Nat.le_of_ble_eq_true rfl⟩) (fun _ => rfl) 0 4 rfl rfl rfl hsz rfl (Nat.le_of_ble_eq_true rfl) dL_law_536 hf (fun r9 u9 H1 locs1 F1 hp hE hq hW1 => ?_)
  have hr9 := hp
  replace hr9 : r9 = nI ((hdp (nt h))) := hr9
  subst hr9
  have eF := same_F hq hE rfl (And.intro i0 (And.intro i2 (And.intro g0 (And.intro g7 (And.intro g8 (And.intro g9 (And.intro g10 True.intro)))))))
  rw [eF] at hW1
  exact kk H1 locs1 hW1
set_option maxHeartbeats 4000000 in
theorem x_told_4 (X : LC p m c s D cy t A b L xs) (hI : INVx F cy a ra rb ha cnt f fn0 ff pn pf md K g nt) (hN : INVs cnt fn0 pn md nt) (hW : Wd D A s (LW F) H locs) (hsz : ls.size = 4) (hf : cells ≤ 600000 ∧ slots ≤ 7302250) {h : Nat} (hh : h < 4)  
    (kk : ∀ (H1 : Heap) (locs1 : List Loc), Wd D A s (LW F) H1 locs1 → W p l e room_1 s m #[Value.ref b] below meth c H1 locs1 cells slots Q (F0 m 539 ls (.int (nI ((hbk (nt h)) * 64 + (hib (nt h)))) :: []))) : W p l e room_1 s m #[Value.ref b] below meth c H locs cells slots Q (F0 m 536 ls [.int (nI (4)), .int (nI (h)), .ref (a 0)]) := by
  obtain ⟨i0, i1, i2, ⟨i3, i4⟩, ⟨i5, i6⟩, i7, ⟨lv, of, oc, i8, i9, i10⟩, ⟨wd, i11⟩, i12, i13⟩ := hI
  obtain ⟨Ad, sf, ch, bl, v, w, nw, ct, ln, fl, eh, ⟨g0, g1, g2, g3, g4, g5, g6, g7, g8, g9, g10⟩, sk⟩ := i13 h hh
  rw [eh] at g0
  refine kL (As := [.int (nI (h)), .int (nI (4))]) (rest := []) X hW [0, 2, 38 + 11 * h, 38 + 11 * h + 7, 38 + 11 * h + 8, 38 + 11 * h + 9, 38 + 11 * h + 10] (fun sz => c_X4_told_4 l D cy t (a 0) (a 1) (a 2) (a 3) (a 5) (a 7) (a 8) (a 11) (fun i => some (ha i)) h (Ad 1) (ha h) (Ad 7) (Ad 8) (Ad 9) (Ad 10) (md h) (bsO (md h)) 0 (nt h) (clo (nt h)) (hdp (nt h)) (hbk (nt h)) (hib (nt h)) (K h) sf (hcf (K h) (bsO (md h)) (g h) 0 (nt h)) (hbf (g h) (nt h)) rfl hh sz) rfl (And.intro i0 (And.intro i2 (And.intro g0 (And.intro g7 (And.intro g8 (And.intro g9 (And.intro g10 True.intro))))))) (by intro j hj; simp only [List.mem_cons, List.not_mem_nil, or_false] at hj; omega) (by simp only [List.nodup_cons, List.mem_cons, List.not_mem_nil, or_false, not_false_eq_true, List.nodup_nil, and_true]; omega) (cwV 2 X.1.2.2.2.2 gL_law_X4_told rfl rfl rfl (by decide +kernel) ⟨Nat.le_of_ble_eq_true rfl, Nat.le_of_ble_eq_true rfl⟩) (fun _ => rfl) 0 4 rfl rfl rfl hsz rfl (Nat.le_of_ble_eq_true rfl) dL_law_536 hf (fun r9 u9 H1 locs1 F1 hp hE hq hW1 => ?_)
  have hr9 := hp
  replace hr9 : r9 = nI ((hbk (nt h)) * 64 + (hib (nt h))) := hr9
  subst hr9
  have eF := same_F hq hE rfl (And.intro i0 (And.intro i2 (And.intro g0 (And.intro g7 (And.intro g8 (And.intro g9 (And.intro g10 True.intro)))))))
  rw [eF] at hW1
  exact kk H1 locs1 hW1
set_option maxHeartbeats 4000000 in
theorem x_told_o (X : LC p m c s D cy t A b L xs) (hI : INVx F cy a ra rb ha cnt f fn0 ff pn pf md K g nt) (hN : INVs cnt fn0 pn md nt) (hW : Wd D A s (LW F) H locs) (hsz : ls.size = 4) (hf : cells ≤ 600000 ∧ slots ≤ 7302250) {h : Nat} (hh : h < 4) (y9 : Int32) (y_hout : y9.toInt < 0 ∨ 4 < y9.toInt)
    (kk : ∀ (H1 : Heap) (locs1 : List Loc), Wd D A s (LW F) H1 locs1 → W p l e room_1 s m #[Value.ref b] below meth c H1 locs1 cells slots Q (F0 m 539 ls (.int ((-2 : Int32)) :: []))) : W p l e room_1 s m #[Value.ref b] below meth c H locs cells slots Q (F0 m 536 ls [.int (y9), .int (nI (h)), .ref (a 0)]) := by
  obtain ⟨i0, i1, i2, ⟨i3, i4⟩, ⟨i5, i6⟩, i7, ⟨lv, of, oc, i8, i9, i10⟩, ⟨wd, i11⟩, i12, i13⟩ := hI
  obtain ⟨Ad, sf, ch, bl, v, w, nw, ct, ln, fl, eh, ⟨g0, g1, g2, g3, g4, g5, g6, g7, g8, g9, g10⟩, sk⟩ := i13 h hh
  rw [eh] at g0
  refine kL (As := [.int (nI (h)), .int (y9)]) (rest := []) X hW [0, 2, 38 + 11 * h, 38 + 11 * h + 7, 38 + 11 * h + 8, 38 + 11 * h + 9, 38 + 11 * h + 10] (fun sz => c_X4_told_o l D cy t (a 0) (a 1) (a 2) (a 3) (a 5) (a 7) (a 8) (a 11) (fun i => some (ha i)) h (Ad 1) (ha h) (Ad 7) (Ad 8) (Ad 9) (Ad 10) (md h) (bsO (md h)) 0 (nt h) (clo (nt h)) (hdp (nt h)) (hbk (nt h)) (hib (nt h)) (K h) sf (hcf (K h) (bsO (md h)) (g h) 0 (nt h)) (hbf (g h) (nt h)) y9 rfl hh y_hout sz) rfl (And.intro i0 (And.intro i2 (And.intro g0 (And.intro g7 (And.intro g8 (And.intro g9 (And.intro g10 True.intro))))))) (by intro j hj; simp only [List.mem_cons, List.not_mem_nil, or_false] at hj; omega) (by simp only [List.nodup_cons, List.mem_cons, List.not_mem_nil, or_false, not_false_eq_true, List.nodup_nil, and_true]; omega) (cwV 2 X.1.2.2.2.2 gL_law_X4_told rfl rfl rfl (by decide +kernel) ⟨Nat.le_of_ble_eq_true rfl, Nat.le_of_ble_eq_true rfl⟩) (fun _ => rfl) 0 4 rfl rfl rfl hsz rfl (Nat.le_of_ble_eq_true rfl) dL_law_536 hf (fun r9 u9 H1 locs1 F1 hp hE hq hW1 => ?_)
  have hr9 := hp
  replace hr9 : r9 = (-2 : Int32) := hr9
  subst hr9
  have eF := same_F hq hE rfl (And.intro i0 (And.intro i2 (And.intro g0 (And.intro g7 (And.intro g8 (And.intro g9 (And.intro g10 True.intro)))))))
  rw [eF] at hW1
  exact kk H1 locs1 hW1
set_option maxHeartbeats 4000000 in
theorem x_chain_b (X : LC p m c s D cy t A b L xs) (hI : INVx F cy a ra rb ha cnt f fn0 ff pn pf md K g nt) (hN : INVs cnt fn0 pn md nt) (hW : Wd D A s (LW F) H locs) (hsz : ls.size = 4) (hf : cells ≤ 600000 ∧ slots ≤ 7302250)  (x9 : Int32) (y9 : Int32) (z9 : Int32) (y_hbd : x9 < 0 ∨ nI 4 ≤ x9)
    (kk : ∀ (H1 : Heap) (locs1 : List Loc), Wd D A s (LW F) H1 locs1 → W p l e room_1 s m #[Value.ref b] below meth c H1 locs1 cells slots Q (F0 m 577 ls (.int ((-2 : Int32)) :: []))) : W p l e room_1 s m #[Value.ref b] below meth c H locs cells slots Q (F0 m 574 ls [.int (z9), .int (y9), .int (x9), .ref (a 0)]) := by
  obtain ⟨i0, i1, i2, ⟨i3, i4⟩, ⟨i5, i6⟩, i7, ⟨lv, of, oc, i8, i9, i10⟩, ⟨wd, i11⟩, i12, i13⟩ := hI
  refine kL (As := [.int (x9), .int (y9), .int (z9)]) (rest := []) X hW [0] (fun sz => c_X4_chain_b l D cy t (a 0) (a 1) (a 2) (a 3) (a 5) (a 7) (a 8) (a 11) x9 y9 z9 y_hbd sz) rfl (And.intro i0 True.intro) (by decide) (by decide) (cwV 3 X.1.2.2.2.2 gL_law_X4_chain rfl rfl rfl (by decide +kernel) ⟨Nat.le_of_ble_eq_true rfl, Nat.le_of_ble_eq_true rfl⟩) (fun _ => rfl) 0 4 rfl rfl rfl hsz rfl (Nat.le_of_ble_eq_true rfl) dL_law_574 hf (fun r9 u9 H1 locs1 F1 hp hE hq hW1 => ?_)
  have hr9 := hp
  replace hr9 : r9 = (-2 : Int32) := hr9
  subst hr9
  have eF := same_F hq hE rfl (And.intro i0 True.intro)
  rw [eF] at hW1
  exact kk H1 locs1 hW1
set_option maxHeartbeats 4000000 in
theorem x_copy_b (X : LC p m c s D cy t A b L xs) (hI : INVx F cy a ra rb ha cnt f fn0 ff pn pf md K g nt) (hN : INVs cnt fn0 pn md nt) (hW : Wd D A s (LW F) H locs) (hsz : ls.size = 4) (hf : cells ≤ 600000 ∧ slots ≤ 7302250)  (x9 : Int32) (y9 : Int32) (y_hbd : x9 < 0 ∨ nI 4 ≤ x9)
    (kk : ∀ (H1 : Heap) (locs1 : List Loc), Wd D A s (LW F) H1 locs1 → W p l e room_1 s m #[Value.ref b] below meth c H1 locs1 cells slots Q (F0 m 506 ls (.int ((-2 : Int32)) :: []))) : W p l e room_1 s m #[Value.ref b] below meth c H locs cells slots Q (F0 m 503 ls [.int (y9), .int (x9), .ref (a 0)]) := by
  obtain ⟨i0, i1, i2, ⟨i3, i4⟩, ⟨i5, i6⟩, i7, ⟨lv, of, oc, i8, i9, i10⟩, ⟨wd, i11⟩, i12, i13⟩ := hI
  refine kL (As := [.int (x9), .int (y9)]) (rest := []) X hW [0] (fun sz => c_X4_copy_b l D cy t (a 0) (a 1) (a 2) (a 3) (a 5) (a 7) (a 8) (a 11) x9 y9 y_hbd sz) rfl (And.intro i0 True.intro) (by decide) (by decide) (cwV 2 X.1.2.2.2.2 gL_law_X4_copy rfl rfl rfl (by decide +kernel) ⟨Nat.le_of_ble_eq_true rfl, Nat.le_of_ble_eq_true rfl⟩) (fun _ => rfl) 0 4 rfl rfl rfl hsz rfl (Nat.le_of_ble_eq_true rfl) dL_law_503 hf (fun r9 u9 H1 locs1 F1 hp hE hq hW1 => ?_)
  have hr9 := hp
  replace hr9 : r9 = (-2 : Int32) := hr9
  subst hr9
  have eF := same_F hq hE rfl (And.intro i0 True.intro)
  rw [eF] at hW1
  exact kk H1 locs1 hW1
set_option maxHeartbeats 4000000 in
theorem x_copy_b2 (X : LC p m c s D cy t A b L xs) (hI : INVx F cy a ra rb ha cnt f fn0 ff pn pf md K g nt) (hN : INVs cnt fn0 pn md nt) (hW : Wd D A s (LW F) H locs) (hsz : ls.size = 4) (hf : cells ≤ 600000 ∧ slots ≤ 7302250) {h : Nat} (hh : h < 4) (x9 : Int32) (y_hbd : x9 < 0 ∨ nI 4 ≤ x9)
    (kk : ∀ (H1 : Heap) (locs1 : List Loc), Wd D A s (LW F) H1 locs1 → W p l e room_1 s m #[Value.ref b] below meth c H1 locs1 cells slots Q (F0 m 506 ls (.int ((-2 : Int32)) :: []))) : W p l e room_1 s m #[Value.ref b] below meth c H locs cells slots Q (F0 m 503 ls [.int (x9), .int (nI (h)), .ref (a 0)]) := by
  obtain ⟨i0, i1, i2, ⟨i3, i4⟩, ⟨i5, i6⟩, i7, ⟨lv, of, oc, i8, i9, i10⟩, ⟨wd, i11⟩, i12, i13⟩ := hI
  obtain ⟨Ad, sf, ch, bl, v, w, nw, ct, ln, fl, eh, ⟨g0, g1, g2, g3, g4, g5, g6, g7, g8, g9, g10⟩, sk⟩ := i13 h hh
  rw [eh] at g0
  refine kL (As := [.int (nI (h)), .int (x9)]) (rest := []) X hW [0, 2, 38 + 11 * h, 38 + 11 * h + 7, 38 + 11 * h + 8, 38 + 11 * h + 9, 38 + 11 * h + 10] (fun sz => c_X4_copy_b2 l D cy t (a 0) (a 1) (a 2) (a 3) (a 5) (a 7) (a 8) (a 11) (fun i => some (ha i)) h (Ad 1) (ha h) (Ad 7) (Ad 8) (Ad 9) (Ad 10) (md h) (bsO (md h)) 0 (nt h) (clo (nt h)) (hdp (nt h)) (hbk (nt h)) (hib (nt h)) (K h) sf (hcf (K h) (bsO (md h)) (g h) 0 (nt h)) (hbf (g h) (nt h)) x9 rfl hh y_hbd sz) rfl (And.intro i0 (And.intro i2 (And.intro g0 (And.intro g7 (And.intro g8 (And.intro g9 (And.intro g10 True.intro))))))) (by intro j hj; simp only [List.mem_cons, List.not_mem_nil, or_false] at hj; omega) (by simp only [List.nodup_cons, List.mem_cons, List.not_mem_nil, or_false, not_false_eq_true, List.nodup_nil, and_true]; omega) (cwV 2 X.1.2.2.2.2 gL_law_X4_copy rfl rfl rfl (by decide +kernel) ⟨Nat.le_of_ble_eq_true rfl, Nat.le_of_ble_eq_true rfl⟩) (fun _ => rfl) 0 4 rfl rfl rfl hsz rfl (Nat.le_of_ble_eq_true rfl) dL_law_503 hf (fun r9 u9 H1 locs1 F1 hp hE hq hW1 => ?_)
  have hr9 := hp
  replace hr9 : r9 = (-2 : Int32) := hr9
  subst hr9
  have eF := same_F hq hE rfl (And.intro i0 (And.intro i2 (And.intro g0 (And.intro g7 (And.intro g8 (And.intro g9 (And.intro g10 True.intro)))))))
  rw [eF] at hW1
  exact kk H1 locs1 hW1
set_option maxHeartbeats 4000000 in
theorem x_copy_a (X : LC p m c s D cy t A b L xs) (hI : INVx F cy a ra rb ha cnt f fn0 ff pn pf md K g nt) (hN : INVs cnt fn0 pn md nt) (hW : Wd D A s (LW F) H locs) (hsz : ls.size = 4) (hf : cells ≤ 600000 ∧ slots ≤ 7302250) {h : Nat} (hh : h < 4)  
    (kk : ∀ (H1 : Heap) (locs1 : List Loc), Wd D A s (LW F) H1 locs1 → W p l e room_1 s m #[Value.ref b] below meth c H1 locs1 cells slots Q (F0 m 506 ls (.int (nI ((nt h))) :: []))) : W p l e room_1 s m #[Value.ref b] below meth c H locs cells slots Q (F0 m 503 ls [.int (nI (h)), .int (nI (h)), .ref (a 0)]) := by
  obtain ⟨i0, i1, i2, ⟨i3, i4⟩, ⟨i5, i6⟩, i7, ⟨lv, of, oc, i8, i9, i10⟩, ⟨wd, i11⟩, i12, i13⟩ := hI
  obtain ⟨Ad, sf, ch, bl, v, w, nw, ct, ln, fl, eh, ⟨g0, g1, g2, g3, g4, g5, g6, g7, g8, g9, g10⟩, sk⟩ := i13 h hh
  rw [eh] at g0
  refine kL (As := [.int (nI (h)), .int (nI (h))]) (rest := []) X hW [0, 2, 38 + 11 * h, 38 + 11 * h + 7, 38 + 11 * h + 8, 38 + 11 * h + 9, 38 + 11 * h + 10] (fun sz => c_X4_copy_a l D cy t (a 0) (a 1) (a 2) (a 3) (a 5) (a 7) (a 8) (a 11) (fun i => some (ha i)) h (Ad 1) (ha h) (Ad 7) (Ad 8) (Ad 9) (Ad 10) (md h) (bsO (md h)) 0 (nt h) (clo (nt h)) (hdp (nt h)) (hbk (nt h)) (hib (nt h)) (K h) sf (hcf (K h) (bsO (md h)) (g h) 0 (nt h)) (hbf (g h) (nt h)) rfl hh sz) rfl (And.intro i0 (And.intro i2 (And.intro g0 (And.intro g7 (And.intro g8 (And.intro g9 (And.intro g10 True.intro))))))) (by intro j hj; simp only [List.mem_cons, List.not_mem_nil, or_false] at hj; omega) (by simp only [List.nodup_cons, List.mem_cons, List.not_mem_nil, or_false, not_false_eq_true, List.nodup_nil, and_true]; omega) (cwV 2 X.1.2.2.2.2 gL_law_X4_copy rfl rfl rfl (by decide +kernel) ⟨Nat.le_of_ble_eq_true rfl, Nat.le_of_ble_eq_true rfl⟩) (fun _ => rfl) 0 4 rfl rfl rfl hsz rfl (Nat.le_of_ble_eq_true rfl) dL_law_503 hf (fun r9 u9 H1 locs1 F1 hp hE hq hW1 => ?_)
  have hr9 := hp
  replace hr9 : r9 = nI ((nt h)) := hr9
  subst hr9
  have eF := same_F hq hE rfl (And.intro i0 (And.intro i2 (And.intro g0 (And.intro g7 (And.intro g8 (And.intro g9 (And.intro g10 True.intro)))))))
  rw [eF] at hW1
  exact kk H1 locs1 hW1
set_option maxHeartbeats 4000000 in
theorem x_begin_b (X : LC p m c s D cy t A b L xs) (hI : INVx F cy a ra rb ha cnt f fn0 ff pn pf md K g nt) (hN : INVs cnt fn0 pn md nt) (hW : Wd D A s (LW F) H locs) (hsz : ls.size = 4) (hf : cells ≤ 600000 ∧ slots ≤ 7302250)  (x9 : Int32) (y9 : Int32) (z9 : Int32) (y_hbd : x9 < 0 ∨ nI 4 ≤ x9)
    (kk : ∀ (H1 : Heap) (locs1 : List Loc), Wd D A s (LW F) H1 locs1 → W p l e room_1 s m #[Value.ref b] below meth c H1 locs1 cells slots Q (F0 m 299 ls (.int ((-2 : Int32)) :: []))) : W p l e room_1 s m #[Value.ref b] below meth c H locs cells slots Q (F0 m 296 ls [.int (z9), .int (y9), .int (x9), .ref (a 0)]) := by
  obtain ⟨i0, i1, i2, ⟨i3, i4⟩, ⟨i5, i6⟩, i7, ⟨lv, of, oc, i8, i9, i10⟩, ⟨wd, i11⟩, i12, i13⟩ := hI
  refine kL (As := [.int (x9), .int (y9), .int (z9)]) (rest := []) X hW [0] (fun sz => c_X4_begin_b l D cy t (a 0) (a 1) (a 2) (a 3) (a 5) (a 7) (a 8) (a 11) x9 y9 z9 y_hbd sz) rfl (And.intro i0 True.intro) (by decide) (by decide) (cwV 3 X.1.2.2.2.2 gL_law_X4_begin rfl rfl rfl (by decide +kernel) ⟨Nat.le_of_ble_eq_true rfl, Nat.le_of_ble_eq_true rfl⟩) (fun _ => rfl) 0 4 rfl rfl rfl hsz rfl (Nat.le_of_ble_eq_true rfl) dL_law_296 hf (fun r9 u9 H1 locs1 F1 hp hE hq hW1 => ?_)
  have hr9 := hp
  replace hr9 : r9 = (-2 : Int32) := hr9
  subst hr9
  have eF := same_F hq hE rfl (And.intro i0 True.intro)
  rw [eF] at hW1
  exact kk H1 locs1 hW1
set_option maxHeartbeats 4000000 in
theorem x_begin_br (X : LC p m c s D cy t A b L xs) (hI : INVx F cy a ra rb ha cnt f fn0 ff pn pf md K g nt) (hN : INVs cnt fn0 pn md nt) (hW : Wd D A s (LW F) H locs) (hsz : ls.size = 4) (hf : cells ≤ 600000 ∧ slots ≤ 7302250) {h : Nat} (hh : h < 4) (x9 : Int32) (y9 : Int32) (y_hy0 : ¬ y9 = 0) (y_hbd : x9 < 0 ∨ nI 8 ≤ x9)
    (kk : ∀ (H1 : Heap) (locs1 : List Loc), Wd D A s (LW F) H1 locs1 → W p l e room_1 s m #[Value.ref b] below meth c H1 locs1 cells slots Q (F0 m 299 ls (.int ((-2 : Int32)) :: []))) : W p l e room_1 s m #[Value.ref b] below meth c H locs cells slots Q (F0 m 296 ls [.int (x9), .int (y9), .int (nI (h)), .ref (a 0)]) := by
  obtain ⟨i0, i1, i2, ⟨i3, i4⟩, ⟨i5, i6⟩, i7, ⟨lv, of, oc, i8, i9, i10⟩, ⟨wd, i11⟩, i12, i13⟩ := hI
  obtain ⟨Ad, sf, ch, bl, v, w, nw, ct, ln, fl, eh, ⟨g0, g1, g2, g3, g4, g5, g6, g7, g8, g9, g10⟩, sk⟩ := i13 h hh
  rw [eh] at g0
  refine kL (As := [.int (nI (h)), .int (y9), .int (x9)]) (rest := []) X hW [0, 2, 38 + 11 * h, 38 + 11 * h + 7, 38 + 11 * h + 9, 38 + 11 * h + 10] (fun sz => c_X4_begin_br l D cy t (a 0) (a 1) (a 2) (a 3) (a 5) (a 7) (a 8) (a 11) (fun i => some (ha i)) h (Ad 1) (ha h) (Ad 7) (Ad 8) (Ad 9) (Ad 10) (md h) (bsO (md h)) 0 (nt h) (clo (nt h)) (hdp (nt h)) (hbk (nt h)) (hib (nt h)) (K h) (hcf (K h) (bsO (md h)) (g h) 0 (nt h)) (hbf (g h) (nt h)) x9 y9 rfl hh y_hy0 y_hbd sz) rfl (And.intro i0 (And.intro i2 (And.intro g0 (And.intro g7 (And.intro g9 (And.intro g10 True.intro)))))) (by intro j hj; simp only [List.mem_cons, List.not_mem_nil, or_false] at hj; omega) (by simp only [List.nodup_cons, List.mem_cons, List.not_mem_nil, or_false, not_false_eq_true, List.nodup_nil, and_true]; omega) (cwV 3 X.1.2.2.2.2 gL_law_X4_begin rfl rfl rfl (by decide +kernel) ⟨Nat.le_of_ble_eq_true rfl, Nat.le_of_ble_eq_true rfl⟩) (fun _ => rfl) 0 4 rfl rfl rfl hsz rfl (Nat.le_of_ble_eq_true rfl) dL_law_296 hf (fun r9 u9 H1 locs1 F1 hp hE hq hW1 => ?_)
  have hr9 := hp
  replace hr9 : r9 = (-2 : Int32) := hr9
  subst hr9
  have eF := same_F hq hE rfl (And.intro i0 (And.intro i2 (And.intro g0 (And.intro g7 (And.intro g9 (And.intro g10 True.intro))))))
  rw [eF] at hW1
  exact kk H1 locs1 hW1
set_option maxHeartbeats 4000000 in
theorem x_begin_1b (X : LC p m c s D cy t A b L xs) (hI : INVx F cy a ra rb ha cnt f fn0 ff pn pf md K g nt) (hN : INVs cnt fn0 pn md nt) (hW : Wd D A s (LW F) H locs) (hsz : ls.size = 4) (hf : cells ≤ 600000 ∧ slots ≤ 7302250) {r : Nat} (hr : r < 8) {h : Nat} (hh : h < 4)  (y_hc : (cnt r) ≤ 200) (y_h32 : (cnt r) ≠ 32)
    (kk : ∀ (H1 : Heap) (locs1 : List Loc), Wd D A s (LW F) H1 locs1 → W p l e room_1 s m #[Value.ref b] below meth c H1 locs1 cells slots Q (F0 m 299 ls (.int ((-2 : Int32)) :: []))) : W p l e room_1 s m #[Value.ref b] below meth c H locs cells slots Q (F0 m 296 ls [.int (nI (r)), .int (nI (1)), .int (nI (h)), .ref (a 0)]) := by
  obtain ⟨i0, i1, i2, ⟨i3, i4⟩, ⟨i5, i6⟩, i7, ⟨lv, of, oc, i8, i9, i10⟩, ⟨wd, i11⟩, i12, i13⟩ := hI
  obtain ⟨Ad, sf, ch, bl, v, w, nw, ct, ln, fl, eh, ⟨g0, g1, g2, g3, g4, g5, g6, g7, g8, g9, g10⟩, sk⟩ := i13 h hh
  rw [eh] at g0
  refine kL (As := [.int (nI (h)), .int (nI (1)), .int (nI (r))]) (rest := []) X hW [0, 2, 38 + 11 * h, 38 + 11 * h + 7, 38 + 11 * h + 9, 38 + 11 * h + 10, 1, 22 + 2 * r, 23 + 2 * r] (fun sz => c_X4_begin_1b l D cy t (a 0) (a 1) (a 2) (a 3) (a 5) (a 7) (a 8) (a 11) (fun i => some (ha i)) h (Ad 1) (ha h) (Ad 7) (Ad 8) (Ad 9) (Ad 10) (md h) (bsO (md h)) 0 (nt h) (clo (nt h)) (hdp (nt h)) (hbk (nt h)) (hib (nt h)) (K h) (hcf (K h) (bsO (md h)) (g h) 0 (nt h)) (hbf (g h) (nt h)) (fun i => some (ra i)) r (ra r) (rb r) (cnt r) (f r) rfl hh rfl hr y_hc y_h32 sz) rfl (And.intro i0 (And.intro i2 (And.intro g0 (And.intro g7 (And.intro g9 (And.intro g10 (And.intro i1 (And.intro ((i12 r hr).1) (And.intro ((i12 r hr).2) True.intro))))))))) (by intro j hj; simp only [List.mem_cons, List.not_mem_nil, or_false] at hj; omega) (by simp only [List.nodup_cons, List.mem_cons, List.not_mem_nil, or_false, not_false_eq_true, List.nodup_nil, and_true]; omega) (cwV 3 X.1.2.2.2.2 gL_law_X4_begin rfl rfl rfl (by decide +kernel) ⟨Nat.le_of_ble_eq_true rfl, Nat.le_of_ble_eq_true rfl⟩) (fun _ => rfl) 0 4 rfl rfl rfl hsz rfl (Nat.le_of_ble_eq_true rfl) dL_law_296 hf (fun r9 u9 H1 locs1 F1 hp hE hq hW1 => ?_)
  have hr9 := hp
  replace hr9 : r9 = (-2 : Int32) := hr9
  subst hr9
  have eF := same_F hq hE rfl (And.intro i0 (And.intro i2 (And.intro g0 (And.intro g7 (And.intro g9 (And.intro g10 (And.intro i1 (And.intro ((i12 r hr).1) (And.intro ((i12 r hr).2) True.intro)))))))))
  rw [eF] at hW1
  exact kk H1 locs1 hW1
set_option maxHeartbeats 4000000 in
theorem x_begin_bm (X : LC p m c s D cy t A b L xs) (hI : INVx F cy a ra rb ha cnt f fn0 ff pn pf md K g nt) (hN : INVs cnt fn0 pn md nt) (hW : Wd D A s (LW F) H locs) (hsz : ls.size = 4) (hf : cells ≤ 600000 ∧ slots ≤ 7302250) {r : Nat} (hr : r < 8) {h : Nat} (hh : h < 4) (y9 : Int32) (y_hc : (cnt r) ≤ 200) (y_hy0 : ¬ y9 = 0) (y_hy1 : ¬ y9 = nI 1) (y_hy2 : ¬ y9 = nI 2)
    (kk : ∀ (H1 : Heap) (locs1 : List Loc), Wd D A s (LW F) H1 locs1 → W p l e room_1 s m #[Value.ref b] below meth c H1 locs1 cells slots Q (F0 m 299 ls (.int ((-2 : Int32)) :: []))) : W p l e room_1 s m #[Value.ref b] below meth c H locs cells slots Q (F0 m 296 ls [.int (nI (r)), .int (y9), .int (nI (h)), .ref (a 0)]) := by
  obtain ⟨i0, i1, i2, ⟨i3, i4⟩, ⟨i5, i6⟩, i7, ⟨lv, of, oc, i8, i9, i10⟩, ⟨wd, i11⟩, i12, i13⟩ := hI
  obtain ⟨Ad, sf, ch, bl, v, w, nw, ct, ln, fl, eh, ⟨g0, g1, g2, g3, g4, g5, g6, g7, g8, g9, g10⟩, sk⟩ := i13 h hh
  rw [eh] at g0
  refine kL (As := [.int (nI (h)), .int (y9), .int (nI (r))]) (rest := []) X hW [0, 2, 38 + 11 * h, 38 + 11 * h + 7, 38 + 11 * h + 9, 38 + 11 * h + 10, 1, 22 + 2 * r, 23 + 2 * r] (fun sz => c_X4_begin_bm l D cy t (a 0) (a 1) (a 2) (a 3) (a 5) (a 7) (a 8) (a 11) (fun i => some (ha i)) h (Ad 1) (ha h) (Ad 7) (Ad 8) (Ad 9) (Ad 10) (md h) (bsO (md h)) 0 (nt h) (clo (nt h)) (hdp (nt h)) (hbk (nt h)) (hib (nt h)) (K h) (hcf (K h) (bsO (md h)) (g h) 0 (nt h)) (hbf (g h) (nt h)) (fun i => some (ra i)) r (ra r) (rb r) (cnt r) (f r) y9 rfl hh rfl hr y_hc y_hy0 y_hy1 y_hy2 sz) rfl (And.intro i0 (And.intro i2 (And.intro g0 (And.intro g7 (And.intro g9 (And.intro g10 (And.intro i1 (And.intro ((i12 r hr).1) (And.intro ((i12 r hr).2) True.intro))))))))) (by intro j hj; simp only [List.mem_cons, List.not_mem_nil, or_false] at hj; omega) (by simp only [List.nodup_cons, List.mem_cons, List.not_mem_nil, or_false, not_false_eq_true, List.nodup_nil, and_true]; omega) (cwV 3 X.1.2.2.2.2 gL_law_X4_begin rfl rfl rfl (by decide +kernel) ⟨Nat.le_of_ble_eq_true rfl, Nat.le_of_ble_eq_true rfl⟩) (fun _ => rfl) 0 4 rfl rfl rfl hsz rfl (Nat.le_of_ble_eq_true rfl) dL_law_296 hf (fun r9 u9 H1 locs1 F1 hp hE hq hW1 => ?_)
  have hr9 := hp
  replace hr9 : r9 = (-2 : Int32) := hr9
  subst hr9
  have eF := same_F hq hE rfl (And.intro i0 (And.intro i2 (And.intro g0 (And.intro g7 (And.intro g9 (And.intro g10 (And.intro i1 (And.intro ((i12 r hr).1) (And.intro ((i12 r hr).2) True.intro)))))))))
  rw [eF] at hW1
  exact kk H1 locs1 hW1
set_option maxHeartbeats 4000000 in
theorem x_take_b (X : LC p m c s D cy t A b L xs) (hI : INVx F cy a ra rb ha cnt f fn0 ff pn pf md K g nt) (hN : INVs cnt fn0 pn md nt) (hW : Wd D A s (LW F) H locs) (hsz : ls.size = 4) (hf : cells ≤ 600000 ∧ slots ≤ 7302250)  (x9 : Int32) (y9 : Int32) (y_hbd : x9 < 0 ∨ nI 4 ≤ x9)
    (kk : ∀ (H1 : Heap) (locs1 : List Loc), Wd D A s (LW F) H1 locs1 → W p l e room_1 s m #[Value.ref b] below meth c H1 locs1 cells slots Q (F0 m 337 ls (.int ((-2 : Int32)) :: []))) : W p l e room_1 s m #[Value.ref b] below meth c H locs cells slots Q (F0 m 334 ls [.int (y9), .int (x9), .ref (a 0)]) := by
  obtain ⟨i0, i1, i2, ⟨i3, i4⟩, ⟨i5, i6⟩, i7, ⟨lv, of, oc, i8, i9, i10⟩, ⟨wd, i11⟩, i12, i13⟩ := hI
  refine kL (As := [.int (x9), .int (y9)]) (rest := []) X hW [0] (fun sz => c_X4_take_b l D cy t (a 0) (a 1) (a 2) (a 3) (a 5) (a 7) (a 8) (a 11) x9 y9 y_hbd sz) rfl (And.intro i0 True.intro) (by decide) (by decide) (cwV 2 X.1.2.2.2.2 gL_law_X4_take rfl rfl rfl (by decide +kernel) ⟨Nat.le_of_ble_eq_true rfl, Nat.le_of_ble_eq_true rfl⟩) (fun _ => rfl) 0 4 rfl rfl rfl hsz rfl (Nat.le_of_ble_eq_true rfl) dL_law_334 hf (fun r9 u9 H1 locs1 F1 hp hE hq hW1 => ?_)
  have hr9 := hp
  replace hr9 : r9 = (-2 : Int32) := hr9
  subst hr9
  have eF := same_F hq hE rfl (And.intro i0 True.intro)
  rw [eF] at hW1
  exact kk H1 locs1 hW1
set_option maxHeartbeats 4000000 in
theorem x_take_b2 (X : LC p m c s D cy t A b L xs) (hI : INVx F cy a ra rb ha cnt f fn0 ff pn pf md K g nt) (hN : INVs cnt fn0 pn md nt) (hW : Wd D A s (LW F) H locs) (hsz : ls.size = 4) (hf : cells ≤ 600000 ∧ slots ≤ 7302250) {h : Nat} (hh : h < 4) (x9 : Int32) (y_hbd : x9 < 0 ∨ nI 8 ≤ x9)
    (kk : ∀ (H1 : Heap) (locs1 : List Loc), Wd D A s (LW F) H1 locs1 → W p l e room_1 s m #[Value.ref b] below meth c H1 locs1 cells slots Q (F0 m 337 ls (.int ((-2 : Int32)) :: []))) : W p l e room_1 s m #[Value.ref b] below meth c H locs cells slots Q (F0 m 334 ls [.int (x9), .int (nI (h)), .ref (a 0)]) := by
  obtain ⟨i0, i1, i2, ⟨i3, i4⟩, ⟨i5, i6⟩, i7, ⟨lv, of, oc, i8, i9, i10⟩, ⟨wd, i11⟩, i12, i13⟩ := hI
  obtain ⟨Ad, sf, ch, bl, v, w, nw, ct, ln, fl, eh, ⟨g0, g1, g2, g3, g4, g5, g6, g7, g8, g9, g10⟩, sk⟩ := i13 h hh
  rw [eh] at g0
  refine kL (As := [.int (nI (h)), .int (x9)]) (rest := []) X hW [0, 2, 38 + 11 * h, 38 + 11 * h + 7, 38 + 11 * h + 8, 38 + 11 * h + 9, 38 + 11 * h + 10] (fun sz => c_X4_take_b2 l D cy t (a 0) (a 1) (a 2) (a 3) (a 5) (a 7) (a 8) (a 11) (fun i => some (ha i)) h (Ad 1) (ha h) (Ad 7) (Ad 8) (Ad 9) (Ad 10) (md h) (bsO (md h)) 0 (nt h) (clo (nt h)) (hdp (nt h)) (hbk (nt h)) (hib (nt h)) (K h) sf (hcf (K h) (bsO (md h)) (g h) 0 (nt h)) (hbf (g h) (nt h)) x9 rfl hh y_hbd sz) rfl (And.intro i0 (And.intro i2 (And.intro g0 (And.intro g7 (And.intro g8 (And.intro g9 (And.intro g10 True.intro))))))) (by intro j hj; simp only [List.mem_cons, List.not_mem_nil, or_false] at hj; omega) (by simp only [List.nodup_cons, List.mem_cons, List.not_mem_nil, or_false, not_false_eq_true, List.nodup_nil, and_true]; omega) (cwV 2 X.1.2.2.2.2 gL_law_X4_take rfl rfl rfl (by decide +kernel) ⟨Nat.le_of_ble_eq_true rfl, Nat.le_of_ble_eq_true rfl⟩) (fun _ => rfl) 0 4 rfl rfl rfl hsz rfl (Nat.le_of_ble_eq_true rfl) dL_law_334 hf (fun r9 u9 H1 locs1 F1 hp hE hq hW1 => ?_)
  have hr9 := hp
  replace hr9 : r9 = (-2 : Int32) := hr9
  subst hr9
  have eF := same_F hq hE rfl (And.intro i0 (And.intro i2 (And.intro g0 (And.intro g7 (And.intro g8 (And.intro g9 (And.intro g10 True.intro)))))))
  rw [eF] at hW1
  exact kk H1 locs1 hW1
set_option maxHeartbeats 4000000 in
theorem x_take_r (X : LC p m c s D cy t A b L xs) (hI : INVx F cy a ra rb ha cnt f fn0 ff pn pf md K g nt) (hN : INVs cnt fn0 pn md nt) (hW : Wd D A s (LW F) H locs) (hsz : ls.size = 4) (hf : cells ≤ 600000 ∧ slots ≤ 7302250) {r : Nat} (hr : r < 8) {h : Nat} (hh : h < 4)  (y_hc : (cnt r) ≤ 200) (y_htk : (nt h) ≤ 40000) (y_hfull : 40000 < (nt h) + (cnt r))
    (kk : ∀ (H1 : Heap) (locs1 : List Loc), Wd D A s (LW F) H1 locs1 → W p l e room_1 s m #[Value.ref b] below meth c H1 locs1 cells slots Q (F0 m 337 ls (.int ((-3 : Int32)) :: []))) : W p l e room_1 s m #[Value.ref b] below meth c H locs cells slots Q (F0 m 334 ls [.int (nI (r)), .int (nI (h)), .ref (a 0)]) := by
  obtain ⟨i0, i1, i2, ⟨i3, i4⟩, ⟨i5, i6⟩, i7, ⟨lv, of, oc, i8, i9, i10⟩, ⟨wd, i11⟩, i12, i13⟩ := hI
  obtain ⟨Ad, sf, ch, bl, v, w, nw, ct, ln, fl, eh, ⟨g0, g1, g2, g3, g4, g5, g6, g7, g8, g9, g10⟩, sk⟩ := i13 h hh
  rw [eh] at g0
  refine kL (As := [.int (nI (h)), .int (nI (r))]) (rest := []) X hW [0, 2, 38 + 11 * h, 38 + 11 * h + 7, 38 + 11 * h + 8, 38 + 11 * h + 9, 38 + 11 * h + 10, 1, 22 + 2 * r, 23 + 2 * r] (fun sz => c_X4_take_r l D cy t (a 0) (a 1) (a 2) (a 3) (a 5) (a 7) (a 8) (a 11) (fun i => some (ha i)) h (Ad 1) (ha h) (Ad 7) (Ad 8) (Ad 9) (Ad 10) (md h) (bsO (md h)) 0 (nt h) (clo (nt h)) (hdp (nt h)) (hbk (nt h)) (hib (nt h)) (K h) sf (hcf (K h) (bsO (md h)) (g h) 0 (nt h)) (hbf (g h) (nt h)) (fun i => some (ra i)) r (ra r) (rb r) (cnt r) (f r) rfl hh rfl hr y_hc y_htk y_hfull sz) rfl (And.intro i0 (And.intro i2 (And.intro g0 (And.intro g7 (And.intro g8 (And.intro g9 (And.intro g10 (And.intro i1 (And.intro ((i12 r hr).1) (And.intro ((i12 r hr).2) True.intro)))))))))) (by intro j hj; simp only [List.mem_cons, List.not_mem_nil, or_false] at hj; omega) (by simp only [List.nodup_cons, List.mem_cons, List.not_mem_nil, or_false, not_false_eq_true, List.nodup_nil, and_true]; omega) (cwV 2 X.1.2.2.2.2 gL_law_X4_take rfl rfl rfl (by decide +kernel) ⟨Nat.le_of_ble_eq_true rfl, Nat.le_of_ble_eq_true rfl⟩) (fun _ => rfl) 0 4 rfl rfl rfl hsz rfl (Nat.le_of_ble_eq_true rfl) dL_law_334 hf (fun r9 u9 H1 locs1 F1 hp hE hq hW1 => ?_)
  have hr9 := hp
  replace hr9 : r9 = (-3 : Int32) := hr9
  subst hr9
  have eF := same_F hq hE rfl (And.intro i0 (And.intro i2 (And.intro g0 (And.intro g7 (And.intro g8 (And.intro g9 (And.intro g10 (And.intro i1 (And.intro ((i12 r hr).1) (And.intro ((i12 r hr).2) True.intro))))))))))
  rw [eF] at hW1
  exact kk H1 locs1 hW1
set_option maxHeartbeats 4000000 in
theorem x_fill_b (X : LC p m c s D cy t A b L xs) (hI : INVx F cy a ra rb ha cnt f fn0 ff pn pf md K g nt) (hN : INVs cnt fn0 pn md nt) (hW : Wd D A s (LW F) H locs) (hsz : ls.size = 4) (hf : cells ≤ 600000 ∧ slots ≤ 7302250)  (x9 : Int32) (y9 : Int32) (fr : Int32) (sp : Int32) (y_hbd : x9 < 0 ∨ nI 4 ≤ x9)
    (kk : ∀ (H1 : Heap) (locs1 : List Loc), Wd D A s (LW F) H1 locs1 → W p l e room_1 s m #[Value.ref b] below meth c H1 locs1 cells slots Q (F0 m 380 ls (.int ((-2 : Int32)) :: []))) : W p l e room_1 s m #[Value.ref b] below meth c H locs cells slots Q (F0 m 377 ls [.int (sp), .int (fr), .int (y9), .int (x9), .ref (a 0)]) := by
  obtain ⟨i0, i1, i2, ⟨i3, i4⟩, ⟨i5, i6⟩, i7, ⟨lv, of, oc, i8, i9, i10⟩, ⟨wd, i11⟩, i12, i13⟩ := hI
  refine kL (As := [.int (x9), .int (y9), .int (fr), .int (sp)]) (rest := []) X hW [0] (fun sz => c_X4_fill_b l D cy t (a 0) (a 1) (a 2) (a 3) (a 5) (a 7) (a 8) (a 11) x9 y9 fr sp y_hbd sz) rfl (And.intro i0 True.intro) (by decide) (by decide) (cwV 4 X.1.2.2.2.2 gL_law_X4_fill rfl rfl rfl (by decide +kernel) ⟨Nat.le_of_ble_eq_true rfl, Nat.le_of_ble_eq_true rfl⟩) (fun _ => rfl) 0 4 rfl rfl rfl hsz rfl (Nat.le_of_ble_eq_true rfl) dL_law_377 hf (fun r9 u9 H1 locs1 F1 hp hE hq hW1 => ?_)
  have hr9 := hp
  replace hr9 : r9 = (-2 : Int32) := hr9
  subst hr9
  have eF := same_F hq hE rfl (And.intro i0 True.intro)
  rw [eF] at hW1
  exact kk H1 locs1 hW1
set_option maxHeartbeats 4000000 in
theorem x_fill_bn (X : LC p m c s D cy t A b L xs) (hI : INVx F cy a ra rb ha cnt f fn0 ff pn pf md K g nt) (hN : INVs cnt fn0 pn md nt) (hW : Wd D A s (LW F) H locs) (hsz : ls.size = 4) (hf : cells ≤ 600000 ∧ slots ≤ 7302250) {h : Nat} (hh : h < 4) (y9 : Int32) (fr : Int32) (sp : Int32) (y_hbn : y9 < 0 ∨ nI 5000 < y9)
    (kk : ∀ (H1 : Heap) (locs1 : List Loc), Wd D A s (LW F) H1 locs1 → W p l e room_1 s m #[Value.ref b] below meth c H1 locs1 cells slots Q (F0 m 380 ls (.int ((-2 : Int32)) :: []))) : W p l e room_1 s m #[Value.ref b] below meth c H locs cells slots Q (F0 m 377 ls [.int (sp), .int (fr), .int (y9), .int (nI (h)), .ref (a 0)]) := by
  obtain ⟨i0, i1, i2, ⟨i3, i4⟩, ⟨i5, i6⟩, i7, ⟨lv, of, oc, i8, i9, i10⟩, ⟨wd, i11⟩, i12, i13⟩ := hI
  obtain ⟨Ad, sf, ch, bl, v, w, nw, ct, ln, fl, eh, ⟨g0, g1, g2, g3, g4, g5, g6, g7, g8, g9, g10⟩, sk⟩ := i13 h hh
  rw [eh] at g0
  refine kL (As := [.int (nI (h)), .int (y9), .int (fr), .int (sp)]) (rest := []) X hW [0, 2, 38 + 11 * h, 38 + 11 * h + 7, 38 + 11 * h + 8, 38 + 11 * h + 9, 38 + 11 * h + 10] (fun sz => c_X4_fill_bn l D cy t (a 0) (a 1) (a 2) (a 3) (a 5) (a 7) (a 8) (a 11) (fun i => some (ha i)) h (Ad 1) (ha h) (Ad 7) (Ad 8) (Ad 9) (Ad 10) (md h) (bsO (md h)) 0 (nt h) (clo (nt h)) (hdp (nt h)) (hbk (nt h)) (hib (nt h)) (K h) sf (hcf (K h) (bsO (md h)) (g h) 0 (nt h)) (hbf (g h) (nt h)) y9 fr sp rfl hh y_hbn sz) rfl (And.intro i0 (And.intro i2 (And.intro g0 (And.intro g7 (And.intro g8 (And.intro g9 (And.intro g10 True.intro))))))) (by intro j hj; simp only [List.mem_cons, List.not_mem_nil, or_false] at hj; omega) (by simp only [List.nodup_cons, List.mem_cons, List.not_mem_nil, or_false, not_false_eq_true, List.nodup_nil, and_true]; omega) (cwV 4 X.1.2.2.2.2 gL_law_X4_fill rfl rfl rfl (by decide +kernel) ⟨Nat.le_of_ble_eq_true rfl, Nat.le_of_ble_eq_true rfl⟩) (fun _ => rfl) 0 4 rfl rfl rfl hsz rfl (Nat.le_of_ble_eq_true rfl) dL_law_377 hf (fun r9 u9 H1 locs1 F1 hp hE hq hW1 => ?_)
  have hr9 := hp
  replace hr9 : r9 = (-2 : Int32) := hr9
  subst hr9
  have eF := same_F hq hE rfl (And.intro i0 (And.intro i2 (And.intro g0 (And.intro g7 (And.intro g8 (And.intro g9 (And.intro g10 True.intro)))))))
  rw [eF] at hW1
  exact kk H1 locs1 hW1
set_option maxHeartbeats 4000000 in
theorem x_fill_r (X : LC p m c s D cy t A b L xs) (hI : INVx F cy a ra rb ha cnt f fn0 ff pn pf md K g nt) (hN : INVs cnt fn0 pn md nt) (hW : Wd D A s (LW F) H locs) (hsz : ls.size = 4) (hf : cells ≤ 600000 ∧ slots ≤ 7302250) {h : Nat} (hh : h < 4) (n : Nat) (fr : Int32) (sp : Int32) (y_hn5 : n ≤ 5000) (y_htk : (nt h) ≤ 40000) (y_hfull : 40000 < (nt h) + n)
    (kk : ∀ (H1 : Heap) (locs1 : List Loc), Wd D A s (LW F) H1 locs1 → W p l e room_1 s m #[Value.ref b] below meth c H1 locs1 cells slots Q (F0 m 380 ls (.int ((-3 : Int32)) :: []))) : W p l e room_1 s m #[Value.ref b] below meth c H locs cells slots Q (F0 m 377 ls [.int (sp), .int (fr), .int (nI (n)), .int (nI (h)), .ref (a 0)]) := by
  obtain ⟨i0, i1, i2, ⟨i3, i4⟩, ⟨i5, i6⟩, i7, ⟨lv, of, oc, i8, i9, i10⟩, ⟨wd, i11⟩, i12, i13⟩ := hI
  obtain ⟨Ad, sf, ch, bl, v, w, nw, ct, ln, fl, eh, ⟨g0, g1, g2, g3, g4, g5, g6, g7, g8, g9, g10⟩, sk⟩ := i13 h hh
  rw [eh] at g0
  refine kL (As := [.int (nI (h)), .int (nI (n)), .int (fr), .int (sp)]) (rest := []) X hW [0, 2, 38 + 11 * h, 38 + 11 * h + 7, 38 + 11 * h + 8, 38 + 11 * h + 9, 38 + 11 * h + 10] (fun sz => c_X4_fill_r l D cy t (a 0) (a 1) (a 2) (a 3) (a 5) (a 7) (a 8) (a 11) (fun i => some (ha i)) h (Ad 1) (ha h) (Ad 7) (Ad 8) (Ad 9) (Ad 10) (md h) (bsO (md h)) 0 (nt h) (clo (nt h)) (hdp (nt h)) (hbk (nt h)) (hib (nt h)) (K h) sf (hcf (K h) (bsO (md h)) (g h) 0 (nt h)) (hbf (g h) (nt h)) n fr sp rfl hh y_hn5 y_htk y_hfull sz) rfl (And.intro i0 (And.intro i2 (And.intro g0 (And.intro g7 (And.intro g8 (And.intro g9 (And.intro g10 True.intro))))))) (by intro j hj; simp only [List.mem_cons, List.not_mem_nil, or_false] at hj; omega) (by simp only [List.nodup_cons, List.mem_cons, List.not_mem_nil, or_false, not_false_eq_true, List.nodup_nil, and_true]; omega) (cwV 4 X.1.2.2.2.2 gL_law_X4_fill rfl rfl rfl (by decide +kernel) ⟨Nat.le_of_ble_eq_true rfl, Nat.le_of_ble_eq_true rfl⟩) (fun _ => rfl) 0 4 rfl rfl rfl hsz rfl (Nat.le_of_ble_eq_true rfl) dL_law_377 hf (fun r9 u9 H1 locs1 F1 hp hE hq hW1 => ?_)
  have hr9 := hp
  replace hr9 : r9 = (-3 : Int32) := hr9
  subst hr9
  have eF := same_F hq hE rfl (And.intro i0 (And.intro i2 (And.intro g0 (And.intro g7 (And.intro g8 (And.intro g9 (And.intro g10 True.intro)))))))
  rw [eF] at hW1
  exact kk H1 locs1 hW1
set_option maxHeartbeats 4000000 in
theorem x_output_b (X : LC p m c s D cy t A b L xs) (hI : INVx F cy a ra rb ha cnt f fn0 ff pn pf md K g nt) (hN : INVs cnt fn0 pn md nt) (hW : Wd D A s (LW F) H locs) (hsz : ls.size = 4) (hf : cells ≤ 600000 ∧ slots ≤ 7302250)  (x9 : Int32) (y9 : Int32) (z9 : Int32) (w0 : Int64) (y_hbd : x9 < 0 ∨ nI 4 ≤ x9)
    (kk : ∀ (H1 : Heap) (locs1 : List Loc), Wd D A s (LW F) H1 locs1 → W p l e room_1 s m #[Value.ref b] below meth c H1 locs1 cells slots Q (F0 m 448 ls (.int ((-2 : Int32)) :: []))) : W p l e room_1 s m #[Value.ref b] below meth c H locs cells slots Q (F0 m 445 ls [.long (w0), .int (z9), .int (y9), .int (x9), .ref (a 0)]) := by
  obtain ⟨i0, i1, i2, ⟨i3, i4⟩, ⟨i5, i6⟩, i7, ⟨lv, of, oc, i8, i9, i10⟩, ⟨wd, i11⟩, i12, i13⟩ := hI
  refine kL (As := [.int (x9), .int (y9), .int (z9), .long (w0)]) (rest := []) X hW [0] (fun sz => c_X4_output_b l D cy t (a 0) (a 1) (a 2) (a 3) (a 5) (a 7) (a 8) (a 11) x9 y9 z9 w0 y_hbd sz) rfl (And.intro i0 True.intro) (by decide) (by decide) (cwV 4 X.1.2.2.2.2 gL_law_X4_output rfl rfl rfl (by decide +kernel) ⟨Nat.le_of_ble_eq_true rfl, Nat.le_of_ble_eq_true rfl⟩) (fun _ => rfl) 0 4 rfl rfl rfl hsz rfl (Nat.le_of_ble_eq_true rfl) dL_law_445 hf (fun r9 u9 H1 locs1 F1 hp hE hq hW1 => ?_)
  have hr9 := hp
  replace hr9 : r9 = (-2 : Int32) := hr9
  subst hr9
  have eF := same_F hq hE rfl (And.intro i0 True.intro)
  rw [eF] at hW1
  exact kk H1 locs1 hW1
set_option maxHeartbeats 4000000 in
theorem x_output_b2 (X : LC p m c s D cy t A b L xs) (hI : INVx F cy a ra rb ha cnt f fn0 ff pn pf md K g nt) (hN : INVs cnt fn0 pn md nt) (hW : Wd D A s (LW F) H locs) (hsz : ls.size = 4) (hf : cells ≤ 600000 ∧ slots ≤ 7302250) {h : Nat} (hh : h < 4) (x9 : Int32) (z9 : Int32) (w0 : Int64) (y_hbd : x9 < 0 ∨ nI 8 ≤ x9)
    (kk : ∀ (H1 : Heap) (locs1 : List Loc), Wd D A s (LW F) H1 locs1 → W p l e room_1 s m #[Value.ref b] below meth c H1 locs1 cells slots Q (F0 m 448 ls (.int ((-2 : Int32)) :: []))) : W p l e room_1 s m #[Value.ref b] below meth c H locs cells slots Q (F0 m 445 ls [.long (w0), .int (z9), .int (x9), .int (nI (h)), .ref (a 0)]) := by
  obtain ⟨i0, i1, i2, ⟨i3, i4⟩, ⟨i5, i6⟩, i7, ⟨lv, of, oc, i8, i9, i10⟩, ⟨wd, i11⟩, i12, i13⟩ := hI
  obtain ⟨Ad, sf, ch, bl, v, w, nw, ct, ln, fl, eh, ⟨g0, g1, g2, g3, g4, g5, g6, g7, g8, g9, g10⟩, sk⟩ := i13 h hh
  rw [eh] at g0
  refine kL (As := [.int (nI (h)), .int (x9), .int (z9), .long (w0)]) (rest := []) X hW [0, 2, 38 + 11 * h, 38 + 11 * h + 7, 38 + 11 * h + 8, 38 + 11 * h + 9, 38 + 11 * h + 10] (fun sz => c_X4_output_b2 l D cy t (a 0) (a 1) (a 2) (a 3) (a 5) (a 7) (a 8) (a 11) (fun i => some (ha i)) h (Ad 1) (ha h) (Ad 7) (Ad 8) (Ad 9) (Ad 10) (md h) (bsO (md h)) 0 (nt h) (clo (nt h)) (hdp (nt h)) (hbk (nt h)) (hib (nt h)) (K h) sf (hcf (K h) (bsO (md h)) (g h) 0 (nt h)) (hbf (g h) (nt h)) x9 z9 w0 rfl hh y_hbd sz) rfl (And.intro i0 (And.intro i2 (And.intro g0 (And.intro g7 (And.intro g8 (And.intro g9 (And.intro g10 True.intro))))))) (by intro j hj; simp only [List.mem_cons, List.not_mem_nil, or_false] at hj; omega) (by simp only [List.nodup_cons, List.mem_cons, List.not_mem_nil, or_false, not_false_eq_true, List.nodup_nil, and_true]; omega) (cwV 4 X.1.2.2.2.2 gL_law_X4_output rfl rfl rfl (by decide +kernel) ⟨Nat.le_of_ble_eq_true rfl, Nat.le_of_ble_eq_true rfl⟩) (fun _ => rfl) 0 4 rfl rfl rfl hsz rfl (Nat.le_of_ble_eq_true rfl) dL_law_445 hf (fun r9 u9 H1 locs1 F1 hp hE hq hW1 => ?_)
  have hr9 := hp
  replace hr9 : r9 = (-2 : Int32) := hr9
  subst hr9
  have eF := same_F hq hE rfl (And.intro i0 (And.intro i2 (And.intro g0 (And.intro g7 (And.intro g8 (And.intro g9 (And.intro g10 True.intro)))))))
  rw [eF] at hW1
  exact kk H1 locs1 hW1
set_option maxHeartbeats 4000000 in
theorem x_output_bn (X : LC p m c s D cy t A b L xs) (hI : INVx F cy a ra rb ha cnt f fn0 ff pn pf md K g nt) (hN : INVs cnt fn0 pn md nt) (hW : Wd D A s (LW F) H locs) (hsz : ls.size = 4) (hf : cells ≤ 600000 ∧ slots ≤ 7302250) {r : Nat} (hr : r < 8) {h : Nat} (hh : h < 4) (z9 : Int32) (w0 : Int64) (y_hc : (cnt r) ≤ 200) (y_hbn : z9 < 0 ∨ nI 200 < z9)
    (kk : ∀ (H1 : Heap) (locs1 : List Loc), Wd D A s (LW F) H1 locs1 → W p l e room_1 s m #[Value.ref b] below meth c H1 locs1 cells slots Q (F0 m 448 ls (.int ((-2 : Int32)) :: []))) : W p l e room_1 s m #[Value.ref b] below meth c H locs cells slots Q (F0 m 445 ls [.long (w0), .int (z9), .int (nI (r)), .int (nI (h)), .ref (a 0)]) := by
  obtain ⟨i0, i1, i2, ⟨i3, i4⟩, ⟨i5, i6⟩, i7, ⟨lv, of, oc, i8, i9, i10⟩, ⟨wd, i11⟩, i12, i13⟩ := hI
  obtain ⟨Ad, sf, ch, bl, v, w, nw, ct, ln, fl, eh, ⟨g0, g1, g2, g3, g4, g5, g6, g7, g8, g9, g10⟩, sk⟩ := i13 h hh
  rw [eh] at g0
  refine kL (As := [.int (nI (h)), .int (nI (r)), .int (z9), .long (w0)]) (rest := []) X hW [0, 2, 38 + 11 * h, 38 + 11 * h + 7, 38 + 11 * h + 8, 38 + 11 * h + 9, 38 + 11 * h + 10, 1, 22 + 2 * r, 23 + 2 * r] (fun sz => c_X4_output_bn l D cy t (a 0) (a 1) (a 2) (a 3) (a 5) (a 7) (a 8) (a 11) (fun i => some (ha i)) h (Ad 1) (ha h) (Ad 7) (Ad 8) (Ad 9) (Ad 10) (md h) (bsO (md h)) 0 (nt h) (clo (nt h)) (hdp (nt h)) (hbk (nt h)) (hib (nt h)) (K h) sf (hcf (K h) (bsO (md h)) (g h) 0 (nt h)) (hbf (g h) (nt h)) (fun i => some (ra i)) r (ra r) (rb r) (cnt r) (f r) z9 w0 rfl hh rfl hr y_hc y_hbn sz) rfl (And.intro i0 (And.intro i2 (And.intro g0 (And.intro g7 (And.intro g8 (And.intro g9 (And.intro g10 (And.intro i1 (And.intro ((i12 r hr).1) (And.intro ((i12 r hr).2) True.intro)))))))))) (by intro j hj; simp only [List.mem_cons, List.not_mem_nil, or_false] at hj; omega) (by simp only [List.nodup_cons, List.mem_cons, List.not_mem_nil, or_false, not_false_eq_true, List.nodup_nil, and_true]; omega) (cwV 4 X.1.2.2.2.2 gL_law_X4_output rfl rfl rfl (by decide +kernel) ⟨Nat.le_of_ble_eq_true rfl, Nat.le_of_ble_eq_true rfl⟩) (fun _ => rfl) 0 4 rfl rfl rfl hsz rfl (Nat.le_of_ble_eq_true rfl) dL_law_445 hf (fun r9 u9 H1 locs1 F1 hp hE hq hW1 => ?_)
  have hr9 := hp
  replace hr9 : r9 = (-2 : Int32) := hr9
  subst hr9
  have eF := same_F hq hE rfl (And.intro i0 (And.intro i2 (And.intro g0 (And.intro g7 (And.intro g8 (And.intro g9 (And.intro g10 (And.intro i1 (And.intro ((i12 r hr).1) (And.intro ((i12 r hr).2) True.intro))))))))))
  rw [eF] at hW1
  exact kk H1 locs1 hW1
set_option maxHeartbeats 4000000 in
theorem x_output_bp (X : LC p m c s D cy t A b L xs) (hI : INVx F cy a ra rb ha cnt f fn0 ff pn pf md K g nt) (hN : INVs cnt fn0 pn md nt) (hW : Wd D A s (LW F) H locs) (hsz : ls.size = 4) (hf : cells ≤ 600000 ∧ slots ≤ 7302250) {r : Nat} (hr : r < 8) {h : Nat} (hh : h < 4) (n : Nat) (w0 : Int64) (y_hc : (cnt r) ≤ 200) (y_hn2 : n ≤ 200) (y_hbp : w0 < lN 0 ∨ (4611686018427387904 : Int64) < w0)
    (kk : ∀ (H1 : Heap) (locs1 : List Loc), Wd D A s (LW F) H1 locs1 → W p l e room_1 s m #[Value.ref b] below meth c H1 locs1 cells slots Q (F0 m 448 ls (.int ((-2 : Int32)) :: []))) : W p l e room_1 s m #[Value.ref b] below meth c H locs cells slots Q (F0 m 445 ls [.long (w0), .int (nI (n)), .int (nI (r)), .int (nI (h)), .ref (a 0)]) := by
  obtain ⟨i0, i1, i2, ⟨i3, i4⟩, ⟨i5, i6⟩, i7, ⟨lv, of, oc, i8, i9, i10⟩, ⟨wd, i11⟩, i12, i13⟩ := hI
  obtain ⟨Ad, sf, ch, bl, v, w, nw, ct, ln, fl, eh, ⟨g0, g1, g2, g3, g4, g5, g6, g7, g8, g9, g10⟩, sk⟩ := i13 h hh
  rw [eh] at g0
  refine kL (As := [.int (nI (h)), .int (nI (r)), .int (nI (n)), .long (w0)]) (rest := []) X hW [0, 2, 38 + 11 * h, 38 + 11 * h + 7, 38 + 11 * h + 8, 38 + 11 * h + 9, 38 + 11 * h + 10, 1, 22 + 2 * r, 23 + 2 * r] (fun sz => c_X4_output_bp l D cy t (a 0) (a 1) (a 2) (a 3) (a 5) (a 7) (a 8) (a 11) (fun i => some (ha i)) h (Ad 1) (ha h) (Ad 7) (Ad 8) (Ad 9) (Ad 10) (md h) (bsO (md h)) 0 (nt h) (clo (nt h)) (hdp (nt h)) (hbk (nt h)) (hib (nt h)) (K h) sf (hcf (K h) (bsO (md h)) (g h) 0 (nt h)) (hbf (g h) (nt h)) (fun i => some (ra i)) r (ra r) (rb r) (cnt r) (f r) n w0 rfl hh rfl hr y_hc y_hn2 y_hbp sz) rfl (And.intro i0 (And.intro i2 (And.intro g0 (And.intro g7 (And.intro g8 (And.intro g9 (And.intro g10 (And.intro i1 (And.intro ((i12 r hr).1) (And.intro ((i12 r hr).2) True.intro)))))))))) (by intro j hj; simp only [List.mem_cons, List.not_mem_nil, or_false] at hj; omega) (by simp only [List.nodup_cons, List.mem_cons, List.not_mem_nil, or_false, not_false_eq_true, List.nodup_nil, and_true]; omega) (cwV 4 X.1.2.2.2.2 gL_law_X4_output rfl rfl rfl (by decide +kernel) ⟨Nat.le_of_ble_eq_true rfl, Nat.le_of_ble_eq_true rfl⟩) (fun _ => rfl) 0 4 rfl rfl rfl hsz rfl (Nat.le_of_ble_eq_true rfl) dL_law_445 hf (fun r9 u9 H1 locs1 F1 hp hE hq hW1 => ?_)
  have hr9 := hp
  replace hr9 : r9 = (-2 : Int32) := hr9
  subst hr9
  have eF := same_F hq hE rfl (And.intro i0 (And.intro i2 (And.intro g0 (And.intro g7 (And.intro g8 (And.intro g9 (And.intro g10 (And.intro i1 (And.intro ((i12 r hr).1) (And.intro ((i12 r hr).2) True.intro))))))))))
  rw [eF] at hW1
  exact kk H1 locs1 hW1
set_option maxHeartbeats 4000000 in
theorem x_root_b (X : LC p m c s D cy t A b L xs) (hI : INVx F cy a ra rb ha cnt f fn0 ff pn pf md K g nt) (hN : INVs cnt fn0 pn md nt) (hW : Wd D A s (LW F) H locs) (hsz : ls.size = 4) (hf : cells ≤ 600000 ∧ slots ≤ 7302250)  (x9 : Int32) (y_hbd : x9 < 0 ∨ nI 8 ≤ x9)
    (kk : ∀ (H1 : Heap) (locs1 : List Loc), Wd D A s (LW F) H1 locs1 → W p l e room_1 s m #[Value.ref b] below meth c H1 locs1 cells slots Q (F0 m 709 ls (.int ((-2 : Int32)) :: []))) : W p l e room_1 s m #[Value.ref b] below meth c H locs cells slots Q (F0 m 706 ls [.int (x9), .ref (a 0)]) := by
  obtain ⟨i0, i1, i2, ⟨i3, i4⟩, ⟨i5, i6⟩, i7, ⟨lv, of, oc, i8, i9, i10⟩, ⟨wd, i11⟩, i12, i13⟩ := hI
  refine kL (As := [.int (x9)]) (rest := []) X hW [0] (fun sz => c_X4_root_b l D cy t (a 0) (a 1) (a 2) (a 3) (a 5) (a 7) (a 8) (a 11) x9 y_hbd sz) rfl (And.intro i0 True.intro) (by decide) (by decide) (cwV 1 X.1.2.2.2.2 gL_law_X4_root rfl rfl rfl (by decide +kernel) ⟨Nat.le_of_ble_eq_true rfl, Nat.le_of_ble_eq_true rfl⟩) (fun _ => rfl) 0 4 rfl rfl rfl hsz rfl (Nat.le_of_ble_eq_true rfl) dL_law_706 hf (fun r9 u9 H1 locs1 F1 hp hE hq hW1 => ?_)
  have hr9 := hp
  replace hr9 : r9 = (-2 : Int32) := hr9
  subst hr9
  have eF := same_F hq hE rfl (And.intro i0 True.intro)
  rw [eF] at hW1
  exact kk H1 locs1 hW1
set_option maxHeartbeats 4000000 in
theorem x_prove_b (X : LC p m c s D cy t A b L xs) (hI : INVx F cy a ra rb ha cnt f fn0 ff pn pf md K g nt) (hN : INVs cnt fn0 pn md nt) (hW : Wd D A s (LW F) H locs) (hsz : ls.size = 4) (hf : cells ≤ 600000 ∧ slots ≤ 7302250)  (x9 : Int32) (y_hbd : x9 < 0 ∨ nI (chks fn0) ≤ x9)
    (kk : ∀ (H1 : Heap) (locs1 : List Loc), Wd D A s (LW F) H1 locs1 → W p l e room_1 s m #[Value.ref b] below meth c H1 locs1 cells slots Q (F0 m 732 ls (.int ((-2 : Int32)) :: []))) : W p l e room_1 s m #[Value.ref b] below meth c H locs cells slots Q (F0 m 729 ls [.int (x9), .ref (a 0)]) := by
  obtain ⟨i0, i1, i2, ⟨i3, i4⟩, ⟨i5, i6⟩, i7, ⟨lv, of, oc, i8, i9, i10⟩, ⟨wd, i11⟩, i12, i13⟩ := hI
  refine kL (As := [.int (x9)]) (rest := []) X hW [0, 3, 4] (fun sz => c_X4_prove_b l D cy t (a 0) (a 1) (a 2) (a 3) (a 5) (a 7) (a 8) (a 11) (a 4) fn0 ff x9 hN.2.1 y_hbd sz) rfl (And.intro i0 (And.intro i3 (And.intro i4 True.intro))) (by decide) (by decide) (cwV 1 X.1.2.2.2.2 gL_law_X4_prove rfl rfl rfl (by decide +kernel) ⟨Nat.le_of_ble_eq_true rfl, Nat.le_of_ble_eq_true rfl⟩) (fun _ => rfl) 0 4 rfl rfl rfl hsz rfl (Nat.le_of_ble_eq_true rfl) dL_law_729 hf (fun r9 u9 H1 locs1 F1 hp hE hq hW1 => ?_)
  have hr9 := hp
  replace hr9 : r9 = (-2 : Int32) := hr9
  subst hr9
  have eF := same_F hq hE rfl (And.intro i0 (And.intro i3 (And.intro i4 True.intro)))
  rw [eF] at hW1
  exact kk H1 locs1 hW1
set_option maxHeartbeats 4000000 in
theorem x_check_b (X : LC p m c s D cy t A b L xs) (hI : INVx F cy a ra rb ha cnt f fn0 ff pn pf md K g nt) (hN : INVs cnt fn0 pn md nt) (hW : Wd D A s (LW F) H locs) (hsz : ls.size = 4) (hf : cells ≤ 600000 ∧ slots ≤ 7302250)  (x9 : Int32) (y9 : Int32) (z9 : Int32) (y_hbd : x9 < 0 ∨ nI 8 ≤ x9)
    (kk : ∀ (H1 : Heap) (locs1 : List Loc), Wd D A s (LW F) H1 locs1 → W p l e room_1 s m #[Value.ref b] below meth c H1 locs1 cells slots Q (F0 m 844 ls (.int ((-2 : Int32)) :: []))) : W p l e room_1 s m #[Value.ref b] below meth c H locs cells slots Q (F0 m 841 ls [.int (z9), .int (y9), .int (x9), .ref (a 0)]) := by
  obtain ⟨i0, i1, i2, ⟨i3, i4⟩, ⟨i5, i6⟩, i7, ⟨lv, of, oc, i8, i9, i10⟩, ⟨wd, i11⟩, i12, i13⟩ := hI
  refine kL (As := [.int (x9), .int (y9), .int (z9)]) (rest := []) X hW [0] (fun sz => c_X4_check_b l D cy t (a 0) (a 1) (a 2) (a 3) (a 5) (a 7) (a 8) (a 11) x9 y9 z9 y_hbd sz) rfl (And.intro i0 True.intro) (by decide) (by decide) (cwV 3 X.1.2.2.2.2 gL_law_X4_check rfl rfl rfl (by decide +kernel) ⟨Nat.le_of_ble_eq_true rfl, Nat.le_of_ble_eq_true rfl⟩) (fun _ => rfl) 0 4 rfl rfl rfl hsz rfl (Nat.le_of_ble_eq_true rfl) dL_law_841 hf (fun r9 u9 H1 locs1 F1 hp hE hq hW1 => ?_)
  have hr9 := hp
  replace hr9 : r9 = (-2 : Int32) := hr9
  subst hr9
  have eF := same_F hq hE rfl (And.intro i0 True.intro)
  rw [eF] at hW1
  exact kk H1 locs1 hW1
set_option maxHeartbeats 4000000 in
theorem x_check_bc (X : LC p m c s D cy t A b L xs) (hI : INVx F cy a ra rb ha cnt f fn0 ff pn pf md K g nt) (hN : INVs cnt fn0 pn md nt) (hW : Wd D A s (LW F) H locs) (hsz : ls.size = 4) (hf : cells ≤ 600000 ∧ slots ≤ 7302250) {r : Nat} (hr : r < 8) (y9 : Int32) (z9 : Int32) (y_hc : (cnt r) ≤ 200) (y_h32 : (cnt r) ≠ 32)
    (kk : ∀ (H1 : Heap) (locs1 : List Loc), Wd D A s (LW F) H1 locs1 → W p l e room_1 s m #[Value.ref b] below meth c H1 locs1 cells slots Q (F0 m 844 ls (.int ((-2 : Int32)) :: []))) : W p l e room_1 s m #[Value.ref b] below meth c H locs cells slots Q (F0 m 841 ls [.int (z9), .int (y9), .int (nI (r)), .ref (a 0)]) := by
  obtain ⟨i0, i1, i2, ⟨i3, i4⟩, ⟨i5, i6⟩, i7, ⟨lv, of, oc, i8, i9, i10⟩, ⟨wd, i11⟩, i12, i13⟩ := hI
  refine kL (As := [.int (nI (r)), .int (y9), .int (z9)]) (rest := []) X hW [0, 1, 22 + 2 * r, 23 + 2 * r] (fun sz => c_X4_check_bc l D cy t (a 0) (a 1) (a 2) (a 3) (a 5) (a 7) (a 8) (a 11) (fun i => some (ra i)) r (ra r) (rb r) (cnt r) (f r) y9 z9 rfl hr y_hc y_h32 sz) rfl (And.intro i0 (And.intro i1 (And.intro ((i12 r hr).1) (And.intro ((i12 r hr).2) True.intro)))) (by intro j hj; simp only [List.mem_cons, List.not_mem_nil, or_false] at hj; omega) (by simp only [List.nodup_cons, List.mem_cons, List.not_mem_nil, or_false, not_false_eq_true, List.nodup_nil, and_true]; omega) (cwV 3 X.1.2.2.2.2 gL_law_X4_check rfl rfl rfl (by decide +kernel) ⟨Nat.le_of_ble_eq_true rfl, Nat.le_of_ble_eq_true rfl⟩) (fun _ => rfl) 0 4 rfl rfl rfl hsz rfl (Nat.le_of_ble_eq_true rfl) dL_law_841 hf (fun r9 u9 H1 locs1 F1 hp hE hq hW1 => ?_)
  have hr9 := hp
  replace hr9 : r9 = (-2 : Int32) := hr9
  subst hr9
  have eF := same_F hq hE rfl (And.intro i0 (And.intro i1 (And.intro ((i12 r hr).1) (And.intro ((i12 r hr).2) True.intro))))
  rw [eF] at hW1
  exact kk H1 locs1 hW1
set_option maxHeartbeats 4000000 in
theorem x_check_bl (X : LC p m c s D cy t A b L xs) (hI : INVx F cy a ra rb ha cnt f fn0 ff pn pf md K g nt) (hN : INVs cnt fn0 pn md nt) (hW : Wd D A s (LW F) H locs) (hsz : ls.size = 4) (hf : cells ≤ 600000 ∧ slots ≤ 7302250) {r : Nat} (hr : r < 8) (y9 : Int32) (z9 : Int32) (y_hc : (cnt r) ≤ 200) (y_h32 : (cnt r) = 32) (y_hbn : y9 < 0 ∨ nI 1000000 < y9)
    (kk : ∀ (H1 : Heap) (locs1 : List Loc), Wd D A s (LW F) H1 locs1 → W p l e room_1 s m #[Value.ref b] below meth c H1 locs1 cells slots Q (F0 m 844 ls (.int ((-2 : Int32)) :: []))) : W p l e room_1 s m #[Value.ref b] below meth c H locs cells slots Q (F0 m 841 ls [.int (z9), .int (y9), .int (nI (r)), .ref (a 0)]) := by
  obtain ⟨i0, i1, i2, ⟨i3, i4⟩, ⟨i5, i6⟩, i7, ⟨lv, of, oc, i8, i9, i10⟩, ⟨wd, i11⟩, i12, i13⟩ := hI
  refine kL (As := [.int (nI (r)), .int (y9), .int (z9)]) (rest := []) X hW [0, 1, 22 + 2 * r, 23 + 2 * r] (fun sz => c_X4_check_bl l D cy t (a 0) (a 1) (a 2) (a 3) (a 5) (a 7) (a 8) (a 11) (fun i => some (ra i)) r (ra r) (rb r) (cnt r) (f r) y9 z9 rfl hr y_hc y_h32 y_hbn sz) rfl (And.intro i0 (And.intro i1 (And.intro ((i12 r hr).1) (And.intro ((i12 r hr).2) True.intro)))) (by intro j hj; simp only [List.mem_cons, List.not_mem_nil, or_false] at hj; omega) (by simp only [List.nodup_cons, List.mem_cons, List.not_mem_nil, or_false, not_false_eq_true, List.nodup_nil, and_true]; omega) (cwV 3 X.1.2.2.2.2 gL_law_X4_check rfl rfl rfl (by decide +kernel) ⟨Nat.le_of_ble_eq_true rfl, Nat.le_of_ble_eq_true rfl⟩) (fun _ => rfl) 0 4 rfl rfl rfl hsz rfl (Nat.le_of_ble_eq_true rfl) dL_law_841 hf (fun r9 u9 H1 locs1 F1 hp hE hq hW1 => ?_)
  have hr9 := hp
  replace hr9 : r9 = (-2 : Int32) := hr9
  subst hr9
  have eF := same_F hq hE rfl (And.intro i0 (And.intro i1 (And.intro ((i12 r hr).1) (And.intro ((i12 r hr).2) True.intro))))
  rw [eF] at hW1
  exact kk H1 locs1 hW1
set_option maxHeartbeats 4000000 in
theorem x_check_bk (X : LC p m c s D cy t A b L xs) (hI : INVx F cy a ra rb ha cnt f fn0 ff pn pf md K g nt) (hN : INVs cnt fn0 pn md nt) (hW : Wd D A s (LW F) H locs) (hsz : ls.size = 4) (hf : cells ≤ 600000 ∧ slots ≤ 7302250) {r : Nat} (hr : r < 8) (n : Nat) (z9 : Int32) (y_hc : (cnt r) ≤ 200) (y_h32 : (cnt r) = 32) (y_hn1 : n ≤ 1000000) (y_hbd : z9 < 0 ∨ nI (chks n) ≤ z9)
    (kk : ∀ (H1 : Heap) (locs1 : List Loc), Wd D A s (LW F) H1 locs1 → W p l e room_1 s m #[Value.ref b] below meth c H1 locs1 cells slots Q (F0 m 844 ls (.int ((-2 : Int32)) :: []))) : W p l e room_1 s m #[Value.ref b] below meth c H locs cells slots Q (F0 m 841 ls [.int (z9), .int (nI (n)), .int (nI (r)), .ref (a 0)]) := by
  obtain ⟨i0, i1, i2, ⟨i3, i4⟩, ⟨i5, i6⟩, i7, ⟨lv, of, oc, i8, i9, i10⟩, ⟨wd, i11⟩, i12, i13⟩ := hI
  refine kL (As := [.int (nI (r)), .int (nI (n)), .int (z9)]) (rest := []) X hW [0, 1, 22 + 2 * r, 23 + 2 * r] (fun sz => c_X4_check_bk l D cy t (a 0) (a 1) (a 2) (a 3) (a 5) (a 7) (a 8) (a 11) (fun i => some (ra i)) r (ra r) (rb r) (cnt r) (f r) n z9 rfl hr y_hc y_h32 y_hn1 y_hbd sz) rfl (And.intro i0 (And.intro i1 (And.intro ((i12 r hr).1) (And.intro ((i12 r hr).2) True.intro)))) (by intro j hj; simp only [List.mem_cons, List.not_mem_nil, or_false] at hj; omega) (by simp only [List.nodup_cons, List.mem_cons, List.not_mem_nil, or_false, not_false_eq_true, List.nodup_nil, and_true]; omega) (cwV 3 X.1.2.2.2.2 gL_law_X4_check rfl rfl rfl (by decide +kernel) ⟨Nat.le_of_ble_eq_true rfl, Nat.le_of_ble_eq_true rfl⟩) (fun _ => rfl) 0 4 rfl rfl rfl hsz rfl (Nat.le_of_ble_eq_true rfl) dL_law_841 hf (fun r9 u9 H1 locs1 F1 hp hE hq hW1 => ?_)
  have hr9 := hp
  replace hr9 : r9 = (-2 : Int32) := hr9
  subst hr9
  have eF := same_F hq hE rfl (And.intro i0 (And.intro i1 (And.intro ((i12 r hr).1) (And.intro ((i12 r hr).2) True.intro))))
  rw [eF] at hW1
  exact kk H1 locs1 hW1
set_option maxHeartbeats 4000000 in
theorem x_chain (X : LC p m c s D cy t A b L xs) (hI : INVx F cy a ra rb ha cnt f fn0 ff pn pf md K g nt) (hN : INVs cnt fn0 pn md nt) (hW : Wd D A s (LW F) H locs) (hsz : ls.size = 4) (hf : cells ≤ 600000 ∧ slots ≤ 7302250) {h : Nat} (hh : h < 4) (x9 : Int32) (y9 : Int32) (y_hd : (hdp (nt h)) ≤ 5)
    (kk : ∀ (H1 : Heap) (locs1 : List Loc), ∀ (r9 : Int32), ((r9 = 0 ∧ (x9 < 0 ∨ nI (hdp (nt h)) ≤ x9 ∨ y9 < 0 ∨ nI 8 ≤ y9)) ∨ ∃ a9 b9 : Nat, a9 < hdp (nt h) ∧ b9 < 8 ∧ x9 = nI a9 ∧ y9 = nI b9 ∧ r9 = skS (K h) (bsO (md h)) (g h) 0 (clo (nt h)) a9 b9) → Wd D A s (LW F) H1 locs1 → W p l e room_1 s m #[Value.ref b] below meth c H1 locs1 cells slots Q (F0 m 577 ls (.int (r9) :: []))) : W p l e room_1 s m #[Value.ref b] below meth c H locs cells slots Q (F0 m 574 ls [.int (y9), .int (x9), .int (nI (h)), .ref (a 0)]) := by
  obtain ⟨i0, i1, i2, ⟨i3, i4⟩, ⟨i5, i6⟩, i7, ⟨lv, of, oc, i8, i9, i10⟩, ⟨wd, i11⟩, i12, i13⟩ := hI
  obtain ⟨Ad, sf, ch, bl, v, w, nw, ct, ln, fl, eh, ⟨g0, g1, g2, g3, g4, g5, g6, g7, g8, g9, g10⟩, sk⟩ := i13 h hh
  rw [eh] at g0
  refine kL (As := [.int (nI (h)), .int (x9), .int (y9)]) (rest := []) X hW [0, 2, 38 + 11 * h, 38 + 11 * h + 7, 38 + 11 * h + 8, 38 + 11 * h + 9, 38 + 11 * h + 10] (fun sz => c_X4_chain l D cy t (a 0) (a 1) (a 2) (a 3) (a 5) (a 7) (a 8) (a 11) (fun i => some (ha i)) h (Ad 1) (ha h) (Ad 7) (Ad 8) (Ad 9) (Ad 10) (md h) (bsO (md h)) 0 (nt h) (clo (nt h)) (hdp (nt h)) (hbk (nt h)) (hib (nt h)) (K h) sf (hcf (K h) (bsO (md h)) (g h) 0 (nt h)) (hbf (g h) (nt h)) x9 y9 rfl hh y_hd sz) rfl (And.intro i0 (And.intro i2 (And.intro g0 (And.intro g7 (And.intro g8 (And.intro g9 (And.intro g10 True.intro))))))) (by intro j hj; simp only [List.mem_cons, List.not_mem_nil, or_false] at hj; omega) (by simp only [List.nodup_cons, List.mem_cons, List.not_mem_nil, or_false, not_false_eq_true, List.nodup_nil, and_true]; omega) (cwV 3 X.1.2.2.2.2 gL_law_X4_chain rfl rfl rfl (by decide +kernel) ⟨Nat.le_of_ble_eq_true rfl, Nat.le_of_ble_eq_true rfl⟩) (fun _ => rfl) 0 4 rfl rfl rfl hsz rfl (Nat.le_of_ble_eq_true rfl) dL_law_574 hf (fun r9 u9 H1 locs1 F1 hp hE hq hW1 => ?_)
  have eF := same_F hq hE rfl (And.intro i0 (And.intro i2 (And.intro g0 (And.intro g7 (And.intro g8 (And.intro g9 (And.intro g10 True.intro)))))))
  rw [eF] at hW1
  rcases hp with hp | ⟨a9, b9, c1, c2, c3, c4, c5⟩
  · exact kk H1 locs1 r9 (Or.inl hp) hW1
  · exact kk H1 locs1 r9 (Or.inr ⟨a9, b9, c1, c2, c3, c4, c5.trans (sk a9 c1 b9 c2)⟩) hW1
end ROW68a
