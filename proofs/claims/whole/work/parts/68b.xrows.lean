section ROW68b
variable {p : Program} {l : Launch} {e : Env} {s : State} {m : MethodId} {below : List Frame} {meth : Method} {c : Code} {H : Heap} {locs : List Loc} {cells slots : Nat} {Q : State → Prop} {D : va_G} {cy : Nat → ClassId} {t : Nat × Nat} {A : Nat → Prop} {F : Nat → cellT} {b L i0 : Nat} {xs : Nat → Int32} {ls : Array Slot} {a ra rb ha z cnt : Nat → Nat} {f : Nat → Nat → Int32} {fn0 : Nat} {ff : Nat → Int32} {pn : Nat} {pf : Nat → Int32} {md : Nat → Int32} {K g : Nat → Nat → Int32} {nt : Nat → Nat}
set_option maxHeartbeats 4000000 in
theorem x_add (X : LC p m c s D cy t A b L xs) (hI : INVx F cy a ra rb ha cnt f fn0 ff pn pf md K g nt) (hN : INVs cnt fn0 pn md nt) (hW : Wd D A s (LW F) H locs) (hsz : ls.size = 4) (hf : cells ≤ 600000 ∧ slots ≤ 7302250) {r : Nat} (hr : r < 8) (k : Nat) (w0 : Int64) (y_hc : (cnt r) ≤ 200) (y_hk1 : 1 ≤ k) (y_hk8 : k ≤ 8) (y_hfit : (cnt r) + k ≤ 200)
    (kk : ∀ (H1 : Heap) (locs1 : List Loc) (F1 : Nat → cellT), (∀ j, 82 ≤ j → F1 j = F j) → INVx F1 cy a ra rb ha (upN1 cnt r ((cnt r) + k)) (upF1 f r (apG (f r) (cnt r) (fun i => b8 (((w0.toUInt64 >>> ((nI (8 * i)).toInt64.toUInt64 &&& Int64.toUInt64 63)).toInt64).toInt32)) k)) fn0 ff pn pf md K g nt → Wd D A s (LW F1) H1 locs1 → W p l e room_1 s m #[Value.ref b] below meth c H1 locs1 cells slots Q (F0 m 162 ls (.int (nI ((cnt r) + k)) :: []))) : W p l e room_1 s m #[Value.ref b] below meth c H locs cells slots Q (F0 m 159 ls [.long (w0), .int (nI (k)), .int (nI (r)), .ref (a 0)]) := by
  obtain ⟨i0, i1, i2, ⟨i3, i4⟩, ⟨i5, i6⟩, i7, ⟨lv, of, oc, i8, i9, i10⟩, ⟨wd, i11⟩, i12, i13⟩ := hI
  refine kL (As := [.int (nI (r)), .int (nI (k)), .long (w0)]) (rest := []) X hW [0, 1, 22 + 2 * r, 23 + 2 * r] (fun sz => c_X4_add l D cy t (a 0) (a 1) (a 2) (a 3) (a 5) (a 7) (a 8) (a 11) (fun i => some (ra i)) r (ra r) (rb r) (cnt r) (f r) k w0 rfl hr y_hc y_hk1 y_hk8 y_hfit sz) rfl (And.intro i0 (And.intro i1 (And.intro ((i12 r hr).1) (And.intro ((i12 r hr).2) True.intro)))) (by intro j hj; simp only [List.mem_cons, List.not_mem_nil, or_false] at hj; omega) (by simp only [List.nodup_cons, List.mem_cons, List.not_mem_nil, or_false, not_false_eq_true, List.nodup_nil, and_true]; omega) (cwV 3 X.1.2.2.2.2 gL_law_X4_add rfl rfl rfl (by decide +kernel) ⟨Nat.le_of_ble_eq_true rfl, Nat.le_of_ble_eq_true rfl⟩) (fun _ => rfl) 0 4 rfl rfl rfl hsz rfl (Nat.le_of_ble_eq_true rfl) dL_law_159 hf (fun r9 u9 H1 locs1 F1 hp hE hq hW1 => ?_)
  have hr9 := hp
  replace hr9 : r9 = nI ((cnt r) + k) := hr9
  subst hr9
  obtain ⟨q0, q1, q2, q3, -⟩ := hq
  have hE2 : ∀ j, ¬ (j = 22 + 2 * r ∨ j = 23 + 2 * r) → F1 j = F j := by
    intro j h9
    by_cases h8 : j = 0 ∨ j = 1
    · rcases h8 with h8 | h8
      · rw [h8]; exact q0.trans (i0).symm
      · rw [h8]; exact q1.trans (i1).symm
    · exact hE j (by simp only [List.mem_cons, List.not_mem_nil, or_false]; omega)
  exact kk H1 locs1 F1 (fun j hj => hE2 j (by omega)) ⟨((hE2 (0) (by omega)).trans i0), ((hE2 (1) (by omega)).trans i1), ((hE2 (2) (by omega)).trans i2), ⟨((hE2 (3) (by omega)).trans i3), ((hE2 (4) (by omega)).trans i4)⟩, ⟨((hE2 (5) (by omega)).trans i5), ((hE2 (6) (by omega)).trans i6)⟩, wH_ag i7 (fun j _ _ => hE2 j (by omega)), ⟨_, _, _, ((hE2 (18) (by omega)).trans i8), ((hE2 (19) (by omega)).trans i9), ((hE2 (20) (by omega)).trans i10)⟩, ⟨_, ((hE2 (21) (by omega)).trans i11)⟩, gReg_up i12 q2 q3 (fun j _ _ _ _ => hE2 j (by omega)), uHs_ag i13 (fun j _ _ => hE2 j (by omega))⟩ hW1
set_option maxHeartbeats 4000000 in
theorem x_clear (X : LC p m c s D cy t A b L xs) (hI : INVx F cy a ra rb ha cnt f fn0 ff pn pf md K g nt) (hN : INVs cnt fn0 pn md nt) (hW : Wd D A s (LW F) H locs) (hsz : ls.size = 4) (hf : cells ≤ 600000 ∧ slots ≤ 7302250) {r : Nat} (hr : r < 8)  (y_hc : (cnt r) ≤ 200)
    (kk : ∀ (H1 : Heap) (locs1 : List Loc) (F1 : Nat → cellT), (∀ j, 82 ≤ j → F1 j = F j) → INVx F1 cy a ra rb ha (upN1 cnt r 0) (upF1 f r (f r)) fn0 ff pn pf md K g nt → Wd D A s (LW F1) H1 locs1 → W p l e room_1 s m #[Value.ref b] below meth c H1 locs1 cells slots Q (F0 m 210 ls (.int (nI (cnt r)) :: []))) : W p l e room_1 s m #[Value.ref b] below meth c H locs cells slots Q (F0 m 207 ls [.int (nI (r)), .ref (a 0)]) := by
  obtain ⟨i0, i1, i2, ⟨i3, i4⟩, ⟨i5, i6⟩, i7, ⟨lv, of, oc, i8, i9, i10⟩, ⟨wd, i11⟩, i12, i13⟩ := hI
  refine kL (As := [.int (nI (r))]) (rest := []) X hW [0, 1, 22 + 2 * r, 23 + 2 * r] (fun sz => c_X4_clear l D cy t (a 0) (a 1) (a 2) (a 3) (a 5) (a 7) (a 8) (a 11) (fun i => some (ra i)) r (ra r) (rb r) (cnt r) (f r) rfl hr y_hc sz) rfl (And.intro i0 (And.intro i1 (And.intro ((i12 r hr).1) (And.intro ((i12 r hr).2) True.intro)))) (by intro j hj; simp only [List.mem_cons, List.not_mem_nil, or_false] at hj; omega) (by simp only [List.nodup_cons, List.mem_cons, List.not_mem_nil, or_false, not_false_eq_true, List.nodup_nil, and_true]; omega) (cwV 1 X.1.2.2.2.2 gL_law_X4_clear rfl rfl rfl (by decide +kernel) ⟨Nat.le_of_ble_eq_true rfl, Nat.le_of_ble_eq_true rfl⟩) (fun _ => rfl) 0 4 rfl rfl rfl hsz rfl (Nat.le_of_ble_eq_true rfl) dL_law_207 hf (fun r9 u9 H1 locs1 F1 hp hE hq hW1 => ?_)
  have hr9 := hp
  replace hr9 : r9 = nI (cnt r) := hr9.trans (rfl)
  subst hr9
  obtain ⟨q0, q1, q2, q3, -⟩ := hq
  have hE2 : ∀ j, ¬ (j = 22 + 2 * r) → F1 j = F j := by
    intro j h9
    by_cases h8 : j = 0 ∨ j = 1 ∨ j = 23 + 2 * r
    · rcases h8 with h8 | h8 | h8
      · rw [h8]; exact q0.trans (i0).symm
      · rw [h8]; exact q1.trans (i1).symm
      · rw [h8]; exact q3.trans ((i12 r hr).2).symm
    · exact hE j (by simp only [List.mem_cons, List.not_mem_nil, or_false]; omega)
  exact kk H1 locs1 F1 (fun j hj => hE2 j (by omega)) ⟨((hE2 (0) (by omega)).trans i0), ((hE2 (1) (by omega)).trans i1), ((hE2 (2) (by omega)).trans i2), ⟨((hE2 (3) (by omega)).trans i3), ((hE2 (4) (by omega)).trans i4)⟩, ⟨((hE2 (5) (by omega)).trans i5), ((hE2 (6) (by omega)).trans i6)⟩, wH_ag i7 (fun j _ _ => hE2 j (by omega)), ⟨_, _, _, ((hE2 (18) (by omega)).trans i8), ((hE2 (19) (by omega)).trans i9), ((hE2 (20) (by omega)).trans i10)⟩, ⟨_, ((hE2 (21) (by omega)).trans i11)⟩, gReg_up i12 q2 ((hE2 (23 + 2 * r) (by omega)).trans ((i12 r hr).2)) (fun j _ _ _ _ => hE2 j (by omega)), uHs_ag i13 (fun j _ _ => hE2 j (by omega))⟩ hW1
set_option maxHeartbeats 4000000 in
theorem x_grow (X : LC p m c s D cy t A b L xs) (hI : INVx F cy a ra rb ha cnt f fn0 ff pn pf md K g nt) (hN : INVs cnt fn0 pn md nt) (hW : Wd D A s (LW F) H locs) (hsz : ls.size = 4) (hf : cells ≤ 600000 ∧ slots ≤ 7302250)  (n : Nat) (fr : Int32) (sp : Int32) (y_hn1 : 1 ≤ n) (y_hn5 : n ≤ 5000) (y_hfit : fn0 + n ≤ 20000)
    (kk : ∀ (H1 : Heap) (locs1 : List Loc) (F1 : Nat → cellT), (∀ j, 82 ≤ j → F1 j = F j) → INVx F1 cy a ra rb ha cnt f (fn0 + n) (apG ff fn0 (fun i => b8 (fr + ((nI (i)) * sp))) n) pn pf md K g nt → Wd D A s (LW F1) H1 locs1 → W p l e room_1 s m #[Value.ref b] below meth c H1 locs1 cells slots Q (F0 m 620 ls (.int (nI (fn0 + n)) :: []))) : W p l e room_1 s m #[Value.ref b] below meth c H locs cells slots Q (F0 m 617 ls [.int (sp), .int (fr), .int (nI (n)), .ref (a 0)]) := by
  obtain ⟨i0, i1, i2, ⟨i3, i4⟩, ⟨i5, i6⟩, i7, ⟨lv, of, oc, i8, i9, i10⟩, ⟨wd, i11⟩, i12, i13⟩ := hI
  refine kL (As := [.int (nI (n)), .int (fr), .int (sp)]) (rest := []) X hW [0, 3, 4] (fun sz => c_X4_grow l D cy t (a 0) (a 1) (a 2) (a 3) (a 5) (a 7) (a 8) (a 11) (a 4) fn0 ff n fr sp hN.2.1 y_hn1 y_hn5 y_hfit sz) rfl (And.intro i0 (And.intro i3 (And.intro i4 True.intro))) (by decide) (by decide) (cwV 3 X.1.2.2.2.2 gL_law_X4_grow rfl rfl rfl (by decide +kernel) ⟨Nat.le_of_ble_eq_true rfl, Nat.le_of_ble_eq_true rfl⟩) (fun _ => rfl) 0 4 rfl rfl rfl hsz rfl (Nat.le_of_ble_eq_true rfl) dL_law_617 hf (fun r9 u9 H1 locs1 F1 hp hE hq hW1 => ?_)
  have hr9 := hp
  replace hr9 : r9 = nI (fn0 + n) := hr9
  subst hr9
  obtain ⟨q0, q1, q2, -⟩ := hq
  have hE2 : ∀ j, ¬ (j = 3 ∨ j = 4) → F1 j = F j := by
    intro j h9
    by_cases h8 : j = 0
    · rw [h8]; exact q0.trans (i0).symm
    · exact hE j (by simp only [List.mem_cons, List.not_mem_nil, or_false]; omega)
  exact kk H1 locs1 F1 (fun j hj => hE2 j (by omega)) ⟨((hE2 (0) (by omega)).trans i0), ((hE2 (1) (by omega)).trans i1), ((hE2 (2) (by omega)).trans i2), ⟨q1, q2⟩, ⟨((hE2 (5) (by omega)).trans i5), ((hE2 (6) (by omega)).trans i6)⟩, wH_ag i7 (fun j _ _ => hE2 j (by omega)), ⟨_, _, _, ((hE2 (18) (by omega)).trans i8), ((hE2 (19) (by omega)).trans i9), ((hE2 (20) (by omega)).trans i10)⟩, ⟨_, ((hE2 (21) (by omega)).trans i11)⟩, gReg_ag i12 (fun j _ _ => hE2 j (by omega)), uHs_ag i13 (fun j _ _ => hE2 j (by omega))⟩ hW1
set_option maxHeartbeats 4000000 in
theorem x_spoil (X : LC p m c s D cy t A b L xs) (hI : INVx F cy a ra rb ha cnt f fn0 ff pn pf md K g nt) (hN : INVs cnt fn0 pn md nt) (hW : Wd D A s (LW F) H locs) (hsz : ls.size = 4) (hf : cells ≤ 600000 ∧ slots ≤ 7302250)  (iq : Nat) (k : Nat) (y_hi : iq < fn0) (y_hk : k ≤ 255)
    (kk : ∀ (H1 : Heap) (locs1 : List Loc) (F1 : Nat → cellT), (∀ j, 82 ≤ j → F1 j = F j) → INVx F1 cy a ra rb ha cnt f fn0 (upd ff iq (b8 (ff iq ^^^ nI k))) pn pf md K g nt → Wd D A s (LW F1) H1 locs1 → W p l e room_1 s m #[Value.ref b] below meth c H1 locs1 cells slots Q (F0 m 658 ls (.int (b8 (ff iq ^^^ nI k) &&& 255) :: []))) : W p l e room_1 s m #[Value.ref b] below meth c H locs cells slots Q (F0 m 655 ls [.int (nI (k)), .int (nI (iq)), .ref (a 0)]) := by
  obtain ⟨i0, i1, i2, ⟨i3, i4⟩, ⟨i5, i6⟩, i7, ⟨lv, of, oc, i8, i9, i10⟩, ⟨wd, i11⟩, i12, i13⟩ := hI
  refine kL (As := [.int (nI (iq)), .int (nI (k))]) (rest := []) X hW [0, 3, 4] (fun sz => c_X4_spoil l D cy t (a 0) (a 1) (a 2) (a 3) (a 5) (a 7) (a 8) (a 11) (a 4) fn0 ff iq k hN.2.1 y_hi y_hk sz) rfl (And.intro i0 (And.intro i3 (And.intro i4 True.intro))) (by decide) (by decide) (cwV 2 X.1.2.2.2.2 gL_law_X4_spoil rfl rfl rfl (by decide +kernel) ⟨Nat.le_of_ble_eq_true rfl, Nat.le_of_ble_eq_true rfl⟩) (fun _ => rfl) 0 4 rfl rfl rfl hsz rfl (Nat.le_of_ble_eq_true rfl) dL_law_655 hf (fun r9 u9 H1 locs1 F1 hp hE hq hW1 => ?_)
  have hr9 := hp
  replace hr9 : r9 = b8 (ff iq ^^^ nI k) &&& 255 := hr9
  subst hr9
  obtain ⟨q0, q1, q2, -⟩ := hq
  have hE2 : ∀ j, ¬ (j = 4) → F1 j = F j := by
    intro j h9
    by_cases h8 : j = 0 ∨ j = 3
    · rcases h8 with h8 | h8
      · rw [h8]; exact q0.trans (i0).symm
      · rw [h8]; exact q1.trans (i3).symm
    · exact hE j (by simp only [List.mem_cons, List.not_mem_nil, or_false]; omega)
  exact kk H1 locs1 F1 (fun j hj => hE2 j (by omega)) ⟨((hE2 (0) (by omega)).trans i0), ((hE2 (1) (by omega)).trans i1), ((hE2 (2) (by omega)).trans i2), ⟨((hE2 (3) (by omega)).trans i3), q2⟩, ⟨((hE2 (5) (by omega)).trans i5), ((hE2 (6) (by omega)).trans i6)⟩, wH_ag i7 (fun j _ _ => hE2 j (by omega)), ⟨_, _, _, ((hE2 (18) (by omega)).trans i8), ((hE2 (19) (by omega)).trans i9), ((hE2 (20) (by omega)).trans i10)⟩, ⟨_, ((hE2 (21) (by omega)).trans i11)⟩, gReg_ag i12 (fun j _ _ => hE2 j (by omega)), uHs_ag i13 (fun j _ _ => hE2 j (by omega))⟩ hW1
set_option maxHeartbeats 4000000 in
theorem x_shorten (X : LC p m c s D cy t A b L xs) (hI : INVx F cy a ra rb ha cnt f fn0 ff pn pf md K g nt) (hN : INVs cnt fn0 pn md nt) (hW : Wd D A s (LW F) H locs) (hsz : ls.size = 4) (hf : cells ≤ 600000 ∧ slots ≤ 7302250)  (n : Nat) (y_hn1 : n ≤ fn0)
    (kk : ∀ (H1 : Heap) (locs1 : List Loc) (F1 : Nat → cellT), (∀ j, 82 ≤ j → F1 j = F j) → INVx F1 cy a ra rb ha cnt f n ff pn pf md K g nt → Wd D A s (LW F1) H1 locs1 → W p l e room_1 s m #[Value.ref b] below meth c H1 locs1 cells slots Q (F0 m 686 ls (.int (nI (fn0 - n)) :: []))) : W p l e room_1 s m #[Value.ref b] below meth c H locs cells slots Q (F0 m 683 ls [.int (nI (n)), .ref (a 0)]) := by
  obtain ⟨i0, i1, i2, ⟨i3, i4⟩, ⟨i5, i6⟩, i7, ⟨lv, of, oc, i8, i9, i10⟩, ⟨wd, i11⟩, i12, i13⟩ := hI
  refine kL (As := [.int (nI (n))]) (rest := []) X hW [0, 3, 4] (fun sz => c_X4_shorten l D cy t (a 0) (a 1) (a 2) (a 3) (a 5) (a 7) (a 8) (a 11) (a 4) fn0 ff n hN.2.1 y_hn1 sz) rfl (And.intro i0 (And.intro i3 (And.intro i4 True.intro))) (by decide) (by decide) (cwV 1 X.1.2.2.2.2 gL_law_X4_shorten rfl rfl rfl (by decide +kernel) ⟨Nat.le_of_ble_eq_true rfl, Nat.le_of_ble_eq_true rfl⟩) (fun _ => rfl) 0 4 rfl rfl rfl hsz rfl (Nat.le_of_ble_eq_true rfl) dL_law_683 hf (fun r9 u9 H1 locs1 F1 hp hE hq hW1 => ?_)
  have hr9 := hp
  replace hr9 : r9 = nI (fn0 - n) := hr9
  subst hr9
  obtain ⟨q0, q1, q2, -⟩ := hq
  have hE2 : ∀ j, ¬ (j = 3) → F1 j = F j := by
    intro j h9
    by_cases h8 : j = 0 ∨ j = 4
    · rcases h8 with h8 | h8
      · rw [h8]; exact q0.trans (i0).symm
      · rw [h8]; exact q2.trans (i4).symm
    · exact hE j (by simp only [List.mem_cons, List.not_mem_nil, or_false]; omega)
  exact kk H1 locs1 F1 (fun j hj => hE2 j (by omega)) ⟨((hE2 (0) (by omega)).trans i0), ((hE2 (1) (by omega)).trans i1), ((hE2 (2) (by omega)).trans i2), ⟨q1, ((hE2 (4) (by omega)).trans i4)⟩, ⟨((hE2 (5) (by omega)).trans i5), ((hE2 (6) (by omega)).trans i6)⟩, wH_ag i7 (fun j _ _ => hE2 j (by omega)), ⟨_, _, _, ((hE2 (18) (by omega)).trans i8), ((hE2 (19) (by omega)).trans i9), ((hE2 (20) (by omega)).trans i10)⟩, ⟨_, ((hE2 (21) (by omega)).trans i11)⟩, gReg_ag i12 (fun j _ _ => hE2 j (by omega)), uHs_ag i13 (fun j _ _ => hE2 j (by omega))⟩ hW1
set_option maxHeartbeats 4000000 in
theorem x_forge (X : LC p m c s D cy t A b L xs) (hI : INVx F cy a ra rb ha cnt f fn0 ff pn pf md K g nt) (hN : INVs cnt fn0 pn md nt) (hW : Wd D A s (LW F) H locs) (hsz : ls.size = 4) (hf : cells ≤ 600000 ∧ slots ≤ 7302250)  (iq : Nat) (k : Nat) (y_hi : iq < pn) (y_hk : k ≤ 255)
    (kk : ∀ (H1 : Heap) (locs1 : List Loc) (F1 : Nat → cellT), (∀ j, 82 ≤ j → F1 j = F j) → INVx F1 cy a ra rb ha cnt f fn0 ff pn (upd pf iq (b8 (pf iq ^^^ nI k))) md K g nt → Wd D A s (LW F1) H1 locs1 → W p l e room_1 s m #[Value.ref b] below meth c H1 locs1 cells slots Q (F0 m 783 ls (.int (b8 (pf iq ^^^ nI k) &&& 255) :: []))) : W p l e room_1 s m #[Value.ref b] below meth c H locs cells slots Q (F0 m 780 ls [.int (nI (k)), .int (nI (iq)), .ref (a 0)]) := by
  obtain ⟨i0, i1, i2, ⟨i3, i4⟩, ⟨i5, i6⟩, i7, ⟨lv, of, oc, i8, i9, i10⟩, ⟨wd, i11⟩, i12, i13⟩ := hI
  refine kL (As := [.int (nI (iq)), .int (nI (k))]) (rest := []) X hW [0, 5, 6] (fun sz => c_X4_forge l D cy t (a 0) (a 1) (a 2) (a 3) (a 5) (a 7) (a 8) (a 11) (a 6) pn pf iq k hN.2.2.1 y_hi y_hk sz) rfl (And.intro i0 (And.intro i5 (And.intro i6 True.intro))) (by decide) (by decide) (cwV 2 X.1.2.2.2.2 gL_law_X4_forge rfl rfl rfl (by decide +kernel) ⟨Nat.le_of_ble_eq_true rfl, Nat.le_of_ble_eq_true rfl⟩) (fun _ => rfl) 0 4 rfl rfl rfl hsz rfl (Nat.le_of_ble_eq_true rfl) dL_law_780 hf (fun r9 u9 H1 locs1 F1 hp hE hq hW1 => ?_)
  have hr9 := hp
  replace hr9 : r9 = b8 (pf iq ^^^ nI k) &&& 255 := hr9
  subst hr9
  obtain ⟨q0, q1, q2, -⟩ := hq
  have hE2 : ∀ j, ¬ (j = 6) → F1 j = F j := by
    intro j h9
    by_cases h8 : j = 0 ∨ j = 5
    · rcases h8 with h8 | h8
      · rw [h8]; exact q0.trans (i0).symm
      · rw [h8]; exact q1.trans (i5).symm
    · exact hE j (by simp only [List.mem_cons, List.not_mem_nil, or_false]; omega)
  exact kk H1 locs1 F1 (fun j hj => hE2 j (by omega)) ⟨((hE2 (0) (by omega)).trans i0), ((hE2 (1) (by omega)).trans i1), ((hE2 (2) (by omega)).trans i2), ⟨((hE2 (3) (by omega)).trans i3), ((hE2 (4) (by omega)).trans i4)⟩, ⟨((hE2 (5) (by omega)).trans i5), q2⟩, wH_ag i7 (fun j _ _ => hE2 j (by omega)), ⟨_, _, _, ((hE2 (18) (by omega)).trans i8), ((hE2 (19) (by omega)).trans i9), ((hE2 (20) (by omega)).trans i10)⟩, ⟨_, ((hE2 (21) (by omega)).trans i11)⟩, gReg_ag i12 (fun j _ _ => hE2 j (by omega)), uHs_ag i13 (fun j _ _ => hE2 j (by omega))⟩ hW1
set_option maxHeartbeats 4000000 in
theorem x_cut (X : LC p m c s D cy t A b L xs) (hI : INVx F cy a ra rb ha cnt f fn0 ff pn pf md K g nt) (hN : INVs cnt fn0 pn md nt) (hW : Wd D A s (LW F) H locs) (hsz : ls.size = 4) (hf : cells ≤ 600000 ∧ slots ≤ 7302250)  (n : Nat) (y_hn1 : n ≤ pn)
    (kk : ∀ (H1 : Heap) (locs1 : List Loc) (F1 : Nat → cellT), (∀ j, 82 ≤ j → F1 j = F j) → INVx F1 cy a ra rb ha cnt f fn0 ff n pf md K g nt → Wd D A s (LW F1) H1 locs1 → W p l e room_1 s m #[Value.ref b] below meth c H1 locs1 cells slots Q (F0 m 811 ls (.int (nI (pn - n)) :: []))) : W p l e room_1 s m #[Value.ref b] below meth c H locs cells slots Q (F0 m 808 ls [.int (nI (n)), .ref (a 0)]) := by
  obtain ⟨i0, i1, i2, ⟨i3, i4⟩, ⟨i5, i6⟩, i7, ⟨lv, of, oc, i8, i9, i10⟩, ⟨wd, i11⟩, i12, i13⟩ := hI
  refine kL (As := [.int (nI (n))]) (rest := []) X hW [0, 5, 6] (fun sz => c_X4_cut l D cy t (a 0) (a 1) (a 2) (a 3) (a 5) (a 7) (a 8) (a 11) (a 6) pn pf n hN.2.2.1 y_hn1 sz) rfl (And.intro i0 (And.intro i5 (And.intro i6 True.intro))) (by decide) (by decide) (cwV 1 X.1.2.2.2.2 gL_law_X4_cut rfl rfl rfl (by decide +kernel) ⟨Nat.le_of_ble_eq_true rfl, Nat.le_of_ble_eq_true rfl⟩) (fun _ => rfl) 0 4 rfl rfl rfl hsz rfl (Nat.le_of_ble_eq_true rfl) dL_law_808 hf (fun r9 u9 H1 locs1 F1 hp hE hq hW1 => ?_)
  have hr9 := hp
  replace hr9 : r9 = nI (pn - n) := hr9
  subst hr9
  obtain ⟨q0, q1, q2, -⟩ := hq
  have hE2 : ∀ j, ¬ (j = 5) → F1 j = F j := by
    intro j h9
    by_cases h8 : j = 0 ∨ j = 6
    · rcases h8 with h8 | h8
      · rw [h8]; exact q0.trans (i0).symm
      · rw [h8]; exact q2.trans (i6).symm
    · exact hE j (by simp only [List.mem_cons, List.not_mem_nil, or_false]; omega)
  exact kk H1 locs1 F1 (fun j hj => hE2 j (by omega)) ⟨((hE2 (0) (by omega)).trans i0), ((hE2 (1) (by omega)).trans i1), ((hE2 (2) (by omega)).trans i2), ⟨((hE2 (3) (by omega)).trans i3), ((hE2 (4) (by omega)).trans i4)⟩, ⟨q1, ((hE2 (6) (by omega)).trans i6)⟩, wH_ag i7 (fun j _ _ => hE2 j (by omega)), ⟨_, _, _, ((hE2 (18) (by omega)).trans i8), ((hE2 (19) (by omega)).trans i9), ((hE2 (20) (by omega)).trans i10)⟩, ⟨_, ((hE2 (21) (by omega)).trans i11)⟩, gReg_ag i12 (fun j _ _ => hE2 j (by omega)), uHs_ag i13 (fun j _ _ => hE2 j (by omega))⟩ hW1
set_option maxHeartbeats 4000000 in
theorem x_copy (X : LC p m c s D cy t A b L xs) (hI : INVx F cy a ra rb ha cnt f fn0 ff pn pf md K g nt) (hN : INVs cnt fn0 pn md nt) (hW : Wd D A s (LW F) H locs) (hsz : ls.size = 4) (hf : cells ≤ 600000 ∧ slots ≤ 7302250) {h : Nat} (hh : h < 4) {h2 : Nat} (hh2 : h2 < 4)  (hne : h ≠ h2)
    (kk : ∀ (H1 : Heap) (locs1 : List Loc) (F1 : Nat → cellT), (∀ j, 82 ≤ j → F1 j = F j) → INVx F1 cy a ra rb ha cnt f fn0 ff pn pf (upd md h (md h2)) (upF1 K h (K h2)) (upF1 g h (g h2)) (upN1 nt h (nt h2)) → Wd D A s (LW F1) H1 locs1 → W p l e room_1 s m #[Value.ref b] below meth c H1 locs1 cells slots Q (F0 m 506 ls (.int (nI ((nt h2))) :: []))) : W p l e room_1 s m #[Value.ref b] below meth c H locs cells slots Q (F0 m 503 ls [.int (nI (h)), .int (nI (h2)), .ref (a 0)]) := by
  obtain ⟨i0, i1, i2, ⟨i3, i4⟩, ⟨i5, i6⟩, i7, ⟨lv, of, oc, i8, i9, i10⟩, ⟨wd, i11⟩, i12, i13⟩ := hI
  obtain ⟨Ad, sf, ch, bl, v, w, nw, ct, ln, fl, eh, ⟨g0, g1, g2, g3, g4, g5, g6, g7, g8, g9, g10⟩, sk⟩ := i13 h hh
  rw [eh] at g0
  obtain ⟨Ae, sf2, che, ble, ve, we, nwe, cte, lne, fle, ee, ⟨e0, e1, e2, e3, e4, e5, e6, e7, e8, e9, e10⟩, ske⟩ := i13 h2 hh2
  rw [ee] at e0
  refine kL (As := [.int (nI (h2)), .int (nI (h))]) (rest := []) X hW [0, 2, 38 + 11 * h, 38 + 11 * h + 7, 38 + 11 * h + 8, 38 + 11 * h + 9, 38 + 11 * h + 10, 38 + 11 * h2, 38 + 11 * h2 + 7, 38 + 11 * h2 + 8, 38 + 11 * h2 + 9, 38 + 11 * h2 + 10] (fun sz => c_X4_copy l D cy t (a 0) (a 1) (a 2) (a 3) (a 5) (a 7) (a 8) (a 11) (fun i => some (ha i)) h h2 (Ad 1) (ha h) (Ad 7) (Ad 8) (Ad 9) (Ad 10) (md h) (bsO (md h)) 0 (nt h) (clo (nt h)) (hdp (nt h)) (hbk (nt h)) (hib (nt h)) (K h) sf (hcf (K h) (bsO (md h)) (g h) 0 (nt h)) (hbf (g h) (nt h)) (ha h2) (Ae 1) (Ae 7) (Ae 8) (Ae 9) (Ae 10) (md h2) (bsO (md h2)) 0 (nt h2) (clo (nt h2)) (hdp (nt h2)) (hbk (nt h2)) (hib (nt h2)) (K h2) sf2 (hcf (K h2) (bsO (md h2)) (g h2) 0 (nt h2)) (hbf (g h2) (nt h2)) rfl hh rfl hh2 sz) rfl (And.intro i0 (And.intro i2 (And.intro g0 (And.intro g7 (And.intro g8 (And.intro g9 (And.intro g10 (And.intro e0 (And.intro e7 (And.intro e8 (And.intro e9 (And.intro e10 True.intro)))))))))))) (by intro j hj; simp only [List.mem_cons, List.not_mem_nil, or_false] at hj; omega) (by simp only [List.nodup_cons, List.mem_cons, List.not_mem_nil, or_false, not_false_eq_true, List.nodup_nil, and_true]; omega) (cwV 2 X.1.2.2.2.2 gL_law_X4_copy rfl rfl rfl (by decide +kernel) ⟨Nat.le_of_ble_eq_true rfl, Nat.le_of_ble_eq_true rfl⟩) (fun _ => rfl) 0 4 rfl rfl rfl hsz rfl (Nat.le_of_ble_eq_true rfl) dL_law_503 hf (fun r9 u9 H1 locs1 F1 hp hE hq hW1 => ?_)
  have hr9 := hp
  replace hr9 : r9 = nI ((nt h2)) := hr9
  subst hr9
  obtain ⟨q0, q1, q2, q3, q4, q5, q6, q7, q8, q9, q10, q11, -⟩ := hq
  have hE2 : ∀ j, ¬ (j = 38 + 11 * h ∨ j = 38 + 11 * h + 7 ∨ j = 38 + 11 * h + 8 ∨ j = 38 + 11 * h + 9 ∨ j = 38 + 11 * h + 10) → F1 j = F j := by
    intro j h9
    by_cases h8 : j = 0 ∨ j = 2 ∨ j = 38 + 11 * h2 ∨ j = 38 + 11 * h2 + 7 ∨ j = 38 + 11 * h2 + 8 ∨ j = 38 + 11 * h2 + 9 ∨ j = 38 + 11 * h2 + 10
    · rcases h8 with h8 | h8 | h8 | h8 | h8 | h8 | h8
      · rw [h8]; exact q0.trans (i0).symm
      · rw [h8]; exact q1.trans (i2).symm
      · rw [h8]; exact q7.trans (e0).symm
      · rw [h8]; exact q8.trans (e7).symm
      · rw [h8]; exact q9.trans (e8).symm
      · rw [h8]; exact q10.trans (e9).symm
      · rw [h8]; exact q11.trans (e10).symm
    · exact hE j (by simp only [List.mem_cons, List.not_mem_nil, or_false]; omega)
  exact kk H1 locs1 F1 (fun j hj => hE2 j (by omega)) ⟨((hE2 (0) (by omega)).trans i0), ((hE2 (1) (by omega)).trans i1), ((hE2 (2) (by omega)).trans i2), ⟨((hE2 (3) (by omega)).trans i3), ((hE2 (4) (by omega)).trans i4)⟩, ⟨((hE2 (5) (by omega)).trans i5), ((hE2 (6) (by omega)).trans i6)⟩, wH_ag i7 (fun j _ _ => hE2 j (by omega)), ⟨_, _, _, ((hE2 (18) (by omega)).trans i8), ((hE2 (19) (by omega)).trans i9), ((hE2 (20) (by omega)).trans i10)⟩, ⟨_, ((hE2 (21) (by omega)).trans i11)⟩, gReg_ag i12 (fun j _ _ => hE2 j (by omega)), uHs_up i13 (k := h) ⟨upN1 Ad 0 (ha h), _, _, _, _, _, _, _, _, _, rfl, ⟨q2, ((hE2 (38 + 11 * h + 1) (by omega)).trans g1), ((hE2 (38 + 11 * h + 2) (by omega)).trans g2), ((hE2 (38 + 11 * h + 3) (by omega)).trans g3), ((hE2 (38 + 11 * h + 4) (by omega)).trans g4), ((hE2 (38 + 11 * h + 5) (by omega)).trans g5), ((hE2 (38 + 11 * h + 6) (by omega)).trans g6), q3, q4, q5, q6⟩, ske⟩ (fun j _ _ _ => hE2 j (by omega))⟩ hW1
set_option maxHeartbeats 4000000 in
theorem x_begin_0 (X : LC p m c s D cy t A b L xs) (hI : INVx F cy a ra rb ha cnt f fn0 ff pn pf md K g nt) (hN : INVs cnt fn0 pn md nt) (hW : Wd D A s (LW F) H locs) (hsz : ls.size = 4) (hf : cells ≤ 600000 ∧ slots ≤ 7302250) {h : Nat} (hh : h < 4) (x9 : Int32) 
    (kk : ∀ (H1 : Heap) (locs1 : List Loc) (F1 : Nat → cellT), (∀ j, 82 ≤ j → F1 j = F j) → INVx F1 cy a ra rb ha cnt f fn0 ff pn pf (upd md h (nI (0))) (upF1 K h stA) (upF1 g h (g h)) (upN1 nt h 0) → Wd D A s (LW F1) H1 locs1 → W p l e room_1 s m #[Value.ref b] below meth c H1 locs1 cells slots Q (F0 m 299 ls (.int (nI (0)) :: []))) : W p l e room_1 s m #[Value.ref b] below meth c H locs cells slots Q (F0 m 296 ls [.int (x9), .int (nI (0)), .int (nI (h)), .ref (a 0)]) := by
  obtain ⟨i0, i1, i2, ⟨i3, i4⟩, ⟨i5, i6⟩, i7, ⟨lv, of, oc, i8, i9, i10⟩, ⟨wd, i11⟩, i12, i13⟩ := hI
  obtain ⟨Ad, sf, ch, bl, v, w, nw, ct, ln, fl, eh, ⟨g0, g1, g2, g3, g4, g5, g6, g7, g8, g9, g10⟩, sk⟩ := i13 h hh
  rw [eh] at g0
  refine kL (As := [.int (nI (h)), .int (nI (0)), .int (x9)]) (rest := []) X hW [0, 2, 38 + 11 * h, 38 + 11 * h + 7, 38 + 11 * h + 9, 38 + 11 * h + 10] (fun sz => c_X4_begin_0 l D cy t (a 0) (a 1) (a 2) (a 3) (a 5) (a 7) (a 8) (a 11) (fun i => some (ha i)) h (Ad 1) (ha h) (Ad 7) (Ad 8) (Ad 9) (Ad 10) (md h) (bsO (md h)) 0 (nt h) (clo (nt h)) (hdp (nt h)) (hbk (nt h)) (hib (nt h)) (K h) (hcf (K h) (bsO (md h)) (g h) 0 (nt h)) (hbf (g h) (nt h)) x9 rfl hh sz) rfl (And.intro i0 (And.intro i2 (And.intro g0 (And.intro g7 (And.intro g9 (And.intro g10 True.intro)))))) (by intro j hj; simp only [List.mem_cons, List.not_mem_nil, or_false] at hj; omega) (by simp only [List.nodup_cons, List.mem_cons, List.not_mem_nil, or_false, not_false_eq_true, List.nodup_nil, and_true]; omega) (cwV 3 X.1.2.2.2.2 gL_law_X4_begin rfl rfl rfl (by decide +kernel) ⟨Nat.le_of_ble_eq_true rfl, Nat.le_of_ble_eq_true rfl⟩) (fun _ => rfl) 0 4 rfl rfl rfl hsz rfl (Nat.le_of_ble_eq_true rfl) dL_law_296 hf (fun r9 u9 H1 locs1 F1 hp hE hq hW1 => ?_)
  have hr9 := hp
  replace hr9 : r9 = nI (0) := hr9
  subst hr9
  obtain ⟨q0, q1, q2, q3, q4, q5, -⟩ := hq
  have hE2 : ∀ j, ¬ (j = 38 + 11 * h ∨ j = 38 + 11 * h + 7 ∨ j = 38 + 11 * h + 9 ∨ j = 38 + 11 * h + 10) → F1 j = F j := by
    intro j h9
    by_cases h8 : j = 0 ∨ j = 2
    · rcases h8 with h8 | h8
      · rw [h8]; exact q0.trans (i0).symm
      · rw [h8]; exact q1.trans (i2).symm
    · exact hE j (by simp only [List.mem_cons, List.not_mem_nil, or_false]; omega)
  exact kk H1 locs1 F1 (fun j hj => hE2 j (by omega)) ⟨((hE2 (0) (by omega)).trans i0), ((hE2 (1) (by omega)).trans i1), ((hE2 (2) (by omega)).trans i2), ⟨((hE2 (3) (by omega)).trans i3), ((hE2 (4) (by omega)).trans i4)⟩, ⟨((hE2 (5) (by omega)).trans i5), ((hE2 (6) (by omega)).trans i6)⟩, wH_ag i7 (fun j _ _ => hE2 j (by omega)), ⟨_, _, _, ((hE2 (18) (by omega)).trans i8), ((hE2 (19) (by omega)).trans i9), ((hE2 (20) (by omega)).trans i10)⟩, ⟨_, ((hE2 (21) (by omega)).trans i11)⟩, gReg_ag i12 (fun j _ _ => hE2 j (by omega)), uHs_up i13 (k := h) (uH_0 (Ad := upN1 Ad 0 (ha h)) (by decide) rfl ⟨q2, ((hE2 (38 + 11 * h + 1) (by omega)).trans g1), ((hE2 (38 + 11 * h + 2) (by omega)).trans g2), ((hE2 (38 + 11 * h + 3) (by omega)).trans g3), ((hE2 (38 + 11 * h + 4) (by omega)).trans g4), ((hE2 (38 + 11 * h + 5) (by omega)).trans g5), ((hE2 (38 + 11 * h + 6) (by omega)).trans g6), q3, ((hE2 (38 + 11 * h + 8) (by omega)).trans g8), q4, q5⟩) (fun j _ _ _ => hE2 j (by omega))⟩ hW1
set_option maxHeartbeats 4000000 in
theorem x_begin_1 (X : LC p m c s D cy t A b L xs) (hI : INVx F cy a ra rb ha cnt f fn0 ff pn pf md K g nt) (hN : INVs cnt fn0 pn md nt) (hW : Wd D A s (LW F) H locs) (hsz : ls.size = 4) (hf : cells ≤ 600000 ∧ slots ≤ 7302250) {r : Nat} (hr : r < 8) {h : Nat} (hh : h < 4)  (y_hc : (cnt r) ≤ 200) (y_h32 : (cnt r) = 32)
    (kk : ∀ (H1 : Heap) (locs1 : List Loc) (F1 : Nat → cellT), (∀ j, 82 ≤ j → F1 j = F j) → INVx F1 cy a ra rb ha cnt f fn0 ff pn pf (upd md h (nI (1))) (upF1 K h (fun k => wrd (lo8 (f r)) (4 * k))) (upF1 g h (g h)) (upN1 nt h 0) → Wd D A s (LW F1) H1 locs1 → W p l e room_1 s m #[Value.ref b] below meth c H1 locs1 cells slots Q (F0 m 299 ls (.int (nI (0)) :: []))) : W p l e room_1 s m #[Value.ref b] below meth c H locs cells slots Q (F0 m 296 ls [.int (nI (r)), .int (nI (1)), .int (nI (h)), .ref (a 0)]) := by
  obtain ⟨i0, i1, i2, ⟨i3, i4⟩, ⟨i5, i6⟩, i7, ⟨lv, of, oc, i8, i9, i10⟩, ⟨wd, i11⟩, i12, i13⟩ := hI
  obtain ⟨Ad, sf, ch, bl, v, w, nw, ct, ln, fl, eh, ⟨g0, g1, g2, g3, g4, g5, g6, g7, g8, g9, g10⟩, sk⟩ := i13 h hh
  rw [eh] at g0
  refine kL (As := [.int (nI (h)), .int (nI (1)), .int (nI (r))]) (rest := []) X hW [0, 2, 38 + 11 * h, 38 + 11 * h + 7, 38 + 11 * h + 9, 38 + 11 * h + 10, 1, 22 + 2 * r, 23 + 2 * r, 21] (fun sz => c_X4_begin_1 l D cy t (a 0) (a 1) (a 2) (a 3) (a 5) (a 7) (a 8) (a 11) (fun i => some (ha i)) h (Ad 1) (ha h) (Ad 7) (Ad 8) (Ad 9) (Ad 10) (md h) (bsO (md h)) 0 (nt h) (clo (nt h)) (hdp (nt h)) (hbk (nt h)) (hib (nt h)) (K h) (hcf (K h) (bsO (md h)) (g h) 0 (nt h)) (hbf (g h) (nt h)) (fun i => some (ra i)) r (ra r) (rb r) (cnt r) (f r) wd rfl hh rfl hr y_hc y_h32 sz) rfl (And.intro i0 (And.intro i2 (And.intro g0 (And.intro g7 (And.intro g9 (And.intro g10 (And.intro i1 (And.intro ((i12 r hr).1) (And.intro ((i12 r hr).2) (And.intro i11 True.intro)))))))))) (by intro j hj; simp only [List.mem_cons, List.not_mem_nil, or_false] at hj; omega) (by simp only [List.nodup_cons, List.mem_cons, List.not_mem_nil, or_false, not_false_eq_true, List.nodup_nil, and_true]; omega) (cwV 3 X.1.2.2.2.2 gL_law_X4_begin rfl rfl rfl (by decide +kernel) ⟨Nat.le_of_ble_eq_true rfl, Nat.le_of_ble_eq_true rfl⟩) (fun _ => rfl) 0 4 rfl rfl rfl hsz rfl (Nat.le_of_ble_eq_true rfl) dL_law_296 hf (fun r9 u9 H1 locs1 F1 hp hE hq hW1 => ?_)
  have hr9 := hp
  replace hr9 : r9 = nI (0) := hr9
  subst hr9
  obtain ⟨q0, q1, q2, q3, q4, q5, q6, q7, q8, q9, -⟩ := hq
  have hE2 : ∀ j, ¬ (j = 38 + 11 * h ∨ j = 38 + 11 * h + 7 ∨ j = 38 + 11 * h + 9 ∨ j = 38 + 11 * h + 10 ∨ j = 21) → F1 j = F j := by
    intro j h9
    by_cases h8 : j = 0 ∨ j = 2 ∨ j = 1 ∨ j = 22 + 2 * r ∨ j = 23 + 2 * r
    · rcases h8 with h8 | h8 | h8 | h8 | h8
      · rw [h8]; exact q0.trans (i0).symm
      · rw [h8]; exact q1.trans (i2).symm
      · rw [h8]; exact q6.trans (i1).symm
      · rw [h8]; exact q7.trans ((i12 r hr).1).symm
      · rw [h8]; exact q8.trans ((i12 r hr).2).symm
    · exact hE j (by simp only [List.mem_cons, List.not_mem_nil, or_false]; omega)
  exact kk H1 locs1 F1 (fun j hj => hE2 j (by omega)) ⟨((hE2 (0) (by omega)).trans i0), ((hE2 (1) (by omega)).trans i1), ((hE2 (2) (by omega)).trans i2), ⟨((hE2 (3) (by omega)).trans i3), ((hE2 (4) (by omega)).trans i4)⟩, ⟨((hE2 (5) (by omega)).trans i5), ((hE2 (6) (by omega)).trans i6)⟩, wH_ag i7 (fun j _ _ => hE2 j (by omega)), ⟨_, _, _, ((hE2 (18) (by omega)).trans i8), ((hE2 (19) (by omega)).trans i9), ((hE2 (20) (by omega)).trans i10)⟩, ⟨_, q9⟩, gReg_ag i12 (fun j _ _ => hE2 j (by omega)), uHs_up i13 (k := h) (uH_0 (Ad := upN1 Ad 0 (ha h)) (by decide) rfl ⟨q2, ((hE2 (38 + 11 * h + 1) (by omega)).trans g1), ((hE2 (38 + 11 * h + 2) (by omega)).trans g2), ((hE2 (38 + 11 * h + 3) (by omega)).trans g3), ((hE2 (38 + 11 * h + 4) (by omega)).trans g4), ((hE2 (38 + 11 * h + 5) (by omega)).trans g5), ((hE2 (38 + 11 * h + 6) (by omega)).trans g6), q3, ((hE2 (38 + 11 * h + 8) (by omega)).trans g8), q4, q5⟩) (fun j _ _ _ => hE2 j (by omega))⟩ hW1
set_option maxHeartbeats 4000000 in
theorem x_begin_2 (X : LC p m c s D cy t A b L xs) (hI : INVx F cy a ra rb ha cnt f fn0 ff pn pf md K g nt) (hN : INVs cnt fn0 pn md nt) (hW : Wd D A s (LW F) H locs) (hsz : ls.size = 4) (hf : cells ≤ 600000 ∧ slots ≤ 7302250) {r : Nat} (hr : r < 8) {h : Nat} (hh : h < 4)  (y_hc : (cnt r) ≤ 200)
    (kk : ∀ (H1 : Heap) (locs1 : List Loc) (F1 : Nat → cellT), (∀ j, 82 ≤ j → F1 j = F j) → INVx F1 cy a ra rb ha cnt f fn0 ff pn pf (upd md h (nI (2))) (upF1 K h (mixV (rtN stA (nI (32)) (lo8 (f r)) 0 (cnt r)).1 (rtN stA (nI (32)) (lo8 (f r)) 0 (cnt r)).2.1 (rtN stA (nI (32)) (lo8 (f r)) 0 (cnt r)).2.2.1 (rtN stA (nI (32)) (lo8 (f r)) 0 (cnt r)).2.2.2.1 ((rtN stA (nI (32)) (lo8 (f r)) 0 (cnt r)).2.2.2.2 ||| (nI (8))))) (upF1 g h (g h)) (upN1 nt h 0) → Wd D A s (LW F1) H1 locs1 → W p l e room_1 s m #[Value.ref b] below meth c H1 locs1 cells slots Q (F0 m 299 ls (.int (nI (0)) :: []))) : W p l e room_1 s m #[Value.ref b] below meth c H locs cells slots Q (F0 m 296 ls [.int (nI (r)), .int (nI (2)), .int (nI (h)), .ref (a 0)]) := by
  obtain ⟨i0, i1, i2, ⟨i3, i4⟩, ⟨i5, i6⟩, i7, ⟨lv, of, oc, i8, i9, i10⟩, ⟨wd, i11⟩, i12, i13⟩ := hI
  obtain ⟨Ad, sf, ch, bl, v, w, nw, ct, ln, fl, eh, ⟨g0, g1, g2, g3, g4, g5, g6, g7, g8, g9, g10⟩, sk⟩ := i13 h hh
  rw [eh] at g0
  have i7k := i7
  obtain ⟨Ak, kmd, kbs, kfc, ktk, kcl, kdp, kbk, kib, kkf, ksf, kcf, kbf, kch, kbl, kv, kw, knw, kct, kln, kfl, ek, ⟨k0, k1, k2, k3, k4, k5, k6, k7, k8, k9, k10⟩⟩ := i7k
  rw [ek] at k0
  refine kL (As := [.int (nI (h)), .int (nI (2)), .int (nI (r))]) (rest := []) X hW [0, 2, 38 + 11 * h, 38 + 11 * h + 7, 38 + 11 * h + 9, 38 + 11 * h + 10, 1, 22 + 2 * r, 23 + 2 * r, 21, 7, 14, 15, 16, 17, 8, 9, 10, 11, 12, 13] (fun sz => c_X4_begin_2 l D cy t (a 0) (a 1) (a 2) (a 3) (a 5) (a 7) (a 8) (a 11) (fun i => some (ha i)) h (Ad 1) (ha h) (Ad 7) (Ad 8) (Ad 9) (Ad 10) (md h) (bsO (md h)) 0 (nt h) (clo (nt h)) (hdp (nt h)) (hbk (nt h)) (hib (nt h)) (K h) (hcf (K h) (bsO (md h)) (g h) 0 (nt h)) (hbf (g h) (nt h)) (fun i => some (ra i)) r (ra r) (rb r) (cnt r) (f r) wd (Ak 1) (Ak 2) (Ak 3) (Ak 4) (Ak 5) (Ak 6) kct kln kfl (Ak 7) (Ak 8) (Ak 9) (Ak 10) kmd kbs kfc ktk kcl kdp kbk kib kkf ksf kcf kbf kch kbl kv kw knw rfl hh rfl hr y_hc sz) rfl (And.intro i0 (And.intro i2 (And.intro g0 (And.intro g7 (And.intro g9 (And.intro g10 (And.intro i1 (And.intro ((i12 r hr).1) (And.intro ((i12 r hr).2) (And.intro i11 (And.intro k0 (And.intro k7 (And.intro k8 (And.intro k9 (And.intro k10 (And.intro k1 (And.intro k2 (And.intro k3 (And.intro k4 (And.intro k5 (And.intro k6 True.intro))))))))))))))))))))) (by intro j hj; simp only [List.mem_cons, List.not_mem_nil, or_false] at hj; omega) (by simp only [List.nodup_cons, List.mem_cons, List.not_mem_nil, or_false, not_false_eq_true, List.nodup_nil, and_true]; omega) (cwV 3 X.1.2.2.2.2 gL_law_X4_begin rfl rfl rfl (by decide +kernel) ⟨Nat.le_of_ble_eq_true rfl, Nat.le_of_ble_eq_true rfl⟩) (fun ⟨_, _, _, _, _⟩ => rfl) 0 4 rfl rfl rfl hsz rfl (Nat.le_of_ble_eq_true rfl) dL_law_296 hf (fun r9 u9 H1 locs1 F1 hp hE hq hW1 => ?_)
  obtain ⟨sf2_, aw2_, an2_, w2_, nw2_⟩ := u9
  have hr9 := hp
  replace hr9 : r9 = nI (0) := hr9
  subst hr9
  obtain ⟨q0, q1, q2, q3, q4, q5, q6, q7, q8, q9, q10, q11, q12, q13, q14, q15, q16, q17, q18, q19, q20, -⟩ := hq
  have hE2 : ∀ j, ¬ (j = 38 + 11 * h ∨ j = 38 + 11 * h + 7 ∨ j = 38 + 11 * h + 9 ∨ j = 38 + 11 * h + 10 ∨ j = 21 ∨ j = 7 ∨ j = 14 ∨ j = 15 ∨ j = 16 ∨ j = 17 ∨ j = 8 ∨ j = 9 ∨ j = 10 ∨ j = 11 ∨ j = 12 ∨ j = 13) → F1 j = F j := by
    intro j h9
    by_cases h8 : j = 0 ∨ j = 2 ∨ j = 1 ∨ j = 22 + 2 * r ∨ j = 23 + 2 * r
    · rcases h8 with h8 | h8 | h8 | h8 | h8
      · rw [h8]; exact q0.trans (i0).symm
      · rw [h8]; exact q1.trans (i2).symm
      · rw [h8]; exact q6.trans (i1).symm
      · rw [h8]; exact q7.trans ((i12 r hr).1).symm
      · rw [h8]; exact q8.trans ((i12 r hr).2).symm
    · exact hE j (by simp only [List.mem_cons, List.not_mem_nil, or_false]; omega)
  exact kk H1 locs1 F1 (fun j hj => hE2 j (by omega)) ⟨((hE2 (0) (by omega)).trans i0), ((hE2 (1) (by omega)).trans i1), ((hE2 (2) (by omega)).trans i2), ⟨((hE2 (3) (by omega)).trans i3), ((hE2 (4) (by omega)).trans i4)⟩, ⟨((hE2 (5) (by omega)).trans i5), ((hE2 (6) (by omega)).trans i6)⟩, ⟨upN1 (upN1 (upN1 Ak 0 (a 7)) 5 aw2_) 6 an2_, _, _, _, _, _, _, _, _, _, _, _, _, _, _, _, _, _, _, _, _, rfl, q10, q15, q16, q17, q18, q19, q20, q11, q12, q13, q14⟩, ⟨_, _, _, ((hE2 (18) (by omega)).trans i8), ((hE2 (19) (by omega)).trans i9), ((hE2 (20) (by omega)).trans i10)⟩, ⟨_, q9⟩, gReg_ag i12 (fun j _ _ => hE2 j (by omega)), uHs_up i13 (k := h) (uH_0 (Ad := upN1 Ad 0 (ha h)) (by decide) rfl ⟨q2, ((hE2 (38 + 11 * h + 1) (by omega)).trans g1), ((hE2 (38 + 11 * h + 2) (by omega)).trans g2), ((hE2 (38 + 11 * h + 3) (by omega)).trans g3), ((hE2 (38 + 11 * h + 4) (by omega)).trans g4), ((hE2 (38 + 11 * h + 5) (by omega)).trans g5), ((hE2 (38 + 11 * h + 6) (by omega)).trans g6), q3, ((hE2 (38 + 11 * h + 8) (by omega)).trans g8), q4, q5⟩) (fun j _ _ _ => hE2 j (by omega))⟩ hW1
set_option maxHeartbeats 4000000 in
theorem x_take (X : LC p m c s D cy t A b L xs) (hI : INVx F cy a ra rb ha cnt f fn0 ff pn pf md K g nt) (hN : INVs cnt fn0 pn md nt) (hW : Wd D A s (LW F) H locs) (hsz : ls.size = 4) (hf : cells ≤ 600000 ∧ slots ≤ 7302250) {r : Nat} (hr : r < 8) {h : Nat} (hh : h < 4)  (y_hc : (cnt r) ≤ 200) (y_ht : (nt h) + (cnt r) ≤ 40000) (y_hg : ∀ i, i < (cnt r) → (apG (g h) (nt h) (lo8 (f r)) (cnt r)) ((nt h) + i) = (f r) i &&& 255)
    (kk : ∀ (H1 : Heap) (locs1 : List Loc) (F1 : Nat → cellT), (∀ j, 82 ≤ j → F1 j = F j) → INVx F1 cy a ra rb ha cnt f fn0 ff pn pf (upd md h (md h)) (upF1 K h (K h)) (upF1 g h (apG (g h) (nt h) (lo8 (f r)) (cnt r))) (upN1 nt h ((nt h) + (cnt r))) → Wd D A s (LW F1) H1 locs1 → W p l e room_1 s m #[Value.ref b] below meth c H1 locs1 cells slots Q (F0 m 337 ls (.int (nI ((nt h) + (cnt r))) :: []))) : W p l e room_1 s m #[Value.ref b] below meth c H locs cells slots Q (F0 m 334 ls [.int (nI (r)), .int (nI (h)), .ref (a 0)]) := by
  obtain ⟨i0, i1, i2, ⟨i3, i4⟩, ⟨i5, i6⟩, i7, ⟨lv, of, oc, i8, i9, i10⟩, ⟨wd, i11⟩, i12, i13⟩ := hI
  obtain ⟨Ad, sf, ch, bl, v, w, nw, ct, ln, fl, eh, ⟨g0, g1, g2, g3, g4, g5, g6, g7, g8, g9, g10⟩, sk⟩ := i13 h hh
  rw [eh] at g0
  rw [hcf_congr (ag_c (x := lo8 (f r)) (k := cnt r))] at g9
  rw [hbf_congr (ag_c (x := lo8 (f r)) (k := cnt r))] at g10
  rw [skS_congr (g' := apG (g h) (nt h) (lo8 (f r)) (cnt r)) (fun i hi => ag_c i (Nat.lt_of_lt_of_le hi (clo_mul _)))] at sk
  refine kL (As := [.int (nI (h)), .int (nI (r))]) (rest := []) X hW [0, 2, 38 + 11 * h, 38 + 11 * h + 7, 38 + 11 * h + 8, 38 + 11 * h + 9, 38 + 11 * h + 10, 38 + 11 * h + 1, 38 + 11 * h + 2, 38 + 11 * h + 3, 38 + 11 * h + 4, 38 + 11 * h + 5, 38 + 11 * h + 6, 1, 22 + 2 * r, 23 + 2 * r] (fun sz => c_X4_take l D cy t (a 0) (a 1) (a 2) (a 3) (a 5) (a 7) (a 8) (a 11) (fun i => some (ha i)) h (Ad 1) (Ad 2) (Ad 3) (Ad 4) (Ad 5) (Ad 6) ct ln fl (ha h) (Ad 7) (Ad 8) (Ad 9) (Ad 10) (md h) (bsO (md h)) 0 (nt h) (K h) sf (apG (g h) (nt h) (lo8 (f r)) (cnt r)) ch bl v w nw (fun i => some (ra i)) r (ra r) (rb r) (cnt r) (f r) rfl hh rfl hr y_hc (Nat.zero_le _) sk y_ht y_hg sz) rfl (And.intro i0 (And.intro i2 (And.intro g0 (And.intro g7 (And.intro g8 (And.intro g9 (And.intro g10 (And.intro g1 (And.intro g2 (And.intro g3 (And.intro g4 (And.intro g5 (And.intro g6 (And.intro i1 (And.intro ((i12 r hr).1) (And.intro ((i12 r hr).2) True.intro)))))))))))))))) (by intro j hj; simp only [List.mem_cons, List.not_mem_nil, or_false] at hj; omega) (by simp only [List.nodup_cons, List.mem_cons, List.not_mem_nil, or_false, not_false_eq_true, List.nodup_nil, and_true]; omega) (cwV 2 X.1.2.2.2.2 gL_law_X4_take rfl rfl rfl (by decide +kernel) ⟨Nat.le_of_ble_eq_true rfl, Nat.le_of_ble_eq_true rfl⟩) (fun ⟨_, _, _, _, _, _, _, _, _, _, _⟩ => rfl) 0 4 rfl rfl rfl hsz rfl (Nat.le_of_ble_eq_true rfl) dL_law_334 hf (fun r9 u9 H1 locs1 F1 hp hE hq hW1 => ?_)
  obtain ⟨sf2_, ch2_, bl2_, ct2_, ln2_, fl2_, v2_, aw2_, an2_, w2_, nw2_⟩ := u9
  obtain ⟨hr9, fc1⟩ := hp
  replace hr9 : r9 = nI ((nt h) + (cnt r)) := hr9
  subst hr9
  obtain ⟨q0, q1, q2, q3, q4, q5, q6, q7, q8, q9, q10, q11, q12, q13, q14, q15, -⟩ := hq
  have hE2 : ∀ j, ¬ (j = 38 + 11 * h ∨ j = 38 + 11 * h + 8 ∨ j = 38 + 11 * h + 9 ∨ j = 38 + 11 * h + 10 ∨ j = 38 + 11 * h + 1 ∨ j = 38 + 11 * h + 2 ∨ j = 38 + 11 * h + 3 ∨ j = 38 + 11 * h + 4 ∨ j = 38 + 11 * h + 5 ∨ j = 38 + 11 * h + 6) → F1 j = F j := by
    intro j h9
    by_cases h8 : j = 0 ∨ j = 2 ∨ j = 38 + 11 * h + 7 ∨ j = 1 ∨ j = 22 + 2 * r ∨ j = 23 + 2 * r
    · rcases h8 with h8 | h8 | h8 | h8 | h8 | h8
      · rw [h8]; exact q0.trans (i0).symm
      · rw [h8]; exact q1.trans (i2).symm
      · rw [h8]; exact q3.trans (g7).symm
      · rw [h8]; exact q13.trans (i1).symm
      · rw [h8]; exact q14.trans ((i12 r hr).1).symm
      · rw [h8]; exact q15.trans ((i12 r hr).2).symm
    · exact hE j (by simp only [List.mem_cons, List.not_mem_nil, or_false]; omega)
  exact kk H1 locs1 F1 (fun j hj => hE2 j (by omega)) ⟨((hE2 (0) (by omega)).trans i0), ((hE2 (1) (by omega)).trans i1), ((hE2 (2) (by omega)).trans i2), ⟨((hE2 (3) (by omega)).trans i3), ((hE2 (4) (by omega)).trans i4)⟩, ⟨((hE2 (5) (by omega)).trans i5), ((hE2 (6) (by omega)).trans i6)⟩, wH_ag i7 (fun j _ _ => hE2 j (by omega)), ⟨_, _, _, ((hE2 (18) (by omega)).trans i8), ((hE2 (19) (by omega)).trans i9), ((hE2 (20) (by omega)).trans i10)⟩, ⟨_, ((hE2 (21) (by omega)).trans i11)⟩, gReg_ag i12 (fun j _ _ => hE2 j (by omega)), uHs_up i13 (k := h) ⟨upN1 (upN1 (upN1 Ad 0 (ha h)) 5 aw2_) 6 an2_, _, _, _, _, _, _, _, _, _, rfl, ⟨q2, q7, q8, q9, q10, q11, q12, ((hE2 (38 + 11 * h + 7) (by omega)).trans g7), q4, q5, q6⟩, fc1⟩ (fun j _ _ _ => hE2 j (by omega))⟩ hW1
set_option maxHeartbeats 4000000 in
theorem x_fill (X : LC p m c s D cy t A b L xs) (hI : INVx F cy a ra rb ha cnt f fn0 ff pn pf md K g nt) (hN : INVs cnt fn0 pn md nt) (hW : Wd D A s (LW F) H locs) (hsz : ls.size = 4) (hf : cells ≤ 600000 ∧ slots ≤ 7302250) {h : Nat} (hh : h < 4) (n : Nat) (fr : Int32) (sp : Int32) (y_hn5 : n ≤ 5000) (y_ht : (nt h) + n ≤ 40000) (y_hg : ∀ i, i < n → (apG (g h) (nt h) (fun i => (fr + nI i * sp) &&& nI 255) n) ((nt h) + i) = (fr + (nI i * sp)) &&& nI 255)
    (kk : ∀ (H1 : Heap) (locs1 : List Loc) (F1 : Nat → cellT), (∀ j, 82 ≤ j → F1 j = F j) → INVx F1 cy a ra rb ha cnt f fn0 ff pn pf (upd md h (md h)) (upF1 K h (K h)) (upF1 g h (apG (g h) (nt h) (fun i => (fr + nI i * sp) &&& nI 255) n)) (upN1 nt h ((nt h) + n)) → Wd D A s (LW F1) H1 locs1 → W p l e room_1 s m #[Value.ref b] below meth c H1 locs1 cells slots Q (F0 m 380 ls (.int (nI ((nt h) + n)) :: []))) : W p l e room_1 s m #[Value.ref b] below meth c H locs cells slots Q (F0 m 377 ls [.int (sp), .int (fr), .int (nI (n)), .int (nI (h)), .ref (a 0)]) := by
  obtain ⟨i0, i1, i2, ⟨i3, i4⟩, ⟨i5, i6⟩, i7, ⟨lv, of, oc, i8, i9, i10⟩, ⟨wd, i11⟩, i12, i13⟩ := hI
  obtain ⟨Ad, sf, ch, bl, v, w, nw, ct, ln, fl, eh, ⟨g0, g1, g2, g3, g4, g5, g6, g7, g8, g9, g10⟩, sk⟩ := i13 h hh
  rw [eh] at g0
  rw [hcf_congr (ag_c (x := fun i => (fr + nI i * sp) &&& nI 255) (k := n))] at g9
  rw [hbf_congr (ag_c (x := fun i => (fr + nI i * sp) &&& nI 255) (k := n))] at g10
  rw [skS_congr (g' := apG (g h) (nt h) (fun i => (fr + nI i * sp) &&& nI 255) (n)) (fun i hi => ag_c i (Nat.lt_of_lt_of_le hi (clo_mul _)))] at sk
  refine kL (As := [.int (nI (h)), .int (nI (n)), .int (fr), .int (sp)]) (rest := []) X hW [0, 2, 38 + 11 * h, 38 + 11 * h + 7, 38 + 11 * h + 8, 38 + 11 * h + 9, 38 + 11 * h + 10, 38 + 11 * h + 1, 38 + 11 * h + 2, 38 + 11 * h + 3, 38 + 11 * h + 4, 38 + 11 * h + 5, 38 + 11 * h + 6] (fun sz => c_X4_fill l D cy t (a 0) (a 1) (a 2) (a 3) (a 5) (a 7) (a 8) (a 11) (fun i => some (ha i)) h (Ad 1) (Ad 2) (Ad 3) (Ad 4) (Ad 5) (Ad 6) ct ln fl (ha h) (Ad 7) (Ad 8) (Ad 9) (Ad 10) (md h) (bsO (md h)) 0 (nt h) (K h) sf (apG (g h) (nt h) (fun i => (fr + nI i * sp) &&& nI 255) n) ch bl v w nw n fr sp rfl hh (Nat.zero_le _) sk y_hn5 y_ht y_hg sz) rfl (And.intro i0 (And.intro i2 (And.intro g0 (And.intro g7 (And.intro g8 (And.intro g9 (And.intro g10 (And.intro g1 (And.intro g2 (And.intro g3 (And.intro g4 (And.intro g5 (And.intro g6 True.intro))))))))))))) (by intro j hj; simp only [List.mem_cons, List.not_mem_nil, or_false] at hj; omega) (by simp only [List.nodup_cons, List.mem_cons, List.not_mem_nil, or_false, not_false_eq_true, List.nodup_nil, and_true]; omega) (cwV 4 X.1.2.2.2.2 gL_law_X4_fill rfl rfl rfl (by decide +kernel) ⟨Nat.le_of_ble_eq_true rfl, Nat.le_of_ble_eq_true rfl⟩) (fun ⟨_, _, _, _, _, _, _, _, _, _, _⟩ => rfl) 0 4 rfl rfl rfl hsz rfl (Nat.le_of_ble_eq_true rfl) dL_law_377 hf (fun r9 u9 H1 locs1 F1 hp hE hq hW1 => ?_)
  obtain ⟨sf2_, ch2_, bl2_, ct2_, ln2_, fl2_, v2_, aw2_, an2_, w2_, nw2_⟩ := u9
  obtain ⟨hr9, fc1⟩ := hp
  replace hr9 : r9 = nI ((nt h) + n) := hr9
  subst hr9
  obtain ⟨q0, q1, q2, q3, q4, q5, q6, q7, q8, q9, q10, q11, q12, -⟩ := hq
  have hE2 : ∀ j, ¬ (j = 38 + 11 * h ∨ j = 38 + 11 * h + 8 ∨ j = 38 + 11 * h + 9 ∨ j = 38 + 11 * h + 10 ∨ j = 38 + 11 * h + 1 ∨ j = 38 + 11 * h + 2 ∨ j = 38 + 11 * h + 3 ∨ j = 38 + 11 * h + 4 ∨ j = 38 + 11 * h + 5 ∨ j = 38 + 11 * h + 6) → F1 j = F j := by
    intro j h9
    by_cases h8 : j = 0 ∨ j = 2 ∨ j = 38 + 11 * h + 7
    · rcases h8 with h8 | h8 | h8
      · rw [h8]; exact q0.trans (i0).symm
      · rw [h8]; exact q1.trans (i2).symm
      · rw [h8]; exact q3.trans (g7).symm
    · exact hE j (by simp only [List.mem_cons, List.not_mem_nil, or_false]; omega)
  exact kk H1 locs1 F1 (fun j hj => hE2 j (by omega)) ⟨((hE2 (0) (by omega)).trans i0), ((hE2 (1) (by omega)).trans i1), ((hE2 (2) (by omega)).trans i2), ⟨((hE2 (3) (by omega)).trans i3), ((hE2 (4) (by omega)).trans i4)⟩, ⟨((hE2 (5) (by omega)).trans i5), ((hE2 (6) (by omega)).trans i6)⟩, wH_ag i7 (fun j _ _ => hE2 j (by omega)), ⟨_, _, _, ((hE2 (18) (by omega)).trans i8), ((hE2 (19) (by omega)).trans i9), ((hE2 (20) (by omega)).trans i10)⟩, ⟨_, ((hE2 (21) (by omega)).trans i11)⟩, gReg_ag i12 (fun j _ _ => hE2 j (by omega)), uHs_up i13 (k := h) ⟨upN1 (upN1 (upN1 Ad 0 (ha h)) 5 aw2_) 6 an2_, _, _, _, _, _, _, _, _, _, rfl, ⟨q2, q7, q8, q9, q10, q11, q12, ((hE2 (38 + 11 * h + 7) (by omega)).trans g7), q4, q5, q6⟩, fc1⟩ (fun j _ _ _ => hE2 j (by omega))⟩ hW1
set_option maxHeartbeats 4000000 in
theorem x_output (X : LC p m c s D cy t A b L xs) (hI : INVx F cy a ra rb ha cnt f fn0 ff pn pf md K g nt) (hN : INVs cnt fn0 pn md nt) (hW : Wd D A s (LW F) H locs) (hsz : ls.size = 4) (hf : cells ≤ 600000 ∧ slots ≤ 7302250) {r : Nat} (hr : r < 8) {h : Nat} (hh : h < 4) (n : Nat) (pl : Nat) (y_hc : (cnt r) ≤ 200) (y_ht : (nt h) ≤ 40000) (y_hn2 : n ≤ 200) (y_hpl : pl ≤ 2 ^ 62)
    (kk : ∀ (H1 : Heap) (locs1 : List Loc) (F1 : Nat → cellT), (∀ j, 82 ≤ j → F1 j = F j) → INVx F1 cy a ra rb ha (upN1 cnt r n) (upF1 f r (apG (f r) 0 (fun k => b8 (outB (rtN (K h) (bsO (md h)) (g h) 0 (nt h)).1 (rtN (K h) (bsO (md h)) (g h) 0 (nt h)).2.1 (rtN (K h) (bsO (md h)) (g h) 0 (nt h)).2.2.2.1 ((rtN (K h) (bsO (md h)) (g h) 0 (nt h)).2.2.2.2 ||| (nI (8))) (pl + k))) n)) fn0 ff pn pf md K g nt → Wd D A s (LW F1) H1 locs1 → W p l e room_1 s m #[Value.ref b] below meth c H1 locs1 cells slots Q (F0 m 448 ls (.int (nI (n)) :: []))) : W p l e room_1 s m #[Value.ref b] below meth c H locs cells slots Q (F0 m 445 ls [.long (lN pl), .int (nI (n)), .int (nI (r)), .int (nI (h)), .ref (a 0)]) := by
  obtain ⟨i0, i1, i2, ⟨i3, i4⟩, ⟨i5, i6⟩, i7, ⟨lv, of, oc, i8, i9, i10⟩, ⟨wd, i11⟩, i12, i13⟩ := hI
  obtain ⟨Ad, sf, ch, bl, v, w, nw, ct, ln, fl, eh, ⟨g0, g1, g2, g3, g4, g5, g6, g7, g8, g9, g10⟩, sk⟩ := i13 h hh
  rw [eh] at g0
  refine kL (As := [.int (nI (h)), .int (nI (r)), .int (nI (n)), .long (lN pl)]) (rest := []) X hW [0, 2, 38 + 11 * h, 38 + 11 * h + 7, 38 + 11 * h + 8, 38 + 11 * h + 9, 38 + 11 * h + 10, 38 + 11 * h + 1, 38 + 11 * h + 2, 38 + 11 * h + 3, 38 + 11 * h + 4, 38 + 11 * h + 5, 38 + 11 * h + 6, 1, 22 + 2 * r, 23 + 2 * r] (fun sz => c_X4_output l D cy t (a 0) (a 1) (a 2) (a 3) (a 5) (a 7) (a 8) (a 11) (fun i => some (ha i)) h (Ad 1) (Ad 2) (Ad 3) (Ad 4) (Ad 5) (Ad 6) ct ln fl (ha h) (Ad 7) (Ad 8) (Ad 9) (Ad 10) (md h) (bsO (md h)) 0 (nt h) (K h) sf (g h) ch bl v w nw (fun i => some (ra i)) r (ra r) (rb r) (cnt r) (f r) n pl rfl hh rfl hr y_hc (Nat.zero_le _) sk y_ht y_hn2 y_hpl sz) rfl (And.intro i0 (And.intro i2 (And.intro g0 (And.intro g7 (And.intro g8 (And.intro g9 (And.intro g10 (And.intro g1 (And.intro g2 (And.intro g3 (And.intro g4 (And.intro g5 (And.intro g6 (And.intro i1 (And.intro ((i12 r hr).1) (And.intro ((i12 r hr).2) True.intro)))))))))))))))) (by intro j hj; simp only [List.mem_cons, List.not_mem_nil, or_false] at hj; omega) (by simp only [List.nodup_cons, List.mem_cons, List.not_mem_nil, or_false, not_false_eq_true, List.nodup_nil, and_true]; omega) (cwV 4 X.1.2.2.2.2 gL_law_X4_output rfl rfl rfl (by decide +kernel) ⟨Nat.le_of_ble_eq_true rfl, Nat.le_of_ble_eq_true rfl⟩) (fun ⟨_, _, _, _, _, _⟩ => rfl) 0 4 rfl rfl rfl hsz rfl (Nat.le_of_ble_eq_true rfl) dL_law_445 hf (fun r9 u9 H1 locs1 F1 hp hE hq hW1 => ?_)
  obtain ⟨ct2_, v2_, aw2_, an2_, w2_, nw2_⟩ := u9
  have hr9 := hp
  replace hr9 : r9 = nI (n) := hr9
  subst hr9
  obtain ⟨q0, q1, q2, q3, q4, q5, q6, q7, q8, q9, q10, q11, q12, q13, q14, q15, -⟩ := hq
  have hE2 : ∀ j, ¬ (j = 38 + 11 * h + 1 ∨ j = 38 + 11 * h + 2 ∨ j = 38 + 11 * h + 3 ∨ j = 38 + 11 * h + 4 ∨ j = 38 + 11 * h + 5 ∨ j = 38 + 11 * h + 6 ∨ j = 22 + 2 * r ∨ j = 23 + 2 * r) → F1 j = F j := by
    intro j h9
    by_cases h8 : j = 0 ∨ j = 2 ∨ j = 38 + 11 * h ∨ j = 38 + 11 * h + 7 ∨ j = 38 + 11 * h + 8 ∨ j = 38 + 11 * h + 9 ∨ j = 38 + 11 * h + 10 ∨ j = 1
    · rcases h8 with h8 | h8 | h8 | h8 | h8 | h8 | h8 | h8
      · rw [h8]; exact q0.trans (i0).symm
      · rw [h8]; exact q1.trans (i2).symm
      · rw [h8]; exact q2.trans (g0).symm
      · rw [h8]; exact q3.trans (g7).symm
      · rw [h8]; exact q4.trans (g8).symm
      · rw [h8]; exact q5.trans (g9).symm
      · rw [h8]; exact q6.trans (g10).symm
      · rw [h8]; exact q13.trans (i1).symm
    · exact hE j (by simp only [List.mem_cons, List.not_mem_nil, or_false]; omega)
  exact kk H1 locs1 F1 (fun j hj => hE2 j (by omega)) ⟨((hE2 (0) (by omega)).trans i0), ((hE2 (1) (by omega)).trans i1), ((hE2 (2) (by omega)).trans i2), ⟨((hE2 (3) (by omega)).trans i3), ((hE2 (4) (by omega)).trans i4)⟩, ⟨((hE2 (5) (by omega)).trans i5), ((hE2 (6) (by omega)).trans i6)⟩, wH_ag i7 (fun j _ _ => hE2 j (by omega)), ⟨_, _, _, ((hE2 (18) (by omega)).trans i8), ((hE2 (19) (by omega)).trans i9), ((hE2 (20) (by omega)).trans i10)⟩, ⟨_, ((hE2 (21) (by omega)).trans i11)⟩, gReg_up i12 q14 q15 (fun j _ _ _ _ => hE2 j (by omega)), uHs_sm i13 (k := h) ⟨upN1 (upN1 (upN1 Ad 0 (ha h)) 5 aw2_) 6 an2_, _, _, _, _, _, _, _, _, _, rfl, ⟨((hE2 (38 + 11 * h) (by omega)).trans g0), q7, q8, q9, q10, q11, q12, ((hE2 (38 + 11 * h + 7) (by omega)).trans g7), ((hE2 (38 + 11 * h + 8) (by omega)).trans g8), ((hE2 (38 + 11 * h + 9) (by omega)).trans g9), ((hE2 (38 + 11 * h + 10) (by omega)).trans g10)⟩, sk⟩ (fun j _ _ _ => hE2 j (by omega))⟩ hW1
set_option maxHeartbeats 4000000 in
theorem x_root (X : LC p m c s D cy t A b L xs) (hI : INVx F cy a ra rb ha cnt f fn0 ff pn pf md K g nt) (hN : INVs cnt fn0 pn md nt) (hW : Wd D A s (LW F) H locs) (hsz : ls.size = 4) (hf : cells ≤ 600000 ∧ slots ≤ 7302250) {r : Nat} (hr : r < 8)  (y_hc : (cnt r) ≤ 200)
    (kk : ∀ (H1 : Heap) (locs1 : List Loc) (F1 : Nat → cellT), (∀ j, 82 ≤ j → F1 j = F j) → INVx F1 cy a ra rb ha (upN1 cnt r 32) (upF1 f r (apG (f r) 0 (fun k => b8 (outB (rtN stA (nI (0)) (fun k => lo8 ff (0 + k)) 0 fn0).1 (rtN stA (nI (0)) (fun k => lo8 ff (0 + k)) 0 fn0).2.1 (rtN stA (nI (0)) (fun k => lo8 ff (0 + k)) 0 fn0).2.2.2.1 ((rtN stA (nI (0)) (fun k => lo8 ff (0 + k)) 0 fn0).2.2.2.2 ||| (nI (8))) (0 + k))) 32)) fn0 ff pn pf md K g nt → Wd D A s (LW F1) H1 locs1 → W p l e room_1 s m #[Value.ref b] below meth c H1 locs1 cells slots Q (F0 m 709 ls (.int (nI (fn0)) :: []))) : W p l e room_1 s m #[Value.ref b] below meth c H locs cells slots Q (F0 m 706 ls [.int (nI (r)), .ref (a 0)]) := by
  obtain ⟨i0, i1, i2, ⟨i3, i4⟩, ⟨i5, i6⟩, i7, ⟨lv, of, oc, i8, i9, i10⟩, ⟨wd, i11⟩, i12, i13⟩ := hI
  have i7k := i7
  obtain ⟨Ak, kmd, kbs, kfc, ktk, kcl, kdp, kbk, kib, kkf, ksf, kcf, kbf, kch, kbl, kv, kw, knw, kct, kln, kfl, ek, ⟨k0, k1, k2, k3, k4, k5, k6, k7, k8, k9, k10⟩⟩ := i7k
  rw [ek] at k0
  refine kL (As := [.int (nI (r))]) (rest := []) X hW [0, 1, 22 + 2 * r, 23 + 2 * r, 3, 4, 7, 14, 15, 16, 17, 8, 9, 10, 11, 12, 13] (fun sz => c_X4_root l D cy t (a 0) (a 1) (a 2) (a 3) (a 5) (a 7) (a 8) (a 11) (fun i => some (ra i)) r (ra r) (rb r) (cnt r) (f r) (a 4) fn0 ff (Ak 1) (Ak 2) (Ak 3) (Ak 4) (Ak 5) (Ak 6) kct kln kfl (Ak 7) (Ak 8) (Ak 9) (Ak 10) kmd kbs kfc ktk kcl kdp kbk kib kkf ksf kcf kbf kch kbl kv kw knw rfl hr y_hc hN.2.1 sz) rfl (And.intro i0 (And.intro i1 (And.intro ((i12 r hr).1) (And.intro ((i12 r hr).2) (And.intro i3 (And.intro i4 (And.intro k0 (And.intro k7 (And.intro k8 (And.intro k9 (And.intro k10 (And.intro k1 (And.intro k2 (And.intro k3 (And.intro k4 (And.intro k5 (And.intro k6 True.intro))))))))))))))))) (by intro j hj; simp only [List.mem_cons, List.not_mem_nil, or_false] at hj; omega) (by simp only [List.nodup_cons, List.mem_cons, List.not_mem_nil, or_false, not_false_eq_true, List.nodup_nil, and_true]; omega) (cwV 1 X.1.2.2.2.2 gL_law_X4_root rfl rfl rfl (by decide +kernel) ⟨Nat.le_of_ble_eq_true rfl, Nat.le_of_ble_eq_true rfl⟩) (fun ⟨_, _, _, _, _, _, _⟩ => rfl) 0 4 rfl rfl rfl hsz rfl (Nat.le_of_ble_eq_true rfl) dL_law_706 hf (fun r9 u9 H1 locs1 F1 hp hE hq hW1 => ?_)
  obtain ⟨sf2_, ct2_, v2_, aw2_, an2_, w2_, nw2_⟩ := u9
  have hr9 := hp
  replace hr9 : r9 = nI (fn0) := hr9
  subst hr9
  obtain ⟨q0, q1, q2, q3, q4, q5, q6, q7, q8, q9, q10, q11, q12, q13, q14, q15, q16, -⟩ := hq
  have hE2 : ∀ j, ¬ (j = 22 + 2 * r ∨ j = 23 + 2 * r ∨ j = 7 ∨ j = 14 ∨ j = 15 ∨ j = 16 ∨ j = 17 ∨ j = 8 ∨ j = 9 ∨ j = 10 ∨ j = 11 ∨ j = 12 ∨ j = 13) → F1 j = F j := by
    intro j h9
    by_cases h8 : j = 0 ∨ j = 1 ∨ j = 3 ∨ j = 4
    · rcases h8 with h8 | h8 | h8 | h8
      · rw [h8]; exact q0.trans (i0).symm
      · rw [h8]; exact q1.trans (i1).symm
      · rw [h8]; exact q4.trans (i3).symm
      · rw [h8]; exact q5.trans (i4).symm
    · exact hE j (by simp only [List.mem_cons, List.not_mem_nil, or_false]; omega)
  exact kk H1 locs1 F1 (fun j hj => hE2 j (by omega)) ⟨((hE2 (0) (by omega)).trans i0), ((hE2 (1) (by omega)).trans i1), ((hE2 (2) (by omega)).trans i2), ⟨((hE2 (3) (by omega)).trans i3), ((hE2 (4) (by omega)).trans i4)⟩, ⟨((hE2 (5) (by omega)).trans i5), ((hE2 (6) (by omega)).trans i6)⟩, ⟨upN1 (upN1 (upN1 Ak 0 (a 7)) 5 aw2_) 6 an2_, _, _, _, _, _, _, _, _, _, _, _, _, _, _, _, _, _, _, _, _, rfl, q6, q11, q12, q13, q14, q15, q16, q7, q8, q9, q10⟩, ⟨_, _, _, ((hE2 (18) (by omega)).trans i8), ((hE2 (19) (by omega)).trans i9), ((hE2 (20) (by omega)).trans i10)⟩, ⟨_, ((hE2 (21) (by omega)).trans i11)⟩, gReg_up i12 q2 q3 (fun j _ _ _ _ => hE2 j (by omega)), uHs_ag i13 (fun j _ _ => hE2 j (by omega))⟩ hW1
set_option maxHeartbeats 4000000 in
theorem x_check_0 (X : LC p m c s D cy t A b L xs) (hI : INVx F cy a ra rb ha cnt f fn0 ff pn pf md K g nt) (hN : INVs cnt fn0 pn md nt) (hW : Wd D A s (LW F) H locs) (hsz : ls.size = 4) (hf : cells ≤ 600000 ∧ slots ≤ 7302250) {r : Nat} (hr : r < 8) (n : Nat) (c0 : Nat) (y_hc : (cnt r) ≤ 200) (y_h32 : (cnt r) = 32) (y_hn1 : n ≤ 1000000) (y_hc0 : c0 < chks n) (y_hne : ∀ L, wyL c0 (chks n) L → pn ≠ cln n c0 + L * 32)
    (kk : ∀ (H1 : Heap) (locs1 : List Loc) (F1 : Nat → cellT), (∀ j, 82 ≤ j → F1 j = F j) → INVx F1 cy a ra rb ha cnt f fn0 ff pn pf md K g nt → Wd D A s (LW F1) H1 locs1 → W p l e room_1 s m #[Value.ref b] below meth c H1 locs1 cells slots Q (F0 m 844 ls (.int (nI (0)) :: []))) : W p l e room_1 s m #[Value.ref b] below meth c H locs cells slots Q (F0 m 841 ls [.int (nI (c0)), .int (nI (n)), .int (nI (r)), .ref (a 0)]) := by
  obtain ⟨i0, i1, i2, ⟨i3, i4⟩, ⟨i5, i6⟩, i7, ⟨lv, of, oc, i8, i9, i10⟩, ⟨wd, i11⟩, i12, i13⟩ := hI
  refine kL (As := [.int (nI (r)), .int (nI (n)), .int (nI (c0))]) (rest := []) X hW [0, 1, 22 + 2 * r, 23 + 2 * r, 5, 6, 18, 19, 20] (fun sz => c_X4_check_0 l D cy t (a 0) (a 1) (a 2) (a 3) (a 5) (a 7) (a 8) (a 11) (fun i => some (ra i)) r (ra r) (rb r) (cnt r) (f r) (a 6) pn pf (a 9) (a 10) lv of oc n c0 rfl hr y_hc y_h32 hN.2.2.1 y_hn1 y_hc0 y_hne sz) rfl (And.intro i0 (And.intro i1 (And.intro ((i12 r hr).1) (And.intro ((i12 r hr).2) (And.intro i5 (And.intro i6 (And.intro i8 (And.intro i9 (And.intro i10 True.intro))))))))) (by intro j hj; simp only [List.mem_cons, List.not_mem_nil, or_false] at hj; omega) (by simp only [List.nodup_cons, List.mem_cons, List.not_mem_nil, or_false, not_false_eq_true, List.nodup_nil, and_true]; omega) (cwV 3 X.1.2.2.2.2 gL_law_X4_check rfl rfl rfl (by decide +kernel) ⟨Nat.le_of_ble_eq_true rfl, Nat.le_of_ble_eq_true rfl⟩) (fun ⟨_, _, _⟩ => rfl) 0 4 rfl rfl rfl hsz rfl (Nat.le_of_ble_eq_true rfl) dL_law_841 hf (fun r9 u9 H1 locs1 F1 hp hE hq hW1 => ?_)
  obtain ⟨lv2_, of2_, oc2_⟩ := u9
  have hr9 := hp
  replace hr9 : r9 = nI (0) := hr9
  subst hr9
  obtain ⟨q0, q1, q2, q3, q4, q5, q6, q7, q8, -⟩ := hq
  have hE2 : ∀ j, ¬ (j = 18 ∨ j = 19 ∨ j = 20) → F1 j = F j := by
    intro j h9
    by_cases h8 : j = 0 ∨ j = 1 ∨ j = 22 + 2 * r ∨ j = 23 + 2 * r ∨ j = 5 ∨ j = 6
    · rcases h8 with h8 | h8 | h8 | h8 | h8 | h8
      · rw [h8]; exact q0.trans (i0).symm
      · rw [h8]; exact q1.trans (i1).symm
      · rw [h8]; exact q2.trans ((i12 r hr).1).symm
      · rw [h8]; exact q3.trans ((i12 r hr).2).symm
      · rw [h8]; exact q4.trans (i5).symm
      · rw [h8]; exact q5.trans (i6).symm
    · exact hE j (by simp only [List.mem_cons, List.not_mem_nil, or_false]; omega)
  exact kk H1 locs1 F1 (fun j hj => hE2 j (by omega)) ⟨((hE2 (0) (by omega)).trans i0), ((hE2 (1) (by omega)).trans i1), ((hE2 (2) (by omega)).trans i2), ⟨((hE2 (3) (by omega)).trans i3), ((hE2 (4) (by omega)).trans i4)⟩, ⟨((hE2 (5) (by omega)).trans i5), ((hE2 (6) (by omega)).trans i6)⟩, wH_ag i7 (fun j _ _ => hE2 j (by omega)), ⟨_, _, _, q6, q7, q8⟩, ⟨_, ((hE2 (21) (by omega)).trans i11)⟩, gReg_ag i12 (fun j _ _ => hE2 j (by omega)), uHs_ag i13 (fun j _ _ => hE2 j (by omega))⟩ hW1
set_option maxHeartbeats 4000000 in
theorem x_check (X : LC p m c s D cy t A b L xs) (hI : INVx F cy a ra rb ha cnt f fn0 ff pn pf md K g nt) (hN : INVs cnt fn0 pn md nt) (hW : Wd D A s (LW F) H locs) (hsz : ls.size = 4) (hf : cells ≤ 600000 ∧ slots ≤ 7302250) {r : Nat} (hr : r < 8) (n : Nat) (c0 : Nat) (L0 : Nat) (y_hc : (cnt r) ≤ 200) (y_h32 : (cnt r) = 32) (y_hn1 : n ≤ 1000000) (y_hc0 : c0 < chks n) (y_hL : wyL c0 (chks n) L0) (y_hpl : pn = cln n c0 + L0 * 32)
    (kk : ∀ (H1 : Heap) (locs1 : List Loc) (F1 : Nat → cellT), ∀ (r9 : Int32), ((r9 = 1 ∧ ∀ k, k < 32 → oby (mixV (clb (wyF c0 (chks n)) c0 (fun L k => wrd (lo8 pf) ((cln n c0 + (L * 32)) + 4 * k)) L0 (rtN stA (nI (0)) (fun k => lo8 pf (0 + k)) c0 (cln n c0))).1 (clb (wyF c0 (chks n)) c0 (fun L k => wrd (lo8 pf) ((cln n c0 + (L * 32)) + 4 * k)) L0 (rtN stA (nI (0)) (fun k => lo8 pf (0 + k)) c0 (cln n c0))).2.1 (clb (wyF c0 (chks n)) c0 (fun L k => wrd (lo8 pf) ((cln n c0 + (L * 32)) + 4 * k)) L0 (rtN stA (nI (0)) (fun k => lo8 pf (0 + k)) c0 (cln n c0))).2.2.1 (clb (wyF c0 (chks n)) c0 (fun L k => wrd (lo8 pf) ((cln n c0 + (L * 32)) + 4 * k)) L0 (rtN stA (nI (0)) (fun k => lo8 pf (0 + k)) c0 (cln n c0))).2.2.2.1 ((clb (wyF c0 (chks n)) c0 (fun L k => wrd (lo8 pf) ((cln n c0 + (L * 32)) + 4 * k)) L0 (rtN stA (nI (0)) (fun k => lo8 pf (0 + k)) c0 (cln n c0))).2.2.2.2 ||| (nI (8)))) k = f r k &&& 255) ∨ (r9 = 0 ∧ ∃ k, k < 32 ∧ oby (mixV (clb (wyF c0 (chks n)) c0 (fun L k => wrd (lo8 pf) ((cln n c0 + (L * 32)) + 4 * k)) L0 (rtN stA (nI (0)) (fun k => lo8 pf (0 + k)) c0 (cln n c0))).1 (clb (wyF c0 (chks n)) c0 (fun L k => wrd (lo8 pf) ((cln n c0 + (L * 32)) + 4 * k)) L0 (rtN stA (nI (0)) (fun k => lo8 pf (0 + k)) c0 (cln n c0))).2.1 (clb (wyF c0 (chks n)) c0 (fun L k => wrd (lo8 pf) ((cln n c0 + (L * 32)) + 4 * k)) L0 (rtN stA (nI (0)) (fun k => lo8 pf (0 + k)) c0 (cln n c0))).2.2.1 (clb (wyF c0 (chks n)) c0 (fun L k => wrd (lo8 pf) ((cln n c0 + (L * 32)) + 4 * k)) L0 (rtN stA (nI (0)) (fun k => lo8 pf (0 + k)) c0 (cln n c0))).2.2.2.1 ((clb (wyF c0 (chks n)) c0 (fun L k => wrd (lo8 pf) ((cln n c0 + (L * 32)) + 4 * k)) L0 (rtN stA (nI (0)) (fun k => lo8 pf (0 + k)) c0 (cln n c0))).2.2.2.2 ||| (nI (8)))) k ≠ f r k &&& 255)) → (∀ j, 82 ≤ j → F1 j = F j) → INVx F1 cy a ra rb ha cnt f fn0 ff pn pf md K g nt → Wd D A s (LW F1) H1 locs1 → W p l e room_1 s m #[Value.ref b] below meth c H1 locs1 cells slots Q (F0 m 844 ls (.int (r9) :: []))) : W p l e room_1 s m #[Value.ref b] below meth c H locs cells slots Q (F0 m 841 ls [.int (nI (c0)), .int (nI (n)), .int (nI (r)), .ref (a 0)]) := by
  obtain ⟨i0, i1, i2, ⟨i3, i4⟩, ⟨i5, i6⟩, i7, ⟨lv, of, oc, i8, i9, i10⟩, ⟨wd, i11⟩, i12, i13⟩ := hI
  have i7k := i7
  obtain ⟨Ak, kmd, kbs, kfc, ktk, kcl, kdp, kbk, kib, kkf, ksf, kcf, kbf, kch, kbl, kv, kw, knw, kct, kln, kfl, ek, ⟨k0, k1, k2, k3, k4, k5, k6, k7, k8, k9, k10⟩⟩ := i7k
  rw [ek] at k0
  refine kL (As := [.int (nI (r)), .int (nI (n)), .int (nI (c0))]) (rest := []) X hW [0, 1, 22 + 2 * r, 23 + 2 * r, 5, 6, 18, 19, 20, 21, 7, 14, 15, 16, 17, 8, 9, 10, 11, 12, 13] (fun sz => c_X4_check l D cy t (a 0) (a 1) (a 2) (a 3) (a 5) (a 7) (a 8) (a 11) (fun i => some (ra i)) r (ra r) (rb r) (cnt r) (f r) (a 6) pn pf (a 9) (a 10) lv of oc n c0 wd (Ak 1) (Ak 2) (Ak 3) (Ak 4) (Ak 5) (Ak 6) kct kln kfl (Ak 7) (Ak 8) (Ak 9) (Ak 10) kmd kbs kfc ktk kcl kdp kbk kib kkf ksf kcf kbf kch kbl kv kw knw L0 rfl hr y_hc y_h32 hN.2.2.1 y_hn1 y_hc0 y_hL y_hpl sz) rfl (And.intro i0 (And.intro i1 (And.intro ((i12 r hr).1) (And.intro ((i12 r hr).2) (And.intro i5 (And.intro i6 (And.intro i8 (And.intro i9 (And.intro i10 (And.intro i11 (And.intro k0 (And.intro k7 (And.intro k8 (And.intro k9 (And.intro k10 (And.intro k1 (And.intro k2 (And.intro k3 (And.intro k4 (And.intro k5 (And.intro k6 True.intro))))))))))))))))))))) (by intro j hj; simp only [List.mem_cons, List.not_mem_nil, or_false] at hj; omega) (by simp only [List.nodup_cons, List.mem_cons, List.not_mem_nil, or_false, not_false_eq_true, List.nodup_nil, and_true]; omega) (cwV 3 X.1.2.2.2.2 gL_law_X4_check rfl rfl rfl (by decide +kernel) ⟨Nat.le_of_ble_eq_true rfl, Nat.le_of_ble_eq_true rfl⟩) (fun ⟨_, _, _, _, _, _, _, _, _⟩ => rfl) 0 4 rfl rfl rfl hsz rfl (Nat.le_of_ble_eq_true rfl) dL_law_841 hf (fun r9 u9 H1 locs1 F1 hp hE hq hW1 => ?_)
  obtain ⟨lv2_, of2_, oc2_, wd2_, sf2_, aw2_, an2_, w2_, nw2_⟩ := u9
  obtain ⟨q0, q1, q2, q3, q4, q5, q6, q7, q8, q9, q10, q11, q12, q13, q14, q15, q16, q17, q18, q19, q20, -⟩ := hq
  have hE2 : ∀ j, ¬ (j = 18 ∨ j = 19 ∨ j = 20 ∨ j = 21 ∨ j = 7 ∨ j = 14 ∨ j = 15 ∨ j = 16 ∨ j = 17 ∨ j = 8 ∨ j = 9 ∨ j = 10 ∨ j = 11 ∨ j = 12 ∨ j = 13) → F1 j = F j := by
    intro j h9
    by_cases h8 : j = 0 ∨ j = 1 ∨ j = 22 + 2 * r ∨ j = 23 + 2 * r ∨ j = 5 ∨ j = 6
    · rcases h8 with h8 | h8 | h8 | h8 | h8 | h8
      · rw [h8]; exact q0.trans (i0).symm
      · rw [h8]; exact q1.trans (i1).symm
      · rw [h8]; exact q2.trans ((i12 r hr).1).symm
      · rw [h8]; exact q3.trans ((i12 r hr).2).symm
      · rw [h8]; exact q4.trans (i5).symm
      · rw [h8]; exact q5.trans (i6).symm
    · exact hE j (by simp only [List.mem_cons, List.not_mem_nil, or_false]; omega)
  exact kk H1 locs1 F1 r9 hp (fun j hj => hE2 j (by omega)) ⟨((hE2 (0) (by omega)).trans i0), ((hE2 (1) (by omega)).trans i1), ((hE2 (2) (by omega)).trans i2), ⟨((hE2 (3) (by omega)).trans i3), ((hE2 (4) (by omega)).trans i4)⟩, ⟨((hE2 (5) (by omega)).trans i5), ((hE2 (6) (by omega)).trans i6)⟩, ⟨upN1 (upN1 (upN1 Ak 0 (a 7)) 5 aw2_) 6 an2_, _, _, _, _, _, _, _, _, _, _, _, _, _, _, _, _, _, _, _, _, rfl, q10, q15, q16, q17, q18, q19, q20, q11, q12, q13, q14⟩, ⟨_, _, _, q6, q7, q8⟩, ⟨_, q9⟩, gReg_ag i12 (fun j _ _ => hE2 j (by omega)), uHs_ag i13 (fun j _ _ => hE2 j (by omega))⟩ hW1
set_option maxHeartbeats 4000000 in
theorem x_prove (X : LC p m c s D cy t A b L xs) (hI : INVx F cy a ra rb ha cnt f fn0 ff pn pf md K g nt) (hN : INVs cnt fn0 pn md nt) (hW : Wd D A s (LW F) H locs) (hsz : ls.size = 4) (hf : cells ≤ 600000 ∧ slots ≤ 7302250)  (c0 : Nat) (y_hc0 : c0 < chks fn0)
    (kk : ∀ (H1 : Heap) (locs1 : List Loc) (F1 : Nat → cellT), ∀ (lv2 : Nat), ∀ (pf2 : Nat → Int32), (wyL c0 (chks fn0) lv2) → (∀ k, k < cln fn0 c0 → pf2 k = b8 (ff (c0 * 1024 + k) &&& 255)) → (∀ i, i < lv2 → ∀ k, k < 32 → pf2 (cln fn0 c0 + 32 * i + k) = b8 (wby (mx (rtN stA (nI 0) (fun k => lo8 ff (wyF c0 (chks fn0) i * 1024 + k)) (wyF c0 (chks fn0) i) (oln fn0 (wyF c0 (chks fn0) i) (wyC c0 (chks fn0) i)))) k)) → (∀ j, 82 ≤ j → F1 j = F j) → INVx F1 cy a ra rb ha cnt f fn0 ff (cln fn0 c0 + 32 * lv2) pf2 md K g nt → Wd D A s (LW F1) H1 locs1 → W p l e room_1 s m #[Value.ref b] below meth c H1 locs1 cells slots Q (F0 m 732 ls (.int (nI (cln fn0 c0 + 32 * lv2)) :: []))) : W p l e room_1 s m #[Value.ref b] below meth c H locs cells slots Q (F0 m 729 ls [.int (nI (c0)), .ref (a 0)]) := by
  obtain ⟨i0, i1, i2, ⟨i3, i4⟩, ⟨i5, i6⟩, i7, ⟨lv, of, oc, i8, i9, i10⟩, ⟨wd, i11⟩, i12, i13⟩ := hI
  have i7k := i7
  obtain ⟨Ak, kmd, kbs, kfc, ktk, kcl, kdp, kbk, kib, kkf, ksf, kcf, kbf, kch, kbl, kv, kw, knw, kct, kln, kfl, ek, ⟨k0, k1, k2, k3, k4, k5, k6, k7, k8, k9, k10⟩⟩ := i7k
  rw [ek] at k0
  refine kL (As := [.int (nI (c0))]) (rest := []) X hW [0, 3, 4, 5, 6, 18, 19, 20, 21, 7, 14, 15, 16, 17, 8, 9, 10, 11, 12, 13] (fun sz => c_X4_prove l D cy t (a 0) (a 1) (a 2) (a 3) (a 5) (a 7) (a 8) (a 11) (a 4) fn0 ff (a 6) pn pf wd (a 9) (a 10) lv of oc (Ak 1) (Ak 2) (Ak 3) (Ak 4) (Ak 5) (Ak 6) kct kln kfl (Ak 7) (Ak 8) (Ak 9) (Ak 10) kmd kbs kfc ktk kcl kdp kbk kib kkf ksf kcf kbf kch kbl kv kw knw c0 hN.2.1 hN.2.2.1 y_hc0 sz) rfl (And.intro i0 (And.intro i3 (And.intro i4 (And.intro i5 (And.intro i6 (And.intro i8 (And.intro i9 (And.intro i10 (And.intro i11 (And.intro k0 (And.intro k7 (And.intro k8 (And.intro k9 (And.intro k10 (And.intro k1 (And.intro k2 (And.intro k3 (And.intro k4 (And.intro k5 (And.intro k6 True.intro)))))))))))))))))))) (by decide) (by decide) (cwV 1 X.1.2.2.2.2 gL_law_X4_prove rfl rfl rfl (by decide +kernel) ⟨Nat.le_of_ble_eq_true rfl, Nat.le_of_ble_eq_true rfl⟩) (fun ⟨_, _, _, _, _, _, _, _, _, _, _, _, _, _, _, _, _, _, _, _, _, _, _, _, _, _, _⟩ => rfl) 0 4 rfl rfl rfl hsz rfl (Nat.le_of_ble_eq_true rfl) dL_law_729 hf (fun r9 u9 H1 locs1 F1 hp hE hq hW1 => ?_)
  obtain ⟨lv2_, of2_, oc2_, pf2_, wd2_, kaw2_, kan2_, kct2_, kln2_, kfl2_, kmd2_, kbs2_, kfc2_, ktk2_, kcl2_, kdp2_, kbk2_, kib2_, kkf2_, ksf2_, kcf2_, kbf2_, kch2_, kbl2_, kv2_, kw2_, knw2_⟩ := u9
  obtain ⟨hr9, pw, pa, pb⟩ := hp
  obtain ⟨q0, q1, q2, q3, q4, q5, q6, q7, q8, q9, q10, q11, q12, q13, q14, q15, q16, q17, q18, q19, -⟩ := hq
  have hE2 : ∀ j, ¬ (j = 5 ∨ j = 6 ∨ j = 18 ∨ j = 19 ∨ j = 20 ∨ j = 21 ∨ j = 7 ∨ j = 14 ∨ j = 15 ∨ j = 16 ∨ j = 17 ∨ j = 8 ∨ j = 9 ∨ j = 10 ∨ j = 11 ∨ j = 12 ∨ j = 13) → F1 j = F j := by
    intro j h9
    by_cases h8 : j = 0 ∨ j = 3 ∨ j = 4
    · rcases h8 with h8 | h8 | h8
      · rw [h8]; exact q0.trans (i0).symm
      · rw [h8]; exact q1.trans (i3).symm
      · rw [h8]; exact q2.trans (i4).symm
    · exact hE j (by simp only [List.mem_cons, List.not_mem_nil, or_false]; omega)
  subst hr9
  exact kk H1 locs1 F1 lv2_ pf2_ pw pa pb (fun j hj => hE2 j (by omega)) ⟨((hE2 (0) (by omega)).trans i0), ((hE2 (1) (by omega)).trans i1), ((hE2 (2) (by omega)).trans i2), ⟨((hE2 (3) (by omega)).trans i3), ((hE2 (4) (by omega)).trans i4)⟩, ⟨q3, q4⟩, ⟨upN1 (upN1 (upN1 Ak 0 (a 7)) 5 kaw2_) 6 kan2_, _, _, _, _, _, _, _, _, _, _, _, _, _, _, _, _, _, _, _, _, rfl, q9, q14, q15, q16, q17, q18, q19, q10, q11, q12, q13⟩, ⟨_, _, _, q5, q6, q7⟩, ⟨_, q8⟩, gReg_ag i12 (fun j _ _ => hE2 j (by omega)), uHs_ag i13 (fun j _ _ => hE2 j (by omega))⟩ hW1
end ROW68b
