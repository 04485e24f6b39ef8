section ROW69a
variable {p : Program} {l : Launch} {e : Env} {s : State} {m : MethodId} {below : List Frame} {meth : Method} {c : Code} {H : Heap} {locs : List Loc} {cells slots : Nat} {Q : State → Prop} {D : va_G} {cy : Nat → ClassId} {t : Nat × Nat} {A : Nat → Prop} {F : Nat → cellT} {b L i0 : Nat} {xs : Nat → Int32} {ls : Array Slot} {a ra rb ha z cnt : Nat → Nat} {f : Nat → Nat → Int32} {fn0 : Nat} {ff : Nat → Int32} {pn : Nat} {pf : Nat → Int32} {md : Nat → Int32} {K g : Nat → Nat → Int32} {nt : Nat → Nat}
set_option maxHeartbeats 4000000 in
theorem m_add_b (r0 : Int32) (X : LC p m c s D cy t A b L xs) (hJ : INVm F cy z cnt f fn0 ff pn pf md K g nt) (hN : INVs cnt fn0 pn md nt) (hW : Wd D A s (LW F) H locs) (hsz : ls.size = 4) (hf : cells ≤ 600000 ∧ slots ≤ 7302250)  (x9 : Int32) (y9 : Int32) (w0 : Int64) (y_hbd : x9 < 0 ∨ nI 8 ≤ x9)
    (kk : ∀ (H1 : Heap) (locs1 : List Loc), Wd D A s (LW F) H1 locs1 → W p l e room_1 s m #[Value.ref b] below meth c H1 locs1 cells slots Q (F0 m 196 ls (.int ((-2 : Int32)) :: [.int r0]))) : W p l e room_1 s m #[Value.ref b] below meth c H locs cells slots Q (F0 m 193 ls [.long (w0), .int (y9), .int (x9), .ref (z 0), .int r0]) := by
  obtain ⟨⟨be, nu, bq, fg, hg, cz, mo⟩, ⟨ke, cn, bb, vv, ww, oo, pp, il, j1, j2, j3, j4, j5, j6, j7, j8, j9, j10⟩, ⟨mr, ms, mr1, mr2, mr3⟩, ⟨mt, mcn, mmd, mk, mh, mdn, mdo, t1, t2, t3, t4, t5, t6, t7⟩, ⟨mf, mf1, mf2⟩, ⟨mp, mp1, mp2⟩⟩ := hJ
  refine kL (As := [.int (x9), .int (y9), .long (w0)]) (rest := [.int r0]) X hW [82] (fun sz => c_X5_add_b l D cy t (z 0) (z 1) (z 2) (z 3) (z 4) (z 5) (z 6) (z 7) (z 8) (z 9) fn0 (z 10) pn (z 11) (z 12) be (z 13) (z 14) (z 15) (z 16) (z 17) (z 18) nu bq fg (z 19) hg cz (z 20) x9 y9 w0 y_hbd sz) rfl (And.intro mo True.intro) (by decide) (by decide) (cwV 3 X.1.2.2.2.2 gL_law_X5_add rfl rfl rfl (by decide +kernel) ⟨Nat.le_of_ble_eq_true rfl, Nat.le_of_ble_eq_true rfl⟩) (fun _ => rfl) 0 5 rfl rfl rfl hsz rfl (Nat.le_of_ble_eq_true rfl) dL_law_193 hf (fun r9 u9 H1 locs1 F1 hp hE hq hW1 => ?_)
  have hr9 := hp
  replace hr9 : r9 = (-2 : Int32) := hr9
  subst hr9
  have eF := same_F hq hE rfl (And.intro mo True.intro)
  rw [eF] at hW1
  exact kk H1 locs1 hW1
set_option maxHeartbeats 4000000 in
theorem m_add_bn (r0 : Int32) (X : LC p m c s D cy t A b L xs) (hJ : INVm F cy z cnt f fn0 ff pn pf md K g nt) (hN : INVs cnt fn0 pn md nt) (hW : Wd D A s (LW F) H locs) (hsz : ls.size = 4) (hf : cells ≤ 600000 ∧ slots ≤ 7302250) {r : Nat} (hr : r < 8) (y9 : Int32) (w0 : Int64) (y_hc : (cnt r) ≤ 200) (y_hbn : y9 < nI 1 ∨ nI 8 < y9)
    (kk : ∀ (H1 : Heap) (locs1 : List Loc), Wd D A s (LW F) H1 locs1 → W p l e room_1 s m #[Value.ref b] below meth c H1 locs1 cells slots Q (F0 m 196 ls (.int ((-2 : Int32)) :: [.int r0]))) : W p l e room_1 s m #[Value.ref b] below meth c H locs cells slots Q (F0 m 193 ls [.long (w0), .int (y9), .int (nI (r)), .ref (z 0), .int r0]) := by
  obtain ⟨⟨be, nu, bq, fg, hg, cz, mo⟩, ⟨ke, cn, bb, vv, ww, oo, pp, il, j1, j2, j3, j4, j5, j6, j7, j8, j9, j10⟩, ⟨mr, ms, mr1, mr2, mr3⟩, ⟨mt, mcn, mmd, mk, mh, mdn, mdo, t1, t2, t3, t4, t5, t6, t7⟩, ⟨mf, mf1, mf2⟩, ⟨mp, mp1, mp2⟩⟩ := hJ
  refine kL (As := [.int (nI (r)), .int (y9), .long (w0)]) (rest := [.int r0]) X hW [82, 84, 83] (fun sz => c_X5_add_bn l D cy t (z 0) (z 1) (z 2) (z 3) (z 4) (z 5) (z 6) (z 7) (z 8) (z 9) fn0 (z 10) pn (z 11) (z 12) be (z 13) (z 14) (z 15) (z 16) (z 17) (z 18) nu bq fg (z 19) hg cz (z 20) ms mr r (cnt r) y9 w0 hr ((mr3 r hr).1) y_hc y_hbn sz) rfl (And.intro mo (And.intro mr2 (And.intro mr1 True.intro))) (by decide) (by decide) (cwV 3 X.1.2.2.2.2 gL_law_X5_add rfl rfl rfl (by decide +kernel) ⟨Nat.le_of_ble_eq_true rfl, Nat.le_of_ble_eq_true rfl⟩) (fun _ => rfl) 0 5 rfl rfl rfl hsz rfl (Nat.le_of_ble_eq_true rfl) dL_law_193 hf (fun r9 u9 H1 locs1 F1 hp hE hq hW1 => ?_)
  have hr9 := hp
  replace hr9 : r9 = (-2 : Int32) := hr9
  subst hr9
  have eF := same_F hq hE rfl (And.intro mo (And.intro mr2 (And.intro mr1 True.intro)))
  rw [eF] at hW1
  exact kk H1 locs1 hW1
set_option maxHeartbeats 4000000 in
theorem m_add_r (r0 : Int32) (X : LC p m c s D cy t A b L xs) (hJ : INVm F cy z cnt f fn0 ff pn pf md K g nt) (hN : INVs cnt fn0 pn md nt) (hW : Wd D A s (LW F) H locs) (hsz : ls.size = 4) (hf : cells ≤ 600000 ∧ slots ≤ 7302250) {r : Nat} (hr : r < 8) (k : Nat) (w0 : Int64) (y_hc : (cnt r) ≤ 200) (y_hk1 : 1 ≤ k) (y_hk8 : k ≤ 8) (y_hfull : 200 < (cnt r) + k)
    (kk : ∀ (H1 : Heap) (locs1 : List Loc), Wd D A s (LW F) H1 locs1 → W p l e room_1 s m #[Value.ref b] below meth c H1 locs1 cells slots Q (F0 m 196 ls (.int ((-3 : Int32)) :: [.int r0]))) : W p l e room_1 s m #[Value.ref b] below meth c H locs cells slots Q (F0 m 193 ls [.long (w0), .int (nI (k)), .int (nI (r)), .ref (z 0), .int r0]) := by
  obtain ⟨⟨be, nu, bq, fg, hg, cz, mo⟩, ⟨ke, cn, bb, vv, ww, oo, pp, il, j1, j2, j3, j4, j5, j6, j7, j8, j9, j10⟩, ⟨mr, ms, mr1, mr2, mr3⟩, ⟨mt, mcn, mmd, mk, mh, mdn, mdo, t1, t2, t3, t4, t5, t6, t7⟩, ⟨mf, mf1, mf2⟩, ⟨mp, mp1, mp2⟩⟩ := hJ
  refine kL (As := [.int (nI (r)), .int (nI (k)), .long (w0)]) (rest := [.int r0]) X hW [82, 84, 83] (fun sz => c_X5_add_r l D cy t (z 0) (z 1) (z 2) (z 3) (z 4) (z 5) (z 6) (z 7) (z 8) (z 9) fn0 (z 10) pn (z 11) (z 12) be (z 13) (z 14) (z 15) (z 16) (z 17) (z 18) nu bq fg (z 19) hg cz (z 20) ms mr r (cnt r) k w0 hr ((mr3 r hr).1) y_hc y_hk1 y_hk8 y_hfull sz) rfl (And.intro mo (And.intro mr2 (And.intro mr1 True.intro))) (by decide) (by decide) (cwV 3 X.1.2.2.2.2 gL_law_X5_add rfl rfl rfl (by decide +kernel) ⟨Nat.le_of_ble_eq_true rfl, Nat.le_of_ble_eq_true rfl⟩) (fun _ => rfl) 0 5 rfl rfl rfl hsz rfl (Nat.le_of_ble_eq_true rfl) dL_law_193 hf (fun r9 u9 H1 locs1 F1 hp hE hq hW1 => ?_)
  have hr9 := hp
  replace hr9 : r9 = (-3 : Int32) := hr9
  subst hr9
  have eF := same_F hq hE rfl (And.intro mo (And.intro mr2 (And.intro mr1 True.intro)))
  rw [eF] at hW1
  exact kk H1 locs1 hW1
set_option maxHeartbeats 4000000 in
theorem m_clear_b (r0 : Int32) (X : LC p m c s D cy t A b L xs) (hJ : INVm F cy z cnt f fn0 ff pn pf md K g nt) (hN : INVs cnt fn0 pn md nt) (hW : Wd D A s (LW F) H locs) (hsz : ls.size = 4) (hf : cells ≤ 600000 ∧ slots ≤ 7302250)  (x9 : Int32) (y_hbd : x9 < 0 ∨ nI 8 ≤ x9)
    (kk : ∀ (H1 : Heap) (locs1 : List Loc), Wd D A s (LW F) H1 locs1 → W p l e room_1 s m #[Value.ref b] below meth c H1 locs1 cells slots Q (F0 m 219 ls (.int ((-2 : Int32)) :: [.int r0]))) : W p l e room_1 s m #[Value.ref b] below meth c H locs cells slots Q (F0 m 216 ls [.int (x9), .ref (z 0), .int r0]) := by
  obtain ⟨⟨be, nu, bq, fg, hg, cz, mo⟩, ⟨ke, cn, bb, vv, ww, oo, pp, il, j1, j2, j3, j4, j5, j6, j7, j8, j9, j10⟩, ⟨mr, ms, mr1, mr2, mr3⟩, ⟨mt, mcn, mmd, mk, mh, mdn, mdo, t1, t2, t3, t4, t5, t6, t7⟩, ⟨mf, mf1, mf2⟩, ⟨mp, mp1, mp2⟩⟩ := hJ
  refine kL (As := [.int (x9)]) (rest := [.int r0]) X hW [82] (fun sz => c_X5_clear_b l D cy t (z 0) (z 1) (z 2) (z 3) (z 4) (z 5) (z 6) (z 7) (z 8) (z 9) fn0 (z 10) pn (z 11) (z 12) be (z 13) (z 14) (z 15) (z 16) (z 17) (z 18) nu bq fg (z 19) hg cz (z 20) x9 y_hbd sz) rfl (And.intro mo True.intro) (by decide) (by decide) (cwV 1 X.1.2.2.2.2 gL_law_X5_clear rfl rfl rfl (by decide +kernel) ⟨Nat.le_of_ble_eq_true rfl, Nat.le_of_ble_eq_true rfl⟩) (fun _ => rfl) 0 5 rfl rfl rfl hsz rfl (Nat.le_of_ble_eq_true rfl) dL_law_216 hf (fun r9 u9 H1 locs1 F1 hp hE hq hW1 => ?_)
  have hr9 := hp
  replace hr9 : r9 = (-2 : Int32) := hr9
  subst hr9
  have eF := same_F hq hE rfl (And.intro mo True.intro)
  rw [eF] at hW1
  exact kk H1 locs1 hW1
set_option maxHeartbeats 4000000 in
theorem m_size_b (r0 : Int32) (X : LC p m c s D cy t A b L xs) (hJ : INVm F cy z cnt f fn0 ff pn pf md K g nt) (hN : INVs cnt fn0 pn md nt) (hW : Wd D A s (LW F) H locs) (hsz : ls.size = 4) (hf : cells ≤ 600000 ∧ slots ≤ 7302250)  (x9 : Int32) (y_hbd : x9 < 0 ∨ nI 8 ≤ x9)
    (kk : ∀ (H1 : Heap) (locs1 : List Loc), Wd D A s (LW F) H1 locs1 → W p l e room_1 s m #[Value.ref b] below meth c H1 locs1 cells slots Q (F0 m 242 ls (.int ((-2 : Int32)) :: [.int r0]))) : W p l e room_1 s m #[Value.ref b] below meth c H locs cells slots Q (F0 m 239 ls [.int (x9), .ref (z 0), .int r0]) := by
  obtain ⟨⟨be, nu, bq, fg, hg, cz, mo⟩, ⟨ke, cn, bb, vv, ww, oo, pp, il, j1, j2, j3, j4, j5, j6, j7, j8, j9, j10⟩, ⟨mr, ms, mr1, mr2, mr3⟩, ⟨mt, mcn, mmd, mk, mh, mdn, mdo, t1, t2, t3, t4, t5, t6, t7⟩, ⟨mf, mf1, mf2⟩, ⟨mp, mp1, mp2⟩⟩ := hJ
  refine kL (As := [.int (x9)]) (rest := [.int r0]) X hW [82] (fun sz => c_X5_size_b l D cy t (z 0) (z 1) (z 2) (z 3) (z 4) (z 5) (z 6) (z 7) (z 8) (z 9) fn0 (z 10) pn (z 11) (z 12) be (z 13) (z 14) (z 15) (z 16) (z 17) (z 18) nu bq fg (z 19) hg cz (z 20) x9 y_hbd sz) rfl (And.intro mo True.intro) (by decide) (by decide) (cwV 1 X.1.2.2.2.2 gL_law_X5_size rfl rfl rfl (by decide +kernel) ⟨Nat.le_of_ble_eq_true rfl, Nat.le_of_ble_eq_true rfl⟩) (fun _ => rfl) 0 5 rfl rfl rfl hsz rfl (Nat.le_of_ble_eq_true rfl) dL_law_239 hf (fun r9 u9 H1 locs1 F1 hp hE hq hW1 => ?_)
  have hr9 := hp
  replace hr9 : r9 = (-2 : Int32) := hr9
  subst hr9
  have eF := same_F hq hE rfl (And.intro mo True.intro)
  rw [eF] at hW1
  exact kk H1 locs1 hW1
set_option maxHeartbeats 4000000 in
theorem m_size (r0 : Int32) (X : LC p m c s D cy t A b L xs) (hJ : INVm F cy z cnt f fn0 ff pn pf md K g nt) (hN : INVs cnt fn0 pn md nt) (hW : Wd D A s (LW F) H locs) (hsz : ls.size = 4) (hf : cells ≤ 600000 ∧ slots ≤ 7302250) {r : Nat} (hr : r < 8)  (y_hc : (cnt r) ≤ 200)
    (kk : ∀ (H1 : Heap) (locs1 : List Loc), Wd D A s (LW F) H1 locs1 → W p l e room_1 s m #[Value.ref b] below meth c H1 locs1 cells slots Q (F0 m 242 ls (.int (nI ((cnt r))) :: [.int r0]))) : W p l e room_1 s m #[Value.ref b] below meth c H locs cells slots Q (F0 m 239 ls [.int (nI (r)), .ref (z 0), .int r0]) := by
  obtain ⟨⟨be, nu, bq, fg, hg, cz, mo⟩, ⟨ke, cn, bb, vv, ww, oo, pp, il, j1, j2, j3, j4, j5, j6, j7, j8, j9, j10⟩, ⟨mr, ms, mr1, mr2, mr3⟩, ⟨mt, mcn, mmd, mk, mh, mdn, mdo, t1, t2, t3, t4, t5, t6, t7⟩, ⟨mf, mf1, mf2⟩, ⟨mp, mp1, mp2⟩⟩ := hJ
  refine kL (As := [.int (nI (r))]) (rest := [.int r0]) X hW [82, 84, 83] (fun sz => c_X5_size l D cy t (z 0) (z 1) (z 2) (z 3) (z 4) (z 5) (z 6) (z 7) (z 8) (z 9) fn0 (z 10) pn (z 11) (z 12) be (z 13) (z 14) (z 15) (z 16) (z 17) (z 18) nu bq fg (z 19) hg cz (z 20) ms mr r (cnt r) hr ((mr3 r hr).1) y_hc sz) rfl (And.intro mo (And.intro mr2 (And.intro mr1 True.intro))) (by decide) (by decide) (cwV 1 X.1.2.2.2.2 gL_law_X5_size rfl rfl rfl (by decide +kernel) ⟨Nat.le_of_ble_eq_true rfl, Nat.le_of_ble_eq_true rfl⟩) (fun _ => rfl) 0 5 rfl rfl rfl hsz rfl (Nat.le_of_ble_eq_true rfl) dL_law_239 hf (fun r9 u9 H1 locs1 F1 hp hE hq hW1 => ?_)
  have hr9 := hp
  replace hr9 : r9 = nI ((cnt r)) := hr9
  subst hr9
  have eF := same_F hq hE rfl (And.intro mo (And.intro mr2 (And.intro mr1 True.intro)))
  rw [eF] at hW1
  exact kk H1 locs1 hW1
set_option maxHeartbeats 4000000 in
theorem m_at_b (r0 : Int32) (X : LC p m c s D cy t A b L xs) (hJ : INVm F cy z cnt f fn0 ff pn pf md K g nt) (hN : INVs cnt fn0 pn md nt) (hW : Wd D A s (LW F) H locs) (hsz : ls.size = 4) (hf : cells ≤ 600000 ∧ slots ≤ 7302250)  (x9 : Int32) (y9 : Int32) (y_hbd : x9 < 0 ∨ nI 8 ≤ x9)
    (kk : ∀ (H1 : Heap) (locs1 : List Loc), Wd D A s (LW F) H1 locs1 → W p l e room_1 s m #[Value.ref b] below meth c H1 locs1 cells slots Q (F0 m 275 ls (.int ((-2 : Int32)) :: [.int r0]))) : W p l e room_1 s m #[Value.ref b] below meth c H locs cells slots Q (F0 m 272 ls [.int (y9), .int (x9), .ref (z 0), .int r0]) := by
  obtain ⟨⟨be, nu, bq, fg, hg, cz, mo⟩, ⟨ke, cn, bb, vv, ww, oo, pp, il, j1, j2, j3, j4, j5, j6, j7, j8, j9, j10⟩, ⟨mr, ms, mr1, mr2, mr3⟩, ⟨mt, mcn, mmd, mk, mh, mdn, mdo, t1, t2, t3, t4, t5, t6, t7⟩, ⟨mf, mf1, mf2⟩, ⟨mp, mp1, mp2⟩⟩ := hJ
  refine kL (As := [.int (x9), .int (y9)]) (rest := [.int r0]) X hW [82] (fun sz => c_X5_at_b l D cy t (z 0) (z 1) (z 2) (z 3) (z 4) (z 5) (z 6) (z 7) (z 8) (z 9) fn0 (z 10) pn (z 11) (z 12) be (z 13) (z 14) (z 15) (z 16) (z 17) (z 18) nu bq fg (z 19) hg cz (z 20) x9 y9 y_hbd sz) rfl (And.intro mo True.intro) (by decide) (by decide) (cwV 2 X.1.2.2.2.2 gL_law_X5_at rfl rfl rfl (by decide +kernel) ⟨Nat.le_of_ble_eq_true rfl, Nat.le_of_ble_eq_true rfl⟩) (fun _ => rfl) 0 5 rfl rfl rfl hsz rfl (Nat.le_of_ble_eq_true rfl) dL_law_272 hf (fun r9 u9 H1 locs1 F1 hp hE hq hW1 => ?_)
  have hr9 := hp
  replace hr9 : r9 = (-2 : Int32) := hr9
  subst hr9
  have eF := same_F hq hE rfl (And.intro mo True.intro)
  rw [eF] at hW1
  exact kk H1 locs1 hW1
set_option maxHeartbeats 4000000 in
theorem m_at_o (r0 : Int32) (X : LC p m c s D cy t A b L xs) (hJ : INVm F cy z cnt f fn0 ff pn pf md K g nt) (hN : INVs cnt fn0 pn md nt) (hW : Wd D A s (LW F) H locs) (hsz : ls.size = 4) (hf : cells ≤ 600000 ∧ slots ≤ 7302250) {r : Nat} (hr : r < 8) (y9 : Int32) (y_hc : (cnt r) ≤ 200) (y_hbn : y9 < 0 ∨ nI (cnt r) ≤ y9)
    (kk : ∀ (H1 : Heap) (locs1 : List Loc), Wd D A s (LW F) H1 locs1 → W p l e room_1 s m #[Value.ref b] below meth c H1 locs1 cells slots Q (F0 m 275 ls (.int ((-1 : Int32)) :: [.int r0]))) : W p l e room_1 s m #[Value.ref b] below meth c H locs cells slots Q (F0 m 272 ls [.int (y9), .int (nI (r)), .ref (z 0), .int r0]) := by
  obtain ⟨⟨be, nu, bq, fg, hg, cz, mo⟩, ⟨ke, cn, bb, vv, ww, oo, pp, il, j1, j2, j3, j4, j5, j6, j7, j8, j9, j10⟩, ⟨mr, ms, mr1, mr2, mr3⟩, ⟨mt, mcn, mmd, mk, mh, mdn, mdo, t1, t2, t3, t4, t5, t6, t7⟩, ⟨mf, mf1, mf2⟩, ⟨mp, mp1, mp2⟩⟩ := hJ
  refine kL (As := [.int (nI (r)), .int (y9)]) (rest := [.int r0]) X hW [82, 84, 83] (fun sz => c_X5_at_o l D cy t (z 0) (z 1) (z 2) (z 3) (z 4) (z 5) (z 6) (z 7) (z 8) (z 9) fn0 (z 10) pn (z 11) (z 12) be (z 13) (z 14) (z 15) (z 16) (z 17) (z 18) nu bq fg (z 19) hg cz (z 20) ms mr r (cnt r) y9 hr ((mr3 r hr).1) y_hc y_hbn sz) rfl (And.intro mo (And.intro mr2 (And.intro mr1 True.intro))) (by decide) (by decide) (cwV 2 X.1.2.2.2.2 gL_law_X5_at rfl rfl rfl (by decide +kernel) ⟨Nat.le_of_ble_eq_true rfl, Nat.le_of_ble_eq_true rfl⟩) (fun _ => rfl) 0 5 rfl rfl rfl hsz rfl (Nat.le_of_ble_eq_true rfl) dL_law_272 hf (fun r9 u9 H1 locs1 F1 hp hE hq hW1 => ?_)
  have hr9 := hp
  replace hr9 : r9 = (-1 : Int32) := hr9
  subst hr9
  have eF := same_F hq hE rfl (And.intro mo (And.intro mr2 (And.intro mr1 True.intro)))
  rw [eF] at hW1
  exact kk H1 locs1 hW1
set_option maxHeartbeats 4000000 in
theorem m_grow_b (r0 : Int32) (X : LC p m c s D cy t A b L xs) (hJ : INVm F cy z cnt f fn0 ff pn pf md K g nt) (hN : INVs cnt fn0 pn md nt) (hW : Wd D A s (LW F) H locs) (hsz : ls.size = 4) (hf : cells ≤ 600000 ∧ slots ≤ 7302250)  (x9 : Int32) (fr : Int32) (sp : Int32) (y_hbn : x9 < nI 1 ∨ nI 5000 < x9)
    (kk : ∀ (H1 : Heap) (locs1 : List Loc), Wd D A s (LW F) H1 locs1 → W p l e room_1 s m #[Value.ref b] below meth c H1 locs1 cells slots Q (F0 m 639 ls (.int ((-2 : Int32)) :: [.int r0]))) : W p l e room_1 s m #[Value.ref b] below meth c H locs cells slots Q (F0 m 636 ls [.int (sp), .int (fr), .int (x9), .ref (z 0), .int r0]) := by
  obtain ⟨⟨be, nu, bq, fg, hg, cz, mo⟩, ⟨ke, cn, bb, vv, ww, oo, pp, il, j1, j2, j3, j4, j5, j6, j7, j8, j9, j10⟩, ⟨mr, ms, mr1, mr2, mr3⟩, ⟨mt, mcn, mmd, mk, mh, mdn, mdo, t1, t2, t3, t4, t5, t6, t7⟩, ⟨mf, mf1, mf2⟩, ⟨mp, mp1, mp2⟩⟩ := hJ
  refine kL (As := [.int (x9), .int (fr), .int (sp)]) (rest := [.int r0]) X hW [82] (fun sz => c_X5_grow_b l D cy t (z 0) (z 1) (z 2) (z 3) (z 4) (z 5) (z 6) (z 7) (z 8) (z 9) fn0 (z 10) pn (z 11) (z 12) be (z 13) (z 14) (z 15) (z 16) (z 17) (z 18) nu bq fg (z 19) hg cz (z 20) x9 fr sp y_hbn sz) rfl (And.intro mo True.intro) (by decide) (by decide) (cwV 3 X.1.2.2.2.2 gL_law_X5_grow rfl rfl rfl (by decide +kernel) ⟨Nat.le_of_ble_eq_true rfl, Nat.le_of_ble_eq_true rfl⟩) (fun _ => rfl) 0 5 rfl rfl rfl hsz rfl (Nat.le_of_ble_eq_true rfl) dL_law_636 hf (fun r9 u9 H1 locs1 F1 hp hE hq hW1 => ?_)
  have hr9 := hp
  replace hr9 : r9 = (-2 : Int32) := hr9
  subst hr9
  have eF := same_F hq hE rfl (And.intro mo True.intro)
  rw [eF] at hW1
  exact kk H1 locs1 hW1
set_option maxHeartbeats 4000000 in
theorem m_grow_r (r0 : Int32) (X : LC p m c s D cy t A b L xs) (hJ : INVm F cy z cnt f fn0 ff pn pf md K g nt) (hN : INVs cnt fn0 pn md nt) (hW : Wd D A s (LW F) H locs) (hsz : ls.size = 4) (hf : cells ≤ 600000 ∧ slots ≤ 7302250)  (n : Nat) (fr : Int32) (sp : Int32) (y_hn1 : 1 ≤ n) (y_hn5 : n ≤ 5000) (y_hfull : 20000 < fn0 + n)
    (kk : ∀ (H1 : Heap) (locs1 : List Loc), Wd D A s (LW F) H1 locs1 → W p l e room_1 s m #[Value.ref b] below meth c H1 locs1 cells slots Q (F0 m 639 ls (.int ((-3 : Int32)) :: [.int r0]))) : W p l e room_1 s m #[Value.ref b] below meth c H locs cells slots Q (F0 m 636 ls [.int (sp), .int (fr), .int (nI (n)), .ref (z 0), .int r0]) := by
  obtain ⟨⟨be, nu, bq, fg, hg, cz, mo⟩, ⟨ke, cn, bb, vv, ww, oo, pp, il, j1, j2, j3, j4, j5, j6, j7, j8, j9, j10⟩, ⟨mr, ms, mr1, mr2, mr3⟩, ⟨mt, mcn, mmd, mk, mh, mdn, mdo, t1, t2, t3, t4, t5, t6, t7⟩, ⟨mf, mf1, mf2⟩, ⟨mp, mp1, mp2⟩⟩ := hJ
  refine kL (As := [.int (nI (n)), .int (fr), .int (sp)]) (rest := [.int r0]) X hW [82] (fun sz => c_X5_grow_r l D cy t (z 0) (z 1) (z 2) (z 3) (z 4) (z 5) (z 6) (z 7) (z 8) (z 9) fn0 (z 10) pn (z 11) (z 12) be (z 13) (z 14) (z 15) (z 16) (z 17) (z 18) nu bq fg (z 19) hg cz (z 20) n fr sp hN.2.1 y_hn1 y_hn5 y_hfull sz) rfl (And.intro mo True.intro) (by decide) (by decide) (cwV 3 X.1.2.2.2.2 gL_law_X5_grow rfl rfl rfl (by decide +kernel) ⟨Nat.le_of_ble_eq_true rfl, Nat.le_of_ble_eq_true rfl⟩) (fun _ => rfl) 0 5 rfl rfl rfl hsz rfl (Nat.le_of_ble_eq_true rfl) dL_law_636 hf (fun r9 u9 H1 locs1 F1 hp hE hq hW1 => ?_)
  have hr9 := hp
  replace hr9 : r9 = (-3 : Int32) := hr9
  subst hr9
  have eF := same_F hq hE rfl (And.intro mo True.intro)
  rw [eF] at hW1
  exact kk H1 locs1 hW1
set_option maxHeartbeats 4000000 in
theorem m_spoil_b (r0 : Int32) (X : LC p m c s D cy t A b L xs) (hJ : INVm F cy z cnt f fn0 ff pn pf md K g nt) (hN : INVs cnt fn0 pn md nt) (hW : Wd D A s (LW F) H locs) (hsz : ls.size = 4) (hf : cells ≤ 600000 ∧ slots ≤ 7302250)  (x9 : Int32) (y9 : Int32) (y_hbd : x9 < 0 ∨ nI fn0 ≤ x9 ∨ y9 < 0 ∨ nI 255 < y9)
    (kk : ∀ (H1 : Heap) (locs1 : List Loc), Wd D A s (LW F) H1 locs1 → W p l e room_1 s m #[Value.ref b] below meth c H1 locs1 cells slots Q (F0 m 672 ls (.int ((-2 : Int32)) :: [.int r0]))) : W p l e room_1 s m #[Value.ref b] below meth c H locs cells slots Q (F0 m 669 ls [.int (y9), .int (x9), .ref (z 0), .int r0]) := by
  obtain ⟨⟨be, nu, bq, fg, hg, cz, mo⟩, ⟨ke, cn, bb, vv, ww, oo, pp, il, j1, j2, j3, j4, j5, j6, j7, j8, j9, j10⟩, ⟨mr, ms, mr1, mr2, mr3⟩, ⟨mt, mcn, mmd, mk, mh, mdn, mdo, t1, t2, t3, t4, t5, t6, t7⟩, ⟨mf, mf1, mf2⟩, ⟨mp, mp1, mp2⟩⟩ := hJ
  refine kL (As := [.int (x9), .int (y9)]) (rest := [.int r0]) X hW [82, 91] (fun sz => c_X5_spoil_b l D cy t (z 0) (z 1) (z 2) (z 3) (z 4) (z 5) (z 6) (z 7) (z 8) (z 9) fn0 (z 10) pn (z 11) (z 12) be (z 13) (z 14) (z 15) (z 16) (z 17) (z 18) nu bq fg (z 19) hg cz (z 20) mf x9 y9 hN.2.1 y_hbd sz) rfl (And.intro mo (And.intro mf1 True.intro)) (by decide) (by decide) (cwV 2 X.1.2.2.2.2 gL_law_X5_spoil rfl rfl rfl (by decide +kernel) ⟨Nat.le_of_ble_eq_true rfl, Nat.le_of_ble_eq_true rfl⟩) (fun _ => rfl) 0 5 rfl rfl rfl hsz rfl (Nat.le_of_ble_eq_true rfl) dL_law_669 hf (fun r9 u9 H1 locs1 F1 hp hE hq hW1 => ?_)
  have hr9 := hp
  replace hr9 : r9 = (-2 : Int32) := hr9
  subst hr9
  have eF := same_F hq hE rfl (And.intro mo (And.intro mf1 True.intro))
  rw [eF] at hW1
  exact kk H1 locs1 hW1
set_option maxHeartbeats 4000000 in
theorem m_shorten_b (r0 : Int32) (X : LC p m c s D cy t A b L xs) (hJ : INVm F cy z cnt f fn0 ff pn pf md K g nt) (hN : INVs cnt fn0 pn md nt) (hW : Wd D A s (LW F) H locs) (hsz : ls.size = 4) (hf : cells ≤ 600000 ∧ slots ≤ 7302250)  (x9 : Int32) (y_hbd : x9 < 0 ∨ nI fn0 < x9)
    (kk : ∀ (H1 : Heap) (locs1 : List Loc), Wd D A s (LW F) H1 locs1 → W p l e room_1 s m #[Value.ref b] below meth c H1 locs1 cells slots Q (F0 m 695 ls (.int ((-2 : Int32)) :: [.int r0]))) : W p l e room_1 s m #[Value.ref b] below meth c H locs cells slots Q (F0 m 692 ls [.int (x9), .ref (z 0), .int r0]) := by
  obtain ⟨⟨be, nu, bq, fg, hg, cz, mo⟩, ⟨ke, cn, bb, vv, ww, oo, pp, il, j1, j2, j3, j4, j5, j6, j7, j8, j9, j10⟩, ⟨mr, ms, mr1, mr2, mr3⟩, ⟨mt, mcn, mmd, mk, mh, mdn, mdo, t1, t2, t3, t4, t5, t6, t7⟩, ⟨mf, mf1, mf2⟩, ⟨mp, mp1, mp2⟩⟩ := hJ
  refine kL (As := [.int (x9)]) (rest := [.int r0]) X hW [82] (fun sz => c_X5_shorten_b l D cy t (z 0) (z 1) (z 2) (z 3) (z 4) (z 5) (z 6) (z 7) (z 8) (z 9) fn0 (z 10) pn (z 11) (z 12) be (z 13) (z 14) (z 15) (z 16) (z 17) (z 18) nu bq fg (z 19) hg cz (z 20) x9 hN.2.1 y_hbd sz) rfl (And.intro mo True.intro) (by decide) (by decide) (cwV 1 X.1.2.2.2.2 gL_law_X5_shorten rfl rfl rfl (by decide +kernel) ⟨Nat.le_of_ble_eq_true rfl, Nat.le_of_ble_eq_true rfl⟩) (fun _ => rfl) 0 5 rfl rfl rfl hsz rfl (Nat.le_of_ble_eq_true rfl) dL_law_692 hf (fun r9 u9 H1 locs1 F1 hp hE hq hW1 => ?_)
  have hr9 := hp
  replace hr9 : r9 = (-2 : Int32) := hr9
  subst hr9
  have eF := same_F hq hE rfl (And.intro mo True.intro)
  rw [eF] at hW1
  exact kk H1 locs1 hW1
set_option maxHeartbeats 4000000 in
theorem m_forge_b (r0 : Int32) (X : LC p m c s D cy t A b L xs) (hJ : INVm F cy z cnt f fn0 ff pn pf md K g nt) (hN : INVs cnt fn0 pn md nt) (hW : Wd D A s (LW F) H locs) (hsz : ls.size = 4) (hf : cells ≤ 600000 ∧ slots ≤ 7302250)  (x9 : Int32) (y9 : Int32) (y_hbd : x9 < 0 ∨ nI pn ≤ x9 ∨ y9 < 0 ∨ nI 255 < y9)
    (kk : ∀ (H1 : Heap) (locs1 : List Loc), Wd D A s (LW F) H1 locs1 → W p l e room_1 s m #[Value.ref b] below meth c H1 locs1 cells slots Q (F0 m 797 ls (.int ((-2 : Int32)) :: [.int r0]))) : W p l e room_1 s m #[Value.ref b] below meth c H locs cells slots Q (F0 m 794 ls [.int (y9), .int (x9), .ref (z 0), .int r0]) := by
  obtain ⟨⟨be, nu, bq, fg, hg, cz, mo⟩, ⟨ke, cn, bb, vv, ww, oo, pp, il, j1, j2, j3, j4, j5, j6, j7, j8, j9, j10⟩, ⟨mr, ms, mr1, mr2, mr3⟩, ⟨mt, mcn, mmd, mk, mh, mdn, mdo, t1, t2, t3, t4, t5, t6, t7⟩, ⟨mf, mf1, mf2⟩, ⟨mp, mp1, mp2⟩⟩ := hJ
  refine kL (As := [.int (x9), .int (y9)]) (rest := [.int r0]) X hW [82, 92] (fun sz => c_X5_forge_b l D cy t (z 0) (z 1) (z 2) (z 3) (z 4) (z 5) (z 6) (z 7) (z 8) (z 9) fn0 (z 10) pn (z 11) (z 12) be (z 13) (z 14) (z 15) (z 16) (z 17) (z 18) nu bq fg (z 19) hg cz (z 20) mp x9 y9 (Nat.le_trans hN.2.2.1 (by decide)) y_hbd sz) rfl (And.intro mo (And.intro mp1 True.intro)) (by decide) (by decide) (cwV 2 X.1.2.2.2.2 gL_law_X5_forge rfl rfl rfl (by decide +kernel) ⟨Nat.le_of_ble_eq_true rfl, Nat.le_of_ble_eq_true rfl⟩) (fun _ => rfl) 0 5 rfl rfl rfl hsz rfl (Nat.le_of_ble_eq_true rfl) dL_law_794 hf (fun r9 u9 H1 locs1 F1 hp hE hq hW1 => ?_)
  have hr9 := hp
  replace hr9 : r9 = (-2 : Int32) := hr9
  subst hr9
  have eF := same_F hq hE rfl (And.intro mo (And.intro mp1 True.intro))
  rw [eF] at hW1
  exact kk H1 locs1 hW1
set_option maxHeartbeats 4000000 in
theorem m_cut_b (r0 : Int32) (X : LC p m c s D cy t A b L xs) (hJ : INVm F cy z cnt f fn0 ff pn pf md K g nt) (hN : INVs cnt fn0 pn md nt) (hW : Wd D A s (LW F) H locs) (hsz : ls.size = 4) (hf : cells ≤ 600000 ∧ slots ≤ 7302250)  (x9 : Int32) (y_hbd : x9 < 0 ∨ nI pn < x9)
    (kk : ∀ (H1 : Heap) (locs1 : List Loc), Wd D A s (LW F) H1 locs1 → W p l e room_1 s m #[Value.ref b] below meth c H1 locs1 cells slots Q (F0 m 820 ls (.int ((-2 : Int32)) :: [.int r0]))) : W p l e room_1 s m #[Value.ref b] below meth c H locs cells slots Q (F0 m 817 ls [.int (x9), .ref (z 0), .int r0]) := by
  obtain ⟨⟨be, nu, bq, fg, hg, cz, mo⟩, ⟨ke, cn, bb, vv, ww, oo, pp, il, j1, j2, j3, j4, j5, j6, j7, j8, j9, j10⟩, ⟨mr, ms, mr1, mr2, mr3⟩, ⟨mt, mcn, mmd, mk, mh, mdn, mdo, t1, t2, t3, t4, t5, t6, t7⟩, ⟨mf, mf1, mf2⟩, ⟨mp, mp1, mp2⟩⟩ := hJ
  refine kL (As := [.int (x9)]) (rest := [.int r0]) X hW [82] (fun sz => c_X5_cut_b l D cy t (z 0) (z 1) (z 2) (z 3) (z 4) (z 5) (z 6) (z 7) (z 8) (z 9) fn0 (z 10) pn (z 11) (z 12) be (z 13) (z 14) (z 15) (z 16) (z 17) (z 18) nu bq fg (z 19) hg cz (z 20) x9 (Nat.le_trans hN.2.2.1 (by decide)) y_hbd sz) rfl (And.intro mo True.intro) (by decide) (by decide) (cwV 1 X.1.2.2.2.2 gL_law_X5_cut rfl rfl rfl (by decide +kernel) ⟨Nat.le_of_ble_eq_true rfl, Nat.le_of_ble_eq_true rfl⟩) (fun _ => rfl) 0 5 rfl rfl rfl hsz rfl (Nat.le_of_ble_eq_true rfl) dL_law_817 hf (fun r9 u9 H1 locs1 F1 hp hE hq hW1 => ?_)
  have hr9 := hp
  replace hr9 : r9 = (-2 : Int32) := hr9
  subst hr9
  have eF := same_F hq hE rfl (And.intro mo True.intro)
  rw [eF] at hW1
  exact kk H1 locs1 hW1
set_option maxHeartbeats 4000000 in
theorem m_proof_o (r0 : Int32) (X : LC p m c s D cy t A b L xs) (hJ : INVm F cy z cnt f fn0 ff pn pf md K g nt) (hN : INVs cnt fn0 pn md nt) (hW : Wd D A s (LW F) H locs) (hsz : ls.size = 4) (hf : cells ≤ 600000 ∧ slots ≤ 7302250)  (y9 : Int32) (y_hbn : y9 < 0 ∨ nI pn ≤ y9)
    (kk : ∀ (H1 : Heap) (locs1 : List Loc), Wd D A s (LW F) H1 locs1 → W p l e room_1 s m #[Value.ref b] below meth c H1 locs1 cells slots Q (F0 m 764 ls (.int ((-1 : Int32)) :: [.int r0]))) : W p l e room_1 s m #[Value.ref b] below meth c H locs cells slots Q (F0 m 761 ls [.int (y9), .ref (z 0), .int r0]) := by
  obtain ⟨⟨be, nu, bq, fg, hg, cz, mo⟩, ⟨ke, cn, bb, vv, ww, oo, pp, il, j1, j2, j3, j4, j5, j6, j7, j8, j9, j10⟩, ⟨mr, ms, mr1, mr2, mr3⟩, ⟨mt, mcn, mmd, mk, mh, mdn, mdo, t1, t2, t3, t4, t5, t6, t7⟩, ⟨mf, mf1, mf2⟩, ⟨mp, mp1, mp2⟩⟩ := hJ
  refine kL (As := [.int (y9)]) (rest := [.int r0]) X hW [82, 92] (fun sz => c_X5_proof_o l D cy t (z 0) (z 1) (z 2) (z 3) (z 4) (z 5) (z 6) (z 7) (z 8) (z 9) fn0 (z 10) pn (z 11) (z 12) be (z 13) (z 14) (z 15) (z 16) (z 17) (z 18) nu bq fg (z 19) hg cz (z 20) mp y9 (Nat.le_trans hN.2.2.1 (by decide)) y_hbn sz) rfl (And.intro mo (And.intro mp1 True.intro)) (by decide) (by decide) (cwV 1 X.1.2.2.2.2 gL_law_X5_proof rfl rfl rfl (by decide +kernel) ⟨Nat.le_of_ble_eq_true rfl, Nat.le_of_ble_eq_true rfl⟩) (fun _ => rfl) 0 5 rfl rfl rfl hsz rfl (Nat.le_of_ble_eq_true rfl) dL_law_761 hf (fun r9 u9 H1 locs1 F1 hp hE hq hW1 => ?_)
  have hr9 := hp
  replace hr9 : r9 = (-1 : Int32) := hr9
  subst hr9
  have eF := same_F hq hE rfl (And.intro mo (And.intro mp1 True.intro))
  rw [eF] at hW1
  exact kk H1 locs1 hW1
set_option maxHeartbeats 4000000 in
theorem m_told_b (r0 : Int32) (X : LC p m c s D cy t A b L xs) (hJ : INVm F cy z cnt f fn0 ff pn pf md K g nt) (hN : INVs cnt fn0 pn md nt) (hW : Wd D A s (LW F) H locs) (hsz : ls.size = 4) (hf : cells ≤ 600000 ∧ slots ≤ 7302250)  (x9 : Int32) (y9 : Int32) (y_hbd : x9 < 0 ∨ nI 4 ≤ x9)
    (kk : ∀ (H1 : Heap) (locs1 : List Loc), Wd D A s (LW F) H1 locs1 → W p l e room_1 s m #[Value.ref b] below meth c H1 locs1 cells slots Q (F0 m 553 ls (.int ((-2 : Int32)) :: [.int r0]))) : W p l e room_1 s m #[Value.ref b] below meth c H locs cells slots Q (F0 m 550 ls [.int (y9), .int (x9), .ref (z 0), .int r0]) := by
  obtain ⟨⟨be, nu, bq, fg, hg, cz, mo⟩, ⟨ke, cn, bb, vv, ww, oo, pp, il, j1, j2, j3, j4, j5, j6, j7, j8, j9, j10⟩, ⟨mr, ms, mr1, mr2, mr3⟩, ⟨mt, mcn, mmd, mk, mh, mdn, mdo, t1, t2, t3, t4, t5, t6, t7⟩, ⟨mf, mf1, mf2⟩, ⟨mp, mp1, mp2⟩⟩ := hJ
  refine kL (As := [.int (x9), .int (y9)]) (rest := [.int r0]) X hW [82] (fun sz => c_X5_told_b l D cy t (z 0) (z 1) (z 2) (z 3) (z 4) (z 5) (z 6) (z 7) (z 8) (z 9) fn0 (z 10) pn (z 11) (z 12) be (z 13) (z 14) (z 15) (z 16) (z 17) (z 18) nu bq fg (z 19) hg cz (z 20) x9 y9 y_hbd sz) rfl (And.intro mo True.intro) (by decide) (by decide) (cwV 2 X.1.2.2.2.2 gL_law_X5_told rfl rfl rfl (by decide +kernel) ⟨Nat.le_of_ble_eq_true rfl, Nat.le_of_ble_eq_true rfl⟩) (fun _ => rfl) 0 5 rfl rfl rfl hsz rfl (Nat.le_of_ble_eq_true rfl) dL_law_550 hf (fun r9 u9 H1 locs1 F1 hp hE hq hW1 => ?_)
  have hr9 := hp
  replace hr9 : r9 = (-2 : Int32) := hr9
  subst hr9
  have eF := same_F hq hE rfl (And.intro mo True.intro)
  rw [eF] at hW1
  exact kk H1 locs1 hW1
set_option maxHeartbeats 4000000 in
theorem m_told_o (r0 : Int32) (X : LC p m c s D cy t A b L xs) (hJ : INVm F cy z cnt f fn0 ff pn pf md K g nt) (hN : INVs cnt fn0 pn md nt) (hW : Wd D A s (LW F) H locs) (hsz : ls.size = 4) (hf : cells ≤ 600000 ∧ slots ≤ 7302250) {h : Nat} (hh : h < 4) (y9 : Int32) (y_hbn : y9 < 0 ∨ nI 4 < y9)
    (kk : ∀ (H1 : Heap) (locs1 : List Loc), Wd D A s (LW F) H1 locs1 → W p l e room_1 s m #[Value.ref b] below meth c H1 locs1 cells slots Q (F0 m 553 ls (.int ((-2 : Int32)) :: [.int r0]))) : W p l e room_1 s m #[Value.ref b] below meth c H locs cells slots Q (F0 m 550 ls [.int (y9), .int (nI (h)), .ref (z 0), .int r0]) := by
  obtain ⟨⟨be, nu, bq, fg, hg, cz, mo⟩, ⟨ke, cn, bb, vv, ww, oo, pp, il, j1, j2, j3, j4, j5, j6, j7, j8, j9, j10⟩, ⟨mr, ms, mr1, mr2, mr3⟩, ⟨mt, mcn, mmd, mk, mh, mdn, mdo, t1, t2, t3, t4, t5, t6, t7⟩, ⟨mf, mf1, mf2⟩, ⟨mp, mp1, mp2⟩⟩ := hJ
  refine kL (As := [.int (nI (h)), .int (y9)]) (rest := [.int r0]) X hW [82] (fun sz => c_X5_told_o l D cy t (z 0) (z 1) (z 2) (z 3) (z 4) (z 5) (z 6) (z 7) (z 8) (z 9) fn0 (z 10) pn (z 11) (z 12) be (z 13) (z 14) (z 15) (z 16) (z 17) (z 18) nu bq fg (z 19) hg cz (z 20) h y9 hh y_hbn sz) rfl (And.intro mo True.intro) (by decide) (by decide) (cwV 2 X.1.2.2.2.2 gL_law_X5_told rfl rfl rfl (by decide +kernel) ⟨Nat.le_of_ble_eq_true rfl, Nat.le_of_ble_eq_true rfl⟩) (fun _ => rfl) 0 5 rfl rfl rfl hsz rfl (Nat.le_of_ble_eq_true rfl) dL_law_550 hf (fun r9 u9 H1 locs1 F1 hp hE hq hW1 => ?_)
  have hr9 := hp
  replace hr9 : r9 = (-2 : Int32) := hr9
  subst hr9
  have eF := same_F hq hE rfl (And.intro mo True.intro)
  rw [eF] at hW1
  exact kk H1 locs1 hW1
set_option maxHeartbeats 4000000 in
theorem m_told_1 (r0 : Int32) (X : LC p m c s D cy t A b L xs) (hJ : INVm F cy z cnt f fn0 ff pn pf md K g nt) (hN : INVs cnt fn0 pn md nt) (hW : Wd D A s (LW F) H locs) (hsz : ls.size = 4) (hf : cells ≤ 600000 ∧ slots ≤ 7302250) {h : Nat} (hh : h < 4)  (y_hnt : (nt h) ≤ 40000)
    (kk : ∀ (H1 : Heap) (locs1 : List Loc), Wd D A s (LW F) H1 locs1 → W p l e room_1 s m #[Value.ref b] below meth c H1 locs1 cells slots Q (F0 m 553 ls (.int (nI ((nt h))) :: [.int r0]))) : W p l e room_1 s m #[Value.ref b] below meth c H locs cells slots Q (F0 m 550 ls [.int (nI (1)), .int (nI (h)), .ref (z 0), .int r0]) := by
  obtain ⟨⟨be, nu, bq, fg, hg, cz, mo⟩, ⟨ke, cn, bb, vv, ww, oo, pp, il, j1, j2, j3, j4, j5, j6, j7, j8, j9, j10⟩, ⟨mr, ms, mr1, mr2, mr3⟩, ⟨mt, mcn, mmd, mk, mh, mdn, mdo, t1, t2, t3, t4, t5, t6, t7⟩, ⟨mf, mf1, mf2⟩, ⟨mp, mp1, mp2⟩⟩ := hJ
  refine kL (As := [.int (nI (h)), .int (nI (1))]) (rest := [.int r0]) X hW [82, 86, 87] (fun sz => c_X5_told_1 l D cy t (z 0) (z 1) (z 2) (z 3) (z 4) (z 5) (z 6) (z 7) (z 8) (z 9) fn0 (z 10) pn (z 11) (z 12) be (z 13) (z 14) (z 15) (z 16) (z 17) (z 18) nu bq fg (z 19) hg cz (z 20) mt mcn h (nt h) mmd hh ((t7 h hh).1) y_hnt sz) rfl (And.intro mo (And.intro t2 (And.intro t3 True.intro))) (by decide) (by decide) (cwV 2 X.1.2.2.2.2 gL_law_X5_told rfl rfl rfl (by decide +kernel) ⟨Nat.le_of_ble_eq_true rfl, Nat.le_of_ble_eq_true rfl⟩) (fun _ => rfl) 0 5 rfl rfl rfl hsz rfl (Nat.le_of_ble_eq_true rfl) dL_law_550 hf (fun r9 u9 H1 locs1 F1 hp hE hq hW1 => ?_)
  have hr9 := hp
  replace hr9 : r9 = nI ((nt h)) := hr9
  subst hr9
  have eF := same_F hq hE rfl (And.intro mo (And.intro t2 (And.intro t3 True.intro)))
  rw [eF] at hW1
  exact kk H1 locs1 hW1
set_option maxHeartbeats 4000000 in
theorem m_told_2 (r0 : Int32) (X : LC p m c s D cy t A b L xs) (hJ : INVm F cy z cnt f fn0 ff pn pf md K g nt) (hN : INVs cnt fn0 pn md nt) (hW : Wd D A s (LW F) H locs) (hsz : ls.size = 4) (hf : cells ≤ 600000 ∧ slots ≤ 7302250) {h : Nat} (hh : h < 4)  (y_hnt : (nt h) ≤ 40000)
    (kk : ∀ (H1 : Heap) (locs1 : List Loc), Wd D A s (LW F) H1 locs1 → W p l e room_1 s m #[Value.ref b] below meth c H1 locs1 cells slots Q (F0 m 553 ls (.int (nI (clo (nt h))) :: [.int r0]))) : W p l e room_1 s m #[Value.ref b] below meth c H locs cells slots Q (F0 m 550 ls [.int (nI (2)), .int (nI (h)), .ref (z 0), .int r0]) := by
  obtain ⟨⟨be, nu, bq, fg, hg, cz, mo⟩, ⟨ke, cn, bb, vv, ww, oo, pp, il, j1, j2, j3, j4, j5, j6, j7, j8, j9, j10⟩, ⟨mr, ms, mr1, mr2, mr3⟩, ⟨mt, mcn, mmd, mk, mh, mdn, mdo, t1, t2, t3, t4, t5, t6, t7⟩, ⟨mf, mf1, mf2⟩, ⟨mp, mp1, mp2⟩⟩ := hJ
  refine kL (As := [.int (nI (h)), .int (nI (2))]) (rest := [.int r0]) X hW [82, 86, 87] (fun sz => c_X5_told_2 l D cy t (z 0) (z 1) (z 2) (z 3) (z 4) (z 5) (z 6) (z 7) (z 8) (z 9) fn0 (z 10) pn (z 11) (z 12) be (z 13) (z 14) (z 15) (z 16) (z 17) (z 18) nu bq fg (z 19) hg cz (z 20) mt mcn h (nt h) mmd hh ((t7 h hh).1) y_hnt sz) rfl (And.intro mo (And.intro t2 (And.intro t3 True.intro))) (by decide) (by decide) (cwV 2 X.1.2.2.2.2 gL_law_X5_told rfl rfl rfl (by decide +kernel) ⟨Nat.le_of_ble_eq_true rfl, Nat.le_of_ble_eq_true rfl⟩) (fun _ => rfl) 0 5 rfl rfl rfl hsz rfl (Nat.le_of_ble_eq_true rfl) dL_law_550 hf (fun r9 u9 H1 locs1 F1 hp hE hq hW1 => ?_)
  have hr9 := hp
  replace hr9 : r9 = nI (clo (nt h)) := hr9
  subst hr9
  have eF := same_F hq hE rfl (And.intro mo (And.intro t2 (And.intro t3 True.intro)))
  rw [eF] at hW1
  exact kk H1 locs1 hW1
set_option maxHeartbeats 4000000 in
theorem m_chain_b (r0 : Int32) (X : LC p m c s D cy t A b L xs) (hJ : INVm F cy z cnt f fn0 ff pn pf md K g nt) (hN : INVs cnt fn0 pn md nt) (hW : Wd D A s (LW F) H locs) (hsz : ls.size = 4) (hf : cells ≤ 600000 ∧ slots ≤ 7302250)  (x9 : Int32) (y9 : Int32) (z9 : Int32) (y_hbd : x9 < 0 ∨ nI 4 ≤ x9)
    (kk : ∀ (H1 : Heap) (locs1 : List Loc), Wd D A s (LW F) H1 locs1 → W p l e room_1 s m #[Value.ref b] below meth c H1 locs1 cells slots Q (F0 m 596 ls (.int ((-2 : Int32)) :: [.int r0]))) : W p l e room_1 s m #[Value.ref b] below meth c H locs cells slots Q (F0 m 593 ls [.int (z9), .int (y9), .int (x9), .ref (z 0), .int r0]) := by
  obtain ⟨⟨be, nu, bq, fg, hg, cz, mo⟩, ⟨ke, cn, bb, vv, ww, oo, pp, il, j1, j2, j3, j4, j5, j6, j7, j8, j9, j10⟩, ⟨mr, ms, mr1, mr2, mr3⟩, ⟨mt, mcn, mmd, mk, mh, mdn, mdo, t1, t2, t3, t4, t5, t6, t7⟩, ⟨mf, mf1, mf2⟩, ⟨mp, mp1, mp2⟩⟩ := hJ
  refine kL (As := [.int (x9), .int (y9), .int (z9)]) (rest := [.int r0]) X hW [82] (fun sz => c_X5_chain_b l D cy t (z 0) (z 1) (z 2) (z 3) (z 4) (z 5) (z 6) (z 7) (z 8) (z 9) fn0 (z 10) pn (z 11) (z 12) be (z 13) (z 14) (z 15) (z 16) (z 17) (z 18) nu bq fg (z 19) hg cz (z 20) x9 y9 z9 y_hbd sz) rfl (And.intro mo True.intro) (by decide) (by decide) (cwV 3 X.1.2.2.2.2 gL_law_X5_chain rfl rfl rfl (by decide +kernel) ⟨Nat.le_of_ble_eq_true rfl, Nat.le_of_ble_eq_true rfl⟩) (fun _ => rfl) 0 5 rfl rfl rfl hsz rfl (Nat.le_of_ble_eq_true rfl) dL_law_593 hf (fun r9 u9 H1 locs1 F1 hp hE hq hW1 => ?_)
  have hr9 := hp
  replace hr9 : r9 = (-2 : Int32) := hr9
  subst hr9
  have eF := same_F hq hE rfl (And.intro mo True.intro)
  rw [eF] at hW1
  exact kk H1 locs1 hW1
set_option maxHeartbeats 4000000 in
theorem m_chain_o (r0 : Int32) (X : LC p m c s D cy t A b L xs) (hJ : INVm F cy z cnt f fn0 ff pn pf md K g nt) (hN : INVs cnt fn0 pn md nt) (hW : Wd D A s (LW F) H locs) (hsz : ls.size = 4) (hf : cells ≤ 600000 ∧ slots ≤ 7302250) {h : Nat} (hh : h < 4) (y9 : Int32) (z9 : Int32) (y_hbn : y9 < 0 ∨ z9 < 0 ∨ nI 7 < z9)
    (kk : ∀ (H1 : Heap) (locs1 : List Loc), Wd D A s (LW F) H1 locs1 → W p l e room_1 s m #[Value.ref b] below meth c H1 locs1 cells slots Q (F0 m 596 ls (.int (nI (0)) :: [.int r0]))) : W p l e room_1 s m #[Value.ref b] below meth c H locs cells slots Q (F0 m 593 ls [.int (z9), .int (y9), .int (nI (h)), .ref (z 0), .int r0]) := by
  obtain ⟨⟨be, nu, bq, fg, hg, cz, mo⟩, ⟨ke, cn, bb, vv, ww, oo, pp, il, j1, j2, j3, j4, j5, j6, j7, j8, j9, j10⟩, ⟨mr, ms, mr1, mr2, mr3⟩, ⟨mt, mcn, mmd, mk, mh, mdn, mdo, t1, t2, t3, t4, t5, t6, t7⟩, ⟨mf, mf1, mf2⟩, ⟨mp, mp1, mp2⟩⟩ := hJ
  refine kL (As := [.int (nI (h)), .int (y9), .int (z9)]) (rest := [.int r0]) X hW [82] (fun sz => c_X5_chain_o l D cy t (z 0) (z 1) (z 2) (z 3) (z 4) (z 5) (z 6) (z 7) (z 8) (z 9) fn0 (z 10) pn (z 11) (z 12) be (z 13) (z 14) (z 15) (z 16) (z 17) (z 18) nu bq fg (z 19) hg cz (z 20) h y9 z9 hh y_hbn sz) rfl (And.intro mo True.intro) (by decide) (by decide) (cwV 3 X.1.2.2.2.2 gL_law_X5_chain rfl rfl rfl (by decide +kernel) ⟨Nat.le_of_ble_eq_true rfl, Nat.le_of_ble_eq_true rfl⟩) (fun _ => rfl) 0 5 rfl rfl rfl hsz rfl (Nat.le_of_ble_eq_true rfl) dL_law_593 hf (fun r9 u9 H1 locs1 F1 hp hE hq hW1 => ?_)
  have hr9 := hp
  replace hr9 : r9 = nI (0) := hr9
  subst hr9
  have eF := same_F hq hE rfl (And.intro mo True.intro)
  rw [eF] at hW1
  exact kk H1 locs1 hW1
set_option maxHeartbeats 4000000 in
theorem m_copy_b (r0 : Int32) (X : LC p m c s D cy t A b L xs) (hJ : INVm F cy z cnt f fn0 ff pn pf md K g nt) (hN : INVs cnt fn0 pn md nt) (hW : Wd D A s (LW F) H locs) (hsz : ls.size = 4) (hf : cells ≤ 600000 ∧ slots ≤ 7302250)  (x9 : Int32) (y9 : Int32) (y_hbd : x9 < 0 ∨ nI 4 ≤ x9)
    (kk : ∀ (H1 : Heap) (locs1 : List Loc), Wd D A s (LW F) H1 locs1 → W p l e room_1 s m #[Value.ref b] below meth c H1 locs1 cells slots Q (F0 m 520 ls (.int ((-2 : Int32)) :: [.int r0]))) : W p l e room_1 s m #[Value.ref b] below meth c H locs cells slots Q (F0 m 517 ls [.int (y9), .int (x9), .ref (z 0), .int r0]) := by
  obtain ⟨⟨be, nu, bq, fg, hg, cz, mo⟩, ⟨ke, cn, bb, vv, ww, oo, pp, il, j1, j2, j3, j4, j5, j6, j7, j8, j9, j10⟩, ⟨mr, ms, mr1, mr2, mr3⟩, ⟨mt, mcn, mmd, mk, mh, mdn, mdo, t1, t2, t3, t4, t5, t6, t7⟩, ⟨mf, mf1, mf2⟩, ⟨mp, mp1, mp2⟩⟩ := hJ
  refine kL (As := [.int (x9), .int (y9)]) (rest := [.int r0]) X hW [82] (fun sz => c_X5_copy_b l D cy t (z 0) (z 1) (z 2) (z 3) (z 4) (z 5) (z 6) (z 7) (z 8) (z 9) fn0 (z 10) pn (z 11) (z 12) be (z 13) (z 14) (z 15) (z 16) (z 17) (z 18) nu bq fg (z 19) hg cz (z 20) x9 y9 y_hbd sz) rfl (And.intro mo True.intro) (by decide) (by decide) (cwV 2 X.1.2.2.2.2 gL_law_X5_copy rfl rfl rfl (by decide +kernel) ⟨Nat.le_of_ble_eq_true rfl, Nat.le_of_ble_eq_true rfl⟩) (fun _ => rfl) 0 5 rfl rfl rfl hsz rfl (Nat.le_of_ble_eq_true rfl) dL_law_517 hf (fun r9 u9 H1 locs1 F1 hp hE hq hW1 => ?_)
  have hr9 := hp
  replace hr9 : r9 = (-2 : Int32) := hr9
  subst hr9
  have eF := same_F hq hE rfl (And.intro mo True.intro)
  rw [eF] at hW1
  exact kk H1 locs1 hW1
set_option maxHeartbeats 4000000 in
theorem m_copy_b2 (r0 : Int32) (X : LC p m c s D cy t A b L xs) (hJ : INVm F cy z cnt f fn0 ff pn pf md K g nt) (hN : INVs cnt fn0 pn md nt) (hW : Wd D A s (LW F) H locs) (hsz : ls.size = 4) (hf : cells ≤ 600000 ∧ slots ≤ 7302250) {h : Nat} (hh : h < 4) (x9 : Int32) (y_hbd : x9 < 0 ∨ nI 4 ≤ x9)
    (kk : ∀ (H1 : Heap) (locs1 : List Loc), Wd D A s (LW F) H1 locs1 → W p l e room_1 s m #[Value.ref b] below meth c H1 locs1 cells slots Q (F0 m 520 ls (.int ((-2 : Int32)) :: [.int r0]))) : W p l e room_1 s m #[Value.ref b] below meth c H locs cells slots Q (F0 m 517 ls [.int (x9), .int (nI (h)), .ref (z 0), .int r0]) := by
  obtain ⟨⟨be, nu, bq, fg, hg, cz, mo⟩, ⟨ke, cn, bb, vv, ww, oo, pp, il, j1, j2, j3, j4, j5, j6, j7, j8, j9, j10⟩, ⟨mr, ms, mr1, mr2, mr3⟩, ⟨mt, mcn, mmd, mk, mh, mdn, mdo, t1, t2, t3, t4, t5, t6, t7⟩, ⟨mf, mf1, mf2⟩, ⟨mp, mp1, mp2⟩⟩ := hJ
  refine kL (As := [.int (nI (h)), .int (x9)]) (rest := [.int r0]) X hW [82] (fun sz => c_X5_copy_b2 l D cy t (z 0) (z 1) (z 2) (z 3) (z 4) (z 5) (z 6) (z 7) (z 8) (z 9) fn0 (z 10) pn (z 11) (z 12) be (z 13) (z 14) (z 15) (z 16) (z 17) (z 18) nu bq fg (z 19) hg cz (z 20) h x9 hh y_hbd sz) rfl (And.intro mo True.intro) (by decide) (by decide) (cwV 2 X.1.2.2.2.2 gL_law_X5_copy rfl rfl rfl (by decide +kernel) ⟨Nat.le_of_ble_eq_true rfl, Nat.le_of_ble_eq_true rfl⟩) (fun _ => rfl) 0 5 rfl rfl rfl hsz rfl (Nat.le_of_ble_eq_true rfl) dL_law_517 hf (fun r9 u9 H1 locs1 F1 hp hE hq hW1 => ?_)
  have hr9 := hp
  replace hr9 : r9 = (-2 : Int32) := hr9
  subst hr9
  have eF := same_F hq hE rfl (And.intro mo True.intro)
  rw [eF] at hW1
  exact kk H1 locs1 hW1
set_option maxHeartbeats 4000000 in
theorem m_begin_b (r0 : Int32) (X : LC p m c s D cy t A b L xs) (hJ : INVm F cy z cnt f fn0 ff pn pf md K g nt) (hN : INVs cnt fn0 pn md nt) (hW : Wd D A s (LW F) H locs) (hsz : ls.size = 4) (hf : cells ≤ 600000 ∧ slots ≤ 7302250)  (x9 : Int32) (y9 : Int32) (z9 : Int32) (y_hbd : x9 < 0 ∨ nI 4 ≤ x9)
    (kk : ∀ (H1 : Heap) (locs1 : List Loc), Wd D A s (LW F) H1 locs1 → W p l e room_1 s m #[Value.ref b] below meth c H1 locs1 cells slots Q (F0 m 318 ls (.int ((-2 : Int32)) :: [.int r0]))) : W p l e room_1 s m #[Value.ref b] below meth c H locs cells slots Q (F0 m 315 ls [.int (z9), .int (y9), .int (x9), .ref (z 0), .int r0]) := by
  obtain ⟨⟨be, nu, bq, fg, hg, cz, mo⟩, ⟨ke, cn, bb, vv, ww, oo, pp, il, j1, j2, j3, j4, j5, j6, j7, j8, j9, j10⟩, ⟨mr, ms, mr1, mr2, mr3⟩, ⟨mt, mcn, mmd, mk, mh, mdn, mdo, t1, t2, t3, t4, t5, t6, t7⟩, ⟨mf, mf1, mf2⟩, ⟨mp, mp1, mp2⟩⟩ := hJ
  refine kL (As := [.int (x9), .int (y9), .int (z9)]) (rest := [.int r0]) X hW [82] (fun sz => c_X5_begin_b l D cy t (z 0) (z 1) (z 2) (z 3) (z 4) (z 5) (z 6) (z 7) (z 8) (z 9) fn0 (z 10) pn (z 11) (z 12) be (z 13) (z 14) (z 15) (z 16) (z 17) (z 18) nu bq fg (z 19) hg cz (z 20) x9 y9 z9 y_hbd sz) rfl (And.intro mo True.intro) (by decide) (by decide) (cwV 3 X.1.2.2.2.2 gL_law_X5_begin rfl rfl rfl (by decide +kernel) ⟨Nat.le_of_ble_eq_true rfl, Nat.le_of_ble_eq_true rfl⟩) (fun _ => rfl) 0 5 rfl rfl rfl hsz rfl (Nat.le_of_ble_eq_true rfl) dL_law_315 hf (fun r9 u9 H1 locs1 F1 hp hE hq hW1 => ?_)
  have hr9 := hp
  replace hr9 : r9 = (-2 : Int32) := hr9
  subst hr9
  have eF := same_F hq hE rfl (And.intro mo True.intro)
  rw [eF] at hW1
  exact kk H1 locs1 hW1
set_option maxHeartbeats 4000000 in
theorem m_begin_br (r0 : Int32) (X : LC p m c s D cy t A b L xs) (hJ : INVm F cy z cnt f fn0 ff pn pf md K g nt) (hN : INVs cnt fn0 pn md nt) (hW : Wd D A s (LW F) H locs) (hsz : ls.size = 4) (hf : cells ≤ 600000 ∧ slots ≤ 7302250) {h : Nat} (hh : h < 4) (x9 : Int32) (y9 : Int32) (y_hy0 : ¬ y9 = 0) (y_hbd : x9 < 0 ∨ nI 8 ≤ x9)
    (kk : ∀ (H1 : Heap) (locs1 : List Loc), Wd D A s (LW F) H1 locs1 → W p l e room_1 s m #[Value.ref b] below meth c H1 locs1 cells slots Q (F0 m 318 ls (.int ((-2 : Int32)) :: [.int r0]))) : W p l e room_1 s m #[Value.ref b] below meth c H locs cells slots Q (F0 m 315 ls [.int (x9), .int (y9), .int (nI (h)), .ref (z 0), .int r0]) := by
  obtain ⟨⟨be, nu, bq, fg, hg, cz, mo⟩, ⟨ke, cn, bb, vv, ww, oo, pp, il, j1, j2, j3, j4, j5, j6, j7, j8, j9, j10⟩, ⟨mr, ms, mr1, mr2, mr3⟩, ⟨mt, mcn, mmd, mk, mh, mdn, mdo, t1, t2, t3, t4, t5, t6, t7⟩, ⟨mf, mf1, mf2⟩, ⟨mp, mp1, mp2⟩⟩ := hJ
  refine kL (As := [.int (nI (h)), .int (y9), .int (x9)]) (rest := [.int r0]) X hW [82] (fun sz => c_X5_begin_br l D cy t (z 0) (z 1) (z 2) (z 3) (z 4) (z 5) (z 6) (z 7) (z 8) (z 9) fn0 (z 10) pn (z 11) (z 12) be (z 13) (z 14) (z 15) (z 16) (z 17) (z 18) nu bq fg (z 19) hg cz (z 20) h x9 y9 hh y_hy0 y_hbd sz) rfl (And.intro mo True.intro) (by decide) (by decide) (cwV 3 X.1.2.2.2.2 gL_law_X5_begin rfl rfl rfl (by decide +kernel) ⟨Nat.le_of_ble_eq_true rfl, Nat.le_of_ble_eq_true rfl⟩) (fun _ => rfl) 0 5 rfl rfl rfl hsz rfl (Nat.le_of_ble_eq_true rfl) dL_law_315 hf (fun r9 u9 H1 locs1 F1 hp hE hq hW1 => ?_)
  have hr9 := hp
  replace hr9 : r9 = (-2 : Int32) := hr9
  subst hr9
  have eF := same_F hq hE rfl (And.intro mo True.intro)
  rw [eF] at hW1
  exact kk H1 locs1 hW1
set_option maxHeartbeats 4000000 in
theorem m_begin_1b (r0 : Int32) (X : LC p m c s D cy t A b L xs) (hJ : INVm F cy z cnt f fn0 ff pn pf md K g nt) (hN : INVs cnt fn0 pn md nt) (hW : Wd D A s (LW F) H locs) (hsz : ls.size = 4) (hf : cells ≤ 600000 ∧ slots ≤ 7302250) {r : Nat} (hr : r < 8) {h : Nat} (hh : h < 4)  (y_hc : (cnt r) ≤ 200) (y_h32 : (cnt r) ≠ 32)
    (kk : ∀ (H1 : Heap) (locs1 : List Loc), Wd D A s (LW F) H1 locs1 → W p l e room_1 s m #[Value.ref b] below meth c H1 locs1 cells slots Q (F0 m 318 ls (.int ((-2 : Int32)) :: [.int r0]))) : W p l e room_1 s m #[Value.ref b] below meth c H locs cells slots Q (F0 m 315 ls [.int (nI (r)), .int (nI (1)), .int (nI (h)), .ref (z 0), .int r0]) := by
  obtain ⟨⟨be, nu, bq, fg, hg, cz, mo⟩, ⟨ke, cn, bb, vv, ww, oo, pp, il, j1, j2, j3, j4, j5, j6, j7, j8, j9, j10⟩, ⟨mr, ms, mr1, mr2, mr3⟩, ⟨mt, mcn, mmd, mk, mh, mdn, mdo, t1, t2, t3, t4, t5, t6, t7⟩, ⟨mf, mf1, mf2⟩, ⟨mp, mp1, mp2⟩⟩ := hJ
  refine kL (As := [.int (nI (h)), .int (nI (1)), .int (nI (r))]) (rest := [.int r0]) X hW [82, 84, 83] (fun sz => c_X5_begin_1b l D cy t (z 0) (z 1) (z 2) (z 3) (z 4) (z 5) (z 6) (z 7) (z 8) (z 9) fn0 (z 10) pn (z 11) (z 12) be (z 13) (z 14) (z 15) (z 16) (z 17) (z 18) nu bq fg (z 19) hg cz (z 20) h ms mr r (cnt r) hh hr ((mr3 r hr).1) y_hc y_h32 sz) rfl (And.intro mo (And.intro mr2 (And.intro mr1 True.intro))) (by decide) (by decide) (cwV 3 X.1.2.2.2.2 gL_law_X5_begin rfl rfl rfl (by decide +kernel) ⟨Nat.le_of_ble_eq_true rfl, Nat.le_of_ble_eq_true rfl⟩) (fun _ => rfl) 0 5 rfl rfl rfl hsz rfl (Nat.le_of_ble_eq_true rfl) dL_law_315 hf (fun r9 u9 H1 locs1 F1 hp hE hq hW1 => ?_)
  have hr9 := hp
  replace hr9 : r9 = (-2 : Int32) := hr9
  subst hr9
  have eF := same_F hq hE rfl (And.intro mo (And.intro mr2 (And.intro mr1 True.intro)))
  rw [eF] at hW1
  exact kk H1 locs1 hW1
set_option maxHeartbeats 4000000 in
theorem m_begin_bm (r0 : Int32) (X : LC p m c s D cy t A b L xs) (hJ : INVm F cy z cnt f fn0 ff pn pf md K g nt) (hN : INVs cnt fn0 pn md nt) (hW : Wd D A s (LW F) H locs) (hsz : ls.size = 4) (hf : cells ≤ 600000 ∧ slots ≤ 7302250) {r : Nat} (hr : r < 8) {h : Nat} (hh : h < 4) (y9 : Int32) (y_hc : (cnt r) ≤ 200) (y_hy0 : ¬ y9 = 0) (y_hy1 : ¬ y9 = nI 1) (y_hy2 : ¬ y9 = nI 2)
    (kk : ∀ (H1 : Heap) (locs1 : List Loc), Wd D A s (LW F) H1 locs1 → W p l e room_1 s m #[Value.ref b] below meth c H1 locs1 cells slots Q (F0 m 318 ls (.int ((-2 : Int32)) :: [.int r0]))) : W p l e room_1 s m #[Value.ref b] below meth c H locs cells slots Q (F0 m 315 ls [.int (nI (r)), .int (y9), .int (nI (h)), .ref (z 0), .int r0]) := by
  obtain ⟨⟨be, nu, bq, fg, hg, cz, mo⟩, ⟨ke, cn, bb, vv, ww, oo, pp, il, j1, j2, j3, j4, j5, j6, j7, j8, j9, j10⟩, ⟨mr, ms, mr1, mr2, mr3⟩, ⟨mt, mcn, mmd, mk, mh, mdn, mdo, t1, t2, t3, t4, t5, t6, t7⟩, ⟨mf, mf1, mf2⟩, ⟨mp, mp1, mp2⟩⟩ := hJ
  refine kL (As := [.int (nI (h)), .int (y9), .int (nI (r))]) (rest := [.int r0]) X hW [82, 84, 83] (fun sz => c_X5_begin_bm l D cy t (z 0) (z 1) (z 2) (z 3) (z 4) (z 5) (z 6) (z 7) (z 8) (z 9) fn0 (z 10) pn (z 11) (z 12) be (z 13) (z 14) (z 15) (z 16) (z 17) (z 18) nu bq fg (z 19) hg cz (z 20) h ms mr r (cnt r) y9 hh hr ((mr3 r hr).1) y_hc y_hy0 y_hy1 y_hy2 sz) rfl (And.intro mo (And.intro mr2 (And.intro mr1 True.intro))) (by decide) (by decide) (cwV 3 X.1.2.2.2.2 gL_law_X5_begin rfl rfl rfl (by decide +kernel) ⟨Nat.le_of_ble_eq_true rfl, Nat.le_of_ble_eq_true rfl⟩) (fun _ => rfl) 0 5 rfl rfl rfl hsz rfl (Nat.le_of_ble_eq_true rfl) dL_law_315 hf (fun r9 u9 H1 locs1 F1 hp hE hq hW1 => ?_)
  have hr9 := hp
  replace hr9 : r9 = (-2 : Int32) := hr9
  subst hr9
  have eF := same_F hq hE rfl (And.intro mo (And.intro mr2 (And.intro mr1 True.intro)))
  rw [eF] at hW1
  exact kk H1 locs1 hW1
set_option maxHeartbeats 4000000 in
theorem m_take_b (r0 : Int32) (X : LC p m c s D cy t A b L xs) (hJ : INVm F cy z cnt f fn0 ff pn pf md K g nt) (hN : INVs cnt fn0 pn md nt) (hW : Wd D A s (LW F) H locs) (hsz : ls.size = 4) (hf : cells ≤ 600000 ∧ slots ≤ 7302250)  (x9 : Int32) (y9 : Int32) (y_hbd : x9 < 0 ∨ nI 4 ≤ x9)
    (kk : ∀ (H1 : Heap) (locs1 : List Loc), Wd D A s (LW F) H1 locs1 → W p l e room_1 s m #[Value.ref b] below meth c H1 locs1 cells slots Q (F0 m 351 ls (.int ((-2 : Int32)) :: [.int r0]))) : W p l e room_1 s m #[Value.ref b] below meth c H locs cells slots Q (F0 m 348 ls [.int (y9), .int (x9), .ref (z 0), .int r0]) := by
  obtain ⟨⟨be, nu, bq, fg, hg, cz, mo⟩, ⟨ke, cn, bb, vv, ww, oo, pp, il, j1, j2, j3, j4, j5, j6, j7, j8, j9, j10⟩, ⟨mr, ms, mr1, mr2, mr3⟩, ⟨mt, mcn, mmd, mk, mh, mdn, mdo, t1, t2, t3, t4, t5, t6, t7⟩, ⟨mf, mf1, mf2⟩, ⟨mp, mp1, mp2⟩⟩ := hJ
  refine kL (As := [.int (x9), .int (y9)]) (rest := [.int r0]) X hW [82] (fun sz => c_X5_take_b l D cy t (z 0) (z 1) (z 2) (z 3) (z 4) (z 5) (z 6) (z 7) (z 8) (z 9) fn0 (z 10) pn (z 11) (z 12) be (z 13) (z 14) (z 15) (z 16) (z 17) (z 18) nu bq fg (z 19) hg cz (z 20) x9 y9 y_hbd sz) rfl (And.intro mo True.intro) (by decide) (by decide) (cwV 2 X.1.2.2.2.2 gL_law_X5_take rfl rfl rfl (by decide +kernel) ⟨Nat.le_of_ble_eq_true rfl, Nat.le_of_ble_eq_true rfl⟩) (fun _ => rfl) 0 5 rfl rfl rfl hsz rfl (Nat.le_of_ble_eq_true rfl) dL_law_348 hf (fun r9 u9 H1 locs1 F1 hp hE hq hW1 => ?_)
  have hr9 := hp
  replace hr9 : r9 = (-2 : Int32) := hr9
  subst hr9
  have eF := same_F hq hE rfl (And.intro mo True.intro)
  rw [eF] at hW1
  exact kk H1 locs1 hW1
set_option maxHeartbeats 4000000 in
theorem m_take_b2 (r0 : Int32) (X : LC p m c s D cy t A b L xs) (hJ : INVm F cy z cnt f fn0 ff pn pf md K g nt) (hN : INVs cnt fn0 pn md nt) (hW : Wd D A s (LW F) H locs) (hsz : ls.size = 4) (hf : cells ≤ 600000 ∧ slots ≤ 7302250) {h : Nat} (hh : h < 4) (x9 : Int32) (y_hbd : x9 < 0 ∨ nI 8 ≤ x9)
    (kk : ∀ (H1 : Heap) (locs1 : List Loc), Wd D A s (LW F) H1 locs1 → W p l e room_1 s m #[Value.ref b] below meth c H1 locs1 cells slots Q (F0 m 351 ls (.int ((-2 : Int32)) :: [.int r0]))) : W p l e room_1 s m #[Value.ref b] below meth c H locs cells slots Q (F0 m 348 ls [.int (x9), .int (nI (h)), .ref (z 0), .int r0]) := by
  obtain ⟨⟨be, nu, bq, fg, hg, cz, mo⟩, ⟨ke, cn, bb, vv, ww, oo, pp, il, j1, j2, j3, j4, j5, j6, j7, j8, j9, j10⟩, ⟨mr, ms, mr1, mr2, mr3⟩, ⟨mt, mcn, mmd, mk, mh, mdn, mdo, t1, t2, t3, t4, t5, t6, t7⟩, ⟨mf, mf1, mf2⟩, ⟨mp, mp1, mp2⟩⟩ := hJ
  refine kL (As := [.int (nI (h)), .int (x9)]) (rest := [.int r0]) X hW [82] (fun sz => c_X5_take_b2 l D cy t (z 0) (z 1) (z 2) (z 3) (z 4) (z 5) (z 6) (z 7) (z 8) (z 9) fn0 (z 10) pn (z 11) (z 12) be (z 13) (z 14) (z 15) (z 16) (z 17) (z 18) nu bq fg (z 19) hg cz (z 20) h x9 hh y_hbd sz) rfl (And.intro mo True.intro) (by decide) (by decide) (cwV 2 X.1.2.2.2.2 gL_law_X5_take rfl rfl rfl (by decide +kernel) ⟨Nat.le_of_ble_eq_true rfl, Nat.le_of_ble_eq_true rfl⟩) (fun _ => rfl) 0 5 rfl rfl rfl hsz rfl (Nat.le_of_ble_eq_true rfl) dL_law_348 hf (fun r9 u9 H1 locs1 F1 hp hE hq hW1 => ?_)
  have hr9 := hp
  replace hr9 : r9 = (-2 : Int32) := hr9
  subst hr9
  have eF := same_F hq hE rfl (And.intro mo True.intro)
  rw [eF] at hW1
  exact kk H1 locs1 hW1
set_option maxHeartbeats 4000000 in
theorem m_take_r (r0 : Int32) (X : LC p m c s D cy t A b L xs) (hJ : INVm F cy z cnt f fn0 ff pn pf md K g nt) (hN : INVs cnt fn0 pn md nt) (hW : Wd D A s (LW F) H locs) (hsz : ls.size = 4) (hf : cells ≤ 600000 ∧ slots ≤ 7302250) {r : Nat} (hr : r < 8) {h : Nat} (hh : h < 4)  (y_hnt : (nt h) ≤ 40000) (y_hc : (cnt r) ≤ 200) (y_hfull : 40000 < (nt h) + (cnt r))
    (kk : ∀ (H1 : Heap) (locs1 : List Loc), Wd D A s (LW F) H1 locs1 → W p l e room_1 s m #[Value.ref b] below meth c H1 locs1 cells slots Q (F0 m 351 ls (.int ((-3 : Int32)) :: [.int r0]))) : W p l e room_1 s m #[Value.ref b] below meth c H locs cells slots Q (F0 m 348 ls [.int (nI (r)), .int (nI (h)), .ref (z 0), .int r0]) := by
  obtain ⟨⟨be, nu, bq, fg, hg, cz, mo⟩, ⟨ke, cn, bb, vv, ww, oo, pp, il, j1, j2, j3, j4, j5, j6, j7, j8, j9, j10⟩, ⟨mr, ms, mr1, mr2, mr3⟩, ⟨mt, mcn, mmd, mk, mh, mdn, mdo, t1, t2, t3, t4, t5, t6, t7⟩, ⟨mf, mf1, mf2⟩, ⟨mp, mp1, mp2⟩⟩ := hJ
  refine kL (As := [.int (nI (h)), .int (nI (r))]) (rest := [.int r0]) X hW [82, 85, 86, 84, 83] (fun sz => c_X5_take_r l D cy t (z 0) (z 1) (z 2) (z 3) (z 4) (z 5) (z 6) (z 7) (z 8) (z 9) fn0 (z 10) pn (z 11) (z 12) be (z 13) (z 14) (z 15) (z 16) (z 17) (z 18) nu bq fg (z 19) hg cz (z 20) mt mcn h (nt h) ms mr r (cnt r) hh ((t7 h hh).1) y_hnt hr ((mr3 r hr).1) y_hc y_hfull sz) rfl (And.intro mo (And.intro t1 (And.intro t2 (And.intro mr2 (And.intro mr1 True.intro))))) (by decide) (by decide) (cwV 2 X.1.2.2.2.2 gL_law_X5_take rfl rfl rfl (by decide +kernel) ⟨Nat.le_of_ble_eq_true rfl, Nat.le_of_ble_eq_true rfl⟩) (fun _ => rfl) 0 5 rfl rfl rfl hsz rfl (Nat.le_of_ble_eq_true rfl) dL_law_348 hf (fun r9 u9 H1 locs1 F1 hp hE hq hW1 => ?_)
  have hr9 := hp
  replace hr9 : r9 = (-3 : Int32) := hr9
  subst hr9
  have eF := same_F hq hE rfl (And.intro mo (And.intro t1 (And.intro t2 (And.intro mr2 (And.intro mr1 True.intro)))))
  rw [eF] at hW1
  exact kk H1 locs1 hW1
set_option maxHeartbeats 4000000 in
theorem m_fill_b (r0 : Int32) (X : LC p m c s D cy t A b L xs) (hJ : INVm F cy z cnt f fn0 ff pn pf md K g nt) (hN : INVs cnt fn0 pn md nt) (hW : Wd D A s (LW F) H locs) (hsz : ls.size = 4) (hf : cells ≤ 600000 ∧ slots ≤ 7302250)  (x9 : Int32) (y9 : Int32) (fr : Int32) (sp : Int32) (y_hbd : x9 < 0 ∨ nI 4 ≤ x9)
    (kk : ∀ (H1 : Heap) (locs1 : List Loc), Wd D A s (LW F) H1 locs1 → W p l e room_1 s m #[Value.ref b] below meth c H1 locs1 cells slots Q (F0 m 404 ls (.int ((-2 : Int32)) :: [.int r0]))) : W p l e room_1 s m #[Value.ref b] below meth c H locs cells slots Q (F0 m 401 ls [.int (sp), .int (fr), .int (y9), .int (x9), .ref (z 0), .int r0]) := by
  obtain ⟨⟨be, nu, bq, fg, hg, cz, mo⟩, ⟨ke, cn, bb, vv, ww, oo, pp, il, j1, j2, j3, j4, j5, j6, j7, j8, j9, j10⟩, ⟨mr, ms, mr1, mr2, mr3⟩, ⟨mt, mcn, mmd, mk, mh, mdn, mdo, t1, t2, t3, t4, t5, t6, t7⟩, ⟨mf, mf1, mf2⟩, ⟨mp, mp1, mp2⟩⟩ := hJ
  refine kL (As := [.int (x9), .int (y9), .int (fr), .int (sp)]) (rest := [.int r0]) X hW [82] (fun sz => c_X5_fill_b l D cy t (z 0) (z 1) (z 2) (z 3) (z 4) (z 5) (z 6) (z 7) (z 8) (z 9) fn0 (z 10) pn (z 11) (z 12) be (z 13) (z 14) (z 15) (z 16) (z 17) (z 18) nu bq fg (z 19) hg cz (z 20) x9 y9 fr sp y_hbd sz) rfl (And.intro mo True.intro) (by decide) (by decide) (cwV 4 X.1.2.2.2.2 gL_law_X5_fill rfl rfl rfl (by decide +kernel) ⟨Nat.le_of_ble_eq_true rfl, Nat.le_of_ble_eq_true rfl⟩) (fun _ => rfl) 0 5 rfl rfl rfl hsz rfl (Nat.le_of_ble_eq_true rfl) dL_law_401 hf (fun r9 u9 H1 locs1 F1 hp hE hq hW1 => ?_)
  have hr9 := hp
  replace hr9 : r9 = (-2 : Int32) := hr9
  subst hr9
  have eF := same_F hq hE rfl (And.intro mo True.intro)
  rw [eF] at hW1
  exact kk H1 locs1 hW1
set_option maxHeartbeats 4000000 in
theorem m_fill_bn (r0 : Int32) (X : LC p m c s D cy t A b L xs) (hJ : INVm F cy z cnt f fn0 ff pn pf md K g nt) (hN : INVs cnt fn0 pn md nt) (hW : Wd D A s (LW F) H locs) (hsz : ls.size = 4) (hf : cells ≤ 600000 ∧ slots ≤ 7302250) {h : Nat} (hh : h < 4) (y9 : Int32) (fr : Int32) (sp : Int32) (y_hbn : y9 < 0 ∨ nI 5000 < y9)
    (kk : ∀ (H1 : Heap) (locs1 : List Loc), Wd D A s (LW F) H1 locs1 → W p l e room_1 s m #[Value.ref b] below meth c H1 locs1 cells slots Q (F0 m 404 ls (.int ((-2 : Int32)) :: [.int r0]))) : W p l e room_1 s m #[Value.ref b] below meth c H locs cells slots Q (F0 m 401 ls [.int (sp), .int (fr), .int (y9), .int (nI (h)), .ref (z 0), .int r0]) := by
  obtain ⟨⟨be, nu, bq, fg, hg, cz, mo⟩, ⟨ke, cn, bb, vv, ww, oo, pp, il, j1, j2, j3, j4, j5, j6, j7, j8, j9, j10⟩, ⟨mr, ms, mr1, mr2, mr3⟩, ⟨mt, mcn, mmd, mk, mh, mdn, mdo, t1, t2, t3, t4, t5, t6, t7⟩, ⟨mf, mf1, mf2⟩, ⟨mp, mp1, mp2⟩⟩ := hJ
  refine kL (As := [.int (nI (h)), .int (y9), .int (fr), .int (sp)]) (rest := [.int r0]) X hW [82] (fun sz => c_X5_fill_bn l D cy t (z 0) (z 1) (z 2) (z 3) (z 4) (z 5) (z 6) (z 7) (z 8) (z 9) fn0 (z 10) pn (z 11) (z 12) be (z 13) (z 14) (z 15) (z 16) (z 17) (z 18) nu bq fg (z 19) hg cz (z 20) h y9 fr sp hh y_hbn sz) rfl (And.intro mo True.intro) (by decide) (by decide) (cwV 4 X.1.2.2.2.2 gL_law_X5_fill rfl rfl rfl (by decide +kernel) ⟨Nat.le_of_ble_eq_true rfl, Nat.le_of_ble_eq_true rfl⟩) (fun _ => rfl) 0 5 rfl rfl rfl hsz rfl (Nat.le_of_ble_eq_true rfl) dL_law_401 hf (fun r9 u9 H1 locs1 F1 hp hE hq hW1 => ?_)
  have hr9 := hp
  replace hr9 : r9 = (-2 : Int32) := hr9
  subst hr9
  have eF := same_F hq hE rfl (And.intro mo True.intro)
  rw [eF] at hW1
  exact kk H1 locs1 hW1
set_option maxHeartbeats 4000000 in
theorem m_fill_r (r0 : Int32) (X : LC p m c s D cy t A b L xs) (hJ : INVm F cy z cnt f fn0 ff pn pf md K g nt) (hN : INVs cnt fn0 pn md nt) (hW : Wd D A s (LW F) H locs) (hsz : ls.size = 4) (hf : cells ≤ 600000 ∧ slots ≤ 7302250) {h : Nat} (hh : h < 4) (n : Nat) (fr : Int32) (sp : Int32) (y_hnt : (nt h) ≤ 40000) (y_hn5 : n ≤ 5000) (y_hfull : 40000 < (nt h) + n)
    (kk : ∀ (H1 : Heap) (locs1 : List Loc), Wd D A s (LW F) H1 locs1 → W p l e room_1 s m #[Value.ref b] below meth c H1 locs1 cells slots Q (F0 m 404 ls (.int ((-3 : Int32)) :: [.int r0]))) : W p l e room_1 s m #[Value.ref b] below meth c H locs cells slots Q (F0 m 401 ls [.int (sp), .int (fr), .int (nI (n)), .int (nI (h)), .ref (z 0), .int r0]) := by
  obtain ⟨⟨be, nu, bq, fg, hg, cz, mo⟩, ⟨ke, cn, bb, vv, ww, oo, pp, il, j1, j2, j3, j4, j5, j6, j7, j8, j9, j10⟩, ⟨mr, ms, mr1, mr2, mr3⟩, ⟨mt, mcn, mmd, mk, mh, mdn, mdo, t1, t2, t3, t4, t5, t6, t7⟩, ⟨mf, mf1, mf2⟩, ⟨mp, mp1, mp2⟩⟩ := hJ
  refine kL (As := [.int (nI (h)), .int (nI (n)), .int (fr), .int (sp)]) (rest := [.int r0]) X hW [82, 85, 86] (fun sz => c_X5_fill_r l D cy t (z 0) (z 1) (z 2) (z 3) (z 4) (z 5) (z 6) (z 7) (z 8) (z 9) fn0 (z 10) pn (z 11) (z 12) be (z 13) (z 14) (z 15) (z 16) (z 17) (z 18) nu bq fg (z 19) hg cz (z 20) mt mcn h (nt h) n fr sp hh ((t7 h hh).1) y_hnt y_hn5 y_hfull sz) rfl (And.intro mo (And.intro t1 (And.intro t2 True.intro))) (by decide) (by decide) (cwV 4 X.1.2.2.2.2 gL_law_X5_fill rfl rfl rfl (by decide +kernel) ⟨Nat.le_of_ble_eq_true rfl, Nat.le_of_ble_eq_true rfl⟩) (fun _ => rfl) 0 5 rfl rfl rfl hsz rfl (Nat.le_of_ble_eq_true rfl) dL_law_401 hf (fun r9 u9 H1 locs1 F1 hp hE hq hW1 => ?_)
  have hr9 := hp
  replace hr9 : r9 = (-3 : Int32) := hr9
  subst hr9
  have eF := same_F hq hE rfl (And.intro mo (And.intro t1 (And.intro t2 True.intro)))
  rw [eF] at hW1
  exact kk H1 locs1 hW1
set_option maxHeartbeats 4000000 in
theorem m_output_b (r0 : Int32) (X : LC p m c s D cy t A b L xs) (hJ : INVm F cy z cnt f fn0 ff pn pf md K g nt) (hN : INVs cnt fn0 pn md nt) (hW : Wd D A s (LW F) H locs) (hsz : ls.size = 4) (hf : cells ≤ 600000 ∧ slots ≤ 7302250)  (x9 : Int32) (y9 : Int32) (z9 : Int32) (w0 : Int64) (y_hbd : x9 < 0 ∨ nI 4 ≤ x9)
    (kk : ∀ (H1 : Heap) (locs1 : List Loc), Wd D A s (LW F) H1 locs1 → W p l e room_1 s m #[Value.ref b] below meth c H1 locs1 cells slots Q (F0 m 487 ls (.int ((-2 : Int32)) :: [.int r0]))) : W p l e room_1 s m #[Value.ref b] below meth c H locs cells slots Q (F0 m 484 ls [.long (w0), .int (z9), .int (y9), .int (x9), .ref (z 0), .int r0]) := by
  obtain ⟨⟨be, nu, bq, fg, hg, cz, mo⟩, ⟨ke, cn, bb, vv, ww, oo, pp, il, j1, j2, j3, j4, j5, j6, j7, j8, j9, j10⟩, ⟨mr, ms, mr1, mr2, mr3⟩, ⟨mt, mcn, mmd, mk, mh, mdn, mdo, t1, t2, t3, t4, t5, t6, t7⟩, ⟨mf, mf1, mf2⟩, ⟨mp, mp1, mp2⟩⟩ := hJ
  refine kL (As := [.int (x9), .int (y9), .int (z9), .long (w0)]) (rest := [.int r0]) X hW [82] (fun sz => c_X5_output_b l D cy t (z 0) (z 1) (z 2) (z 3) (z 4) (z 5) (z 6) (z 7) (z 8) (z 9) fn0 (z 10) pn (z 11) (z 12) be (z 13) (z 14) (z 15) (z 16) (z 17) (z 18) nu bq fg (z 19) hg cz (z 20) x9 y9 z9 w0 y_hbd sz) rfl (And.intro mo True.intro) (by decide) (by decide) (cwV 4 X.1.2.2.2.2 gL_law_X5_output rfl rfl rfl (by decide +kernel) ⟨Nat.le_of_ble_eq_true rfl, Nat.le_of_ble_eq_true rfl⟩) (fun _ => rfl) 0 5 rfl rfl rfl hsz rfl (Nat.le_of_ble_eq_true rfl) dL_law_484 hf (fun r9 u9 H1 locs1 F1 hp hE hq hW1 => ?_)
  have hr9 := hp
  replace hr9 : r9 = (-2 : Int32) := hr9
  subst hr9
  have eF := same_F hq hE rfl (And.intro mo True.intro)
  rw [eF] at hW1
  exact kk H1 locs1 hW1
set_option maxHeartbeats 4000000 in
theorem m_output_b2 (r0 : Int32) (X : LC p m c s D cy t A b L xs) (hJ : INVm F cy z cnt f fn0 ff pn pf md K g nt) (hN : INVs cnt fn0 pn md nt) (hW : Wd D A s (LW F) H locs) (hsz : ls.size = 4) (hf : cells ≤ 600000 ∧ slots ≤ 7302250) {h : Nat} (hh : h < 4) (x9 : Int32) (z9 : Int32) (w0 : Int64) (y_hbd : x9 < 0 ∨ nI 8 ≤ x9)
    (kk : ∀ (H1 : Heap) (locs1 : List Loc), Wd D A s (LW F) H1 locs1 → W p l e room_1 s m #[Value.ref b] below meth c H1 locs1 cells slots Q (F0 m 487 ls (.int ((-2 : Int32)) :: [.int r0]))) : W p l e room_1 s m #[Value.ref b] below meth c H locs cells slots Q (F0 m 484 ls [.long (w0), .int (z9), .int (x9), .int (nI (h)), .ref (z 0), .int r0]) := by
  obtain ⟨⟨be, nu, bq, fg, hg, cz, mo⟩, ⟨ke, cn, bb, vv, ww, oo, pp, il, j1, j2, j3, j4, j5, j6, j7, j8, j9, j10⟩, ⟨mr, ms, mr1, mr2, mr3⟩, ⟨mt, mcn, mmd, mk, mh, mdn, mdo, t1, t2, t3, t4, t5, t6, t7⟩, ⟨mf, mf1, mf2⟩, ⟨mp, mp1, mp2⟩⟩ := hJ
  refine kL (As := [.int (nI (h)), .int (x9), .int (z9), .long (w0)]) (rest := [.int r0]) X hW [82] (fun sz => c_X5_output_b2 l D cy t (z 0) (z 1) (z 2) (z 3) (z 4) (z 5) (z 6) (z 7) (z 8) (z 9) fn0 (z 10) pn (z 11) (z 12) be (z 13) (z 14) (z 15) (z 16) (z 17) (z 18) nu bq fg (z 19) hg cz (z 20) h x9 z9 w0 hh y_hbd sz) rfl (And.intro mo True.intro) (by decide) (by decide) (cwV 4 X.1.2.2.2.2 gL_law_X5_output rfl rfl rfl (by decide +kernel) ⟨Nat.le_of_ble_eq_true rfl, Nat.le_of_ble_eq_true rfl⟩) (fun _ => rfl) 0 5 rfl rfl rfl hsz rfl (Nat.le_of_ble_eq_true rfl) dL_law_484 hf (fun r9 u9 H1 locs1 F1 hp hE hq hW1 => ?_)
  have hr9 := hp
  replace hr9 : r9 = (-2 : Int32) := hr9
  subst hr9
  have eF := same_F hq hE rfl (And.intro mo True.intro)
  rw [eF] at hW1
  exact kk H1 locs1 hW1
set_option maxHeartbeats 4000000 in
theorem m_output_bn (r0 : Int32) (X : LC p m c s D cy t A b L xs) (hJ : INVm F cy z cnt f fn0 ff pn pf md K g nt) (hN : INVs cnt fn0 pn md nt) (hW : Wd D A s (LW F) H locs) (hsz : ls.size = 4) (hf : cells ≤ 600000 ∧ slots ≤ 7302250) {r : Nat} (hr : r < 8) {h : Nat} (hh : h < 4) (z9 : Int32) (w0 : Int64) (y_hbn : z9 < 0 ∨ nI 200 < z9)
    (kk : ∀ (H1 : Heap) (locs1 : List Loc), Wd D A s (LW F) H1 locs1 → W p l e room_1 s m #[Value.ref b] below meth c H1 locs1 cells slots Q (F0 m 487 ls (.int ((-2 : Int32)) :: [.int r0]))) : W p l e room_1 s m #[Value.ref b] below meth c H locs cells slots Q (F0 m 484 ls [.long (w0), .int (z9), .int (nI (r)), .int (nI (h)), .ref (z 0), .int r0]) := by
  obtain ⟨⟨be, nu, bq, fg, hg, cz, mo⟩, ⟨ke, cn, bb, vv, ww, oo, pp, il, j1, j2, j3, j4, j5, j6, j7, j8, j9, j10⟩, ⟨mr, ms, mr1, mr2, mr3⟩, ⟨mt, mcn, mmd, mk, mh, mdn, mdo, t1, t2, t3, t4, t5, t6, t7⟩, ⟨mf, mf1, mf2⟩, ⟨mp, mp1, mp2⟩⟩ := hJ
  refine kL (As := [.int (nI (h)), .int (nI (r)), .int (z9), .long (w0)]) (rest := [.int r0]) X hW [82] (fun sz => c_X5_output_bn l D cy t (z 0) (z 1) (z 2) (z 3) (z 4) (z 5) (z 6) (z 7) (z 8) (z 9) fn0 (z 10) pn (z 11) (z 12) be (z 13) (z 14) (z 15) (z 16) (z 17) (z 18) nu bq fg (z 19) hg cz (z 20) h r z9 w0 hh hr y_hbn sz) rfl (And.intro mo True.intro) (by decide) (by decide) (cwV 4 X.1.2.2.2.2 gL_law_X5_output rfl rfl rfl (by decide +kernel) ⟨Nat.le_of_ble_eq_true rfl, Nat.le_of_ble_eq_true rfl⟩) (fun _ => rfl) 0 5 rfl rfl rfl hsz rfl (Nat.le_of_ble_eq_true rfl) dL_law_484 hf (fun r9 u9 H1 locs1 F1 hp hE hq hW1 => ?_)
  have hr9 := hp
  replace hr9 : r9 = (-2 : Int32) := hr9
  subst hr9
  have eF := same_F hq hE rfl (And.intro mo True.intro)
  rw [eF] at hW1
  exact kk H1 locs1 hW1
set_option maxHeartbeats 4000000 in
theorem m_output_bp (r0 : Int32) (X : LC p m c s D cy t A b L xs) (hJ : INVm F cy z cnt f fn0 ff pn pf md K g nt) (hN : INVs cnt fn0 pn md nt) (hW : Wd D A s (LW F) H locs) (hsz : ls.size = 4) (hf : cells ≤ 600000 ∧ slots ≤ 7302250) {r : Nat} (hr : r < 8) {h : Nat} (hh : h < 4) (n : Nat) (w0 : Int64) (y_hn2 : n ≤ 200) (y_hbp : w0 < lN 0 ∨ (4611686018427387904 : Int64) < w0)
    (kk : ∀ (H1 : Heap) (locs1 : List Loc), Wd D A s (LW F) H1 locs1 → W p l e room_1 s m #[Value.ref b] below meth c H1 locs1 cells slots Q (F0 m 487 ls (.int ((-2 : Int32)) :: [.int r0]))) : W p l e room_1 s m #[Value.ref b] below meth c H locs cells slots Q (F0 m 484 ls [.long (w0), .int (nI (n)), .int (nI (r)), .int (nI (h)), .ref (z 0), .int r0]) := by
  obtain ⟨⟨be, nu, bq, fg, hg, cz, mo⟩, ⟨ke, cn, bb, vv, ww, oo, pp, il, j1, j2, j3, j4, j5, j6, j7, j8, j9, j10⟩, ⟨mr, ms, mr1, mr2, mr3⟩, ⟨mt, mcn, mmd, mk, mh, mdn, mdo, t1, t2, t3, t4, t5, t6, t7⟩, ⟨mf, mf1, mf2⟩, ⟨mp, mp1, mp2⟩⟩ := hJ
  refine kL (As := [.int (nI (h)), .int (nI (r)), .int (nI (n)), .long (w0)]) (rest := [.int r0]) X hW [82] (fun sz => c_X5_output_bp l D cy t (z 0) (z 1) (z 2) (z 3) (z 4) (z 5) (z 6) (z 7) (z 8) (z 9) fn0 (z 10) pn (z 11) (z 12) be (z 13) (z 14) (z 15) (z 16) (z 17) (z 18) nu bq fg (z 19) hg cz (z 20) h r n w0 hh hr y_hn2 y_hbp sz) rfl (And.intro mo True.intro) (by decide) (by decide) (cwV 4 X.1.2.2.2.2 gL_law_X5_output rfl rfl rfl (by decide +kernel) ⟨Nat.le_of_ble_eq_true rfl, Nat.le_of_ble_eq_true rfl⟩) (fun _ => rfl) 0 5 rfl rfl rfl hsz rfl (Nat.le_of_ble_eq_true rfl) dL_law_484 hf (fun r9 u9 H1 locs1 F1 hp hE hq hW1 => ?_)
  have hr9 := hp
  replace hr9 : r9 = (-2 : Int32) := hr9
  subst hr9
  have eF := same_F hq hE rfl (And.intro mo True.intro)
  rw [eF] at hW1
  exact kk H1 locs1 hW1
set_option maxHeartbeats 4000000 in
theorem m_root_b (r0 : Int32) (X : LC p m c s D cy t A b L xs) (hJ : INVm F cy z cnt f fn0 ff pn pf md K g nt) (hN : INVs cnt fn0 pn md nt) (hW : Wd D A s (LW F) H locs) (hsz : ls.size = 4) (hf : cells ≤ 600000 ∧ slots ≤ 7302250)  (x9 : Int32) (y_hbd : x9 < 0 ∨ nI 8 ≤ x9)
    (kk : ∀ (H1 : Heap) (locs1 : List Loc), Wd D A s (LW F) H1 locs1 → W p l e room_1 s m #[Value.ref b] below meth c H1 locs1 cells slots Q (F0 m 718 ls (.int ((-2 : Int32)) :: [.int r0]))) : W p l e room_1 s m #[Value.ref b] below meth c H locs cells slots Q (F0 m 715 ls [.int (x9), .ref (z 0), .int r0]) := by
  obtain ⟨⟨be, nu, bq, fg, hg, cz, mo⟩, ⟨ke, cn, bb, vv, ww, oo, pp, il, j1, j2, j3, j4, j5, j6, j7, j8, j9, j10⟩, ⟨mr, ms, mr1, mr2, mr3⟩, ⟨mt, mcn, mmd, mk, mh, mdn, mdo, t1, t2, t3, t4, t5, t6, t7⟩, ⟨mf, mf1, mf2⟩, ⟨mp, mp1, mp2⟩⟩ := hJ
  refine kL (As := [.int (x9)]) (rest := [.int r0]) X hW [82] (fun sz => c_X5_root_b l D cy t (z 0) (z 1) (z 2) (z 3) (z 4) (z 5) (z 6) (z 7) (z 8) (z 9) fn0 (z 10) pn (z 11) (z 12) be (z 13) (z 14) (z 15) (z 16) (z 17) (z 18) nu bq fg (z 19) hg cz (z 20) x9 y_hbd sz) rfl (And.intro mo True.intro) (by decide) (by decide) (cwV 1 X.1.2.2.2.2 gL_law_X5_root rfl rfl rfl (by decide +kernel) ⟨Nat.le_of_ble_eq_true rfl, Nat.le_of_ble_eq_true rfl⟩) (fun _ => rfl) 0 5 rfl rfl rfl hsz rfl (Nat.le_of_ble_eq_true rfl) dL_law_715 hf (fun r9 u9 H1 locs1 F1 hp hE hq hW1 => ?_)
  have hr9 := hp
  replace hr9 : r9 = (-2 : Int32) := hr9
  subst hr9
  have eF := same_F hq hE rfl (And.intro mo True.intro)
  rw [eF] at hW1
  exact kk H1 locs1 hW1
set_option maxHeartbeats 4000000 in
theorem m_prove_b (r0 : Int32) (X : LC p m c s D cy t A b L xs) (hJ : INVm F cy z cnt f fn0 ff pn pf md K g nt) (hN : INVs cnt fn0 pn md nt) (hW : Wd D A s (LW F) H locs) (hsz : ls.size = 4) (hf : cells ≤ 600000 ∧ slots ≤ 7302250)  (x9 : Int32) (y_hbd : x9 < 0 ∨ nI (chks fn0) ≤ x9)
    (kk : ∀ (H1 : Heap) (locs1 : List Loc), Wd D A s (LW F) H1 locs1 → W p l e room_1 s m #[Value.ref b] below meth c H1 locs1 cells slots Q (F0 m 741 ls (.int ((-2 : Int32)) :: [.int r0]))) : W p l e room_1 s m #[Value.ref b] below meth c H locs cells slots Q (F0 m 738 ls [.int (x9), .ref (z 0), .int r0]) := by
  obtain ⟨⟨be, nu, bq, fg, hg, cz, mo⟩, ⟨ke, cn, bb, vv, ww, oo, pp, il, j1, j2, j3, j4, j5, j6, j7, j8, j9, j10⟩, ⟨mr, ms, mr1, mr2, mr3⟩, ⟨mt, mcn, mmd, mk, mh, mdn, mdo, t1, t2, t3, t4, t5, t6, t7⟩, ⟨mf, mf1, mf2⟩, ⟨mp, mp1, mp2⟩⟩ := hJ
  refine kL (As := [.int (x9)]) (rest := [.int r0]) X hW [82] (fun sz => c_X5_prove_b l D cy t (z 0) (z 1) (z 2) (z 3) (z 4) (z 5) (z 6) (z 7) (z 8) (z 9) fn0 (z 10) pn (z 11) (z 12) be (z 13) (z 14) (z 15) (z 16) (z 17) (z 18) nu bq fg (z 19) hg cz (z 20) x9 hN.2.1 y_hbd sz) rfl (And.intro mo True.intro) (by decide) (by decide) (cwV 1 X.1.2.2.2.2 gL_law_X5_prove rfl rfl rfl (by decide +kernel) ⟨Nat.le_of_ble_eq_true rfl, Nat.le_of_ble_eq_true rfl⟩) (fun _ => rfl) 0 5 rfl rfl rfl hsz rfl (Nat.le_of_ble_eq_true rfl) dL_law_738 hf (fun r9 u9 H1 locs1 F1 hp hE hq hW1 => ?_)
  have hr9 := hp
  replace hr9 : r9 = (-2 : Int32) := hr9
  subst hr9
  have eF := same_F hq hE rfl (And.intro mo True.intro)
  rw [eF] at hW1
  exact kk H1 locs1 hW1
set_option maxHeartbeats 4000000 in
theorem m_check_b (r0 : Int32) (X : LC p m c s D cy t A b L xs) (hJ : INVm F cy z cnt f fn0 ff pn pf md K g nt) (hN : INVs cnt fn0 pn md nt) (hW : Wd D A s (LW F) H locs) (hsz : ls.size = 4) (hf : cells ≤ 600000 ∧ slots ≤ 7302250)  (x9 : Int32) (y9 : Int32) (z9 : Int32) (y_hbd : x9 < 0 ∨ nI 8 ≤ x9)
    (kk : ∀ (H1 : Heap) (locs1 : List Loc), Wd D A s (LW F) H1 locs1 → W p l e room_1 s m #[Value.ref b] below meth c H1 locs1 cells slots Q (F0 m 863 ls (.int ((-2 : Int32)) :: [.int r0]))) : W p l e room_1 s m #[Value.ref b] below meth c H locs cells slots Q (F0 m 860 ls [.int (z9), .int (y9), .int (x9), .ref (z 0), .int r0]) := by
  obtain ⟨⟨be, nu, bq, fg, hg, cz, mo⟩, ⟨ke, cn, bb, vv, ww, oo, pp, il, j1, j2, j3, j4, j5, j6, j7, j8, j9, j10⟩, ⟨mr, ms, mr1, mr2, mr3⟩, ⟨mt, mcn, mmd, mk, mh, mdn, mdo, t1, t2, t3, t4, t5, t6, t7⟩, ⟨mf, mf1, mf2⟩, ⟨mp, mp1, mp2⟩⟩ := hJ
  refine kL (As := [.int (x9), .int (y9), .int (z9)]) (rest := [.int r0]) X hW [82] (fun sz => c_X5_check_b l D cy t (z 0) (z 1) (z 2) (z 3) (z 4) (z 5) (z 6) (z 7) (z 8) (z 9) fn0 (z 10) pn (z 11) (z 12) be (z 13) (z 14) (z 15) (z 16) (z 17) (z 18) nu bq fg (z 19) hg cz (z 20) x9 y9 z9 y_hbd sz) rfl (And.intro mo True.intro) (by decide) (by decide) (cwV 3 X.1.2.2.2.2 gL_law_X5_check rfl rfl rfl (by decide +kernel) ⟨Nat.le_of_ble_eq_true rfl, Nat.le_of_ble_eq_true rfl⟩) (fun _ => rfl) 0 5 rfl rfl rfl hsz rfl (Nat.le_of_ble_eq_true rfl) dL_law_860 hf (fun r9 u9 H1 locs1 F1 hp hE hq hW1 => ?_)
  have hr9 := hp
  replace hr9 : r9 = (-2 : Int32) := hr9
  subst hr9
  have eF := same_F hq hE rfl (And.intro mo True.intro)
  rw [eF] at hW1
  exact kk H1 locs1 hW1
set_option maxHeartbeats 4000000 in
theorem m_check_bl (r0 : Int32) (X : LC p m c s D cy t A b L xs) (hJ : INVm F cy z cnt f fn0 ff pn pf md K g nt) (hN : INVs cnt fn0 pn md nt) (hW : Wd D A s (LW F) H locs) (hsz : ls.size = 4) (hf : cells ≤ 600000 ∧ slots ≤ 7302250) {r : Nat} (hr : r < 8) (y9 : Int32) (z9 : Int32) (y_hc : (cnt r) ≤ 200) (y_hbn : y9 < 0 ∨ nI 1000000 < y9)
    (kk : ∀ (H1 : Heap) (locs1 : List Loc), Wd D A s (LW F) H1 locs1 → W p l e room_1 s m #[Value.ref b] below meth c H1 locs1 cells slots Q (F0 m 863 ls (.int ((-2 : Int32)) :: [.int r0]))) : W p l e room_1 s m #[Value.ref b] below meth c H locs cells slots Q (F0 m 860 ls [.int (z9), .int (y9), .int (nI (r)), .ref (z 0), .int r0]) := by
  obtain ⟨⟨be, nu, bq, fg, hg, cz, mo⟩, ⟨ke, cn, bb, vv, ww, oo, pp, il, j1, j2, j3, j4, j5, j6, j7, j8, j9, j10⟩, ⟨mr, ms, mr1, mr2, mr3⟩, ⟨mt, mcn, mmd, mk, mh, mdn, mdo, t1, t2, t3, t4, t5, t6, t7⟩, ⟨mf, mf1, mf2⟩, ⟨mp, mp1, mp2⟩⟩ := hJ
  refine kL (As := [.int (nI (r)), .int (y9), .int (z9)]) (rest := [.int r0]) X hW [82, 84, 83] (fun sz => c_X5_check_bl l D cy t (z 0) (z 1) (z 2) (z 3) (z 4) (z 5) (z 6) (z 7) (z 8) (z 9) fn0 (z 10) pn (z 11) (z 12) be (z 13) (z 14) (z 15) (z 16) (z 17) (z 18) nu bq fg (z 19) hg cz (z 20) ms mr r (cnt r) y9 z9 hr ((mr3 r hr).1) y_hc y_hbn sz) rfl (And.intro mo (And.intro mr2 (And.intro mr1 True.intro))) (by decide) (by decide) (cwV 3 X.1.2.2.2.2 gL_law_X5_check rfl rfl rfl (by decide +kernel) ⟨Nat.le_of_ble_eq_true rfl, Nat.le_of_ble_eq_true rfl⟩) (fun _ => rfl) 0 5 rfl rfl rfl hsz rfl (Nat.le_of_ble_eq_true rfl) dL_law_860 hf (fun r9 u9 H1 locs1 F1 hp hE hq hW1 => ?_)
  have hr9 := hp
  replace hr9 : r9 = (-2 : Int32) := hr9
  subst hr9
  have eF := same_F hq hE rfl (And.intro mo (And.intro mr2 (And.intro mr1 True.intro)))
  rw [eF] at hW1
  exact kk H1 locs1 hW1
set_option maxHeartbeats 4000000 in
theorem m_check_bk (r0 : Int32) (X : LC p m c s D cy t A b L xs) (hJ : INVm F cy z cnt f fn0 ff pn pf md K g nt) (hN : INVs cnt fn0 pn md nt) (hW : Wd D A s (LW F) H locs) (hsz : ls.size = 4) (hf : cells ≤ 600000 ∧ slots ≤ 7302250) {r : Nat} (hr : r < 8) (n : Nat) (z9 : Int32) (y_hc : (cnt r) ≤ 200) (y_hn1 : n ≤ 1000000) (y_hbd : z9 < 0 ∨ nI (chks n) ≤ z9)
    (kk : ∀ (H1 : Heap) (locs1 : List Loc), Wd D A s (LW F) H1 locs1 → W p l e room_1 s m #[Value.ref b] below meth c H1 locs1 cells slots Q (F0 m 863 ls (.int ((-2 : Int32)) :: [.int r0]))) : W p l e room_1 s m #[Value.ref b] below meth c H locs cells slots Q (F0 m 860 ls [.int (z9), .int (nI (n)), .int (nI (r)), .ref (z 0), .int r0]) := by
  obtain ⟨⟨be, nu, bq, fg, hg, cz, mo⟩, ⟨ke, cn, bb, vv, ww, oo, pp, il, j1, j2, j3, j4, j5, j6, j7, j8, j9, j10⟩, ⟨mr, ms, mr1, mr2, mr3⟩, ⟨mt, mcn, mmd, mk, mh, mdn, mdo, t1, t2, t3, t4, t5, t6, t7⟩, ⟨mf, mf1, mf2⟩, ⟨mp, mp1, mp2⟩⟩ := hJ
  refine kL (As := [.int (nI (r)), .int (nI (n)), .int (z9)]) (rest := [.int r0]) X hW [82, 84, 83] (fun sz => c_X5_check_bk l D cy t (z 0) (z 1) (z 2) (z 3) (z 4) (z 5) (z 6) (z 7) (z 8) (z 9) fn0 (z 10) pn (z 11) (z 12) be (z 13) (z 14) (z 15) (z 16) (z 17) (z 18) nu bq fg (z 19) hg cz (z 20) ms mr r (cnt r) n z9 hr ((mr3 r hr).1) y_hc y_hn1 y_hbd sz) rfl (And.intro mo (And.intro mr2 (And.intro mr1 True.intro))) (by decide) (by decide) (cwV 3 X.1.2.2.2.2 gL_law_X5_check rfl rfl rfl (by decide +kernel) ⟨Nat.le_of_ble_eq_true rfl, Nat.le_of_ble_eq_true rfl⟩) (fun _ => rfl) 0 5 rfl rfl rfl hsz rfl (Nat.le_of_ble_eq_true rfl) dL_law_860 hf (fun r9 u9 H1 locs1 F1 hp hE hq hW1 => ?_)
  have hr9 := hp
  replace hr9 : r9 = (-2 : Int32) := hr9
  subst hr9
  have eF := same_F hq hE rfl (And.intro mo (And.intro mr2 (And.intro mr1 True.intro)))
  rw [eF] at hW1
  exact kk H1 locs1 hW1
set_option maxHeartbeats 4000000 in
theorem m_check_bc (r0 : Int32) (X : LC p m c s D cy t A b L xs) (hJ : INVm F cy z cnt f fn0 ff pn pf md K g nt) (hN : INVs cnt fn0 pn md nt) (hW : Wd D A s (LW F) H locs) (hsz : ls.size = 4) (hf : cells ≤ 600000 ∧ slots ≤ 7302250) {r : Nat} (hr : r < 8) (n : Nat) (c0 : Nat) (y_hc : (cnt r) ≤ 200) (y_hn1 : n ≤ 1000000) (y_hc0 : c0 < chks n) (y_h32 : (cnt r) ≠ 32)
    (kk : ∀ (H1 : Heap) (locs1 : List Loc), Wd D A s (LW F) H1 locs1 → W p l e room_1 s m #[Value.ref b] below meth c H1 locs1 cells slots Q (F0 m 863 ls (.int ((-2 : Int32)) :: [.int r0]))) : W p l e room_1 s m #[Value.ref b] below meth c H locs cells slots Q (F0 m 860 ls [.int (nI (c0)), .int (nI (n)), .int (nI (r)), .ref (z 0), .int r0]) := by
  obtain ⟨⟨be, nu, bq, fg, hg, cz, mo⟩, ⟨ke, cn, bb, vv, ww, oo, pp, il, j1, j2, j3, j4, j5, j6, j7, j8, j9, j10⟩, ⟨mr, ms, mr1, mr2, mr3⟩, ⟨mt, mcn, mmd, mk, mh, mdn, mdo, t1, t2, t3, t4, t5, t6, t7⟩, ⟨mf, mf1, mf2⟩, ⟨mp, mp1, mp2⟩⟩ := hJ
  refine kL (As := [.int (nI (r)), .int (nI (n)), .int (nI (c0))]) (rest := [.int r0]) X hW [82, 84, 83] (fun sz => c_X5_check_bc l D cy t (z 0) (z 1) (z 2) (z 3) (z 4) (z 5) (z 6) (z 7) (z 8) (z 9) fn0 (z 10) pn (z 11) (z 12) be (z 13) (z 14) (z 15) (z 16) (z 17) (z 18) nu bq fg (z 19) hg cz (z 20) ms mr r (cnt r) n c0 hr ((mr3 r hr).1) y_hc y_hn1 y_hc0 y_h32 sz) rfl (And.intro mo (And.intro mr2 (And.intro mr1 True.intro))) (by decide) (by decide) (cwV 3 X.1.2.2.2.2 gL_law_X5_check rfl rfl rfl (by decide +kernel) ⟨Nat.le_of_ble_eq_true rfl, Nat.le_of_ble_eq_true rfl⟩) (fun _ => rfl) 0 5 rfl rfl rfl hsz rfl (Nat.le_of_ble_eq_true rfl) dL_law_860 hf (fun r9 u9 H1 locs1 F1 hp hE hq hW1 => ?_)
  have hr9 := hp
  replace hr9 : r9 = (-2 : Int32) := hr9
  subst hr9
  have eF := same_F hq hE rfl (And.intro mo (And.intro mr2 (And.intro mr1 True.intro)))
  rw [eF] at hW1
  exact kk H1 locs1 hW1
set_option maxHeartbeats 4000000 in
theorem m_at (r0 : Int32) (X : LC p m c s D cy t A b L xs) (hJ : INVm F cy z cnt f fn0 ff pn pf md K g nt) (hN : INVs cnt fn0 pn md nt) (hW : Wd D A s (LW F) H locs) (hsz : ls.size = 4) (hf : cells ≤ 600000 ∧ slots ≤ 7302250) {r : Nat} (hr : r < 8) (j : Nat) (y_hc : (cnt r) ≤ 200) (y_hj : j < (cnt r))
    (kk : ∀ (H1 : Heap) (locs1 : List Loc), Wd D A s (LW F) H1 locs1 → W p l e room_1 s m #[Value.ref b] below meth c H1 locs1 cells slots Q (F0 m 275 ls (.int (lo8 (f r) j) :: [.int r0]))) : W p l e room_1 s m #[Value.ref b] below meth c H locs cells slots Q (F0 m 272 ls [.int (nI (j)), .int (nI (r)), .ref (z 0), .int r0]) := by
  obtain ⟨⟨be, nu, bq, fg, hg, cz, mo⟩, ⟨ke, cn, bb, vv, ww, oo, pp, il, j1, j2, j3, j4, j5, j6, j7, j8, j9, j10⟩, ⟨mr, ms, mr1, mr2, mr3⟩, ⟨mt, mcn, mmd, mk, mh, mdn, mdo, t1, t2, t3, t4, t5, t6, t7⟩, ⟨mf, mf1, mf2⟩, ⟨mp, mp1, mp2⟩⟩ := hJ
  refine kL (As := [.int (nI (r)), .int (nI (j))]) (rest := [.int r0]) X hW [82, 84, 83] (fun sz => c_X5_at l D cy t (z 0) (z 1) (z 2) (z 3) (z 4) (z 5) (z 6) (z 7) (z 8) (z 9) fn0 (z 10) pn (z 11) (z 12) be (z 13) (z 14) (z 15) (z 16) (z 17) (z 18) nu bq fg (z 19) hg cz (z 20) ms mr r (cnt r) j hr ((mr3 r hr).1) y_hc y_hj sz) rfl (And.intro mo (And.intro mr2 (And.intro mr1 True.intro))) (by decide) (by decide) (cwV 2 X.1.2.2.2.2 gL_law_X5_at rfl rfl rfl (by decide +kernel) ⟨Nat.le_of_ble_eq_true rfl, Nat.le_of_ble_eq_true rfl⟩) (fun _ => rfl) 0 5 rfl rfl rfl hsz rfl (Nat.le_of_ble_eq_true rfl) dL_law_272 hf (fun r9 u9 H1 locs1 F1 hp hE hq hW1 => ?_)
  have hr9 := hp
  replace hr9 : r9 = lo8 (f r) j := hr9.trans ((mr3 r hr).2 j y_hj)
  subst hr9
  have eF := same_F hq hE rfl (And.intro mo (And.intro mr2 (And.intro mr1 True.intro)))
  rw [eF] at hW1
  exact kk H1 locs1 hW1
set_option maxHeartbeats 4000000 in
theorem m_proof (r0 : Int32) (X : LC p m c s D cy t A b L xs) (hJ : INVm F cy z cnt f fn0 ff pn pf md K g nt) (hN : INVs cnt fn0 pn md nt) (hW : Wd D A s (LW F) H locs) (hsz : ls.size = 4) (hf : cells ≤ 600000 ∧ slots ≤ 7302250)  (j : Nat) (y_hj : j < pn)
    (kk : ∀ (H1 : Heap) (locs1 : List Loc), Wd D A s (LW F) H1 locs1 → W p l e room_1 s m #[Value.ref b] below meth c H1 locs1 cells slots Q (F0 m 764 ls (.int (lo8 pf j) :: [.int r0]))) : W p l e room_1 s m #[Value.ref b] below meth c H locs cells slots Q (F0 m 761 ls [.int (nI (j)), .ref (z 0), .int r0]) := by
  obtain ⟨⟨be, nu, bq, fg, hg, cz, mo⟩, ⟨ke, cn, bb, vv, ww, oo, pp, il, j1, j2, j3, j4, j5, j6, j7, j8, j9, j10⟩, ⟨mr, ms, mr1, mr2, mr3⟩, ⟨mt, mcn, mmd, mk, mh, mdn, mdo, t1, t2, t3, t4, t5, t6, t7⟩, ⟨mf, mf1, mf2⟩, ⟨mp, mp1, mp2⟩⟩ := hJ
  refine kL (As := [.int (nI (j))]) (rest := [.int r0]) X hW [82, 92] (fun sz => c_X5_proof l D cy t (z 0) (z 1) (z 2) (z 3) (z 4) (z 5) (z 6) (z 7) (z 8) (z 9) fn0 (z 10) pn (z 11) (z 12) be (z 13) (z 14) (z 15) (z 16) (z 17) (z 18) nu bq fg (z 19) hg cz (z 20) mp j (Nat.le_trans hN.2.2.1 (by decide)) y_hj sz) rfl (And.intro mo (And.intro mp1 True.intro)) (by decide) (by decide) (cwV 1 X.1.2.2.2.2 gL_law_X5_proof rfl rfl rfl (by decide +kernel) ⟨Nat.le_of_ble_eq_true rfl, Nat.le_of_ble_eq_true rfl⟩) (fun _ => rfl) 0 5 rfl rfl rfl hsz rfl (Nat.le_of_ble_eq_true rfl) dL_law_761 hf (fun r9 u9 H1 locs1 F1 hp hE hq hW1 => ?_)
  have hr9 := hp
  replace hr9 : r9 = lo8 pf j := hr9.trans (mp2 j y_hj)
  subst hr9
  have eF := same_F hq hE rfl (And.intro mo (And.intro mp1 True.intro))
  rw [eF] at hW1
  exact kk H1 locs1 hW1
set_option maxHeartbeats 4000000 in
theorem m_told_0 (r0 : Int32) (X : LC p m c s D cy t A b L xs) (hJ : INVm F cy z cnt f fn0 ff pn pf md K g nt) (hN : INVs cnt fn0 pn md nt) (hW : Wd D A s (LW F) H locs) (hsz : ls.size = 4) (hf : cells ≤ 600000 ∧ slots ≤ 7302250) {h : Nat} (hh : h < 4)  (y_hnt : (nt h) ≤ 40000)
    (kk : ∀ (H1 : Heap) (locs1 : List Loc), Wd D A s (LW F) H1 locs1 → W p l e room_1 s m #[Value.ref b] below meth c H1 locs1 cells slots Q (F0 m 553 ls (.int (md h) :: [.int r0]))) : W p l e room_1 s m #[Value.ref b] below meth c H locs cells slots Q (F0 m 550 ls [.int (nI (0)), .int (nI (h)), .ref (z 0), .int r0]) := by
  obtain ⟨⟨be, nu, bq, fg, hg, cz, mo⟩, ⟨ke, cn, bb, vv, ww, oo, pp, il, j1, j2, j3, j4, j5, j6, j7, j8, j9, j10⟩, ⟨mr, ms, mr1, mr2, mr3⟩, ⟨mt, mcn, mmd, mk, mh, mdn, mdo, t1, t2, t3, t4, t5, t6, t7⟩, ⟨mf, mf1, mf2⟩, ⟨mp, mp1, mp2⟩⟩ := hJ
  refine kL (As := [.int (nI (h)), .int (nI (0))]) (rest := [.int r0]) X hW [82, 86, 87] (fun sz => c_X5_told_0 l D cy t (z 0) (z 1) (z 2) (z 3) (z 4) (z 5) (z 6) (z 7) (z 8) (z 9) fn0 (z 10) pn (z 11) (z 12) be (z 13) (z 14) (z 15) (z 16) (z 17) (z 18) nu bq fg (z 19) hg cz (z 20) mt mcn h (nt h) mmd hh ((t7 h hh).1) y_hnt sz) rfl (And.intro mo (And.intro t2 (And.intro t3 True.intro))) (by decide) (by decide) (cwV 2 X.1.2.2.2.2 gL_law_X5_told rfl rfl rfl (by decide +kernel) ⟨Nat.le_of_ble_eq_true rfl, Nat.le_of_ble_eq_true rfl⟩) (fun _ => rfl) 0 5 rfl rfl rfl hsz rfl (Nat.le_of_ble_eq_true rfl) dL_law_550 hf (fun r9 u9 H1 locs1 F1 hp hE hq hW1 => ?_)
  have hr9 := hp
  replace hr9 : r9 = md h := hr9.trans ((t7 h hh).2.1)
  subst hr9
  have eF := same_F hq hE rfl (And.intro mo (And.intro t2 (And.intro t3 True.intro)))
  rw [eF] at hW1
  exact kk H1 locs1 hW1
set_option maxHeartbeats 4000000 in
theorem m_told_3 (r0 : Int32) (X : LC p m c s D cy t A b L xs) (hJ : INVm F cy z cnt f fn0 ff pn pf md K g nt) (hN : INVs cnt fn0 pn md nt) (hW : Wd D A s (LW F) H locs) (hsz : ls.size = 4) (hf : cells ≤ 600000 ∧ slots ≤ 7302250) {h : Nat} (hh : h < 4)  (y_hnt : (nt h) ≤ 40000)
    (kk : ∀ (H1 : Heap) (locs1 : List Loc), Wd D A s (LW F) H1 locs1 → W p l e room_1 s m #[Value.ref b] below meth c H1 locs1 cells slots Q (F0 m 553 ls (.int (nI (hdp (nt h))) :: [.int r0]))) : W p l e room_1 s m #[Value.ref b] below meth c H locs cells slots Q (F0 m 550 ls [.int (nI (3)), .int (nI (h)), .ref (z 0), .int r0]) := by
  obtain ⟨⟨be, nu, bq, fg, hg, cz, mo⟩, ⟨ke, cn, bb, vv, ww, oo, pp, il, j1, j2, j3, j4, j5, j6, j7, j8, j9, j10⟩, ⟨mr, ms, mr1, mr2, mr3⟩, ⟨mt, mcn, mmd, mk, mh, mdn, mdo, t1, t2, t3, t4, t5, t6, t7⟩, ⟨mf, mf1, mf2⟩, ⟨mp, mp1, mp2⟩⟩ := hJ
  refine kL (As := [.int (nI (h)), .int (nI (3))]) (rest := [.int r0]) X hW [82, 86, 87] (fun sz => c_X5_told_3 l D cy t (z 0) (z 1) (z 2) (z 3) (z 4) (z 5) (z 6) (z 7) (z 8) (z 9) fn0 (z 10) pn (z 11) (z 12) be (z 13) (z 14) (z 15) (z 16) (z 17) (z 18) nu bq fg (z 19) hg cz (z 20) mt mcn h (nt h) mmd hh ((t7 h hh).1) y_hnt sz) rfl (And.intro mo (And.intro t2 (And.intro t3 True.intro))) (by decide) (by decide) (cwV 2 X.1.2.2.2.2 gL_law_X5_told rfl rfl rfl (by decide +kernel) ⟨Nat.le_of_ble_eq_true rfl, Nat.le_of_ble_eq_true rfl⟩) (fun _ => rfl) 0 5 rfl rfl rfl hsz rfl (Nat.le_of_ble_eq_true rfl) dL_law_550 hf (fun r9 u9 H1 locs1 F1 hp hE hq hW1 => ?_)
  have hr9 := hp
  replace hr9 : r9 = nI (hdp (nt h)) := hr9.trans (rfl)
  subst hr9
  have eF := same_F hq hE rfl (And.intro mo (And.intro t2 (And.intro t3 True.intro)))
  rw [eF] at hW1
  exact kk H1 locs1 hW1
set_option maxHeartbeats 4000000 in
theorem m_told_4 (r0 : Int32) (X : LC p m c s D cy t A b L xs) (hJ : INVm F cy z cnt f fn0 ff pn pf md K g nt) (hN : INVs cnt fn0 pn md nt) (hW : Wd D A s (LW F) H locs) (hsz : ls.size = 4) (hf : cells ≤ 600000 ∧ slots ≤ 7302250) {h : Nat} (hh : h < 4)  (y_hnt : (nt h) ≤ 40000)
    (kk : ∀ (H1 : Heap) (locs1 : List Loc), Wd D A s (LW F) H1 locs1 → W p l e room_1 s m #[Value.ref b] below meth c H1 locs1 cells slots Q (F0 m 553 ls (.int (nI (hbk (nt h) * 64 + hib (nt h))) :: [.int r0]))) : W p l e room_1 s m #[Value.ref b] below meth c H locs cells slots Q (F0 m 550 ls [.int (nI (4)), .int (nI (h)), .ref (z 0), .int r0]) := by
  obtain ⟨⟨be, nu, bq, fg, hg, cz, mo⟩, ⟨ke, cn, bb, vv, ww, oo, pp, il, j1, j2, j3, j4, j5, j6, j7, j8, j9, j10⟩, ⟨mr, ms, mr1, mr2, mr3⟩, ⟨mt, mcn, mmd, mk, mh, mdn, mdo, t1, t2, t3, t4, t5, t6, t7⟩, ⟨mf, mf1, mf2⟩, ⟨mp, mp1, mp2⟩⟩ := hJ
  refine kL (As := [.int (nI (h)), .int (nI (4))]) (rest := [.int r0]) X hW [82, 86, 87] (fun sz => c_X5_told_4 l D cy t (z 0) (z 1) (z 2) (z 3) (z 4) (z 5) (z 6) (z 7) (z 8) (z 9) fn0 (z 10) pn (z 11) (z 12) be (z 13) (z 14) (z 15) (z 16) (z 17) (z 18) nu bq fg (z 19) hg cz (z 20) mt mcn h (nt h) mmd hh ((t7 h hh).1) y_hnt sz) rfl (And.intro mo (And.intro t2 (And.intro t3 True.intro))) (by decide) (by decide) (cwV 2 X.1.2.2.2.2 gL_law_X5_told rfl rfl rfl (by decide +kernel) ⟨Nat.le_of_ble_eq_true rfl, Nat.le_of_ble_eq_true rfl⟩) (fun _ => rfl) 0 5 rfl rfl rfl hsz rfl (Nat.le_of_ble_eq_true rfl) dL_law_550 hf (fun r9 u9 H1 locs1 F1 hp hE hq hW1 => ?_)
  have hr9 := hp
  replace hr9 : r9 = nI (hbk (nt h) * 64 + hib (nt h)) := hr9.trans (congrArg nI (by have := h_nums (nt h); omega))
  subst hr9
  have eF := same_F hq hE rfl (And.intro mo (And.intro t2 (And.intro t3 True.intro)))
  rw [eF] at hW1
  exact kk H1 locs1 hW1
end ROW69a
