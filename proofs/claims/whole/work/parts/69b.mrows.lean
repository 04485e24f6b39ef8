section ROW69b
variable {p : Program} {l : Launch} {e : Env} {s : State} {m : MethodId} {below : List Frame} {meth : Method} {c : Code} {H : Heap} {locs : List Loc} {cells slots : Nat} {Q : State → Prop} {D : va_G} {cy : Nat → ClassId} {t : Nat × Nat} {A : Nat → Prop} {F : Nat → cellT} {b L i0 : Nat} {xs : Nat → Int32} {ls : Array Slot} {a ra rb ha z cnt : Nat → Nat} {f : Nat → Nat → Int32} {fn0 : Nat} {ff : Nat → Int32} {pn : Nat} {pf : Nat → Int32} {md : Nat → Int32} {K g : Nat → Nat → Int32} {nt : Nat → Nat}
set_option maxHeartbeats 4000000 in
theorem m_add (r0 : Int32) (X : LC p m c s D cy t A b L xs) (hJ : INVm F cy z cnt f fn0 ff pn pf md K g nt) (hN : INVs cnt fn0 pn md nt) (hW : Wd D A s (LW F) H locs) (hsz : ls.size = 4) (hf : cells ≤ 600000 ∧ slots ≤ 7302250) {r : Nat} (hr : r < 8) (k : Nat) (w0 : Int64) (y_hc : (cnt r) ≤ 200) (y_hk1 : 1 ≤ k) (y_hk8 : k ≤ 8) (y_hfit : (cnt r) + k ≤ 200)
    (kk : ∀ (H1 : Heap) (locs1 : List Loc) (F1 : Nat → cellT), (∀ j, j < 82 → F1 j = F j) → INVm F1 cy z (upN1 cnt r ((cnt r) + k)) (upF1 f r (apG (f r) (cnt r) (fun i => b8 (((w0.toUInt64 >>> ((nI (8 * i)).toInt64.toUInt64 &&& Int64.toUInt64 63)).toInt64).toInt32)) k)) fn0 ff pn pf md K g nt → Wd D A s (LW F1) H1 locs1 → W p l e room_1 s m #[Value.ref b] below meth c H1 locs1 cells slots Q (F0 m 196 ls (.int (nI ((cnt r) + k)) :: [.int r0]))) : W p l e room_1 s m #[Value.ref b] below meth c H locs cells slots Q (F0 m 193 ls [.long (w0), .int (nI (k)), .int (nI (r)), .ref (z 0), .int r0]) := by
  obtain ⟨⟨be, nu, bq, fg, hg, cz, mo⟩, ⟨ke, cn, bb, vv, ww, oo, pp, il, j1, j2, j3, j4, j5, j6, j7, j8, j9, j10⟩, ⟨mr, ms, mr1, mr2, mr3⟩, ⟨mt, mcn, mmd, mk, mh, mdn, mdo, t1, t2, t3, t4, t5, t6, t7⟩, ⟨mf, mf1, mf2⟩, ⟨mp, mp1, mp2⟩⟩ := hJ
  refine kL (As := [.int (nI (r)), .int (nI (k)), .long (w0)]) (rest := [.int r0]) X hW [82, 84, 83] (fun sz => c_X5_add l D cy t (z 0) (z 1) (z 2) (z 3) (z 4) (z 5) (z 6) (z 7) (z 8) (z 9) fn0 (z 10) pn (z 11) (z 12) be (z 13) (z 14) (z 15) (z 16) (z 17) (z 18) nu bq fg (z 19) hg cz (z 20) ms mr r (cnt r) k w0 hr ((mr3 r hr).1) y_hc y_hk1 y_hk8 y_hfit sz) rfl (And.intro mo (And.intro mr2 (And.intro mr1 True.intro))) (by decide) (by decide) (cwV 3 X.1.2.2.2.2 gL_law_X5_add rfl rfl rfl (by decide +kernel) ⟨Nat.le_of_ble_eq_true rfl, Nat.le_of_ble_eq_true rfl⟩) (fun _ => rfl) 0 5 rfl rfl rfl hsz rfl (Nat.le_of_ble_eq_true rfl) dL_law_193 hf (fun r9 u9 H1 locs1 F1 hp hE hq hW1 => ?_)
  have hr9 := hp
  replace hr9 : r9 = nI ((cnt r) + k) := hr9
  subst hr9
  obtain ⟨q0, q1, q2, -⟩ := hq
  have hE2 : ∀ j, ¬ (j = 84 ∨ j = 83) → F1 j = F j := by
    intro j h9
    by_cases h8 : j = 82
    · rw [h8]; exact q0.trans (mo).symm
    · exact hE j (by simp only [List.mem_cons, List.not_mem_nil, or_false]; omega)
  refine kk H1 locs1 F1 (fun j hj => hE2 j (by omega)) ⟨⟨_, _, _, _, _, _, ((hE2 (82) (by omega)).trans mo)⟩, ⟨_, _, _, _, _, _, _, _, ((hE2 (93) (by omega)).trans j1), ((hE2 (94) (by omega)).trans j2), ((hE2 (95) (by omega)).trans j3), ((hE2 (96) (by omega)).trans j4), ((hE2 (97) (by omega)).trans j5), ((hE2 (98) (by omega)).trans j6), ((hE2 (99) (by omega)).trans j7), ((hE2 (100) (by omega)).trans j8), ((hE2 (101) (by omega)).trans j9), ((hE2 (102) (by omega)).trans j10)⟩, ⟨_, _, q2, q1, ?_⟩, ⟨_, _, _, _, _, _, mdo, ((hE2 (85) (by omega)).trans t1), ((hE2 (86) (by omega)).trans t2), ((hE2 (87) (by omega)).trans t3), ((hE2 (88) (by omega)).trans t4), ((hE2 (89) (by omega)).trans t5), ((hE2 (90) (by omega)).trans t6), ?_⟩, ⟨_, ((hE2 (91) (by omega)).trans mf1), ?_⟩, ⟨_, ((hE2 (92) (by omega)).trans mp1), ?_⟩⟩ hW1
  · exact rg_up mr3 hN hr (fun x hx => apG_out (by omega)) (ap_lo (mr3 r hr).2 (fun i hi => (add_byte w0 (by omega)).symm))
  · exact t7
  · exact mf2
  · exact mp2
set_option maxHeartbeats 4000000 in
theorem m_clear (r0 : Int32) (X : LC p m c s D cy t A b L xs) (hJ : INVm F cy z cnt f fn0 ff pn pf md K g nt) (hN : INVs cnt fn0 pn md nt) (hW : Wd D A s (LW F) H locs) (hsz : ls.size = 4) (hf : cells ≤ 600000 ∧ slots ≤ 7302250) {r : Nat} (hr : r < 8)  (y_hc : (cnt r) ≤ 200)
    (kk : ∀ (H1 : Heap) (locs1 : List Loc) (F1 : Nat → cellT), (∀ j, j < 82 → F1 j = F j) → INVm F1 cy z (upN1 cnt r 0) (upF1 f r (f r)) fn0 ff pn pf md K g nt → Wd D A s (LW F1) H1 locs1 → W p l e room_1 s m #[Value.ref b] below meth c H1 locs1 cells slots Q (F0 m 219 ls (.int (nI ((cnt r))) :: [.int r0]))) : W p l e room_1 s m #[Value.ref b] below meth c H locs cells slots Q (F0 m 216 ls [.int (nI (r)), .ref (z 0), .int r0]) := by
  obtain ⟨⟨be, nu, bq, fg, hg, cz, mo⟩, ⟨ke, cn, bb, vv, ww, oo, pp, il, j1, j2, j3, j4, j5, j6, j7, j8, j9, j10⟩, ⟨mr, ms, mr1, mr2, mr3⟩, ⟨mt, mcn, mmd, mk, mh, mdn, mdo, t1, t2, t3, t4, t5, t6, t7⟩, ⟨mf, mf1, mf2⟩, ⟨mp, mp1, mp2⟩⟩ := hJ
  refine kL (As := [.int (nI (r))]) (rest := [.int r0]) X hW [82, 84, 83] (fun sz => c_X5_clear l D cy t (z 0) (z 1) (z 2) (z 3) (z 4) (z 5) (z 6) (z 7) (z 8) (z 9) fn0 (z 10) pn (z 11) (z 12) be (z 13) (z 14) (z 15) (z 16) (z 17) (z 18) nu bq fg (z 19) hg cz (z 20) ms mr r (cnt r) hr ((mr3 r hr).1) y_hc sz) rfl (And.intro mo (And.intro mr2 (And.intro mr1 True.intro))) (by decide) (by decide) (cwV 1 X.1.2.2.2.2 gL_law_X5_clear rfl rfl rfl (by decide +kernel) ⟨Nat.le_of_ble_eq_true rfl, Nat.le_of_ble_eq_true rfl⟩) (fun _ => rfl) 0 5 rfl rfl rfl hsz rfl (Nat.le_of_ble_eq_true rfl) dL_law_216 hf (fun r9 u9 H1 locs1 F1 hp hE hq hW1 => ?_)
  have hr9 := hp
  replace hr9 : r9 = nI ((cnt r)) := hr9
  subst hr9
  obtain ⟨q0, q1, q2, -⟩ := hq
  have hE2 : ∀ j, ¬ (j = 84) → F1 j = F j := by
    intro j h9
    by_cases h8 : j = 82 ∨ j = 83
    · rcases h8 with h8 | h8
      · rw [h8]; exact q0.trans (mo).symm
      · rw [h8]; exact q2.trans (mr1).symm
    · exact hE j (by simp only [List.mem_cons, List.not_mem_nil, or_false]; omega)
  refine kk H1 locs1 F1 (fun j hj => hE2 j (by omega)) ⟨⟨_, _, _, _, _, _, ((hE2 (82) (by omega)).trans mo)⟩, ⟨_, _, _, _, _, _, _, _, ((hE2 (93) (by omega)).trans j1), ((hE2 (94) (by omega)).trans j2), ((hE2 (95) (by omega)).trans j3), ((hE2 (96) (by omega)).trans j4), ((hE2 (97) (by omega)).trans j5), ((hE2 (98) (by omega)).trans j6), ((hE2 (99) (by omega)).trans j7), ((hE2 (100) (by omega)).trans j8), ((hE2 (101) (by omega)).trans j9), ((hE2 (102) (by omega)).trans j10)⟩, ⟨_, _, ((hE2 (83) (by omega)).trans mr1), q1, ?_⟩, ⟨_, _, _, _, _, _, mdo, ((hE2 (85) (by omega)).trans t1), ((hE2 (86) (by omega)).trans t2), ((hE2 (87) (by omega)).trans t3), ((hE2 (88) (by omega)).trans t4), ((hE2 (89) (by omega)).trans t5), ((hE2 (90) (by omega)).trans t6), ?_⟩, ⟨_, ((hE2 (91) (by omega)).trans mf1), ?_⟩, ⟨_, ((hE2 (92) (by omega)).trans mp1), ?_⟩⟩ hW1
  · exact rg_up mr3 hN hr (fun _ _ => rfl) (fun k hk => absurd hk (Nat.not_lt_zero k))
  · exact t7
  · exact mf2
  · exact mp2
set_option maxHeartbeats 4000000 in
theorem m_grow (r0 : Int32) (X : LC p m c s D cy t A b L xs) (hJ : INVm F cy z cnt f fn0 ff pn pf md K g nt) (hN : INVs cnt fn0 pn md nt) (hW : Wd D A s (LW F) H locs) (hsz : ls.size = 4) (hf : cells ≤ 600000 ∧ slots ≤ 7302250)  (n : Nat) (fr : Int32) (sp : Int32) (y_hn1 : 1 ≤ n) (y_hn5 : n ≤ 5000) (y_hfit : fn0 + n ≤ 20000)
    (kk : ∀ (H1 : Heap) (locs1 : List Loc) (F1 : Nat → cellT), (∀ j, j < 82 → F1 j = F j) → INVm F1 cy z cnt f (fn0 + n) (apG ff fn0 (fun i => b8 (fr + ((nI (i)) * sp))) n) pn pf md K g nt → Wd D A s (LW F1) H1 locs1 → W p l e room_1 s m #[Value.ref b] below meth c H1 locs1 cells slots Q (F0 m 639 ls (.int (nI (fn0 + n)) :: [.int r0]))) : W p l e room_1 s m #[Value.ref b] below meth c H locs cells slots Q (F0 m 636 ls [.int (sp), .int (fr), .int (nI (n)), .ref (z 0), .int r0]) := by
  obtain ⟨⟨be, nu, bq, fg, hg, cz, mo⟩, ⟨ke, cn, bb, vv, ww, oo, pp, il, j1, j2, j3, j4, j5, j6, j7, j8, j9, j10⟩, ⟨mr, ms, mr1, mr2, mr3⟩, ⟨mt, mcn, mmd, mk, mh, mdn, mdo, t1, t2, t3, t4, t5, t6, t7⟩, ⟨mf, mf1, mf2⟩, ⟨mp, mp1, mp2⟩⟩ := hJ
  refine kL (As := [.int (nI (n)), .int (fr), .int (sp)]) (rest := [.int r0]) X hW [82, 91] (fun sz => c_X5_grow l D cy t (z 0) (z 1) (z 2) (z 3) (z 4) (z 5) (z 6) (z 7) (z 8) (z 9) fn0 (z 10) pn (z 11) (z 12) be (z 13) (z 14) (z 15) (z 16) (z 17) (z 18) nu bq fg (z 19) hg cz (z 20) mf n fr sp hN.2.1 y_hn1 y_hn5 y_hfit sz) rfl (And.intro mo (And.intro mf1 True.intro)) (by decide) (by decide) (cwV 3 X.1.2.2.2.2 gL_law_X5_grow rfl rfl rfl (by decide +kernel) ⟨Nat.le_of_ble_eq_true rfl, Nat.le_of_ble_eq_true rfl⟩) (fun _ => rfl) 0 5 rfl rfl rfl hsz rfl (Nat.le_of_ble_eq_true rfl) dL_law_636 hf (fun r9 u9 H1 locs1 F1 hp hE hq hW1 => ?_)
  have hr9 := hp
  replace hr9 : r9 = nI (fn0 + n) := hr9
  subst hr9
  obtain ⟨q0, q1, -⟩ := hq
  have hE2 : ∀ j, ¬ (j = 82 ∨ j = 91) → F1 j = F j := by
    intro j h9
    exact hE j (by simp only [List.mem_cons, List.not_mem_nil, or_false]; omega)
  refine kk H1 locs1 F1 (fun j hj => hE2 j (by omega)) ⟨⟨_, _, _, _, _, _, q0⟩, ⟨_, _, _, _, _, _, _, _, ((hE2 (93) (by omega)).trans j1), ((hE2 (94) (by omega)).trans j2), ((hE2 (95) (by omega)).trans j3), ((hE2 (96) (by omega)).trans j4), ((hE2 (97) (by omega)).trans j5), ((hE2 (98) (by omega)).trans j6), ((hE2 (99) (by omega)).trans j7), ((hE2 (100) (by omega)).trans j8), ((hE2 (101) (by omega)).trans j9), ((hE2 (102) (by omega)).trans j10)⟩, ⟨_, _, ((hE2 (83) (by omega)).trans mr1), ((hE2 (84) (by omega)).trans mr2), ?_⟩, ⟨_, _, _, _, _, _, mdo, ((hE2 (85) (by omega)).trans t1), ((hE2 (86) (by omega)).trans t2), ((hE2 (87) (by omega)).trans t3), ((hE2 (88) (by omega)).trans t4), ((hE2 (89) (by omega)).trans t5), ((hE2 (90) (by omega)).trans t6), ?_⟩, ⟨_, q1, ?_⟩, ⟨_, ((hE2 (92) (by omega)).trans mp1), ?_⟩⟩ hW1
  · exact mr3
  · exact t7
  · exact ap_lo1 mf2 (fun i _ => (lo_b8 _).symm)
  · exact mp2
set_option maxHeartbeats 4000000 in
theorem m_spoil (r0 : Int32) (X : LC p m c s D cy t A b L xs) (hJ : INVm F cy z cnt f fn0 ff pn pf md K g nt) (hN : INVs cnt fn0 pn md nt) (hW : Wd D A s (LW F) H locs) (hsz : ls.size = 4) (hf : cells ≤ 600000 ∧ slots ≤ 7302250)  (iq : Nat) (k : Nat) (y_hi : iq < fn0) (y_hk : k ≤ 255)
    (kk : ∀ (H1 : Heap) (locs1 : List Loc) (F1 : Nat → cellT), (∀ j, j < 82 → F1 j = F j) → INVm F1 cy z cnt f fn0 (upd ff iq (b8 (ff iq ^^^ nI k))) pn pf md K g nt → Wd D A s (LW F1) H1 locs1 → W p l e room_1 s m #[Value.ref b] below meth c H1 locs1 cells slots Q (F0 m 672 ls (.int (b8 (ff iq ^^^ nI k) &&& 255) :: [.int r0]))) : W p l e room_1 s m #[Value.ref b] below meth c H locs cells slots Q (F0 m 669 ls [.int (nI (k)), .int (nI (iq)), .ref (z 0), .int r0]) := by
  obtain ⟨⟨be, nu, bq, fg, hg, cz, mo⟩, ⟨ke, cn, bb, vv, ww, oo, pp, il, j1, j2, j3, j4, j5, j6, j7, j8, j9, j10⟩, ⟨mr, ms, mr1, mr2, mr3⟩, ⟨mt, mcn, mmd, mk, mh, mdn, mdo, t1, t2, t3, t4, t5, t6, t7⟩, ⟨mf, mf1, mf2⟩, ⟨mp, mp1, mp2⟩⟩ := hJ
  refine kL (As := [.int (nI (iq)), .int (nI (k))]) (rest := [.int r0]) X hW [82, 91] (fun sz => c_X5_spoil l D cy t (z 0) (z 1) (z 2) (z 3) (z 4) (z 5) (z 6) (z 7) (z 8) (z 9) fn0 (z 10) pn (z 11) (z 12) be (z 13) (z 14) (z 15) (z 16) (z 17) (z 18) nu bq fg (z 19) hg cz (z 20) mf iq k hN.2.1 y_hi y_hk sz) rfl (And.intro mo (And.intro mf1 True.intro)) (by decide) (by decide) (cwV 2 X.1.2.2.2.2 gL_law_X5_spoil rfl rfl rfl (by decide +kernel) ⟨Nat.le_of_ble_eq_true rfl, Nat.le_of_ble_eq_true rfl⟩) (fun _ => rfl) 0 5 rfl rfl rfl hsz rfl (Nat.le_of_ble_eq_true rfl) dL_law_669 hf (fun r9 u9 H1 locs1 F1 hp hE hq hW1 => ?_)
  have hr9 := hp
  replace hr9 : r9 = b8 (ff iq ^^^ nI k) &&& 255 := hr9.trans (by rw [mf2 iq y_hi]; exact (xor_byte _ y_hk).symm)
  subst hr9
  obtain ⟨q0, q1, -⟩ := hq
  have hE2 : ∀ j, ¬ (j = 91) → F1 j = F j := by
    intro j h9
    by_cases h8 : j = 82
    · rw [h8]; exact q0.trans (mo).symm
    · exact hE j (by simp only [List.mem_cons, List.not_mem_nil, or_false]; omega)
  refine kk H1 locs1 F1 (fun j hj => hE2 j (by omega)) ⟨⟨_, _, _, _, _, _, ((hE2 (82) (by omega)).trans mo)⟩, ⟨_, _, _, _, _, _, _, _, ((hE2 (93) (by omega)).trans j1), ((hE2 (94) (by omega)).trans j2), ((hE2 (95) (by omega)).trans j3), ((hE2 (96) (by omega)).trans j4), ((hE2 (97) (by omega)).trans j5), ((hE2 (98) (by omega)).trans j6), ((hE2 (99) (by omega)).trans j7), ((hE2 (100) (by omega)).trans j8), ((hE2 (101) (by omega)).trans j9), ((hE2 (102) (by omega)).trans j10)⟩, ⟨_, _, ((hE2 (83) (by omega)).trans mr1), ((hE2 (84) (by omega)).trans mr2), ?_⟩, ⟨_, _, _, _, _, _, mdo, ((hE2 (85) (by omega)).trans t1), ((hE2 (86) (by omega)).trans t2), ((hE2 (87) (by omega)).trans t3), ((hE2 (88) (by omega)).trans t4), ((hE2 (89) (by omega)).trans t5), ((hE2 (90) (by omega)).trans t6), ?_⟩, ⟨_, q1, ?_⟩, ⟨_, ((hE2 (92) (by omega)).trans mp1), ?_⟩⟩ hW1
  · exact mr3
  · exact t7
  · exact sp_lo mf2 y_hi y_hk
  · exact mp2
set_option maxHeartbeats 4000000 in
theorem m_shorten (r0 : Int32) (X : LC p m c s D cy t A b L xs) (hJ : INVm F cy z cnt f fn0 ff pn pf md K g nt) (hN : INVs cnt fn0 pn md nt) (hW : Wd D A s (LW F) H locs) (hsz : ls.size = 4) (hf : cells ≤ 600000 ∧ slots ≤ 7302250)  (n : Nat) (y_hn1 : n ≤ fn0)
    (kk : ∀ (H1 : Heap) (locs1 : List Loc) (F1 : Nat → cellT), (∀ j, j < 82 → F1 j = F j) → INVm F1 cy z cnt f n ff pn pf md K g nt → Wd D A s (LW F1) H1 locs1 → W p l e room_1 s m #[Value.ref b] below meth c H1 locs1 cells slots Q (F0 m 695 ls (.int (nI (fn0 - n)) :: [.int r0]))) : W p l e room_1 s m #[Value.ref b] below meth c H locs cells slots Q (F0 m 692 ls [.int (nI (n)), .ref (z 0), .int r0]) := by
  obtain ⟨⟨be, nu, bq, fg, hg, cz, mo⟩, ⟨ke, cn, bb, vv, ww, oo, pp, il, j1, j2, j3, j4, j5, j6, j7, j8, j9, j10⟩, ⟨mr, ms, mr1, mr2, mr3⟩, ⟨mt, mcn, mmd, mk, mh, mdn, mdo, t1, t2, t3, t4, t5, t6, t7⟩, ⟨mf, mf1, mf2⟩, ⟨mp, mp1, mp2⟩⟩ := hJ
  refine kL (As := [.int (nI (n))]) (rest := [.int r0]) X hW [82] (fun sz => c_X5_shorten l D cy t (z 0) (z 1) (z 2) (z 3) (z 4) (z 5) (z 6) (z 7) (z 8) (z 9) fn0 (z 10) pn (z 11) (z 12) be (z 13) (z 14) (z 15) (z 16) (z 17) (z 18) nu bq fg (z 19) hg cz (z 20) n hN.2.1 y_hn1 sz) rfl (And.intro mo True.intro) (by decide) (by decide) (cwV 1 X.1.2.2.2.2 gL_law_X5_shorten rfl rfl rfl (by decide +kernel) ⟨Nat.le_of_ble_eq_true rfl, Nat.le_of_ble_eq_true rfl⟩) (fun _ => rfl) 0 5 rfl rfl rfl hsz rfl (Nat.le_of_ble_eq_true rfl) dL_law_692 hf (fun r9 u9 H1 locs1 F1 hp hE hq hW1 => ?_)
  have hr9 := hp
  replace hr9 : r9 = nI (fn0 - n) := hr9
  subst hr9
  obtain ⟨q0, -⟩ := hq
  have hE2 : ∀ j, ¬ (j = 82) → F1 j = F j := by
    intro j h9
    exact hE j (by simp only [List.mem_cons, List.not_mem_nil, or_false]; omega)
  refine kk H1 locs1 F1 (fun j hj => hE2 j (by omega)) ⟨⟨_, _, _, _, _, _, q0⟩, ⟨_, _, _, _, _, _, _, _, ((hE2 (93) (by omega)).trans j1), ((hE2 (94) (by omega)).trans j2), ((hE2 (95) (by omega)).trans j3), ((hE2 (96) (by omega)).trans j4), ((hE2 (97) (by omega)).trans j5), ((hE2 (98) (by omega)).trans j6), ((hE2 (99) (by omega)).trans j7), ((hE2 (100) (by omega)).trans j8), ((hE2 (101) (by omega)).trans j9), ((hE2 (102) (by omega)).trans j10)⟩, ⟨_, _, ((hE2 (83) (by omega)).trans mr1), ((hE2 (84) (by omega)).trans mr2), ?_⟩, ⟨_, _, _, _, _, _, mdo, ((hE2 (85) (by omega)).trans t1), ((hE2 (86) (by omega)).trans t2), ((hE2 (87) (by omega)).trans t3), ((hE2 (88) (by omega)).trans t4), ((hE2 (89) (by omega)).trans t5), ((hE2 (90) (by omega)).trans t6), ?_⟩, ⟨_, ((hE2 (91) (by omega)).trans mf1), ?_⟩, ⟨_, ((hE2 (92) (by omega)).trans mp1), ?_⟩⟩ hW1
  · exact mr3
  · exact t7
  · exact fun k hk => mf2 k (by omega)
  · exact mp2
set_option maxHeartbeats 4000000 in
theorem m_forge (r0 : Int32) (X : LC p m c s D cy t A b L xs) (hJ : INVm F cy z cnt f fn0 ff pn pf md K g nt) (hN : INVs cnt fn0 pn md nt) (hW : Wd D A s (LW F) H locs) (hsz : ls.size = 4) (hf : cells ≤ 600000 ∧ slots ≤ 7302250)  (iq : Nat) (k : Nat) (y_hi : iq < pn) (y_hk : k ≤ 255)
    (kk : ∀ (H1 : Heap) (locs1 : List Loc) (F1 : Nat → cellT), (∀ j, j < 82 → F1 j = F j) → INVm F1 cy z cnt f fn0 ff pn (upd pf iq (b8 (pf iq ^^^ nI k))) md K g nt → Wd D A s (LW F1) H1 locs1 → W p l e room_1 s m #[Value.ref b] below meth c H1 locs1 cells slots Q (F0 m 797 ls (.int (b8 (pf iq ^^^ nI k) &&& 255) :: [.int r0]))) : W p l e room_1 s m #[Value.ref b] below meth c H locs cells slots Q (F0 m 794 ls [.int (nI (k)), .int (nI (iq)), .ref (z 0), .int r0]) := by
  obtain ⟨⟨be, nu, bq, fg, hg, cz, mo⟩, ⟨ke, cn, bb, vv, ww, oo, pp, il, j1, j2, j3, j4, j5, j6, j7, j8, j9, j10⟩, ⟨mr, ms, mr1, mr2, mr3⟩, ⟨mt, mcn, mmd, mk, mh, mdn, mdo, t1, t2, t3, t4, t5, t6, t7⟩, ⟨mf, mf1, mf2⟩, ⟨mp, mp1, mp2⟩⟩ := hJ
  refine kL (As := [.int (nI (iq)), .int (nI (k))]) (rest := [.int r0]) X hW [82, 92] (fun sz => c_X5_forge l D cy t (z 0) (z 1) (z 2) (z 3) (z 4) (z 5) (z 6) (z 7) (z 8) (z 9) fn0 (z 10) pn (z 11) (z 12) be (z 13) (z 14) (z 15) (z 16) (z 17) (z 18) nu bq fg (z 19) hg cz (z 20) mp iq k (Nat.le_trans hN.2.2.1 (by decide)) y_hi y_hk sz) rfl (And.intro mo (And.intro mp1 True.intro)) (by decide) (by decide) (cwV 2 X.1.2.2.2.2 gL_law_X5_forge rfl rfl rfl (by decide +kernel) ⟨Nat.le_of_ble_eq_true rfl, Nat.le_of_ble_eq_true rfl⟩) (fun _ => rfl) 0 5 rfl rfl rfl hsz rfl (Nat.le_of_ble_eq_true rfl) dL_law_794 hf (fun r9 u9 H1 locs1 F1 hp hE hq hW1 => ?_)
  have hr9 := hp
  replace hr9 : r9 = b8 (pf iq ^^^ nI k) &&& 255 := hr9.trans (by rw [mp2 iq y_hi]; exact (xor_byte _ y_hk).symm)
  subst hr9
  obtain ⟨q0, q1, -⟩ := hq
  have hE2 : ∀ j, ¬ (j = 92) → F1 j = F j := by
    intro j h9
    by_cases h8 : j = 82
    · rw [h8]; exact q0.trans (mo).symm
    · exact hE j (by simp only [List.mem_cons, List.not_mem_nil, or_false]; omega)
  refine kk H1 locs1 F1 (fun j hj => hE2 j (by omega)) ⟨⟨_, _, _, _, _, _, ((hE2 (82) (by omega)).trans mo)⟩, ⟨_, _, _, _, _, _, _, _, ((hE2 (93) (by omega)).trans j1), ((hE2 (94) (by omega)).trans j2), ((hE2 (95) (by omega)).trans j3), ((hE2 (96) (by omega)).trans j4), ((hE2 (97) (by omega)).trans j5), ((hE2 (98) (by omega)).trans j6), ((hE2 (99) (by omega)).trans j7), ((hE2 (100) (by omega)).trans j8), ((hE2 (101) (by omega)).trans j9), ((hE2 (102) (by omega)).trans j10)⟩, ⟨_, _, ((hE2 (83) (by omega)).trans mr1), ((hE2 (84) (by omega)).trans mr2), ?_⟩, ⟨_, _, _, _, _, _, mdo, ((hE2 (85) (by omega)).trans t1), ((hE2 (86) (by omega)).trans t2), ((hE2 (87) (by omega)).trans t3), ((hE2 (88) (by omega)).trans t4), ((hE2 (89) (by omega)).trans t5), ((hE2 (90) (by omega)).trans t6), ?_⟩, ⟨_, ((hE2 (91) (by omega)).trans mf1), ?_⟩, ⟨_, q1, ?_⟩⟩ hW1
  · exact mr3
  · exact t7
  · exact mf2
  · exact sp_lo mp2 y_hi y_hk
set_option maxHeartbeats 4000000 in
theorem m_cut (r0 : Int32) (X : LC p m c s D cy t A b L xs) (hJ : INVm F cy z cnt f fn0 ff pn pf md K g nt) (hN : INVs cnt fn0 pn md nt) (hW : Wd D A s (LW F) H locs) (hsz : ls.size = 4) (hf : cells ≤ 600000 ∧ slots ≤ 7302250)  (n : Nat) (y_hn1 : n ≤ pn)
    (kk : ∀ (H1 : Heap) (locs1 : List Loc) (F1 : Nat → cellT), (∀ j, j < 82 → F1 j = F j) → INVm F1 cy z cnt f fn0 ff n pf md K g nt → Wd D A s (LW F1) H1 locs1 → W p l e room_1 s m #[Value.ref b] below meth c H1 locs1 cells slots Q (F0 m 820 ls (.int (nI (pn - n)) :: [.int r0]))) : W p l e room_1 s m #[Value.ref b] below meth c H locs cells slots Q (F0 m 817 ls [.int (nI (n)), .ref (z 0), .int r0]) := by
  obtain ⟨⟨be, nu, bq, fg, hg, cz, mo⟩, ⟨ke, cn, bb, vv, ww, oo, pp, il, j1, j2, j3, j4, j5, j6, j7, j8, j9, j10⟩, ⟨mr, ms, mr1, mr2, mr3⟩, ⟨mt, mcn, mmd, mk, mh, mdn, mdo, t1, t2, t3, t4, t5, t6, t7⟩, ⟨mf, mf1, mf2⟩, ⟨mp, mp1, mp2⟩⟩ := hJ
  refine kL (As := [.int (nI (n))]) (rest := [.int r0]) X hW [82] (fun sz => c_X5_cut l D cy t (z 0) (z 1) (z 2) (z 3) (z 4) (z 5) (z 6) (z 7) (z 8) (z 9) fn0 (z 10) pn (z 11) (z 12) be (z 13) (z 14) (z 15) (z 16) (z 17) (z 18) nu bq fg (z 19) hg cz (z 20) n (Nat.le_trans hN.2.2.1 (by decide)) y_hn1 sz) rfl (And.intro mo True.intro) (by decide) (by decide) (cwV 1 X.1.2.2.2.2 gL_law_X5_cut rfl rfl rfl (by decide +kernel) ⟨Nat.le_of_ble_eq_true rfl, Nat.le_of_ble_eq_true rfl⟩) (fun _ => rfl) 0 5 rfl rfl rfl hsz rfl (Nat.le_of_ble_eq_true rfl) dL_law_817 hf (fun r9 u9 H1 locs1 F1 hp hE hq hW1 => ?_)
  have hr9 := hp
  replace hr9 : r9 = nI (pn - n) := hr9
  subst hr9
  obtain ⟨q0, -⟩ := hq
  have hE2 : ∀ j, ¬ (j = 82) → F1 j = F j := by
    intro j h9
    exact hE j (by simp only [List.mem_cons, List.not_mem_nil, or_false]; omega)
  refine kk H1 locs1 F1 (fun j hj => hE2 j (by omega)) ⟨⟨_, _, _, _, _, _, q0⟩, ⟨_, _, _, _, _, _, _, _, ((hE2 (93) (by omega)).trans j1), ((hE2 (94) (by omega)).trans j2), ((hE2 (95) (by omega)).trans j3), ((hE2 (96) (by omega)).trans j4), ((hE2 (97) (by omega)).trans j5), ((hE2 (98) (by omega)).trans j6), ((hE2 (99) (by omega)).trans j7), ((hE2 (100) (by omega)).trans j8), ((hE2 (101) (by omega)).trans j9), ((hE2 (102) (by omega)).trans j10)⟩, ⟨_, _, ((hE2 (83) (by omega)).trans mr1), ((hE2 (84) (by omega)).trans mr2), ?_⟩, ⟨_, _, _, _, _, _, mdo, ((hE2 (85) (by omega)).trans t1), ((hE2 (86) (by omega)).trans t2), ((hE2 (87) (by omega)).trans t3), ((hE2 (88) (by omega)).trans t4), ((hE2 (89) (by omega)).trans t5), ((hE2 (90) (by omega)).trans t6), ?_⟩, ⟨_, ((hE2 (91) (by omega)).trans mf1), ?_⟩, ⟨_, ((hE2 (92) (by omega)).trans mp1), ?_⟩⟩ hW1
  · exact mr3
  · exact t7
  · exact mf2
  · exact fun k hk => mp2 k (by omega)
set_option maxHeartbeats 4000000 in
theorem m_take (r0 : Int32) (X : LC p m c s D cy t A b L xs) (hJ : INVm F cy z cnt f fn0 ff pn pf md K g nt) (hN : INVs cnt fn0 pn md nt) (hW : Wd D A s (LW F) H locs) (hsz : ls.size = 4) (hf : cells ≤ 600000 ∧ slots ≤ 7302250) {r : Nat} (hr : r < 8) {h : Nat} (hh : h < 4)  (y_hnt : (nt h) ≤ 40000) (y_hc : (cnt r) ≤ 200) (y_hfit : (nt h) + (cnt r) ≤ 40000)
    (kk : ∀ (H1 : Heap) (locs1 : List Loc) (F1 : Nat → cellT), (∀ j, j < 82 → F1 j = F j) → INVm F1 cy z cnt f fn0 ff pn pf (upd md h (md h)) (upF1 K h (K h)) (upF1 g h (apG (g h) (nt h) (lo8 (f r)) (cnt r))) (upN1 nt h ((nt h) + (cnt r))) → Wd D A s (LW F1) H1 locs1 → W p l e room_1 s m #[Value.ref b] below meth c H1 locs1 cells slots Q (F0 m 351 ls (.int (nI ((nt h) + (cnt r))) :: [.int r0]))) : W p l e room_1 s m #[Value.ref b] below meth c H locs cells slots Q (F0 m 348 ls [.int (nI (r)), .int (nI (h)), .ref (z 0), .int r0]) := by
  obtain ⟨⟨be, nu, bq, fg, hg, cz, mo⟩, ⟨ke, cn, bb, vv, ww, oo, pp, il, j1, j2, j3, j4, j5, j6, j7, j8, j9, j10⟩, ⟨mr, ms, mr1, mr2, mr3⟩, ⟨mt, mcn, mmd, mk, mh, mdn, mdo, t1, t2, t3, t4, t5, t6, t7⟩, ⟨mf, mf1, mf2⟩, ⟨mp, mp1, mp2⟩⟩ := hJ
  refine kL (As := [.int (nI (h)), .int (nI (r))]) (rest := [.int r0]) X hW [82, 85, 86, 84, 83] (fun sz => c_X5_take l D cy t (z 0) (z 1) (z 2) (z 3) (z 4) (z 5) (z 6) (z 7) (z 8) (z 9) fn0 (z 10) pn (z 11) (z 12) be (z 13) (z 14) (z 15) (z 16) (z 17) (z 18) nu bq fg (z 19) hg cz (z 20) mt mcn h (nt h) ms mr r (cnt r) hh ((t7 h hh).1) y_hnt hr ((mr3 r hr).1) y_hc y_hfit sz) rfl (And.intro mo (And.intro t1 (And.intro t2 (And.intro mr2 (And.intro mr1 True.intro))))) (by decide) (by decide) (cwV 2 X.1.2.2.2.2 gL_law_X5_take rfl rfl rfl (by decide +kernel) ⟨Nat.le_of_ble_eq_true rfl, Nat.le_of_ble_eq_true rfl⟩) (fun _ => rfl) 0 5 rfl rfl rfl hsz rfl (Nat.le_of_ble_eq_true rfl) dL_law_348 hf (fun r9 u9 H1 locs1 F1 hp hE hq hW1 => ?_)
  have hr9 := hp
  replace hr9 : r9 = nI ((nt h) + (cnt r)) := hr9
  subst hr9
  obtain ⟨q0, q1, q2, q3, q4, -⟩ := hq
  have hE2 : ∀ j, ¬ (j = 85 ∨ j = 86) → F1 j = F j := by
    intro j h9
    by_cases h8 : j = 82 ∨ j = 84 ∨ j = 83
    · rcases h8 with h8 | h8 | h8
      · rw [h8]; exact q0.trans (mo).symm
      · rw [h8]; exact q3.trans (mr2).symm
      · rw [h8]; exact q4.trans (mr1).symm
    · exact hE j (by simp only [List.mem_cons, List.not_mem_nil, or_false]; omega)
  refine kk H1 locs1 F1 (fun j hj => hE2 j (by omega)) ⟨⟨_, _, _, _, _, _, ((hE2 (82) (by omega)).trans mo)⟩, ⟨_, _, _, _, _, _, _, _, ((hE2 (93) (by omega)).trans j1), ((hE2 (94) (by omega)).trans j2), ((hE2 (95) (by omega)).trans j3), ((hE2 (96) (by omega)).trans j4), ((hE2 (97) (by omega)).trans j5), ((hE2 (98) (by omega)).trans j6), ((hE2 (99) (by omega)).trans j7), ((hE2 (100) (by omega)).trans j8), ((hE2 (101) (by omega)).trans j9), ((hE2 (102) (by omega)).trans j10)⟩, ⟨_, _, ((hE2 (83) (by omega)).trans mr1), ((hE2 (84) (by omega)).trans mr2), ?_⟩, ⟨_, _, _, _, _, _, upN1 mdo h (mdo h), q1, q2, ((hE2 (87) (by omega)).trans t3), ((hE2 (88) (by omega)).trans t4), ((hE2 (89) (by omega)).trans t5), ((hE2 (90) (by omega)).trans t6), ?_⟩, ⟨_, ((hE2 (91) (by omega)).trans mf1), ?_⟩, ⟨_, ((hE2 (92) (by omega)).trans mp1), ?_⟩⟩ hW1
  · exact mr3
  · exact hs_tk t7 hN hh y_hfit (fun i hi => (mr3 r hr).2 i hi)
  · exact mf2
  · exact mp2
set_option maxHeartbeats 4000000 in
theorem m_fill (r0 : Int32) (X : LC p m c s D cy t A b L xs) (hJ : INVm F cy z cnt f fn0 ff pn pf md K g nt) (hN : INVs cnt fn0 pn md nt) (hW : Wd D A s (LW F) H locs) (hsz : ls.size = 4) (hf : cells ≤ 600000 ∧ slots ≤ 7302250) {h : Nat} (hh : h < 4) (n : Nat) (fr : Int32) (sp : Int32) (y_hnt : (nt h) ≤ 40000) (y_hn5 : n ≤ 5000) (y_hfit : (nt h) + n ≤ 40000)
    (kk : ∀ (H1 : Heap) (locs1 : List Loc) (F1 : Nat → cellT), (∀ j, j < 82 → F1 j = F j) → INVm F1 cy z cnt f fn0 ff pn pf (upd md h (md h)) (upF1 K h (K h)) (upF1 g h (apG (g h) (nt h) (fun i => (fr + nI i * sp) &&& nI 255) n)) (upN1 nt h ((nt h) + n)) → Wd D A s (LW F1) H1 locs1 → W p l e room_1 s m #[Value.ref b] below meth c H1 locs1 cells slots Q (F0 m 404 ls (.int (nI ((nt h) + n)) :: [.int r0]))) : W p l e room_1 s m #[Value.ref b] below meth c H locs cells slots Q (F0 m 401 ls [.int (sp), .int (fr), .int (nI (n)), .int (nI (h)), .ref (z 0), .int r0]) := by
  obtain ⟨⟨be, nu, bq, fg, hg, cz, mo⟩, ⟨ke, cn, bb, vv, ww, oo, pp, il, j1, j2, j3, j4, j5, j6, j7, j8, j9, j10⟩, ⟨mr, ms, mr1, mr2, mr3⟩, ⟨mt, mcn, mmd, mk, mh, mdn, mdo, t1, t2, t3, t4, t5, t6, t7⟩, ⟨mf, mf1, mf2⟩, ⟨mp, mp1, mp2⟩⟩ := hJ
  refine kL (As := [.int (nI (h)), .int (nI (n)), .int (fr), .int (sp)]) (rest := [.int r0]) X hW [82, 85, 86] (fun sz => c_X5_fill l D cy t (z 0) (z 1) (z 2) (z 3) (z 4) (z 5) (z 6) (z 7) (z 8) (z 9) fn0 (z 10) pn (z 11) (z 12) be (z 13) (z 14) (z 15) (z 16) (z 17) (z 18) nu bq fg (z 19) hg cz (z 20) mt mcn h (nt h) n fr sp hh ((t7 h hh).1) y_hnt y_hn5 y_hfit sz) rfl (And.intro mo (And.intro t1 (And.intro t2 True.intro))) (by decide) (by decide) (cwV 4 X.1.2.2.2.2 gL_law_X5_fill rfl rfl rfl (by decide +kernel) ⟨Nat.le_of_ble_eq_true rfl, Nat.le_of_ble_eq_true rfl⟩) (fun _ => rfl) 0 5 rfl rfl rfl hsz rfl (Nat.le_of_ble_eq_true rfl) dL_law_401 hf (fun r9 u9 H1 locs1 F1 hp hE hq hW1 => ?_)
  have hr9 := hp
  replace hr9 : r9 = nI ((nt h) + n) := hr9
  subst hr9
  obtain ⟨q0, q1, q2, -⟩ := hq
  have hE2 : ∀ j, ¬ (j = 85 ∨ j = 86) → F1 j = F j := by
    intro j h9
    by_cases h8 : j = 82
    · rw [h8]; exact q0.trans (mo).symm
    · exact hE j (by simp only [List.mem_cons, List.not_mem_nil, or_false]; omega)
  refine kk H1 locs1 F1 (fun j hj => hE2 j (by omega)) ⟨⟨_, _, _, _, _, _, ((hE2 (82) (by omega)).trans mo)⟩, ⟨_, _, _, _, _, _, _, _, ((hE2 (93) (by omega)).trans j1), ((hE2 (94) (by omega)).trans j2), ((hE2 (95) (by omega)).trans j3), ((hE2 (96) (by omega)).trans j4), ((hE2 (97) (by omega)).trans j5), ((hE2 (98) (by omega)).trans j6), ((hE2 (99) (by omega)).trans j7), ((hE2 (100) (by omega)).trans j8), ((hE2 (101) (by omega)).trans j9), ((hE2 (102) (by omega)).trans j10)⟩, ⟨_, _, ((hE2 (83) (by omega)).trans mr1), ((hE2 (84) (by omega)).trans mr2), ?_⟩, ⟨_, _, _, _, _, _, upN1 mdo h (mdo h), q1, q2, ((hE2 (87) (by omega)).trans t3), ((hE2 (88) (by omega)).trans t4), ((hE2 (89) (by omega)).trans t5), ((hE2 (90) (by omega)).trans t6), ?_⟩, ⟨_, ((hE2 (91) (by omega)).trans mf1), ?_⟩, ⟨_, ((hE2 (92) (by omega)).trans mp1), ?_⟩⟩ hW1
  · exact mr3
  · exact hs_tk t7 hN hh y_hfit (fun i hi => rfl)
  · exact mf2
  · exact mp2
set_option maxHeartbeats 4000000 in
theorem m_begin_0 (r0 : Int32) (X : LC p m c s D cy t A b L xs) (hJ : INVm F cy z cnt f fn0 ff pn pf md K g nt) (hN : INVs cnt fn0 pn md nt) (hW : Wd D A s (LW F) H locs) (hsz : ls.size = 4) (hf : cells ≤ 600000 ∧ slots ≤ 7302250) {h : Nat} (hh : h < 4) (x9 : Int32) 
    (kk : ∀ (H1 : Heap) (locs1 : List Loc) (F1 : Nat → cellT), (∀ j, j < 82 → F1 j = F j) → INVm F1 cy z cnt f fn0 ff pn pf (upd md h (nI (0))) (upF1 K h stA) (upF1 g h (g h)) (upN1 nt h 0) → Wd D A s (LW F1) H1 locs1 → W p l e room_1 s m #[Value.ref b] below meth c H1 locs1 cells slots Q (F0 m 318 ls (.int (nI (0)) :: [.int r0]))) : W p l e room_1 s m #[Value.ref b] below meth c H locs cells slots Q (F0 m 315 ls [.int (x9), .int (nI (0)), .int (nI (h)), .ref (z 0), .int r0]) := by
  obtain ⟨⟨be, nu, bq, fg, hg, cz, mo⟩, ⟨ke, cn, bb, vv, ww, oo, pp, il, j1, j2, j3, j4, j5, j6, j7, j8, j9, j10⟩, ⟨mr, ms, mr1, mr2, mr3⟩, ⟨mt, mcn, mmd, mk, mh, mdn, mdo, t1, t2, t3, t4, t5, t6, t7⟩, ⟨mf, mf1, mf2⟩, ⟨mp, mp1, mp2⟩⟩ := hJ
  refine kL (As := [.int (nI (h)), .int (nI (0)), .int (x9)]) (rest := [.int r0]) X hW [82, 86, 87, 88, 90, 93] (fun sz => c_X5_begin_0 l D cy t (z 0) (z 1) (z 2) (z 3) (z 4) (z 5) (z 6) (z 7) (z 8) (z 9) fn0 (z 10) pn (z 11) (z 12) be (z 13) (z 14) (z 15) (z 16) (z 17) (z 18) nu bq fg (z 19) hg cz (z 20) mcn mmd mk mdn h x9 hh sz) rfl (And.intro mo (And.intro t2 (And.intro t3 (And.intro t4 (And.intro t6 (And.intro j1 True.intro)))))) (by decide) (by decide) (cwV 3 X.1.2.2.2.2 gL_law_X5_begin rfl rfl rfl (by decide +kernel) ⟨Nat.le_of_ble_eq_true rfl, Nat.le_of_ble_eq_true rfl⟩) (fun _ => rfl) 0 5 rfl rfl rfl hsz rfl (Nat.le_of_ble_eq_true rfl) dL_law_315 hf (fun r9 u9 H1 locs1 F1 hp hE hq hW1 => ?_)
  have hr9 := hp
  replace hr9 : r9 = nI (0) := hr9
  subst hr9
  obtain ⟨q0, q1, q2, q3, q4, q5, -⟩ := hq
  have hE2 : ∀ j, ¬ (j = 86 ∨ j = 87 ∨ j = 88 ∨ j = 90) → F1 j = F j := by
    intro j h9
    by_cases h8 : j = 82 ∨ j = 93
    · rcases h8 with h8 | h8
      · rw [h8]; exact q0.trans (mo).symm
      · rw [h8]; exact q5.trans (j1).symm
    · exact hE j (by simp only [List.mem_cons, List.not_mem_nil, or_false]; omega)
  refine kk H1 locs1 F1 (fun j hj => hE2 j (by omega)) ⟨⟨_, _, _, _, _, _, ((hE2 (82) (by omega)).trans mo)⟩, ⟨_, _, _, _, _, _, _, _, ((hE2 (93) (by omega)).trans j1), ((hE2 (94) (by omega)).trans j2), ((hE2 (95) (by omega)).trans j3), ((hE2 (96) (by omega)).trans j4), ((hE2 (97) (by omega)).trans j5), ((hE2 (98) (by omega)).trans j6), ((hE2 (99) (by omega)).trans j7), ((hE2 (100) (by omega)).trans j8), ((hE2 (101) (by omega)).trans j9), ((hE2 (102) (by omega)).trans j10)⟩, ⟨_, _, ((hE2 (83) (by omega)).trans mr1), ((hE2 (84) (by omega)).trans mr2), ?_⟩, ⟨_, _, _, _, _, _, upN1 mdo h 0, ((hE2 (85) (by omega)).trans t1), q1, q2, q3, ((hE2 (89) (by omega)).trans t5), q4, ?_⟩, ⟨_, ((hE2 (91) (by omega)).trans mf1), ?_⟩, ⟨_, ((hE2 (92) (by omega)).trans mp1), ?_⟩⟩ hW1
  · exact mr3
  · exact hs_bg t7 hN (fun x hx => apG_out hx) (fun i hi => apG_in hi)
  · exact mf2
  · exact mp2
set_option maxHeartbeats 4000000 in
theorem m_begin_1 (r0 : Int32) (X : LC p m c s D cy t A b L xs) (hJ : INVm F cy z cnt f fn0 ff pn pf md K g nt) (hN : INVs cnt fn0 pn md nt) (hW : Wd D A s (LW F) H locs) (hsz : ls.size = 4) (hf : cells ≤ 600000 ∧ slots ≤ 7302250) {r : Nat} (hr : r < 8) {h : Nat} (hh : h < 4)  (y_hc : (cnt r) ≤ 200) (y_h32 : (cnt r) = 32)
    (kk : ∀ (H1 : Heap) (locs1 : List Loc) (F1 : Nat → cellT), (∀ j, j < 82 → F1 j = F j) → INVm F1 cy z cnt f fn0 ff pn pf (upd md h (nI (1))) (upF1 K h (fun k => wrd (lo8 (f r)) (4 * k))) (upF1 g h (g h)) (upN1 nt h 0) → Wd D A s (LW F1) H1 locs1 → W p l e room_1 s m #[Value.ref b] below meth c H1 locs1 cells slots Q (F0 m 318 ls (.int (nI (0)) :: [.int r0]))) : W p l e room_1 s m #[Value.ref b] below meth c H locs cells slots Q (F0 m 315 ls [.int (nI (r)), .int (nI (1)), .int (nI (h)), .ref (z 0), .int r0]) := by
  obtain ⟨⟨be, nu, bq, fg, hg, cz, mo⟩, ⟨ke, cn, bb, vv, ww, oo, pp, il, j1, j2, j3, j4, j5, j6, j7, j8, j9, j10⟩, ⟨mr, ms, mr1, mr2, mr3⟩, ⟨mt, mcn, mmd, mk, mh, mdn, mdo, t1, t2, t3, t4, t5, t6, t7⟩, ⟨mf, mf1, mf2⟩, ⟨mp, mp1, mp2⟩⟩ := hJ
  refine kL (As := [.int (nI (h)), .int (nI (1)), .int (nI (r))]) (rest := [.int r0]) X hW [82, 86, 87, 88, 90, 93, 84, 83] (fun sz => c_X5_begin_1 l D cy t (z 0) (z 1) (z 2) (z 3) (z 4) (z 5) (z 6) (z 7) (z 8) (z 9) fn0 (z 10) pn (z 11) (z 12) be (z 13) (z 14) (z 15) (z 16) (z 17) (z 18) nu bq fg (z 19) hg cz (z 20) mcn mmd mk mdn h ms mr r (cnt r) hh hr ((mr3 r hr).1) y_hc y_h32 sz) rfl (And.intro mo (And.intro t2 (And.intro t3 (And.intro t4 (And.intro t6 (And.intro j1 (And.intro mr2 (And.intro mr1 True.intro)))))))) (by decide) (by decide) (cwV 3 X.1.2.2.2.2 gL_law_X5_begin rfl rfl rfl (by decide +kernel) ⟨Nat.le_of_ble_eq_true rfl, Nat.le_of_ble_eq_true rfl⟩) (fun _ => rfl) 0 5 rfl rfl rfl hsz rfl (Nat.le_of_ble_eq_true rfl) dL_law_315 hf (fun r9 u9 H1 locs1 F1 hp hE hq hW1 => ?_)
  have hr9 := hp
  replace hr9 : r9 = nI (0) := hr9
  subst hr9
  obtain ⟨q0, q1, q2, q3, q4, q5, q6, q7, -⟩ := hq
  have hE2 : ∀ j, ¬ (j = 86 ∨ j = 87 ∨ j = 88 ∨ j = 90) → F1 j = F j := by
    intro j h9
    by_cases h8 : j = 82 ∨ j = 93 ∨ j = 84 ∨ j = 83
    · rcases h8 with h8 | h8 | h8 | h8
      · rw [h8]; exact q0.trans (mo).symm
      · rw [h8]; exact q5.trans (j1).symm
      · rw [h8]; exact q6.trans (mr2).symm
      · rw [h8]; exact q7.trans (mr1).symm
    · exact hE j (by simp only [List.mem_cons, List.not_mem_nil, or_false]; omega)
  refine kk H1 locs1 F1 (fun j hj => hE2 j (by omega)) ⟨⟨_, _, _, _, _, _, ((hE2 (82) (by omega)).trans mo)⟩, ⟨_, _, _, _, _, _, _, _, ((hE2 (93) (by omega)).trans j1), ((hE2 (94) (by omega)).trans j2), ((hE2 (95) (by omega)).trans j3), ((hE2 (96) (by omega)).trans j4), ((hE2 (97) (by omega)).trans j5), ((hE2 (98) (by omega)).trans j6), ((hE2 (99) (by omega)).trans j7), ((hE2 (100) (by omega)).trans j8), ((hE2 (101) (by omega)).trans j9), ((hE2 (102) (by omega)).trans j10)⟩, ⟨_, _, ((hE2 (83) (by omega)).trans mr1), ((hE2 (84) (by omega)).trans mr2), ?_⟩, ⟨_, _, _, _, _, _, upN1 mdo h 0, ((hE2 (85) (by omega)).trans t1), q1, q2, q3, ((hE2 (89) (by omega)).trans t5), q4, ?_⟩, ⟨_, ((hE2 (91) (by omega)).trans mf1), ?_⟩, ⟨_, ((hE2 (92) (by omega)).trans mp1), ?_⟩⟩ hW1
  · exact mr3
  · refine hs_bg t7 hN (fun x hx => by rw [apG_out hx, apG_out hx]) (fun i hi => ?_)
    rw [apG_in hi]
    exact wrd_congr (fun j hj => by rw [Nat.add_assoc]; exact (mr3 r hr).2 _ (by omega))
  · exact mf2
  · exact mp2
set_option maxHeartbeats 4000000 in
theorem m_begin_2 (r0 : Int32) (X : LC p m c s D cy t A b L xs) (hJ : INVm F cy z cnt f fn0 ff pn pf md K g nt) (hN : INVs cnt fn0 pn md nt) (hW : Wd D A s (LW F) H locs) (hsz : ls.size = 4) (hf : cells ≤ 600000 ∧ slots ≤ 7302250) {r : Nat} (hr : r < 8) {h : Nat} (hh : h < 4)  (y_hc : (cnt r) ≤ 200)
    (kk : ∀ (H1 : Heap) (locs1 : List Loc) (F1 : Nat → cellT), (∀ j, j < 82 → F1 j = F j) → INVm F1 cy z cnt f fn0 ff pn pf (upd md h (nI (2))) (upF1 K h (mixV (rtN stA (nI (32)) (lo8 (f r)) 0 (cnt r)).1 (rtN stA (nI (32)) (lo8 (f r)) 0 (cnt r)).2.1 (rtN stA (nI (32)) (lo8 (f r)) 0 (cnt r)).2.2.1 (rtN stA (nI (32)) (lo8 (f r)) 0 (cnt r)).2.2.2.1 ((rtN stA (nI (32)) (lo8 (f r)) 0 (cnt r)).2.2.2.2 ||| (nI (8))))) (upF1 g h (g h)) (upN1 nt h 0) → Wd D A s (LW F1) H1 locs1 → W p l e room_1 s m #[Value.ref b] below meth c H1 locs1 cells slots Q (F0 m 318 ls (.int (nI (0)) :: [.int r0]))) : W p l e room_1 s m #[Value.ref b] below meth c H locs cells slots Q (F0 m 315 ls [.int (nI (r)), .int (nI (2)), .int (nI (h)), .ref (z 0), .int r0]) := by
  obtain ⟨⟨be, nu, bq, fg, hg, cz, mo⟩, ⟨ke, cn, bb, vv, ww, oo, pp, il, j1, j2, j3, j4, j5, j6, j7, j8, j9, j10⟩, ⟨mr, ms, mr1, mr2, mr3⟩, ⟨mt, mcn, mmd, mk, mh, mdn, mdo, t1, t2, t3, t4, t5, t6, t7⟩, ⟨mf, mf1, mf2⟩, ⟨mp, mp1, mp2⟩⟩ := hJ
  refine kL (As := [.int (nI (h)), .int (nI (2)), .int (nI (r))]) (rest := [.int r0]) X hW [82, 86, 87, 88, 90, 93, 84, 83, 94, 95, 96, 97, 98, 99, 100] (fun sz => c_X5_begin_2 l D cy t (z 0) (z 1) (z 2) (z 3) (z 4) (z 5) (z 6) (z 7) (z 8) (z 9) fn0 (z 10) pn (z 11) (z 12) be (z 13) (z 14) (z 15) (z 16) (z 17) (z 18) nu bq fg (z 19) hg cz (z 20) mcn mmd mk mdn h ms mr r (cnt r) ke cn bb vv ww oo hh hr ((mr3 r hr).1) y_hc sz) rfl (And.intro mo (And.intro t2 (And.intro t3 (And.intro t4 (And.intro t6 (And.intro j1 (And.intro mr2 (And.intro mr1 (And.intro j2 (And.intro j3 (And.intro j4 (And.intro j5 (And.intro j6 (And.intro j7 (And.intro j8 True.intro))))))))))))))) (by decide) (by decide) (cwV 3 X.1.2.2.2.2 gL_law_X5_begin rfl rfl rfl (by decide +kernel) ⟨Nat.le_of_ble_eq_true rfl, Nat.le_of_ble_eq_true rfl⟩) (fun ⟨_, _⟩ => rfl) 0 5 rfl rfl rfl hsz rfl (Nat.le_of_ble_eq_true rfl) dL_law_315 hf (fun r9 u9 H1 locs1 F1 hp hE hq hW1 => ?_)
  obtain ⟨ww2_, oo2_⟩ := u9
  have hr9 := hp
  replace hr9 : r9 = nI (0) := hr9
  subst hr9
  obtain ⟨q0, q1, q2, q3, q4, q5, q6, q7, q8, q9, q10, q11, q12, q13, q14, -⟩ := hq
  have hE2 : ∀ j, ¬ (j = 82 ∨ j = 86 ∨ j = 87 ∨ j = 88 ∨ j = 90 ∨ j = 94 ∨ j = 95 ∨ j = 96 ∨ j = 97 ∨ j = 98 ∨ j = 99) → F1 j = F j := by
    intro j h9
    by_cases h8 : j = 93 ∨ j = 84 ∨ j = 83 ∨ j = 100
    · rcases h8 with h8 | h8 | h8 | h8
      · rw [h8]; exact q5.trans (j1).symm
      · rw [h8]; exact q6.trans (mr2).symm
      · rw [h8]; exact q7.trans (mr1).symm
      · rw [h8]; exact q14.trans (j8).symm
    · exact hE j (by simp only [List.mem_cons, List.not_mem_nil, or_false]; omega)
  refine kk H1 locs1 F1 (fun j hj => hE2 j (by omega)) ⟨⟨_, _, _, _, _, _, q0⟩, ⟨_, _, _, _, _, _, _, _, ((hE2 (93) (by omega)).trans j1), q8, q9, q10, q11, q12, q13, ((hE2 (100) (by omega)).trans j8), ((hE2 (101) (by omega)).trans j9), ((hE2 (102) (by omega)).trans j10)⟩, ⟨_, _, ((hE2 (83) (by omega)).trans mr1), ((hE2 (84) (by omega)).trans mr2), ?_⟩, ⟨_, _, _, _, _, _, upN1 mdo h 0, ((hE2 (85) (by omega)).trans t1), q1, q2, q3, ((hE2 (89) (by omega)).trans t5), q4, ?_⟩, ⟨_, ((hE2 (91) (by omega)).trans mf1), ?_⟩, ⟨_, ((hE2 (92) (by omega)).trans mp1), ?_⟩⟩ hW1
  · exact mr3
  · refine hs_bg t7 hN (fun x hx => by rw [apG_out hx, apG_out hx]) (fun i hi => ?_)
    rw [apG_in hi, rt_or (Or.inr (Or.inr (Or.inl rfl)))]
    have e2 : rtN stA (nI 32) (lo8 (f r)) 0 (cnt r) = ndC stA (nI 32) mr (200 * r) 0 (cnt r) := by
      rw [rt_one (by have := hN.1 r hr; omega)]
      exact ndC_congr (fun k hk => by rw [Nat.zero_add]; exact ((mr3 r hr).2 k hk).symm)
    rw [e2]
    rfl
  · exact mf2
  · exact mp2
set_option maxHeartbeats 4000000 in
theorem m_copy (r0 : Int32) (X : LC p m c s D cy t A b L xs) (hJ : INVm F cy z cnt f fn0 ff pn pf md K g nt) (hN : INVs cnt fn0 pn md nt) (hW : Wd D A s (LW F) H locs) (hsz : ls.size = 4) (hf : cells ≤ 600000 ∧ slots ≤ 7302250) {h : Nat} (hh : h < 4) {h2 : Nat} (hh2 : h2 < 4)  (y_hnt : (nt h2) ≤ 40000)
    (kk : ∀ (H1 : Heap) (locs1 : List Loc) (F1 : Nat → cellT), (∀ j, j < 82 → F1 j = F j) → INVm F1 cy z cnt f fn0 ff pn pf (upd md h (md h2)) (upF1 K h (K h2)) (upF1 g h (g h2)) (upN1 nt h (nt h2)) → Wd D A s (LW F1) H1 locs1 → W p l e room_1 s m #[Value.ref b] below meth c H1 locs1 cells slots Q (F0 m 520 ls (.int (nI ((nt h2))) :: [.int r0]))) : W p l e room_1 s m #[Value.ref b] below meth c H locs cells slots Q (F0 m 517 ls [.int (nI (h)), .int (nI (h2)), .ref (z 0), .int r0]) := by
  obtain ⟨⟨be, nu, bq, fg, hg, cz, mo⟩, ⟨ke, cn, bb, vv, ww, oo, pp, il, j1, j2, j3, j4, j5, j6, j7, j8, j9, j10⟩, ⟨mr, ms, mr1, mr2, mr3⟩, ⟨mt, mcn, mmd, mk, mh, mdn, mdo, t1, t2, t3, t4, t5, t6, t7⟩, ⟨mf, mf1, mf2⟩, ⟨mp, mp1, mp2⟩⟩ := hJ
  refine kL (As := [.int (nI (h2)), .int (nI (h))]) (rest := [.int r0]) X hW [82, 85, 86, 87, 88, 89, 90] (fun sz => c_X5_copy l D cy t (z 0) (z 1) (z 2) (z 3) (z 4) (z 5) (z 6) (z 7) (z 8) (z 9) fn0 (z 10) pn (z 11) (z 12) be (z 13) (z 14) (z 15) (z 16) (z 17) (z 18) nu bq fg (z 19) hg cz (z 20) mt mcn mmd mk mh mdn h2 h (nt h2) hh hh2 ((t7 h2 hh2).1) y_hnt sz) rfl (And.intro mo (And.intro t1 (And.intro t2 (And.intro t3 (And.intro t4 (And.intro t5 (And.intro t6 True.intro))))))) (by decide) (by decide) (cwV 2 X.1.2.2.2.2 gL_law_X5_copy rfl rfl rfl (by decide +kernel) ⟨Nat.le_of_ble_eq_true rfl, Nat.le_of_ble_eq_true rfl⟩) (fun _ => rfl) 0 5 rfl rfl rfl hsz rfl (Nat.le_of_ble_eq_true rfl) dL_law_517 hf (fun r9 u9 H1 locs1 F1 hp hE hq hW1 => ?_)
  have hr9 := hp
  replace hr9 : r9 = nI ((nt h2)) := hr9
  subst hr9
  obtain ⟨q0, q1, q2, q3, q4, q5, q6, -⟩ := hq
  have hE2 : ∀ j, ¬ (j = 85 ∨ j = 86 ∨ j = 87 ∨ j = 88 ∨ j = 89 ∨ j = 90) → F1 j = F j := by
    intro j h9
    by_cases h8 : j = 82
    · rw [h8]; exact q0.trans (mo).symm
    · exact hE j (by simp only [List.mem_cons, List.not_mem_nil, or_false]; omega)
  refine kk H1 locs1 F1 (fun j hj => hE2 j (by omega)) ⟨⟨_, _, _, _, _, _, ((hE2 (82) (by omega)).trans mo)⟩, ⟨_, _, _, _, _, _, _, _, ((hE2 (93) (by omega)).trans j1), ((hE2 (94) (by omega)).trans j2), ((hE2 (95) (by omega)).trans j3), ((hE2 (96) (by omega)).trans j4), ((hE2 (97) (by omega)).trans j5), ((hE2 (98) (by omega)).trans j6), ((hE2 (99) (by omega)).trans j7), ((hE2 (100) (by omega)).trans j8), ((hE2 (101) (by omega)).trans j9), ((hE2 (102) (by omega)).trans j10)⟩, ⟨_, _, ((hE2 (83) (by omega)).trans mr1), ((hE2 (84) (by omega)).trans mr2), ?_⟩, ⟨_, _, _, _, _, _, upN1 mdo h (mdo h2), q1, q2, q3, q4, q5, q6, ?_⟩, ⟨_, ((hE2 (91) (by omega)).trans mf1), ?_⟩, ⟨_, ((hE2 (92) (by omega)).trans mp1), ?_⟩⟩ hW1
  · exact mr3
  · exact hs_cp t7 hN hh2
  · exact mf2
  · exact mp2
set_option maxHeartbeats 4000000 in
theorem m_chain (r0 : Int32) (X : LC p m c s D cy t A b L xs) (hJ : INVm F cy z cnt f fn0 ff pn pf md K g nt) (hN : INVs cnt fn0 pn md nt) (hW : Wd D A s (LW F) H locs) (hsz : ls.size = 4) (hf : cells ≤ 600000 ∧ slots ≤ 7302250) {h : Nat} (hh : h < 4) (a9 : Nat) (b9 : Nat) (y_hnt : (nt h) ≤ 40000) (y_ha : a9 < pcn (clo (nt h))) (y_hb8 : b9 < 8) (y_ha31 : a9 < 2 ^ 31)
    (kk : ∀ (H1 : Heap) (locs1 : List Loc) (F1 : Nat → cellT), (∀ j, j < 82 → F1 j = F j) → INVm F1 cy z cnt f fn0 ff pn pf md K g nt → Wd D A s (LW F1) H1 locs1 → W p l e room_1 s m #[Value.ref b] below meth c H1 locs1 cells slots Q (F0 m 596 ls (.int (skS (K h) (bsO (md h)) (g h) 0 (clo (nt h)) a9 b9) :: [.int r0]))) : W p l e room_1 s m #[Value.ref b] below meth c H locs cells slots Q (F0 m 593 ls [.int (nI (b9)), .int (nI (a9)), .int (nI (h)), .ref (z 0), .int r0]) := by
  obtain ⟨⟨be, nu, bq, fg, hg, cz, mo⟩, ⟨ke, cn, bb, vv, ww, oo, pp, il, j1, j2, j3, j4, j5, j6, j7, j8, j9, j10⟩, ⟨mr, ms, mr1, mr2, mr3⟩, ⟨mt, mcn, mmd, mk, mh, mdn, mdo, t1, t2, t3, t4, t5, t6, t7⟩, ⟨mf, mf1, mf2⟩, ⟨mp, mp1, mp2⟩⟩ := hJ
  refine kL (As := [.int (nI (h)), .int (nI (a9)), .int (nI (b9))]) (rest := [.int r0]) X hW [82, 94, 95, 96, 97, 98, 99, 101, 100, 93, 85, 86, 87, 88, 89, 90] (fun sz => c_X5_chain l D cy t (z 0) (z 1) (z 2) (z 3) (z 4) (z 5) (z 6) (z 7) (z 8) (z 9) fn0 (z 10) pn (z 11) (z 12) be (z 13) (z 14) (z 15) (z 16) (z 17) (z 18) nu bq fg (z 19) hg cz (z 20) ke cn bb vv ww oo pp mt mcn mmd mk mh mdn h (nt h) (mdo h) (g h) (K h) a9 b9 hh ((t7 h hh).1) y_hnt ((t7 h hh).2.2.2.2.1) ((t7 h hh).2.2.1) ((t7 h hh).2.2.2.1) ((t7 h hh).2.2.2.2.2.1) (by rw [(t7 h hh).2.1]; exact (t7 h hh).2.2.2.2.2.2) y_ha y_hb8 y_ha31 sz) rfl (And.intro mo (And.intro j2 (And.intro j3 (And.intro j4 (And.intro j5 (And.intro j6 (And.intro j7 (And.intro j9 (And.intro j8 (And.intro j1 (And.intro t1 (And.intro t2 (And.intro t3 (And.intro t4 (And.intro t5 (And.intro t6 True.intro)))))))))))))))) (by decide) (by decide) (cwV 3 X.1.2.2.2.2 gL_law_X5_chain rfl rfl rfl (by decide +kernel) ⟨Nat.le_of_ble_eq_true rfl, Nat.le_of_ble_eq_true rfl⟩) (fun ⟨_, _, _, _, _, _, _, _, _, _⟩ => rfl) 0 5 rfl rfl rfl hsz rfl (Nat.le_of_ble_eq_true rfl) dL_law_593 hf (fun r9 u9 H1 locs1 F1 hp hE hq hW1 => ?_)
  obtain ⟨cn2_, bb2_, vv2_, ww2_, oo2_, nu2_, bq2_, fg2_, pp2_, mh2_⟩ := u9
  obtain ⟨hr9, fc1, fc2⟩ := hp
  replace hr9 : r9 = skS (K h) (bsO (md h)) (g h) 0 (clo (nt h)) a9 b9 := hr9.trans (by rw [(t7 h hh).2.1])
  subst hr9
  obtain ⟨q0, q1, q2, q3, q4, q5, q6, q7, q8, q9, q10, q11, q12, q13, q14, q15, -⟩ := hq
  have hE2 : ∀ j, ¬ (j = 82 ∨ j = 94 ∨ j = 95 ∨ j = 96 ∨ j = 97 ∨ j = 98 ∨ j = 99 ∨ j = 101 ∨ j = 89 ∨ j = 90) → F1 j = F j := by
    intro j h9
    by_cases h8 : j = 100 ∨ j = 93 ∨ j = 85 ∨ j = 86 ∨ j = 87 ∨ j = 88
    · rcases h8 with h8 | h8 | h8 | h8 | h8 | h8
      · rw [h8]; exact q8.trans (j8).symm
      · rw [h8]; exact q9.trans (j1).symm
      · rw [h8]; exact q10.trans (t1).symm
      · rw [h8]; exact q11.trans (t2).symm
      · rw [h8]; exact q12.trans (t3).symm
      · rw [h8]; exact q13.trans (t4).symm
    · exact hE j (by simp only [List.mem_cons, List.not_mem_nil, or_false]; omega)
  rw [(t7 h hh).2.1] at fc1
  refine kk H1 locs1 F1 (fun j hj => hE2 j (by omega)) ⟨⟨_, _, _, _, _, _, q0⟩, ⟨_, _, _, _, _, _, _, _, ((hE2 (93) (by omega)).trans j1), q1, q2, q3, q4, q5, q6, ((hE2 (100) (by omega)).trans j8), q7, ((hE2 (102) (by omega)).trans j10)⟩, ⟨_, _, ((hE2 (83) (by omega)).trans mr1), ((hE2 (84) (by omega)).trans mr2), ?_⟩, ⟨_, _, _, _, _, _, upN1 mdo h (clo (nt h)), ((hE2 (85) (by omega)).trans t1), ((hE2 (86) (by omega)).trans t2), ((hE2 (87) (by omega)).trans t3), ((hE2 (88) (by omega)).trans t4), q14, q15, ?_⟩, ⟨_, ((hE2 (91) (by omega)).trans mf1), ?_⟩, ⟨_, ((hE2 (92) (by omega)).trans mp1), ?_⟩⟩ hW1
  · exact mr3
  · exact hs_mh t7 hN hh fc1 fc2
  · exact mf2
  · exact mp2
set_option maxHeartbeats 4000000 in
theorem m_chain_n (r0 : Int32) (X : LC p m c s D cy t A b L xs) (hJ : INVm F cy z cnt f fn0 ff pn pf md K g nt) (hN : INVs cnt fn0 pn md nt) (hW : Wd D A s (LW F) H locs) (hsz : ls.size = 4) (hf : cells ≤ 600000 ∧ slots ≤ 7302250) {h : Nat} (hh : h < 4) (a9 : Nat) (b9 : Nat) (y_hnt : (nt h) ≤ 40000) (y_ha : pcn (clo (nt h)) ≤ a9) (y_hb8 : b9 < 8) (y_ha31 : a9 < 2 ^ 31)
    (kk : ∀ (H1 : Heap) (locs1 : List Loc) (F1 : Nat → cellT), (∀ j, j < 82 → F1 j = F j) → INVm F1 cy z cnt f fn0 ff pn pf md K g nt → Wd D A s (LW F1) H1 locs1 → W p l e room_1 s m #[Value.ref b] below meth c H1 locs1 cells slots Q (F0 m 596 ls (.int (nI (0)) :: [.int r0]))) : W p l e room_1 s m #[Value.ref b] below meth c H locs cells slots Q (F0 m 593 ls [.int (nI (b9)), .int (nI (a9)), .int (nI (h)), .ref (z 0), .int r0]) := by
  obtain ⟨⟨be, nu, bq, fg, hg, cz, mo⟩, ⟨ke, cn, bb, vv, ww, oo, pp, il, j1, j2, j3, j4, j5, j6, j7, j8, j9, j10⟩, ⟨mr, ms, mr1, mr2, mr3⟩, ⟨mt, mcn, mmd, mk, mh, mdn, mdo, t1, t2, t3, t4, t5, t6, t7⟩, ⟨mf, mf1, mf2⟩, ⟨mp, mp1, mp2⟩⟩ := hJ
  refine kL (As := [.int (nI (h)), .int (nI (a9)), .int (nI (b9))]) (rest := [.int r0]) X hW [82, 94, 95, 96, 97, 98, 99, 101, 100, 93, 85, 86, 87, 88, 89, 90] (fun sz => c_X5_chain_n l D cy t (z 0) (z 1) (z 2) (z 3) (z 4) (z 5) (z 6) (z 7) (z 8) (z 9) fn0 (z 10) pn (z 11) (z 12) be (z 13) (z 14) (z 15) (z 16) (z 17) (z 18) nu bq fg (z 19) hg cz (z 20) ke cn bb vv ww oo pp mt mcn mmd mk mh mdn h (nt h) (mdo h) (g h) (K h) a9 b9 hh ((t7 h hh).1) y_hnt ((t7 h hh).2.2.2.2.1) ((t7 h hh).2.2.1) ((t7 h hh).2.2.2.1) ((t7 h hh).2.2.2.2.2.1) (by rw [(t7 h hh).2.1]; exact (t7 h hh).2.2.2.2.2.2) y_ha y_hb8 y_ha31 sz) rfl (And.intro mo (And.intro j2 (And.intro j3 (And.intro j4 (And.intro j5 (And.intro j6 (And.intro j7 (And.intro j9 (And.intro j8 (And.intro j1 (And.intro t1 (And.intro t2 (And.intro t3 (And.intro t4 (And.intro t5 (And.intro t6 True.intro)))))))))))))))) (by decide) (by decide) (cwV 3 X.1.2.2.2.2 gL_law_X5_chain rfl rfl rfl (by decide +kernel) ⟨Nat.le_of_ble_eq_true rfl, Nat.le_of_ble_eq_true rfl⟩) (fun ⟨_, _, _, _, _, _, _, _, _, _⟩ => rfl) 0 5 rfl rfl rfl hsz rfl (Nat.le_of_ble_eq_true rfl) dL_law_593 hf (fun r9 u9 H1 locs1 F1 hp hE hq hW1 => ?_)
  obtain ⟨cn2_, bb2_, vv2_, ww2_, oo2_, nu2_, bq2_, fg2_, pp2_, mh2_⟩ := u9
  obtain ⟨hr9, fc1, fc2⟩ := hp
  replace hr9 : r9 = nI (0) := hr9
  subst hr9
  obtain ⟨q0, q1, q2, q3, q4, q5, q6, q7, q8, q9, q10, q11, q12, q13, q14, q15, -⟩ := hq
  have hE2 : ∀ j, ¬ (j = 82 ∨ j = 94 ∨ j = 95 ∨ j = 96 ∨ j = 97 ∨ j = 98 ∨ j = 99 ∨ j = 101 ∨ j = 89 ∨ j = 90) → F1 j = F j := by
    intro j h9
    by_cases h8 : j = 100 ∨ j = 93 ∨ j = 85 ∨ j = 86 ∨ j = 87 ∨ j = 88
    · rcases h8 with h8 | h8 | h8 | h8 | h8 | h8
      · rw [h8]; exact q8.trans (j8).symm
      · rw [h8]; exact q9.trans (j1).symm
      · rw [h8]; exact q10.trans (t1).symm
      · rw [h8]; exact q11.trans (t2).symm
      · rw [h8]; exact q12.trans (t3).symm
      · rw [h8]; exact q13.trans (t4).symm
    · exact hE j (by simp only [List.mem_cons, List.not_mem_nil, or_false]; omega)
  rw [(t7 h hh).2.1] at fc1
  refine kk H1 locs1 F1 (fun j hj => hE2 j (by omega)) ⟨⟨_, _, _, _, _, _, q0⟩, ⟨_, _, _, _, _, _, _, _, ((hE2 (93) (by omega)).trans j1), q1, q2, q3, q4, q5, q6, ((hE2 (100) (by omega)).trans j8), q7, ((hE2 (102) (by omega)).trans j10)⟩, ⟨_, _, ((hE2 (83) (by omega)).trans mr1), ((hE2 (84) (by omega)).trans mr2), ?_⟩, ⟨_, _, _, _, _, _, upN1 mdo h (clo (nt h)), ((hE2 (85) (by omega)).trans t1), ((hE2 (86) (by omega)).trans t2), ((hE2 (87) (by omega)).trans t3), ((hE2 (88) (by omega)).trans t4), q14, q15, ?_⟩, ⟨_, ((hE2 (91) (by omega)).trans mf1), ?_⟩, ⟨_, ((hE2 (92) (by omega)).trans mp1), ?_⟩⟩ hW1
  · exact mr3
  · exact hs_mh t7 hN hh fc1 fc2
  · exact mf2
  · exact mp2
set_option maxHeartbeats 4000000 in
theorem m_output (r0 : Int32) (X : LC p m c s D cy t A b L xs) (hJ : INVm F cy z cnt f fn0 ff pn pf md K g nt) (hN : INVs cnt fn0 pn md nt) (hW : Wd D A s (LW F) H locs) (hsz : ls.size = 4) (hf : cells ≤ 600000 ∧ slots ≤ 7302250) {r : Nat} (hr : r < 8) {h : Nat} (hh : h < 4) (n : Nat) (pl : Nat) (y_hnt : (nt h) ≤ 40000) (y_hn2 : n ≤ 200) (y_hpl : pl ≤ 2 ^ 62)
    (kk : ∀ (H1 : Heap) (locs1 : List Loc) (F1 : Nat → cellT), (∀ j, j < 82 → F1 j = F j) → INVm F1 cy z (upN1 cnt r n) (upF1 f r (apG (f r) 0 (fun k => b8 (outB (rtN (K h) (bsO (md h)) (g h) 0 (nt h)).1 (rtN (K h) (bsO (md h)) (g h) 0 (nt h)).2.1 (rtN (K h) (bsO (md h)) (g h) 0 (nt h)).2.2.2.1 ((rtN (K h) (bsO (md h)) (g h) 0 (nt h)).2.2.2.2 ||| (nI (8))) (pl + k))) n)) fn0 ff pn pf md K g nt → Wd D A s (LW F1) H1 locs1 → W p l e room_1 s m #[Value.ref b] below meth c H1 locs1 cells slots Q (F0 m 487 ls (.int (nI (n)) :: [.int r0]))) : W p l e room_1 s m #[Value.ref b] below meth c H locs cells slots Q (F0 m 484 ls [.long (lN pl), .int (nI (n)), .int (nI (r)), .int (nI (h)), .ref (z 0), .int r0]) := by
  obtain ⟨⟨be, nu, bq, fg, hg, cz, mo⟩, ⟨ke, cn, bb, vv, ww, oo, pp, il, j1, j2, j3, j4, j5, j6, j7, j8, j9, j10⟩, ⟨mr, ms, mr1, mr2, mr3⟩, ⟨mt, mcn, mmd, mk, mh, mdn, mdo, t1, t2, t3, t4, t5, t6, t7⟩, ⟨mf, mf1, mf2⟩, ⟨mp, mp1, mp2⟩⟩ := hJ
  refine kL (As := [.int (nI (h)), .int (nI (r)), .int (nI (n)), .long (lN pl)]) (rest := [.int r0]) X hW [82, 94, 95, 96, 97, 98, 99, 101, 100, 93, 85, 86, 87, 88, 89, 90, 84, 83] (fun sz => c_X5_output l D cy t (z 0) (z 1) (z 2) (z 3) (z 4) (z 5) (z 6) (z 7) (z 8) (z 9) fn0 (z 10) pn (z 11) (z 12) be (z 13) (z 14) (z 15) (z 16) (z 17) (z 18) nu bq fg (z 19) hg cz (z 20) ke cn bb vv ww oo pp mt mcn mmd mk mh mdn h (nt h) (mdo h) (g h) (K h) ms mr r n pl hh ((t7 h hh).1) y_hnt ((t7 h hh).2.2.2.2.1) ((t7 h hh).2.2.1) ((t7 h hh).2.2.2.1) ((t7 h hh).2.2.2.2.2.1) (by rw [(t7 h hh).2.1]; exact (t7 h hh).2.2.2.2.2.2) hr y_hn2 y_hpl sz) rfl (And.intro mo (And.intro j2 (And.intro j3 (And.intro j4 (And.intro j5 (And.intro j6 (And.intro j7 (And.intro j9 (And.intro j8 (And.intro j1 (And.intro t1 (And.intro t2 (And.intro t3 (And.intro t4 (And.intro t5 (And.intro t6 (And.intro mr2 (And.intro mr1 True.intro)))))))))))))))))) (by decide) (by decide) (cwV 4 X.1.2.2.2.2 gL_law_X5_output rfl rfl rfl (by decide +kernel) ⟨Nat.le_of_ble_eq_true rfl, Nat.le_of_ble_eq_true rfl⟩) (fun ⟨_, _, _, _, _⟩ => rfl) 0 5 rfl rfl rfl hsz rfl (Nat.le_of_ble_eq_true rfl) dL_law_484 hf (fun r9 u9 H1 locs1 F1 hp hE hq hW1 => ?_)
  obtain ⟨vv2_, ww2_, oo2_, pp2_, mh2_⟩ := u9
  obtain ⟨hr9, fc1, fc2⟩ := hp
  replace hr9 : r9 = nI (n) := hr9
  subst hr9
  obtain ⟨q0, q1, q2, q3, q4, q5, q6, q7, q8, q9, q10, q11, q12, q13, q14, q15, q16, q17, -⟩ := hq
  have hE2 : ∀ j, ¬ (j = 82 ∨ j = 94 ∨ j = 95 ∨ j = 96 ∨ j = 97 ∨ j = 98 ∨ j = 99 ∨ j = 101 ∨ j = 89 ∨ j = 90 ∨ j = 84 ∨ j = 83) → F1 j = F j := by
    intro j h9
    by_cases h8 : j = 100 ∨ j = 93 ∨ j = 85 ∨ j = 86 ∨ j = 87 ∨ j = 88
    · rcases h8 with h8 | h8 | h8 | h8 | h8 | h8
      · rw [h8]; exact q8.trans (j8).symm
      · rw [h8]; exact q9.trans (j1).symm
      · rw [h8]; exact q10.trans (t1).symm
      · rw [h8]; exact q11.trans (t2).symm
      · rw [h8]; exact q12.trans (t3).symm
      · rw [h8]; exact q13.trans (t4).symm
    · exact hE j (by simp only [List.mem_cons, List.not_mem_nil, or_false]; omega)
  rw [(t7 h hh).2.1] at fc1
  refine kk H1 locs1 F1 (fun j hj => hE2 j (by omega)) ⟨⟨_, _, _, _, _, _, q0⟩, ⟨_, _, _, _, _, _, _, _, ((hE2 (93) (by omega)).trans j1), q1, q2, q3, q4, q5, q6, ((hE2 (100) (by omega)).trans j8), q7, ((hE2 (102) (by omega)).trans j10)⟩, ⟨_, _, q17, q16, ?_⟩, ⟨_, _, _, _, _, _, upN1 mdo h (clo (nt h)), ((hE2 (85) (by omega)).trans t1), ((hE2 (86) (by omega)).trans t2), ((hE2 (87) (by omega)).trans t3), ((hE2 (88) (by omega)).trans t4), q14, q15, ?_⟩, ⟨_, ((hE2 (91) (by omega)).trans mf1), ?_⟩, ⟨_, ((hE2 (92) (by omega)).trans mp1), ?_⟩⟩ hW1
  · refine rg_up mr3 hN hr (fun x hx => apG_out (by omega)) (ap_lo0 (fun i hi => ?_))
    rw [lo_b8, (t7 h hh).2.1, ← rt_or (bsO_K (hN.2.2.2.1 h hh))]
    exact (oby_255 _ _).symm
  · exact hs_mh t7 hN hh fc1 fc2
  · exact mf2
  · exact mp2
set_option maxHeartbeats 4000000 in
theorem m_root (r0 : Int32) (X : LC p m c s D cy t A b L xs) (hJ : INVm F cy z cnt f fn0 ff pn pf md K g nt) (hN : INVs cnt fn0 pn md nt) (hW : Wd D A s (LW F) H locs) (hsz : ls.size = 4) (hf : cells ≤ 600000 ∧ slots ≤ 7302250) {r : Nat} (hr : r < 8)  
    (kk : ∀ (H1 : Heap) (locs1 : List Loc) (F1 : Nat → cellT), (∀ j, j < 82 → F1 j = F j) → INVm F1 cy z (upN1 cnt r 32) (upF1 f r (apG (f r) 0 (fun k => b8 (outB (rtN stA (nI (0)) (fun k => lo8 ff (0 + k)) 0 fn0).1 (rtN stA (nI (0)) (fun k => lo8 ff (0 + k)) 0 fn0).2.1 (rtN stA (nI (0)) (fun k => lo8 ff (0 + k)) 0 fn0).2.2.2.1 ((rtN stA (nI (0)) (fun k => lo8 ff (0 + k)) 0 fn0).2.2.2.2 ||| (nI (8))) (0 + k))) 32)) fn0 ff pn pf md K g nt → Wd D A s (LW F1) H1 locs1 → W p l e room_1 s m #[Value.ref b] below meth c H1 locs1 cells slots Q (F0 m 718 ls (.int (nI (fn0)) :: [.int r0]))) : W p l e room_1 s m #[Value.ref b] below meth c H locs cells slots Q (F0 m 715 ls [.int (nI (r)), .ref (z 0), .int r0]) := by
  obtain ⟨⟨be, nu, bq, fg, hg, cz, mo⟩, ⟨ke, cn, bb, vv, ww, oo, pp, il, j1, j2, j3, j4, j5, j6, j7, j8, j9, j10⟩, ⟨mr, ms, mr1, mr2, mr3⟩, ⟨mt, mcn, mmd, mk, mh, mdn, mdo, t1, t2, t3, t4, t5, t6, t7⟩, ⟨mf, mf1, mf2⟩, ⟨mp, mp1, mp2⟩⟩ := hJ
  refine kL (As := [.int (nI (r))]) (rest := [.int r0]) X hW [82, 94, 95, 96, 97, 98, 99, 101, 100, 93, 84, 83, 91] (fun sz => c_X5_root l D cy t (z 0) (z 1) (z 2) (z 3) (z 4) (z 5) (z 6) (z 7) (z 8) (z 9) fn0 (z 10) pn (z 11) (z 12) be (z 13) (z 14) (z 15) (z 16) (z 17) (z 18) nu bq fg (z 19) hg cz (z 20) ke cn bb vv ww oo pp ms mr r mf hr hN.2.1 sz) rfl (And.intro mo (And.intro j2 (And.intro j3 (And.intro j4 (And.intro j5 (And.intro j6 (And.intro j7 (And.intro j9 (And.intro j8 (And.intro j1 (And.intro mr2 (And.intro mr1 (And.intro mf1 True.intro))))))))))))) (by decide) (by decide) (cwV 1 X.1.2.2.2.2 gL_law_X5_root rfl rfl rfl (by decide +kernel) ⟨Nat.le_of_ble_eq_true rfl, Nat.le_of_ble_eq_true rfl⟩) (fun ⟨_, _, _⟩ => rfl) 0 5 rfl rfl rfl hsz rfl (Nat.le_of_ble_eq_true rfl) dL_law_715 hf (fun r9 u9 H1 locs1 F1 hp hE hq hW1 => ?_)
  obtain ⟨ww2_, oo2_, pp2_⟩ := u9
  have hr9 := hp
  replace hr9 : r9 = nI (fn0) := hr9
  subst hr9
  obtain ⟨q0, q1, q2, q3, q4, q5, q6, q7, q8, q9, q10, q11, q12, -⟩ := hq
  have hE2 : ∀ j, ¬ (j = 82 ∨ j = 94 ∨ j = 95 ∨ j = 96 ∨ j = 97 ∨ j = 98 ∨ j = 99 ∨ j = 101 ∨ j = 84 ∨ j = 83) → F1 j = F j := by
    intro j h9
    by_cases h8 : j = 100 ∨ j = 93 ∨ j = 91
    · rcases h8 with h8 | h8 | h8
      · rw [h8]; exact q8.trans (j8).symm
      · rw [h8]; exact q9.trans (j1).symm
      · rw [h8]; exact q12.trans (mf1).symm
    · exact hE j (by simp only [List.mem_cons, List.not_mem_nil, or_false]; omega)
  refine kk H1 locs1 F1 (fun j hj => hE2 j (by omega)) ⟨⟨_, _, _, _, _, _, q0⟩, ⟨_, _, _, _, _, _, _, _, ((hE2 (93) (by omega)).trans j1), q1, q2, q3, q4, q5, q6, ((hE2 (100) (by omega)).trans j8), q7, ((hE2 (102) (by omega)).trans j10)⟩, ⟨_, _, q11, q10, ?_⟩, ⟨_, _, _, _, _, _, mdo, ((hE2 (85) (by omega)).trans t1), ((hE2 (86) (by omega)).trans t2), ((hE2 (87) (by omega)).trans t3), ((hE2 (88) (by omega)).trans t4), ((hE2 (89) (by omega)).trans t5), ((hE2 (90) (by omega)).trans t6), ?_⟩, ⟨_, ((hE2 (91) (by omega)).trans mf1), ?_⟩, ⟨_, ((hE2 (92) (by omega)).trans mp1), ?_⟩⟩ hW1
  · refine rg_up mr3 hN hr (fun x hx => apG_out (by omega)) (ap_lo0 (fun i hi => ?_))
    have e1 : rtN stA (nI (0)) (fun k => mf ((0 + 1024 * 0) + k)) 0 (tT fn0 0 (chks fn0)) = rtN stA (nI (0)) (fun k => lo8 ff (0 + k)) 0 fn0 := by
      rw [root_T]
      exact rtN_congr (fun k hk => by
        show mf (0 + 1024 * 0 + k) = lo8 ff (0 + k)
        rw [Nat.mul_zero, Nat.zero_add]
        exact mf2 k hk)
    rw [lo_b8, e1, rt_or (Or.inl rfl)]
    show _ = oby _ _ &&& 255
    rw [oby_255, Nat.zero_add, Nat.div_eq_of_lt (show i < 2 ^ 6 by omega), Nat.mod_eq_of_lt (show i < 2 ^ 6 by omega)]
  · exact t7
  · exact mf2
  · exact mp2
set_option maxHeartbeats 4000000 in
theorem m_check_0 (r0 : Int32) (X : LC p m c s D cy t A b L xs) (hJ : INVm F cy z cnt f fn0 ff pn pf md K g nt) (hN : INVs cnt fn0 pn md nt) (hW : Wd D A s (LW F) H locs) (hsz : ls.size = 4) (hf : cells ≤ 600000 ∧ slots ≤ 7302250) {r : Nat} (hr : r < 8) (n : Nat) (c0 : Nat) (y_hc : (cnt r) ≤ 200) (y_hn1 : n ≤ 1000000) (y_hc0 : c0 < chks n) (y_h32 : (cnt r) = 32) (y_hne2 : ∀ L, wyL c0 (chks n) L → pn ≠ cln n c0 + L * 32)
    (kk : ∀ (H1 : Heap) (locs1 : List Loc) (F1 : Nat → cellT), (∀ j, j < 82 → F1 j = F j) → INVm F1 cy z cnt f fn0 ff pn pf md K g nt → Wd D A s (LW F1) H1 locs1 → W p l e room_1 s m #[Value.ref b] below meth c H1 locs1 cells slots Q (F0 m 863 ls (.int (nI (0)) :: [.int r0]))) : W p l e room_1 s m #[Value.ref b] below meth c H locs cells slots Q (F0 m 860 ls [.int (nI (c0)), .int (nI (n)), .int (nI (r)), .ref (z 0), .int r0]) := by
  obtain ⟨⟨be, nu, bq, fg, hg, cz, mo⟩, ⟨ke, cn, bb, vv, ww, oo, pp, il, j1, j2, j3, j4, j5, j6, j7, j8, j9, j10⟩, ⟨mr, ms, mr1, mr2, mr3⟩, ⟨mt, mcn, mmd, mk, mh, mdn, mdo, t1, t2, t3, t4, t5, t6, t7⟩, ⟨mf, mf1, mf2⟩, ⟨mp, mp1, mp2⟩⟩ := hJ
  refine kL (As := [.int (nI (r)), .int (nI (n)), .int (nI (c0))]) (rest := [.int r0]) X hW [82, 84, 83, 102] (fun sz => c_X5_check_0 l D cy t (z 0) (z 1) (z 2) (z 3) (z 4) (z 5) (z 6) (z 7) (z 8) (z 9) fn0 (z 10) pn (z 11) (z 12) be (z 13) (z 14) (z 15) (z 16) (z 17) (z 18) nu bq fg (z 19) hg cz (z 20) ms mr r (cnt r) n c0 il hr ((mr3 r hr).1) y_hc y_hn1 y_hc0 y_h32 (fun L hL => by have := y_hne2 L hL; omega) (Nat.le_trans hN.2.2.1 (by decide)) sz) rfl (And.intro mo (And.intro mr2 (And.intro mr1 (And.intro j10 True.intro)))) (by decide) (by decide) (cwV 3 X.1.2.2.2.2 gL_law_X5_check rfl rfl rfl (by decide +kernel) ⟨Nat.le_of_ble_eq_true rfl, Nat.le_of_ble_eq_true rfl⟩) (fun _ => rfl) 0 5 rfl rfl rfl hsz rfl (Nat.le_of_ble_eq_true rfl) dL_law_860 hf (fun r9 u9 H1 locs1 F1 hp hE hq hW1 => ?_)
  obtain ⟨il2_, rfl⟩ : ∃ q, q = u9 := ⟨_, rfl⟩
  have hr9 := hp
  replace hr9 : r9 = nI (0) := hr9
  subst hr9
  obtain ⟨q0, q1, q2, q3, -⟩ := hq
  have hE2 : ∀ j, ¬ (j = 102) → F1 j = F j := by
    intro j h9
    by_cases h8 : j = 82 ∨ j = 84 ∨ j = 83
    · rcases h8 with h8 | h8 | h8
      · rw [h8]; exact q0.trans (mo).symm
      · rw [h8]; exact q1.trans (mr2).symm
      · rw [h8]; exact q2.trans (mr1).symm
    · exact hE j (by simp only [List.mem_cons, List.not_mem_nil, or_false]; omega)
  refine kk H1 locs1 F1 (fun j hj => hE2 j (by omega)) ⟨⟨_, _, _, _, _, _, ((hE2 (82) (by omega)).trans mo)⟩, ⟨_, _, _, _, _, _, _, _, ((hE2 (93) (by omega)).trans j1), ((hE2 (94) (by omega)).trans j2), ((hE2 (95) (by omega)).trans j3), ((hE2 (96) (by omega)).trans j4), ((hE2 (97) (by omega)).trans j5), ((hE2 (98) (by omega)).trans j6), ((hE2 (99) (by omega)).trans j7), ((hE2 (100) (by omega)).trans j8), ((hE2 (101) (by omega)).trans j9), q3⟩, ⟨_, _, ((hE2 (83) (by omega)).trans mr1), ((hE2 (84) (by omega)).trans mr2), ?_⟩, ⟨_, _, _, _, _, _, mdo, ((hE2 (85) (by omega)).trans t1), ((hE2 (86) (by omega)).trans t2), ((hE2 (87) (by omega)).trans t3), ((hE2 (88) (by omega)).trans t4), ((hE2 (89) (by omega)).trans t5), ((hE2 (90) (by omega)).trans t6), ?_⟩, ⟨_, ((hE2 (91) (by omega)).trans mf1), ?_⟩, ⟨_, ((hE2 (92) (by omega)).trans mp1), ?_⟩⟩ hW1
  · exact mr3
  · exact t7
  · exact mf2
  · exact mp2
set_option maxHeartbeats 4000000 in
theorem m_check (r0 : Int32) (X : LC p m c s D cy t A b L xs) (hJ : INVm F cy z cnt f fn0 ff pn pf md K g nt) (hN : INVs cnt fn0 pn md nt) (hW : Wd D A s (LW F) H locs) (hsz : ls.size = 4) (hf : cells ≤ 600000 ∧ slots ≤ 7302250) {r : Nat} (hr : r < 8) (n : Nat) (c0 : Nat) (L0 : Nat) (y_hc : (cnt r) ≤ 200) (y_hn1 : n ≤ 1000000) (y_hc0 : c0 < chks n) (y_h32 : (cnt r) = 32) (y_hL : wyL c0 (chks n) L0) (y_hpl : pn = cln n c0 + L0 * 32)
    (kk : ∀ (H1 : Heap) (locs1 : List Loc) (F1 : Nat → cellT), ∀ (r9 : Int32), ((r9 = 1 ∧ ∀ k, k < 32 → oby (mixV (clb (wyF c0 (chks n)) c0 (fun L k => wrd (lo8 pf) ((cln n c0 + (L * 32)) + 4 * k)) L0 (rtN stA (nI (0)) (fun k => lo8 pf (0 + k)) c0 (cln n c0))).1 (clb (wyF c0 (chks n)) c0 (fun L k => wrd (lo8 pf) ((cln n c0 + (L * 32)) + 4 * k)) L0 (rtN stA (nI (0)) (fun k => lo8 pf (0 + k)) c0 (cln n c0))).2.1 (clb (wyF c0 (chks n)) c0 (fun L k => wrd (lo8 pf) ((cln n c0 + (L * 32)) + 4 * k)) L0 (rtN stA (nI (0)) (fun k => lo8 pf (0 + k)) c0 (cln n c0))).2.2.1 (clb (wyF c0 (chks n)) c0 (fun L k => wrd (lo8 pf) ((cln n c0 + (L * 32)) + 4 * k)) L0 (rtN stA (nI (0)) (fun k => lo8 pf (0 + k)) c0 (cln n c0))).2.2.2.1 ((clb (wyF c0 (chks n)) c0 (fun L k => wrd (lo8 pf) ((cln n c0 + (L * 32)) + 4 * k)) L0 (rtN stA (nI (0)) (fun k => lo8 pf (0 + k)) c0 (cln n c0))).2.2.2.2 ||| (nI (8)))) k = f r k &&& 255) ∨ (r9 = 0 ∧ ∃ k, k < 32 ∧ oby (mixV (clb (wyF c0 (chks n)) c0 (fun L k => wrd (lo8 pf) ((cln n c0 + (L * 32)) + 4 * k)) L0 (rtN stA (nI (0)) (fun k => lo8 pf (0 + k)) c0 (cln n c0))).1 (clb (wyF c0 (chks n)) c0 (fun L k => wrd (lo8 pf) ((cln n c0 + (L * 32)) + 4 * k)) L0 (rtN stA (nI (0)) (fun k => lo8 pf (0 + k)) c0 (cln n c0))).2.1 (clb (wyF c0 (chks n)) c0 (fun L k => wrd (lo8 pf) ((cln n c0 + (L * 32)) + 4 * k)) L0 (rtN stA (nI (0)) (fun k => lo8 pf (0 + k)) c0 (cln n c0))).2.2.1 (clb (wyF c0 (chks n)) c0 (fun L k => wrd (lo8 pf) ((cln n c0 + (L * 32)) + 4 * k)) L0 (rtN stA (nI (0)) (fun k => lo8 pf (0 + k)) c0 (cln n c0))).2.2.2.1 ((clb (wyF c0 (chks n)) c0 (fun L k => wrd (lo8 pf) ((cln n c0 + (L * 32)) + 4 * k)) L0 (rtN stA (nI (0)) (fun k => lo8 pf (0 + k)) c0 (cln n c0))).2.2.2.2 ||| (nI (8)))) k ≠ f r k &&& 255)) → (∀ j, j < 82 → F1 j = F j) → INVm F1 cy z cnt f fn0 ff pn pf md K g nt → Wd D A s (LW F1) H1 locs1 → W p l e room_1 s m #[Value.ref b] below meth c H1 locs1 cells slots Q (F0 m 863 ls (.int (r9) :: [.int r0]))) : W p l e room_1 s m #[Value.ref b] below meth c H locs cells slots Q (F0 m 860 ls [.int (nI (c0)), .int (nI (n)), .int (nI (r)), .ref (z 0), .int r0]) := by
  obtain ⟨⟨be, nu, bq, fg, hg, cz, mo⟩, ⟨ke, cn, bb, vv, ww, oo, pp, il, j1, j2, j3, j4, j5, j6, j7, j8, j9, j10⟩, ⟨mr, ms, mr1, mr2, mr3⟩, ⟨mt, mcn, mmd, mk, mh, mdn, mdo, t1, t2, t3, t4, t5, t6, t7⟩, ⟨mf, mf1, mf2⟩, ⟨mp, mp1, mp2⟩⟩ := hJ
  refine kL (As := [.int (nI (r)), .int (nI (n)), .int (nI (c0))]) (rest := [.int r0]) X hW [82, 84, 83, 102, 92, 94, 95, 96, 97, 98, 99, 100, 93] (fun sz => c_X5_check l D cy t (z 0) (z 1) (z 2) (z 3) (z 4) (z 5) (z 6) (z 7) (z 8) (z 9) fn0 (z 10) pn (z 11) (z 12) be (z 13) (z 14) (z 15) (z 16) (z 17) (z 18) nu bq fg (z 19) hg cz (z 20) ms mr r (cnt r) n c0 il mp ke cn bb vv ww oo L0 hr ((mr3 r hr).1) y_hc y_hn1 y_hc0 y_h32 y_hL (by omega) (Nat.le_trans hN.2.2.1 (by decide)) sz) rfl (And.intro mo (And.intro mr2 (And.intro mr1 (And.intro j10 (And.intro mp1 (And.intro j2 (And.intro j3 (And.intro j4 (And.intro j5 (And.intro j6 (And.intro j7 (And.intro j8 (And.intro j1 True.intro))))))))))))) (by decide) (by decide) (cwV 3 X.1.2.2.2.2 gL_law_X5_check rfl rfl rfl (by decide +kernel) ⟨Nat.le_of_ble_eq_true rfl, Nat.le_of_ble_eq_true rfl⟩) (fun ⟨_, _, _⟩ => rfl) 0 5 rfl rfl rfl hsz rfl (Nat.le_of_ble_eq_true rfl) dL_law_860 hf (fun r9 u9 H1 locs1 F1 hp hE hq hW1 => ?_)
  obtain ⟨il2_, ww2_, oo2_⟩ := u9
  obtain ⟨q0, q1, q2, q3, q4, q5, q6, q7, q8, q9, q10, q11, q12, -⟩ := hq
  have hE2 : ∀ j, ¬ (j = 82 ∨ j = 102 ∨ j = 94 ∨ j = 95 ∨ j = 96 ∨ j = 97 ∨ j = 98 ∨ j = 99) → F1 j = F j := by
    intro j h9
    by_cases h8 : j = 84 ∨ j = 83 ∨ j = 92 ∨ j = 100 ∨ j = 93
    · rcases h8 with h8 | h8 | h8 | h8 | h8
      · rw [h8]; exact q1.trans (mr2).symm
      · rw [h8]; exact q2.trans (mr1).symm
      · rw [h8]; exact q4.trans (mp1).symm
      · rw [h8]; exact q11.trans (j8).symm
      · rw [h8]; exact q12.trans (j1).symm
    · exact hE j (by simp only [List.mem_cons, List.not_mem_nil, or_false]; omega)
  have hp2 : (r9 = 1 ∧ ∀ k, k < 32 → oby (mixV (clb (wyF c0 (chks n)) c0 (fun L k => wrd (lo8 pf) ((cln n c0 + (L * 32)) + 4 * k)) L0 (rtN stA (nI (0)) (fun k => lo8 pf (0 + k)) c0 (cln n c0))).1 (clb (wyF c0 (chks n)) c0 (fun L k => wrd (lo8 pf) ((cln n c0 + (L * 32)) + 4 * k)) L0 (rtN stA (nI (0)) (fun k => lo8 pf (0 + k)) c0 (cln n c0))).2.1 (clb (wyF c0 (chks n)) c0 (fun L k => wrd (lo8 pf) ((cln n c0 + (L * 32)) + 4 * k)) L0 (rtN stA (nI (0)) (fun k => lo8 pf (0 + k)) c0 (cln n c0))).2.2.1 (clb (wyF c0 (chks n)) c0 (fun L k => wrd (lo8 pf) ((cln n c0 + (L * 32)) + 4 * k)) L0 (rtN stA (nI (0)) (fun k => lo8 pf (0 + k)) c0 (cln n c0))).2.2.2.1 ((clb (wyF c0 (chks n)) c0 (fun L k => wrd (lo8 pf) ((cln n c0 + (L * 32)) + 4 * k)) L0 (rtN stA (nI (0)) (fun k => lo8 pf (0 + k)) c0 (cln n c0))).2.2.2.2 ||| (nI (8)))) k = f r k &&& 255) ∨ (r9 = 0 ∧ ∃ k, k < 32 ∧ oby (mixV (clb (wyF c0 (chks n)) c0 (fun L k => wrd (lo8 pf) ((cln n c0 + (L * 32)) + 4 * k)) L0 (rtN stA (nI (0)) (fun k => lo8 pf (0 + k)) c0 (cln n c0))).1 (clb (wyF c0 (chks n)) c0 (fun L k => wrd (lo8 pf) ((cln n c0 + (L * 32)) + 4 * k)) L0 (rtN stA (nI (0)) (fun k => lo8 pf (0 + k)) c0 (cln n c0))).2.1 (clb (wyF c0 (chks n)) c0 (fun L k => wrd (lo8 pf) ((cln n c0 + (L * 32)) + 4 * k)) L0 (rtN stA (nI (0)) (fun k => lo8 pf (0 + k)) c0 (cln n c0))).2.2.1 (clb (wyF c0 (chks n)) c0 (fun L k => wrd (lo8 pf) ((cln n c0 + (L * 32)) + 4 * k)) L0 (rtN stA (nI (0)) (fun k => lo8 pf (0 + k)) c0 (cln n c0))).2.2.2.1 ((clb (wyF c0 (chks n)) c0 (fun L k => wrd (lo8 pf) ((cln n c0 + (L * 32)) + 4 * k)) L0 (rtN stA (nI (0)) (fun k => lo8 pf (0 + k)) c0 (cln n c0))).2.2.2.2 ||| (nI (8)))) k ≠ f r k &&& 255) := by
    have eV := chk_V (pf := pf) y_hc0 y_hL (fun k hk => mp2 k (by omega))
    have e32 : ∀ k, k < 32 → mr (200 * r + k) = f r k &&& 255 := fun k hk => (mr3 r hr).2 k (by omega)
    rcases hp with ⟨h1, h2⟩ | ⟨h1, k, h2, h3⟩
    · refine Or.inl ⟨h1, fun k hk => ?_⟩
      rw [← eV, ← h2 k hk, e32 k hk]
    · refine Or.inr ⟨h1, k, h2, fun h4 => h3 ?_⟩
      rw [e32 k h2, ← h4, ← eV]
  refine kk H1 locs1 F1 r9 hp2 (fun j hj => hE2 j (by omega)) ⟨⟨_, _, _, _, _, _, q0⟩, ⟨_, _, _, _, _, _, _, _, ((hE2 (93) (by omega)).trans j1), q5, q6, q7, q8, q9, q10, ((hE2 (100) (by omega)).trans j8), ((hE2 (101) (by omega)).trans j9), q3⟩, ⟨_, _, ((hE2 (83) (by omega)).trans mr1), ((hE2 (84) (by omega)).trans mr2), ?_⟩, ⟨_, _, _, _, _, _, mdo, ((hE2 (85) (by omega)).trans t1), ((hE2 (86) (by omega)).trans t2), ((hE2 (87) (by omega)).trans t3), ((hE2 (88) (by omega)).trans t4), ((hE2 (89) (by omega)).trans t5), ((hE2 (90) (by omega)).trans t6), ?_⟩, ⟨_, ((hE2 (91) (by omega)).trans mf1), ?_⟩, ⟨_, ((hE2 (92) (by omega)).trans mp1), ?_⟩⟩ hW1
  · exact mr3
  · exact t7
  · exact mf2
  · exact mp2
set_option maxHeartbeats 4000000 in
theorem m_prove (r0 : Int32) (X : LC p m c s D cy t A b L xs) (hJ : INVm F cy z cnt f fn0 ff pn pf md K g nt) (hN : INVs cnt fn0 pn md nt) (hW : Wd D A s (LW F) H locs) (hsz : ls.size = 4) (hf : cells ≤ 600000 ∧ slots ≤ 7302250)  (c0 : Nat) (y_hc0 : c0 < chks fn0) (lv9 : Nat) (pf9 : Nat → Int32) (pw : wyL c0 (chks fn0) lv9) (pa : ∀ k, k < cln fn0 c0 → pf9 k = b8 (ff (c0 * 1024 + k) &&& 255)) (pb : ∀ i, i < lv9 → ∀ k, k < 32 → pf9 (cln fn0 c0 + 32 * i + k) = b8 (wby (mx (rtN stA (nI 0) (fun k => lo8 ff (wyF c0 (chks fn0) i * 1024 + k)) (wyF c0 (chks fn0) i) (oln fn0 (wyF c0 (chks fn0) i) (wyC c0 (chks fn0) i)))) k))
    (kk : ∀ (H1 : Heap) (locs1 : List Loc) (F1 : Nat → cellT), (∀ j, j < 82 → F1 j = F j) → INVm F1 cy z cnt f fn0 ff (cln fn0 c0 + 32 * lv9) pf9 md K g nt → Wd D A s (LW F1) H1 locs1 → W p l e room_1 s m #[Value.ref b] below meth c H1 locs1 cells slots Q (F0 m 741 ls (.int (nI (cln fn0 c0 + 32 * lv9)) :: [.int r0]))) : W p l e room_1 s m #[Value.ref b] below meth c H locs cells slots Q (F0 m 738 ls [.int (nI (c0)), .ref (z 0), .int r0]) := by
  obtain ⟨⟨be, nu, bq, fg, hg, cz, mo⟩, ⟨ke, cn, bb, vv, ww, oo, pp, il, j1, j2, j3, j4, j5, j6, j7, j8, j9, j10⟩, ⟨mr, ms, mr1, mr2, mr3⟩, ⟨mt, mcn, mmd, mk, mh, mdn, mdo, t1, t2, t3, t4, t5, t6, t7⟩, ⟨mf, mf1, mf2⟩, ⟨mp, mp1, mp2⟩⟩ := hJ
  refine kL (As := [.int (nI (c0))]) (rest := [.int r0]) X hW [82, 94, 95, 96, 97, 98, 99, 101, 100, 93, 91, 92] (fun sz => c_X5_prove l D cy t (z 0) (z 1) (z 2) (z 3) (z 4) (z 5) (z 6) (z 7) (z 8) (z 9) fn0 (z 10) pn (z 11) (z 12) be (z 13) (z 14) (z 15) (z 16) (z 17) (z 18) nu bq fg (z 19) hg cz (z 20) ke cn bb vv ww oo pp mf mp c0 hN.2.1 y_hc0 sz) rfl (And.intro mo (And.intro j2 (And.intro j3 (And.intro j4 (And.intro j5 (And.intro j6 (And.intro j7 (And.intro j9 (And.intro j8 (And.intro j1 (And.intro mf1 (And.intro mp1 True.intro)))))))))))) (by decide) (by decide) (cwV 1 X.1.2.2.2.2 gL_law_X5_prove rfl rfl rfl (by decide +kernel) ⟨Nat.le_of_ble_eq_true rfl, Nat.le_of_ble_eq_true rfl⟩) (fun ⟨_, _, _, _, _, _, _, _, _, _, _, _, _⟩ => rfl) 0 5 rfl rfl rfl hsz rfl (Nat.le_of_ble_eq_true rfl) dL_law_738 hf (fun r9 u9 H1 locs1 F1 hp hE hq hW1 => ?_)
  obtain ⟨lv2_, mp2_, cn2_, bb2_, vv2_, ww2_, oo2_, nu2_, bq2_, fg2_, pp2_, hg2_, cz2_⟩ := u9
  obtain ⟨hr9, qw, qa, qb⟩ := hp
  obtain ⟨q0, q1, q2, q3, q4, q5, q6, q7, q8, q9, q10, q11, -⟩ := hq
  have hE2 : ∀ j, ¬ (j = 82 ∨ j = 94 ∨ j = 95 ∨ j = 96 ∨ j = 97 ∨ j = 98 ∨ j = 99 ∨ j = 101 ∨ j = 92) → F1 j = F j := by
    intro j h9
    by_cases h8 : j = 100 ∨ j = 93 ∨ j = 91
    · rcases h8 with h8 | h8 | h8
      · rw [h8]; exact q8.trans (j8).symm
      · rw [h8]; exact q9.trans (j1).symm
      · rw [h8]; exact q10.trans (mf1).symm
    · exact hE j (by simp only [List.mem_cons, List.not_mem_nil, or_false]; omega)
  have eL := wyL_one qw pw
  subst eL
  subst hr9
  refine kk H1 locs1 F1 (fun j hj => hE2 j (by omega)) ⟨⟨_, _, _, _, _, _, q0⟩, ⟨_, _, _, _, _, _, _, _, ((hE2 (93) (by omega)).trans j1), q1, q2, q3, q4, q5, q6, ((hE2 (100) (by omega)).trans j8), q7, ((hE2 (102) (by omega)).trans j10)⟩, ⟨_, _, ((hE2 (83) (by omega)).trans mr1), ((hE2 (84) (by omega)).trans mr2), ?_⟩, ⟨_, _, _, _, _, _, mdo, ((hE2 (85) (by omega)).trans t1), ((hE2 (86) (by omega)).trans t2), ((hE2 (87) (by omega)).trans t3), ((hE2 (88) (by omega)).trans t4), ((hE2 (89) (by omega)).trans t5), ((hE2 (90) (by omega)).trans t6), ?_⟩, ⟨_, ((hE2 (91) (by omega)).trans mf1), ?_⟩, ⟨_, q11, ?_⟩⟩ hW1
  · exact mr3
  · exact t7
  · exact mf2
  · intro k hk
    show _ = pf9 k &&& 255
    by_cases e1 : k < cln fn0 c0
    · rw [qa k e1, pa k e1, lo_b8, and255_2, mf2 _ (by have := cln_n y_hc0; omega), Nat.mul_comm 1024 c0]
      rfl
    · obtain ⟨i, j, hj, ei⟩ : ∃ i j, j < 32 ∧ k = cln fn0 c0 + 32 * i + j := ⟨(k - cln fn0 c0) / 32, (k - cln fn0 c0) % 32, Nat.mod_lt _ (by decide), by omega⟩
      subst ei
      have hi : i < lv2_ := by omega
      obtain ⟨w1, w2, -⟩ := wy_other y_hc0 pw hi
      rw [qb i hi j hj, pb i hi j hj, lo_b8, tT_oln w1 w2]
      have e2 : rtN stA (nI 0) (fun k => mf ((0 + 1024 * (wyF c0 (chks fn0) i)) + k)) (wyF c0 (chks fn0) i) (oln fn0 (wyF c0 (chks fn0) i) (wyC c0 (chks fn0) i)) = rtN stA (nI 0) (fun k => lo8 ff (wyF c0 (chks fn0) i * 1024 + k)) (wyF c0 (chks fn0) i) (oln fn0 (wyF c0 (chks fn0) i) (wyC c0 (chks fn0) i)) := by
        refine rtN_congr (fun k hk => ?_)
        show mf (0 + 1024 * wyF c0 (chks fn0) i + k) = lo8 ff (wyF c0 (chks fn0) i * 1024 + k)
        have h3 := (oln_le (many := wyC c0 (chks fn0) i) (first_le w1 w2)).1
        rw [Nat.zero_add, Nat.mul_comm 1024]
        exact mf2 _ (by omega)
      rw [e2]
      rfl
end ROW69b
