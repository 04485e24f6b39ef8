def LC (p : Program) (m : MethodId) (c : Code) (s : State) (D : va_G) (cy : Nat → ClassId) (t : Nat × Nat) (A : Nat → Prop) (b L : Nat) (xs : Nat → Int32) : Prop := CallFix p m c cL_law 4 s #[Value.ref b] wsL_law RL ∧ va_K D vwCl (TYS cy) s ∧ Stat t A s s.heap ∧ (∀ q, s.heap.size ≤ q → A q) ∧ va_X b L xs s s.heap ∧ b < s.heap.size ∧ ¬ A b ∧ L ≤ 3072
/-- the cells at these places -/
def eqsW (F : Nat → cellT) : List Nat → va_W → Prop
  | i :: is, x :: xs => F i = x ∧ eqsW F is xs
  | _, _ => True
theorem upcs_ne : ∀ (is : List Nat) (xs : va_W) (F : Nat → cellT) (j : Nat), j ∉ is → upcs F is xs j = F j
  | [], xs, F, j, _ => by cases xs <;> rfl
  | i :: is, [], F, j, _ => rfl
  | i :: is, x :: xs, F, j, h => by
    have h2 : j ≠ i := fun q => h (by rw [q]; exact List.mem_cons_self)
    have h3 : j ∉ is := fun q => h (List.mem_cons_of_mem _ q)
    show upcs (upc F i x) is xs j = F j
    rw [upcs_ne is xs _ j h3, upc_ne h2]
theorem upcs_eqs : ∀ (is : List Nat) (xs : va_W) (F : Nat → cellT), is.Nodup → eqsW (upcs F is xs) is xs
  | [], xs, F, _ => by cases xs <;> exact trivial
  | i :: is, [], F, _ => trivial
  | i :: is, x :: xs, F, h => by
    have h2 := List.nodup_cons.mp h
    exact ⟨by rw [show upcs F (i :: is) (x :: xs) = upcs (upc F i x) is xs from rfl, upcs_ne is xs _ i h2.1, upc_eq], upcs_eqs is xs (upc F i x) h2.2⟩
theorem map_eqs : ∀ (is : List Nat) (xs : va_W) (F : Nat → cellT), is.length = xs.length → eqsW F is xs → is.map F = xs
  | [], [], F, _, _ => rfl
  | i :: is, x :: xs, F, hl, h => by
    show F i :: is.map F = x :: xs
    rw [h.1, map_eqs is xs F (by simpa using hl) h.2]
theorem same_eqs : ∀ (is : List Nat) (xs : va_W) (F F1 : Nat → cellT), is.length = xs.length → eqsW F is xs → eqsW F1 is xs → ∀ j, j ∈ is → F1 j = F j
  | [], [], F, F1, _, _, _, j, hj => absurd hj List.not_mem_nil
  | i :: is, x :: xs, F, F1, hl, h, h1, j, hj => by
    rcases List.mem_cons.mp hj with e | hj
    · rw [e, h.1, h1.1]
    · exact same_eqs is xs F F1 (by simpa using hl) h.2 h1.2 j hj
theorem same_F {is : List Nat} {xs : va_W} {F F1 : Nat → cellT} (h1 : eqsW F1 is xs) (hE : ∀ j, j ∉ is → F1 j = F j) (hl : is.length = xs.length) (h : eqsW F is xs) : F1 = F := by
  funext j
  by_cases hj : j ∈ is
  · exact same_eqs is xs F F1 hl h h1 j hj
  · exact hE j hj
section LAWB
variable {p : Program} {l : Launch} {e : Env} {s : State} {m : MethodId} {below : List Frame} {meth : Method} {c : Code} {H : Heap} {locs : List Loc} {cells slots : Nat} {Q : State → Prop}
variable {y : MethodName} {bytes : ByteArray} {maxL mc ms n index pc b0 L : Nat} {xs : Nat → Int32} {ret : Option FieldType} {wy : List Cond} {rm : Room} {C : String} {b : Addr} {As rest st : List Value} {ls : Array Slot} {D : va_G} {cy : Nat → ClassId} {t : Nat × Nat} {A : Nat → Prop} {F : Nat → cellT} {wc : va_W}
/-- a call over the law's world -/
theorem kL {S : Type} {post : Int32 → S → Prop} {w1 : S → va_W} (X : LC p m c s D cy t A b0 L xs) (hW : Wd D A s (LW F) H locs) (is : List Nat) (hM : ∀ sz, Met l y wy rm (PcW D cy t wc (.ref b :: As) sz) (QiA D cy post w1 (va_A wc sz)) mc ms (va_A wc sz)) (hlen : is.length = wc.length) (e1 : eqsW F is wc) (hlt : ∀ i ∈ is, i < 103) (hnd : is.Nodup) (cw : CallW room_1 s #[Value.ref b0] RL C index y bytes maxL ret wy rm mc ms n) (hl : ∀ u, (w1 u).length = is.length)
    (k0 ci : Nat) {fs : List Value} {T : u_T} {N : Nat} (he : wc[k0]? = some (b, .inr (ci, fs))) (hc : vwCl[ci]? = some (C, T, N)) (hn : As.length = n) (hsize : ls.size = 4) (hst0 : st = As.reverse ++ .ref b :: rest) (hroom : (rest.map fun v => v.category).sum ≤ 8) (hdg : decode cL_law pc = .ok (.invokevirtual index, 3)) (hf : cells + mc ≤ room_1.cells ∧ slots + ms ≤ room_1.slots)
    (kk : ∀ (r : Int32) (u : S) (H1 : Heap) (locs1 : List Loc) (F1 : Nat → cellT), post r u → (∀ j, j ∉ is → F1 j = F j) → eqsW F1 is (w1 u) → Wd D A s (LW F1) H1 locs1 → W p l e room_1 s m #[Value.ref b0] below meth c H1 locs1 (cells + mc) (slots + ms) Q (F0 m (pc + 3) ls (.int r :: rest))) : W p l e room_1 s m #[Value.ref b0] below meth c H locs cells slots Q (F0 m pc ls st) := by
  obtain ⟨S0, hK, hst, hA, -⟩ := X
  exact kVi S0 hK hst hA hW is hM (LW_hC (map_eqs is wc F hlen e1) hlt) (nd_of_nodup is hnd) cw hl k0 ci he hc hn hsize hst0 hroom hdg hf (fun r u H1 locs1 hp hW1 => kk r u H1 locs1 (upcs F is (w1 u)) hp (upcs_ne is (w1 u) F) (upcs_eqs is (w1 u) F hnd) (by rw [LW_put is (w1 u) F hlt] at hW1; exact hW1))
/-- an int of the script -/
theorem rX {ws : va_W} {cc : ByteArray} {bb k : Nat} (hx : p.tables.exec = Jvm.exec) (hb : c.code = cc) (hX : va_X bb L xs s s.heap) (hbl : bb < s.heap.size) (hbA : ¬ A bb) (hW : Wd D A s ws H locs) (hk : k < L) (hL : L ≤ 3072) (hdg : decode cc pc = .ok (.iaload, 1)) {R : Room} {args : Array Value}
    (kk : W p l e R s m args below meth c H locs cells slots Q (F0 m (pc + 1) ls (.int (xs k) :: rest))) : W p l e R s m args below meth c H locs cells slots Q (F0 m pc ls (.int (nI k) :: .ref bb :: rest)) :=
  va_sld hx hb hX hbl hbA hW.2.2 (vp_in_nI hk (by omega)) hdg (by rw [nI_clamp (by omega)]; exact kk)
end LAWB
theorem cs_n (x : Int32) {n : Nat} (hn : n < 2 ^ 31) : (x < 0 ∨ nI n ≤ x) ∨ ∃ r : Nat, r < n ∧ x = nI r := by
  rcases pk_ix x hn with h | h | h
  · exact Or.inl (Or.inl h)
  · exact Or.inl (Or.inr h)
  · exact Or.inr h
theorem cs_le (x : Int32) {n : Nat} (hn : n < 2 ^ 31) : (x < 0 ∨ nI n < x) ∨ ∃ r : Nat, r ≤ n ∧ x = nI r := by
  by_cases h : x < 0
  · exact Or.inl (Or.inl h)
  · by_cases h2 : x ≤ nI n
    · obtain ⟨j, h3, h4⟩ := ix_le h h2 hn
      exact Or.inr ⟨j, h3, h4⟩
    · exact Or.inl (Or.inr (Int32.not_le.mp h2))
theorem cs_1 (x : Int32) {n : Nat} (hn : n < 2 ^ 31) : (x < nI 1 ∨ nI n < x) ∨ ∃ r : Nat, 1 ≤ r ∧ r ≤ n ∧ x = nI r := by
  rcases cs_le x hn with (h | h) | ⟨r, h1, rfl⟩
  · exact Or.inl (Or.inl (Int32.lt_trans h (by decide)))
  · exact Or.inl (Or.inr h)
  · by_cases h0 : r = 0
    · subst h0
      exact Or.inl (Or.inl (by decide))
    · exact Or.inr ⟨r, by omega, h1, rfl⟩
theorem upN1_eq {c : Nat → Nat} {r x : Nat} : upN1 c r x r = x := if_pos rfl
theorem upN1_ne {c : Nat → Nat} {r x j : Nat} (h : j ≠ r) : upN1 c r x j = c j := if_neg h
theorem upF1_eq {f : Nat → Nat → Int32} {r : Nat} {x : Nat → Int32} : upF1 f r x r = x := if_pos rfl
theorem upF1_ne {f : Nat → Nat → Int32} {r j : Nat} {x : Nat → Int32} (h : j ≠ r) : upF1 f r x j = f j := if_neg h
theorem upd_eq1 {f : Nat → Int32} {r : Nat} {x : Int32} : upd f r x r = x := if_pos rfl
theorem upd_ne1 {f : Nat → Int32} {r j : Nat} {x : Int32} (h : j ≠ r) : upd f r x j = f j := if_neg h
theorem gH_ag {F F1 : Nat → cellT} {cy : Nat → ClassId} {B : Nat} {Ad : Nat → Nat} {md bs : Int32} {fc tk cl dp bk ib : Nat} {kf sf cf bf ch bl v w nw : Nat → Int32} {ct : Int64} {ln fl : Int32} (h : gH F cy B Ad md bs fc tk cl dp bk ib kf sf cf bf ch bl v w nw ct ln fl) (hE : ∀ j, B ≤ j → j ≤ B + 10 → F1 j = F j) : gH F1 cy B Ad md bs fc tk cl dp bk ib kf sf cf bf ch bl v w nw ct ln fl := by
  obtain ⟨h0, h1, h2, h3, h4, h5, h6, h7, h8, h9, h10⟩ := h
  exact ⟨(hE _ (by omega) (by omega)).trans h0, (hE _ (by omega) (by omega)).trans h1, (hE _ (by omega) (by omega)).trans h2, (hE _ (by omega) (by omega)).trans h3, (hE _ (by omega) (by omega)).trans h4, (hE _ (by omega) (by omega)).trans h5, (hE _ (by omega) (by omega)).trans h6, (hE _ (by omega) (by omega)).trans h7, (hE _ (by omega) (by omega)).trans h8, (hE _ (by omega) (by omega)).trans h9, (hE _ (by omega) (by omega)).trans h10⟩
theorem wH_ag {F F1 : Nat → cellT} {cy : Nat → ClassId} {B h0 : Nat} (h : wH F cy B h0) (hE : ∀ j, B ≤ j → j ≤ B + 10 → F1 j = F j) : wH F1 cy B h0 := by
  obtain ⟨Ad, md, bs, fc, tk, cl, dp, bk, ib, kf, sf, cf, bf, ch, bl, v, w, nw, ct, ln, fl, e, q⟩ := h
  exact ⟨Ad, md, bs, fc, tk, cl, dp, bk, ib, kf, sf, cf, bf, ch, bl, v, w, nw, ct, ln, fl, e, gH_ag q hE⟩
theorem uH_ag {F F1 : Nat → cellT} {cy : Nat → ClassId} {B h0 : Nat} {md : Int32} {K g : Nat → Int32} {nt : Nat} (h : uH F cy B h0 md K g nt) (hE : ∀ j, B ≤ j → j ≤ B + 10 → F1 j = F j) : uH F1 cy B h0 md K g nt := by
  obtain ⟨Ad, sf, ch, bl, v, w, nw, ct, ln, fl, e, q, s⟩ := h
  exact ⟨Ad, sf, ch, bl, v, w, nw, ct, ln, fl, e, gH_ag q hE, s⟩
section AGS
variable {F F1 : Nat → cellT} {cy : Nat → ClassId} {a ra rb ha z cnt : Nat → Nat} {f : Nat → Nat → Int32} {fn0 : Nat} {ff : Nat → Int32} {pn : Nat} {pf : Nat → Int32} {md : Nat → Int32} {K g : Nat → Nat → Int32} {nt : Nat → Nat}
theorem INVx_ag (h : INVx F cy a ra rb ha cnt f fn0 ff pn pf md K g nt) (e : ∀ j, j < 82 → F1 j = F j) : INVx F1 cy a ra rb ha cnt f fn0 ff pn pf md K g nt := by
  obtain ⟨h0, h1, h2, ⟨h3, h4⟩, ⟨h5, h6⟩, h7, ⟨lv, of, oc, h8, h9, h10⟩, ⟨wd, h11⟩, h12, h13⟩ := h
  exact ⟨(e _ (by omega)).trans h0, (e _ (by omega)).trans h1, (e _ (by omega)).trans h2, ⟨(e _ (by omega)).trans h3, (e _ (by omega)).trans h4⟩, ⟨(e _ (by omega)).trans h5, (e _ (by omega)).trans h6⟩, wH_ag h7 (fun j _ _ => e j (by omega)), ⟨lv, of, oc, (e _ (by omega)).trans h8, (e _ (by omega)).trans h9, (e _ (by omega)).trans h10⟩, ⟨wd, (e _ (by omega)).trans h11⟩, fun r hr => ⟨(e _ (by omega)).trans (h12 r hr).1, (e _ (by omega)).trans (h12 r hr).2⟩, fun h hh => uH_ag (h13 h hh) (fun j _ _ => e j (by omega))⟩
theorem INVm_ag (h : INVm F cy z cnt f fn0 ff pn pf md K g nt) (e : ∀ j, 82 ≤ j → F1 j = F j) : INVm F1 cy z cnt f fn0 ff pn pf md K g nt := by
  obtain ⟨⟨be, nu, bq, fg, hg, cz, ho⟩, ⟨ke, cn, bb, vv, ww, oo, pp, il, j1, j2, j3, j4, j5, j6, j7, j8, j9, j10⟩, ⟨mr, ms, r1, r2, r3⟩, ⟨mt, mcn, mmd, mk, mh, mdn, mdo, t1, t2, t3, t4, t5, t6, t7⟩, ⟨mf, f1, f2⟩, ⟨mp, p1, p2⟩⟩ := h
  exact ⟨⟨be, nu, bq, fg, hg, cz, (e _ (by omega)).trans ho⟩, ⟨ke, cn, bb, vv, ww, oo, pp, il, (e _ (by omega)).trans j1, (e _ (by omega)).trans j2, (e _ (by omega)).trans j3, (e _ (by omega)).trans j4, (e _ (by omega)).trans j5, (e _ (by omega)).trans j6, (e _ (by omega)).trans j7, (e _ (by omega)).trans j8, (e _ (by omega)).trans j9, (e _ (by omega)).trans j10⟩, ⟨mr, ms, (e _ (by omega)).trans r1, (e _ (by omega)).trans r2, r3⟩, ⟨mt, mcn, mmd, mk, mh, mdn, mdo, (e _ (by omega)).trans t1, (e _ (by omega)).trans t2, (e _ (by omega)).trans t3, (e _ (by omega)).trans t4, (e _ (by omega)).trans t5, (e _ (by omega)).trans t6, t7⟩, ⟨mf, (e _ (by omega)).trans f1, f2⟩, ⟨mp, (e _ (by omega)).trans p1, p2⟩⟩
theorem gReg_up (h : gReg F cy ra rb cnt f) {r c2 : Nat} {f2 : Nat → Int32} (h1 : F1 (22 + 2 * r) = (ra r, .inr (0, [.ref (rb r), .int (nI c2)]))) (h2 : F1 (23 + 2 * r) = (rb r, .inl (cy 1, 200, .inl f2))) (hE : ∀ j, 22 ≤ j → j < 38 → j ≠ 22 + 2 * r → j ≠ 23 + 2 * r → F1 j = F j) : gReg F1 cy ra rb (upN1 cnt r c2) (upF1 f r f2) := by
  intro q hq
  by_cases e1 : q = r
  · subst e1
    rw [upN1_eq, upF1_eq]
    exact ⟨h1, h2⟩
  · rw [upN1_ne e1, upF1_ne e1]
    exact ⟨(hE _ (by omega) (by omega) (by omega) (by omega)).trans (h q hq).1, (hE _ (by omega) (by omega) (by omega) (by omega)).trans (h q hq).2⟩
theorem gReg_ag (h : gReg F cy ra rb cnt f) (hE : ∀ j, 22 ≤ j → j < 38 → F1 j = F j) : gReg F1 cy ra rb cnt f := fun q hq => ⟨(hE _ (by omega) (by omega)).trans (h q hq).1, (hE _ (by omega) (by omega)).trans (h q hq).2⟩
theorem uHs_up (h : ∀ q, q < 4 → uH F cy (38 + 11 * q) (ha q) (md q) (K q) (g q) (nt q)) {k nt2 : Nat} {md2 : Int32} {K2 g2 : Nat → Int32} (h1 : uH F1 cy (38 + 11 * k) (ha k) md2 K2 g2 nt2) (hE : ∀ j, 38 ≤ j → j < 82 → ¬ (38 + 11 * k ≤ j ∧ j ≤ 48 + 11 * k) → F1 j = F j) : ∀ q, q < 4 → uH F1 cy (38 + 11 * q) (ha q) (upd md k md2 q) (upF1 K k K2 q) (upF1 g k g2 q) (upN1 nt k nt2 q) := by
  intro q hq
  by_cases e1 : q = k
  · subst e1
    rw [upN1_eq, upF1_eq, upF1_eq, upd_eq1]
    exact h1
  · rw [upN1_ne e1, upF1_ne e1, upF1_ne e1, upd_ne1 e1]
    exact uH_ag (h q hq) (fun j h2 h3 => hE j (by omega) (by omega) (by omega))
theorem uHs_sm (h : ∀ q, q < 4 → uH F cy (38 + 11 * q) (ha q) (md q) (K q) (g q) (nt q)) {k : Nat} (h1 : uH F1 cy (38 + 11 * k) (ha k) (md k) (K k) (g k) (nt k)) (hE : ∀ j, 38 ≤ j → j < 82 → ¬ (38 + 11 * k ≤ j ∧ j ≤ 48 + 11 * k) → F1 j = F j) : ∀ q, q < 4 → uH F1 cy (38 + 11 * q) (ha q) (md q) (K q) (g q) (nt q) := by
  intro q hq
  by_cases e1 : q = k
  · subst e1
    exact h1
  · exact uH_ag (h q hq) (fun j h2 h3 => hE j (by omega) (by omega) (by omega))
theorem uHs_ag (h : ∀ q, q < 4 → uH F cy (38 + 11 * q) (ha q) (md q) (K q) (g q) (nt q)) (hE : ∀ j, 38 ≤ j → j < 82 → F1 j = F j) : ∀ q, q < 4 → uH F1 cy (38 + 11 * q) (ha q) (md q) (K q) (g q) (nt q) := fun q hq => uH_ag (h q hq) (fun j _ _ => hE j (by omega) (by omega))
theorem INVs_reg (h : INVs cnt fn0 pn md nt) {r c2 : Nat} (hc : c2 ≤ 200) : INVs (upN1 cnt r c2) fn0 pn md nt := by
  refine ⟨fun q hq => ?_, h.2⟩
  by_cases e : q = r
  · rw [e, upN1_eq]; exact hc
  · rw [upN1_ne e]; exact h.1 q hq
theorem INVs_file (h : INVs cnt fn0 pn md nt) {n : Nat} (hc : n ≤ 20000) : INVs cnt n pn md nt := ⟨h.1, hc, h.2.2⟩
theorem INVs_proof (h : INVs cnt fn0 pn md nt) {n : Nat} (hc : n ≤ 1184) : INVs cnt fn0 n md nt := ⟨h.1, h.2.1, hc, h.2.2.2⟩
theorem INVs_hash (h : INVs cnt fn0 pn md nt) {k nt2 : Nat} {md2 : Int32} (h1 : md2 = nI 0 ∨ md2 = nI 1 ∨ md2 = nI 2) (h2 : nt2 ≤ 40000) : INVs cnt fn0 pn (upd md k md2) (upN1 nt k nt2) := by
  refine ⟨h.1, h.2.1, h.2.2.1, fun q hq => ?_, fun q hq => ?_⟩
  · by_cases e : q = k
    · rw [e, upd_eq1]; exact h1
    · rw [upd_ne1 e]; exact h.2.2.2.1 q hq
  · by_cases e : q = k
    · rw [e, upN1_eq]; exact h2
    · rw [upN1_ne e]; exact h.2.2.2.2 q hq
end AGS
