/-- one hasher's eleven cells, from place B on; Ad: their addresses -/
def gH (F : Nat → cellT) (cy : Nat → ClassId) (B : Nat) (Ad : Nat → Nat) (md bs : Int32) (fc tk cl dp bk ib : Nat) (kf sf cf bf ch bl v w nw : Nat → Int32) (ct : Int64) (ln fl : Int32) : Prop :=
  F B = (Ad 0, .inr (1, [.ref (Ad 1), .ref (Ad 7), .ref (Ad 8), .ref (Ad 9), .ref (Ad 10), .int md, .int bs, .int (nI fc), .int (nI tk), .int (nI cl), .int (nI dp), .int (nI bk), .int (nI ib)])) ∧
  F (B + 1) = (Ad 1, .inr (2, [.ref (Ad 2), .ref (Ad 3), .long ct, .int ln, .int fl, .ref (Ad 4), .ref (Ad 5), .ref (Ad 6)])) ∧
  F (B + 2) = (Ad 2, .inl (cy 0, 8, .inl ch)) ∧ F (B + 3) = (Ad 3, .inl (cy 0, 16, .inl bl)) ∧ F (B + 4) = (Ad 4, .inl (cy 0, 16, .inl v)) ∧ F (B + 5) = (Ad 5, .inl (cy 0, 16, .inl w)) ∧ F (B + 6) = (Ad 6, .inl (cy 0, 16, .inl nw)) ∧
  F (B + 7) = (Ad 7, .inl (cy 0, 8, .inl kf)) ∧ F (B + 8) = (Ad 8, .inl (cy 0, 40, .inl sf)) ∧ F (B + 9) = (Ad 9, .inl (cy 0, 8, .inl cf)) ∧ F (B + 10) = (Ad 10, .inl (cy 0, 16, .inl bf))
/-- any hasher (the worker) -/
def wH (F : Nat → cellT) (cy : Nat → ClassId) (B h0 : Nat) : Prop := ∃ (Ad : Nat → Nat) (md bs : Int32) (fc tk cl dp bk ib : Nat) (kf sf cf bf ch bl v w nw : Nat → Int32) (ct : Int64) (ln fl : Int32), Ad 0 = h0 ∧ gH F cy B Ad md bs fc tk cl dp bk ib kf sf cf bf ch bl v w nw ct ln fl
/-- a hasher of mode md with key K that has taken the nt bytes g -/
def uH (F : Nat → cellT) (cy : Nat → ClassId) (B h0 : Nat) (md : Int32) (K g : Nat → Int32) (nt : Nat) : Prop := ∃ (Ad : Nat → Nat) (sf ch bl v w nw : Nat → Int32) (ct : Int64) (ln fl : Int32), Ad 0 = h0 ∧ gH F cy B Ad md (bsO md) 0 nt (clo nt) (hdp nt) (hbk nt) (hib nt) K sf (hcf K (bsO md) g 0 nt) (hbf g nt) ch bl v w nw ct ln fl ∧ SKr sf (skS K (bsO md) g 0 (clo nt)) (hdp nt)
def gReg (F : Nat → cellT) (cy : Nat → ClassId) (ra rb cnt : Nat → Nat) (f : Nat → Nat → Int32) : Prop := ∀ r, r < 8 → F (22 + 2 * r) = (ra r, .inr (0, [.ref (rb r), .int (nI (cnt r))])) ∧ F (23 + 2 * r) = (rb r, .inl (cy 1, 200, .inl (f r)))
/-- the class's cells; a: addresses of the object, its two rows, file, proof, worker, way, words -/
def INVx (F : Nat → cellT) (cy : Nat → ClassId) (a ra rb ha cnt : Nat → Nat) (f : Nat → Nat → Int32) (fn0 : Nat) (ff : Nat → Int32) (pn : Nat) (pf : Nat → Int32) (md : Nat → Int32) (K g : Nat → Nat → Int32) (nt : Nat → Nat) : Prop :=
  F 0 = (a 0, .inr (4, [.ref (a 1), .ref (a 2), .ref (a 3), .ref (a 5), .ref (a 7), .ref (a 8), .ref (a 11)])) ∧
  F 1 = (a 1, .inl (cy 3, 8, .inr (.inr (.inr (.inr (fun i => some (ra i))))))) ∧ F 2 = (a 2, .inl (cy 4, 4, .inr (.inr (.inr (.inr (fun i => some (ha i))))))) ∧
  (F 3 = (a 3, .inr (0, [.ref (a 4), .int (nI fn0)])) ∧ F 4 = (a 4, .inl (cy 1, 20000, .inl ff))) ∧ (F 5 = (a 5, .inr (0, [.ref (a 6), .int (nI pn)])) ∧ F 6 = (a 6, .inl (cy 1, 1184, .inl pf))) ∧
  wH F cy 7 (a 7) ∧ (∃ (lv : Nat) (of oc : Nat → Int32), F 18 = (a 8, .inr (3, [.ref (a 9), .ref (a 10), .int (nI lv)])) ∧ F 19 = (a 9, .inl (cy 0, 10, .inl of)) ∧ F 20 = (a 10, .inl (cy 0, 10, .inl oc))) ∧ (∃ wd : Nat → Int32, F 21 = (a 11, .inl (cy 0, 8, .inl wd))) ∧
  gReg F cy ra rb cnt f ∧ ∀ h, h < 4 → uH F cy (38 + 11 * h) (ha h) (md h) (K h) (g h) (nt h)
/-- bounds of the state itself -/
def INVs (cnt : Nat → Nat) (fn0 pn : Nat) (md : Nat → Int32) (nt : Nat → Nat) : Prop := (∀ r, r < 8 → cnt r ≤ 200) ∧ fn0 ≤ 20000 ∧ pn ≤ 1184 ∧ (∀ h, h < 4 → md h = nI 0 ∨ md h = nI 1 ∨ md h = nI 2) ∧ ∀ h, h < 4 → nt h ≤ 40000
/-- the reference's cells that only serve its mixes -/
def jM (F : Nat → cellT) (cy : Nat → ClassId) (z : Nat → Nat) : Prop := ∃ (ke cn bb vv ww oo pp il : Nat → Int32), F 93 = (z 11, .inl (cy 0, 8, .inl stA)) ∧ F 94 = (z 12, .inl (cy 0, 8, .inl ke)) ∧ F 95 = (z 13, .inl (cy 0, 8, .inl cn)) ∧ F 96 = (z 14, .inl (cy 0, 16, .inl bb)) ∧ F 97 = (z 15, .inl (cy 0, 16, .inl vv)) ∧ F 98 = (z 16, .inl (cy 0, 16, .inl ww)) ∧ F 99 = (z 17, .inl (cy 0, 16, .inl oo)) ∧ F 100 = (z 18, .inl (cy 0, 16, .inl (fun k => nI (orN k)))) ∧ F 101 = (z 19, .inl (cy 0, 96, .inl pp)) ∧ F 102 = (z 20, .inl (cy 2, 20, .inl il))
/-- the reference's object: its numbers, and the addresses z 1 .. z 20 of its rows -/
def oM (F : Nat → cellT) (z : Nat → Nat) (ml mps : Nat) : Prop := ∃ (be : Int32) (nu : Int64) (bq fg : Int32) (hg cz : Nat), F 82 = (z 0, .inr (5, [.ref (z 1), .ref (z 2), .ref (z 3), .ref (z 4), .ref (z 5), .ref (z 6), .ref (z 7), .ref (z 8), .ref (z 9), .int (nI ml), .ref (z 10), .int (nI mps), .ref (z 11), .ref (z 12), .int be, .ref (z 13), .ref (z 14), .ref (z 15), .ref (z 16), .ref (z 17), .ref (z 18), .long nu, .int bq, .int fg, .ref (z 19), .int (nI hg), .int (nI cz), .ref (z 20)]))
/-- the reference holds the same state -/
def INVm (F : Nat → cellT) (cy : Nat → ClassId) (z cnt : Nat → Nat) (f : Nat → Nat → Int32) (fn0 : Nat) (ff : Nat → Int32) (pn : Nat) (pf : Nat → Int32) (md : Nat → Int32) (K g : Nat → Nat → Int32) (nt : Nat → Nat) : Prop :=
  oM F z fn0 pn ∧ jM F cy z ∧
  (∃ mr ms : Nat → Int32, F 83 = (z 1, .inl (cy 0, 1600, .inl mr)) ∧ F 84 = (z 2, .inl (cy 0, 8, .inl ms)) ∧ ∀ r, r < 8 → ms r = nI (cnt r) ∧ ∀ k, k < cnt r → mr (200 * r + k) = lo8 (f r) k) ∧
  (∃ (mt mcn mmd mk mh mdn : Nat → Int32) (mdo : Nat → Nat), F 85 = (z 3, .inl (cy 0, 160000, .inl mt)) ∧ F 86 = (z 4, .inl (cy 0, 4, .inl mcn)) ∧ F 87 = (z 5, .inl (cy 0, 4, .inl mmd)) ∧ F 88 = (z 6, .inl (cy 0, 32, .inl mk)) ∧ F 89 = (z 7, .inl (cy 0, 1280, .inl mh)) ∧ F 90 = (z 8, .inl (cy 0, 4, .inl mdn)) ∧
    ∀ h, h < 4 → mcn h = nI (nt h) ∧ mmd h = md h ∧ mdn h = nI (mdo h) ∧ mdo h ≤ clo (nt h) ∧ (∀ k, k < 8 → mk (8 * h + k) = K h k) ∧ (∀ i, i < nt h → mt (40000 * h + i) = g h i) ∧ ∀ c, c < mdo h → ∀ k, k < 8 → mh (320 * h + 8 * c + k) = chC (K h) (bsO (md h)) (g h) 0 c k) ∧
  (∃ mf : Nat → Int32, F 91 = (z 9, .inl (cy 0, 20000, .inl mf)) ∧ ∀ k, k < fn0 → mf k = lo8 ff k) ∧ ∃ mp : Nat → Int32, F 92 = (z 10, .inl (cy 0, 2000, .inl mp)) ∧ ∀ k, k < pn → mp k = lo8 pf k
/-- an update of cells elsewhere leaves a hasher as it is -/
theorem gH_ne {F : Nat → cellT} {cy : Nat → ClassId} {B : Nat} {Ad : Nat → Nat} {md bs : Int32} {fc tk cl dp bk ib : Nat} {kf sf cf bf ch bl v w nw : Nat → Int32} {ct : Int64} {ln fl : Int32} {i : Nat} {x : cellT} (h : gH F cy B Ad md bs fc tk cl dp bk ib kf sf cf bf ch bl v w nw ct ln fl) (hi : i < B ∨ B + 10 < i) : gH (upc F i x) cy B Ad md bs fc tk cl dp bk ib kf sf cf bf ch bl v w nw ct ln fl := by
  obtain ⟨h0, h1, h2, h3, h4, h5, h6, h7, h8, h9, h10⟩ := h
  exact ⟨by rw [upc_ne (by omega)]; exact h0, by rw [upc_ne (by omega)]; exact h1, by rw [upc_ne (by omega)]; exact h2, by rw [upc_ne (by omega)]; exact h3, by rw [upc_ne (by omega)]; exact h4, by rw [upc_ne (by omega)]; exact h5, by rw [upc_ne (by omega)]; exact h6, by rw [upc_ne (by omega)]; exact h7, by rw [upc_ne (by omega)]; exact h8, by rw [upc_ne (by omega)]; exact h9, by rw [upc_ne (by omega)]; exact h10⟩
theorem wH_ne {F : Nat → cellT} {cy : Nat → ClassId} {B h0 i : Nat} {x : cellT} (h : wH F cy B h0) (hi : i < B ∨ B + 10 < i) : wH (upc F i x) cy B h0 := by
  obtain ⟨Ad, md, bs, fc, tk, cl, dp, bk, ib, kf, sf, cf, bf, ch, bl, v, w, nw, ct, ln, fl, e, q⟩ := h
  exact ⟨Ad, md, bs, fc, tk, cl, dp, bk, ib, kf, sf, cf, bf, ch, bl, v, w, nw, ct, ln, fl, e, gH_ne q hi⟩
theorem uH_ne {F : Nat → cellT} {cy : Nat → ClassId} {B h0 i : Nat} {md : Int32} {K g : Nat → Int32} {nt : Nat} {x : cellT} (h : uH F cy B h0 md K g nt) (hi : i < B ∨ B + 10 < i) : uH (upc F i x) cy B h0 md K g nt := by
  obtain ⟨Ad, sf, ch, bl, v, w, nw, ct, ln, fl, e, q, s⟩ := h
  exact ⟨Ad, sf, ch, bl, v, w, nw, ct, ln, fl, e, gH_ne q hi, s⟩
/-- numbers and rows by a new one at r -/
def upN1 (c : Nat → Nat) (r x : Nat) : Nat → Nat := fun j => if j = r then x else c j
def upF1 (f : Nat → Nat → Int32) (r : Nat) (x : Nat → Int32) : Nat → Nat → Int32 := fun j => if j = r then x else f j
/-- the reference's cells don't change with the class's -/
theorem INVm_ne {F : Nat → cellT} {cy : Nat → ClassId} {z cnt : Nat → Nat} {f : Nat → Nat → Int32} {fn0 : Nat} {ff : Nat → Int32} {pn : Nat} {pf : Nat → Int32} {md : Nat → Int32} {K g : Nat → Nat → Int32} {nt : Nat → Nat} {i : Nat} {x : cellT} (h : INVm F cy z cnt f fn0 ff pn pf md K g nt) (hi : i < 82) : INVm (upc F i x) cy z cnt f fn0 ff pn pf md K g nt := by
  obtain ⟨⟨be, nu, bq, fg, hg, cz, ho⟩, ⟨ke, cn, bb, vv, ww, oo, pp, il, j1, j2, j3, j4, j5, j6, j7, j8, j9, j10⟩, ⟨mr, ms, r1, r2, r3⟩, ⟨mt, mcn, mmd, mk, mh, mdn, mdo, t1, t2, t3, t4, t5, t6, t7⟩, ⟨mf, f1, f2⟩, ⟨mp, p1, p2⟩⟩ := h
  have e : ∀ j, 82 ≤ j → upc F i x j = F j := fun j hj => upc_ne (by omega)
  exact ⟨⟨be, nu, bq, fg, hg, cz, by rw [e _ (by omega)]; exact ho⟩, ⟨ke, cn, bb, vv, ww, oo, pp, il, by rw [e _ (by omega)]; exact j1, by rw [e _ (by omega)]; exact j2, by rw [e _ (by omega)]; exact j3, by rw [e _ (by omega)]; exact j4, by rw [e _ (by omega)]; exact j5, by rw [e _ (by omega)]; exact j6, by rw [e _ (by omega)]; exact j7, by rw [e _ (by omega)]; exact j8, by rw [e _ (by omega)]; exact j9, by rw [e _ (by omega)]; exact j10⟩, ⟨mr, ms, by rw [e _ (by omega)]; exact r1, by rw [e _ (by omega)]; exact r2, r3⟩, ⟨mt, mcn, mmd, mk, mh, mdn, mdo, by rw [e _ (by omega)]; exact t1, by rw [e _ (by omega)]; exact t2, by rw [e _ (by omega)]; exact t3, by rw [e _ (by omega)]; exact t4, by rw [e _ (by omega)]; exact t5, by rw [e _ (by omega)]; exact t6, t7⟩, ⟨mf, by rw [e _ (by omega)]; exact f1, f2⟩, ⟨mp, by rw [e _ (by omega)]; exact p1, p2⟩⟩
/-- the class's cells don't change with the reference's -/
theorem INVx_ne {F : Nat → cellT} {cy : Nat → ClassId} {a ra rb ha cnt : Nat → Nat} {f : Nat → Nat → Int32} {fn0 : Nat} {ff : Nat → Int32} {pn : Nat} {pf : Nat → Int32} {md : Nat → Int32} {K g : Nat → Nat → Int32} {nt : Nat → Nat} {i : Nat} {x : cellT} (h : INVx F cy a ra rb ha cnt f fn0 ff pn pf md K g nt) (hi : 82 ≤ i) : INVx (upc F i x) cy a ra rb ha cnt f fn0 ff pn pf md K g nt := by
  obtain ⟨h0, h1, h2, ⟨h3, h4⟩, ⟨h5, h6⟩, h7, ⟨lv, of, oc, h8, h9, h10⟩, ⟨wd, h11⟩, h12, h13⟩ := h
  have e : ∀ j, j < 82 → upc F i x j = F j := fun j hj => upc_ne (by omega)
  exact ⟨by rw [e _ (by omega)]; exact h0, by rw [e _ (by omega)]; exact h1, by rw [e _ (by omega)]; exact h2, ⟨by rw [e _ (by omega)]; exact h3, by rw [e _ (by omega)]; exact h4⟩, ⟨by rw [e _ (by omega)]; exact h5, by rw [e _ (by omega)]; exact h6⟩, wH_ne h7 (by omega), ⟨lv, of, oc, by rw [e _ (by omega)]; exact h8, by rw [e _ (by omega)]; exact h9, by rw [e _ (by omega)]; exact h10⟩, ⟨wd, by rw [e _ (by omega)]; exact h11⟩, fun r hr => ⟨by rw [e _ (by omega)]; exact (h12 r hr).1, by rw [e _ (by omega)]; exact (h12 r hr).2⟩, fun h hh => uH_ne (h13 h hh) (by omega)⟩
