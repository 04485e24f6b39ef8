def HS (mt mcn mmd mk mh mdn : Nat → Int32) (mdo : Nat → Nat) (md : Nat → Int32) (K g : Nat → Nat → Int32) (nt : Nat → Nat) (h : Nat) : Prop := mcn h = nI (nt h) ∧ mmd h = md h ∧ mdn h = nI (mdo h) ∧ mdo h ≤ clo (nt h) ∧ (∀ k, k < 8 → mk (8 * h + k) = K h k) ∧ (∀ i, i < nt h → mt (40000 * h + i) = g h i) ∧ ∀ c, c < mdo h → ∀ k, k < 8 → mh (320 * h + 8 * c + k) = chC (K h) (bsO (md h)) (g h) 0 c k
def RG (mr ms : Nat → Int32) (cnt : Nat → Nat) (f : Nat → Nat → Int32) : Prop := ∀ r, r < 8 → ms r = nI (cnt r) ∧ ∀ k, k < cnt r → mr (200 * r + k) = lo8 (f r) k
section PUR
variable {cnt nt mdo : Nat → Nat} {f K g : Nat → Nat → Int32} {fn0 pn : Nat} {md mr ms mt mcn mmd mk mh mdn : Nat → Int32}
/-- one register anew -/
theorem rg_up (h : RG mr ms cnt f) (hN : INVs cnt fn0 pn md nt) {r c2 : Nat} {f2 mr2 : Nat → Int32} (hr : r < 8) (e1 : ∀ x, (x < 200 * r ∨ 200 * r + 200 ≤ x) → mr2 x = mr x) (e2 : ∀ k, k < c2 → mr2 (200 * r + k) = lo8 f2 k) : RG mr2 (upd ms r (nI c2)) (upN1 cnt r c2) (upF1 f r f2) := by
  intro q hq
  by_cases e : q = r
  · subst e
    rw [upd_eq1, upN1_eq, upF1_eq]
    exact ⟨rfl, e2⟩
  · rw [upd_ne1 e, upN1_ne e, upF1_ne e]
    refine ⟨(h q hq).1, fun k hk => ?_⟩
    have := hN.1 q hq
    rw [e1 _ (by omega)]
    exact (h q hq).2 k hk
theorem clo39 {t : Nat} (h : t ≤ 40000) : clo t ≤ 39 := by unfold clo; omega
/-- one hasher anew -/
theorem hs_up (h : ∀ q, q < 4 → HS mt mcn mmd mk mh mdn mdo md K g nt q) (hN : INVs cnt fn0 pn md nt) {k nt2 mo2 : Nat} {md2 : Int32} {K2 g2 mt2 mcn2 mmd2 mk2 mh2 mdn2 : Nat → Int32} (e1 : ∀ q, q ≠ k → mcn2 q = mcn q) (e1b : ∀ q, q ≠ k → mmd2 q = mmd q) (e1c : ∀ q, q ≠ k → mdn2 q = mdn q) (e2 : ∀ x, (x < 8 * k ∨ 8 * k + 8 ≤ x) → mk2 x = mk x) (e3 : ∀ x, (x < 40000 * k ∨ 40000 * k + 40000 ≤ x) → mt2 x = mt x) (e4 : ∀ x, (x < 320 * k ∨ 320 * k + 320 ≤ x) → mh2 x = mh x)
    (n1 : mcn2 k = nI nt2) (n2 : mmd2 k = md2) (n3 : mdn2 k = nI mo2) (n4 : mo2 ≤ clo nt2) (n5 : ∀ i, i < 8 → mk2 (8 * k + i) = K2 i) (n6 : ∀ i, i < nt2 → mt2 (40000 * k + i) = g2 i) (n7 : ∀ c, c < mo2 → ∀ i, i < 8 → mh2 (320 * k + 8 * c + i) = chC K2 (bsO md2) g2 0 c i) :
    ∀ q, q < 4 → HS mt2 mcn2 mmd2 mk2 mh2 mdn2 (upN1 mdo k mo2) (upd md k md2) (upF1 K k K2) (upF1 g k g2) (upN1 nt k nt2) q := by
  intro q hq
  unfold HS
  by_cases e : q = k
  · subst e
    rw [upN1_eq, upN1_eq, upF1_eq, upF1_eq, upd_eq1]
    exact ⟨n1, n2, n3, n4, n5, n6, n7⟩
  · rw [upN1_ne e, upN1_ne e, upF1_ne e, upF1_ne e, upd_ne1 e]
    obtain ⟨a1, a2, a3, a4, a5, a6, a7⟩ := h q hq
    have h40 := hN.2.2.2.2 q hq
    have h39 := clo39 h40
    refine ⟨(e1 q e).trans a1, (e1b q e).trans a2, (e1c q e).trans a3, a4, fun i hi => ?_, fun i hi => ?_, fun c hc i hi => ?_⟩
    · rw [e2 _ (by omega)]; exact a5 i hi
    · rw [e3 _ (by omega)]; exact a6 i hi
    · rw [e4 _ (by omega)]; exact a7 c hc i hi
/-- more chunks of one hasher are known -/
theorem hs_mh (h : ∀ q, q < 4 → HS mt mcn mmd mk mh mdn mdo md K g nt q) (hN : INVs cnt fn0 pn md nt) {k : Nat} {mh2 : Nat → Int32} (hk : k < 4) (n7 : ∀ c, c < clo (nt k) → ∀ i, i < 8 → mh2 (320 * k + 8 * c + i) = chC (K k) (bsO (md k)) (g k) 0 c i) (e4 : ∀ x, (x < 320 * k ∨ 320 * k + 320 ≤ x) → mh2 x = mh x) :
    ∀ q, q < 4 → HS mt mcn mmd mk mh2 (upd mdn k (nI (clo (nt k)))) (upN1 mdo k (clo (nt k))) md K g nt q := by
  intro q hq
  unfold HS
  obtain ⟨a1, a2, a3, a4, a5, a6, a7⟩ := h q hq
  by_cases e : q = k
  · subst e
    rw [upN1_eq, upd_eq1]
    exact ⟨a1, a2, rfl, Nat.le_refl _, a5, a6, n7⟩
  · rw [upN1_ne e, upd_ne1 e]
    have h39 := clo39 (hN.2.2.2.2 q hq)
    refine ⟨a1, a2, a3, a4, a5, a6, fun c hc i hi => ?_⟩
    rw [e4 _ (by omega)]; exact a7 c hc i hi
end PUR
theorem ag_c {g x : Nat → Int32} {n k : Nat} : ∀ i, i < n → g i = apG g n x k i := fun i hi => (apG_out (Or.inl hi)).symm
theorem ap_lo {mr f x y : Nat → Int32} {o c n : Nat} (h1 : ∀ j, j < c → mr (o + j) = lo8 f j) (h2 : ∀ i, i < n → x i = y i &&& 255) : ∀ j, j < c + n → apG mr (o + c) x n (o + j) = lo8 (apG f c y n) j := by
  intro j hj
  by_cases h : j < c
  · rw [apG_out (Or.inl (by omega)), h1 j h]
    show f j &&& 255 = apG f c y n j &&& 255
    rw [apG_out (Or.inl h)]
  · obtain ⟨d, rfl⟩ : ∃ d, j = c + d := ⟨j - c, by omega⟩
    have hd : d < n := by omega
    rw [show o + (c + d) = (o + c) + d from (Nat.add_assoc _ _ _).symm, apG_in hd, h2 d hd]
    show y d &&& 255 = apG f c y n (c + d) &&& 255
    rw [apG_in hd]
theorem ap_lo0 {mr f x y : Nat → Int32} {o n : Nat} (h2 : ∀ i, i < n → x i = y i &&& 255) : ∀ j, j < n → apG mr o x n (o + j) = lo8 (apG f 0 y n) j := by
  intro j hj
  have := ap_lo (mr := mr) (f := f) (o := o) (c := 0) (fun j hj => absurd hj (Nat.not_lt_zero j)) h2 j (by omega)
  exact this
theorem ap_lo1 {mf f x y : Nat → Int32} {c n : Nat} (h1 : ∀ j, j < c → mf j = lo8 f j) (h2 : ∀ i, i < n → x i = y i &&& 255) : ∀ j, j < c + n → apG mf c x n j = lo8 (apG f c y n) j := by
  intro j hj
  by_cases h : j < c
  · rw [apG_out (Or.inl h), h1 j h]
    show f j &&& 255 = apG f c y n j &&& 255
    rw [apG_out (Or.inl h)]
  · obtain ⟨d, rfl⟩ : ∃ d, j = c + d := ⟨j - c, by omega⟩
    have hd : d < n := by omega
    rw [apG_in hd, h2 d hd]
    show y d &&& 255 = apG f c y n (c + d) &&& 255
    rw [apG_in hd]
theorem sp_lo {mf f : Nat → Int32} {n i k : Nat} (h1 : ∀ j, j < n → mf j = lo8 f j) (hi : i < n) (hk : k ≤ 255) : ∀ j, j < n → upd mf i ((mf i) ^^^ (nI k)) j = lo8 (upd f i (b8 (f i ^^^ nI k))) j := by
  intro j hj
  show _ = upd f i (b8 (f i ^^^ nI k)) j &&& 255
  by_cases e : j = i
  · subst e
    rw [upd_eq1, upd_eq1, h1 j hj, xor_byte _ hk]
    rfl
  · rw [upd_ne1 e, upd_ne1 e, h1 j hj]
    rfl
theorem clo_mono {a b : Nat} (h : a ≤ b) : clo a ≤ clo b := by unfold clo; omega
section PUR2
variable {cnt nt mdo : Nat → Nat} {f K g : Nat → Nat → Int32} {fn0 pn : Nat} {md mr ms mt mcn mmd mk mh mdn : Nat → Int32}
theorem hs_tk (h : ∀ q, q < 4 → HS mt mcn mmd mk mh mdn mdo md K g nt q) (hN : INVs cnt fn0 pn md nt) {k n : Nat} {x y : Nat → Int32} (hk : k < 4) (hn : nt k + n ≤ 40000) (hxy : ∀ i, i < n → x i = y i) :
    ∀ q, q < 4 → HS (apG mt (40000 * k + nt k) x n) (upd mcn k (nI (nt k + n))) mmd mk mh mdn (upN1 mdo k (mdo k)) (upd md k (md k)) (upF1 K k (K k)) (upF1 g k (apG (g k) (nt k) y n)) (upN1 nt k (nt k + n)) q := by
  obtain ⟨a1, a2, a3, a4, a5, a6, a7⟩ := h k hk
  refine hs_up h hN (fun q hq => upd_ne1 hq) (fun _ _ => rfl) (fun _ _ => rfl) (fun _ _ => rfl) (fun x hx => apG_out (by omega)) (fun _ _ => rfl) upd_eq1 a2 a3 (Nat.le_trans a4 (clo_mono (Nat.le_add_right _ _))) a5 (fun i hi => ?_) (fun c hc i hi => ?_)
  · by_cases e : i < nt k
    · rw [apG_out (Or.inl (by omega)), apG_out (Or.inl e)]
      exact a6 i e
    · obtain ⟨d, rfl⟩ : ∃ d, i = nt k + d := ⟨i - nt k, by omega⟩
      have hd : d < n := by omega
      rw [show 40000 * k + (nt k + d) = (40000 * k + nt k) + d from (Nat.add_assoc _ _ _).symm, apG_in hd, apG_in hd]
      exact hxy d hd
  · rw [a7 c hc i hi]
    have h1 := clo_mul (nt k)
    rw [chC_congr (g := g k) (g' := apG (g k) (nt k) y n) (fun j hj => ag_c j (by omega))]
theorem hs_bg (h : ∀ q, q < 4 → HS mt mcn mmd mk mh mdn mdo md K g nt q) (hN : INVs cnt fn0 pn md nt) {k : Nat} {md2 : Int32} {mk2 K2 : Nat → Int32} (e2 : ∀ x, (x < 8 * k ∨ 8 * k + 8 ≤ x) → mk2 x = mk x) (n5 : ∀ i, i < 8 → mk2 (8 * k + i) = K2 i) :
    ∀ q, q < 4 → HS mt (upd mcn k (nI 0)) (upd mmd k md2) mk2 mh (upd mdn k (nI 0)) (upN1 mdo k 0) (upd md k md2) (upF1 K k K2) (upF1 g k (g k)) (upN1 nt k 0) q :=
  hs_up h hN (fun q hq => upd_ne1 hq) (fun q hq => upd_ne1 hq) (fun q hq => upd_ne1 hq) e2 (fun _ _ => rfl) (fun _ _ => rfl) upd_eq1 upd_eq1 upd_eq1 (Nat.zero_le _) n5 (fun i hi => absurd hi (Nat.not_lt_zero i)) (fun c hc => absurd hc (Nat.not_lt_zero c))
theorem hs_cp (h : ∀ q, q < 4 → HS mt mcn mmd mk mh mdn mdo md K g nt q) (hN : INVs cnt fn0 pn md nt) {k k2 : Nat} (hk2 : k2 < 4) :
    ∀ q, q < 4 → HS (apG mt (40000 * k) (fun i => mt (40000 * k2 + i)) (nt k2)) (upd mcn k (nI (nt k2))) (upd mmd k (mmd k2)) (apG mk (8 * k) (fun j => mk (8 * k2 + j)) 8) (apG mh (320 * k) (fun j => mh (320 * k2 + j)) 320) (upd mdn k (mdn k2)) (upN1 mdo k (mdo k2)) (upd md k (md k2)) (upF1 K k (K k2)) (upF1 g k (g k2)) (upN1 nt k (nt k2)) q := by
  obtain ⟨a1, a2, a3, a4, a5, a6, a7⟩ := h k2 hk2
  have h40 := hN.2.2.2.2 k2 hk2
  have h39 := clo39 h40
  refine hs_up h hN (fun q hq => upd_ne1 hq) (fun q hq => upd_ne1 hq) (fun q hq => upd_ne1 hq) (fun x hx => apG_out (by omega)) (fun x hx => apG_out (by omega)) (fun x hx => apG_out (by omega)) upd_eq1 (upd_eq1.trans a2) (upd_eq1.trans a3) a4 (fun i hi => ?_) (fun i hi => ?_) (fun c hc i hi => ?_)
  · rw [apG_in hi]; exact a5 i hi
  · rw [apG_in hi]; exact a6 i hi
  · rw [show 320 * k + 8 * c + i = 320 * k + (8 * c + i) from Nat.add_assoc _ _ _, apG_in (by omega), ← Nat.add_assoc]
    exact a7 c hc i hi
end PUR2
theorem uH_0 {F : Nat → cellT} {cy : Nat → ClassId} {B h0 : Nat} {md2 bs2 : Int32} {K2 g2 : Nat → Int32} (hb : bs2 = bsO md2) {Ad : Nat → Nat} {sf ch bl v w nw : Nat → Int32} {ct : Int64} {ln fl : Int32} (e : Ad 0 = h0) (h : gH F cy B Ad md2 bs2 0 0 0 0 0 0 K2 sf K2 (fun _ => nI 0) ch bl v w nw ct ln fl) : uH F cy B h0 md2 K2 g2 0 := by
  subst hb
  refine ⟨Ad, sf, ch, bl, v, w, nw, ct, ln, fl, e, ?_, SKr_0⟩
  rw [z_hdp, z_hbk, z_hib, z_hcf, z_hbf, z_clo]
  exact h
theorem root_T {n : Nat} : tT n 0 (chks n) = n := by
  have h := tT_oln (n := n) (first := 0) (many := chks n) (by omega) (chks_pos n)
  rw [Nat.zero_add] at h
  rw [h]
  unfold oln
  have h2 : n ≤ chks n * 1024 := by
    by_cases e : n = 0
    · omega
    · rw [chks_s e]; omega
  split <;> omega
theorem clb_ct {oF : Nat → Nat} {c : Nat} {rd : Nat → Nat → Int32} : ∀ (d : Nat) (N : Nd), N.2.2.1 = lN 0 ∨ 0 < d → (clb oF c rd d N).2.2.1 = lN 0
  | 0, N, h => by
    rcases h with h | h
    · exact h
    · omega
  | d + 1, N, _ => clb_ct (oF := oF) (c := c) (rd := rd) d (stA, if oF d < c then jn (rd d) (mx N) else jn (mx N) (rd d), lN 0, nI 64, nI 0 + nI 4) (Or.inl rfl)
theorem chk_eq {V fr : Nat → Int32} {r1 r2 : Int32} (h1 : (r1 = 1 ∧ ∀ k, k < 32 → V k = fr k) ∨ (r1 = 0 ∧ ∃ k, k < 32 ∧ V k ≠ fr k)) (h2 : (r2 = 1 ∧ ∀ k, k < 32 → V k = fr k) ∨ (r2 = 0 ∧ ∃ k, k < 32 ∧ V k ≠ fr k)) : r1 = r2 := by
  rcases h1 with ⟨a, b⟩ | ⟨a, k, b, d⟩ <;> rcases h2 with ⟨a', b'⟩ | ⟨a', k', b', d'⟩
  · rw [a, a']
  · exact absurd (b k' b') d'
  · exact absurd (b' k b) d
  · rw [a, a']
/-- the vector that a check compares with: the class's and the reference's -/
theorem chk_V {pf mp : Nat → Int32} {n c0 L0 : Nat} (hc0 : c0 < chks n) (hL : wyL c0 (chks n) L0) (h : ∀ k, k < cln n c0 + 32 * L0 → mp k = lo8 pf k) :
    mixV (clb (wyF c0 (chks n)) c0 (fun L k => wrd mp ((cln n c0 + 32 * L) + 4 * k)) L0 (ndC stA (nI 0) mp 0 c0 (cln n c0))).1 (clb (wyF c0 (chks n)) c0 (fun L k => wrd mp ((cln n c0 + 32 * L) + 4 * k)) L0 (ndC stA (nI 0) mp 0 c0 (cln n c0))).2.1 (lN 0) (clb (wyF c0 (chks n)) c0 (fun L k => wrd mp ((cln n c0 + 32 * L) + 4 * k)) L0 (ndC stA (nI 0) mp 0 c0 (cln n c0))).2.2.2.1 ((clb (wyF c0 (chks n)) c0 (fun L k => wrd mp ((cln n c0 + 32 * L) + 4 * k)) L0 (ndC stA (nI 0) mp 0 c0 (cln n c0))).2.2.2.2 + nI 8)
    = mixV (clb (wyF c0 (chks n)) c0 (fun L k => wrd (lo8 pf) ((cln n c0 + (L * 32)) + 4 * k)) L0 (rtN stA (nI 0) (fun k => lo8 pf (0 + k)) c0 (cln n c0))).1 (clb (wyF c0 (chks n)) c0 (fun L k => wrd (lo8 pf) ((cln n c0 + (L * 32)) + 4 * k)) L0 (rtN stA (nI 0) (fun k => lo8 pf (0 + k)) c0 (cln n c0))).2.1 (clb (wyF c0 (chks n)) c0 (fun L k => wrd (lo8 pf) ((cln n c0 + (L * 32)) + 4 * k)) L0 (rtN stA (nI 0) (fun k => lo8 pf (0 + k)) c0 (cln n c0))).2.2.1 (clb (wyF c0 (chks n)) c0 (fun L k => wrd (lo8 pf) ((cln n c0 + (L * 32)) + 4 * k)) L0 (rtN stA (nI 0) (fun k => lo8 pf (0 + k)) c0 (cln n c0))).2.2.2.1 ((clb (wyF c0 (chks n)) c0 (fun L k => wrd (lo8 pf) ((cln n c0 + (L * 32)) + 4 * k)) L0 (rtN stA (nI 0) (fun k => lo8 pf (0 + k)) c0 (cln n c0))).2.2.2.2 ||| nI 8) := by
  rw [cl_or]
  have e0 : rtN stA (nI 0) (fun k => lo8 pf (0 + k)) c0 (cln n c0) = ndC stA (nI 0) mp 0 c0 (cln n c0) := by
    rw [rt_one (cln_le n c0)]
    exact ndC_congr (fun k hk => by
      show lo8 pf (0 + (0 + k)) = mp (0 + k)
      rw [Nat.zero_add, Nat.zero_add, h k (by omega)])
  rw [e0]
  have hE := clb_E (oF := wyF c0 (chks n)) (c := c0) (rd := fun L k => wrd mp ((cln n c0 + 32 * L) + 4 * k)) (rd' := fun L k => wrd (lo8 pf) ((cln n c0 + (L * 32)) + 4 * k)) L0 (ndC stA (nI 0) mp 0 c0 (cln n c0)) (ndC stA (nI 0) mp 0 c0 (cln n c0)) ⟨rfl, fun _ _ => rfl, rfl⟩ (fun L hL2 k hk => wrd_congr (fun j hj => by
      rw [h _ (by omega), Nat.mul_comm 32 L]))
  obtain ⟨h1, h2, h3⟩ := hE
  have hct := clb_ct (oF := wyF c0 (chks n)) (c := c0) (rd := fun L k => wrd (lo8 pf) ((cln n c0 + (L * 32)) + 4 * k)) L0 (ndC stA (nI 0) mp 0 c0 (cln n c0)) (by
    by_cases e : L0 = 0
    · subst e
      have := hL.1
      have h5 : chks n ≤ 1 := this
      have h6 : c0 = 0 := by omega
      subst h6
      exact Or.inl rfl
    · exact Or.inr (by omega))
  rw [hct, h1, h3]
  exact mixV_16 h2
