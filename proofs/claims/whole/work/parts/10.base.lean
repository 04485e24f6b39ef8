abbrev TYS (cy : Nat → ClassId) : List (ClassId × FieldType) := [(cy 0, .int), (cy 1, .byte), (cy 2, .boolean), (cy 3, .object RX0), (cy 4, .object RX1)]
/-- START and ORDER -/
def stA : Nat → Int32 := fun k => match k with
  | 0 => 1779033703 | 1 => -1150833019 | 2 => 1013904242 | 3 => -1521486534 | 4 => 1359893119 | 5 => -1694144372 | 6 => 528734635 | _ => 1541459225
def orN : Nat → Nat := fun k => match k with
  | 0 => 2 | 1 => 6 | 2 => 3 | 3 => 10 | 4 => 7 | 5 => 0 | 6 => 4 | 7 => 13 | 8 => 1 | 9 => 11 | 10 => 12 | 11 => 5 | 12 => 9 | 13 => 14 | 14 => 15 | _ => 8
/-- words on nest mates that contracts hand on -/
def nestF : List (String × Nat × String × String × String × String) := [("TreeHashes", 104, "TreeHashes$Hasher", "mix", "LTreeHashes$Mix;", "TreeHashes"), ("TreeHashes", 116, "TreeHashes$Hasher", "mode", "I", "TreeHashes"), ("TreeHashes", 119, "TreeHashes$Hasher", "closed", "I", "TreeHashes"), ("TreeHashes", 122, "TreeHashes$Hasher", "depth", "I", "TreeHashes"), ("TreeHashes", 157, "TreeHashes$Way", "levels", "I", "TreeHashes"), ("TreeHashes", 160, "TreeHashes$Way", "otherFirst", "[I", "TreeHashes"), ("TreeHashes", 163, "TreeHashes$Way", "otherChunks", "[I", "TreeHashes"), ("TreeHashes", 57, "TreeHashes$Bytes", "count", "I", "TreeHashes"), ("TreeHashes", 89, "TreeHashes$Hasher", "taken", "I", "TreeHashes")]
def nestM : List (String × Nat × MethodName × String) := [("TreeHashes", 38, yX3_init, "TreeHashes"), ("TreeHashes$Hasher", 13, yX2_init, "TreeHashes")]
def Nst (U : State) : Prop := (∀ q ∈ nestF, va_Nw (.fieldLinkNest q.1 q.2.1 q.2.2.1 q.2.2.2.1 q.2.2.2.2.1 q.2.2.2.2.2) U) ∧ ∀ q ∈ nestM, va_Nw (.methodLinkNest q.1 q.2.1 q.2.2.1 q.2.2.2) U
theorem Nst.warm {s U : State} (hW : s.WarmedH U.vm) (h : Nst s) : Nst U := ⟨fun q hq => va_Nw.warmF hW (h.1 q hq), fun q hq => va_Nw.warmM hW (h.2 q hq)⟩
theorem va_Nw.call {w : Cond} (hw : w.onTables = true) {U : State} {g : JFrame} {mk : MethodId} {a : Array Value} (h : va_Nw w U) : va_Nw w (U.calling g mk a) := va_tabs hw (show U.vm = (U.calling g mk a).vm from rfl) h
/-- the constants of the class, and the nest words: what every contract takes as given -/
def Stat (t : Nat × Nat) (A : Nat → Prop) (U : State) (H : Heap) : Prop :=
  (va_Z RX2 "START" "[I" (.ref t.1) A U H ∧ va_T .int t.1 8 (fun k => .int (stA k)) A U H) ∧ (va_Z RX2 "ORDER" "[I" (.ref t.2) A U H ∧ va_T .int t.2 16 (fun k => .int (nI (orN k))) A U H) ∧ Nst U
theorem Stat.to {t : Nat × Nat} {A B : Nat → Prop} {s U : State} {H : Heap} (h : Stat t A s s.heap) (hk : ∀ a : Nat, a < s.heap.size → ¬ A a → H[a]? = s.heap[a]?) (hB : ∀ q, B q → A q) (hW : s.WarmedH U.vm) : Stat t B U H := by
  obtain ⟨⟨h1, h2⟩, ⟨h3, h4⟩, h5⟩ := h
  exact ⟨⟨((h1.kept hk).narrow hB).moved hW.alike, ((h2.kept hk).narrow hB).moved hW.alike⟩, ⟨((h3.kept hk).narrow hB).moved hW.alike, ((h4.kept hk).narrow hB).moved hW.alike⟩, h5.warm hW⟩
theorem Nst.call {U : State} {g : JFrame} {mk : MethodId} {a : Array Value} (h : Nst U) : Nst (U.calling g mk a) := ⟨fun q hq => va_Nw.call rfl (h.1 q hq), fun q hq => va_Nw.call rfl (h.2 q hq)⟩
theorem Stat.call {t : Nat × Nat} {A : Nat → Prop} {U : State} {H : Heap} {g : JFrame} {mk : MethodId} {a : Array Value} (h : Stat t A U H) : Stat t A (U.calling g mk a) H := by
  obtain ⟨⟨h1, h2⟩, ⟨h3, h4⟩, h5⟩ := h
  exact ⟨⟨va_Z.moved (u := U) (U := U.calling g mk a) (Vm.Alike.refl U.vm) h1, va_T.moved (u := U) (U := U.calling g mk a) (Vm.Alike.refl U.vm) h2⟩, ⟨va_Z.moved (u := U) (U := U.calling g mk a) (Vm.Alike.refl U.vm) h3, va_T.moved (u := U) (U := U.calling g mk a) (Vm.Alike.refl U.vm) h4⟩, h5.call⟩
/-- the world now -/
def Wd (D : va_G) (A : Nat → Prop) (s : State) (ws : va_W) (H : Heap) (locs : List Loc) : Prop := va_P D vwCl ws H ∧ va_D A ws ∧ va_S A s.heap H locs
/-- a contract's start -/
def PcW (D : va_G) (cy : Nat → ClassId) (t : Nat × Nat) (ws : va_W) (av : List Value) (sz : Nat) : Array Value → State → Prop :=
  va_Pc av (fun U => U.heap.size = sz ∧ va_P D vwCl ws U.heap ∧ va_K D vwCl (TYS cy) U ∧ va_D (fun _ => True) ws ∧ Stat t (va_A ws sz) U U.heap)
def BW (D : va_G) (cy : Nat → ClassId) (A : Nat → Prop) (ws : va_W) (U : State) : Prop := va_P D vwCl ws U.heap ∧ va_K D vwCl (TYS cy) U ∧ va_D A ws
def QiA (D : va_G) (cy : Nat → ClassId) {S : Type} (post : Int32 → S → Prop) (w1 : S → va_W) (A : Nat → Prop) : Array Value → State → Outcome → State → Prop := va_Qi post (fun u t => BW D cy A (w1 u) t) A
def QvA (D : va_G) (cy : Nat → ClassId) {S : Type} (post : S → Prop) (w1 : S → va_W) (A : Nat → Prop) : Array Value → State → Outcome → State → Prop := va_Qv post (fun u t => BW D cy A (w1 u) t) A
theorem PcW.blind {D : va_G} {cy : Nat → ClassId} {t : Nat × Nat} {ws : va_W} {av : List Value} {sz : Nat} : FrameBlind (PcW D cy t ws av sz) := by
  intro a U g mk q
  obtain ⟨q0, q1, qP, qK, qD, qS⟩ := q
  exact ⟨q0, q1, qP, va_K.moved (u := U) (U := U.calling g mk a) (Vm.Alike.refl U.vm) qK, qD, qS.call⟩
/-- a contract out of the walk of its body -/
theorem M_ofW {l : Launch} {y : MethodName} {ws ws' : List Cond} {rm : Room} {cc : ByteArray} {maxL : Nat} {ret : Option FieldType} {D : va_G} {cy : Nat → ClassId} {t : Nat × Nat} {sz : Nat} {wd : va_W} {av : List Value} {Qa : (Nat → Prop) → Array Value → State → Outcome → State → Prop} {mc ms : Nat}
    (hy : plainName y.cls = true) (hw : ws = Cond.code y cc maxL ret :: ws') (hlen : (lg_sl av).length ≤ maxL)
    (body : ∀ (p : Program) (e : Env) (s : State) (m : MethodId) (below : List Frame) (meth : Method) (c : Code) (A : Nat → Prop) (ls : Array Slot) (args : Array Value) (Q : State → Prop), Q = MQ below (Qa A) args s mc ms A → CallFix p m c cc maxL s args ws y.cls → meth.sig.returnType = ret → meth.locks = false → (meth.name = y.name) → va_K D vwCl (TYS cy) s → Stat t A s s.heap → (∀ q, s.heap.size ≤ q → A q) → Wd D A s wd s.heap [] → lv_has ls maxL (lv_args 0 av) →
      W p l e rm s m args below meth c s.heap [] 0 0 Q (F0 m 0 ls [])) : Met l y ws rm (PcW D cy t wd av sz) (Qa (va_A wd sz)) mc ms (va_A wd sz) := by
  refine Met.ofW (cc := cc) (maxL := maxL) (ret := ret) hy hw ?_
  intro p e s m args below meth c s₁ B hml hv
  obtain ⟨rfl, hsz, hP, hK, hD0, hst⟩ := hv
  have hts := atoms_spec (ws := ws) B.pre
  subst hsz
  have hD := hD0.self (sz := s.heap.size)
  have hl := lv_entry av (n := maxL) hlen
  rw [lg_entry_eq]
  exact body p e s m below meth c _ _ _ _ rfl ⟨B.exec, B.bytes, hml, findClass_of_methodNamed B.named, hts⟩ B.returns B.notSynchronized (name_of_methodNamed B.named B.method).1 hK hst (fun q h => Or.inr h) ⟨hP, hD, va_S.rf⟩ hl
/-- cells at their places, new contents -/
def putW : va_W → List Nat → va_W → va_W
  | ws, i :: is, x :: xs => putW (ws.set i x) is xs
  | ws, _, _ => ws
theorem putW_at : ∀ (is : List Nat) (xs ws : va_W), xs.length = is.length → ∀ (k : Nat) (q : Nat × va_E), (putW ws is xs)[k]? = some q → (∃ j : Nat, is[j]? = some k ∧ xs[j]? = some q) ∨ (k ∉ is ∧ ws[k]? = some q)
  | [], xs, ws, _, k, q, h => Or.inr ⟨List.not_mem_nil, by cases xs <;> exact h⟩
  | i :: is, [], ws, hl, k, q, h => by simp at hl
  | i :: is, x :: xs, ws, hl, k, q, h => by
    rcases putW_at is xs (ws.set i x) (by simpa using hl) k q h with ⟨j, h1, h2⟩ | ⟨h1, h2⟩
    · exact Or.inl ⟨j + 1, by simpa using h1, by simpa using h2⟩
    · by_cases hki : k = i
      · subst hki
        rw [List.getElem?_set] at h2
        simp only [if_true] at h2
        split at h2
        · exact Or.inl ⟨0, rfl, h2⟩
        · cases h2
      · rw [List.getElem?_set_ne (fun e => hki e.symm)] at h2
        exact Or.inr ⟨by simp [hki, h1], h2⟩
/-- behind a call: the callee's cells at their places, the others unchanged -/
theorem putW_ok {A0 : Nat → Prop} {D : va_G} {cl : List vw_C} {ws wc w1 : va_W} {H H1 : Heap} (hP : va_P D cl ws H) (hD : va_D A0 ws) (isC : List Nat) (hC : isC.map (fun i => ws[i]?) = wc.map some) (hl : w1.length = isC.length)
    (hk : ∀ q : Nat, q < H.size → ¬ va_A wc H.size q → H1[q]? = H[q]?) (hF : ∀ q, va_A wc H.size q → A0 q) (hP1 : va_P D cl w1 H1) (hD1 : va_D (va_A wc H.size) w1) : va_P D cl (putW ws isC w1) H1 ∧ va_D A0 (putW ws isC w1) := by
  have at' : ∀ (k : Nat) (q : Nat × va_E), wc[k]? = some q → ∃ i, isC[k]? = some i ∧ ws[i]? = some q := by
    intro k q hq
    have h1 : (isC.map (fun i => ws[i]?))[k]? = some (some q) := by rw [hC, List.getElem?_map, hq]; rfl
    rw [List.getElem?_map] at h1
    cases hi : isC[k]? with
    | none => rw [hi] at h1; cases h1
    | some i => rw [hi] at h1; exact ⟨i, rfl, Option.some.inj h1⟩
  have apart : ∀ (k : Nat) (q : Nat × va_E), k ∉ isC → ws[k]? = some q → q.1 < H.size ∧ ¬ va_A wc H.size q.1 := by
    intro k q hn hq
    have hlt := (hP k q hq).lt
    refine ⟨hlt, fun h => ?_⟩
    rcases h with ⟨k2, e, h⟩ | h
    · obtain ⟨j, h3, h4⟩ := at' k2 (q.1, e) h
      have hij := hD.1 k j q (q.1, e) hq h4 rfl
      subst hij
      exact hn (List.mem_of_getElem? h3)
    · omega
  refine ⟨fun k q hq => ?_, fun i j x y hx hy hxy => ?_, fun k q hq => ?_⟩
  · rcases putW_at isC w1 ws hl k q hq with ⟨j, h1, h2⟩ | ⟨h1, h2⟩
    · exact hP1 j q h2
    · obtain ⟨g1, g2⟩ := apart k q h1 h2
      exact (hP k q h2).kept (hk q.1 g1 g2)
  · rcases putW_at isC w1 ws hl i x hx with ⟨j1, h1, h2⟩ | ⟨h1, h2⟩ <;> rcases putW_at isC w1 ws hl j y hy with ⟨j2, h3, h4⟩ | ⟨h3, h4⟩
    · have := hD1.1 j1 j2 x y h2 h4 hxy
      subst this
      exact Option.some.inj (h1.symm.trans h3)
    · exact absurd (by rw [← hxy]; exact hD1.2 j1 x h2) (apart j y h3 h4).2
    · exact absurd (by rw [hxy]; exact hD1.2 j2 y h4) (apart i x h1 h2).2
    · exact hD.1 i j x y h2 h4 hxy
  · rcases putW_at isC w1 ws hl k q hq with ⟨j, h1, h2⟩ | ⟨h1, h2⟩
    · exact hF _ (hD1.2 j q h2)
    · exact hD.2 k q h2
section BASEC
variable {p : Program} {l : Launch} {e : Env} {R : Room} {s : State} {m : MethodId} {args : Array Value} {below : List Frame} {meth : Method} {c : Code} {H : Heap} {locs : List Loc} {cells slots : Nat} {Q : State → Prop}
variable {y : MethodName} {bytes cc : ByteArray} {maxL nL mc ms n index pc : Nat} {ret : Option FieldType} {wy : List Cond} {rm : Room} {Ts : List Cond} {own C : String} {b : Addr} {As rest st : List Value} {ls : Array Slot} {D : va_G} {cy : Nat → ClassId} {t : Nat × Nat} {A : Nat → Prop} {ws wc : va_W}
theorem Wd.pre (hK : va_K D vwCl (TYS cy) s) (hst : Stat t A s s.heap) (hA : ∀ q, s.heap.size ≤ q → A q) (hW : Wd D A s ws H locs) (isC : List Nat) (hC : isC.map (fun i => ws[i]?) = wc.map some) (hnd : va_nd isC = true) (av : List Value) : FrameBlind (PcW D cy t wc av H.size) ∧ ∀ U : State, U.heap = H → s.WarmedH U.vm → PcW D cy t wc av H.size av.toArray U := by
  refine ⟨PcW.blind, fun U hU hWm => ⟨rfl, by rw [hU], ?_, va_K.moved hWm.alike hK, ?_, ?_⟩⟩
  · rw [hU]
    exact hW.1.sub isC (by
      have : isC.filterMap (fun i => ws[i]?) = (isC.map (fun i => ws[i]?)).filterMap id := by rw [List.filterMap_map]; rfl
      rw [this, hC, List.filterMap_map]
      simp)
  · exact (hW.2.1.sub isC hnd hC).weaken (fun _ _ _ _ => trivial)
  · rw [hU]
    exact hst.to hW.2.2.2.1 (va_free hW.2.1 hW.2.2 hA isC hC) hWm
theorem k_back {S : Type} {w1 : S → va_W} {u : S} {U : State} {H1 : Heap} {locs1 : List Loc} (hA : ∀ q, s.heap.size ≤ q → A q) (hW : Wd D A s ws H locs) (isC : List Nat) (hC : isC.map (fun i => ws[i]?) = wc.map some) (hl : ∀ u, (w1 u).length = isC.length) (ht : U.heap = H1) (hB : BW D cy (va_A wc H.size) (w1 u) U) (hk1 : ∀ q : Nat, q < H.size → ¬ va_A wc H.size q → H1[q]? = H[q]?) (hS : va_S A s.heap H1 locs1) : Wd D A s (putW ws isC (w1 u)) H1 locs1 := by
  obtain ⟨hP1, -, hD1⟩ := hB
  rw [ht] at hP1
  obtain ⟨a1, a2⟩ := putW_ok hW.1 hW.2.1 isC hC (hl u) hk1 (va_free hW.2.1 hW.2.2 hA isC hC) hP1 hD1
  exact ⟨a1, a2, hS⟩
/-- invokevirtual, an int -/
theorem kVi {S : Type} {post : Int32 → S → Prop} {w1 : S → va_W} (S0 : CallFix p m c cc nL s args Ts own) (hK : va_K D vwCl (TYS cy) s) (hst : Stat t A s s.heap) (hA : ∀ q, s.heap.size ≤ q → A q) (hW : Wd D A s ws H locs) (isC : List Nat) (hM : ∀ sz, Met l y wy rm (PcW D cy t wc (.ref b :: As) sz) (QiA D cy post w1 (va_A wc sz)) mc ms (va_A wc sz)) (hC : isC.map (fun i => ws[i]?) = wc.map some) (hnd : va_nd isC = true) (cw : CallW R s args own C index y bytes maxL ret wy rm mc ms n) (hl : ∀ u, (w1 u).length = isC.length)
    (k0 ci : Nat) {fs : List Value} {T : u_T} {N : Nat} (he : wc[k0]? = some (b, .inr (ci, fs))) (hc : vwCl[ci]? = some (C, T, N)) (hn : As.length = n) (hsize : ls.size = nL) (hst0 : st = As.reverse ++ .ref b :: rest) (hroom : (rest.map fun v => v.category).sum ≤ 8) (hdg : decode cc pc = .ok (.invokevirtual index, 3)) (hf : cells + mc ≤ R.cells ∧ slots + ms ≤ R.slots)
    (kk : ∀ (r : Int32) (u : S) (H1 : Heap) (locs1 : List Loc), post r u → Wd D A s (putW ws isC (w1 u)) H1 locs1 → W p l e R s m args below meth c H1 locs1 (cells + mc) (slots + ms) Q (F0 m (pc + 3) ls (.int r :: rest))) : W p l e R s m args below meth c H locs cells slots Q (F0 m pc ls st) := by
  obtain ⟨pb, pp⟩ := Wd.pre (cy := cy) (t := t) hK hst hA hW isC hC hnd (.ref b :: As)
  have hPc : va_P D vwCl wc H := fun k q hq => by
    have h1 : (isC.map (fun i => ws[i]?))[k]? = some (some q) := by rw [hC, List.getElem?_map, hq]; rfl
    rw [List.getElem?_map] at h1
    cases hi : isC[k]? with
    | none => rw [hi] at h1; cases h1
    | some i => rw [hi] at h1; exact hW.1 i q (Option.some.inj h1)
  have hFc := va_free hW.2.1 hW.2.2 hA isC hC
  exact va_calli (va_runV S0 (hM H.size) cw ⟨pb, va_recv hK hPc hc he, pp⟩ rfl hn hsize hst0 (lv_room (m := m) (pc := pc) (ls := ls) (rest := st) hroom) hdg hf) hW.2.2 (fun q _ h => hFc q h) hFc (fun r u U H1 locs1 ht hvm hp hB hz1 hk1 hS => kk r u H1 locs1 hp (k_back hA hW isC hC hl ht hB hk1 hS))
/-- invokevirtual, void -/
theorem kVv {S : Type} {post : S → Prop} {w1 : S → va_W} (S0 : CallFix p m c cc nL s args Ts own) (hK : va_K D vwCl (TYS cy) s) (hst : Stat t A s s.heap) (hA : ∀ q, s.heap.size ≤ q → A q) (hW : Wd D A s ws H locs) (isC : List Nat) (hM : ∀ sz, Met l y wy rm (PcW D cy t wc (.ref b :: As) sz) (QvA D cy post w1 (va_A wc sz)) mc ms (va_A wc sz)) (hC : isC.map (fun i => ws[i]?) = wc.map some) (hnd : va_nd isC = true) (cw : CallW R s args own C index y bytes maxL ret wy rm mc ms n) (hl : ∀ u, (w1 u).length = isC.length)
    (k0 ci : Nat) {fs : List Value} {T : u_T} {N : Nat} (he : wc[k0]? = some (b, .inr (ci, fs))) (hc : vwCl[ci]? = some (C, T, N)) (hn : As.length = n) (hsize : ls.size = nL) (hst0 : st = As.reverse ++ .ref b :: rest) (hroom : (rest.map fun v => v.category).sum ≤ 8) (hdg : decode cc pc = .ok (.invokevirtual index, 3)) (hf : cells + mc ≤ R.cells ∧ slots + ms ≤ R.slots)
    (kk : ∀ (u : S) (H1 : Heap) (locs1 : List Loc), post u → Wd D A s (putW ws isC (w1 u)) H1 locs1 → W p l e R s m args below meth c H1 locs1 (cells + mc) (slots + ms) Q (F0 m (pc + 3) ls rest)) : W p l e R s m args below meth c H locs cells slots Q (F0 m pc ls st) := by
  obtain ⟨pb, pp⟩ := Wd.pre (cy := cy) (t := t) hK hst hA hW isC hC hnd (.ref b :: As)
  have hPc : va_P D vwCl wc H := fun k q hq => by
    have h1 : (isC.map (fun i => ws[i]?))[k]? = some (some q) := by rw [hC, List.getElem?_map, hq]; rfl
    rw [List.getElem?_map] at h1
    cases hi : isC[k]? with
    | none => rw [hi] at h1; cases h1
    | some i => rw [hi] at h1; exact hW.1 i q (Option.some.inj h1)
  have hFc := va_free hW.2.1 hW.2.2 hA isC hC
  exact va_callv (va_runV S0 (hM H.size) cw ⟨pb, va_recv hK hPc hc he, pp⟩ rfl hn hsize hst0 (lv_room (m := m) (pc := pc) (ls := ls) (rest := st) hroom) hdg hf) hW.2.2 (fun q _ h => hFc q h) hFc (fun u U H1 locs1 ht hvm hp hB hz1 hk1 hS => kk u H1 locs1 hp (k_back hA hW isC hC hl ht hB hk1 hS))
/-- invokestatic, an int -/
theorem kSi {S : Type} {post : Int32 → S → Prop} {w1 : S → va_W} (S0 : CallFix p m c cc nL s args Ts own) (hK : va_K D vwCl (TYS cy) s) (hst : Stat t A s s.heap) (hA : ∀ q, s.heap.size ≤ q → A q) (hW : Wd D A s ws H locs) (isC : List Nat) (hM : ∀ sz, Met l y wy rm (PcW D cy t wc As sz) (QiA D cy post w1 (va_A wc sz)) mc ms (va_A wc sz)) (hC : isC.map (fun i => ws[i]?) = wc.map some) (hnd : va_nd isC = true) (cw : CallB R s args own index y bytes maxL ret wy rm mc ms n ∧ (Cond.static y).before args s = true) (hl : ∀ u, (w1 u).length = isC.length)
    (hn : As.length = n) (hsize : ls.size = nL) (hst0 : st = As.reverse ++ rest) (hroom : (rest.map fun v => v.category).sum ≤ 8) (hdg : decode cc pc = .ok (.invokestatic index, 3)) (hf : cells + mc ≤ R.cells ∧ slots + ms ≤ R.slots)
    (kk : ∀ (r : Int32) (u : S) (H1 : Heap) (locs1 : List Loc), post r u → Wd D A s (putW ws isC (w1 u)) H1 locs1 → W p l e R s m args below meth c H1 locs1 (cells + mc) (slots + ms) Q (F0 m (pc + 3) ls (.int r :: rest))) : W p l e R s m args below meth c H locs cells slots Q (F0 m pc ls st) := by
  obtain ⟨pb, pp⟩ := Wd.pre (cy := cy) (t := t) hK hst hA hW isC hC hnd As
  have hFc := va_free hW.2.1 hW.2.2 hA isC hC
  exact va_calli (va_runS S0 (hM H.size) cw ⟨pb, pp⟩ rfl hn hsize hst0 (lv_room (m := m) (pc := pc) (ls := ls) (rest := st) hroom) hdg hf) hW.2.2 (fun q _ h => hFc q h) hFc (fun r u U H1 locs1 ht hvm hp hB hz1 hk1 hS => kk r u H1 locs1 hp (k_back hA hW isC hC hl ht hB hk1 hS))
theorem kSv {S : Type} {post : S → Prop} {w1 : S → va_W} (S0 : CallFix p m c cc nL s args Ts own) (hK : va_K D vwCl (TYS cy) s) (hst : Stat t A s s.heap) (hA : ∀ q, s.heap.size ≤ q → A q) (hW : Wd D A s ws H locs) (isC : List Nat) (hM : ∀ sz, Met l y wy rm (PcW D cy t wc As sz) (QvA D cy post w1 (va_A wc sz)) mc ms (va_A wc sz)) (hC : isC.map (fun i => ws[i]?) = wc.map some) (hnd : va_nd isC = true) (cw : CallB R s args own index y bytes maxL ret wy rm mc ms n ∧ (Cond.static y).before args s = true) (hl : ∀ u, (w1 u).length = isC.length)
    (hn : As.length = n) (hsize : ls.size = nL) (hst0 : st = As.reverse ++ rest) (hroom : (rest.map fun v => v.category).sum ≤ 8) (hdg : decode cc pc = .ok (.invokestatic index, 3)) (hf : cells + mc ≤ R.cells ∧ slots + ms ≤ R.slots)
    (kk : ∀ (u : S) (H1 : Heap) (locs1 : List Loc), post u → Wd D A s (putW ws isC (w1 u)) H1 locs1 → W p l e R s m args below meth c H1 locs1 (cells + mc) (slots + ms) Q (F0 m (pc + 3) ls rest)) : W p l e R s m args below meth c H locs cells slots Q (F0 m pc ls st) := by
  obtain ⟨pb, pp⟩ := Wd.pre (cy := cy) (t := t) hK hst hA hW isC hC hnd As
  have hFc := va_free hW.2.1 hW.2.2 hA isC hC
  exact va_callv (va_runS S0 (hM H.size) cw ⟨pb, pp⟩ rfl hn hsize hst0 (lv_room (m := m) (pc := pc) (ls := ls) (rest := st) hroom) hdg hf) hW.2.2 (fun q _ h => hFc q h) hFc (fun u U H1 locs1 ht hvm hp hB hz1 hk1 hS => kk u H1 locs1 hp (k_back hA hW isC hC hl ht hB hk1 hS))
/-- a value on the stack by another term -/
theorem tI {x x' : Int32} (e1 : x = x') (k : W p l e R s m args below meth c H locs cells slots Q (F0 m pc ls (.int x' :: rest))) : W p l e R s m args below meth c H locs cells slots Q (F0 m pc ls (.int x :: rest)) := e1 ▸ k
theorem tL {x x' : Int64} (e1 : x = x') (k : W p l e R s m args below meth c H locs cells slots Q (F0 m pc ls (.long x' :: rest))) : W p l e R s m args below meth c H locs cells slots Q (F0 m pc ls (.long x :: rest)) := e1 ▸ k
/-- ends -/
theorem eI {S : Type} {post : Int32 → S → Prop} {w1 : S → va_W} {v : Int32} (hQ : Q = MQ below (QiA D cy post w1 A) args s cells slots A) (hx : p.tables.exec = Jvm.exec) (hb : c.code = cc) (hr : meth.sig.returnType = some .int) (hlocks : meth.locks = false) (hK : va_K D vwCl (TYS cy) s) (hW : Wd D A s ws H locs) (u : S) (hp : post v u) (hw : w1 u = ws) (hdg : decode cc pc = .ok (.ireturn, 1)) : W p l e R s m args below meth c H locs cells slots Q (F0 m pc ls [.int v]) :=
  hQ ▸ W.iret hx hb hr (fun t ht hWm => ⟨⟨v, u, rfl, hp, by rw [ht, hw]; exact hW.1, va_K.moved hWm.alike hK, by rw [hw]; exact hW.2.1⟩, hW.2.2.F ht⟩) hW.2.2.2.2 hdg hlocks
theorem eZ {S : Type} {post : Int32 → S → Prop} {w1 : S → va_W} {v : Int32} (hQ : Q = MQ below (QiA D cy post w1 A) args s cells slots A) (hx : p.tables.exec = Jvm.exec) (hb : c.code = cc) (hr : meth.sig.returnType = some .boolean) (hlocks : meth.locks = false) (hK : va_K D vwCl (TYS cy) s) (hW : Wd D A s ws H locs) (u : S) (hp : post v u) (hw : w1 u = ws) (hv : v = 0 ∨ v = 1) (hdg : decode cc pc = .ok (.ireturn, 1)) : W p l e R s m args below meth c H locs cells slots Q (F0 m pc ls [.int v]) :=
  hQ ▸ W.zret hx hb hr (by rcases hv with rfl | rfl <;> rfl) (fun t ht hWm => ⟨⟨v, u, rfl, hp, by rw [ht, hw]; exact hW.1, va_K.moved hWm.alike hK, by rw [hw]; exact hW.2.1⟩, hW.2.2.F ht⟩) hW.2.2.2.2 hdg hlocks
theorem eV {S : Type} {post : S → Prop} {w1 : S → va_W} (hQ : Q = MQ below (QvA D cy post w1 A) args s cells slots A) (hx : p.tables.exec = Jvm.exec) (hb : c.code = cc) (hr : meth.sig.returnType = none) (hlocks : meth.locks = false) (hK : va_K D vwCl (TYS cy) s) (hW : Wd D A s ws H locs) (u : S) (hp : post u) (hw : w1 u = ws) (hdg : decode cc pc = .ok (.return_, 1)) : W p l e R s m args below meth c H locs cells slots Q (F0 m pc ls []) :=
  hQ ▸ W.vret hx hb hr (fun t ht hWm => ⟨⟨u, rfl, hp, by rw [ht, hw]; exact hW.1, va_K.moved hWm.alike hK, by rw [hw]; exact hW.2.1⟩, hW.2.2.F ht⟩) hW.2.2.2.2 hdg hlocks
/-- compares of numbers -/
theorem iGe {a b : Nat} (hx : p.tables.exec = Jvm.exec) (hb : c.code = cc) {off : Int} {tgt : Nat} (hdg : decode cc pc = .ok (.if_icmp .ge off, 3)) (ht : (pc : Int) + off = (tgt : Int)) (h1 : a < 2 ^ 31) (h2 : b < 2 ^ 31) (kt : b ≤ a → W p l e R s m args below meth c H locs cells slots Q (F0 m tgt ls rest)) (kf : a < b → W p l e R s m args below meth c H locs cells slots Q (F0 m (pc + 3) ls rest)) : W p l e R s m args below meth c H locs cells slots Q (F0 m pc ls (.int (nI b) :: .int (nI a) :: rest)) :=
  lv_icmp_ge hx hb hdg ht (fun h => kt ((nI_leI h2 h1).mp h)) (fun h => kf (Nat.not_le.mp fun q => h ((nI_leI h2 h1).mpr q)))
theorem iGt {a b : Nat} (hx : p.tables.exec = Jvm.exec) (hb : c.code = cc) {off : Int} {tgt : Nat} (hdg : decode cc pc = .ok (.if_icmp .gt off, 3)) (ht : (pc : Int) + off = (tgt : Int)) (h1 : a < 2 ^ 31) (h2 : b < 2 ^ 31) (kt : b < a → W p l e R s m args below meth c H locs cells slots Q (F0 m tgt ls rest)) (kf : a ≤ b → W p l e R s m args below meth c H locs cells slots Q (F0 m (pc + 3) ls rest)) : W p l e R s m args below meth c H locs cells slots Q (F0 m pc ls (.int (nI b) :: .int (nI a) :: rest)) :=
  lv_icmp_gt hx hb hdg ht (fun h => kt ((nI_ltI h2 h1).mp h)) (fun h => kf (Nat.not_lt.mp fun q => h ((nI_ltI h2 h1).mpr q)))
theorem iLt {a b : Nat} (hx : p.tables.exec = Jvm.exec) (hb : c.code = cc) {off : Int} {tgt : Nat} (hdg : decode cc pc = .ok (.if_icmp .lt off, 3)) (ht : (pc : Int) + off = (tgt : Int)) (h1 : a < 2 ^ 31) (h2 : b < 2 ^ 31) (kt : a < b → W p l e R s m args below meth c H locs cells slots Q (F0 m tgt ls rest)) (kf : b ≤ a → W p l e R s m args below meth c H locs cells slots Q (F0 m (pc + 3) ls rest)) : W p l e R s m args below meth c H locs cells slots Q (F0 m pc ls (.int (nI b) :: .int (nI a) :: rest)) :=
  lv_icmp_lt hx hb hdg ht (fun h => kt ((nI_ltI h1 h2).mp h)) (fun h => kf (Nat.not_lt.mp fun q => h ((nI_ltI h1 h2).mpr q)))
theorem iLe {a b : Nat} (hx : p.tables.exec = Jvm.exec) (hb : c.code = cc) {off : Int} {tgt : Nat} (hdg : decode cc pc = .ok (.if_icmp .le off, 3)) (ht : (pc : Int) + off = (tgt : Int)) (h1 : a < 2 ^ 31) (h2 : b < 2 ^ 31) (kt : a ≤ b → W p l e R s m args below meth c H locs cells slots Q (F0 m tgt ls rest)) (kf : b < a → W p l e R s m args below meth c H locs cells slots Q (F0 m (pc + 3) ls rest)) : W p l e R s m args below meth c H locs cells slots Q (F0 m pc ls (.int (nI b) :: .int (nI a) :: rest)) :=
  lv_icmp_le hx hb hdg ht (fun h => kt ((nI_leI h1 h2).mp h)) (fun h => kf (Nat.not_le.mp fun q => h ((nI_leI h1 h2).mpr q)))
theorem iEq {a b : Nat} (hx : p.tables.exec = Jvm.exec) (hb : c.code = cc) {off : Int} {tgt : Nat} (hdg : decode cc pc = .ok (.if_icmp .eq off, 3)) (ht : (pc : Int) + off = (tgt : Int)) (h1 : a < 2 ^ 31) (h2 : b < 2 ^ 31) (kt : a = b → W p l e R s m args below meth c H locs cells slots Q (F0 m tgt ls rest)) (kf : a ≠ b → W p l e R s m args below meth c H locs cells slots Q (F0 m (pc + 3) ls rest)) : W p l e R s m args below meth c H locs cells slots Q (F0 m pc ls (.int (nI b) :: .int (nI a) :: rest)) :=
  lv_icmp_eq hx hb hdg ht (fun h => kt ((nI_eq h1 h2).mp h)) (fun h => kf fun q => h ((nI_eq h1 h2).mpr q))
theorem iNe {a b : Nat} (hx : p.tables.exec = Jvm.exec) (hb : c.code = cc) {off : Int} {tgt : Nat} (hdg : decode cc pc = .ok (.if_icmp .ne off, 3)) (ht : (pc : Int) + off = (tgt : Int)) (h1 : a < 2 ^ 31) (h2 : b < 2 ^ 31) (kt : a ≠ b → W p l e R s m args below meth c H locs cells slots Q (F0 m tgt ls rest)) (kf : a = b → W p l e R s m args below meth c H locs cells slots Q (F0 m (pc + 3) ls rest)) : W p l e R s m args below meth c H locs cells slots Q (F0 m pc ls (.int (nI b) :: .int (nI a) :: rest)) :=
  lv_icmp_ne hx hb hdg ht (fun h => kt fun q => h ((nI_eq h1 h2).mpr q)) (fun h => kf ((nI_eq h1 h2).mp h))
/-- rows of arrays, by numbers -/
theorem rI {a k n : Nat} {f : Nat → Int32} (hx : p.tables.exec = Jvm.exec) (hb : c.code = cc) (hK : va_K D vwCl (TYS cy) s) (hW : Wd D A s ws H locs) (q0 : Nat) (ha : ws[q0]? = some (a, .inl (cy 0, n, .inl f))) (hk : k < n) (hn : n < 2 ^ 31) (hdg : decode cc pc = .ok (.iaload, 1))
    (kk : W p l e R s m args below meth c H locs cells slots Q (F0 m (pc + 1) ls (.int (f k) :: rest))) : W p l e R s m args below meth c H locs cells slots Q (F0 m pc ls (.int (nI k) :: .ref a :: rest)) :=
  va_iald hx hb hK hW.1 q0 0 ha rfl (vp_in_nI hk hn) hdg (by rw [nI_clamp (by omega)]; exact kk)
theorem rB {a k n : Nat} {f : Nat → Int32} (hx : p.tables.exec = Jvm.exec) (hb : c.code = cc) (hK : va_K D vwCl (TYS cy) s) (hW : Wd D A s ws H locs) (q0 : Nat) (ha : ws[q0]? = some (a, .inl (cy 1, n, .inl f))) (hk : k < n) (hn : n < 2 ^ 31) (hdg : decode cc pc = .ok (.baload, 1))
    (kk : W p l e R s m args below meth c H locs cells slots Q (F0 m (pc + 1) ls (.int (f k) :: rest))) : W p l e R s m args below meth c H locs cells slots Q (F0 m pc ls (.int (nI k) :: .ref a :: rest)) :=
  va_bald hx hb hK hW.1 q0 1 ha rfl (vp_in_nI hk hn) hdg (by rw [nI_clamp (by omega)]; exact kk)
theorem rZ {a k n : Nat} {f : Nat → Int32} (hx : p.tables.exec = Jvm.exec) (hb : c.code = cc) (hK : va_K D vwCl (TYS cy) s) (hW : Wd D A s ws H locs) (q0 : Nat) (ha : ws[q0]? = some (a, .inl (cy 2, n, .inl f))) (hk : k < n) (hn : n < 2 ^ 31) (hdg : decode cc pc = .ok (.baload, 1))
    (kk : W p l e R s m args below meth c H locs cells slots Q (F0 m (pc + 1) ls (.int (f k) :: rest))) : W p l e R s m args below meth c H locs cells slots Q (F0 m pc ls (.int (nI k) :: .ref a :: rest)) :=
  va_zald hx hb hK hW.1 q0 2 ha rfl (vp_in_nI hk hn) hdg (by rw [nI_clamp (by omega)]; exact kk)
theorem wI {a k n : Nat} {f : Nat → Int32} {x : Int32} (hx : p.tables.exec = Jvm.exec) (hb : c.code = cc) (hK : va_K D vwCl (TYS cy) s) (hW : Wd D A s ws H locs) (q0 : Nat) (ha : ws[q0]? = some (a, .inl (cy 0, n, .inl f))) (hk : k < n) (hn : n < 2 ^ 31) (hdg : decode cc pc = .ok (.iastore, 1))
    (kk : ∀ (H1 : Heap) (locs1 : List Loc), Wd D A s (ws.set q0 (a, .inl (cy 0, n, .inl (upd f k x)))) H1 locs1 → W p l e R s m args below meth c H1 locs1 cells slots Q (F0 m (pc + 1) ls rest)) : W p l e R s m args below meth c H locs cells slots Q (F0 m pc ls (.int x :: .int (nI k) :: .ref a :: rest)) :=
  va_iast hx hb hK hW.1 hW.2.1 hW.2.2 q0 0 ha rfl (vp_in_nI hk hn) hdg (fun H1 locs1 hP hD hS => by rw [nI_clamp (by omega)] at hP hD; exact kk H1 locs1 ⟨hP, hD, hS⟩)
theorem wB {a k n : Nat} {f : Nat → Int32} {x x' : Int32} (hx : p.tables.exec = Jvm.exec) (hb : c.code = cc) (hK : va_K D vwCl (TYS cy) s) (hW : Wd D A s ws H locs) (q0 : Nat) (ha : ws[q0]? = some (a, .inl (cy 1, n, .inl f))) (hk : k < n) (hn : n < 2 ^ 31) (hv : vp_nar .byte x = x') (hdg : decode cc pc = .ok (.bastore, 1))
    (kk : ∀ (H1 : Heap) (locs1 : List Loc), Wd D A s (ws.set q0 (a, .inl (cy 1, n, .inl (upd f k x')))) H1 locs1 → W p l e R s m args below meth c H1 locs1 cells slots Q (F0 m (pc + 1) ls rest)) : W p l e R s m args below meth c H locs cells slots Q (F0 m pc ls (.int x :: .int (nI k) :: .ref a :: rest)) :=
  va_bast hx hb hK hW.1 hW.2.1 hW.2.2 q0 1 ha rfl (vp_in_nI hk hn) hdg (fun H1 locs1 hP hD hS => by rw [nI_clamp (by omega), hv] at hP hD; exact kk H1 locs1 ⟨hP, hD, hS⟩)
theorem wZ {a k n : Nat} {f : Nat → Int32} {x x' : Int32} (hx : p.tables.exec = Jvm.exec) (hb : c.code = cc) (hK : va_K D vwCl (TYS cy) s) (hW : Wd D A s ws H locs) (q0 : Nat) (ha : ws[q0]? = some (a, .inl (cy 2, n, .inl f))) (hk : k < n) (hn : n < 2 ^ 31) (hv : vp_nar .boolean x = x') (hdg : decode cc pc = .ok (.bastore, 1))
    (kk : ∀ (H1 : Heap) (locs1 : List Loc), Wd D A s (ws.set q0 (a, .inl (cy 2, n, .inl (upd f k x')))) H1 locs1 → W p l e R s m args below meth c H1 locs1 cells slots Q (F0 m (pc + 1) ls rest)) : W p l e R s m args below meth c H locs cells slots Q (F0 m pc ls (.int x :: .int (nI k) :: .ref a :: rest)) :=
  va_zast hx hb hK hW.1 hW.2.1 hW.2.2 q0 2 ha rfl (vp_in_nI hk hn) hdg (fun H1 locs1 hP hD hS => by rw [nI_clamp (by omega), hv] at hP hD; exact kk H1 locs1 ⟨hP, hD, hS⟩)
/-- START, ORDER -/
theorem rS {k : Nat} {n : Nat} {g : Nat → Int32} {tt : Nat} (hx : p.tables.exec = Jvm.exec) (hb : c.code = cc) (hT : va_T .int tt n (fun k => .int (g k)) A s s.heap) (hW : Wd D A s ws H locs) (hk : k < n) (hn : n < 2 ^ 31) (hdg : decode cc pc = .ok (.iaload, 1))
    (kk : W p l e R s m args below meth c H locs cells slots Q (F0 m (pc + 1) ls (.int (g k) :: rest))) : W p l e R s m args below meth c H locs cells slots Q (F0 m pc ls (.int (nI k) :: .ref tt :: rest)) :=
  va_ti hx hb hT hW.2.2 (vp_in_nI hk hn) (by rw [nI_clamp (by omega)]) hdg kk
theorem alI {a n : Nat} {f : Nat → Int32} (hx : p.tables.exec = Jvm.exec) (hb : c.code = cc) (hK : va_K D vwCl (TYS cy) s) (hW : Wd D A s ws H locs) (q0 t0 : Nat) {ci : Nat} {ty : FieldType} (ht : (TYS cy)[t0]? = some (cy ci, ty)) (ha : ws[q0]? = some (a, .inl (cy ci, n, .inl f))) (hdg : decode cc pc = .ok (.arraylength, 1))
    (kk : W p l e R s m args below meth c H locs cells slots Q (F0 m (pc + 1) ls (.int (nI n) :: rest))) : W p l e R s m args below meth c H locs cells slots Q (F0 m pc ls (.ref a :: rest)) :=
  va_alen hx hb hK hW.1 q0 t0 ha ht rfl hdg kk
/-- tests of a number against 0 -/
theorem zLt {a : Nat} (hx : p.tables.exec = Jvm.exec) (hb : c.code = cc) {off : Int} {tgt : Nat} (hdg : decode cc pc = .ok (.ifCond .lt off, 3)) (ht : (pc : Int) + off = (tgt : Int)) (h1 : a < 2 ^ 31) (kf : W p l e R s m args below meth c H locs cells slots Q (F0 m (pc + 3) ls rest)) : W p l e R s m args below meth c H locs cells slots Q (F0 m pc ls (.int (nI a) :: rest)) :=
  lv_if_lt hx hb hdg ht (fun h => absurd h (nI_pos h1)) (fun _ => kf)
theorem zGe {a : Nat} (hx : p.tables.exec = Jvm.exec) (hb : c.code = cc) {off : Int} {tgt : Nat} (hdg : decode cc pc = .ok (.ifCond .ge off, 3)) (ht : (pc : Int) + off = (tgt : Int)) (h1 : a < 2 ^ 31) (kt : W p l e R s m args below meth c H locs cells slots Q (F0 m tgt ls rest)) : W p l e R s m args below meth c H locs cells slots Q (F0 m pc ls (.int (nI a) :: rest)) :=
  lv_if_ge hx hb hdg ht (fun _ => kt) (fun h => absurd (nI_pos' h1) h)
theorem zEq {a : Nat} (hx : p.tables.exec = Jvm.exec) (hb : c.code = cc) {off : Int} {tgt : Nat} (hdg : decode cc pc = .ok (.ifCond .eq off, 3)) (ht : (pc : Int) + off = (tgt : Int)) (h1 : a < 2 ^ 31) (kt : a = 0 → W p l e R s m args below meth c H locs cells slots Q (F0 m tgt ls rest)) (kf : a ≠ 0 → W p l e R s m args below meth c H locs cells slots Q (F0 m (pc + 3) ls rest)) : W p l e R s m args below meth c H locs cells slots Q (F0 m pc ls (.int (nI a) :: rest)) :=
  lv_if_eq hx hb hdg ht (fun h => kt ((nI_eq h1 (by decide)).mp (h.trans nI_0.symm))) (fun h => kf (fun q => h (by rw [q]; exact nI_0)))
theorem zNe {a : Nat} (hx : p.tables.exec = Jvm.exec) (hb : c.code = cc) {off : Int} {tgt : Nat} (hdg : decode cc pc = .ok (.ifCond .ne off, 3)) (ht : (pc : Int) + off = (tgt : Int)) (h1 : a < 2 ^ 31) (kt : a ≠ 0 → W p l e R s m args below meth c H locs cells slots Q (F0 m tgt ls rest)) (kf : a = 0 → W p l e R s m args below meth c H locs cells slots Q (F0 m (pc + 3) ls rest)) : W p l e R s m args below meth c H locs cells slots Q (F0 m pc ls (.int (nI a) :: rest)) :=
  lv_if_ne hx hb hdg ht (fun h => kt (fun q => h (by rw [q]; exact nI_0))) (fun h => kf ((nI_eq h1 (by decide)).mp (h.trans nI_0.symm)))
theorem zGt {a : Nat} (hx : p.tables.exec = Jvm.exec) (hb : c.code = cc) {off : Int} {tgt : Nat} (hdg : decode cc pc = .ok (.ifCond .gt off, 3)) (ht : (pc : Int) + off = (tgt : Int)) (h1 : a < 2 ^ 31) (kt : 0 < a → W p l e R s m args below meth c H locs cells slots Q (F0 m tgt ls rest)) (kf : a = 0 → W p l e R s m args below meth c H locs cells slots Q (F0 m (pc + 3) ls rest)) : W p l e R s m args below meth c H locs cells slots Q (F0 m pc ls (.int (nI a) :: rest)) :=
  lv_if_gt hx hb hdg ht (fun h => kt ((nI_ltI (by decide) h1).mp (by rw [nI_0]; exact h))) (fun h => kf (Nat.eq_zero_of_not_pos (fun q => h (by rw [← nI_0]; exact (nI_ltI (by decide) h1).mpr q))))
theorem zLe {a : Nat} (hx : p.tables.exec = Jvm.exec) (hb : c.code = cc) {off : Int} {tgt : Nat} (hdg : decode cc pc = .ok (.ifCond .le off, 3)) (ht : (pc : Int) + off = (tgt : Int)) (h1 : a < 2 ^ 31) (kt : a = 0 → W p l e R s m args below meth c H locs cells slots Q (F0 m tgt ls rest)) (kf : 0 < a → W p l e R s m args below meth c H locs cells slots Q (F0 m (pc + 3) ls rest)) : W p l e R s m args below meth c H locs cells slots Q (F0 m pc ls (.int (nI a) :: rest)) :=
  lv_if_le hx hb hdg ht (fun h => kt (Nat.le_zero.mp ((nI_leI h1 (by decide)).mp (by rw [nI_0]; exact h)))) (fun h => kf (Nat.pos_of_ne_zero (fun q => h (by rw [q, nI_0]; exact Int32.le_refl _))))
end BASEC
