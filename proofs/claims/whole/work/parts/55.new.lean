theorem putW_app {A0 : Nat → Prop} {D : va_G} {cl : List vw_C} {ws wc w1 w2 : va_W} {H H1 : Heap} (hP : va_P D cl ws H) (hD : va_D A0 ws) (isC : List Nat) (hC : isC.map (fun i => ws[i]?) = wc.map some) (hl : w1.length = isC.length)
    (hk : ∀ q : Nat, q < H.size → ¬ va_A wc H.size q → H1[q]? = H[q]?) (hF : ∀ q, va_A wc H.size q → A0 q) (hP1 : va_P D cl (w1 ++ w2) H1) (hD1 : va_D (va_A wc H.size) (w1 ++ w2)) : va_P D cl (putW ws isC w1 ++ w2) H1 ∧ va_D A0 (putW ws isC w1 ++ w2) := by
  have hPa : va_P D cl w1 H1 := fun k q hq => hP1 k q (by rw [List.getElem?_append_left (List.getElem?_eq_some_iff.mp hq).1]; exact hq)
  have hsh : ∀ (k : Nat) (q : Nat × va_E), w2[k]? = some q → (w1 ++ w2)[w1.length + k]? = some q := fun k q hq => by rw [List.getElem?_append_right (Nat.le_add_right _ _), Nat.add_sub_cancel_left]; exact hq
  have hlo : ∀ (k : Nat) (q : Nat × va_E), w1[k]? = some q → (w1 ++ w2)[k]? = some q ∧ k < w1.length := fun k q hq => ⟨by rw [List.getElem?_append_left (List.getElem?_eq_some_iff.mp hq).1]; exact hq, (List.getElem?_eq_some_iff.mp hq).1⟩
  have hPb : va_P D cl w2 H1 := fun k q hq => hP1 _ q (hsh k q hq)
  have hDa : va_D (va_A wc H.size) w1 := ⟨fun i j p q hp hq e => hD1.1 i j p q (hlo i p hp).1 (hlo j q hq).1 e, fun k q hq => hD1.2 k q (hlo k q hq).1⟩
  have hDb : va_D (va_A wc H.size) w2 := ⟨fun i j p q hp hq e => by have := hD1.1 _ _ p q (hsh i p hp) (hsh j q hq) e; omega, fun k q hq => hD1.2 _ q (hsh k q hq)⟩
  obtain ⟨a1, a2⟩ := putW_ok hP hD isC hC hl hk hF hPa hDa
  refine ⟨va_P.app a1 hPb, va_D.app a2 (hDb.weaken (fun k q _ h => hF q.1 h)) (fun i j x y hx hy hxy => ?_)⟩
  rcases putW_at isC w1 ws hl i x hx with ⟨j1, h1, h2⟩ | ⟨h1, h2⟩
  · have := hD1.1 _ _ x y (hlo j1 x h2).1 (hsh j y hy) hxy
    have := (hlo j1 x h2).2
    omega
  · have hlt := (hP i x h2).lt
    rcases hDb.2 j y hy with ⟨k2, e, h⟩ | h
    · have h3 : (isC.map (fun i => ws[i]?))[k2]? = some (some (y.1, e)) := by rw [hC, List.getElem?_map, h]; rfl
      rw [List.getElem?_map] at h3
      cases hi : isC[k2]? with
      | none => rw [hi] at h3; cases h3
      | some z =>
        rw [hi] at h3
        have := hD.1 i z x (y.1, e) h2 (Option.some.inj h3) hxy
        subst this
        exact h1 (List.mem_of_getElem? hi)
    · rw [← hxy] at h
      omega
section NEWC
variable {p : Program} {l : Launch} {e : Env} {R : Room} {s : State} {m : MethodId} {args : Array Value} {below : List Frame} {meth : Method} {c : Code} {H : Heap} {locs : List Loc} {cells slots : Nat} {Q : State → Prop}
variable {y : MethodName} {bytes cc : ByteArray} {maxL nL mc ms n index pc : Nat} {wy : List Cond} {rm : Room} {Ts : List Cond} {own host : String} {b : Addr} {As rest st : List Value} {ls : Array Slot} {D : va_G} {cy : Nat → ClassId} {t : Nat × Nat} {A : Nat → Prop} {ws wc : va_W}
theorem kIx {S : Type} {post : S → Prop} {wa wb : S → va_W} (hA : ∀ q, s.heap.size ≤ q → A q) (hW : Wd D A s ws H locs) (isC : List Nat) (hC : isC.map (fun i => ws[i]?) = wc.map some) (hl : ∀ u, (wa u).length = isC.length) {a : Array Value}
    (hr : va_Run p l e R s m args below meth c H locs cells slots mc ms (F0 m pc ls st) rest (QvA D cy post (fun u => wa u ++ wb u) (va_A wc H.size) a) (va_A wc H.size))
    (kk : ∀ (u : S) (H1 : Heap) (locs1 : List Loc), post u → Wd D A s (putW ws isC (wa u) ++ wb u) H1 locs1 → W p l e R s m args below meth c H1 locs1 (cells + mc) (slots + ms) Q (F0 m (pc + 3) ls rest)) : W p l e R s m args below meth c H locs cells slots Q (F0 m pc ls st) := by
  have hFc := va_free hW.2.1 hW.2.2 hA isC hC
  refine va_callv hr hW.2.2 (fun q _ h => hFc q h) hFc (fun u U H1 locs1 ht hvm hp hB hz1 hk1 hS => kk u H1 locs1 hp ?_)
  obtain ⟨hP1, -, hD1⟩ := hB
  rw [ht] at hP1
  obtain ⟨a1, a2⟩ := putW_app hW.1 hW.2.1 isC hC (hl u) hk1 hFc hP1 hD1
  exact ⟨a1, a2, hS⟩
/-- a constructor -/
theorem kI {S : Type} {post : S → Prop} {wa wb : S → va_W} (S0 : CallFix p m c cc nL s args Ts own) (hK : va_K D vwCl (TYS cy) s) (hst : Stat t A s s.heap) (hA : ∀ q, s.heap.size ≤ q → A q) (hW : Wd D A s ws H locs) (isC : List Nat) (hM : ∀ sz, Met l y wy rm (PcW D cy t wc (.ref b :: As) sz) (QvA D cy post (fun u => wa u ++ wb u) (va_A wc sz)) mc ms (va_A wc sz)) (hC : isC.map (fun i => ws[i]?) = wc.map some) (hnd : va_nd isC = true) (cw : CallB R s args own index y bytes maxL none wy rm mc ms n ∧ y.name = "<init>" ∧ (Cond.instanceMethod y).before args s = true) (hl : ∀ u, (wa u).length = isC.length)
    (hn : As.length = n) (hsize : ls.size = nL) (hst0 : st = As.reverse ++ .ref b :: rest) (hroom : (rest.map fun v => v.category).sum ≤ 8) (hdg : decode cc pc = .ok (.invokespecial index, 3)) (hf : cells + mc ≤ R.cells ∧ slots + ms ≤ R.slots)
    (kk : ∀ (u : S) (H1 : Heap) (locs1 : List Loc), post u → Wd D A s (putW ws isC (wa u) ++ wb u) H1 locs1 → W p l e R s m args below meth c H1 locs1 (cells + mc) (slots + ms) Q (F0 m (pc + 3) ls rest)) : W p l e R s m args below meth c H locs cells slots Q (F0 m pc ls st) := by
  obtain ⟨pb, pp⟩ := Wd.pre (cy := cy) (t := t) hK hst hA hW isC hC hnd (.ref b :: As)
  exact kIx hA hW isC hC hl (va_runI S0 (hM H.size) cw ⟨pb, pp⟩ rfl hn hsize hst0 (lv_room (m := m) (pc := pc) (ls := ls) (rest := st) hroom) hdg hf) kk
theorem kIN {S : Type} {post : S → Prop} {wa wb : S → va_W} (S0 : CallFix p m c cc nL s args Ts own) (hK : va_K D vwCl (TYS cy) s) (hst : Stat t A s s.heap) (hA : ∀ q, s.heap.size ≤ q → A q) (hW : Wd D A s ws H locs) (isC : List Nat) (hM : ∀ sz, Met l y wy rm (PcW D cy t wc (.ref b :: As) sz) (QvA D cy post (fun u => wa u ++ wb u) (va_A wc sz)) mc ms (va_A wc sz)) (hC : isC.map (fun i => ws[i]?) = wc.map some) (hnd : va_nd isC = true) (cw : va_CN R s args own index y host bytes maxL none wy rm mc ms n ∧ y.name = "<init>" ∧ (Cond.instanceMethod y).before args s = true) (hl : ∀ u, (wa u).length = isC.length)
    (hn : As.length = n) (hsize : ls.size = nL) (hst0 : st = As.reverse ++ .ref b :: rest) (hroom : (rest.map fun v => v.category).sum ≤ 8) (hdg : decode cc pc = .ok (.invokespecial index, 3)) (hf : cells + mc ≤ R.cells ∧ slots + ms ≤ R.slots)
    (kk : ∀ (u : S) (H1 : Heap) (locs1 : List Loc), post u → Wd D A s (putW ws isC (wa u) ++ wb u) H1 locs1 → W p l e R s m args below meth c H1 locs1 (cells + mc) (slots + ms) Q (F0 m (pc + 3) ls rest)) : W p l e R s m args below meth c H locs cells slots Q (F0 m pc ls st) := by
  obtain ⟨pb, pp⟩ := Wd.pre (cy := cy) (t := t) hK hst hA hW isC hC hnd (.ref b :: As)
  exact kIx hA hW isC hC hl (va_runIN S0 (hM H.size) cw ⟨pb, pp⟩ rfl hn hsize hst0 (lv_room (m := m) (pc := pc) (ls := ls) (rest := st) hroom) hdg hf) kk
theorem nwA {aty : ArrayType} {ty : FieldType} {N t0 : Nat} (hx : p.tables.exec = Jvm.exec) (hb : c.code = cc) (harr : (Cond.arrayClass (newarray.typeOf aty)).before args s = true) (hty : newarray.typeOf aty = ty) (hdef : defaultValue ty = .int 0) (hRA : ∀ cA, va_RA s cA ty → s.vm.findClass ("[" ++ ty.toString) = some cA) (ht : (TYS cy)[t0]? = some (cy t0, ty)) (hK : va_K D vwCl (TYS cy) s) (hA : ∀ q, s.heap.size ≤ q → A q) (hW : Wd D A s ws H locs) (hN : N < 2 ^ 31) (hbytes : N * componentBytes ty ≤ 536870912) (hcells : cells + 1 ≤ R.cells) (hslots : slots + N ≤ R.slots) (hdg : decode cc pc = .ok (.newarray aty, 2))
    (kk : ∀ (q : Nat) (H1 : Heap), Wd D A s (ws ++ [(q, .inl (cy t0, N, .inl (fun _ => nI 0)))]) H1 locs → W p l e R s m args below meth c H1 locs (cells + 1) (slots + N) Q (F0 m (pc + 2) ls (.ref q :: rest))) : W p l e R s m args below meth c H locs cells slots Q (F0 m pc ls (.int (nI N) :: rest)) := by
  refine va_newa (a0 := (N, .inl (fun _ => nI 0))) hx hb harr hty hK hW.1 hW.2.1 hW.2.2 hA (fun cA => by rw [hdef]; rfl) (nI_pos hN) (nI_clamp hN) hbytes hcells hslots hdg (fun q cA H1 hK2 hP hD hS => ?_)
  have h1 := hRA _ (hK2.2 (TYS cy).length (cA, ty) (by simp)).2
  have h2 := hRA _ (hK.2 t0 _ ht).2
  have e1 : cA = cy t0 := Option.some.inj (h1.symm.trans h2)
  subst e1
  exact kk q H1 ⟨hP, hD, hS⟩
theorem nwR {C : String} {N t0 : Nat} (hx : p.tables.exec = Jvm.exec) (hb : c.code = cc) (hown : s.vm.findClass own = some m.cls) (hclink : (Cond.classLink own index C).before args s = true) (hover : va_AO C s) (ht : (TYS cy)[t0]? = some (cy t0, .object C)) (hK : va_K D vwCl (TYS cy) s) (hA : ∀ q, s.heap.size ≤ q → A q) (hW : Wd D A s ws H locs) (hN : N < 2 ^ 31) (hbytes : N * 4 ≤ 536870912) (hcells : cells + 1 ≤ R.cells) (hslots : slots + N ≤ R.slots) (hdg : decode cc pc = .ok (.anewarray index, 3))
    (kk : ∀ (q : Nat) (H1 : Heap), Wd D A s (ws ++ [(q, .inl (cy t0, N, .inr (.inr (.inr (.inr (fun _ => none))))))]) H1 locs → W p l e R s m args below meth c H1 locs (cells + 1) (slots + N) Q (F0 m (pc + 3) ls (.ref q :: rest))) : W p l e R s m args below meth c H locs cells slots Q (F0 m pc ls (.int (nI N) :: rest)) := by
  refine va_newq hx hb hown hclink hover hK hW.1 hW.2.1 hW.2.2 hA (nI_pos hN) (nI_clamp hN) hbytes hcells hslots hdg (fun q cA H1 hK2 hP hD hS => ?_)
  obtain ⟨-, -, -, -, -, h1⟩ := (hK2.2 (TYS cy).length (cA, .object C) (by simp)).2
  obtain ⟨-, -, -, -, -, h2⟩ := (hK.2 t0 _ ht).2
  have e1 : cA = cy t0 := Option.some.inj (h1.symm.trans h2)
  subst e1
  exact kk q H1 ⟨hP, hD, hS⟩
theorem wA {a k n v t0 ci qk cj : Nat} {C : vw_C} {vs : List Value} {f : Nat → Option Nat} (hx : p.tables.exec = Jvm.exec) (hb : c.code = cc) (hK : va_K D vwCl (TYS cy) s) (hW : Wd D A s ws H locs) (q0 : Nat) (ht : (TYS cy)[t0]? = some (cy ci, .object C.1)) (ha : ws[q0]? = some (a, .inl (cy ci, n, .inr (.inr (.inr (.inr f)))))) (hv : ws[qk]? = some (v, .inr (cj, vs))) (hc : vwCl[cj]? = some C) (hk : k < n) (hn : n < 2 ^ 31) (hdg : decode cc pc = .ok (.aastore, 1))
    (kk : ∀ (H1 : Heap) (locs1 : List Loc), Wd D A s (ws.set q0 (a, .inl (cy ci, n, .inr (.inr (.inr (.inr (va_up f k (some v)))))))) H1 locs1 → W p l e R s m args below meth c H1 locs1 cells slots Q (F0 m (pc + 1) ls rest)) : W p l e R s m args below meth c H locs cells slots Q (F0 m pc ls (.ref v :: .int (nI k) :: .ref a :: rest)) :=
  va_astq hx hb hK hW.1 hW.2.1 hW.2.2 q0 t0 qk cj ha ht hv hc (vp_in_nI hk hn) hdg (fun H1 locs1 hP hD hS => by rw [nI_clamp (by omega)] at hP hD; exact kk H1 locs1 ⟨hP, hD, hS⟩)
end NEWC
theorem ra_int {s : State} : ∀ cA, va_RA s cA .int → s.vm.findClass ("[" ++ FieldType.int.toString) = some cA := fun _ h => h
theorem ra_byte {s : State} : ∀ cA, va_RA s cA .byte → s.vm.findClass ("[" ++ FieldType.byte.toString) = some cA := fun _ h => h
theorem ra_bool {s : State} : ∀ cA, va_RA s cA .boolean → s.vm.findClass ("[" ++ FieldType.boolean.toString) = some cA := fun _ h => h
