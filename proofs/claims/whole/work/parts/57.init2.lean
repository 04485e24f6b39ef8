theorem ord_ok : ∀ k, k < 16 → (((-8076822537876036766 : Int64) >>> ((nI (4 * k)).toInt64 &&& 63)) &&& (15 : Int64)).toInt32 = nI (orN k) := by decide +kernel
theorem sta_ok : ∀ k, k < 8 → upd (upd (upd (upd (upd (upd (upd (upd (fun _ => nI 0) 0 (nI 1779033703)) 1 (-1150833019 : Int32)) 2 (nI 1013904242)) 3 (-1521486534 : Int32)) 4 (nI 1359893119)) 5 (-1694144372 : Int32)) 6 (nI 528734635)) 7 (nI 1541459225) k = stA k := by decide +kernel
theorem Wd.extq {D : va_G} {A : Nat → Prop} {s : State} {ws : va_W} {H : Heap} {locs : List Loc} {a n : Nat} {cA : ClassId} {f : Nat → Option Nat} (hW : Wd D A s ws H locs) (q0 : Nat) (he : ws[q0]? = some (a, .inl (cA, n, .inr (.inr (.inr (.inr f)))))) (g : Nat → Option Nat) (h : ∀ k, k < n → f k = g k) : Wd D A s (ws.set q0 (a, .inl (cA, n, .inr (.inr (.inr (.inr g)))))) H locs := by
  refine ⟨hW.1.set hW.2.1 he ?_ (fun _ _ => rfl), hW.2.1.set he, hW.2.2⟩
  have h1 : H[a]? = some (vp_cell cA (n, .inr (.inr (.inr (.inr f))))) := hW.1 q0 _ he
  show H[a]? = some (vp_cell cA (n, .inr (.inr (.inr (.inr g)))))
  rw [h1]
  have e : (Array.ofFn (n := n) fun j => va_rf (f j.val)) = Array.ofFn (n := n) fun j => va_rf (g j.val) := by
    congr 1
    funext j
    rw [h j.val j.isLt]
  simp only [vp_cell, arrV, e]
def PcX (D : va_G) (cy : Nat → ClassId) (t : Nat × Nat) (ws : va_W) (av : List Value) (sz : Nat) : Array Value → State → Prop := fun a U => PcW D cy t ws av sz a U ∧ va_AO RX0 U ∧ va_AO RX1 U
theorem PcX.blind {D : va_G} {cy : Nat → ClassId} {t : Nat × Nat} {ws : va_W} {av : List Value} {sz : Nat} : FrameBlind (PcX D cy t ws av sz) := fun a U g mk q => ⟨PcW.blind a U g mk q.1, va_AO.moved (u := U) (U := U.calling g mk a) (Vm.Alike.refl U.vm) q.2.1, va_AO.moved (u := U) (U := U.calling g mk a) (Vm.Alike.refl U.vm) q.2.2⟩
theorem M_ofX {l : Launch} {y : MethodName} {ws ws' : List Cond} {rm : Room} {cc : ByteArray} {maxL : Nat} {ret : Option FieldType} {D : va_G} {cy : Nat → ClassId} {t : Nat × Nat} {sz : Nat} {wd : va_W} {av : List Value} {Qa : (Nat → Prop) → Array Value → State → Outcome → State → Prop} {mc ms : Nat}
    (hy : plainName y.cls = true) (hw : ws = Cond.code y cc maxL ret :: ws') (hlen : (lg_sl av).length ≤ maxL)
    (body : ∀ (p : Program) (e : Env) (s : State) (m : MethodId) (below : List Frame) (meth : Method) (c : Code) (A : Nat → Prop) (ls : Array Slot) (args : Array Value) (Q : State → Prop), Q = MQ below (Qa A) args s mc ms A → CallFix p m c cc maxL s args ws y.cls → meth.sig.returnType = ret → meth.locks = false → (meth.name = y.name) → va_K D vwCl (TYS cy) s → Stat t A s s.heap → (∀ q, s.heap.size ≤ q → A q) → Wd D A s wd s.heap [] → lv_has ls maxL (lv_args 0 av) → va_AO RX0 s → va_AO RX1 s →
      W p l e rm s m args below meth c s.heap [] 0 0 Q (F0 m 0 ls [])) : Met l y ws rm (PcX D cy t wd av sz) (Qa (va_A wd sz)) mc ms (va_A wd sz) := by
  refine Met.ofW (cc := cc) (maxL := maxL) (ret := ret) hy hw ?_
  intro p e s m args below meth c s₁ B hml hv
  obtain ⟨⟨rfl, hsz, hP, hK, hD0, hst⟩, hO0, hO1⟩ := hv
  have hts := atoms_spec (ws := ws) B.pre
  subst hsz
  have hD := hD0.self (sz := s.heap.size)
  have hl := lv_entry av (n := maxL) hlen
  rw [lg_entry_eq]
  exact body p e s m below meth c _ _ _ _ rfl ⟨B.exec, B.bytes, hml, findClass_of_methodNamed B.named, hts⟩ B.returns B.notSynchronized (name_of_methodNamed B.named B.method).1 hK hst (fun q h => Or.inr h) ⟨hP, hD, va_S.rf⟩ hl hO0 hO1
