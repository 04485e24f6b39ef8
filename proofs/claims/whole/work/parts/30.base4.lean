set_option maxRecDepth 100000 in
theorem min_nI {a b : Nat} (ha : a < 2 ^ 31) (hb : b < 2 ^ 31) : (if nI b < nI a then nI b else nI a) = nI (if b < a then b else a) := by
  by_cases h : b < a
  · rw [if_pos h, if_pos ((nI_ltI hb ha).mpr h)]
  · rw [if_neg h, if_neg (fun q => h ((nI_ltI hb ha).mp q))]
section BASE4
variable {p : Program} {l : Launch} {e : Env} {R : Room} {s : State} {m : MethodId} {args : Array Value} {below : List Frame} {meth : Method} {c : Code} {H : Heap} {locs : List Loc} {cells slots : Nat} {Q : State → Prop}
variable {cc : ByteArray} {pc : Nat} {ls : Array Slot} {rest : List Value} {D : va_G} {cy : Nat → ClassId} {A : Nat → Prop} {ws : va_W}
set_option maxRecDepth 100000 in
theorem rA {a k n b t0 ci : Nat} {C : String} {f : Nat → Option Nat} (hx : p.tables.exec = Jvm.exec) (hb : c.code = cc) (hK : va_K D vwCl (TYS cy) s) (hW : Wd D A s ws H locs) (q0 : Nat) (ht : (TYS cy)[t0]? = some (cy ci, .object C)) (ha : ws[q0]? = some (a, .inl (cy ci, n, .inr (.inr (.inr (.inr f)))))) (hk : k < n) (hn : n < 2 ^ 31) (hf : f k = some b) (hdg : decode cc pc = .ok (.aaload, 1))
    (kk : W p l e R s m args below meth c H locs cells slots Q (F0 m (pc + 1) ls (.ref b :: rest))) : W p l e R s m args below meth c H locs cells slots Q (F0 m pc ls (.int (nI k) :: .ref a :: rest)) :=
  va_aldq hx hb hK hW.1 q0 t0 ha ht (vp_in_nI hk hn) hdg (by rw [nI_clamp (by omega), hf]; exact kk)
end BASE4
/-- how many chunks a file has; how long one is -/
def chks (n : Nat) : Nat := if n = 0 then 1 else (n - 1) / 1024 + 1
def cln (n c : Nat) : Nat := if n - c * 1024 < 1024 then n - c * 1024 else 1024
set_option maxRecDepth 100000 in
theorem chks_0 {n : Nat} (h : n = 0) : chks n = 1 := if_pos h
set_option maxRecDepth 100000 in
theorem chks_s {n : Nat} (h : n ≠ 0) : chks n = (n - 1) / 1024 + 1 := if_neg h
set_option maxRecDepth 100000 in
theorem chks_c {n c : Nat} (h : c < chks n) : c * 1024 ≤ n := by
  unfold chks at h
  split at h <;> omega
set_option maxRecDepth 100000 in
theorem chks_le {n : Nat} (h : n ≤ 1000000) : chks n ≤ 1024 := by
  unfold chks
  split <;> omega
set_option maxRecDepth 100000 in
theorem chks_pos (n : Nat) : 0 < chks n := by
  unfold chks
  split <;> omega
set_option maxRecDepth 100000 in
theorem chks_20 {n : Nat} (h : n ≤ 20000) : chks n ≤ 2 ^ 5 := by
  show chks n ≤ 32
  unfold chks
  split
  · decide
  · omega
set_option maxRecDepth 100000 in
theorem cln_le (n c : Nat) : cln n c ≤ 1024 := by
  unfold cln
  split
  · rename_i h
    exact Nat.le_of_lt h
  · exact Nat.le_refl _
set_option maxRecDepth 100000 in
theorem cln_n {n c : Nat} (h : c < chks n) : c * 1024 + cln n c ≤ n := by
  have := chks_c h
  unfold cln
  split <;> omega
set_option maxRecDepth 100000 in
theorem clo_le (t : Nat) : clo t ≤ t := by
  unfold clo
  omega
/-- how many bytes the other side has: its first chunk, its chunks -/
def oln (n first many : Nat) : Nat := if n - first * 1024 < many * 1024 then n - first * 1024 else many * 1024
set_option maxRecDepth 100000 in
theorem oln_le {n first many : Nat} (h : first * 1024 ≤ n) : first * 1024 + oln n first many ≤ n ∧ oln n first many ≤ n := by
  unfold oln
  split <;> omega
set_option maxRecDepth 100000 in
theorem first_le {n first many : Nat} (h : first + many ≤ chks n) (hm : 0 < many) : first * 1024 ≤ n := chks_c (by omega)
theorem rtN_h {K g : Nat → Int32} {bs : Int32} {fc t : Nat} : upN K bs (skS K bs g fc (clo t)) (hdp t) (hcf K bs g fc t, hbf g t, lN (fc + clo t), nI (hib t), (bs + nI (fst0 (hbk t))) + nI 2) = rtN K bs g fc t := by
  unfold rtN hdp ndC hcf hbf hib hbk
  rfl
theorem nd_eta (N : Nd) : ((N.1, N.2.1, N.2.2.1, N.2.2.2.1, N.2.2.2.2) : Nd) = N := rfl
theorem z_clo : clo 0 = 0 := rfl
theorem z_hdp : hdp 0 = 0 := by decide
theorem z_hbk : hbk 0 = 0 := by decide
theorem z_hib : hib 0 = 0 := by decide
theorem z_hcf {K g : Nat → Int32} {bs : Int32} {fc : Nat} : hcf K bs g fc 0 = K := by
  unfold hcf
  rw [z_hbk]
  rfl
theorem z_hbf {g : Nat → Int32} : hbf g 0 = fun _ => nI 0 := by
  unfold hbf
  rw [z_hib]
  rfl
