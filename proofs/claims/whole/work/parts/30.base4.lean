theorem min_nI {a b : Nat} (ha : a < 2 ^ 31) (hb : b < 2 ^ 31) : (if nI b < nI a then nI b else nI a) = nI (if b < a then b else a) := by
  by_cases h : b < a
  · rw [if_pos h, if_pos ((nI_ltI hb ha).mpr h)]
  · rw [if_neg h, if_neg (fun q => h ((nI_ltI hb ha).mp q))]
section BASE4
variable {p : Program} {l : Launch} {e : Env} {R : Room} {s : State} {m : MethodId} {args : Array Value} {below : List Frame} {meth : Method} {c : Code} {H : Heap} {locs : List Loc} {cells slots : Nat} {Q : State → Prop}
variable {cc : ByteArray} {pc : Nat} {ls : Array Slot} {rest : List Value} {D : va_G} {cy : Nat → ClassId} {A : Nat → Prop} {ws : va_W}
theorem rA {a k n b t0 ci : Nat} {C : String} {f : Nat → Option Nat} (hx : p.tables.exec = Jvm.exec) (hb : c.code = cc) (hK : va_K D vwCl (TYS cy) s) (hW : Wd D A s ws H locs) (q0 : Nat) (ht : (TYS cy)[t0]? = some (cy ci, .object C)) (ha : ws[q0]? = some (a, .inl (cy ci, n, .inr (.inr (.inr (.inr f)))))) (hk : k < n) (hn : n < 2 ^ 31) (hf : f k = some b) (hdg : decode cc pc = .ok (.aaload, 1))
    (kk : W p l e R s m args below meth c H locs cells slots Q (F0 m (pc + 1) ls (.ref b :: rest))) : W p l e R s m args below meth c H locs cells slots Q (F0 m pc ls (.int (nI k) :: .ref a :: rest)) :=
  va_aldq hx hb hK hW.1 q0 t0 ha ht (vp_in_nI hk hn) hdg (by rw [nI_clamp (by omega), hf]; exact kk)
end BASE4
/-- how many chunks a file has; how long one is -/
def chks (n : Nat) : Nat := if n = 0 then 1 else (n - 1) / 1024 + 1
def cln (n c : Nat) : Nat := if n - c * 1024 < 1024 then n - c * 1024 else 1024
theorem chks_0 {n : Nat} (h : n = 0) : chks n = 1 := if_pos h
theorem chks_s {n : Nat} (h : n ≠ 0) : chks n = (n - 1) / 1024 + 1 := if_neg h
theorem chks_c {n c : Nat} (h : c < chks n) : c * 1024 ≤ n := by
  unfold chks at h
  split at h <;> omega
theorem chks_le {n : Nat} (h : n ≤ 1000000) : chks n ≤ 1024 := by
  unfold chks
  split <;> omega
theorem chks_pos (n : Nat) : 0 < chks n := by
  unfold chks
  split <;> omega
theorem chks_20 {n : Nat} (h : n ≤ 20000) : chks n ≤ 2 ^ 5 := by
  unfold chks
  split <;> omega
theorem cln_le (n c : Nat) : cln n c ≤ 1024 := by
  unfold cln
  split <;> omega
theorem cln_n {n c : Nat} (h : c < chks n) : c * 1024 + cln n c ≤ n := by
  have := chks_c h
  unfold cln
  split <;> omega
theorem clo_le (t : Nat) : clo t ≤ t := by
  unfold clo
  omega
/-- how many bytes the other side has: its first chunk, its chunks -/
def oln (n first many : Nat) : Nat := if n - first * 1024 < many * 1024 then n - first * 1024 else many * 1024
theorem oln_le {n first many : Nat} (h : first * 1024 ≤ n) : first * 1024 + oln n first many ≤ n ∧ oln n first many ≤ n := by
  unfold oln
  split <;> omega
theorem first_le {n first many : Nat} (h : first + many ≤ chks n) (hm : 0 < many) : first * 1024 ≤ n := chks_c (by omega)
