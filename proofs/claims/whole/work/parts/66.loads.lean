theorem wl_cl : Cond.constantLong RL 13 (4294967295) ∈ wsL_law := List.mem_of_getElem? (i := 6) (by decide +kernel)
section LDS
variable {p : Program} {l : Launch} {e : Env} {s : State} {m : MethodId} {below : List Frame} {meth : Method} {c : Code} {H : Heap} {locs : List Loc} {cells slots : Nat} {Q : State → Prop} {D : va_G} {cy : Nat → ClassId} {t : Nat × Nat} {A : Nat → Prop} {F : Nat → cellT} {b L i0 : Nat} {xs : Nat → Int32} {ls : Array Slot} {a ra rb ha z cnt : Nat → Nat} {f : Nat → Nat → Int32} {fn0 : Nat} {ff : Nat → Int32} {pn : Nat} {pf : Nat → Int32} {md : Nat → Int32} {K g : Nat → Nat → Int32} {nt : Nat → Nat}
set_option maxHeartbeats 1000000 in
theorem lx_add (X : LC p m c s D cy t A b L xs) (hW : Wd D A s (LW F) H locs) (hl : lv_has ls 4 [(0, .ref b), (1, .ref (a 0)), (2, .ref (z 0)), (3, .int (nI i0))]) (hi : i0 + 6 ≤ L) (k : W p l e room_1 s m #[Value.ref b] below meth c H locs cells slots Q (F0 m 159 ls [.long ((((xs (i0 + 3)).toInt64) <<< ((nI (32)).toInt64 &&& 63)) ||| (((xs (i0 + 4)).toInt64) &&& (4294967295 : Int64))), .int (xs (i0 + 2)), .int (xs (i0 + 1)), .ref (a 0)])) : W p l e room_1 s m #[Value.ref b] below meth c H locs cells slots Q (F0 m 128 ls []) := by
  obtain ⟨⟨hx, hb, hml, hown, hts⟩, -, -, -, hX, hbl, hbA, hL⟩ := X
  refine lv_aload_n hx hb dL_law_128 rfl (lv_at hl 1 rfl) ?_
  refine lv_aload_n hx hb dL_law_129 rfl (lv_at hl 0 rfl) ?_
  refine lv_iload_n hx hb dL_law_130 rfl (lv_at hl 3 rfl) ?_
  refine lv_iconst (v := nI (1)) hx hb dL_law_131 (by decide) ?_
  refine lv_iadd hx hb dL_law_132 ?_
  refine tI (nI_add _ _) ?_
  refine rX hx hb hX hbl hbA hW (k := i0 + 1) (by omega) hL dL_law_133 ?_
  refine lv_aload_n hx hb dL_law_134 rfl (lv_at hl 0 rfl) ?_
  refine lv_iload_n hx hb dL_law_135 rfl (lv_at hl 3 rfl) ?_
  refine lv_iconst (v := nI (2)) hx hb dL_law_136 (by decide) ?_
  refine lv_iadd hx hb dL_law_137 ?_
  refine tI (nI_add _ _) ?_
  refine rX hx hb hX hbl hbA hW (k := i0 + 2) (by omega) hL dL_law_138 ?_
  refine lv_aload_n hx hb dL_law_139 rfl (lv_at hl 0 rfl) ?_
  refine lv_iload_n hx hb dL_law_140 rfl (lv_at hl 3 rfl) ?_
  refine lv_iconst (v := nI (3)) hx hb dL_law_141 (by decide) ?_
  refine lv_iadd hx hb dL_law_142 ?_
  refine tI (nI_add _ _) ?_
  refine rX hx hb hX hbl hbA hW (k := i0 + 3) (by omega) hL dL_law_143 ?_
  refine lv_i2l hx hb dL_law_144 rfl ?_
  refine lv_bipush (v := nI (32)) hx hb dL_law_145 (by decide) ?_
  refine lv_lshl hx hb dL_law_147 rfl ?_
  refine lv_aload_n hx hb dL_law_148 rfl (lv_at hl 0 rfl) ?_
  refine lv_iload_n hx hb dL_law_149 rfl (lv_at hl 3 rfl) ?_
  refine lv_iconst (v := nI (4)) hx hb dL_law_150 (by decide) ?_
  refine lv_iadd hx hb dL_law_151 ?_
  refine tI (nI_add _ _) ?_
  refine rX hx hb hX hbl hbA hW (k := i0 + 4) (by omega) hL dL_law_152 ?_
  refine lv_i2l hx hb dL_law_153 rfl ?_
  refine lv_ldc2 (v := (4294967295 : Int64)) hx hb hown (hts (.constantLong RL 13 (4294967295)) wl_cl) dL_law_154 ?_
  refine lv_land hx hb dL_law_157 ?_
  refine lv_lor hx hb dL_law_158 ?_
  exact k
set_option maxHeartbeats 1000000 in
theorem lm_add (r0 : Int32) (X : LC p m c s D cy t A b L xs) (hW : Wd D A s (LW F) H locs) (hl : lv_has ls 4 [(0, .ref b), (1, .ref (a 0)), (2, .ref (z 0)), (3, .int (nI i0))]) (hi : i0 + 6 ≤ L) (k : W p l e room_1 s m #[Value.ref b] below meth c H locs cells slots Q (F0 m 193 ls [.long ((((xs (i0 + 3)).toInt64) <<< ((nI (32)).toInt64 &&& 63)) ||| (((xs (i0 + 4)).toInt64) &&& (4294967295 : Int64))), .int (xs (i0 + 2)), .int (xs (i0 + 1)), .ref (z 0), .int (r0)])) : W p l e room_1 s m #[Value.ref b] below meth c H locs cells slots Q (F0 m 162 ls [.int r0]) := by
  obtain ⟨⟨hx, hb, hml, hown, hts⟩, -, -, -, hX, hbl, hbA, hL⟩ := X
  refine lv_aload_n hx hb dL_law_162 rfl (lv_at hl 2 rfl) ?_
  refine lv_aload_n hx hb dL_law_163 rfl (lv_at hl 0 rfl) ?_
  refine lv_iload_n hx hb dL_law_164 rfl (lv_at hl 3 rfl) ?_
  refine lv_iconst (v := nI (1)) hx hb dL_law_165 (by decide) ?_
  refine lv_iadd hx hb dL_law_166 ?_
  refine tI (nI_add _ _) ?_
  refine rX hx hb hX hbl hbA hW (k := i0 + 1) (by omega) hL dL_law_167 ?_
  refine lv_aload_n hx hb dL_law_168 rfl (lv_at hl 0 rfl) ?_
  refine lv_iload_n hx hb dL_law_169 rfl (lv_at hl 3 rfl) ?_
  refine lv_iconst (v := nI (2)) hx hb dL_law_170 (by decide) ?_
  refine lv_iadd hx hb dL_law_171 ?_
  refine tI (nI_add _ _) ?_
  refine rX hx hb hX hbl hbA hW (k := i0 + 2) (by omega) hL dL_law_172 ?_
  refine lv_aload_n hx hb dL_law_173 rfl (lv_at hl 0 rfl) ?_
  refine lv_iload_n hx hb dL_law_174 rfl (lv_at hl 3 rfl) ?_
  refine lv_iconst (v := nI (3)) hx hb dL_law_175 (by decide) ?_
  refine lv_iadd hx hb dL_law_176 ?_
  refine tI (nI_add _ _) ?_
  refine rX hx hb hX hbl hbA hW (k := i0 + 3) (by omega) hL dL_law_177 ?_
  refine lv_i2l hx hb dL_law_178 rfl ?_
  refine lv_bipush (v := nI (32)) hx hb dL_law_179 (by decide) ?_
  refine lv_lshl hx hb dL_law_181 rfl ?_
  refine lv_aload_n hx hb dL_law_182 rfl (lv_at hl 0 rfl) ?_
  refine lv_iload_n hx hb dL_law_183 rfl (lv_at hl 3 rfl) ?_
  refine lv_iconst (v := nI (4)) hx hb dL_law_184 (by decide) ?_
  refine lv_iadd hx hb dL_law_185 ?_
  refine tI (nI_add _ _) ?_
  refine rX hx hb hX hbl hbA hW (k := i0 + 4) (by omega) hL dL_law_186 ?_
  refine lv_i2l hx hb dL_law_187 rfl ?_
  refine lv_ldc2 (v := (4294967295 : Int64)) hx hb hown (hts (.constantLong RL 13 (4294967295)) wl_cl) dL_law_188 ?_
  refine lv_land hx hb dL_law_191 ?_
  refine lv_lor hx hb dL_law_192 ?_
  exact k
theorem le_add (X : LC p m c s D cy t A b L xs) {x : Int32} (k : W p l e room_1 s m #[Value.ref b] below meth c H locs cells slots Q (F0 m 868 ls [])) : W p l e room_1 s m #[Value.ref b] below meth c H locs cells slots Q (F0 m 196 ls [.int x, .int x]) := by
  obtain ⟨⟨hx, hb, hml, hown, hts⟩, -, -, -, hX, hbl, hbA, hL⟩ := X
  exact lv_icmp_eq (tgt := 868) hx hb dL_law_196 (by decide) (fun _ => k) (fun h => absurd rfl h)
set_option maxHeartbeats 1000000 in
theorem lx_clear (X : LC p m c s D cy t A b L xs) (hW : Wd D A s (LW F) H locs) (hl : lv_has ls 4 [(0, .ref b), (1, .ref (a 0)), (2, .ref (z 0)), (3, .int (nI i0))]) (hi : i0 + 6 ≤ L) (k : W p l e room_1 s m #[Value.ref b] below meth c H locs cells slots Q (F0 m 207 ls [.int (xs (i0 + 1)), .ref (a 0)])) : W p l e room_1 s m #[Value.ref b] below meth c H locs cells slots Q (F0 m 201 ls []) := by
  obtain ⟨⟨hx, hb, hml, hown, hts⟩, -, -, -, hX, hbl, hbA, hL⟩ := X
  refine lv_aload_n hx hb dL_law_201 rfl (lv_at hl 1 rfl) ?_
  refine lv_aload_n hx hb dL_law_202 rfl (lv_at hl 0 rfl) ?_
  refine lv_iload_n hx hb dL_law_203 rfl (lv_at hl 3 rfl) ?_
  refine lv_iconst (v := nI (1)) hx hb dL_law_204 (by decide) ?_
  refine lv_iadd hx hb dL_law_205 ?_
  refine tI (nI_add _ _) ?_
  refine rX hx hb hX hbl hbA hW (k := i0 + 1) (by omega) hL dL_law_206 ?_
  exact k
set_option maxHeartbeats 1000000 in
theorem lm_clear (r0 : Int32) (X : LC p m c s D cy t A b L xs) (hW : Wd D A s (LW F) H locs) (hl : lv_has ls 4 [(0, .ref b), (1, .ref (a 0)), (2, .ref (z 0)), (3, .int (nI i0))]) (hi : i0 + 6 ≤ L) (k : W p l e room_1 s m #[Value.ref b] below meth c H locs cells slots Q (F0 m 216 ls [.int (xs (i0 + 1)), .ref (z 0), .int (r0)])) : W p l e room_1 s m #[Value.ref b] below meth c H locs cells slots Q (F0 m 210 ls [.int r0]) := by
  obtain ⟨⟨hx, hb, hml, hown, hts⟩, -, -, -, hX, hbl, hbA, hL⟩ := X
  refine lv_aload_n hx hb dL_law_210 rfl (lv_at hl 2 rfl) ?_
  refine lv_aload_n hx hb dL_law_211 rfl (lv_at hl 0 rfl) ?_
  refine lv_iload_n hx hb dL_law_212 rfl (lv_at hl 3 rfl) ?_
  refine lv_iconst (v := nI (1)) hx hb dL_law_213 (by decide) ?_
  refine lv_iadd hx hb dL_law_214 ?_
  refine tI (nI_add _ _) ?_
  refine rX hx hb hX hbl hbA hW (k := i0 + 1) (by omega) hL dL_law_215 ?_
  exact k
theorem le_clear (X : LC p m c s D cy t A b L xs) {x : Int32} (k : W p l e room_1 s m #[Value.ref b] below meth c H locs cells slots Q (F0 m 868 ls [])) : W p l e room_1 s m #[Value.ref b] below meth c H locs cells slots Q (F0 m 219 ls [.int x, .int x]) := by
  obtain ⟨⟨hx, hb, hml, hown, hts⟩, -, -, -, hX, hbl, hbA, hL⟩ := X
  exact lv_icmp_eq (tgt := 868) hx hb dL_law_219 (by decide) (fun _ => k) (fun h => absurd rfl h)
set_option maxHeartbeats 1000000 in
theorem lx_size (X : LC p m c s D cy t A b L xs) (hW : Wd D A s (LW F) H locs) (hl : lv_has ls 4 [(0, .ref b), (1, .ref (a 0)), (2, .ref (z 0)), (3, .int (nI i0))]) (hi : i0 + 6 ≤ L) (k : W p l e room_1 s m #[Value.ref b] below meth c H locs cells slots Q (F0 m 230 ls [.int (xs (i0 + 1)), .ref (a 0)])) : W p l e room_1 s m #[Value.ref b] below meth c H locs cells slots Q (F0 m 224 ls []) := by
  obtain ⟨⟨hx, hb, hml, hown, hts⟩, -, -, -, hX, hbl, hbA, hL⟩ := X
  refine lv_aload_n hx hb dL_law_224 rfl (lv_at hl 1 rfl) ?_
  refine lv_aload_n hx hb dL_law_225 rfl (lv_at hl 0 rfl) ?_
  refine lv_iload_n hx hb dL_law_226 rfl (lv_at hl 3 rfl) ?_
  refine lv_iconst (v := nI (1)) hx hb dL_law_227 (by decide) ?_
  refine lv_iadd hx hb dL_law_228 ?_
  refine tI (nI_add _ _) ?_
  refine rX hx hb hX hbl hbA hW (k := i0 + 1) (by omega) hL dL_law_229 ?_
  exact k
set_option maxHeartbeats 1000000 in
theorem lm_size (r0 : Int32) (X : LC p m c s D cy t A b L xs) (hW : Wd D A s (LW F) H locs) (hl : lv_has ls 4 [(0, .ref b), (1, .ref (a 0)), (2, .ref (z 0)), (3, .int (nI i0))]) (hi : i0 + 6 ≤ L) (k : W p l e room_1 s m #[Value.ref b] below meth c H locs cells slots Q (F0 m 239 ls [.int (xs (i0 + 1)), .ref (z 0), .int (r0)])) : W p l e room_1 s m #[Value.ref b] below meth c H locs cells slots Q (F0 m 233 ls [.int r0]) := by
  obtain ⟨⟨hx, hb, hml, hown, hts⟩, -, -, -, hX, hbl, hbA, hL⟩ := X
  refine lv_aload_n hx hb dL_law_233 rfl (lv_at hl 2 rfl) ?_
  refine lv_aload_n hx hb dL_law_234 rfl (lv_at hl 0 rfl) ?_
  refine lv_iload_n hx hb dL_law_235 rfl (lv_at hl 3 rfl) ?_
  refine lv_iconst (v := nI (1)) hx hb dL_law_236 (by decide) ?_
  refine lv_iadd hx hb dL_law_237 ?_
  refine tI (nI_add _ _) ?_
  refine rX hx hb hX hbl hbA hW (k := i0 + 1) (by omega) hL dL_law_238 ?_
  exact k
theorem le_size (X : LC p m c s D cy t A b L xs) {x : Int32} (k : W p l e room_1 s m #[Value.ref b] below meth c H locs cells slots Q (F0 m 868 ls [])) : W p l e room_1 s m #[Value.ref b] below meth c H locs cells slots Q (F0 m 242 ls [.int x, .int x]) := by
  obtain ⟨⟨hx, hb, hml, hown, hts⟩, -, -, -, hX, hbl, hbA, hL⟩ := X
  exact lv_icmp_eq (tgt := 868) hx hb dL_law_242 (by decide) (fun _ => k) (fun h => absurd rfl h)
set_option maxHeartbeats 1000000 in
theorem lx_at (X : LC p m c s D cy t A b L xs) (hW : Wd D A s (LW F) H locs) (hl : lv_has ls 4 [(0, .ref b), (1, .ref (a 0)), (2, .ref (z 0)), (3, .int (nI i0))]) (hi : i0 + 6 ≤ L) (k : W p l e room_1 s m #[Value.ref b] below meth c H locs cells slots Q (F0 m 258 ls [.int (xs (i0 + 2)), .int (xs (i0 + 1)), .ref (a 0)])) : W p l e room_1 s m #[Value.ref b] below meth c H locs cells slots Q (F0 m 247 ls []) := by
  obtain ⟨⟨hx, hb, hml, hown, hts⟩, -, -, -, hX, hbl, hbA, hL⟩ := X
  refine lv_aload_n hx hb dL_law_247 rfl (lv_at hl 1 rfl) ?_
  refine lv_aload_n hx hb dL_law_248 rfl (lv_at hl 0 rfl) ?_
  refine lv_iload_n hx hb dL_law_249 rfl (lv_at hl 3 rfl) ?_
  refine lv_iconst (v := nI (1)) hx hb dL_law_250 (by decide) ?_
  refine lv_iadd hx hb dL_law_251 ?_
  refine tI (nI_add _ _) ?_
  refine rX hx hb hX hbl hbA hW (k := i0 + 1) (by omega) hL dL_law_252 ?_
  refine lv_aload_n hx hb dL_law_253 rfl (lv_at hl 0 rfl) ?_
  refine lv_iload_n hx hb dL_law_254 rfl (lv_at hl 3 rfl) ?_
  refine lv_iconst (v := nI (2)) hx hb dL_law_255 (by decide) ?_
  refine lv_iadd hx hb dL_law_256 ?_
  refine tI (nI_add _ _) ?_
  refine rX hx hb hX hbl hbA hW (k := i0 + 2) (by omega) hL dL_law_257 ?_
  exact k
set_option maxHeartbeats 1000000 in
theorem lm_at (r0 : Int32) (X : LC p m c s D cy t A b L xs) (hW : Wd D A s (LW F) H locs) (hl : lv_has ls 4 [(0, .ref b), (1, .ref (a 0)), (2, .ref (z 0)), (3, .int (nI i0))]) (hi : i0 + 6 ≤ L) (k : W p l e room_1 s m #[Value.ref b] below meth c H locs cells slots Q (F0 m 272 ls [.int (xs (i0 + 2)), .int (xs (i0 + 1)), .ref (z 0), .int (r0)])) : W p l e room_1 s m #[Value.ref b] below meth c H locs cells slots Q (F0 m 261 ls [.int r0]) := by
  obtain ⟨⟨hx, hb, hml, hown, hts⟩, -, -, -, hX, hbl, hbA, hL⟩ := X
  refine lv_aload_n hx hb dL_law_261 rfl (lv_at hl 2 rfl) ?_
  refine lv_aload_n hx hb dL_law_262 rfl (lv_at hl 0 rfl) ?_
  refine lv_iload_n hx hb dL_law_263 rfl (lv_at hl 3 rfl) ?_
  refine lv_iconst (v := nI (1)) hx hb dL_law_264 (by decide) ?_
  refine lv_iadd hx hb dL_law_265 ?_
  refine tI (nI_add _ _) ?_
  refine rX hx hb hX hbl hbA hW (k := i0 + 1) (by omega) hL dL_law_266 ?_
  refine lv_aload_n hx hb dL_law_267 rfl (lv_at hl 0 rfl) ?_
  refine lv_iload_n hx hb dL_law_268 rfl (lv_at hl 3 rfl) ?_
  refine lv_iconst (v := nI (2)) hx hb dL_law_269 (by decide) ?_
  refine lv_iadd hx hb dL_law_270 ?_
  refine tI (nI_add _ _) ?_
  refine rX hx hb hX hbl hbA hW (k := i0 + 2) (by omega) hL dL_law_271 ?_
  exact k
theorem le_at (X : LC p m c s D cy t A b L xs) {x : Int32} (k : W p l e room_1 s m #[Value.ref b] below meth c H locs cells slots Q (F0 m 868 ls [])) : W p l e room_1 s m #[Value.ref b] below meth c H locs cells slots Q (F0 m 275 ls [.int x, .int x]) := by
  obtain ⟨⟨hx, hb, hml, hown, hts⟩, -, -, -, hX, hbl, hbA, hL⟩ := X
  exact lv_icmp_eq (tgt := 868) hx hb dL_law_275 (by decide) (fun _ => k) (fun h => absurd rfl h)
set_option maxHeartbeats 1000000 in
theorem lx_begin (X : LC p m c s D cy t A b L xs) (hW : Wd D A s (LW F) H locs) (hl : lv_has ls 4 [(0, .ref b), (1, .ref (a 0)), (2, .ref (z 0)), (3, .int (nI i0))]) (hi : i0 + 6 ≤ L) (k : W p l e room_1 s m #[Value.ref b] below meth c H locs cells slots Q (F0 m 296 ls [.int (xs (i0 + 3)), .int (xs (i0 + 2)), .int (xs (i0 + 1)), .ref (a 0)])) : W p l e room_1 s m #[Value.ref b] below meth c H locs cells slots Q (F0 m 280 ls []) := by
  obtain ⟨⟨hx, hb, hml, hown, hts⟩, -, -, -, hX, hbl, hbA, hL⟩ := X
  refine lv_aload_n hx hb dL_law_280 rfl (lv_at hl 1 rfl) ?_
  refine lv_aload_n hx hb dL_law_281 rfl (lv_at hl 0 rfl) ?_
  refine lv_iload_n hx hb dL_law_282 rfl (lv_at hl 3 rfl) ?_
  refine lv_iconst (v := nI (1)) hx hb dL_law_283 (by decide) ?_
  refine lv_iadd hx hb dL_law_284 ?_
  refine tI (nI_add _ _) ?_
  refine rX hx hb hX hbl hbA hW (k := i0 + 1) (by omega) hL dL_law_285 ?_
  refine lv_aload_n hx hb dL_law_286 rfl (lv_at hl 0 rfl) ?_
  refine lv_iload_n hx hb dL_law_287 rfl (lv_at hl 3 rfl) ?_
  refine lv_iconst (v := nI (2)) hx hb dL_law_288 (by decide) ?_
  refine lv_iadd hx hb dL_law_289 ?_
  refine tI (nI_add _ _) ?_
  refine rX hx hb hX hbl hbA hW (k := i0 + 2) (by omega) hL dL_law_290 ?_
  refine lv_aload_n hx hb dL_law_291 rfl (lv_at hl 0 rfl) ?_
  refine lv_iload_n hx hb dL_law_292 rfl (lv_at hl 3 rfl) ?_
  refine lv_iconst (v := nI (3)) hx hb dL_law_293 (by decide) ?_
  refine lv_iadd hx hb dL_law_294 ?_
  refine tI (nI_add _ _) ?_
  refine rX hx hb hX hbl hbA hW (k := i0 + 3) (by omega) hL dL_law_295 ?_
  exact k
set_option maxHeartbeats 1000000 in
theorem lm_begin (r0 : Int32) (X : LC p m c s D cy t A b L xs) (hW : Wd D A s (LW F) H locs) (hl : lv_has ls 4 [(0, .ref b), (1, .ref (a 0)), (2, .ref (z 0)), (3, .int (nI i0))]) (hi : i0 + 6 ≤ L) (k : W p l e room_1 s m #[Value.ref b] below meth c H locs cells slots Q (F0 m 315 ls [.int (xs (i0 + 3)), .int (xs (i0 + 2)), .int (xs (i0 + 1)), .ref (z 0), .int (r0)])) : W p l e room_1 s m #[Value.ref b] below meth c H locs cells slots Q (F0 m 299 ls [.int r0]) := by
  obtain ⟨⟨hx, hb, hml, hown, hts⟩, -, -, -, hX, hbl, hbA, hL⟩ := X
  refine lv_aload_n hx hb dL_law_299 rfl (lv_at hl 2 rfl) ?_
  refine lv_aload_n hx hb dL_law_300 rfl (lv_at hl 0 rfl) ?_
  refine lv_iload_n hx hb dL_law_301 rfl (lv_at hl 3 rfl) ?_
  refine lv_iconst (v := nI (1)) hx hb dL_law_302 (by decide) ?_
  refine lv_iadd hx hb dL_law_303 ?_
  refine tI (nI_add _ _) ?_
  refine rX hx hb hX hbl hbA hW (k := i0 + 1) (by omega) hL dL_law_304 ?_
  refine lv_aload_n hx hb dL_law_305 rfl (lv_at hl 0 rfl) ?_
  refine lv_iload_n hx hb dL_law_306 rfl (lv_at hl 3 rfl) ?_
  refine lv_iconst (v := nI (2)) hx hb dL_law_307 (by decide) ?_
  refine lv_iadd hx hb dL_law_308 ?_
  refine tI (nI_add _ _) ?_
  refine rX hx hb hX hbl hbA hW (k := i0 + 2) (by omega) hL dL_law_309 ?_
  refine lv_aload_n hx hb dL_law_310 rfl (lv_at hl 0 rfl) ?_
  refine lv_iload_n hx hb dL_law_311 rfl (lv_at hl 3 rfl) ?_
  refine lv_iconst (v := nI (3)) hx hb dL_law_312 (by decide) ?_
  refine lv_iadd hx hb dL_law_313 ?_
  refine tI (nI_add _ _) ?_
  refine rX hx hb hX hbl hbA hW (k := i0 + 3) (by omega) hL dL_law_314 ?_
  exact k
theorem le_begin (X : LC p m c s D cy t A b L xs) {x : Int32} (k : W p l e room_1 s m #[Value.ref b] below meth c H locs cells slots Q (F0 m 868 ls [])) : W p l e room_1 s m #[Value.ref b] below meth c H locs cells slots Q (F0 m 318 ls [.int x, .int x]) := by
  obtain ⟨⟨hx, hb, hml, hown, hts⟩, -, -, -, hX, hbl, hbA, hL⟩ := X
  exact lv_icmp_eq (tgt := 868) hx hb dL_law_318 (by decide) (fun _ => k) (fun h => absurd rfl h)
set_option maxHeartbeats 1000000 in
theorem lx_take (X : LC p m c s D cy t A b L xs) (hW : Wd D A s (LW F) H locs) (hl : lv_has ls 4 [(0, .ref b), (1, .ref (a 0)), (2, .ref (z 0)), (3, .int (nI i0))]) (hi : i0 + 6 ≤ L) (k : W p l e room_1 s m #[Value.ref b] below meth c H locs cells slots Q (F0 m 334 ls [.int (xs (i0 + 2)), .int (xs (i0 + 1)), .ref (a 0)])) : W p l e room_1 s m #[Value.ref b] below meth c H locs cells slots Q (F0 m 323 ls []) := by
  obtain ⟨⟨hx, hb, hml, hown, hts⟩, -, -, -, hX, hbl, hbA, hL⟩ := X
  refine lv_aload_n hx hb dL_law_323 rfl (lv_at hl 1 rfl) ?_
  refine lv_aload_n hx hb dL_law_324 rfl (lv_at hl 0 rfl) ?_
  refine lv_iload_n hx hb dL_law_325 rfl (lv_at hl 3 rfl) ?_
  refine lv_iconst (v := nI (1)) hx hb dL_law_326 (by decide) ?_
  refine lv_iadd hx hb dL_law_327 ?_
  refine tI (nI_add _ _) ?_
  refine rX hx hb hX hbl hbA hW (k := i0 + 1) (by omega) hL dL_law_328 ?_
  refine lv_aload_n hx hb dL_law_329 rfl (lv_at hl 0 rfl) ?_
  refine lv_iload_n hx hb dL_law_330 rfl (lv_at hl 3 rfl) ?_
  refine lv_iconst (v := nI (2)) hx hb dL_law_331 (by decide) ?_
  refine lv_iadd hx hb dL_law_332 ?_
  refine tI (nI_add _ _) ?_
  refine rX hx hb hX hbl hbA hW (k := i0 + 2) (by omega) hL dL_law_333 ?_
  exact k
set_option maxHeartbeats 1000000 in
theorem lm_take (r0 : Int32) (X : LC p m c s D cy t A b L xs) (hW : Wd D A s (LW F) H locs) (hl : lv_has ls 4 [(0, .ref b), (1, .ref (a 0)), (2, .ref (z 0)), (3, .int (nI i0))]) (hi : i0 + 6 ≤ L) (k : W p l e room_1 s m #[Value.ref b] below meth c H locs cells slots Q (F0 m 348 ls [.int (xs (i0 + 2)), .int (xs (i0 + 1)), .ref (z 0), .int (r0)])) : W p l e room_1 s m #[Value.ref b] below meth c H locs cells slots Q (F0 m 337 ls [.int r0]) := by
  obtain ⟨⟨hx, hb, hml, hown, hts⟩, -, -, -, hX, hbl, hbA, hL⟩ := X
  refine lv_aload_n hx hb dL_law_337 rfl (lv_at hl 2 rfl) ?_
  refine lv_aload_n hx hb dL_law_338 rfl (lv_at hl 0 rfl) ?_
  refine lv_iload_n hx hb dL_law_339 rfl (lv_at hl 3 rfl) ?_
  refine lv_iconst (v := nI (1)) hx hb dL_law_340 (by decide) ?_
  refine lv_iadd hx hb dL_law_341 ?_
  refine tI (nI_add _ _) ?_
  refine rX hx hb hX hbl hbA hW (k := i0 + 1) (by omega) hL dL_law_342 ?_
  refine lv_aload_n hx hb dL_law_343 rfl (lv_at hl 0 rfl) ?_
  refine lv_iload_n hx hb dL_law_344 rfl (lv_at hl 3 rfl) ?_
  refine lv_iconst (v := nI (2)) hx hb dL_law_345 (by decide) ?_
  refine lv_iadd hx hb dL_law_346 ?_
  refine tI (nI_add _ _) ?_
  refine rX hx hb hX hbl hbA hW (k := i0 + 2) (by omega) hL dL_law_347 ?_
  exact k
theorem le_take (X : LC p m c s D cy t A b L xs) {x : Int32} (k : W p l e room_1 s m #[Value.ref b] below meth c H locs cells slots Q (F0 m 868 ls [])) : W p l e room_1 s m #[Value.ref b] below meth c H locs cells slots Q (F0 m 351 ls [.int x, .int x]) := by
  obtain ⟨⟨hx, hb, hml, hown, hts⟩, -, -, -, hX, hbl, hbA, hL⟩ := X
  exact lv_icmp_eq (tgt := 868) hx hb dL_law_351 (by decide) (fun _ => k) (fun h => absurd rfl h)
set_option maxHeartbeats 1000000 in
theorem lx_fill (X : LC p m c s D cy t A b L xs) (hW : Wd D A s (LW F) H locs) (hl : lv_has ls 4 [(0, .ref b), (1, .ref (a 0)), (2, .ref (z 0)), (3, .int (nI i0))]) (hi : i0 + 6 ≤ L) (k : W p l e room_1 s m #[Value.ref b] below meth c H locs cells slots Q (F0 m 377 ls [.int (xs (i0 + 4)), .int (xs (i0 + 3)), .int (xs (i0 + 2)), .int (xs (i0 + 1)), .ref (a 0)])) : W p l e room_1 s m #[Value.ref b] below meth c H locs cells slots Q (F0 m 356 ls []) := by
  obtain ⟨⟨hx, hb, hml, hown, hts⟩, -, -, -, hX, hbl, hbA, hL⟩ := X
  refine lv_aload_n hx hb dL_law_356 rfl (lv_at hl 1 rfl) ?_
  refine lv_aload_n hx hb dL_law_357 rfl (lv_at hl 0 rfl) ?_
  refine lv_iload_n hx hb dL_law_358 rfl (lv_at hl 3 rfl) ?_
  refine lv_iconst (v := nI (1)) hx hb dL_law_359 (by decide) ?_
  refine lv_iadd hx hb dL_law_360 ?_
  refine tI (nI_add _ _) ?_
  refine rX hx hb hX hbl hbA hW (k := i0 + 1) (by omega) hL dL_law_361 ?_
  refine lv_aload_n hx hb dL_law_362 rfl (lv_at hl 0 rfl) ?_
  refine lv_iload_n hx hb dL_law_363 rfl (lv_at hl 3 rfl) ?_
  refine lv_iconst (v := nI (2)) hx hb dL_law_364 (by decide) ?_
  refine lv_iadd hx hb dL_law_365 ?_
  refine tI (nI_add _ _) ?_
  refine rX hx hb hX hbl hbA hW (k := i0 + 2) (by omega) hL dL_law_366 ?_
  refine lv_aload_n hx hb dL_law_367 rfl (lv_at hl 0 rfl) ?_
  refine lv_iload_n hx hb dL_law_368 rfl (lv_at hl 3 rfl) ?_
  refine lv_iconst (v := nI (3)) hx hb dL_law_369 (by decide) ?_
  refine lv_iadd hx hb dL_law_370 ?_
  refine tI (nI_add _ _) ?_
  refine rX hx hb hX hbl hbA hW (k := i0 + 3) (by omega) hL dL_law_371 ?_
  refine lv_aload_n hx hb dL_law_372 rfl (lv_at hl 0 rfl) ?_
  refine lv_iload_n hx hb dL_law_373 rfl (lv_at hl 3 rfl) ?_
  refine lv_iconst (v := nI (4)) hx hb dL_law_374 (by decide) ?_
  refine lv_iadd hx hb dL_law_375 ?_
  refine tI (nI_add _ _) ?_
  refine rX hx hb hX hbl hbA hW (k := i0 + 4) (by omega) hL dL_law_376 ?_
  exact k
set_option maxHeartbeats 1000000 in
theorem lm_fill (r0 : Int32) (X : LC p m c s D cy t A b L xs) (hW : Wd D A s (LW F) H locs) (hl : lv_has ls 4 [(0, .ref b), (1, .ref (a 0)), (2, .ref (z 0)), (3, .int (nI i0))]) (hi : i0 + 6 ≤ L) (k : W p l e room_1 s m #[Value.ref b] below meth c H locs cells slots Q (F0 m 401 ls [.int (xs (i0 + 4)), .int (xs (i0 + 3)), .int (xs (i0 + 2)), .int (xs (i0 + 1)), .ref (z 0), .int (r0)])) : W p l e room_1 s m #[Value.ref b] below meth c H locs cells slots Q (F0 m 380 ls [.int r0]) := by
  obtain ⟨⟨hx, hb, hml, hown, hts⟩, -, -, -, hX, hbl, hbA, hL⟩ := X
  refine lv_aload_n hx hb dL_law_380 rfl (lv_at hl 2 rfl) ?_
  refine lv_aload_n hx hb dL_law_381 rfl (lv_at hl 0 rfl) ?_
  refine lv_iload_n hx hb dL_law_382 rfl (lv_at hl 3 rfl) ?_
  refine lv_iconst (v := nI (1)) hx hb dL_law_383 (by decide) ?_
  refine lv_iadd hx hb dL_law_384 ?_
  refine tI (nI_add _ _) ?_
  refine rX hx hb hX hbl hbA hW (k := i0 + 1) (by omega) hL dL_law_385 ?_
  refine lv_aload_n hx hb dL_law_386 rfl (lv_at hl 0 rfl) ?_
  refine lv_iload_n hx hb dL_law_387 rfl (lv_at hl 3 rfl) ?_
  refine lv_iconst (v := nI (2)) hx hb dL_law_388 (by decide) ?_
  refine lv_iadd hx hb dL_law_389 ?_
  refine tI (nI_add _ _) ?_
  refine rX hx hb hX hbl hbA hW (k := i0 + 2) (by omega) hL dL_law_390 ?_
  refine lv_aload_n hx hb dL_law_391 rfl (lv_at hl 0 rfl) ?_
  refine lv_iload_n hx hb dL_law_392 rfl (lv_at hl 3 rfl) ?_
  refine lv_iconst (v := nI (3)) hx hb dL_law_393 (by decide) ?_
  refine lv_iadd hx hb dL_law_394 ?_
  refine tI (nI_add _ _) ?_
  refine rX hx hb hX hbl hbA hW (k := i0 + 3) (by omega) hL dL_law_395 ?_
  refine lv_aload_n hx hb dL_law_396 rfl (lv_at hl 0 rfl) ?_
  refine lv_iload_n hx hb dL_law_397 rfl (lv_at hl 3 rfl) ?_
  refine lv_iconst (v := nI (4)) hx hb dL_law_398 (by decide) ?_
  refine lv_iadd hx hb dL_law_399 ?_
  refine tI (nI_add _ _) ?_
  refine rX hx hb hX hbl hbA hW (k := i0 + 4) (by omega) hL dL_law_400 ?_
  exact k
theorem le_fill (X : LC p m c s D cy t A b L xs) {x : Int32} (k : W p l e room_1 s m #[Value.ref b] below meth c H locs cells slots Q (F0 m 868 ls [])) : W p l e room_1 s m #[Value.ref b] below meth c H locs cells slots Q (F0 m 404 ls [.int x, .int x]) := by
  obtain ⟨⟨hx, hb, hml, hown, hts⟩, -, -, -, hX, hbl, hbA, hL⟩ := X
  exact lv_icmp_eq (tgt := 868) hx hb dL_law_404 (by decide) (fun _ => k) (fun h => absurd rfl h)
set_option maxHeartbeats 1000000 in
theorem lx_output (X : LC p m c s D cy t A b L xs) (hW : Wd D A s (LW F) H locs) (hl : lv_has ls 4 [(0, .ref b), (1, .ref (a 0)), (2, .ref (z 0)), (3, .int (nI i0))]) (hi : i0 + 6 ≤ L) (k : W p l e room_1 s m #[Value.ref b] below meth c H locs cells slots Q (F0 m 445 ls [.long ((((xs (i0 + 4)).toInt64) <<< ((nI (32)).toInt64 &&& 63)) ||| (((xs (i0 + 5)).toInt64) &&& (4294967295 : Int64))), .int (xs (i0 + 3)), .int (xs (i0 + 2)), .int (xs (i0 + 1)), .ref (a 0)])) : W p l e room_1 s m #[Value.ref b] below meth c H locs cells slots Q (F0 m 409 ls []) := by
  obtain ⟨⟨hx, hb, hml, hown, hts⟩, -, -, -, hX, hbl, hbA, hL⟩ := X
  refine lv_aload_n hx hb dL_law_409 rfl (lv_at hl 1 rfl) ?_
  refine lv_aload_n hx hb dL_law_410 rfl (lv_at hl 0 rfl) ?_
  refine lv_iload_n hx hb dL_law_411 rfl (lv_at hl 3 rfl) ?_
  refine lv_iconst (v := nI (1)) hx hb dL_law_412 (by decide) ?_
  refine lv_iadd hx hb dL_law_413 ?_
  refine tI (nI_add _ _) ?_
  refine rX hx hb hX hbl hbA hW (k := i0 + 1) (by omega) hL dL_law_414 ?_
  refine lv_aload_n hx hb dL_law_415 rfl (lv_at hl 0 rfl) ?_
  refine lv_iload_n hx hb dL_law_416 rfl (lv_at hl 3 rfl) ?_
  refine lv_iconst (v := nI (2)) hx hb dL_law_417 (by decide) ?_
  refine lv_iadd hx hb dL_law_418 ?_
  refine tI (nI_add _ _) ?_
  refine rX hx hb hX hbl hbA hW (k := i0 + 2) (by omega) hL dL_law_419 ?_
  refine lv_aload_n hx hb dL_law_420 rfl (lv_at hl 0 rfl) ?_
  refine lv_iload_n hx hb dL_law_421 rfl (lv_at hl 3 rfl) ?_
  refine lv_iconst (v := nI (3)) hx hb dL_law_422 (by decide) ?_
  refine lv_iadd hx hb dL_law_423 ?_
  refine tI (nI_add _ _) ?_
  refine rX hx hb hX hbl hbA hW (k := i0 + 3) (by omega) hL dL_law_424 ?_
  refine lv_aload_n hx hb dL_law_425 rfl (lv_at hl 0 rfl) ?_
  refine lv_iload_n hx hb dL_law_426 rfl (lv_at hl 3 rfl) ?_
  refine lv_iconst (v := nI (4)) hx hb dL_law_427 (by decide) ?_
  refine lv_iadd hx hb dL_law_428 ?_
  refine tI (nI_add _ _) ?_
  refine rX hx hb hX hbl hbA hW (k := i0 + 4) (by omega) hL dL_law_429 ?_
  refine lv_i2l hx hb dL_law_430 rfl ?_
  refine lv_bipush (v := nI (32)) hx hb dL_law_431 (by decide) ?_
  refine lv_lshl hx hb dL_law_433 rfl ?_
  refine lv_aload_n hx hb dL_law_434 rfl (lv_at hl 0 rfl) ?_
  refine lv_iload_n hx hb dL_law_435 rfl (lv_at hl 3 rfl) ?_
  refine lv_iconst (v := nI (5)) hx hb dL_law_436 (by decide) ?_
  refine lv_iadd hx hb dL_law_437 ?_
  refine tI (nI_add _ _) ?_
  refine rX hx hb hX hbl hbA hW (k := i0 + 5) (by omega) hL dL_law_438 ?_
  refine lv_i2l hx hb dL_law_439 rfl ?_
  refine lv_ldc2 (v := (4294967295 : Int64)) hx hb hown (hts (.constantLong RL 13 (4294967295)) wl_cl) dL_law_440 ?_
  refine lv_land hx hb dL_law_443 ?_
  refine lv_lor hx hb dL_law_444 ?_
  exact k
set_option maxHeartbeats 1000000 in
theorem lm_output (r0 : Int32) (X : LC p m c s D cy t A b L xs) (hW : Wd D A s (LW F) H locs) (hl : lv_has ls 4 [(0, .ref b), (1, .ref (a 0)), (2, .ref (z 0)), (3, .int (nI i0))]) (hi : i0 + 6 ≤ L) (k : W p l e room_1 s m #[Value.ref b] below meth c H locs cells slots Q (F0 m 484 ls [.long ((((xs (i0 + 4)).toInt64) <<< ((nI (32)).toInt64 &&& 63)) ||| (((xs (i0 + 5)).toInt64) &&& (4294967295 : Int64))), .int (xs (i0 + 3)), .int (xs (i0 + 2)), .int (xs (i0 + 1)), .ref (z 0), .int (r0)])) : W p l e room_1 s m #[Value.ref b] below meth c H locs cells slots Q (F0 m 448 ls [.int r0]) := by
  obtain ⟨⟨hx, hb, hml, hown, hts⟩, -, -, -, hX, hbl, hbA, hL⟩ := X
  refine lv_aload_n hx hb dL_law_448 rfl (lv_at hl 2 rfl) ?_
  refine lv_aload_n hx hb dL_law_449 rfl (lv_at hl 0 rfl) ?_
  refine lv_iload_n hx hb dL_law_450 rfl (lv_at hl 3 rfl) ?_
  refine lv_iconst (v := nI (1)) hx hb dL_law_451 (by decide) ?_
  refine lv_iadd hx hb dL_law_452 ?_
  refine tI (nI_add _ _) ?_
  refine rX hx hb hX hbl hbA hW (k := i0 + 1) (by omega) hL dL_law_453 ?_
  refine lv_aload_n hx hb dL_law_454 rfl (lv_at hl 0 rfl) ?_
  refine lv_iload_n hx hb dL_law_455 rfl (lv_at hl 3 rfl) ?_
  refine lv_iconst (v := nI (2)) hx hb dL_law_456 (by decide) ?_
  refine lv_iadd hx hb dL_law_457 ?_
  refine tI (nI_add _ _) ?_
  refine rX hx hb hX hbl hbA hW (k := i0 + 2) (by omega) hL dL_law_458 ?_
  refine lv_aload_n hx hb dL_law_459 rfl (lv_at hl 0 rfl) ?_
  refine lv_iload_n hx hb dL_law_460 rfl (lv_at hl 3 rfl) ?_
  refine lv_iconst (v := nI (3)) hx hb dL_law_461 (by decide) ?_
  refine lv_iadd hx hb dL_law_462 ?_
  refine tI (nI_add _ _) ?_
  refine rX hx hb hX hbl hbA hW (k := i0 + 3) (by omega) hL dL_law_463 ?_
  refine lv_aload_n hx hb dL_law_464 rfl (lv_at hl 0 rfl) ?_
  refine lv_iload_n hx hb dL_law_465 rfl (lv_at hl 3 rfl) ?_
  refine lv_iconst (v := nI (4)) hx hb dL_law_466 (by decide) ?_
  refine lv_iadd hx hb dL_law_467 ?_
  refine tI (nI_add _ _) ?_
  refine rX hx hb hX hbl hbA hW (k := i0 + 4) (by omega) hL dL_law_468 ?_
  refine lv_i2l hx hb dL_law_469 rfl ?_
  refine lv_bipush (v := nI (32)) hx hb dL_law_470 (by decide) ?_
  refine lv_lshl hx hb dL_law_472 rfl ?_
  refine lv_aload_n hx hb dL_law_473 rfl (lv_at hl 0 rfl) ?_
  refine lv_iload_n hx hb dL_law_474 rfl (lv_at hl 3 rfl) ?_
  refine lv_iconst (v := nI (5)) hx hb dL_law_475 (by decide) ?_
  refine lv_iadd hx hb dL_law_476 ?_
  refine tI (nI_add _ _) ?_
  refine rX hx hb hX hbl hbA hW (k := i0 + 5) (by omega) hL dL_law_477 ?_
  refine lv_i2l hx hb dL_law_478 rfl ?_
  refine lv_ldc2 (v := (4294967295 : Int64)) hx hb hown (hts (.constantLong RL 13 (4294967295)) wl_cl) dL_law_479 ?_
  refine lv_land hx hb dL_law_482 ?_
  refine lv_lor hx hb dL_law_483 ?_
  exact k
theorem le_output (X : LC p m c s D cy t A b L xs) {x : Int32} (k : W p l e room_1 s m #[Value.ref b] below meth c H locs cells slots Q (F0 m 868 ls [])) : W p l e room_1 s m #[Value.ref b] below meth c H locs cells slots Q (F0 m 487 ls [.int x, .int x]) := by
  obtain ⟨⟨hx, hb, hml, hown, hts⟩, -, -, -, hX, hbl, hbA, hL⟩ := X
  exact lv_icmp_eq (tgt := 868) hx hb dL_law_487 (by decide) (fun _ => k) (fun h => absurd rfl h)
set_option maxHeartbeats 1000000 in
theorem lx_copy (X : LC p m c s D cy t A b L xs) (hW : Wd D A s (LW F) H locs) (hl : lv_has ls 4 [(0, .ref b), (1, .ref (a 0)), (2, .ref (z 0)), (3, .int (nI i0))]) (hi : i0 + 6 ≤ L) (k : W p l e room_1 s m #[Value.ref b] below meth c H locs cells slots Q (F0 m 503 ls [.int (xs (i0 + 2)), .int (xs (i0 + 1)), .ref (a 0)])) : W p l e room_1 s m #[Value.ref b] below meth c H locs cells slots Q (F0 m 492 ls []) := by
  obtain ⟨⟨hx, hb, hml, hown, hts⟩, -, -, -, hX, hbl, hbA, hL⟩ := X
  refine lv_aload_n hx hb dL_law_492 rfl (lv_at hl 1 rfl) ?_
  refine lv_aload_n hx hb dL_law_493 rfl (lv_at hl 0 rfl) ?_
  refine lv_iload_n hx hb dL_law_494 rfl (lv_at hl 3 rfl) ?_
  refine lv_iconst (v := nI (1)) hx hb dL_law_495 (by decide) ?_
  refine lv_iadd hx hb dL_law_496 ?_
  refine tI (nI_add _ _) ?_
  refine rX hx hb hX hbl hbA hW (k := i0 + 1) (by omega) hL dL_law_497 ?_
  refine lv_aload_n hx hb dL_law_498 rfl (lv_at hl 0 rfl) ?_
  refine lv_iload_n hx hb dL_law_499 rfl (lv_at hl 3 rfl) ?_
  refine lv_iconst (v := nI (2)) hx hb dL_law_500 (by decide) ?_
  refine lv_iadd hx hb dL_law_501 ?_
  refine tI (nI_add _ _) ?_
  refine rX hx hb hX hbl hbA hW (k := i0 + 2) (by omega) hL dL_law_502 ?_
  exact k
set_option maxHeartbeats 1000000 in
theorem lm_copy (r0 : Int32) (X : LC p m c s D cy t A b L xs) (hW : Wd D A s (LW F) H locs) (hl : lv_has ls 4 [(0, .ref b), (1, .ref (a 0)), (2, .ref (z 0)), (3, .int (nI i0))]) (hi : i0 + 6 ≤ L) (k : W p l e room_1 s m #[Value.ref b] below meth c H locs cells slots Q (F0 m 517 ls [.int (xs (i0 + 2)), .int (xs (i0 + 1)), .ref (z 0), .int (r0)])) : W p l e room_1 s m #[Value.ref b] below meth c H locs cells slots Q (F0 m 506 ls [.int r0]) := by
  obtain ⟨⟨hx, hb, hml, hown, hts⟩, -, -, -, hX, hbl, hbA, hL⟩ := X
  refine lv_aload_n hx hb dL_law_506 rfl (lv_at hl 2 rfl) ?_
  refine lv_aload_n hx hb dL_law_507 rfl (lv_at hl 0 rfl) ?_
  refine lv_iload_n hx hb dL_law_508 rfl (lv_at hl 3 rfl) ?_
  refine lv_iconst (v := nI (1)) hx hb dL_law_509 (by decide) ?_
  refine lv_iadd hx hb dL_law_510 ?_
  refine tI (nI_add _ _) ?_
  refine rX hx hb hX hbl hbA hW (k := i0 + 1) (by omega) hL dL_law_511 ?_
  refine lv_aload_n hx hb dL_law_512 rfl (lv_at hl 0 rfl) ?_
  refine lv_iload_n hx hb dL_law_513 rfl (lv_at hl 3 rfl) ?_
  refine lv_iconst (v := nI (2)) hx hb dL_law_514 (by decide) ?_
  refine lv_iadd hx hb dL_law_515 ?_
  refine tI (nI_add _ _) ?_
  refine rX hx hb hX hbl hbA hW (k := i0 + 2) (by omega) hL dL_law_516 ?_
  exact k
theorem le_copy (X : LC p m c s D cy t A b L xs) {x : Int32} (k : W p l e room_1 s m #[Value.ref b] below meth c H locs cells slots Q (F0 m 868 ls [])) : W p l e room_1 s m #[Value.ref b] below meth c H locs cells slots Q (F0 m 520 ls [.int x, .int x]) := by
  obtain ⟨⟨hx, hb, hml, hown, hts⟩, -, -, -, hX, hbl, hbA, hL⟩ := X
  exact lv_icmp_eq (tgt := 868) hx hb dL_law_520 (by decide) (fun _ => k) (fun h => absurd rfl h)
set_option maxHeartbeats 1000000 in
theorem lx_told (X : LC p m c s D cy t A b L xs) (hW : Wd D A s (LW F) H locs) (hl : lv_has ls 4 [(0, .ref b), (1, .ref (a 0)), (2, .ref (z 0)), (3, .int (nI i0))]) (hi : i0 + 6 ≤ L) (k : W p l e room_1 s m #[Value.ref b] below meth c H locs cells slots Q (F0 m 536 ls [.int (xs (i0 + 2)), .int (xs (i0 + 1)), .ref (a 0)])) : W p l e room_1 s m #[Value.ref b] below meth c H locs cells slots Q (F0 m 525 ls []) := by
  obtain ⟨⟨hx, hb, hml, hown, hts⟩, -, -, -, hX, hbl, hbA, hL⟩ := X
  refine lv_aload_n hx hb dL_law_525 rfl (lv_at hl 1 rfl) ?_
  refine lv_aload_n hx hb dL_law_526 rfl (lv_at hl 0 rfl) ?_
  refine lv_iload_n hx hb dL_law_527 rfl (lv_at hl 3 rfl) ?_
  refine lv_iconst (v := nI (1)) hx hb dL_law_528 (by decide) ?_
  refine lv_iadd hx hb dL_law_529 ?_
  refine tI (nI_add _ _) ?_
  refine rX hx hb hX hbl hbA hW (k := i0 + 1) (by omega) hL dL_law_530 ?_
  refine lv_aload_n hx hb dL_law_531 rfl (lv_at hl 0 rfl) ?_
  refine lv_iload_n hx hb dL_law_532 rfl (lv_at hl 3 rfl) ?_
  refine lv_iconst (v := nI (2)) hx hb dL_law_533 (by decide) ?_
  refine lv_iadd hx hb dL_law_534 ?_
  refine tI (nI_add _ _) ?_
  refine rX hx hb hX hbl hbA hW (k := i0 + 2) (by omega) hL dL_law_535 ?_
  exact k
set_option maxHeartbeats 1000000 in
theorem lm_told (r0 : Int32) (X : LC p m c s D cy t A b L xs) (hW : Wd D A s (LW F) H locs) (hl : lv_has ls 4 [(0, .ref b), (1, .ref (a 0)), (2, .ref (z 0)), (3, .int (nI i0))]) (hi : i0 + 6 ≤ L) (k : W p l e room_1 s m #[Value.ref b] below meth c H locs cells slots Q (F0 m 550 ls [.int (xs (i0 + 2)), .int (xs (i0 + 1)), .ref (z 0), .int (r0)])) : W p l e room_1 s m #[Value.ref b] below meth c H locs cells slots Q (F0 m 539 ls [.int r0]) := by
  obtain ⟨⟨hx, hb, hml, hown, hts⟩, -, -, -, hX, hbl, hbA, hL⟩ := X
  refine lv_aload_n hx hb dL_law_539 rfl (lv_at hl 2 rfl) ?_
  refine lv_aload_n hx hb dL_law_540 rfl (lv_at hl 0 rfl) ?_
  refine lv_iload_n hx hb dL_law_541 rfl (lv_at hl 3 rfl) ?_
  refine lv_iconst (v := nI (1)) hx hb dL_law_542 (by decide) ?_
  refine lv_iadd hx hb dL_law_543 ?_
  refine tI (nI_add _ _) ?_
  refine rX hx hb hX hbl hbA hW (k := i0 + 1) (by omega) hL dL_law_544 ?_
  refine lv_aload_n hx hb dL_law_545 rfl (lv_at hl 0 rfl) ?_
  refine lv_iload_n hx hb dL_law_546 rfl (lv_at hl 3 rfl) ?_
  refine lv_iconst (v := nI (2)) hx hb dL_law_547 (by decide) ?_
  refine lv_iadd hx hb dL_law_548 ?_
  refine tI (nI_add _ _) ?_
  refine rX hx hb hX hbl hbA hW (k := i0 + 2) (by omega) hL dL_law_549 ?_
  exact k
theorem le_told (X : LC p m c s D cy t A b L xs) {x : Int32} (k : W p l e room_1 s m #[Value.ref b] below meth c H locs cells slots Q (F0 m 868 ls [])) : W p l e room_1 s m #[Value.ref b] below meth c H locs cells slots Q (F0 m 553 ls [.int x, .int x]) := by
  obtain ⟨⟨hx, hb, hml, hown, hts⟩, -, -, -, hX, hbl, hbA, hL⟩ := X
  exact lv_icmp_eq (tgt := 868) hx hb dL_law_553 (by decide) (fun _ => k) (fun h => absurd rfl h)
set_option maxHeartbeats 1000000 in
theorem lx_chain (X : LC p m c s D cy t A b L xs) (hW : Wd D A s (LW F) H locs) (hl : lv_has ls 4 [(0, .ref b), (1, .ref (a 0)), (2, .ref (z 0)), (3, .int (nI i0))]) (hi : i0 + 6 ≤ L) (k : W p l e room_1 s m #[Value.ref b] below meth c H locs cells slots Q (F0 m 574 ls [.int (xs (i0 + 3)), .int (xs (i0 + 2)), .int (xs (i0 + 1)), .ref (a 0)])) : W p l e room_1 s m #[Value.ref b] below meth c H locs cells slots Q (F0 m 558 ls []) := by
  obtain ⟨⟨hx, hb, hml, hown, hts⟩, -, -, -, hX, hbl, hbA, hL⟩ := X
  refine lv_aload_n hx hb dL_law_558 rfl (lv_at hl 1 rfl) ?_
  refine lv_aload_n hx hb dL_law_559 rfl (lv_at hl 0 rfl) ?_
  refine lv_iload_n hx hb dL_law_560 rfl (lv_at hl 3 rfl) ?_
  refine lv_iconst (v := nI (1)) hx hb dL_law_561 (by decide) ?_
  refine lv_iadd hx hb dL_law_562 ?_
  refine tI (nI_add _ _) ?_
  refine rX hx hb hX hbl hbA hW (k := i0 + 1) (by omega) hL dL_law_563 ?_
  refine lv_aload_n hx hb dL_law_564 rfl (lv_at hl 0 rfl) ?_
  refine lv_iload_n hx hb dL_law_565 rfl (lv_at hl 3 rfl) ?_
  refine lv_iconst (v := nI (2)) hx hb dL_law_566 (by decide) ?_
  refine lv_iadd hx hb dL_law_567 ?_
  refine tI (nI_add _ _) ?_
  refine rX hx hb hX hbl hbA hW (k := i0 + 2) (by omega) hL dL_law_568 ?_
  refine lv_aload_n hx hb dL_law_569 rfl (lv_at hl 0 rfl) ?_
  refine lv_iload_n hx hb dL_law_570 rfl (lv_at hl 3 rfl) ?_
  refine lv_iconst (v := nI (3)) hx hb dL_law_571 (by decide) ?_
  refine lv_iadd hx hb dL_law_572 ?_
  refine tI (nI_add _ _) ?_
  refine rX hx hb hX hbl hbA hW (k := i0 + 3) (by omega) hL dL_law_573 ?_
  exact k
set_option maxHeartbeats 1000000 in
theorem lm_chain (r0 : Int32) (X : LC p m c s D cy t A b L xs) (hW : Wd D A s (LW F) H locs) (hl : lv_has ls 4 [(0, .ref b), (1, .ref (a 0)), (2, .ref (z 0)), (3, .int (nI i0))]) (hi : i0 + 6 ≤ L) (k : W p l e room_1 s m #[Value.ref b] below meth c H locs cells slots Q (F0 m 593 ls [.int (xs (i0 + 3)), .int (xs (i0 + 2)), .int (xs (i0 + 1)), .ref (z 0), .int (r0)])) : W p l e room_1 s m #[Value.ref b] below meth c H locs cells slots Q (F0 m 577 ls [.int r0]) := by
  obtain ⟨⟨hx, hb, hml, hown, hts⟩, -, -, -, hX, hbl, hbA, hL⟩ := X
  refine lv_aload_n hx hb dL_law_577 rfl (lv_at hl 2 rfl) ?_
  refine lv_aload_n hx hb dL_law_578 rfl (lv_at hl 0 rfl) ?_
  refine lv_iload_n hx hb dL_law_579 rfl (lv_at hl 3 rfl) ?_
  refine lv_iconst (v := nI (1)) hx hb dL_law_580 (by decide) ?_
  refine lv_iadd hx hb dL_law_581 ?_
  refine tI (nI_add _ _) ?_
  refine rX hx hb hX hbl hbA hW (k := i0 + 1) (by omega) hL dL_law_582 ?_
  refine lv_aload_n hx hb dL_law_583 rfl (lv_at hl 0 rfl) ?_
  refine lv_iload_n hx hb dL_law_584 rfl (lv_at hl 3 rfl) ?_
  refine lv_iconst (v := nI (2)) hx hb dL_law_585 (by decide) ?_
  refine lv_iadd hx hb dL_law_586 ?_
  refine tI (nI_add _ _) ?_
  refine rX hx hb hX hbl hbA hW (k := i0 + 2) (by omega) hL dL_law_587 ?_
  refine lv_aload_n hx hb dL_law_588 rfl (lv_at hl 0 rfl) ?_
  refine lv_iload_n hx hb dL_law_589 rfl (lv_at hl 3 rfl) ?_
  refine lv_iconst (v := nI (3)) hx hb dL_law_590 (by decide) ?_
  refine lv_iadd hx hb dL_law_591 ?_
  refine tI (nI_add _ _) ?_
  refine rX hx hb hX hbl hbA hW (k := i0 + 3) (by omega) hL dL_law_592 ?_
  exact k
theorem le_chain (X : LC p m c s D cy t A b L xs) {x : Int32} (k : W p l e room_1 s m #[Value.ref b] below meth c H locs cells slots Q (F0 m 868 ls [])) : W p l e room_1 s m #[Value.ref b] below meth c H locs cells slots Q (F0 m 596 ls [.int x, .int x]) := by
  obtain ⟨⟨hx, hb, hml, hown, hts⟩, -, -, -, hX, hbl, hbA, hL⟩ := X
  exact lv_icmp_eq (tgt := 868) hx hb dL_law_596 (by decide) (fun _ => k) (fun h => absurd rfl h)
set_option maxHeartbeats 1000000 in
theorem lx_grow (X : LC p m c s D cy t A b L xs) (hW : Wd D A s (LW F) H locs) (hl : lv_has ls 4 [(0, .ref b), (1, .ref (a 0)), (2, .ref (z 0)), (3, .int (nI i0))]) (hi : i0 + 6 ≤ L) (k : W p l e room_1 s m #[Value.ref b] below meth c H locs cells slots Q (F0 m 617 ls [.int (xs (i0 + 3)), .int (xs (i0 + 2)), .int (xs (i0 + 1)), .ref (a 0)])) : W p l e room_1 s m #[Value.ref b] below meth c H locs cells slots Q (F0 m 601 ls []) := by
  obtain ⟨⟨hx, hb, hml, hown, hts⟩, -, -, -, hX, hbl, hbA, hL⟩ := X
  refine lv_aload_n hx hb dL_law_601 rfl (lv_at hl 1 rfl) ?_
  refine lv_aload_n hx hb dL_law_602 rfl (lv_at hl 0 rfl) ?_
  refine lv_iload_n hx hb dL_law_603 rfl (lv_at hl 3 rfl) ?_
  refine lv_iconst (v := nI (1)) hx hb dL_law_604 (by decide) ?_
  refine lv_iadd hx hb dL_law_605 ?_
  refine tI (nI_add _ _) ?_
  refine rX hx hb hX hbl hbA hW (k := i0 + 1) (by omega) hL dL_law_606 ?_
  refine lv_aload_n hx hb dL_law_607 rfl (lv_at hl 0 rfl) ?_
  refine lv_iload_n hx hb dL_law_608 rfl (lv_at hl 3 rfl) ?_
  refine lv_iconst (v := nI (2)) hx hb dL_law_609 (by decide) ?_
  refine lv_iadd hx hb dL_law_610 ?_
  refine tI (nI_add _ _) ?_
  refine rX hx hb hX hbl hbA hW (k := i0 + 2) (by omega) hL dL_law_611 ?_
  refine lv_aload_n hx hb dL_law_612 rfl (lv_at hl 0 rfl) ?_
  refine lv_iload_n hx hb dL_law_613 rfl (lv_at hl 3 rfl) ?_
  refine lv_iconst (v := nI (3)) hx hb dL_law_614 (by decide) ?_
  refine lv_iadd hx hb dL_law_615 ?_
  refine tI (nI_add _ _) ?_
  refine rX hx hb hX hbl hbA hW (k := i0 + 3) (by omega) hL dL_law_616 ?_
  exact k
set_option maxHeartbeats 1000000 in
theorem lm_grow (r0 : Int32) (X : LC p m c s D cy t A b L xs) (hW : Wd D A s (LW F) H locs) (hl : lv_has ls 4 [(0, .ref b), (1, .ref (a 0)), (2, .ref (z 0)), (3, .int (nI i0))]) (hi : i0 + 6 ≤ L) (k : W p l e room_1 s m #[Value.ref b] below meth c H locs cells slots Q (F0 m 636 ls [.int (xs (i0 + 3)), .int (xs (i0 + 2)), .int (xs (i0 + 1)), .ref (z 0), .int (r0)])) : W p l e room_1 s m #[Value.ref b] below meth c H locs cells slots Q (F0 m 620 ls [.int r0]) := by
  obtain ⟨⟨hx, hb, hml, hown, hts⟩, -, -, -, hX, hbl, hbA, hL⟩ := X
  refine lv_aload_n hx hb dL_law_620 rfl (lv_at hl 2 rfl) ?_
  refine lv_aload_n hx hb dL_law_621 rfl (lv_at hl 0 rfl) ?_
  refine lv_iload_n hx hb dL_law_622 rfl (lv_at hl 3 rfl) ?_
  refine lv_iconst (v := nI (1)) hx hb dL_law_623 (by decide) ?_
  refine lv_iadd hx hb dL_law_624 ?_
  refine tI (nI_add _ _) ?_
  refine rX hx hb hX hbl hbA hW (k := i0 + 1) (by omega) hL dL_law_625 ?_
  refine lv_aload_n hx hb dL_law_626 rfl (lv_at hl 0 rfl) ?_
  refine lv_iload_n hx hb dL_law_627 rfl (lv_at hl 3 rfl) ?_
  refine lv_iconst (v := nI (2)) hx hb dL_law_628 (by decide) ?_
  refine lv_iadd hx hb dL_law_629 ?_
  refine tI (nI_add _ _) ?_
  refine rX hx hb hX hbl hbA hW (k := i0 + 2) (by omega) hL dL_law_630 ?_
  refine lv_aload_n hx hb dL_law_631 rfl (lv_at hl 0 rfl) ?_
  refine lv_iload_n hx hb dL_law_632 rfl (lv_at hl 3 rfl) ?_
  refine lv_iconst (v := nI (3)) hx hb dL_law_633 (by decide) ?_
  refine lv_iadd hx hb dL_law_634 ?_
  refine tI (nI_add _ _) ?_
  refine rX hx hb hX hbl hbA hW (k := i0 + 3) (by omega) hL dL_law_635 ?_
  exact k
theorem le_grow (X : LC p m c s D cy t A b L xs) {x : Int32} (k : W p l e room_1 s m #[Value.ref b] below meth c H locs cells slots Q (F0 m 868 ls [])) : W p l e room_1 s m #[Value.ref b] below meth c H locs cells slots Q (F0 m 639 ls [.int x, .int x]) := by
  obtain ⟨⟨hx, hb, hml, hown, hts⟩, -, -, -, hX, hbl, hbA, hL⟩ := X
  exact lv_icmp_eq (tgt := 868) hx hb dL_law_639 (by decide) (fun _ => k) (fun h => absurd rfl h)
set_option maxHeartbeats 1000000 in
theorem lx_spoil (X : LC p m c s D cy t A b L xs) (hW : Wd D A s (LW F) H locs) (hl : lv_has ls 4 [(0, .ref b), (1, .ref (a 0)), (2, .ref (z 0)), (3, .int (nI i0))]) (hi : i0 + 6 ≤ L) (k : W p l e room_1 s m #[Value.ref b] below meth c H locs cells slots Q (F0 m 655 ls [.int (xs (i0 + 2)), .int (xs (i0 + 1)), .ref (a 0)])) : W p l e room_1 s m #[Value.ref b] below meth c H locs cells slots Q (F0 m 644 ls []) := by
  obtain ⟨⟨hx, hb, hml, hown, hts⟩, -, -, -, hX, hbl, hbA, hL⟩ := X
  refine lv_aload_n hx hb dL_law_644 rfl (lv_at hl 1 rfl) ?_
  refine lv_aload_n hx hb dL_law_645 rfl (lv_at hl 0 rfl) ?_
  refine lv_iload_n hx hb dL_law_646 rfl (lv_at hl 3 rfl) ?_
  refine lv_iconst (v := nI (1)) hx hb dL_law_647 (by decide) ?_
  refine lv_iadd hx hb dL_law_648 ?_
  refine tI (nI_add _ _) ?_
  refine rX hx hb hX hbl hbA hW (k := i0 + 1) (by omega) hL dL_law_649 ?_
  refine lv_aload_n hx hb dL_law_650 rfl (lv_at hl 0 rfl) ?_
  refine lv_iload_n hx hb dL_law_651 rfl (lv_at hl 3 rfl) ?_
  refine lv_iconst (v := nI (2)) hx hb dL_law_652 (by decide) ?_
  refine lv_iadd hx hb dL_law_653 ?_
  refine tI (nI_add _ _) ?_
  refine rX hx hb hX hbl hbA hW (k := i0 + 2) (by omega) hL dL_law_654 ?_
  exact k
set_option maxHeartbeats 1000000 in
theorem lm_spoil (r0 : Int32) (X : LC p m c s D cy t A b L xs) (hW : Wd D A s (LW F) H locs) (hl : lv_has ls 4 [(0, .ref b), (1, .ref (a 0)), (2, .ref (z 0)), (3, .int (nI i0))]) (hi : i0 + 6 ≤ L) (k : W p l e room_1 s m #[Value.ref b] below meth c H locs cells slots Q (F0 m 669 ls [.int (xs (i0 + 2)), .int (xs (i0 + 1)), .ref (z 0), .int (r0)])) : W p l e room_1 s m #[Value.ref b] below meth c H locs cells slots Q (F0 m 658 ls [.int r0]) := by
  obtain ⟨⟨hx, hb, hml, hown, hts⟩, -, -, -, hX, hbl, hbA, hL⟩ := X
  refine lv_aload_n hx hb dL_law_658 rfl (lv_at hl 2 rfl) ?_
  refine lv_aload_n hx hb dL_law_659 rfl (lv_at hl 0 rfl) ?_
  refine lv_iload_n hx hb dL_law_660 rfl (lv_at hl 3 rfl) ?_
  refine lv_iconst (v := nI (1)) hx hb dL_law_661 (by decide) ?_
  refine lv_iadd hx hb dL_law_662 ?_
  refine tI (nI_add _ _) ?_
  refine rX hx hb hX hbl hbA hW (k := i0 + 1) (by omega) hL dL_law_663 ?_
  refine lv_aload_n hx hb dL_law_664 rfl (lv_at hl 0 rfl) ?_
  refine lv_iload_n hx hb dL_law_665 rfl (lv_at hl 3 rfl) ?_
  refine lv_iconst (v := nI (2)) hx hb dL_law_666 (by decide) ?_
  refine lv_iadd hx hb dL_law_667 ?_
  refine tI (nI_add _ _) ?_
  refine rX hx hb hX hbl hbA hW (k := i0 + 2) (by omega) hL dL_law_668 ?_
  exact k
theorem le_spoil (X : LC p m c s D cy t A b L xs) {x : Int32} (k : W p l e room_1 s m #[Value.ref b] below meth c H locs cells slots Q (F0 m 868 ls [])) : W p l e room_1 s m #[Value.ref b] below meth c H locs cells slots Q (F0 m 672 ls [.int x, .int x]) := by
  obtain ⟨⟨hx, hb, hml, hown, hts⟩, -, -, -, hX, hbl, hbA, hL⟩ := X
  exact lv_icmp_eq (tgt := 868) hx hb dL_law_672 (by decide) (fun _ => k) (fun h => absurd rfl h)
set_option maxHeartbeats 1000000 in
theorem lx_shorten (X : LC p m c s D cy t A b L xs) (hW : Wd D A s (LW F) H locs) (hl : lv_has ls 4 [(0, .ref b), (1, .ref (a 0)), (2, .ref (z 0)), (3, .int (nI i0))]) (hi : i0 + 6 ≤ L) (k : W p l e room_1 s m #[Value.ref b] below meth c H locs cells slots Q (F0 m 683 ls [.int (xs (i0 + 1)), .ref (a 0)])) : W p l e room_1 s m #[Value.ref b] below meth c H locs cells slots Q (F0 m 677 ls []) := by
  obtain ⟨⟨hx, hb, hml, hown, hts⟩, -, -, -, hX, hbl, hbA, hL⟩ := X
  refine lv_aload_n hx hb dL_law_677 rfl (lv_at hl 1 rfl) ?_
  refine lv_aload_n hx hb dL_law_678 rfl (lv_at hl 0 rfl) ?_
  refine lv_iload_n hx hb dL_law_679 rfl (lv_at hl 3 rfl) ?_
  refine lv_iconst (v := nI (1)) hx hb dL_law_680 (by decide) ?_
  refine lv_iadd hx hb dL_law_681 ?_
  refine tI (nI_add _ _) ?_
  refine rX hx hb hX hbl hbA hW (k := i0 + 1) (by omega) hL dL_law_682 ?_
  exact k
set_option maxHeartbeats 1000000 in
theorem lm_shorten (r0 : Int32) (X : LC p m c s D cy t A b L xs) (hW : Wd D A s (LW F) H locs) (hl : lv_has ls 4 [(0, .ref b), (1, .ref (a 0)), (2, .ref (z 0)), (3, .int (nI i0))]) (hi : i0 + 6 ≤ L) (k : W p l e room_1 s m #[Value.ref b] below meth c H locs cells slots Q (F0 m 692 ls [.int (xs (i0 + 1)), .ref (z 0), .int (r0)])) : W p l e room_1 s m #[Value.ref b] below meth c H locs cells slots Q (F0 m 686 ls [.int r0]) := by
  obtain ⟨⟨hx, hb, hml, hown, hts⟩, -, -, -, hX, hbl, hbA, hL⟩ := X
  refine lv_aload_n hx hb dL_law_686 rfl (lv_at hl 2 rfl) ?_
  refine lv_aload_n hx hb dL_law_687 rfl (lv_at hl 0 rfl) ?_
  refine lv_iload_n hx hb dL_law_688 rfl (lv_at hl 3 rfl) ?_
  refine lv_iconst (v := nI (1)) hx hb dL_law_689 (by decide) ?_
  refine lv_iadd hx hb dL_law_690 ?_
  refine tI (nI_add _ _) ?_
  refine rX hx hb hX hbl hbA hW (k := i0 + 1) (by omega) hL dL_law_691 ?_
  exact k
theorem le_shorten (X : LC p m c s D cy t A b L xs) {x : Int32} (k : W p l e room_1 s m #[Value.ref b] below meth c H locs cells slots Q (F0 m 868 ls [])) : W p l e room_1 s m #[Value.ref b] below meth c H locs cells slots Q (F0 m 695 ls [.int x, .int x]) := by
  obtain ⟨⟨hx, hb, hml, hown, hts⟩, -, -, -, hX, hbl, hbA, hL⟩ := X
  exact lv_icmp_eq (tgt := 868) hx hb dL_law_695 (by decide) (fun _ => k) (fun h => absurd rfl h)
set_option maxHeartbeats 1000000 in
theorem lx_root (X : LC p m c s D cy t A b L xs) (hW : Wd D A s (LW F) H locs) (hl : lv_has ls 4 [(0, .ref b), (1, .ref (a 0)), (2, .ref (z 0)), (3, .int (nI i0))]) (hi : i0 + 6 ≤ L) (k : W p l e room_1 s m #[Value.ref b] below meth c H locs cells slots Q (F0 m 706 ls [.int (xs (i0 + 1)), .ref (a 0)])) : W p l e room_1 s m #[Value.ref b] below meth c H locs cells slots Q (F0 m 700 ls []) := by
  obtain ⟨⟨hx, hb, hml, hown, hts⟩, -, -, -, hX, hbl, hbA, hL⟩ := X
  refine lv_aload_n hx hb dL_law_700 rfl (lv_at hl 1 rfl) ?_
  refine lv_aload_n hx hb dL_law_701 rfl (lv_at hl 0 rfl) ?_
  refine lv_iload_n hx hb dL_law_702 rfl (lv_at hl 3 rfl) ?_
  refine lv_iconst (v := nI (1)) hx hb dL_law_703 (by decide) ?_
  refine lv_iadd hx hb dL_law_704 ?_
  refine tI (nI_add _ _) ?_
  refine rX hx hb hX hbl hbA hW (k := i0 + 1) (by omega) hL dL_law_705 ?_
  exact k
set_option maxHeartbeats 1000000 in
theorem lm_root (r0 : Int32) (X : LC p m c s D cy t A b L xs) (hW : Wd D A s (LW F) H locs) (hl : lv_has ls 4 [(0, .ref b), (1, .ref (a 0)), (2, .ref (z 0)), (3, .int (nI i0))]) (hi : i0 + 6 ≤ L) (k : W p l e room_1 s m #[Value.ref b] below meth c H locs cells slots Q (F0 m 715 ls [.int (xs (i0 + 1)), .ref (z 0), .int (r0)])) : W p l e room_1 s m #[Value.ref b] below meth c H locs cells slots Q (F0 m 709 ls [.int r0]) := by
  obtain ⟨⟨hx, hb, hml, hown, hts⟩, -, -, -, hX, hbl, hbA, hL⟩ := X
  refine lv_aload_n hx hb dL_law_709 rfl (lv_at hl 2 rfl) ?_
  refine lv_aload_n hx hb dL_law_710 rfl (lv_at hl 0 rfl) ?_
  refine lv_iload_n hx hb dL_law_711 rfl (lv_at hl 3 rfl) ?_
  refine lv_iconst (v := nI (1)) hx hb dL_law_712 (by decide) ?_
  refine lv_iadd hx hb dL_law_713 ?_
  refine tI (nI_add _ _) ?_
  refine rX hx hb hX hbl hbA hW (k := i0 + 1) (by omega) hL dL_law_714 ?_
  exact k
theorem le_root (X : LC p m c s D cy t A b L xs) {x : Int32} (k : W p l e room_1 s m #[Value.ref b] below meth c H locs cells slots Q (F0 m 868 ls [])) : W p l e room_1 s m #[Value.ref b] below meth c H locs cells slots Q (F0 m 718 ls [.int x, .int x]) := by
  obtain ⟨⟨hx, hb, hml, hown, hts⟩, -, -, -, hX, hbl, hbA, hL⟩ := X
  exact lv_icmp_eq (tgt := 868) hx hb dL_law_718 (by decide) (fun _ => k) (fun h => absurd rfl h)
set_option maxHeartbeats 1000000 in
theorem lx_prove (X : LC p m c s D cy t A b L xs) (hW : Wd D A s (LW F) H locs) (hl : lv_has ls 4 [(0, .ref b), (1, .ref (a 0)), (2, .ref (z 0)), (3, .int (nI i0))]) (hi : i0 + 6 ≤ L) (k : W p l e room_1 s m #[Value.ref b] below meth c H locs cells slots Q (F0 m 729 ls [.int (xs (i0 + 1)), .ref (a 0)])) : W p l e room_1 s m #[Value.ref b] below meth c H locs cells slots Q (F0 m 723 ls []) := by
  obtain ⟨⟨hx, hb, hml, hown, hts⟩, -, -, -, hX, hbl, hbA, hL⟩ := X
  refine lv_aload_n hx hb dL_law_723 rfl (lv_at hl 1 rfl) ?_
  refine lv_aload_n hx hb dL_law_724 rfl (lv_at hl 0 rfl) ?_
  refine lv_iload_n hx hb dL_law_725 rfl (lv_at hl 3 rfl) ?_
  refine lv_iconst (v := nI (1)) hx hb dL_law_726 (by decide) ?_
  refine lv_iadd hx hb dL_law_727 ?_
  refine tI (nI_add _ _) ?_
  refine rX hx hb hX hbl hbA hW (k := i0 + 1) (by omega) hL dL_law_728 ?_
  exact k
set_option maxHeartbeats 1000000 in
theorem lm_prove (r0 : Int32) (X : LC p m c s D cy t A b L xs) (hW : Wd D A s (LW F) H locs) (hl : lv_has ls 4 [(0, .ref b), (1, .ref (a 0)), (2, .ref (z 0)), (3, .int (nI i0))]) (hi : i0 + 6 ≤ L) (k : W p l e room_1 s m #[Value.ref b] below meth c H locs cells slots Q (F0 m 738 ls [.int (xs (i0 + 1)), .ref (z 0), .int (r0)])) : W p l e room_1 s m #[Value.ref b] below meth c H locs cells slots Q (F0 m 732 ls [.int r0]) := by
  obtain ⟨⟨hx, hb, hml, hown, hts⟩, -, -, -, hX, hbl, hbA, hL⟩ := X
  refine lv_aload_n hx hb dL_law_732 rfl (lv_at hl 2 rfl) ?_
  refine lv_aload_n hx hb dL_law_733 rfl (lv_at hl 0 rfl) ?_
  refine lv_iload_n hx hb dL_law_734 rfl (lv_at hl 3 rfl) ?_
  refine lv_iconst (v := nI (1)) hx hb dL_law_735 (by decide) ?_
  refine lv_iadd hx hb dL_law_736 ?_
  refine tI (nI_add _ _) ?_
  refine rX hx hb hX hbl hbA hW (k := i0 + 1) (by omega) hL dL_law_737 ?_
  exact k
theorem le_prove (X : LC p m c s D cy t A b L xs) {x : Int32} (k : W p l e room_1 s m #[Value.ref b] below meth c H locs cells slots Q (F0 m 868 ls [])) : W p l e room_1 s m #[Value.ref b] below meth c H locs cells slots Q (F0 m 741 ls [.int x, .int x]) := by
  obtain ⟨⟨hx, hb, hml, hown, hts⟩, -, -, -, hX, hbl, hbA, hL⟩ := X
  exact lv_icmp_eq (tgt := 868) hx hb dL_law_741 (by decide) (fun _ => k) (fun h => absurd rfl h)
set_option maxHeartbeats 1000000 in
theorem lx_proof (X : LC p m c s D cy t A b L xs) (hW : Wd D A s (LW F) H locs) (hl : lv_has ls 4 [(0, .ref b), (1, .ref (a 0)), (2, .ref (z 0)), (3, .int (nI i0))]) (hi : i0 + 6 ≤ L) (k : W p l e room_1 s m #[Value.ref b] below meth c H locs cells slots Q (F0 m 752 ls [.int (xs (i0 + 1)), .ref (a 0)])) : W p l e room_1 s m #[Value.ref b] below meth c H locs cells slots Q (F0 m 746 ls []) := by
  obtain ⟨⟨hx, hb, hml, hown, hts⟩, -, -, -, hX, hbl, hbA, hL⟩ := X
  refine lv_aload_n hx hb dL_law_746 rfl (lv_at hl 1 rfl) ?_
  refine lv_aload_n hx hb dL_law_747 rfl (lv_at hl 0 rfl) ?_
  refine lv_iload_n hx hb dL_law_748 rfl (lv_at hl 3 rfl) ?_
  refine lv_iconst (v := nI (1)) hx hb dL_law_749 (by decide) ?_
  refine lv_iadd hx hb dL_law_750 ?_
  refine tI (nI_add _ _) ?_
  refine rX hx hb hX hbl hbA hW (k := i0 + 1) (by omega) hL dL_law_751 ?_
  exact k
set_option maxHeartbeats 1000000 in
theorem lm_proof (r0 : Int32) (X : LC p m c s D cy t A b L xs) (hW : Wd D A s (LW F) H locs) (hl : lv_has ls 4 [(0, .ref b), (1, .ref (a 0)), (2, .ref (z 0)), (3, .int (nI i0))]) (hi : i0 + 6 ≤ L) (k : W p l e room_1 s m #[Value.ref b] below meth c H locs cells slots Q (F0 m 761 ls [.int (xs (i0 + 1)), .ref (z 0), .int (r0)])) : W p l e room_1 s m #[Value.ref b] below meth c H locs cells slots Q (F0 m 755 ls [.int r0]) := by
  obtain ⟨⟨hx, hb, hml, hown, hts⟩, -, -, -, hX, hbl, hbA, hL⟩ := X
  refine lv_aload_n hx hb dL_law_755 rfl (lv_at hl 2 rfl) ?_
  refine lv_aload_n hx hb dL_law_756 rfl (lv_at hl 0 rfl) ?_
  refine lv_iload_n hx hb dL_law_757 rfl (lv_at hl 3 rfl) ?_
  refine lv_iconst (v := nI (1)) hx hb dL_law_758 (by decide) ?_
  refine lv_iadd hx hb dL_law_759 ?_
  refine tI (nI_add _ _) ?_
  refine rX hx hb hX hbl hbA hW (k := i0 + 1) (by omega) hL dL_law_760 ?_
  exact k
theorem le_proof (X : LC p m c s D cy t A b L xs) {x : Int32} (k : W p l e room_1 s m #[Value.ref b] below meth c H locs cells slots Q (F0 m 868 ls [])) : W p l e room_1 s m #[Value.ref b] below meth c H locs cells slots Q (F0 m 764 ls [.int x, .int x]) := by
  obtain ⟨⟨hx, hb, hml, hown, hts⟩, -, -, -, hX, hbl, hbA, hL⟩ := X
  exact lv_icmp_eq (tgt := 868) hx hb dL_law_764 (by decide) (fun _ => k) (fun h => absurd rfl h)
set_option maxHeartbeats 1000000 in
theorem lx_forge (X : LC p m c s D cy t A b L xs) (hW : Wd D A s (LW F) H locs) (hl : lv_has ls 4 [(0, .ref b), (1, .ref (a 0)), (2, .ref (z 0)), (3, .int (nI i0))]) (hi : i0 + 6 ≤ L) (k : W p l e room_1 s m #[Value.ref b] below meth c H locs cells slots Q (F0 m 780 ls [.int (xs (i0 + 2)), .int (xs (i0 + 1)), .ref (a 0)])) : W p l e room_1 s m #[Value.ref b] below meth c H locs cells slots Q (F0 m 769 ls []) := by
  obtain ⟨⟨hx, hb, hml, hown, hts⟩, -, -, -, hX, hbl, hbA, hL⟩ := X
  refine lv_aload_n hx hb dL_law_769 rfl (lv_at hl 1 rfl) ?_
  refine lv_aload_n hx hb dL_law_770 rfl (lv_at hl 0 rfl) ?_
  refine lv_iload_n hx hb dL_law_771 rfl (lv_at hl 3 rfl) ?_
  refine lv_iconst (v := nI (1)) hx hb dL_law_772 (by decide) ?_
  refine lv_iadd hx hb dL_law_773 ?_
  refine tI (nI_add _ _) ?_
  refine rX hx hb hX hbl hbA hW (k := i0 + 1) (by omega) hL dL_law_774 ?_
  refine lv_aload_n hx hb dL_law_775 rfl (lv_at hl 0 rfl) ?_
  refine lv_iload_n hx hb dL_law_776 rfl (lv_at hl 3 rfl) ?_
  refine lv_iconst (v := nI (2)) hx hb dL_law_777 (by decide) ?_
  refine lv_iadd hx hb dL_law_778 ?_
  refine tI (nI_add _ _) ?_
  refine rX hx hb hX hbl hbA hW (k := i0 + 2) (by omega) hL dL_law_779 ?_
  exact k
set_option maxHeartbeats 1000000 in
theorem lm_forge (r0 : Int32) (X : LC p m c s D cy t A b L xs) (hW : Wd D A s (LW F) H locs) (hl : lv_has ls 4 [(0, .ref b), (1, .ref (a 0)), (2, .ref (z 0)), (3, .int (nI i0))]) (hi : i0 + 6 ≤ L) (k : W p l e room_1 s m #[Value.ref b] below meth c H locs cells slots Q (F0 m 794 ls [.int (xs (i0 + 2)), .int (xs (i0 + 1)), .ref (z 0), .int (r0)])) : W p l e room_1 s m #[Value.ref b] below meth c H locs cells slots Q (F0 m 783 ls [.int r0]) := by
  obtain ⟨⟨hx, hb, hml, hown, hts⟩, -, -, -, hX, hbl, hbA, hL⟩ := X
  refine lv_aload_n hx hb dL_law_783 rfl (lv_at hl 2 rfl) ?_
  refine lv_aload_n hx hb dL_law_784 rfl (lv_at hl 0 rfl) ?_
  refine lv_iload_n hx hb dL_law_785 rfl (lv_at hl 3 rfl) ?_
  refine lv_iconst (v := nI (1)) hx hb dL_law_786 (by decide) ?_
  refine lv_iadd hx hb dL_law_787 ?_
  refine tI (nI_add _ _) ?_
  refine rX hx hb hX hbl hbA hW (k := i0 + 1) (by omega) hL dL_law_788 ?_
  refine lv_aload_n hx hb dL_law_789 rfl (lv_at hl 0 rfl) ?_
  refine lv_iload_n hx hb dL_law_790 rfl (lv_at hl 3 rfl) ?_
  refine lv_iconst (v := nI (2)) hx hb dL_law_791 (by decide) ?_
  refine lv_iadd hx hb dL_law_792 ?_
  refine tI (nI_add _ _) ?_
  refine rX hx hb hX hbl hbA hW (k := i0 + 2) (by omega) hL dL_law_793 ?_
  exact k
theorem le_forge (X : LC p m c s D cy t A b L xs) {x : Int32} (k : W p l e room_1 s m #[Value.ref b] below meth c H locs cells slots Q (F0 m 868 ls [])) : W p l e room_1 s m #[Value.ref b] below meth c H locs cells slots Q (F0 m 797 ls [.int x, .int x]) := by
  obtain ⟨⟨hx, hb, hml, hown, hts⟩, -, -, -, hX, hbl, hbA, hL⟩ := X
  exact lv_icmp_eq (tgt := 868) hx hb dL_law_797 (by decide) (fun _ => k) (fun h => absurd rfl h)
set_option maxHeartbeats 1000000 in
theorem lx_cut (X : LC p m c s D cy t A b L xs) (hW : Wd D A s (LW F) H locs) (hl : lv_has ls 4 [(0, .ref b), (1, .ref (a 0)), (2, .ref (z 0)), (3, .int (nI i0))]) (hi : i0 + 6 ≤ L) (k : W p l e room_1 s m #[Value.ref b] below meth c H locs cells slots Q (F0 m 808 ls [.int (xs (i0 + 1)), .ref (a 0)])) : W p l e room_1 s m #[Value.ref b] below meth c H locs cells slots Q (F0 m 802 ls []) := by
  obtain ⟨⟨hx, hb, hml, hown, hts⟩, -, -, -, hX, hbl, hbA, hL⟩ := X
  refine lv_aload_n hx hb dL_law_802 rfl (lv_at hl 1 rfl) ?_
  refine lv_aload_n hx hb dL_law_803 rfl (lv_at hl 0 rfl) ?_
  refine lv_iload_n hx hb dL_law_804 rfl (lv_at hl 3 rfl) ?_
  refine lv_iconst (v := nI (1)) hx hb dL_law_805 (by decide) ?_
  refine lv_iadd hx hb dL_law_806 ?_
  refine tI (nI_add _ _) ?_
  refine rX hx hb hX hbl hbA hW (k := i0 + 1) (by omega) hL dL_law_807 ?_
  exact k
set_option maxHeartbeats 1000000 in
theorem lm_cut (r0 : Int32) (X : LC p m c s D cy t A b L xs) (hW : Wd D A s (LW F) H locs) (hl : lv_has ls 4 [(0, .ref b), (1, .ref (a 0)), (2, .ref (z 0)), (3, .int (nI i0))]) (hi : i0 + 6 ≤ L) (k : W p l e room_1 s m #[Value.ref b] below meth c H locs cells slots Q (F0 m 817 ls [.int (xs (i0 + 1)), .ref (z 0), .int (r0)])) : W p l e room_1 s m #[Value.ref b] below meth c H locs cells slots Q (F0 m 811 ls [.int r0]) := by
  obtain ⟨⟨hx, hb, hml, hown, hts⟩, -, -, -, hX, hbl, hbA, hL⟩ := X
  refine lv_aload_n hx hb dL_law_811 rfl (lv_at hl 2 rfl) ?_
  refine lv_aload_n hx hb dL_law_812 rfl (lv_at hl 0 rfl) ?_
  refine lv_iload_n hx hb dL_law_813 rfl (lv_at hl 3 rfl) ?_
  refine lv_iconst (v := nI (1)) hx hb dL_law_814 (by decide) ?_
  refine lv_iadd hx hb dL_law_815 ?_
  refine tI (nI_add _ _) ?_
  refine rX hx hb hX hbl hbA hW (k := i0 + 1) (by omega) hL dL_law_816 ?_
  exact k
theorem le_cut (X : LC p m c s D cy t A b L xs) {x : Int32} (k : W p l e room_1 s m #[Value.ref b] below meth c H locs cells slots Q (F0 m 868 ls [])) : W p l e room_1 s m #[Value.ref b] below meth c H locs cells slots Q (F0 m 820 ls [.int x, .int x]) := by
  obtain ⟨⟨hx, hb, hml, hown, hts⟩, -, -, -, hX, hbl, hbA, hL⟩ := X
  exact lv_icmp_eq (tgt := 868) hx hb dL_law_820 (by decide) (fun _ => k) (fun h => absurd rfl h)
set_option maxHeartbeats 1000000 in
theorem lx_check (X : LC p m c s D cy t A b L xs) (hW : Wd D A s (LW F) H locs) (hl : lv_has ls 4 [(0, .ref b), (1, .ref (a 0)), (2, .ref (z 0)), (3, .int (nI i0))]) (hi : i0 + 6 ≤ L) (k : W p l e room_1 s m #[Value.ref b] below meth c H locs cells slots Q (F0 m 841 ls [.int (xs (i0 + 3)), .int (xs (i0 + 2)), .int (xs (i0 + 1)), .ref (a 0)])) : W p l e room_1 s m #[Value.ref b] below meth c H locs cells slots Q (F0 m 825 ls []) := by
  obtain ⟨⟨hx, hb, hml, hown, hts⟩, -, -, -, hX, hbl, hbA, hL⟩ := X
  refine lv_aload_n hx hb dL_law_825 rfl (lv_at hl 1 rfl) ?_
  refine lv_aload_n hx hb dL_law_826 rfl (lv_at hl 0 rfl) ?_
  refine lv_iload_n hx hb dL_law_827 rfl (lv_at hl 3 rfl) ?_
  refine lv_iconst (v := nI (1)) hx hb dL_law_828 (by decide) ?_
  refine lv_iadd hx hb dL_law_829 ?_
  refine tI (nI_add _ _) ?_
  refine rX hx hb hX hbl hbA hW (k := i0 + 1) (by omega) hL dL_law_830 ?_
  refine lv_aload_n hx hb dL_law_831 rfl (lv_at hl 0 rfl) ?_
  refine lv_iload_n hx hb dL_law_832 rfl (lv_at hl 3 rfl) ?_
  refine lv_iconst (v := nI (2)) hx hb dL_law_833 (by decide) ?_
  refine lv_iadd hx hb dL_law_834 ?_
  refine tI (nI_add _ _) ?_
  refine rX hx hb hX hbl hbA hW (k := i0 + 2) (by omega) hL dL_law_835 ?_
  refine lv_aload_n hx hb dL_law_836 rfl (lv_at hl 0 rfl) ?_
  refine lv_iload_n hx hb dL_law_837 rfl (lv_at hl 3 rfl) ?_
  refine lv_iconst (v := nI (3)) hx hb dL_law_838 (by decide) ?_
  refine lv_iadd hx hb dL_law_839 ?_
  refine tI (nI_add _ _) ?_
  refine rX hx hb hX hbl hbA hW (k := i0 + 3) (by omega) hL dL_law_840 ?_
  exact k
set_option maxHeartbeats 1000000 in
theorem lm_check (r0 : Int32) (X : LC p m c s D cy t A b L xs) (hW : Wd D A s (LW F) H locs) (hl : lv_has ls 4 [(0, .ref b), (1, .ref (a 0)), (2, .ref (z 0)), (3, .int (nI i0))]) (hi : i0 + 6 ≤ L) (k : W p l e room_1 s m #[Value.ref b] below meth c H locs cells slots Q (F0 m 860 ls [.int (xs (i0 + 3)), .int (xs (i0 + 2)), .int (xs (i0 + 1)), .ref (z 0), .int (r0)])) : W p l e room_1 s m #[Value.ref b] below meth c H locs cells slots Q (F0 m 844 ls [.int r0]) := by
  obtain ⟨⟨hx, hb, hml, hown, hts⟩, -, -, -, hX, hbl, hbA, hL⟩ := X
  refine lv_aload_n hx hb dL_law_844 rfl (lv_at hl 2 rfl) ?_
  refine lv_aload_n hx hb dL_law_845 rfl (lv_at hl 0 rfl) ?_
  refine lv_iload_n hx hb dL_law_846 rfl (lv_at hl 3 rfl) ?_
  refine lv_iconst (v := nI (1)) hx hb dL_law_847 (by decide) ?_
  refine lv_iadd hx hb dL_law_848 ?_
  refine tI (nI_add _ _) ?_
  refine rX hx hb hX hbl hbA hW (k := i0 + 1) (by omega) hL dL_law_849 ?_
  refine lv_aload_n hx hb dL_law_850 rfl (lv_at hl 0 rfl) ?_
  refine lv_iload_n hx hb dL_law_851 rfl (lv_at hl 3 rfl) ?_
  refine lv_iconst (v := nI (2)) hx hb dL_law_852 (by decide) ?_
  refine lv_iadd hx hb dL_law_853 ?_
  refine tI (nI_add _ _) ?_
  refine rX hx hb hX hbl hbA hW (k := i0 + 2) (by omega) hL dL_law_854 ?_
  refine lv_aload_n hx hb dL_law_855 rfl (lv_at hl 0 rfl) ?_
  refine lv_iload_n hx hb dL_law_856 rfl (lv_at hl 3 rfl) ?_
  refine lv_iconst (v := nI (3)) hx hb dL_law_857 (by decide) ?_
  refine lv_iadd hx hb dL_law_858 ?_
  refine tI (nI_add _ _) ?_
  refine rX hx hb hX hbl hbA hW (k := i0 + 3) (by omega) hL dL_law_859 ?_
  exact k
theorem le_check (X : LC p m c s D cy t A b L xs) {x : Int32} (k : W p l e room_1 s m #[Value.ref b] below meth c H locs cells slots Q (F0 m 868 ls [])) : W p l e room_1 s m #[Value.ref b] below meth c H locs cells slots Q (F0 m 863 ls [.int x, .int x]) := by
  obtain ⟨⟨hx, hb, hml, hown, hts⟩, -, -, -, hX, hbl, hbA, hL⟩ := X
  exact lv_icmp_eq (tgt := 868) hx hb dL_law_863 (by decide) (fun _ => k) (fun h => absurd rfl h)
end LDS
