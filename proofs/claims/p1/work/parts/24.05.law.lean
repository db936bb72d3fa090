set_option maxHeartbeats 4000000 in
set_option maxRecDepth 100000 in
theorem law_tail {p : Program} {l : Launch} {e : Env} {s : State} {m : MethodId} {below : List Frame} {meth : Method} {c : Code} {b : Nat} {xs : Nat → Int32} {D : va_G} {cy : Nat → ClassId} {tS sa sb : Nat} {A : Nat → Prop} (C1 : lw_Al p l s m meth c b xs D cy tS sa sb A) {cells slots : Nat} (hc : cells ≤ 600002) (hs : slots ≤ 7302232) {H : Heap} {locs : List Loc} {ls : Array Slot} (hS : va_S A s.heap H locs) (hl : lv_has ls 7 [(4, .int 0), (0, .ref b)]) : W p l e room_1 s m #[Value.ref b] below meth c H locs cells slots (lw_Z below #[Value.ref b] s) (F0 m 1049 ls []) := by
  obtain ⟨hx, hb, hr, hml, hown, hts, hX, hbl, hlocks, hbA, hA, hA2, hKX, hSF, hET, hl0⟩ := id C1
  refine lv_iinc (v := 6) (lv' := [(4, .int 6), (0, .ref b)]) hx hb dL_law_1049 hl (k := 0) rfl (by decide) (by decide) rfl (fun ls hl => ?_)
  refine lv_goto (tgt := 23) hx hb dL_law_1052 (by decide) ?_
  refine lv_iload hx hb dL_law_23 (lv_at hl 0 rfl) ?_
  refine lv_aload_n hx hb dL_law_25 rfl (lv_at hl 1 rfl) ?_
  refine va_slen hx hb hX hbl hbA hS dL_law_26 ?_
  refine lv_cst 6 (by decide) ?_
  refine lv_bipush (v := 6) hx hb dL_law_27 (by decide) ?_
  refine lv_isub hx hb dL_law_29 ?_
  refine lv_cst 0 (by decide) ?_
  refine lv_icmp_gt (tgt := 1055) hx hb dL_law_30 (by decide) (fun _ => ?_) (fun c9 => absurd (by decide) c9)
  refine lv_iconst (v := 1) hx hb dL_law_1055 (by decide) ?_
  refine va_forget (fun q hq => hA2 _ (hS.2.2 q hq)) ?_
  refine W.widen (k := 600002) (n := 7302232) hc hs ?_
  exact lw_ret hx hb hr hlocks dL_law_1056
set_option maxHeartbeats 4000000 in
set_option maxRecDepth 100000 in
/-- ship on new objects -/
theorem law_ship {p : Program} {l : Launch} {e : Env} {s : State} {m : MethodId} {below : List Frame} {meth : Method} {c : Code} {b : Nat} {xs : Nat → Int32} {D : va_G} {cy : Nat → ClassId} {tS sa sb : Nat} {A : Nat → Prop} (C1 : lw_Al p l s m meth c b xs D cy tS sa sb A) {xh : Nat} {xq : Nat → Nat} {mh : Nat} {mq : Nat → Nat} {oa : Nat} {H : Heap} {locs : List Loc} {ls : Array Slot} (hP : va_P D vwCl [(xc0 cy xh xq), (xc24 cy xh xq), (xc34 cy xh xq), (mc0 cy mh mq), (mc11 cy mh mq)] H) (hD : va_D A [(xc0 cy xh xq), (xc24 cy xh xq), (xc34 cy xh xq), (mc0 cy mh mq), (mc11 cy mh mq)]) (hS : va_S A s.heap H locs) (hl : lv_has ls 7 [(4, .int 0), (3, .ref oa), (2, .ref mh), (1, .ref xh), (0, .ref b)]) : W p l e room_1 s m #[Value.ref b] below meth c H locs 79 34218 (lw_Z below #[Value.ref b] s) (F0 m 148 ls []) := by
  obtain ⟨hx, hb, hr, hml, hown, hts, hX, hbl, hlocks, hbA, hA, hA2, hKX, hSF, hET, hl0⟩ := id C1
  refine lv_aload_n hx hb dL_law_148 rfl (lv_at hl 3 rfl) ?_
  refine lv_aload_n hx hb dL_law_149 rfl (lv_at hl 4 rfl) ?_
  refine lv_iload hx hb dL_law_150 (lv_at hl 0 rfl) ?_
  refine lv_iconst (v := 1) hx hb dL_law_152 (by decide) ?_
  refine lv_iadd hx hb dL_law_153 ?_
  refine lv_cst 1 (by decide) ?_
  refine va_sld hx hb hX hbl hbA hS (vind (by decide)) dL_law_154 ?_
  refine lv_cst (xs 1) rfl ?_
  refine lv_aload_n hx hb dL_law_155 rfl (lv_at hl 4 rfl) ?_
  refine lv_iload hx hb dL_law_156 (lv_at hl 0 rfl) ?_
  refine lv_iconst (v := 2) hx hb dL_law_158 (by decide) ?_
  refine lv_iadd hx hb dL_law_159 ?_
  refine lv_cst 2 (by decide) ?_
  refine va_sld hx hb hX hbl hbA hS (vind (by decide)) dL_law_160 ?_
  refine lv_cst (xs 2) rfl ?_
  refine lv_aload_n hx hb dL_law_161 rfl (lv_at hl 4 rfl) ?_
  refine lv_iload hx hb dL_law_162 (lv_at hl 0 rfl) ?_
  refine lv_iconst (v := 3) hx hb dL_law_164 (by decide) ?_
  refine lv_iadd hx hb dL_law_165 ?_
  refine lv_cst 3 (by decide) ?_
  refine va_sld hx hb hX hbl hbA hS (vind (by decide)) dL_law_166 ?_
  refine lv_cst (xs 3) rfl ?_
  refine lv_aload_n hx hb dL_law_167 rfl (lv_at hl 4 rfl) ?_
  refine lv_iload hx hb dL_law_168 (lv_at hl 0 rfl) ?_
  refine lv_iconst (v := 4) hx hb dL_law_170 (by decide) ?_
  refine lv_iadd hx hb dL_law_171 ?_
  refine lv_cst 4 (by decide) ?_
  refine va_sld hx hb hX hbl hbA hS (vind (by decide)) dL_law_172 ?_
  refine lv_cst (xs 4) rfl ?_
  refine cl_i (wr := [(mc0 cy mh mq), (mc11 cy mh mq)]) (va_runV (As := [.int (xs 1), .int (xs 2), .int (xs 3), .int (xs 4)]) (rest := []) ⟨hx, hb, hml, hown, hts⟩ (c_ship l D cy xh xq (xs 1) (xs 2) (xs 3) (xs 4) _) (cwV 4 hts gL_law_X11_ship rfl rfl rfl (by decide +kernel) ⟨(Nat.le_of_ble_eq_true rfl), (Nat.le_of_ble_eq_true rfl)⟩) (pre_V hKX hP hD (ci := 11) (q0 := 0) rfl rfl [0, 1, 2] rfl (by decide) rfl) rfl rfl hl.1 rfl (lv_room (Nat.le_of_ble_eq_true rfl)) dL_law_173 ⟨(Nat.le_of_ble_eq_true rfl), (Nat.le_of_ble_eq_true rfl)⟩) hP hD hS hA [0, 1, 2] [3, 4] rfl rfl (by decide) (by decide) (fun u1 H locs _ hP hD hS => ?_)
  have hP : va_P D vwCl [(mc0 cy mh mq), (mc11 cy mh mq)] H := hP
  have hD : va_D A [(mc0 cy mh mq), (mc11 cy mh mq)] := hD
  refine lv_aload_n hx hb dL_law_176 rfl (lv_at hl 2 rfl) ?_
  refine lv_aload_n hx hb dL_law_177 rfl (lv_at hl 4 rfl) ?_
  refine lv_iload hx hb dL_law_178 (lv_at hl 0 rfl) ?_
  refine lv_iconst (v := 1) hx hb dL_law_180 (by decide) ?_
  refine lv_iadd hx hb dL_law_181 ?_
  refine lv_cst 1 (by decide) ?_
  refine va_sld hx hb hX hbl hbA hS (vind (by decide)) dL_law_182 ?_
  refine lv_cst (xs 1) rfl ?_
  refine lv_aload_n hx hb dL_law_183 rfl (lv_at hl 4 rfl) ?_
  refine lv_iload hx hb dL_law_184 (lv_at hl 0 rfl) ?_
  refine lv_iconst (v := 2) hx hb dL_law_186 (by decide) ?_
  refine lv_iadd hx hb dL_law_187 ?_
  refine lv_cst 2 (by decide) ?_
  refine va_sld hx hb hX hbl hbA hS (vind (by decide)) dL_law_188 ?_
  refine lv_cst (xs 2) rfl ?_
  refine lv_aload_n hx hb dL_law_189 rfl (lv_at hl 4 rfl) ?_
  refine lv_iload hx hb dL_law_190 (lv_at hl 0 rfl) ?_
  refine lv_iconst (v := 3) hx hb dL_law_192 (by decide) ?_
  refine lv_iadd hx hb dL_law_193 ?_
  refine lv_cst 3 (by decide) ?_
  refine va_sld hx hb hX hbl hbA hS (vind (by decide)) dL_law_194 ?_
  refine lv_cst (xs 3) rfl ?_
  refine lv_aload_n hx hb dL_law_195 rfl (lv_at hl 4 rfl) ?_
  refine lv_iload hx hb dL_law_196 (lv_at hl 0 rfl) ?_
  refine lv_iconst (v := 4) hx hb dL_law_198 (by decide) ?_
  refine lv_iadd hx hb dL_law_199 ?_
  refine lv_cst 4 (by decide) ?_
  refine va_sld hx hb hX hbl hbA hS (vind (by decide)) dL_law_200 ?_
  refine lv_cst (xs 4) rfl ?_
  refine cl_i (wr := []) (va_runV (As := [.int (xs 1), .int (xs 2), .int (xs 3), .int (xs 4)]) (rest := [.int (fShip (xs 1) (xs 2) (xs 3) (xs 4))]) ⟨hx, hb, hml, hown, hts⟩ (m_ship l D cy mh mq (xs 1) (xs 2) (xs 3) (xs 4) _) (cwV 4 hts gL_law_X12_ship rfl rfl rfl (by decide +kernel) ⟨(Nat.le_of_ble_eq_true rfl), (Nat.le_of_ble_eq_true rfl)⟩) (pre_V hKX hP hD (ci := 12) (q0 := 0) rfl rfl [0, 1] rfl (by decide) rfl) rfl rfl hl.1 rfl (lv_room (Nat.le_of_ble_eq_true rfl)) dL_law_201 ⟨(Nat.le_of_ble_eq_true rfl), (Nat.le_of_ble_eq_true rfl)⟩) hP hD hS hA [0, 1] [] rfl rfl (by decide) (by decide) (fun u2 H locs _ hP hD hS => ?_)
  have hP : va_P D vwCl [] H := hP
  have hD : va_D A [] := hD
  refine lv_icmp_eq (tgt := 1049) hx hb dL_law_204 (by decide) (fun _ => ?_) (fun c9 => absurd rfl c9)
  exact law_tail C1 (Nat.le_of_ble_eq_true rfl) (Nat.le_of_ble_eq_true rfl) hS (lv_sub hl [0, 4] rfl)
set_option maxHeartbeats 4000000 in
set_option maxRecDepth 100000 in
/-- wagon on new objects -/
theorem law_wagon {p : Program} {l : Launch} {e : Env} {s : State} {m : MethodId} {below : List Frame} {meth : Method} {c : Code} {b : Nat} {xs : Nat → Int32} {D : va_G} {cy : Nat → ClassId} {tS sa sb : Nat} {A : Nat → Prop} (C1 : lw_Al p l s m meth c b xs D cy tS sa sb A) {xh : Nat} {xq : Nat → Nat} {mh : Nat} {mq : Nat → Nat} {oa : Nat} {H : Heap} {locs : List Loc} {ls : Array Slot} (hP : va_P D vwCl [(xc0 cy xh xq), (xc1 cy xh xq), (xc2 cy xh xq), (xc3 cy xh xq), (xc4 cy xh xq), (xc5 cy xh xq), (xc6 cy xh xq), (xc7 cy xh xq), (xc8 cy xh xq), (xc9 cy xh xq), (xc13 cy xh xq), (xc14 cy xh xq), (xc15 cy xh xq), (xc16 cy xh xq), (xc17 cy xh xq), (xc18 cy xh xq), (xc19 cy xh xq), (xc20 cy xh xq), (xc39 cy xh xq), (mc0 cy mh mq), (mc11 cy mh mq), (mc2 cy mh mq), (mc3 cy mh mq), (mc4 cy mh mq), (mc5 cy mh mq), (mc6 cy mh mq), (mc10 cy mh mq)] H) (hD : va_D A [(xc0 cy xh xq), (xc1 cy xh xq), (xc2 cy xh xq), (xc3 cy xh xq), (xc4 cy xh xq), (xc5 cy xh xq), (xc6 cy xh xq), (xc7 cy xh xq), (xc8 cy xh xq), (xc9 cy xh xq), (xc13 cy xh xq), (xc14 cy xh xq), (xc15 cy xh xq), (xc16 cy xh xq), (xc17 cy xh xq), (xc18 cy xh xq), (xc19 cy xh xq), (xc20 cy xh xq), (xc39 cy xh xq), (mc0 cy mh mq), (mc11 cy mh mq), (mc2 cy mh mq), (mc3 cy mh mq), (mc4 cy mh mq), (mc5 cy mh mq), (mc6 cy mh mq), (mc10 cy mh mq)]) (hS : va_S A s.heap H locs) (hl : lv_has ls 7 [(4, .int 0), (3, .ref oa), (2, .ref mh), (1, .ref xh), (0, .ref b)]) : W p l e room_1 s m #[Value.ref b] below meth c H locs 79 34218 (lw_Z below #[Value.ref b] s) (F0 m 209 ls []) := by
  obtain ⟨hx, hb, hr, hml, hown, hts, hX, hbl, hlocks, hbA, hA, hA2, hKX, hSF, hET, hl0⟩ := id C1
  refine lv_aload_n hx hb dL_law_209 rfl (lv_at hl 3 rfl) ?_
  refine lv_aload_n hx hb dL_law_210 rfl (lv_at hl 4 rfl) ?_
  refine lv_iload hx hb dL_law_211 (lv_at hl 0 rfl) ?_
  refine lv_iconst (v := 1) hx hb dL_law_213 (by decide) ?_
  refine lv_iadd hx hb dL_law_214 ?_
  refine lv_cst 1 (by decide) ?_
  refine va_sld hx hb hX hbl hbA hS (vind (by decide)) dL_law_215 ?_
  refine lv_cst (xs 1) rfl ?_
  refine lv_aload_n hx hb dL_law_216 rfl (lv_at hl 4 rfl) ?_
  refine lv_iload hx hb dL_law_217 (lv_at hl 0 rfl) ?_
  refine lv_iconst (v := 2) hx hb dL_law_219 (by decide) ?_
  refine lv_iadd hx hb dL_law_220 ?_
  refine lv_cst 2 (by decide) ?_
  refine va_sld hx hb hX hbl hbA hS (vind (by decide)) dL_law_221 ?_
  refine lv_cst (xs 2) rfl ?_
  refine lv_aload_n hx hb dL_law_222 rfl (lv_at hl 4 rfl) ?_
  refine lv_iload hx hb dL_law_223 (lv_at hl 0 rfl) ?_
  refine lv_iconst (v := 3) hx hb dL_law_225 (by decide) ?_
  refine lv_iadd hx hb dL_law_226 ?_
  refine lv_cst 3 (by decide) ?_
  refine va_sld hx hb hX hbl hbA hS (vind (by decide)) dL_law_227 ?_
  refine lv_cst (xs 3) rfl ?_
  refine lv_aload_n hx hb dL_law_228 rfl (lv_at hl 4 rfl) ?_
  refine lv_iload hx hb dL_law_229 (lv_at hl 0 rfl) ?_
  refine lv_iconst (v := 4) hx hb dL_law_231 (by decide) ?_
  refine lv_iadd hx hb dL_law_232 ?_
  refine lv_cst 4 (by decide) ?_
  refine va_sld hx hb hX hbl hbA hS (vind (by decide)) dL_law_233 ?_
  refine lv_cst (xs 4) rfl ?_
  refine lv_aload_n hx hb dL_law_234 rfl (lv_at hl 4 rfl) ?_
  refine lv_iload hx hb dL_law_235 (lv_at hl 0 rfl) ?_
  refine lv_iconst (v := 5) hx hb dL_law_237 (by decide) ?_
  refine lv_iadd hx hb dL_law_238 ?_
  refine lv_cst 5 (by decide) ?_
  refine va_sld hx hb hX hbl hbA hS (vind (by decide)) dL_law_239 ?_
  refine lv_cst (xs 5) rfl ?_
  refine cl_i (wr := [(mc0 cy mh mq), (mc11 cy mh mq), (mc2 cy mh mq), (mc3 cy mh mq), (mc4 cy mh mq), (mc5 cy mh mq), (mc6 cy mh mq), (mc10 cy mh mq)]) (va_runV (As := [.int (xs 1), .int (xs 2), .int (xs 3), .int (xs 4), .int (xs 5)]) (rest := []) ⟨hx, hb, hml, hown, hts⟩ (c_wagon l D cy xh xq (xs 1) (xs 2) (xs 3) (xs 4) (xs 5) _) (cwV 5 hts gL_law_X11_wagon rfl rfl rfl (by decide +kernel) ⟨(Nat.le_of_ble_eq_true rfl), (Nat.le_of_ble_eq_true rfl)⟩) (pre_V hKX hP hD (ci := 11) (q0 := 0) rfl rfl [0, 1, 2, 3, 4, 5, 6, 7, 8, 9, 10, 11, 12, 13, 14, 15, 16, 17, 18] rfl (by decide) rfl) rfl rfl hl.1 rfl (lv_room (Nat.le_of_ble_eq_true rfl)) dL_law_240 ⟨(Nat.le_of_ble_eq_true rfl), (Nat.le_of_ble_eq_true rfl)⟩) hP hD hS hA [0, 1, 2, 3, 4, 5, 6, 7, 8, 9, 10, 11, 12, 13, 14, 15, 16, 17, 18] [19, 20, 21, 22, 23, 24, 25, 26] rfl rfl (by decide) (by decide) (fun u1 H locs _ hP hD hS => ?_)
  have hP : va_P D vwCl [(mc0 cy mh mq), (mc11 cy mh mq), (mc2 cy mh mq), (mc3 cy mh mq), (mc4 cy mh mq), (mc5 cy mh mq), (mc6 cy mh mq), (mc10 cy mh mq)] H := hP
  have hD : va_D A [(mc0 cy mh mq), (mc11 cy mh mq), (mc2 cy mh mq), (mc3 cy mh mq), (mc4 cy mh mq), (mc5 cy mh mq), (mc6 cy mh mq), (mc10 cy mh mq)] := hD
  refine lv_aload_n hx hb dL_law_243 rfl (lv_at hl 2 rfl) ?_
  refine lv_aload_n hx hb dL_law_244 rfl (lv_at hl 4 rfl) ?_
  refine lv_iload hx hb dL_law_245 (lv_at hl 0 rfl) ?_
  refine lv_iconst (v := 1) hx hb dL_law_247 (by decide) ?_
  refine lv_iadd hx hb dL_law_248 ?_
  refine lv_cst 1 (by decide) ?_
  refine va_sld hx hb hX hbl hbA hS (vind (by decide)) dL_law_249 ?_
  refine lv_cst (xs 1) rfl ?_
  refine lv_aload_n hx hb dL_law_250 rfl (lv_at hl 4 rfl) ?_
  refine lv_iload hx hb dL_law_251 (lv_at hl 0 rfl) ?_
  refine lv_iconst (v := 2) hx hb dL_law_253 (by decide) ?_
  refine lv_iadd hx hb dL_law_254 ?_
  refine lv_cst 2 (by decide) ?_
  refine va_sld hx hb hX hbl hbA hS (vind (by decide)) dL_law_255 ?_
  refine lv_cst (xs 2) rfl ?_
  refine lv_aload_n hx hb dL_law_256 rfl (lv_at hl 4 rfl) ?_
  refine lv_iload hx hb dL_law_257 (lv_at hl 0 rfl) ?_
  refine lv_iconst (v := 3) hx hb dL_law_259 (by decide) ?_
  refine lv_iadd hx hb dL_law_260 ?_
  refine lv_cst 3 (by decide) ?_
  refine va_sld hx hb hX hbl hbA hS (vind (by decide)) dL_law_261 ?_
  refine lv_cst (xs 3) rfl ?_
  refine lv_aload_n hx hb dL_law_262 rfl (lv_at hl 4 rfl) ?_
  refine lv_iload hx hb dL_law_263 (lv_at hl 0 rfl) ?_
  refine lv_iconst (v := 4) hx hb dL_law_265 (by decide) ?_
  refine lv_iadd hx hb dL_law_266 ?_
  refine lv_cst 4 (by decide) ?_
  refine va_sld hx hb hX hbl hbA hS (vind (by decide)) dL_law_267 ?_
  refine lv_cst (xs 4) rfl ?_
  refine lv_aload_n hx hb dL_law_268 rfl (lv_at hl 4 rfl) ?_
  refine lv_iload hx hb dL_law_269 (lv_at hl 0 rfl) ?_
  refine lv_iconst (v := 5) hx hb dL_law_271 (by decide) ?_
  refine lv_iadd hx hb dL_law_272 ?_
  refine lv_cst 5 (by decide) ?_
  refine va_sld hx hb hX hbl hbA hS (vind (by decide)) dL_law_273 ?_
  refine lv_cst (xs 5) rfl ?_
  refine cl_i (wr := []) (va_runV (As := [.int (xs 1), .int (xs 2), .int (xs 3), .int (xs 4), .int (xs 5)]) (rest := [.int (fWagon (xs 1) (xs 2) (xs 3) (xs 4) (xs 5))]) ⟨hx, hb, hml, hown, hts⟩ (m_wagon l D cy mh mq (xs 1) (xs 2) (xs 3) (xs 4) (xs 5) _) (cwV 5 hts gL_law_X12_wagon rfl rfl rfl (by decide +kernel) ⟨(Nat.le_of_ble_eq_true rfl), (Nat.le_of_ble_eq_true rfl)⟩) (pre_V hKX hP hD (ci := 12) (q0 := 0) rfl rfl [0, 1, 2, 3, 4, 5, 6, 7] rfl (by decide) rfl) rfl rfl hl.1 rfl (lv_room (Nat.le_of_ble_eq_true rfl)) dL_law_274 ⟨(Nat.le_of_ble_eq_true rfl), (Nat.le_of_ble_eq_true rfl)⟩) hP hD hS hA [0, 1, 2, 3, 4, 5, 6, 7] [] rfl rfl (by decide) (by decide) (fun u2 H locs _ hP hD hS => ?_)
  have hP : va_P D vwCl [] H := hP
  have hD : va_D A [] := hD
  refine lv_icmp_eq (tgt := 1049) hx hb dL_law_277 (by decide) (fun _ => ?_) (fun c9 => absurd rfl c9)
  exact law_tail C1 (Nat.le_of_ble_eq_true rfl) (Nat.le_of_ble_eq_true rfl) hS (lv_sub hl [0, 4] rfl)
set_option maxHeartbeats 4000000 in
set_option maxRecDepth 100000 in
/-- tide on new objects -/
theorem law_tide {p : Program} {l : Launch} {e : Env} {s : State} {m : MethodId} {below : List Frame} {meth : Method} {c : Code} {b : Nat} {xs : Nat → Int32} {D : va_G} {cy : Nat → ClassId} {tS sa sb : Nat} {A : Nat → Prop} (C1 : lw_Al p l s m meth c b xs D cy tS sa sb A) {xh : Nat} {xq : Nat → Nat} {mh : Nat} {mq : Nat → Nat} {oa : Nat} {H : Heap} {locs : List Loc} {ls : Array Slot} (hP : va_P D vwCl [(xc0 cy xh xq), (xc1 cy xh xq), (xc2 cy xh xq), (xc10 cy xh xq), (xc11 cy xh xq), (xc12 cy xh xq), (xc13 cy xh xq), (xc21 cy xh xq), (xc22 cy xh xq), (xc23 cy xh xq), (mc0 cy mh mq), (mc12 cy mh mq), (mc13 cy mh mq), (mc14 cy mh mq)] H) (hD : va_D A [(xc0 cy xh xq), (xc1 cy xh xq), (xc2 cy xh xq), (xc10 cy xh xq), (xc11 cy xh xq), (xc12 cy xh xq), (xc13 cy xh xq), (xc21 cy xh xq), (xc22 cy xh xq), (xc23 cy xh xq), (mc0 cy mh mq), (mc12 cy mh mq), (mc13 cy mh mq), (mc14 cy mh mq)]) (hS : va_S A s.heap H locs) (hl : lv_has ls 7 [(4, .int 0), (3, .ref oa), (2, .ref mh), (1, .ref xh), (0, .ref b)]) : W p l e room_1 s m #[Value.ref b] below meth c H locs 79 34218 (lw_Z below #[Value.ref b] s) (F0 m 282 ls []) := by
  obtain ⟨hx, hb, hr, hml, hown, hts, hX, hbl, hlocks, hbA, hA, hA2, hKX, hSF, hET, hl0⟩ := id C1
  refine lv_aload_n hx hb dL_law_282 rfl (lv_at hl 3 rfl) ?_
  refine lv_aload_n hx hb dL_law_283 rfl (lv_at hl 4 rfl) ?_
  refine lv_iload hx hb dL_law_284 (lv_at hl 0 rfl) ?_
  refine lv_iconst (v := 1) hx hb dL_law_286 (by decide) ?_
  refine lv_iadd hx hb dL_law_287 ?_
  refine lv_cst 1 (by decide) ?_
  refine va_sld hx hb hX hbl hbA hS (vind (by decide)) dL_law_288 ?_
  refine lv_cst (xs 1) rfl ?_
  refine lv_aload_n hx hb dL_law_289 rfl (lv_at hl 4 rfl) ?_
  refine lv_iload hx hb dL_law_290 (lv_at hl 0 rfl) ?_
  refine lv_iconst (v := 2) hx hb dL_law_292 (by decide) ?_
  refine lv_iadd hx hb dL_law_293 ?_
  refine lv_cst 2 (by decide) ?_
  refine va_sld hx hb hX hbl hbA hS (vind (by decide)) dL_law_294 ?_
  refine lv_cst (xs 2) rfl ?_
  refine lv_aload_n hx hb dL_law_295 rfl (lv_at hl 4 rfl) ?_
  refine lv_iload hx hb dL_law_296 (lv_at hl 0 rfl) ?_
  refine lv_iconst (v := 3) hx hb dL_law_298 (by decide) ?_
  refine lv_iadd hx hb dL_law_299 ?_
  refine lv_cst 3 (by decide) ?_
  refine va_sld hx hb hX hbl hbA hS (vind (by decide)) dL_law_300 ?_
  refine lv_cst (xs 3) rfl ?_
  refine cl_i (wr := [(mc0 cy mh mq), (mc12 cy mh mq), (mc13 cy mh mq), (mc14 cy mh mq)]) (va_runV (As := [.int (xs 1), .int (xs 2), .int (xs 3)]) (rest := []) ⟨hx, hb, hml, hown, hts⟩ (c_tide l D cy xh xq (xs 1) (xs 2) (xs 3) _) (cwV 3 hts gL_law_X11_tide rfl rfl rfl (by decide +kernel) ⟨(Nat.le_of_ble_eq_true rfl), (Nat.le_of_ble_eq_true rfl)⟩) (pre_V hKX hP hD (ci := 11) (q0 := 0) rfl rfl [0, 1, 2, 3, 4, 5, 6, 7, 8, 9] rfl (by decide) rfl) rfl rfl hl.1 rfl (lv_room (Nat.le_of_ble_eq_true rfl)) dL_law_301 ⟨(Nat.le_of_ble_eq_true rfl), (Nat.le_of_ble_eq_true rfl)⟩) hP hD hS hA [0, 1, 2, 3, 4, 5, 6, 7, 8, 9] [10, 11, 12, 13] rfl rfl (by decide) (by decide) (fun u1 H locs _ hP hD hS => ?_)
  have hP : va_P D vwCl [(mc0 cy mh mq), (mc12 cy mh mq), (mc13 cy mh mq), (mc14 cy mh mq)] H := hP
  have hD : va_D A [(mc0 cy mh mq), (mc12 cy mh mq), (mc13 cy mh mq), (mc14 cy mh mq)] := hD
  refine lv_aload_n hx hb dL_law_304 rfl (lv_at hl 2 rfl) ?_
  refine lv_aload_n hx hb dL_law_305 rfl (lv_at hl 4 rfl) ?_
  refine lv_iload hx hb dL_law_306 (lv_at hl 0 rfl) ?_
  refine lv_iconst (v := 1) hx hb dL_law_308 (by decide) ?_
  refine lv_iadd hx hb dL_law_309 ?_
  refine lv_cst 1 (by decide) ?_
  refine va_sld hx hb hX hbl hbA hS (vind (by decide)) dL_law_310 ?_
  refine lv_cst (xs 1) rfl ?_
  refine lv_aload_n hx hb dL_law_311 rfl (lv_at hl 4 rfl) ?_
  refine lv_iload hx hb dL_law_312 (lv_at hl 0 rfl) ?_
  refine lv_iconst (v := 2) hx hb dL_law_314 (by decide) ?_
  refine lv_iadd hx hb dL_law_315 ?_
  refine lv_cst 2 (by decide) ?_
  refine va_sld hx hb hX hbl hbA hS (vind (by decide)) dL_law_316 ?_
  refine lv_cst (xs 2) rfl ?_
  refine lv_aload_n hx hb dL_law_317 rfl (lv_at hl 4 rfl) ?_
  refine lv_iload hx hb dL_law_318 (lv_at hl 0 rfl) ?_
  refine lv_iconst (v := 3) hx hb dL_law_320 (by decide) ?_
  refine lv_iadd hx hb dL_law_321 ?_
  refine lv_cst 3 (by decide) ?_
  refine va_sld hx hb hX hbl hbA hS (vind (by decide)) dL_law_322 ?_
  refine lv_cst (xs 3) rfl ?_
  refine cl_i (wr := []) (va_runV (As := [.int (xs 1), .int (xs 2), .int (xs 3)]) (rest := [.int (fTide (xs 1) (xs 2) (xs 3))]) ⟨hx, hb, hml, hown, hts⟩ (m_tide l D cy mh mq (xs 1) (xs 2) (xs 3) _) (cwV 3 hts gL_law_X12_tide rfl rfl rfl (by decide +kernel) ⟨(Nat.le_of_ble_eq_true rfl), (Nat.le_of_ble_eq_true rfl)⟩) (pre_V hKX hP hD (ci := 12) (q0 := 0) rfl rfl [0, 1, 2, 3] rfl (by decide) rfl) rfl rfl hl.1 rfl (lv_room (Nat.le_of_ble_eq_true rfl)) dL_law_323 ⟨(Nat.le_of_ble_eq_true rfl), (Nat.le_of_ble_eq_true rfl)⟩) hP hD hS hA [0, 1, 2, 3] [] rfl rfl (by decide) (by decide) (fun u2 H locs _ hP hD hS => ?_)
  have hP : va_P D vwCl [] H := hP
  have hD : va_D A [] := hD
  refine lv_icmp_eq (tgt := 1049) hx hb dL_law_326 (by decide) (fun _ => ?_) (fun c9 => absurd rfl c9)
  exact law_tail C1 (Nat.le_of_ble_eq_true rfl) (Nat.le_of_ble_eq_true rfl) hS (lv_sub hl [0, 4] rfl)
set_option maxHeartbeats 4000000 in
set_option maxRecDepth 100000 in
/-- sea on new objects -/
theorem law_sea {p : Program} {l : Launch} {e : Env} {s : State} {m : MethodId} {below : List Frame} {meth : Method} {c : Code} {b : Nat} {xs : Nat → Int32} {D : va_G} {cy : Nat → ClassId} {tS sa sb : Nat} {A : Nat → Prop} (C1 : lw_Al p l s m meth c b xs D cy tS sa sb A) {xh : Nat} {xq : Nat → Nat} {mh : Nat} {mq : Nat → Nat} {oa : Nat} {H : Heap} {locs : List Loc} {ls : Array Slot} (hP : va_P D vwCl [(xc0 cy xh xq), (mc0 cy mh mq)] H) (hD : va_D A [(xc0 cy xh xq), (mc0 cy mh mq)]) (hS : va_S A s.heap H locs) (hl : lv_has ls 7 [(4, .int 0), (3, .ref oa), (2, .ref mh), (1, .ref xh), (0, .ref b)]) : W p l e room_1 s m #[Value.ref b] below meth c H locs 79 34218 (lw_Z below #[Value.ref b] s) (F0 m 331 ls []) := by
  obtain ⟨hx, hb, hr, hml, hown, hts, hX, hbl, hlocks, hbA, hA, hA2, hKX, hSF, hET, hl0⟩ := id C1
  refine lv_aload_n hx hb dL_law_331 rfl (lv_at hl 3 rfl) ?_
  refine lv_aload_n hx hb dL_law_332 rfl (lv_at hl 4 rfl) ?_
  refine lv_iload hx hb dL_law_333 (lv_at hl 0 rfl) ?_
  refine lv_iconst (v := 1) hx hb dL_law_335 (by decide) ?_
  refine lv_iadd hx hb dL_law_336 ?_
  refine lv_cst 1 (by decide) ?_
  refine va_sld hx hb hX hbl hbA hS (vind (by decide)) dL_law_337 ?_
  refine lv_cst (xs 1) rfl ?_
  refine cl_i (wr := [(mc0 cy mh mq)]) (va_runV (As := [.int (xs 1)]) (rest := []) ⟨hx, hb, hml, hown, hts⟩ (c_sea l D cy xh xq (xs 1) _) (cwV 1 hts gL_law_X11_sea rfl rfl rfl (by decide +kernel) ⟨(Nat.le_of_ble_eq_true rfl), (Nat.le_of_ble_eq_true rfl)⟩) (pre_V hKX hP hD (ci := 11) (q0 := 0) rfl rfl [0] rfl (by decide) rfl) rfl rfl hl.1 rfl (lv_room (Nat.le_of_ble_eq_true rfl)) dL_law_338 ⟨(Nat.le_of_ble_eq_true rfl), (Nat.le_of_ble_eq_true rfl)⟩) hP hD hS hA [0] [1] rfl rfl (by decide) (by decide) (fun u1 H locs _ hP hD hS => ?_)
  have hP : va_P D vwCl [(mc0 cy mh mq)] H := hP
  have hD : va_D A [(mc0 cy mh mq)] := hD
  refine lv_aload_n hx hb dL_law_341 rfl (lv_at hl 2 rfl) ?_
  refine lv_aload_n hx hb dL_law_342 rfl (lv_at hl 4 rfl) ?_
  refine lv_iload hx hb dL_law_343 (lv_at hl 0 rfl) ?_
  refine lv_iconst (v := 1) hx hb dL_law_345 (by decide) ?_
  refine lv_iadd hx hb dL_law_346 ?_
  refine lv_cst 1 (by decide) ?_
  refine va_sld hx hb hX hbl hbA hS (vind (by decide)) dL_law_347 ?_
  refine lv_cst (xs 1) rfl ?_
  refine cl_i (wr := []) (va_runV (As := [.int (xs 1)]) (rest := [.int (fSea (xs 1))]) ⟨hx, hb, hml, hown, hts⟩ (m_sea l D cy mh mq (xs 1) _) (cwV 1 hts gL_law_X12_sea rfl rfl rfl (by decide +kernel) ⟨(Nat.le_of_ble_eq_true rfl), (Nat.le_of_ble_eq_true rfl)⟩) (pre_V hKX hP hD (ci := 12) (q0 := 0) rfl rfl [0] rfl (by decide) rfl) rfl rfl hl.1 rfl (lv_room (Nat.le_of_ble_eq_true rfl)) dL_law_348 ⟨(Nat.le_of_ble_eq_true rfl), (Nat.le_of_ble_eq_true rfl)⟩) hP hD hS hA [0] [] rfl rfl (by decide) (by decide) (fun u2 H locs _ hP hD hS => ?_)
  have hP : va_P D vwCl [] H := hP
  have hD : va_D A [] := hD
  refine lv_icmp_eq (tgt := 1049) hx hb dL_law_351 (by decide) (fun _ => ?_) (fun c9 => absurd rfl c9)
  exact law_tail C1 (Nat.le_of_ble_eq_true rfl) (Nat.le_of_ble_eq_true rfl) hS (lv_sub hl [0, 4] rfl)
set_option maxHeartbeats 4000000 in
set_option maxRecDepth 100000 in
/-- ramp on new objects -/
theorem law_ramp {p : Program} {l : Launch} {e : Env} {s : State} {m : MethodId} {below : List Frame} {meth : Method} {c : Code} {b : Nat} {xs : Nat → Int32} {D : va_G} {cy : Nat → ClassId} {tS sa sb : Nat} {A : Nat → Prop} (C1 : lw_Al p l s m meth c b xs D cy tS sa sb A) {xh : Nat} {xq : Nat → Nat} {mh : Nat} {mq : Nat → Nat} {oa : Nat} {H : Heap} {locs : List Loc} {ls : Array Slot} (hP : va_P D vwCl [(xc0 cy xh xq), (xc1 cy xh xq), (xc2 cy xh xq), (xc13 cy xh xq), (mc0 cy mh mq), (mc1 cy mh mq)] H) (hD : va_D A [(xc0 cy xh xq), (xc1 cy xh xq), (xc2 cy xh xq), (xc13 cy xh xq), (mc0 cy mh mq), (mc1 cy mh mq)]) (hS : va_S A s.heap H locs) (hl : lv_has ls 7 [(4, .int 0), (3, .ref oa), (2, .ref mh), (1, .ref xh), (0, .ref b)]) : W p l e room_1 s m #[Value.ref b] below meth c H locs 79 34218 (lw_Z below #[Value.ref b] s) (F0 m 356 ls []) := by
  obtain ⟨hx, hb, hr, hml, hown, hts, hX, hbl, hlocks, hbA, hA, hA2, hKX, hSF, hET, hl0⟩ := id C1
  refine lv_aload_n hx hb dL_law_356 rfl (lv_at hl 3 rfl) ?_
  refine lv_aload_n hx hb dL_law_357 rfl (lv_at hl 4 rfl) ?_
  refine lv_iload hx hb dL_law_358 (lv_at hl 0 rfl) ?_
  refine lv_iconst (v := 1) hx hb dL_law_360 (by decide) ?_
  refine lv_iadd hx hb dL_law_361 ?_
  refine lv_cst 1 (by decide) ?_
  refine va_sld hx hb hX hbl hbA hS (vind (by decide)) dL_law_362 ?_
  refine lv_cst (xs 1) rfl ?_
  refine lv_aload_n hx hb dL_law_363 rfl (lv_at hl 4 rfl) ?_
  refine lv_iload hx hb dL_law_364 (lv_at hl 0 rfl) ?_
  refine lv_iconst (v := 2) hx hb dL_law_366 (by decide) ?_
  refine lv_iadd hx hb dL_law_367 ?_
  refine lv_cst 2 (by decide) ?_
  refine va_sld hx hb hX hbl hbA hS (vind (by decide)) dL_law_368 ?_
  refine lv_cst (xs 2) rfl ?_
  refine lv_if_eq (tgt := 376) hx hb dL_law_369 (by decide) (fun c1 => ?_) (fun c1 => ?_)
  · refine lv_iconst (v := 0) hx hb dL_law_376 (by decide) ?_
    refine cl_i (wr := [(mc0 cy mh mq), (mc1 cy mh mq)]) (va_runV (As := [.int (xs 1), .int 0]) (rest := []) ⟨hx, hb, hml, hown, hts⟩ (c_ramp_0 l D cy xh xq (xs 1) _) (cwV 2 hts gL_law_X11_ramp rfl rfl rfl (by decide +kernel) ⟨(Nat.le_of_ble_eq_true rfl), (Nat.le_of_ble_eq_true rfl)⟩) (pre_V hKX hP hD (ci := 11) (q0 := 0) rfl rfl [0, 1, 2, 3] rfl (by decide) rfl) rfl rfl hl.1 rfl (lv_room (Nat.le_of_ble_eq_true rfl)) dL_law_377 ⟨(Nat.le_of_ble_eq_true rfl), (Nat.le_of_ble_eq_true rfl)⟩) hP hD hS hA [0, 1, 2, 3] [4, 5] rfl rfl (by decide) (by decide) (fun u2 H locs _ hP hD hS => ?_)
    have hP : va_P D vwCl [(mc0 cy mh mq), (mc1 cy mh mq)] H := hP
    have hD : va_D A [(mc0 cy mh mq), (mc1 cy mh mq)] := hD
    refine lv_aload_n hx hb dL_law_380 rfl (lv_at hl 2 rfl) ?_
    refine lv_aload_n hx hb dL_law_381 rfl (lv_at hl 4 rfl) ?_
    refine lv_iload hx hb dL_law_382 (lv_at hl 0 rfl) ?_
    refine lv_iconst (v := 1) hx hb dL_law_384 (by decide) ?_
    refine lv_iadd hx hb dL_law_385 ?_
    refine lv_cst 1 (by decide) ?_
    refine va_sld hx hb hX hbl hbA hS (vind (by decide)) dL_law_386 ?_
    refine lv_cst (xs 1) rfl ?_
    refine lv_aload_n hx hb dL_law_387 rfl (lv_at hl 4 rfl) ?_
    refine lv_iload hx hb dL_law_388 (lv_at hl 0 rfl) ?_
    refine lv_iconst (v := 2) hx hb dL_law_390 (by decide) ?_
    refine lv_iadd hx hb dL_law_391 ?_
    refine lv_cst 2 (by decide) ?_
    refine va_sld hx hb hX hbl hbA hS (vind (by decide)) dL_law_392 ?_
    refine lv_cst (xs 2) rfl ?_
    refine lv_if_eq (tgt := 400) hx hb dL_law_393 (by decide) (fun _ => ?_) (fun c9 => absurd c1 c9)
    refine lv_iconst (v := 0) hx hb dL_law_400 (by decide) ?_
    refine cl_i (wr := []) (va_runV (As := [.int (xs 1), .int 0]) (rest := [.int (fRamp (xs 1) 0)]) ⟨hx, hb, hml, hown, hts⟩ (m_ramp_0 l D cy mh mq (xs 1) _) (cwV 2 hts gL_law_X12_ramp rfl rfl rfl (by decide +kernel) ⟨(Nat.le_of_ble_eq_true rfl), (Nat.le_of_ble_eq_true rfl)⟩) (pre_V hKX hP hD (ci := 12) (q0 := 0) rfl rfl [0, 1] rfl (by decide) rfl) rfl rfl hl.1 rfl (lv_room (Nat.le_of_ble_eq_true rfl)) dL_law_401 ⟨(Nat.le_of_ble_eq_true rfl), (Nat.le_of_ble_eq_true rfl)⟩) hP hD hS hA [0, 1] [] rfl rfl (by decide) (by decide) (fun u3 H locs _ hP hD hS => ?_)
    have hP : va_P D vwCl [] H := hP
    have hD : va_D A [] := hD
    refine lv_icmp_eq (tgt := 1049) hx hb dL_law_404 (by decide) (fun _ => ?_) (fun c9 => absurd rfl c9)
    exact law_tail C1 (Nat.le_of_ble_eq_true rfl) (Nat.le_of_ble_eq_true rfl) hS (lv_sub hl [0, 4] rfl)
  · refine lv_iconst (v := 1) hx hb dL_law_372 (by decide) ?_
    refine lv_goto (tgt := 377) hx hb dL_law_373 (by decide) ?_
    refine cl_i (wr := [(mc0 cy mh mq), (mc1 cy mh mq)]) (va_runV (As := [.int (xs 1), .int 1]) (rest := []) ⟨hx, hb, hml, hown, hts⟩ (c_ramp_1 l D cy xh xq (xs 1) _) (cwV 2 hts gL_law_X11_ramp rfl rfl rfl (by decide +kernel) ⟨(Nat.le_of_ble_eq_true rfl), (Nat.le_of_ble_eq_true rfl)⟩) (pre_V hKX hP hD (ci := 11) (q0 := 0) rfl rfl [0, 1, 2, 3] rfl (by decide) rfl) rfl rfl hl.1 rfl (lv_room (Nat.le_of_ble_eq_true rfl)) dL_law_377 ⟨(Nat.le_of_ble_eq_true rfl), (Nat.le_of_ble_eq_true rfl)⟩) hP hD hS hA [0, 1, 2, 3] [4, 5] rfl rfl (by decide) (by decide) (fun u4 H locs _ hP hD hS => ?_)
    have hP : va_P D vwCl [(mc0 cy mh mq), (mc1 cy mh mq)] H := hP
    have hD : va_D A [(mc0 cy mh mq), (mc1 cy mh mq)] := hD
    refine lv_aload_n hx hb dL_law_380 rfl (lv_at hl 2 rfl) ?_
    refine lv_aload_n hx hb dL_law_381 rfl (lv_at hl 4 rfl) ?_
    refine lv_iload hx hb dL_law_382 (lv_at hl 0 rfl) ?_
    refine lv_iconst (v := 1) hx hb dL_law_384 (by decide) ?_
    refine lv_iadd hx hb dL_law_385 ?_
    refine lv_cst 1 (by decide) ?_
    refine va_sld hx hb hX hbl hbA hS (vind (by decide)) dL_law_386 ?_
    refine lv_cst (xs 1) rfl ?_
    refine lv_aload_n hx hb dL_law_387 rfl (lv_at hl 4 rfl) ?_
    refine lv_iload hx hb dL_law_388 (lv_at hl 0 rfl) ?_
    refine lv_iconst (v := 2) hx hb dL_law_390 (by decide) ?_
    refine lv_iadd hx hb dL_law_391 ?_
    refine lv_cst 2 (by decide) ?_
    refine va_sld hx hb hX hbl hbA hS (vind (by decide)) dL_law_392 ?_
    refine lv_cst (xs 2) rfl ?_
    refine lv_if_eq (tgt := 400) hx hb dL_law_393 (by decide) (fun c9 => absurd c9 c1) (fun _ => ?_)
    refine lv_iconst (v := 1) hx hb dL_law_396 (by decide) ?_
    refine lv_goto (tgt := 401) hx hb dL_law_397 (by decide) ?_
    refine cl_i (wr := []) (va_runV (As := [.int (xs 1), .int 1]) (rest := [.int (fRamp (xs 1) 1)]) ⟨hx, hb, hml, hown, hts⟩ (m_ramp_1 l D cy mh mq (xs 1) _) (cwV 2 hts gL_law_X12_ramp rfl rfl rfl (by decide +kernel) ⟨(Nat.le_of_ble_eq_true rfl), (Nat.le_of_ble_eq_true rfl)⟩) (pre_V hKX hP hD (ci := 12) (q0 := 0) rfl rfl [0, 1] rfl (by decide) rfl) rfl rfl hl.1 rfl (lv_room (Nat.le_of_ble_eq_true rfl)) dL_law_401 ⟨(Nat.le_of_ble_eq_true rfl), (Nat.le_of_ble_eq_true rfl)⟩) hP hD hS hA [0, 1] [] rfl rfl (by decide) (by decide) (fun u5 H locs _ hP hD hS => ?_)
    have hP : va_P D vwCl [] H := hP
    have hD : va_D A [] := hD
    refine lv_icmp_eq (tgt := 1049) hx hb dL_law_404 (by decide) (fun _ => ?_) (fun c9 => absurd rfl c9)
    exact law_tail C1 (Nat.le_of_ble_eq_true rfl) (Nat.le_of_ble_eq_true rfl) hS (lv_sub hl [0, 4] rfl)
set_option maxHeartbeats 4000000 in
set_option maxRecDepth 100000 in
/-- ticks on new objects -/
theorem law_ticks {p : Program} {l : Launch} {e : Env} {s : State} {m : MethodId} {below : List Frame} {meth : Method} {c : Code} {b : Nat} {xs : Nat → Int32} {D : va_G} {cy : Nat → ClassId} {tS sa sb : Nat} {A : Nat → Prop} (C1 : lw_Al p l s m meth c b xs D cy tS sa sb A) {xh : Nat} {xq : Nat → Nat} {mh : Nat} {mq : Nat → Nat} {oa : Nat} {H : Heap} {locs : List Loc} {ls : Array Slot} (hP : va_P D vwCl [(xc0 cy xh xq), (xc1 cy xh xq), (xc2 cy xh xq), (xc10 cy xh xq), (xc13 cy xh xq), (xc21 cy xh xq), (xc44 cy xh xq), (mc0 cy mh mq), (mc11 cy mh mq)] H) (hD : va_D A [(xc0 cy xh xq), (xc1 cy xh xq), (xc2 cy xh xq), (xc10 cy xh xq), (xc13 cy xh xq), (xc21 cy xh xq), (xc44 cy xh xq), (mc0 cy mh mq), (mc11 cy mh mq)]) (hS : va_S A s.heap H locs) (hl : lv_has ls 7 [(4, .int 0), (3, .ref oa), (2, .ref mh), (1, .ref xh), (0, .ref b)]) : W p l e room_1 s m #[Value.ref b] below meth c H locs 79 34218 (lw_Z below #[Value.ref b] s) (F0 m 409 ls []) := by
  obtain ⟨hx, hb, hr, hml, hown, hts, hX, hbl, hlocks, hbA, hA, hA2, hKX, hSF, hET, hl0⟩ := id C1
  refine lv_aload_n hx hb dL_law_409 rfl (lv_at hl 3 rfl) ?_
  refine lv_aload_n hx hb dL_law_410 rfl (lv_at hl 4 rfl) ?_
  refine lv_iload hx hb dL_law_411 (lv_at hl 0 rfl) ?_
  refine lv_iconst (v := 1) hx hb dL_law_413 (by decide) ?_
  refine lv_iadd hx hb dL_law_414 ?_
  refine lv_cst 1 (by decide) ?_
  refine va_sld hx hb hX hbl hbA hS (vind (by decide)) dL_law_415 ?_
  refine lv_cst (xs 1) rfl ?_
  refine cl_i (wr := [(mc0 cy mh mq), (mc11 cy mh mq)]) (va_runV (As := [.int (xs 1)]) (rest := []) ⟨hx, hb, hml, hown, hts⟩ (c_ticks l D cy xh xq (xs 1) _) (cwV 1 hts gL_law_X11_ticks rfl rfl rfl (by decide +kernel) ⟨(Nat.le_of_ble_eq_true rfl), (Nat.le_of_ble_eq_true rfl)⟩) (pre_V hKX hP hD (ci := 11) (q0 := 0) rfl rfl [0, 1, 2, 3, 4, 5, 6] rfl (by decide) rfl) rfl rfl hl.1 rfl (lv_room (Nat.le_of_ble_eq_true rfl)) dL_law_416 ⟨(Nat.le_of_ble_eq_true rfl), (Nat.le_of_ble_eq_true rfl)⟩) hP hD hS hA [0, 1, 2, 3, 4, 5, 6] [7, 8] rfl rfl (by decide) (by decide) (fun u1 H locs _ hP hD hS => ?_)
  have hP : va_P D vwCl [(mc0 cy mh mq), (mc11 cy mh mq)] H := hP
  have hD : va_D A [(mc0 cy mh mq), (mc11 cy mh mq)] := hD
  refine lv_aload_n hx hb dL_law_419 rfl (lv_at hl 2 rfl) ?_
  refine lv_aload_n hx hb dL_law_420 rfl (lv_at hl 4 rfl) ?_
  refine lv_iload hx hb dL_law_421 (lv_at hl 0 rfl) ?_
  refine lv_iconst (v := 1) hx hb dL_law_423 (by decide) ?_
  refine lv_iadd hx hb dL_law_424 ?_
  refine lv_cst 1 (by decide) ?_
  refine va_sld hx hb hX hbl hbA hS (vind (by decide)) dL_law_425 ?_
  refine lv_cst (xs 1) rfl ?_
  refine cl_i (wr := []) (va_runV (As := [.int (xs 1)]) (rest := [.int (fTicks (xs 1))]) ⟨hx, hb, hml, hown, hts⟩ (m_ticks l D cy mh mq (xs 1) _) (cwV 1 hts gL_law_X12_ticks rfl rfl rfl (by decide +kernel) ⟨(Nat.le_of_ble_eq_true rfl), (Nat.le_of_ble_eq_true rfl)⟩) (pre_V hKX hP hD (ci := 12) (q0 := 0) rfl rfl [0, 1] rfl (by decide) rfl) rfl rfl hl.1 rfl (lv_room (Nat.le_of_ble_eq_true rfl)) dL_law_426 ⟨(Nat.le_of_ble_eq_true rfl), (Nat.le_of_ble_eq_true rfl)⟩) hP hD hS hA [0, 1] [] rfl rfl (by decide) (by decide) (fun u2 H locs _ hP hD hS => ?_)
  have hP : va_P D vwCl [] H := hP
  have hD : va_D A [] := hD
  refine lv_icmp_eq (tgt := 1049) hx hb dL_law_429 (by decide) (fun _ => ?_) (fun c9 => absurd rfl c9)
  exact law_tail C1 (Nat.le_of_ble_eq_true rfl) (Nat.le_of_ble_eq_true rfl) hS (lv_sub hl [0, 4] rfl)
