/-! ===== the law: its cases, its loop, its start: by program (mklaw.py) ===== -/
section LW
variable {L u d kc ks i : Nat} {X : Nat → Int32} {H : PH} {Q : Option Value → PH → Prop}
theorem wp_scr {y : MD} {d kc ks pc : Nat} {lo : List (Option Value)} {st : List Value} {n : Nat} {x : Int32} {j : Nat} (hd : decode y.2.1 pc = .ok (.iaload, 1)) (hk : hK H 0 = (99, n)) (hX : hI H 0 = X) (hx : x = nI j) (hj : j < n) (hn : n < 2 ^ 31) (kk : Wp y d kc ks (pc + 1) lo (.int (X j) :: st) H Q) : Wp y d kc ks pc lo (.int x :: .ref 0 :: st) H Q := by
  subst hx
  refine wp_script hd hk (vp_in_nI hj hn) ?_
  rw [hX, nI_clamp (by omega)]
  exact kk
theorem wp_newB {y : MD} {d kc ks kc' ks' pc : Nat} {lo : List (Option Value)} {st : List Value} {idx ci a n : Nat} (hd : decode y.2.1 pc = .ok (.new idx, 3)) (hq : ∃ q : vw_C, vwCl[ci]? = some q ∧ Cond.classLink y.1.cls idx q.1 ∈ gw ∧ q.2.2 = n) (ha : hN H + 1 = a) (e1 : kc + 1 = kc') (e2 : ks + n = ks') (kk : Wp y d kc ks (pc + 3) lo (.ref a :: st) (nC H (ci + 1) n) Q) : Wp y d kc' ks' pc lo st H Q := by
  obtain ⟨q, h1, h2, rfl⟩ := hq
  subst e1
  subst e2
  exact wp_newA hd h1 h2 ha kk
theorem lw_0 (hL : L ≤ 3584) (hi : i + 7 ≤ L) (hu : u < 1000000) (hRl : Rel L X u H) (k : ∀ H2, Rel L X (u + 1) H2 → Wp mL (d + 71) kc ks 1129 [some (.ref 0), some (.ref 1), some (.ref 33), some (.int (nI i))] [] H2 Q) : Wp mL (d + 71) (kc + 4) (ks + 623) 164 [some (.ref 0), some (.ref 1), some (.ref 33), some (.int (nI i))] [] H Q := by
  have hF := hRl.1
  have hk0 := hRl.2.1
  have hi0 := hRl.2.2.1
  refine wp_aload_n dL_law_164 rfl ?_
  refine wp_aload_n dL_law_165 rfl ?_
  refine wp_iload_n dL_law_166 rfl ?_
  refine wp_iconst (v := 1) dL_law_167 (by decide) ?_
  refine wp_iadd dL_law_168 ?_
  refine wp_scr (j := i + 1) dL_law_169 hk0 hi0 (nI_add i 1) (by omega) (by omega) ?_
  refine wp_aload_n dL_law_170 rfl ?_
  refine wp_iload_n dL_law_171 rfl ?_
  refine wp_iconst (v := 2) dL_law_172 (by decide) ?_
  refine wp_iadd dL_law_173 ?_
  refine wp_scr (j := i + 2) dL_law_174 hk0 hi0 (nI_add i 2) (by omega) (by omega) ?_
  refine wp_aload_n dL_law_175 rfl ?_
  refine wp_iload_n dL_law_176 rfl ?_
  refine wp_iconst (v := 3) dL_law_177 (by decide) ?_
  refine wp_iadd dL_law_178 ?_
  refine wp_scr (j := i + 3) dL_law_179 hk0 hi0 (nI_add i 3) (by omega) (by omega) ?_
  refine wp_aload_n dL_law_180 rfl ?_
  refine wp_iload_n dL_law_181 rfl ?_
  refine wp_iconst (v := 4) dL_law_182 (by decide) ?_
  refine wp_iadd dL_law_183 ?_
  refine wp_scr (j := i + 4) dL_law_184 hk0 hi0 (nI_add i 4) (by omega) (by omega) ?_
  refine wp_callv4n (kc := kc) (ks := ks) (mc := 4) (ms := 623) (ci := 11) dL_law_185 lk_RL_13 ok_X11_horse im_X11_horse se_X11_horse rfl rfl (fk_1 hF) (Nat.le_of_ble_eq_true rfl) (Nat.le_of_ble_eq_true rfl) ?_
  refine s_horse hRl (fun x H1 m1 k1 => ?_)
  refine wp_aload_n dL_law_188 rfl ?_
  refine wp_aload_n dL_law_189 rfl ?_
  refine wp_iload_n dL_law_190 rfl ?_
  refine wp_iconst (v := 1) dL_law_191 (by decide) ?_
  refine wp_iadd dL_law_192 ?_
  refine wp_scr (j := i + 1) dL_law_193 m1.2.1 m1.2.2 (nI_add i 1) (by omega) (by omega) ?_
  refine wp_aload_n dL_law_194 rfl ?_
  refine wp_iload_n dL_law_195 rfl ?_
  refine wp_iconst (v := 2) dL_law_196 (by decide) ?_
  refine wp_iadd dL_law_197 ?_
  refine wp_scr (j := i + 2) dL_law_198 m1.2.1 m1.2.2 (nI_add i 2) (by omega) (by omega) ?_
  refine wp_aload_n dL_law_199 rfl ?_
  refine wp_iload_n dL_law_200 rfl ?_
  refine wp_iconst (v := 3) dL_law_201 (by decide) ?_
  refine wp_iadd dL_law_202 ?_
  refine wp_scr (j := i + 3) dL_law_203 m1.2.1 m1.2.2 (nI_add i 3) (by omega) (by omega) ?_
  refine wp_aload_n dL_law_204 rfl ?_
  refine wp_iload_n dL_law_205 rfl ?_
  refine wp_iconst (v := 4) dL_law_206 (by decide) ?_
  refine wp_iadd dL_law_207 ?_
  refine wp_scr (j := i + 4) dL_law_208 m1.2.1 m1.2.2 (nI_add i 4) (by omega) (by omega) ?_
  refine wp_callv4 (ci := 12) dL_law_209 lk_RL_17 ok_X12_horse im_X12_horse se_X12_horse rfl rfl (fk_33 m1.1) (Nat.le_of_ble_eq_true rfl) (Nat.le_of_ble_eq_true rfl) ?_
  refine k1 _ _ (fun H2 r2 => ?_)
  refine wp_icmp_eq (tgt := 1129) dL_law_212 (by decide) (fun _ => ?_) (fun h => absurd rfl h)
  exact k H2 r2
theorem lw_1z (hL : L ≤ 3584) (hi : i + 7 ≤ L) (hu : u < 1000000) (hRl : Rel L X u H) (hz : X (i + 2) = 0) (k : ∀ H2, Rel L X (u + 1) H2 → Wp mL (d + 71) kc ks 1129 [some (.ref 0), some (.ref 1), some (.ref 33), some (.int (nI i))] [] H2 Q) : Wp mL (d + 71) (kc + 4) (ks + 623) 217 [some (.ref 0), some (.ref 1), some (.ref 33), some (.int (nI i))] [] H Q := by
  have hF := hRl.1
  have hk0 := hRl.2.1
  have hi0 := hRl.2.2.1
  refine wp_aload_n dL_law_217 rfl ?_
  refine wp_aload_n dL_law_218 rfl ?_
  refine wp_iload_n dL_law_219 rfl ?_
  refine wp_iconst (v := 1) dL_law_220 (by decide) ?_
  refine wp_iadd dL_law_221 ?_
  refine wp_scr (j := i + 1) dL_law_222 hk0 hi0 (nI_add i 1) (by omega) (by omega) ?_
  refine wp_aload_n dL_law_223 rfl ?_
  refine wp_iload_n dL_law_224 rfl ?_
  refine wp_iconst (v := 2) dL_law_225 (by decide) ?_
  refine wp_iadd dL_law_226 ?_
  refine wp_scr (j := i + 2) dL_law_227 hk0 hi0 (nI_add i 2) (by omega) (by omega) ?_
  refine wp_if_eq (tgt := 235) dL_law_228 (by decide) (fun _ => ?_) (fun h => absurd hz h)
  refine wp_iconst (v := 0) dL_law_235 (by decide) ?_
  refine wp_callv2n (kc := kc) (ks := ks) (mc := 4) (ms := 623) (ci := 11) dL_law_236 lk_RL_18 ok_X11_lame im_X11_lame se_X11_lame rfl rfl (fk_1 hF) (Nat.le_of_ble_eq_true rfl) (Nat.le_of_ble_eq_true rfl) ?_
  refine s_lame hRl (Or.inl rfl) (fun x H1 m1 k1 => ?_)
  refine wp_aload_n dL_law_239 rfl ?_
  refine wp_aload_n dL_law_240 rfl ?_
  refine wp_iload_n dL_law_241 rfl ?_
  refine wp_iconst (v := 1) dL_law_242 (by decide) ?_
  refine wp_iadd dL_law_243 ?_
  refine wp_scr (j := i + 1) dL_law_244 m1.2.1 m1.2.2 (nI_add i 1) (by omega) (by omega) ?_
  refine wp_aload_n dL_law_245 rfl ?_
  refine wp_iload_n dL_law_246 rfl ?_
  refine wp_iconst (v := 2) dL_law_247 (by decide) ?_
  refine wp_iadd dL_law_248 ?_
  refine wp_scr (j := i + 2) dL_law_249 m1.2.1 m1.2.2 (nI_add i 2) (by omega) (by omega) ?_
  refine wp_if_eq (tgt := 257) dL_law_250 (by decide) (fun _ => ?_) (fun h => absurd hz h)
  refine wp_iconst (v := 0) dL_law_257 (by decide) ?_
  refine wp_callv2 (ci := 12) dL_law_258 lk_RL_22 ok_X12_lame im_X12_lame se_X12_lame rfl rfl (fk_33 m1.1) (Nat.le_of_ble_eq_true rfl) (Nat.le_of_ble_eq_true rfl) ?_
  refine k1 _ _ (fun H2 r2 => ?_)
  refine wp_icmp_eq (tgt := 1129) dL_law_261 (by decide) (fun _ => ?_) (fun h => absurd rfl h)
  exact k H2 r2
theorem lw_1n (hL : L ≤ 3584) (hi : i + 7 ≤ L) (hu : u < 1000000) (hRl : Rel L X u H) (hz : ¬ X (i + 2) = 0) (k : ∀ H2, Rel L X (u + 1) H2 → Wp mL (d + 71) kc ks 1129 [some (.ref 0), some (.ref 1), some (.ref 33), some (.int (nI i))] [] H2 Q) : Wp mL (d + 71) (kc + 4) (ks + 623) 217 [some (.ref 0), some (.ref 1), some (.ref 33), some (.int (nI i))] [] H Q := by
  have hF := hRl.1
  have hk0 := hRl.2.1
  have hi0 := hRl.2.2.1
  refine wp_aload_n dL_law_217 rfl ?_
  refine wp_aload_n dL_law_218 rfl ?_
  refine wp_iload_n dL_law_219 rfl ?_
  refine wp_iconst (v := 1) dL_law_220 (by decide) ?_
  refine wp_iadd dL_law_221 ?_
  refine wp_scr (j := i + 1) dL_law_222 hk0 hi0 (nI_add i 1) (by omega) (by omega) ?_
  refine wp_aload_n dL_law_223 rfl ?_
  refine wp_iload_n dL_law_224 rfl ?_
  refine wp_iconst (v := 2) dL_law_225 (by decide) ?_
  refine wp_iadd dL_law_226 ?_
  refine wp_scr (j := i + 2) dL_law_227 hk0 hi0 (nI_add i 2) (by omega) (by omega) ?_
  refine wp_if_eq (tgt := 235) dL_law_228 (by decide) (fun h => absurd h hz) (fun _ => ?_)
  refine wp_iconst (v := 1) dL_law_231 (by decide) ?_
  refine wp_goto (tgt := 236) dL_law_232 (by decide) ?_
  refine wp_callv2n (kc := kc) (ks := ks) (mc := 4) (ms := 623) (ci := 11) dL_law_236 lk_RL_18 ok_X11_lame im_X11_lame se_X11_lame rfl rfl (fk_1 hF) (Nat.le_of_ble_eq_true rfl) (Nat.le_of_ble_eq_true rfl) ?_
  refine s_lame hRl (Or.inr rfl) (fun x H1 m1 k1 => ?_)
  refine wp_aload_n dL_law_239 rfl ?_
  refine wp_aload_n dL_law_240 rfl ?_
  refine wp_iload_n dL_law_241 rfl ?_
  refine wp_iconst (v := 1) dL_law_242 (by decide) ?_
  refine wp_iadd dL_law_243 ?_
  refine wp_scr (j := i + 1) dL_law_244 m1.2.1 m1.2.2 (nI_add i 1) (by omega) (by omega) ?_
  refine wp_aload_n dL_law_245 rfl ?_
  refine wp_iload_n dL_law_246 rfl ?_
  refine wp_iconst (v := 2) dL_law_247 (by decide) ?_
  refine wp_iadd dL_law_248 ?_
  refine wp_scr (j := i + 2) dL_law_249 m1.2.1 m1.2.2 (nI_add i 2) (by omega) (by omega) ?_
  refine wp_if_eq (tgt := 257) dL_law_250 (by decide) (fun h => absurd h hz) (fun _ => ?_)
  refine wp_iconst (v := 1) dL_law_253 (by decide) ?_
  refine wp_goto (tgt := 258) dL_law_254 (by decide) ?_
  refine wp_callv2 (ci := 12) dL_law_258 lk_RL_22 ok_X12_lame im_X12_lame se_X12_lame rfl rfl (fk_33 m1.1) (Nat.le_of_ble_eq_true rfl) (Nat.le_of_ble_eq_true rfl) ?_
  refine k1 _ _ (fun H2 r2 => ?_)
  refine wp_icmp_eq (tgt := 1129) dL_law_261 (by decide) (fun _ => ?_) (fun h => absurd rfl h)
  exact k H2 r2
theorem lw_2 (hL : L ≤ 3584) (hi : i + 7 ≤ L) (hu : u < 1000000) (hRl : Rel L X u H) (k : ∀ H2, Rel L X (u + 1) H2 → Wp mL (d + 71) kc ks 1129 [some (.ref 0), some (.ref 1), some (.ref 33), some (.int (nI i))] [] H2 Q) : Wp mL (d + 71) (kc + 4) (ks + 623) 266 [some (.ref 0), some (.ref 1), some (.ref 33), some (.int (nI i))] [] H Q := by
  have hF := hRl.1
  have hk0 := hRl.2.1
  have hi0 := hRl.2.2.1
  refine wp_aload_n dL_law_266 rfl ?_
  refine wp_aload_n dL_law_267 rfl ?_
  refine wp_iload_n dL_law_268 rfl ?_
  refine wp_iconst (v := 1) dL_law_269 (by decide) ?_
  refine wp_iadd dL_law_270 ?_
  refine wp_scr (j := i + 1) dL_law_271 hk0 hi0 (nI_add i 1) (by omega) (by omega) ?_
  refine wp_aload_n dL_law_272 rfl ?_
  refine wp_iload_n dL_law_273 rfl ?_
  refine wp_iconst (v := 2) dL_law_274 (by decide) ?_
  refine wp_iadd dL_law_275 ?_
  refine wp_scr (j := i + 2) dL_law_276 hk0 hi0 (nI_add i 2) (by omega) (by omega) ?_
  refine wp_callv2n (kc := kc) (ks := ks) (mc := 4) (ms := 623) (ci := 11) dL_law_277 lk_RL_23 ok_X11_spans im_X11_spans se_X11_spans rfl rfl (fk_1 hF) (Nat.le_of_ble_eq_true rfl) (Nat.le_of_ble_eq_true rfl) ?_
  refine s_spans hRl (fun x H1 m1 k1 => ?_)
  refine wp_aload_n dL_law_280 rfl ?_
  refine wp_aload_n dL_law_281 rfl ?_
  refine wp_iload_n dL_law_282 rfl ?_
  refine wp_iconst (v := 1) dL_law_283 (by decide) ?_
  refine wp_iadd dL_law_284 ?_
  refine wp_scr (j := i + 1) dL_law_285 m1.2.1 m1.2.2 (nI_add i 1) (by omega) (by omega) ?_
  refine wp_aload_n dL_law_286 rfl ?_
  refine wp_iload_n dL_law_287 rfl ?_
  refine wp_iconst (v := 2) dL_law_288 (by decide) ?_
  refine wp_iadd dL_law_289 ?_
  refine wp_scr (j := i + 2) dL_law_290 m1.2.1 m1.2.2 (nI_add i 2) (by omega) (by omega) ?_
  refine wp_callv2 (ci := 12) dL_law_291 lk_RL_27 ok_X12_spans im_X12_spans se_X12_spans rfl rfl (fk_33 m1.1) (Nat.le_of_ble_eq_true rfl) (Nat.le_of_ble_eq_true rfl) ?_
  refine k1 _ _ (fun H2 r2 => ?_)
  refine wp_icmp_eq (tgt := 1129) dL_law_294 (by decide) (fun _ => ?_) (fun h => absurd rfl h)
  exact k H2 r2
theorem lw_3 (hL : L ≤ 3584) (hi : i + 7 ≤ L) (hu : u < 1000000) (hRl : Rel L X u H) (k : ∀ H2, Rel L X (u + 1) H2 → Wp mL (d + 71) kc ks 1129 [some (.ref 0), some (.ref 1), some (.ref 33), some (.int (nI i))] [] H2 Q) : Wp mL (d + 71) (kc + 4) (ks + 623) 299 [some (.ref 0), some (.ref 1), some (.ref 33), some (.int (nI i))] [] H Q := by
  have hF := hRl.1
  have hk0 := hRl.2.1
  have hi0 := hRl.2.2.1
  refine wp_aload_n dL_law_299 rfl ?_
  refine wp_aload_n dL_law_300 rfl ?_
  refine wp_iload_n dL_law_301 rfl ?_
  refine wp_iconst (v := 1) dL_law_302 (by decide) ?_
  refine wp_iadd dL_law_303 ?_
  refine wp_scr (j := i + 1) dL_law_304 hk0 hi0 (nI_add i 1) (by omega) (by omega) ?_
  refine wp_aload_n dL_law_305 rfl ?_
  refine wp_iload_n dL_law_306 rfl ?_
  refine wp_iconst (v := 2) dL_law_307 (by decide) ?_
  refine wp_iadd dL_law_308 ?_
  refine wp_scr (j := i + 2) dL_law_309 hk0 hi0 (nI_add i 2) (by omega) (by omega) ?_
  refine wp_aload_n dL_law_310 rfl ?_
  refine wp_iload_n dL_law_311 rfl ?_
  refine wp_iconst (v := 3) dL_law_312 (by decide) ?_
  refine wp_iadd dL_law_313 ?_
  refine wp_scr (j := i + 3) dL_law_314 hk0 hi0 (nI_add i 3) (by omega) (by omega) ?_
  refine wp_callv3n (kc := kc) (ks := ks) (mc := 4) (ms := 623) (ci := 11) dL_law_315 lk_RL_28 ok_X11_way im_X11_way se_X11_way rfl rfl (fk_1 hF) (Nat.le_of_ble_eq_true rfl) (Nat.le_of_ble_eq_true rfl) ?_
  refine s_way hRl hu (fun x H1 m1 k1 => ?_)
  refine wp_aload_n dL_law_318 rfl ?_
  refine wp_aload_n dL_law_319 rfl ?_
  refine wp_iload_n dL_law_320 rfl ?_
  refine wp_iconst (v := 1) dL_law_321 (by decide) ?_
  refine wp_iadd dL_law_322 ?_
  refine wp_scr (j := i + 1) dL_law_323 m1.2.1 m1.2.2 (nI_add i 1) (by omega) (by omega) ?_
  refine wp_aload_n dL_law_324 rfl ?_
  refine wp_iload_n dL_law_325 rfl ?_
  refine wp_iconst (v := 2) dL_law_326 (by decide) ?_
  refine wp_iadd dL_law_327 ?_
  refine wp_scr (j := i + 2) dL_law_328 m1.2.1 m1.2.2 (nI_add i 2) (by omega) (by omega) ?_
  refine wp_aload_n dL_law_329 rfl ?_
  refine wp_iload_n dL_law_330 rfl ?_
  refine wp_iconst (v := 3) dL_law_331 (by decide) ?_
  refine wp_iadd dL_law_332 ?_
  refine wp_scr (j := i + 3) dL_law_333 m1.2.1 m1.2.2 (nI_add i 3) (by omega) (by omega) ?_
  refine wp_callv3 (ci := 12) dL_law_334 lk_RL_32 ok_X12_way im_X12_way se_X12_way rfl rfl (fk_33 m1.1) (Nat.le_of_ble_eq_true rfl) (Nat.le_of_ble_eq_true rfl) ?_
  refine k1 _ _ (fun H2 r2 => ?_)
  refine wp_icmp_eq (tgt := 1129) dL_law_337 (by decide) (fun _ => ?_) (fun h => absurd rfl h)
  exact k H2 r2
theorem lw_4 (hL : L ≤ 3584) (hi : i + 7 ≤ L) (hu : u < 1000000) (hRl : Rel L X u H) (k : ∀ H2, Rel L X (u + 1) H2 → Wp mL (d + 71) kc ks 1129 [some (.ref 0), some (.ref 1), some (.ref 33), some (.int (nI i))] [] H2 Q) : Wp mL (d + 71) (kc + 4) (ks + 623) 342 [some (.ref 0), some (.ref 1), some (.ref 33), some (.int (nI i))] [] H Q := by
  have hF := hRl.1
  have hk0 := hRl.2.1
  have hi0 := hRl.2.2.1
  refine wp_aload_n dL_law_342 rfl ?_
  refine wp_aload_n dL_law_343 rfl ?_
  refine wp_iload_n dL_law_344 rfl ?_
  refine wp_iconst (v := 1) dL_law_345 (by decide) ?_
  refine wp_iadd dL_law_346 ?_
  refine wp_scr (j := i + 1) dL_law_347 hk0 hi0 (nI_add i 1) (by omega) (by omega) ?_
  refine wp_callv1n (kc := kc) (ks := ks) (mc := 4) (ms := 623) (ci := 11) dL_law_348 lk_RL_33 ok_X11_carriages im_X11_carriages se_X11_carriages rfl rfl (fk_1 hF) (Nat.le_of_ble_eq_true rfl) (Nat.le_of_ble_eq_true rfl) ?_
  refine s_carriages hRl hu (fun x H1 m1 k1 => ?_)
  refine wp_aload_n dL_law_351 rfl ?_
  refine wp_aload_n dL_law_352 rfl ?_
  refine wp_iload_n dL_law_353 rfl ?_
  refine wp_iconst (v := 1) dL_law_354 (by decide) ?_
  refine wp_iadd dL_law_355 ?_
  refine wp_scr (j := i + 1) dL_law_356 m1.2.1 m1.2.2 (nI_add i 1) (by omega) (by omega) ?_
  refine wp_callv1 (ci := 12) dL_law_357 lk_RL_37 ok_X12_carriages im_X12_carriages se_X12_carriages rfl rfl (fk_33 m1.1) (Nat.le_of_ble_eq_true rfl) (Nat.le_of_ble_eq_true rfl) ?_
  refine k1 _ _ (fun H2 r2 => ?_)
  refine wp_icmp_eq (tgt := 1129) dL_law_360 (by decide) (fun _ => ?_) (fun h => absurd rfl h)
  exact k H2 r2
theorem lw_5 (hL : L ≤ 3584) (hi : i + 7 ≤ L) (hu : u < 1000000) (hRl : Rel L X u H) (k : ∀ H2, Rel L X (u + 1) H2 → Wp mL (d + 71) kc ks 1129 [some (.ref 0), some (.ref 1), some (.ref 33), some (.int (nI i))] [] H2 Q) : Wp mL (d + 71) (kc + 4) (ks + 623) 365 [some (.ref 0), some (.ref 1), some (.ref 33), some (.int (nI i))] [] H Q := by
  have hF := hRl.1
  have hk0 := hRl.2.1
  have hi0 := hRl.2.2.1
  refine wp_aload_n dL_law_365 rfl ?_
  refine wp_aload_n dL_law_366 rfl ?_
  refine wp_iload_n dL_law_367 rfl ?_
  refine wp_iconst (v := 1) dL_law_368 (by decide) ?_
  refine wp_iadd dL_law_369 ?_
  refine wp_scr (j := i + 1) dL_law_370 hk0 hi0 (nI_add i 1) (by omega) (by omega) ?_
  refine wp_callv1n (kc := kc) (ks := ks) (mc := 4) (ms := 623) (ci := 11) dL_law_371 lk_RL_38 ok_X11_need im_X11_need se_X11_need rfl rfl (fk_1 hF) (Nat.le_of_ble_eq_true rfl) (Nat.le_of_ble_eq_true rfl) ?_
  refine s_need hRl (fun x H1 m1 k1 => ?_)
  refine wp_aload_n dL_law_374 rfl ?_
  refine wp_aload_n dL_law_375 rfl ?_
  refine wp_iload_n dL_law_376 rfl ?_
  refine wp_iconst (v := 1) dL_law_377 (by decide) ?_
  refine wp_iadd dL_law_378 ?_
  refine wp_scr (j := i + 1) dL_law_379 m1.2.1 m1.2.2 (nI_add i 1) (by omega) (by omega) ?_
  refine wp_callv1 (ci := 12) dL_law_380 lk_RL_41 ok_X12_need im_X12_need se_X12_need rfl rfl (fk_33 m1.1) (Nat.le_of_ble_eq_true rfl) (Nat.le_of_ble_eq_true rfl) ?_
  refine k1 _ _ (fun H2 r2 => ?_)
  refine wp_icmp_eq (tgt := 1129) dL_law_383 (by decide) (fun _ => ?_) (fun h => absurd rfl h)
  exact k H2 r2
theorem lw_6 (hL : L ≤ 3584) (hi : i + 7 ≤ L) (hu : u < 1000000) (hRl : Rel L X u H) (k : ∀ H2, Rel L X (u + 1) H2 → Wp mL (d + 71) kc ks 1129 [some (.ref 0), some (.ref 1), some (.ref 33), some (.int (nI i))] [] H2 Q) : Wp mL (d + 71) (kc + 4) (ks + 623) 388 [some (.ref 0), some (.ref 1), some (.ref 33), some (.int (nI i))] [] H Q := by
  have hF := hRl.1
  have hk0 := hRl.2.1
  have hi0 := hRl.2.2.1
  refine wp_aload_n dL_law_388 rfl ?_
  refine wp_aload_n dL_law_389 rfl ?_
  refine wp_iload_n dL_law_390 rfl ?_
  refine wp_iconst (v := 1) dL_law_391 (by decide) ?_
  refine wp_iadd dL_law_392 ?_
  refine wp_scr (j := i + 1) dL_law_393 hk0 hi0 (nI_add i 1) (by omega) (by omega) ?_
  refine wp_callv1n (kc := kc) (ks := ks) (mc := 4) (ms := 623) (ci := 11) dL_law_394 lk_RL_42 ok_X11_match im_X11_match se_X11_match rfl rfl (fk_1 hF) (Nat.le_of_ble_eq_true rfl) (Nat.le_of_ble_eq_true rfl) ?_
  refine s_match hRl (fun x H1 m1 k1 => ?_)
  refine wp_aload_n dL_law_397 rfl ?_
  refine wp_aload_n dL_law_398 rfl ?_
  refine wp_iload_n dL_law_399 rfl ?_
  refine wp_iconst (v := 1) dL_law_400 (by decide) ?_
  refine wp_iadd dL_law_401 ?_
  refine wp_scr (j := i + 1) dL_law_402 m1.2.1 m1.2.2 (nI_add i 1) (by omega) (by omega) ?_
  refine wp_callv1 (ci := 12) dL_law_403 lk_RL_45 ok_X12_match im_X12_match se_X12_match rfl rfl (fk_33 m1.1) (Nat.le_of_ble_eq_true rfl) (Nat.le_of_ble_eq_true rfl) ?_
  refine k1 _ _ (fun H2 r2 => ?_)
  refine wp_icmp_eq (tgt := 1129) dL_law_406 (by decide) (fun _ => ?_) (fun h => absurd rfl h)
  exact k H2 r2
theorem lw_7 (hL : L ≤ 3584) (hi : i + 7 ≤ L) (hu : u < 1000000) (hRl : Rel L X u H) (k : ∀ H2, Rel L X (u + 1) H2 → Wp mL (d + 71) kc ks 1129 [some (.ref 0), some (.ref 1), some (.ref 33), some (.int (nI i))] [] H2 Q) : Wp mL (d + 71) (kc + 4) (ks + 623) 411 [some (.ref 0), some (.ref 1), some (.ref 33), some (.int (nI i))] [] H Q := by
  have hF := hRl.1
  have hk0 := hRl.2.1
  have hi0 := hRl.2.2.1
  refine wp_aload_n dL_law_411 rfl ?_
  refine wp_aload_n dL_law_412 rfl ?_
  refine wp_iload_n dL_law_413 rfl ?_
  refine wp_iconst (v := 1) dL_law_414 (by decide) ?_
  refine wp_iadd dL_law_415 ?_
  refine wp_scr (j := i + 1) dL_law_416 hk0 hi0 (nI_add i 1) (by omega) (by omega) ?_
  refine wp_callv1n (kc := kc) (ks := ks) (mc := 4) (ms := 623) (ci := 11) dL_law_417 lk_RL_46 ok_X11_matches im_X11_matches se_X11_matches rfl rfl (fk_1 hF) (Nat.le_of_ble_eq_true rfl) (Nat.le_of_ble_eq_true rfl) ?_
  refine s_matches hRl (fun x H1 m1 k1 => ?_)
  refine wp_aload_n dL_law_420 rfl ?_
  refine wp_aload_n dL_law_421 rfl ?_
  refine wp_iload_n dL_law_422 rfl ?_
  refine wp_iconst (v := 1) dL_law_423 (by decide) ?_
  refine wp_iadd dL_law_424 ?_
  refine wp_scr (j := i + 1) dL_law_425 m1.2.1 m1.2.2 (nI_add i 1) (by omega) (by omega) ?_
  refine wp_callv1 (ci := 12) dL_law_426 lk_RL_50 ok_X12_matches im_X12_matches se_X12_matches rfl rfl (fk_33 m1.1) (Nat.le_of_ble_eq_true rfl) (Nat.le_of_ble_eq_true rfl) ?_
  refine k1 _ _ (fun H2 r2 => ?_)
  refine wp_icmp_eq (tgt := 1129) dL_law_429 (by decide) (fun _ => ?_) (fun h => absurd rfl h)
  exact k H2 r2
theorem lw_8 (hL : L ≤ 3584) (hi : i + 7 ≤ L) (hu : u < 1000000) (hRl : Rel L X u H) (k : ∀ H2, Rel L X (u + 1) H2 → Wp mL (d + 71) kc ks 1129 [some (.ref 0), some (.ref 1), some (.ref 33), some (.int (nI i))] [] H2 Q) : Wp mL (d + 71) (kc + 4) (ks + 623) 434 [some (.ref 0), some (.ref 1), some (.ref 33), some (.int (nI i))] [] H Q := by
  have hF := hRl.1
  have hk0 := hRl.2.1
  have hi0 := hRl.2.2.1
  refine wp_aload_n dL_law_434 rfl ?_
  refine wp_aload_n dL_law_435 rfl ?_
  refine wp_iload_n dL_law_436 rfl ?_
  refine wp_iconst (v := 1) dL_law_437 (by decide) ?_
  refine wp_iadd dL_law_438 ?_
  refine wp_scr (j := i + 1) dL_law_439 hk0 hi0 (nI_add i 1) (by omega) (by omega) ?_
  refine wp_aload_n dL_law_440 rfl ?_
  refine wp_iload_n dL_law_441 rfl ?_
  refine wp_iconst (v := 2) dL_law_442 (by decide) ?_
  refine wp_iadd dL_law_443 ?_
  refine wp_scr (j := i + 2) dL_law_444 hk0 hi0 (nI_add i 2) (by omega) (by omega) ?_
  refine wp_aload_n dL_law_445 rfl ?_
  refine wp_iload_n dL_law_446 rfl ?_
  refine wp_iconst (v := 3) dL_law_447 (by decide) ?_
  refine wp_iadd dL_law_448 ?_
  refine wp_scr (j := i + 3) dL_law_449 hk0 hi0 (nI_add i 3) (by omega) (by omega) ?_
  refine wp_aload_n dL_law_450 rfl ?_
  refine wp_iload_n dL_law_451 rfl ?_
  refine wp_iconst (v := 4) dL_law_452 (by decide) ?_
  refine wp_iadd dL_law_453 ?_
  refine wp_scr (j := i + 4) dL_law_454 hk0 hi0 (nI_add i 4) (by omega) (by omega) ?_
  refine wp_aload_n dL_law_455 rfl ?_
  refine wp_iload_n dL_law_456 rfl ?_
  refine wp_iconst (v := 5) dL_law_457 (by decide) ?_
  refine wp_iadd dL_law_458 ?_
  refine wp_scr (j := i + 5) dL_law_459 hk0 hi0 (nI_add i 5) (by omega) (by omega) ?_
  refine wp_aload_n dL_law_460 rfl ?_
  refine wp_iload_n dL_law_461 rfl ?_
  refine wp_bipush (v := 6) dL_law_462 (by decide) ?_
  refine wp_iadd dL_law_464 ?_
  refine wp_scr (j := i + 6) dL_law_465 hk0 hi0 (nI_add i 6) (by omega) (by omega) ?_
  refine wp_callv6n (kc := kc) (ks := ks) (mc := 4) (ms := 623) (ci := 11) dL_law_466 lk_RL_51 ok_X11_job im_X11_job se_X11_job rfl rfl (fk_1 hF) (Nat.le_of_ble_eq_true rfl) (Nat.le_of_ble_eq_true rfl) ?_
  refine s_job hRl hu (fun x H1 m1 k1 => ?_)
  refine wp_aload_n dL_law_469 rfl ?_
  refine wp_aload_n dL_law_470 rfl ?_
  refine wp_iload_n dL_law_471 rfl ?_
  refine wp_iconst (v := 1) dL_law_472 (by decide) ?_
  refine wp_iadd dL_law_473 ?_
  refine wp_scr (j := i + 1) dL_law_474 m1.2.1 m1.2.2 (nI_add i 1) (by omega) (by omega) ?_
  refine wp_aload_n dL_law_475 rfl ?_
  refine wp_iload_n dL_law_476 rfl ?_
  refine wp_iconst (v := 2) dL_law_477 (by decide) ?_
  refine wp_iadd dL_law_478 ?_
  refine wp_scr (j := i + 2) dL_law_479 m1.2.1 m1.2.2 (nI_add i 2) (by omega) (by omega) ?_
  refine wp_aload_n dL_law_480 rfl ?_
  refine wp_iload_n dL_law_481 rfl ?_
  refine wp_iconst (v := 3) dL_law_482 (by decide) ?_
  refine wp_iadd dL_law_483 ?_
  refine wp_scr (j := i + 3) dL_law_484 m1.2.1 m1.2.2 (nI_add i 3) (by omega) (by omega) ?_
  refine wp_aload_n dL_law_485 rfl ?_
  refine wp_iload_n dL_law_486 rfl ?_
  refine wp_iconst (v := 4) dL_law_487 (by decide) ?_
  refine wp_iadd dL_law_488 ?_
  refine wp_scr (j := i + 4) dL_law_489 m1.2.1 m1.2.2 (nI_add i 4) (by omega) (by omega) ?_
  refine wp_aload_n dL_law_490 rfl ?_
  refine wp_iload_n dL_law_491 rfl ?_
  refine wp_iconst (v := 5) dL_law_492 (by decide) ?_
  refine wp_iadd dL_law_493 ?_
  refine wp_scr (j := i + 5) dL_law_494 m1.2.1 m1.2.2 (nI_add i 5) (by omega) (by omega) ?_
  refine wp_aload_n dL_law_495 rfl ?_
  refine wp_iload_n dL_law_496 rfl ?_
  refine wp_bipush (v := 6) dL_law_497 (by decide) ?_
  refine wp_iadd dL_law_499 ?_
  refine wp_scr (j := i + 6) dL_law_500 m1.2.1 m1.2.2 (nI_add i 6) (by omega) (by omega) ?_
  refine wp_callv6 (ci := 12) dL_law_501 lk_RL_55 ok_X12_job im_X12_job se_X12_job rfl rfl (fk_33 m1.1) (Nat.le_of_ble_eq_true rfl) (Nat.le_of_ble_eq_true rfl) ?_
  refine k1 _ _ (fun H2 r2 => ?_)
  refine wp_icmp_eq (tgt := 1129) dL_law_504 (by decide) (fun _ => ?_) (fun h => absurd rfl h)
  exact k H2 r2
theorem lw_9 (hL : L ≤ 3584) (hi : i + 7 ≤ L) (hu : u < 1000000) (hRl : Rel L X u H) (k : ∀ H2, Rel L X (u + 1) H2 → Wp mL (d + 71) kc ks 1129 [some (.ref 0), some (.ref 1), some (.ref 33), some (.int (nI i))] [] H2 Q) : Wp mL (d + 71) (kc + 4) (ks + 623) 509 [some (.ref 0), some (.ref 1), some (.ref 33), some (.int (nI i))] [] H Q := by
  have hF := hRl.1
  have hk0 := hRl.2.1
  have hi0 := hRl.2.2.1
  refine wp_aload_n dL_law_509 rfl ?_
  refine wp_aload_n dL_law_510 rfl ?_
  refine wp_iload_n dL_law_511 rfl ?_
  refine wp_iconst (v := 1) dL_law_512 (by decide) ?_
  refine wp_iadd dL_law_513 ?_
  refine wp_scr (j := i + 1) dL_law_514 hk0 hi0 (nI_add i 1) (by omega) (by omega) ?_
  refine wp_callv1n (kc := kc) (ks := ks) (mc := 4) (ms := 623) (ci := 11) dL_law_515 lk_RL_56 ok_X11_drop im_X11_drop se_X11_drop rfl rfl (fk_1 hF) (Nat.le_of_ble_eq_true rfl) (Nat.le_of_ble_eq_true rfl) ?_
  refine s_drop hRl hu (fun x H1 m1 k1 => ?_)
  refine wp_aload_n dL_law_518 rfl ?_
  refine wp_aload_n dL_law_519 rfl ?_
  refine wp_iload_n dL_law_520 rfl ?_
  refine wp_iconst (v := 1) dL_law_521 (by decide) ?_
  refine wp_iadd dL_law_522 ?_
  refine wp_scr (j := i + 1) dL_law_523 m1.2.1 m1.2.2 (nI_add i 1) (by omega) (by omega) ?_
  refine wp_callv1 (ci := 12) dL_law_524 lk_RL_59 ok_X12_drop im_X12_drop se_X12_drop rfl rfl (fk_33 m1.1) (Nat.le_of_ble_eq_true rfl) (Nat.le_of_ble_eq_true rfl) ?_
  refine k1 _ _ (fun H2 r2 => ?_)
  refine wp_icmp_eq (tgt := 1129) dL_law_527 (by decide) (fun _ => ?_) (fun h => absurd rfl h)
  exact k H2 r2
theorem lw_10 (hL : L ≤ 3584) (hi : i + 7 ≤ L) (hu : u < 1000000) (hRl : Rel L X u H) (k : ∀ H2, Rel L X (u + 1) H2 → Wp mL (d + 71) kc ks 1129 [some (.ref 0), some (.ref 1), some (.ref 33), some (.int (nI i))] [] H2 Q) : Wp mL (d + 71) (kc + 4) (ks + 623) 532 [some (.ref 0), some (.ref 1), some (.ref 33), some (.int (nI i))] [] H Q := by
  have hF := hRl.1
  have hk0 := hRl.2.1
  have hi0 := hRl.2.2.1
  refine wp_aload_n dL_law_532 rfl ?_
  refine wp_aload_n dL_law_533 rfl ?_
  refine wp_iload_n dL_law_534 rfl ?_
  refine wp_iconst (v := 1) dL_law_535 (by decide) ?_
  refine wp_iadd dL_law_536 ?_
  refine wp_scr (j := i + 1) dL_law_537 hk0 hi0 (nI_add i 1) (by omega) (by omega) ?_
  refine wp_aload_n dL_law_538 rfl ?_
  refine wp_iload_n dL_law_539 rfl ?_
  refine wp_iconst (v := 2) dL_law_540 (by decide) ?_
  refine wp_iadd dL_law_541 ?_
  refine wp_scr (j := i + 2) dL_law_542 hk0 hi0 (nI_add i 2) (by omega) (by omega) ?_
  refine wp_callv2n (kc := kc) (ks := ks) (mc := 4) (ms := 623) (ci := 11) dL_law_543 lk_RL_60 ok_X11_of im_X11_of se_X11_of rfl rfl (fk_1 hF) (Nat.le_of_ble_eq_true rfl) (Nat.le_of_ble_eq_true rfl) ?_
  refine s_of hRl (fun x H1 m1 k1 => ?_)
  refine wp_aload_n dL_law_546 rfl ?_
  refine wp_aload_n dL_law_547 rfl ?_
  refine wp_iload_n dL_law_548 rfl ?_
  refine wp_iconst (v := 1) dL_law_549 (by decide) ?_
  refine wp_iadd dL_law_550 ?_
  refine wp_scr (j := i + 1) dL_law_551 m1.2.1 m1.2.2 (nI_add i 1) (by omega) (by omega) ?_
  refine wp_aload_n dL_law_552 rfl ?_
  refine wp_iload_n dL_law_553 rfl ?_
  refine wp_iconst (v := 2) dL_law_554 (by decide) ?_
  refine wp_iadd dL_law_555 ?_
  refine wp_scr (j := i + 2) dL_law_556 m1.2.1 m1.2.2 (nI_add i 2) (by omega) (by omega) ?_
  refine wp_callv2 (ci := 12) dL_law_557 lk_RL_64 ok_X12_of im_X12_of se_X12_of rfl rfl (fk_33 m1.1) (Nat.le_of_ble_eq_true rfl) (Nat.le_of_ble_eq_true rfl) ?_
  refine k1 _ _ (fun H2 r2 => ?_)
  refine wp_icmp_eq (tgt := 1129) dL_law_560 (by decide) (fun _ => ?_) (fun h => absurd rfl h)
  exact k H2 r2
theorem lw_11 (hL : L ≤ 3584) (hi : i + 7 ≤ L) (hu : u < 1000000) (hRl : Rel L X u H) (k : ∀ H2, Rel L X (u + 1) H2 → Wp mL (d + 71) kc ks 1129 [some (.ref 0), some (.ref 1), some (.ref 33), some (.int (nI i))] [] H2 Q) : Wp mL (d + 71) (kc + 4) (ks + 623) 565 [some (.ref 0), some (.ref 1), some (.ref 33), some (.int (nI i))] [] H Q := by
  have hF := hRl.1
  have hk0 := hRl.2.1
  have hi0 := hRl.2.2.1
  refine wp_aload_n dL_law_565 rfl ?_
  refine wp_aload_n dL_law_566 rfl ?_
  refine wp_iload_n dL_law_567 rfl ?_
  refine wp_iconst (v := 1) dL_law_568 (by decide) ?_
  refine wp_iadd dL_law_569 ?_
  refine wp_scr (j := i + 1) dL_law_570 hk0 hi0 (nI_add i 1) (by omega) (by omega) ?_
  refine wp_aload_n dL_law_571 rfl ?_
  refine wp_iload_n dL_law_572 rfl ?_
  refine wp_iconst (v := 2) dL_law_573 (by decide) ?_
  refine wp_iadd dL_law_574 ?_
  refine wp_scr (j := i + 2) dL_law_575 hk0 hi0 (nI_add i 2) (by omega) (by omega) ?_
  refine wp_callv2n (kc := kc) (ks := ks) (mc := 4) (ms := 623) (ci := 11) dL_law_576 lk_RL_65 ok_X11_behind im_X11_behind se_X11_behind rfl rfl (fk_1 hF) (Nat.le_of_ble_eq_true rfl) (Nat.le_of_ble_eq_true rfl) ?_
  refine s_behind hRl (fun x H1 m1 k1 => ?_)
  refine wp_aload_n dL_law_579 rfl ?_
  refine wp_aload_n dL_law_580 rfl ?_
  refine wp_iload_n dL_law_581 rfl ?_
  refine wp_iconst (v := 1) dL_law_582 (by decide) ?_
  refine wp_iadd dL_law_583 ?_
  refine wp_scr (j := i + 1) dL_law_584 m1.2.1 m1.2.2 (nI_add i 1) (by omega) (by omega) ?_
  refine wp_aload_n dL_law_585 rfl ?_
  refine wp_iload_n dL_law_586 rfl ?_
  refine wp_iconst (v := 2) dL_law_587 (by decide) ?_
  refine wp_iadd dL_law_588 ?_
  refine wp_scr (j := i + 2) dL_law_589 m1.2.1 m1.2.2 (nI_add i 2) (by omega) (by omega) ?_
  refine wp_callv2 (ci := 12) dL_law_590 lk_RL_68 ok_X12_behind im_X12_behind se_X12_behind rfl rfl (fk_33 m1.1) (Nat.le_of_ble_eq_true rfl) (Nat.le_of_ble_eq_true rfl) ?_
  refine k1 _ _ (fun H2 r2 => ?_)
  refine wp_icmp_eq (tgt := 1129) dL_law_593 (by decide) (fun _ => ?_) (fun h => absurd rfl h)
  exact k H2 r2
theorem lw_12 (hL : L ≤ 3584) (hi : i + 7 ≤ L) (hu : u < 1000000) (hRl : Rel L X u H) (k : ∀ H2, Rel L X (u + 1) H2 → Wp mL (d + 71) kc ks 1129 [some (.ref 0), some (.ref 1), some (.ref 33), some (.int (nI i))] [] H2 Q) : Wp mL (d + 71) (kc + 4) (ks + 623) 598 [some (.ref 0), some (.ref 1), some (.ref 33), some (.int (nI i))] [] H Q := by
  have hF := hRl.1
  have hk0 := hRl.2.1
  have hi0 := hRl.2.2.1
  refine wp_aload_n dL_law_598 rfl ?_
  refine wp_callv0n (kc := kc) (ks := ks) (mc := 4) (ms := 623) (ci := 11) dL_law_599 lk_RL_69 ok_X11_empty im_X11_empty se_X11_empty rfl rfl (fk_1 hF) (Nat.le_of_ble_eq_true rfl) (Nat.le_of_ble_eq_true rfl) ?_
  refine s_empty hRl (fun x H1 m1 k1 => ?_)
  refine wp_aload_n dL_law_602 rfl ?_
  refine wp_callv0 (ci := 12) dL_law_603 lk_RL_73 ok_X12_empty im_X12_empty se_X12_empty rfl rfl (fk_33 m1.1) (Nat.le_of_ble_eq_true rfl) (Nat.le_of_ble_eq_true rfl) ?_
  refine k1 _ _ (fun H2 r2 => ?_)
  refine wp_icmp_eq (tgt := 1129) dL_law_606 (by decide) (fun _ => ?_) (fun h => absurd rfl h)
  exact k H2 r2
theorem lw_13 (hL : L ≤ 3584) (hi : i + 7 ≤ L) (hu : u < 1000000) (hRl : Rel L X u H) (k : ∀ H2, Rel L X (u + 1) H2 → Wp mL (d + 71) kc ks 1129 [some (.ref 0), some (.ref 1), some (.ref 33), some (.int (nI i))] [] H2 Q) : Wp mL (d + 71) (kc + 4) (ks + 623) 611 [some (.ref 0), some (.ref 1), some (.ref 33), some (.int (nI i))] [] H Q := by
  have hF := hRl.1
  have hk0 := hRl.2.1
  have hi0 := hRl.2.2.1
  refine wp_aload_n dL_law_611 rfl ?_
  refine wp_callv0n (kc := kc) (ks := ks) (mc := 4) (ms := 623) (ci := 11) dL_law_612 lk_RL_74 ok_X11_chains im_X11_chains se_X11_chains rfl rfl (fk_1 hF) (Nat.le_of_ble_eq_true rfl) (Nat.le_of_ble_eq_true rfl) ?_
  refine s_chains hRl (fun x H1 m1 k1 => ?_)
  refine wp_aload_n dL_law_615 rfl ?_
  refine wp_callv0 (ci := 12) dL_law_616 lk_RL_77 ok_X12_chains im_X12_chains se_X12_chains rfl rfl (fk_33 m1.1) (Nat.le_of_ble_eq_true rfl) (Nat.le_of_ble_eq_true rfl) ?_
  refine k1 _ _ (fun H2 r2 => ?_)
  refine wp_icmp_eq (tgt := 1129) dL_law_619 (by decide) (fun _ => ?_) (fun h => absurd rfl h)
  exact k H2 r2
theorem lw_14 (hL : L ≤ 3584) (hi : i + 7 ≤ L) (hu : u < 1000000) (hRl : Rel L X u H) (k : ∀ H2, Rel L X (u + 1) H2 → Wp mL (d + 71) kc ks 1129 [some (.ref 0), some (.ref 1), some (.ref 33), some (.int (nI i))] [] H2 Q) : Wp mL (d + 71) (kc + 4) (ks + 623) 624 [some (.ref 0), some (.ref 1), some (.ref 33), some (.int (nI i))] [] H Q := by
  have hF := hRl.1
  have hk0 := hRl.2.1
  have hi0 := hRl.2.2.1
  refine wp_aload_n dL_law_624 rfl ?_
  refine wp_aload_n dL_law_625 rfl ?_
  refine wp_iload_n dL_law_626 rfl ?_
  refine wp_iconst (v := 1) dL_law_627 (by decide) ?_
  refine wp_iadd dL_law_628 ?_
  refine wp_scr (j := i + 1) dL_law_629 hk0 hi0 (nI_add i 1) (by omega) (by omega) ?_
  refine wp_callv1n (kc := kc) (ks := ks) (mc := 4) (ms := 623) (ci := 11) dL_law_630 lk_RL_78 ok_X11_chain im_X11_chain se_X11_chain rfl rfl (fk_1 hF) (Nat.le_of_ble_eq_true rfl) (Nat.le_of_ble_eq_true rfl) ?_
  refine s_chain hRl (fun x H1 m1 k1 => ?_)
  refine wp_aload_n dL_law_633 rfl ?_
  refine wp_aload_n dL_law_634 rfl ?_
  refine wp_iload_n dL_law_635 rfl ?_
  refine wp_iconst (v := 1) dL_law_636 (by decide) ?_
  refine wp_iadd dL_law_637 ?_
  refine wp_scr (j := i + 1) dL_law_638 m1.2.1 m1.2.2 (nI_add i 1) (by omega) (by omega) ?_
  refine wp_callv1 (ci := 12) dL_law_639 lk_RL_81 ok_X12_chain im_X12_chain se_X12_chain rfl rfl (fk_33 m1.1) (Nat.le_of_ble_eq_true rfl) (Nat.le_of_ble_eq_true rfl) ?_
  refine k1 _ _ (fun H2 r2 => ?_)
  refine wp_icmp_eq (tgt := 1129) dL_law_642 (by decide) (fun _ => ?_) (fun h => absurd rfl h)
  exact k H2 r2
theorem lw_15 (hL : L ≤ 3584) (hi : i + 7 ≤ L) (hu : u < 1000000) (hRl : Rel L X u H) (k : ∀ H2, Rel L X (u + 1) H2 → Wp mL (d + 71) kc ks 1129 [some (.ref 0), some (.ref 1), some (.ref 33), some (.int (nI i))] [] H2 Q) : Wp mL (d + 71) (kc + 4) (ks + 623) 647 [some (.ref 0), some (.ref 1), some (.ref 33), some (.int (nI i))] [] H Q := by
  have hF := hRl.1
  have hk0 := hRl.2.1
  have hi0 := hRl.2.2.1
  refine wp_aload_n dL_law_647 rfl ?_
  refine wp_aload_n dL_law_648 rfl ?_
  refine wp_iload_n dL_law_649 rfl ?_
  refine wp_iconst (v := 1) dL_law_650 (by decide) ?_
  refine wp_iadd dL_law_651 ?_
  refine wp_scr (j := i + 1) dL_law_652 hk0 hi0 (nI_add i 1) (by omega) (by omega) ?_
  refine wp_aload_n dL_law_653 rfl ?_
  refine wp_iload_n dL_law_654 rfl ?_
  refine wp_iconst (v := 2) dL_law_655 (by decide) ?_
  refine wp_iadd dL_law_656 ?_
  refine wp_scr (j := i + 2) dL_law_657 hk0 hi0 (nI_add i 2) (by omega) (by omega) ?_
  refine wp_callv2n (kc := kc) (ks := ks) (mc := 4) (ms := 623) (ci := 11) dL_law_658 lk_RL_82 ok_X11_team im_X11_team se_X11_team rfl rfl (fk_1 hF) (Nat.le_of_ble_eq_true rfl) (Nat.le_of_ble_eq_true rfl) ?_
  refine s_team hRl (fun x H1 m1 k1 => ?_)
  refine wp_aload_n dL_law_661 rfl ?_
  refine wp_aload_n dL_law_662 rfl ?_
  refine wp_iload_n dL_law_663 rfl ?_
  refine wp_iconst (v := 1) dL_law_664 (by decide) ?_
  refine wp_iadd dL_law_665 ?_
  refine wp_scr (j := i + 1) dL_law_666 m1.2.1 m1.2.2 (nI_add i 1) (by omega) (by omega) ?_
  refine wp_aload_n dL_law_667 rfl ?_
  refine wp_iload_n dL_law_668 rfl ?_
  refine wp_iconst (v := 2) dL_law_669 (by decide) ?_
  refine wp_iadd dL_law_670 ?_
  refine wp_scr (j := i + 2) dL_law_671 m1.2.1 m1.2.2 (nI_add i 2) (by omega) (by omega) ?_
  refine wp_callv2 (ci := 12) dL_law_672 lk_RL_85 ok_X12_team im_X12_team se_X12_team rfl rfl (fk_33 m1.1) (Nat.le_of_ble_eq_true rfl) (Nat.le_of_ble_eq_true rfl) ?_
  refine k1 _ _ (fun H2 r2 => ?_)
  refine wp_icmp_eq (tgt := 1129) dL_law_675 (by decide) (fun _ => ?_) (fun h => absurd rfl h)
  exact k H2 r2
theorem lw_16 (hL : L ≤ 3584) (hi : i + 7 ≤ L) (hu : u < 1000000) (hRl : Rel L X u H) (k : ∀ H2, Rel L X (u + 1) H2 → Wp mL (d + 71) kc ks 1129 [some (.ref 0), some (.ref 1), some (.ref 33), some (.int (nI i))] [] H2 Q) : Wp mL (d + 71) (kc + 4) (ks + 623) 680 [some (.ref 0), some (.ref 1), some (.ref 33), some (.int (nI i))] [] H Q := by
  have hF := hRl.1
  have hk0 := hRl.2.1
  have hi0 := hRl.2.2.1
  refine wp_aload_n dL_law_680 rfl ?_
  refine wp_aload_n dL_law_681 rfl ?_
  refine wp_iload_n dL_law_682 rfl ?_
  refine wp_iconst (v := 1) dL_law_683 (by decide) ?_
  refine wp_iadd dL_law_684 ?_
  refine wp_scr (j := i + 1) dL_law_685 hk0 hi0 (nI_add i 1) (by omega) (by omega) ?_
  refine wp_callv1n (kc := kc) (ks := ks) (mc := 4) (ms := 623) (ci := 11) dL_law_686 lk_RL_86 ok_X11_right im_X11_right se_X11_right rfl rfl (fk_1 hF) (Nat.le_of_ble_eq_true rfl) (Nat.le_of_ble_eq_true rfl) ?_
  refine s_right hRl (fun x H1 m1 k1 => ?_)
  refine wp_aload_n dL_law_689 rfl ?_
  refine wp_aload_n dL_law_690 rfl ?_
  refine wp_iload_n dL_law_691 rfl ?_
  refine wp_iconst (v := 1) dL_law_692 (by decide) ?_
  refine wp_iadd dL_law_693 ?_
  refine wp_scr (j := i + 1) dL_law_694 m1.2.1 m1.2.2 (nI_add i 1) (by omega) (by omega) ?_
  refine wp_callv1 (ci := 12) dL_law_695 lk_RL_89 ok_X12_right im_X12_right se_X12_right rfl rfl (fk_33 m1.1) (Nat.le_of_ble_eq_true rfl) (Nat.le_of_ble_eq_true rfl) ?_
  refine k1 _ _ (fun H2 r2 => ?_)
  refine wp_icmp_eq (tgt := 1129) dL_law_698 (by decide) (fun _ => ?_) (fun h => absurd rfl h)
  exact k H2 r2
theorem lw_17 (hL : L ≤ 3584) (hi : i + 7 ≤ L) (hu : u < 1000000) (hRl : Rel L X u H) (k : ∀ H2, Rel L X (u + 1) H2 → Wp mL (d + 71) kc ks 1129 [some (.ref 0), some (.ref 1), some (.ref 33), some (.int (nI i))] [] H2 Q) : Wp mL (d + 71) (kc + 4) (ks + 623) 703 [some (.ref 0), some (.ref 1), some (.ref 33), some (.int (nI i))] [] H Q := by
  have hF := hRl.1
  have hk0 := hRl.2.1
  have hi0 := hRl.2.2.1
  refine wp_aload_n dL_law_703 rfl ?_
  refine wp_aload_n dL_law_704 rfl ?_
  refine wp_iload_n dL_law_705 rfl ?_
  refine wp_iconst (v := 1) dL_law_706 (by decide) ?_
  refine wp_iadd dL_law_707 ?_
  refine wp_scr (j := i + 1) dL_law_708 hk0 hi0 (nI_add i 1) (by omega) (by omega) ?_
  refine wp_aload_n dL_law_709 rfl ?_
  refine wp_iload_n dL_law_710 rfl ?_
  refine wp_iconst (v := 2) dL_law_711 (by decide) ?_
  refine wp_iadd dL_law_712 ?_
  refine wp_scr (j := i + 2) dL_law_713 hk0 hi0 (nI_add i 2) (by omega) (by omega) ?_
  refine wp_callv2n (kc := kc) (ks := ks) (mc := 4) (ms := 623) (ci := 11) dL_law_714 lk_RL_90 ok_X11_strength im_X11_strength se_X11_strength rfl rfl (fk_1 hF) (Nat.le_of_ble_eq_true rfl) (Nat.le_of_ble_eq_true rfl) ?_
  refine s_strength hRl (fun x H1 m1 k1 => ?_)
  refine wp_aload_n dL_law_717 rfl ?_
  refine wp_aload_n dL_law_718 rfl ?_
  refine wp_iload_n dL_law_719 rfl ?_
  refine wp_iconst (v := 1) dL_law_720 (by decide) ?_
  refine wp_iadd dL_law_721 ?_
  refine wp_scr (j := i + 1) dL_law_722 m1.2.1 m1.2.2 (nI_add i 1) (by omega) (by omega) ?_
  refine wp_aload_n dL_law_723 rfl ?_
  refine wp_iload_n dL_law_724 rfl ?_
  refine wp_iconst (v := 2) dL_law_725 (by decide) ?_
  refine wp_iadd dL_law_726 ?_
  refine wp_scr (j := i + 2) dL_law_727 m1.2.1 m1.2.2 (nI_add i 2) (by omega) (by omega) ?_
  refine wp_callv2 (ci := 12) dL_law_728 lk_RL_93 ok_X12_strength im_X12_strength se_X12_strength rfl rfl (fk_33 m1.1) (Nat.le_of_ble_eq_true rfl) (Nat.le_of_ble_eq_true rfl) ?_
  refine k1 _ _ (fun H2 r2 => ?_)
  refine wp_icmp_eq (tgt := 1129) dL_law_731 (by decide) (fun _ => ?_) (fun h => absurd rfl h)
  exact k H2 r2
theorem lw_18 (hL : L ≤ 3584) (hi : i + 7 ≤ L) (hu : u < 1000000) (hRl : Rel L X u H) (k : ∀ H2, Rel L X (u + 1) H2 → Wp mL (d + 71) kc ks 1129 [some (.ref 0), some (.ref 1), some (.ref 33), some (.int (nI i))] [] H2 Q) : Wp mL (d + 71) (kc + 4) (ks + 623) 736 [some (.ref 0), some (.ref 1), some (.ref 33), some (.int (nI i))] [] H Q := by
  have hF := hRl.1
  have hk0 := hRl.2.1
  have hi0 := hRl.2.2.1
  refine wp_aload_n dL_law_736 rfl ?_
  refine wp_aload_n dL_law_737 rfl ?_
  refine wp_iload_n dL_law_738 rfl ?_
  refine wp_iconst (v := 1) dL_law_739 (by decide) ?_
  refine wp_iadd dL_law_740 ?_
  refine wp_scr (j := i + 1) dL_law_741 hk0 hi0 (nI_add i 1) (by omega) (by omega) ?_
  refine wp_aload_n dL_law_742 rfl ?_
  refine wp_iload_n dL_law_743 rfl ?_
  refine wp_iconst (v := 2) dL_law_744 (by decide) ?_
  refine wp_iadd dL_law_745 ?_
  refine wp_scr (j := i + 2) dL_law_746 hk0 hi0 (nI_add i 2) (by omega) (by omega) ?_
  refine wp_callv2n (kc := kc) (ks := ks) (mc := 4) (ms := 623) (ci := 11) dL_law_747 lk_RL_94 ok_X11_standIn im_X11_standIn se_X11_standIn rfl rfl (fk_1 hF) (Nat.le_of_ble_eq_true rfl) (Nat.le_of_ble_eq_true rfl) ?_
  refine s_standIn hRl (fun x H1 m1 k1 => ?_)
  refine wp_aload_n dL_law_750 rfl ?_
  refine wp_aload_n dL_law_751 rfl ?_
  refine wp_iload_n dL_law_752 rfl ?_
  refine wp_iconst (v := 1) dL_law_753 (by decide) ?_
  refine wp_iadd dL_law_754 ?_
  refine wp_scr (j := i + 1) dL_law_755 m1.2.1 m1.2.2 (nI_add i 1) (by omega) (by omega) ?_
  refine wp_aload_n dL_law_756 rfl ?_
  refine wp_iload_n dL_law_757 rfl ?_
  refine wp_iconst (v := 2) dL_law_758 (by decide) ?_
  refine wp_iadd dL_law_759 ?_
  refine wp_scr (j := i + 2) dL_law_760 m1.2.1 m1.2.2 (nI_add i 2) (by omega) (by omega) ?_
  refine wp_callv2 (ci := 12) dL_law_761 lk_RL_97 ok_X12_standIn im_X12_standIn se_X12_standIn rfl rfl (fk_33 m1.1) (Nat.le_of_ble_eq_true rfl) (Nat.le_of_ble_eq_true rfl) ?_
  refine k1 _ _ (fun H2 r2 => ?_)
  refine wp_icmp_eq (tgt := 1129) dL_law_764 (by decide) (fun _ => ?_) (fun h => absurd rfl h)
  exact k H2 r2
theorem lw_19 (hL : L ≤ 3584) (hi : i + 7 ≤ L) (hu : u < 1000000) (hRl : Rel L X u H) (k : ∀ H2, Rel L X (u + 1) H2 → Wp mL (d + 71) kc ks 1129 [some (.ref 0), some (.ref 1), some (.ref 33), some (.int (nI i))] [] H2 Q) : Wp mL (d + 71) (kc + 4) (ks + 623) 769 [some (.ref 0), some (.ref 1), some (.ref 33), some (.int (nI i))] [] H Q := by
  have hF := hRl.1
  have hk0 := hRl.2.1
  have hi0 := hRl.2.2.1
  refine wp_aload_n dL_law_769 rfl ?_
  refine wp_aload_n dL_law_770 rfl ?_
  refine wp_iload_n dL_law_771 rfl ?_
  refine wp_iconst (v := 1) dL_law_772 (by decide) ?_
  refine wp_iadd dL_law_773 ?_
  refine wp_scr (j := i + 1) dL_law_774 hk0 hi0 (nI_add i 1) (by omega) (by omega) ?_
  refine wp_aload_n dL_law_775 rfl ?_
  refine wp_iload_n dL_law_776 rfl ?_
  refine wp_iconst (v := 2) dL_law_777 (by decide) ?_
  refine wp_iadd dL_law_778 ?_
  refine wp_scr (j := i + 2) dL_law_779 hk0 hi0 (nI_add i 2) (by omega) (by omega) ?_
  refine wp_aload_n dL_law_780 rfl ?_
  refine wp_iload_n dL_law_781 rfl ?_
  refine wp_iconst (v := 3) dL_law_782 (by decide) ?_
  refine wp_iadd dL_law_783 ?_
  refine wp_scr (j := i + 3) dL_law_784 hk0 hi0 (nI_add i 3) (by omega) (by omega) ?_
  refine wp_aload_n dL_law_785 rfl ?_
  refine wp_iload_n dL_law_786 rfl ?_
  refine wp_iconst (v := 4) dL_law_787 (by decide) ?_
  refine wp_iadd dL_law_788 ?_
  refine wp_scr (j := i + 4) dL_law_789 hk0 hi0 (nI_add i 4) (by omega) (by omega) ?_
  refine wp_aload_n dL_law_790 rfl ?_
  refine wp_iload_n dL_law_791 rfl ?_
  refine wp_iconst (v := 5) dL_law_792 (by decide) ?_
  refine wp_iadd dL_law_793 ?_
  refine wp_scr (j := i + 5) dL_law_794 hk0 hi0 (nI_add i 5) (by omega) (by omega) ?_
  refine wp_callv5n (kc := kc) (ks := ks) (mc := 4) (ms := 623) (ci := 11) dL_law_795 lk_RL_98 ok_X11_feed im_X11_feed se_X11_feed rfl rfl (fk_1 hF) (Nat.le_of_ble_eq_true rfl) (Nat.le_of_ble_eq_true rfl) ?_
  refine s_feed hRl (fun x H1 m1 k1 => ?_)
  refine wp_aload_n dL_law_798 rfl ?_
  refine wp_aload_n dL_law_799 rfl ?_
  refine wp_iload_n dL_law_800 rfl ?_
  refine wp_iconst (v := 1) dL_law_801 (by decide) ?_
  refine wp_iadd dL_law_802 ?_
  refine wp_scr (j := i + 1) dL_law_803 m1.2.1 m1.2.2 (nI_add i 1) (by omega) (by omega) ?_
  refine wp_aload_n dL_law_804 rfl ?_
  refine wp_iload_n dL_law_805 rfl ?_
  refine wp_iconst (v := 2) dL_law_806 (by decide) ?_
  refine wp_iadd dL_law_807 ?_
  refine wp_scr (j := i + 2) dL_law_808 m1.2.1 m1.2.2 (nI_add i 2) (by omega) (by omega) ?_
  refine wp_aload_n dL_law_809 rfl ?_
  refine wp_iload_n dL_law_810 rfl ?_
  refine wp_iconst (v := 3) dL_law_811 (by decide) ?_
  refine wp_iadd dL_law_812 ?_
  refine wp_scr (j := i + 3) dL_law_813 m1.2.1 m1.2.2 (nI_add i 3) (by omega) (by omega) ?_
  refine wp_aload_n dL_law_814 rfl ?_
  refine wp_iload_n dL_law_815 rfl ?_
  refine wp_iconst (v := 4) dL_law_816 (by decide) ?_
  refine wp_iadd dL_law_817 ?_
  refine wp_scr (j := i + 4) dL_law_818 m1.2.1 m1.2.2 (nI_add i 4) (by omega) (by omega) ?_
  refine wp_aload_n dL_law_819 rfl ?_
  refine wp_iload_n dL_law_820 rfl ?_
  refine wp_iconst (v := 5) dL_law_821 (by decide) ?_
  refine wp_iadd dL_law_822 ?_
  refine wp_scr (j := i + 5) dL_law_823 m1.2.1 m1.2.2 (nI_add i 5) (by omega) (by omega) ?_
  refine wp_callv5 (ci := 12) dL_law_824 lk_RL_102 ok_X12_feed im_X12_feed se_X12_feed rfl rfl (fk_33 m1.1) (Nat.le_of_ble_eq_true rfl) (Nat.le_of_ble_eq_true rfl) ?_
  refine k1 _ _ (fun H2 r2 => ?_)
  refine wp_icmp_eq (tgt := 1129) dL_law_827 (by decide) (fun _ => ?_) (fun h => absurd rfl h)
  exact k H2 r2
theorem lw_20 (hL : L ≤ 3584) (hi : i + 7 ≤ L) (hu : u < 1000000) (hRl : Rel L X u H) (k : ∀ H2, Rel L X (u + 1) H2 → Wp mL (d + 71) kc ks 1129 [some (.ref 0), some (.ref 1), some (.ref 33), some (.int (nI i))] [] H2 Q) : Wp mL (d + 71) (kc + 4) (ks + 623) 832 [some (.ref 0), some (.ref 1), some (.ref 33), some (.int (nI i))] [] H Q := by
  have hF := hRl.1
  have hk0 := hRl.2.1
  have hi0 := hRl.2.2.1
  refine wp_aload_n dL_law_832 rfl ?_
  refine wp_aload_n dL_law_833 rfl ?_
  refine wp_iload_n dL_law_834 rfl ?_
  refine wp_iconst (v := 1) dL_law_835 (by decide) ?_
  refine wp_iadd dL_law_836 ?_
  refine wp_scr (j := i + 1) dL_law_837 hk0 hi0 (nI_add i 1) (by omega) (by omega) ?_
  refine wp_callv1n (kc := kc) (ks := ks) (mc := 4) (ms := 623) (ci := 11) dL_law_838 lk_RL_103 ok_X11_end im_X11_end se_X11_end rfl rfl (fk_1 hF) (Nat.le_of_ble_eq_true rfl) (Nat.le_of_ble_eq_true rfl) ?_
  refine s_end hRl (fun x H1 m1 k1 => ?_)
  refine wp_aload_n dL_law_841 rfl ?_
  refine wp_aload_n dL_law_842 rfl ?_
  refine wp_iload_n dL_law_843 rfl ?_
  refine wp_iconst (v := 1) dL_law_844 (by decide) ?_
  refine wp_iadd dL_law_845 ?_
  refine wp_scr (j := i + 1) dL_law_846 m1.2.1 m1.2.2 (nI_add i 1) (by omega) (by omega) ?_
  refine wp_callv1 (ci := 12) dL_law_847 lk_RL_106 ok_X12_end im_X12_end se_X12_end rfl rfl (fk_33 m1.1) (Nat.le_of_ble_eq_true rfl) (Nat.le_of_ble_eq_true rfl) ?_
  refine k1 _ _ (fun H2 r2 => ?_)
  refine wp_icmp_eq (tgt := 1129) dL_law_850 (by decide) (fun _ => ?_) (fun h => absurd rfl h)
  exact k H2 r2
theorem lw_21 (hL : L ≤ 3584) (hi : i + 7 ≤ L) (hu : u < 1000000) (hRl : Rel L X u H) (k : ∀ H2, Rel L X (u + 1) H2 → Wp mL (d + 71) kc ks 1129 [some (.ref 0), some (.ref 1), some (.ref 33), some (.int (nI i))] [] H2 Q) : Wp mL (d + 71) (kc + 4) (ks + 623) 855 [some (.ref 0), some (.ref 1), some (.ref 33), some (.int (nI i))] [] H Q := by
  have hF := hRl.1
  have hk0 := hRl.2.1
  have hi0 := hRl.2.2.1
  refine wp_aload_n dL_law_855 rfl ?_
  refine wp_callv0n (kc := kc) (ks := ks) (mc := 4) (ms := 623) (ci := 11) dL_law_856 lk_RL_107 ok_X11_prices im_X11_prices se_X11_prices rfl rfl (fk_1 hF) (Nat.le_of_ble_eq_true rfl) (Nat.le_of_ble_eq_true rfl) ?_
  refine s_prices hRl (fun x H1 m1 k1 => ?_)
  refine wp_aload_n dL_law_859 rfl ?_
  refine wp_callv0 (ci := 12) dL_law_860 lk_RL_110 ok_X12_prices im_X12_prices se_X12_prices rfl rfl (fk_33 m1.1) (Nat.le_of_ble_eq_true rfl) (Nat.le_of_ble_eq_true rfl) ?_
  refine k1 _ _ (fun H2 r2 => ?_)
  refine wp_icmp_eq (tgt := 1129) dL_law_863 (by decide) (fun _ => ?_) (fun h => absurd rfl h)
  exact k H2 r2
theorem lw_22 (hL : L ≤ 3584) (hi : i + 7 ≤ L) (hu : u < 1000000) (hRl : Rel L X u H) (k : ∀ H2, Rel L X (u + 1) H2 → Wp mL (d + 71) kc ks 1129 [some (.ref 0), some (.ref 1), some (.ref 33), some (.int (nI i))] [] H2 Q) : Wp mL (d + 71) (kc + 4) (ks + 623) 868 [some (.ref 0), some (.ref 1), some (.ref 33), some (.int (nI i))] [] H Q := by
  have hF := hRl.1
  have hk0 := hRl.2.1
  have hi0 := hRl.2.2.1
  refine wp_aload_n dL_law_868 rfl ?_
  refine wp_aload_n dL_law_869 rfl ?_
  refine wp_iload_n dL_law_870 rfl ?_
  refine wp_iconst (v := 1) dL_law_871 (by decide) ?_
  refine wp_iadd dL_law_872 ?_
  refine wp_scr (j := i + 1) dL_law_873 hk0 hi0 (nI_add i 1) (by omega) (by omega) ?_
  refine wp_callv1n (kc := kc) (ks := ks) (mc := 4) (ms := 623) (ci := 11) dL_law_874 lk_RL_111 ok_X11_fault im_X11_fault se_X11_fault rfl rfl (fk_1 hF) (Nat.le_of_ble_eq_true rfl) (Nat.le_of_ble_eq_true rfl) ?_
  refine s_fault hRl (fun x H1 m1 k1 => ?_)
  refine wp_aload_n dL_law_877 rfl ?_
  refine wp_aload_n dL_law_878 rfl ?_
  refine wp_iload_n dL_law_879 rfl ?_
  refine wp_iconst (v := 1) dL_law_880 (by decide) ?_
  refine wp_iadd dL_law_881 ?_
  refine wp_scr (j := i + 1) dL_law_882 m1.2.1 m1.2.2 (nI_add i 1) (by omega) (by omega) ?_
  refine wp_callv1 (ci := 12) dL_law_883 lk_RL_114 ok_X12_fault im_X12_fault se_X12_fault rfl rfl (fk_33 m1.1) (Nat.le_of_ble_eq_true rfl) (Nat.le_of_ble_eq_true rfl) ?_
  refine k1 _ _ (fun H2 r2 => ?_)
  refine wp_icmp_eq (tgt := 1129) dL_law_886 (by decide) (fun _ => ?_) (fun h => absurd rfl h)
  exact k H2 r2
theorem lw_23 (hL : L ≤ 3584) (hi : i + 7 ≤ L) (hu : u < 1000000) (hRl : Rel L X u H) (k : ∀ H2, Rel L X (u + 1) H2 → Wp mL (d + 71) kc ks 1129 [some (.ref 0), some (.ref 1), some (.ref 33), some (.int (nI i))] [] H2 Q) : Wp mL (d + 71) (kc + 4) (ks + 623) 891 [some (.ref 0), some (.ref 1), some (.ref 33), some (.int (nI i))] [] H Q := by
  have hF := hRl.1
  have hk0 := hRl.2.1
  have hi0 := hRl.2.2.1
  refine wp_aload_n dL_law_891 rfl ?_
  refine wp_aload_n dL_law_892 rfl ?_
  refine wp_iload_n dL_law_893 rfl ?_
  refine wp_iconst (v := 1) dL_law_894 (by decide) ?_
  refine wp_iadd dL_law_895 ?_
  refine wp_scr (j := i + 1) dL_law_896 hk0 hi0 (nI_add i 1) (by omega) (by omega) ?_
  refine wp_aload_n dL_law_897 rfl ?_
  refine wp_iload_n dL_law_898 rfl ?_
  refine wp_iconst (v := 2) dL_law_899 (by decide) ?_
  refine wp_iadd dL_law_900 ?_
  refine wp_scr (j := i + 2) dL_law_901 hk0 hi0 (nI_add i 2) (by omega) (by omega) ?_
  refine wp_callv2n (kc := kc) (ks := ks) (mc := 4) (ms := 623) (ci := 11) dL_law_902 lk_RL_115 ok_X11_price im_X11_price se_X11_price rfl rfl (fk_1 hF) (Nat.le_of_ble_eq_true rfl) (Nat.le_of_ble_eq_true rfl) ?_
  refine s_price hRl (fun x H1 m1 k1 => ?_)
  refine wp_aload_n dL_law_905 rfl ?_
  refine wp_aload_n dL_law_906 rfl ?_
  refine wp_iload_n dL_law_907 rfl ?_
  refine wp_iconst (v := 1) dL_law_908 (by decide) ?_
  refine wp_iadd dL_law_909 ?_
  refine wp_scr (j := i + 1) dL_law_910 m1.2.1 m1.2.2 (nI_add i 1) (by omega) (by omega) ?_
  refine wp_aload_n dL_law_911 rfl ?_
  refine wp_iload_n dL_law_912 rfl ?_
  refine wp_iconst (v := 2) dL_law_913 (by decide) ?_
  refine wp_iadd dL_law_914 ?_
  refine wp_scr (j := i + 2) dL_law_915 m1.2.1 m1.2.2 (nI_add i 2) (by omega) (by omega) ?_
  refine wp_callv2 (ci := 12) dL_law_916 lk_RL_118 ok_X12_price im_X12_price se_X12_price rfl rfl (fk_33 m1.1) (Nat.le_of_ble_eq_true rfl) (Nat.le_of_ble_eq_true rfl) ?_
  refine k1 _ _ (fun H2 r2 => ?_)
  refine wp_icmp_eq (tgt := 1129) dL_law_919 (by decide) (fun _ => ?_) (fun h => absurd rfl h)
  exact k H2 r2
theorem lw_24 (hL : L ≤ 3584) (hi : i + 7 ≤ L) (hu : u < 1000000) (hRl : Rel L X u H) (k : ∀ H2, Rel L X (u + 1) H2 → Wp mL (d + 71) kc ks 1129 [some (.ref 0), some (.ref 1), some (.ref 33), some (.int (nI i))] [] H2 Q) : Wp mL (d + 71) (kc + 4) (ks + 623) 924 [some (.ref 0), some (.ref 1), some (.ref 33), some (.int (nI i))] [] H Q := by
  have hF := hRl.1
  have hk0 := hRl.2.1
  have hi0 := hRl.2.2.1
  refine wp_aload_n dL_law_924 rfl ?_
  refine wp_aload_n dL_law_925 rfl ?_
  refine wp_iload_n dL_law_926 rfl ?_
  refine wp_iconst (v := 1) dL_law_927 (by decide) ?_
  refine wp_iadd dL_law_928 ?_
  refine wp_scr (j := i + 1) dL_law_929 hk0 hi0 (nI_add i 1) (by omega) (by omega) ?_
  refine wp_aload_n dL_law_930 rfl ?_
  refine wp_iload_n dL_law_931 rfl ?_
  refine wp_iconst (v := 2) dL_law_932 (by decide) ?_
  refine wp_iadd dL_law_933 ?_
  refine wp_scr (j := i + 2) dL_law_934 hk0 hi0 (nI_add i 2) (by omega) (by omega) ?_
  refine wp_aload_n dL_law_935 rfl ?_
  refine wp_iload_n dL_law_936 rfl ?_
  refine wp_iconst (v := 3) dL_law_937 (by decide) ?_
  refine wp_iadd dL_law_938 ?_
  refine wp_scr (j := i + 3) dL_law_939 hk0 hi0 (nI_add i 3) (by omega) (by omega) ?_
  refine wp_aload_n dL_law_940 rfl ?_
  refine wp_iload_n dL_law_941 rfl ?_
  refine wp_iconst (v := 4) dL_law_942 (by decide) ?_
  refine wp_iadd dL_law_943 ?_
  refine wp_scr (j := i + 4) dL_law_944 hk0 hi0 (nI_add i 4) (by omega) (by omega) ?_
  refine wp_callv4n (kc := kc) (ks := ks) (mc := 4) (ms := 623) (ci := 11) dL_law_945 lk_RL_119 ok_X11_broken im_X11_broken se_X11_broken rfl rfl (fk_1 hF) (Nat.le_of_ble_eq_true rfl) (Nat.le_of_ble_eq_true rfl) ?_
  refine s_broken hRl (fun x H1 m1 k1 => ?_)
  refine wp_aload_n dL_law_948 rfl ?_
  refine wp_aload_n dL_law_949 rfl ?_
  refine wp_iload_n dL_law_950 rfl ?_
  refine wp_iconst (v := 1) dL_law_951 (by decide) ?_
  refine wp_iadd dL_law_952 ?_
  refine wp_scr (j := i + 1) dL_law_953 m1.2.1 m1.2.2 (nI_add i 1) (by omega) (by omega) ?_
  refine wp_aload_n dL_law_954 rfl ?_
  refine wp_iload_n dL_law_955 rfl ?_
  refine wp_iconst (v := 2) dL_law_956 (by decide) ?_
  refine wp_iadd dL_law_957 ?_
  refine wp_scr (j := i + 2) dL_law_958 m1.2.1 m1.2.2 (nI_add i 2) (by omega) (by omega) ?_
  refine wp_aload_n dL_law_959 rfl ?_
  refine wp_iload_n dL_law_960 rfl ?_
  refine wp_iconst (v := 3) dL_law_961 (by decide) ?_
  refine wp_iadd dL_law_962 ?_
  refine wp_scr (j := i + 3) dL_law_963 m1.2.1 m1.2.2 (nI_add i 3) (by omega) (by omega) ?_
  refine wp_aload_n dL_law_964 rfl ?_
  refine wp_iload_n dL_law_965 rfl ?_
  refine wp_iconst (v := 4) dL_law_966 (by decide) ?_
  refine wp_iadd dL_law_967 ?_
  refine wp_scr (j := i + 4) dL_law_968 m1.2.1 m1.2.2 (nI_add i 4) (by omega) (by omega) ?_
  refine wp_callv4 (ci := 12) dL_law_969 lk_RL_122 ok_X12_broken im_X12_broken se_X12_broken rfl rfl (fk_33 m1.1) (Nat.le_of_ble_eq_true rfl) (Nat.le_of_ble_eq_true rfl) ?_
  refine k1 _ _ (fun H2 r2 => ?_)
  refine wp_icmp_eq (tgt := 1129) dL_law_972 (by decide) (fun _ => ?_) (fun h => absurd rfl h)
  exact k H2 r2
theorem lw_25 (hL : L ≤ 3584) (hi : i + 7 ≤ L) (hu : u < 1000000) (hRl : Rel L X u H) (k : ∀ H2, Rel L X (u + 1) H2 → Wp mL (d + 71) kc ks 1129 [some (.ref 0), some (.ref 1), some (.ref 33), some (.int (nI i))] [] H2 Q) : Wp mL (d + 71) (kc + 4) (ks + 623) 977 [some (.ref 0), some (.ref 1), some (.ref 33), some (.int (nI i))] [] H Q := by
  have hF := hRl.1
  have hk0 := hRl.2.1
  have hi0 := hRl.2.2.1
  refine wp_aload_n dL_law_977 rfl ?_
  refine wp_aload_n dL_law_978 rfl ?_
  refine wp_iload_n dL_law_979 rfl ?_
  refine wp_iconst (v := 1) dL_law_980 (by decide) ?_
  refine wp_iadd dL_law_981 ?_
  refine wp_scr (j := i + 1) dL_law_982 hk0 hi0 (nI_add i 1) (by omega) (by omega) ?_
  refine wp_aload_n dL_law_983 rfl ?_
  refine wp_iload_n dL_law_984 rfl ?_
  refine wp_iconst (v := 2) dL_law_985 (by decide) ?_
  refine wp_iadd dL_law_986 ?_
  refine wp_scr (j := i + 2) dL_law_987 hk0 hi0 (nI_add i 2) (by omega) (by omega) ?_
  refine wp_callv2n (kc := kc) (ks := ks) (mc := 4) (ms := 623) (ci := 11) dL_law_988 lk_RL_123 ok_X11_untell im_X11_untell se_X11_untell rfl rfl (fk_1 hF) (Nat.le_of_ble_eq_true rfl) (Nat.le_of_ble_eq_true rfl) ?_
  refine s_untell hRl (fun x H1 m1 k1 => ?_)
  refine wp_aload_n dL_law_991 rfl ?_
  refine wp_aload_n dL_law_992 rfl ?_
  refine wp_iload_n dL_law_993 rfl ?_
  refine wp_iconst (v := 1) dL_law_994 (by decide) ?_
  refine wp_iadd dL_law_995 ?_
  refine wp_scr (j := i + 1) dL_law_996 m1.2.1 m1.2.2 (nI_add i 1) (by omega) (by omega) ?_
  refine wp_aload_n dL_law_997 rfl ?_
  refine wp_iload_n dL_law_998 rfl ?_
  refine wp_iconst (v := 2) dL_law_999 (by decide) ?_
  refine wp_iadd dL_law_1000 ?_
  refine wp_scr (j := i + 2) dL_law_1001 m1.2.1 m1.2.2 (nI_add i 2) (by omega) (by omega) ?_
  refine wp_callv2 (ci := 12) dL_law_1002 lk_RL_126 ok_X12_untell im_X12_untell se_X12_untell rfl rfl (fk_33 m1.1) (Nat.le_of_ble_eq_true rfl) (Nat.le_of_ble_eq_true rfl) ?_
  refine k1 _ _ (fun H2 r2 => ?_)
  refine wp_icmp_eq (tgt := 1129) dL_law_1005 (by decide) (fun _ => ?_) (fun h => absurd rfl h)
  exact k H2 r2
theorem lw_26 (hL : L ≤ 3584) (hi : i + 7 ≤ L) (hu : u < 1000000) (hRl : Rel L X u H) (k : ∀ H2, Rel L X (u + 1) H2 → Wp mL (d + 71) kc ks 1129 [some (.ref 0), some (.ref 1), some (.ref 33), some (.int (nI i))] [] H2 Q) : Wp mL (d + 71) (kc + 4) (ks + 623) 1010 [some (.ref 0), some (.ref 1), some (.ref 33), some (.int (nI i))] [] H Q := by
  have hF := hRl.1
  have hk0 := hRl.2.1
  have hi0 := hRl.2.2.1
  refine wp_aload_n dL_law_1010 rfl ?_
  refine wp_aload_n dL_law_1011 rfl ?_
  refine wp_iload_n dL_law_1012 rfl ?_
  refine wp_iconst (v := 1) dL_law_1013 (by decide) ?_
  refine wp_iadd dL_law_1014 ?_
  refine wp_scr (j := i + 1) dL_law_1015 hk0 hi0 (nI_add i 1) (by omega) (by omega) ?_
  refine wp_aload_n dL_law_1016 rfl ?_
  refine wp_iload_n dL_law_1017 rfl ?_
  refine wp_iconst (v := 2) dL_law_1018 (by decide) ?_
  refine wp_iadd dL_law_1019 ?_
  refine wp_scr (j := i + 2) dL_law_1020 hk0 hi0 (nI_add i 2) (by omega) (by omega) ?_
  refine wp_aload_n dL_law_1021 rfl ?_
  refine wp_iload_n dL_law_1022 rfl ?_
  refine wp_iconst (v := 3) dL_law_1023 (by decide) ?_
  refine wp_iadd dL_law_1024 ?_
  refine wp_scr (j := i + 3) dL_law_1025 hk0 hi0 (nI_add i 3) (by omega) (by omega) ?_
  refine wp_callv3n (kc := kc) (ks := ks) (mc := 4) (ms := 623) (ci := 11) dL_law_1026 lk_RL_127 ok_X11_whole im_X11_whole se_X11_whole rfl rfl (fk_1 hF) (Nat.le_of_ble_eq_true rfl) (Nat.le_of_ble_eq_true rfl) ?_
  refine s_whole hRl (fun x H1 m1 k1 => ?_)
  refine wp_aload_n dL_law_1029 rfl ?_
  refine wp_aload_n dL_law_1030 rfl ?_
  refine wp_iload_n dL_law_1031 rfl ?_
  refine wp_iconst (v := 1) dL_law_1032 (by decide) ?_
  refine wp_iadd dL_law_1033 ?_
  refine wp_scr (j := i + 1) dL_law_1034 m1.2.1 m1.2.2 (nI_add i 1) (by omega) (by omega) ?_
  refine wp_aload_n dL_law_1035 rfl ?_
  refine wp_iload_n dL_law_1036 rfl ?_
  refine wp_iconst (v := 2) dL_law_1037 (by decide) ?_
  refine wp_iadd dL_law_1038 ?_
  refine wp_scr (j := i + 2) dL_law_1039 m1.2.1 m1.2.2 (nI_add i 2) (by omega) (by omega) ?_
  refine wp_aload_n dL_law_1040 rfl ?_
  refine wp_iload_n dL_law_1041 rfl ?_
  refine wp_iconst (v := 3) dL_law_1042 (by decide) ?_
  refine wp_iadd dL_law_1043 ?_
  refine wp_scr (j := i + 3) dL_law_1044 m1.2.1 m1.2.2 (nI_add i 3) (by omega) (by omega) ?_
  refine wp_callv3 (ci := 12) dL_law_1045 lk_RL_131 ok_X12_whole im_X12_whole se_X12_whole rfl rfl (fk_33 m1.1) (Nat.le_of_ble_eq_true rfl) (Nat.le_of_ble_eq_true rfl) ?_
  refine k1 _ _ (fun H2 r2 => ?_)
  refine wp_icmp_eq (tgt := 1129) dL_law_1048 (by decide) (fun _ => ?_) (fun h => absurd rfl h)
  exact k H2 r2
theorem lw_27 (hL : L ≤ 3584) (hi : i + 7 ≤ L) (hu : u < 1000000) (hRl : Rel L X u H) (k : ∀ H2, Rel L X (u + 1) H2 → Wp mL (d + 71) kc ks 1129 [some (.ref 0), some (.ref 1), some (.ref 33), some (.int (nI i))] [] H2 Q) : Wp mL (d + 71) (kc + 4) (ks + 623) 1053 [some (.ref 0), some (.ref 1), some (.ref 33), some (.int (nI i))] [] H Q := by
  have hF := hRl.1
  have hk0 := hRl.2.1
  have hi0 := hRl.2.2.1
  refine wp_aload_n dL_law_1053 rfl ?_
  refine wp_aload_n dL_law_1054 rfl ?_
  refine wp_iload_n dL_law_1055 rfl ?_
  refine wp_iconst (v := 1) dL_law_1056 (by decide) ?_
  refine wp_iadd dL_law_1057 ?_
  refine wp_scr (j := i + 1) dL_law_1058 hk0 hi0 (nI_add i 1) (by omega) (by omega) ?_
  refine wp_aload_n dL_law_1059 rfl ?_
  refine wp_iload_n dL_law_1060 rfl ?_
  refine wp_iconst (v := 2) dL_law_1061 (by decide) ?_
  refine wp_iadd dL_law_1062 ?_
  refine wp_scr (j := i + 2) dL_law_1063 hk0 hi0 (nI_add i 2) (by omega) (by omega) ?_
  refine wp_aload_n dL_law_1064 rfl ?_
  refine wp_iload_n dL_law_1065 rfl ?_
  refine wp_iconst (v := 3) dL_law_1066 (by decide) ?_
  refine wp_iadd dL_law_1067 ?_
  refine wp_scr (j := i + 3) dL_law_1068 hk0 hi0 (nI_add i 3) (by omega) (by omega) ?_
  refine wp_aload_n dL_law_1069 rfl ?_
  refine wp_iload_n dL_law_1070 rfl ?_
  refine wp_iconst (v := 4) dL_law_1071 (by decide) ?_
  refine wp_iadd dL_law_1072 ?_
  refine wp_scr (j := i + 4) dL_law_1073 hk0 hi0 (nI_add i 4) (by omega) (by omega) ?_
  refine wp_callv4n (kc := kc) (ks := ks) (mc := 4) (ms := 623) (ci := 11) dL_law_1074 lk_RL_132 ok_X11_free im_X11_free se_X11_free rfl rfl (fk_1 hF) (Nat.le_of_ble_eq_true rfl) (Nat.le_of_ble_eq_true rfl) ?_
  refine s_free hRl (fun x H1 m1 k1 => ?_)
  refine wp_aload_n dL_law_1077 rfl ?_
  refine wp_aload_n dL_law_1078 rfl ?_
  refine wp_iload_n dL_law_1079 rfl ?_
  refine wp_iconst (v := 1) dL_law_1080 (by decide) ?_
  refine wp_iadd dL_law_1081 ?_
  refine wp_scr (j := i + 1) dL_law_1082 m1.2.1 m1.2.2 (nI_add i 1) (by omega) (by omega) ?_
  refine wp_aload_n dL_law_1083 rfl ?_
  refine wp_iload_n dL_law_1084 rfl ?_
  refine wp_iconst (v := 2) dL_law_1085 (by decide) ?_
  refine wp_iadd dL_law_1086 ?_
  refine wp_scr (j := i + 2) dL_law_1087 m1.2.1 m1.2.2 (nI_add i 2) (by omega) (by omega) ?_
  refine wp_aload_n dL_law_1088 rfl ?_
  refine wp_iload_n dL_law_1089 rfl ?_
  refine wp_iconst (v := 3) dL_law_1090 (by decide) ?_
  refine wp_iadd dL_law_1091 ?_
  refine wp_scr (j := i + 3) dL_law_1092 m1.2.1 m1.2.2 (nI_add i 3) (by omega) (by omega) ?_
  refine wp_aload_n dL_law_1093 rfl ?_
  refine wp_iload_n dL_law_1094 rfl ?_
  refine wp_iconst (v := 4) dL_law_1095 (by decide) ?_
  refine wp_iadd dL_law_1096 ?_
  refine wp_scr (j := i + 4) dL_law_1097 m1.2.1 m1.2.2 (nI_add i 4) (by omega) (by omega) ?_
  refine wp_callv4 (ci := 12) dL_law_1098 lk_RL_135 ok_X12_free im_X12_free se_X12_free rfl rfl (fk_33 m1.1) (Nat.le_of_ble_eq_true rfl) (Nat.le_of_ble_eq_true rfl) ?_
  refine k1 _ _ (fun H2 r2 => ?_)
  refine wp_icmp_eq (tgt := 1129) dL_law_1101 (by decide) (fun _ => ?_) (fun h => absurd rfl h)
  exact k H2 r2
theorem lw_28 (hL : L ≤ 3584) (hi : i + 7 ≤ L) (hu : u < 1000000) (hRl : Rel L X u H) (k : ∀ H2, Rel L X (u + 1) H2 → Wp mL (d + 71) kc ks 1129 [some (.ref 0), some (.ref 1), some (.ref 33), some (.int (nI i))] [] H2 Q) : Wp mL (d + 71) (kc + 4) (ks + 623) 1106 [some (.ref 0), some (.ref 1), some (.ref 33), some (.int (nI i))] [] H Q := by
  have hF := hRl.1
  have hk0 := hRl.2.1
  have hi0 := hRl.2.2.1
  refine wp_aload_n dL_law_1106 rfl ?_
  refine wp_aload_n dL_law_1107 rfl ?_
  refine wp_iload_n dL_law_1108 rfl ?_
  refine wp_iconst (v := 1) dL_law_1109 (by decide) ?_
  refine wp_iadd dL_law_1110 ?_
  refine wp_scr (j := i + 1) dL_law_1111 hk0 hi0 (nI_add i 1) (by omega) (by omega) ?_
  refine wp_callv1n (kc := kc) (ks := ks) (mc := 4) (ms := 623) (ci := 11) dL_law_1112 lk_RL_136 ok_X11_about im_X11_about se_X11_about rfl rfl (fk_1 hF) (Nat.le_of_ble_eq_true rfl) (Nat.le_of_ble_eq_true rfl) ?_
  refine s_about hRl (fun x H1 m1 k1 => ?_)
  refine wp_aload_n dL_law_1115 rfl ?_
  refine wp_aload_n dL_law_1116 rfl ?_
  refine wp_iload_n dL_law_1117 rfl ?_
  refine wp_iconst (v := 1) dL_law_1118 (by decide) ?_
  refine wp_iadd dL_law_1119 ?_
  refine wp_scr (j := i + 1) dL_law_1120 m1.2.1 m1.2.2 (nI_add i 1) (by omega) (by omega) ?_
  refine wp_callv1 (ci := 12) dL_law_1121 lk_RL_139 ok_X12_about im_X12_about se_X12_about rfl rfl (fk_33 m1.1) (Nat.le_of_ble_eq_true rfl) (Nat.le_of_ble_eq_true rfl) ?_
  refine k1 _ _ (fun H2 r2 => ?_)
  refine wp_icmp_eq (tgt := 1129) dL_law_1124 (by decide) (fun _ => ?_) (fun h => absurd rfl h)
  exact k H2 r2
theorem sw_28 (x : Int32) : x = 0 ∨ x = 1 ∨ x = 2 ∨ x = 3 ∨ x = 4 ∨ x = 5 ∨ x = 6 ∨ x = 7 ∨ x = 8 ∨ x = 9 ∨ x = 10 ∨ x = 11 ∨ x = 12 ∨ x = 13 ∨ x = 14 ∨ x = 15 ∨ x = 16 ∨ x = 17 ∨ x = 18 ∨ x = 19 ∨ x = 20 ∨ x = 21 ∨ x = 22 ∨ x = 23 ∨ x = 24 ∨ x = 25 ∨ x = 26 ∨ x = 27 ∨ x = 28 ∨ (x.toInt < 0 ∨ 28 < x.toInt) := by
  by_cases h : x.toInt < 0 ∨ 28 < x.toInt
  · exact Or.inr (Or.inr (Or.inr (Or.inr (Or.inr (Or.inr (Or.inr (Or.inr (Or.inr (Or.inr (Or.inr (Or.inr (Or.inr (Or.inr (Or.inr (Or.inr (Or.inr (Or.inr (Or.inr (Or.inr (Or.inr (Or.inr (Or.inr (Or.inr (Or.inr (Or.inr (Or.inr (Or.inr (Or.inr (h)))))))))))))))))))))))))))))
  · have h0 : x.toInt = 0 ∨ x.toInt = 1 ∨ x.toInt = 2 ∨ x.toInt = 3 ∨ x.toInt = 4 ∨ x.toInt = 5 ∨ x.toInt = 6 ∨ x.toInt = 7 ∨ x.toInt = 8 ∨ x.toInt = 9 ∨ x.toInt = 10 ∨ x.toInt = 11 ∨ x.toInt = 12 ∨ x.toInt = 13 ∨ x.toInt = 14 ∨ x.toInt = 15 ∨ x.toInt = 16 ∨ x.toInt = 17 ∨ x.toInt = 18 ∨ x.toInt = 19 ∨ x.toInt = 20 ∨ x.toInt = 21 ∨ x.toInt = 22 ∨ x.toInt = 23 ∨ x.toInt = 24 ∨ x.toInt = 25 ∨ x.toInt = 26 ∨ x.toInt = 27 ∨ x.toInt = 28 := by omega
    rcases h0 with h | h | h | h | h | h | h | h | h | h | h | h | h | h | h | h | h | h | h | h | h | h | h | h | h | h | h | h | h
    · exact Or.inl (Int32.toInt_inj.mp h)
    · exact Or.inr (Or.inl (Int32.toInt_inj.mp h))
    · exact Or.inr (Or.inr (Or.inl (Int32.toInt_inj.mp h)))
    · exact Or.inr (Or.inr (Or.inr (Or.inl (Int32.toInt_inj.mp h))))
    · exact Or.inr (Or.inr (Or.inr (Or.inr (Or.inl (Int32.toInt_inj.mp h)))))
    · exact Or.inr (Or.inr (Or.inr (Or.inr (Or.inr (Or.inl (Int32.toInt_inj.mp h))))))
    · exact Or.inr (Or.inr (Or.inr (Or.inr (Or.inr (Or.inr (Or.inl (Int32.toInt_inj.mp h)))))))
    · exact Or.inr (Or.inr (Or.inr (Or.inr (Or.inr (Or.inr (Or.inr (Or.inl (Int32.toInt_inj.mp h))))))))
    · exact Or.inr (Or.inr (Or.inr (Or.inr (Or.inr (Or.inr (Or.inr (Or.inr (Or.inl (Int32.toInt_inj.mp h)))))))))
    · exact Or.inr (Or.inr (Or.inr (Or.inr (Or.inr (Or.inr (Or.inr (Or.inr (Or.inr (Or.inl (Int32.toInt_inj.mp h))))))))))
    · exact Or.inr (Or.inr (Or.inr (Or.inr (Or.inr (Or.inr (Or.inr (Or.inr (Or.inr (Or.inr (Or.inl (Int32.toInt_inj.mp h)))))))))))
    · exact Or.inr (Or.inr (Or.inr (Or.inr (Or.inr (Or.inr (Or.inr (Or.inr (Or.inr (Or.inr (Or.inr (Or.inl (Int32.toInt_inj.mp h))))))))))))
    · exact Or.inr (Or.inr (Or.inr (Or.inr (Or.inr (Or.inr (Or.inr (Or.inr (Or.inr (Or.inr (Or.inr (Or.inr (Or.inl (Int32.toInt_inj.mp h)))))))))))))
    · exact Or.inr (Or.inr (Or.inr (Or.inr (Or.inr (Or.inr (Or.inr (Or.inr (Or.inr (Or.inr (Or.inr (Or.inr (Or.inr (Or.inl (Int32.toInt_inj.mp h))))))))))))))
    · exact Or.inr (Or.inr (Or.inr (Or.inr (Or.inr (Or.inr (Or.inr (Or.inr (Or.inr (Or.inr (Or.inr (Or.inr (Or.inr (Or.inr (Or.inl (Int32.toInt_inj.mp h)))))))))))))))
    · exact Or.inr (Or.inr (Or.inr (Or.inr (Or.inr (Or.inr (Or.inr (Or.inr (Or.inr (Or.inr (Or.inr (Or.inr (Or.inr (Or.inr (Or.inr (Or.inl (Int32.toInt_inj.mp h))))))))))))))))
    · exact Or.inr (Or.inr (Or.inr (Or.inr (Or.inr (Or.inr (Or.inr (Or.inr (Or.inr (Or.inr (Or.inr (Or.inr (Or.inr (Or.inr (Or.inr (Or.inr (Or.inl (Int32.toInt_inj.mp h)))))))))))))))))
    · exact Or.inr (Or.inr (Or.inr (Or.inr (Or.inr (Or.inr (Or.inr (Or.inr (Or.inr (Or.inr (Or.inr (Or.inr (Or.inr (Or.inr (Or.inr (Or.inr (Or.inr (Or.inl (Int32.toInt_inj.mp h))))))))))))))))))
    · exact Or.inr (Or.inr (Or.inr (Or.inr (Or.inr (Or.inr (Or.inr (Or.inr (Or.inr (Or.inr (Or.inr (Or.inr (Or.inr (Or.inr (Or.inr (Or.inr (Or.inr (Or.inr (Or.inl (Int32.toInt_inj.mp h)))))))))))))))))))
    · exact Or.inr (Or.inr (Or.inr (Or.inr (Or.inr (Or.inr (Or.inr (Or.inr (Or.inr (Or.inr (Or.inr (Or.inr (Or.inr (Or.inr (Or.inr (Or.inr (Or.inr (Or.inr (Or.inr (Or.inl (Int32.toInt_inj.mp h))))))))))))))))))))
    · exact Or.inr (Or.inr (Or.inr (Or.inr (Or.inr (Or.inr (Or.inr (Or.inr (Or.inr (Or.inr (Or.inr (Or.inr (Or.inr (Or.inr (Or.inr (Or.inr (Or.inr (Or.inr (Or.inr (Or.inr (Or.inl (Int32.toInt_inj.mp h)))))))))))))))))))))
    · exact Or.inr (Or.inr (Or.inr (Or.inr (Or.inr (Or.inr (Or.inr (Or.inr (Or.inr (Or.inr (Or.inr (Or.inr (Or.inr (Or.inr (Or.inr (Or.inr (Or.inr (Or.inr (Or.inr (Or.inr (Or.inr (Or.inl (Int32.toInt_inj.mp h))))))))))))))))))))))
    · exact Or.inr (Or.inr (Or.inr (Or.inr (Or.inr (Or.inr (Or.inr (Or.inr (Or.inr (Or.inr (Or.inr (Or.inr (Or.inr (Or.inr (Or.inr (Or.inr (Or.inr (Or.inr (Or.inr (Or.inr (Or.inr (Or.inr (Or.inl (Int32.toInt_inj.mp h)))))))))))))))))))))))
    · exact Or.inr (Or.inr (Or.inr (Or.inr (Or.inr (Or.inr (Or.inr (Or.inr (Or.inr (Or.inr (Or.inr (Or.inr (Or.inr (Or.inr (Or.inr (Or.inr (Or.inr (Or.inr (Or.inr (Or.inr (Or.inr (Or.inr (Or.inr (Or.inl (Int32.toInt_inj.mp h))))))))))))))))))))))))
    · exact Or.inr (Or.inr (Or.inr (Or.inr (Or.inr (Or.inr (Or.inr (Or.inr (Or.inr (Or.inr (Or.inr (Or.inr (Or.inr (Or.inr (Or.inr (Or.inr (Or.inr (Or.inr (Or.inr (Or.inr (Or.inr (Or.inr (Or.inr (Or.inr (Or.inl (Int32.toInt_inj.mp h)))))))))))))))))))))))))
    · exact Or.inr (Or.inr (Or.inr (Or.inr (Or.inr (Or.inr (Or.inr (Or.inr (Or.inr (Or.inr (Or.inr (Or.inr (Or.inr (Or.inr (Or.inr (Or.inr (Or.inr (Or.inr (Or.inr (Or.inr (Or.inr (Or.inr (Or.inr (Or.inr (Or.inr (Or.inl (Int32.toInt_inj.mp h))))))))))))))))))))))))))
    · exact Or.inr (Or.inr (Or.inr (Or.inr (Or.inr (Or.inr (Or.inr (Or.inr (Or.inr (Or.inr (Or.inr (Or.inr (Or.inr (Or.inr (Or.inr (Or.inr (Or.inr (Or.inr (Or.inr (Or.inr (Or.inr (Or.inr (Or.inr (Or.inr (Or.inr (Or.inr (Or.inl (Int32.toInt_inj.mp h)))))))))))))))))))))))))))
    · exact Or.inr (Or.inr (Or.inr (Or.inr (Or.inr (Or.inr (Or.inr (Or.inr (Or.inr (Or.inr (Or.inr (Or.inr (Or.inr (Or.inr (Or.inr (Or.inr (Or.inr (Or.inr (Or.inr (Or.inr (Or.inr (Or.inr (Or.inr (Or.inr (Or.inr (Or.inr (Or.inr (Or.inl (Int32.toInt_inj.mp h))))))))))))))))))))))))))))
    · exact Or.inr (Or.inr (Or.inr (Or.inr (Or.inr (Or.inr (Or.inr (Or.inr (Or.inr (Or.inr (Or.inr (Or.inr (Or.inr (Or.inr (Or.inr (Or.inr (Or.inr (Or.inr (Or.inr (Or.inr (Or.inr (Or.inr (Or.inr (Or.inr (Or.inr (Or.inr (Or.inr (Or.inr (Or.inl (Int32.toInt_inj.mp h)))))))))))))))))))))))))))))
theorem lw_one (hL : L ≤ 3584) (hi : i + 7 ≤ L) (hu : u < 1000000) (hRl : Rel L X u H) (k : ∀ H2, Rel L X (u + 1) H2 → Wp mL (d + 71) kc ks 1129 [some (.ref 0), some (.ref 1), some (.ref 33), some (.int (nI i))] [] H2 Q) (c : Int32) : Wp mL (d + 71) (kc + 4) (ks + 623) 33 [some (.ref 0), some (.ref 1), some (.ref 33), some (.int (nI i))] [.int c] H Q := by
  rcases sw_28 c with rfl | rfl | rfl | rfl | rfl | rfl | rfl | rfl | rfl | rfl | rfl | rfl | rfl | rfl | rfl | rfl | rfl | rfl | rfl | rfl | rfl | rfl | rfl | rfl | rfl | rfl | rfl | rfl | rfl | h33
  · refine wp_tableIn (tgt := 164) dL_law_33 (by decide) (by decide) rfl (by decide) ?_
    exact lw_0 hL hi hu hRl k
  · refine wp_tableIn (tgt := 217) dL_law_33 (by decide) (by decide) rfl (by decide) ?_
    by_cases hz : X (i + 2) = 0
    · exact lw_1z hL hi hu hRl hz k
    · exact lw_1n hL hi hu hRl hz k
  · refine wp_tableIn (tgt := 266) dL_law_33 (by decide) (by decide) rfl (by decide) ?_
    exact lw_2 hL hi hu hRl k
  · refine wp_tableIn (tgt := 299) dL_law_33 (by decide) (by decide) rfl (by decide) ?_
    exact lw_3 hL hi hu hRl k
  · refine wp_tableIn (tgt := 342) dL_law_33 (by decide) (by decide) rfl (by decide) ?_
    exact lw_4 hL hi hu hRl k
  · refine wp_tableIn (tgt := 365) dL_law_33 (by decide) (by decide) rfl (by decide) ?_
    exact lw_5 hL hi hu hRl k
  · refine wp_tableIn (tgt := 388) dL_law_33 (by decide) (by decide) rfl (by decide) ?_
    exact lw_6 hL hi hu hRl k
  · refine wp_tableIn (tgt := 411) dL_law_33 (by decide) (by decide) rfl (by decide) ?_
    exact lw_7 hL hi hu hRl k
  · refine wp_tableIn (tgt := 434) dL_law_33 (by decide) (by decide) rfl (by decide) ?_
    exact lw_8 hL hi hu hRl k
  · refine wp_tableIn (tgt := 509) dL_law_33 (by decide) (by decide) rfl (by decide) ?_
    exact lw_9 hL hi hu hRl k
  · refine wp_tableIn (tgt := 532) dL_law_33 (by decide) (by decide) rfl (by decide) ?_
    exact lw_10 hL hi hu hRl k
  · refine wp_tableIn (tgt := 565) dL_law_33 (by decide) (by decide) rfl (by decide) ?_
    exact lw_11 hL hi hu hRl k
  · refine wp_tableIn (tgt := 598) dL_law_33 (by decide) (by decide) rfl (by decide) ?_
    exact lw_12 hL hi hu hRl k
  · refine wp_tableIn (tgt := 611) dL_law_33 (by decide) (by decide) rfl (by decide) ?_
    exact lw_13 hL hi hu hRl k
  · refine wp_tableIn (tgt := 624) dL_law_33 (by decide) (by decide) rfl (by decide) ?_
    exact lw_14 hL hi hu hRl k
  · refine wp_tableIn (tgt := 647) dL_law_33 (by decide) (by decide) rfl (by decide) ?_
    exact lw_15 hL hi hu hRl k
  · refine wp_tableIn (tgt := 680) dL_law_33 (by decide) (by decide) rfl (by decide) ?_
    exact lw_16 hL hi hu hRl k
  · refine wp_tableIn (tgt := 703) dL_law_33 (by decide) (by decide) rfl (by decide) ?_
    exact lw_17 hL hi hu hRl k
  · refine wp_tableIn (tgt := 736) dL_law_33 (by decide) (by decide) rfl (by decide) ?_
    exact lw_18 hL hi hu hRl k
  · refine wp_tableIn (tgt := 769) dL_law_33 (by decide) (by decide) rfl (by decide) ?_
    exact lw_19 hL hi hu hRl k
  · refine wp_tableIn (tgt := 832) dL_law_33 (by decide) (by decide) rfl (by decide) ?_
    exact lw_20 hL hi hu hRl k
  · refine wp_tableIn (tgt := 855) dL_law_33 (by decide) (by decide) rfl (by decide) ?_
    exact lw_21 hL hi hu hRl k
  · refine wp_tableIn (tgt := 868) dL_law_33 (by decide) (by decide) rfl (by decide) ?_
    exact lw_22 hL hi hu hRl k
  · refine wp_tableIn (tgt := 891) dL_law_33 (by decide) (by decide) rfl (by decide) ?_
    exact lw_23 hL hi hu hRl k
  · refine wp_tableIn (tgt := 924) dL_law_33 (by decide) (by decide) rfl (by decide) ?_
    exact lw_24 hL hi hu hRl k
  · refine wp_tableIn (tgt := 977) dL_law_33 (by decide) (by decide) rfl (by decide) ?_
    exact lw_25 hL hi hu hRl k
  · refine wp_tableIn (tgt := 1010) dL_law_33 (by decide) (by decide) rfl (by decide) ?_
    exact lw_26 hL hi hu hRl k
  · refine wp_tableIn (tgt := 1053) dL_law_33 (by decide) (by decide) rfl (by decide) ?_
    exact lw_27 hL hi hu hRl k
  · refine wp_tableIn (tgt := 1106) dL_law_33 (by decide) (by decide) rfl (by decide) ?_
    exact lw_28 hL hi hu hRl k
  · refine wp_tableOut (tgt := 1129) dL_law_33 h33 (by decide) ?_
    exact wp_room (by omega) (by omega) (k H (Rel_up hRl))
theorem lw_loop (hL : L ≤ 3584) : ∀ (r i u : Nat) (H : PH), i ≤ L → L < i + 7 * (r + 1) → u + r ≤ 1000 → Rel L X u H → Wp mL (d + 71) (4 * r) (623 * r) 18 [some (.ref 0), some (.ref 1), some (.ref 33), some (.int (nI i))] [] H (fun v _ => v = some (.int 1)) := by
  intro r
  induction r with
  | zero =>
    intro i u H hi1 hi2 hu hRl
    have hk0 := hRl.2.1
    have e7 : (Int32.ofNat L - 7).toInt = (L : Int) - 7 := pk_sub_toInt (a := L) (b := 7) (by omega) (by omega)
    have e8 : (nI i).toInt = (i : Int) := nI_toInt (by omega)
    refine wp_iload_n dL_law_18 rfl ?_
    refine wp_aload_n dL_law_19 rfl ?_
    refine wp_alen dL_law_20 hk0 (by simp) ?_
    refine wp_bipush (v := 7) dL_law_21 (by decide) ?_
    refine wp_isub dL_law_23 ?_
    refine wp_icmp_gt (tgt := 1135) dL_law_24 (by decide) (fun _ => ?_) (fun h => absurd (lt_i.mpr (by rw [e7, e8]; omega)) h)
    refine wp_iconst (v := 1) dL_law_1135 (by decide) ?_
    exact wp_zreturn rfl (Or.inr rfl) dL_law_1136 rfl
  | succ r ih =>
    intro i u H hi1 hi2 hu hRl
    have hk0 := hRl.2.1
    have hi0 := hRl.2.2.1
    have e7 : (Int32.ofNat L - 7).toInt = (L : Int) - 7 := pk_sub_toInt (a := L) (b := 7) (by omega) (by omega)
    have e8 : (nI i).toInt = (i : Int) := nI_toInt (by omega)
    refine wp_iload_n dL_law_18 rfl ?_
    refine wp_aload_n dL_law_19 rfl ?_
    refine wp_alen dL_law_20 hk0 (by simp) ?_
    refine wp_bipush (v := 7) dL_law_21 (by decide) ?_
    refine wp_isub dL_law_23 ?_
    refine wp_icmp_gt (tgt := 1135) dL_law_24 (by decide) (fun _ => ?_) (fun h => ?_)
    · refine wp_iconst (v := 1) dL_law_1135 (by decide) ?_
      exact wp_zreturn rfl (Or.inr rfl) dL_law_1136 rfl
    · have hi7 : i + 7 ≤ L := by
        rcases Nat.lt_or_ge L (i + 7) with q | q
        · exact absurd (lt_i.mpr (by rw [e7, e8]; omega)) h
        · exact q
      refine wp_aload_n dL_law_27 rfl ?_
      refine wp_iload_n dL_law_28 rfl ?_
      refine wp_scr (j := i) dL_law_29 hk0 hi0 rfl (by omega) (by omega) ?_
      refine wp_bipush (v := 31) dL_law_30 (by decide) ?_
      refine wp_iand dL_law_32 ?_
      refine lw_one (kc := 4 * r) (ks := 623 * r) hL hi7 (by omega) hRl (fun H2 r2 => ?_) _
      refine wp_inc (c := 7) dL_law_1129 rfl (by decide) (by decide) ?_
      refine wp_goto (tgt := 18) dL_law_1132 (by decide) ?_
      have e : nI i + 7 = nI (i + 7) := nI_add i 7
      show Wp mL (d + 71) (4 * r) (623 * r) 18 [some (.ref 0), some (.ref 1), some (.ref 33), some (.int (nI i + 7))] [] H2 _
      rw [e]
      exact ih (i + 7) (u + 1) H2 hi7 (by omega) (by omega) r2
theorem lw_law {xs : Nat → Int32} (hL : L ≤ 3584) : Wp mL 1300 600000 7302250 0 [some (.ref 0), none, none, none] [] (H0 L xs) (fun v _ => v = some (.int 1)) := by
  show Wp mL 1300 600000 7302250 0 [some (.ref 0), none, none, none] [] (K0 L xs) (fun v _ => v = some (.int 1))
  refine wp_newB (kc := 599999) (ks := 7302241) (ci := 11) (a := 1) (n := 9) dL_law_0 ⟨_, rfl, cl_RL_7, rfl⟩ (congrArg (· + 1) (hn_0 L xs)) (by decide) (by decide) ?_
  refine wp_heap (H' := (K1 L xs)) rfl ?_
  refine wp_dup dL_law_3 rfl ?_
  refine wp_calli0n (kc := 599968) (ks := 7298493) (mc := 31) (ms := 3748) dL_law_4 lk_RL_9 ok_X11_init rfl im_X11_init rfl (Nat.le_of_ble_eq_true rfl) (Nat.le_of_ble_eq_true rfl) ?_
  refine i_X11_init_1 ?_
  refine wp_astore_n dL_law_7 (by decide) ?_
  refine wp_newB (kc := 599967) (ks := 7298433) (ci := 12) (a := 33) (n := 60) dL_law_8 ⟨_, rfl, cl_RL_10, rfl⟩ (congrArg (· + 1) (hn_72 L xs)) (by decide) (by decide) ?_
  refine wp_heap (H' := (K73 L xs)) rfl ?_
  refine wp_dup dL_law_11 rfl ?_
  refine wp_calli0n (kc := 599931) (ks := 7281967) (mc := 36) (ms := 16466) dL_law_12 lk_RL_12 ok_X12_init rfl im_X12_init rfl (Nat.le_of_ble_eq_true rfl) (Nat.le_of_ble_eq_true rfl) ?_
  refine i_X12_init_73 ?_
  refine wp_astore_n dL_law_15 (by decide) ?_
  refine wp_iconst (v := 0) dL_law_16 (by decide) ?_
  refine wp_istore_n dL_law_17 (by decide) ?_
  exact wp_room (by omega) (by omega) (lw_loop (d := 1229) hL 512 0 0 (KA L xs) (Nat.zero_le _) (by omega) (by omega) (Rel_KA L xs))
end LW
