theorem L_corner {E : zE} {nm : String} {K : zK E (yL nm) code 4 ret room_1} {Qf : State → Prop} {T : zT} {N : zN} {P : zP} {I : zI} {R : zR} {s0 L i x m : Nat} {xs : Nat → Int32} {ad : Nat → Nat} {b : Nat → Nat → Nat} {g : Nat} {f : zf} {r : zg} {kc ks : Nat} {w1 w2 : Int32} {o : zO} {g' : Nat} (hX : zSc K s0 L xs) (hl : L < 2 ^ 31) (hi : i + 5 < L) (h1 : xs (i + 1) = w1) (h2 : xs (i + 2) = w2) (hS : LB T N P I R x m ad b g f r) (hc : zC E yX10_corner cX10_corner 3 (some .int) (zr0 1 22) [.ref x, .int w1, .int w2] T N P I R (cQ x (Mnn m ad) g' T N P I R o)) (hm : ∀ (T : zT) (N : zN) (P : zP) (I : zI) (R : zR), MOK T P m ad → mf N m = f → mr I ad = r → zC E yX11_corner cX11_corner 3 (some .int) (zr0 1 22) [.ref m, .int w1, .int w2] T N P I R (mQ m ad T N P I R o)) (hI2 : Inv o.2.1 o.2.2) (e1 : kc + 0 + 0 ≤ 600000) (e2 : ks + 0 + 0 ≤ 7302250)
    (kk : ∀ (T : zT) (N : zN) (P : zP) (I : zI) (R : zR) (b : Nat → Nat → Nat), LB T N P I R x m ad b g' o.2.1 o.2.2 → V K Qf T N P I R (kc + 0 + 0) (ks + 0 + 0) 1202 [some (.ref s0), some (.ref x), some (.ref m), some (.int (nI i))] []) : V K Qf T N P I R kc ks 144 [some (.ref s0), some (.ref x), some (.ref m), some (.int (nI i))] [] := by
  refine v_aload_1 dL_law_144 rfl ?_
  refine v_aload_0 dL_law_145 rfl ?_
  refine v_iload_3 dL_law_146 rfl ?_
  refine v_iconst (v := 1) dL_law_147 rfl rfl ?_
  refine v_iadd dL_law_148 rfl ?_
  refine v_sld hX (lsi _ 1 rfl) (by omega) hl h1 dL_law_149 rfl ?_
  refine v_aload_0 dL_law_150 rfl ?_
  refine v_iload_3 dL_law_151 rfl ?_
  refine v_iconst (v := 2) dL_law_152 rfl rfl ?_
  refine v_iadd dL_law_153 rfl ?_
  refine v_sld hX (lsi _ 2 rfl) (by omega) hl h2 dL_law_154 rfl ?_
  refine v_callV (ci := 10) (F := TX10) (hc) yy_X10_corner im_X10_corner se_X10_corner lk_L_13 hS.1.1.1 (zle rfl) rfl (zle rfl) (zle rfl) (Nat.le_trans (Nat.le_add_right _ _) e1) (Nat.le_trans (Nat.le_add_right _ _) e2) rfl rfl (zle rfl) dL_law_155 rfl (fun v1 T1 N1 P1 I1 R1 hq1 => ?_)
  obtain ⟨rfl, ⟨b1, hC1⟩, hM1, hf1, hr1⟩ := hS.c hq1
  refine v_aload_2 dL_law_158 rfl ?_
  refine v_aload_0 dL_law_159 rfl ?_
  refine v_iload_3 dL_law_160 rfl ?_
  refine v_iconst (v := 1) dL_law_161 rfl rfl ?_
  refine v_iadd dL_law_162 rfl ?_
  refine v_sld hX (lsi _ 1 rfl) (by omega) hl h1 dL_law_163 rfl ?_
  refine v_aload_0 dL_law_164 rfl ?_
  refine v_iload_3 dL_law_165 rfl ?_
  refine v_iconst (v := 2) dL_law_166 rfl rfl ?_
  refine v_iadd dL_law_167 rfl ?_
  refine v_sld hX (lsi _ 2 rfl) (by omega) hl h2 dL_law_168 rfl ?_
  refine v_callV (ci := 11) (F := TX11) (hm T1 N1 P1 I1 R1 hM1 hf1 hr1) yy_X11_corner im_X11_corner se_X11_corner lk_L_17 hM1.1 (zle rfl) rfl (zle rfl) (zle rfl) e1 e2 rfl rfl (zle rfl) dL_law_169 rfl (fun v2 T2 N2 P2 I2 R2 hq2 => ?_)
  obtain ⟨rfl, hS2⟩ := LB.m hC1 hM1 hq2 hI2
  refine v_icmp_eq_t (n := 1202) rfl dL_law_172 (by decide) ?_
  exact kk T2 N2 P2 I2 R2 b1 hS2
theorem L_way {E : zE} {nm : String} {K : zK E (yL nm) code 4 ret room_1} {Qf : State → Prop} {T : zT} {N : zN} {P : zP} {I : zI} {R : zR} {s0 L i x m : Nat} {xs : Nat → Int32} {ad : Nat → Nat} {b : Nat → Nat → Nat} {g : Nat} {f : zf} {r : zg} {kc ks : Nat} {w1 w2 w3 w4 : Int32} {o : zO} {g' : Nat} (hX : zSc K s0 L xs) (hl : L < 2 ^ 31) (hi : i + 5 < L) (h1 : xs (i + 1) = w1) (h2 : xs (i + 2) = w2) (h3 : xs (i + 3) = w3) (h4 : xs (i + 4) = w4) (hS : LB T N P I R x m ad b g f r) (hc : zC E yX10_way cX10_way 5 (some .int) (zrm 2 44 1 5) [.ref x, .int w1, .int w2, .int w3, .int (zb (¬ w4 = 0))] T N P I R (cQ x (Mnn m ad) g' T N P I R o)) (hm : ∀ (T : zT) (N : zN) (P : zP) (I : zI) (R : zR), MOK T P m ad → mf N m = f → mr I ad = r → zC E yX11_way cX11_way 5 (some .int) (zr0 2 43) [.ref m, .int w1, .int w2, .int w3, .int (zb (¬ w4 = 0))] T N P I R (mQ m ad T N P I R o)) (hI2 : Inv o.2.1 o.2.2) (e1 : kc + 1 + 0 ≤ 600000) (e2 : ks + 5 + 0 ≤ 7302250)
    (kk : ∀ (T : zT) (N : zN) (P : zP) (I : zI) (R : zR) (b : Nat → Nat → Nat), LB T N P I R x m ad b g' o.2.1 o.2.2 → V K Qf T N P I R (kc + 1 + 0) (ks + 5 + 0) 1202 [some (.ref s0), some (.ref x), some (.ref m), some (.int (nI i))] []) : V K Qf T N P I R kc ks 177 [some (.ref s0), some (.ref x), some (.ref m), some (.int (nI i))] [] := by
  refine v_aload_1 dL_law_177 rfl ?_
  refine v_aload_0 dL_law_178 rfl ?_
  refine v_iload_3 dL_law_179 rfl ?_
  refine v_iconst (v := 1) dL_law_180 rfl rfl ?_
  refine v_iadd dL_law_181 rfl ?_
  refine v_sld hX (lsi _ 1 rfl) (by omega) hl h1 dL_law_182 rfl ?_
  refine v_aload_0 dL_law_183 rfl ?_
  refine v_iload_3 dL_law_184 rfl ?_
  refine v_iconst (v := 2) dL_law_185 rfl rfl ?_
  refine v_iadd dL_law_186 rfl ?_
  refine v_sld hX (lsi _ 2 rfl) (by omega) hl h2 dL_law_187 rfl ?_
  refine v_aload_0 dL_law_188 rfl ?_
  refine v_iload_3 dL_law_189 rfl ?_
  refine v_iconst (v := 3) dL_law_190 rfl rfl ?_
  refine v_iadd dL_law_191 rfl ?_
  refine v_sld hX (lsi _ 3 rfl) (by omega) hl h3 dL_law_192 rfl ?_
  refine v_aload_0 dL_law_193 rfl ?_
  refine v_iload_3 dL_law_194 rfl ?_
  refine v_iconst (v := 4) dL_law_195 rfl rfl ?_
  refine v_iadd dL_law_196 rfl ?_
  refine v_sld hX (lsi _ 4 rfl) (by omega) hl h4 dL_law_197 rfl ?_
  refine v_nz dL_law_198 dL_law_201 dL_law_202 dL_law_205 rfl ?_
  refine v_callV (ci := 10) (F := TX10) (hc) yy_X10_way im_X10_way se_X10_way lk_L_18 hS.1.1.1 (zle rfl) rfl (zle rfl) (zle rfl) (Nat.le_trans (Nat.le_add_right _ _) e1) (Nat.le_trans (Nat.le_add_right _ _) e2) rfl rfl (zle rfl) dL_law_206 rfl (fun v1 T1 N1 P1 I1 R1 hq1 => ?_)
  obtain ⟨rfl, ⟨b1, hC1⟩, hM1, hf1, hr1⟩ := hS.c hq1
  refine v_aload_2 dL_law_209 rfl ?_
  refine v_aload_0 dL_law_210 rfl ?_
  refine v_iload_3 dL_law_211 rfl ?_
  refine v_iconst (v := 1) dL_law_212 rfl rfl ?_
  refine v_iadd dL_law_213 rfl ?_
  refine v_sld hX (lsi _ 1 rfl) (by omega) hl h1 dL_law_214 rfl ?_
  refine v_aload_0 dL_law_215 rfl ?_
  refine v_iload_3 dL_law_216 rfl ?_
  refine v_iconst (v := 2) dL_law_217 rfl rfl ?_
  refine v_iadd dL_law_218 rfl ?_
  refine v_sld hX (lsi _ 2 rfl) (by omega) hl h2 dL_law_219 rfl ?_
  refine v_aload_0 dL_law_220 rfl ?_
  refine v_iload_3 dL_law_221 rfl ?_
  refine v_iconst (v := 3) dL_law_222 rfl rfl ?_
  refine v_iadd dL_law_223 rfl ?_
  refine v_sld hX (lsi _ 3 rfl) (by omega) hl h3 dL_law_224 rfl ?_
  refine v_aload_0 dL_law_225 rfl ?_
  refine v_iload_3 dL_law_226 rfl ?_
  refine v_iconst (v := 4) dL_law_227 rfl rfl ?_
  refine v_iadd dL_law_228 rfl ?_
  refine v_sld hX (lsi _ 4 rfl) (by omega) hl h4 dL_law_229 rfl ?_
  refine v_nz dL_law_230 dL_law_233 dL_law_234 dL_law_237 rfl ?_
  refine v_callV (ci := 11) (F := TX11) (hm T1 N1 P1 I1 R1 hM1 hf1 hr1) yy_X11_way im_X11_way se_X11_way lk_L_22 hM1.1 (zle rfl) rfl (zle rfl) (zle rfl) e1 e2 rfl rfl (zle rfl) dL_law_238 rfl (fun v2 T2 N2 P2 I2 R2 hq2 => ?_)
  obtain ⟨rfl, hS2⟩ := LB.m hC1 hM1 hq2 hI2
  refine v_icmp_eq_t (n := 1202) rfl dL_law_241 (by decide) ?_
  exact kk T2 N2 P2 I2 R2 b1 hS2
theorem L_shut {E : zE} {nm : String} {K : zK E (yL nm) code 4 ret room_1} {Qf : State → Prop} {T : zT} {N : zN} {P : zP} {I : zI} {R : zR} {s0 L i x m : Nat} {xs : Nat → Int32} {ad : Nat → Nat} {b : Nat → Nat → Nat} {g : Nat} {f : zf} {r : zg} {kc ks : Nat} {w1 w2 : Int32} {o : zO} {g' : Nat} (hX : zSc K s0 L xs) (hl : L < 2 ^ 31) (hi : i + 5 < L) (h1 : xs (i + 1) = w1) (h2 : xs (i + 2) = w2) (hS : LB T N P I R x m ad b g f r) (hc : zC E yX10_shut cX10_shut 5 (some .int) (zr0 2 43) [.ref x, .int w1, .int w2] T N P I R (cQ x (Mnn m ad) g' T N P I R o)) (hm : ∀ (T : zT) (N : zN) (P : zP) (I : zI) (R : zR), MOK T P m ad → mf N m = f → mr I ad = r → zC E yX11_shut cX11_shut 4 (some .int) (zr0 2 43) [.ref m, .int w1, .int w2] T N P I R (mQ m ad T N P I R o)) (hI2 : Inv o.2.1 o.2.2) (e1 : kc + 0 + 0 ≤ 600000) (e2 : ks + 0 + 0 ≤ 7302250)
    (kk : ∀ (T : zT) (N : zN) (P : zP) (I : zI) (R : zR) (b : Nat → Nat → Nat), LB T N P I R x m ad b g' o.2.1 o.2.2 → V K Qf T N P I R (kc + 0 + 0) (ks + 0 + 0) 1202 [some (.ref s0), some (.ref x), some (.ref m), some (.int (nI i))] []) : V K Qf T N P I R kc ks 246 [some (.ref s0), some (.ref x), some (.ref m), some (.int (nI i))] [] := by
  refine v_aload_1 dL_law_246 rfl ?_
  refine v_aload_0 dL_law_247 rfl ?_
  refine v_iload_3 dL_law_248 rfl ?_
  refine v_iconst (v := 1) dL_law_249 rfl rfl ?_
  refine v_iadd dL_law_250 rfl ?_
  refine v_sld hX (lsi _ 1 rfl) (by omega) hl h1 dL_law_251 rfl ?_
  refine v_aload_0 dL_law_252 rfl ?_
  refine v_iload_3 dL_law_253 rfl ?_
  refine v_iconst (v := 2) dL_law_254 rfl rfl ?_
  refine v_iadd dL_law_255 rfl ?_
  refine v_sld hX (lsi _ 2 rfl) (by omega) hl h2 dL_law_256 rfl ?_
  refine v_callV (ci := 10) (F := TX10) (hc) yy_X10_shut im_X10_shut se_X10_shut lk_L_23 hS.1.1.1 (zle rfl) rfl (zle rfl) (zle rfl) (Nat.le_trans (Nat.le_add_right _ _) e1) (Nat.le_trans (Nat.le_add_right _ _) e2) rfl rfl (zle rfl) dL_law_257 rfl (fun v1 T1 N1 P1 I1 R1 hq1 => ?_)
  obtain ⟨rfl, ⟨b1, hC1⟩, hM1, hf1, hr1⟩ := hS.c hq1
  refine v_aload_2 dL_law_260 rfl ?_
  refine v_aload_0 dL_law_261 rfl ?_
  refine v_iload_3 dL_law_262 rfl ?_
  refine v_iconst (v := 1) dL_law_263 rfl rfl ?_
  refine v_iadd dL_law_264 rfl ?_
  refine v_sld hX (lsi _ 1 rfl) (by omega) hl h1 dL_law_265 rfl ?_
  refine v_aload_0 dL_law_266 rfl ?_
  refine v_iload_3 dL_law_267 rfl ?_
  refine v_iconst (v := 2) dL_law_268 rfl rfl ?_
  refine v_iadd dL_law_269 rfl ?_
  refine v_sld hX (lsi _ 2 rfl) (by omega) hl h2 dL_law_270 rfl ?_
  refine v_callV (ci := 11) (F := TX11) (hm T1 N1 P1 I1 R1 hM1 hf1 hr1) yy_X11_shut im_X11_shut se_X11_shut lk_L_26 hM1.1 (zle rfl) rfl (zle rfl) (zle rfl) e1 e2 rfl rfl (zle rfl) dL_law_271 rfl (fun v2 T2 N2 P2 I2 R2 hq2 => ?_)
  obtain ⟨rfl, hS2⟩ := LB.m hC1 hM1 hq2 hI2
  refine v_icmp_eq_t (n := 1202) rfl dL_law_274 (by decide) ?_
  exact kk T2 N2 P2 I2 R2 b1 hS2
theorem L_far {E : zE} {nm : String} {K : zK E (yL nm) code 4 ret room_1} {Qf : State → Prop} {T : zT} {N : zN} {P : zP} {I : zI} {R : zR} {s0 L i x m : Nat} {xs : Nat → Int32} {ad : Nat → Nat} {b : Nat → Nat → Nat} {g : Nat} {f : zf} {r : zg} {kc ks : Nat} {w1 w2 w3 w4 : Int32} {o : zO} {g' : Nat} (hX : zSc K s0 L xs) (hl : L < 2 ^ 31) (hi : i + 5 < L) (h1 : xs (i + 1) = w1) (h2 : xs (i + 2) = w2) (h3 : xs (i + 3) = w3) (h4 : xs (i + 4) = w4) (hS : LB T N P I R x m ad b g f r) (hc : zC E yX10_far cX10_far 5 (some .int) (zrm 5 114 0 0) [.ref x, .int w1, .int w2, .int w3, .int (zb (¬ w4 = 0))] T N P I R (cQ x (Mnn m ad) g' T N P I R o)) (hm : ∀ (T : zT) (N : zN) (P : zP) (I : zI) (R : zR), MOK T P m ad → mf N m = f → mr I ad = r → zC E yX11_far cX11_far 10 (some .int) (zrm 2 43 1 8) [.ref m, .int w1, .int w2, .int w3, .int (zb (¬ w4 = 0))] T N P I R (mQ m ad T N P I R o)) (hI2 : Inv o.2.1 o.2.2) (e1 : kc + 0 + 1 ≤ 600000) (e2 : ks + 0 + 8 ≤ 7302250)
    (kk : ∀ (T : zT) (N : zN) (P : zP) (I : zI) (R : zR) (b : Nat → Nat → Nat), LB T N P I R x m ad b g' o.2.1 o.2.2 → V K Qf T N P I R (kc + 0 + 1) (ks + 0 + 8) 1202 [some (.ref s0), some (.ref x), some (.ref m), some (.int (nI i))] []) : V K Qf T N P I R kc ks 279 [some (.ref s0), some (.ref x), some (.ref m), some (.int (nI i))] [] := by
  refine v_aload_1 dL_law_279 rfl ?_
  refine v_aload_0 dL_law_280 rfl ?_
  refine v_iload_3 dL_law_281 rfl ?_
  refine v_iconst (v := 1) dL_law_282 rfl rfl ?_
  refine v_iadd dL_law_283 rfl ?_
  refine v_sld hX (lsi _ 1 rfl) (by omega) hl h1 dL_law_284 rfl ?_
  refine v_aload_0 dL_law_285 rfl ?_
  refine v_iload_3 dL_law_286 rfl ?_
  refine v_iconst (v := 2) dL_law_287 rfl rfl ?_
  refine v_iadd dL_law_288 rfl ?_
  refine v_sld hX (lsi _ 2 rfl) (by omega) hl h2 dL_law_289 rfl ?_
  refine v_aload_0 dL_law_290 rfl ?_
  refine v_iload_3 dL_law_291 rfl ?_
  refine v_iconst (v := 3) dL_law_292 rfl rfl ?_
  refine v_iadd dL_law_293 rfl ?_
  refine v_sld hX (lsi _ 3 rfl) (by omega) hl h3 dL_law_294 rfl ?_
  refine v_aload_0 dL_law_295 rfl ?_
  refine v_iload_3 dL_law_296 rfl ?_
  refine v_iconst (v := 4) dL_law_297 rfl rfl ?_
  refine v_iadd dL_law_298 rfl ?_
  refine v_sld hX (lsi _ 4 rfl) (by omega) hl h4 dL_law_299 rfl ?_
  refine v_nz dL_law_300 dL_law_303 dL_law_304 dL_law_307 rfl ?_
  refine v_callV (ci := 10) (F := TX10) (hc) yy_X10_far im_X10_far se_X10_far lk_L_27 hS.1.1.1 (zle rfl) rfl (zle rfl) (zle rfl) (Nat.le_trans (Nat.le_add_right _ _) e1) (Nat.le_trans (Nat.le_add_right _ _) e2) rfl rfl (zle rfl) dL_law_308 rfl (fun v1 T1 N1 P1 I1 R1 hq1 => ?_)
  obtain ⟨rfl, ⟨b1, hC1⟩, hM1, hf1, hr1⟩ := hS.c hq1
  refine v_aload_2 dL_law_311 rfl ?_
  refine v_aload_0 dL_law_312 rfl ?_
  refine v_iload_3 dL_law_313 rfl ?_
  refine v_iconst (v := 1) dL_law_314 rfl rfl ?_
  refine v_iadd dL_law_315 rfl ?_
  refine v_sld hX (lsi _ 1 rfl) (by omega) hl h1 dL_law_316 rfl ?_
  refine v_aload_0 dL_law_317 rfl ?_
  refine v_iload_3 dL_law_318 rfl ?_
  refine v_iconst (v := 2) dL_law_319 rfl rfl ?_
  refine v_iadd dL_law_320 rfl ?_
  refine v_sld hX (lsi _ 2 rfl) (by omega) hl h2 dL_law_321 rfl ?_
  refine v_aload_0 dL_law_322 rfl ?_
  refine v_iload_3 dL_law_323 rfl ?_
  refine v_iconst (v := 3) dL_law_324 rfl rfl ?_
  refine v_iadd dL_law_325 rfl ?_
  refine v_sld hX (lsi _ 3 rfl) (by omega) hl h3 dL_law_326 rfl ?_
  refine v_aload_0 dL_law_327 rfl ?_
  refine v_iload_3 dL_law_328 rfl ?_
  refine v_iconst (v := 4) dL_law_329 rfl rfl ?_
  refine v_iadd dL_law_330 rfl ?_
  refine v_sld hX (lsi _ 4 rfl) (by omega) hl h4 dL_law_331 rfl ?_
  refine v_nz dL_law_332 dL_law_335 dL_law_336 dL_law_339 rfl ?_
  refine v_callV (ci := 11) (F := TX11) (hm T1 N1 P1 I1 R1 hM1 hf1 hr1) yy_X11_far im_X11_far se_X11_far lk_L_30 hM1.1 (zle rfl) rfl (zle rfl) (zle rfl) e1 e2 rfl rfl (zle rfl) dL_law_340 rfl (fun v2 T2 N2 P2 I2 R2 hq2 => ?_)
  obtain ⟨rfl, hS2⟩ := LB.m hC1 hM1 hq2 hI2
  refine v_icmp_eq_t (n := 1202) rfl dL_law_343 (by decide) ?_
  exact kk T2 N2 P2 I2 R2 b1 hS2
theorem L_feed {E : zE} {nm : String} {K : zK E (yL nm) code 4 ret room_1} {Qf : State → Prop} {T : zT} {N : zN} {P : zP} {I : zI} {R : zR} {s0 L i x m : Nat} {xs : Nat → Int32} {ad : Nat → Nat} {b : Nat → Nat → Nat} {g : Nat} {f : zf} {r : zg} {kc ks : Nat} {w1 w2 w3 : Int32} {o : zO} {g' : Nat} (hX : zSc K s0 L xs) (hl : L < 2 ^ 31) (hi : i + 5 < L) (h1 : xs (i + 1) = w1) (h2 : xs (i + 2) = w2) (h3 : xs (i + 3) = w3) (hS : LB T N P I R x m ad b g f r) (hc : zC E yX10_feed cX10_feed 4 (some .int) (zr0 1 24) [.ref x, .long ((w1.toInt64 <<< ((32 : Int32).toInt64 &&& 63)) ||| (w2.toInt64 &&& 4294967295)), .int w3] T N P I R (cQ x (Mnn m ad) g' T N P I R o)) (hm : ∀ (T : zT) (N : zN) (P : zP) (I : zI) (R : zR), MOK T P m ad → mf N m = f → mr I ad = r → zC E yX11_feed cX11_feed 5 (some .int) (zr0 1 22) [.ref m, .long ((w1.toInt64 <<< ((32 : Int32).toInt64 &&& 63)) ||| (w2.toInt64 &&& 4294967295)), .int w3] T N P I R (mQ m ad T N P I R o)) (hI2 : Inv o.2.1 o.2.2) (e1 : kc + 0 + 0 ≤ 600000) (e2 : ks + 0 + 0 ≤ 7302250)
    (kk : ∀ (T : zT) (N : zN) (P : zP) (I : zI) (R : zR) (b : Nat → Nat → Nat), LB T N P I R x m ad b g' o.2.1 o.2.2 → V K Qf T N P I R (kc + 0 + 0) (ks + 0 + 0) 1202 [some (.ref s0), some (.ref x), some (.ref m), some (.int (nI i))] []) : V K Qf T N P I R kc ks 348 [some (.ref s0), some (.ref x), some (.ref m), some (.int (nI i))] [] := by
  refine v_aload_1 dL_law_348 rfl ?_
  refine v_aload_0 dL_law_349 rfl ?_
  refine v_iload_3 dL_law_350 rfl ?_
  refine v_iconst (v := 1) dL_law_351 rfl rfl ?_
  refine v_iadd dL_law_352 rfl ?_
  refine v_sld hX (lsi _ 1 rfl) (by omega) hl h1 dL_law_353 rfl ?_
  refine v_i2l dL_law_354 rfl ?_
  refine v_bipush (v := 32) dL_law_355 rfl rfl ?_
  refine v_lshl dL_law_357 rfl ?_
  refine v_aload_0 dL_law_358 rfl ?_
  refine v_iload_3 dL_law_359 rfl ?_
  refine v_iconst (v := 2) dL_law_360 rfl rfl ?_
  refine v_iadd dL_law_361 rfl ?_
  refine v_sld hX (lsi _ 2 rfl) (by omega) hl h2 dL_law_362 rfl ?_
  refine v_i2l dL_law_363 rfl ?_
  refine v_ldc2 dL_law_364 kc_L_31 rfl ?_
  refine v_land dL_law_367 rfl ?_
  refine v_lor dL_law_368 rfl ?_
  refine v_aload_0 dL_law_369 rfl ?_
  refine v_iload_3 dL_law_370 rfl ?_
  refine v_iconst (v := 3) dL_law_371 rfl rfl ?_
  refine v_iadd dL_law_372 rfl ?_
  refine v_sld hX (lsi _ 3 rfl) (by omega) hl h3 dL_law_373 rfl ?_
  refine v_callV (ci := 10) (F := TX10) (hc) yy_X10_feed im_X10_feed se_X10_feed lk_L_33 hS.1.1.1 (zle rfl) rfl (zle rfl) (zle rfl) (Nat.le_trans (Nat.le_add_right _ _) e1) (Nat.le_trans (Nat.le_add_right _ _) e2) rfl rfl (zle rfl) dL_law_374 rfl (fun v1 T1 N1 P1 I1 R1 hq1 => ?_)
  obtain ⟨rfl, ⟨b1, hC1⟩, hM1, hf1, hr1⟩ := hS.c hq1
  refine v_aload_2 dL_law_377 rfl ?_
  refine v_aload_0 dL_law_378 rfl ?_
  refine v_iload_3 dL_law_379 rfl ?_
  refine v_iconst (v := 1) dL_law_380 rfl rfl ?_
  refine v_iadd dL_law_381 rfl ?_
  refine v_sld hX (lsi _ 1 rfl) (by omega) hl h1 dL_law_382 rfl ?_
  refine v_i2l dL_law_383 rfl ?_
  refine v_bipush (v := 32) dL_law_384 rfl rfl ?_
  refine v_lshl dL_law_386 rfl ?_
  refine v_aload_0 dL_law_387 rfl ?_
  refine v_iload_3 dL_law_388 rfl ?_
  refine v_iconst (v := 2) dL_law_389 rfl rfl ?_
  refine v_iadd dL_law_390 rfl ?_
  refine v_sld hX (lsi _ 2 rfl) (by omega) hl h2 dL_law_391 rfl ?_
  refine v_i2l dL_law_392 rfl ?_
  refine v_ldc2 dL_law_393 kc_L_31 rfl ?_
  refine v_land dL_law_396 rfl ?_
  refine v_lor dL_law_397 rfl ?_
  refine v_aload_0 dL_law_398 rfl ?_
  refine v_iload_3 dL_law_399 rfl ?_
  refine v_iconst (v := 3) dL_law_400 rfl rfl ?_
  refine v_iadd dL_law_401 rfl ?_
  refine v_sld hX (lsi _ 3 rfl) (by omega) hl h3 dL_law_402 rfl ?_
  refine v_callV (ci := 11) (F := TX11) (hm T1 N1 P1 I1 R1 hM1 hf1 hr1) yy_X11_feed im_X11_feed se_X11_feed lk_L_37 hM1.1 (zle rfl) rfl (zle rfl) (zle rfl) e1 e2 rfl rfl (zle rfl) dL_law_403 rfl (fun v2 T2 N2 P2 I2 R2 hq2 => ?_)
  obtain ⟨rfl, hS2⟩ := LB.m hC1 hM1 hq2 hI2
  refine v_icmp_eq_t (n := 1202) rfl dL_law_406 (by decide) ?_
  exact kk T2 N2 P2 I2 R2 b1 hS2
theorem L_story {E : zE} {nm : String} {K : zK E (yL nm) code 4 ret room_1} {Qf : State → Prop} {T : zT} {N : zN} {P : zP} {I : zI} {R : zR} {s0 L i x m : Nat} {xs : Nat → Int32} {ad : Nat → Nat} {b : Nat → Nat → Nat} {g : Nat} {f : zf} {r : zg} {kc ks : Nat} {o : zO} {g' : Nat} (hX : zSc K s0 L xs) (hl : L < 2 ^ 31) (hi : i + 5 < L) (hS : LB T N P I R x m ad b g f r) (hc : zC E yX10_story cX10_story 3 (some .int) (zrm 7 155 15 78) [.ref x] T N P I R (cQ x (Mnn m ad) g' T N P I R o)) (hm : ∀ (T : zT) (N : zN) (P : zP) (I : zI) (R : zR), MOK T P m ad → mf N m = f → mr I ad = r → zC E yX11_story cX11_story 2 (some .int) (zr0 4 88) [.ref m] T N P I R (mQ m ad T N P I R o)) (hI2 : Inv o.2.1 o.2.2) (e1 : kc + 15 + 0 ≤ 600000) (e2 : ks + 78 + 0 ≤ 7302250)
    (kk : ∀ (T : zT) (N : zN) (P : zP) (I : zI) (R : zR) (b : Nat → Nat → Nat), LB T N P I R x m ad b g' o.2.1 o.2.2 → V K Qf T N P I R (kc + 15 + 0) (ks + 78 + 0) 1202 [some (.ref s0), some (.ref x), some (.ref m), some (.int (nI i))] []) : V K Qf T N P I R kc ks 411 [some (.ref s0), some (.ref x), some (.ref m), some (.int (nI i))] [] := by
  refine v_aload_1 dL_law_411 rfl ?_
  refine v_callV (ci := 10) (F := TX10) (hc) yy_X10_story im_X10_story se_X10_story lk_L_38 hS.1.1.1 (zle rfl) rfl (zle rfl) (zle rfl) (Nat.le_trans (Nat.le_add_right _ _) e1) (Nat.le_trans (Nat.le_add_right _ _) e2) rfl rfl (zle rfl) dL_law_412 rfl (fun v1 T1 N1 P1 I1 R1 hq1 => ?_)
  obtain ⟨rfl, ⟨b1, hC1⟩, hM1, hf1, hr1⟩ := hS.c hq1
  refine v_aload_2 dL_law_415 rfl ?_
  refine v_callV (ci := 11) (F := TX11) (hm T1 N1 P1 I1 R1 hM1 hf1 hr1) yy_X11_story im_X11_story se_X11_story lk_L_42 hM1.1 (zle rfl) rfl (zle rfl) (zle rfl) e1 e2 rfl rfl (zle rfl) dL_law_416 rfl (fun v2 T2 N2 P2 I2 R2 hq2 => ?_)
  obtain ⟨rfl, hS2⟩ := LB.m hC1 hM1 hq2 hI2
  refine v_icmp_eq_t (n := 1202) rfl dL_law_419 (by decide) ?_
  exact kk T2 N2 P2 I2 R2 b1 hS2
theorem L_as {E : zE} {nm : String} {K : zK E (yL nm) code 4 ret room_1} {Qf : State → Prop} {T : zT} {N : zN} {P : zP} {I : zI} {R : zR} {s0 L i x m : Nat} {xs : Nat → Int32} {ad : Nat → Nat} {b : Nat → Nat → Nat} {g : Nat} {f : zf} {r : zg} {kc ks : Nat} {w1 w2 w3 : Int32} {o : zO} {g' : Nat} (hX : zSc K s0 L xs) (hl : L < 2 ^ 31) (hi : i + 5 < L) (h1 : xs (i + 1) = w1) (h2 : xs (i + 2) = w2) (h3 : xs (i + 3) = w3) (hS : LB T N P I R x m ad b g f r) (hc : zC E yX10_as cX10_as 5 (some .int) (zr0 3 66) [.ref x, .int w1, .int w2, .int w3] T N P I R (cQ x (Mnn m ad) g' T N P I R o)) (hm : ∀ (T : zT) (N : zN) (P : zP) (I : zI) (R : zR), MOK T P m ad → mf N m = f → mr I ad = r → zC E yX11_as cX11_as 5 (some .int) (zr0 3 65) [.ref m, .int w1, .int w2, .int w3] T N P I R (mQ m ad T N P I R o)) (hI2 : Inv o.2.1 o.2.2) (e1 : kc + 0 + 0 ≤ 600000) (e2 : ks + 0 + 0 ≤ 7302250)
    (kk : ∀ (T : zT) (N : zN) (P : zP) (I : zI) (R : zR) (b : Nat → Nat → Nat), LB T N P I R x m ad b g' o.2.1 o.2.2 → V K Qf T N P I R (kc + 0 + 0) (ks + 0 + 0) 1202 [some (.ref s0), some (.ref x), some (.ref m), some (.int (nI i))] []) : V K Qf T N P I R kc ks 424 [some (.ref s0), some (.ref x), some (.ref m), some (.int (nI i))] [] := by
  refine v_aload_1 dL_law_424 rfl ?_
  refine v_aload_0 dL_law_425 rfl ?_
  refine v_iload_3 dL_law_426 rfl ?_
  refine v_iconst (v := 1) dL_law_427 rfl rfl ?_
  refine v_iadd dL_law_428 rfl ?_
  refine v_sld hX (lsi _ 1 rfl) (by omega) hl h1 dL_law_429 rfl ?_
  refine v_aload_0 dL_law_430 rfl ?_
  refine v_iload_3 dL_law_431 rfl ?_
  refine v_iconst (v := 2) dL_law_432 rfl rfl ?_
  refine v_iadd dL_law_433 rfl ?_
  refine v_sld hX (lsi _ 2 rfl) (by omega) hl h2 dL_law_434 rfl ?_
  refine v_aload_0 dL_law_435 rfl ?_
  refine v_iload_3 dL_law_436 rfl ?_
  refine v_iconst (v := 3) dL_law_437 rfl rfl ?_
  refine v_iadd dL_law_438 rfl ?_
  refine v_sld hX (lsi _ 3 rfl) (by omega) hl h3 dL_law_439 rfl ?_
  refine v_callV (ci := 10) (F := TX10) (hc) yy_X10_as im_X10_as se_X10_as lk_L_43 hS.1.1.1 (zle rfl) rfl (zle rfl) (zle rfl) (Nat.le_trans (Nat.le_add_right _ _) e1) (Nat.le_trans (Nat.le_add_right _ _) e2) rfl rfl (zle rfl) dL_law_440 rfl (fun v1 T1 N1 P1 I1 R1 hq1 => ?_)
  obtain ⟨rfl, ⟨b1, hC1⟩, hM1, hf1, hr1⟩ := hS.c hq1
  refine v_aload_2 dL_law_443 rfl ?_
  refine v_aload_0 dL_law_444 rfl ?_
  refine v_iload_3 dL_law_445 rfl ?_
  refine v_iconst (v := 1) dL_law_446 rfl rfl ?_
  refine v_iadd dL_law_447 rfl ?_
  refine v_sld hX (lsi _ 1 rfl) (by omega) hl h1 dL_law_448 rfl ?_
  refine v_aload_0 dL_law_449 rfl ?_
  refine v_iload_3 dL_law_450 rfl ?_
  refine v_iconst (v := 2) dL_law_451 rfl rfl ?_
  refine v_iadd dL_law_452 rfl ?_
  refine v_sld hX (lsi _ 2 rfl) (by omega) hl h2 dL_law_453 rfl ?_
  refine v_aload_0 dL_law_454 rfl ?_
  refine v_iload_3 dL_law_455 rfl ?_
  refine v_iconst (v := 3) dL_law_456 rfl rfl ?_
  refine v_iadd dL_law_457 rfl ?_
  refine v_sld hX (lsi _ 3 rfl) (by omega) hl h3 dL_law_458 rfl ?_
  refine v_callV (ci := 11) (F := TX11) (hm T1 N1 P1 I1 R1 hM1 hf1 hr1) yy_X11_as im_X11_as se_X11_as lk_L_47 hM1.1 (zle rfl) rfl (zle rfl) (zle rfl) e1 e2 rfl rfl (zle rfl) dL_law_459 rfl (fun v2 T2 N2 P2 I2 R2 hq2 => ?_)
  obtain ⟨rfl, hS2⟩ := LB.m hC1 hM1 hq2 hI2
  refine v_icmp_eq_t (n := 1202) rfl dL_law_462 (by decide) ?_
  exact kk T2 N2 P2 I2 R2 b1 hS2
theorem L_of {E : zE} {nm : String} {K : zK E (yL nm) code 4 ret room_1} {Qf : State → Prop} {T : zT} {N : zN} {P : zP} {I : zI} {R : zR} {s0 L i x m : Nat} {xs : Nat → Int32} {ad : Nat → Nat} {b : Nat → Nat → Nat} {g : Nat} {f : zf} {r : zg} {kc ks : Nat} {w1 w2 w3 : Int32} {o : zO} {g' : Nat} (hX : zSc K s0 L xs) (hl : L < 2 ^ 31) (hi : i + 5 < L) (h1 : xs (i + 1) = w1) (h2 : xs (i + 2) = w2) (h3 : xs (i + 3) = w3) (hS : LB T N P I R x m ad b g f r) (hc : zC E yX10_of cX10_of 5 (some .int) (zr0 3 66) [.ref x, .int w1, .int w2, .int w3] T N P I R (cQ x (Mnn m ad) g' T N P I R o)) (hm : ∀ (T : zT) (N : zN) (P : zP) (I : zI) (R : zR), MOK T P m ad → mf N m = f → mr I ad = r → zC E yX11_of cX11_of 5 (some .int) (zr0 3 65) [.ref m, .int w1, .int w2, .int w3] T N P I R (mQ m ad T N P I R o)) (hI2 : Inv o.2.1 o.2.2) (e1 : kc + 0 + 0 ≤ 600000) (e2 : ks + 0 + 0 ≤ 7302250)
    (kk : ∀ (T : zT) (N : zN) (P : zP) (I : zI) (R : zR) (b : Nat → Nat → Nat), LB T N P I R x m ad b g' o.2.1 o.2.2 → V K Qf T N P I R (kc + 0 + 0) (ks + 0 + 0) 1202 [some (.ref s0), some (.ref x), some (.ref m), some (.int (nI i))] []) : V K Qf T N P I R kc ks 467 [some (.ref s0), some (.ref x), some (.ref m), some (.int (nI i))] [] := by
  refine v_aload_1 dL_law_467 rfl ?_
  refine v_aload_0 dL_law_468 rfl ?_
  refine v_iload_3 dL_law_469 rfl ?_
  refine v_iconst (v := 1) dL_law_470 rfl rfl ?_
  refine v_iadd dL_law_471 rfl ?_
  refine v_sld hX (lsi _ 1 rfl) (by omega) hl h1 dL_law_472 rfl ?_
  refine v_aload_0 dL_law_473 rfl ?_
  refine v_iload_3 dL_law_474 rfl ?_
  refine v_iconst (v := 2) dL_law_475 rfl rfl ?_
  refine v_iadd dL_law_476 rfl ?_
  refine v_sld hX (lsi _ 2 rfl) (by omega) hl h2 dL_law_477 rfl ?_
  refine v_aload_0 dL_law_478 rfl ?_
  refine v_iload_3 dL_law_479 rfl ?_
  refine v_iconst (v := 3) dL_law_480 rfl rfl ?_
  refine v_iadd dL_law_481 rfl ?_
  refine v_sld hX (lsi _ 3 rfl) (by omega) hl h3 dL_law_482 rfl ?_
  refine v_callV (ci := 10) (F := TX10) (hc) yy_X10_of im_X10_of se_X10_of lk_L_48 hS.1.1.1 (zle rfl) rfl (zle rfl) (zle rfl) (Nat.le_trans (Nat.le_add_right _ _) e1) (Nat.le_trans (Nat.le_add_right _ _) e2) rfl rfl (zle rfl) dL_law_483 rfl (fun v1 T1 N1 P1 I1 R1 hq1 => ?_)
  obtain ⟨rfl, ⟨b1, hC1⟩, hM1, hf1, hr1⟩ := hS.c hq1
  refine v_aload_2 dL_law_486 rfl ?_
  refine v_aload_0 dL_law_487 rfl ?_
  refine v_iload_3 dL_law_488 rfl ?_
  refine v_iconst (v := 1) dL_law_489 rfl rfl ?_
  refine v_iadd dL_law_490 rfl ?_
  refine v_sld hX (lsi _ 1 rfl) (by omega) hl h1 dL_law_491 rfl ?_
  refine v_aload_0 dL_law_492 rfl ?_
  refine v_iload_3 dL_law_493 rfl ?_
  refine v_iconst (v := 2) dL_law_494 rfl rfl ?_
  refine v_iadd dL_law_495 rfl ?_
  refine v_sld hX (lsi _ 2 rfl) (by omega) hl h2 dL_law_496 rfl ?_
  refine v_aload_0 dL_law_497 rfl ?_
  refine v_iload_3 dL_law_498 rfl ?_
  refine v_iconst (v := 3) dL_law_499 rfl rfl ?_
  refine v_iadd dL_law_500 rfl ?_
  refine v_sld hX (lsi _ 3 rfl) (by omega) hl h3 dL_law_501 rfl ?_
  refine v_callV (ci := 11) (F := TX11) (hm T1 N1 P1 I1 R1 hM1 hf1 hr1) yy_X11_of im_X11_of se_X11_of lk_L_51 hM1.1 (zle rfl) rfl (zle rfl) (zle rfl) e1 e2 rfl rfl (zle rfl) dL_law_502 rfl (fun v2 T2 N2 P2 I2 R2 hq2 => ?_)
  obtain ⟨rfl, hS2⟩ := LB.m hC1 hM1 hq2 hI2
  refine v_icmp_eq_t (n := 1202) rfl dL_law_505 (by decide) ?_
  exact kk T2 N2 P2 I2 R2 b1 hS2
theorem L_check {E : zE} {nm : String} {K : zK E (yL nm) code 4 ret room_1} {Qf : State → Prop} {T : zT} {N : zN} {P : zP} {I : zI} {R : zR} {s0 L i x m : Nat} {xs : Nat → Int32} {ad : Nat → Nat} {b : Nat → Nat → Nat} {g : Nat} {f : zf} {r : zg} {kc ks : Nat} {w1 w2 w3 w4 w5 : Int32} {o : zO} {g' c9 s9 : Nat} (hX : zSc K s0 L xs) (hl : L < 2 ^ 31) (hi : i + 5 < L) (h1 : xs (i + 1) = w1) (h2 : xs (i + 2) = w2) (h3 : xs (i + 3) = w3) (h4 : xs (i + 4) = w4) (h5 : xs (i + 5) = w5) (hS : LB T N P I R x m ad b g f r) (hc : zC E yX10_check cX10_check 6 (some .int) (zrm 6 149 c9 s9) [.ref x, .int w1, .int w2, .int w3, .int (zb (¬ w4 = 0)), .int w5] T N P I R (cQ x (Mnn m ad) g' T N P I R o)) (hm : ∀ (T : zT) (N : zN) (P : zP) (I : zI) (R : zR), MOK T P m ad → mf N m = f → mr I ad = r → zC E yX11_check cX11_check 11 (some .int) (zrm 3 82 1 8) [.ref m, .int w1, .int w2, .int w3, .int (zb (¬ w4 = 0)), .int w5] T N P I R (mQ m ad T N P I R o)) (hI2 : Inv o.2.1 o.2.2) (e1 : kc + c9 + 1 ≤ 600000) (e2 : ks + s9 + 8 ≤ 7302250)
    (kk : ∀ (T : zT) (N : zN) (P : zP) (I : zI) (R : zR) (b : Nat → Nat → Nat), LB T N P I R x m ad b g' o.2.1 o.2.2 → V K Qf T N P I R (kc + c9 + 1) (ks + s9 + 8) 1202 [some (.ref s0), some (.ref x), some (.ref m), some (.int (nI i))] []) : V K Qf T N P I R kc ks 510 [some (.ref s0), some (.ref x), some (.ref m), some (.int (nI i))] [] := by
  refine v_aload_1 dL_law_510 rfl ?_
  refine v_aload_0 dL_law_511 rfl ?_
  refine v_iload_3 dL_law_512 rfl ?_
  refine v_iconst (v := 1) dL_law_513 rfl rfl ?_
  refine v_iadd dL_law_514 rfl ?_
  refine v_sld hX (lsi _ 1 rfl) (by omega) hl h1 dL_law_515 rfl ?_
  refine v_aload_0 dL_law_516 rfl ?_
  refine v_iload_3 dL_law_517 rfl ?_
  refine v_iconst (v := 2) dL_law_518 rfl rfl ?_
  refine v_iadd dL_law_519 rfl ?_
  refine v_sld hX (lsi _ 2 rfl) (by omega) hl h2 dL_law_520 rfl ?_
  refine v_aload_0 dL_law_521 rfl ?_
  refine v_iload_3 dL_law_522 rfl ?_
  refine v_iconst (v := 3) dL_law_523 rfl rfl ?_
  refine v_iadd dL_law_524 rfl ?_
  refine v_sld hX (lsi _ 3 rfl) (by omega) hl h3 dL_law_525 rfl ?_
  refine v_aload_0 dL_law_526 rfl ?_
  refine v_iload_3 dL_law_527 rfl ?_
  refine v_iconst (v := 4) dL_law_528 rfl rfl ?_
  refine v_iadd dL_law_529 rfl ?_
  refine v_sld hX (lsi _ 4 rfl) (by omega) hl h4 dL_law_530 rfl ?_
  refine v_nz dL_law_531 dL_law_534 dL_law_535 dL_law_538 rfl ?_
  refine v_aload_0 dL_law_539 rfl ?_
  refine v_iload_3 dL_law_540 rfl ?_
  refine v_iconst (v := 5) dL_law_541 rfl rfl ?_
  refine v_iadd dL_law_542 rfl ?_
  refine v_sld hX (lsi _ 5 rfl) (by omega) hl h5 dL_law_543 rfl ?_
  refine v_callV (ci := 10) (F := TX10) (hc) yy_X10_check im_X10_check se_X10_check lk_L_52 hS.1.1.1 (zle rfl) rfl (zle rfl) (zle rfl) (Nat.le_trans (Nat.le_add_right _ _) e1) (Nat.le_trans (Nat.le_add_right _ _) e2) rfl rfl (zle rfl) dL_law_544 rfl (fun v1 T1 N1 P1 I1 R1 hq1 => ?_)
  obtain ⟨rfl, ⟨b1, hC1⟩, hM1, hf1, hr1⟩ := hS.c hq1
  refine v_aload_2 dL_law_547 rfl ?_
  refine v_aload_0 dL_law_548 rfl ?_
  refine v_iload_3 dL_law_549 rfl ?_
  refine v_iconst (v := 1) dL_law_550 rfl rfl ?_
  refine v_iadd dL_law_551 rfl ?_
  refine v_sld hX (lsi _ 1 rfl) (by omega) hl h1 dL_law_552 rfl ?_
  refine v_aload_0 dL_law_553 rfl ?_
  refine v_iload_3 dL_law_554 rfl ?_
  refine v_iconst (v := 2) dL_law_555 rfl rfl ?_
  refine v_iadd dL_law_556 rfl ?_
  refine v_sld hX (lsi _ 2 rfl) (by omega) hl h2 dL_law_557 rfl ?_
  refine v_aload_0 dL_law_558 rfl ?_
  refine v_iload_3 dL_law_559 rfl ?_
  refine v_iconst (v := 3) dL_law_560 rfl rfl ?_
  refine v_iadd dL_law_561 rfl ?_
  refine v_sld hX (lsi _ 3 rfl) (by omega) hl h3 dL_law_562 rfl ?_
  refine v_aload_0 dL_law_563 rfl ?_
  refine v_iload_3 dL_law_564 rfl ?_
  refine v_iconst (v := 4) dL_law_565 rfl rfl ?_
  refine v_iadd dL_law_566 rfl ?_
  refine v_sld hX (lsi _ 4 rfl) (by omega) hl h4 dL_law_567 rfl ?_
  refine v_nz dL_law_568 dL_law_571 dL_law_572 dL_law_575 rfl ?_
  refine v_aload_0 dL_law_576 rfl ?_
  refine v_iload_3 dL_law_577 rfl ?_
  refine v_iconst (v := 5) dL_law_578 rfl rfl ?_
  refine v_iadd dL_law_579 rfl ?_
  refine v_sld hX (lsi _ 5 rfl) (by omega) hl h5 dL_law_580 rfl ?_
  refine v_callV (ci := 11) (F := TX11) (hm T1 N1 P1 I1 R1 hM1 hf1 hr1) yy_X11_check im_X11_check se_X11_check lk_L_56 hM1.1 (zle rfl) rfl (zle rfl) (zle rfl) e1 e2 rfl rfl (zle rfl) dL_law_581 rfl (fun v2 T2 N2 P2 I2 R2 hq2 => ?_)
  obtain ⟨rfl, hS2⟩ := LB.m hC1 hM1 hq2 hI2
  refine v_icmp_eq_t (n := 1202) rfl dL_law_584 (by decide) ?_
  exact kk T2 N2 P2 I2 R2 b1 hS2
theorem L_quickest {E : zE} {nm : String} {K : zK E (yL nm) code 4 ret room_1} {Qf : State → Prop} {T : zT} {N : zN} {P : zP} {I : zI} {R : zR} {s0 L i x m : Nat} {xs : Nat → Int32} {ad : Nat → Nat} {b : Nat → Nat → Nat} {g : Nat} {f : zf} {r : zg} {kc ks : Nat} {w1 w2 w3 w4 : Int32} {o : zO} {g' c9 s9 : Nat} (hX : zSc K s0 L xs) (hl : L < 2 ^ 31) (hi : i + 5 < L) (h1 : xs (i + 1) = w1) (h2 : xs (i + 2) = w2) (h3 : xs (i + 3) = w3) (h4 : xs (i + 4) = w4) (hS : LB T N P I R x m ad b g f r) (hc : zC E yX10_quickest cX10_quickest 5 (some .int) (zrm 6 149 c9 s9) [.ref x, .int w1, .int w2, .int w3, .int (zb (¬ w4 = 0))] T N P I R (cQ x (Mnn m ad) g' T N P I R o)) (hm : ∀ (T : zT) (N : zN) (P : zP) (I : zI) (R : zR), MOK T P m ad → mf N m = f → mr I ad = r → zC E yX11_quickest cX11_quickest 6 (some .int) (zrm 3 80 1 8) [.ref m, .int w1, .int w2, .int w3, .int (zb (¬ w4 = 0))] T N P I R (mQ m ad T N P I R o)) (hI2 : Inv o.2.1 o.2.2) (e1 : kc + c9 + 1 ≤ 600000) (e2 : ks + s9 + 8 ≤ 7302250)
    (kk : ∀ (T : zT) (N : zN) (P : zP) (I : zI) (R : zR) (b : Nat → Nat → Nat), LB T N P I R x m ad b g' o.2.1 o.2.2 → V K Qf T N P I R (kc + c9 + 1) (ks + s9 + 8) 1202 [some (.ref s0), some (.ref x), some (.ref m), some (.int (nI i))] []) : V K Qf T N P I R kc ks 589 [some (.ref s0), some (.ref x), some (.ref m), some (.int (nI i))] [] := by
  refine v_aload_1 dL_law_589 rfl ?_
  refine v_aload_0 dL_law_590 rfl ?_
  refine v_iload_3 dL_law_591 rfl ?_
  refine v_iconst (v := 1) dL_law_592 rfl rfl ?_
  refine v_iadd dL_law_593 rfl ?_
  refine v_sld hX (lsi _ 1 rfl) (by omega) hl h1 dL_law_594 rfl ?_
  refine v_aload_0 dL_law_595 rfl ?_
  refine v_iload_3 dL_law_596 rfl ?_
  refine v_iconst (v := 2) dL_law_597 rfl rfl ?_
  refine v_iadd dL_law_598 rfl ?_
  refine v_sld hX (lsi _ 2 rfl) (by omega) hl h2 dL_law_599 rfl ?_
  refine v_aload_0 dL_law_600 rfl ?_
  refine v_iload_3 dL_law_601 rfl ?_
  refine v_iconst (v := 3) dL_law_602 rfl rfl ?_
  refine v_iadd dL_law_603 rfl ?_
  refine v_sld hX (lsi _ 3 rfl) (by omega) hl h3 dL_law_604 rfl ?_
  refine v_aload_0 dL_law_605 rfl ?_
  refine v_iload_3 dL_law_606 rfl ?_
  refine v_iconst (v := 4) dL_law_607 rfl rfl ?_
  refine v_iadd dL_law_608 rfl ?_
  refine v_sld hX (lsi _ 4 rfl) (by omega) hl h4 dL_law_609 rfl ?_
  refine v_nz dL_law_610 dL_law_613 dL_law_614 dL_law_617 rfl ?_
  refine v_callV (ci := 10) (F := TX10) (hc) yy_X10_quickest im_X10_quickest se_X10_quickest lk_L_57 hS.1.1.1 (zle rfl) rfl (zle rfl) (zle rfl) (Nat.le_trans (Nat.le_add_right _ _) e1) (Nat.le_trans (Nat.le_add_right _ _) e2) rfl rfl (zle rfl) dL_law_618 rfl (fun v1 T1 N1 P1 I1 R1 hq1 => ?_)
  obtain ⟨rfl, ⟨b1, hC1⟩, hM1, hf1, hr1⟩ := hS.c hq1
  refine v_aload_2 dL_law_621 rfl ?_
  refine v_aload_0 dL_law_622 rfl ?_
  refine v_iload_3 dL_law_623 rfl ?_
  refine v_iconst (v := 1) dL_law_624 rfl rfl ?_
  refine v_iadd dL_law_625 rfl ?_
  refine v_sld hX (lsi _ 1 rfl) (by omega) hl h1 dL_law_626 rfl ?_
  refine v_aload_0 dL_law_627 rfl ?_
  refine v_iload_3 dL_law_628 rfl ?_
  refine v_iconst (v := 2) dL_law_629 rfl rfl ?_
  refine v_iadd dL_law_630 rfl ?_
  refine v_sld hX (lsi _ 2 rfl) (by omega) hl h2 dL_law_631 rfl ?_
  refine v_aload_0 dL_law_632 rfl ?_
  refine v_iload_3 dL_law_633 rfl ?_
  refine v_iconst (v := 3) dL_law_634 rfl rfl ?_
  refine v_iadd dL_law_635 rfl ?_
  refine v_sld hX (lsi _ 3 rfl) (by omega) hl h3 dL_law_636 rfl ?_
  refine v_aload_0 dL_law_637 rfl ?_
  refine v_iload_3 dL_law_638 rfl ?_
  refine v_iconst (v := 4) dL_law_639 rfl rfl ?_
  refine v_iadd dL_law_640 rfl ?_
  refine v_sld hX (lsi _ 4 rfl) (by omega) hl h4 dL_law_641 rfl ?_
  refine v_nz dL_law_642 dL_law_645 dL_law_646 dL_law_649 rfl ?_
  refine v_callV (ci := 11) (F := TX11) (hm T1 N1 P1 I1 R1 hM1 hf1 hr1) yy_X11_quickest im_X11_quickest se_X11_quickest lk_L_60 hM1.1 (zle rfl) rfl (zle rfl) (zle rfl) e1 e2 rfl rfl (zle rfl) dL_law_650 rfl (fun v2 T2 N2 P2 I2 R2 hq2 => ?_)
  obtain ⟨rfl, hS2⟩ := LB.m hC1 hM1 hq2 hI2
  refine v_icmp_eq_t (n := 1202) rfl dL_law_653 (by decide) ?_
  exact kk T2 N2 P2 I2 R2 b1 hS2
theorem L_route {E : zE} {nm : String} {K : zK E (yL nm) code 4 ret room_1} {Qf : State → Prop} {T : zT} {N : zN} {P : zP} {I : zI} {R : zR} {s0 L i x m : Nat} {xs : Nat → Int32} {ad : Nat → Nat} {b : Nat → Nat → Nat} {g : Nat} {f : zf} {r : zg} {kc ks : Nat} {w1 w2 w3 w4 w5 : Int32} {o : zO} {g' c9 s9 : Nat} (hX : zSc K s0 L xs) (hl : L < 2 ^ 31) (hi : i + 5 < L) (h1 : xs (i + 1) = w1) (h2 : xs (i + 2) = w2) (h3 : xs (i + 3) = w3) (h4 : xs (i + 4) = w4) (h5 : xs (i + 5) = w5) (hS : LB T N P I R x m ad b g f r) (hc : zC E yX10_route cX10_route 6 (some .int) (zrm 6 149 c9 s9) [.ref x, .int w1, .int w2, .int w3, .int (zb (¬ w4 = 0)), .int w5] T N P I R (cQ x (Mnn m ad) g' T N P I R o)) (hm : ∀ (T : zT) (N : zN) (P : zP) (I : zI) (R : zR), MOK T P m ad → mf N m = f → mr I ad = r → zC E yX11_route cX11_route 10 (some .int) (zrm 3 80 1 8) [.ref m, .int w1, .int w2, .int w3, .int (zb (¬ w4 = 0)), .int w5] T N P I R (mQ m ad T N P I R o)) (hI2 : Inv o.2.1 o.2.2) (e1 : kc + c9 + 1 ≤ 600000) (e2 : ks + s9 + 8 ≤ 7302250)
    (kk : ∀ (T : zT) (N : zN) (P : zP) (I : zI) (R : zR) (b : Nat → Nat → Nat), LB T N P I R x m ad b g' o.2.1 o.2.2 → V K Qf T N P I R (kc + c9 + 1) (ks + s9 + 8) 1202 [some (.ref s0), some (.ref x), some (.ref m), some (.int (nI i))] []) : V K Qf T N P I R kc ks 658 [some (.ref s0), some (.ref x), some (.ref m), some (.int (nI i))] [] := by
  refine v_aload_1 dL_law_658 rfl ?_
  refine v_aload_0 dL_law_659 rfl ?_
  refine v_iload_3 dL_law_660 rfl ?_
  refine v_iconst (v := 1) dL_law_661 rfl rfl ?_
  refine v_iadd dL_law_662 rfl ?_
  refine v_sld hX (lsi _ 1 rfl) (by omega) hl h1 dL_law_663 rfl ?_
  refine v_aload_0 dL_law_664 rfl ?_
  refine v_iload_3 dL_law_665 rfl ?_
  refine v_iconst (v := 2) dL_law_666 rfl rfl ?_
  refine v_iadd dL_law_667 rfl ?_
  refine v_sld hX (lsi _ 2 rfl) (by omega) hl h2 dL_law_668 rfl ?_
  refine v_aload_0 dL_law_669 rfl ?_
  refine v_iload_3 dL_law_670 rfl ?_
  refine v_iconst (v := 3) dL_law_671 rfl rfl ?_
  refine v_iadd dL_law_672 rfl ?_
  refine v_sld hX (lsi _ 3 rfl) (by omega) hl h3 dL_law_673 rfl ?_
  refine v_aload_0 dL_law_674 rfl ?_
  refine v_iload_3 dL_law_675 rfl ?_
  refine v_iconst (v := 4) dL_law_676 rfl rfl ?_
  refine v_iadd dL_law_677 rfl ?_
  refine v_sld hX (lsi _ 4 rfl) (by omega) hl h4 dL_law_678 rfl ?_
  refine v_nz dL_law_679 dL_law_682 dL_law_683 dL_law_686 rfl ?_
  refine v_aload_0 dL_law_687 rfl ?_
  refine v_iload_3 dL_law_688 rfl ?_
  refine v_iconst (v := 5) dL_law_689 rfl rfl ?_
  refine v_iadd dL_law_690 rfl ?_
  refine v_sld hX (lsi _ 5 rfl) (by omega) hl h5 dL_law_691 rfl ?_
  refine v_callV (ci := 10) (F := TX10) (hc) yy_X10_route im_X10_route se_X10_route lk_L_61 hS.1.1.1 (zle rfl) rfl (zle rfl) (zle rfl) (Nat.le_trans (Nat.le_add_right _ _) e1) (Nat.le_trans (Nat.le_add_right _ _) e2) rfl rfl (zle rfl) dL_law_692 rfl (fun v1 T1 N1 P1 I1 R1 hq1 => ?_)
  obtain ⟨rfl, ⟨b1, hC1⟩, hM1, hf1, hr1⟩ := hS.c hq1
  refine v_aload_2 dL_law_695 rfl ?_
  refine v_aload_0 dL_law_696 rfl ?_
  refine v_iload_3 dL_law_697 rfl ?_
  refine v_iconst (v := 1) dL_law_698 rfl rfl ?_
  refine v_iadd dL_law_699 rfl ?_
  refine v_sld hX (lsi _ 1 rfl) (by omega) hl h1 dL_law_700 rfl ?_
  refine v_aload_0 dL_law_701 rfl ?_
  refine v_iload_3 dL_law_702 rfl ?_
  refine v_iconst (v := 2) dL_law_703 rfl rfl ?_
  refine v_iadd dL_law_704 rfl ?_
  refine v_sld hX (lsi _ 2 rfl) (by omega) hl h2 dL_law_705 rfl ?_
  refine v_aload_0 dL_law_706 rfl ?_
  refine v_iload_3 dL_law_707 rfl ?_
  refine v_iconst (v := 3) dL_law_708 rfl rfl ?_
  refine v_iadd dL_law_709 rfl ?_
  refine v_sld hX (lsi _ 3 rfl) (by omega) hl h3 dL_law_710 rfl ?_
  refine v_aload_0 dL_law_711 rfl ?_
  refine v_iload_3 dL_law_712 rfl ?_
  refine v_iconst (v := 4) dL_law_713 rfl rfl ?_
  refine v_iadd dL_law_714 rfl ?_
  refine v_sld hX (lsi _ 4 rfl) (by omega) hl h4 dL_law_715 rfl ?_
  refine v_nz dL_law_716 dL_law_719 dL_law_720 dL_law_723 rfl ?_
  refine v_aload_0 dL_law_724 rfl ?_
  refine v_iload_3 dL_law_725 rfl ?_
  refine v_iconst (v := 5) dL_law_726 rfl rfl ?_
  refine v_iadd dL_law_727 rfl ?_
  refine v_sld hX (lsi _ 5 rfl) (by omega) hl h5 dL_law_728 rfl ?_
  refine v_callV (ci := 11) (F := TX11) (hm T1 N1 P1 I1 R1 hM1 hf1 hr1) yy_X11_route im_X11_route se_X11_route lk_L_64 hM1.1 (zle rfl) rfl (zle rfl) (zle rfl) e1 e2 rfl rfl (zle rfl) dL_law_729 rfl (fun v2 T2 N2 P2 I2 R2 hq2 => ?_)
  obtain ⟨rfl, hS2⟩ := LB.m hC1 hM1 hq2 hI2
  refine v_icmp_eq_t (n := 1202) rfl dL_law_732 (by decide) ?_
  exact kk T2 N2 P2 I2 R2 b1 hS2
theorem L_walker {E : zE} {nm : String} {K : zK E (yL nm) code 4 ret room_1} {Qf : State → Prop} {T : zT} {N : zN} {P : zP} {I : zI} {R : zR} {s0 L i x m : Nat} {xs : Nat → Int32} {ad : Nat → Nat} {b : Nat → Nat → Nat} {g : Nat} {f : zf} {r : zg} {kc ks : Nat} {w1 w2 : Int32} {o : zO} {g' : Nat} (hX : zSc K s0 L xs) (hl : L < 2 ^ 31) (hi : i + 5 < L) (h1 : xs (i + 1) = w1) (h2 : xs (i + 2) = w2) (hS : LB T N P I R x m ad b g f r) (hc : zC E yX10_walker cX10_walker 5 (some .int) (zrm 4 95 1 9) [.ref x, .int w1, .int (zb (¬ w2 = 0))] T N P I R (cQ x (Mnn m ad) g' T N P I R o)) (hm : ∀ (T : zT) (N : zN) (P : zP) (I : zI) (R : zR), MOK T P m ad → mf N m = f → mr I ad = r → zC E yX11_walker cX11_walker 5 (some .int) (zr0 3 77) [.ref m, .int w1, .int (zb (¬ w2 = 0))] T N P I R (mQ m ad T N P I R o)) (hI2 : Inv o.2.1 o.2.2) (e1 : kc + 1 + 0 ≤ 600000) (e2 : ks + 9 + 0 ≤ 7302250)
    (kk : ∀ (T : zT) (N : zN) (P : zP) (I : zI) (R : zR) (b : Nat → Nat → Nat), LB T N P I R x m ad b g' o.2.1 o.2.2 → V K Qf T N P I R (kc + 1 + 0) (ks + 9 + 0) 1202 [some (.ref s0), some (.ref x), some (.ref m), some (.int (nI i))] []) : V K Qf T N P I R kc ks 737 [some (.ref s0), some (.ref x), some (.ref m), some (.int (nI i))] [] := by
  refine v_aload_1 dL_law_737 rfl ?_
  refine v_aload_0 dL_law_738 rfl ?_
  refine v_iload_3 dL_law_739 rfl ?_
  refine v_iconst (v := 1) dL_law_740 rfl rfl ?_
  refine v_iadd dL_law_741 rfl ?_
  refine v_sld hX (lsi _ 1 rfl) (by omega) hl h1 dL_law_742 rfl ?_
  refine v_aload_0 dL_law_743 rfl ?_
  refine v_iload_3 dL_law_744 rfl ?_
  refine v_iconst (v := 2) dL_law_745 rfl rfl ?_
  refine v_iadd dL_law_746 rfl ?_
  refine v_sld hX (lsi _ 2 rfl) (by omega) hl h2 dL_law_747 rfl ?_
  refine v_nz dL_law_748 dL_law_751 dL_law_752 dL_law_755 rfl ?_
  refine v_callV (ci := 10) (F := TX10) (hc) yy_X10_walker im_X10_walker se_X10_walker lk_L_65 hS.1.1.1 (zle rfl) rfl (zle rfl) (zle rfl) (Nat.le_trans (Nat.le_add_right _ _) e1) (Nat.le_trans (Nat.le_add_right _ _) e2) rfl rfl (zle rfl) dL_law_756 rfl (fun v1 T1 N1 P1 I1 R1 hq1 => ?_)
  obtain ⟨rfl, ⟨b1, hC1⟩, hM1, hf1, hr1⟩ := hS.c hq1
  refine v_aload_2 dL_law_759 rfl ?_
  refine v_aload_0 dL_law_760 rfl ?_
  refine v_iload_3 dL_law_761 rfl ?_
  refine v_iconst (v := 1) dL_law_762 rfl rfl ?_
  refine v_iadd dL_law_763 rfl ?_
  refine v_sld hX (lsi _ 1 rfl) (by omega) hl h1 dL_law_764 rfl ?_
  refine v_aload_0 dL_law_765 rfl ?_
  refine v_iload_3 dL_law_766 rfl ?_
  refine v_iconst (v := 2) dL_law_767 rfl rfl ?_
  refine v_iadd dL_law_768 rfl ?_
  refine v_sld hX (lsi _ 2 rfl) (by omega) hl h2 dL_law_769 rfl ?_
  refine v_nz dL_law_770 dL_law_773 dL_law_774 dL_law_777 rfl ?_
  refine v_callV (ci := 11) (F := TX11) (hm T1 N1 P1 I1 R1 hM1 hf1 hr1) yy_X11_walker im_X11_walker se_X11_walker lk_L_69 hM1.1 (zle rfl) rfl (zle rfl) (zle rfl) e1 e2 rfl rfl (zle rfl) dL_law_778 rfl (fun v2 T2 N2 P2 I2 R2 hq2 => ?_)
  obtain ⟨rfl, hS2⟩ := LB.m hC1 hM1 hq2 hI2
  refine v_icmp_eq_t (n := 1202) rfl dL_law_781 (by decide) ?_
  exact kk T2 N2 P2 I2 R2 b1 hS2
theorem L_today {E : zE} {nm : String} {K : zK E (yL nm) code 4 ret room_1} {Qf : State → Prop} {T : zT} {N : zN} {P : zP} {I : zI} {R : zR} {s0 L i x m : Nat} {xs : Nat → Int32} {ad : Nat → Nat} {b : Nat → Nat → Nat} {g : Nat} {f : zf} {r : zg} {kc ks : Nat} {w1 : Int32} {o : zO} {g' : Nat} (hX : zSc K s0 L xs) (hl : L < 2 ^ 31) (hi : i + 5 < L) (h1 : xs (i + 1) = w1) (hS : LB T N P I R x m ad b g f r) (hc : zC E yX10_today cX10_today 4 (some .int) (zr0 3 73) [.ref x, .int w1] T N P I R (cQ x (Mnn m ad) g' T N P I R o)) (hm : ∀ (T : zT) (N : zN) (P : zP) (I : zI) (R : zR), MOK T P m ad → mf N m = f → mr I ad = r → zC E yX11_today cX11_today 5 (some .int) (zr0 3 77) [.ref m, .int w1] T N P I R (mQ m ad T N P I R o)) (hI2 : Inv o.2.1 o.2.2) (e1 : kc + 0 + 0 ≤ 600000) (e2 : ks + 0 + 0 ≤ 7302250)
    (kk : ∀ (T : zT) (N : zN) (P : zP) (I : zI) (R : zR) (b : Nat → Nat → Nat), LB T N P I R x m ad b g' o.2.1 o.2.2 → V K Qf T N P I R (kc + 0 + 0) (ks + 0 + 0) 1202 [some (.ref s0), some (.ref x), some (.ref m), some (.int (nI i))] []) : V K Qf T N P I R kc ks 786 [some (.ref s0), some (.ref x), some (.ref m), some (.int (nI i))] [] := by
  refine v_aload_1 dL_law_786 rfl ?_
  refine v_aload_0 dL_law_787 rfl ?_
  refine v_iload_3 dL_law_788 rfl ?_
  refine v_iconst (v := 1) dL_law_789 rfl rfl ?_
  refine v_iadd dL_law_790 rfl ?_
  refine v_sld hX (lsi _ 1 rfl) (by omega) hl h1 dL_law_791 rfl ?_
  refine v_callV (ci := 10) (F := TX10) (hc) yy_X10_today im_X10_today se_X10_today lk_L_70 hS.1.1.1 (zle rfl) rfl (zle rfl) (zle rfl) (Nat.le_trans (Nat.le_add_right _ _) e1) (Nat.le_trans (Nat.le_add_right _ _) e2) rfl rfl (zle rfl) dL_law_792 rfl (fun v1 T1 N1 P1 I1 R1 hq1 => ?_)
  obtain ⟨rfl, ⟨b1, hC1⟩, hM1, hf1, hr1⟩ := hS.c hq1
  refine v_aload_2 dL_law_795 rfl ?_
  refine v_aload_0 dL_law_796 rfl ?_
  refine v_iload_3 dL_law_797 rfl ?_
  refine v_iconst (v := 1) dL_law_798 rfl rfl ?_
  refine v_iadd dL_law_799 rfl ?_
  refine v_sld hX (lsi _ 1 rfl) (by omega) hl h1 dL_law_800 rfl ?_
  refine v_callV (ci := 11) (F := TX11) (hm T1 N1 P1 I1 R1 hM1 hf1 hr1) yy_X11_today im_X11_today se_X11_today lk_L_74 hM1.1 (zle rfl) rfl (zle rfl) (zle rfl) e1 e2 rfl rfl (zle rfl) dL_law_801 rfl (fun v2 T2 N2 P2 I2 R2 hq2 => ?_)
  obtain ⟨rfl, hS2⟩ := LB.m hC1 hM1 hq2 hI2
  refine v_icmp_eq_t (n := 1202) rfl dL_law_804 (by decide) ?_
  exact kk T2 N2 P2 I2 R2 b1 hS2
theorem L_go {E : zE} {nm : String} {K : zK E (yL nm) code 4 ret room_1} {Qf : State → Prop} {T : zT} {N : zN} {P : zP} {I : zI} {R : zR} {s0 L i x m : Nat} {xs : Nat → Int32} {ad : Nat → Nat} {b : Nat → Nat → Nat} {g : Nat} {f : zf} {r : zg} {kc ks : Nat} {w1 w2 : Int32} {o : zO} {g' : Nat} (hX : zSc K s0 L xs) (hl : L < 2 ^ 31) (hi : i + 5 < L) (h1 : xs (i + 1) = w1) (h2 : xs (i + 2) = w2) (hS : LB T N P I R x m ad b g f r) (hc : zC E yX10_go cX10_go 5 (some .int) (zr0 4 95) [.ref x, .int w1, .int w2] T N P I R (cQ x (Mnn m ad) g' T N P I R o)) (hm : ∀ (T : zT) (N : zN) (P : zP) (I : zI) (R : zR), MOK T P m ad → mf N m = f → mr I ad = r → zC E yX11_go cX11_go 4 (some .int) (zr0 4 99) [.ref m, .int w1, .int w2] T N P I R (mQ m ad T N P I R o)) (hI2 : Inv o.2.1 o.2.2) (e1 : kc + 0 + 0 ≤ 600000) (e2 : ks + 0 + 0 ≤ 7302250)
    (kk : ∀ (T : zT) (N : zN) (P : zP) (I : zI) (R : zR) (b : Nat → Nat → Nat), LB T N P I R x m ad b g' o.2.1 o.2.2 → V K Qf T N P I R (kc + 0 + 0) (ks + 0 + 0) 1202 [some (.ref s0), some (.ref x), some (.ref m), some (.int (nI i))] []) : V K Qf T N P I R kc ks 809 [some (.ref s0), some (.ref x), some (.ref m), some (.int (nI i))] [] := by
  refine v_aload_1 dL_law_809 rfl ?_
  refine v_aload_0 dL_law_810 rfl ?_
  refine v_iload_3 dL_law_811 rfl ?_
  refine v_iconst (v := 1) dL_law_812 rfl rfl ?_
  refine v_iadd dL_law_813 rfl ?_
  refine v_sld hX (lsi _ 1 rfl) (by omega) hl h1 dL_law_814 rfl ?_
  refine v_aload_0 dL_law_815 rfl ?_
  refine v_iload_3 dL_law_816 rfl ?_
  refine v_iconst (v := 2) dL_law_817 rfl rfl ?_
  refine v_iadd dL_law_818 rfl ?_
  refine v_sld hX (lsi _ 2 rfl) (by omega) hl h2 dL_law_819 rfl ?_
  refine v_callV (ci := 10) (F := TX10) (hc) yy_X10_go im_X10_go se_X10_go lk_L_75 hS.1.1.1 (zle rfl) rfl (zle rfl) (zle rfl) (Nat.le_trans (Nat.le_add_right _ _) e1) (Nat.le_trans (Nat.le_add_right _ _) e2) rfl rfl (zle rfl) dL_law_820 rfl (fun v1 T1 N1 P1 I1 R1 hq1 => ?_)
  obtain ⟨rfl, ⟨b1, hC1⟩, hM1, hf1, hr1⟩ := hS.c hq1
  refine v_aload_2 dL_law_823 rfl ?_
  refine v_aload_0 dL_law_824 rfl ?_
  refine v_iload_3 dL_law_825 rfl ?_
  refine v_iconst (v := 1) dL_law_826 rfl rfl ?_
  refine v_iadd dL_law_827 rfl ?_
  refine v_sld hX (lsi _ 1 rfl) (by omega) hl h1 dL_law_828 rfl ?_
  refine v_aload_0 dL_law_829 rfl ?_
  refine v_iload_3 dL_law_830 rfl ?_
  refine v_iconst (v := 2) dL_law_831 rfl rfl ?_
  refine v_iadd dL_law_832 rfl ?_
  refine v_sld hX (lsi _ 2 rfl) (by omega) hl h2 dL_law_833 rfl ?_
  refine v_callV (ci := 11) (F := TX11) (hm T1 N1 P1 I1 R1 hM1 hf1 hr1) yy_X11_go im_X11_go se_X11_go lk_L_78 hM1.1 (zle rfl) rfl (zle rfl) (zle rfl) e1 e2 rfl rfl (zle rfl) dL_law_834 rfl (fun v2 T2 N2 P2 I2 R2 hq2 => ?_)
  obtain ⟨rfl, hS2⟩ := LB.m hC1 hM1 hq2 hI2
  refine v_icmp_eq_t (n := 1202) rfl dL_law_837 (by decide) ?_
  exact kk T2 N2 P2 I2 R2 b1 hS2
theorem L_about {E : zE} {nm : String} {K : zK E (yL nm) code 4 ret room_1} {Qf : State → Prop} {T : zT} {N : zN} {P : zP} {I : zI} {R : zR} {s0 L i x m : Nat} {xs : Nat → Int32} {ad : Nat → Nat} {b : Nat → Nat → Nat} {g : Nat} {f : zf} {r : zg} {kc ks : Nat} {w1 w2 : Int32} {o : zO} {g' : Nat} (hX : zSc K s0 L xs) (hl : L < 2 ^ 31) (hi : i + 5 < L) (h1 : xs (i + 1) = w1) (h2 : xs (i + 2) = w2) (hS : LB T N P I R x m ad b g f r) (hc : zC E yX10_about cX10_about 4 (some .int) (zr0 2 43) [.ref x, .int w1, .int w2] T N P I R (cQ x (Mnn m ad) g' T N P I R o)) (hm : ∀ (T : zT) (N : zN) (P : zP) (I : zI) (R : zR), MOK T P m ad → mf N m = f → mr I ad = r → zC E yX11_about cX11_about 3 (some .int) (zr0 2 45) [.ref m, .int w1, .int w2] T N P I R (mQ m ad T N P I R o)) (hI2 : Inv o.2.1 o.2.2) (e1 : kc + 0 + 0 ≤ 600000) (e2 : ks + 0 + 0 ≤ 7302250)
    (kk : ∀ (T : zT) (N : zN) (P : zP) (I : zI) (R : zR) (b : Nat → Nat → Nat), LB T N P I R x m ad b g' o.2.1 o.2.2 → V K Qf T N P I R (kc + 0 + 0) (ks + 0 + 0) 1202 [some (.ref s0), some (.ref x), some (.ref m), some (.int (nI i))] []) : V K Qf T N P I R kc ks 842 [some (.ref s0), some (.ref x), some (.ref m), some (.int (nI i))] [] := by
  refine v_aload_1 dL_law_842 rfl ?_
  refine v_aload_0 dL_law_843 rfl ?_
  refine v_iload_3 dL_law_844 rfl ?_
  refine v_iconst (v := 1) dL_law_845 rfl rfl ?_
  refine v_iadd dL_law_846 rfl ?_
  refine v_sld hX (lsi _ 1 rfl) (by omega) hl h1 dL_law_847 rfl ?_
  refine v_aload_0 dL_law_848 rfl ?_
  refine v_iload_3 dL_law_849 rfl ?_
  refine v_iconst (v := 2) dL_law_850 rfl rfl ?_
  refine v_iadd dL_law_851 rfl ?_
  refine v_sld hX (lsi _ 2 rfl) (by omega) hl h2 dL_law_852 rfl ?_
  refine v_callV (ci := 10) (F := TX10) (hc) yy_X10_about im_X10_about se_X10_about lk_L_79 hS.1.1.1 (zle rfl) rfl (zle rfl) (zle rfl) (Nat.le_trans (Nat.le_add_right _ _) e1) (Nat.le_trans (Nat.le_add_right _ _) e2) rfl rfl (zle rfl) dL_law_853 rfl (fun v1 T1 N1 P1 I1 R1 hq1 => ?_)
  obtain ⟨rfl, ⟨b1, hC1⟩, hM1, hf1, hr1⟩ := hS.c hq1
  refine v_aload_2 dL_law_856 rfl ?_
  refine v_aload_0 dL_law_857 rfl ?_
  refine v_iload_3 dL_law_858 rfl ?_
  refine v_iconst (v := 1) dL_law_859 rfl rfl ?_
  refine v_iadd dL_law_860 rfl ?_
  refine v_sld hX (lsi _ 1 rfl) (by omega) hl h1 dL_law_861 rfl ?_
  refine v_aload_0 dL_law_862 rfl ?_
  refine v_iload_3 dL_law_863 rfl ?_
  refine v_iconst (v := 2) dL_law_864 rfl rfl ?_
  refine v_iadd dL_law_865 rfl ?_
  refine v_sld hX (lsi _ 2 rfl) (by omega) hl h2 dL_law_866 rfl ?_
  refine v_callV (ci := 11) (F := TX11) (hm T1 N1 P1 I1 R1 hM1 hf1 hr1) yy_X11_about im_X11_about se_X11_about lk_L_82 hM1.1 (zle rfl) rfl (zle rfl) (zle rfl) e1 e2 rfl rfl (zle rfl) dL_law_867 rfl (fun v2 T2 N2 P2 I2 R2 hq2 => ?_)
  obtain ⟨rfl, hS2⟩ := LB.m hC1 hM1 hq2 hI2
  refine v_icmp_eq_t (n := 1202) rfl dL_law_870 (by decide) ?_
  exact kk T2 N2 P2 I2 R2 b1 hS2
theorem L_offer {E : zE} {nm : String} {K : zK E (yL nm) code 4 ret room_1} {Qf : State → Prop} {T : zT} {N : zN} {P : zP} {I : zI} {R : zR} {s0 L i x m : Nat} {xs : Nat → Int32} {ad : Nat → Nat} {b : Nat → Nat → Nat} {g : Nat} {f : zf} {r : zg} {kc ks : Nat} {w1 : Int32} {o : zO} {g' c9 s9 : Nat} (hX : zSc K s0 L xs) (hl : L < 2 ^ 31) (hi : i + 5 < L) (h1 : xs (i + 1) = w1) (hS : LB T N P I R x m ad b g f r) (hc : zC E yX10_offer cX10_offer 4 (some .int) (zrm 6 145 c9 s9) [.ref x, .int w1] T N P I R (cQ x (Mnn m ad) g' T N P I R o)) (hm : ∀ (T : zT) (N : zN) (P : zP) (I : zI) (R : zR), MOK T P m ad → mf N m = f → mr I ad = r → zC E yX11_offer cX11_offer 9 (some .int) (zrm 3 80 1 8) [.ref m, .int w1] T N P I R (mQ m ad T N P I R o)) (hI2 : Inv o.2.1 o.2.2) (e1 : kc + c9 + 1 ≤ 600000) (e2 : ks + s9 + 8 ≤ 7302250)
    (kk : ∀ (T : zT) (N : zN) (P : zP) (I : zI) (R : zR) (b : Nat → Nat → Nat), LB T N P I R x m ad b g' o.2.1 o.2.2 → V K Qf T N P I R (kc + c9 + 1) (ks + s9 + 8) 1202 [some (.ref s0), some (.ref x), some (.ref m), some (.int (nI i))] []) : V K Qf T N P I R kc ks 875 [some (.ref s0), some (.ref x), some (.ref m), some (.int (nI i))] [] := by
  refine v_aload_1 dL_law_875 rfl ?_
  refine v_aload_0 dL_law_876 rfl ?_
  refine v_iload_3 dL_law_877 rfl ?_
  refine v_iconst (v := 1) dL_law_878 rfl rfl ?_
  refine v_iadd dL_law_879 rfl ?_
  refine v_sld hX (lsi _ 1 rfl) (by omega) hl h1 dL_law_880 rfl ?_
  refine v_callV (ci := 10) (F := TX10) (hc) yy_X10_offer im_X10_offer se_X10_offer lk_L_83 hS.1.1.1 (zle rfl) rfl (zle rfl) (zle rfl) (Nat.le_trans (Nat.le_add_right _ _) e1) (Nat.le_trans (Nat.le_add_right _ _) e2) rfl rfl (zle rfl) dL_law_881 rfl (fun v1 T1 N1 P1 I1 R1 hq1 => ?_)
  obtain ⟨rfl, ⟨b1, hC1⟩, hM1, hf1, hr1⟩ := hS.c hq1
  refine v_aload_2 dL_law_884 rfl ?_
  refine v_aload_0 dL_law_885 rfl ?_
  refine v_iload_3 dL_law_886 rfl ?_
  refine v_iconst (v := 1) dL_law_887 rfl rfl ?_
  refine v_iadd dL_law_888 rfl ?_
  refine v_sld hX (lsi _ 1 rfl) (by omega) hl h1 dL_law_889 rfl ?_
  refine v_callV (ci := 11) (F := TX11) (hm T1 N1 P1 I1 R1 hM1 hf1 hr1) yy_X11_offer im_X11_offer se_X11_offer lk_L_86 hM1.1 (zle rfl) rfl (zle rfl) (zle rfl) e1 e2 rfl rfl (zle rfl) dL_law_890 rfl (fun v2 T2 N2 P2 I2 R2 hq2 => ?_)
  obtain ⟨rfl, hS2⟩ := LB.m hC1 hM1 hq2 hI2
  refine v_icmp_eq_t (n := 1202) rfl dL_law_893 (by decide) ?_
  exact kk T2 N2 P2 I2 R2 b1 hS2
theorem L_rest {E : zE} {nm : String} {K : zK E (yL nm) code 4 ret room_1} {Qf : State → Prop} {T : zT} {N : zN} {P : zP} {I : zI} {R : zR} {s0 L i x m : Nat} {xs : Nat → Int32} {ad : Nat → Nat} {b : Nat → Nat → Nat} {g : Nat} {f : zf} {r : zg} {kc ks : Nat} {w1 : Int32} {o : zO} {g' c9 s9 : Nat} (hX : zSc K s0 L xs) (hl : L < 2 ^ 31) (hi : i + 5 < L) (h1 : xs (i + 1) = w1) (hS : LB T N P I R x m ad b g f r) (hc : zC E yX10_rest cX10_rest 3 (some .int) (zrm 6 145 c9 s9) [.ref x, .int w1] T N P I R (cQ x (Mnn m ad) g' T N P I R o)) (hm : ∀ (T : zT) (N : zN) (P : zP) (I : zI) (R : zR), MOK T P m ad → mf N m = f → mr I ad = r → zC E yX11_rest cX11_rest 3 (some .int) (zrm 3 80 1 8) [.ref m, .int w1] T N P I R (mQ m ad T N P I R o)) (hI2 : Inv o.2.1 o.2.2) (e1 : kc + c9 + 1 ≤ 600000) (e2 : ks + s9 + 8 ≤ 7302250)
    (kk : ∀ (T : zT) (N : zN) (P : zP) (I : zI) (R : zR) (b : Nat → Nat → Nat), LB T N P I R x m ad b g' o.2.1 o.2.2 → V K Qf T N P I R (kc + c9 + 1) (ks + s9 + 8) 1202 [some (.ref s0), some (.ref x), some (.ref m), some (.int (nI i))] []) : V K Qf T N P I R kc ks 898 [some (.ref s0), some (.ref x), some (.ref m), some (.int (nI i))] [] := by
  refine v_aload_1 dL_law_898 rfl ?_
  refine v_aload_0 dL_law_899 rfl ?_
  refine v_iload_3 dL_law_900 rfl ?_
  refine v_iconst (v := 1) dL_law_901 rfl rfl ?_
  refine v_iadd dL_law_902 rfl ?_
  refine v_sld hX (lsi _ 1 rfl) (by omega) hl h1 dL_law_903 rfl ?_
  refine v_callV (ci := 10) (F := TX10) (hc) yy_X10_rest im_X10_rest se_X10_rest lk_L_87 hS.1.1.1 (zle rfl) rfl (zle rfl) (zle rfl) (Nat.le_trans (Nat.le_add_right _ _) e1) (Nat.le_trans (Nat.le_add_right _ _) e2) rfl rfl (zle rfl) dL_law_904 rfl (fun v1 T1 N1 P1 I1 R1 hq1 => ?_)
  obtain ⟨rfl, ⟨b1, hC1⟩, hM1, hf1, hr1⟩ := hS.c hq1
  refine v_aload_2 dL_law_907 rfl ?_
  refine v_aload_0 dL_law_908 rfl ?_
  refine v_iload_3 dL_law_909 rfl ?_
  refine v_iconst (v := 1) dL_law_910 rfl rfl ?_
  refine v_iadd dL_law_911 rfl ?_
  refine v_sld hX (lsi _ 1 rfl) (by omega) hl h1 dL_law_912 rfl ?_
  refine v_callV (ci := 11) (F := TX11) (hm T1 N1 P1 I1 R1 hM1 hf1 hr1) yy_X11_rest im_X11_rest se_X11_rest lk_L_90 hM1.1 (zle rfl) rfl (zle rfl) (zle rfl) e1 e2 rfl rfl (zle rfl) dL_law_913 rfl (fun v2 T2 N2 P2 I2 R2 hq2 => ?_)
  obtain ⟨rfl, hS2⟩ := LB.m hC1 hM1 hq2 hI2
  refine v_icmp_eq_t (n := 1202) rfl dL_law_916 (by decide) ?_
  exact kk T2 N2 P2 I2 R2 b1 hS2
theorem L_lost {E : zE} {nm : String} {K : zK E (yL nm) code 4 ret room_1} {Qf : State → Prop} {T : zT} {N : zN} {P : zP} {I : zI} {R : zR} {s0 L i x m : Nat} {xs : Nat → Int32} {ad : Nat → Nat} {b : Nat → Nat → Nat} {g : Nat} {f : zf} {r : zg} {kc ks : Nat} {w1 : Int32} {o : zO} {g' c9 s9 : Nat} (hX : zSc K s0 L xs) (hl : L < 2 ^ 31) (hi : i + 5 < L) (h1 : xs (i + 1) = w1) (hS : LB T N P I R x m ad b g f r) (hc : zC E yX10_lost cX10_lost 3 (some .int) (zrm 6 145 c9 s9) [.ref x, .int w1] T N P I R (cQ x (Mnn m ad) g' T N P I R o)) (hm : ∀ (T : zT) (N : zN) (P : zP) (I : zI) (R : zR), MOK T P m ad → mf N m = f → mr I ad = r → zC E yX11_lost cX11_lost 2 (some .int) (zr0 3 82) [.ref m, .int w1] T N P I R (mQ m ad T N P I R o)) (hI2 : Inv o.2.1 o.2.2) (e1 : kc + c9 + 0 ≤ 600000) (e2 : ks + s9 + 0 ≤ 7302250)
    (kk : ∀ (T : zT) (N : zN) (P : zP) (I : zI) (R : zR) (b : Nat → Nat → Nat), LB T N P I R x m ad b g' o.2.1 o.2.2 → V K Qf T N P I R (kc + c9 + 0) (ks + s9 + 0) 1202 [some (.ref s0), some (.ref x), some (.ref m), some (.int (nI i))] []) : V K Qf T N P I R kc ks 921 [some (.ref s0), some (.ref x), some (.ref m), some (.int (nI i))] [] := by
  refine v_aload_1 dL_law_921 rfl ?_
  refine v_aload_0 dL_law_922 rfl ?_
  refine v_iload_3 dL_law_923 rfl ?_
  refine v_iconst (v := 1) dL_law_924 rfl rfl ?_
  refine v_iadd dL_law_925 rfl ?_
  refine v_sld hX (lsi _ 1 rfl) (by omega) hl h1 dL_law_926 rfl ?_
  refine v_callV (ci := 10) (F := TX10) (hc) yy_X10_lost im_X10_lost se_X10_lost lk_L_91 hS.1.1.1 (zle rfl) rfl (zle rfl) (zle rfl) (Nat.le_trans (Nat.le_add_right _ _) e1) (Nat.le_trans (Nat.le_add_right _ _) e2) rfl rfl (zle rfl) dL_law_927 rfl (fun v1 T1 N1 P1 I1 R1 hq1 => ?_)
  obtain ⟨rfl, ⟨b1, hC1⟩, hM1, hf1, hr1⟩ := hS.c hq1
  refine v_aload_2 dL_law_930 rfl ?_
  refine v_aload_0 dL_law_931 rfl ?_
  refine v_iload_3 dL_law_932 rfl ?_
  refine v_iconst (v := 1) dL_law_933 rfl rfl ?_
  refine v_iadd dL_law_934 rfl ?_
  refine v_sld hX (lsi _ 1 rfl) (by omega) hl h1 dL_law_935 rfl ?_
  refine v_callV (ci := 11) (F := TX11) (hm T1 N1 P1 I1 R1 hM1 hf1 hr1) yy_X11_lost im_X11_lost se_X11_lost lk_L_94 hM1.1 (zle rfl) rfl (zle rfl) (zle rfl) e1 e2 rfl rfl (zle rfl) dL_law_936 rfl (fun v2 T2 N2 P2 I2 R2 hq2 => ?_)
  obtain ⟨rfl, hS2⟩ := LB.m hC1 hM1 hq2 hI2
  refine v_icmp_eq_t (n := 1202) rfl dL_law_939 (by decide) ?_
  exact kk T2 N2 P2 I2 R2 b1 hS2
theorem L_seen {E : zE} {nm : String} {K : zK E (yL nm) code 4 ret room_1} {Qf : State → Prop} {T : zT} {N : zN} {P : zP} {I : zI} {R : zR} {s0 L i x m : Nat} {xs : Nat → Int32} {ad : Nat → Nat} {b : Nat → Nat → Nat} {g : Nat} {f : zf} {r : zg} {kc ks : Nat} {w1 w2 w3 w4 : Int32} {o : zO} {g' : Nat} (hX : zSc K s0 L xs) (hl : L < 2 ^ 31) (hi : i + 5 < L) (h1 : xs (i + 1) = w1) (h2 : xs (i + 2) = w2) (h3 : xs (i + 3) = w3) (h4 : xs (i + 4) = w4) (hS : LB T N P I R x m ad b g f r) (hc : zC E yX10_seen cX10_seen 6 (some .int) (zr0 6 145) [.ref x, .int w1, .int w2, .int w3, .int w4] T N P I R (cQ x (Mnn m ad) g' T N P I R o)) (hm : ∀ (T : zT) (N : zN) (P : zP) (I : zI) (R : zR), MOK T P m ad → mf N m = f → mr I ad = r → zC E yX11_seen cX11_seen 5 (some .int) (zr0 5 126) [.ref m, .int w1, .int w2, .int w3, .int w4] T N P I R (mQ m ad T N P I R o)) (hI2 : Inv o.2.1 o.2.2) (e1 : kc + 0 + 0 ≤ 600000) (e2 : ks + 0 + 0 ≤ 7302250)
    (kk : ∀ (T : zT) (N : zN) (P : zP) (I : zI) (R : zR) (b : Nat → Nat → Nat), LB T N P I R x m ad b g' o.2.1 o.2.2 → V K Qf T N P I R (kc + 0 + 0) (ks + 0 + 0) 1202 [some (.ref s0), some (.ref x), some (.ref m), some (.int (nI i))] []) : V K Qf T N P I R kc ks 944 [some (.ref s0), some (.ref x), some (.ref m), some (.int (nI i))] [] := by
  refine v_aload_1 dL_law_944 rfl ?_
  refine v_aload_0 dL_law_945 rfl ?_
  refine v_iload_3 dL_law_946 rfl ?_
  refine v_iconst (v := 1) dL_law_947 rfl rfl ?_
  refine v_iadd dL_law_948 rfl ?_
  refine v_sld hX (lsi _ 1 rfl) (by omega) hl h1 dL_law_949 rfl ?_
  refine v_aload_0 dL_law_950 rfl ?_
  refine v_iload_3 dL_law_951 rfl ?_
  refine v_iconst (v := 2) dL_law_952 rfl rfl ?_
  refine v_iadd dL_law_953 rfl ?_
  refine v_sld hX (lsi _ 2 rfl) (by omega) hl h2 dL_law_954 rfl ?_
  refine v_aload_0 dL_law_955 rfl ?_
  refine v_iload_3 dL_law_956 rfl ?_
  refine v_iconst (v := 3) dL_law_957 rfl rfl ?_
  refine v_iadd dL_law_958 rfl ?_
  refine v_sld hX (lsi _ 3 rfl) (by omega) hl h3 dL_law_959 rfl ?_
  refine v_aload_0 dL_law_960 rfl ?_
  refine v_iload_3 dL_law_961 rfl ?_
  refine v_iconst (v := 4) dL_law_962 rfl rfl ?_
  refine v_iadd dL_law_963 rfl ?_
  refine v_sld hX (lsi _ 4 rfl) (by omega) hl h4 dL_law_964 rfl ?_
  refine v_callV (ci := 10) (F := TX10) (hc) yy_X10_seen im_X10_seen se_X10_seen lk_L_95 hS.1.1.1 (zle rfl) rfl (zle rfl) (zle rfl) (Nat.le_trans (Nat.le_add_right _ _) e1) (Nat.le_trans (Nat.le_add_right _ _) e2) rfl rfl (zle rfl) dL_law_965 rfl (fun v1 T1 N1 P1 I1 R1 hq1 => ?_)
  obtain ⟨rfl, ⟨b1, hC1⟩, hM1, hf1, hr1⟩ := hS.c hq1
  refine v_aload_2 dL_law_968 rfl ?_
  refine v_aload_0 dL_law_969 rfl ?_
  refine v_iload_3 dL_law_970 rfl ?_
  refine v_iconst (v := 1) dL_law_971 rfl rfl ?_
  refine v_iadd dL_law_972 rfl ?_
  refine v_sld hX (lsi _ 1 rfl) (by omega) hl h1 dL_law_973 rfl ?_
  refine v_aload_0 dL_law_974 rfl ?_
  refine v_iload_3 dL_law_975 rfl ?_
  refine v_iconst (v := 2) dL_law_976 rfl rfl ?_
  refine v_iadd dL_law_977 rfl ?_
  refine v_sld hX (lsi _ 2 rfl) (by omega) hl h2 dL_law_978 rfl ?_
  refine v_aload_0 dL_law_979 rfl ?_
  refine v_iload_3 dL_law_980 rfl ?_
  refine v_iconst (v := 3) dL_law_981 rfl rfl ?_
  refine v_iadd dL_law_982 rfl ?_
  refine v_sld hX (lsi _ 3 rfl) (by omega) hl h3 dL_law_983 rfl ?_
  refine v_aload_0 dL_law_984 rfl ?_
  refine v_iload_3 dL_law_985 rfl ?_
  refine v_iconst (v := 4) dL_law_986 rfl rfl ?_
  refine v_iadd dL_law_987 rfl ?_
  refine v_sld hX (lsi _ 4 rfl) (by omega) hl h4 dL_law_988 rfl ?_
  refine v_callV (ci := 11) (F := TX11) (hm T1 N1 P1 I1 R1 hM1 hf1 hr1) yy_X11_seen im_X11_seen se_X11_seen lk_L_99 hM1.1 (zle rfl) rfl (zle rfl) (zle rfl) e1 e2 rfl rfl (zle rfl) dL_law_989 rfl (fun v2 T2 N2 P2 I2 R2 hq2 => ?_)
  obtain ⟨rfl, hS2⟩ := LB.m hC1 hM1 hq2 hI2
  refine v_icmp_eq_t (n := 1202) rfl dL_law_992 (by decide) ?_
  exact kk T2 N2 P2 I2 R2 b1 hS2
theorem L_sheet {E : zE} {nm : String} {K : zK E (yL nm) code 4 ret room_1} {Qf : State → Prop} {T : zT} {N : zN} {P : zP} {I : zI} {R : zR} {s0 L i x m : Nat} {xs : Nat → Int32} {ad : Nat → Nat} {b : Nat → Nat → Nat} {g : Nat} {f : zf} {r : zg} {kc ks : Nat} {w1 w2 w3 : Int32} {o : zO} {g' : Nat} (hX : zSc K s0 L xs) (hl : L < 2 ^ 31) (hi : i + 5 < L) (h1 : xs (i + 1) = w1) (h2 : xs (i + 2) = w2) (h3 : xs (i + 3) = w3) (hS : LB T N P I R x m ad b g f r) (hc : zC E yX10_sheet cX10_sheet 4 (some .int) (zrm 2 43 2 14) [.ref x, .int w1, .int w2, .int w3] T N P I R (cQ x (Mnn m ad) g' T N P I R o)) (hm : ∀ (T : zT) (N : zN) (P : zP) (I : zI) (R : zR), MOK T P m ad → mf N m = f → mr I ad = r → zC E yX11_sheet cX11_sheet 5 (some .int) (zr0 2 42) [.ref m, .int w1, .int w2, .int w3] T N P I R (mQ m ad T N P I R o)) (hI2 : Inv o.2.1 o.2.2) (e1 : kc + 2 + 0 ≤ 600000) (e2 : ks + 14 + 0 ≤ 7302250)
    (kk : ∀ (T : zT) (N : zN) (P : zP) (I : zI) (R : zR) (b : Nat → Nat → Nat), LB T N P I R x m ad b g' o.2.1 o.2.2 → V K Qf T N P I R (kc + 2 + 0) (ks + 14 + 0) 1202 [some (.ref s0), some (.ref x), some (.ref m), some (.int (nI i))] []) : V K Qf T N P I R kc ks 997 [some (.ref s0), some (.ref x), some (.ref m), some (.int (nI i))] [] := by
  refine v_aload_1 dL_law_997 rfl ?_
  refine v_aload_0 dL_law_998 rfl ?_
  refine v_iload_3 dL_law_999 rfl ?_
  refine v_iconst (v := 1) dL_law_1000 rfl rfl ?_
  refine v_iadd dL_law_1001 rfl ?_
  refine v_sld hX (lsi _ 1 rfl) (by omega) hl h1 dL_law_1002 rfl ?_
  refine v_aload_0 dL_law_1003 rfl ?_
  refine v_iload_3 dL_law_1004 rfl ?_
  refine v_iconst (v := 2) dL_law_1005 rfl rfl ?_
  refine v_iadd dL_law_1006 rfl ?_
  refine v_sld hX (lsi _ 2 rfl) (by omega) hl h2 dL_law_1007 rfl ?_
  refine v_aload_0 dL_law_1008 rfl ?_
  refine v_iload_3 dL_law_1009 rfl ?_
  refine v_iconst (v := 3) dL_law_1010 rfl rfl ?_
  refine v_iadd dL_law_1011 rfl ?_
  refine v_sld hX (lsi _ 3 rfl) (by omega) hl h3 dL_law_1012 rfl ?_
  refine v_callV (ci := 10) (F := TX10) (hc) yy_X10_sheet im_X10_sheet se_X10_sheet lk_L_100 hS.1.1.1 (zle rfl) rfl (zle rfl) (zle rfl) (Nat.le_trans (Nat.le_add_right _ _) e1) (Nat.le_trans (Nat.le_add_right _ _) e2) rfl rfl (zle rfl) dL_law_1013 rfl (fun v1 T1 N1 P1 I1 R1 hq1 => ?_)
  obtain ⟨rfl, ⟨b1, hC1⟩, hM1, hf1, hr1⟩ := hS.c hq1
  refine v_aload_2 dL_law_1016 rfl ?_
  refine v_aload_0 dL_law_1017 rfl ?_
  refine v_iload_3 dL_law_1018 rfl ?_
  refine v_iconst (v := 1) dL_law_1019 rfl rfl ?_
  refine v_iadd dL_law_1020 rfl ?_
  refine v_sld hX (lsi _ 1 rfl) (by omega) hl h1 dL_law_1021 rfl ?_
  refine v_aload_0 dL_law_1022 rfl ?_
  refine v_iload_3 dL_law_1023 rfl ?_
  refine v_iconst (v := 2) dL_law_1024 rfl rfl ?_
  refine v_iadd dL_law_1025 rfl ?_
  refine v_sld hX (lsi _ 2 rfl) (by omega) hl h2 dL_law_1026 rfl ?_
  refine v_aload_0 dL_law_1027 rfl ?_
  refine v_iload_3 dL_law_1028 rfl ?_
  refine v_iconst (v := 3) dL_law_1029 rfl rfl ?_
  refine v_iadd dL_law_1030 rfl ?_
  refine v_sld hX (lsi _ 3 rfl) (by omega) hl h3 dL_law_1031 rfl ?_
  refine v_callV (ci := 11) (F := TX11) (hm T1 N1 P1 I1 R1 hM1 hf1 hr1) yy_X11_sheet im_X11_sheet se_X11_sheet lk_L_103 hM1.1 (zle rfl) rfl (zle rfl) (zle rfl) e1 e2 rfl rfl (zle rfl) dL_law_1032 rfl (fun v2 T2 N2 P2 I2 R2 hq2 => ?_)
  obtain ⟨rfl, hS2⟩ := LB.m hC1 hM1 hq2 hI2
  refine v_icmp_eq_t (n := 1202) rfl dL_law_1035 (by decide) ?_
  exact kk T2 N2 P2 I2 R2 b1 hS2
theorem L_write {E : zE} {nm : String} {K : zK E (yL nm) code 4 ret room_1} {Qf : State → Prop} {T : zT} {N : zN} {P : zP} {I : zI} {R : zR} {s0 L i x m : Nat} {xs : Nat → Int32} {ad : Nat → Nat} {b : Nat → Nat → Nat} {g : Nat} {f : zf} {r : zg} {kc ks : Nat} {w1 w2 w3 : Int32} {o : zO} {g' : Nat} (hX : zSc K s0 L xs) (hl : L < 2 ^ 31) (hi : i + 5 < L) (h1 : xs (i + 1) = w1) (h2 : xs (i + 2) = w2) (h3 : xs (i + 3) = w3) (hS : LB T N P I R x m ad b g f r) (hc : zC E yX10_write cX10_write 6 (some .int) (zr0 2 42) [.ref x, .int w1, .int w2, .int w3] T N P I R (cQ x (Mnn m ad) g' T N P I R o)) (hm : ∀ (T : zT) (N : zN) (P : zP) (I : zI) (R : zR), MOK T P m ad → mf N m = f → mr I ad = r → zC E yX11_write cX11_write 6 (some .int) (zr0 2 42) [.ref m, .int w1, .int w2, .int w3] T N P I R (mQ m ad T N P I R o)) (hI2 : Inv o.2.1 o.2.2) (e1 : kc + 0 + 0 ≤ 600000) (e2 : ks + 0 + 0 ≤ 7302250)
    (kk : ∀ (T : zT) (N : zN) (P : zP) (I : zI) (R : zR) (b : Nat → Nat → Nat), LB T N P I R x m ad b g' o.2.1 o.2.2 → V K Qf T N P I R (kc + 0 + 0) (ks + 0 + 0) 1202 [some (.ref s0), some (.ref x), some (.ref m), some (.int (nI i))] []) : V K Qf T N P I R kc ks 1040 [some (.ref s0), some (.ref x), some (.ref m), some (.int (nI i))] [] := by
  refine v_aload_1 dL_law_1040 rfl ?_
  refine v_aload_0 dL_law_1041 rfl ?_
  refine v_iload_3 dL_law_1042 rfl ?_
  refine v_iconst (v := 1) dL_law_1043 rfl rfl ?_
  refine v_iadd dL_law_1044 rfl ?_
  refine v_sld hX (lsi _ 1 rfl) (by omega) hl h1 dL_law_1045 rfl ?_
  refine v_aload_0 dL_law_1046 rfl ?_
  refine v_iload_3 dL_law_1047 rfl ?_
  refine v_iconst (v := 2) dL_law_1048 rfl rfl ?_
  refine v_iadd dL_law_1049 rfl ?_
  refine v_sld hX (lsi _ 2 rfl) (by omega) hl h2 dL_law_1050 rfl ?_
  refine v_aload_0 dL_law_1051 rfl ?_
  refine v_iload_3 dL_law_1052 rfl ?_
  refine v_iconst (v := 3) dL_law_1053 rfl rfl ?_
  refine v_iadd dL_law_1054 rfl ?_
  refine v_sld hX (lsi _ 3 rfl) (by omega) hl h3 dL_law_1055 rfl ?_
  refine v_callV (ci := 10) (F := TX10) (hc) yy_X10_write im_X10_write se_X10_write lk_L_104 hS.1.1.1 (zle rfl) rfl (zle rfl) (zle rfl) (Nat.le_trans (Nat.le_add_right _ _) e1) (Nat.le_trans (Nat.le_add_right _ _) e2) rfl rfl (zle rfl) dL_law_1056 rfl (fun v1 T1 N1 P1 I1 R1 hq1 => ?_)
  obtain ⟨rfl, ⟨b1, hC1⟩, hM1, hf1, hr1⟩ := hS.c hq1
  refine v_aload_2 dL_law_1059 rfl ?_
  refine v_aload_0 dL_law_1060 rfl ?_
  refine v_iload_3 dL_law_1061 rfl ?_
  refine v_iconst (v := 1) dL_law_1062 rfl rfl ?_
  refine v_iadd dL_law_1063 rfl ?_
  refine v_sld hX (lsi _ 1 rfl) (by omega) hl h1 dL_law_1064 rfl ?_
  refine v_aload_0 dL_law_1065 rfl ?_
  refine v_iload_3 dL_law_1066 rfl ?_
  refine v_iconst (v := 2) dL_law_1067 rfl rfl ?_
  refine v_iadd dL_law_1068 rfl ?_
  refine v_sld hX (lsi _ 2 rfl) (by omega) hl h2 dL_law_1069 rfl ?_
  refine v_aload_0 dL_law_1070 rfl ?_
  refine v_iload_3 dL_law_1071 rfl ?_
  refine v_iconst (v := 3) dL_law_1072 rfl rfl ?_
  refine v_iadd dL_law_1073 rfl ?_
  refine v_sld hX (lsi _ 3 rfl) (by omega) hl h3 dL_law_1074 rfl ?_
  refine v_callV (ci := 11) (F := TX11) (hm T1 N1 P1 I1 R1 hM1 hf1 hr1) yy_X11_write im_X11_write se_X11_write lk_L_107 hM1.1 (zle rfl) rfl (zle rfl) (zle rfl) e1 e2 rfl rfl (zle rfl) dL_law_1075 rfl (fun v2 T2 N2 P2 I2 R2 hq2 => ?_)
  obtain ⟨rfl, hS2⟩ := LB.m hC1 hM1 hq2 hI2
  refine v_icmp_eq_t (n := 1202) rfl dL_law_1078 (by decide) ?_
  exact kk T2 N2 P2 I2 R2 b1 hS2
theorem L_copy {E : zE} {nm : String} {K : zK E (yL nm) code 4 ret room_1} {Qf : State → Prop} {T : zT} {N : zN} {P : zP} {I : zI} {R : zR} {s0 L i x m : Nat} {xs : Nat → Int32} {ad : Nat → Nat} {b : Nat → Nat → Nat} {g : Nat} {f : zf} {r : zg} {kc ks : Nat} {w1 w2 w3 w4 w5 : Int32} {o : zO} {g' : Nat} (hX : zSc K s0 L xs) (hl : L < 2 ^ 31) (hi : i + 5 < L) (h1 : xs (i + 1) = w1) (h2 : xs (i + 2) = w2) (h3 : xs (i + 3) = w3) (h4 : xs (i + 4) = w4) (h5 : xs (i + 5) = w5) (hS : LB T N P I R x m ad b g f r) (hc : zC E yX10_copy cX10_copy 8 (some .int) (zr0 2 48) [.ref x, .int w1, .int w2, .int w3, .int w4, .int w5] T N P I R (cQ x (Mnn m ad) g' T N P I R o)) (hm : ∀ (T : zT) (N : zN) (P : zP) (I : zI) (R : zR), MOK T P m ad → mf N m = f → mr I ad = r → zC E yX11_copy cX11_copy 7 (some .int) (zr0 2 42) [.ref m, .int w1, .int w2, .int w3, .int w4, .int w5] T N P I R (mQ m ad T N P I R o)) (hI2 : Inv o.2.1 o.2.2) (e1 : kc + 0 + 0 ≤ 600000) (e2 : ks + 0 + 0 ≤ 7302250)
    (kk : ∀ (T : zT) (N : zN) (P : zP) (I : zI) (R : zR) (b : Nat → Nat → Nat), LB T N P I R x m ad b g' o.2.1 o.2.2 → V K Qf T N P I R (kc + 0 + 0) (ks + 0 + 0) 1202 [some (.ref s0), some (.ref x), some (.ref m), some (.int (nI i))] []) : V K Qf T N P I R kc ks 1083 [some (.ref s0), some (.ref x), some (.ref m), some (.int (nI i))] [] := by
  refine v_aload_1 dL_law_1083 rfl ?_
  refine v_aload_0 dL_law_1084 rfl ?_
  refine v_iload_3 dL_law_1085 rfl ?_
  refine v_iconst (v := 1) dL_law_1086 rfl rfl ?_
  refine v_iadd dL_law_1087 rfl ?_
  refine v_sld hX (lsi _ 1 rfl) (by omega) hl h1 dL_law_1088 rfl ?_
  refine v_aload_0 dL_law_1089 rfl ?_
  refine v_iload_3 dL_law_1090 rfl ?_
  refine v_iconst (v := 2) dL_law_1091 rfl rfl ?_
  refine v_iadd dL_law_1092 rfl ?_
  refine v_sld hX (lsi _ 2 rfl) (by omega) hl h2 dL_law_1093 rfl ?_
  refine v_aload_0 dL_law_1094 rfl ?_
  refine v_iload_3 dL_law_1095 rfl ?_
  refine v_iconst (v := 3) dL_law_1096 rfl rfl ?_
  refine v_iadd dL_law_1097 rfl ?_
  refine v_sld hX (lsi _ 3 rfl) (by omega) hl h3 dL_law_1098 rfl ?_
  refine v_aload_0 dL_law_1099 rfl ?_
  refine v_iload_3 dL_law_1100 rfl ?_
  refine v_iconst (v := 4) dL_law_1101 rfl rfl ?_
  refine v_iadd dL_law_1102 rfl ?_
  refine v_sld hX (lsi _ 4 rfl) (by omega) hl h4 dL_law_1103 rfl ?_
  refine v_aload_0 dL_law_1104 rfl ?_
  refine v_iload_3 dL_law_1105 rfl ?_
  refine v_iconst (v := 5) dL_law_1106 rfl rfl ?_
  refine v_iadd dL_law_1107 rfl ?_
  refine v_sld hX (lsi _ 5 rfl) (by omega) hl h5 dL_law_1108 rfl ?_
  refine v_callV (ci := 10) (F := TX10) (hc) yy_X10_copy im_X10_copy se_X10_copy lk_L_108 hS.1.1.1 (zle rfl) rfl (zle rfl) (zle rfl) (Nat.le_trans (Nat.le_add_right _ _) e1) (Nat.le_trans (Nat.le_add_right _ _) e2) rfl rfl (zle rfl) dL_law_1109 rfl (fun v1 T1 N1 P1 I1 R1 hq1 => ?_)
  obtain ⟨rfl, ⟨b1, hC1⟩, hM1, hf1, hr1⟩ := hS.c hq1
  refine v_aload_2 dL_law_1112 rfl ?_
  refine v_aload_0 dL_law_1113 rfl ?_
  refine v_iload_3 dL_law_1114 rfl ?_
  refine v_iconst (v := 1) dL_law_1115 rfl rfl ?_
  refine v_iadd dL_law_1116 rfl ?_
  refine v_sld hX (lsi _ 1 rfl) (by omega) hl h1 dL_law_1117 rfl ?_
  refine v_aload_0 dL_law_1118 rfl ?_
  refine v_iload_3 dL_law_1119 rfl ?_
  refine v_iconst (v := 2) dL_law_1120 rfl rfl ?_
  refine v_iadd dL_law_1121 rfl ?_
  refine v_sld hX (lsi _ 2 rfl) (by omega) hl h2 dL_law_1122 rfl ?_
  refine v_aload_0 dL_law_1123 rfl ?_
  refine v_iload_3 dL_law_1124 rfl ?_
  refine v_iconst (v := 3) dL_law_1125 rfl rfl ?_
  refine v_iadd dL_law_1126 rfl ?_
  refine v_sld hX (lsi _ 3 rfl) (by omega) hl h3 dL_law_1127 rfl ?_
  refine v_aload_0 dL_law_1128 rfl ?_
  refine v_iload_3 dL_law_1129 rfl ?_
  refine v_iconst (v := 4) dL_law_1130 rfl rfl ?_
  refine v_iadd dL_law_1131 rfl ?_
  refine v_sld hX (lsi _ 4 rfl) (by omega) hl h4 dL_law_1132 rfl ?_
  refine v_aload_0 dL_law_1133 rfl ?_
  refine v_iload_3 dL_law_1134 rfl ?_
  refine v_iconst (v := 5) dL_law_1135 rfl rfl ?_
  refine v_iadd dL_law_1136 rfl ?_
  refine v_sld hX (lsi _ 5 rfl) (by omega) hl h5 dL_law_1137 rfl ?_
  refine v_callV (ci := 11) (F := TX11) (hm T1 N1 P1 I1 R1 hM1 hf1 hr1) yy_X11_copy im_X11_copy se_X11_copy lk_L_112 hM1.1 (zle rfl) rfl (zle rfl) (zle rfl) e1 e2 rfl rfl (zle rfl) dL_law_1138 rfl (fun v2 T2 N2 P2 I2 R2 hq2 => ?_)
  obtain ⟨rfl, hS2⟩ := LB.m hC1 hM1 hq2 hI2
  refine v_icmp_eq_t (n := 1202) rfl dL_law_1141 (by decide) ?_
  exact kk T2 N2 P2 I2 R2 b1 hS2
theorem L_trace {E : zE} {nm : String} {K : zK E (yL nm) code 4 ret room_1} {Qf : State → Prop} {T : zT} {N : zN} {P : zP} {I : zI} {R : zR} {s0 L i x m : Nat} {xs : Nat → Int32} {ad : Nat → Nat} {b : Nat → Nat → Nat} {g : Nat} {f : zf} {r : zg} {kc ks : Nat} {w1 w2 : Int32} {o : zO} {g' : Nat} (hX : zSc K s0 L xs) (hl : L < 2 ^ 31) (hi : i + 5 < L) (h1 : xs (i + 1) = w1) (h2 : xs (i + 2) = w2) (hS : LB T N P I R x m ad b g f r) (hc : zC E yX10_trace cX10_trace 8 (some .int) (zr0 6 145) [.ref x, .int w1, .int w2] T N P I R (cQ x (Mnn m ad) g' T N P I R o)) (hm : ∀ (T : zT) (N : zN) (P : zP) (I : zI) (R : zR), MOK T P m ad → mf N m = f → mr I ad = r → zC E yX11_trace cX11_trace 5 (some .int) (zr0 5 126) [.ref m, .int w1, .int w2] T N P I R (mQ m ad T N P I R o)) (hI2 : Inv o.2.1 o.2.2) (e1 : kc + 0 + 0 ≤ 600000) (e2 : ks + 0 + 0 ≤ 7302250)
    (kk : ∀ (T : zT) (N : zN) (P : zP) (I : zI) (R : zR) (b : Nat → Nat → Nat), LB T N P I R x m ad b g' o.2.1 o.2.2 → V K Qf T N P I R (kc + 0 + 0) (ks + 0 + 0) 1202 [some (.ref s0), some (.ref x), some (.ref m), some (.int (nI i))] []) : V K Qf T N P I R kc ks 1146 [some (.ref s0), some (.ref x), some (.ref m), some (.int (nI i))] [] := by
  refine v_aload_1 dL_law_1146 rfl ?_
  refine v_aload_0 dL_law_1147 rfl ?_
  refine v_iload_3 dL_law_1148 rfl ?_
  refine v_iconst (v := 1) dL_law_1149 rfl rfl ?_
  refine v_iadd dL_law_1150 rfl ?_
  refine v_sld hX (lsi _ 1 rfl) (by omega) hl h1 dL_law_1151 rfl ?_
  refine v_aload_0 dL_law_1152 rfl ?_
  refine v_iload_3 dL_law_1153 rfl ?_
  refine v_iconst (v := 2) dL_law_1154 rfl rfl ?_
  refine v_iadd dL_law_1155 rfl ?_
  refine v_sld hX (lsi _ 2 rfl) (by omega) hl h2 dL_law_1156 rfl ?_
  refine v_callV (ci := 10) (F := TX10) (hc) yy_X10_trace im_X10_trace se_X10_trace lk_L_113 hS.1.1.1 (zle rfl) rfl (zle rfl) (zle rfl) (Nat.le_trans (Nat.le_add_right _ _) e1) (Nat.le_trans (Nat.le_add_right _ _) e2) rfl rfl (zle rfl) dL_law_1157 rfl (fun v1 T1 N1 P1 I1 R1 hq1 => ?_)
  obtain ⟨rfl, ⟨b1, hC1⟩, hM1, hf1, hr1⟩ := hS.c hq1
  refine v_aload_2 dL_law_1160 rfl ?_
  refine v_aload_0 dL_law_1161 rfl ?_
  refine v_iload_3 dL_law_1162 rfl ?_
  refine v_iconst (v := 1) dL_law_1163 rfl rfl ?_
  refine v_iadd dL_law_1164 rfl ?_
  refine v_sld hX (lsi _ 1 rfl) (by omega) hl h1 dL_law_1165 rfl ?_
  refine v_aload_0 dL_law_1166 rfl ?_
  refine v_iload_3 dL_law_1167 rfl ?_
  refine v_iconst (v := 2) dL_law_1168 rfl rfl ?_
  refine v_iadd dL_law_1169 rfl ?_
  refine v_sld hX (lsi _ 2 rfl) (by omega) hl h2 dL_law_1170 rfl ?_
  refine v_callV (ci := 11) (F := TX11) (hm T1 N1 P1 I1 R1 hM1 hf1 hr1) yy_X11_trace im_X11_trace se_X11_trace lk_L_116 hM1.1 (zle rfl) rfl (zle rfl) (zle rfl) e1 e2 rfl rfl (zle rfl) dL_law_1171 rfl (fun v2 T2 N2 P2 I2 R2 hq2 => ?_)
  obtain ⟨rfl, hS2⟩ := LB.m hC1 hM1 hq2 hI2
  refine v_icmp_eq_t (n := 1202) rfl dL_law_1174 (by decide) ?_
  exact kk T2 N2 P2 I2 R2 b1 hS2
theorem L_told {E : zE} {nm : String} {K : zK E (yL nm) code 4 ret room_1} {Qf : State → Prop} {T : zT} {N : zN} {P : zP} {I : zI} {R : zR} {s0 L i x m : Nat} {xs : Nat → Int32} {ad : Nat → Nat} {b : Nat → Nat → Nat} {g : Nat} {f : zf} {r : zg} {kc ks : Nat} {w1 : Int32} {o : zO} {g' : Nat} (hX : zSc K s0 L xs) (hl : L < 2 ^ 31) (hi : i + 5 < L) (h1 : xs (i + 1) = w1) (hS : LB T N P I R x m ad b g f r) (hc : zC E yX10_told cX10_told 2 (some .int) (zr0 1 21) [.ref x, .int w1] T N P I R (cQ x (Mnn m ad) g' T N P I R o)) (hm : ∀ (T : zT) (N : zN) (P : zP) (I : zI) (R : zR), MOK T P m ad → mf N m = f → mr I ad = r → zC E yX11_told cX11_told 2 (some .int) (zr0 1 21) [.ref m, .int w1] T N P I R (mQ m ad T N P I R o)) (hI2 : Inv o.2.1 o.2.2) (e1 : kc + 0 + 0 ≤ 600000) (e2 : ks + 0 + 0 ≤ 7302250)
    (kk : ∀ (T : zT) (N : zN) (P : zP) (I : zI) (R : zR) (b : Nat → Nat → Nat), LB T N P I R x m ad b g' o.2.1 o.2.2 → V K Qf T N P I R (kc + 0 + 0) (ks + 0 + 0) 1202 [some (.ref s0), some (.ref x), some (.ref m), some (.int (nI i))] []) : V K Qf T N P I R kc ks 1179 [some (.ref s0), some (.ref x), some (.ref m), some (.int (nI i))] [] := by
  refine v_aload_1 dL_law_1179 rfl ?_
  refine v_aload_0 dL_law_1180 rfl ?_
  refine v_iload_3 dL_law_1181 rfl ?_
  refine v_iconst (v := 1) dL_law_1182 rfl rfl ?_
  refine v_iadd dL_law_1183 rfl ?_
  refine v_sld hX (lsi _ 1 rfl) (by omega) hl h1 dL_law_1184 rfl ?_
  refine v_callV (ci := 10) (F := TX10) (hc) yy_X10_told im_X10_told se_X10_told lk_L_117 hS.1.1.1 (zle rfl) rfl (zle rfl) (zle rfl) (Nat.le_trans (Nat.le_add_right _ _) e1) (Nat.le_trans (Nat.le_add_right _ _) e2) rfl rfl (zle rfl) dL_law_1185 rfl (fun v1 T1 N1 P1 I1 R1 hq1 => ?_)
  obtain ⟨rfl, ⟨b1, hC1⟩, hM1, hf1, hr1⟩ := hS.c hq1
  refine v_aload_2 dL_law_1188 rfl ?_
  refine v_aload_0 dL_law_1189 rfl ?_
  refine v_iload_3 dL_law_1190 rfl ?_
  refine v_iconst (v := 1) dL_law_1191 rfl rfl ?_
  refine v_iadd dL_law_1192 rfl ?_
  refine v_sld hX (lsi _ 1 rfl) (by omega) hl h1 dL_law_1193 rfl ?_
  refine v_callV (ci := 11) (F := TX11) (hm T1 N1 P1 I1 R1 hM1 hf1 hr1) yy_X11_told im_X11_told se_X11_told lk_L_120 hM1.1 (zle rfl) rfl (zle rfl) (zle rfl) e1 e2 rfl rfl (zle rfl) dL_law_1194 rfl (fun v2 T2 N2 P2 I2 R2 hq2 => ?_)
  obtain ⟨rfl, hS2⟩ := LB.m hC1 hM1 hq2 hI2
  refine v_icmp_eq_t (n := 1202) rfl dL_law_1197 (by decide) ?_
  exact kk T2 N2 P2 I2 R2 b1 hS2
