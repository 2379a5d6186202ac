theorem i_lt0 {a : Int32} (h : ¬ 0 ≤ a) : a < 0 := by simp only [Int32.lt_iff_toInt_lt, Int32.le_iff_toInt_le] at *; omega
theorem u2_u2 {α : Type} (f : Nat → Nat → α) (a i : Nat) (v w : α) : u2 (u2 f a i v) a i w = u2 f a i w := by
  funext j q
  unfold u2
  by_cases h : j = a ∧ q = i
  · rw [if_pos h, if_pos h]
  · rw [if_neg h, if_neg h, if_neg h]
theorem en_X11_readsPiece {E : zE} {T : zT} {N : zN} {P : zP} {I : zI} {R : zR} {m : Nat} {ad : Nat → Nat} {b : Nat → Int32} {nc i p : Nat} {I1 : zI} {x : Int32} {K : zK E yX11_readsPiece cX11_readsPiece 2 (some .boolean) (zr0 2 44)} (hM : MOK T P m ad) (h17 : Nt (N 11 17 m) 201) (hb : pB (mf N m) (mr I ad) = b) (hBt : ∀ p, Bt (b p)) (h0 : N 11 0 m = nI nc) (hnc : nc ≤ 8) (hi : i < 12) (hp : p < 2 ^ 20) (h32 : N 11 32 m = nI i) (hF : F4 ad i I I1 (pv b p 0) (pv b p 1) (pv b p 2) (pv b p 3)) (h38 : I1 (ad 38) i = pv b p 4) (g1 : hsb (b p) 48 0 nc) (g2 : ¬ kby (b (p + 1)) < 0) (g3 : hsb (b (p + 2)) 49 0 9) (g4 : ¬ dyv b p = 0) : V K (zQf K (rpQ m ad b nc i p T N P I R)) T (u3 N 11 33 m (nI (pl5 b p))) P I1 R 0 0 284 [some (.ref m), some (.int x)] [] := by
  have h5 := pl5_b b p
  refine v_aload_0 dX11_readsPiece_284 rfl ?_
  refine v_aload_0 dX11_readsPiece_285 rfl ?_
  refine v_getN fl_11_167 (MOK.t hM) rfl (zle rfl) rfl dX11_readsPiece_286 rfl ?_
  refine v_top u3_self ?_
  refine v_callV (ci := 11) (F := TX11) (c_X11_byteAt (N := (u3 N 11 33 m (nI (pl5 b p)))) m ad b (pl5 b p) hM h17 (by rw [mf_scr (by decide), hF.1.1]; exact hb) (by omega)) yy_X11_byteAt im_X11_byteAt se_X11_byteAt lk_11_170 (MOK.t hM) (zle rfl) rfl (zle rfl) (zle rfl) (zle rfl) (zle rfl) rfl rfl (zle rfl) dX11_readsPiece_289 rfl (zp.use ?_)
  refine v_bipush (v := 59) dX11_readsPiece_292 rfl rfl ?_
  refine v_icmp_eq (tgt := 299) dX11_readsPiece_294 (by decide) rfl (fun c294 => ?_) (fun c294 => ?_)
  · refine v_aload_0 dX11_readsPiece_299 rfl ?_
    refine v_dup dX11_readsPiece_300 rfl rfl ?_
    refine v_getN fl_11_167 (MOK.t hM) rfl (zle rfl) rfl dX11_readsPiece_301 rfl ?_
    refine v_top u3_self ?_
    refine v_iconst (v := 1) dX11_readsPiece_304 rfl rfl ?_
    refine v_iadd dX11_readsPiece_305 rfl ?_
    refine v_top (nI_1 (pl5 b p)) ?_
    refine v_putN fw_11_167 (MOK.t hM) rfl (zle rfl) rfl (fun h => by cases h) rfl rfl dX11_readsPiece_306 rfl ?_
    rw [u3_u3]
    refine v_aload_0 dX11_readsPiece_309 rfl ?_
    refine v_dup dX11_readsPiece_310 rfl rfl ?_
    refine v_getN fl_11_164 (MOK.t hM) rfl (zle rfl) rfl dX11_readsPiece_311 rfl ?_
    refine v_top h32 ?_
    refine v_iconst (v := 1) dX11_readsPiece_314 rfl rfl ?_
    refine v_iadd dX11_readsPiece_315 rfl ?_
    refine v_top (nI_1 i) ?_
    refine v_putN fw_11_164 (MOK.t hM) rfl (zle rfl) rfl (fun h => by cases h) rfl rfl dX11_readsPiece_316 rfl ?_
    refine v_iconst (v := 1) dX11_readsPiece_319 rfl rfl ?_
    exact v_zreturn rfl rfl (rpQ_g hF h38 (rpe_g ⟨g1, g2, g3, g4, c294⟩) ⟨g1, g2, g3, g4, c294⟩) (zle rfl) (zle rfl) dX11_readsPiece_320
  · refine v_iconst (v := 0) dX11_readsPiece_297 rfl rfl ?_
    exact v_zreturn rfl rfl (rpQ_f hF.1 (by unfold rpe; rw [zi_t g1, zi_f g2, zi_t g3, zi_f (fun h => c294 h.2)]) (fun h => c294 h.2.2.2.2)) (zle rfl) (zle rfl) dX11_readsPiece_298
theorem md_X11_readsPiece {E : zE} {T : zT} {N : zN} {P : zP} {I : zI} {R : zR} {m : Nat} {ad : Nat → Nat} {b : Nat → Int32} {nc i p : Nat} {I1 : zI} {x : Int32} {K : zK E yX11_readsPiece cX11_readsPiece 2 (some .boolean) (zr0 2 44)} (hM : MOK T P m ad) (h17 : Nt (N 11 17 m) 201) (hb : pB (mf N m) (mr I ad) = b) (hBt : ∀ p, Bt (b p)) (h0 : N 11 0 m = nI nc) (hnc : nc ≤ 8) (hi : i < 12) (hp : p < 2 ^ 20) (h32 : N 11 32 m = nI i) (hF : F4 ad i I I1 (pv b p 0) (pv b p 1) (pv b p 2) (pv b p 3)) (g1 : hsb (b p) 48 0 nc) (g2 : ¬ kby (b (p + 1)) < 0) (g3 : hsb (b (p + 2)) 49 0 9) : V K (zQf K (rpQ m ad b nc i p T N P I R)) T (u3 N 11 33 m (nI ((rN b p).2))) P I1 R 0 0 238 [some (.ref m), some (.int x)] [] := by
  have hr := rN_b b p
  have hF1 := hF.d hM 127
  refine v_aload_0 dX11_readsPiece_238 rfl ?_
  refine v_getP fl_11_98 (mp_38 hM) (MOK.t hM) rfl (zle rfl) rfl dX11_readsPiece_239 rfl ?_
  refine v_aload_0 dX11_readsPiece_242 rfl ?_
  refine v_getN fl_11_164 (MOK.t hM) rfl (zle rfl) rfl dX11_readsPiece_243 rfl ?_
  refine v_top h32 ?_
  refine v_bipush (v := 127) dX11_readsPiece_246 rfl rfl ?_
  refine v_iast (j := i) (ma_38 hM) rfl (by omega) (zle rfl) dX11_readsPiece_248 rfl ?_
  refine v_aload_0 dX11_readsPiece_249 rfl ?_
  refine v_getP fl_11_86 (mp_34 hM) (MOK.t hM) rfl (zle rfl) rfl dX11_readsPiece_250 rfl ?_
  refine v_aload_0 dX11_readsPiece_253 rfl ?_
  refine v_getN fl_11_164 (MOK.t hM) rfl (zle rfl) rfl dX11_readsPiece_254 rfl ?_
  refine v_top h32 ?_
  refine v_iald (j := i) (ma_34 hM) rfl (by omega) (zle rfl) dX11_readsPiece_257 rfl ?_
  refine v_top hF1.2.1 ?_
  refine v_iconst (v := 1) dX11_readsPiece_258 rfl rfl ?_
  refine v_icmp_ne (tgt := 284) dX11_readsPiece_259 (by decide) rfl (fun c259 => ?_) (fun c259 => ?_)
  · have e5 : pl5 b p = (rN b p).2 := zi_f (fun h => c259 h.1)
    have e6 : dyv b p = 127 := zi_f (fun h => c259 h.1)
    rw [← e5]
    exact en_X11_readsPiece hM h17 hb hBt h0 hnc hi hp h32 hF1 (by rw [u2_self]; exact e6.symm) g1 g2 g3 (by rw [e6]; decide)
  · refine v_aload_0 dX11_readsPiece_262 rfl ?_
    refine v_aload_0 dX11_readsPiece_263 rfl ?_
    refine v_getN fl_11_167 (MOK.t hM) rfl (zle rfl) rfl dX11_readsPiece_264 rfl ?_
    refine v_top u3_self ?_
    refine v_callV (ci := 11) (F := TX11) (c_X11_byteAt (N := (u3 N 11 33 m (nI ((rN b p).2)))) m ad b ((rN b p).2) hM h17 (by rw [mf_scr (by decide), hF1.1.1]; exact hb) (by omega)) yy_X11_byteAt im_X11_byteAt se_X11_byteAt lk_11_170 (MOK.t hM) (zle rfl) rfl (zle rfl) (zle rfl) (zle rfl) (zle rfl) rfl rfl (zle rfl) dX11_readsPiece_267 rfl (zp.use ?_)
    refine v_bipush (v := 64) dX11_readsPiece_270 rfl rfl ?_
    refine v_icmp_ne (tgt := 284) dX11_readsPiece_272 (by decide) rfl (fun c272 => ?_) (fun c272 => ?_)
    · have e5 : pl5 b p = (rN b p).2 := zi_f (fun h => c272 h.2)
      have e6 : dyv b p = 127 := zi_f (fun h => c272 h.2)
      rw [← e5]
      exact en_X11_readsPiece hM h17 hb hBt h0 hnc hi hp h32 hF1 (by rw [u2_self]; exact e6.symm) g1 g2 g3 (by rw [e6]; decide)
    · refine v_aload_0 dX11_readsPiece_275 rfl ?_
      have hD : isD b p := ⟨c259, c272⟩
      have e5 : pl5 b p = (rD b p).2 := zi_t hD
      have e6 : dyv b p = (rD b p).1 := zi_t hD
      refine v_callV (ci := 11) (F := TX11) (c_X11_readsDays (N := (u3 N 11 33 m (nI ((rN b p).2)))) (I := (u2 I1 (ad 38) i 127)) m ad b i (rN b p).2 hM h17 (by rw [mf_scr (by decide), hF1.1.1]; exact hb) hBt hi (by omega) h32 u3_self) yy_X11_readsDays im_X11_readsDays se_X11_readsDays lk_11_176 (MOK.t hM) (zle rfl) rfl (zle rfl) (zle rfl) (zle rfl) (zle rfl) rfl rfl (zle rfl) dX11_readsPiece_276 rfl (zp.use ?_)
      rw [u3_u3, u2_u2]
      show V K _ T (u3 N 11 33 m (nI (rD b p).2)) P (u2 I1 (ad 38) i (rD b p).1) R _ _ _ _ (.int (zb (¬ (rD b p).1 = 0)) :: _)
      rw [← e5, ← e6]
      refine v_ifz_ne (tgt := 284) dX11_readsPiece_279 (by decide) rfl (fun c279 => ?_) (fun c279 => ?_)
      · exact en_X11_readsPiece hM h17 hb hBt h0 hnc hi hp h32 (hF.d hM _) u2_self g1 g2 g3 c279
      · refine v_iconst (v := 0) dX11_readsPiece_282 rfl rfl ?_
        exact v_zreturn rfl rfl (rpQ_f (hF.d hM _).1 (by unfold rpe; rw [zi_t g1, zi_f g2, zi_t g3, zi_f (fun h => c279 h.1)]) (fun h => c279 h.2.2.2.1)) (zle rfl) (zle rfl) dX11_readsPiece_283
theorem lp_X11_readsPiece {E : zE} {T : zT} {N : zN} {P : zP} {I : zI} {R : zR} {m : Nat} {ad : Nat → Nat} {b : Nat → Int32} {i : Nat} {x0 x1 x2 : Int32} {Qf : State → Prop} {K : zK E yX11_readsPiece cX11_readsPiece 2 (some .boolean) (zr0 2 44)} (hM : MOK T P m ad) (h17 : Nt (N 11 17 m) 201) (hb : pB (mf N m) (mr I ad) = b) (hBt : ∀ p, Bt (b p)) (hi : i < 12) (h32 : N 11 32 m = nI i) :
    ∀ k l q (s : Int32) (I1 : zI), l ≤ 12 → 12 ≤ l + k → q + k < 2 ^ 29 → F4 ad i I I1 x0 x1 x2 s → (∀ I2 x, F4 ad i I I2 x0 x1 x2 (rsn b 97 12 k l s q).1 → V K Qf T (u3 N 11 33 m (nI ((rsn b 97 12 k l s q).2))) P I2 R 0 0 238 [some (.ref m), some (.int x)] []) → V K Qf T (u3 N 11 33 m (nI (q))) P I1 R 0 0 172 [some (.ref m), some (.int (nI (97 + l)))] [] := by
  intro k
  induction k with
  | zero =>
    intro l q s I1 hl hk hq hF kk
    refine v_aload_0 dX11_readsPiece_172 rfl ?_
    refine v_aload_0 dX11_readsPiece_173 rfl ?_
    refine v_getN fl_11_167 (MOK.t hM) rfl (zle rfl) rfl dX11_readsPiece_174 rfl ?_
    refine v_top u3_self ?_
    refine v_callV (ci := 11) (F := TX11) (c_X11_byteAt (N := (u3 N 11 33 m (nI (q)))) m ad b (q) hM h17 (by rw [mf_scr (by decide), hF.1.1]; exact hb) (by omega)) yy_X11_byteAt im_X11_byteAt se_X11_byteAt lk_11_170 (MOK.t hM) (zle rfl) rfl (zle rfl) (zle rfl) (zle rfl) (zle rfl) rfl rfl (zle rfl) dX11_readsPiece_177 rfl (zp.use ?_)
    refine v_iload_1 dX11_readsPiece_180 rfl ?_
    refine v_bipush (v := 108) dX11_readsPiece_181 rfl rfl ?_
    refine v_callS (c_X11_within _ _ _) yy_X11_within st_X11_within lk_11_121 (zle rfl) (zle rfl) (zle rfl) (zle rfl) rfl rfl (zle rfl) dX11_readsPiece_183 rfl (zp.use ?_)
    refine v_top (zb_iff (q := hsb (b (q)) 97 l 12) (hsb_ref (c := 97) (l := l) (n := 12) (hBt _) (by omega) (by omega) (by omega))) ?_
    refine v_ifz_eq (tgt := 238) dX11_readsPiece_186 (by decide) rfl (fun c186 => ?_) (fun c186 => ?_)
    · have e := rsn_f (b := b) (n := 12) (k := 0) (s := s) c186
      rw [e] at kk
      exact kk I1 _ hF
    · exact absurd (hsb_w c186 (by omega)) (by omega)
  | succ k ih =>
    intro l q s I1 hl hk hq hF kk
    refine v_aload_0 dX11_readsPiece_172 rfl ?_
    refine v_aload_0 dX11_readsPiece_173 rfl ?_
    refine v_getN fl_11_167 (MOK.t hM) rfl (zle rfl) rfl dX11_readsPiece_174 rfl ?_
    refine v_top u3_self ?_
    refine v_callV (ci := 11) (F := TX11) (c_X11_byteAt (N := (u3 N 11 33 m (nI (q)))) m ad b (q) hM h17 (by rw [mf_scr (by decide), hF.1.1]; exact hb) (by omega)) yy_X11_byteAt im_X11_byteAt se_X11_byteAt lk_11_170 (MOK.t hM) (zle rfl) rfl (zle rfl) (zle rfl) (zle rfl) (zle rfl) rfl rfl (zle rfl) dX11_readsPiece_177 rfl (zp.use ?_)
    refine v_iload_1 dX11_readsPiece_180 rfl ?_
    refine v_bipush (v := 108) dX11_readsPiece_181 rfl rfl ?_
    refine v_callS (c_X11_within _ _ _) yy_X11_within st_X11_within lk_11_121 (zle rfl) (zle rfl) (zle rfl) (zle rfl) rfl rfl (zle rfl) dX11_readsPiece_183 rfl (zp.use ?_)
    refine v_top (zb_iff (q := hsb (b (q)) 97 l 12) (hsb_ref (c := 97) (l := l) (n := 12) (hBt _) (by omega) (by omega) (by omega))) ?_
    refine v_ifz_eq (tgt := 238) dX11_readsPiece_186 (by decide) rfl (fun c186 => ?_) (fun c186 => ?_)
    · have e := rsn_f (b := b) (n := 12) (k := k + 1) (s := s) c186
      rw [e] at kk
      exact kk I1 _ hF
    · refine v_aload_0 dX11_readsPiece_189 rfl ?_
      refine v_getP fl_11_95 (mp_37 hM) (MOK.t hM) rfl (zle rfl) rfl dX11_readsPiece_190 rfl ?_
      refine v_aload_0 dX11_readsPiece_193 rfl ?_
      refine v_getN fl_11_164 (MOK.t hM) rfl (zle rfl) rfl dX11_readsPiece_194 rfl ?_
      refine v_top h32 ?_
      refine v_dup2 dX11_readsPiece_197 rfl rfl rfl ?_
      refine v_iald (j := i) (ma_37 hM) rfl (by omega) (zle rfl) dX11_readsPiece_198 rfl ?_
      refine v_top hF.2.2.2.2 ?_
      refine v_iconst (v := 1) dX11_readsPiece_199 rfl rfl ?_
      refine v_aload_0 dX11_readsPiece_200 rfl ?_
      refine v_aload_0 dX11_readsPiece_201 rfl ?_
      refine v_getN fl_11_167 (MOK.t hM) rfl (zle rfl) rfl dX11_readsPiece_202 rfl ?_
      refine v_top u3_self ?_
      refine v_callV (ci := 11) (F := TX11) (c_X11_byteAt (N := (u3 N 11 33 m (nI (q)))) m ad b (q) hM h17 (by rw [mf_scr (by decide), hF.1.1]; exact hb) (by omega)) yy_X11_byteAt im_X11_byteAt se_X11_byteAt lk_11_170 (MOK.t hM) (zle rfl) rfl (zle rfl) (zle rfl) (zle rfl) (zle rfl) rfl rfl (zle rfl) dX11_readsPiece_205 rfl (zp.use ?_)
      refine v_bipush (v := 97) dX11_readsPiece_208 rfl rfl ?_
      refine v_isub dX11_readsPiece_210 rfl ?_
      refine v_top (hsb_s (c := 97) (l := l) (n := 12) c186 (by decide)) ?_
      refine v_ishl dX11_readsPiece_211 rfl ?_
      refine v_ior dX11_readsPiece_212 rfl ?_
      refine v_iast (j := i) (ma_37 hM) rfl (by omega) (zle rfl) dX11_readsPiece_213 rfl ?_
      refine v_aload_0 dX11_readsPiece_214 rfl ?_
      refine v_aload_0 dX11_readsPiece_215 rfl ?_
      refine v_getN fl_11_167 (MOK.t hM) rfl (zle rfl) rfl dX11_readsPiece_216 rfl ?_
      refine v_top u3_self ?_
      refine v_callV (ci := 11) (F := TX11) (c_X11_byteAt (N := (u3 N 11 33 m (nI (q)))) m ad b (q) hM h17 (by rw [mf_scr (by decide), (hF.n hM _).1.1]; exact hb) (by omega)) yy_X11_byteAt im_X11_byteAt se_X11_byteAt lk_11_170 (MOK.t hM) (zle rfl) rfl (zle rfl) (zle rfl) (zle rfl) (zle rfl) rfl rfl (zle rfl) dX11_readsPiece_219 rfl (zp.use ?_)
      refine v_iconst (v := 1) dX11_readsPiece_222 rfl rfl ?_
      refine v_iadd dX11_readsPiece_223 rfl ?_
      refine v_top (hsb_n (c := 97) (l := l) (n := 12) c186 (by decide)) ?_
      refine v_istore_1 dX11_readsPiece_224 rfl (zle rfl) rfl ?_
      refine v_aload_0 dX11_readsPiece_225 rfl ?_
      refine v_dup dX11_readsPiece_226 rfl rfl ?_
      refine v_getN fl_11_167 (MOK.t hM) rfl (zle rfl) rfl dX11_readsPiece_227 rfl ?_
      refine v_top u3_self ?_
      refine v_iconst (v := 1) dX11_readsPiece_230 rfl rfl ?_
      refine v_iadd dX11_readsPiece_231 rfl ?_
      refine v_top (nI_1 (q)) ?_
      refine v_putN fw_11_167 (MOK.t hM) rfl (zle rfl) rfl (fun h => by cases h) rfl rfl dX11_readsPiece_232 rfl ?_
      rw [u3_u3]
      refine v_goto (n := 172) dX11_readsPiece_235 (by decide) ?_
      rw [rsn_t c186] at kk
      have hw := hsb_w c186 (by omega)
      exact ih (wh (b q) 97 + 1) (q + 1) _ _ (by omega) (by omega) (by omega) (hF.n hM _) kk
theorem c_X11_readsPiece {E : zE} {T : zT} {N : zN} {P : zP} {I : zI} {R : zR} (m : Nat) (ad : Nat → Nat) (b : Nat → Int32) (nc i p : Nat) (hM : MOK T P m ad) (h17 : Nt (N 11 17 m) 201) (hb : pB (mf N m) (mr I ad) = b) (hBt : ∀ p, Bt (b p)) (h0 : N 11 0 m = nI nc) (hnc : nc ≤ 8) (hi : i < 12) (hp : p < 2 ^ 20) (h32 : N 11 32 m = nI i) (h33 : N 11 33 m = nI p) : zC E yX11_readsPiece cX11_readsPiece 2 (some .boolean) (zr0 2 44) [.ref m] T N P I R (rpQ m ad b nc i p T N P I R) := by
  refine zC.intro (ls := [some (.ref m), none]) pl_RX11 (zle rfl) 1 rfl (fun K => ?_)
  refine v_aload_0 dX11_readsPiece_0 rfl ?_
  refine v_getN fl_11_164 (MOK.t hM) rfl (zle rfl) rfl dX11_readsPiece_1 rfl ?_
  refine v_top h32 ?_
  refine v_bipush (v := 12) dX11_readsPiece_4 rfl rfl ?_
  refine v_icmp_eq_f (tgt := 33) (nI_n12 hi) dX11_readsPiece_6 (by decide) rfl ?_
  refine v_aload_0 dX11_readsPiece_9 rfl ?_
  refine v_aload_0 dX11_readsPiece_10 rfl ?_
  refine v_getN fl_11_167 (MOK.t hM) rfl (zle rfl) rfl dX11_readsPiece_11 rfl ?_
  refine v_top h33 ?_
  refine v_callV (ci := 11) (F := TX11) (c_X11_byteAt m ad b p hM h17 hb (by omega)) yy_X11_byteAt im_X11_byteAt se_X11_byteAt lk_11_170 (MOK.t hM) (zle rfl) rfl (zle rfl) (zle rfl) (zle rfl) (zle rfl) rfl rfl (zle rfl) dX11_readsPiece_14 rfl (zp.use ?_)
  refine v_bipush (v := 48) dX11_readsPiece_17 rfl rfl ?_
  refine v_isub dX11_readsPiece_19 rfl ?_
  refine v_iconst (v := 0) dX11_readsPiece_20 rfl rfl ?_
  refine v_aload_0 dX11_readsPiece_21 rfl ?_
  refine v_getN fl_11_118 (MOK.t hM) rfl (zle rfl) rfl dX11_readsPiece_22 rfl ?_
  refine v_iconst (v := 1) dX11_readsPiece_25 rfl rfl ?_
  refine v_isub dX11_readsPiece_26 rfl ?_
  refine v_callS (c_X11_within _ _ _) yy_X11_within st_X11_within lk_11_121 (zle rfl) (zle rfl) (zle rfl) (zle rfl) rfl rfl (zle rfl) dX11_readsPiece_27 rfl (zp.use ?_)
  refine v_top (zb_iff (q := hsb (b p) 48 0 nc) (by rw [h0]; exact hsb_cls (c := 48) (l := 0) (n := nc) (hBt p) (by omega) (by omega))) ?_
  refine v_ifz_ne (tgt := 35) dX11_readsPiece_30 (by decide) rfl (fun c30 => ?_) (fun c30 => ?_)
  · refine v_aload_0 dX11_readsPiece_35 rfl ?_
    refine v_getP fl_11_89 (mp_35 hM) (MOK.t hM) rfl (zle rfl) rfl dX11_readsPiece_36 rfl ?_
    refine v_aload_0 dX11_readsPiece_39 rfl ?_
    refine v_getN fl_11_164 (MOK.t hM) rfl (zle rfl) rfl dX11_readsPiece_40 rfl ?_
    refine v_top h32 ?_
    refine v_aload_0 dX11_readsPiece_43 rfl ?_
    refine v_aload_0 dX11_readsPiece_44 rfl ?_
    refine v_getN fl_11_167 (MOK.t hM) rfl (zle rfl) rfl dX11_readsPiece_45 rfl ?_
    refine v_top h33 ?_
    refine v_callV (ci := 11) (F := TX11) (c_X11_byteAt m ad b p hM h17 hb (by omega)) yy_X11_byteAt im_X11_byteAt se_X11_byteAt lk_11_170 (MOK.t hM) (zle rfl) rfl (zle rfl) (zle rfl) (zle rfl) (zle rfl) rfl rfl (zle rfl) dX11_readsPiece_48 rfl (zp.use ?_)
    refine v_bipush (v := 48) dX11_readsPiece_51 rfl rfl ?_
    refine v_isub dX11_readsPiece_53 rfl ?_
    refine v_top (pv1_eq c30 hnc) ?_
    refine v_iast (j := i) (ma_35 hM) rfl (by omega) (zle rfl) dX11_readsPiece_54 rfl ?_
    refine v_aload_0 dX11_readsPiece_55 rfl ?_
    refine v_dup dX11_readsPiece_56 rfl rfl ?_
    refine v_getN fl_11_167 (MOK.t hM) rfl (zle rfl) rfl dX11_readsPiece_57 rfl ?_
    refine v_top h33 ?_
    refine v_iconst (v := 1) dX11_readsPiece_60 rfl rfl ?_
    refine v_iadd dX11_readsPiece_61 rfl ?_
    refine v_top (nI_1 p) ?_
    refine v_putN fw_11_167 (MOK.t hM) rfl (zle rfl) rfl (fun h => by cases h) rfl rfl dX11_readsPiece_62 rfl ?_
    refine v_abs (fun T1 N1 P1 I1 R1 => T = T1 ∧ P = P1 ∧ R = R1 ∧ (u3 N 11 33 m (nI (p + 1))) = N1 ∧ Rs5 ad i I I1 ∧ I1 (ad 35) i = pv b p 1) ⟨rfl, rfl, rfl, rfl, Rs5.rf.i hM (by decide) (by decide) _, u2_self⟩ (fun T1 N1 P1 I1 R1 hG => ?_)
    obtain ⟨rfl, rfl, rfl, rfl, hF⟩ := hG
    refine v_aload_0 dX11_readsPiece_65 rfl ?_
    refine v_getP fl_11_86 (mp_34 hM) (MOK.t hM) rfl (zle rfl) rfl dX11_readsPiece_66 rfl ?_
    refine v_aload_0 dX11_readsPiece_69 rfl ?_
    refine v_getN fl_11_164 (MOK.t hM) rfl (zle rfl) rfl dX11_readsPiece_70 rfl ?_
    refine v_top h32 ?_
    refine v_aload_0 dX11_readsPiece_73 rfl ?_
    refine v_aload_0 dX11_readsPiece_74 rfl ?_
    refine v_getN fl_11_167 (MOK.t hM) rfl (zle rfl) rfl dX11_readsPiece_75 rfl ?_
    refine v_top u3_self ?_
    refine v_callV (ci := 11) (F := TX11) (c_X11_byteAt (N := (u3 N 11 33 m (nI (p + 1)))) m ad b (p + 1) hM h17 (by rw [mf_scr (by decide), hF.1.1]; exact hb) (by omega)) yy_X11_byteAt im_X11_byteAt se_X11_byteAt lk_11_170 (MOK.t hM) (zle rfl) rfl (zle rfl) (zle rfl) (zle rfl) (zle rfl) rfl rfl (zle rfl) dX11_readsPiece_78 rfl (zp.use ?_)
    refine v_callS (c_X11_kindBy (b (p + 1))) yy_X11_kindBy st_X11_kindBy lk_11_173 (zle rfl) (zle rfl) (zle rfl) (zle rfl) rfl rfl (zle rfl) dX11_readsPiece_81 rfl (zp.use ?_)
    refine v_iast (j := i) (ma_34 hM) rfl (by omega) (zle rfl) dX11_readsPiece_84 rfl ?_
    refine v_abs (fun T1 N1 P1 I1 R1 => T = T1 ∧ P = P1 ∧ R = R1 ∧ (u3 N 11 33 m (nI (p + 1))) = N1 ∧ Rs5 ad i I I1 ∧ I1 (ad 35) i = pv b p 1 ∧ I1 (ad 34) i = kby (b (p + 1))) ⟨rfl, rfl, rfl, rfl, hF.1.i hM (by decide) (by decide) _, by rw [u2_na (hM.ne (by decide) (by decide) rfl rfl (by decide))]; exact hF.2, u2_self⟩ (fun T1 N1 P1 I1 R1 hG => ?_)
    clear hF
    obtain ⟨rfl, rfl, rfl, rfl, hF⟩ := hG
    refine v_aload_0 dX11_readsPiece_85 rfl ?_
    refine v_getP fl_11_86 (mp_34 hM) (MOK.t hM) rfl (zle rfl) rfl dX11_readsPiece_86 rfl ?_
    refine v_aload_0 dX11_readsPiece_89 rfl ?_
    refine v_getN fl_11_164 (MOK.t hM) rfl (zle rfl) rfl dX11_readsPiece_90 rfl ?_
    refine v_top h32 ?_
    refine v_iald (j := i) (ma_34 hM) rfl (by omega) (zle rfl) dX11_readsPiece_93 rfl ?_
    refine v_top hF.2.2 ?_
    refine v_if_ge (tgt := 99) dX11_readsPiece_94 (by decide) rfl (fun c94 => ?_) (fun c94 => ?_)
    · refine v_aload_0 dX11_readsPiece_99 rfl ?_
      refine v_dup dX11_readsPiece_100 rfl rfl ?_
      refine v_getN fl_11_167 (MOK.t hM) rfl (zle rfl) rfl dX11_readsPiece_101 rfl ?_
      refine v_top u3_self ?_
      refine v_iconst (v := 1) dX11_readsPiece_104 rfl rfl ?_
      refine v_iadd dX11_readsPiece_105 rfl ?_
      refine v_top (nI_1 (p + 1)) ?_
      refine v_putN fw_11_167 (MOK.t hM) rfl (zle rfl) rfl (fun h => by cases h) rfl rfl dX11_readsPiece_106 rfl ?_
      rw [u3_u3]
      refine v_aload_0 dX11_readsPiece_109 rfl ?_
      refine v_aload_0 dX11_readsPiece_110 rfl ?_
      refine v_getN fl_11_167 (MOK.t hM) rfl (zle rfl) rfl dX11_readsPiece_111 rfl ?_
      refine v_top u3_self ?_
      refine v_callV (ci := 11) (F := TX11) (c_X11_byteAt (N := (u3 N 11 33 m (nI (p + 2)))) m ad b (p + 2) hM h17 (by rw [mf_scr (by decide), hF.1.1]; exact hb) (by omega)) yy_X11_byteAt im_X11_byteAt se_X11_byteAt lk_11_170 (MOK.t hM) (zle rfl) rfl (zle rfl) (zle rfl) (zle rfl) (zle rfl) rfl rfl (zle rfl) dX11_readsPiece_114 rfl (zp.use ?_)
      refine v_bipush (v := 49) dX11_readsPiece_117 rfl rfl ?_
      refine v_bipush (v := 57) dX11_readsPiece_119 rfl rfl ?_
      refine v_callS (c_X11_within _ _ _) yy_X11_within st_X11_within lk_11_121 (zle rfl) (zle rfl) (zle rfl) (zle rfl) rfl rfl (zle rfl) dX11_readsPiece_121 rfl (zp.use ?_)
      refine v_top (zb_iff (q := hsb (b (p + 2)) 49 0 9) (hsb_ref (c := 49) (l := 0) (n := 9) (hBt _) (by omega) (by omega) (by omega))) ?_
      refine v_ifz_ne (tgt := 129) dX11_readsPiece_124 (by decide) rfl (fun c124 => ?_) (fun c124 => ?_)
      · refine v_aload_0 dX11_readsPiece_129 rfl ?_
        refine v_getP fl_11_92 (mp_36 hM) (MOK.t hM) rfl (zle rfl) rfl dX11_readsPiece_130 rfl ?_
        refine v_aload_0 dX11_readsPiece_133 rfl ?_
        refine v_getN fl_11_164 (MOK.t hM) rfl (zle rfl) rfl dX11_readsPiece_134 rfl ?_
        refine v_top h32 ?_
        refine v_aload_0 dX11_readsPiece_137 rfl ?_
        refine v_aload_0 dX11_readsPiece_138 rfl ?_
        refine v_getN fl_11_167 (MOK.t hM) rfl (zle rfl) rfl dX11_readsPiece_139 rfl ?_
        refine v_top u3_self ?_
        refine v_callV (ci := 11) (F := TX11) (c_X11_byteAt (N := (u3 N 11 33 m (nI (p + 2)))) m ad b (p + 2) hM h17 (by rw [mf_scr (by decide), hF.1.1]; exact hb) (by omega)) yy_X11_byteAt im_X11_byteAt se_X11_byteAt lk_11_170 (MOK.t hM) (zle rfl) rfl (zle rfl) (zle rfl) (zle rfl) (zle rfl) rfl rfl (zle rfl) dX11_readsPiece_142 rfl (zp.use ?_)
        refine v_bipush (v := 48) dX11_readsPiece_145 rfl rfl ?_
        refine v_isub dX11_readsPiece_147 rfl ?_
        refine v_top (pv2_eq c124) ?_
        refine v_iast (j := i) (ma_36 hM) rfl (by omega) (zle rfl) dX11_readsPiece_148 rfl ?_
        refine v_aload_0 dX11_readsPiece_149 rfl ?_
        refine v_dup dX11_readsPiece_150 rfl rfl ?_
        refine v_getN fl_11_167 (MOK.t hM) rfl (zle rfl) rfl dX11_readsPiece_151 rfl ?_
        refine v_top u3_self ?_
        refine v_iconst (v := 1) dX11_readsPiece_154 rfl rfl ?_
        refine v_iadd dX11_readsPiece_155 rfl ?_
        refine v_top (nI_1 (p + 2)) ?_
        refine v_putN fw_11_167 (MOK.t hM) rfl (zle rfl) rfl (fun h => by cases h) rfl rfl dX11_readsPiece_156 rfl ?_
        rw [u3_u3]
        refine v_aload_0 dX11_readsPiece_159 rfl ?_
        refine v_getP fl_11_95 (mp_37 hM) (MOK.t hM) rfl (zle rfl) rfl dX11_readsPiece_160 rfl ?_
        refine v_aload_0 dX11_readsPiece_163 rfl ?_
        refine v_getN fl_11_164 (MOK.t hM) rfl (zle rfl) rfl dX11_readsPiece_164 rfl ?_
        refine v_top h32 ?_
        refine v_iconst (v := 0) dX11_readsPiece_167 rfl rfl ?_
        refine v_iast (j := i) (ma_37 hM) rfl (by omega) (zle rfl) dX11_readsPiece_168 rfl ?_
        refine v_abs (fun T1 N1 P1 I1 R1 => T = T1 ∧ P = P1 ∧ R = R1 ∧ (u3 N 11 33 m (nI (p + 3))) = N1 ∧ F4 ad i I I1 (pv b p 0) (pv b p 1) (pv b p 2) 0) ⟨rfl, rfl, rfl, rfl, (hF.1.i hM (by decide) (by decide) _).i hM (by decide) (by decide) _, by rw [u2_na (hM.ne (by decide) (by decide) rfl rfl (by decide)), u2_na (hM.ne (by decide) (by decide) rfl rfl (by decide))]; exact hF.2.2, by rw [u2_na (hM.ne (by decide) (by decide) rfl rfl (by decide)), u2_na (hM.ne (by decide) (by decide) rfl rfl (by decide))]; exact hF.2.1, by rw [u2_na (hM.ne (by decide) (by decide) rfl rfl (by decide))]; exact u2_self, u2_self⟩ (fun T1 N1 P1 I1 R1 hG => ?_)
        clear hF
        obtain ⟨rfl, rfl, rfl, rfl, hF⟩ := hG
        refine v_bipush (v := 97) dX11_readsPiece_169 rfl rfl ?_
        refine v_istore_1 dX11_readsPiece_171 rfl (zle rfl) rfl ?_
        exact lp_X11_readsPiece hM h17 hb hBt hi h32 12 0 (p + 3) 0 I1 (by omega) (by omega) (by omega) hF (fun I2 x hF2 => md_X11_readsPiece hM h17 hb hBt h0 hnc hi hp h32 hF2 c30 (i_nlt0.mpr c94) c124)
      · refine v_iconst (v := 0) dX11_readsPiece_127 rfl rfl ?_
        exact v_zreturn rfl rfl (rpQ_f hF.1 (by unfold rpe; rw [zi_t c30, zi_f (i_nlt0.mpr c94), zi_f c124]) (fun h => c124 h.2.2.1)) (zle rfl) (zle rfl) dX11_readsPiece_128
    · refine v_iconst (v := 0) dX11_readsPiece_97 rfl rfl ?_
      exact v_zreturn rfl rfl (rpQ_f hF.1 (by unfold rpe; rw [zi_t c30, zi_t (i_lt0 c94)]) (fun h => h.2.1 (i_lt0 c94))) (zle rfl) (zle rfl) dX11_readsPiece_98
  · refine v_iconst (v := 0) dX11_readsPiece_33 rfl rfl ?_
    exact v_zreturn rfl rfl (by
        have hq := rpQ_f (m := m) (b := b) (nc := nc) (p := p) (T := T) (N := N) (P := P) (R := R) (Rs5.rf (ad := ad) (i := i) (I := I)) (zi_f c30) (fun h => c30 h.1)
        rw [← h33, u3_id] at hq
        exact hq) (zle rfl) (zle rfl) dX11_readsPiece_34
theorem c_X11_readsPiece_12 {E : zE} {T : zT} {N : zN} {P : zP} {I : zI} {R : zR} (m : Nat) (ad : Nat → Nat) (hM : MOK T P m ad) (h32 : N 11 32 m = 12) : zC E yX11_readsPiece cX11_readsPiece 2 (some .boolean) (zr0 2 44) [.ref m] T N P I R (zp 0 T N P I R) := by
  refine zC.intro (ls := [some (.ref m), none]) pl_RX11 (zle rfl) 1 rfl (fun K => ?_)
  refine v_aload_0 dX11_readsPiece_0 rfl ?_
  refine v_getN fl_11_164 (MOK.t hM) rfl (zle rfl) rfl dX11_readsPiece_1 rfl ?_
  refine v_top h32 ?_
  refine v_bipush (v := 12) dX11_readsPiece_4 rfl rfl ?_
  refine v_icmp_eq_t (n := 33) rfl dX11_readsPiece_6 (by decide) ?_
  refine v_iconst (v := 0) dX11_readsPiece_33 rfl rfl ?_
  exact v_zreturn rfl rfl (zp.rf) (zle rfl) (zle rfl) dX11_readsPiece_34
