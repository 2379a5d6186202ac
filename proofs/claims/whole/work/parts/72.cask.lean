/-- the class's times and the common ones -/
theorem tm_cv {f : zf} {r : zg} {e d : Nat} {s : Prop} {S0 c0 : Nat} {tm : Nat → Nat → Nat} (hZ : SrI f r) (he : e < tn (f 9)) (hS0 : S0 < 2 ^ (tn (r 10 e))) (hc0 : c0 < tn (f 0)) (hok : TmOK r e (tn (r 10 e)) (tn (f 0)) (tn (f 3)) d s NEVn (Rch r e (tn (r 10 e)) (tn (f 0)) (tn (f 3)) d s S0 c0) tm) {S c : Nat} (hR : Rch r e (tn (r 10 e)) (tn (f 0)) (tn (f 3)) d s S0 c0 S c) : (tm S c < NEVn ∧ tmv f r e d s S c < FARn ∧ tm S c = tmv f r e d s S c) ∨ (tm S c = NEVn ∧ ¬ tmv f r e d s S c < FARn) := by
  have hF : FARn = 100000000 := rfl
  have hN := NEV_le
  have h10 := (hZ.1.1.2.2.1 e he).1.2
  have h0 := hZ.1.2.1.2
  have h12 : 2 ^ (tn (r 10 e)) ≤ 2 ^ 12 := Nat.pow_le_pow_right (by decide) (by omega)
  have hin := hR.in (by omega) hS0 hc0
  have hm := Tm_un (show (tn (r 10 e)) ≤ 12 by omega) (show tn (f 0) ≤ 8 by omega) (show FARn ≤ NEVn by decide) (fun S c h => (h.in (by omega) hS0 hc0).2.2) Rch.cl hok (2 ^ (tn (r 10 e))) S c hin.2.1 (by omega) hR
  have hle := (hok S hin.2.1).le hR
  by_cases hlt : tm S c < NEVn
  · have hb := Tm_bd (show (tn (r 10 e)) ≤ 12 by omega) (show tn (f 0) ≤ 8 by omega) (fun p hp => by have : lnP r e p < 10 := (hZ.2.2.1 e he p hp).1.2; omega) Rch.cl hok (2 ^ (tn (r 10 e))) S c hin.2.1 (by omega) hR hlt
    left
    refine ⟨hlt, ?_, ?_⟩
    · show tmf _ _ _ _ _ _ _ _ _ < FARn
      rw [← hm]; omega
    · show tm S c = tmf _ _ _ _ _ _ _ _ _
      rw [← hm]; omega
  · right
    refine ⟨by omega, ?_⟩
    show ¬ tmf _ _ _ _ _ _ _ _ _ < FARn
    rw [← hm]; omega
theorem day_ok {d : Nat} (hd : d < 7) : 0 ≤ nI d ∧ nI d ≤ 6 := ⟨nI_pos' (by omega), nI_le (a := d) (b := 6) (by omega) (by decide)⟩
theorem c_X10_timeOrNone {E : zE} {T : zT} {N : zN} {P : zP} {I : zI} {R : zR} (x t : Nat) (hx : (T x).1 = 20) (ht : t < NEVn) : zC E yX10_timeOrNone cX10_timeOrNone 2 (some .int) (zr0 1 21) [.ref x, .int (nI t)] T N P I R (zp (nI t) T N P I R) := by
  refine zC.intro (ls := [some (.ref x), some (.int (nI t))]) pl_RX10 (zle rfl) 0 rfl (fun K => ?_)
  refine v_iload_1 dX10_timeOrNone_0 rfl ?_
  refine v_ldc dX10_timeOrNone_1 kc_10_174 rfl ?_
  refine v_icmp_ge_f (tgt := 10) (nI_ge (a := t) (b := NEVn) ht (by decide)) dX10_timeOrNone_3 (by decide) rfl ?_
  refine v_iload_1 dX10_timeOrNone_6 rfl ?_
  refine v_goto (n := 16) dX10_timeOrNone_7 (by decide) ?_
  exact v_ireturn rfl (zp.rf) (zle rfl) (zle rfl) dX10_timeOrNone_16
theorem c_X10_timeOrNone_n {E : zE} {T : zT} {N : zN} {P : zP} {I : zI} {R : zR} (x : Nat) (hx : (T x).1 = 20) : zC E yX10_timeOrNone cX10_timeOrNone 2 (some .int) (zr0 1 21) [.ref x, .int (nI NEVn)] T N P I R (zp (-1000004) T (u3 N 10 9 x (N 10 9 x + 1)) P I R) := by
  refine zC.intro (ls := [some (.ref x), some (.int (nI NEVn))]) pl_RX10 (zle rfl) 0 rfl (fun K => ?_)
  refine v_iload_1 dX10_timeOrNone_0 rfl ?_
  refine v_ldc dX10_timeOrNone_1 kc_10_174 rfl ?_
  refine v_icmp_ge_t (n := 10) (by decide) dX10_timeOrNone_3 (by decide) ?_
  refine v_aload_0 dX10_timeOrNone_10 rfl ?_
  refine v_ldc dX10_timeOrNone_11 kc_10_175 rfl ?_
  refine v_callV (ci := 10) (F := TX10) (c_X10_finding _ _ (by assumption)) yy_X10_finding im_X10_finding se_X10_finding lk_10_66 (by assumption) (zle rfl) rfl (zle rfl) (zle rfl) (zle rfl) (zle rfl) rfl rfl (zle rfl) dX10_timeOrNone_13 rfl (zp.use ?_)
  exact v_ireturn rfl (zp.rf) (zle rfl) (zle rfl) dX10_timeOrNone_16
theorem c_X10_searchAnew {E : zE} {T : zT} {N : zN} {P : zP} {I : zI} {R : zR} (x : Nat) (Mn : Nat → Prop) (b : Nat → Nat → Nat) (g : Nat) (f : zf) (r : zg) (e c d : Nat) (s : Prop) (g' c9 s9 : Nat) (hC : CR T N P I R x Mn b g f r) (hZ : SrI f r) (hMn : ∀ a, Mn a → ¬ (T a).1 = 0) (he : e < tn (f 9)) (hc : c < tn (f 0)) (hd : d < 7) (hg : GrO g (tn (r 10 e)) g' c9 s9) : zC E yX10_searchAnew cX10_searchAnew 6 (some .boolean) (zrm 5 124 c9 s9) [.ref x, .int (nI e), .int (nI c), .int (nI d), .int (zb s)] T N P I R (fun v T' N' P' I' R' => v = some (.int 1) ∧ exQ x Mn b g' f r e d s 0 c T N P I R none T' N' P' I' R') := by
  refine zC.intro (ls := [some (.ref x), some (.int (nI e)), some (.int (nI c)), some (.int (nI d)), some (.int (zb s)), none]) pl_RX10 (zle rfl) 1 rfl (fun K => ?_)
  obtain ⟨hX, hT, hA, hP, hE, hW, hS, hQ⟩ := id hC
  obtain ⟨x1, x2, x3, x4, x5, x6, x7, x8, x9, x10, x11, x12, x13, x14⟩ := id hX
  obtain ⟨t1, t2, t3, t4, t5, t6, t7, t8, t9, t10⟩ := id hT
  have qs := hQ.1
  have h9b := hZ.1.1.2.1.2
  have h0 := hZ.1.2.1
  have h0b := h0.2
  refine v_aload_0 dX10_searchAnew_0 rfl ?_
  refine v_iload_1 dX10_searchAnew_1 rfl ?_
  refine v_callV (ci := 10) (F := TX10) (c_X10_findEdition x (b 0 2) e (b 3 e) x1 x4 x8 (by rw [x11]; exact (hZ.1.1.2.1.within (by decide)).mpr (Nt.of_nI he (by omega))) (by omega) (hE e he).1) yy_X10_findEdition im_X10_findEdition se_X10_findEdition lk_10_179 (by assumption) (zle rfl) rfl (zle rfl) (zle rfl) (by first | (show 0 + c9 ≤ c9; omega) | (show 0 ≤ c9; omega)) (by first | (show 0 + s9 ≤ s9; omega) | (show 0 ≤ s9; omega)) rfl rfl (zle rfl) dX10_searchAnew_2 rfl (za.use ?_)
  refine v_astore_5 dX10_searchAnew_5 rfl (zle rfl) rfl ?_
  refine v_aload_5 dX10_searchAnew_7 rfl ?_
  refine v_ifnull dX10_searchAnew_9 rfl ?_
  refine v_aload_0 dX10_searchAnew_12 rfl ?_
  refine v_getP fl_10_10 x2 (by assumption) rfl (zle rfl) rfl dX10_searchAnew_13 rfl ?_
  refine v_iload_2 dX10_searchAnew_16 rfl ?_
  refine v_callV (ci := 7) (F := TX7) (c_X7_hasCorner (b 0 0) (nI c) t1) yy_X7_hasCorner im_X7_hasCorner se_X7_hasCorner lk_10_78 t1 (zle rfl) rfl (zle rfl) (zle rfl) (by first | (show 0 + c9 ≤ c9; omega) | (show 0 ≤ c9; omega)) (by first | (show 0 + s9 ≤ s9; omega) | (show 0 ≤ s9; omega)) rfl rfl (zle rfl) dX10_searchAnew_17 rfl (zp.use ?_)
  refine v_top (zb_t (by rw [t6]; exact (h0.within (by decide)).mpr (Nt.of_nI hc (by omega)))) ?_
  refine v_if_eq_f (tgt := 30) (by decide) dX10_searchAnew_20 (by decide) rfl ?_
  refine v_iload_3 dX10_searchAnew_23 rfl ?_
  refine v_callS (c_X10_isDay _) yy_X10_isDay st_X10_isDay lk_10_101 (zle rfl) (zle rfl) (by first | (show 0 + c9 ≤ c9; omega) | (show 0 ≤ c9; omega)) (by first | (show 0 + s9 ≤ s9; omega) | (show 0 ≤ s9; omega)) rfl rfl (zle rfl) dX10_searchAnew_24 rfl (zp.use ?_)
  refine v_top (zb_t (day_ok hd)) ?_
  refine v_if_ne_t (n := 32) (by decide) dX10_searchAnew_27 (by decide) ?_
  refine v_aload_0 dX10_searchAnew_32 rfl ?_
  refine v_getP fl_10_44 x7 (by assumption) rfl (zle rfl) rfl dX10_searchAnew_33 rfl ?_
  refine v_aload_0 dX10_searchAnew_36 rfl ?_
  refine v_getP fl_10_10 x2 (by assumption) rfl (zle rfl) rfl dX10_searchAnew_37 rfl ?_
  refine v_aload_5 dX10_searchAnew_40 rfl ?_
  refine v_iload_2 dX10_searchAnew_42 rfl ?_
  refine v_iconst (v := 0) dX10_searchAnew_43 rfl rfl ?_
  refine v_iload_3 dX10_searchAnew_44 rfl ?_
  refine v_iload_4 dX10_searchAnew_45 rfl ?_
  refine v_callV (ci := 4) (F := TX4) (c_X4_explore x Mn b g f r e d s 0 c g' c9 s9 hC hZ he hc (Nat.two_pow_pos _) hd hMn hg) yy_X4_explore im_X4_explore se_X4_explore lk_10_288 qs (zle rfl) rfl (zle rfl) (zle rfl) (by first | (show 0 + c9 ≤ c9; omega) | (show 0 ≤ c9; omega)) (by first | (show 0 + s9 ≤ s9; omega) | (show 0 ≤ s9; omega)) rfl rfl (zle rfl) dX10_searchAnew_47 rfl (fun y T2 N2 P2 I2 R2 hq => ?_)
  have hy : y = none := hq.1
  subst hy
  refine v_iconst (v := 1) dX10_searchAnew_50 rfl rfl ?_
  exact v_zreturn rfl rfl (⟨rfl, hq⟩) (by first | (show 0 + c9 ≤ c9; omega) | (show 0 ≤ c9; omega)) (by first | (show 0 + s9 ≤ s9; omega) | (show 0 ≤ s9; omega)) dX10_searchAnew_51
theorem c_X10_quickest {E : zE} {T : zT} {N : zN} {P : zP} {I : zI} {R : zR} (x : Nat) (Mn : Nat → Prop) (b : Nat → Nat → Nat) (g : Nat) (f : zf) (r : zg) (e c d : Nat) (s : Prop) (g' c9 s9 : Nat) (hC : CR T N P I R x Mn b g f r) (hZ : SrI f r) (hMn : ∀ a, Mn a → ¬ (T a).1 = 0) (he : e < tn (f 9)) (hc : c < tn (f 0)) (hd : d < 7) (hak : asks f (nI e) (nI c) (nI d)) (hg : GrO g (tn (r 10 e)) g' c9 s9) : zC E yX10_quickest cX10_quickest 5 (some .int) (zrm 6 149 c9 s9) [.ref x, .int (nI e), .int (nI c), .int (nI d), .int (zb s)] T N P I R (cQ x Mn g' T N P I R (ac_quickest f r (nI e) (nI c) (nI d) s)) := by
  refine zC.intro (ls := [some (.ref x), some (.int (nI e)), some (.int (nI c)), some (.int (nI d)), some (.int (zb s))]) pl_RX10 (zle rfl) 0 rfl (fun K => ?_)
  obtain ⟨hX, hT, hA, hP, hE, hW, hS, hQ⟩ := id hC
  obtain ⟨x1, x2, x3, x4, x5, x6, x7, x8, x9, x10, x11, x12, x13, x14⟩ := id hX
  obtain ⟨t1, t2, t3, t4, t5, t6, t7, t8, t9, t10⟩ := id hT
  have qs := hQ.1
  have h9b := hZ.1.1.2.1.2
  have h0 := hZ.1.2.1
  have h0b := h0.2
  have te : tn (nI e) = e := tn_nI (by omega)
  have tc : tn (nI c) = c := tn_nI (by omega)
  have td : tn (nI d) = d := tn_nI (by omega)
  refine v_aload_0 dX10_quickest_0 rfl ?_
  refine v_iload_1 dX10_quickest_1 rfl ?_
  refine v_iload_2 dX10_quickest_2 rfl ?_
  refine v_iload_3 dX10_quickest_3 rfl ?_
  refine v_iload_4 dX10_quickest_4 rfl ?_
  refine v_callV (ci := 10) (F := TX10) (c_X10_searchAnew x Mn b g f r e c d s g' c9 s9 hC hZ hMn he hc hd hg) yy_X10_searchAnew im_X10_searchAnew se_X10_searchAnew lk_10_154 (by assumption) (zle rfl) rfl (zle rfl) (zle rfl) (by first | (show 0 + c9 ≤ c9; omega) | (show 0 ≤ c9; omega)) (by first | (show 0 + s9 ≤ s9; omega) | (show 0 ≤ s9; omega)) rfl rfl (zle rfl) dX10_quickest_6 rfl (fun y T2 N2 P2 I2 R2 hq => ?_)
  obtain ⟨rfl, -, rfl, b', hb', hC1, hFr, hX1, tm, rm, st, nb, hNP, hNR, hRR, hBB, hok, hrow⟩ := hq
  have eb0 : b' 0 = b 0 := hb' 0 (by decide)
  obtain ⟨y1, y2, y3, y4, y5, y6, y7, y8, y9, y10, y11, y12, y13, y14⟩ := id hC1.1
  have ys := hC1.2.2.2.2.2.2.2.1
  refine v_if_ne_t (n := 19) (by decide) dX10_quickest_9 (by decide) ?_
  refine v_aload_0 dX10_quickest_19 rfl ?_
  refine v_aload_0 dX10_quickest_20 rfl ?_
  refine v_getP fl_10_44 y7 y1 rfl (zle rfl) rfl dX10_quickest_21 rfl ?_
  refine v_iload_2 dX10_quickest_24 rfl ?_
  refine v_iconst (v := 0) dX10_quickest_25 rfl rfl ?_
  refine v_callV (ci := 4) (F := TX4) (c_X4_timeFrom (b' 0 5) (b' 0 6) (b' 1 5) (b' 1 6) (b' 1 3) (b' 1 4) (2 ^ g') (b' 3 e) (b' 4 e) (b' (10 + e)) r e d 0 0 c (tm 0 c) hX1 (Nat.two_pow_pos _) (by omega) (hrow 0 c Rch.rf)) yy_X4_timeFrom im_X4_timeFrom se_X4_timeFrom lk_10_171 ys (zle rfl) rfl (zle rfl) (zle rfl) (by first | (show 0 + c9 ≤ c9; omega) | (show 0 ≤ c9; omega)) (by first | (show 0 + s9 ≤ s9; omega) | (show 0 ≤ s9; omega)) rfl rfl (zle rfl) dX10_quickest_26 rfl (zp.use ?_)
  have hcv := tm_cv hZ he (Nat.two_pow_pos _) hc hok Rch.rf
  rcases hcv with ⟨v1, v2, v3⟩ | ⟨v1, v2⟩
  · refine v_callV (ci := 10) (F := TX10) (c_X10_timeOrNone x (tm 0 c) y1 v1) yy_X10_timeOrNone im_X10_timeOrNone se_X10_timeOrNone lk_10_108 y1 (zle rfl) rfl (zle rfl) (zle rfl) (by first | (show 0 + c9 ≤ c9; omega) | (show 0 ≤ c9; omega)) (by first | (show 0 + s9 ≤ s9; omega) | (show 0 ≤ s9; omega)) rfl rfl (zle rfl) dX10_quickest_29 rfl (zp.use ?_)
    exact v_ireturn rfl (cQ_tr hFr (cQ_rd hC1 (((zi_t hak).trans (zi_t (by rw [te, tc, td]; exact v2))).trans (by rw [te, tc, td])) (by rw [v3]))) (by first | (show 0 + c9 ≤ c9; omega) | (show 0 ≤ c9; omega)) (by first | (show 0 + s9 ≤ s9; omega) | (show 0 ≤ s9; omega)) dX10_quickest_32
  · refine v_top (congrArg nI v1) ?_
    refine v_callV (ci := 10) (F := TX10) (c_X10_timeOrNone_n x y1) yy_X10_timeOrNone im_X10_timeOrNone se_X10_timeOrNone lk_10_108 y1 (zle rfl) rfl (zle rfl) (zle rfl) (by first | (show 0 + c9 ≤ c9; omega) | (show 0 ≤ c9; omega)) (by first | (show 0 + s9 ≤ s9; omega) | (show 0 ≤ s9; omega)) rfl rfl (zle rfl) dX10_quickest_29 rfl (zp.use ?_)
    exact v_ireturn rfl (cQ_tr hFr (cQ_fd hC1 ((zi_t hak).trans (zi_f (by rw [te, tc, td]; exact v2))))) (by first | (show 0 + c9 ≤ c9; omega) | (show 0 ≤ c9; omega)) (by first | (show 0 + s9 ≤ s9; omega) | (show 0 ≤ s9; omega)) dX10_quickest_32
theorem c_X10_searchAnew_n {E : zE} {T : zT} {N : zN} {P : zP} {I : zI} {R : zR} (x : Nat) (Mn : Nat → Prop) (b : Nat → Nat → Nat) (g : Nat) (f : zf) (r : zg) (e c d : Int32) (s : Prop) (hC : CR T N P I R x Mn b g f r) (hZ : SrI f r) (hak : ¬ asks f e c d) : zC E yX10_searchAnew cX10_searchAnew 6 (some .boolean) (zrm 5 124 0 0) [.ref x, .int e, .int c, .int d, .int (zb s)] T N P I R (zp 0 T N P I R) := by
  refine zC.intro (ls := [some (.ref x), some (.int e), some (.int c), some (.int d), some (.int (zb s)), none]) pl_RX10 (zle rfl) 1 rfl (fun K => ?_)
  obtain ⟨hX, hT, hA, hP, hE, hW, hS, hQ⟩ := id hC
  obtain ⟨x1, x2, x3, x4, x5, x6, x7, x8, x9, x10, x11, x12, x13, x14⟩ := id hX
  obtain ⟨t1, t2, t3, t4, t5, t6, t7, t8, t9, t10⟩ := id hT
  have qs := hQ.1
  have h9b := hZ.1.1.2.1.2
  have h0 := hZ.1.2.1
  have h0b := h0.2
  refine v_aload_0 dX10_searchAnew_0 rfl ?_
  refine v_iload_1 dX10_searchAnew_1 rfl ?_
  by_cases h1 : 0 ≤ e ∧ e ≤ f 9 - 1
  · obtain ⟨e, he, rfl⟩ := fnd hZ.1.1.2.1 (by decide) h1
    refine v_callV (ci := 10) (F := TX10) (c_X10_findEdition x (b 0 2) e (b 3 e) x1 x4 x8 (by rw [x11]; exact h1) (by omega) (hE e he).1) yy_X10_findEdition im_X10_findEdition se_X10_findEdition lk_10_179 (by assumption) (zle rfl) rfl (zle rfl) (zle rfl) (zle rfl) (zle rfl) rfl rfl (zle rfl) dX10_searchAnew_2 rfl (za.use ?_)
    refine v_astore_5 dX10_searchAnew_5 rfl (zle rfl) rfl ?_
    refine v_aload_5 dX10_searchAnew_7 rfl ?_
    refine v_ifnull dX10_searchAnew_9 rfl ?_
    refine v_aload_0 dX10_searchAnew_12 rfl ?_
    refine v_getP fl_10_10 x2 (by assumption) rfl (zle rfl) rfl dX10_searchAnew_13 rfl ?_
    refine v_iload_2 dX10_searchAnew_16 rfl ?_
    refine v_callV (ci := 7) (F := TX7) (c_X7_hasCorner (b 0 0) c t1) yy_X7_hasCorner im_X7_hasCorner se_X7_hasCorner lk_10_78 t1 (zle rfl) rfl (zle rfl) (zle rfl) (zle rfl) (zle rfl) rfl rfl (zle rfl) dX10_searchAnew_17 rfl (zp.use ?_)
    refine v_top (zb_iff (q := 0 ≤ c ∧ c ≤ f 0 - 1) (by rw [t6])) ?_
    refine v_ifz_eq (tgt := 30) dX10_searchAnew_20 (by decide) rfl (fun c20 => ?_) (fun c20 => ?_)
    · refine v_iconst (v := 0) dX10_searchAnew_30 rfl rfl ?_
      exact v_zreturn rfl rfl (zp.rf) (zle rfl) (zle rfl) dX10_searchAnew_31
    · refine v_iload_3 dX10_searchAnew_23 rfl ?_
      refine v_callS (c_X10_isDay _) yy_X10_isDay st_X10_isDay lk_10_101 (zle rfl) (zle rfl) (zle rfl) (zle rfl) rfl rfl (zle rfl) dX10_searchAnew_24 rfl (zp.use ?_)
      refine v_top (zb_f (fun h => hak ⟨h1, c20, h⟩)) ?_
      refine v_if_ne_f (tgt := 32) rfl dX10_searchAnew_27 (by decide) rfl ?_
      refine v_iconst (v := 0) dX10_searchAnew_30 rfl rfl ?_
      exact v_zreturn rfl rfl (zp.rf) (zle rfl) (zle rfl) dX10_searchAnew_31
  · refine v_callV (ci := 10) (F := TX10) (c_X10_findEdition_n x e x1 (by rw [x11]; exact h1)) yy_X10_findEdition im_X10_findEdition se_X10_findEdition lk_10_179 (by assumption) (zle rfl) rfl (zle rfl) (zle rfl) (zle rfl) (zle rfl) rfl rfl (zle rfl) dX10_searchAnew_2 rfl (za.use ?_)
    refine v_astoreN_5 dX10_searchAnew_5 rfl (zle rfl) rfl ?_
    refine v_aloadN_5 dX10_searchAnew_7 rfl ?_
    refine v_ifnullN (n := 30) dX10_searchAnew_9 (by decide) ?_
    refine v_iconst (v := 0) dX10_searchAnew_30 rfl rfl ?_
    exact v_zreturn rfl rfl (zp.rf) (zle rfl) (zle rfl) dX10_searchAnew_31
theorem c_X10_quickest_n {E : zE} {T : zT} {N : zN} {P : zP} {I : zI} {R : zR} (x : Nat) (Mn : Nat → Prop) (b : Nat → Nat → Nat) (g : Nat) (f : zf) (r : zg) (e c d : Int32) (s : Prop) (hC : CR T N P I R x Mn b g f r) (hZ : SrI f r) (hak : ¬ asks f e c d) : zC E yX10_quickest cX10_quickest 5 (some .int) (zrm 6 149 0 0) [.ref x, .int e, .int c, .int d, .int (zb s)] T N P I R (cQ x Mn g T N P I R (ac_quickest f r e c d s)) := by
  refine zC.intro (ls := [some (.ref x), some (.int e), some (.int c), some (.int d), some (.int (zb s))]) pl_RX10 (zle rfl) 0 rfl (fun K => ?_)
  obtain ⟨hX, hT, hA, hP, hE, hW, hS, hQ⟩ := id hC
  obtain ⟨x1, x2, x3, x4, x5, x6, x7, x8, x9, x10, x11, x12, x13, x14⟩ := id hX
  obtain ⟨t1, t2, t3, t4, t5, t6, t7, t8, t9, t10⟩ := id hT
  have qs := hQ.1
  have h9b := hZ.1.1.2.1.2
  have h0 := hZ.1.2.1
  have h0b := h0.2
  refine v_aload_0 dX10_quickest_0 rfl ?_
  refine v_iload_1 dX10_quickest_1 rfl ?_
  refine v_iload_2 dX10_quickest_2 rfl ?_
  refine v_iload_3 dX10_quickest_3 rfl ?_
  refine v_iload_4 dX10_quickest_4 rfl ?_
  refine v_callV (ci := 10) (F := TX10) (c_X10_searchAnew_n x Mn b g f r e c d s hC hZ hak) yy_X10_searchAnew im_X10_searchAnew se_X10_searchAnew lk_10_154 (by assumption) (zle rfl) rfl (zle rfl) (zle rfl) (zle rfl) (zle rfl) rfl rfl (zle rfl) dX10_quickest_6 rfl (zp.use ?_)
  refine v_if_ne_f (tgt := 19) rfl dX10_quickest_9 (by decide) rfl ?_
  refine v_aload_0 dX10_quickest_12 rfl ?_
  refine v_ldc dX10_quickest_13 kc_10_65 rfl ?_
  refine v_callV (ci := 10) (F := TX10) (c_X10_finding _ _ (by assumption)) yy_X10_finding im_X10_finding se_X10_finding lk_10_66 (by assumption) (zle rfl) rfl (zle rfl) (zle rfl) (zle rfl) (zle rfl) rfl rfl (zle rfl) dX10_quickest_15 rfl (zp.use ?_)
  exact v_ireturn rfl (cQ_fd hC (zi_f hak)) (zle rfl) (zle rfl) dX10_quickest_18
theorem c_X10_searchFrom {E : zE} {T : zT} {N : zN} {P : zP} {I : zI} {R : zR} (x : Nat) (Mn : Nat → Prop) (b : Nat → Nat → Nat) (g : Nat) (f : zf) (r : zg) (w g' c9 s9 : Nat) (hC : CR T N P I R x Mn b g f r) (hZ : SrI f r) (hMn : ∀ a, Mn a → ¬ (T a).1 = 0) (hw : w < tn (f 18)) (hg : GrO g (npw r w) g' c9 s9) : zC E yX10_searchFrom cX10_searchFrom 2 none (zrm 5 124 c9 s9) [.ref x, .ref (b 5 w)] T N P I R (exQ x Mn b g' f r (tn (r 22 w)) (tn (f 27)) (r 23 w = 1) (tn (r 20 w)) (tn (r 19 w)) T N P I R) := by
  refine zC.intro (ls := [some (.ref x), some (.ref (b 5 w))]) pl_RX10 (zle rfl) 0 rfl (fun K => ?_)
  obtain ⟨hX, hT, hA, hP, hE, hW, hS, hQ⟩ := id hC
  obtain ⟨x1, x2, x3, x4, x5, x6, x7, x8, x9, x10, x11, x12, x13, x14⟩ := id hX
  obtain ⟨t1, t2, t3, t4, t5, t6, t7, t8, t9, t10⟩ := id hT
  have qs := hQ.1
  have h9b := hZ.1.1.2.1.2
  have h0 := hZ.1.2.1
  have h0b := h0.2
  obtain ⟨w1, w2⟩ := id hW
  obtain ⟨g1, g2, g3, g4, g5, g6, g7, g8, g9, g10, g11⟩ := w1 w hw
  obtain ⟨k1, k2, k3, k4, k5, k6, k7, k8, k9, k10⟩ := hZ.wk hw
  have hd := hZ.1.1.2.2.2.1
  have h18 := hZ.1.1.1.2
  refine v_aload_0 dX10_searchFrom_0 rfl ?_
  refine v_getP fl_10_44 x7 (by assumption) rfl (zle rfl) rfl dX10_searchFrom_1 rfl ?_
  refine v_aload_0 dX10_searchFrom_4 rfl ?_
  refine v_getP fl_10_10 x2 (by assumption) rfl (zle rfl) rfl dX10_searchFrom_5 rfl ?_
  refine v_aload_1 dX10_searchFrom_8 rfl ?_
  refine v_getP fl_10_240 g3 g2 rfl (zle rfl) rfl dX10_searchFrom_9 rfl ?_
  refine v_aload_1 dX10_searchFrom_12 rfl ?_
  refine v_getN fl_10_201 g2 rfl (zle rfl) rfl dX10_searchFrom_13 rfl ?_
  refine v_top (g6.trans k7) ?_
  refine v_aload_1 dX10_searchFrom_16 rfl ?_
  refine v_getN fl_10_223 g2 rfl (zle rfl) rfl dX10_searchFrom_17 rfl ?_
  refine v_top (g7.trans k9) ?_
  refine v_aload_0 dX10_searchFrom_20 rfl ?_
  refine v_getN fl_10_55 (by assumption) rfl (zle rfl) rfl dX10_searchFrom_21 rfl ?_
  refine v_top (x13.trans hd.1) ?_
  refine v_aload_1 dX10_searchFrom_24 rfl ?_
  refine v_getN fl_10_208 g2 rfl (zle rfl) rfl dX10_searchFrom_25 rfl ?_
  refine v_top (g5.trans k6) ?_
  refine v_callV (ci := 4) (F := TX4) (c_X4_explore x Mn b g f r (tn (r 22 w)) (tn (f 27)) (r 23 w = 1) (tn (r 20 w)) (tn (r 19 w)) g' c9 s9 hC hZ k2 k8 k10 hd.2 hMn hg) yy_X4_explore im_X4_explore se_X4_explore lk_10_288 qs (zle rfl) rfl (zle rfl) (zle rfl) (by first | (show 0 + c9 ≤ c9; omega) | (show 0 ≤ c9; omega)) (by first | (show 0 + s9 ≤ s9; omega) | (show 0 ≤ s9; omega)) rfl rfl (zle rfl) dX10_searchFrom_28 rfl (fun y T2 N2 P2 I2 R2 hq => ?_)
  have hy : y = none := hq.1
  subst hy
  exact v_return rfl (hq) (by first | (show 0 + c9 ≤ c9; omega) | (show 0 ≤ c9; omega)) (by first | (show 0 + s9 ≤ s9; omega) | (show 0 ≤ s9; omega)) dX10_searchFrom_31
theorem c_X10_rest {E : zE} {T : zT} {N : zN} {P : zP} {I : zI} {R : zR} (x : Nat) (Mn : Nat → Prop) (b : Nat → Nat → Nat) (g : Nat) (f : zf) (r : zg) (w g' c9 s9 : Nat) (hC : CR T N P I R x Mn b g f r) (hZ : SrI f r) (hMn : ∀ a, Mn a → ¬ (T a).1 = 0) (hw : w < tn (f 18)) (hw0 : 0 ≤ nI w ∧ nI w ≤ f 18 - 1) (hg : GrO g (npw r w) g' c9 s9) : zC E yX10_rest cX10_rest 3 (some .int) (zrm 6 145 c9 s9) [.ref x, .int (nI w)] T N P I R (cQ x Mn g' T N P I R (ac_rest f r (nI w))) := by
  refine zC.intro (ls := [some (.ref x), some (.int (nI w)), none]) pl_RX10 (zle rfl) 1 rfl (fun K => ?_)
  obtain ⟨hX, hT, hA, hP, hE, hW, hS, hQ⟩ := id hC
  obtain ⟨x1, x2, x3, x4, x5, x6, x7, x8, x9, x10, x11, x12, x13, x14⟩ := id hX
  obtain ⟨t1, t2, t3, t4, t5, t6, t7, t8, t9, t10⟩ := id hT
  have qs := hQ.1
  have h9b := hZ.1.1.2.1.2
  have h0 := hZ.1.2.1
  have h0b := h0.2
  obtain ⟨w1, w2⟩ := id hW
  obtain ⟨g1, g2, g3, g4, g5, g6, g7, g8, g9, g10, g11⟩ := w1 w hw
  obtain ⟨k1, k2, k3, k4, k5, k6, k7, k8, k9, k10⟩ := hZ.wk hw
  have hd := hZ.1.1.2.2.2.1
  have h18 := hZ.1.1.1.2
  have tw : tn (nI w) = w := tn_nI (by omega)
  refine v_aload_0 dX10_rest_0 rfl ?_
  refine v_iload_1 dX10_rest_1 rfl ?_
  refine v_callV (ci := 10) (F := TX10) (c_X10_findWalker x (b 0 3) w (b 5 w) x1 x5 x9 (by rw [x12]; exact hw0) (by omega) g1) yy_X10_findWalker im_X10_findWalker se_X10_findWalker lk_10_193 (by assumption) (zle rfl) rfl (zle rfl) (zle rfl) (by first | (show 0 + c9 ≤ c9; omega) | (show 0 ≤ c9; omega)) (by first | (show 0 + s9 ≤ s9; omega) | (show 0 ≤ s9; omega)) rfl rfl (zle rfl) dX10_rest_2 rfl (za.use ?_)
  refine v_astore_2 dX10_rest_5 rfl (zle rfl) rfl ?_
  refine v_aload_2 dX10_rest_6 rfl ?_
  refine v_ifnonnull (n := 17) dX10_rest_7 (by decide) ?_
  refine v_aload_0 dX10_rest_17 rfl ?_
  refine v_aload_2 dX10_rest_18 rfl ?_
  refine v_callV (ci := 10) (F := TX10) (c_X10_searchFrom x Mn b g f r w g' c9 s9 hC hZ hMn hw hg) yy_X10_searchFrom im_X10_searchFrom se_X10_searchFrom lk_10_232 (by assumption) (zle rfl) rfl (zle rfl) (zle rfl) (by first | (show 0 + c9 ≤ c9; omega) | (show 0 ≤ c9; omega)) (by first | (show 0 + s9 ≤ s9; omega) | (show 0 ≤ s9; omega)) rfl rfl (zle rfl) dX10_rest_19 rfl (fun y T2 N2 P2 I2 R2 hq => ?_)
  obtain ⟨rfl, rfl, b', hb', hC1, hFr, hX1, tm, rm, st, nb, hNP, hNR, hRR, hBB, hok, hrow⟩ := hq
  have eb0 : b' 0 = b 0 := hb' 0 (by decide)
  obtain ⟨y1, y2, y3, y4, y5, y6, y7, y8, y9, y10, y11, y12, y13, y14⟩ := id hC1.1
  have ys := hC1.2.2.2.2.2.2.2.1
  obtain ⟨n1, n2, n3, n4, n5, n6, n7, n8, n9, n10, n11⟩ := hC1.2.2.2.2.2.1.1 w hw
  have eb5 : b' 5 = b 5 := hb' 5 (by decide)
  rw [eb5] at n1 n2 n3 n4 n5 n6 n7 n8 n9 n10 n11
  refine v_aload_0 dX10_rest_22 rfl ?_
  refine v_aload_0 dX10_rest_23 rfl ?_
  refine v_getP fl_10_44 y7 y1 rfl (zle rfl) rfl dX10_rest_24 rfl ?_
  refine v_aload_2 dX10_rest_27 rfl ?_
  refine v_getN fl_10_201 n2 rfl (zle rfl) rfl dX10_rest_28 rfl ?_
  refine v_top (n6.trans k7) ?_
  refine v_aload_2 dX10_rest_31 rfl ?_
  refine v_getN fl_10_223 n2 rfl (zle rfl) rfl dX10_rest_32 rfl ?_
  refine v_top (n7.trans k9) ?_
  have hcv := tm_cv hZ k2 k10 k8 hok Rch.rf
  have hmt := Rch.rf (r := r) (e := (tn (r 22 w))) (np := npw r w) (nc := tn (f 0)) (nw := tn (f 3)) (d := (tn (f 27))) (s := (r 23 w = 1)) (S0 := (tn (r 20 w))) (c0 := (tn (r 19 w)))
  refine v_callV (ci := 4) (F := TX4) (c_X4_timeFrom (b' 0 5) (b' 0 6) (b' 1 5) (b' 1 6) (b' 1 3) (b' 1 4) (2 ^ g') (b' 3 (tn (r 22 w))) (b' 4 (tn (r 22 w))) (b' (10 + (tn (r 22 w)))) r (tn (r 22 w)) (tn (f 27)) (tn (r 20 w)) (tn (r 20 w)) (tn (r 19 w)) (tm (tn (r 20 w)) (tn (r 19 w))) hX1 k10 (by omega) (hrow _ _ hmt)) yy_X4_timeFrom im_X4_timeFrom se_X4_timeFrom lk_10_171 ys (zle rfl) rfl (zle rfl) (zle rfl) (by first | (show 0 + c9 ≤ c9; omega) | (show 0 ≤ c9; omega)) (by first | (show 0 + s9 ≤ s9; omega) | (show 0 ≤ s9; omega)) rfl rfl (zle rfl) dX10_rest_35 rfl (zp.use ?_)
  rcases hcv with ⟨v1, v2, v3⟩ | ⟨v1, v2⟩
  · refine v_callV (ci := 10) (F := TX10) (c_X10_timeOrNone x (tm (tn (r 20 w)) (tn (r 19 w))) y1 v1) yy_X10_timeOrNone im_X10_timeOrNone se_X10_timeOrNone lk_10_108 y1 (zle rfl) rfl (zle rfl) (zle rfl) (by first | (show 0 + c9 ≤ c9; omega) | (show 0 ≤ c9; omega)) (by first | (show 0 + s9 ≤ s9; omega) | (show 0 ≤ s9; omega)) rfl rfl (zle rfl) dX10_rest_38 rfl (zp.use ?_)
    exact v_ireturn rfl (cQ_tr hFr (cQ_rd hC1 (((zi_t hw0).trans (zi_t (by rw [tw]; exact v2))).trans (by rw [tw])) (by rw [v3]))) (by first | (show 0 + c9 ≤ c9; omega) | (show 0 ≤ c9; omega)) (by first | (show 0 + s9 ≤ s9; omega) | (show 0 ≤ s9; omega)) dX10_rest_41
  · refine v_top (congrArg nI v1) ?_
    refine v_callV (ci := 10) (F := TX10) (c_X10_timeOrNone_n x y1) yy_X10_timeOrNone im_X10_timeOrNone se_X10_timeOrNone lk_10_108 y1 (zle rfl) rfl (zle rfl) (zle rfl) (by first | (show 0 + c9 ≤ c9; omega) | (show 0 ≤ c9; omega)) (by first | (show 0 + s9 ≤ s9; omega) | (show 0 ≤ s9; omega)) rfl rfl (zle rfl) dX10_rest_38 rfl (zp.use ?_)
    exact v_ireturn rfl (cQ_tr hFr (cQ_fd hC1 ((zi_t hw0).trans (zi_f (by rw [tw]; exact v2))))) (by first | (show 0 + c9 ≤ c9; omega) | (show 0 ≤ c9; omega)) (by first | (show 0 + s9 ≤ s9; omega) | (show 0 ≤ s9; omega)) dX10_rest_41
theorem c_X10_rest_n {E : zE} {T : zT} {N : zN} {P : zP} {I : zI} {R : zR} (x : Nat) (Mn : Nat → Prop) (b : Nat → Nat → Nat) (g : Nat) (f : zf) (r : zg) (w : Int32) (hC : CR T N P I R x Mn b g f r) (hw0 : ¬ (0 ≤ w ∧ w ≤ f 18 - 1)) : zC E yX10_rest cX10_rest 3 (some .int) (zrm 6 145 0 0) [.ref x, .int w] T N P I R (cQ x Mn g T N P I R (ac_rest f r w)) := by
  refine zC.intro (ls := [some (.ref x), some (.int w), none]) pl_RX10 (zle rfl) 1 rfl (fun K => ?_)
  obtain ⟨hX, hT, hA, hP, hE, hW, hS, hQ⟩ := id hC
  obtain ⟨x1, x2, x3, x4, x5, x6, x7, x8, x9, x10, x11, x12, x13, x14⟩ := id hX
  refine v_aload_0 dX10_rest_0 rfl ?_
  refine v_iload_1 dX10_rest_1 rfl ?_
  refine v_callV (ci := 10) (F := TX10) (c_X10_findWalker_n x w x1 (by rw [x12]; exact hw0)) yy_X10_findWalker im_X10_findWalker se_X10_findWalker lk_10_193 (by assumption) (zle rfl) rfl (zle rfl) (zle rfl) (zle rfl) (zle rfl) rfl rfl (zle rfl) dX10_rest_2 rfl (za.use ?_)
  refine v_astoreN_2 dX10_rest_5 rfl (zle rfl) rfl ?_
  refine v_aloadN_2 dX10_rest_6 rfl ?_
  refine v_ifnonnullN dX10_rest_7 rfl ?_
  refine v_aload_0 dX10_rest_10 rfl ?_
  refine v_ldc dX10_rest_11 kc_10_65 rfl ?_
  refine v_callV (ci := 10) (F := TX10) (c_X10_finding _ _ (by assumption)) yy_X10_finding im_X10_finding se_X10_finding lk_10_66 (by assumption) (zle rfl) rfl (zle rfl) (zle rfl) (zle rfl) (zle rfl) rfl rfl (zle rfl) dX10_rest_13 rfl (zp.use ?_)
  exact v_ireturn rfl (cQ_fd hC (zi_f hw0)) (zle rfl) (zle rfl) dX10_rest_16
theorem c_X10_lost_n {E : zE} {T : zT} {N : zN} {P : zP} {I : zI} {R : zR} (x : Nat) (Mn : Nat → Prop) (b : Nat → Nat → Nat) (g : Nat) (f : zf) (r : zg) (w : Int32) (hC : CR T N P I R x Mn b g f r) (hw0 : ¬ (0 ≤ w ∧ w ≤ f 18 - 1)) : zC E yX10_lost cX10_lost 3 (some .int) (zrm 6 145 0 0) [.ref x, .int w] T N P I R (cQ x Mn g T N P I R (ac_lost f r w)) := by
  refine zC.intro (ls := [some (.ref x), some (.int w), none]) pl_RX10 (zle rfl) 1 rfl (fun K => ?_)
  obtain ⟨hX, hT, hA, hP, hE, hW, hS, hQ⟩ := id hC
  obtain ⟨x1, x2, x3, x4, x5, x6, x7, x8, x9, x10, x11, x12, x13, x14⟩ := id hX
  refine v_aload_0 dX10_lost_0 rfl ?_
  refine v_iload_1 dX10_lost_1 rfl ?_
  refine v_callV (ci := 10) (F := TX10) (c_X10_findWalker_n x w x1 (by rw [x12]; exact hw0)) yy_X10_findWalker im_X10_findWalker se_X10_findWalker lk_10_193 (by assumption) (zle rfl) rfl (zle rfl) (zle rfl) (zle rfl) (zle rfl) rfl rfl (zle rfl) dX10_lost_2 rfl (za.use ?_)
  refine v_astoreN_2 dX10_lost_5 rfl (zle rfl) rfl ?_
  refine v_aloadN_2 dX10_lost_6 rfl ?_
  refine v_ifnonnullN dX10_lost_7 rfl ?_
  refine v_aload_0 dX10_lost_10 rfl ?_
  refine v_ldc dX10_lost_11 kc_10_65 rfl ?_
  refine v_callV (ci := 10) (F := TX10) (c_X10_finding _ _ (by assumption)) yy_X10_finding im_X10_finding se_X10_finding lk_10_66 (by assumption) (zle rfl) rfl (zle rfl) (zle rfl) (zle rfl) (zle rfl) rfl rfl (zle rfl) dX10_lost_13 rfl (zp.use ?_)
  exact v_ireturn rfl (cQ_fd hC (zi_f hw0)) (zle rfl) (zle rfl) dX10_lost_16
