theorem ck_0 {f : zf} {r : zg} {e d c : Nat} {s : Prop} : cnp (fun q => rcv f r e d s c q ∧ (fun _ => True) q) 32768 = ckv f r e d s c 0 := by
  unfold ckv
  rw [zi_f (by decide)]
  exact cnp_congr 32768 (fun q _ => by unfold ckp; rw [zi_t rfl])
theorem ck_1 {f : zf} {r : zg} {e d c : Nat} {s : Prop} {tm : Nat → Nat → Nat} (hZ : SrI f r) (he : e < tn (f 9)) (hc : c < tn (f 0)) (hok : TmOK r e (tn (r 10 e)) (tn (f 0)) (tn (f 3)) d s NEVn (Rch r e (tn (r 10 e)) (tn (f 0)) (tn (f 3)) d s 0 c) tm) : cnp (fun q => rcv f r e d s c q ∧ (fun q => NEVn ≤ tm (q / 8) (q % 8)) q) 32768 = ckv f r e d s c 1 := by
  unfold ckv
  rw [zi_f (by decide)]
  refine cnp_congr 32768 (fun q _ => ?_)
  unfold ckp
  rw [zi_f (by decide), zi_t rfl]
  constructor
  · rintro ⟨h1, h2⟩
    refine ⟨h1, ?_⟩
    rcases tm_cv hZ he (Nat.two_pow_pos _) hc hok h1 with ⟨v1, v2, v3⟩ | ⟨v1, v2⟩
    · have h2 : NEVn ≤ tm (q / 8) (q % 8) := h2
      omega
    · exact Nat.not_lt.mp v2
  · rintro ⟨h1, h2⟩
    refine ⟨h1, ?_⟩
    show NEVn ≤ tm (q / 8) (q % 8)
    rcases tm_cv hZ he (Nat.two_pow_pos _) hc hok h1 with ⟨v1, v2, v3⟩ | ⟨v1, v2⟩
    · omega
    · omega
theorem ck_2 {f : zf} {r : zg} {e d c : Nat} {s : Prop} : cnp (fun q => rcv f r e d s c q ∧ (fun q => ¬ ovr r e (nI (q / 8)) (tn (r 10 e)) ∧ 1 < cnp (canP r e (nI (q % 8)) (nI (q / 8)) d) (tn (r 10 e))) q) 32768 = ckv f r e d s c 2 := by
  unfold ckv
  rw [zi_f (by decide)]
  exact cnp_congr 32768 (fun q _ => by unfold ckp; rw [zi_f (by decide), zi_f (by decide)])
theorem ck_3 {f : zf} {r : zg} {e d c : Nat} {s : Prop} {rm : Nat → Nat} (hn : tn (r 10 e) ≤ 12) (hc : c < tn (f 0)) (hB : ∀ S c', S < 2 ^ tn (r 10 e) → ((rm S).testBit c' = true ↔ Rch r e (tn (r 10 e)) (tn (f 0)) (tn (f 3)) d s 0 c S c')) : ors rm 0 (2 ^ tn (r 10 e) - 0) = ckv f r e d s c 3 := by
  unfold ckv
  rw [zi_t rfl]
  exact (ors_hrd hn (Nat.two_pow_pos _) hc hB).symm
theorem c_X10_check {E : zE} {T : zT} {N : zN} {P : zP} {I : zI} {R : zR} (x : Nat) (Mn : Nat → Prop) (b : Nat → Nat → Nat) (g : Nat) (f : zf) (r : zg) (e c d : Nat) (s : Prop) (k : Int32) (g' c9 s9 : Nat) (hC : CR T N P I R x Mn b g f r) (hZ : SrI f r) (hMn : ∀ a, Mn a → ¬ (T a).1 = 0) (he : e < tn (f 9)) (hc : c < tn (f 0)) (hd : d < 7) (hak : asks f (nI e) (nI c) (nI d)) (hk : 0 ≤ k ∧ k ≤ 3) (hg : GrO g (tn (r 10 e)) g' c9 s9) : zC E yX10_check cX10_check 6 (some .int) (zrm 6 149 c9 s9) [.ref x, .int (nI e), .int (nI c), .int (nI d), .int (zb s), .int k] T N P I R (cQ x Mn g' T N P I R (ac_check f r (nI e) (nI c) (nI d) s k)) := by
  refine zC.intro (ls := [some (.ref x), some (.int (nI e)), some (.int (nI c)), some (.int (nI d)), some (.int (zb s)), some (.int k)]) pl_RX10 (zle rfl) 0 rfl (fun K => ?_)
  obtain ⟨hX, hT, hA, hP, hE, hW, hS, hQ⟩ := id hC
  obtain ⟨x1, x2, x3, x4, x5, x6, x7, x8, x9, x10, x11, x12, x13, x14⟩ := id hX
  obtain ⟨t1, t2, t3, t4, t5, t6, t7, t8, t9, t10⟩ := id hT
  have qs := hQ.1
  have h9b := hZ.1.1.2.1.2
  have h0 := hZ.1.2.1
  have h0b := h0.2
  have te : tn (nI e) = e := tn_nI (by omega)
  have tc : tn (nI c) = c := tn_nI (by omega)
  have td : tn (nI d) = d := tn_nI (by omega)
  refine v_iload_5 dX10_check_0 rfl ?_
  refine v_iconst (v := 0) dX10_check_2 rfl rfl ?_
  refine v_iconst (v := 3) dX10_check_3 rfl rfl ?_
  refine v_callS (c_X10_isWithin _ _ _) yy_X10_isWithin st_X10_isWithin lk_10_61 (zle rfl) (zle rfl) (by first | (show 0 + c9 ≤ c9; omega) | (show 0 ≤ c9; omega)) (by first | (show 0 + s9 ≤ s9; omega) | (show 0 ≤ s9; omega)) rfl rfl (zle rfl) dX10_check_4 rfl (zp.use ?_)
  refine v_top (zb_t hk) ?_
  refine v_if_eq_f (tgt := 22) (by decide) dX10_check_7 (by decide) rfl ?_
  refine v_aload_0 dX10_check_10 rfl ?_
  refine v_iload_1 dX10_check_11 rfl ?_
  refine v_iload_2 dX10_check_12 rfl ?_
  refine v_iload_3 dX10_check_13 rfl ?_
  refine v_iload_4 dX10_check_14 rfl ?_
  refine v_callV (ci := 10) (F := TX10) (c_X10_searchAnew x Mn b g f r e c d s g' c9 s9 hC hZ hMn he hc hd hg) yy_X10_searchAnew im_X10_searchAnew se_X10_searchAnew lk_10_154 (by assumption) (zle rfl) rfl (zle rfl) (zle rfl) (by first | (show 0 + c9 ≤ c9; omega) | (show 0 ≤ c9; omega)) (by first | (show 0 + s9 ≤ s9; omega) | (show 0 ≤ s9; omega)) rfl rfl (zle rfl) dX10_check_16 rfl (fun y T2 N2 P2 I2 R2 hq => ?_)
  obtain ⟨rfl, -, rfl, b', hb', hC1, hFr, hX1, tm, rm, st, nb, hNP, hNR, hRR, hBB, hok, hrow⟩ := hq
  have eb0 : b' 0 = b 0 := hb' 0 (by decide)
  obtain ⟨y1, y2, y3, y4, y5, y6, y7, y8, y9, y10, y11, y12, y13, y14⟩ := id hC1.1
  have ys := hC1.2.2.2.2.2.2.2.1
  refine v_if_ne_t (n := 29) (by decide) dX10_check_19 (by decide) ?_
  refine v_iload_5 dX10_check_29 rfl ?_
  by_cases s31_0 : k = 0
  · refine v_tableIn (off := 25) (n := 56) dX10_check_31 (by rw [s31_0]; decide) (by rw [s31_0]; decide) (by rw [s31_0]; rfl) (by decide) ?_
    refine v_aload_0 dX10_check_56 rfl ?_
    refine v_getP fl_10_44 y7 y1 rfl (zle rfl) rfl dX10_check_57 rfl ?_
    refine v_callV (ci := 4) (F := TX4) (c_X4_countMoments (b' 0 5) (b' 0 6) (b' 1 5) (b' 1 6) (b' 1 3) (b' 1 4) (2 ^ g') (b' 3 e) (b' 4 e) (b' (10 + e)) r e d 0 (tn (f 0)) (tn (f 3)) c s rm hX1 (Nat.two_pow_pos _) hc hRR hBB) yy_X4_countMoments im_X4_countMoments se_X4_countMoments lk_10_158 ys (zle rfl) rfl (zle rfl) (zle rfl) (by first | (show 0 + c9 ≤ c9; omega) | (show 0 ≤ c9; omega)) (by first | (show 0 + s9 ≤ s9; omega) | (show 0 ≤ s9; omega)) rfl rfl (zle rfl) dX10_check_60 rfl (zp.use ?_)
    exact v_ireturn rfl (cQ_tr hFr (cQ_rd hC1 ((zi_t ⟨hak, hk⟩).trans (by rw [te, tc, td])) (by rw [s31_0]; exact congrArg nI ck_0))) (by first | (show 0 + c9 ≤ c9; omega) | (show 0 ≤ c9; omega)) (by first | (show 0 + s9 ≤ s9; omega) | (show 0 ≤ s9; omega)) dX10_check_63
  by_cases s31_1 : k = 1
  · refine v_tableIn (off := 33) (n := 64) dX10_check_31 (by rw [s31_1]; decide) (by rw [s31_1]; decide) (by rw [s31_1]; rfl) (by decide) ?_
    refine v_aload_0 dX10_check_64 rfl ?_
    refine v_getP fl_10_44 y7 y1 rfl (zle rfl) rfl dX10_check_65 rfl ?_
    refine v_callV (ci := 4) (F := TX4) (c_X4_countDeadEnds (b' 0 5) (b' 0 6) (b' 1 5) (b' 1 6) (b' 1 3) (b' 1 4) (2 ^ g') (b' 3 e) (b' 4 e) (b' (10 + e)) r e d 0 (tn (f 0)) (tn (f 3)) c s rm tm hX1 (Nat.two_pow_pos _) hc hRR hBB (fun S c h => ⟨hrow S c h, (hok S (h.in (by have := (hZ.1.1.2.2.1 e he).1.2; omega) (Nat.two_pow_pos _) hc).2.1).le h⟩)) yy_X4_countDeadEnds im_X4_countDeadEnds se_X4_countDeadEnds lk_10_162 ys (zle rfl) rfl (zle rfl) (zle rfl) (by first | (show 0 + c9 ≤ c9; omega) | (show 0 ≤ c9; omega)) (by first | (show 0 + s9 ≤ s9; omega) | (show 0 ≤ s9; omega)) rfl rfl (zle rfl) dX10_check_68 rfl (zp.use ?_)
    exact v_ireturn rfl (cQ_tr hFr (cQ_rd hC1 ((zi_t ⟨hak, hk⟩).trans (by rw [te, tc, td])) (by rw [s31_1]; exact congrArg nI (ck_1 hZ he hc hok)))) (by first | (show 0 + c9 ≤ c9; omega) | (show 0 ≤ c9; omega)) (by first | (show 0 + s9 ≤ s9; omega) | (show 0 ≤ s9; omega)) dX10_check_71
  by_cases s31_2 : k = 2
  · refine v_tableIn (off := 41) (n := 72) dX10_check_31 (by rw [s31_2]; decide) (by rw [s31_2]; decide) (by rw [s31_2]; rfl) (by decide) ?_
    refine v_aload_0 dX10_check_72 rfl ?_
    refine v_getP fl_10_44 y7 y1 rfl (zle rfl) rfl dX10_check_73 rfl ?_
    refine v_callV (ci := 4) (F := TX4) (c_X4_countTwoVoices (b' 0 5) (b' 0 6) (b' 1 5) (b' 1 6) (b' 1 3) (b' 1 4) (2 ^ g') (b' 3 e) (b' 4 e) (b' (10 + e)) r e d 0 (tn (f 0)) (tn (f 3)) c s rm hX1 (Nat.two_pow_pos _) hc hRR hBB) yy_X4_countTwoVoices im_X4_countTwoVoices se_X4_countTwoVoices lk_10_165 ys (zle rfl) rfl (zle rfl) (zle rfl) (by first | (show 0 + c9 ≤ c9; omega) | (show 0 ≤ c9; omega)) (by first | (show 0 + s9 ≤ s9; omega) | (show 0 ≤ s9; omega)) rfl rfl (zle rfl) dX10_check_76 rfl (zp.use ?_)
    exact v_ireturn rfl (cQ_tr hFr (cQ_rd hC1 ((zi_t ⟨hak, hk⟩).trans (by rw [te, tc, td])) (by rw [s31_2]; exact congrArg nI ck_2))) (by first | (show 0 + c9 ≤ c9; omega) | (show 0 ≤ c9; omega)) (by first | (show 0 + s9 ≤ s9; omega) | (show 0 ≤ s9; omega)) dX10_check_79
  refine v_tableOut (n := 80) dX10_check_31 (tb_out (k := 2) (fun j hj => by rcases (show j = 0 ∨ j = 1 ∨ j = 2 by omega) with rfl | rfl | rfl <;> first | exact s31_0 | exact s31_1 | exact s31_2)) (by decide) ?_
  have k3 : k = 3 := by
    obtain ⟨q, hq, rfl⟩ := four hk
    rcases (show q = 0 ∨ q = 1 ∨ q = 2 ∨ q = 3 by omega) with h | h | h | h <;> subst h
    · exact absurd rfl s31_0
    · exact absurd rfl s31_1
    · exact absurd rfl s31_2
    · rfl
  refine v_aload_0 dX10_check_80 rfl ?_
  refine v_getP fl_10_44 y7 y1 rfl (zle rfl) rfl dX10_check_81 rfl ?_
  refine v_callV (ci := 4) (F := TX4) (c_X4_heardInSome (b' 0 5) (b' 0 6) (b' 1 5) (b' 1 6) (b' 1 3) (b' 1 4) (2 ^ g') (b' 3 e) (b' 4 e) (b' (10 + e)) r e d 0 rm hX1 (Nat.two_pow_pos _) hRR) yy_X4_heardInSome im_X4_heardInSome se_X4_heardInSome lk_10_168 ys (zle rfl) rfl (zle rfl) (zle rfl) (by first | (show 0 + c9 ≤ c9; omega) | (show 0 ≤ c9; omega)) (by first | (show 0 + s9 ≤ s9; omega) | (show 0 ≤ s9; omega)) rfl rfl (zle rfl) dX10_check_84 rfl (zp.use ?_)
  exact v_ireturn rfl (cQ_tr hFr (cQ_rd hC1 ((zi_t ⟨hak, hk⟩).trans (by rw [te, tc, td])) (by rw [k3]; exact congrArg nI (ck_3 (by have := (hZ.1.1.2.2.1 e he).1.2; omega) hc hBB)))) (by first | (show 0 + c9 ≤ c9; omega) | (show 0 ≤ c9; omega)) (by first | (show 0 + s9 ≤ s9; omega) | (show 0 ≤ s9; omega)) dX10_check_87
theorem c_X10_check_n {E : zE} {T : zT} {N : zN} {P : zP} {I : zI} {R : zR} (x : Nat) (Mn : Nat → Prop) (b : Nat → Nat → Nat) (g : Nat) (f : zf) (r : zg) (e c d : Int32) (s : Prop) (k : Int32) (hC : CR T N P I R x Mn b g f r) (hZ : SrI f r) (hno : ¬ (asks f e c d ∧ (0 ≤ k ∧ k ≤ 3))) : zC E yX10_check cX10_check 6 (some .int) (zrm 6 149 0 0) [.ref x, .int e, .int c, .int d, .int (zb s), .int k] T N P I R (cQ x Mn g T N P I R (ac_check f r e c d s k)) := by
  refine zC.intro (ls := [some (.ref x), some (.int e), some (.int c), some (.int d), some (.int (zb s)), some (.int k)]) pl_RX10 (zle rfl) 0 rfl (fun K => ?_)
  obtain ⟨hX, hT, hA, hP, hE, hW, hS, hQ⟩ := id hC
  obtain ⟨x1, x2, x3, x4, x5, x6, x7, x8, x9, x10, x11, x12, x13, x14⟩ := id hX
  obtain ⟨t1, t2, t3, t4, t5, t6, t7, t8, t9, t10⟩ := id hT
  have qs := hQ.1
  have h9b := hZ.1.1.2.1.2
  have h0 := hZ.1.2.1
  have h0b := h0.2
  refine v_iload_5 dX10_check_0 rfl ?_
  refine v_iconst (v := 0) dX10_check_2 rfl rfl ?_
  refine v_iconst (v := 3) dX10_check_3 rfl rfl ?_
  refine v_callS (c_X10_isWithin _ _ _) yy_X10_isWithin st_X10_isWithin lk_10_61 (zle rfl) (zle rfl) (zle rfl) (zle rfl) rfl rfl (zle rfl) dX10_check_4 rfl (zp.use ?_)
  by_cases hk : 0 ≤ k ∧ k ≤ 3
  · refine v_top (zb_t hk) ?_
    have hak : ¬ asks f e c d := fun h => hno ⟨h, hk⟩
    refine v_if_eq_f (tgt := 22) (by decide) dX10_check_7 (by decide) rfl ?_
    refine v_aload_0 dX10_check_10 rfl ?_
    refine v_iload_1 dX10_check_11 rfl ?_
    refine v_iload_2 dX10_check_12 rfl ?_
    refine v_iload_3 dX10_check_13 rfl ?_
    refine v_iload_4 dX10_check_14 rfl ?_
    refine v_callV (ci := 10) (F := TX10) (c_X10_searchAnew_n x Mn b g f r e c d s hC hZ hak) yy_X10_searchAnew im_X10_searchAnew se_X10_searchAnew lk_10_154 (by assumption) (zle rfl) rfl (zle rfl) (zle rfl) (zle rfl) (zle rfl) rfl rfl (zle rfl) dX10_check_16 rfl (zp.use ?_)
    refine v_if_ne_f (tgt := 29) rfl dX10_check_19 (by decide) rfl ?_
    refine v_aload_0 dX10_check_22 rfl ?_
    refine v_ldc dX10_check_23 kc_10_65 rfl ?_
    refine v_callV (ci := 10) (F := TX10) (c_X10_finding _ _ (by assumption)) yy_X10_finding im_X10_finding se_X10_finding lk_10_66 (by assumption) (zle rfl) rfl (zle rfl) (zle rfl) (zle rfl) (zle rfl) rfl rfl (zle rfl) dX10_check_25 rfl (zp.use ?_)
    exact v_ireturn rfl (cQ_fd hC (zi_f hno)) (zle rfl) (zle rfl) dX10_check_28
  · refine v_top (zb_f hk) ?_
    refine v_if_eq_t (n := 22) rfl dX10_check_7 (by decide) ?_
    refine v_aload_0 dX10_check_22 rfl ?_
    refine v_ldc dX10_check_23 kc_10_65 rfl ?_
    refine v_callV (ci := 10) (F := TX10) (c_X10_finding _ _ (by assumption)) yy_X10_finding im_X10_finding se_X10_finding lk_10_66 (by assumption) (zle rfl) rfl (zle rfl) (zle rfl) (zle rfl) (zle rfl) rfl rfl (zle rfl) dX10_check_25 rfl (zp.use ?_)
    exact v_ireturn rfl (cQ_fd hC (zi_f hno)) (zle rfl) (zle rfl) dX10_check_28
def dsQ (sa na da : Nat) (t : Nat) (T : zT) (N : zN) (P : zP) (I : zI) (R : zR) : Option Value → zT → zN → zP → zI → zR → Prop := fun v T' N' P' I' R' => (∃ w, v = some (.int (nI w)) ∧ ((w < NEVn ∧ t < FARn ∧ w = t) ∨ (w = NEVn ∧ ¬ t < FARn))) ∧ T = T' ∧ N = N' ∧ P = P' ∧ R = R' ∧ ∀ a, a ≠ sa → a ≠ na → a ≠ da → I' a = I a
theorem ds_cv {r : zg} {nc nw d : Nat} {s : Prop} {b a : Nat} {w : Nat → Nat} (hnc : nc ≤ 8) (ha : a < nc) (hw : Sol (edg r nc nw d s) (fun c => c ≠ b) (fun c => c < 8) NEVn w) (hwb : w b = 0) : (w a < NEVn ∧ dsf r nc nw d s b a < FARn ∧ w a = dsf r nc nw d s b a) ∨ (w a = NEVn ∧ ¬ dsf r nc nw d s b a < FARn) := by
  have hF : FARn = 100000000 := rfl
  have hN := NEV_le
  have hok := dsf_ok (r := r) (nc := nc) (nw := nw) (d := d) (s := s) (b := b) hnc
  have hw2 : Sol (edg r nc nw d s) (fun c => c ≠ b) (fun c => c < nc) NEVn w := fun c hc hm => hw c (by omega) hm
  have he := Sol_eq (DsE b hnc) (v := dsf r nc nw d s b) (v' := fun c => min (w c) FARn) hok.1 (Sol_cap hw2 (by decide)) (fun c _ hm => by
    have : c = b := Classical.not_not.mp hm
    subst this
    show min (w c) FARn = _
    rw [hwb, hok.2]; rfl) a ha
  have he : min (w a) FARn = dsf r nc nw d s b a := he
  have hle : w a ≤ NEVn := by
    by_cases hm : a = b
    · rw [hm, hwb]; exact Nat.zero_le _
    · exact (hw2 a ha hm).1
  by_cases hlt : w a < NEVn
  · have hb := Sol_bd (DsE b hnc) (B := 0) hw2 (fun c _ hm _ => by
      have : c = b := Classical.not_not.mp hm
      rw [this, hwb]; exact Nat.le_refl _) _ a (Nat.le_refl _) ha hlt
    have := cnp_le (fun c => w c < w a) 8
    left
    rw [← he]
    omega
  · right
    rw [← he]
    omega
theorem c_X4_distance {E : zE} {T : zT} {N : zN} {P : zP} {I : zI} {R : zR} (sx n sa na da tw wa nw nc d a b : Nat) (wy : Nat → Nat) (r : zg) (s : Prop) (hsx : (T sx).1 = 14) (hpn : P 4 0 sx = some n) (hpd : P 4 1 sx = some da) (hn : (T n).1 = 11) (hsa : P 1 0 n = some sa) (hna : P 1 1 n = some na) (hs : T sa = (1, 64)) (ht : T na = (1, 8)) (hda : T da = (1, 8)) (hne : sa ≠ na) (n1 : da ≠ sa) (n2 : da ≠ na) (hW : TwR T N P R tw wa nw wy r) (hd : d < 7) (hnc : nc ≤ 8) (hWy : WyI r nc nw) (ha : a < nc) (hb : b < nc) : zC E yX4_distance cX4_distance 6 (some .int) (zr0 4 89) [.ref sx, .ref tw, .int (nI a), .int (nI b), .int (nI d), .int (zb s)] T N P I R (dsQ sa na da (dsf r nc nw d s b a) T N P I R) := by
  refine zC.intro (ls := [some (.ref sx), some (.ref tw), some (.int (nI a)), some (.int (nI b)), some (.int (nI d)), some (.int (zb s))]) pl_RX4 (zle rfl) 0 rfl (fun K => ?_)
  refine v_aload_0 dX4_distance_0 rfl ?_
  refine v_getP fl_4_12 hpn hsx rfl (zle rfl) rfl dX4_distance_1 rfl ?_
  refine v_aload_1 dX4_distance_4 rfl ?_
  refine v_iload_4 dX4_distance_5 rfl ?_
  refine v_iload_5 dX4_distance_7 rfl ?_
  refine v_callV (ci := 1) (F := TX1) (c_X1_lay n sa na tw wa nw nc d wy r s hn hsa hna hs ht hne hW hd hnc hWy) yy_X1_lay im_X1_lay se_X1_lay lk_4_45 hn (zle rfl) rfl (zle rfl) (zle rfl) (zle rfl) (zle rfl) rfl rfl (zle rfl) dX4_distance_9 rfl (fun y T2 N2 P2 I2 R2 hq => ?_)
  obtain ⟨rfl, rfl, rfl, rfl, rfl, hI2, st, nb, hNP, hNR⟩ := hq
  refine v_aload_0 dX4_distance_12 rfl ?_
  refine v_getP fl_4_18 hpd hsx rfl (zle rfl) rfl dX4_distance_13 rfl ?_
  refine v_ldc dX4_distance_16 kc_4_49 rfl ?_
  refine v_callS (c_J7_fill_53178 (I := I2) da 8 1000000000 hda (by decide)) yy_J7_fill_53178 st_J7_fill_53178 lk_4_50 (zle rfl) (zle rfl) (zle rfl) (zle rfl) rfl rfl (zle rfl) dX4_distance_18 rfl (zv.use ?_)
  refine v_aload_0 dX4_distance_21 rfl ?_
  refine v_getP fl_4_18 hpd hsx rfl (zle rfl) rfl dX4_distance_22 rfl ?_
  refine v_iload_3 dX4_distance_25 rfl ?_
  refine v_iconst (v := 0) dX4_distance_26 rfl rfl ?_
  refine v_iast (j := b) hda rfl (by omega) (zle rfl) dX4_distance_27 rfl ?_
  refine v_aload_0 dX4_distance_28 rfl ?_
  refine v_getP fl_4_12 hpn hsx rfl (zle rfl) rfl dX4_distance_29 rfl ?_
  refine v_aload_0 dX4_distance_32 rfl ?_
  refine v_getP fl_4_18 hpd hsx rfl (zle rfl) rfl dX4_distance_33 rfl ?_
  refine v_iconst (v := 0) dX4_distance_36 rfl rfl ?_
  refine v_iconst (v := 1) dX4_distance_37 rfl rfl ?_
  refine v_iload_3 dX4_distance_38 rfl ?_
  refine v_ishl dX4_distance_39 rfl ?_
  refine v_iconst (v := -1) dX4_distance_40 rfl rfl ?_
  refine v_ixor dX4_distance_41 rfl ?_
  obtain ⟨w, hw, hwb0⟩ := Sol_ex (K := NEVn) (base := fun _ => 0) (e := (edg r nc nw d s)) (mv := fun c => c ≠ b) (dom := fun c => c < 8) ⟨fun c c' l h => ⟨h.1.1, h.1.2.1, by have := h.1.2.2.1; omega, by have := h.1.2.2.2.1; omega⟩, fun c c' l _ _ h => by have := h.1.2.2.2.1; omega⟩
  have hwb : w b = 0 := hwb0 b (fun h => h.2 rfl)
  have hR3 : NtR (u2 (ur I2 da 0 8 (fun _ => 1000000000)) da b 0) sa na st nb := fun q hq => ⟨by rw [u2_off _ _ (fun e => n2 e.symm), ur_na (fun e => n2 e.symm)]; exact (hNR q hq).1, fun c hc => by rw [u2_off _ _ (fun e => n1 e.symm), ur_na (fun e => n1 e.symm)]; exact (hNR q hq).2 c hc⟩
  have hE8 : Eg (edg r nc nw d s) (fun c => c ≠ b) (fun c => c < 8) := ⟨fun c c' l h => ⟨h.1.1, h.1.2.1, by have := h.1.2.2.1; omega, by have := h.1.2.2.2.1; omega⟩, fun c c' l _ _ h => by have := h.1.2.2.2.1; omega⟩
  have hv3 : Rw (u2 (ur I2 da 0 8 (fun _ => 1000000000)) da b 0) da 0 (fun c => c < 8) (fun c => zi (c = b) 0 NEVn) := fun c hc => by
    refine ⟨hc, ?_, ?_⟩
    · rw [Nat.zero_add]
      show _ = nI (zi (c = b) 0 NEVn)
      by_cases e : c = b
      · subst e; rw [u2_self, zi_t rfl]; rfl
      · rw [u2_ni e, ur_i hc, zi_f e]; rfl
    · show zi (c = b) 0 NEVn ≤ NEVn
      by_cases e : c = b
      · rw [zi_t e]; exact Nat.zero_le _
      · rw [zi_f e]; exact Nat.le_refl _
  have hMb : ∀ c, c < 8 → (bt ((1 : Int32) <<< (nI b &&& 31) ^^^ (-1)) c = true ↔ c < 8 ∧ c ≠ b) := fun c hc => by
    rw [b_xor, b_m1 c (by omega), nI_sh b (by omega), bt_nI (Nat.lt_trans (p256 (show b < 8 by omega)) (by decide)), Nat.testBit_two_pow]
    by_cases e : b = c
    · subst e; simp
    · have : ¬ c = b := fun h => e h.symm
      simp [e, this, hc]
  have hBb : ∀ c, c < 8 → w c ≤ (fun c => zi (c = b) 0 NEVn) c ∧ (c ≠ b → (fun c => zi (c = b) 0 NEVn) c ≤ NEVn) ∧ (¬ c ≠ b → (fun c => zi (c = b) 0 NEVn) c = w c) := fun c hc => by
    by_cases e : c = b
    · subst e
      show w c ≤ zi (c = c) 0 NEVn ∧ (_ → zi (c = c) 0 NEVn ≤ NEVn) ∧ (_ → zi (c = c) 0 NEVn = w c)
      rw [zi_t rfl, hwb]; exact ⟨Nat.le_refl _, fun _ => Nat.zero_le _, fun _ => rfl⟩
    · show w c ≤ zi (c = b) 0 NEVn ∧ (_ → zi (c = b) 0 NEVn ≤ NEVn) ∧ (_ → zi (c = b) 0 NEVn = w c)
      rw [zi_f e]; exact ⟨(hw c hc e).1, fun _ => Nat.le_refl _, fun h => absurd e h⟩
  refine v_callV (ci := 1) (F := TX1) (c_X1_lessen (I := (u2 (ur I2 da 0 8 (fun _ => 1000000000)) da b 0)) n sa na da 0 8 (edg r nc nw d s) st nb (fun c => c < 8) (fun c => c ≠ b) w (fun c => zi (c = b) 0 NEVn) ((1 : Int32) <<< (nI b &&& 31) ^^^ (-1)) hn hsa hna hs ht hda (by decide) (by decide) n1 n2 hNP hR3 hE8 hMb hw (fun c hc => hc) hv3 hBb) yy_X1_lessen im_X1_lessen se_X1_lessen lk_4_56 hn (zle rfl) rfl (zle rfl) (zle rfl) (zle rfl) (zle rfl) rfl rfl (zle rfl) dX4_distance_42 rfl (fun y T3 N3 P3 I4 R3 hq => ?_)
  obtain ⟨rfl, rfl, rfl, rfl, rfl, hI4, hv4⟩ := hq
  refine v_aload_0 dX4_distance_45 rfl ?_
  refine v_getP fl_4_18 hpd hsx rfl (zle rfl) rfl dX4_distance_46 rfl ?_
  refine v_iload_2 dX4_distance_49 rfl ?_
  refine v_iald (j := a) hda rfl (by omega) (zle rfl) dX4_distance_50 rfl ?_
  refine v_top (show I4 da a = nI (w a) by have := (hv4 a (by omega)).2.1; rw [Nat.zero_add] at this; exact this) ?_
  exact v_ireturn rfl (⟨⟨w a, rfl, ds_cv hnc ha hw hwb⟩, rfl, rfl, rfl, rfl, fun q q1 q2 q3 => by
    funext j
    rw [hI4 q j (fun h => q3 h.1), u2_off _ _ q3, ur_na q3, hI2 q q1 q2]⟩) (zle rfl) (zle rfl) dX4_distance_51
theorem c_X10_far {E : zE} {T : zT} {N : zN} {P : zP} {I : zI} {R : zR} (x : Nat) (Mn : Nat → Prop) (b : Nat → Nat → Nat) (g : Nat) (f : zf) (r : zg) (u v d : Int32) (s : Prop) (hC : CR T N P I R x Mn b g f r) (hZ : SrI f r) : zC E yX10_far cX10_far 5 (some .int) (zrm 5 114 0 0) [.ref x, .int u, .int v, .int d, .int (zb s)] T N P I R (cQ x Mn g T N P I R (ac_far f r u v d s)) := by
  refine zC.intro (ls := [some (.ref x), some (.int u), some (.int v), some (.int d), some (.int (zb s))]) pl_RX10 (zle rfl) 0 rfl (fun K => ?_)
  obtain ⟨hX, hT, hA, hP, hE, hW, hS, hQ⟩ := id hC
  obtain ⟨x1, x2, x3, x4, x5, x6, x7, x8, x9, x10, x11, x12, x13, x14⟩ := id hX
  obtain ⟨t1, t2, t3, t4, t5, t6, t7, t8, t9, t10⟩ := id hT
  obtain ⟨q1, q2, q3, q4, q5, q6, q7, q8, e0, q9, q10⟩ := id hQ
  obtain ⟨a1, a2, a3⟩ := id hA
  have h0 := hZ.1.2.1
  have h0b := h0.2
  have h3 := hZ.1.2.2.1
  have h3b := h3.2
  have lv : ∀ i, i < 7 → lvr r i := fun i h => Or.inl h
  have ne : ∀ i j, i < 7 → j < 7 → i ≠ j → b 1 i ≠ b 1 j := fun i j hi hj hn e => hn (a3 i j (lv i hi) (lv j hj) e)
  have hTw : TwR T N P R (b 0 0) (b 0 8) (tn (f 3)) (b 2) r := ⟨t1, t4, t5, t7.trans h3.1, by omega, t9⟩
  refine v_aload_0 dX10_far_0 rfl ?_
  refine v_getP fl_10_10 x2 (by assumption) rfl (zle rfl) rfl dX10_far_1 rfl ?_
  refine v_iload_1 dX10_far_4 rfl ?_
  refine v_callV (ci := 7) (F := TX7) (c_X7_hasCorner (b 0 0) u t1) yy_X7_hasCorner im_X7_hasCorner se_X7_hasCorner lk_10_78 t1 (zle rfl) rfl (zle rfl) (zle rfl) (zle rfl) (zle rfl) rfl rfl (zle rfl) dX10_far_5 rfl (zp.use ?_)
  refine v_top (zb_iff (q := 0 ≤ u ∧ u ≤ f 0 - 1) (by rw [t6])) ?_
  refine v_ifz_eq (tgt := 29) dX10_far_8 (by decide) rfl (fun c8 => ?_) (fun c8 => ?_)
  · refine v_aload_0 dX10_far_29 rfl ?_
    refine v_ldc dX10_far_30 kc_10_65 rfl ?_
    refine v_callV (ci := 10) (F := TX10) (c_X10_finding _ _ (by assumption)) yy_X10_finding im_X10_finding se_X10_finding lk_10_66 (by assumption) (zle rfl) rfl (zle rfl) (zle rfl) (zle rfl) (zle rfl) rfl rfl (zle rfl) dX10_far_32 rfl (zp.use ?_)
    exact v_ireturn rfl (cQ_fd hC (zi_f (fun h => c8 h.1))) (zle rfl) (zle rfl) dX10_far_35
  · refine v_aload_0 dX10_far_11 rfl ?_
    refine v_getP fl_10_10 x2 (by assumption) rfl (zle rfl) rfl dX10_far_12 rfl ?_
    refine v_iload_2 dX10_far_15 rfl ?_
    refine v_callV (ci := 7) (F := TX7) (c_X7_hasCorner (b 0 0) v t1) yy_X7_hasCorner im_X7_hasCorner se_X7_hasCorner lk_10_78 t1 (zle rfl) rfl (zle rfl) (zle rfl) (zle rfl) (zle rfl) rfl rfl (zle rfl) dX10_far_16 rfl (zp.use ?_)
    refine v_top (zb_iff (q := 0 ≤ v ∧ v ≤ f 0 - 1) (by rw [t6])) ?_
    refine v_ifz_eq (tgt := 29) dX10_far_19 (by decide) rfl (fun c19 => ?_) (fun c19 => ?_)
    · refine v_aload_0 dX10_far_29 rfl ?_
      refine v_ldc dX10_far_30 kc_10_65 rfl ?_
      refine v_callV (ci := 10) (F := TX10) (c_X10_finding _ _ (by assumption)) yy_X10_finding im_X10_finding se_X10_finding lk_10_66 (by assumption) (zle rfl) rfl (zle rfl) (zle rfl) (zle rfl) (zle rfl) rfl rfl (zle rfl) dX10_far_32 rfl (zp.use ?_)
      exact v_ireturn rfl (cQ_fd hC (zi_f (fun h => c19 h.2.1))) (zle rfl) (zle rfl) dX10_far_35
    · refine v_iload_3 dX10_far_22 rfl ?_
      refine v_callS (c_X10_isDay _) yy_X10_isDay st_X10_isDay lk_10_101 (zle rfl) (zle rfl) (zle rfl) (zle rfl) rfl rfl (zle rfl) dX10_far_23 rfl (zp.use ?_)
      refine v_ifz_ne (tgt := 36) dX10_far_26 (by decide) rfl (fun c26 => ?_) (fun c26 => ?_)
      · obtain ⟨u, hu, rfl⟩ := fnd h0 (by decide) c8
        obtain ⟨v, hv, rfl⟩ := fnd h0 (by decide) c19
        obtain ⟨d, hd, rfl⟩ := day7 c26
        have tu : tn (nI u) = u := tn_nI (by omega)
        have tv : tn (nI v) = v := tn_nI (by omega)
        have td : tn (nI d) = d := tn_nI (by omega)
        refine v_aload_0 dX10_far_36 rfl ?_
        refine v_aload_0 dX10_far_37 rfl ?_
        refine v_getP fl_10_44 x7 (by assumption) rfl (zle rfl) rfl dX10_far_38 rfl ?_
        refine v_aload_0 dX10_far_41 rfl ?_
        refine v_getP fl_10_10 x2 (by assumption) rfl (zle rfl) rfl dX10_far_42 rfl ?_
        refine v_iload_1 dX10_far_45 rfl ?_
        refine v_iload_2 dX10_far_46 rfl ?_
        refine v_iload_3 dX10_far_47 rfl ?_
        refine v_iload_4 dX10_far_48 rfl ?_
        refine v_callV (ci := 4) (F := TX4) (c_X4_distance (b 0 5) (b 0 6) (b 1 5) (b 1 6) (b 1 2) (b 0 0) (b 0 8) (tn (f 3)) (tn (f 0)) d u v (b 2) r s q1 q2 q6 q3 q4 q5 (a2 5 (lv 5 (by decide))).1 (a2 6 (lv 6 (by decide))).1 (a2 2 (lv 2 (by decide))).1 (ne 5 6 (by decide) (by decide) (by decide)) (ne 2 5 (by decide) (by decide) (by decide)) (ne 2 6 (by decide) (by decide) (by decide)) hTw hd (by omega) hZ.2.1 hu hv) yy_X4_distance im_X4_distance se_X4_distance lk_10_104 q1 (zle rfl) rfl (zle rfl) (zle rfl) (zle rfl) (zle rfl) rfl rfl (zle rfl) dX10_far_50 rfl (fun y T2 N2 P2 I2 R2 hq => ?_)
        obtain ⟨⟨w, rfl, hcv⟩, rfl, rfl, rfl, rfl, hI2⟩ := hq
        have hC1 := hC.si (I' := I2) (fun a _ hn => hI2 a (hn 5 (by decide) (by decide)) (hn 6 (by decide) (by decide)) (hn 2 (by decide) (by decide)))
        have hFr : Cfr Mn T N P I T N P I2 := ⟨rfl, rfl, fun a ha => ⟨hI2 a (fun e => (a2 5 (lv 5 (by decide))).2 (by rw [← e]; exact ha)) (fun e => (a2 6 (lv 6 (by decide))).2 (by rw [← e]; exact ha)) (fun e => (a2 2 (lv 2 (by decide))).2 (by rw [← e]; exact ha)), rfl⟩⟩
        rcases hcv with ⟨v1, v2, v3⟩ | ⟨v1, v2⟩
        · refine v_callV (ci := 10) (F := TX10) (c_X10_timeOrNone x w x1 v1) yy_X10_timeOrNone im_X10_timeOrNone se_X10_timeOrNone lk_10_108 (by assumption) (zle rfl) rfl (zle rfl) (zle rfl) (zle rfl) (zle rfl) rfl rfl (zle rfl) dX10_far_53 rfl (zp.use ?_)
          exact v_ireturn rfl (cQ_tr hFr (cQ_rd hC1 (((zi_t ⟨c8, c19, c26⟩).trans (zi_t (by rw [tu, tv, td]; exact v2))).trans (by rw [tu, tv, td])) (by rw [v3]))) (zle rfl) (zle rfl) dX10_far_56
        · refine v_top (congrArg nI v1) ?_
          refine v_callV (ci := 10) (F := TX10) (c_X10_timeOrNone_n x x1) yy_X10_timeOrNone im_X10_timeOrNone se_X10_timeOrNone lk_10_108 (by assumption) (zle rfl) rfl (zle rfl) (zle rfl) (zle rfl) (zle rfl) rfl rfl (zle rfl) dX10_far_53 rfl (zp.use ?_)
          exact v_ireturn rfl (cQ_tr hFr (cQ_fd hC1 ((zi_t ⟨c8, c19, c26⟩).trans (zi_f (by rw [tu, tv, td]; exact v2))))) (zle rfl) (zle rfl) dX10_far_56
      · refine v_aload_0 dX10_far_29 rfl ?_
        refine v_ldc dX10_far_30 kc_10_65 rfl ?_
        refine v_callV (ci := 10) (F := TX10) (c_X10_finding _ _ (by assumption)) yy_X10_finding im_X10_finding se_X10_finding lk_10_66 (by assumption) (zle rfl) rfl (zle rfl) (zle rfl) (zle rfl) (zle rfl) rfl rfl (zle rfl) dX10_far_32 rfl (zp.use ?_)
        exact v_ireturn rfl (cQ_fd hC (zi_f (fun h => c26 h.2.2))) (zle rfl) (zle rfl) dX10_far_35
