/-- all that can be heard from a moment on -/
noncomputable def hrd (r : zg) (e np nc nw d : Nat) (s : Prop) (S0 c0 : Nat) : Nat := Classical.epsilon (fun x : Nat => ∀ i, x.testBit i = true ↔ ∃ S c, Rch r e np nc nw d s S0 c0 S c ∧ S.testBit i = true)
theorem hrd_eq {r : zg} {e np nc nw d S0 c0 : Nat} {s : Prop} {x : Nat} (h : ∀ i, x.testBit i = true ↔ ∃ S c, Rch r e np nc nw d s S0 c0 S c ∧ S.testBit i = true) : hrd r e np nc nw d s S0 c0 = x := by
  have h2 : ∀ i, (hrd r e np nc nw d s S0 c0).testBit i = true ↔ ∃ S c, Rch r e np nc nw d s S0 c0 S c ∧ S.testBit i = true := Classical.epsilon_spec (p := fun x : Nat => ∀ i, x.testBit i = true ↔ ∃ S c, Rch r e np nc nw d s S0 c0 S c ∧ S.testBit i = true) ⟨x, h⟩
  refine Nat.eq_of_testBit_eq (fun i => ?_)
  have h3 := (h2 i).trans (h i).symm
  cases h4 : (hrd r e np nc nw d s S0 c0).testBit i <;> cases h5 : x.testBit i
  · rfl
  · exact absurd (h3.mpr h5) (by rw [h4]; decide)
  · exact absurd (h3.mp h4) (by rw [h5]; decide)
  · rfl
theorem hrd_row {r : zg} {e np nc nw d S0 c0 : Nat} {s : Prop} {n : Nat} {rw' : Nat → Nat} {mt' : Nat → Prop} (hI : MI r e np nc nw d s S0 c0 n rw' mt') (hA : ∀ q, mt' q ↔ Rch r e np nc nw d s S0 c0 (q / 8) (q % 8)) (hn : np ≤ 12) (hnc : nc ≤ 8) (hS : S0 < 2 ^ np) (hc : c0 < nc) : hrd r e np nc nw d s S0 c0 = orr rw' n := by
  refine hrd_eq (fun i => ?_)
  rw [orr_bt]
  constructor
  · rintro ⟨k, h1, h2⟩
    exact ⟨_, _, hI.1 k h1, h2⟩
  · rintro ⟨S, c, h1, h2⟩
    have hin := h1.in hn hS hc
    have hq : mt' (8 * S + c) := (hA _).mpr (by rw [show (8 * S + c) / 8 = S by omega, show (8 * S + c) % 8 = c by omega]; exact h1)
    obtain ⟨k, k1, k2⟩ := (hI.2.1 _).mp hq
    exact ⟨k, k1, by rw [k2, show (8 * S + c) / 8 = S by omega]; exact h2⟩
/-- what the searches ask of the state -/
def SrI (f : zf) (r : zg) : Prop := SnI f r ∧ WyI r (tn (f 0)) (tn (f 3)) ∧ (∀ e, e < tn (f 9) → ∀ p, p < tn (r 10 e) → Nt (r 13 (12 * e + p)) 10 ∧ ¬ r 13 (12 * e + p) = 0) ∧ ∀ w, w < tn (f 18) → Nt (r 20 w) (2 ^ npw r w) ∧ stl r (tn (r 22 w)) (npw r w) (r 19 w) (tn (f 27)) (r 20 w)
noncomputable abbrev tmv (f : zf) (r : zg) (e d : Nat) (s : Prop) (S c : Nat) : Nat := tmf r e (tn (r 10 e)) (tn (f 0)) (tn (f 3)) d s S c
def asks (f : zf) (e c d : Int32) : Prop := (0 ≤ e ∧ e ≤ f 9 - 1) ∧ (0 ≤ c ∧ c ≤ f 0 - 1) ∧ (0 ≤ d ∧ d ≤ 6)
noncomputable def ac_quickest (f : zf) (r : zg) (e c d : Int32) (s : Prop) : zO := zi (asks f e c d) (zi (tmv f r (tn e) (tn d) s 0 (tn c) < FARn) (nI (tmv f r (tn e) (tn d) s 0 (tn c)), f, r) (fdg (-1000004) f r)) (fdg (-1000001) f r)
noncomputable def ac_rest (f : zf) (r : zg) (w : Int32) : zO := zi (0 ≤ w ∧ w ≤ f 18 - 1) (zi (tmv f r (tn (r 22 (tn w))) (tn (f 27)) (r 23 (tn w) = 1) (tn (r 20 (tn w))) (tn (r 19 (tn w))) < FARn) (nI (tmv f r (tn (r 22 (tn w))) (tn (f 27)) (r 23 (tn w) = 1) (tn (r 20 (tn w))) (tn (r 19 (tn w)))), f, r) (fdg (-1000004) f r)) (fdg (-1000001) f r)
noncomputable abbrev hrv (f : zf) (r : zg) (e d : Nat) (s : Prop) (S c : Nat) : Nat := hrd r e (tn (r 10 e)) (tn (f 0)) (tn (f 3)) d s S c
noncomputable def ac_lost (f : zf) (r : zg) (w : Int32) : zO := zi (0 ≤ w ∧ w ≤ f 18 - 1) ((nI (2 ^ npw r (tn w)) - 1) &&& (nI (hrv f r (tn (r 22 (tn w))) (tn (f 27)) (r 23 (tn w) = 1) (tn (r 20 (tn w))) (tn (r 19 (tn w)))) ^^^ (-1)), f, r) (fdg (-1000001) f r)
abbrev rcv (f : zf) (r : zg) (e d : Nat) (s : Prop) (c q : Nat) : Prop := Rch r e (tn (r 10 e)) (tn (f 0)) (tn (f 3)) d s 0 c (q / 8) (q % 8)
/-- a dead end; two voices -/
def ckp (f : zf) (r : zg) (e d : Nat) (s : Prop) (k : Int32) (q : Nat) : Prop := zi (k = 0) True (zi (k = 1) (FARn ≤ tmv f r e d s (q / 8) (q % 8)) (¬ ovr r e (nI (q / 8)) (tn (r 10 e)) ∧ 1 < cnp (canP r e (nI (q % 8)) (nI (q / 8)) d) (tn (r 10 e))))
noncomputable def ckv (f : zf) (r : zg) (e d : Nat) (s : Prop) (c : Nat) (k : Int32) : Nat := zi (k = 3) (hrv f r e d s 0 c) (cnp (fun q => rcv f r e d s c q ∧ ckp f r e d s k q) 32768)
noncomputable def ac_check (f : zf) (r : zg) (e c d : Int32) (s : Prop) (k : Int32) : zO := zi (asks f e c d ∧ (0 ≤ k ∧ k ≤ 3)) (nI (ckv f r (tn e) (tn d) s (tn c) k), f, r) (fdg (-1000001) f r)
theorem day7 {x : Int32} (h : 0 ≤ x ∧ x ≤ 6) : ∃ q, q < 7 ∧ x = nI q := by
  obtain ⟨k1, k2⟩ := tn_pos h.1
  have := h.2
  rw [Int32.le_iff_toInt_le] at this
  have e6 : (6 : Int32).toInt = 6 := rfl
  exact ⟨tn x, by omega, k1⟩
theorem ft_fr {T : zT} {N : zN} {P : zP} {I : zI} {R : zR} {T' : zT} {I' : zI} {ad : Nat → Nat} (h : ∀ a, (T a).1 ≠ 0 → T' a = T a ∧ (a ≠ ad 39 → I' a = I a)) : Mfr ad T N P I R T' N P I' R := ⟨rfl, rfl, fun _ _ _ _ => rfl, fun a ha => (h a ha).1, fun a ha hk => (h a ha).2 (hk 39 (by decide) rfl)⟩
theorem SrI.wk {f : zf} {r : zg} (h : SrI f r) {w : Nat} (hw : w < tn (f 18)) : r 22 w = nI (tn (r 22 w)) ∧ tn (r 22 w) < tn (f 9) ∧ tn (r 22 w) < 4 ∧ r 10 (tn (r 22 w)) = nI (npw r w) ∧ npw r w ≤ 12 ∧ r 23 w = zb (r 23 w = 1) ∧ r 19 w = nI (tn (r 19 w)) ∧ tn (r 19 w) < tn (f 0) ∧ r 20 w = nI (tn (r 20 w)) ∧ tn (r 20 w) < 2 ^ npw r w := by
  obtain ⟨i1, i2, i3, i4, i5, i6⟩ := h.1.1.ed hw
  obtain ⟨v1, v2, v3⟩ := h.1.2.2.2.2.2 w hw
  obtain ⟨z1, z2⟩ := h.2.2.2 w hw
  exact ⟨i1, i2, i3, i4, i5, zb_of v2, v1.1, v1.2, z1.1, z1.2⟩
theorem c_X11_canAsk {E : zE} {T : zT} {N : zN} {P : zP} {I : zI} {R : zR} (m : Nat) (ad : Nat → Nat) (e c d : Int32) (hM : MOK T P m ad) : zC E yX11_canAsk cX11_canAsk 4 (some .boolean) (zr0 2 43) [.ref m, .int e, .int c, .int d] T N P I R (zp (zb (asks (mf N m) e c d)) T N P I R) := by
  refine zC.intro (ls := [some (.ref m), some (.int e), some (.int c), some (.int d)]) pl_RX11 (zle rfl) 0 rfl (fun K => ?_)
  refine v_aload_0 dX11_canAsk_0 rfl ?_
  refine v_iload_1 dX11_canAsk_1 rfl ?_
  refine v_callV (ci := 11) (F := TX11) (c_X11_isEdition _ _ (MOK.t hM)) yy_X11_isEdition im_X11_isEdition se_X11_isEdition lk_11_191 (MOK.t hM) (zle rfl) rfl (zle rfl) (zle rfl) (zle rfl) (zle rfl) rfl rfl (zle rfl) dX11_canAsk_2 rfl (zp.use ?_)
  refine v_ifz_eq (tgt := 27) dX11_canAsk_5 (by decide) rfl (fun c5 => ?_) (fun c5 => ?_)
  · refine v_iconst (v := 0) dX11_canAsk_27 rfl rfl ?_
    exact v_zreturn rfl rfl (by rw [zb_f (fun h => c5 h.1)]; exact zp.rf) (zle rfl) (zle rfl) dX11_canAsk_28
  · refine v_aload_0 dX11_canAsk_8 rfl ?_
    refine v_iload_2 dX11_canAsk_9 rfl ?_
    refine v_callV (ci := 11) (F := TX11) (c_X11_isCorner _ _ (MOK.t hM)) yy_X11_isCorner im_X11_isCorner se_X11_isCorner lk_11_137 (MOK.t hM) (zle rfl) rfl (zle rfl) (zle rfl) (zle rfl) (zle rfl) rfl rfl (zle rfl) dX11_canAsk_10 rfl (zp.use ?_)
    refine v_ifz_eq (tgt := 27) dX11_canAsk_13 (by decide) rfl (fun c13 => ?_) (fun c13 => ?_)
    · refine v_iconst (v := 0) dX11_canAsk_27 rfl rfl ?_
      exact v_zreturn rfl rfl (by rw [zb_f (fun h => c13 h.2.1)]; exact zp.rf) (zle rfl) (zle rfl) dX11_canAsk_28
    · refine v_iload_3 dX11_canAsk_16 rfl ?_
      refine v_callS (c_X11_isDay _) yy_X11_isDay st_X11_isDay lk_11_144 (zle rfl) (zle rfl) (zle rfl) (zle rfl) rfl rfl (zle rfl) dX11_canAsk_17 rfl (zp.use ?_)
      refine v_ifz_eq (tgt := 27) dX11_canAsk_20 (by decide) rfl (fun c20 => ?_) (fun c20 => ?_)
      · refine v_iconst (v := 0) dX11_canAsk_27 rfl rfl ?_
        exact v_zreturn rfl rfl (by rw [zb_f (fun h => c20 h.2.2)]; exact zp.rf) (zle rfl) (zle rfl) dX11_canAsk_28
      · refine v_iconst (v := 1) dX11_canAsk_23 rfl rfl ?_
        refine v_goto (n := 28) dX11_canAsk_24 (by decide) ?_
        exact v_zreturn rfl rfl (by rw [zb_t ⟨c5, c13, c20⟩]; exact zp.rf) (zle rfl) (zle rfl) dX11_canAsk_28
theorem tmv_far {f : zf} {r : zg} {e d : Nat} {s : Prop} {S c : Nat} (h10 : Nt (r 10 e) 13) (h0 : Nt (f 0) 9) (hS : S < 2 ^ tn (r 10 e)) (hc : c < tn (f 0)) : tmv f r e d s S c ≤ FARn := tmf_far (by have := h10.2; omega) (by have := h0.2; omega) hS hc
theorem FrM_mf {m : Nat} {ad : Nat → Nat} {N : zN} {I : zI} {N' : zN} {I' : zI} (h : FrM m ad N I N' I') : mf N' m = mf N m := by
  funext k
  unfold mf
  by_cases hk : k < 32
  · rw [if_pos hk, if_pos hk, h.1 11 k m (by omega)]
  · rw [if_neg hk, if_neg hk]
theorem FrM.fr {m : Nat} {ad : Nat → Nat} {T : zT} {P : zP} {R : zR} {N : zN} {I : zI} {N' : zN} {I' : zI} (h : FrM m ad N I N' I') : Mfr ad T N P I R T N' P I' R := ⟨rfl, rfl, fun c k a hc => h.1 c k a (fun e => hc e.1), fun _ _ => rfl, fun a _ hk => h.2 a (hk 40 (by decide) rfl) (hk 41 (by decide) rfl)⟩
theorem c_X11_quickest {E : zE} {T : zT} {N : zN} {P : zP} {I : zI} {R : zR} (m : Nat) (ad : Nat → Nat) (e c d : Int32) (s : Prop) (hM : MOK T P m ad) (hZ : SrI (mf N m) (mr I ad)) : zC E yX11_quickest cX11_quickest 6 (some .int) (zrm 3 80 1 8) [.ref m, .int e, .int c, .int d, .int (zb s)] T N P I R (mQ m ad T N P I R (ac_quickest (mf N m) (mr I ad) e c d s)) := by
  refine zC.intro (ls := [some (.ref m), some (.int e), some (.int c), some (.int d), some (.int (zb s)), none]) pl_RX11 (zle rfl) 1 rfl (fun K => ?_)
  refine v_aload_0 dX11_quickest_0 rfl ?_
  refine v_iload_1 dX11_quickest_1 rfl ?_
  refine v_iload_2 dX11_quickest_2 rfl ?_
  refine v_iload_3 dX11_quickest_3 rfl ?_
  refine v_callV (ci := 11) (F := TX11) (c_X11_canAsk m ad e c d hM) yy_X11_canAsk im_X11_canAsk se_X11_canAsk lk_11_238 (MOK.t hM) (zle rfl) rfl (zle rfl) (zle rfl) (zle rfl) (zle rfl) rfl rfl (zle rfl) dX11_quickest_4 rfl (zp.use ?_)
  refine v_ifz_ne (tgt := 17) dX11_quickest_7 (by decide) rfl (fun c7 => ?_) (fun c7 => ?_)
  · have h9 := hZ.1.1.2.1
    have h9b := h9.2
    have h0 : Nt (N 11 0 m) 9 := hZ.1.2.1
    have h0b := h0.2
    have h3 : Nt (N 11 3 m) 15 := hZ.1.2.2.1
    have h3b := h3.2
    obtain ⟨e, he, rfl⟩ := fnd h9 (by decide) c7.1
    obtain ⟨c, hc, rfl⟩ := fnd h0 (by decide) c7.2.1
    obtain ⟨d, hd, rfl⟩ := day7 c7.2.2
    have te : tn (nI e) = e := tn_nI (by omega)
    have tc : tn (nI c) = c := tn_nI (by omega)
    have td : tn (nI d) = d := tn_nI (by omega)
    have h10 : Nt (I (ad 10) e) 13 := (hZ.1.1.2.2.1 e he).1
    have h10b := h10.2
    refine v_aload_0 dX11_quickest_17 rfl ?_
    refine v_iload_1 dX11_quickest_18 rfl ?_
    refine v_iload_3 dX11_quickest_19 rfl ?_
    refine v_iload_4 dX11_quickest_20 rfl ?_
    refine v_callV (ci := 11) (F := TX11) (c_X11_findTimes m ad e (tn (I (ad 10) e)) (tn (N 11 0 m)) (tn (N 11 3 m)) d s hM (by omega) hd h10.1 (by omega) h0.1 (by omega) h3.1 (by omega) hZ.2.1 (fun p hp => (hZ.2.2.1 e he p hp).1)) yy_X11_findTimes im_X11_findTimes se_X11_findTimes lk_11_231 (MOK.t hM) (zle rfl) rfl (zle rfl) (zle rfl) (zle rfl) (zle rfl) rfl rfl (zle rfl) dX11_quickest_22 rfl (fun v1 T2 N2 P2 I2 R2 hq => ?_)
    obtain ⟨rfl, rfl, rfl, rfl, m1, m2, m3, m4⟩ := hq
    have hM := m1
    have hF9 : FARn = 100000000 := rfl
    have mv : I2 (ad 39) c = nI (tmv (mf N m) (mr I ad) e d s 0 c) := by have := m4 0 (Nat.two_pow_pos _) c hc; rw [show 8 * 0 + c = c by omega] at this; exact this
    have hff : (tmv (mf N m) (mr I ad) e d s 0 c) ≤ FARn := tmv_far h10 h0 (Nat.two_pow_pos _) hc
    refine v_aload_0 dX11_quickest_25 rfl ?_
    refine v_getP fl_11_102 (mp_39 hM) (MOK.t hM) rfl (zle rfl) rfl dX11_quickest_26 rfl ?_
    refine v_iload_2 dX11_quickest_29 rfl ?_
    refine v_iconst (v := 0) dX11_quickest_30 rfl rfl ?_
    refine v_callS (c_X11_momentOf c 0) yy_X11_momentOf st_X11_momentOf lk_11_210 (zle rfl) (zle rfl) (zle rfl) (zle rfl) rfl rfl (zle rfl) dX11_quickest_31 rfl (zp.use ?_)
    refine v_top (show nI (8 * 0 + c) = nI c by rw [show 8 * 0 + c = c by omega]) ?_
    refine v_iald (j := c) (ma_39 hM) rfl (by omega) (zle rfl) dX11_quickest_34 rfl ?_
    refine v_top mv ?_
    refine v_istore_5 dX11_quickest_35 rfl (zle rfl) rfl ?_
    refine v_iload_5 dX11_quickest_37 rfl ?_
    refine v_ldc dX11_quickest_39 kc_11_147 rfl ?_
    by_cases hlt : (tmv (mf N m) (mr I ad) e d s 0 c) < FARn
    · refine v_icmp_lt_t (n := 53) (nI_lt (a := (tmv (mf N m) (mr I ad) e d s 0 c)) (b := FARn) hlt (by decide)) dX11_quickest_41 (by decide) ?_
      refine v_iload_5 dX11_quickest_53 rfl ?_
      exact v_ireturn rfl (mQ_go hM (((zi_t c7).trans (zi_t (by rw [te, tc, td]; exact hlt))).trans (by rw [te, tc, td] <;> rfl)) rfl rfl m2 (ft_fr m3)) (zle rfl) (zle rfl) dX11_quickest_55
    · refine v_icmp_lt_f (tgt := 53) (nI_nlt (a := (tmv (mf N m) (mr I ad) e d s 0 c)) (b := FARn) (by omega) (by omega)) dX11_quickest_41 (by decide) rfl ?_
      refine v_aload_0 dX11_quickest_44 rfl ?_
      refine v_ldc dX11_quickest_45 kc_11_158 rfl ?_
      refine v_callV (ci := 11) (F := TX11) (c_X11_finding m (-1000004) (MOK.t hM)) yy_X11_finding im_X11_finding se_X11_finding lk_11_132 (MOK.t hM) (zle rfl) rfl (zle rfl) (zle rfl) (zle rfl) (zle rfl) rfl rfl (zle rfl) dX11_quickest_47 rfl (zp.use ?_)
      refine v_goto (n := 55) dX11_quickest_50 (by decide) ?_
      exact v_ireturn rfl (mQ_go hM ((zi_t c7).trans (zi_f (by rw [te, tc, td]; exact hlt))) rfl (mf_set (by decide)) m2 ((ft_fr m3).n _ _ _)) (zle rfl) (zle rfl) dX11_quickest_55
  · refine v_aload_0 dX11_quickest_10 rfl ?_
    refine v_ldc dX11_quickest_11 kc_11_131 rfl ?_
    refine v_callV (ci := 11) (F := TX11) (c_X11_finding _ _ (MOK.t hM)) yy_X11_finding im_X11_finding se_X11_finding lk_11_132 (MOK.t hM) (zle rfl) rfl (zle rfl) (zle rfl) (zle rfl) (zle rfl) rfl rfl (zle rfl) dX11_quickest_13 rfl (zp.use ?_)
    exact v_ireturn rfl (mQ_fd hM (zi_f c7)) (zle rfl) (zle rfl) dX11_quickest_16
theorem c_X11_rest {E : zE} {T : zT} {N : zN} {P : zP} {I : zI} {R : zR} (m : Nat) (ad : Nat → Nat) (w : Int32) (hM : MOK T P m ad) (hZ : SrI (mf N m) (mr I ad)) : zC E yX11_rest cX11_rest 3 (some .int) (zrm 3 80 1 8) [.ref m, .int w] T N P I R (mQ m ad T N P I R (ac_rest (mf N m) (mr I ad) w)) := by
  refine zC.intro (ls := [some (.ref m), some (.int w), none]) pl_RX11 (zle rfl) 1 rfl (fun K => ?_)
  refine v_aload_0 dX11_rest_0 rfl ?_
  refine v_iload_1 dX11_rest_1 rfl ?_
  refine v_callV (ci := 11) (F := TX11) (c_X11_isWalker _ _ (MOK.t hM)) yy_X11_isWalker im_X11_isWalker se_X11_isWalker lk_11_252 (MOK.t hM) (zle rfl) rfl (zle rfl) (zle rfl) (zle rfl) (zle rfl) rfl rfl (zle rfl) dX11_rest_2 rfl (zp.use ?_)
  refine v_ifz_ne (tgt := 15) dX11_rest_5 (by decide) rfl (fun c5 => ?_) (fun c5 => ?_)
  · have h9 := hZ.1.1.2.1
    have h9b := h9.2
    have h0 : Nt (N 11 0 m) 9 := hZ.1.2.1
    have h0b := h0.2
    have h3 : Nt (N 11 3 m) 15 := hZ.1.2.2.1
    have h3b := h3.2
    obtain ⟨w, hw, rfl⟩ := fnd (c := N 11 18 m) hZ.1.1.1 (by decide) c5
    have h18 : tn (N 11 18 m) < 7 := hZ.1.1.1.2
    have tw : tn (nI w) = w := tn_nI (by omega)
    obtain ⟨k1, k2, k3, k4, k5, k6, k7, k8, k9, k10⟩ := hZ.wk (show w < tn (mf N m 18) from hw)
    have hd := hZ.1.1.2.2.2.1
    have hd7 : tn (N 11 27 m) < 7 := hd.2
    have h12 : 2 ^ npw (mr I ad) w ≤ 2 ^ 12 := Nat.pow_le_pow_right (by decide) k5
    refine v_aload_0 dX11_rest_15 rfl ?_
    refine v_aload_0 dX11_rest_16 rfl ?_
    refine v_getP fl_11_62 (mp_22 hM) (MOK.t hM) rfl (zle rfl) rfl dX11_rest_17 rfl ?_
    refine v_iload_1 dX11_rest_20 rfl ?_
    refine v_iald (j := w) (ma_22 hM) rfl (by omega) (zle rfl) dX11_rest_21 rfl ?_
    refine v_top k1 ?_
    refine v_aload_0 dX11_rest_22 rfl ?_
    refine v_getN fl_11_245 (MOK.t hM) rfl (zle rfl) rfl dX11_rest_23 rfl ?_
    refine v_top hd.1 ?_
    refine v_aload_0 dX11_rest_26 rfl ?_
    refine v_getP fl_11_65 (mp_23 hM) (MOK.t hM) rfl (zle rfl) rfl dX11_rest_27 rfl ?_
    refine v_iload_1 dX11_rest_30 rfl ?_
    refine v_zald (j := w) (ma_23 hM) rfl (by omega) (zle rfl) dX11_rest_31 rfl ?_
    refine v_top k6 ?_
    refine v_callV (ci := 11) (F := TX11) (c_X11_findTimes m ad (tn (I (ad 22) w)) (npw (mr I ad) w) (tn (N 11 0 m)) (tn (N 11 3 m)) (tn (N 11 27 m)) (I (ad 23) w = 1) hM k3 hd7 k4 k5 h0.1 (by omega) h3.1 (by omega) hZ.2.1 (fun p hp => (hZ.2.2.1 (tn (I (ad 22) w)) k2 p hp).1)) yy_X11_findTimes im_X11_findTimes se_X11_findTimes lk_11_231 (MOK.t hM) (zle rfl) rfl (zle rfl) (zle rfl) (zle rfl) (zle rfl) rfl rfl (zle rfl) dX11_rest_32 rfl (fun v1 T2 N2 P2 I2 R2 hq => ?_)
    obtain ⟨rfl, rfl, rfl, rfl, m1, m2, m3, m4⟩ := hq
    have hM := m1
    have hF9 : FARn = 100000000 := rfl
    have mv : I2 (ad 39) (8 * (tn (I (ad 20) w)) + (tn (I (ad 19) w))) = nI (tmv (mf N m) (mr I ad) (tn (I (ad 22) w)) (tn (N 11 27 m)) (I (ad 23) w = 1) (tn (I (ad 20) w)) (tn (I (ad 19) w))) := m4 (tn (I (ad 20) w)) k10 (tn (I (ad 19) w)) k8
    have hff : (tmv (mf N m) (mr I ad) (tn (I (ad 22) w)) (tn (N 11 27 m)) (I (ad 23) w = 1) (tn (I (ad 20) w)) (tn (I (ad 19) w))) ≤ FARn := tmv_far (hZ.1.1.2.2.1 _ k2).1 hZ.1.2.1 k10 k8
    have b1 : (tn (I (ad 20) w)) < 2 ^ 12 := Nat.lt_of_lt_of_le k10 h12
    have b2 : (tn (I (ad 19) w)) < 8 := by have : (tn (I (ad 19) w)) < tn (N 11 0 m) := k8; omega
    refine v_aload_0 dX11_rest_35 rfl ?_
    refine v_getP fl_11_102 (mp_39 hM) (MOK.t hM) rfl (zle rfl) rfl dX11_rest_36 rfl ?_
    refine v_aload_0 dX11_rest_39 rfl ?_
    refine v_getP fl_11_53 (mp_19 hM) (MOK.t hM) rfl (zle rfl) rfl dX11_rest_40 rfl ?_
    refine v_iload_1 dX11_rest_43 rfl ?_
    refine v_iald (j := w) (ma_19 hM) rfl (by omega) (zle rfl) dX11_rest_44 rfl ?_
    refine v_top ((congrFun (congrFun m2 19) w : I2 (ad 19) w = I (ad 19) w).trans k7) ?_
    refine v_aload_0 dX11_rest_45 rfl ?_
    refine v_getP fl_11_56 (mp_20 hM) (MOK.t hM) rfl (zle rfl) rfl dX11_rest_46 rfl ?_
    refine v_iload_1 dX11_rest_49 rfl ?_
    refine v_iald (j := w) (ma_20 hM) rfl (by omega) (zle rfl) dX11_rest_50 rfl ?_
    refine v_top ((congrFun (congrFun m2 20) w : I2 (ad 20) w = I (ad 20) w).trans k9) ?_
    refine v_callS (c_X11_momentOf (tn (I (ad 19) w)) (tn (I (ad 20) w))) yy_X11_momentOf st_X11_momentOf lk_11_210 (zle rfl) (zle rfl) (zle rfl) (zle rfl) rfl rfl (zle rfl) dX11_rest_51 rfl (zp.use ?_)
    refine v_iald (j := 8 * (tn (I (ad 20) w)) + (tn (I (ad 19) w))) (ma_39 hM) rfl (by omega) (zle rfl) dX11_rest_54 rfl ?_
    refine v_top mv ?_
    refine v_istore_2 dX11_rest_55 rfl (zle rfl) rfl ?_
    refine v_iload_2 dX11_rest_56 rfl ?_
    refine v_ldc dX11_rest_57 kc_11_147 rfl ?_
    by_cases hlt : (tmv (mf N m) (mr I ad) (tn (I (ad 22) w)) (tn (N 11 27 m)) (I (ad 23) w = 1) (tn (I (ad 20) w)) (tn (I (ad 19) w))) < FARn
    · refine v_icmp_lt_t (n := 71) (nI_lt (a := (tmv (mf N m) (mr I ad) (tn (I (ad 22) w)) (tn (N 11 27 m)) (I (ad 23) w = 1) (tn (I (ad 20) w)) (tn (I (ad 19) w)))) (b := FARn) hlt (by decide)) dX11_rest_59 (by decide) ?_
      refine v_iload_2 dX11_rest_71 rfl ?_
      exact v_ireturn rfl (mQ_go hM (((zi_t c5).trans (zi_t (by rw [tw]; exact hlt))).trans (by rw [tw] <;> rfl)) rfl rfl m2 (ft_fr m3)) (zle rfl) (zle rfl) dX11_rest_72
    · refine v_icmp_lt_f (tgt := 71) (nI_nlt (a := (tmv (mf N m) (mr I ad) (tn (I (ad 22) w)) (tn (N 11 27 m)) (I (ad 23) w = 1) (tn (I (ad 20) w)) (tn (I (ad 19) w)))) (b := FARn) (by omega) (by omega)) dX11_rest_59 (by decide) rfl ?_
      refine v_aload_0 dX11_rest_62 rfl ?_
      refine v_ldc dX11_rest_63 kc_11_158 rfl ?_
      refine v_callV (ci := 11) (F := TX11) (c_X11_finding m (-1000004) (MOK.t hM)) yy_X11_finding im_X11_finding se_X11_finding lk_11_132 (MOK.t hM) (zle rfl) rfl (zle rfl) (zle rfl) (zle rfl) (zle rfl) rfl rfl (zle rfl) dX11_rest_65 rfl (zp.use ?_)
      refine v_goto (n := 72) dX11_rest_68 (by decide) ?_
      exact v_ireturn rfl (mQ_go hM ((zi_t c5).trans (zi_f (by rw [tw]; exact hlt))) rfl (mf_set (by decide)) m2 ((ft_fr m3).n _ _ _)) (zle rfl) (zle rfl) dX11_rest_72
  · refine v_aload_0 dX11_rest_8 rfl ?_
    refine v_ldc dX11_rest_9 kc_11_131 rfl ?_
    refine v_callV (ci := 11) (F := TX11) (c_X11_finding _ _ (MOK.t hM)) yy_X11_finding im_X11_finding se_X11_finding lk_11_132 (MOK.t hM) (zle rfl) rfl (zle rfl) (zle rfl) (zle rfl) (zle rfl) rfl rfl (zle rfl) dX11_rest_11 rfl (zp.use ?_)
    exact v_ireturn rfl (mQ_fd hM (zi_f c5)) (zle rfl) (zle rfl) dX11_rest_14
theorem c_X11_lost {E : zE} {T : zT} {N : zN} {P : zP} {I : zI} {R : zR} (m : Nat) (ad : Nat → Nat) (w : Int32) (hM : MOK T P m ad) (hZ : SrI (mf N m) (mr I ad)) : zC E yX11_lost cX11_lost 2 (some .int) (zr0 3 82) [.ref m, .int w] T N P I R (mQ m ad T N P I R (ac_lost (mf N m) (mr I ad) w)) := by
  refine zC.intro (ls := [some (.ref m), some (.int w)]) pl_RX11 (zle rfl) 0 rfl (fun K => ?_)
  refine v_aload_0 dX11_lost_0 rfl ?_
  refine v_iload_1 dX11_lost_1 rfl ?_
  refine v_callV (ci := 11) (F := TX11) (c_X11_isWalker _ _ (MOK.t hM)) yy_X11_isWalker im_X11_isWalker se_X11_isWalker lk_11_252 (MOK.t hM) (zle rfl) rfl (zle rfl) (zle rfl) (zle rfl) (zle rfl) rfl rfl (zle rfl) dX11_lost_2 rfl (zp.use ?_)
  refine v_ifz_ne (tgt := 15) dX11_lost_5 (by decide) rfl (fun c5 => ?_) (fun c5 => ?_)
  · have h9 := hZ.1.1.2.1
    have h9b := h9.2
    have h0 : Nt (N 11 0 m) 9 := hZ.1.2.1
    have h0b := h0.2
    have h3 : Nt (N 11 3 m) 15 := hZ.1.2.2.1
    have h3b := h3.2
    obtain ⟨w, hw, rfl⟩ := fnd (c := N 11 18 m) hZ.1.1.1 (by decide) c5
    have h18 : tn (N 11 18 m) < 7 := hZ.1.1.1.2
    have tw : tn (nI w) = w := tn_nI (by omega)
    obtain ⟨k1, k2, k3, k4, k5, k6, k7, k8, k9, k10⟩ := hZ.wk (show w < tn (mf N m 18) from hw)
    have hd := hZ.1.1.2.2.2.1
    have hd7 : tn (N 11 27 m) < 7 := hd.2
    have h12 : 2 ^ npw (mr I ad) w ≤ 2 ^ 12 := Nat.pow_le_pow_right (by decide) k5
    refine v_aload_0 dX11_lost_15 rfl ?_
    refine v_aload_0 dX11_lost_16 rfl ?_
    refine v_getP fl_11_62 (mp_22 hM) (MOK.t hM) rfl (zle rfl) rfl dX11_lost_17 rfl ?_
    refine v_iload_1 dX11_lost_20 rfl ?_
    refine v_iald (j := w) (ma_22 hM) rfl (by omega) (zle rfl) dX11_lost_21 rfl ?_
    refine v_top k1 ?_
    refine v_aload_0 dX11_lost_22 rfl ?_
    refine v_getP fl_11_53 (mp_19 hM) (MOK.t hM) rfl (zle rfl) rfl dX11_lost_23 rfl ?_
    refine v_iload_1 dX11_lost_26 rfl ?_
    refine v_iald (j := w) (ma_19 hM) rfl (by omega) (zle rfl) dX11_lost_27 rfl ?_
    refine v_top k7 ?_
    refine v_aload_0 dX11_lost_28 rfl ?_
    refine v_getP fl_11_56 (mp_20 hM) (MOK.t hM) rfl (zle rfl) rfl dX11_lost_29 rfl ?_
    refine v_iload_1 dX11_lost_32 rfl ?_
    refine v_iald (j := w) (ma_20 hM) rfl (by omega) (zle rfl) dX11_lost_33 rfl ?_
    refine v_top k9 ?_
    refine v_aload_0 dX11_lost_34 rfl ?_
    refine v_getN fl_11_245 (MOK.t hM) rfl (zle rfl) rfl dX11_lost_35 rfl ?_
    refine v_top hd.1 ?_
    refine v_aload_0 dX11_lost_38 rfl ?_
    refine v_getP fl_11_65 (mp_23 hM) (MOK.t hM) rfl (zle rfl) rfl dX11_lost_39 rfl ?_
    refine v_iload_1 dX11_lost_42 rfl ?_
    refine v_zald (j := w) (ma_23 hM) rfl (by omega) (zle rfl) dX11_lost_43 rfl ?_
    refine v_top k6 ?_
    refine v_callV (ci := 11) (F := TX11) (c_X11_findMoments m ad (tn (I (ad 22) w)) (npw (mr I ad) w) (tn (N 11 0 m)) (tn (N 11 3 m)) (tn (N 11 27 m)) (tn (I (ad 20) w)) (tn (I (ad 19) w)) (I (ad 23) w = 1) hM k3 hd7 k4 k5 (by omega) h3.1 (by omega) hZ.2.1 k10 k8) yy_X11_findMoments im_X11_findMoments se_X11_findMoments lk_11_224 (MOK.t hM) (zle rfl) rfl (zle rfl) (zle rfl) (zle rfl) (zle rfl) rfl rfl (zle rfl) dX11_lost_44 rfl (fun v1 T2 N2 P2 I2 R2 hq => ?_)
    obtain ⟨rfl, rfl, rfl, rfl, hF2, n2, rw2, mt2, hB2, hI2, hA2⟩ := hq
    have m2 := hF2.mmr hM
    have hrr := hrd_row hI2 hA2 k5 (show tn (N 11 0 m) ≤ 8 by omega) k10 k8
    have hlt2 : ∀ k, k < n2 → rw2 k < 32768 := fun k hk => by have h1 := (hI2.1 k hk).in k5 k10 k8; have h2 := h1.2.1; omega
    refine v_iconst (v := 1) dX11_lost_47 rfl rfl ?_
    refine v_aload_0 dX11_lost_48 rfl ?_
    refine v_getP fl_11_32 (mp_10 hM) (MOK.t hM) rfl (zle rfl) rfl dX11_lost_49 rfl ?_
    refine v_aload_0 dX11_lost_52 rfl ?_
    refine v_getP fl_11_62 (mp_22 hM) (MOK.t hM) rfl (zle rfl) rfl dX11_lost_53 rfl ?_
    refine v_iload_1 dX11_lost_56 rfl ?_
    refine v_iald (j := w) (ma_22 hM) rfl (by omega) (zle rfl) dX11_lost_57 rfl ?_
    refine v_top ((congrFun (congrFun m2 22) w : I2 (ad 22) w = I (ad 22) w).trans k1) ?_
    refine v_iald (j := (tn (I (ad 22) w))) (ma_10 hM) rfl k3 (zle rfl) dX11_lost_58 rfl ?_
    refine v_top ((congrFun (congrFun m2 10) (tn (I (ad 22) w)) : I2 (ad 10) (tn (I (ad 22) w)) = I (ad 10) (tn (I (ad 22) w))).trans k4) ?_
    refine v_ishl dX11_lost_59 rfl ?_
    refine v_top (nI_sh13 _ (by omega)) ?_
    refine v_iconst (v := 1) dX11_lost_60 rfl rfl ?_
    refine v_isub dX11_lost_61 rfl ?_
    refine v_aload_0 dX11_lost_62 rfl ?_
    refine v_callV (ci := 11) (F := TX11) (c_X11_allHeard (N := N2) (I := I2) m ad n2 rw2 hM hB2.1 (fun k hk => ⟨hB2.2.1 k hk, hlt2 k hk⟩) hI2.le) yy_X11_allHeard im_X11_allHeard se_X11_allHeard lk_11_228 (MOK.t hM) (zle rfl) rfl (zle rfl) (zle rfl) (zle rfl) (zle rfl) rfl rfl (zle rfl) dX11_lost_63 rfl (zp.use ?_)
    refine v_iconst (v := -1) dX11_lost_66 rfl rfl ?_
    refine v_ixor dX11_lost_67 rfl ?_
    refine v_iand dX11_lost_68 rfl ?_
    exact v_ireturn rfl (mQ_go hM (zi_t c5) (by rw [tw]; exact congrArg (fun x => (nI (2 ^ npw (mr I ad) w) - 1) &&& (nI x ^^^ (-1))) hrr.symm) (FrM_mf hF2) m2 hF2.fr) (zle rfl) (zle rfl) dX11_lost_69
  · refine v_aload_0 dX11_lost_8 rfl ?_
    refine v_ldc dX11_lost_9 kc_11_131 rfl ?_
    refine v_callV (ci := 11) (F := TX11) (c_X11_finding _ _ (MOK.t hM)) yy_X11_finding im_X11_finding se_X11_finding lk_11_132 (MOK.t hM) (zle rfl) rfl (zle rfl) (zle rfl) (zle rfl) (zle rfl) rfl rfl (zle rfl) dX11_lost_11 rfl (zp.use ?_)
    exact v_ireturn rfl (mQ_fd hM (zi_f c5)) (zle rfl) (zle rfl) dX11_lost_14
theorem lp_X11_check {E : zE} {T : zT} {N : zN} {P : zP} {I : zI} {R : zR} {m : Nat} {ad : Nat → Nat} {e c d n2 : Nat} {s : Prop} {k : Int32} {rw2 : Nat → Nat} {Q : Option Value → zT → zN → zP → zI → zR → Prop} {T2 : zT} {N2 : zN} {I2 : zI} {K : zK E yX11_check cX11_check 11 (some .int) (zrm 3 82 1 8)} (hZ : SrI (mf N m) (mr I ad)) (hM : MOK T2 P m ad) (hm2 : mr I2 ad = mr I ad) (he : e < tn (N 11 9 m)) (hc : c < tn (N 11 0 m)) (hd : d < 7) (hk : k = 1 ∨ k = 2) (hn : N2 11 42 m = nI n2) (hn2 : n2 ≤ 32768) (hr : ∀ i, i < n2 → I2 (ad 41) i = nI (rw2 i) ∧ rw2 i / 8 < 2 ^ tn (I (ad 10) e) ∧ rw2 i % 8 < tn (N 11 0 m)) (ht : ∀ S, S < 2 ^ tn (I (ad 10) e) → ∀ c, c < tn (N 11 0 m) → I2 (ad 39) (8 * S + c) = nI (tmv (mf N m) (mr I ad) e d s S c)) (hQ : Q (some (.int (nI (cnp (fun i => (ckp (mf N m) (mr I ad) e d s k) (rw2 i)) n2)))) T2 N2 P I2 R) :
    ∀ h j (o8 o9 o10 : Option Value), j + h = n2 → V K (zQf K Q) T2 N2 P I2 R 1 8 85 [some (.ref m), some (.int (nI e)), some (.int (nI c)), some (.int (nI d)), some (.int (zb s)), some (.int k), some (.int (nI (cnp (fun i => (ckp (mf N m) (mr I ad) e d s k) (rw2 i)) j))), some (.int (nI j)), o8, o9, o10] [] := by
  have h9 := hZ.1.1.2.1
  have h9b := h9.2
  have he5 : e < 4 := by have : tn (mf N m 9) = tn (N 11 9 m) := rfl; omega
  have h10 : Nt (I (ad 10) e) 13 := (hZ.1.1.2.2.1 e he).1
  have h10b := h10.2
  have h0 : Nt (N 11 0 m) 9 := hZ.1.2.1
  have h0b := h0.2
  have h12 : 2 ^ tn (I (ad 10) e) ≤ 2 ^ 12 := Nat.pow_le_pow_right (by decide) (by omega)
  have i10 : I2 (ad 10) e = nI (tn (I (ad 10) e)) := (congrFun (congrFun hm2 10) e : I2 (ad 10) e = I (ad 10) e).trans h10.1
  intro h
  induction h with
  | zero =>
    intro j o8 o9 o10 hj
    obtain rfl : j = n2 := by omega
    refine v_iload_7 dX11_check_85 rfl ?_
    refine v_aload_0 dX11_check_87 rfl ?_
    refine v_getN fl_11_217 (MOK.t hM) rfl (zle rfl) rfl dX11_check_88 rfl ?_
    refine v_top hn ?_
    refine v_icmp_ge_t (n := 201) (nI_le (a := j) (b := j) (by omega) (by omega)) dX11_check_91 (by decide) ?_
    refine v_iload_6 dX11_check_201 rfl ?_
    exact v_ireturn rfl (hQ) (zle rfl) (zle rfl) dX11_check_203
  | succ h ih =>
    intro j o8 o9 o10 hj
    obtain ⟨r1, r2, r3⟩ := hr j (by omega)
    have hF9 : FARn = 100000000 := rfl
    have hff := tmv_far (d := d) (s := s) (f := mf N m) (r := mr I ad) (hZ.1.1.2.2.1 e he).1 hZ.1.2.1 r2 r3
    have cb := cnp_le (fun i => (ckp (mf N m) (mr I ad) e d s k) (rw2 i)) j
    have hct : (ckp (mf N m) (mr I ad) e d s k) (rw2 j) → nI (cnp (fun i => (ckp (mf N m) (mr I ad) e d s k) (rw2 i)) j) + 1 = nI (cnp (fun i => (ckp (mf N m) (mr I ad) e d s k) (rw2 i)) (j + 1)) := fun h => by rw [cnp_t (p := fun i => (ckp (mf N m) (mr I ad) e d s k) (rw2 i)) h, nI_1]
    have hcf : ¬ (ckp (mf N m) (mr I ad) e d s k) (rw2 j) → nI (cnp (fun i => (ckp (mf N m) (mr I ad) e d s k) (rw2 i)) j) + 0 = nI (cnp (fun i => (ckp (mf N m) (mr I ad) e d s k) (rw2 i)) (j + 1)) := fun h => by rw [cnp_f (p := fun i => (ckp (mf N m) (mr I ad) e d s k) (rw2 i)) h, Int32.add_zero]
    refine v_iload_7 dX11_check_85 rfl ?_
    refine v_aload_0 dX11_check_87 rfl ?_
    refine v_getN fl_11_217 (MOK.t hM) rfl (zle rfl) rfl dX11_check_88 rfl ?_
    refine v_top hn ?_
    refine v_icmp_ge_f (tgt := 201) (nI_ge (a := j) (b := n2) (by omega) (by omega)) dX11_check_91 (by decide) rfl ?_
    refine v_aload_0 dX11_check_94 rfl ?_
    refine v_getP fl_11_108 (mp_41 hM) (MOK.t hM) rfl (zle rfl) rfl dX11_check_95 rfl ?_
    refine v_iload_7 dX11_check_98 rfl ?_
    refine v_iald (j := j) (ma_41 hM) rfl (by omega) (zle rfl) dX11_check_100 rfl ?_
    refine v_top r1 ?_
    refine v_bipush (v := 8) dX11_check_101 rfl rfl ?_
    refine v_irem dX11_check_103 (by decide) rfl ?_
    refine v_top (pk_rem (d := 8) (by omega) (by decide) (by decide)) ?_
    refine v_istore_8 dX11_check_104 rfl (zle rfl) rfl ?_
    refine v_aload_0 dX11_check_106 rfl ?_
    refine v_getP fl_11_108 (mp_41 hM) (MOK.t hM) rfl (zle rfl) rfl dX11_check_107 rfl ?_
    refine v_iload_7 dX11_check_110 rfl ?_
    refine v_iald (j := j) (ma_41 hM) rfl (by omega) (zle rfl) dX11_check_112 rfl ?_
    refine v_top r1 ?_
    refine v_bipush (v := 8) dX11_check_113 rfl rfl ?_
    refine v_idiv dX11_check_115 (by decide) rfl ?_
    refine v_top (pk_div (d := 8) (by omega) (by decide) (by decide)) ?_
    refine v_istore_9 dX11_check_116 rfl (zle rfl) rfl ?_
    rcases hk with rfl | rfl
    · refine v_iload_5 dX11_check_118 rfl ?_
      refine v_iconst (v := 1) dX11_check_120 rfl rfl ?_
      refine v_icmp_ne_f (tgt := 149) rfl dX11_check_121 (by decide) rfl ?_
      refine v_aload_0 dX11_check_124 rfl ?_
      refine v_getP fl_11_102 (mp_39 hM) (MOK.t hM) rfl (zle rfl) rfl dX11_check_125 rfl ?_
      refine v_aload_0 dX11_check_128 rfl ?_
      refine v_getP fl_11_108 (mp_41 hM) (MOK.t hM) rfl (zle rfl) rfl dX11_check_129 rfl ?_
      refine v_iload_7 dX11_check_132 rfl ?_
      refine v_iald (j := j) (ma_41 hM) rfl (by omega) (zle rfl) dX11_check_134 rfl ?_
      refine v_top (r1.trans (show nI (rw2 j) = nI (8 * ((rw2 j) / 8) + (rw2 j) % 8) by congr 1; omega)) ?_
      refine v_iald (j := 8 * ((rw2 j) / 8) + (rw2 j) % 8) (ma_39 hM) rfl (by omega) (zle rfl) dX11_check_135 rfl ?_
      refine v_top (ht _ r2 _ r3) ?_
      refine v_ldc dX11_check_136 kc_11_147 rfl ?_
      by_cases hlt : (tmv (mf N m) (mr I ad) e d s ((rw2 j) / 8) ((rw2 j) % 8)) < FARn
      · refine v_icmp_lt_t (n := 145) (nI_lt (a := (tmv (mf N m) (mr I ad) e d s ((rw2 j) / 8) ((rw2 j) % 8))) (b := FARn) hlt (by decide)) dX11_check_138 (by decide) ?_
        refine v_iconst (v := 0) dX11_check_145 rfl rfl ?_
        refine v_goto (n := 178) dX11_check_146 (by decide) ?_
        refine v_istore_10 dX11_check_178 rfl (zle rfl) rfl ?_
        refine v_iload_6 dX11_check_180 rfl ?_
        refine v_iload_10 dX11_check_182 rfl ?_
        refine v_if_eq_t (n := 191) (by decide) dX11_check_184 (by decide) ?_
        refine v_iconst (v := 0) dX11_check_191 rfl rfl ?_
        refine v_iadd dX11_check_192 rfl ?_
        refine v_top (hcf (show ¬ zi _ _ _ by rw [zi_f (by decide), zi_t rfl]; show ¬ FARn ≤ _; omega)) ?_
        refine v_istore_6 dX11_check_193 rfl (zle rfl) rfl ?_
        refine v_iinc_7 dX11_check_195 (nI_1 j) rfl (zle rfl) rfl ?_
        refine v_goto (n := 85) dX11_check_198 (by decide) ?_
        exact ih (j + 1) _ _ _ (by omega)
      · refine v_icmp_lt_f (tgt := 145) (nI_nlt (a := (tmv (mf N m) (mr I ad) e d s ((rw2 j) / 8) ((rw2 j) % 8))) (b := FARn) (by omega) (by omega)) dX11_check_138 (by decide) rfl ?_
        refine v_iconst (v := 1) dX11_check_141 rfl rfl ?_
        refine v_goto (n := 178) dX11_check_142 (by decide) ?_
        refine v_istore_10 dX11_check_178 rfl (zle rfl) rfl ?_
        refine v_iload_6 dX11_check_180 rfl ?_
        refine v_iload_10 dX11_check_182 rfl ?_
        refine v_if_eq_f (tgt := 191) (by decide) dX11_check_184 (by decide) rfl ?_
        refine v_iconst (v := 1) dX11_check_187 rfl rfl ?_
        refine v_goto (n := 192) dX11_check_188 (by decide) ?_
        refine v_iadd dX11_check_192 rfl ?_
        refine v_top (hct (show zi _ _ _ by rw [zi_f (by decide), zi_t rfl]; show FARn ≤ _; omega)) ?_
        refine v_istore_6 dX11_check_193 rfl (zle rfl) rfl ?_
        refine v_iinc_7 dX11_check_195 (nI_1 j) rfl (zle rfl) rfl ?_
        refine v_goto (n := 85) dX11_check_198 (by decide) ?_
        exact ih (j + 1) _ _ _ (by omega)
    · refine v_iload_5 dX11_check_118 rfl ?_
      refine v_iconst (v := 1) dX11_check_120 rfl rfl ?_
      refine v_icmp_ne_t (n := 149) (by decide) dX11_check_121 (by decide) ?_
      refine v_aload_0 dX11_check_149 rfl ?_
      refine v_iload_1 dX11_check_150 rfl ?_
      refine v_iload_9 dX11_check_151 rfl ?_
      refine v_callV (ci := 11) (F := TX11) (c_X11_isOver (I := I2) m ad e (tn (I (ad 10) e)) (nI ((rw2 j) / 8)) hM i10 (by omega) he5) yy_X11_isOver im_X11_isOver se_X11_isOver lk_11_203 (MOK.t hM) (zle rfl) rfl (zle rfl) (zle rfl) (zle rfl) (zle rfl) rfl rfl (zle rfl) dX11_check_153 rfl (zp.use ?_)
      rw [hm2]
      by_cases hO : ovr (mr I ad) e (nI ((rw2 j) / 8)) (tn (I (ad 10) e))
      · refine v_top (zb_t hO) ?_
        refine v_if_ne_t (n := 177) (by decide) dX11_check_156 (by decide) ?_
        refine v_iconst (v := 0) dX11_check_177 rfl rfl ?_
        refine v_istore_10 dX11_check_178 rfl (zle rfl) rfl ?_
        refine v_iload_6 dX11_check_180 rfl ?_
        refine v_iload_10 dX11_check_182 rfl ?_
        refine v_if_eq_t (n := 191) (by decide) dX11_check_184 (by decide) ?_
        refine v_iconst (v := 0) dX11_check_191 rfl rfl ?_
        refine v_iadd dX11_check_192 rfl ?_
        refine v_top (hcf (show ¬ zi _ _ _ by rw [zi_f (by decide), zi_f (by decide)]; exact fun h => h.1 hO)) ?_
        refine v_istore_6 dX11_check_193 rfl (zle rfl) rfl ?_
        refine v_iinc_7 dX11_check_195 (nI_1 j) rfl (zle rfl) rfl ?_
        refine v_goto (n := 85) dX11_check_198 (by decide) ?_
        exact ih (j + 1) _ _ _ (by omega)
      · refine v_top (zb_f hO) ?_
        refine v_if_ne_f (tgt := 177) rfl dX11_check_156 (by decide) rfl ?_
        refine v_aload_0 dX11_check_159 rfl ?_
        refine v_iload_1 dX11_check_160 rfl ?_
        refine v_iload_8 dX11_check_161 rfl ?_
        refine v_iload_9 dX11_check_163 rfl ?_
        refine v_iload_3 dX11_check_165 rfl ?_
        refine v_callV (ci := 11) (F := TX11) (c_X11_manyCan (I := I2) m ad e (tn (I (ad 10) e)) d (nI ((rw2 j) % 8)) (nI ((rw2 j) / 8)) hM he5 hd i10 (by omega)) yy_X11_manyCan im_X11_manyCan se_X11_manyCan lk_11_235 (MOK.t hM) (zle rfl) rfl (zle rfl) (zle rfl) (zle rfl) (zle rfl) rfl rfl (zle rfl) dX11_check_166 rfl (zp.use ?_)
        rw [hm2]
        have cb2 := cnp_le (canP (mr I ad) e (nI ((rw2 j) % 8)) (nI ((rw2 j) / 8)) d) (tn (I (ad 10) e))
        refine v_iconst (v := 1) dX11_check_169 rfl rfl ?_
        by_cases hm1 : 1 < (cnp (canP (mr I ad) e (nI ((rw2 j) % 8)) (nI ((rw2 j) / 8)) d) (tn (I (ad 10) e)))
        · refine v_icmp_le_f (tgt := 177) (nI_ge (a := 1) (b := (cnp (canP (mr I ad) e (nI ((rw2 j) % 8)) (nI ((rw2 j) / 8)) d) (tn (I (ad 10) e)))) hm1 (by omega)) dX11_check_170 (by decide) rfl ?_
          refine v_iconst (v := 1) dX11_check_173 rfl rfl ?_
          refine v_goto (n := 178) dX11_check_174 (by decide) ?_
          refine v_istore_10 dX11_check_178 rfl (zle rfl) rfl ?_
          refine v_iload_6 dX11_check_180 rfl ?_
          refine v_iload_10 dX11_check_182 rfl ?_
          refine v_if_eq_f (tgt := 191) (by decide) dX11_check_184 (by decide) rfl ?_
          refine v_iconst (v := 1) dX11_check_187 rfl rfl ?_
          refine v_goto (n := 192) dX11_check_188 (by decide) ?_
          refine v_iadd dX11_check_192 rfl ?_
          refine v_top (hct (show zi _ _ _ by rw [zi_f (by decide), zi_f (by decide)]; exact ⟨hO, hm1⟩)) ?_
          refine v_istore_6 dX11_check_193 rfl (zle rfl) rfl ?_
          refine v_iinc_7 dX11_check_195 (nI_1 j) rfl (zle rfl) rfl ?_
          refine v_goto (n := 85) dX11_check_198 (by decide) ?_
          exact ih (j + 1) _ _ _ (by omega)
        · refine v_icmp_le_t (n := 177) (nI_le (a := (cnp (canP (mr I ad) e (nI ((rw2 j) % 8)) (nI ((rw2 j) / 8)) d) (tn (I (ad 10) e)))) (b := 1) (by omega) (by decide)) dX11_check_170 (by decide) ?_
          refine v_iconst (v := 0) dX11_check_177 rfl rfl ?_
          refine v_istore_10 dX11_check_178 rfl (zle rfl) rfl ?_
          refine v_iload_6 dX11_check_180 rfl ?_
          refine v_iload_10 dX11_check_182 rfl ?_
          refine v_if_eq_t (n := 191) (by decide) dX11_check_184 (by decide) ?_
          refine v_iconst (v := 0) dX11_check_191 rfl rfl ?_
          refine v_iadd dX11_check_192 rfl ?_
          refine v_top (hcf (show ¬ zi _ _ _ by rw [zi_f (by decide), zi_f (by decide)]; exact fun h => hm1 h.2)) ?_
          refine v_istore_6 dX11_check_193 rfl (zle rfl) rfl ?_
          refine v_iinc_7 dX11_check_195 (nI_1 j) rfl (zle rfl) rfl ?_
          refine v_goto (n := 85) dX11_check_198 (by decide) ?_
          exact ih (j + 1) _ _ _ (by omega)
theorem c_X11_check {E : zE} {T : zT} {N : zN} {P : zP} {I : zI} {R : zR} (m : Nat) (ad : Nat → Nat) (e c d : Int32) (s : Prop) (k : Int32) (hM : MOK T P m ad) (hZ : SrI (mf N m) (mr I ad)) : zC E yX11_check cX11_check 11 (some .int) (zrm 3 82 1 8) [.ref m, .int e, .int c, .int d, .int (zb s), .int k] T N P I R (mQ m ad T N P I R (ac_check (mf N m) (mr I ad) e c d s k)) := by
  refine zC.intro (ls := [some (.ref m), some (.int e), some (.int c), some (.int d), some (.int (zb s)), some (.int k), none, none, none, none, none]) pl_RX11 (zle rfl) 5 rfl (fun K => ?_)
  refine v_aload_0 dX11_check_0 rfl ?_
  refine v_iload_1 dX11_check_1 rfl ?_
  refine v_callV (ci := 11) (F := TX11) (c_X11_isEdition _ _ (MOK.t hM)) yy_X11_isEdition im_X11_isEdition se_X11_isEdition lk_11_191 (MOK.t hM) (zle rfl) rfl (zle rfl) (zle rfl) (zle rfl) (zle rfl) rfl rfl (zle rfl) dX11_check_2 rfl (zp.use ?_)
  refine v_ifz_eq (tgt := 33) dX11_check_5 (by decide) rfl (fun c5 => ?_) (fun c5 => ?_)
  · refine v_aload_0 dX11_check_33 rfl ?_
    refine v_ldc dX11_check_34 kc_11_131 rfl ?_
    refine v_callV (ci := 11) (F := TX11) (c_X11_finding _ _ (MOK.t hM)) yy_X11_finding im_X11_finding se_X11_finding lk_11_132 (MOK.t hM) (zle rfl) rfl (zle rfl) (zle rfl) (zle rfl) (zle rfl) rfl rfl (zle rfl) dX11_check_36 rfl (zp.use ?_)
    exact v_ireturn rfl (mQ_fd hM (zi_f (fun h => c5 h.1.1))) (zle rfl) (zle rfl) dX11_check_39
  · refine v_aload_0 dX11_check_8 rfl ?_
    refine v_iload_2 dX11_check_9 rfl ?_
    refine v_callV (ci := 11) (F := TX11) (c_X11_isCorner _ _ (MOK.t hM)) yy_X11_isCorner im_X11_isCorner se_X11_isCorner lk_11_137 (MOK.t hM) (zle rfl) rfl (zle rfl) (zle rfl) (zle rfl) (zle rfl) rfl rfl (zle rfl) dX11_check_10 rfl (zp.use ?_)
    refine v_ifz_eq (tgt := 33) dX11_check_13 (by decide) rfl (fun c13 => ?_) (fun c13 => ?_)
    · refine v_aload_0 dX11_check_33 rfl ?_
      refine v_ldc dX11_check_34 kc_11_131 rfl ?_
      refine v_callV (ci := 11) (F := TX11) (c_X11_finding _ _ (MOK.t hM)) yy_X11_finding im_X11_finding se_X11_finding lk_11_132 (MOK.t hM) (zle rfl) rfl (zle rfl) (zle rfl) (zle rfl) (zle rfl) rfl rfl (zle rfl) dX11_check_36 rfl (zp.use ?_)
      exact v_ireturn rfl (mQ_fd hM (zi_f (fun h => c13 h.1.2.1))) (zle rfl) (zle rfl) dX11_check_39
    · refine v_iload_3 dX11_check_16 rfl ?_
      refine v_callS (c_X11_isDay _) yy_X11_isDay st_X11_isDay lk_11_144 (zle rfl) (zle rfl) (zle rfl) (zle rfl) rfl rfl (zle rfl) dX11_check_17 rfl (zp.use ?_)
      refine v_ifz_eq (tgt := 33) dX11_check_20 (by decide) rfl (fun c20 => ?_) (fun c20 => ?_)
      · refine v_aload_0 dX11_check_33 rfl ?_
        refine v_ldc dX11_check_34 kc_11_131 rfl ?_
        refine v_callV (ci := 11) (F := TX11) (c_X11_finding _ _ (MOK.t hM)) yy_X11_finding im_X11_finding se_X11_finding lk_11_132 (MOK.t hM) (zle rfl) rfl (zle rfl) (zle rfl) (zle rfl) (zle rfl) rfl rfl (zle rfl) dX11_check_36 rfl (zp.use ?_)
        exact v_ireturn rfl (mQ_fd hM (zi_f (fun h => c20 h.1.2.2))) (zle rfl) (zle rfl) dX11_check_39
      · refine v_iload_5 dX11_check_23 rfl ?_
        refine v_iconst (v := 0) dX11_check_25 rfl rfl ?_
        refine v_iconst (v := 3) dX11_check_26 rfl rfl ?_
        refine v_callS (c_X11_within _ _ _) yy_X11_within st_X11_within lk_11_121 (zle rfl) (zle rfl) (zle rfl) (zle rfl) rfl rfl (zle rfl) dX11_check_27 rfl (zp.use ?_)
        refine v_ifz_ne (tgt := 40) dX11_check_30 (by decide) rfl (fun c30 => ?_) (fun c30 => ?_)
        · have h9 := hZ.1.1.2.1
          have h9b := h9.2
          have h0 : Nt (N 11 0 m) 9 := hZ.1.2.1
          have h0b := h0.2
          have h3 : Nt (N 11 3 m) 15 := hZ.1.2.2.1
          have h3b := h3.2
          obtain ⟨e, he, rfl⟩ := fnd h9 (by decide) c5
          obtain ⟨c, hc, rfl⟩ := fnd h0 (by decide) c13
          obtain ⟨d, hd, rfl⟩ := day7 c20
          have te : tn (nI e) = e := tn_nI (by omega)
          have tc : tn (nI c) = c := tn_nI (by omega)
          have td : tn (nI d) = d := tn_nI (by omega)
          have h10 : Nt (I (ad 10) e) 13 := (hZ.1.1.2.2.1 e he).1
          have h10b := h10.2
          have hak : asks (mf N m) (nI e) (nI c) (nI d) := ⟨c5, c13, c20⟩
          refine v_aload_0 dX11_check_40 rfl ?_
          refine v_iload_1 dX11_check_41 rfl ?_
          refine v_iload_2 dX11_check_42 rfl ?_
          refine v_iconst (v := 0) dX11_check_43 rfl rfl ?_
          refine v_iload_3 dX11_check_44 rfl ?_
          refine v_iload_4 dX11_check_45 rfl ?_
          refine v_callV (ci := 11) (F := TX11) (c_X11_findMoments m ad e (tn (I (ad 10) e)) (tn (N 11 0 m)) (tn (N 11 3 m)) d 0 c s hM (by omega) hd h10.1 (by omega) (by omega) h3.1 (by omega) hZ.2.1 (Nat.two_pow_pos _) hc) yy_X11_findMoments im_X11_findMoments se_X11_findMoments lk_11_224 (MOK.t hM) (zle rfl) rfl (zle rfl) (zle rfl) (zle rfl) (zle rfl) rfl rfl (zle rfl) dX11_check_47 rfl (fun v1 T2 N2 P2 I2 R2 hq => ?_)
          obtain ⟨rfl, rfl, rfl, rfl, hF2, n2, rw2, mt2, hB2, hI2, hA2⟩ := hq
          have m2 := hF2.mmr hM
          have hin : ∀ i, i < n2 → rw2 i / 8 < 2 ^ tn (I (ad 10) e) ∧ rw2 i % 8 < tn (N 11 0 m) := fun i hi => by have h1 := (hI2.1 i hi).in (by omega) (Nat.two_pow_pos _) hc; exact ⟨h1.2.1, h1.2.2⟩
          have h12 : 2 ^ tn (I (ad 10) e) ≤ 2 ^ 12 := Nat.pow_le_pow_right (by decide) (by omega)
          have hcnt : ∀ p : Nat → Prop, cnp (fun i => p (rw2 i)) n2 = cnp (fun q => rcv (mf N m) (mr I ad) e d s c q ∧ p q) 32768 := fun p => (hI2.2.2 p).trans (cnp_congr 32768 (fun q _ => ⟨fun h => ⟨(hA2 q).mp h.1, h.2⟩, fun h => ⟨(hA2 q).mpr h.1, h.2⟩⟩))
          refine v_iload_5 dX11_check_50 rfl ?_
          refine v_if_ne (tgt := 60) dX11_check_52 (by decide) rfl (fun c52 => ?_) (fun c52 => ?_)
          · refine v_iload_5 dX11_check_60 rfl ?_
            refine v_iconst (v := 3) dX11_check_62 rfl rfl ?_
            refine v_icmp_ne (tgt := 71) dX11_check_63 (by decide) rfl (fun c63 => ?_) (fun c63 => ?_)
            · refine v_aload_0 dX11_check_71 rfl ?_
              refine v_iload_1 dX11_check_72 rfl ?_
              refine v_iload_3 dX11_check_73 rfl ?_
              refine v_iload_4 dX11_check_74 rfl ?_
              have hM0 := hM
              have hk3 : ¬ k = 3 := c63
              have hk12 : k = 1 ∨ k = 2 := by
                obtain ⟨q, hq, rfl⟩ := four c30
                rcases (show q = 0 ∨ q = 1 ∨ q = 2 ∨ q = 3 by omega) with h | h | h | h <;> subst h
                · exact absurd rfl c52
                · exact Or.inl rfl
                · exact Or.inr rfl
                · exact absurd rfl c63
              refine v_callV (ci := 11) (F := TX11) (c_X11_findTimes (N := N2) (I := I2) m ad e (tn (I (ad 10) e)) (tn (N 11 0 m)) (tn (N 11 3 m)) d s hM (by omega) hd ((congrFun (congrFun m2 10) e : I2 (ad 10) e = I (ad 10) e).trans h10.1) (by omega) ((hF2.1 11 0 m (by decide)).trans h0.1) (by omega) ((hF2.1 11 3 m (by decide)).trans h3.1) (by omega) (by rw [m2]; exact hZ.2.1) (fun p hp => by rw [show I2 (ad 13) (12 * e + p) = I (ad 13) (12 * e + p) from congrFun (congrFun m2 13) (12 * e + p)]; exact (hZ.2.2.1 e he p hp).1)) yy_X11_findTimes im_X11_findTimes se_X11_findTimes lk_11_231 (MOK.t hM) (zle rfl) rfl (zle rfl) (zle rfl) (zle rfl) (zle rfl) rfl rfl (zle rfl) dX11_check_76 rfl (fun v1 T3 N3 P3 I3 R3 hq => ?_)
              obtain ⟨rfl, rfl, rfl, rfl, z1, z2, z3, z4⟩ := hq
              have hM := z1
              refine v_iconst (v := 0) dX11_check_79 rfl rfl ?_
              refine v_istore_6 dX11_check_80 rfl (zle rfl) rfl ?_
              refine v_iconst (v := 0) dX11_check_82 rfl rfl ?_
              refine v_istore_7 dX11_check_83 rfl (zle rfl) rfl ?_
              have h41 : I3 (ad 41) = I2 (ad 41) := (z3 (ad 41) (by rw [ma_41 hM0]; decide)).2 (hM0.ne (by decide) (by decide) rfl rfl (by decide))
              rw [m2] at z2 z4
              exact lp_X11_check (T := T) (I := I) (rw2 := rw2) hZ hM z2 he hc hd hk12 hB2.1 hI2.le (fun i hi => ⟨by rw [h41]; exact hB2.2.1 i hi, hin i hi⟩) z4 (mQ_go hM ((zi_t ⟨hak, c30⟩).trans (by rw [te, tc, td])) (by rw [ckv, zi_f hk3, ← hcnt]) (FrM_mf hF2) z2 (hF2.fr.tr (ft_fr z3))) n2 0 _ _ _ (by omega)
            · refine v_aload_0 dX11_check_66 rfl ?_
              refine v_callV (ci := 11) (F := TX11) (c_X11_allHeard (N := N2) (I := I2) m ad n2 rw2 hM hB2.1 (fun i hi => ⟨hB2.2.1 i hi, by have := hin i hi; omega⟩) hI2.le) yy_X11_allHeard im_X11_allHeard se_X11_allHeard lk_11_228 (MOK.t hM) (zle rfl) rfl (zle rfl) (zle rfl) (zle rfl) (zle rfl) rfl rfl (zle rfl) dX11_check_67 rfl (zp.use ?_)
              exact v_ireturn rfl (mQ_go hM ((zi_t ⟨hak, c30⟩).trans (by rw [te, tc, td])) (by rw [show k = 3 from c63, ckv, zi_t rfl]; exact congrArg nI (hrd_row hI2 hA2 (by omega) (by omega) (Nat.two_pow_pos _) hc).symm) (FrM_mf hF2) m2 hF2.fr) (zle rfl) (zle rfl) dX11_check_70
          · refine v_aload_0 dX11_check_55 rfl ?_
            refine v_getN fl_11_217 (MOK.t hM) rfl (zle rfl) rfl dX11_check_56 rfl ?_
            refine v_top hB2.1 ?_
            exact v_ireturn rfl (mQ_go hM ((zi_t ⟨hak, c30⟩).trans (by rw [te, tc, td])) (by rw [show k = 0 from c52, ckv, zi_f (by decide)]; have h1 := hcnt (fun _ => True); rw [cnp_all] at h1; exact (congrArg nI h1).trans (congrArg nI (cnp_congr 32768 (fun q _ => by unfold ckp; rw [zi_t rfl])))) (FrM_mf hF2) m2 hF2.fr) (zle rfl) (zle rfl) dX11_check_59
        · refine v_aload_0 dX11_check_33 rfl ?_
          refine v_ldc dX11_check_34 kc_11_131 rfl ?_
          refine v_callV (ci := 11) (F := TX11) (c_X11_finding _ _ (MOK.t hM)) yy_X11_finding im_X11_finding se_X11_finding lk_11_132 (MOK.t hM) (zle rfl) rfl (zle rfl) (zle rfl) (zle rfl) (zle rfl) rfl rfl (zle rfl) dX11_check_36 rfl (zp.use ?_)
          exact v_ireturn rfl (mQ_fd hM (zi_f (fun h => c30 h.2))) (zle rfl) (zle rfl) dX11_check_39
