theorem ln_ne {x : Int32} {b : Nat} (h : Nt x b) (h0 : ¬ x = 0) : ¬ tn x = 0 := fun e => h0 (by rw [h.1, e]; rfl)
theorem lp_X11_route {E : zE} {T : zT} {N : zN} {P : zP} {I : zI} {R : zR} {m : Nat} {ad : Nat → Nat} {e np nc nw d c0 : Nat} {s : Prop} {i v : Int32} {Q : Option Value → zT → zN → zP → zI → zR → Prop} {K : zK E yX11_route cX11_route 10 (some .int) (zrm 3 80 1 8)} (hM : MOK T P m ad) (he : e < 4) (hd : d < 7) (hn10 : I (ad 10) e = nI np) (hn12 : np ≤ 12) (hn3 : N 11 3 m = nI nw) (hw14 : nw ≤ 14) (hnc : nc ≤ 8) (hWy : WyI (mr I ad) nc nw) (hl : ∀ p, p < np → ¬ lnP (mr I ad) e p = 0) (ht : ∀ S, S < 2 ^ np → ∀ q, q < nc → I (ad 39) (8 * S + q) = nI ((tmf (mr I ad) e np nc nw d s) S q)) (hQ : Q (some (.int v)) T N P I R) : ∀ n c S g (o9 : Option Value), pot (mr I ad) e np nc nw d s S c < n → S < 2 ^ np → c < nc → (tmf (mr I ad) e np nc nw d s) S c < FARn → v = rtv (mr I ad) e np nc nw d s i n c S g → V K (zQf K Q) T N P I R 1 8 61 [some (.ref m), some (.int (nI e)), some (.int (nI c0)), some (.int (nI d)), some (.int (zb s)), some (.int i), some (.int (nI c)), some (.int (nI S)), some (.int (nI g)), o9] [] := by
  intro n
  induction n with
  | zero => intro c S g o9 h; omega
  | succ n ih =>
    intro c S g o9 hp hS hc hlt hv
    refine v_aload_0 dX11_route_61 rfl ?_
    refine v_iload_1 dX11_route_62 rfl ?_
    refine v_iload_7 dX11_route_63 rfl ?_
    refine v_callV (ci := 11) (F := TX11) (c_X11_isOver m ad e np (nI S) hM hn10 hn12 he) yy_X11_isOver im_X11_isOver se_X11_isOver lk_11_203 (MOK.t hM) (zle rfl) rfl (zle rfl) (zle rfl) (zle rfl) (zle rfl) rfl rfl (zle rfl) dX11_route_65 rfl (zp.use ?_)
    by_cases hO : ovr (mr I ad) e (nI S) np
    · refine v_top (zb_t hO) ?_
      refine v_if_ne_t (n := 129) (by decide) dX11_route_68 (by decide) ?_
      refine v_iconst (v := -1) dX11_route_129 rfl rfl ?_
      exact v_ireturn rfl (by rw [hv, rtv_o hO] at hQ; exact hQ) (zle rfl) (zle rfl) dX11_route_130
    · refine v_top (zb_f hO) ?_
      refine v_if_ne_f (tgt := 129) rfl dX11_route_68 (by decide) rfl ?_
      refine v_aload_0 dX11_route_71 rfl ?_
      refine v_iload_1 dX11_route_72 rfl ?_
      refine v_iload_6 dX11_route_73 rfl ?_
      refine v_iload_7 dX11_route_75 rfl ?_
      refine v_iload_3 dX11_route_77 rfl ?_
      refine v_callV (ci := 11) (F := TX11) (c_X11_nextPiece m ad e np d (nI c) (nI S) hM hn10 hn12 he hd) yy_X11_nextPiece im_X11_nextPiece se_X11_nextPiece lk_11_206 (MOK.t hM) (zle rfl) rfl (zle rfl) (zle rfl) (zle rfl) (zle rfl) rfl rfl (zle rfl) dX11_route_78 rfl (zp.use ?_)
      rcases nxv_or (canP (mr I ad) e (nI c) (nI S) d) 0 np with ⟨g1, g2⟩ | ⟨p, g0, g1, g2, g3, g4⟩
      · have hm : mvS (mr I ad) e np d S c := ⟨hO, fun q hq => g2 q (Nat.zero_le _) hq⟩
        obtain ⟨c1, a1, a2, a3, a4, a5, a6⟩ := (rt_step hn12 hnc hS hc hl hlt hO).2 hm
        refine v_top g1 ?_
        refine v_istore_9 dX11_route_81 rfl (zle rfl) rfl ?_
        refine v_iload_9 dX11_route_83 rfl ?_
        refine v_if_lt_t (n := 100) (by decide) dX11_route_85 (by decide) ?_
        refine v_aload_0 dX11_route_100 rfl ?_
        refine v_iload_6 dX11_route_101 rfl ?_
        refine v_iload_7 dX11_route_103 rfl ?_
        refine v_iload_3 dX11_route_105 rfl ?_
        refine v_iload_4 dX11_route_106 rfl ?_
        refine v_callV (ci := 11) (F := TX11) (c_X11_goesTo m ad e np nc nw d S c c1 s hM hd hn3 hw14 hn12 hnc hWy hS hc (ht S hS) a2 a3 a1) yy_X11_goesTo im_X11_goesTo se_X11_goesTo lk_11_241 (MOK.t hM) (zle rfl) rfl (zle rfl) (zle rfl) (zle rfl) (zle rfl) rfl rfl (zle rfl) dX11_route_108 rfl (zp.use ?_)
        refine v_istore_6 dX11_route_111 rfl (zle rfl) rfl ?_
        refine v_iload_8 dX11_route_113 rfl ?_
        refine v_iload_5 dX11_route_115 rfl ?_
        by_cases hgi : nI g = i
        · refine v_icmp_ne_f (tgt := 123) hgi dX11_route_117 (by decide) rfl ?_
          refine v_iload_6 dX11_route_120 rfl ?_
          exact v_ireturn rfl (by rw [hv, rtv_i hm hgi, a4] at hQ; exact hQ) (zle rfl) (zle rfl) dX11_route_122
        · refine v_icmp_ne_t (n := 123) hgi dX11_route_117 (by decide) ?_
          refine v_iinc_8 dX11_route_123 (nI_1 g) rfl (zle rfl) rfl ?_
          refine v_goto (n := 61) dX11_route_126 (by decide) ?_
          exact ih c1 S (g + 1) _ (by have := pot_lt (r := mr I ad) (e := e) (np := np) (nc := nc) (nw := nw) (d := d) (s := s) hS (show c1 < 8 by omega) a5; omega) hS a1 a6 (hv.trans (rtv_n hm hgi a4 (by omega)))
      · have hx : nxS (mr I ad) e np d S c p := ⟨g1, g2, fun q hq => g3 q (Nat.zero_le _) hq⟩
        have hup := nx_up hx hn12 hS
        have hst := (rt_step hn12 hnc hS hc hl hlt hO).1 p hx
        refine v_top g4 ?_
        refine v_istore_9 dX11_route_81 rfl (zle rfl) rfl ?_
        refine v_iload_9 dX11_route_83 rfl ?_
        refine v_if_lt_f (tgt := 100) (nI_pos (by omega)) dX11_route_85 (by decide) rfl ?_
        refine v_iload_7 dX11_route_88 rfl ?_
        refine v_iconst (v := 1) dX11_route_90 rfl rfl ?_
        refine v_iload_9 dX11_route_91 rfl ?_
        refine v_ishl dX11_route_93 rfl ?_
        refine v_ior dX11_route_94 rfl ?_
        refine v_top hup.2.2 ?_
        refine v_istore_7 dX11_route_95 rfl (zle rfl) rfl ?_
        refine v_goto (n := 126) dX11_route_97 (by decide) ?_
        refine v_goto (n := 61) dX11_route_126 (by decide) ?_
        exact ih c (S ||| 2 ^ p) g _ (by have := pot_lt (r := mr I ad) (e := e) (np := np) (nc := nc) (nw := nw) (d := d) (s := s) hup.2.1 (show c < 8 by omega) hst.1; omega) hup.2.1 hc hst.2 (hv.trans (rtv_p hO hn12 hx))
theorem c_X11_route {E : zE} {T : zT} {N : zN} {P : zP} {I : zI} {R : zR} (m : Nat) (ad : Nat → Nat) (e c d : Int32) (s : Prop) (i : Int32) (hM : MOK T P m ad) (hZ : SrI (mf N m) (mr I ad)) : zC E yX11_route cX11_route 10 (some .int) (zrm 3 80 1 8) [.ref m, .int e, .int c, .int d, .int (zb s), .int i] T N P I R (mQ m ad T N P I R (ac_route (mf N m) (mr I ad) e c d s i)) := by
  refine zC.intro (ls := [some (.ref m), some (.int e), some (.int c), some (.int d), some (.int (zb s)), some (.int i), none, none, none, none]) pl_RX11 (zle rfl) 4 rfl (fun K => ?_)
  refine v_aload_0 dX11_route_0 rfl ?_
  refine v_iload_1 dX11_route_1 rfl ?_
  refine v_iload_2 dX11_route_2 rfl ?_
  refine v_iload_3 dX11_route_3 rfl ?_
  refine v_callV (ci := 11) (F := TX11) (c_X11_canAsk m ad e c d hM) yy_X11_canAsk im_X11_canAsk se_X11_canAsk lk_11_238 (MOK.t hM) (zle rfl) rfl (zle rfl) (zle rfl) (zle rfl) (zle rfl) rfl rfl (zle rfl) dX11_route_4 rfl (zp.use ?_)
  refine v_ifz_eq (tgt := 15) dX11_route_7 (by decide) rfl (fun c7 => ?_) (fun c7 => ?_)
  · refine v_aload_0 dX11_route_15 rfl ?_
    refine v_ldc dX11_route_16 kc_11_131 rfl ?_
    refine v_callV (ci := 11) (F := TX11) (c_X11_finding _ _ (MOK.t hM)) yy_X11_finding im_X11_finding se_X11_finding lk_11_132 (MOK.t hM) (zle rfl) rfl (zle rfl) (zle rfl) (zle rfl) (zle rfl) rfl rfl (zle rfl) dX11_route_18 rfl (zp.use ?_)
    exact v_ireturn rfl (mQ_fd hM (zi_f (fun h => c7 h.1))) (zle rfl) (zle rfl) dX11_route_21
  · refine v_iload_5 dX11_route_10 rfl ?_
    refine v_if_ge (tgt := 22) dX11_route_12 (by decide) rfl (fun c12 => ?_) (fun c12 => ?_)
    · have h9 := hZ.1.1.2.1
      have h9b := h9.2
      have h0 : Nt (N 11 0 m) 9 := hZ.1.2.1
      have h0b := h0.2
      have h3 : Nt (N 11 3 m) 15 := hZ.1.2.2.1
      have h3b := h3.2
      obtain ⟨e, he, rfl⟩ := fnd h9 (by decide) c7.1
      obtain ⟨c, hc, rfl⟩ := fnd h0 (by decide) c7.2.1
      obtain ⟨d, hd, rfl⟩ := day7 c7.2.2
      have te : tn (nI e) = e := tn_nI (by omega)
      have tc : tn (nI c) = c := tn_nI (by omega)
      have td : tn (nI d) = d := tn_nI (by omega)
      have h10 : Nt (I (ad 10) e) 13 := (hZ.1.1.2.2.1 e he).1
      have h10b := h10.2
      refine v_aload_0 dX11_route_22 rfl ?_
      refine v_iload_1 dX11_route_23 rfl ?_
      refine v_iload_3 dX11_route_24 rfl ?_
      refine v_iload_4 dX11_route_25 rfl ?_
      refine v_callV (ci := 11) (F := TX11) (c_X11_findTimes m ad e (tn (I (ad 10) e)) (tn (N 11 0 m)) (tn (N 11 3 m)) d s hM (by omega) hd h10.1 (by omega) h0.1 (by omega) h3.1 (by omega) hZ.2.1 (fun p hp => (hZ.2.2.1 e he p hp).1)) yy_X11_findTimes im_X11_findTimes se_X11_findTimes lk_11_231 (MOK.t hM) (zle rfl) rfl (zle rfl) (zle rfl) (zle rfl) (zle rfl) rfl rfl (zle rfl) dX11_route_27 rfl (fun v1 T2 N2 P2 I2 R2 hq => ?_)
      obtain ⟨rfl, rfl, rfl, rfl, m1, m2, m3, m4⟩ := hq
      have hM := m1
      have hF9 : FARn = 100000000 := rfl
      have mv : I2 (ad 39) c = nI (tmv (mf N m) (mr I ad) e d s 0 c) := by have := m4 0 (Nat.two_pow_pos _) c hc; rw [show 8 * 0 + c = c by omega] at this; exact this
      have hff : (tmv (mf N m) (mr I ad) e d s 0 c) ≤ FARn := tmv_far h10 h0 (Nat.two_pow_pos _) hc
      refine v_aload_0 dX11_route_30 rfl ?_
      refine v_getP fl_11_102 (mp_39 hM) (MOK.t hM) rfl (zle rfl) rfl dX11_route_31 rfl ?_
      refine v_iload_2 dX11_route_34 rfl ?_
      refine v_iconst (v := 0) dX11_route_35 rfl rfl ?_
      refine v_callS (c_X11_momentOf c 0) yy_X11_momentOf st_X11_momentOf lk_11_210 (zle rfl) (zle rfl) (zle rfl) (zle rfl) rfl rfl (zle rfl) dX11_route_36 rfl (zp.use ?_)
      refine v_top (show nI (8 * 0 + c) = nI c by rw [show 8 * 0 + c = c by omega]) ?_
      refine v_iald (j := c) (ma_39 hM) rfl (by omega) (zle rfl) dX11_route_39 rfl ?_
      refine v_top mv ?_
      refine v_ldc dX11_route_40 kc_11_147 rfl ?_
      by_cases hlt : (tmv (mf N m) (mr I ad) e d s 0 c) < FARn
      · refine v_icmp_lt_t (n := 52) (nI_lt (a := (tmv (mf N m) (mr I ad) e d s 0 c)) (b := FARn) hlt (by decide)) dX11_route_42 (by decide) ?_
        refine v_iload_2 dX11_route_52 rfl ?_
        refine v_istore_6 dX11_route_53 rfl (zle rfl) rfl ?_
        refine v_iconst (v := 0) dX11_route_55 rfl rfl ?_
        refine v_istore_7 dX11_route_56 rfl (zle rfl) rfl ?_
        refine v_iconst (v := 0) dX11_route_58 rfl rfl ?_
        refine v_istore_8 dX11_route_59 rfl (zle rfl) rfl ?_
        have e10 : I2 (ad 10) e = nI (tn (I (ad 10) e)) := (congrFun (congrFun m2 10) e : I2 (ad 10) e = I (ad 10) e).trans h10.1
        have hfin : mQ m ad T N P I R (ac_route (mf N m) (mr I ad) (nI e) (nI c) (nI d) s i) (some (.int (rtv (mr I2 ad) e (tn (I (ad 10) e)) (tn (N 11 0 m)) (tn (N 11 3 m)) d s i (8 * 2 ^ tn (I (ad 10) e)) c 0 0))) T2 N P I2 R := by
          refine mQ_go hM (((zi_t ⟨c7, c12⟩).trans (zi_t (by rw [te, tc, td]; exact hlt))).trans (by rw [te, tc, td] <;> rfl)) ?_ rfl m2 (ft_fr m3)
          rw [m2]; rfl
        exact lp_X11_route (I := I2) (v := _) hM (by omega) hd e10 (by omega) h3.1 (by omega) (by omega) (by rw [m2]; exact hZ.2.1) (fun p hp => by rw [m2]; exact ln_ne (hZ.2.2.1 e he p hp).1 (hZ.2.2.1 e he p hp).2) (fun S hS q hq => by rw [m2]; exact m4 S hS q hq) hfin _ c 0 0 _ (by rw [m2]; exact pot_0 (Nat.two_pow_pos _) (by omega)) (Nat.two_pow_pos _) hc (by rw [m2]; exact hlt) rfl
      · refine v_icmp_lt_f (tgt := 52) (nI_nlt (a := (tmv (mf N m) (mr I ad) e d s 0 c)) (b := FARn) (by omega) (by omega)) dX11_route_42 (by decide) rfl ?_
        refine v_aload_0 dX11_route_45 rfl ?_
        refine v_ldc dX11_route_46 kc_11_158 rfl ?_
        refine v_callV (ci := 11) (F := TX11) (c_X11_finding m (-1000004) (MOK.t hM)) yy_X11_finding im_X11_finding se_X11_finding lk_11_132 (MOK.t hM) (zle rfl) rfl (zle rfl) (zle rfl) (zle rfl) (zle rfl) rfl rfl (zle rfl) dX11_route_48 rfl (zp.use ?_)
        exact v_ireturn rfl (mQ_go hM ((zi_t ⟨c7, c12⟩).trans (zi_f (by rw [te, tc, td]; exact hlt))) rfl (mf_set (by decide)) m2 ((ft_fr m3).n _ _ _)) (zle rfl) (zle rfl) dX11_route_51
    · refine v_aload_0 dX11_route_15 rfl ?_
      refine v_ldc dX11_route_16 kc_11_131 rfl ?_
      refine v_callV (ci := 11) (F := TX11) (c_X11_finding _ _ (MOK.t hM)) yy_X11_finding im_X11_finding se_X11_finding lk_11_132 (MOK.t hM) (zle rfl) rfl (zle rfl) (zle rfl) (zle rfl) (zle rfl) rfl rfl (zle rfl) dX11_route_18 rfl (zp.use ?_)
      exact v_ireturn rfl (mQ_fd hM (zi_f (fun h => c12 h.2))) (zle rfl) (zle rfl) dX11_route_21
