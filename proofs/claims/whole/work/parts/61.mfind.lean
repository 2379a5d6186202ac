theorem ml_X11_findMoments {E : zE} {T : zT} {N : zN} {P : zP} {I : zI} {R : zR} {m : Nat} {ad : Nat → Nat} {e np nc nw d S0 c0 : Nat} {s : Prop} {K : zK E yX11_findMoments cX11_findMoments 11 none (zr0 2 52)} (hM : MOK T P m ad) (he : e < 4) (hd : d < 7) (hn10 : I (ad 10) e = nI np) (hn12 : np ≤ 12) (hnc : nc ≤ 8) (hn3 : N 11 3 m = nI nw) (hw14 : nw ≤ 14) (hWy : WyI (mr I ad) nc nw) (hS0 : S0 < 2 ^ np) (hc0 : c0 < nc) :
    ∀ j k (N1 : zN) (I1 : zI) (n1 : Nat) (rw1 : Nat → Nat) (mt1 : Nat → Prop) (o7 o8 o9 o10 : Option Value), k + j = 32768 → BS m ad N1 I1 n1 rw1 mt1 → MI (mr I ad) e np nc nw d s S0 c0 n1 rw1 mt1 → FrM m ad N I N1 I1 → (∀ i, i < k → i < n1 → CLk (mr I ad) e np nc nw d s rw1 mt1 i) → mt1 (8 * S0 + c0) → V K (zQf K (fmQ m ad (mr I ad) e np nc nw d s S0 c0 T N P I R)) T N1 P I1 R 0 0 41 [some (.ref m), some (.int (nI e)), some (.int (nI c0)), some (.int (nI S0)), some (.int (nI d)), some (.int (zb s)), some (.int (nI k)), o7, o8, o9, o10] [] := by
  have h12 : 2 ^ np ≤ 2 ^ 12 := Nat.pow_le_pow_right (by decide) hn12
  intro j
  induction j with
  | zero =>
    intro k N1 I1 n1 rw1 mt1 o7 o8 o9 o10 hj hB hI hF hC h0
    have hle := hI.le
    refine v_iload_6 dX11_findMoments_41 rfl ?_
    refine v_aload_0 dX11_findMoments_43 rfl ?_
    refine v_getN fl_11_217 (MOK.t hM) rfl (zle rfl) rfl dX11_findMoments_44 rfl ?_
    refine v_top hB.1 ?_
    refine v_icmp_ge_t (n := 212) (nI_le (a := n1) (b := k) (by omega) (by omega)) dX11_findMoments_47 (by decide) ?_
    exact v_return rfl (⟨rfl, rfl, rfl, rfl, hF, n1, rw1, mt1, hB, hI, hI.all (fun i hi => hC i (by omega) hi) h0 hn12 hnc hS0 hc0⟩) (zle rfl) (zle rfl) dX11_findMoments_212
  | succ j ih =>
    intro k N1 I1 n1 rw1 mt1 o7 o8 o9 o10 hj hB hI hF hC h0
    have hle := hI.le
    have hmr := hF.mmr hM
    refine v_iload_6 dX11_findMoments_41 rfl ?_
    refine v_aload_0 dX11_findMoments_43 rfl ?_
    refine v_getN fl_11_217 (MOK.t hM) rfl (zle rfl) rfl dX11_findMoments_44 rfl ?_
    refine v_top hB.1 ?_
    by_cases hk : k < n1
    · refine v_icmp_ge_f (tgt := 212) (nI_ge (a := k) (b := n1) (by omega) (by omega)) dX11_findMoments_47 (by decide) rfl ?_
      have hRk := hI.1 k hk
      have hin := hRk.in hn12 hS0 hc0
      obtain ⟨i1, i2, i3⟩ := hin
      have hrw : (rw1 k) < 32768 := by omega
      refine v_aload_0 dX11_findMoments_50 rfl ?_
      refine v_getP fl_11_108 (mp_41 hM) (MOK.t hM) rfl (zle rfl) rfl dX11_findMoments_51 rfl ?_
      refine v_iload_6 dX11_findMoments_54 rfl ?_
      refine v_iald (j := k) (ma_41 hM) rfl (by omega) (zle rfl) dX11_findMoments_56 rfl ?_
      refine v_top (hB.2.1 k hk) ?_
      refine v_bipush (v := 8) dX11_findMoments_57 rfl rfl ?_
      refine v_irem dX11_findMoments_59 (by decide) rfl ?_
      refine v_top (pk_rem (d := 8) (by omega) (by decide) (by decide)) ?_
      refine v_istore_7 dX11_findMoments_60 rfl (zle rfl) rfl ?_
      refine v_aload_0 dX11_findMoments_62 rfl ?_
      refine v_getP fl_11_108 (mp_41 hM) (MOK.t hM) rfl (zle rfl) rfl dX11_findMoments_63 rfl ?_
      refine v_iload_6 dX11_findMoments_66 rfl ?_
      refine v_iald (j := k) (ma_41 hM) rfl (by omega) (zle rfl) dX11_findMoments_68 rfl ?_
      refine v_top (hB.2.1 k hk) ?_
      refine v_bipush (v := 8) dX11_findMoments_69 rfl rfl ?_
      refine v_idiv dX11_findMoments_71 (by decide) rfl ?_
      refine v_top (pk_div (d := 8) (by omega) (by decide) (by decide)) ?_
      refine v_istore_8 dX11_findMoments_72 rfl (zle rfl) rfl ?_
      refine v_aload_0 dX11_findMoments_74 rfl ?_
      refine v_iload_1 dX11_findMoments_75 rfl ?_
      refine v_iload_8 dX11_findMoments_76 rfl ?_
      refine v_callV (ci := 11) (F := TX11) (c_X11_isOver (I := I1) m ad e np (nI ((rw1 k) / 8)) hM ((congrFun (congrFun hmr 10) e : I1 (ad 10) e = I (ad 10) e).trans hn10) hn12 he) yy_X11_isOver im_X11_isOver se_X11_isOver lk_11_203 (MOK.t hM) (zle rfl) rfl (zle rfl) (zle rfl) (zle rfl) (zle rfl) rfl rfl (zle rfl) dX11_findMoments_78 rfl (zp.use ?_)
      rw [hmr]
      by_cases hO : ovr (mr I ad) e (nI ((rw1 k) / 8)) np
      · refine v_top (zb_t hO) ?_
        refine v_if_eq_f (tgt := 87) (by decide) dX11_findMoments_81 (by decide) rfl ?_
        refine v_goto (n := 206) dX11_findMoments_84 (by decide) ?_
        refine v_iinc_6 dX11_findMoments_206 (nI_1 k) rfl (zle rfl) rfl ?_
        refine v_goto (n := 41) dX11_findMoments_209 (by decide) ?_
        exact ih (k + 1) N1 I1 n1 rw1 mt1 _ _ _ _ (by omega) hB hI hF (fun i hi hi2 => by
          rcases (show i < k ∨ i = k by omega) with g | g
          · exact hC i g hi2
          · subst g; exact fun ho => absurd hO ho) h0
      · refine v_top (zb_f hO) ?_
        refine v_if_eq_t (n := 87) rfl dX11_findMoments_81 (by decide) ?_
        refine v_aload_0 dX11_findMoments_87 rfl ?_
        refine v_iload_1 dX11_findMoments_88 rfl ?_
        refine v_iload_7 dX11_findMoments_89 rfl ?_
        refine v_iload_8 dX11_findMoments_91 rfl ?_
        refine v_iload_4 dX11_findMoments_93 rfl ?_
        refine v_callV (ci := 11) (F := TX11) (c_X11_nextPiece (I := I1) m ad e np d (nI ((rw1 k) % 8)) (nI ((rw1 k) / 8)) hM ((congrFun (congrFun hmr 10) e : I1 (ad 10) e = I (ad 10) e).trans hn10) hn12 he hd) yy_X11_nextPiece im_X11_nextPiece se_X11_nextPiece lk_11_206 (MOK.t hM) (zle rfl) rfl (zle rfl) (zle rfl) (zle rfl) (zle rfl) rfl rfl (zle rfl) dX11_findMoments_95 rfl (zp.use ?_)
        rw [hmr]
        rcases nxv_or (canP (mr I ad) e (nI ((rw1 k) % 8)) (nI ((rw1 k) / 8)) d) 0 np with ⟨g1, g2⟩ | ⟨p, g0, g1, g2, g3, g4⟩
        · refine v_top g1 ?_
          refine v_istore_9 dX11_findMoments_98 rfl (zle rfl) rfl ?_
          refine v_iload_9 dX11_findMoments_100 rfl ?_
          refine v_if_lt_t (n := 124) (by decide) dX11_findMoments_102 (by decide) ?_
          refine v_iconst (v := 0) dX11_findMoments_124 rfl rfl ?_
          refine v_istore_10 dX11_findMoments_125 rfl (zle rfl) rfl ?_
          have hm : mvS (mr I ad) e np d ((rw1 k) / 8) ((rw1 k) % 8) := ⟨hO, fun q hq => g2 q (Nat.zero_le _) hq⟩
          refine wl_X11_findMoments (c := (rw1 k) % 8) (S := (rw1 k) / 8) (n0 := n1) (rw0 := rw1) (mt0 := mt1) hM he hd hn10 hn12 hnc hn3 hw14 hWy hS0 hc0 hRk hm i3 i2 nw 0 N1 I1 n1 rw1 mt1 (by omega) hB hI hF (fun _ h => h) (Nat.le_refl _) (fun _ _ => rfl) (fun q hq => absurd hq (Nat.not_lt_zero q)) (fun N2 I2 n2 rw2 mt2 w hB2 hI2 hF2 m2 m3 m4 m5 => ?_)
          refine v_iinc_6 (b := nI (k + 1)) dX11_findMoments_206 (nI_1 k) rfl (zle rfl) rfl ?_
          refine v_goto (n := 41) dX11_findMoments_209 (by decide) ?_
          exact ih (k + 1) N2 I2 n2 rw2 mt2 _ _ _ _ (by omega) hB2 hI2 hF2 (fun i hi hi2 => by
            rcases (show i < k ∨ i = k by omega) with g | g
            · exact (hC i g (by omega)).mv (m4 i (by omega)) m2
            · subst g
              unfold CLk
              rw [m4 i hk]
              refine fun _ => ⟨fun q hq => absurd hq.2.1 (g2 q (Nat.zero_le _) hq.1), fun _ c' l hl => ?_⟩
              obtain ⟨⟨l1, l2, l3, l4, l5⟩, q, q1, q2, q3, q4⟩ := hl
              obtain ⟨b1, b2⟩ := m5 q q1 q2
              rcases q3 with ⟨k1, k2⟩ | ⟨k1, k2⟩
              · have b3 := b1 k1
                rw [show I (ad 5) q = nI c' from k2, tn_nI (by omega)] at b3
                exact b3
              · have b3 := b2 k2
                rw [show I (ad 4) q = nI c' from k1, tn_nI (by omega)] at b3
                exact b3) (m2 _ h0)
        · refine v_top g4 ?_
          have hx : nxS (mr I ad) e np d ((rw1 k) / 8) ((rw1 k) % 8) p := ⟨g1, g2, fun q hq => g3 q (Nat.zero_le _) hq⟩
          have hup := nx_up hx hn12 i2
          refine v_istore_9 dX11_findMoments_98 rfl (zle rfl) rfl ?_
          refine v_iload_9 dX11_findMoments_100 rfl ?_
          refine v_if_lt_f (tgt := 124) (nI_pos (by omega)) dX11_findMoments_102 (by decide) rfl ?_
          refine v_aload_0 dX11_findMoments_105 rfl ?_
          refine v_iload_7 dX11_findMoments_106 rfl ?_
          refine v_iload_8 dX11_findMoments_108 rfl ?_
          refine v_iconst (v := 1) dX11_findMoments_110 rfl rfl ?_
          refine v_iload_9 dX11_findMoments_111 rfl ?_
          refine v_ishl dX11_findMoments_113 rfl ?_
          refine v_ior dX11_findMoments_114 rfl ?_
          refine v_top hup.2.2 ?_
          refine v_callS (c_X11_momentOf ((rw1 k) % 8) ((rw1 k) / 8 ||| 2 ^ p)) yy_X11_momentOf st_X11_momentOf lk_11_210 (zle rfl) (zle rfl) (zle rfl) (zle rfl) rfl rfl (zle rfl) dX11_findMoments_115 rfl (zp.use ?_)
          refine v_callV (ci := 11) (F := TX11) (c_X11_meets (N := N1) (I := I1) m ad (mr I ad) e np nc nw d s S0 c0 (8 * ((rw1 k) / 8 ||| 2 ^ p) + (rw1 k) % 8) n1 rw1 mt1 hM hB hI (by omega) (by rw [show (8 * ((rw1 k) / 8 ||| 2 ^ p) + (rw1 k) % 8) / 8 = (rw1 k) / 8 ||| 2 ^ p by omega, show (8 * ((rw1 k) / 8 ||| 2 ^ p) + (rw1 k) % 8) % 8 = (rw1 k) % 8 by omega]; exact (Rch.cl _ _ hRk hO).1 p hx)) yy_X11_meets im_X11_meets se_X11_meets lk_11_220 (MOK.t hM) (zle rfl) rfl (zle rfl) (zle rfl) (zle rfl) (zle rfl) rfl rfl (zle rfl) dX11_findMoments_118 rfl (fun v1 T2 N2 P2 I2 R2 hq => ?_)
          obtain ⟨rfl, rfl, rfl, rfl, hF2, n2, rw2, mt2, hB2, hI2, m1, m2, m3, m4⟩ := hq
          refine v_goto (n := 206) dX11_findMoments_121 (by decide) ?_
          refine v_iinc_6 dX11_findMoments_206 (nI_1 k) rfl (zle rfl) rfl ?_
          refine v_goto (n := 41) dX11_findMoments_209 (by decide) ?_
          exact ih (k + 1) N2 I2 n2 rw2 mt2 _ _ _ _ (by omega) hB2 hI2 (hF.tr hF2) (fun i hi hi2 => by
            rcases (show i < k ∨ i = k by omega) with g | g
            · exact (hC i g (by omega)).mv (m4 i (by omega)) m2
            · subst g
              unfold CLk
              rw [m4 i hk]
              exact fun _ => ⟨fun q hq => by rw [← nx_un hx hq]; exact m1, fun hm => absurd g2 (hm.2 p g1)⟩) (m2 _ h0)
    · refine v_icmp_ge_t (n := 212) (nI_le (a := n1) (b := k) (by omega) (by omega)) dX11_findMoments_47 (by decide) ?_
      exact v_return rfl (⟨rfl, rfl, rfl, rfl, hF, n1, rw1, mt1, hB, hI, hI.all (fun i hi => hC i (by omega) hi) h0 hn12 hnc hS0 hc0⟩) (zle rfl) (zle rfl) dX11_findMoments_212
theorem cl_X11_findMoments {E : zE} {T : zT} {N : zN} {P : zP} {I : zI} {R : zR} {m : Nat} {ad : Nat → Nat} {e np nc nw d S0 c0 : Nat} {s : Prop} {K : zK E yX11_findMoments cX11_findMoments 11 none (zr0 2 52)} (hM : MOK T P m ad) (he : e < 4) (hd : d < 7) (hn10 : I (ad 10) e = nI np) (hn12 : np ≤ 12) (hnc : nc ≤ 8) (hn3 : N 11 3 m = nI nw) (hw14 : nw ≤ 14) (hWy : WyI (mr I ad) nc nw) (hS0 : S0 < 2 ^ np) (hc0 : c0 < nc) : ∀ j k (I1 : zI), k + j = 32768 → (∀ a, a ≠ ad 40 → I1 a = I a) → (∀ q, q < k → I1 (ad 40) q = 0) → V K (zQf K (fmQ m ad (mr I ad) e np nc nw d s S0 c0 T N P I R)) T N P I1 R 0 0 3 [some (.ref m), some (.int (nI e)), some (.int (nI c0)), some (.int (nI S0)), some (.int (nI d)), some (.int (zb s)), some (.int (nI k)), none, none, none, none] [] := by
  have h12 : 2 ^ np ≤ 2 ^ 12 := Nat.pow_le_pow_right (by decide) hn12
  intro j
  induction j with
  | zero =>
    intro k I1 hj hF hZ
    obtain rfl : k = 32768 := by omega
    have hB : BS m ad (u3 N 11 42 m 0) I1 0 (fun _ => 0) (fun _ => False) := ⟨u3_self, fun k hk => absurd hk (Nat.not_lt_zero k), fun q hq => by rw [hZ q hq, zb_f (fun h => h)]⟩
    have hI : MI (mr I ad) e np nc nw d s S0 c0 0 (fun _ => 0) (fun _ => False) := ⟨fun k hk => absurd hk (Nat.not_lt_zero k), fun q => ⟨fun h => h.elim, fun ⟨k, h, _⟩ => absurd h (Nat.not_lt_zero k)⟩, fun p => by
      have : cnp (fun q => False ∧ p q) 32768 = cnp (fun _ => False) 32768 := cnp_congr 32768 (fun c _ => ⟨fun h => h.1, fun h => h.elim⟩)
      rw [this]
      have h2 : ∀ n, cnp (fun _ => False) n = 0 := fun n => by
        induction n with
        | zero => rfl
        | succ n ih => rw [cnp_f (fun h => h), ih]
      rw [h2]
      rfl⟩
    refine v_iload_6 dX11_findMoments_3 rfl ?_
    refine v_ldc dX11_findMoments_5 kc_11_101 rfl ?_
    refine v_icmp_ge_t (n := 24) (by decide) dX11_findMoments_7 (by decide) ?_
    refine v_aload_0 dX11_findMoments_24 rfl ?_
    refine v_iconst (v := 0) dX11_findMoments_25 rfl rfl ?_
    refine v_putN fw_11_217 (MOK.t hM) rfl (zle rfl) rfl (fun h => by cases h) rfl rfl dX11_findMoments_26 rfl ?_
    refine v_aload_0 dX11_findMoments_29 rfl ?_
    refine v_iload_2 dX11_findMoments_30 rfl ?_
    refine v_iload_3 dX11_findMoments_31 rfl ?_
    refine v_callS (c_X11_momentOf c0 S0) yy_X11_momentOf st_X11_momentOf lk_11_210 (zle rfl) (zle rfl) (zle rfl) (zle rfl) rfl rfl (zle rfl) dX11_findMoments_32 rfl (zp.use ?_)
    refine v_callV (ci := 11) (F := TX11) (c_X11_meets (N := u3 N 11 42 m 0) (I := I1) m ad (mr I ad) e np nc nw d s S0 c0 (8 * S0 + c0) 0 (fun _ => 0) (fun _ => False) hM hB hI (by omega) (by rw [show (8 * S0 + c0) / 8 = S0 by omega, show (8 * S0 + c0) % 8 = c0 by omega]; exact Rch.rf)) yy_X11_meets im_X11_meets se_X11_meets lk_11_220 (MOK.t hM) (zle rfl) rfl (zle rfl) (zle rfl) (zle rfl) (zle rfl) rfl rfl (zle rfl) dX11_findMoments_35 rfl (fun v1 T2 N2 P2 I2 R2 hq => ?_)
    obtain ⟨rfl, rfl, rfl, rfl, hF2, n2, rw2, mt2, hB2, hI2, m1, m2, m3, m4⟩ := hq
    have hF3 : FrM m ad N I N2 I2 := ⟨fun c k a h => (hF2.1 c k a h).trans (by unfold u3; rw [if_neg (fun e => h ⟨e.1, e.2.1⟩)]), fun a h1 h2 => (hF2.2 a h1 h2).trans (hF a h1)⟩
    refine v_iconst (v := 0) dX11_findMoments_38 rfl rfl ?_
    refine v_istore_6 dX11_findMoments_39 rfl (zle rfl) rfl ?_
    exact ml_X11_findMoments hM he hd hn10 hn12 hnc hn3 hw14 hWy hS0 hc0 32768 0 N2 I2 n2 rw2 mt2 _ _ _ _ (by omega) hB2 hI2 hF3 (fun i hi => absurd hi (Nat.not_lt_zero i)) m1
  | succ j ih =>
    intro k I1 hj hF hZ
    refine v_iload_6 dX11_findMoments_3 rfl ?_
    refine v_ldc dX11_findMoments_5 kc_11_101 rfl ?_
    refine v_icmp_ge_f (tgt := 24) (nI_ge (a := k) (b := 32768) (by omega) (by decide)) dX11_findMoments_7 (by decide) rfl ?_
    refine v_aload_0 dX11_findMoments_10 rfl ?_
    refine v_getP fl_11_105 (mp_40 hM) (MOK.t hM) rfl (zle rfl) rfl dX11_findMoments_11 rfl ?_
    refine v_iload_6 dX11_findMoments_14 rfl ?_
    refine v_iconst (v := 0) dX11_findMoments_16 rfl rfl ?_
    refine v_zast (j := k) (ma_40 hM) rfl (by omega) (zle rfl) rfl dX11_findMoments_17 rfl ?_
    refine v_iinc_6 dX11_findMoments_18 (nI_1 k) rfl (zle rfl) rfl ?_
    refine v_goto (n := 3) dX11_findMoments_21 (by decide) ?_
    exact ih (k + 1) _ (by omega) (fun a ha => by rw [u2_off _ _ ha]; exact hF a ha) (fun q hq => by
      by_cases e : q = k
      · subst e; rw [u2_self]; rfl
      · rw [u2_ni e]; exact hZ q (by omega))
theorem c_X11_findMoments {E : zE} {T : zT} {N : zN} {P : zP} {I : zI} {R : zR} (m : Nat) (ad : Nat → Nat) (e np nc nw d S0 c0 : Nat) (s : Prop) (hM : MOK T P m ad) (he : e < 4) (hd : d < 7) (hn10 : I (ad 10) e = nI np) (hn12 : np ≤ 12) (hnc : nc ≤ 8) (hn3 : N 11 3 m = nI nw) (hw14 : nw ≤ 14) (hWy : WyI (mr I ad) nc nw) (hS0 : S0 < 2 ^ np) (hc0 : c0 < nc) : zC E yX11_findMoments cX11_findMoments 11 none (zr0 2 52) [.ref m, .int (nI e), .int (nI c0), .int (nI S0), .int (nI d), .int (zb s)] T N P I R (fmQ m ad (mr I ad) e np nc nw d s S0 c0 T N P I R) := by
  refine zC.intro (ls := [some (.ref m), some (.int (nI e)), some (.int (nI c0)), some (.int (nI S0)), some (.int (nI d)), some (.int (zb s)), none, none, none, none, none]) pl_RX11 (zle rfl) 5 rfl (fun K => ?_)
  refine v_iconst (v := 0) dX11_findMoments_0 rfl rfl ?_
  refine v_istore_6 dX11_findMoments_1 rfl (zle rfl) rfl ?_
  exact cl_X11_findMoments hM he hd hn10 hn12 hnc hn3 hw14 hWy hS0 hc0 32768 0 I (by omega) (fun _ _ => rfl) (fun q hq => absurd hq (Nat.not_lt_zero q))
/-- all that was heard in the first n moments of a row -/
def orr (rw' : Nat → Nat) : Nat → Nat
  | 0 => 0
  | n + 1 => orr rw' n ||| rw' n / 8
theorem orr_lt {rw' : Nat → Nat} : ∀ n, (∀ k, k < n → rw' k < 32768) → orr rw' n < 2 ^ 12 := by
  intro n
  induction n with
  | zero => intro _; exact (by decide : 0 < 2 ^ 12)
  | succ n ih =>
    intro h
    have := h n (by omega)
    exact Nat.or_lt_two_pow (ih (fun k hk => h k (by omega))) (by omega)
theorem orr_bt {rw' : Nat → Nat} {i : Nat} : ∀ n, ((orr rw' n).testBit i = true ↔ ∃ k, k < n ∧ (rw' k / 8).testBit i = true) := by
  intro n
  induction n with
  | zero => exact ⟨fun h => (by rw [show orr rw' 0 = 0 from rfl, Nat.zero_testBit] at h; cases h), fun ⟨k, h, _⟩ => absurd h (Nat.not_lt_zero k)⟩
  | succ n ih =>
    show (orr rw' n ||| rw' n / 8).testBit i = true ↔ _
    rw [Nat.testBit_or, Bool.or_eq_true, ih]
    constructor
    · rintro (⟨k, h1, h2⟩ | h)
      · exact ⟨k, by omega, h2⟩
      · exact ⟨n, by omega, h⟩
    · rintro ⟨k, h1, h2⟩
      rcases (show k < n ∨ k = n by omega) with g | g
      · exact Or.inl ⟨k, g, h2⟩
      · subst g; exact Or.inr h2
theorem lp_X11_allHeard {E : zE} {T : zT} {N : zN} {P : zP} {I : zI} {R : zR} {m : Nat} {ad : Nat → Nat} {n : Nat} {rw' : Nat → Nat} {K : zK E yX11_allHeard cX11_allHeard 3 (some .int) (zr0 0 0)} (hM : MOK T P m ad) (hn : N 11 42 m = nI n) (hr : ∀ k, k < n → I (ad 41) k = nI (rw' k) ∧ rw' k < 32768) (hn2 : n ≤ 32768) : ∀ j k, k + j = n → V K (zQf K (zp (nI (orr rw' n)) T N P I R)) T N P I R 0 0 4 [some (.ref m), some (.int (nI (orr rw' k))), some (.int (nI k))] [] := by
  intro j
  induction j with
  | zero =>
    intro k hk
    obtain rfl : k = n := by omega
    refine v_iload_2 dX11_allHeard_4 rfl ?_
    refine v_aload_0 dX11_allHeard_5 rfl ?_
    refine v_getN fl_11_217 (MOK.t hM) rfl (zle rfl) rfl dX11_allHeard_6 rfl ?_
    refine v_top hn ?_
    refine v_icmp_ge_t (n := 30) (nI_le (a := k) (b := k) (by omega) (by omega)) dX11_allHeard_9 (by decide) ?_
    refine v_iload_1 dX11_allHeard_30 rfl ?_
    exact v_ireturn rfl (zp.rf) (zle rfl) (zle rfl) dX11_allHeard_31
  | succ j ih =>
    intro k hk
    obtain ⟨r1, r2⟩ := hr k (by omega)
    have ho := orr_lt (rw' := rw') k (fun q hq => (hr q (by omega)).2)
    refine v_iload_2 dX11_allHeard_4 rfl ?_
    refine v_aload_0 dX11_allHeard_5 rfl ?_
    refine v_getN fl_11_217 (MOK.t hM) rfl (zle rfl) rfl dX11_allHeard_6 rfl ?_
    refine v_top hn ?_
    refine v_icmp_ge_f (tgt := 30) (nI_ge (a := k) (b := n) (by omega) (by omega)) dX11_allHeard_9 (by decide) rfl ?_
    refine v_iload_1 dX11_allHeard_12 rfl ?_
    refine v_aload_0 dX11_allHeard_13 rfl ?_
    refine v_getP fl_11_108 (mp_41 hM) (MOK.t hM) rfl (zle rfl) rfl dX11_allHeard_14 rfl ?_
    refine v_iload_2 dX11_allHeard_17 rfl ?_
    refine v_iald (j := k) (ma_41 hM) rfl (by omega) (zle rfl) dX11_allHeard_18 rfl ?_
    refine v_top r1 ?_
    refine v_bipush (v := 8) dX11_allHeard_19 rfl rfl ?_
    refine v_idiv dX11_allHeard_21 (by decide) rfl ?_
    refine v_top (pk_div (d := 8) (by omega) (by decide) (by decide)) ?_
    refine v_ior dX11_allHeard_22 rfl ?_
    refine v_top (nI_or (by omega) (by omega)) ?_
    refine v_istore_1 dX11_allHeard_23 rfl (zle rfl) rfl ?_
    refine v_iinc_2 dX11_allHeard_24 (nI_1 k) rfl (zle rfl) rfl ?_
    refine v_goto (n := 4) dX11_allHeard_27 (by decide) ?_
    exact ih (k + 1) (by omega)
theorem c_X11_allHeard {E : zE} {T : zT} {N : zN} {P : zP} {I : zI} {R : zR} (m : Nat) (ad : Nat → Nat) (n : Nat) (rw' : Nat → Nat) (hM : MOK T P m ad) (hn : N 11 42 m = nI n) (hr : ∀ k, k < n → I (ad 41) k = nI (rw' k) ∧ rw' k < 32768) (hn2 : n ≤ 32768) : zC E yX11_allHeard cX11_allHeard 3 (some .int) (zr0 0 0) [.ref m] T N P I R (zp (nI (orr rw' n)) T N P I R) := by
  refine zC.intro (ls := [some (.ref m), none, none]) pl_RX11 (zle rfl) 2 rfl (fun K => ?_)
  refine v_iconst (v := 0) dX11_allHeard_0 rfl rfl ?_
  refine v_istore_1 dX11_allHeard_1 rfl (zle rfl) rfl ?_
  refine v_iconst (v := 0) dX11_allHeard_2 rfl rfl ?_
  refine v_istore_2 dX11_allHeard_3 rfl (zle rfl) rfl ?_
  exact lp_X11_allHeard hM hn hr hn2 n 0 (by omega)
theorem lp_X11_manyCan {E : zE} {T : zT} {N : zN} {P : zP} {I : zI} {R : zR} {m : Nat} {ad : Nat → Nat} {e np d : Nat} {c S : Int32} {K : zK E yX11_manyCan cX11_manyCan 7 (some .int) (zr0 1 27)} (hM : MOK T P m ad) (he : e < 4) (hd : d < 7) (hn10 : I (ad 10) e = nI np) (hn12 : np ≤ 12) : ∀ j p, p + j = np → V K (zQf K (zp (nI (cnp (canP (mr I ad) e c S d) np)) T N P I R)) T N P I R 0 0 6 [some (.ref m), some (.int (nI e)), some (.int c), some (.int S), some (.int (nI d)), some (.int (nI (cnp (canP (mr I ad) e c S d) p))), some (.int (nI p))] [] := by
  intro j
  induction j with
  | zero =>
    intro p hp
    obtain rfl : p = np := by omega
    refine v_iload_6 dX11_manyCan_6 rfl ?_
    refine v_aload_0 dX11_manyCan_8 rfl ?_
    refine v_getP fl_11_32 (mp_10 hM) (MOK.t hM) rfl (zle rfl) rfl dX11_manyCan_9 rfl ?_
    refine v_iload_1 dX11_manyCan_12 rfl ?_
    refine v_iald (j := e) (ma_10 hM) rfl (by omega) (zle rfl) dX11_manyCan_13 rfl ?_
    refine v_top hn10 ?_
    refine v_icmp_ge_t (n := 47) (nI_le (a := p) (b := p) (by omega) (by omega)) dX11_manyCan_14 (by decide) ?_
    refine v_iload_5 dX11_manyCan_47 rfl ?_
    exact v_ireturn rfl (zp.rf) (zle rfl) (zle rfl) dX11_manyCan_49
  | succ j ih =>
    intro p hp
    refine v_iload_6 dX11_manyCan_6 rfl ?_
    refine v_aload_0 dX11_manyCan_8 rfl ?_
    refine v_getP fl_11_32 (mp_10 hM) (MOK.t hM) rfl (zle rfl) rfl dX11_manyCan_9 rfl ?_
    refine v_iload_1 dX11_manyCan_12 rfl ?_
    refine v_iald (j := e) (ma_10 hM) rfl (by omega) (zle rfl) dX11_manyCan_13 rfl ?_
    refine v_top hn10 ?_
    refine v_icmp_ge_f (tgt := 47) (nI_ge (a := p) (b := np) (by omega) (by omega)) dX11_manyCan_14 (by decide) rfl ?_
    refine v_iload_5 dX11_manyCan_17 rfl ?_
    refine v_aload_0 dX11_manyCan_19 rfl ?_
    refine v_iload_1 dX11_manyCan_20 rfl ?_
    refine v_iload_6 dX11_manyCan_21 rfl ?_
    refine v_iload_2 dX11_manyCan_23 rfl ?_
    refine v_iload_3 dX11_manyCan_24 rfl ?_
    refine v_iload_4 dX11_manyCan_25 rfl ?_
    refine v_callV (ci := 11) (F := TX11) (c_X11_canTell m ad e p d c S hM he (by omega) hd) yy_X11_canTell im_X11_canTell se_X11_canTell lk_11_199 (MOK.t hM) (zle rfl) rfl (zle rfl) (zle rfl) (zle rfl) (zle rfl) rfl rfl (zle rfl) dX11_manyCan_27 rfl (zp.use ?_)
    refine v_ifz_eq (tgt := 37) dX11_manyCan_30 (by decide) rfl (fun c30 => ?_) (fun c30 => ?_)
    · refine v_iconst (v := 0) dX11_manyCan_37 rfl rfl ?_
      refine v_iadd dX11_manyCan_38 rfl ?_
      refine v_top (show nI (cnp (canP (mr I ad) e c S d) p) + 0 = nI (cnp (canP (mr I ad) e c S d) (p + 1)) by rw [cnp_f c30, Int32.add_zero]) ?_
      refine v_istore_5 dX11_manyCan_39 rfl (zle rfl) rfl ?_
      refine v_iinc_6 dX11_manyCan_41 (nI_1 p) rfl (zle rfl) rfl ?_
      refine v_goto (n := 6) dX11_manyCan_44 (by decide) ?_
      exact ih (p + 1) (by omega)
    · refine v_iconst (v := 1) dX11_manyCan_33 rfl rfl ?_
      refine v_goto (n := 38) dX11_manyCan_34 (by decide) ?_
      refine v_iadd dX11_manyCan_38 rfl ?_
      refine v_top (show nI (cnp (canP (mr I ad) e c S d) p) + 1 = nI (cnp (canP (mr I ad) e c S d) (p + 1)) by rw [cnp_t c30, nI_1]) ?_
      refine v_istore_5 dX11_manyCan_39 rfl (zle rfl) rfl ?_
      refine v_iinc_6 dX11_manyCan_41 (nI_1 p) rfl (zle rfl) rfl ?_
      refine v_goto (n := 6) dX11_manyCan_44 (by decide) ?_
      exact ih (p + 1) (by omega)
theorem c_X11_manyCan {E : zE} {T : zT} {N : zN} {P : zP} {I : zI} {R : zR} (m : Nat) (ad : Nat → Nat) (e np d : Nat) (c S : Int32) (hM : MOK T P m ad) (he : e < 4) (hd : d < 7) (hn10 : I (ad 10) e = nI np) (hn12 : np ≤ 12) : zC E yX11_manyCan cX11_manyCan 7 (some .int) (zr0 1 27) [.ref m, .int (nI e), .int c, .int S, .int (nI d)] T N P I R (zp (nI (cnp (canP (mr I ad) e c S d) np)) T N P I R) := by
  refine zC.intro (ls := [some (.ref m), some (.int (nI e)), some (.int c), some (.int S), some (.int (nI d)), none, none]) pl_RX11 (zle rfl) 2 rfl (fun K => ?_)
  refine v_iconst (v := 0) dX11_manyCan_0 rfl rfl ?_
  refine v_istore_5 dX11_manyCan_1 rfl (zle rfl) rfl ?_
  refine v_iconst (v := 0) dX11_manyCan_3 rfl rfl ?_
  refine v_istore_6 dX11_manyCan_4 rfl (zle rfl) rfl ?_
  exact lp_X11_manyCan hM he hd hn10 hn12 np 0 (by omega)
