theorem lp_X11_offer {E : zE} {T : zT} {N : zN} {P : zP} {I : zI} {R : zR} {m : Nat} {ad : Nat → Nat} {w : Nat} {Q : Option Value → zT → zN → zP → zI → zR → Prop} {K : zK E yX11_offer cX11_offer 9 (some .int) (zrm 3 80 1 8)} (hM : MOK T P m ad) (hZ : SrI (mf N m) (mr I ad)) (hw : w < tn (N 11 18 m)) (ht : ∀ q, q < tn (N 11 0 m) → I (ad 39) (8 * (tn (I (ad 20) w)) + q) = nI (tmv (mf N m) (mr I ad) (tn (I (ad 22) w)) (tn (N 11 27 m)) (I (ad 23) w = 1) (tn (I (ad 20) w)) q)) (hQ : 0 ≤ (ofv (mf N m) (mr I ad) w (tn (N 11 0 m))).1 → Q (some (.int (ofv (mf N m) (mr I ad) w (tn (N 11 0 m))).1)) T N P I R) (hQ2 : ¬ 0 ≤ (ofv (mf N m) (mr I ad) w (tn (N 11 0 m))).1 → Q (some (.int (-1000004))) T (u3 N 11 31 m (N 11 31 m + 1)) P I R) : ∀ k c (o6 o7 o8 : Option Value), c + k = tn (N 11 0 m) → V K (zQf K Q) T N P I R 1 8 60 [some (.ref m), some (.int (nI w)), some (.int (ofv (mf N m) (mr I ad) w (c)).1), some (.int (nI (ofv (mf N m) (mr I ad) w (c)).2.1)), some (.int (nI (ofv (mf N m) (mr I ad) w (c)).2.2)), some (.int (nI c)), o6, o7, o8] [] := by
  have h0 : Nt (N 11 0 m) 9 := hZ.1.2.1
  have h0b := h0.2
  have h3 : Nt (N 11 3 m) 15 := hZ.1.2.2.1
  have h3b := h3.2
  have h18b : tn (N 11 18 m) < 7 := hZ.1.1.1.2
  obtain ⟨k1, k2, k3, k4, k5, k6, k7, k8, k9, k10⟩ := hZ.wk (show w < tn (mf N m 18) from hw)
  have hd : Nt (N 11 27 m) 7 := hZ.1.1.2.2.2.1
  have hd7 := hd.2
  have h12 : 2 ^ npw (mr I ad) w ≤ 2 ^ 12 := Nat.pow_le_pow_right (by decide) k5
  have hF9 : FARn = 100000000 := rfl
  have q7 : I (ad 19) w = nI (tn (I (ad 19) w)) := k7
  have q8 : (tn (I (ad 19) w)) < tn (N 11 0 m) := k8
  have q9 : I (ad 20) w = nI (tn (I (ad 20) w)) := k9
  have q10 : (tn (I (ad 20) w)) < 2 ^ 12 := Nat.lt_of_lt_of_le k10 h12
  intro k
  induction k with
  | zero =>
    intro c o6 o7 o8 hk
    obtain rfl : c = tn (N 11 0 m) := by omega
    refine v_iload_5 dX11_offer_60 rfl ?_
    refine v_aload_0 dX11_offer_62 rfl ?_
    refine v_getN fl_11_118 (MOK.t hM) rfl (zle rfl) rfl dX11_offer_63 rfl ?_
    refine v_top h0.1 ?_
    refine v_icmp_ge_t (n := 164) (nI_le (a := tn (N 11 0 m)) (b := tn (N 11 0 m)) (Nat.le_refl _) (by omega)) dX11_offer_66 (by decide) ?_
    refine v_iload_2 dX11_offer_164 rfl ?_
    refine v_if_ge (tgt := 177) dX11_offer_165 (by decide) rfl (fun c165 => ?_) (fun c165 => ?_)
    · refine v_iload_2 dX11_offer_177 rfl ?_
      exact v_ireturn rfl (hQ c165) (zle rfl) (zle rfl) dX11_offer_178
    · refine v_aload_0 dX11_offer_168 rfl ?_
      refine v_ldc dX11_offer_169 kc_11_158 rfl ?_
      refine v_callV (ci := 11) (F := TX11) (c_X11_finding _ _ (MOK.t hM)) yy_X11_finding im_X11_finding se_X11_finding lk_11_132 (MOK.t hM) (zle rfl) rfl (zle rfl) (zle rfl) (zle rfl) (zle rfl) rfl rfl (zle rfl) dX11_offer_171 rfl (zp.use ?_)
      refine v_goto (n := 178) dX11_offer_174 (by decide) ?_
      exact v_ireturn rfl (hQ2 c165) (zle rfl) (zle rfl) dX11_offer_178
  | succ k ih =>
    intro c o6 o7 o8 hk
    have hcn : c < tn (N 11 0 m) := by omega
    have hff : (tmv (mf N m) (mr I ad) (tn (I (ad 22) w)) (tn (N 11 27 m)) (I (ad 23) w = 1) (tn (I (ad 20) w)) c) ≤ FARn := tmv_far (hZ.1.1.2.2.1 _ k2).1 hZ.1.2.1 k10 hcn
    have hfb : (tmv (mf N m) (mr I ad) (tn (I (ad 22) w)) (tn (N 11 27 m)) (I (ad 23) w = 1) (tn (I (ad 20) w)) c) ≤ 100000000 := hff
    obtain ⟨zb1, zb2⟩ := ofv_b (f := mf N m) (r := mr I ad) (w := w) h18b c
    have hcw := wt_cv (r := mr I ad) (d := tn (N 11 27 m)) (s := I (ad 23) w = 1) (a := (tn (I (ad 19) w))) (c := c) hZ.2.1 (show tn (N 11 0 m) ≤ 8 by omega) q8 hcn (tn (N 11 3 m)) (Nat.le_refl _)
    have hstay : ¬ (ofK (mf N m) (mr I ad) w c ∧ ofB (ofv (mf N m) (mr I ad) w (c)) (crw (mf N m) (mr I ad) c) (ofT (mf N m) (mr I ad) w c)) → (ofv (mf N m) (mr I ad) w (c + 1)) = (ofv (mf N m) (mr I ad) w (c)) := ofv_f
    refine v_iload_5 dX11_offer_60 rfl ?_
    refine v_aload_0 dX11_offer_62 rfl ?_
    refine v_getN fl_11_118 (MOK.t hM) rfl (zle rfl) rfl dX11_offer_63 rfl ?_
    refine v_top h0.1 ?_
    refine v_icmp_ge_f (tgt := 164) (nI_ge (a := c) (b := tn (N 11 0 m)) (by omega) (by omega)) dX11_offer_66 (by decide) rfl ?_
    refine v_aload_0 dX11_offer_69 rfl ?_
    refine v_iload_1 dX11_offer_70 rfl ?_
    refine v_iload_5 dX11_offer_71 rfl ?_
    refine v_callV (ci := 11) (F := TX11) (c_X11_wayTo m ad w (tn (N 11 27 m)) (tn (N 11 3 m)) (I (ad 23) w = 1) (nI (tn (I (ad 19) w))) (nI c) hM (by omega) q7 hd.1 hd7 k6 h3.1 (by omega)) yy_X11_wayTo im_X11_wayTo se_X11_wayTo lk_11_261 (MOK.t hM) (zle rfl) rfl (zle rfl) (zle rfl) (zle rfl) (zle rfl) rfl rfl (zle rfl) dX11_offer_73 rfl (zp.use ?_)
    rcases hcw with ⟨i1, i2⟩ | ⟨l, i1, i2⟩
    · refine v_top i1 ?_
      refine v_istore_6 dX11_offer_76 rfl (zle rfl) rfl ?_
      refine v_iload_6 dX11_offer_78 rfl ?_
      refine v_aload_0 dX11_offer_80 rfl ?_
      refine v_getP fl_11_102 (mp_39 hM) (MOK.t hM) rfl (zle rfl) rfl dX11_offer_81 rfl ?_
      refine v_iload_5 dX11_offer_84 rfl ?_
      refine v_aload_0 dX11_offer_86 rfl ?_
      refine v_getP fl_11_56 (mp_20 hM) (MOK.t hM) rfl (zle rfl) rfl dX11_offer_87 rfl ?_
      refine v_iload_1 dX11_offer_90 rfl ?_
      refine v_iald (j := w) (ma_20 hM) rfl (by omega) (zle rfl) dX11_offer_91 rfl ?_
      refine v_top q9 ?_
      refine v_callS (c_X11_momentOf c (tn (I (ad 20) w))) yy_X11_momentOf st_X11_momentOf lk_11_210 (zle rfl) (zle rfl) (zle rfl) (zle rfl) rfl rfl (zle rfl) dX11_offer_92 rfl (zp.use ?_)
      refine v_iald (j := 8 * (tn (I (ad 20) w)) + c) (ma_39 hM) rfl (by omega) (zle rfl) dX11_offer_95 rfl ?_
      refine v_top (ht c hcn) ?_
      refine v_iadd dX11_offer_96 rfl ?_
      refine v_istore_7 dX11_offer_97 rfl (zle rfl) rfl ?_
      refine v_iload_6 dX11_offer_99 rfl ?_
      refine v_ldc dX11_offer_101 kc_11_147 rfl ?_
      refine v_icmp_ge_t (n := 158) (nI_le (a := FARn) (b := FARn) (Nat.le_refl _) (by decide)) dX11_offer_103 (by decide) ?_
      refine v_iinc_5 dX11_offer_158 (nI_1 c) rfl (zle rfl) rfl ?_
      refine v_goto (n := 60) dX11_offer_161 (by decide) ?_
      have h := fun o6 o7 o8 => ih (c + 1) o6 o7 o8 (by omega)
      simp only [hstay (fun h => by obtain ⟨l, hl⟩ := h.1.1; exact i2 l hl)] at h
      exact h _ _ _
    · have hel := elv_eq i1
      have hl20 := i1.1.1.2.1
      have hne := i1.1.1.2.2.2.2
      have eT : ofT (mf N m) (mr I ad) w c = l + (tmv (mf N m) (mr I ad) (tn (I (ad 22) w)) (tn (N 11 27 m)) (I (ad 23) w = 1) (tn (I (ad 20) w)) c) := congrArg (fun x => x + (tmv (mf N m) (mr I ad) (tn (I (ad 22) w)) (tn (N 11 27 m)) (I (ad 23) w = 1) (tn (I (ad 20) w)) c)) hel
      refine v_top i2 ?_
      refine v_istore_6 dX11_offer_76 rfl (zle rfl) rfl ?_
      refine v_iload_6 dX11_offer_78 rfl ?_
      refine v_aload_0 dX11_offer_80 rfl ?_
      refine v_getP fl_11_102 (mp_39 hM) (MOK.t hM) rfl (zle rfl) rfl dX11_offer_81 rfl ?_
      refine v_iload_5 dX11_offer_84 rfl ?_
      refine v_aload_0 dX11_offer_86 rfl ?_
      refine v_getP fl_11_56 (mp_20 hM) (MOK.t hM) rfl (zle rfl) rfl dX11_offer_87 rfl ?_
      refine v_iload_1 dX11_offer_90 rfl ?_
      refine v_iald (j := w) (ma_20 hM) rfl (by omega) (zle rfl) dX11_offer_91 rfl ?_
      refine v_top q9 ?_
      refine v_callS (c_X11_momentOf c (tn (I (ad 20) w))) yy_X11_momentOf st_X11_momentOf lk_11_210 (zle rfl) (zle rfl) (zle rfl) (zle rfl) rfl rfl (zle rfl) dX11_offer_92 rfl (zp.use ?_)
      refine v_iald (j := 8 * (tn (I (ad 20) w)) + c) (ma_39 hM) rfl (by omega) (zle rfl) dX11_offer_95 rfl ?_
      refine v_top (ht c hcn) ?_
      refine v_iadd dX11_offer_96 rfl ?_
      refine v_top (nI_add _ _) ?_
      refine v_istore_7 dX11_offer_97 rfl (zle rfl) rfl ?_
      refine v_iload_6 dX11_offer_99 rfl ?_
      refine v_ldc dX11_offer_101 kc_11_147 rfl ?_
      refine v_icmp_ge_f (tgt := 158) (nI_ge (a := l) (b := FARn) (by omega) (by decide)) dX11_offer_103 (by decide) rfl ?_
      refine v_iload_7 dX11_offer_106 rfl ?_
      refine v_ldc dX11_offer_108 kc_11_147 rfl ?_
      by_cases hsm : l + (tmv (mf N m) (mr I ad) (tn (I (ad 22) w)) (tn (N 11 27 m)) (I (ad 23) w = 1) (tn (I (ad 20) w)) c) < FARn
      · refine v_icmp_lt_t (n := 116) (nI_lt (a := l + (tmv (mf N m) (mr I ad) (tn (I (ad 22) w)) (tn (N 11 27 m)) (I (ad 23) w = 1) (tn (I (ad 20) w)) c)) (b := FARn) (by omega) (by decide)) dX11_offer_110 (by decide) ?_
        refine v_aload_0 dX11_offer_116 rfl ?_
        refine v_iload_1 dX11_offer_117 rfl ?_
        refine v_iload_5 dX11_offer_118 rfl ?_
        have hK : ofK (mf N m) (mr I ad) w c := ⟨⟨l, i1.1⟩, by rw [eT]; omega⟩
        refine v_callV (ci := 11) (F := TX11) (c_X11_othersAt m ad w c hM hZ (by omega)) yy_X11_othersAt im_X11_othersAt se_X11_othersAt lk_11_264 (MOK.t hM) (zle rfl) rfl (zle rfl) (zle rfl) (zle rfl) (zle rfl) rfl rfl (zle rfl) dX11_offer_120 rfl (zp.use ?_)
        refine v_top (show nI (cnp (fun q => q ≠ w ∧ wkA (mr I ad) c q) (tn (N 11 18 m))) = nI (crw (mf N m) (mr I ad) c) from congrArg nI (cnp_congr _ (fun q _ => ⟨fun h => h.2, fun h => ⟨fun e => hne ((nI_eq (by omega) (by omega)).mp (by rw [← q7]; rw [e] at h; exact h.1)), h⟩⟩))) ?_
        have hcb : crw (mf N m) (mr I ad) c < 7 := Nat.lt_of_le_of_lt (cnp_le _ _) h18b
        refine v_istore_8 dX11_offer_123 rfl (zle rfl) rfl ?_
        refine v_iload_2 dX11_offer_125 rfl ?_
        refine v_if_lt (tgt := 148) dX11_offer_126 (by decide) rfl (fun c126 => ?_) (fun c126 => ?_)
        · refine v_iload_5 dX11_offer_148 rfl ?_
          refine v_istore_2 dX11_offer_150 rfl (zle rfl) rfl ?_
          refine v_iload_8 dX11_offer_151 rfl ?_
          refine v_istore_3 dX11_offer_153 rfl (zle rfl) rfl ?_
          refine v_iload_7 dX11_offer_154 rfl ?_
          refine v_istore_4 dX11_offer_156 rfl (zle rfl) rfl ?_
          refine v_iinc_5 dX11_offer_158 (nI_1 c) rfl (zle rfl) rfl ?_
          refine v_goto (n := 60) dX11_offer_161 (by decide) ?_
          have h := fun o6 o7 o8 => ih (c + 1) o6 o7 o8 (by omega)
          have he := ofv_t hK (Or.inl c126)
          rw [eT] at he
          simp only [he] at h
          exact h _ _ _
        · refine v_iload_8 dX11_offer_129 rfl ?_
          refine v_iload_3 dX11_offer_131 rfl ?_
          by_cases hb2 : (crw (mf N m) (mr I ad) c) < (ofv (mf N m) (mr I ad) w (c)).2.1
          · refine v_icmp_lt_t (n := 148) (nI_lt hb2 (by omega)) dX11_offer_132 (by decide) ?_
            refine v_iload_5 dX11_offer_148 rfl ?_
            refine v_istore_2 dX11_offer_150 rfl (zle rfl) rfl ?_
            refine v_iload_8 dX11_offer_151 rfl ?_
            refine v_istore_3 dX11_offer_153 rfl (zle rfl) rfl ?_
            refine v_iload_7 dX11_offer_154 rfl ?_
            refine v_istore_4 dX11_offer_156 rfl (zle rfl) rfl ?_
            refine v_iinc_5 dX11_offer_158 (nI_1 c) rfl (zle rfl) rfl ?_
            refine v_goto (n := 60) dX11_offer_161 (by decide) ?_
            have h := fun o6 o7 o8 => ih (c + 1) o6 o7 o8 (by omega)
            have he := ofv_t hK (Or.inr (Or.inl hb2))
            rw [eT] at he
            simp only [he] at h
            exact h _ _ _
          · refine v_icmp_lt_f (tgt := 148) (nI_nlt (Nat.not_lt.mp hb2) (by omega)) dX11_offer_132 (by decide) rfl ?_
            refine v_iload_8 dX11_offer_135 rfl ?_
            refine v_iload_3 dX11_offer_137 rfl ?_
            by_cases hb3 : (crw (mf N m) (mr I ad) c) = (ofv (mf N m) (mr I ad) w (c)).2.1
            · refine v_icmp_ne_f (tgt := 158) (by rw [hb3]) dX11_offer_138 (by decide) rfl ?_
              refine v_iload_7 dX11_offer_141 rfl ?_
              refine v_iload_4 dX11_offer_143 rfl ?_
              by_cases hb4 : l + (tmv (mf N m) (mr I ad) (tn (I (ad 22) w)) (tn (N 11 27 m)) (I (ad 23) w = 1) (tn (I (ad 20) w)) c) < (ofv (mf N m) (mr I ad) w (c)).2.2
              · refine v_icmp_ge_f (tgt := 158) (nI_ge hb4 (by omega)) dX11_offer_145 (by decide) rfl ?_
                refine v_iload_5 dX11_offer_148 rfl ?_
                refine v_istore_2 dX11_offer_150 rfl (zle rfl) rfl ?_
                refine v_iload_8 dX11_offer_151 rfl ?_
                refine v_istore_3 dX11_offer_153 rfl (zle rfl) rfl ?_
                refine v_iload_7 dX11_offer_154 rfl ?_
                refine v_istore_4 dX11_offer_156 rfl (zle rfl) rfl ?_
                refine v_iinc_5 dX11_offer_158 (nI_1 c) rfl (zle rfl) rfl ?_
                refine v_goto (n := 60) dX11_offer_161 (by decide) ?_
                have h := fun o6 o7 o8 => ih (c + 1) o6 o7 o8 (by omega)
                have he := ofv_t hK (Or.inr (Or.inr ⟨hb3, by rw [eT]; exact hb4⟩))
                rw [eT] at he
                simp only [he] at h
                exact h _ _ _
              · refine v_icmp_ge_t (n := 158) (nI_le (Nat.not_lt.mp hb4) (by omega)) dX11_offer_145 (by decide) ?_
                refine v_iinc_5 dX11_offer_158 (nI_1 c) rfl (zle rfl) rfl ?_
                refine v_goto (n := 60) dX11_offer_161 (by decide) ?_
                have h := fun o6 o7 o8 => ih (c + 1) o6 o7 o8 (by omega)
                simp only [hstay (fun h => h.2.elim c126 (fun g => g.elim hb2 (fun g => hb4 (by rw [← eT]; exact g.2))))] at h
                exact h _ _ _
            · refine v_icmp_ne_t (n := 158) (fun h => hb3 ((nI_eq (by omega) (by omega)).mp h)) dX11_offer_138 (by decide) ?_
              refine v_iinc_5 dX11_offer_158 (nI_1 c) rfl (zle rfl) rfl ?_
              refine v_goto (n := 60) dX11_offer_161 (by decide) ?_
              have h := fun o6 o7 o8 => ih (c + 1) o6 o7 o8 (by omega)
              simp only [hstay (fun h => h.2.elim c126 (fun g => g.elim hb2 (fun g => hb3 g.1)))] at h
              exact h _ _ _
      · refine v_icmp_lt_f (tgt := 116) (nI_nlt (a := l + (tmv (mf N m) (mr I ad) (tn (I (ad 22) w)) (tn (N 11 27 m)) (I (ad 23) w = 1) (tn (I (ad 20) w)) c)) (b := FARn) (by omega) (by omega)) dX11_offer_110 (by decide) rfl ?_
        refine v_goto (n := 158) dX11_offer_113 (by decide) ?_
        refine v_iinc_5 dX11_offer_158 (nI_1 c) rfl (zle rfl) rfl ?_
        refine v_goto (n := 60) dX11_offer_161 (by decide) ?_
        have h := fun o6 o7 o8 => ih (c + 1) o6 o7 o8 (by omega)
        simp only [hstay (fun h => absurd h.1.2 (by rw [eT]; omega))] at h
        exact h _ _ _
theorem c_X11_offer {E : zE} {T : zT} {N : zN} {P : zP} {I : zI} {R : zR} (m : Nat) (ad : Nat → Nat) (w : Int32) (hM : MOK T P m ad) (hZ : SrI (mf N m) (mr I ad)) : zC E yX11_offer cX11_offer 9 (some .int) (zrm 3 80 1 8) [.ref m, .int w] T N P I R (mQ m ad T N P I R (ac_offer (mf N m) (mr I ad) w)) := by
  refine zC.intro (ls := [some (.ref m), some (.int w), none, none, none, none, none, none, none]) pl_RX11 (zle rfl) 7 rfl (fun K => ?_)
  refine v_aload_0 dX11_offer_0 rfl ?_
  refine v_iload_1 dX11_offer_1 rfl ?_
  refine v_callV (ci := 11) (F := TX11) (c_X11_isWalker _ _ (MOK.t hM)) yy_X11_isWalker im_X11_isWalker se_X11_isWalker lk_11_252 (MOK.t hM) (zle rfl) rfl (zle rfl) (zle rfl) (zle rfl) (zle rfl) rfl rfl (zle rfl) dX11_offer_2 rfl (zp.use ?_)
  refine v_ifz_ne (tgt := 15) dX11_offer_5 (by decide) rfl (fun c5 => ?_) (fun c5 => ?_)
  · have h9 := hZ.1.1.2.1
    have h9b := h9.2
    have h0 : Nt (N 11 0 m) 9 := hZ.1.2.1
    have h0b := h0.2
    have h3 : Nt (N 11 3 m) 15 := hZ.1.2.2.1
    have h3b := h3.2
    obtain ⟨w, hw, rfl⟩ := fnd (c := N 11 18 m) hZ.1.1.1 (by decide) c5
    have h18 : tn (N 11 18 m) < 7 := hZ.1.1.1.2
    have tw : tn (nI w) = w := tn_nI (by omega)
    obtain ⟨k1, k2, k3, k4, k5, k6, k7, k8, k9, k10⟩ := hZ.wk (show w < tn (mf N m 18) from hw)
    have hd := hZ.1.1.2.2.2.1
    have hd7 : tn (N 11 27 m) < 7 := hd.2
    have h12 : 2 ^ npw (mr I ad) w ≤ 2 ^ 12 := Nat.pow_le_pow_right (by decide) k5
    refine v_aload_0 dX11_offer_15 rfl ?_
    refine v_iload_1 dX11_offer_16 rfl ?_
    refine v_callV (ci := 11) (F := TX11) (c_X11_isDone m ad (tn (I (ad 22) w)) (npw (mr I ad) w) w hM (by omega) k1 k3 k4 k5) yy_X11_isDone im_X11_isDone se_X11_isDone lk_11_255 (MOK.t hM) (zle rfl) rfl (zle rfl) (zle rfl) (zle rfl) (zle rfl) rfl rfl (zle rfl) dX11_offer_17 rfl (zp.use ?_)
    refine v_ifz_eq (tgt := 30) dX11_offer_20 (by decide) rfl (fun c20 => ?_) (fun c20 => ?_)
    · refine v_aload_0 dX11_offer_30 rfl ?_
      refine v_aload_0 dX11_offer_31 rfl ?_
      refine v_getP fl_11_62 (mp_22 hM) (MOK.t hM) rfl (zle rfl) rfl dX11_offer_32 rfl ?_
      refine v_iload_1 dX11_offer_35 rfl ?_
      refine v_iald (j := w) (ma_22 hM) rfl (by omega) (zle rfl) dX11_offer_36 rfl ?_
      refine v_top k1 ?_
      refine v_aload_0 dX11_offer_37 rfl ?_
      refine v_getN fl_11_245 (MOK.t hM) rfl (zle rfl) rfl dX11_offer_38 rfl ?_
      refine v_top hd.1 ?_
      refine v_aload_0 dX11_offer_41 rfl ?_
      refine v_getP fl_11_65 (mp_23 hM) (MOK.t hM) rfl (zle rfl) rfl dX11_offer_42 rfl ?_
      refine v_iload_1 dX11_offer_45 rfl ?_
      refine v_zald (j := w) (ma_23 hM) rfl (by omega) (zle rfl) dX11_offer_46 rfl ?_
      refine v_top k6 ?_
      refine v_callV (ci := 11) (F := TX11) (c_X11_findTimes m ad (tn (I (ad 22) w)) (npw (mr I ad) w) (tn (N 11 0 m)) (tn (N 11 3 m)) (tn (N 11 27 m)) (I (ad 23) w = 1) hM k3 hd7 k4 k5 h0.1 (by omega) h3.1 (by omega) hZ.2.1 (fun p hp => (hZ.2.2.1 (tn (I (ad 22) w)) k2 p hp).1)) yy_X11_findTimes im_X11_findTimes se_X11_findTimes lk_11_231 (MOK.t hM) (zle rfl) rfl (zle rfl) (zle rfl) (zle rfl) (zle rfl) rfl rfl (zle rfl) dX11_offer_47 rfl (fun v1 T2 N2 P2 I2 R2 hq => ?_)
      obtain ⟨rfl, rfl, rfl, rfl, m1, m2, m3, m4⟩ := hq
      have hM := m1
      have hF9 : FARn = 100000000 := rfl
      refine v_iconst (v := -1) dX11_offer_50 rfl rfl ?_
      refine v_istore_2 dX11_offer_51 rfl (zle rfl) rfl ?_
      refine v_iconst (v := 0) dX11_offer_52 rfl rfl ?_
      refine v_istore_3 dX11_offer_53 rfl (zle rfl) rfl ?_
      refine v_iconst (v := 0) dX11_offer_54 rfl rfl ?_
      refine v_istore_4 dX11_offer_55 rfl (zle rfl) rfl ?_
      refine v_iconst (v := 0) dX11_offer_57 rfl rfl ?_
      refine v_istore_5 dX11_offer_58 rfl (zle rfl) rfl ?_
      have e8 : (ofv (mf N m) (mr I ad) (tn (nI w)) 8) = ofv (mf N m) (mr I2 ad) w (tn (N 11 0 m)) := by rw [tw, m2]; exact ofv_8 (show tn (N 11 0 m) ≤ 8 by omega)
      refine lp_X11_offer (I := I2) (w := w) hM (by rw [m2]; exact hZ) hw (fun q hq => ?_) (fun h => ?_) (fun h => ?_) (tn (N 11 0 m)) 0 _ _ _ (by omega)
      · have e20 : I2 (ad 20) w = I (ad 20) w := congrFun (congrFun m2 20) w
        have e22 : I2 (ad 22) w = I (ad 22) w := congrFun (congrFun m2 22) w
        have e23 : I2 (ad 23) w = I (ad 23) w := congrFun (congrFun m2 23) w
        rw [e20, e22, e23, m2]
        exact m4 _ k10 q hq
      · refine mQ_go hM ((((zi_t c5).trans (zi_f (by rw [tw]; exact c20))).trans (zi_t (by rw [e8]; exact h)))) (by rw [e8]) rfl m2 (ft_fr m3)
      · exact mQ_go hM (((zi_t c5).trans (zi_f (by rw [tw]; exact c20))).trans (zi_f (by rw [e8]; exact h))) rfl (mf_set (by decide)) m2 ((ft_fr m3).n _ _ _)
    · refine v_aload_0 dX11_offer_23 rfl ?_
      refine v_ldc dX11_offer_24 kc_11_248 rfl ?_
      refine v_callV (ci := 11) (F := TX11) (c_X11_finding _ _ (MOK.t hM)) yy_X11_finding im_X11_finding se_X11_finding lk_11_132 (MOK.t hM) (zle rfl) rfl (zle rfl) (zle rfl) (zle rfl) (zle rfl) rfl rfl (zle rfl) dX11_offer_26 rfl (zp.use ?_)
      exact v_ireturn rfl (mQ_fd hM ((zi_t c5).trans (zi_t (by rw [tw]; exact c20)))) (zle rfl) (zle rfl) dX11_offer_29
  · refine v_aload_0 dX11_offer_8 rfl ?_
    refine v_ldc dX11_offer_9 kc_11_131 rfl ?_
    refine v_callV (ci := 11) (F := TX11) (c_X11_finding _ _ (MOK.t hM)) yy_X11_finding im_X11_finding se_X11_finding lk_11_132 (MOK.t hM) (zle rfl) rfl (zle rfl) (zle rfl) (zle rfl) (zle rfl) rfl rfl (zle rfl) dX11_offer_11 rfl (zp.use ?_)
    exact v_ireturn rfl (mQ_fd hM (zi_f c5)) (zle rfl) (zle rfl) dX11_offer_14
