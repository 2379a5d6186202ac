theorem Cfr.ub {Mn : Nat → Prop} {T : zT} {N : zN} {P : zP} {I : zI} {T1 : zT} {N1 : zN} {P1 : zP} {I1 : zI} (h : Cfr Mn T N P I T1 N1 P1 I1) {a lo c : Nat} {g : Nat → Int32} (ha : ¬ Mn a) : Cfr Mn T N P I T1 N1 P1 (ur I1 a lo c g) :=
  ⟨h.1, h.2.1, fun q hq => ⟨by rw [ur_off (show q ≠ a from fun e => ha (e ▸ hq))]; exact (h.2.2 q hq).1, (h.2.2 q hq).2⟩⟩
theorem i_rng {a n : Int32} {k : Nat} (hk : k < 2 ^ 30) (ha : 0 ≤ a) : n ≤ nI k - a ↔ a.toInt + n.toInt ≤ (k : Int) := by
  have h1 := fb_rng9 a
  rw [Int32.le_iff_toInt_le] at ha
  have e0 : (0 : Int32).toInt = 0 := rfl
  have e : (nI k - a).toInt = (k : Int) - a.toInt := by
    rw [Int32.toInt_sub, nI_toInt (by omega)]
    exact fb9 (by omega) (by omega)
  rw [Int32.le_iff_toInt_le, e]
  omega
theorem c_X5_hasRange {E : zE} {T : zT} {N : zN} {P : zP} {I : zI} {R : zR} (q na k : Nat) (a n : Int32) (hq : (T q).1 = 15) (hp : P 5 1 q = some na) (hT : T na = (1, k)) : zC E yX5_hasRange cX5_hasRange 3 (some .boolean) (zr0 0 0) [.ref q, .int a, .int n] T N P I R (zp (zb ((0 ≤ a ∧ 0 ≤ n) ∧ n ≤ nI k - a)) T N P I R) := by
  refine zC.intro (ls := [some (.ref q), some (.int a), some (.int n)]) pl_RX5 (zle rfl) 0 rfl (fun K => ?_)
  refine v_iload_1 dX5_hasRange_0 rfl ?_
  refine v_if_lt (tgt := 23) dX5_hasRange_1 (by decide) rfl (fun c1 => ?_) (fun c1 => ?_)
  · refine v_iconst (v := 0) dX5_hasRange_23 rfl rfl ?_
    exact v_zreturn rfl rfl (zp_f (fun h => i_nlt0.mpr h.1.1 c1)) (zle rfl) (zle rfl) dX5_hasRange_24
  · refine v_iload_2 dX5_hasRange_4 rfl ?_
    refine v_if_lt (tgt := 23) dX5_hasRange_5 (by decide) rfl (fun c5 => ?_) (fun c5 => ?_)
    · refine v_iconst (v := 0) dX5_hasRange_23 rfl rfl ?_
      exact v_zreturn rfl rfl (zp_f (fun h => i_nlt0.mpr h.1.2 c5)) (zle rfl) (zle rfl) dX5_hasRange_24
    · refine v_iload_2 dX5_hasRange_8 rfl ?_
      refine v_aload_0 dX5_hasRange_9 rfl ?_
      refine v_getP fl_5_19 (by assumption) (by assumption) rfl (zle rfl) rfl dX5_hasRange_10 rfl ?_
      refine v_alenN (by assumption) (by decide) dX5_hasRange_13 rfl ?_
      refine v_iload_1 dX5_hasRange_14 rfl ?_
      refine v_isub dX5_hasRange_15 rfl ?_
      refine v_icmp_gt (tgt := 23) dX5_hasRange_16 (by decide) rfl (fun c16 => ?_) (fun c16 => ?_)
      · refine v_iconst (v := 0) dX5_hasRange_23 rfl rfl ?_
        exact v_zreturn rfl rfl (zp_f (fun h => absurd h.2 (by simp only [Int32.lt_iff_toInt_lt, Int32.le_iff_toInt_le] at *; omega))) (zle rfl) (zle rfl) dX5_hasRange_24
      · refine v_iconst (v := 1) dX5_hasRange_19 rfl rfl ?_
        refine v_goto (n := 24) dX5_hasRange_20 (by decide) ?_
        exact v_zreturn rfl rfl (zp_t ⟨⟨i_nlt0.mp c1, i_nlt0.mp c5⟩, by simp only [Int32.lt_iff_toInt_lt, Int32.le_iff_toInt_le] at *; omega⟩) (zle rfl) (zle rfl) dX5_hasRange_24
theorem c_X10_copy {E : zE} {T : zT} {N : zN} {P : zP} {I : zI} {R : zR} (x : Nat) (Mn : Nat → Prop) (b : Nat → Nat → Nat) (g : Nat) (f : zf) (r : zg) (s a t c n : Int32) (hC : CR T N P I R x Mn b g f r) (hs : 0 ≤ s ∧ s ≤ 3 → ∃ q, q < 4 ∧ s = nI q) (ht : 0 ≤ t ∧ t ≤ 3 → ∃ q, q < 4 ∧ t = nI q) (hz : ∀ q, q < 4 → Nt (r 29 q) 13) : zC E yX10_copy cX10_copy 8 (some .int) (zr0 2 48) [.ref x, .int s, .int a, .int t, .int c, .int n] T N P I R (cQ x Mn g T N P I R (ac_copy f r s a t c n)) := by
  refine zC.intro (ls := [some (.ref x), some (.int s), some (.int a), some (.int t), some (.int c), some (.int n), none, none]) pl_RX10 (zle rfl) 2 rfl (fun K => ?_)
  obtain ⟨hX, hT, hA, hP, hE, hW, hS, hQ⟩ := id hC
  obtain ⟨x1, x2, x3, x4, x5, x6, x7, x8, x9, x10, x11, x12, x13, x14⟩ := id hX
  obtain ⟨t1, t2, t3, t4, t5, t6, t7, t8, t9, t10⟩ := id hT
  obtain ⟨a1, a2, a3⟩ := id hA
  have hsl : ∀ q, q < 4 → ¬ r 28 q = 0 → lvr r (7 + q) := fun q h1 h0 => Or.inr ⟨by omega, by rw [show 7 + q - 7 = q by omega]; exact h0⟩
  refine v_iload_1 dX10_copy_0 rfl ?_
  refine v_callS (c_X10_isSheet _) yy_X10_isSheet st_X10_isSheet lk_10_254 (zle rfl) (zle rfl) (zle rfl) (zle rfl) rfl rfl (zle rfl) dX10_copy_1 rfl (zp.use ?_)
  refine v_ifz_eq (tgt := 14) dX10_copy_4 (by decide) rfl (fun c4 => ?_) (fun c4 => ?_)
  · refine v_aload_0 dX10_copy_14 rfl ?_
    refine v_ldc dX10_copy_15 kc_10_65 rfl ?_
    refine v_callV (ci := 10) (F := TX10) (c_X10_finding _ _ (by assumption)) yy_X10_finding im_X10_finding se_X10_finding lk_10_66 (by assumption) (zle rfl) rfl (zle rfl) (zle rfl) (zle rfl) (zle rfl) rfl rfl (zle rfl) dX10_copy_17 rfl (zp.use ?_)
    exact v_ireturn rfl (cQ_fd hC (zi_f (fun h => c4 h.1))) (zle rfl) (zle rfl) dX10_copy_20
  · refine v_iload_3 dX10_copy_7 rfl ?_
    refine v_callS (c_X10_isSheet _) yy_X10_isSheet st_X10_isSheet lk_10_254 (zle rfl) (zle rfl) (zle rfl) (zle rfl) rfl rfl (zle rfl) dX10_copy_8 rfl (zp.use ?_)
    refine v_ifz_ne (tgt := 21) dX10_copy_11 (by decide) rfl (fun c11 => ?_) (fun c11 => ?_)
    · obtain ⟨s, hs4, rfl⟩ := hs c4
      obtain ⟨t, ht4, rfl⟩ := ht c11
      have ts : tn (nI s) = s := tn_nI (by omega)
      have tt : tn (nI t) = t := tn_nI (by omega)
      rcases Classical.em (r 28 s = 0) with z1 | z1 <;> rcases Classical.em (r 28 t = 0) with z2 | z2
      · refine v_aload_0 dX10_copy_21 rfl ?_
        refine v_getP fl_10_37 (by assumption) (by assumption) rfl (zle rfl) rfl dX10_copy_22 rfl ?_
        refine v_iload_1 dX10_copy_25 rfl ?_
        refine v_aaldN (j := s) ti_5 (by assumption) rfl (by omega) (zle rfl) ((hS s hs4).1 z1) dX10_copy_26 rfl ?_
        refine v_astoreN_6 dX10_copy_27 rfl (zle rfl) rfl ?_
        refine v_aload_0 dX10_copy_29 rfl ?_
        refine v_getP fl_10_37 (by assumption) (by assumption) rfl (zle rfl) rfl dX10_copy_30 rfl ?_
        refine v_iload_3 dX10_copy_33 rfl ?_
        refine v_aaldN (j := t) ti_5 (by assumption) rfl (by omega) (zle rfl) ((hS t ht4).1 z2) dX10_copy_34 rfl ?_
        refine v_astoreN_7 dX10_copy_35 rfl (zle rfl) rfl ?_
        refine v_aloadN_6 dX10_copy_37 rfl ?_
        refine v_ifnullN (n := 47) dX10_copy_39 (by decide) ?_
        refine v_aload_0 dX10_copy_47 rfl ?_
        refine v_ldcw dX10_copy_48 kc_10_264 rfl ?_
        refine v_callV (ci := 10) (F := TX10) (c_X10_finding _ _ (by assumption)) yy_X10_finding im_X10_finding se_X10_finding lk_10_66 (by assumption) (zle rfl) rfl (zle rfl) (zle rfl) (zle rfl) (zle rfl) rfl rfl (zle rfl) dX10_copy_51 rfl (zp.use ?_)
        exact v_ireturn rfl (cQ_fd hC ((zi_t ⟨c4, c11⟩).trans (zi_t (Or.inl (by rw [ts]; exact z1))))) (zle rfl) (zle rfl) dX10_copy_54
      · refine v_aload_0 dX10_copy_21 rfl ?_
        refine v_getP fl_10_37 (by assumption) (by assumption) rfl (zle rfl) rfl dX10_copy_22 rfl ?_
        refine v_iload_1 dX10_copy_25 rfl ?_
        refine v_aaldN (j := s) ti_5 (by assumption) rfl (by omega) (zle rfl) ((hS s hs4).1 z1) dX10_copy_26 rfl ?_
        refine v_astoreN_6 dX10_copy_27 rfl (zle rfl) rfl ?_
        refine v_aload_0 dX10_copy_29 rfl ?_
        refine v_getP fl_10_37 (by assumption) (by assumption) rfl (zle rfl) rfl dX10_copy_30 rfl ?_
        refine v_iload_3 dX10_copy_33 rfl ?_
        obtain ⟨k1, k2, k3, k4, k5⟩ := (hS t ht4).2 z2
        refine v_aald (j := t) ti_5 (by assumption) rfl (by omega) (zle rfl) k1 dX10_copy_34 rfl ?_
        refine v_astore_7 dX10_copy_35 rfl (zle rfl) rfl ?_
        refine v_aloadN_6 dX10_copy_37 rfl ?_
        refine v_ifnullN (n := 47) dX10_copy_39 (by decide) ?_
        refine v_aload_0 dX10_copy_47 rfl ?_
        refine v_ldcw dX10_copy_48 kc_10_264 rfl ?_
        refine v_callV (ci := 10) (F := TX10) (c_X10_finding _ _ (by assumption)) yy_X10_finding im_X10_finding se_X10_finding lk_10_66 (by assumption) (zle rfl) rfl (zle rfl) (zle rfl) (zle rfl) (zle rfl) rfl rfl (zle rfl) dX10_copy_51 rfl (zp.use ?_)
        exact v_ireturn rfl (cQ_fd hC ((zi_t ⟨c4, c11⟩).trans (zi_t (Or.inl (by rw [ts]; exact z1))))) (zle rfl) (zle rfl) dX10_copy_54
      · refine v_aload_0 dX10_copy_21 rfl ?_
        refine v_getP fl_10_37 (by assumption) (by assumption) rfl (zle rfl) rfl dX10_copy_22 rfl ?_
        refine v_iload_1 dX10_copy_25 rfl ?_
        obtain ⟨g1, g2, g3, g4, g5⟩ := (hS s hs4).2 z1
        refine v_aald (j := s) ti_5 (by assumption) rfl (by omega) (zle rfl) g1 dX10_copy_26 rfl ?_
        refine v_astore_6 dX10_copy_27 rfl (zle rfl) rfl ?_
        refine v_aload_0 dX10_copy_29 rfl ?_
        refine v_getP fl_10_37 (by assumption) (by assumption) rfl (zle rfl) rfl dX10_copy_30 rfl ?_
        refine v_iload_3 dX10_copy_33 rfl ?_
        refine v_aaldN (j := t) ti_5 (by assumption) rfl (by omega) (zle rfl) ((hS t ht4).1 z2) dX10_copy_34 rfl ?_
        refine v_astoreN_7 dX10_copy_35 rfl (zle rfl) rfl ?_
        refine v_aload_6 dX10_copy_37 rfl ?_
        refine v_ifnull dX10_copy_39 rfl ?_
        refine v_aloadN_7 dX10_copy_42 rfl ?_
        refine v_ifnonnullN dX10_copy_44 rfl ?_
        refine v_aload_0 dX10_copy_47 rfl ?_
        refine v_ldcw dX10_copy_48 kc_10_264 rfl ?_
        refine v_callV (ci := 10) (F := TX10) (c_X10_finding _ _ (by assumption)) yy_X10_finding im_X10_finding se_X10_finding lk_10_66 (by assumption) (zle rfl) rfl (zle rfl) (zle rfl) (zle rfl) (zle rfl) rfl rfl (zle rfl) dX10_copy_51 rfl (zp.use ?_)
        exact v_ireturn rfl (cQ_fd hC ((zi_t ⟨c4, c11⟩).trans (zi_t (Or.inr (by rw [tt]; exact z2))))) (zle rfl) (zle rfl) dX10_copy_54
      · refine v_aload_0 dX10_copy_21 rfl ?_
        obtain ⟨g1, g2, g3, g4, g5⟩ := (hS s hs4).2 z1
        have hzs := hz s hs4
        have hzs2 := hzs.2
        have hzs3 := hzs.toInt (by decide)
        have als := a2 _ (hsl s hs4 z1)
        have als1 : T (b 1 (7 + s)) = (1, tn (r 29 s)) := by have := als.1; rw [lnr7 hs4] at this; exact this
        obtain ⟨k1, k2, k3, k4, k5⟩ := (hS t ht4).2 z2
        have hzt := hz t ht4
        have hzt2 := hzt.2
        have hzt3 := hzt.toInt (by decide)
        have alt := a2 _ (hsl t ht4 z2)
        have alt1 : T (b 1 (7 + t)) = (1, tn (r 29 t)) := by have := alt.1; rw [lnr7 ht4] at this; exact this
        refine v_getP fl_10_37 (by assumption) (by assumption) rfl (zle rfl) rfl dX10_copy_22 rfl ?_
        refine v_iload_1 dX10_copy_25 rfl ?_
        refine v_aald (j := s) ti_5 (by assumption) rfl (by omega) (zle rfl) g1 dX10_copy_26 rfl ?_
        refine v_astore_6 dX10_copy_27 rfl (zle rfl) rfl ?_
        refine v_aload_0 dX10_copy_29 rfl ?_
        refine v_getP fl_10_37 (by assumption) (by assumption) rfl (zle rfl) rfl dX10_copy_30 rfl ?_
        refine v_iload_3 dX10_copy_33 rfl ?_
        refine v_aald (j := t) ti_5 (by assumption) rfl (by omega) (zle rfl) k1 dX10_copy_34 rfl ?_
        refine v_astore_7 dX10_copy_35 rfl (zle rfl) rfl ?_
        refine v_aload_6 dX10_copy_37 rfl ?_
        refine v_ifnull dX10_copy_39 rfl ?_
        refine v_aload_7 dX10_copy_42 rfl ?_
        refine v_ifnonnull (n := 55) dX10_copy_44 (by decide) ?_
        refine v_aload_6 dX10_copy_55 rfl ?_
        refine v_getN fl_10_272 g2 rfl (zle rfl) rfl dX10_copy_57 rfl ?_
        refine v_top g3 ?_
        refine v_aload_7 dX10_copy_60 rfl ?_
        refine v_getN fl_10_272 k2 rfl (zle rfl) rfl dX10_copy_62 rfl ?_
        refine v_top k3 ?_
        refine v_icmp_eq (tgt := 75) dX10_copy_65 (by decide) rfl (fun c65 => ?_) (fun c65 => ?_)
        · refine v_aload_6 dX10_copy_75 rfl ?_
          refine v_iload_2 dX10_copy_77 rfl ?_
          refine v_iload_5 dX10_copy_78 rfl ?_
          refine v_callV (ci := 5) (F := TX5) (c_X5_hasRange (b 6 s) (b 1 (7 + s)) (tn (r 29 s)) a n g2 g4 als1) yy_X5_hasRange im_X5_hasRange se_X5_hasRange lk_10_275 g2 (zle rfl) rfl (zle rfl) (zle rfl) (zle rfl) (zle rfl) rfl rfl (zle rfl) dX10_copy_80 rfl (zp.use ?_)
          refine v_ifz_eq (tgt := 98) dX10_copy_83 (by decide) rfl (fun c83 => ?_) (fun c83 => ?_)
          · refine v_aload_0 dX10_copy_98 rfl ?_
            refine v_ldc dX10_copy_99 kc_10_65 rfl ?_
            refine v_callV (ci := 10) (F := TX10) (c_X10_finding _ _ (by assumption)) yy_X10_finding im_X10_finding se_X10_finding lk_10_66 (by assumption) (zle rfl) rfl (zle rfl) (zle rfl) (zle rfl) (zle rfl) rfl rfl (zle rfl) dX10_copy_101 rfl (zp.use ?_)
            exact v_ireturn rfl (cQ_fd hC ((((zi_t ⟨c4, c11⟩).trans (zi_f (fun h => h.elim (fun h => z1 (by rw [ts] at h; exact h)) (fun h => z2 (by rw [tt] at h; exact h))))).trans (zi_t (by rw [ts, tt]; exact c65))).trans (zi_f (fun h => c83 ⟨⟨h.1.1, h.1.2.2⟩, (i_rng (by omega) h.1.1).mpr (by have := h.2.1; rw [ts, hzs3] at this; exact this)⟩)))) (zle rfl) (zle rfl) dX10_copy_104
          · refine v_aload_7 dX10_copy_86 rfl ?_
            refine v_iload_4 dX10_copy_88 rfl ?_
            refine v_iload_5 dX10_copy_90 rfl ?_
            refine v_callV (ci := 5) (F := TX5) (c_X5_hasRange (b 6 t) (b 1 (7 + t)) (tn (r 29 t)) c n k2 k4 alt1) yy_X5_hasRange im_X5_hasRange se_X5_hasRange lk_10_275 k2 (zle rfl) rfl (zle rfl) (zle rfl) (zle rfl) (zle rfl) rfl rfl (zle rfl) dX10_copy_92 rfl (zp.use ?_)
            refine v_ifz_ne (tgt := 105) dX10_copy_95 (by decide) rfl (fun c95 => ?_) (fun c95 => ?_)
            · refine v_aload_6 dX10_copy_105 rfl ?_
              have cA : (0 ≤ a ∧ 0 ≤ c ∧ 0 ≤ n) ∧ a.toInt + n.toInt ≤ (r 29 (tn (nI s))).toInt ∧ c.toInt + n.toInt ≤ (r 29 (tn (nI t))).toInt := by
                refine ⟨⟨c83.1.1, c95.1.1, c83.1.2⟩, ?_, ?_⟩
                · rw [ts, hzs3]; exact (i_rng (by omega) c83.1.1).mp c83.2
                · rw [tt, hzt3]; exact (i_rng (by omega) c95.1.1).mp c95.2
              have w1 := (i_rng (by omega) c83.1.1).mp c83.2
              have w2 := (i_rng (by omega) c95.1.1).mp c95.2
              obtain ⟨l1, l2⟩ := tn_pos c83.1.1
              obtain ⟨l3, l4⟩ := tn_pos c95.1.1
              obtain ⟨l5, l6⟩ := tn_pos c83.1.2
              generalize tn a = a' at l1 l2
              generalize tn c = c' at l3 l4
              generalize tn n = n' at l5 l6
              subst l1
              subst l3
              subst l5
              have en : tn (nI n') = n' := tn_nI (by omega)
              have ea : tn (nI a') = a' := tn_nI (by omega)
              have ec : tn (nI c') = c' := tn_nI (by omega)
              refine v_getP fl_10_265 g4 g2 rfl (zle rfl) rfl dX10_copy_107 rfl ?_
              refine v_iload_2 dX10_copy_110 rfl ?_
              refine v_aload_7 dX10_copy_111 rfl ?_
              refine v_getP fl_10_265 k4 k2 rfl (zle rfl) rfl dX10_copy_113 rfl ?_
              refine v_iload_4 dX10_copy_116 rfl ?_
              refine v_iload_5 dX10_copy_118 rfl ?_
              refine v_copy (sp := a') (dp := c') (k := n') lk_10_279 na_copy st_copy ii_sys als1 alt1 (by omega) (by omega) (by omega) (by omega) (zle rfl) (zle rfl) dX10_copy_120 rfl ?_
              refine v_iload_5 dX10_copy_123 rfl ?_
              have eo : ac_copy f r (nI s) (nI a') (nI t) (nI c') (nI n') = (nI n', f, ur r 30 (12 * t + c') n' (fun q => r 30 (12 * s + a' + q))) := by
                refine ((((zi_t ⟨c4, c11⟩).trans (zi_f (fun h => h.elim (fun h => z1 (by rw [ts] at h; exact h)) (fun h => z2 (by rw [tt] at h; exact h))))).trans (zi_t (by rw [ts, tt]; exact c65))).trans (zi_t cA)).trans ?_
                rw [ts, tt, en, ea, ec]
              have hq : cQ x Mn g T N P I R (ac_copy f r (nI s) (nI a') (nI t) (nI c') (nI n')) (some (.int (nI n'))) T N P (u1 I (b 1 (7 + t)) (va_cpy (I (b 1 (7 + s))) (I (b 1 (7 + t))) a' c' n')) R := by
                refine cQ_go b g eo rfl (hC.srow ht4 z2 (fun q hq => u1_na hq) (fun k hk => ur_off hk) (fun i hi => ?_) (fun t' ht' hne i hi => ?_)) (Cfr.rf.i1 alt.2 _)
                · rw [u1_self]
                  unfold va_cpy
                  by_cases hc : c' ≤ i ∧ i < c' + n'
                  · rw [if_pos hc, ur_in (by omega) (by omega), g5 _ (by omega), show 12 * t + i - (12 * t + c') = i - c' by omega, Nat.add_assoc]
                  · rw [if_neg hc, ur_out (by omega)]
                    exact k5 i hi
                · have := (hz t' ht').2
                  rw [ur_out (by omega)]
              exact v_ireturn rfl (hq) (zle rfl) (zle rfl) dX10_copy_125
            · refine v_aload_0 dX10_copy_98 rfl ?_
              refine v_ldc dX10_copy_99 kc_10_65 rfl ?_
              refine v_callV (ci := 10) (F := TX10) (c_X10_finding _ _ (by assumption)) yy_X10_finding im_X10_finding se_X10_finding lk_10_66 (by assumption) (zle rfl) rfl (zle rfl) (zle rfl) (zle rfl) (zle rfl) rfl rfl (zle rfl) dX10_copy_101 rfl (zp.use ?_)
              exact v_ireturn rfl (cQ_fd hC ((((zi_t ⟨c4, c11⟩).trans (zi_f (fun h => h.elim (fun h => z1 (by rw [ts] at h; exact h)) (fun h => z2 (by rw [tt] at h; exact h))))).trans (zi_t (by rw [ts, tt]; exact c65))).trans (zi_f (fun h => c95 ⟨⟨h.1.2.1, h.1.2.2⟩, (i_rng (by omega) h.1.2.1).mpr (by have := h.2.2; rw [tt, hzt3] at this; exact this)⟩)))) (zle rfl) (zle rfl) dX10_copy_104
        · refine v_aload_0 dX10_copy_68 rfl ?_
          refine v_ldc dX10_copy_69 kc_10_140 rfl ?_
          refine v_callV (ci := 10) (F := TX10) (c_X10_finding _ _ (by assumption)) yy_X10_finding im_X10_finding se_X10_finding lk_10_66 (by assumption) (zle rfl) rfl (zle rfl) (zle rfl) (zle rfl) (zle rfl) rfl rfl (zle rfl) dX10_copy_71 rfl (zp.use ?_)
          exact v_ireturn rfl (cQ_fd hC (((zi_t ⟨c4, c11⟩).trans (zi_f (fun h => h.elim (fun h => z1 (by rw [ts] at h; exact h)) (fun h => z2 (by rw [tt] at h; exact h))))).trans (zi_f (by rw [ts, tt]; exact c65)))) (zle rfl) (zle rfl) dX10_copy_74
    · refine v_aload_0 dX10_copy_14 rfl ?_
      refine v_ldc dX10_copy_15 kc_10_65 rfl ?_
      refine v_callV (ci := 10) (F := TX10) (c_X10_finding _ _ (by assumption)) yy_X10_finding im_X10_finding se_X10_finding lk_10_66 (by assumption) (zle rfl) rfl (zle rfl) (zle rfl) (zle rfl) (zle rfl) rfl rfl (zle rfl) dX10_copy_17 rfl (zp.use ?_)
      exact v_ireturn rfl (cQ_fd hC (zi_f (fun h => c11 h.2))) (zle rfl) (zle rfl) dX10_copy_20
/-- byte number i of a word, as the class stores it -/
def bw (w : Int64) (i : Nat) : Int32 := (w >>> ((8 * nI i : Int32).toInt64 &&& 63)).toInt32.toInt8.toInt32
theorem bw_wby (w : Int64) (i : Nat) : bw w i &&& 255 = wby w i := by
  unfold bw wby
  rw [bp_b, Int64.toInt32_and]
  rfl
theorem lp_X6_append {E : zE} {T : zT} {N : zN} {P : zP} {I : zI} {R : zR} {K : zK E yX6_append cX6_append 5 none (zr0 0 0)} {Qf : State → Prop} {tp bb t n : Nat} {w : Int64} (h1 : (T tp).1 = 16) (h2 : P 6 0 tp = some bb) (h3 : T bb = (3, 200)) (hn : n ≤ 8) (ht : t + n ≤ 200)
    (hk : V K Qf T (u3 N 6 1 tp (nI (t + n))) P (ur I bb t n (bw w)) R 0 0 43 [some (.ref tp), some (.long w), none, some (.int (nI n)), some (.int (nI n))] []) :
    ∀ k i, i + k = n → V K Qf T (u3 N 6 1 tp (nI (t + i))) P (ur I bb t i (bw w)) R 0 0 3 [some (.ref tp), some (.long w), none, some (.int (nI n)), some (.int (nI i))] [] := by
  intro k
  induction k with
  | zero =>
    intro i hi
    obtain rfl : i = n := by omega
    refine v_iload_4 dX6_append_3 rfl ?_
    refine v_iload_3 dX6_append_5 rfl ?_
    refine v_icmp_ge_t (n := 43) (nI_le (a := i) (b := i) (Nat.le_refl _) (by omega)) dX6_append_6 (by decide) ?_
    exact hk
  | succ k ih =>
    intro i hi
    refine v_iload_4 dX6_append_3 rfl ?_
    refine v_iload_3 dX6_append_5 rfl ?_
    refine v_icmp_ge_f (tgt := 43) (nI_ge (a := i) (b := n) (by omega) (by omega)) dX6_append_6 (by decide) rfl ?_
    refine v_aload_0 dX6_append_9 rfl ?_
    refine v_getP fl_6_9 (by assumption) (by assumption) rfl (zle rfl) rfl dX6_append_10 rfl ?_
    refine v_aload_0 dX6_append_13 rfl ?_
    refine v_getN fl_6_15 (by assumption) rfl (zle rfl) rfl dX6_append_14 rfl ?_
    refine v_top u3_self ?_
    refine v_lload_1 dX6_append_17 rfl ?_
    refine v_bipush (v := 8) dX6_append_18 rfl rfl ?_
    refine v_iload_4 dX6_append_20 rfl ?_
    refine v_imul dX6_append_22 rfl ?_
    refine v_lshr dX6_append_23 rfl ?_
    refine v_l2i dX6_append_24 rfl ?_
    refine v_i2b dX6_append_25 rfl ?_
    refine v_bast (j := t + i) (by assumption) rfl (by omega) (zle rfl) (pk_vb _) dX6_append_26 rfl ?_
    rw [show (w >>> ((8 * nI i : Int32).toInt64 &&& 63)).toInt32.toInt8.toInt32 = bw w i from rfl, ur_s]
    refine v_aload_0 dX6_append_27 rfl ?_
    refine v_dup dX6_append_28 rfl rfl ?_
    refine v_getN fl_6_15 (by assumption) rfl (zle rfl) rfl dX6_append_29 rfl ?_
    refine v_top u3_self ?_
    refine v_iconst (v := 1) dX6_append_32 rfl rfl ?_
    refine v_iadd dX6_append_33 rfl ?_
    refine v_putN fw_6_15 (by assumption) rfl (zle rfl) rfl (fun h => by cases h) rfl rfl dX6_append_34 rfl ?_
    rw [u3_u3, nI_1]
    refine v_iinc_4 dX6_append_37 (nI_1 i) rfl (zle rfl) rfl ?_
    refine v_goto (n := 3) dX6_append_40 (by decide) ?_
    exact ih (i + 1) (by omega)
theorem c_X6_append {E : zE} {T : zT} {N : zN} {P : zP} {I : zI} {R : zR} (tp bb t n : Nat) (w : Int64) (h1 : (T tp).1 = 16) (h2 : P 6 0 tp = some bb) (h3 : T bb = (3, 200)) (h4 : N 6 1 tp = nI t) (hn : n ≤ 8) (ht : t + n ≤ 200) : zC E yX6_append cX6_append 5 none (zr0 0 0) [.ref tp, .long w, .int (nI n)] T N P I R (zv T (u3 N 6 1 tp (nI (t + n))) P (ur I bb t n (bw w)) R) := by
  refine zC.intro (ls := [some (.ref tp), some (.long w), none, some (.int (nI n)), none]) pl_RX6 (zle rfl) 1 rfl (fun K => ?_)
  refine v_iconst (v := 0) dX6_append_0 rfl rfl ?_
  refine v_istore_4 dX6_append_1 rfl (zle rfl) rfl ?_
  refine v_heap rfl (show N = u3 N 6 1 tp (nI (t + 0)) by rw [Nat.add_zero, ← h4, u3_id]) rfl (ur_0 I bb t (bw w)).symm rfl ?_
  refine lp_X6_append h1 h2 h3 hn ht ?_ n 0 (by omega)
  exact v_return rfl (zv.rf) (zle rfl) (zle rfl) dX6_append_43
theorem CR.feed {T : zT} {N : zN} {P : zP} {I : zI} {R : zR} {x : Nat} {Mn : Nat → Prop} {b : Nat → Nat → Nat} {g : Nat} {f : zf} {r : zg} (h : CR T N P I R x Mn b g f r) {t k : Nat} (ht : f 17 = nI t) (hk : t + k ≤ 200) (w : Int64) : CR T (u3 N 6 1 (b 0 1) (nI (t + k))) P (ur I (b 0 7) t k (bw w)) R x Mn b g (u1 f 17 (nI (t + k))) (ur r 16 t k (wby w)) := by
  obtain ⟨hX, ⟨t1, t2, t3, t4, t5, t6, t7, t8, t9, t10⟩, ⟨a1, a2, a3⟩, ⟨d1, d2, d3, d4, d5⟩, hE, hW, hS, hQ⟩ := h
  have et : tn (f 17) = t := by rw [ht, tn_nI (by omega)]
  have ne : ∀ i, lvr r i → b 1 i ≠ b 0 7 := fun i hi e => by have := (a2 i hi).1; rw [e, d3] at this; cases this
  have e1 : ∀ j, j ≠ 16 → ur r 16 t k (wby w) j = r j := fun j hj => ur_off hj
  refine ⟨hX, ⟨t1, t2, t3, t4, t5, t6, t7, ?_, ?_, t10⟩, ⟨a1, ?_, ?_⟩, ⟨d1, d2, d3, by rw [u3_self, u1_self], ?_⟩, ?_, ?_, ?_, hQ⟩
  · rw [ur_off (ne 0 (Or.inl (by decide))), ur_off (ne 1 (Or.inl (by decide))), e1 1 (by decide), e1 2 (by decide)]
    exact t8
  · intro j hj
    unfold RTw
    rw [e1 4 (by decide), e1 5 (by decide), e1 6 (by decide), e1 7 (by decide), e1 8 (by decide)]
    exact t9 j hj
  · unfold lvr lnr
    rw [e1 28 (by decide), e1 29 (by decide)]
    exact a2
  · unfold lvr
    rw [e1 28 (by decide)]
    exact a3
  · intro j hj
    rw [u1_self, tn_nI (by omega)] at hj
    by_cases hjt : j < t
    · rw [ur_out (by omega), ur_out (by omega)]
      exact d5 j (by omega)
    · rw [ur_in (by omega) (by omega), ur_in (by omega) (by omega), bw_wby]
  · intro e he
    unfold REe REp
    rw [e1 10 (by decide), e1 11 (by decide), e1 12 (by decide), e1 13 (by decide), e1 14 (by decide), e1 15 (by decide)]
    exact hE e he
  · refine ⟨fun n hn => ?_, hW.2⟩
    unfold RWn
    rw [e1 19 (by decide), e1 20 (by decide), e1 21 (by decide), e1 22 (by decide), e1 23 (by decide), e1 24 (by decide), e1 25 (by decide), e1 26 (by decide)]
    exact hW.1 n hn
  · intro s hs
    unfold RSs
    rw [e1 28 (by decide), e1 29 (by decide), e1 30 (by decide)]
    refine ⟨(hS s hs).1, fun h0 => ?_⟩
    obtain ⟨g1, g2, g3, g4, g5⟩ := (hS s hs).2 h0
    rw [ur_off (ne (7 + s) (Or.inr ⟨by omega, by rw [show 7 + s - 7 = s by omega]; exact h0⟩))]
    exact ⟨g1, g2, g3, g4, g5⟩
theorem c_X10_feed {E : zE} {T : zT} {N : zN} {P : zP} {I : zI} {R : zR} (x : Nat) (Mn : Nat → Prop) (b : Nat → Nat → Nat) (g : Nat) (f : zf) (r : zg) (w : Int64) (n : Int32) (t : Nat) (hC : CR T N P I R x Mn b g f r) (ht0 : f 17 = nI t) (ht2 : t ≤ 200) (hn : 1 ≤ n ∧ n ≤ 8 → ∃ k, k ≤ 8 ∧ n = nI k) (ht : ∀ k, k ≤ 8 → n = nI k → f 17 + n ≤ 200 → t + k ≤ 200) (hMb : ¬ Mn (b 0 7)) : zC E yX10_feed cX10_feed 4 (some .int) (zr0 1 24) [.ref x, .long w, .int n] T N P I R (cQ x Mn g T N P I R (ac_feed f r w n)) := by
  refine zC.intro (ls := [some (.ref x), some (.long w), none, some (.int n)]) pl_RX10 (zle rfl) 0 rfl (fun K => ?_)
  obtain ⟨hX, hT, hA, hP, hE, hW, hS, hQ⟩ := id hC
  obtain ⟨x1, x2, x3, x4, x5, x6, x7, x8, x9, x10, x11, x12, x13, x14⟩ := id hX
  obtain ⟨t1, t2, t3, t4, t5, t6, t7, t8, t9, t10⟩ := id hT
  obtain ⟨a1, a2, a3⟩ := id hA
  obtain ⟨d1, d2, d3, d4, d5⟩ := id hP
  refine v_iload_3 dX10_feed_0 rfl ?_
  refine v_iconst (v := 1) dX10_feed_1 rfl rfl ?_
  refine v_bipush (v := 8) dX10_feed_2 rfl rfl ?_
  refine v_callS (c_X10_isWithin _ _ _) yy_X10_isWithin st_X10_isWithin lk_10_61 (zle rfl) (zle rfl) (zle rfl) (zle rfl) rfl rfl (zle rfl) dX10_feed_4 rfl (zp.use ?_)
  refine v_ifz_ne (tgt := 17) dX10_feed_7 (by decide) rfl (fun c7 => ?_) (fun c7 => ?_)
  · refine v_aload_0 dX10_feed_17 rfl ?_
    refine v_getP fl_10_19 (by assumption) (by assumption) rfl (zle rfl) rfl dX10_feed_18 rfl ?_
    refine v_getN fl_10_111 d1 rfl (zle rfl) rfl dX10_feed_21 rfl ?_
    refine v_top d4 ?_
    refine v_iload_3 dX10_feed_24 rfl ?_
    refine v_iadd dX10_feed_25 rfl ?_
    refine v_sipush (v := 200) dX10_feed_26 rfl rfl ?_
    refine v_icmp_le (tgt := 39) dX10_feed_29 (by decide) rfl (fun c29 => ?_) (fun c29 => ?_)
    · refine v_aload_0 dX10_feed_39 rfl ?_
      refine v_getP fl_10_19 (by assumption) (by assumption) rfl (zle rfl) rfl dX10_feed_40 rfl ?_
      obtain ⟨k, hk8, rfl⟩ := hn c7
      have hs : t + k ≤ 200 := ht k hk8 rfl c29
      have ek : tn (nI k) = k := tn_nI (by omega)
      have et : tn (f 17) = t := by rw [ht0, tn_nI (by omega)]
      refine v_lload_1 dX10_feed_43 rfl ?_
      refine v_iload_3 dX10_feed_44 rfl ?_
      refine v_callV (ci := 6) (F := TX6) (c_X6_append (b 0 1) (b 0 7) t k w d1 d2 d3 (d4.trans ht0) hk8 hs) yy_X6_append im_X6_append se_X6_append lk_10_114 d1 (zle rfl) rfl (zle rfl) (zle rfl) (zle rfl) (zle rfl) rfl rfl (zle rfl) dX10_feed_45 rfl (zv.use ?_)
      refine v_aload_0 dX10_feed_48 rfl ?_
      refine v_getP fl_10_19 (by assumption) (by assumption) rfl (zle rfl) rfl dX10_feed_49 rfl ?_
      refine v_getN fl_10_111 d1 rfl (zle rfl) rfl dX10_feed_52 rfl ?_
      refine v_top u3_self ?_
      have eo : ac_feed f r w (nI k) = (nI (t + k), u1 f 17 (nI (t + k)), ur r 16 t k (wby w)) := by
        refine ((zi_t c7).trans (zi_t c29)).trans ?_
        rw [et, ek, ht0, nI_add]
      have hq := cQ_go (R := R) b g eo rfl (hC.feed ht0 hs w) ((Cfr.ub Cfr.rf hMb).n (by decide) _ _ _)
      exact v_ireturn rfl (hq) (zle rfl) (zle rfl) dX10_feed_55
    · refine v_aload_0 dX10_feed_32 rfl ?_
      refine v_ldc dX10_feed_33 kc_10_73 rfl ?_
      refine v_callV (ci := 10) (F := TX10) (c_X10_finding _ _ (by assumption)) yy_X10_finding im_X10_finding se_X10_finding lk_10_66 (by assumption) (zle rfl) rfl (zle rfl) (zle rfl) (zle rfl) (zle rfl) rfl rfl (zle rfl) dX10_feed_35 rfl (zp.use ?_)
      exact v_ireturn rfl (cQ_fd hC ((zi_t c7).trans (zi_f c29))) (zle rfl) (zle rfl) dX10_feed_38
  · refine v_aload_0 dX10_feed_10 rfl ?_
    refine v_ldc dX10_feed_11 kc_10_65 rfl ?_
    refine v_callV (ci := 10) (F := TX10) (c_X10_finding _ _ (by assumption)) yy_X10_finding im_X10_finding se_X10_finding lk_10_66 (by assumption) (zle rfl) rfl (zle rfl) (zle rfl) (zle rfl) (zle rfl) rfl rfl (zle rfl) dX10_feed_13 rfl (zp.use ?_)
    exact v_ireturn rfl (cQ_fd hC (zi_f c7)) (zle rfl) (zle rfl) dX10_feed_16
