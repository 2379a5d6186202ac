/-- what walkers and editions keep -/
def WkI (f : zf) (r : zg) : Prop := Nt (f 18) 7 ∧ Nt (f 9) 5 ∧ (∀ e, e < tn (f 9) → Nt (r 10 e) 13 ∧ ∀ p, p < tn (r 10 e) → Nt (r 11 (12 * e + p)) 4) ∧ Nt (f 27) 7 ∧ ∀ n, n < tn (f 18) → Nt (r 22 n) (tn (f 9))
/-- a walker's edition's pieces -/
abbrev npw (r : zg) (w : Nat) : Nat := tn (r 10 (tn (r 22 w)))
noncomputable def ac_about (f : zf) (r : zg) (w k : Int32) : zO := zi (0 ≤ w ∧ w ≤ f 18 - 1) (zi (k = 0) (r 19 (tn w), f, r) (zi (k = 1) (r 20 (tn w), f, r) (zi (k = 2) (r 21 (tn w), f, r) (zi (k = 3) (r 22 (tn w), f, r) (zi (k = 4) (zb (ovr r (tn (r 22 (tn w))) (r 20 (tn w)) (npw r (tn w))), f, r) (zi (k = 5) (r 24 (tn w), f, r) (fdg (-1000001) f r))))))) (fdg (-1000001) f r)
theorem WkI.ed {f : zf} {r : zg} (h : WkI f r) {w : Nat} (hw : w < tn (f 18)) : r 22 w = nI (tn (r 22 w)) ∧ tn (r 22 w) < tn (f 9) ∧ tn (r 22 w) < 4 ∧ r 10 (tn (r 22 w)) = nI (npw r w) ∧ npw r w ≤ 12 ∧ w < 6 := by
  obtain ⟨h1, h2, h3, h4, h5⟩ := h
  have g1 := h5 w hw
  have g2 := h2.2
  have g3 := h1.2
  have g4 := (h3 _ g1.2).1
  have g5 := g4.2
  exact ⟨g1.1, g1.2, by have := g1.2; omega, g4.1, by show tn _ ≤ 12; omega, by omega⟩
theorem c_X11_about {E : zE} {T : zT} {N : zN} {P : zP} {I : zI} {R : zR} (m : Nat) (ad : Nat → Nat) (w k : Int32) (hM : MOK T P m ad) (hI : WkI (mf N m) (mr I ad)) : zC E yX11_about cX11_about 3 (some .int) (zr0 2 45) [.ref m, .int w, .int k] T N P I R (mQ m ad T N P I R (ac_about (mf N m) (mr I ad) w k)) := by
  refine zC.intro (ls := [some (.ref m), some (.int w), some (.int k)]) pl_RX11 (zle rfl) 0 rfl (fun K => ?_)
  refine v_aload_0 dX11_about_0 rfl ?_
  refine v_iload_1 dX11_about_1 rfl ?_
  refine v_callV (ci := 11) (F := TX11) (c_X11_isWalker _ _ (MOK.t hM)) yy_X11_isWalker im_X11_isWalker se_X11_isWalker lk_11_252 (MOK.t hM) (zle rfl) rfl (zle rfl) (zle rfl) (zle rfl) (zle rfl) rfl rfl (zle rfl) dX11_about_2 rfl (zp.use ?_)
  refine v_ifz_ne (tgt := 15) dX11_about_5 (by decide) rfl (fun c5 => ?_) (fun c5 => ?_)
  · obtain ⟨w, hw, rfl⟩ := fnd (c := N 11 18 m) hI.1 (by decide) c5
    have hw0 := c5
    obtain ⟨i1, i2, i3, i4, i5, i6⟩ := hI.ed hw
    have tw : tn (nI w) = w := tn_nI (by omega)
    refine v_iload_2 dX11_about_15 rfl ?_
    by_cases s16_0 : k = 0
    · refine v_tableIn (off := 40) (n := 56) dX11_about_16 (by rw [s16_0]; decide) (by rw [s16_0]; decide) (by rw [s16_0]; rfl) (by decide) ?_
      refine v_aload_0 dX11_about_56 rfl ?_
      refine v_getP fl_11_53 (mp_19 hM) (MOK.t hM) rfl (zle rfl) rfl dX11_about_57 rfl ?_
      refine v_iload_1 dX11_about_60 rfl ?_
      refine v_iald (j := w) (ma_19 hM) rfl (by omega) (zle rfl) dX11_about_61 rfl ?_
      exact v_ireturn rfl (mQ_go hM ((zi_t hw0).trans (zi_t s16_0)) (by rw [tw]; rfl) rfl rfl Mfr.rf) (zle rfl) (zle rfl) dX11_about_62
    by_cases s16_1 : k = 1
    · refine v_tableIn (off := 47) (n := 63) dX11_about_16 (by rw [s16_1]; decide) (by rw [s16_1]; decide) (by rw [s16_1]; rfl) (by decide) ?_
      refine v_aload_0 dX11_about_63 rfl ?_
      refine v_getP fl_11_56 (mp_20 hM) (MOK.t hM) rfl (zle rfl) rfl dX11_about_64 rfl ?_
      refine v_iload_1 dX11_about_67 rfl ?_
      refine v_iald (j := w) (ma_20 hM) rfl (by omega) (zle rfl) dX11_about_68 rfl ?_
      exact v_ireturn rfl (mQ_go hM (((zi_t hw0).trans (zi_f s16_0)).trans (zi_t s16_1)) (by rw [tw]; rfl) rfl rfl Mfr.rf) (zle rfl) (zle rfl) dX11_about_69
    by_cases s16_2 : k = 2
    · refine v_tableIn (off := 54) (n := 70) dX11_about_16 (by rw [s16_2]; decide) (by rw [s16_2]; decide) (by rw [s16_2]; rfl) (by decide) ?_
      refine v_aload_0 dX11_about_70 rfl ?_
      refine v_getP fl_11_59 (mp_21 hM) (MOK.t hM) rfl (zle rfl) rfl dX11_about_71 rfl ?_
      refine v_iload_1 dX11_about_74 rfl ?_
      refine v_iald (j := w) (ma_21 hM) rfl (by omega) (zle rfl) dX11_about_75 rfl ?_
      exact v_ireturn rfl (mQ_go hM ((((zi_t hw0).trans (zi_f s16_0)).trans (zi_f s16_1)).trans (zi_t s16_2)) (by rw [tw]; rfl) rfl rfl Mfr.rf) (zle rfl) (zle rfl) dX11_about_76
    by_cases s16_3 : k = 3
    · refine v_tableIn (off := 61) (n := 77) dX11_about_16 (by rw [s16_3]; decide) (by rw [s16_3]; decide) (by rw [s16_3]; rfl) (by decide) ?_
      refine v_aload_0 dX11_about_77 rfl ?_
      refine v_getP fl_11_62 (mp_22 hM) (MOK.t hM) rfl (zle rfl) rfl dX11_about_78 rfl ?_
      refine v_iload_1 dX11_about_81 rfl ?_
      refine v_iald (j := w) (ma_22 hM) rfl (by omega) (zle rfl) dX11_about_82 rfl ?_
      exact v_ireturn rfl (mQ_go hM (((((zi_t hw0).trans (zi_f s16_0)).trans (zi_f s16_1)).trans (zi_f s16_2)).trans (zi_t s16_3)) (by rw [tw]; rfl) rfl rfl Mfr.rf) (zle rfl) (zle rfl) dX11_about_83
    by_cases s16_4 : k = 4
    · refine v_tableIn (off := 68) (n := 84) dX11_about_16 (by rw [s16_4]; decide) (by rw [s16_4]; decide) (by rw [s16_4]; rfl) (by decide) ?_
      refine v_aload_0 dX11_about_84 rfl ?_
      refine v_iload_1 dX11_about_85 rfl ?_
      refine v_callV (ci := 11) (F := TX11) (c_X11_isDone m ad (tn (I (ad 22) w)) (npw (mr I ad) w) w hM (by omega) i1 i3 i4 i5) yy_X11_isDone im_X11_isDone se_X11_isDone lk_11_255 (MOK.t hM) (zle rfl) rfl (zle rfl) (zle rfl) (zle rfl) (zle rfl) rfl rfl (zle rfl) dX11_about_86 rfl (zp.use ?_)
      refine v_ifz_eq (tgt := 96) dX11_about_89 (by decide) rfl (fun c89 => ?_) (fun c89 => ?_)
      · refine v_iconst (v := 0) dX11_about_96 rfl rfl ?_
        exact v_ireturn rfl (mQ_go hM ((((((zi_t hw0).trans (zi_f s16_0)).trans (zi_f s16_1)).trans (zi_f s16_2)).trans (zi_f s16_3)).trans (zi_t s16_4)) (by rw [tw]; exact (zb_f c89).symm) rfl rfl Mfr.rf) (zle rfl) (zle rfl) dX11_about_97
      · refine v_iconst (v := 1) dX11_about_92 rfl rfl ?_
        refine v_goto (n := 97) dX11_about_93 (by decide) ?_
        exact v_ireturn rfl (mQ_go hM ((((((zi_t hw0).trans (zi_f s16_0)).trans (zi_f s16_1)).trans (zi_f s16_2)).trans (zi_f s16_3)).trans (zi_t s16_4)) (by rw [tw]; exact (zb_t c89).symm) rfl rfl Mfr.rf) (zle rfl) (zle rfl) dX11_about_97
    by_cases s16_5 : k = 5
    · refine v_tableIn (off := 82) (n := 98) dX11_about_16 (by rw [s16_5]; decide) (by rw [s16_5]; decide) (by rw [s16_5]; rfl) (by decide) ?_
      refine v_aload_0 dX11_about_98 rfl ?_
      refine v_getP fl_11_68 (mp_24 hM) (MOK.t hM) rfl (zle rfl) rfl dX11_about_99 rfl ?_
      refine v_iload_1 dX11_about_102 rfl ?_
      refine v_iald (j := w) (ma_24 hM) rfl (by omega) (zle rfl) dX11_about_103 rfl ?_
      exact v_ireturn rfl (mQ_go hM (((((((zi_t hw0).trans (zi_f s16_0)).trans (zi_f s16_1)).trans (zi_f s16_2)).trans (zi_f s16_3)).trans (zi_f s16_4)).trans (zi_t s16_5)) (by rw [tw]; rfl) rfl rfl Mfr.rf) (zle rfl) (zle rfl) dX11_about_104
    refine v_tableOut (n := 105) dX11_about_16 (tb_out (k := 5) (fun j hj => by rcases (show j = 0 ∨ j = 1 ∨ j = 2 ∨ j = 3 ∨ j = 4 ∨ j = 5 by omega) with rfl | rfl | rfl | rfl | rfl | rfl <;> first | exact s16_0 | exact s16_1 | exact s16_2 | exact s16_3 | exact s16_4 | exact s16_5)) (by decide) ?_
    refine v_aload_0 dX11_about_105 rfl ?_
    refine v_ldc dX11_about_106 kc_11_131 rfl ?_
    refine v_callV (ci := 11) (F := TX11) (c_X11_finding _ _ (MOK.t hM)) yy_X11_finding im_X11_finding se_X11_finding lk_11_132 (MOK.t hM) (zle rfl) rfl (zle rfl) (zle rfl) (zle rfl) (zle rfl) rfl rfl (zle rfl) dX11_about_108 rfl (zp.use ?_)
    exact v_ireturn rfl (mQ_fd hM (((((((zi_t hw0).trans (zi_f s16_0)).trans (zi_f s16_1)).trans (zi_f s16_2)).trans (zi_f s16_3)).trans (zi_f s16_4)).trans (zi_f s16_5))) (zle rfl) (zle rfl) dX11_about_111
  · refine v_aload_0 dX11_about_8 rfl ?_
    refine v_ldc dX11_about_9 kc_11_131 rfl ?_
    refine v_callV (ci := 11) (F := TX11) (c_X11_finding _ _ (MOK.t hM)) yy_X11_finding im_X11_finding se_X11_finding lk_11_132 (MOK.t hM) (zle rfl) rfl (zle rfl) (zle rfl) (zle rfl) (zle rfl) rfl rfl (zle rfl) dX11_about_11 rfl (zp.use ?_)
    exact v_ireturn rfl (mQ_fd hM (zi_f c5)) (zle rfl) (zle rfl) dX11_about_14
theorem c_X10_about {E : zE} {T : zT} {N : zN} {P : zP} {I : zI} {R : zR} (x : Nat) (Mn : Nat → Prop) (b : Nat → Nat → Nat) (g : Nat) (f : zf) (r : zg) (w k : Int32) (hC : CR T N P I R x Mn b g f r) (hI : WkI f r) : zC E yX10_about cX10_about 4 (some .int) (zr0 2 43) [.ref x, .int w, .int k] T N P I R (cQ x Mn g T N P I R (ac_about f r w k)) := by
  refine zC.intro (ls := [some (.ref x), some (.int w), some (.int k), none]) pl_RX10 (zle rfl) 1 rfl (fun K => ?_)
  obtain ⟨hX, hT, hA, hP, hE, hW, hS, hQ⟩ := id hC
  obtain ⟨x1, x2, x3, x4, x5, x6, x7, x8, x9, x10, x11, x12, x13, x14⟩ := id hX
  obtain ⟨w1, w2⟩ := id hW
  refine v_aload_0 dX10_about_0 rfl ?_
  refine v_iload_1 dX10_about_1 rfl ?_
  by_cases hw0 : 0 ≤ w ∧ w ≤ f 18 - 1
  · obtain ⟨w, hw, rfl⟩ := fnd hI.1 (by decide) hw0
    obtain ⟨i1, i2, i3, i4, i5, i6⟩ := hI.ed hw
    have tw : tn (nI w) = w := tn_nI (by omega)
    obtain ⟨g1, g2, g3, g4, g5, g6, g7, g8, g9, g10, g11⟩ := w1 w hw
    obtain ⟨q1, q2⟩ := hE _ i2
    refine v_callV (ci := 10) (F := TX10) (c_X10_findWalker x (b 0 3) w (b 5 w) x1 x5 x9 (by rw [x12]; exact hw0) (by omega) g1) yy_X10_findWalker im_X10_findWalker se_X10_findWalker lk_10_193 (by assumption) (zle rfl) rfl (zle rfl) (zle rfl) (zle rfl) (zle rfl) rfl rfl (zle rfl) dX10_about_2 rfl (za.use ?_)
    refine v_astore_3 dX10_about_5 rfl (zle rfl) rfl ?_
    refine v_aload_3 dX10_about_6 rfl ?_
    refine v_ifnonnull (n := 17) dX10_about_7 (by decide) ?_
    refine v_iload_2 dX10_about_17 rfl ?_
    by_cases s18_0 : k = 0
    · refine v_tableIn (off := 38) (n := 56) dX10_about_18 (by rw [s18_0]; decide) (by rw [s18_0]; decide) (by rw [s18_0]; rfl) (by decide) ?_
      refine v_aload_3 dX10_about_56 rfl ?_
      refine v_getN fl_10_201 g2 rfl (zle rfl) rfl dX10_about_57 rfl ?_
      exact v_ireturn rfl (cQ_rd hC ((zi_t hw0).trans (zi_t s18_0)) (by rw [tw]; exact g6)) (zle rfl) (zle rfl) dX10_about_60
    by_cases s18_1 : k = 1
    · refine v_tableIn (off := 43) (n := 61) dX10_about_18 (by rw [s18_1]; decide) (by rw [s18_1]; decide) (by rw [s18_1]; rfl) (by decide) ?_
      refine v_aload_3 dX10_about_61 rfl ?_
      refine v_getN fl_10_223 g2 rfl (zle rfl) rfl dX10_about_62 rfl ?_
      exact v_ireturn rfl (cQ_rd hC (((zi_t hw0).trans (zi_f s18_0)).trans (zi_t s18_1)) (by rw [tw]; exact g7)) (zle rfl) (zle rfl) dX10_about_65
    by_cases s18_2 : k = 2
    · refine v_tableIn (off := 48) (n := 66) dX10_about_18 (by rw [s18_2]; decide) (by rw [s18_2]; decide) (by rw [s18_2]; rfl) (by decide) ?_
      refine v_aload_3 dX10_about_66 rfl ?_
      refine v_getN fl_10_216 g2 rfl (zle rfl) rfl dX10_about_67 rfl ?_
      exact v_ireturn rfl (cQ_rd hC ((((zi_t hw0).trans (zi_f s18_0)).trans (zi_f s18_1)).trans (zi_t s18_2)) (by rw [tw]; exact g8)) (zle rfl) (zle rfl) dX10_about_70
    by_cases s18_3 : k = 3
    · refine v_tableIn (off := 53) (n := 71) dX10_about_18 (by rw [s18_3]; decide) (by rw [s18_3]; decide) (by rw [s18_3]; rfl) (by decide) ?_
      refine v_aload_3 dX10_about_71 rfl ?_
      refine v_getN fl_10_226 g2 rfl (zle rfl) rfl dX10_about_72 rfl ?_
      exact v_ireturn rfl (cQ_rd hC (((((zi_t hw0).trans (zi_f s18_0)).trans (zi_f s18_1)).trans (zi_f s18_2)).trans (zi_t s18_3)) (by rw [tw]; exact g4)) (zle rfl) (zle rfl) dX10_about_75
    by_cases s18_4 : k = 4
    · refine v_tableIn (off := 58) (n := 76) dX10_about_18 (by rw [s18_4]; decide) (by rw [s18_4]; decide) (by rw [s18_4]; rfl) (by decide) ?_
      refine v_aload_3 dX10_about_76 rfl ?_
      refine v_callV (ci := 8) (F := TX8) (c_X8_isOver (b 5 w) (b 3 (tn (r 22 w))) g2 g3 q2.1) yy_X8_isOver im_X8_isOver se_X8_isOver lk_10_197 g2 (zle rfl) rfl (zle rfl) (zle rfl) (zle rfl) (zle rfl) rfl rfl (zle rfl) dX10_about_77 rfl (zp.use ?_)
      refine v_top (zb_iff (q := ovr r (tn (r 22 w)) (r 20 w) (npw r w)) (by rw [g7]; exact ends_ovr q2 i5 (r 20 w))) ?_
      refine v_ifz_eq (tgt := 87) dX10_about_80 (by decide) rfl (fun c80 => ?_) (fun c80 => ?_)
      · refine v_iconst (v := 0) dX10_about_87 rfl rfl ?_
        exact v_ireturn rfl (cQ_rd hC ((((((zi_t hw0).trans (zi_f s18_0)).trans (zi_f s18_1)).trans (zi_f s18_2)).trans (zi_f s18_3)).trans (zi_t s18_4)) (by rw [tw]; exact (zb_f c80).symm)) (zle rfl) (zle rfl) dX10_about_88
      · refine v_iconst (v := 1) dX10_about_83 rfl rfl ?_
        refine v_goto (n := 88) dX10_about_84 (by decide) ?_
        exact v_ireturn rfl (cQ_rd hC ((((((zi_t hw0).trans (zi_f s18_0)).trans (zi_f s18_1)).trans (zi_f s18_2)).trans (zi_f s18_3)).trans (zi_t s18_4)) (by rw [tw]; exact (zb_t c80).symm)) (zle rfl) (zle rfl) dX10_about_88
    by_cases s18_5 : k = 5
    · refine v_tableIn (off := 71) (n := 89) dX10_about_18 (by rw [s18_5]; decide) (by rw [s18_5]; decide) (by rw [s18_5]; rfl) (by decide) ?_
      refine v_aload_3 dX10_about_89 rfl ?_
      refine v_getN fl_10_229 g2 rfl (zle rfl) rfl dX10_about_90 rfl ?_
      exact v_ireturn rfl (cQ_rd hC (((((((zi_t hw0).trans (zi_f s18_0)).trans (zi_f s18_1)).trans (zi_f s18_2)).trans (zi_f s18_3)).trans (zi_f s18_4)).trans (zi_t s18_5)) (by rw [tw]; exact g9)) (zle rfl) (zle rfl) dX10_about_93
    refine v_tableOut (n := 94) dX10_about_18 (tb_out (k := 5) (fun j hj => by rcases (show j = 0 ∨ j = 1 ∨ j = 2 ∨ j = 3 ∨ j = 4 ∨ j = 5 by omega) with rfl | rfl | rfl | rfl | rfl | rfl <;> first | exact s18_0 | exact s18_1 | exact s18_2 | exact s18_3 | exact s18_4 | exact s18_5)) (by decide) ?_
    refine v_aload_0 dX10_about_94 rfl ?_
    refine v_ldc dX10_about_95 kc_10_65 rfl ?_
    refine v_callV (ci := 10) (F := TX10) (c_X10_finding _ _ (by assumption)) yy_X10_finding im_X10_finding se_X10_finding lk_10_66 (by assumption) (zle rfl) rfl (zle rfl) (zle rfl) (zle rfl) (zle rfl) rfl rfl (zle rfl) dX10_about_97 rfl (zp.use ?_)
    exact v_ireturn rfl (cQ_fd hC (((((((zi_t hw0).trans (zi_f s18_0)).trans (zi_f s18_1)).trans (zi_f s18_2)).trans (zi_f s18_3)).trans (zi_f s18_4)).trans (zi_f s18_5))) (zle rfl) (zle rfl) dX10_about_100
  · refine v_callV (ci := 10) (F := TX10) (c_X10_findWalker_n x w x1 (by rw [x12]; exact hw0)) yy_X10_findWalker im_X10_findWalker se_X10_findWalker lk_10_193 (by assumption) (zle rfl) rfl (zle rfl) (zle rfl) (zle rfl) (zle rfl) rfl rfl (zle rfl) dX10_about_2 rfl (za.use ?_)
    refine v_astoreN_3 dX10_about_5 rfl (zle rfl) rfl ?_
    refine v_aloadN_3 dX10_about_6 rfl ?_
    refine v_ifnonnullN dX10_about_7 rfl ?_
    refine v_aload_0 dX10_about_10 rfl ?_
    refine v_ldc dX10_about_11 kc_10_65 rfl ?_
    refine v_callV (ci := 10) (F := TX10) (c_X10_finding _ _ (by assumption)) yy_X10_finding im_X10_finding se_X10_finding lk_10_66 (by assumption) (zle rfl) rfl (zle rfl) (zle rfl) (zle rfl) (zle rfl) rfl rfl (zle rfl) dX10_about_13 rfl (zp.use ?_)
    exact v_ireturn rfl (cQ_fd hC (zi_f hw0)) (zle rfl) (zle rfl) dX10_about_16
theorem c_X8_forgetSightings {E : zE} {T : zT} {N : zN} {P : zP} {I : zI} {R : zR} (w : Nat) (hw : (T w).1 = 18) : zC E yX8_forgetSightings cX8_forgetSightings 1 none (zr0 0 0) [.ref w] T N P I R (zv T (u3 (u3 N 8 7 w (-1)) 8 8 w 0) P I R) := by
  refine zC.intro (ls := [some (.ref w)]) pl_RX8 (zle rfl) 0 rfl (fun K => ?_)
  refine v_aload_0 dX8_forgetSightings_0 rfl ?_
  refine v_iconst (v := -1) dX8_forgetSightings_1 rfl rfl ?_
  refine v_putN fw_8_24 (by assumption) rfl (zle rfl) rfl (fun h => by cases h) rfl rfl dX8_forgetSightings_2 rfl ?_
  refine v_aload_0 dX8_forgetSightings_5 rfl ?_
  refine v_iconst (v := 0) dX8_forgetSightings_6 rfl rfl ?_
  refine v_putN fw_8_27 (by assumption) rfl (zle rfl) rfl (fun h => by cases h) rfl rfl dX8_forgetSightings_7 rfl ?_
  exact v_return rfl (zv.rf) (zle rfl) (zle rfl) dX8_forgetSightings_10
theorem c_X8_arrive {E : zE} {T : zT} {N : zN} {P : zP} {I : zI} {R : zR} (e ea pa d w : Nat) (pp : Nat → Nat) (r : zg) (c : Int32) (hE : REe T N P R ea pa pp r e) (hn : Nt (r 10 e) 13) (hk : ∀ p, p < tn (r 10 e) → Nt (r 11 (12 * e + p)) 4) (hd : d < 7) (hw : (T w).1 = 18) (hp : P 8 0 w = some ea) : zC E yX8_arrive cX8_arrive 3 (some .int) (zr0 3 73) [.ref w, .int c, .int (nI d)] T N P I R (zp (lsn r e (tn (r 10 e)) c d 12 (N 8 4 w, N 8 5 w, N 8 6 w, 0)).2.2.2 T (NZ (u3 (u3 (u3 N 8 3 w c) 8 7 w (-1)) 8 8 w 0) w (lsn r e (tn (r 10 e)) c d 12 (N 8 4 w, N 8 5 w, N 8 6 w, 0))) P I R) := by
  refine zC.intro (ls := [some (.ref w), some (.int c), some (.int (nI d))]) pl_RX8 (zle rfl) 0 rfl (fun K => ?_)
  refine v_aload_0 dX8_arrive_0 rfl ?_
  refine v_iload_1 dX8_arrive_1 rfl ?_
  refine v_putN fw_8_9 (by assumption) rfl (zle rfl) rfl (fun h => by cases h) rfl rfl dX8_arrive_2 rfl ?_
  refine v_aload_0 dX8_arrive_5 rfl ?_
  refine v_callV (ci := 8) (F := TX8) (c_X8_forgetSightings w hw) yy_X8_forgetSightings im_X8_forgetSightings se_X8_forgetSightings lk_8_63 hw (zle rfl) rfl (zle rfl) (zle rfl) (zle rfl) (zle rfl) rfl rfl (zle rfl) dX8_arrive_6 rfl (zv.use ?_)
  refine v_aload_0 dX8_arrive_9 rfl ?_
  refine v_iload_2 dX8_arrive_10 rfl ?_
  refine v_callV (ci := 8) (F := TX8) (c_X8_listen (N := (u3 (u3 (u3 N 8 3 w c) 8 7 w (-1)) 8 8 w 0)) e ea pa d w pp r c hE hn hk hd hw hp u3_self) yy_X8_listen im_X8_listen se_X8_listen lk_8_66 hw (zle rfl) rfl (zle rfl) (zle rfl) (zle rfl) (zle rfl) rfl rfl (zle rfl) dX8_arrive_11 rfl (zp.use ?_)
  exact v_ireturn rfl (zp.rf) (zle rfl) (zle rfl) dX8_arrive_14
theorem lsn_congr {r r' : zg} {e np d : Nat} {c : Int32} (h1 : r' 11 = r 11) (h2 : r' 12 = r 12) (h3 : r' 13 = r 13) (h4 : r' 14 = r 14) (h5 : r' 15 = r 15) : ∀ (k : Nat) (z : zl), lsn r' e np c d k z = lsn r e np c d k z := by
  have hc : ∀ s, canP r' e c s d = canP r e c s d := fun s => by
    funext p
    unfold canP
    rw [h1, h2, h4, h5]
  have ho : ∀ s, ovr r' e s np = ovr r e s np := fun s => by unfold ovr; rw [h1]
  intro k
  induction k with
  | zero => intro z; rfl
  | succ k ih =>
    intro z
    show zi (stl r' e np c d z.1) z (lsn r' e np c d k (ls1 r' e (lsf (canP r' e c z.1 d) 0 np) z)) = zi (stl r e np c d z.1) z (lsn r e np c d k (ls1 r e (lsf (canP r e c z.1 d) 0 np) z))
    rw [ih]
    unfold stl ls1
    rw [hc, ho, h3]
theorem c_X11_comes {E : zE} {T : zT} {N : zN} {P : zP} {I : zI} {R : zR} (m : Nat) (ad : Nat → Nat) (e np d w : Nat) (c : Int32) (hM : MOK T P m ad) (he0 : I (ad 22) w = nI e) (hw : w < 6) (he : e < 4) (hn : I (ad 10) e = nI np) (hn2 : np ≤ 12) (hd0 : N 11 27 m = nI d) (hd : d < 7) : zC E yX11_comes cX11_comes 3 (some .int) (zr0 3 77) [.ref m, .int (nI w), .int c] T N P I R (zp (lsn (mr I ad) e np c d 12 (I (ad 20) w, I (ad 21) w, I (ad 24) w, 0)).2.2.2 T N P (IZ (u2 (u2 I (ad 19) w c) (ad 26) w 0) ad w (lsn (mr I ad) e np c d 12 (I (ad 20) w, I (ad 21) w, I (ad 24) w, 0))) R) := by
  refine zC.intro (ls := [some (.ref m), some (.int (nI w)), some (.int c)]) pl_RX11 (zle rfl) 0 rfl (fun K => ?_)
  refine v_aload_0 dX11_comes_0 rfl ?_
  refine v_getP fl_11_53 (mp_19 hM) (MOK.t hM) rfl (zle rfl) rfl dX11_comes_1 rfl ?_
  refine v_iload_1 dX11_comes_4 rfl ?_
  refine v_iload_2 dX11_comes_5 rfl ?_
  refine v_iast (j := w) (ma_19 hM) rfl (by omega) (zle rfl) dX11_comes_6 rfl ?_
  refine v_aload_0 dX11_comes_7 rfl ?_
  refine v_getP fl_11_74 (mp_26 hM) (MOK.t hM) rfl (zle rfl) rfl dX11_comes_8 rfl ?_
  refine v_iload_1 dX11_comes_11 rfl ?_
  refine v_iconst (v := 0) dX11_comes_12 rfl rfl ?_
  refine v_iast (j := w) (ma_26 hM) rfl (by omega) (zle rfl) dX11_comes_13 rfl ?_
  refine v_aload_0 dX11_comes_14 rfl ?_
  refine v_iload_1 dX11_comes_15 rfl ?_
  have ne := @MOK.ne T P m ad hM
  have hl : lsn (mr (u2 (u2 I (ad 19) w c) (ad 26) w 0) ad) e np c d 12 ((u2 (u2 I (ad 19) w c) (ad 26) w 0) (ad 20) w, (u2 (u2 I (ad 19) w c) (ad 26) w 0) (ad 21) w, (u2 (u2 I (ad 19) w c) (ad 26) w 0) (ad 24) w, 0) = (lsn (mr I ad) e np c d 12 (I (ad 20) w, I (ad 21) w, I (ad 24) w, 0)) := by
    rw [u2_na (ne (j := 20) (k := 26) (by decide) (by decide) rfl rfl (by decide)), u2_na (ne (j := 20) (k := 19) (by decide) (by decide) rfl rfl (by decide)), u2_na (ne (j := 21) (k := 26) (by decide) (by decide) rfl rfl (by decide)), u2_na (ne (j := 21) (k := 19) (by decide) (by decide) rfl rfl (by decide)), u2_na (ne (j := 24) (k := 26) (by decide) (by decide) rfl rfl (by decide)), u2_na (ne (j := 24) (k := 19) (by decide) (by decide) rfl rfl (by decide)), mr_set hM (by decide) rfl, mr_set hM (by decide) rfl]
    exact lsn_congr rfl rfl rfl rfl rfl 12 _
  refine v_callV (ci := 11) (F := TX11) (c_X11_listens (I := (u2 (u2 I (ad 19) w c) (ad 26) w 0)) m ad e np d w c hM (by rw [u2_na (ne (by decide) (by decide) rfl rfl (by decide)), u2_na (ne (by decide) (by decide) rfl rfl (by decide))]; exact he0) hw he (by rw [u2_na (ne (by decide) (by decide) rfl rfl (by decide)), u2_na (ne (by decide) (by decide) rfl rfl (by decide))]; exact hn) hn2 hd0 hd (by rw [u2_na (ne (by decide) (by decide) rfl rfl (by decide)), u2_self])) yy_X11_listens im_X11_listens se_X11_listens lk_11_249 (MOK.t hM) (zle rfl) rfl (zle rfl) (zle rfl) (zle rfl) (zle rfl) rfl rfl (zle rfl) dX11_comes_16 rfl (zp.use ?_)
  exact v_ireturn rfl (by rw [hl]; exact zp.rf) (zle rfl) (zle rfl) dX11_comes_19
