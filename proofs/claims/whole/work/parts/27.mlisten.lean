/-- the reference's rows with what a walker was told -/
def IZ (I : zI) (ad : Nat → Nat) (w : Nat) (z : zl) : zI := u2 (u2 (u2 I (ad 20) w z.1) (ad 21) w z.2.1) (ad 24) w z.2.2.1
theorem IZ20 {T : zT} {P : zP} {I : zI} {m w : Nat} {ad : Nat → Nat} {z : zl} (hM : MOK T P m ad) : IZ I ad w z (ad 20) w = z.1 := by
  unfold IZ
  rw [u2_na (hM.ne (by decide) (by decide) rfl rfl (by decide)), u2_na (hM.ne (by decide) (by decide) rfl rfl (by decide)), u2_self]
theorem IZ21 {T : zT} {P : zP} {I : zI} {m w : Nat} {ad : Nat → Nat} {z : zl} (hM : MOK T P m ad) : IZ I ad w z (ad 21) w = z.2.1 := by
  unfold IZ
  rw [u2_na (hM.ne (by decide) (by decide) rfl rfl (by decide)), u2_self]
theorem IZoff {T : zT} {P : zP} {I : zI} {m w k : Nat} {ad : Nat → Nat} {z : zl} (hM : MOK T P m ad) (hk : k < 44) (hz : zr 11 k = true) (h0 : k ≠ 20) (h1 : k ≠ 21) (h4 : k ≠ 24) : IZ I ad w z (ad k) = I (ad k) := by
  unfold IZ
  rw [u2_off _ _ (hM.ne hk (by decide) hz rfl h4), u2_off _ _ (hM.ne hk (by decide) hz rfl h1), u2_off _ _ (hM.ne hk (by decide) hz rfl h0)]
theorem IZ_s {I : zI} {ad : Nat → Nat} {w : Nat} {z : zl} {a b c n : Int32} : u2 (u2 (u2 (IZ I ad w z) (ad 20) w a) (ad 21) w b) (ad 24) w c = IZ I ad w (a, b, c, n) := by
  funext i j
  unfold IZ u2
  by_cases h4 : i = ad 24 <;> by_cases h1 : i = ad 21 <;> by_cases h0 : i = ad 20 <;> by_cases hj : j = w <;> simp_all
theorem IZ_0 {I : zI} {ad : Nat → Nat} {w : Nat} {n : Int32} : IZ I ad w (I (ad 20) w, I (ad 21) w, I (ad 24) w, n) = I := by
  funext i j
  unfold IZ u2
  by_cases h4 : i = ad 24 <;> by_cases h1 : i = ad 21 <;> by_cases h0 : i = ad 20 <;> by_cases hj : j = w <;> simp_all
theorem mrIZ {T : zT} {P : zP} {I : zI} {m w : Nat} {ad : Nat → Nat} {z : zl} (hM : MOK T P m ad) : mr (IZ I ad w z) ad = u2 (u2 (u2 (mr I ad) 20 w z.1) 21 w z.2.1) 24 w z.2.2.1 := by
  unfold IZ
  rw [mr_set hM (by decide) rfl, mr_set hM (by decide) rfl, mr_set hM (by decide) rfl]
theorem Mfr.iz {ad : Nat → Nat} {T : zT} {N : zN} {P : zP} {I : zI} {R : zR} {T1 : zT} {N1 : zN} {P1 : zP} {I1 : zI} {R1 : zR} (h : Mfr ad T N P I R T1 N1 P1 I1 R1) (w : Nat) (z : zl) : Mfr ad T N P I R T1 N1 P1 (IZ I1 ad w z) R1 :=
  ((h.i (k := 20) (by decide) rfl _ _).i (k := 21) (by decide) rfl _ _).i (k := 24) (by decide) rfl _ _
theorem lp_X11_listens {E : zE} {T : zT} {N : zN} {P : zP} {I : zI} {R : zR} {m : Nat} {ad : Nat → Nat} {e np d w : Nat} {c : Int32} {K : zK E yX11_listens cX11_listens 6 (some .int) (zr0 2 52)} (hM : MOK T P m ad) (hw : w < 6) (he : e < 4) (hn : I (ad 10) e = nI np) (hn2 : np ≤ 12) (hd0 : N 11 27 m = nI d) (hd : d < 7) (hc : I (ad 19) w = c) :
    ∀ k (z : zl) (o5 : Option Value), mu z.1 np ≤ k → V K (zQf K (zp (lsn (mr I ad) e np c d k z).2.2.2 T N P (IZ I ad w (lsn (mr I ad) e np c d k z)) R)) T N P (IZ I ad w z) R 0 0 12 [some (.ref m), some (.int (nI w)), some (.int z.2.2.2), some (.int (nI e)), some (.int 1), o5] [] := by
  intro k
  induction k with
  | zero =>
    intro z o5 hmu
    have hnz : IZ I ad w z (ad 10) e = nI np := by rw [IZoff hM (by decide) rfl (by decide) (by decide) (by decide)]; exact hn
    refine v_iload_4 dX11_listens_12 rfl ?_
    refine v_if_eq_f (tgt := 123) (by decide) dX11_listens_14 (by decide) rfl ?_
    refine v_aload_0 dX11_listens_17 rfl ?_
    refine v_iload_3 dX11_listens_18 rfl ?_
    refine v_aload_0 dX11_listens_19 rfl ?_
    refine v_getP fl_11_56 (mp_20 hM) (MOK.t hM) rfl (zle rfl) rfl dX11_listens_20 rfl ?_
    refine v_iload_1 dX11_listens_23 rfl ?_
    refine v_iald (j := w) (ma_20 hM) rfl (by omega) (zle rfl) dX11_listens_24 rfl ?_
    refine v_top (IZ20 hM) ?_
    refine v_callV (ci := 11) (F := TX11) (c_X11_isOver m ad e np z.1 hM hnz hn2 he) yy_X11_isOver im_X11_isOver se_X11_isOver lk_11_203 (MOK.t hM) (zle rfl) rfl (zle rfl) (zle rfl) (zle rfl) (zle rfl) rfl rfl (zle rfl) dX11_listens_25 rfl (zp.use ?_)
    refine v_top (zb_iff (q := ovr (mr I ad) e z.1 np) (by rw [mrIZ hM]; exact Iff.rfl)) ?_
    refine v_ifz_eq (tgt := 35) dX11_listens_28 (by decide) rfl (fun c28 => ?_) (fun c28 => ?_)
    · refine v_aload_0 dX11_listens_35 rfl ?_
      refine v_iload_3 dX11_listens_36 rfl ?_
      refine v_aload_0 dX11_listens_37 rfl ?_
      refine v_getP fl_11_53 (mp_19 hM) (MOK.t hM) rfl (zle rfl) rfl dX11_listens_38 rfl ?_
      refine v_iload_1 dX11_listens_41 rfl ?_
      refine v_iald (j := w) (ma_19 hM) rfl (by omega) (zle rfl) dX11_listens_42 rfl ?_
      refine v_top (show IZ I ad w z (ad 19) w = c by rw [IZoff hM (by decide) rfl (by decide) (by decide) (by decide)]; exact hc) ?_
      refine v_aload_0 dX11_listens_43 rfl ?_
      refine v_getP fl_11_56 (mp_20 hM) (MOK.t hM) rfl (zle rfl) rfl dX11_listens_44 rfl ?_
      refine v_iload_1 dX11_listens_47 rfl ?_
      refine v_iald (j := w) (ma_20 hM) rfl (by omega) (zle rfl) dX11_listens_48 rfl ?_
      refine v_top (IZ20 hM) ?_
      refine v_aload_0 dX11_listens_49 rfl ?_
      refine v_getN fl_11_245 (MOK.t hM) rfl (zle rfl) rfl dX11_listens_50 rfl ?_
      refine v_top hd0 ?_
      refine v_callV (ci := 11) (F := TX11) (c_X11_nextPiece m ad e np d c z.1 hM hnz hn2 he hd) yy_X11_nextPiece im_X11_nextPiece se_X11_nextPiece lk_11_206 (MOK.t hM) (zle rfl) rfl (zle rfl) (zle rfl) (zle rfl) (zle rfl) rfl rfl (zle rfl) dX11_listens_53 rfl (zp.use ?_)
      refine v_top (show nxv (canP (mr (IZ I ad w z) ad) e c z.1 d) 0 np = nxv (canP (mr I ad) e c z.1 d) 0 np by rw [mrIZ hM]; rfl) ?_
      rcases nxv_or (canP (mr I ad) e c z.1 d) 0 np with ⟨g1, g2⟩ | ⟨p, g0, g1, g2, g3, g4⟩
      · refine v_top g1 ?_
        refine v_istore_5 dX11_listens_56 rfl (zle rfl) rfl ?_
        refine v_iload_5 dX11_listens_58 rfl ?_
        refine v_if_lt_t (n := 67) (by decide) dX11_listens_60 (by decide) ?_
        refine v_iconst (v := 0) dX11_listens_67 rfl rfl ?_
        refine v_istore_4 dX11_listens_68 rfl (zle rfl) rfl ?_
        refine v_iload_4 dX11_listens_70 rfl ?_
        refine v_if_eq_t (n := 120) (by decide) dX11_listens_72 (by decide) ?_
        refine v_goto (n := 12) dX11_listens_120 (by decide) ?_
        refine v_iload_4 dX11_listens_12 rfl ?_
        refine v_if_eq_t (n := 123) (by decide) dX11_listens_14 (by decide) ?_
        refine v_iload_2 dX11_listens_123 rfl ?_
        exact v_ireturn rfl (by
            rw [lsn_st (Or.inr g2)]
            exact zp.rf) (zle rfl) (zle rfl) dX11_listens_124
      · refine v_top g4 ?_
        refine v_istore_5 dX11_listens_56 rfl (zle rfl) rfl ?_
        refine v_iload_5 dX11_listens_58 rfl ?_
        refine v_if_lt_f (tgt := 67) (nI_pos (by omega)) dX11_listens_60 (by decide) rfl ?_
        refine v_iconst (v := 1) dX11_listens_63 rfl rfl ?_
        refine v_goto (n := 68) dX11_listens_64 (by decide) ?_
        refine v_istore_4 dX11_listens_68 rfl (zle rfl) rfl ?_
        refine v_iload_4 dX11_listens_70 rfl ?_
        refine v_if_eq_f (tgt := 120) (by decide) dX11_listens_72 (by decide) rfl ?_
        refine v_aload_0 dX11_listens_75 rfl ?_
        refine v_getP fl_11_56 (mp_20 hM) (MOK.t hM) rfl (zle rfl) rfl dX11_listens_76 rfl ?_
        refine v_iload_1 dX11_listens_79 rfl ?_
        refine v_dup2 dX11_listens_80 rfl rfl rfl ?_
        refine v_iald (j := w) (ma_20 hM) rfl (by omega) (zle rfl) dX11_listens_81 rfl ?_
        refine v_top (IZ20 hM) ?_
        refine v_iconst (v := 1) dX11_listens_82 rfl rfl ?_
        refine v_iload_5 dX11_listens_83 rfl ?_
        refine v_ishl dX11_listens_85 rfl ?_
        refine v_ior dX11_listens_86 rfl ?_
        refine v_iast (j := w) (ma_20 hM) rfl (by omega) (zle rfl) dX11_listens_87 rfl ?_
        refine v_aload_0 dX11_listens_88 rfl ?_
        refine v_getP fl_11_59 (mp_21 hM) (MOK.t hM) rfl (zle rfl) rfl dX11_listens_89 rfl ?_
        refine v_iload_1 dX11_listens_92 rfl ?_
        refine v_dup2 dX11_listens_93 rfl rfl rfl ?_
        refine v_iald (j := w) (ma_21 hM) rfl (by omega) (zle rfl) dX11_listens_94 rfl ?_
        refine v_top (show u2 (IZ I ad w z) (ad 20) w _ (ad 21) w = z.2.1 by rw [u2_na (hM.ne (by decide) (by decide) rfl rfl (by decide)), IZ21 hM]) ?_
        refine v_aload_0 dX11_listens_95 rfl ?_
        refine v_getP fl_11_41 (mp_13 hM) (MOK.t hM) rfl (zle rfl) rfl dX11_listens_96 rfl ?_
        refine v_bipush (v := 12) dX11_listens_99 rfl rfl ?_
        refine v_iload_3 dX11_listens_101 rfl ?_
        refine v_imul dX11_listens_102 rfl ?_
        refine v_iload_5 dX11_listens_103 rfl ?_
        refine v_iadd dX11_listens_105 rfl ?_
        refine v_top (i12 e p) ?_
        refine v_iald (j := 12 * e + p) (ma_13 hM) rfl (by omega) (zle rfl) dX11_listens_106 rfl ?_
        refine v_top (show u2 (IZ I ad w z) (ad 20) w _ (ad 13) (12 * e + p) = mr I ad 13 (12 * e + p) by rw [u2_na (hM.ne (by decide) (by decide) rfl rfl (by decide)), IZoff hM (by decide) rfl (by decide) (by decide) (by decide)]; rfl) ?_
        refine v_iadd dX11_listens_107 rfl ?_
        refine v_iast (j := w) (ma_21 hM) rfl (by omega) (zle rfl) dX11_listens_108 rfl ?_
        refine v_aload_0 dX11_listens_109 rfl ?_
        refine v_getP fl_11_68 (mp_24 hM) (MOK.t hM) rfl (zle rfl) rfl dX11_listens_110 rfl ?_
        refine v_iload_1 dX11_listens_113 rfl ?_
        refine v_iload_5 dX11_listens_114 rfl ?_
        refine v_iast (j := w) (ma_24 hM) rfl (by omega) (zle rfl) dX11_listens_116 rfl ?_
        rw [IZ_s (n := z.2.2.2 + 1)]
        refine v_iinc_2 (b := z.2.2.2 + 1) dX11_listens_117 rfl rfl (zle rfl) rfl ?_
        refine v_goto (n := 12) dX11_listens_120 (by decide) ?_
        exact absurd (mu_0 (by omega) p g1) g2.2.1
    · refine v_iconst (v := -1) dX11_listens_31 rfl rfl ?_
      refine v_goto (n := 56) dX11_listens_32 (by decide) ?_
      refine v_istore_5 dX11_listens_56 rfl (zle rfl) rfl ?_
      refine v_iload_5 dX11_listens_58 rfl ?_
      refine v_if_lt_t (n := 67) (by decide) dX11_listens_60 (by decide) ?_
      refine v_iconst (v := 0) dX11_listens_67 rfl rfl ?_
      refine v_istore_4 dX11_listens_68 rfl (zle rfl) rfl ?_
      refine v_iload_4 dX11_listens_70 rfl ?_
      refine v_if_eq_t (n := 120) (by decide) dX11_listens_72 (by decide) ?_
      refine v_goto (n := 12) dX11_listens_120 (by decide) ?_
      refine v_iload_4 dX11_listens_12 rfl ?_
      refine v_if_eq_t (n := 123) (by decide) dX11_listens_14 (by decide) ?_
      refine v_iload_2 dX11_listens_123 rfl ?_
      exact v_ireturn rfl (by
        rw [lsn_st (Or.inl c28)]
        exact zp.rf) (zle rfl) (zle rfl) dX11_listens_124
  | succ k ih =>
    intro z o5 hmu
    have hnz : IZ I ad w z (ad 10) e = nI np := by rw [IZoff hM (by decide) rfl (by decide) (by decide) (by decide)]; exact hn
    refine v_iload_4 dX11_listens_12 rfl ?_
    refine v_if_eq_f (tgt := 123) (by decide) dX11_listens_14 (by decide) rfl ?_
    refine v_aload_0 dX11_listens_17 rfl ?_
    refine v_iload_3 dX11_listens_18 rfl ?_
    refine v_aload_0 dX11_listens_19 rfl ?_
    refine v_getP fl_11_56 (mp_20 hM) (MOK.t hM) rfl (zle rfl) rfl dX11_listens_20 rfl ?_
    refine v_iload_1 dX11_listens_23 rfl ?_
    refine v_iald (j := w) (ma_20 hM) rfl (by omega) (zle rfl) dX11_listens_24 rfl ?_
    refine v_top (IZ20 hM) ?_
    refine v_callV (ci := 11) (F := TX11) (c_X11_isOver m ad e np z.1 hM hnz hn2 he) yy_X11_isOver im_X11_isOver se_X11_isOver lk_11_203 (MOK.t hM) (zle rfl) rfl (zle rfl) (zle rfl) (zle rfl) (zle rfl) rfl rfl (zle rfl) dX11_listens_25 rfl (zp.use ?_)
    refine v_top (zb_iff (q := ovr (mr I ad) e z.1 np) (by rw [mrIZ hM]; exact Iff.rfl)) ?_
    refine v_ifz_eq (tgt := 35) dX11_listens_28 (by decide) rfl (fun c28 => ?_) (fun c28 => ?_)
    · refine v_aload_0 dX11_listens_35 rfl ?_
      refine v_iload_3 dX11_listens_36 rfl ?_
      refine v_aload_0 dX11_listens_37 rfl ?_
      refine v_getP fl_11_53 (mp_19 hM) (MOK.t hM) rfl (zle rfl) rfl dX11_listens_38 rfl ?_
      refine v_iload_1 dX11_listens_41 rfl ?_
      refine v_iald (j := w) (ma_19 hM) rfl (by omega) (zle rfl) dX11_listens_42 rfl ?_
      refine v_top (show IZ I ad w z (ad 19) w = c by rw [IZoff hM (by decide) rfl (by decide) (by decide) (by decide)]; exact hc) ?_
      refine v_aload_0 dX11_listens_43 rfl ?_
      refine v_getP fl_11_56 (mp_20 hM) (MOK.t hM) rfl (zle rfl) rfl dX11_listens_44 rfl ?_
      refine v_iload_1 dX11_listens_47 rfl ?_
      refine v_iald (j := w) (ma_20 hM) rfl (by omega) (zle rfl) dX11_listens_48 rfl ?_
      refine v_top (IZ20 hM) ?_
      refine v_aload_0 dX11_listens_49 rfl ?_
      refine v_getN fl_11_245 (MOK.t hM) rfl (zle rfl) rfl dX11_listens_50 rfl ?_
      refine v_top hd0 ?_
      refine v_callV (ci := 11) (F := TX11) (c_X11_nextPiece m ad e np d c z.1 hM hnz hn2 he hd) yy_X11_nextPiece im_X11_nextPiece se_X11_nextPiece lk_11_206 (MOK.t hM) (zle rfl) rfl (zle rfl) (zle rfl) (zle rfl) (zle rfl) rfl rfl (zle rfl) dX11_listens_53 rfl (zp.use ?_)
      refine v_top (show nxv (canP (mr (IZ I ad w z) ad) e c z.1 d) 0 np = nxv (canP (mr I ad) e c z.1 d) 0 np by rw [mrIZ hM]; rfl) ?_
      rcases nxv_or (canP (mr I ad) e c z.1 d) 0 np with ⟨g1, g2⟩ | ⟨p, g0, g1, g2, g3, g4⟩
      · refine v_top g1 ?_
        refine v_istore_5 dX11_listens_56 rfl (zle rfl) rfl ?_
        refine v_iload_5 dX11_listens_58 rfl ?_
        refine v_if_lt_t (n := 67) (by decide) dX11_listens_60 (by decide) ?_
        refine v_iconst (v := 0) dX11_listens_67 rfl rfl ?_
        refine v_istore_4 dX11_listens_68 rfl (zle rfl) rfl ?_
        refine v_iload_4 dX11_listens_70 rfl ?_
        refine v_if_eq_t (n := 120) (by decide) dX11_listens_72 (by decide) ?_
        refine v_goto (n := 12) dX11_listens_120 (by decide) ?_
        refine v_iload_4 dX11_listens_12 rfl ?_
        refine v_if_eq_t (n := 123) (by decide) dX11_listens_14 (by decide) ?_
        refine v_iload_2 dX11_listens_123 rfl ?_
        exact v_ireturn rfl (by
            rw [lsn_st (Or.inr g2)]
            exact zp.rf) (zle rfl) (zle rfl) dX11_listens_124
      · refine v_top g4 ?_
        refine v_istore_5 dX11_listens_56 rfl (zle rfl) rfl ?_
        refine v_iload_5 dX11_listens_58 rfl ?_
        refine v_if_lt_f (tgt := 67) (nI_pos (by omega)) dX11_listens_60 (by decide) rfl ?_
        refine v_iconst (v := 1) dX11_listens_63 rfl rfl ?_
        refine v_goto (n := 68) dX11_listens_64 (by decide) ?_
        refine v_istore_4 dX11_listens_68 rfl (zle rfl) rfl ?_
        refine v_iload_4 dX11_listens_70 rfl ?_
        refine v_if_eq_f (tgt := 120) (by decide) dX11_listens_72 (by decide) rfl ?_
        refine v_aload_0 dX11_listens_75 rfl ?_
        refine v_getP fl_11_56 (mp_20 hM) (MOK.t hM) rfl (zle rfl) rfl dX11_listens_76 rfl ?_
        refine v_iload_1 dX11_listens_79 rfl ?_
        refine v_dup2 dX11_listens_80 rfl rfl rfl ?_
        refine v_iald (j := w) (ma_20 hM) rfl (by omega) (zle rfl) dX11_listens_81 rfl ?_
        refine v_top (IZ20 hM) ?_
        refine v_iconst (v := 1) dX11_listens_82 rfl rfl ?_
        refine v_iload_5 dX11_listens_83 rfl ?_
        refine v_ishl dX11_listens_85 rfl ?_
        refine v_ior dX11_listens_86 rfl ?_
        refine v_iast (j := w) (ma_20 hM) rfl (by omega) (zle rfl) dX11_listens_87 rfl ?_
        refine v_aload_0 dX11_listens_88 rfl ?_
        refine v_getP fl_11_59 (mp_21 hM) (MOK.t hM) rfl (zle rfl) rfl dX11_listens_89 rfl ?_
        refine v_iload_1 dX11_listens_92 rfl ?_
        refine v_dup2 dX11_listens_93 rfl rfl rfl ?_
        refine v_iald (j := w) (ma_21 hM) rfl (by omega) (zle rfl) dX11_listens_94 rfl ?_
        refine v_top (show u2 (IZ I ad w z) (ad 20) w _ (ad 21) w = z.2.1 by rw [u2_na (hM.ne (by decide) (by decide) rfl rfl (by decide)), IZ21 hM]) ?_
        refine v_aload_0 dX11_listens_95 rfl ?_
        refine v_getP fl_11_41 (mp_13 hM) (MOK.t hM) rfl (zle rfl) rfl dX11_listens_96 rfl ?_
        refine v_bipush (v := 12) dX11_listens_99 rfl rfl ?_
        refine v_iload_3 dX11_listens_101 rfl ?_
        refine v_imul dX11_listens_102 rfl ?_
        refine v_iload_5 dX11_listens_103 rfl ?_
        refine v_iadd dX11_listens_105 rfl ?_
        refine v_top (i12 e p) ?_
        refine v_iald (j := 12 * e + p) (ma_13 hM) rfl (by omega) (zle rfl) dX11_listens_106 rfl ?_
        refine v_top (show u2 (IZ I ad w z) (ad 20) w _ (ad 13) (12 * e + p) = mr I ad 13 (12 * e + p) by rw [u2_na (hM.ne (by decide) (by decide) rfl rfl (by decide)), IZoff hM (by decide) rfl (by decide) (by decide) (by decide)]; rfl) ?_
        refine v_iadd dX11_listens_107 rfl ?_
        refine v_iast (j := w) (ma_21 hM) rfl (by omega) (zle rfl) dX11_listens_108 rfl ?_
        refine v_aload_0 dX11_listens_109 rfl ?_
        refine v_getP fl_11_68 (mp_24 hM) (MOK.t hM) rfl (zle rfl) rfl dX11_listens_110 rfl ?_
        refine v_iload_1 dX11_listens_113 rfl ?_
        refine v_iload_5 dX11_listens_114 rfl ?_
        refine v_iast (j := w) (ma_24 hM) rfl (by omega) (zle rfl) dX11_listens_116 rfl ?_
        rw [IZ_s (n := z.2.2.2 + 1)]
        refine v_iinc_2 (b := z.2.2.2 + 1) dX11_listens_117 rfl rfl (zle rfl) rfl ?_
        refine v_goto (n := 12) dX11_listens_120 (by decide) ?_
        rw [lsn_go c28 g1 g2 g3]
        exact ih (ls1 (mr I ad) e p z) _ (by
          have := mu_step g1 (by omega) g2.2.1
          show mu (hset z.1 p) np ≤ k
          omega)
    · refine v_iconst (v := -1) dX11_listens_31 rfl rfl ?_
      refine v_goto (n := 56) dX11_listens_32 (by decide) ?_
      refine v_istore_5 dX11_listens_56 rfl (zle rfl) rfl ?_
      refine v_iload_5 dX11_listens_58 rfl ?_
      refine v_if_lt_t (n := 67) (by decide) dX11_listens_60 (by decide) ?_
      refine v_iconst (v := 0) dX11_listens_67 rfl rfl ?_
      refine v_istore_4 dX11_listens_68 rfl (zle rfl) rfl ?_
      refine v_iload_4 dX11_listens_70 rfl ?_
      refine v_if_eq_t (n := 120) (by decide) dX11_listens_72 (by decide) ?_
      refine v_goto (n := 12) dX11_listens_120 (by decide) ?_
      refine v_iload_4 dX11_listens_12 rfl ?_
      refine v_if_eq_t (n := 123) (by decide) dX11_listens_14 (by decide) ?_
      refine v_iload_2 dX11_listens_123 rfl ?_
      exact v_ireturn rfl (by
        rw [lsn_st (Or.inl c28)]
        exact zp.rf) (zle rfl) (zle rfl) dX11_listens_124
theorem c_X11_listens {E : zE} {T : zT} {N : zN} {P : zP} {I : zI} {R : zR} (m : Nat) (ad : Nat → Nat) (e np d w : Nat) (c : Int32) (hM : MOK T P m ad) (he0 : I (ad 22) w = nI e) (hw : w < 6) (he : e < 4) (hn : I (ad 10) e = nI np) (hn2 : np ≤ 12) (hd0 : N 11 27 m = nI d) (hd : d < 7) (hc : I (ad 19) w = c) : zC E yX11_listens cX11_listens 6 (some .int) (zr0 2 52) [.ref m, .int (nI w)] T N P I R (zp (lsn (mr I ad) e np c d 12 (I (ad 20) w, I (ad 21) w, I (ad 24) w, 0)).2.2.2 T N P (IZ I ad w (lsn (mr I ad) e np c d 12 (I (ad 20) w, I (ad 21) w, I (ad 24) w, 0))) R) := by
  refine zC.intro (ls := [some (.ref m), some (.int (nI w)), none, none, none, none]) pl_RX11 (zle rfl) 4 rfl (fun K => ?_)
  refine v_iconst (v := 0) dX11_listens_0 rfl rfl ?_
  refine v_istore_2 dX11_listens_1 rfl (zle rfl) rfl ?_
  refine v_aload_0 dX11_listens_2 rfl ?_
  refine v_getP fl_11_62 (mp_22 hM) (MOK.t hM) rfl (zle rfl) rfl dX11_listens_3 rfl ?_
  refine v_iload_1 dX11_listens_6 rfl ?_
  refine v_iald (j := w) (ma_22 hM) rfl (by omega) (zle rfl) dX11_listens_7 rfl ?_
  refine v_top he0 ?_
  refine v_istore_3 dX11_listens_8 rfl (zle rfl) rfl ?_
  refine v_iconst (v := 1) dX11_listens_9 rfl rfl ?_
  refine v_istore_4 dX11_listens_10 rfl (zle rfl) rfl ?_
  refine v_heap rfl rfl rfl (IZ_0 (I := I) (ad := ad) (w := w) (n := 0)).symm rfl ?_
  exact lp_X11_listens hM hw he hn hn2 hd0 hd hc 12 (I (ad 20) w, I (ad 21) w, I (ad 24) w, 0) _ (Nat.le_trans (mu_le _ _) hn2)
theorem c_X11_isDone {E : zE} {T : zT} {N : zN} {P : zP} {I : zI} {R : zR} (m : Nat) (ad : Nat → Nat) (e np w : Nat) (hM : MOK T P m ad) (hw : w < 6) (he0 : I (ad 22) w = nI e) (he : e < 4) (hn : I (ad 10) e = nI np) (hn2 : np ≤ 12) : zC E yX11_isDone cX11_isDone 2 (some .boolean) (zr0 1 24) [.ref m, .int (nI w)] T N P I R (zp (zb (ovr (mr I ad) e (I (ad 20) w) np)) T N P I R) := by
  refine zC.intro (ls := [some (.ref m), some (.int (nI w))]) pl_RX11 (zle rfl) 0 rfl (fun K => ?_)
  refine v_aload_0 dX11_isDone_0 rfl ?_
  refine v_aload_0 dX11_isDone_1 rfl ?_
  refine v_getP fl_11_62 (mp_22 hM) (MOK.t hM) rfl (zle rfl) rfl dX11_isDone_2 rfl ?_
  refine v_iload_1 dX11_isDone_5 rfl ?_
  refine v_iald (j := w) (ma_22 hM) rfl (by omega) (zle rfl) dX11_isDone_6 rfl ?_
  refine v_top he0 ?_
  refine v_aload_0 dX11_isDone_7 rfl ?_
  refine v_getP fl_11_56 (mp_20 hM) (MOK.t hM) rfl (zle rfl) rfl dX11_isDone_8 rfl ?_
  refine v_iload_1 dX11_isDone_11 rfl ?_
  refine v_iald (j := w) (ma_20 hM) rfl (by omega) (zle rfl) dX11_isDone_12 rfl ?_
  refine v_callV (ci := 11) (F := TX11) (c_X11_isOver m ad e np _ hM hn hn2 he) yy_X11_isOver im_X11_isOver se_X11_isOver lk_11_203 (MOK.t hM) (zle rfl) rfl (zle rfl) (zle rfl) (zle rfl) (zle rfl) rfl rfl (zle rfl) dX11_isDone_13 rfl (zp.use ?_)
  exact v_zreturn rfl (zb_nar _) (zp.rf) (zle rfl) (zle rfl) dX11_isDone_16
