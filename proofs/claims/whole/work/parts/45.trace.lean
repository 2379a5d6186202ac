/-- whether one more reading of a sheet is taken -/
def trg (r : zg) (w s n : Nat) : Prop := 3 * n + 2 < tn (r 29 s) ∧ ¬ ovr r (tn (r 22 w)) (r 20 w) (npw r w) ∧ (0 ≤ r 30 (12 * s + 3 * n + 2) ∧ r 30 (12 * s + 3 * n + 2) ≤ 30)
noncomputable abbrev tr1 (f : zf) (r : zg) (w s n : Nat) : zg := rds f r w (r 30 (12 * s + 3 * n)) (r 30 (12 * s + 3 * n + 1)) (r 30 (12 * s + 3 * n + 2))
noncomputable def trc (f : zf) (w s : Nat) : Nat → Nat → zg → Nat × zg
  | 0, n, r => (n, r)
  | k + 1, n, r => zi (trg r w s n) (trc f w s k (n + 1) (tr1 f r w s n)) (n, r)
noncomputable def ac_trace (f : zf) (r : zg) (s w : Int32) : zO := zi ((0 ≤ s ∧ s ≤ 3) ∧ (0 ≤ w ∧ w ≤ f 18 - 1)) (zi (r 28 (tn s) = 0) (fdg (-1000006) f r) (nI (trc f (tn w) (tn s) 4 0 r).1, f, (trc f (tn w) (tn s) 4 0 r).2)) (fdg (-1000001) f r)
theorem trc_t {f : zf} {w s k n : Nat} {r : zg} (h : trg r w s n) : trc f w s (k + 1) n r = trc f w s k (n + 1) (tr1 f r w s n) := zi_t h
theorem trc_f {f : zf} {w s k n : Nat} {r : zg} (h : ¬ trg r w s n) : trc f w s k n r = (n, r) := by
  cases k with
  | zero => rfl
  | succ k => exact zi_f h
theorem tr_i0 (s n : Nat) : nI (12 * s) + 3 * nI n = nI (12 * s + 3 * n) := by rw [show (3 : Int32) = nI 3 from rfl, pk_mul, nI_add]
theorem tr_i1 (s n : Nat) : nI (12 * s) + 3 * nI n + 1 = nI (12 * s + 3 * n + 1) := by rw [tr_i0, nI_1]
theorem tr_i2 (s n : Nat) : nI (12 * s) + 3 * nI n + 2 = nI (12 * s + 3 * n + 2) := by rw [tr_i0, show (2 : Int32) = nI 2 from rfl, nI_add]
theorem tr_n (n : Nat) : 3 * nI n + 2 = nI (3 * n + 2) := by rw [show (3 : Int32) = nI 3 from rfl, pk_mul, show (2 : Int32) = nI 2 from rfl, nI_add]
theorem tr_2 (n : Nat) : nI n + 2 = nI (n + 2) := by rw [show (2 : Int32) = nI 2 from rfl, nI_add]
theorem tr_3 (n : Nat) : nI (3 * n) + 3 = nI (3 * (n + 1)) := by rw [show (3 : Int32) = nI 3 from rfl, nI_add]; rfl
theorem four {x : Int32} (h : 0 ≤ x ∧ x ≤ 3) : ∃ q, q < 4 ∧ x = nI q := by
  obtain ⟨k1, k2⟩ := tn_pos h.1
  have := h.2
  rw [Int32.le_iff_toInt_le] at this
  have e6 : (3 : Int32).toInt = 3 := rfl
  exact ⟨tn x, by omega, k1⟩
theorem tr1_k {f : zf} {r : zg} {w s n j : Nat} (h : 27 ≤ j) : tr1 f r w s n j = r j := rds_k (by omega) (by omega) (by omega) (by omega) (by omega) (by omega)
theorem lp_X11_trace {E : zE} {T : zT} {N : zN} {P : zP} {I : zI} {R : zR} {m : Nat} {ad : Nat → Nat} {w s : Nat} {o : zO} {K : zK E yX11_trace cX11_trace 5 (some .int) (zr0 5 126)} (hM : MOK T P m ad) (hs : s < 4) (hw : w < tn (N 11 18 m)) (h29 : Nt (I (ad 29) s) 13) :
    ∀ k n (I' : zI), n + k = 4 → SnI (mf N m) (mr I' ad) → mr I' ad 29 = mr I ad 29 → o = (nI (trc (mf N m) w s k n (mr I' ad)).1, mf N m, (trc (mf N m) w s k n (mr I' ad)).2) → Mfr ad T N P I R T N P I' R → V K (zQf K (mQ m ad T N P I R o)) T N P I' R 0 0 47 [some (.ref m), some (.int (nI s)), some (.int (nI w)), some (.int (nI n)), some (.int (nI (12 * s)))] [] := by
  have h29b := h29.2
  intro k
  induction k with
  | zero =>
    intro n I' hn hS e9 ho hF
    obtain rfl : n = 4 := by omega
    have e29 : I' (ad 29) s = nI (tn (I (ad 29) s)) := (congrFun e9 s : I' (ad 29) s = I (ad 29) s).trans h29.1
    refine v_iconst (v := 3) dX11_trace_47 rfl rfl ?_
    refine v_iload_3 dX11_trace_48 rfl ?_
    refine v_imul dX11_trace_49 rfl ?_
    refine v_iconst (v := 2) dX11_trace_50 rfl rfl ?_
    refine v_iadd dX11_trace_51 rfl ?_
    refine v_top (tr_n 4) ?_
    refine v_aload_0 dX11_trace_52 rfl ?_
    refine v_getP fl_11_80 (mp_29 hM) (MOK.t hM) rfl (zle rfl) rfl dX11_trace_53 rfl ?_
    refine v_iload_1 dX11_trace_56 rfl ?_
    refine v_iald (j := s) (ma_29 hM) rfl (by omega) (zle rfl) dX11_trace_57 rfl ?_
    refine v_top e29 ?_
    refine v_icmp_ge_t (n := 139) (nI_le (a := tn (I (ad 29) s)) (b := 3 * 4 + 2) (by omega) (by decide)) dX11_trace_58 (by decide) ?_
    refine v_iload_3 dX11_trace_139 rfl ?_
    exact v_ireturn rfl (mQ_go hM ho rfl rfl rfl hF) (zle rfl) (zle rfl) dX11_trace_140
  | succ k ih =>
    intro n I' hn hS e9 ho hF
    have e29' : I' (ad 29) s = I (ad 29) s := congrFun e9 s
    have e29 : I' (ad 29) s = nI (tn (I (ad 29) s)) := e29'.trans h29.1
    obtain ⟨i1, i2, i3, i4, i5, i6⟩ := hS.1.ed (show w < tn (mf N m 18) from hw)
    have hno : ¬ trg (mr I' ad) w s n → mQ m ad T N P I R o (some (.int (nI n))) T N P I' R := fun h => mQ_go hM (ho.trans (by rw [trc_f h])) rfl rfl rfl hF
    refine v_iconst (v := 3) dX11_trace_47 rfl rfl ?_
    refine v_iload_3 dX11_trace_48 rfl ?_
    refine v_imul dX11_trace_49 rfl ?_
    refine v_iconst (v := 2) dX11_trace_50 rfl rfl ?_
    refine v_iadd dX11_trace_51 rfl ?_
    refine v_top (tr_n n) ?_
    refine v_aload_0 dX11_trace_52 rfl ?_
    refine v_getP fl_11_80 (mp_29 hM) (MOK.t hM) rfl (zle rfl) rfl dX11_trace_53 rfl ?_
    refine v_iload_1 dX11_trace_56 rfl ?_
    refine v_iald (j := s) (ma_29 hM) rfl (by omega) (zle rfl) dX11_trace_57 rfl ?_
    refine v_top e29 ?_
    by_cases hlt : 3 * n + 2 < tn (I (ad 29) s)
    · refine v_icmp_ge_f (tgt := 139) (nI_ge (a := 3 * n + 2) (b := tn (I (ad 29) s)) (by omega) (by omega)) dX11_trace_58 (by decide) rfl ?_
      refine v_aload_0 dX11_trace_61 rfl ?_
      refine v_iload_2 dX11_trace_62 rfl ?_
      refine v_callV (ci := 11) (F := TX11) (c_X11_isDone (I := I') m ad (tn (I' (ad 22) w)) (npw (mr I' ad) w) w hM (by omega) i1 i3 i4 i5) yy_X11_isDone im_X11_isDone se_X11_isDone lk_11_255 (MOK.t hM) (zle rfl) rfl (zle rfl) (zle rfl) (zle rfl) (zle rfl) rfl rfl (zle rfl) dX11_trace_63 rfl (zp.use ?_)
      refine v_ifz_ne (tgt := 139) dX11_trace_66 (by decide) rfl (fun c66 => ?_) (fun c66 => ?_)
      · refine v_iload_3 dX11_trace_139 rfl ?_
        exact v_ireturn rfl (hno (fun h => h.2.1 c66)) (zle rfl) (zle rfl) dX11_trace_140
      · refine v_aload_0 dX11_trace_69 rfl ?_
        refine v_getP fl_11_83 (mp_30 hM) (MOK.t hM) rfl (zle rfl) rfl dX11_trace_70 rfl ?_
        refine v_iload_4 dX11_trace_73 rfl ?_
        refine v_iconst (v := 3) dX11_trace_75 rfl rfl ?_
        refine v_iload_3 dX11_trace_76 rfl ?_
        refine v_imul dX11_trace_77 rfl ?_
        refine v_iadd dX11_trace_78 rfl ?_
        refine v_iconst (v := 2) dX11_trace_79 rfl rfl ?_
        refine v_iadd dX11_trace_80 rfl ?_
        refine v_iald (j := 12 * s + 3 * n + 2) (ma_30 hM) (tr_i2 s n) (by omega) (zle rfl) dX11_trace_81 rfl ?_
        refine v_iconst (v := 0) dX11_trace_82 rfl rfl ?_
        refine v_bipush (v := 30) dX11_trace_83 rfl rfl ?_
        refine v_callS (c_X11_within _ _ _) yy_X11_within st_X11_within lk_11_121 (zle rfl) (zle rfl) (zle rfl) (zle rfl) rfl rfl (zle rfl) dX11_trace_85 rfl (zp.use ?_)
        refine v_ifz_eq (tgt := 139) dX11_trace_88 (by decide) rfl (fun c88 => ?_) (fun c88 => ?_)
        · refine v_iload_3 dX11_trace_139 rfl ?_
          exact v_ireturn rfl (hno (fun h => c88 h.2.2)) (zle rfl) (zle rfl) dX11_trace_140
        · have hg : trg (mr I' ad) w s n := ⟨by show 3 * n + 2 < tn (I' (ad 29) s); rw [e29']; exact hlt, c66, c88⟩
          refine v_aload_0 dX11_trace_91 rfl ?_
          refine v_iload_2 dX11_trace_92 rfl ?_
          refine v_aload_0 dX11_trace_93 rfl ?_
          refine v_getP fl_11_83 (mp_30 hM) (MOK.t hM) rfl (zle rfl) rfl dX11_trace_94 rfl ?_
          refine v_iload_4 dX11_trace_97 rfl ?_
          refine v_iconst (v := 3) dX11_trace_99 rfl rfl ?_
          refine v_iload_3 dX11_trace_100 rfl ?_
          refine v_imul dX11_trace_101 rfl ?_
          refine v_iadd dX11_trace_102 rfl ?_
          refine v_iald (j := 12 * s + 3 * n) (ma_30 hM) (tr_i0 s n) (by omega) (zle rfl) dX11_trace_103 rfl ?_
          refine v_aload_0 dX11_trace_104 rfl ?_
          refine v_getP fl_11_83 (mp_30 hM) (MOK.t hM) rfl (zle rfl) rfl dX11_trace_105 rfl ?_
          refine v_iload_4 dX11_trace_108 rfl ?_
          refine v_iconst (v := 3) dX11_trace_110 rfl rfl ?_
          refine v_iload_3 dX11_trace_111 rfl ?_
          refine v_imul dX11_trace_112 rfl ?_
          refine v_iadd dX11_trace_113 rfl ?_
          refine v_iconst (v := 1) dX11_trace_114 rfl rfl ?_
          refine v_iadd dX11_trace_115 rfl ?_
          refine v_iald (j := 12 * s + 3 * n + 1) (ma_30 hM) (tr_i1 s n) (by omega) (zle rfl) dX11_trace_116 rfl ?_
          refine v_aload_0 dX11_trace_117 rfl ?_
          refine v_getP fl_11_83 (mp_30 hM) (MOK.t hM) rfl (zle rfl) rfl dX11_trace_118 rfl ?_
          refine v_iload_4 dX11_trace_121 rfl ?_
          refine v_iconst (v := 3) dX11_trace_123 rfl rfl ?_
          refine v_iload_3 dX11_trace_124 rfl ?_
          refine v_imul dX11_trace_125 rfl ?_
          refine v_iadd dX11_trace_126 rfl ?_
          refine v_iconst (v := 2) dX11_trace_127 rfl rfl ?_
          refine v_iadd dX11_trace_128 rfl ?_
          refine v_iald (j := 12 * s + 3 * n + 2) (ma_30 hM) (tr_i2 s n) (by omega) (zle rfl) dX11_trace_129 rfl ?_
          refine v_callV (ci := 11) (F := TX11) (c_X11_reads (I := I') m ad w (I' (ad 30) (12 * s + 3 * n)) (I' (ad 30) (12 * s + 3 * n + 1)) (I' (ad 30) (12 * s + 3 * n + 2)) hM hS hw (Nt.of30 c88)) yy_X11_reads im_X11_reads se_X11_reads lk_11_275 (MOK.t hM) (zle rfl) rfl (zle rfl) (zle rfl) (zle rfl) (zle rfl) rfl rfl (zle rfl) dX11_trace_130 rfl (fun v1 T1 N1 P1 I1 R1 hq => ?_)
          obtain ⟨rfl, e1, e2, e3, e4, e5, e6⟩ := hq
          subst e1 e2 e3 e4
          refine v_iinc_3 dX11_trace_133 (nI_1 n) rfl (zle rfl) rfl ?_
          refine v_goto (n := 47) dX11_trace_136 (by decide) ?_
          exact ih (n + 1) I1 (by omega) (by rw [e5]; exact hS.rd hw _ _ _) (by rw [e5]; exact (tr1_k (by decide)).trans e9) (by rw [e5]; exact ho.trans (by rw [trc_t hg]; rfl)) (hF.tr e6)
    · refine v_icmp_ge_t (n := 139) (nI_le (a := tn (I (ad 29) s)) (b := 3 * n + 2) (by omega) (by omega)) dX11_trace_58 (by decide) ?_
      refine v_iload_3 dX11_trace_139 rfl ?_
      exact v_ireturn rfl (hno (fun h => hlt (by have := h.1; rw [← e29']; exact this))) (zle rfl) (zle rfl) dX11_trace_140
theorem c_X11_trace {E : zE} {T : zT} {N : zN} {P : zP} {I : zI} {R : zR} (m : Nat) (ad : Nat → Nat) (s w : Int32) (hM : MOK T P m ad) (hZ : SnI (mf N m) (mr I ad)) (h29 : ∀ s, s < 4 → Nt (I (ad 29) s) 13) : zC E yX11_trace cX11_trace 5 (some .int) (zr0 5 126) [.ref m, .int s, .int w] T N P I R (mQ m ad T N P I R (ac_trace (mf N m) (mr I ad) s w)) := by
  refine zC.intro (ls := [some (.ref m), some (.int s), some (.int w), none, none]) pl_RX11 (zle rfl) 2 rfl (fun K => ?_)
  refine v_iload_1 dX11_trace_0 rfl ?_
  refine v_callS (c_X11_isSheet _) yy_X11_isSheet st_X11_isSheet lk_11_279 (zle rfl) (zle rfl) (zle rfl) (zle rfl) rfl rfl (zle rfl) dX11_trace_1 rfl (zp.use ?_)
  refine v_ifz_eq (tgt := 15) dX11_trace_4 (by decide) rfl (fun c4 => ?_) (fun c4 => ?_)
  · refine v_aload_0 dX11_trace_15 rfl ?_
    refine v_ldc dX11_trace_16 kc_11_131 rfl ?_
    refine v_callV (ci := 11) (F := TX11) (c_X11_finding _ _ (MOK.t hM)) yy_X11_finding im_X11_finding se_X11_finding lk_11_132 (MOK.t hM) (zle rfl) rfl (zle rfl) (zle rfl) (zle rfl) (zle rfl) rfl rfl (zle rfl) dX11_trace_18 rfl (zp.use ?_)
    exact v_ireturn rfl (mQ_fd hM (zi_f (fun h => c4 h.1))) (zle rfl) (zle rfl) dX11_trace_21
  · refine v_aload_0 dX11_trace_7 rfl ?_
    refine v_iload_2 dX11_trace_8 rfl ?_
    refine v_callV (ci := 11) (F := TX11) (c_X11_isWalker _ _ (MOK.t hM)) yy_X11_isWalker im_X11_isWalker se_X11_isWalker lk_11_252 (MOK.t hM) (zle rfl) rfl (zle rfl) (zle rfl) (zle rfl) (zle rfl) rfl rfl (zle rfl) dX11_trace_9 rfl (zp.use ?_)
    refine v_ifz_ne (tgt := 22) dX11_trace_12 (by decide) rfl (fun c12 => ?_) (fun c12 => ?_)
    · obtain ⟨w, hw, rfl⟩ := fnd (c := N 11 18 m) hZ.1.1 (by decide) c12
      have h18 : tn (N 11 18 m) < 7 := hZ.1.1.2
      obtain ⟨s, hs, rfl⟩ := four c4
      have tw : tn (nI w) = w := tn_nI (by omega)
      have ts : tn (nI s) = s := tn_nI (by omega)
      refine v_aload_0 dX11_trace_22 rfl ?_
      refine v_getP fl_11_77 (mp_28 hM) (MOK.t hM) rfl (zle rfl) rfl dX11_trace_23 rfl ?_
      refine v_iload_1 dX11_trace_26 rfl ?_
      refine v_iald (j := s) (ma_28 hM) rfl (by omega) (zle rfl) dX11_trace_27 rfl ?_
      refine v_if_ne (tgt := 39) dX11_trace_28 (by decide) rfl (fun c28 => ?_) (fun c28 => ?_)
      · refine v_iconst (v := 0) dX11_trace_39 rfl rfl ?_
        refine v_istore_3 dX11_trace_40 rfl (zle rfl) rfl ?_
        refine v_bipush (v := 12) dX11_trace_41 rfl rfl ?_
        refine v_iload_1 dX11_trace_43 rfl ?_
        refine v_imul dX11_trace_44 rfl ?_
        refine v_top (show (12 : Int32) * nI s = nI (12 * s) by rw [show (12 : Int32) = nI 12 from rfl, pk_mul]) ?_
        refine v_istore_4 dX11_trace_45 rfl (zle rfl) rfl ?_
        exact lp_X11_trace hM hs hw (h29 s hs) 4 0 I (by omega) hZ rfl ((zi_t ⟨c4, c12⟩).trans ((zi_f (by rw [ts]; exact c28)).trans (by rw [ts, tw]))) Mfr.rf
      · refine v_aload_0 dX11_trace_31 rfl ?_
        refine v_ldcw dX11_trace_32 kc_11_283 rfl ?_
        refine v_callV (ci := 11) (F := TX11) (c_X11_finding _ _ (MOK.t hM)) yy_X11_finding im_X11_finding se_X11_finding lk_11_132 (MOK.t hM) (zle rfl) rfl (zle rfl) (zle rfl) (zle rfl) (zle rfl) rfl rfl (zle rfl) dX11_trace_35 rfl (zp.use ?_)
        exact v_ireturn rfl (mQ_fd hM ((zi_t ⟨c4, c12⟩).trans (zi_t (by rw [ts]; exact c28)))) (zle rfl) (zle rfl) dX11_trace_38
    · refine v_aload_0 dX11_trace_15 rfl ?_
      refine v_ldc dX11_trace_16 kc_11_131 rfl ?_
      refine v_callV (ci := 11) (F := TX11) (c_X11_finding _ _ (MOK.t hM)) yy_X11_finding im_X11_finding se_X11_finding lk_11_132 (MOK.t hM) (zle rfl) rfl (zle rfl) (zle rfl) (zle rfl) (zle rfl) rfl rfl (zle rfl) dX11_trace_18 rfl (zp.use ?_)
      exact v_ireturn rfl (mQ_fd hM (zi_f (fun h => c12 h.2))) (zle rfl) (zle rfl) dX11_trace_21
theorem lp_X10_trace {E : zE} {T : zT} {N : zN} {P : zP} {I : zI} {R : zR} {x : Nat} {Mn : Nat → Prop} {b : Nat → Nat → Nat} {g : Nat} {f : zf} {r : zg} {w s : Nat} {o : zO} {K : zK E yX10_trace cX10_trace 8 (some .int) (zr0 6 145)} (hs : s < 4) (hw : w < tn (f 18)) (h29 : Nt (r 29 s) 13) (h28 : ¬ r 28 s = 0) :
    ∀ k n (N' : zN) (r' : zg), n + k = 4 → SnI f r' → r' 28 = r 28 → r' 29 = r 29 → CR T N' P I R x Mn b g f r' → N' 11 = N 11 → o = (nI (trc f w s k n r').1, f, (trc f w s k n r').2) → V K (zQf K (cQ x Mn g T N P I R o)) T N' P I R 0 0 58 [some (.ref x), some (.int (nI s)), some (.int (nI w)), some (.ref (b 5 w)), some (.ref (b 6 s)), some (.ref (b 1 (7 + s))), some (.int (nI n)), some (.int (nI (3 * n)))] [] := by
  have h29b := h29.2
  intro k
  induction k with
  | zero =>
    intro n N' r' hn hZ e8 e9 hC hF ho
    obtain rfl : n = 4 := by omega
    have hl : T (b 1 (7 + s)) = (1, tn (r' 29 s)) := by
      have := (hC.2.2.1.2.1 (7 + s) (Or.inr ⟨by omega, by rw [show 7 + s - 7 = s by omega, e8]; exact h28⟩)).1
      rw [this, show lnr g r' (7 + s) = tn (r' 29 (7 + s - 7)) by rcases (show s = 0 ∨ s = 1 ∨ s = 2 ∨ s = 3 by omega) with h | h | h | h <;> subst h <;> rfl, show 7 + s - 7 = s by omega]
    rw [e9] at hl
    refine v_iload_7 dX10_trace_58 rfl ?_
    refine v_iconst (v := 2) dX10_trace_60 rfl rfl ?_
    refine v_iadd dX10_trace_61 rfl ?_
    refine v_top (tr_2 (3 * 4)) ?_
    refine v_aload_5 dX10_trace_62 rfl ?_
    refine v_alenN hl (by decide) dX10_trace_64 rfl ?_
    refine v_icmp_ge_t (n := 131) (nI_le (a := tn (r 29 s)) (b := 3 * 4 + 2) (by omega) (by decide)) dX10_trace_65 (by decide) ?_
    refine v_iload_6 dX10_trace_131 rfl ?_
    exact v_ireturn rfl (cQ_go b g ho rfl hC ⟨hF, rfl, fun _ _ => ⟨rfl, rfl⟩⟩) (zle rfl) (zle rfl) dX10_trace_133
  | succ k ih =>
    intro n N' r' hn hZ e8 e9 hC hF ho
    have hl : T (b 1 (7 + s)) = (1, tn (r' 29 s)) := by
      have := (hC.2.2.1.2.1 (7 + s) (Or.inr ⟨by omega, by rw [show 7 + s - 7 = s by omega, e8]; exact h28⟩)).1
      rw [this, show lnr g r' (7 + s) = tn (r' 29 (7 + s - 7)) by rcases (show s = 0 ∨ s = 1 ∨ s = 2 ∨ s = 3 by omega) with h | h | h | h <;> subst h <;> rfl, show 7 + s - 7 = s by omega]
    rw [e9] at hl
    obtain ⟨hX, hT, hA, hP, hE, ⟨w1, w2⟩, hS, hQ⟩ := id hC
    obtain ⟨x1, x2, x3, x4, x5, x6, x7, x8, x9, x10, x11, x12, x13, x14⟩ := id hX
    obtain ⟨i1, i2, i3, i4, i5, i6⟩ := hZ.1.ed hw
    obtain ⟨g1, g2, g3, g4, g5, g6, g7, g8, g9, g10, g11⟩ := w1 w hw
    obtain ⟨q1, q2⟩ := hE _ i2
    obtain ⟨v1, v2, v3⟩ := hZ.2.2.2.2.2 w hw
    have hd7 : tn (f 27) < 7 := hZ.1.2.2.2.1.2
    have sv := ((hS s hs).2 (by rw [e8]; exact h28)).2.2.2.2
    rw [e9] at sv
    have hno : ¬ trg r' w s n → cQ x Mn g T N P I R o (some (.int (nI n))) T N' P I R := fun h => cQ_go b g (ho.trans (by rw [trc_f h])) rfl hC ⟨hF, rfl, fun _ _ => ⟨rfl, rfl⟩⟩
    refine v_iload_7 dX10_trace_58 rfl ?_
    refine v_iconst (v := 2) dX10_trace_60 rfl rfl ?_
    refine v_iadd dX10_trace_61 rfl ?_
    refine v_top (tr_2 (3 * n)) ?_
    refine v_aload_5 dX10_trace_62 rfl ?_
    refine v_alenN hl (by decide) dX10_trace_64 rfl ?_
    by_cases hlt : 3 * n + 2 < tn (r 29 s)
    · refine v_icmp_ge_f (tgt := 131) (nI_ge (a := 3 * n + 2) (b := tn (r 29 s)) (by omega) (by omega)) dX10_trace_65 (by decide) rfl ?_
      refine v_aload_3 dX10_trace_68 rfl ?_
      refine v_callV (ci := 8) (F := TX8) (c_X8_isOver (N := N') (b 5 w) (b 3 (tn (r' 22 w))) g2 g3 q2.1) yy_X8_isOver im_X8_isOver se_X8_isOver lk_10_197 g2 (zle rfl) rfl (zle rfl) (zle rfl) (zle rfl) (zle rfl) rfl rfl (zle rfl) dX10_trace_69 rfl (zp.use ?_)
      refine v_top (zb_iff (q := ovr r' (tn (r' 22 w)) (r' 20 w) (npw r' w)) (by rw [g7]; exact ends_ovr q2 i5 (r' 20 w))) ?_
      refine v_ifz_ne (tgt := 131) dX10_trace_72 (by decide) rfl (fun c72 => ?_) (fun c72 => ?_)
      · refine v_iload_6 dX10_trace_131 rfl ?_
        exact v_ireturn rfl (hno (fun h => h.2.1 c72)) (zle rfl) (zle rfl) dX10_trace_133
      · refine v_aload_5 dX10_trace_75 rfl ?_
        refine v_iload_7 dX10_trace_77 rfl ?_
        refine v_iconst (v := 2) dX10_trace_79 rfl rfl ?_
        refine v_iadd dX10_trace_80 rfl ?_
        refine v_iald (j := 3 * n + 2) hl (tr_2 (3 * n)) (by omega) (by omega) dX10_trace_81 rfl ?_
        refine v_top ((sv (3 * n + 2) (by omega)).trans (by rw [← Nat.add_assoc])) ?_
        refine v_callS (c_X10_isDoubt _) yy_X10_isDoubt st_X10_isDoubt lk_10_247 (zle rfl) (zle rfl) (zle rfl) (zle rfl) rfl rfl (zle rfl) dX10_trace_82 rfl (zp.use ?_)
        refine v_ifz_ne (tgt := 91) dX10_trace_85 (by decide) rfl (fun c85 => ?_) (fun c85 => ?_)
        · have hg : trg r' w s n := ⟨by rw [e9]; exact hlt, c72, c85⟩
          refine v_aload_3 dX10_trace_91 rfl ?_
          refine v_aload_0 dX10_trace_92 rfl ?_
          refine v_getP fl_10_10 (by assumption) (by assumption) rfl (zle rfl) rfl dX10_trace_93 rfl ?_
          refine v_aload_0 dX10_trace_96 rfl ?_
          refine v_getN fl_10_55 (by assumption) rfl (zle rfl) rfl dX10_trace_97 rfl ?_
          refine v_top (x13.trans hZ.1.2.2.2.1.1) ?_
          refine v_aload_5 dX10_trace_100 rfl ?_
          refine v_iload_7 dX10_trace_102 rfl ?_
          refine v_iald (j := 3 * n) hl rfl (by omega) (by omega) dX10_trace_104 rfl ?_
          refine v_top (sv (3 * n) (by omega)) ?_
          refine v_aload_5 dX10_trace_105 rfl ?_
          refine v_iload_7 dX10_trace_107 rfl ?_
          refine v_iconst (v := 1) dX10_trace_109 rfl rfl ?_
          refine v_iadd dX10_trace_110 rfl ?_
          refine v_iald (j := 3 * n + 1) hl (nI_1 (3 * n)) (by omega) (by omega) dX10_trace_111 rfl ?_
          refine v_top ((sv (3 * n + 1) (by omega)).trans (by rw [← Nat.add_assoc])) ?_
          refine v_aload_5 dX10_trace_112 rfl ?_
          refine v_iload_7 dX10_trace_114 rfl ?_
          refine v_iconst (v := 2) dX10_trace_116 rfl rfl ?_
          refine v_iadd dX10_trace_117 rfl ?_
          refine v_iald (j := 3 * n + 2) hl (tr_2 (3 * n)) (by omega) (by omega) dX10_trace_118 rfl ?_
          refine v_top ((sv (3 * n + 2) (by omega)).trans (by rw [← Nat.add_assoc])) ?_
          refine v_callV (ci := 8) (F := TX8) (c_X8_takeReading (N := N') (tn (r' 22 w)) (b 3 (tn (r' 22 w))) (b 4 (tn (r' 22 w))) (tn (f 27)) (b 5 w) (tn (r' 19 w)) (b (10 + tn (r' 22 w))) b f r' (r' 23 w = 1) (r' 30 (12 * s + 3 * n)) (r' 30 (12 * s + 3 * n + 1)) (r' 30 (12 * s + 3 * n + 2)) q2 (hZ.1.2.2.1 _ i2).1 (hZ.1.2.2.1 _ i2).2 hd7 g2 g3 hT hZ.2.2.1 (g5.trans (zb_of v2)) hZ.2.1 (hA.2.1 0 (Or.inl (by decide))).1 (hA.2.1 1 (Or.inl (by decide))).1 (g6.trans v1.1) v1.2) yy_X8_takeReading im_X8_takeReading se_X8_takeReading lk_10_250 g2 (zle rfl) rfl (zle rfl) (zle rfl) (zle rfl) (zle rfl) rfl rfl (zle rfl) dX10_trace_119 rfl (fun v1 T1 N1 P1 I1 R1 hq => ?_)
          obtain ⟨rfl, e1, e2, e3, e4, e5⟩ := hq
          subst e1 e2 e3 e4
          obtain ⟨hC1, hF1⟩ := hC.rd hZ hw e5
          refine v_iinc_6 dX10_trace_122 (nI_1 n) rfl (zle rfl) rfl ?_
          refine v_iinc_7 dX10_trace_125 (tr_3 n) rfl (zle rfl) rfl ?_
          refine v_goto (n := 58) dX10_trace_128 (by decide) ?_
          exact ih (n + 1) N1 _ (by omega) (hZ.rd hw _ _ _) ((tr1_k (by decide)).trans e8) ((tr1_k (by decide)).trans e9) hC1 (hF1.trans hF) (ho.trans (by rw [trc_t hg]))
        · refine v_goto (n := 131) dX10_trace_88 (by decide) ?_
          refine v_iload_6 dX10_trace_131 rfl ?_
          exact v_ireturn rfl (hno (fun h => c85 h.2.2)) (zle rfl) (zle rfl) dX10_trace_133
    · refine v_icmp_ge_t (n := 131) (nI_le (a := tn (r 29 s)) (b := 3 * n + 2) (by omega) (by omega)) dX10_trace_65 (by decide) ?_
      refine v_iload_6 dX10_trace_131 rfl ?_
      exact v_ireturn rfl (hno (fun h => hlt (by have := h.1; rw [e9] at this; exact this))) (zle rfl) (zle rfl) dX10_trace_133
theorem c_X10_trace {E : zE} {T : zT} {N : zN} {P : zP} {I : zI} {R : zR} (x : Nat) (Mn : Nat → Prop) (b : Nat → Nat → Nat) (g : Nat) (f : zf) (r : zg) (s w : Int32) (hC : CR T N P I R x Mn b g f r) (hZ : SnI f r) (h29 : ∀ s, s < 4 → Nt (r 29 s) 13) : zC E yX10_trace cX10_trace 8 (some .int) (zr0 6 145) [.ref x, .int s, .int w] T N P I R (cQ x Mn g T N P I R (ac_trace f r s w)) := by
  refine zC.intro (ls := [some (.ref x), some (.int s), some (.int w), none, none, none, none, none]) pl_RX10 (zle rfl) 5 rfl (fun K => ?_)
  obtain ⟨hX, hT, hA, hP, hE, hW, hS, hQ⟩ := id hC
  obtain ⟨x1, x2, x3, x4, x5, x6, x7, x8, x9, x10, x11, x12, x13, x14⟩ := id hX
  obtain ⟨w1, w2⟩ := id hW
  obtain ⟨t1, t2, t3, t4, t5, t6, t7, t8, t9, t10⟩ := id hT
  refine v_aload_0 dX10_trace_0 rfl ?_
  refine v_iload_2 dX10_trace_1 rfl ?_
  rcases Classical.em (0 ≤ w ∧ w ≤ f 18 - 1) with hw0 | hw0
  · obtain ⟨w, hw, rfl⟩ := fnd hZ.1.1 (by decide) hw0
    have h18 := hZ.1.1.2
    have tw : tn (nI w) = w := tn_nI (by omega)
    obtain ⟨g1, g2, g3, g4, g5, g6, g7, g8, g9, g10, g11⟩ := w1 w hw
    refine v_callV (ci := 10) (F := TX10) (c_X10_findWalker x (b 0 3) w (b 5 w) x1 x5 x9 (by rw [x12]; exact hw0) (by omega) g1) yy_X10_findWalker im_X10_findWalker se_X10_findWalker lk_10_193 (by assumption) (zle rfl) rfl (zle rfl) (zle rfl) (zle rfl) (zle rfl) rfl rfl (zle rfl) dX10_trace_2 rfl (za.use ?_)
    refine v_astore_3 dX10_trace_5 rfl (zle rfl) rfl ?_
    refine v_iload_1 dX10_trace_6 rfl ?_
    refine v_callS (c_X10_isSheet _) yy_X10_isSheet st_X10_isSheet lk_10_254 (zle rfl) (zle rfl) (zle rfl) (zle rfl) rfl rfl (zle rfl) dX10_trace_7 rfl (zp.use ?_)
    refine v_ifz_eq (tgt := 17) dX10_trace_10 (by decide) rfl (fun c10 => ?_) (fun c10 => ?_)
    · refine v_aload_0 dX10_trace_17 rfl ?_
      refine v_ldc dX10_trace_18 kc_10_65 rfl ?_
      refine v_callV (ci := 10) (F := TX10) (c_X10_finding _ _ (by assumption)) yy_X10_finding im_X10_finding se_X10_finding lk_10_66 (by assumption) (zle rfl) rfl (zle rfl) (zle rfl) (zle rfl) (zle rfl) rfl rfl (zle rfl) dX10_trace_20 rfl (zp.use ?_)
      exact v_ireturn rfl (cQ_fd hC (zi_f (fun h => c10 h.1))) (zle rfl) (zle rfl) dX10_trace_23
    · refine v_aload_3 dX10_trace_13 rfl ?_
      refine v_ifnonnull (n := 24) dX10_trace_14 (by decide) ?_
      obtain ⟨s, hs, rfl⟩ := four c10
      have ts : tn (nI s) = s := tn_nI (by omega)
      refine v_aload_0 dX10_trace_24 rfl ?_
      refine v_getP fl_10_37 (by assumption) (by assumption) rfl (zle rfl) rfl dX10_trace_25 rfl ?_
      refine v_iload_1 dX10_trace_28 rfl ?_
      by_cases h28 : r 28 s = 0
      · refine v_aaldN (j := s) ti_5 (by assumption) rfl (by omega) (zle rfl) ((hS s hs).1 h28) dX10_trace_29 rfl ?_
        refine v_astoreN_4 dX10_trace_30 rfl (zle rfl) rfl ?_
        refine v_aloadN_4 dX10_trace_32 rfl ?_
        refine v_ifnonnullN dX10_trace_34 rfl ?_
        refine v_aload_0 dX10_trace_37 rfl ?_
        refine v_ldcw dX10_trace_38 kc_10_264 rfl ?_
        refine v_callV (ci := 10) (F := TX10) (c_X10_finding _ _ (by assumption)) yy_X10_finding im_X10_finding se_X10_finding lk_10_66 (by assumption) (zle rfl) rfl (zle rfl) (zle rfl) (zle rfl) (zle rfl) rfl rfl (zle rfl) dX10_trace_41 rfl (zp.use ?_)
        exact v_ireturn rfl (cQ_fd hC ((zi_t ⟨c10, hw0⟩).trans (zi_t (by rw [ts]; exact h28)))) (zle rfl) (zle rfl) dX10_trace_44
      · refine v_aald (j := s) ti_5 (by assumption) rfl (by omega) (zle rfl) ((hS s hs).2 h28).1 dX10_trace_29 rfl ?_
        refine v_astore_4 dX10_trace_30 rfl (zle rfl) rfl ?_
        refine v_aload_4 dX10_trace_32 rfl ?_
        refine v_ifnonnull (n := 45) dX10_trace_34 (by decide) ?_
        refine v_aload_4 dX10_trace_45 rfl ?_
        refine v_getP fl_10_265 ((hS s hs).2 h28).2.2.2.1 ((hS s hs).2 h28).2.1 rfl (zle rfl) rfl dX10_trace_47 rfl ?_
        refine v_astore_5 dX10_trace_50 rfl (zle rfl) rfl ?_
        refine v_iconst (v := 0) dX10_trace_52 rfl rfl ?_
        refine v_istore_6 dX10_trace_53 rfl (zle rfl) rfl ?_
        refine v_iconst (v := 0) dX10_trace_55 rfl rfl ?_
        refine v_istore_7 dX10_trace_56 rfl (zle rfl) rfl ?_
        exact lp_X10_trace hs hw (h29 s hs) h28 4 0 N r (by omega) hZ rfl rfl hC rfl ((zi_t ⟨c10, hw0⟩).trans ((zi_f (by rw [ts]; exact h28)).trans (by rw [ts, tw])))
  · refine v_callV (ci := 10) (F := TX10) (c_X10_findWalker_n x w x1 (by rw [x12]; exact hw0)) yy_X10_findWalker im_X10_findWalker se_X10_findWalker lk_10_193 (by assumption) (zle rfl) rfl (zle rfl) (zle rfl) (zle rfl) (zle rfl) rfl rfl (zle rfl) dX10_trace_2 rfl (za.use ?_)
    refine v_astoreN_3 dX10_trace_5 rfl (zle rfl) rfl ?_
    refine v_iload_1 dX10_trace_6 rfl ?_
    refine v_callS (c_X10_isSheet _) yy_X10_isSheet st_X10_isSheet lk_10_254 (zle rfl) (zle rfl) (zle rfl) (zle rfl) rfl rfl (zle rfl) dX10_trace_7 rfl (zp.use ?_)
    refine v_ifz_eq (tgt := 17) dX10_trace_10 (by decide) rfl (fun c10 => ?_) (fun c10 => ?_)
    · refine v_aload_0 dX10_trace_17 rfl ?_
      refine v_ldc dX10_trace_18 kc_10_65 rfl ?_
      refine v_callV (ci := 10) (F := TX10) (c_X10_finding _ _ (by assumption)) yy_X10_finding im_X10_finding se_X10_finding lk_10_66 (by assumption) (zle rfl) rfl (zle rfl) (zle rfl) (zle rfl) (zle rfl) rfl rfl (zle rfl) dX10_trace_20 rfl (zp.use ?_)
      exact v_ireturn rfl (cQ_fd hC (zi_f (fun h => hw0 h.2))) (zle rfl) (zle rfl) dX10_trace_23
    · refine v_aloadN_3 dX10_trace_13 rfl ?_
      refine v_ifnonnullN dX10_trace_14 rfl ?_
      refine v_aload_0 dX10_trace_17 rfl ?_
      refine v_ldc dX10_trace_18 kc_10_65 rfl ?_
      refine v_callV (ci := 10) (F := TX10) (c_X10_finding _ _ (by assumption)) yy_X10_finding im_X10_finding se_X10_finding lk_10_66 (by assumption) (zle rfl) rfl (zle rfl) (zle rfl) (zle rfl) (zle rfl) rfl rfl (zle rfl) dX10_trace_20 rfl (zp.use ?_)
      exact v_ireturn rfl (cQ_fd hC (zi_f (fun h => hw0 h.2))) (zle rfl) (zle rfl) dX10_trace_23
