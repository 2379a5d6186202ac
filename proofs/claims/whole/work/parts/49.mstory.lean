/-- the reference's numbers while a text is read -/
abbrev NS (N : zN) (m p n : Nat) : zN := u3 (u3 N 11 33 m (nI p)) 11 32 m (nI n)
theorem NS_1 (N : zN) (m p n q j : Nat) : u3 (u3 (NS N m p n) 11 33 m (nI q)) 11 32 m (nI j) = NS N m q j := by
  funext c k a
  unfold NS u3
  by_cases h : c = 11 ∧ k = 32 ∧ a = m
  · rw [if_pos h, if_pos h]
  · rw [if_neg h, if_neg h, if_neg h]
    by_cases h2 : c = 11 ∧ k = 33 ∧ a = m
    · rw [if_pos h2, if_pos h2]
    · rw [if_neg h2, if_neg h2, if_neg h2]
theorem NS_2 (N : zN) (m p n q : Nat) : u3 (NS N m p n) 11 33 m (nI q) = NS N m q n := by
  funext c k a
  unfold NS u3
  by_cases h2 : c = 11 ∧ k = 33 ∧ a = m
  · rw [if_pos h2, if_neg (by omega), if_pos h2]
  · rw [if_neg h2]
    by_cases h : c = 11 ∧ k = 32 ∧ a = m
    · rw [if_pos h, if_pos h]
    · rw [if_neg h, if_neg h, if_neg h2, if_neg h2]
theorem NS33 {N : zN} {m p n : Nat} : NS N m p n 11 33 m = nI p := by simp [NS, u3]
theorem NS32 {N : zN} {m p n : Nat} : NS N m p n 11 32 m = nI n := u3_self
theorem mfNS {N : zN} {m p n : Nat} : mf (NS N m p n) m = mf N m := by rw [mf_scr (by decide), mf_scr (by decide)]
def OffI (ad : Nat → Nat) (I I' : zI) : Prop := ∀ a, (∀ k, k < 44 → zr 11 k = true → a ≠ ad k) → I' a = I a
theorem OffI.i {ad : Nat → Nat} {I I' : zI} (h : OffI ad I I') {k : Nat} (hk : k < 44) (hz : zr 11 k = true) (j : Nat) (v : Int32) : OffI ad I (u2 I' (ad k) j v) := fun a ha => by
  rw [u2_off _ _ (ha k hk hz)]; exact h a ha
def RsN (ad : Nat → Nat) (I I' : zI) (n : Nat) (v : Nat → Nat → Int32) : Prop := OffI ad I I' ∧ ∀ i, i < n → I' (ad 34) i = v i 0 ∧ I' (ad 35) i = v i 1 ∧ I' (ad 36) i = v i 2 ∧ I' (ad 37) i = v i 3 ∧ I' (ad 38) i = v i 4
def neQ (m : Nat) (ad : Nat → Nat) (T : zT) (N : zN) (P : zP) (I : zI) (R : zR) (o : zO) : Option Value → zT → zN → zP → zI → zR → Prop := fun v T' N' P' I' R' => T' = T ∧ P' = P ∧ R' = R ∧ v = some (.int o.1) ∧ mf (u3 N' 11 17 m 0) m = o.2.1 ∧ mr I' ad = o.2.2 ∧ OffI ad I I' ∧ ∀ c k a, c ≠ 11 → N' c k a = N c k a
theorem NS_o {N : zN} {m p n k : Nat} {x : Int32} : ∀ c j a, c ≠ 11 → u3 (NS N m p n) 11 k m x c j a = N c j a := fun c j a h => by simp [NS, u3, h]
theorem neQ_fd {m : Nat} {ad : Nat → Nat} {T : zT} {N : zN} {P : zP} {I I' : zI} {R : zR} {o : zO} {w : Int32} {p n : Nat} (ho : o = fdg w (u1 (mf N m) 17 0) (mr I ad)) (hr : mr I' ad = mr I ad) (hF : OffI ad I I') : neQ m ad T N P I R o (some (.int w)) T (u3 (NS N m p n) 11 31 m (NS N m p n 11 31 m + 1)) P I' R := by
  subst ho
  refine ⟨rfl, rfl, rfl, rfl, ?_, hr, hF, NS_o⟩
  rw [mf_set (by decide), mf_set (by decide), mfNS, u1_comm _ (by decide)]
  rfl
theorem nI_s0 {n : Nat} (h : n < 2 ^ 30) : ¬ nI (n + 1) = 0 := fun e => by
  have := congrArg Int32.toInt e
  rw [nI_toInt (by omega)] at this
  have h1 : (0 : Int32).toInt = 0 := rfl
  omega
theorem cp_X11_newEdition {E : zE} {T : zT} {N : zN} {P : zP} {I : zI} {R : zR} {m : Nat} {ad : Nat → Nat} {n : Nat} {K : zK E yX11_newEdition cX11_newEdition 4 (some .int) (zr0 3 65)} (hM : MOK T P m ad) (h9 : Nt (N 11 9 m) 5) (h94 : ¬ N 11 9 m = 4) (hn : n ≤ 12) (hn0 : ¬ n = 0) (hs : stf (mf N m) (mr I ad) = (n, (tn (N 11 17 m)))) :
    ∀ k j (I2 : zI) (o3 : Option Value), k + j = n → mr I2 ad = ue (mr I ad) (tn (N 11 9 m)) n (stv (mf N m) (mr I ad)) j → RsN ad I I2 n (stv (mf N m) (mr I ad)) → V K (zQf K (neQ m ad T N P I R (ac_story (mf N m) (mr I ad)))) T (NS N m (tn (N 11 17 m)) n) P I2 R 0 0 88 [some (.ref m), some (.int 1), some (.int (nI j)), o3] [] := by
  have he : (tn (N 11 9 m)) < 4 := Nt.lt (b := 4) h9 (zle rfl) h94
  intro k
  induction k with
  | zero =>
    intro j I2 o3 hk hm hF
    obtain rfl : j = n := by omega
    have eo : ac_story (mf N m) (mr I ad) = (N 11 9 m, u1 (u1 (mf N m) 17 0) 9 (N 11 9 m + 1), ue (mr I ad) (tn (N 11 9 m)) j (stv (mf N m) (mr I ad)) j) := by
      unfold ac_story
      rw [hs]
      exact (zi_f hn0).trans (zi_f h94)
    refine v_iload_2 dX11_newEdition_88 rfl ?_
    refine v_aload_0 dX11_newEdition_89 rfl ?_
    refine v_getN fl_11_164 (MOK.t hM) rfl (zle rfl) rfl dX11_newEdition_90 rfl ?_
    refine v_top NS32 ?_
    refine v_icmp_ge_t (n := 172) (nI_le (a := j) (b := j) (by omega) (by omega)) dX11_newEdition_93 (by decide) ?_
    refine v_aload_0 dX11_newEdition_172 rfl ?_
    refine v_dup dX11_newEdition_173 rfl rfl ?_
    refine v_getN fl_11_184 (MOK.t hM) rfl (zle rfl) rfl dX11_newEdition_174 rfl ?_
    refine v_iconst (v := 1) dX11_newEdition_177 rfl rfl ?_
    refine v_iadd dX11_newEdition_178 rfl ?_
    refine v_putN fw_11_184 (MOK.t hM) rfl (zle rfl) rfl (fun h => by cases h) rfl rfl dX11_newEdition_179 rfl ?_
    refine v_aload_0 dX11_newEdition_182 rfl ?_
    refine v_getN fl_11_184 (MOK.t hM) rfl (zle rfl) rfl dX11_newEdition_183 rfl ?_
    refine v_top u3_self ?_
    refine v_iconst (v := 1) dX11_newEdition_186 rfl rfl ?_
    refine v_isub dX11_newEdition_187 rfl ?_
    refine v_top (i_ps _) ?_
    exact v_ireturn rfl (by
      rw [eo]
      refine ⟨rfl, rfl, rfl, rfl, ?_, hm, hF.1, NS_o⟩
      rw [mf_set (by decide), mf_set (by decide), mfNS, u1_comm _ (by decide)]
      rfl) (zle rfl) (zle rfl) dX11_newEdition_188
  | succ k ih =>
    intro j I2 o3 hk hm hF
    obtain ⟨p0, p1, p2, p3, p4⟩ := hF.2 j (by omega)
    refine v_iload_2 dX11_newEdition_88 rfl ?_
    refine v_aload_0 dX11_newEdition_89 rfl ?_
    refine v_getN fl_11_164 (MOK.t hM) rfl (zle rfl) rfl dX11_newEdition_90 rfl ?_
    refine v_top NS32 ?_
    refine v_icmp_ge_f (tgt := 172) (nI_ge (a := j) (b := n) (by omega) (by omega)) dX11_newEdition_93 (by decide) rfl ?_
    refine v_bipush (v := 12) dX11_newEdition_96 rfl rfl ?_
    refine v_aload_0 dX11_newEdition_98 rfl ?_
    refine v_getN fl_11_184 (MOK.t hM) rfl (zle rfl) rfl dX11_newEdition_99 rfl ?_
    refine v_top h9.1 ?_
    refine v_imul dX11_newEdition_102 rfl ?_
    refine v_iload_2 dX11_newEdition_103 rfl ?_
    refine v_iadd dX11_newEdition_104 rfl ?_
    refine v_top (i12 (tn (N 11 9 m)) j) ?_
    refine v_istore_3 dX11_newEdition_105 rfl (zle rfl) rfl ?_
    refine v_aload_0 dX11_newEdition_106 rfl ?_
    refine v_getP fl_11_35 (mp_11 hM) (MOK.t hM) rfl (zle rfl) rfl dX11_newEdition_107 rfl ?_
    refine v_iload_3 dX11_newEdition_110 rfl ?_
    refine v_aload_0 dX11_newEdition_111 rfl ?_
    refine v_getP fl_11_86 (mp_34 hM) (MOK.t hM) rfl (zle rfl) rfl dX11_newEdition_112 rfl ?_
    refine v_iload_2 dX11_newEdition_115 rfl ?_
    refine v_iald (j := j) (ma_34 hM) rfl (by omega) (zle rfl) dX11_newEdition_116 rfl ?_
    refine v_top (show _ = (stv (mf N m) (mr I ad)) j 0 by exact p0) ?_
    refine v_iast (j := 12 * (tn (N 11 9 m)) + j) (ma_11 hM) rfl (by omega) (zle rfl) dX11_newEdition_117 rfl ?_
    refine v_aload_0 dX11_newEdition_118 rfl ?_
    refine v_getP fl_11_38 (mp_12 hM) (MOK.t hM) rfl (zle rfl) rfl dX11_newEdition_119 rfl ?_
    refine v_iload_3 dX11_newEdition_122 rfl ?_
    refine v_aload_0 dX11_newEdition_123 rfl ?_
    refine v_getP fl_11_89 (mp_35 hM) (MOK.t hM) rfl (zle rfl) rfl dX11_newEdition_124 rfl ?_
    refine v_iload_2 dX11_newEdition_127 rfl ?_
    refine v_iald (j := j) (ma_35 hM) rfl (by omega) (zle rfl) dX11_newEdition_128 rfl ?_
    refine v_top (show _ = (stv (mf N m) (mr I ad)) j 1 by rw [u2_na (hM.ne (by decide) (by decide) rfl rfl (by decide))]; exact p1) ?_
    refine v_iast (j := 12 * (tn (N 11 9 m)) + j) (ma_12 hM) rfl (by omega) (zle rfl) dX11_newEdition_129 rfl ?_
    refine v_aload_0 dX11_newEdition_130 rfl ?_
    refine v_getP fl_11_41 (mp_13 hM) (MOK.t hM) rfl (zle rfl) rfl dX11_newEdition_131 rfl ?_
    refine v_iload_3 dX11_newEdition_134 rfl ?_
    refine v_aload_0 dX11_newEdition_135 rfl ?_
    refine v_getP fl_11_92 (mp_36 hM) (MOK.t hM) rfl (zle rfl) rfl dX11_newEdition_136 rfl ?_
    refine v_iload_2 dX11_newEdition_139 rfl ?_
    refine v_iald (j := j) (ma_36 hM) rfl (by omega) (zle rfl) dX11_newEdition_140 rfl ?_
    refine v_top (show _ = (stv (mf N m) (mr I ad)) j 2 by rw [u2_na (hM.ne (by decide) (by decide) rfl rfl (by decide)), u2_na (hM.ne (by decide) (by decide) rfl rfl (by decide))]; exact p2) ?_
    refine v_iast (j := 12 * (tn (N 11 9 m)) + j) (ma_13 hM) rfl (by omega) (zle rfl) dX11_newEdition_141 rfl ?_
    refine v_aload_0 dX11_newEdition_142 rfl ?_
    refine v_getP fl_11_44 (mp_14 hM) (MOK.t hM) rfl (zle rfl) rfl dX11_newEdition_143 rfl ?_
    refine v_iload_3 dX11_newEdition_146 rfl ?_
    refine v_aload_0 dX11_newEdition_147 rfl ?_
    refine v_getP fl_11_95 (mp_37 hM) (MOK.t hM) rfl (zle rfl) rfl dX11_newEdition_148 rfl ?_
    refine v_iload_2 dX11_newEdition_151 rfl ?_
    refine v_iald (j := j) (ma_37 hM) rfl (by omega) (zle rfl) dX11_newEdition_152 rfl ?_
    refine v_top (show _ = (stv (mf N m) (mr I ad)) j 3 by rw [u2_na (hM.ne (by decide) (by decide) rfl rfl (by decide)), u2_na (hM.ne (by decide) (by decide) rfl rfl (by decide)), u2_na (hM.ne (by decide) (by decide) rfl rfl (by decide))]; exact p3) ?_
    refine v_iast (j := 12 * (tn (N 11 9 m)) + j) (ma_14 hM) rfl (by omega) (zle rfl) dX11_newEdition_153 rfl ?_
    refine v_aload_0 dX11_newEdition_154 rfl ?_
    refine v_getP fl_11_47 (mp_15 hM) (MOK.t hM) rfl (zle rfl) rfl dX11_newEdition_155 rfl ?_
    refine v_iload_3 dX11_newEdition_158 rfl ?_
    refine v_aload_0 dX11_newEdition_159 rfl ?_
    refine v_getP fl_11_98 (mp_38 hM) (MOK.t hM) rfl (zle rfl) rfl dX11_newEdition_160 rfl ?_
    refine v_iload_2 dX11_newEdition_163 rfl ?_
    refine v_iald (j := j) (ma_38 hM) rfl (by omega) (zle rfl) dX11_newEdition_164 rfl ?_
    refine v_top (show _ = (stv (mf N m) (mr I ad)) j 4 by rw [u2_na (hM.ne (by decide) (by decide) rfl rfl (by decide)), u2_na (hM.ne (by decide) (by decide) rfl rfl (by decide)), u2_na (hM.ne (by decide) (by decide) rfl rfl (by decide)), u2_na (hM.ne (by decide) (by decide) rfl rfl (by decide))]; exact p4) ?_
    refine v_iast (j := 12 * (tn (N 11 9 m)) + j) (ma_15 hM) rfl (by omega) (zle rfl) dX11_newEdition_165 rfl ?_
    refine v_iinc_2 dX11_newEdition_166 (nI_1 j) rfl (zle rfl) rfl ?_
    refine v_goto (n := 88) dX11_newEdition_169 (by decide) ?_
    exact ih (j + 1) _ _ (by omega) (by rw [mr_set hM (by decide) rfl, mr_set hM (by decide) rfl, mr_set hM (by decide) rfl, mr_set hM (by decide) rfl, mr_set hM (by decide) rfl, hm, ue_1]) ⟨((((hF.1.i (by decide) rfl _ _).i (by decide) rfl _ _).i (by decide) rfl _ _).i (by decide) rfl _ _).i (by decide) rfl _ _, fun i hi => by rw [u2_na (hM.ne (by decide) (by decide) rfl rfl (by decide)), u2_na (hM.ne (by decide) (by decide) rfl rfl (by decide)), u2_na (hM.ne (by decide) (by decide) rfl rfl (by decide)), u2_na (hM.ne (by decide) (by decide) rfl rfl (by decide)), u2_na (hM.ne (by decide) (by decide) rfl rfl (by decide)), u2_na (hM.ne (by decide) (by decide) rfl rfl (by decide)), u2_na (hM.ne (by decide) (by decide) rfl rfl (by decide)), u2_na (hM.ne (by decide) (by decide) rfl rfl (by decide)), u2_na (hM.ne (by decide) (by decide) rfl rfl (by decide)), u2_na (hM.ne (by decide) (by decide) rfl rfl (by decide)), u2_na (hM.ne (by decide) (by decide) rfl rfl (by decide)), u2_na (hM.ne (by decide) (by decide) rfl rfl (by decide)), u2_na (hM.ne (by decide) (by decide) rfl rfl (by decide)), u2_na (hM.ne (by decide) (by decide) rfl rfl (by decide)), u2_na (hM.ne (by decide) (by decide) rfl rfl (by decide)), u2_na (hM.ne (by decide) (by decide) rfl rfl (by decide)), u2_na (hM.ne (by decide) (by decide) rfl rfl (by decide)), u2_na (hM.ne (by decide) (by decide) rfl rfl (by decide)), u2_na (hM.ne (by decide) (by decide) rfl rfl (by decide)), u2_na (hM.ne (by decide) (by decide) rfl rfl (by decide)), u2_na (hM.ne (by decide) (by decide) rfl rfl (by decide)), u2_na (hM.ne (by decide) (by decide) rfl rfl (by decide)), u2_na (hM.ne (by decide) (by decide) rfl rfl (by decide)), u2_na (hM.ne (by decide) (by decide) rfl rfl (by decide)), u2_na (hM.ne (by decide) (by decide) rfl rfl (by decide))]; exact hF.2 i hi⟩
theorem en_X11_newEdition {E : zE} {T : zT} {N : zN} {P : zP} {I : zI} {R : zR} {m : Nat} {ad : Nat → Nat} {n : Nat} {I1 : zI} {K : zK E yX11_newEdition cX11_newEdition 4 (some .int) (zr0 3 65)} (hM : MOK T P m ad) (h9 : Nt (N 11 9 m) 5) (hn : n ≤ 12) (hn0 : ¬ n = 0) (hs : stf (mf N m) (mr I ad) = (n, (tn (N 11 17 m)))) (hm : mr I1 ad = mr I ad) (hF : RsN ad I I1 n (stv (mf N m) (mr I ad))) : V K (zQf K (neQ m ad T N P I R (ac_story (mf N m) (mr I ad)))) T (NS N m (tn (N 11 17 m)) n) P I1 R 0 0 58 [some (.ref m), some (.int 1), none, none] [] := by
  refine v_aload_0 dX11_newEdition_58 rfl ?_
  refine v_getN fl_11_184 (MOK.t hM) rfl (zle rfl) rfl dX11_newEdition_59 rfl ?_
  refine v_iconst (v := 4) dX11_newEdition_62 rfl rfl ?_
  refine v_icmp_ne (tgt := 73) dX11_newEdition_63 (by decide) rfl (fun c63 => ?_) (fun c63 => ?_)
  · refine v_aload_0 dX11_newEdition_73 rfl ?_
    refine v_getP fl_11_32 (mp_10 hM) (MOK.t hM) rfl (zle rfl) rfl dX11_newEdition_74 rfl ?_
    refine v_aload_0 dX11_newEdition_77 rfl ?_
    refine v_getN fl_11_184 (MOK.t hM) rfl (zle rfl) rfl dX11_newEdition_78 rfl ?_
    refine v_top h9.1 ?_
    refine v_aload_0 dX11_newEdition_81 rfl ?_
    refine v_getN fl_11_164 (MOK.t hM) rfl (zle rfl) rfl dX11_newEdition_82 rfl ?_
    refine v_top NS32 ?_
    refine v_iast (j := (tn (N 11 9 m))) (ma_10 hM) rfl (Nt.lt (b := 4) h9 (zle rfl) c63) (zle rfl) dX11_newEdition_85 rfl ?_
    refine v_iconst (v := 0) dX11_newEdition_86 rfl rfl ?_
    refine v_istore_2 dX11_newEdition_87 rfl (zle rfl) rfl ?_
    exact cp_X11_newEdition hM h9 c63 hn hn0 hs n 0 _ _ (by omega) (by rw [mr_set hM (by decide) rfl, hm, ue_0]) ⟨hF.1.i (by decide) rfl _ _, fun i hi => by rw [u2_na (hM.ne (by decide) (by decide) rfl rfl (by decide)), u2_na (hM.ne (by decide) (by decide) rfl rfl (by decide)), u2_na (hM.ne (by decide) (by decide) rfl rfl (by decide)), u2_na (hM.ne (by decide) (by decide) rfl rfl (by decide)), u2_na (hM.ne (by decide) (by decide) rfl rfl (by decide))]; exact hF.2 i hi⟩
  · refine v_aload_0 dX11_newEdition_66 rfl ?_
    refine v_ldc dX11_newEdition_67 kc_11_136 rfl ?_
    refine v_callV (ci := 11) (F := TX11) (c_X11_finding _ _ (MOK.t hM)) yy_X11_finding im_X11_finding se_X11_finding lk_11_132 (MOK.t hM) (zle rfl) rfl (zle rfl) (zle rfl) (zle rfl) (zle rfl) rfl rfl (zle rfl) dX11_newEdition_69 rfl (zp.use ?_)
    exact v_ireturn rfl (neQ_fd (by unfold ac_story; rw [hs]; exact (zi_f hn0).trans (zi_t c63)) hm hF.1) (zle rfl) (zle rfl) dX11_newEdition_72
theorem lp_X11_newEdition {E : zE} {T : zT} {N : zN} {P : zP} {I : zI} {R : zR} {m : Nat} {ad : Nat → Nat} {K : zK E yX11_newEdition cX11_newEdition 4 (some .int) (zr0 3 65)} (hM : MOK T P m ad) (h0 : Nt (N 11 0 m) 9) (h9 : Nt (N 11 9 m) 5) (h17 : Nt (N 11 17 m) 201) (h16 : ∀ j, j < tn (N 11 17 m) → Nt (I (ad 16) j) 256) :
    ∀ k n (I1 : zI), k + n = 12 → stf (mf N m) (mr I ad) = sto (pB (mf N m) (mr I ad)) (tn (N 11 0 m)) (tn (N 11 17 m)) k n → mr I1 ad = mr I ad → RsN ad I I1 n (stv (mf N m) (mr I ad)) → V K (zQf K (neQ m ad T N P I R (ac_story (mf N m) (mr I ad)))) T (NS N m (plc (pB (mf N m) (mr I ad)) (tn (N 11 0 m)) (n)) n) P I1 R 0 0 34 [some (.ref m), some (.int 1), none, none] [] := by
  have h0b := h0.2
  have h17b := h17.2
  have hBt := pB_t (f := mf N m) (r := mr I ad) h16
  intro k
  induction k with
  | zero =>
    intro n I1 hk hs hm hF
    obtain rfl : n = 12 := by omega
    refine v_aload_0 dX11_newEdition_34 rfl ?_
    refine v_callV (ci := 11) (F := TX11) (c_X11_readsPiece_12 (N := NS N m (plc (pB (mf N m) (mr I ad)) (tn (N 11 0 m)) (12)) 12) m ad hM NS32) yy_X11_readsPiece im_X11_readsPiece se_X11_readsPiece lk_11_180 (MOK.t hM) (zle rfl) rfl (zle rfl) (zle rfl) (zle rfl) (zle rfl) rfl rfl (zle rfl) dX11_newEdition_35 rfl (zp.use ?_)
    refine v_istore_1 dX11_newEdition_38 rfl (zle rfl) rfl ?_
    refine v_goto (n := 12) dX11_newEdition_39 (by decide) ?_
    refine v_iload_1 dX11_newEdition_12 rfl ?_
    refine v_if_eq_t (n := 42) (by decide) dX11_newEdition_13 (by decide) ?_
    refine v_iload_1 dX11_newEdition_42 rfl ?_
    refine v_if_ne_f (tgt := 58) (by decide) dX11_newEdition_43 (by decide) rfl ?_
    refine v_aload_0 dX11_newEdition_46 rfl ?_
    refine v_ldc dX11_newEdition_47 kc_11_183 rfl ?_
    refine v_aload_0 dX11_newEdition_49 rfl ?_
    refine v_getN fl_11_167 (MOK.t hM) rfl (zle rfl) rfl dX11_newEdition_50 rfl ?_
    refine v_top NS33 ?_
    refine v_isub dX11_newEdition_53 rfl ?_
    refine v_callV (ci := 11) (F := TX11) (c_X11_finding _ _ (MOK.t hM)) yy_X11_finding im_X11_finding se_X11_finding lk_11_132 (MOK.t hM) (zle rfl) rfl (zle rfl) (zle rfl) (zle rfl) (zle rfl) rfl rfl (zle rfl) dX11_newEdition_54 rfl (zp.use ?_)
    exact v_ireturn rfl (neQ_fd (by unfold ac_story; rw [hs]; exact zi_t rfl) hm hF.1) (zle rfl) (zle rfl) dX11_newEdition_57
  | succ k ih =>
    intro n I1 hk hs hm hF
    have hpb := plc_b (pB (mf N m) (mr I ad)) (tn (N 11 0 m)) n
    have hpc := plc_b (pB (mf N m) (mr I ad)) (tn (N 11 0 m)) (n + 1)
    refine v_aload_0 dX11_newEdition_34 rfl ?_
    refine v_callV (ci := 11) (F := TX11) (c_X11_readsPiece (N := NS N m (plc (pB (mf N m) (mr I ad)) (tn (N 11 0 m)) (n)) n) (I := I1) m ad (pB (mf N m) (mr I ad)) (tn (N 11 0 m)) n (plc (pB (mf N m) (mr I ad)) (tn (N 11 0 m)) (n)) hM h17 (by rw [mfNS, hm]) hBt h0.1 (by omega) (by omega) (by omega) NS32 NS33) yy_X11_readsPiece im_X11_readsPiece se_X11_readsPiece lk_11_180 (MOK.t hM) (zle rfl) rfl (zle rfl) (zle rfl) (zle rfl) (zle rfl) rfl rfl (zle rfl) dX11_newEdition_35 rfl (fun v1 T2 N2 P2 I2 R2 hq => ?_)
    obtain ⟨rfl, rfl, rfl, hR, hq⟩ := hq
    rcases hq with ⟨gg, rfl, rfl⟩ | ⟨gg, rfl, rfl, v0, v1, v2, v3, v4⟩
    · rw [NS_2]
      rw [sto_f gg] at hs
      have hm1 : mr I2 ad = mr I ad := hR.1.trans hm
      have hF1 : OffI ad I I2 := fun a ha => (hR.2.2 a ha).trans (hF.1 a ha)
      refine v_istore_1 dX11_newEdition_38 rfl (zle rfl) rfl ?_
      refine v_goto (n := 12) dX11_newEdition_39 (by decide) ?_
      refine v_iload_1 dX11_newEdition_12 rfl ?_
      refine v_if_eq_t (n := 42) (by decide) dX11_newEdition_13 (by decide) ?_
      refine v_iload_1 dX11_newEdition_42 rfl ?_
      refine v_if_ne_f (tgt := 58) (by decide) dX11_newEdition_43 (by decide) rfl ?_
      refine v_aload_0 dX11_newEdition_46 rfl ?_
      refine v_ldc dX11_newEdition_47 kc_11_183 rfl ?_
      refine v_aload_0 dX11_newEdition_49 rfl ?_
      refine v_getN fl_11_167 (MOK.t hM) rfl (zle rfl) rfl dX11_newEdition_50 rfl ?_
      refine v_top NS33 ?_
      refine v_isub dX11_newEdition_53 rfl ?_
      refine v_callV (ci := 11) (F := TX11) (c_X11_finding _ _ (MOK.t hM)) yy_X11_finding im_X11_finding se_X11_finding lk_11_132 (MOK.t hM) (zle rfl) rfl (zle rfl) (zle rfl) (zle rfl) (zle rfl) rfl rfl (zle rfl) dX11_newEdition_54 rfl (zp.use ?_)
      exact v_ireturn rfl (neQ_fd (by unfold ac_story; rw [hs]; exact zi_t rfl) hm1 hF1) (zle rfl) (zle rfl) dX11_newEdition_57
    · rw [NS_1]
      have hs2 := hs
      have hle : (plc (pB (mf N m) (mr I ad)) (tn (N 11 0 m)) (n + 1)) ≤ (tn (N 11 17 m)) := rpg_L gg
      have hm1 : mr I2 ad = mr I ad := hR.1.trans hm
      have hF2 : RsN ad I I2 (n + 1) (stv (mf N m) (mr I ad)) := ⟨fun a ha => (hR.2.2 a ha).trans (hF.1 a ha), fun i hi => by
        by_cases e : i = n
        · subst e; exact ⟨v0, v1, v2, v3, v4⟩
        · rw [hR.2.1 34 i (by decide) (by decide) e, hR.2.1 35 i (by decide) (by decide) e, hR.2.1 36 i (by decide) (by decide) e, hR.2.1 37 i (by decide) (by decide) e, hR.2.1 38 i (by decide) (by decide) e]; exact hF.2 i (by omega)⟩
      refine v_istore_1 dX11_newEdition_38 rfl (zle rfl) rfl ?_
      refine v_goto (n := 12) dX11_newEdition_39 (by decide) ?_
      refine v_iload_1 dX11_newEdition_12 rfl ?_
      refine v_if_eq_f (tgt := 42) (by decide) dX11_newEdition_13 (by decide) rfl ?_
      refine v_aload_0 dX11_newEdition_16 rfl ?_
      refine v_getN fl_11_164 (MOK.t hM) rfl (zle rfl) rfl dX11_newEdition_17 rfl ?_
      refine v_top NS32 ?_
      refine v_if_eq_f (tgt := 34) (nI_s0 (by omega)) dX11_newEdition_20 (by decide) rfl ?_
      refine v_aload_0 dX11_newEdition_23 rfl ?_
      refine v_getN fl_11_167 (MOK.t hM) rfl (zle rfl) rfl dX11_newEdition_24 rfl ?_
      refine v_top NS33 ?_
      refine v_aload_0 dX11_newEdition_27 rfl ?_
      refine v_getN fl_11_159 (MOK.t hM) rfl (zle rfl) rfl dX11_newEdition_28 rfl ?_
      refine v_top h17.1 ?_
      by_cases hL : (plc (pB (mf N m) (mr I ad)) (tn (N 11 0 m)) (n + 1)) = (tn (N 11 17 m))
      · refine v_icmp_ge_t (n := 42) (nI_le (a := (tn (N 11 17 m))) (b := (plc (pB (mf N m) (mr I ad)) (tn (N 11 0 m)) (n + 1))) (by omega) (by omega)) dX11_newEdition_31 (by decide) ?_
        refine v_iload_1 dX11_newEdition_42 rfl ?_
        refine v_if_ne_t (n := 58) (by decide) dX11_newEdition_43 (by decide) ?_
        rw [sto_e gg hL] at hs
        rw [show rpe (pB (mf N m) (mr I ad)) (tn (N 11 0 m)) (plc (pB (mf N m) (mr I ad)) (tn (N 11 0 m)) (n)) = (tn (N 11 17 m)) from hL]
        exact en_X11_newEdition hM h9 (by omega) (by omega) hs hm1 hF2
      · refine v_icmp_ge_f (tgt := 42) (nI_ge (a := (plc (pB (mf N m) (mr I ad)) (tn (N 11 0 m)) (n + 1))) (b := (tn (N 11 17 m))) (by omega) (by omega)) dX11_newEdition_31 (by decide) rfl ?_
        rw [sto_n gg hL] at hs
        exact ih (n + 1) I2 (by omega) hs hm1 hF2
theorem c_X11_newEdition {E : zE} {T : zT} {N : zN} {P : zP} {I : zI} {R : zR} (m : Nat) (ad : Nat → Nat)  (hM : MOK T P m ad) (h0 : Nt (N 11 0 m) 9) (h9 : Nt (N 11 9 m) 5) (h17 : Nt (N 11 17 m) 201) (h16 : ∀ j, j < tn (N 11 17 m) → Nt (I (ad 16) j) 256) : zC E yX11_newEdition cX11_newEdition 4 (some .int) (zr0 3 65) [.ref m] T N P I R (neQ m ad T N P I R (ac_story (mf N m) (mr I ad))) := by
  refine zC.intro (ls := [some (.ref m), none, none, none]) pl_RX11 (zle rfl) 3 rfl (fun K => ?_)
  refine v_aload_0 dX11_newEdition_0 rfl ?_
  refine v_iconst (v := 0) dX11_newEdition_1 rfl rfl ?_
  refine v_putN fw_11_164 (MOK.t hM) rfl (zle rfl) rfl (fun h => by cases h) rfl rfl dX11_newEdition_2 rfl ?_
  refine v_aload_0 dX11_newEdition_5 rfl ?_
  refine v_iconst (v := 0) dX11_newEdition_6 rfl rfl ?_
  refine v_putN fw_11_167 (MOK.t hM) rfl (zle rfl) rfl (fun h => by cases h) rfl rfl dX11_newEdition_7 rfl ?_
  rw [show u3 (u3 N 11 32 m 0) 11 33 m 0 = NS N m 0 0 by rw [show (0 : Int32) = nI 0 from rfl, ← NS_2 N m 0 0 0]; funext c k a; unfold NS u3; by_cases h : c = 11 ∧ k = 33 ∧ a = m <;> by_cases h2 : c = 11 ∧ k = 32 ∧ a = m <;> simp [h, h2]]
  refine v_iconst (v := 1) dX11_newEdition_10 rfl rfl ?_
  refine v_istore_1 dX11_newEdition_11 rfl (zle rfl) rfl ?_
  refine v_iload_1 dX11_newEdition_12 rfl ?_
  refine v_if_eq_f (tgt := 42) (by decide) dX11_newEdition_13 (by decide) rfl ?_
  refine v_aload_0 dX11_newEdition_16 rfl ?_
  refine v_getN fl_11_164 (MOK.t hM) rfl (zle rfl) rfl dX11_newEdition_17 rfl ?_
  refine v_top NS32 ?_
  refine v_if_eq_t (n := 34) rfl dX11_newEdition_20 (by decide) ?_
  exact lp_X11_newEdition hM h0 h9 h17 h16 12 0 I (by omega) rfl rfl ⟨fun _ _ => rfl, fun i hi => absurd hi (by omega)⟩
theorem c_X11_story {E : zE} {T : zT} {N : zN} {P : zP} {I : zI} {R : zR} (m : Nat) (ad : Nat → Nat)  (hM : MOK T P m ad) (h0 : Nt (N 11 0 m) 9) (h9 : Nt (N 11 9 m) 5) (h17 : Nt (N 11 17 m) 201) (h16 : ∀ j, j < tn (N 11 17 m) → Nt (I (ad 16) j) 256) : zC E yX11_story cX11_story 2 (some .int) (zr0 4 88) [.ref m] T N P I R (mQ m ad T N P I R (ac_story (mf N m) (mr I ad))) := by
  refine zC.intro (ls := [some (.ref m), none]) pl_RX11 (zle rfl) 1 rfl (fun K => ?_)
  refine v_aload_0 dX11_story_0 rfl ?_
  refine v_callV (ci := 11) (F := TX11) (c_X11_newEdition m ad hM h0 h9 h17 h16) yy_X11_newEdition im_X11_newEdition se_X11_newEdition lk_11_187 (MOK.t hM) (zle rfl) rfl (zle rfl) (zle rfl) (zle rfl) (zle rfl) rfl rfl (zle rfl) dX11_story_1 rfl (fun v1 T1 N1 P1 I1 R1 hq => ?_)
  obtain ⟨rfl, rfl, rfl, rfl, e1, e2, e3, e4⟩ := hq
  refine v_istore_1 dX11_story_4 rfl (zle rfl) rfl ?_
  refine v_aload_0 dX11_story_5 rfl ?_
  refine v_iconst (v := 0) dX11_story_6 rfl rfl ?_
  refine v_putN fw_11_159 (MOK.t hM) rfl (zle rfl) rfl (fun h => by cases h) rfl rfl dX11_story_7 rfl ?_
  refine v_iload_1 dX11_story_10 rfl ?_
  exact v_ireturn rfl (⟨rfl, hM, e1, e2, rfl, rfl, fun c k a h => by rw [← e4 c k a h]; simp [u3, h], fun _ _ => rfl, fun a _ ha => e3 a ha⟩) (zle rfl) (zle rfl) dX11_story_11
