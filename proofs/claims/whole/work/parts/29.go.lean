abbrev rz (r : zg) (w : Nat) (z : zl) : zg := u2 (u2 (u2 r 20 w z.1) 21 w z.2.1) 24 w z.2.2.1
/-- where a way leads from a corner -/
noncomputable def oth (r : zg) (y : Nat) (c : Int32) : Int32 := zi (r 4 y = c) (r 5 y) (r 4 y)
/-- a walker that took t more comes to a corner -/
noncomputable def cmz (f : zf) (r : zg) (w : Nat) (t c : Int32) : zl := lsn r (tn (r 22 w)) (npw r w) c (tn (f 27)) 12 (r 20 w, t, r 24 w, 0)
noncomputable def ac_go (f : zf) (r : zg) (w y : Int32) : zO := zi ((0 ≤ w ∧ w ≤ f 18 - 1) ∧ (0 ≤ y ∧ y ≤ f 3 - 1)) (zi (ovr r (tn (r 22 (tn w))) (r 20 (tn w)) (npw r (tn w))) (fdg (-1000005) f r) (zi ((r 4 (tn y) = r 19 (tn w) ∨ r 5 (tn y) = r 19 (tn w)) ∧ ¬ bt (r 8 (tn y)) (tn (f 27)) = true) (zi (r 7 (tn y) = 0 ∨ ¬ r 23 (tn w) = 0) ((cmz f r (tn w) (r 21 (tn w) + r 6 (tn y)) (oth r (tn y) (r 19 (tn w)))).2.2.2, f, rz (u2 (u2 (u2 r 21 (tn w) (r 21 (tn w) + r 6 (tn y))) 19 (tn w) (oth r (tn y) (r 19 (tn w)))) 26 (tn w) 0) (tn w) (cmz f r (tn w) (r 21 (tn w) + r 6 (tn y)) (oth r (tn y) (r 19 (tn w))))) (fdg (-1000003) f r)) (fdg (-1000004) f r))) (fdg (-1000001) f r)
theorem i_cs (a b : Int32) : a + b - a = b := by rw [Int32.add_comm, Int32.add_sub_cancel]
theorem oth_sum {r : zg} {y : Nat} {c : Int32} (h : r 4 y = c ∨ r 5 y = c) : r 4 y + r 5 y - c = oth r y c := by
  unfold oth
  by_cases h4 : r 4 y = c
  · rw [zi_t h4, ← h4, i_cs]
  · rw [zi_f h4]
    rcases h with h | h
    · exact absurd h h4
    · rw [← h, Int32.add_sub_cancel]
theorem c_X11_go {E : zE} {T : zT} {N : zN} {P : zP} {I : zI} {R : zR} (m : Nat) (ad : Nat → Nat) (w y : Int32) (hM : MOK T P m ad) (hI : WkI (mf N m) (mr I ad)) (h3 : Nt (N 11 3 m) 15) : zC E yX11_go cX11_go 4 (some .int) (zr0 4 99) [.ref m, .int w, .int y] T N P I R (mQ m ad T N P I R (ac_go (mf N m) (mr I ad) w y)) := by
  refine zC.intro (ls := [some (.ref m), some (.int w), some (.int y), none]) pl_RX11 (zle rfl) 1 rfl (fun K => ?_)
  refine v_aload_0 dX11_go_0 rfl ?_
  refine v_iload_1 dX11_go_1 rfl ?_
  refine v_callV (ci := 11) (F := TX11) (c_X11_isWalker _ _ (MOK.t hM)) yy_X11_isWalker im_X11_isWalker se_X11_isWalker lk_11_252 (MOK.t hM) (zle rfl) rfl (zle rfl) (zle rfl) (zle rfl) (zle rfl) rfl rfl (zle rfl) dX11_go_2 rfl (zp.use ?_)
  refine v_ifz_eq (tgt := 16) dX11_go_5 (by decide) rfl (fun c5 => ?_) (fun c5 => ?_)
  · refine v_aload_0 dX11_go_16 rfl ?_
    refine v_ldc dX11_go_17 kc_11_131 rfl ?_
    refine v_callV (ci := 11) (F := TX11) (c_X11_finding _ _ (MOK.t hM)) yy_X11_finding im_X11_finding se_X11_finding lk_11_132 (MOK.t hM) (zle rfl) rfl (zle rfl) (zle rfl) (zle rfl) (zle rfl) rfl rfl (zle rfl) dX11_go_19 rfl (zp.use ?_)
    exact v_ireturn rfl (mQ_fd hM (zi_f (fun h => c5 h.1))) (zle rfl) (zle rfl) dX11_go_22
  · refine v_aload_0 dX11_go_8 rfl ?_
    refine v_iload_2 dX11_go_9 rfl ?_
    refine v_callV (ci := 11) (F := TX11) (c_X11_isWay _ _ (MOK.t hM)) yy_X11_isWay im_X11_isWay se_X11_isWay lk_11_141 (MOK.t hM) (zle rfl) rfl (zle rfl) (zle rfl) (zle rfl) (zle rfl) rfl rfl (zle rfl) dX11_go_10 rfl (zp.use ?_)
    refine v_ifz_ne (tgt := 23) dX11_go_13 (by decide) rfl (fun c13 => ?_) (fun c13 => ?_)
    · obtain ⟨w, hw, rfl⟩ := fnd (c := N 11 18 m) hI.1 (by decide) c5
      obtain ⟨y, hy, rfl⟩ := fnd (c := N 11 3 m) h3 (by decide) c13
      have h3b := h3.2
      obtain ⟨i1, i2, i3, i4, i5, i6⟩ := hI.ed hw
      have tw : tn (nI w) = w := tn_nI (by omega)
      have ty : tn (nI y) = y := tn_nI (by omega)
      refine v_aload_0 dX11_go_23 rfl ?_
      refine v_iload_1 dX11_go_24 rfl ?_
      refine v_callV (ci := 11) (F := TX11) (c_X11_isDone m ad (tn (I (ad 22) w)) (npw (mr I ad) w) w hM (by omega) i1 i3 i4 i5) yy_X11_isDone im_X11_isDone se_X11_isDone lk_11_255 (MOK.t hM) (zle rfl) rfl (zle rfl) (zle rfl) (zle rfl) (zle rfl) rfl rfl (zle rfl) dX11_go_25 rfl (zp.use ?_)
      refine v_ifz_eq (tgt := 38) dX11_go_28 (by decide) rfl (fun c28 => ?_) (fun c28 => ?_)
      · refine v_aload_0 dX11_go_38 rfl ?_
        refine v_getP fl_11_53 (mp_19 hM) (MOK.t hM) rfl (zle rfl) rfl dX11_go_39 rfl ?_
        refine v_iload_1 dX11_go_42 rfl ?_
        refine v_iald (j := w) (ma_19 hM) rfl (by omega) (zle rfl) dX11_go_43 rfl ?_
        refine v_istore_3 dX11_go_44 rfl (zle rfl) rfl ?_
        have key : (I (ad 4) y = I (ad 19) w ∨ I (ad 5) y = I (ad 19) w) → ¬ bt (I (ad 8) y) (tn (N 11 27 m)) = true → (I (ad 7) y = 0 ∨ ¬ I (ad 23) w = 0) → V K (zQf K (mQ m ad T N P I R (ac_go (mf N m) (mr I ad) (nI w) (nI y)))) T N P I R 0 0 114 [some (.ref m), some (.int (nI w)), some (.int (nI y)), some (.int (I (ad 19) w))] [] := by
          intro cE cB cK
          have cN : (I (ad 4) y = I (ad 19) w ∨ I (ad 5) y = I (ad 19) w) ∧ ¬ bt (I (ad 8) y) (tn (N 11 27 m)) = true := ⟨cE, cB⟩
          refine v_aload_0 dX11_go_114 rfl ?_
          refine v_getP fl_11_59 (mp_21 hM) (MOK.t hM) rfl (zle rfl) rfl dX11_go_115 rfl ?_
          refine v_iload_1 dX11_go_118 rfl ?_
          refine v_dup2 dX11_go_119 rfl rfl rfl ?_
          refine v_iald (j := w) (ma_21 hM) rfl (by omega) (zle rfl) dX11_go_120 rfl ?_
          refine v_aload_0 dX11_go_121 rfl ?_
          refine v_getP fl_11_22 (mp_6 hM) (MOK.t hM) rfl (zle rfl) rfl dX11_go_122 rfl ?_
          refine v_iload_2 dX11_go_125 rfl ?_
          refine v_iald (j := y) (ma_6 hM) rfl (by omega) (zle rfl) dX11_go_126 rfl ?_
          refine v_iadd dX11_go_127 rfl ?_
          refine v_iast (j := w) (ma_21 hM) rfl (by omega) (zle rfl) dX11_go_128 rfl ?_
          have ne : ∀ k, k < 44 → zr 11 k = true → k ≠ 21 → (u2 I (ad 21) w (I (ad 21) w + I (ad 6) y)) (ad k) = I (ad k) := fun k h1 h2 h3 => u2_off _ _ (hM.ne h1 (by decide) h2 rfl h3)
          have hl : lsn (mr (u2 I (ad 21) w (I (ad 21) w + I (ad 6) y)) ad) (tn (I (ad 22) w)) (npw (mr I ad) w) (oth (mr I ad) y (I (ad 19) w)) (tn (N 11 27 m)) 12 ((u2 I (ad 21) w (I (ad 21) w + I (ad 6) y)) (ad 20) w, (u2 I (ad 21) w (I (ad 21) w + I (ad 6) y)) (ad 21) w, (u2 I (ad 21) w (I (ad 21) w + I (ad 6) y)) (ad 24) w, 0) = cmz (mf N m) (mr I ad) w (I (ad 21) w + I (ad 6) y) (oth (mr I ad) y (I (ad 19) w)) := by
            rw [ne 20 (by decide) rfl (by decide), ne 24 (by decide) rfl (by decide), u2_self, mr_set hM (by decide) rfl]
            unfold cmz
            exact lsn_congr (r := mr I ad) (r' := u2 (mr I ad) 21 w (I (ad 21) w + I (ad 6) y)) (e := tn (I (ad 22) w)) (np := npw (mr I ad) w) (d := tn (N 11 27 m)) (c := oth (mr I ad) y (I (ad 19) w)) rfl rfl rfl rfl rfl 12 (I (ad 20) w, I (ad 21) w + I (ad 6) y, I (ad 24) w, 0)
          have eo : ac_go (mf N m) (mr I ad) (nI w) (nI y) = ((cmz (mf N m) (mr I ad) w (I (ad 21) w + I (ad 6) y) (oth (mr I ad) y (I (ad 19) w))).2.2.2, mf N m, rz (u2 (u2 (u2 (mr I ad) 21 w (I (ad 21) w + I (ad 6) y)) 19 w (oth (mr I ad) y (I (ad 19) w))) 26 w 0) w (cmz (mf N m) (mr I ad) w (I (ad 21) w + I (ad 6) y) (oth (mr I ad) y (I (ad 19) w)))) := by
            refine ((((zi_t ⟨c5, c13⟩).trans (zi_f (by rw [tw]; exact c28))).trans (zi_t (by rw [tw, ty]; exact cN))).trans (zi_t (by rw [tw, ty]; exact cK))).trans ?_
            rw [tw, ty]
            rfl
          refine v_aload_0 dX11_go_129 rfl ?_
          refine v_iload_1 dX11_go_130 rfl ?_
          refine v_aload_0 dX11_go_131 rfl ?_
          refine v_getP fl_11_16 (mp_4 hM) (MOK.t hM) rfl (zle rfl) rfl dX11_go_132 rfl ?_
          refine v_iload_2 dX11_go_135 rfl ?_
          refine v_iald (j := y) (ma_4 hM) rfl (by omega) (zle rfl) dX11_go_136 rfl ?_
          refine v_top (show (u2 I (ad 21) w (I (ad 21) w + I (ad 6) y)) (ad 4) y = mr I ad 4 y by rw [ne 4 (by decide) rfl (by decide)]; rfl) ?_
          refine v_aload_0 dX11_go_137 rfl ?_
          refine v_getP fl_11_19 (mp_5 hM) (MOK.t hM) rfl (zle rfl) rfl dX11_go_138 rfl ?_
          refine v_iload_2 dX11_go_141 rfl ?_
          refine v_iald (j := y) (ma_5 hM) rfl (by omega) (zle rfl) dX11_go_142 rfl ?_
          refine v_top (show (u2 I (ad 21) w (I (ad 21) w + I (ad 6) y)) (ad 5) y = mr I ad 5 y by rw [ne 5 (by decide) rfl (by decide)]; rfl) ?_
          refine v_iadd dX11_go_143 rfl ?_
          refine v_iload_3 dX11_go_144 rfl ?_
          refine v_isub dX11_go_145 rfl ?_
          refine v_top (oth_sum (r := mr I ad) cE) ?_
          refine v_callV (ci := 11) (F := TX11) (c_X11_comes (I := (u2 I (ad 21) w (I (ad 21) w + I (ad 6) y))) m ad (tn (I (ad 22) w)) (npw (mr I ad) w) (tn (N 11 27 m)) w (oth (mr I ad) y (I (ad 19) w)) hM (by rw [ne 22 (by decide) rfl (by decide)]; exact i1) (by omega) i3 (by rw [ne 10 (by decide) rfl (by decide)]; exact i4) i5 hI.2.2.2.1.1 hI.2.2.2.1.2) yy_X11_comes im_X11_comes se_X11_comes lk_11_258 (MOK.t hM) (zle rfl) rfl (zle rfl) (zle rfl) (zle rfl) (zle rfl) rfl rfl (zle rfl) dX11_go_146 rfl (zp.use ?_)
          exact v_ireturn rfl (by
            rw [hl]
            exact mQ_go hM eo rfl rfl (by rw [mrIZ hM, mr_set hM (by decide) rfl, mr_set hM (by decide) rfl, mr_set hM (by decide) rfl]) (((Mfr.rf.i (by decide) rfl _ _).i (by decide) rfl _ _).i (by decide) rfl _ _ |>.iz w _)) (zle rfl) (zle rfl) dX11_go_149
        have key2 : (I (ad 4) y = I (ad 19) w ∨ I (ad 5) y = I (ad 19) w) → V K (zQf K (mQ m ad T N P I R (ac_go (mf N m) (mr I ad) (nI w) (nI y)))) T N P I R 0 0 65 [some (.ref m), some (.int (nI w)), some (.int (nI y)), some (.int (I (ad 19) w))] [] := by
          intro cE
          refine v_aload_0 dX11_go_65 rfl ?_
          refine v_getP fl_11_29 (mp_8 hM) (MOK.t hM) rfl (zle rfl) rfl dX11_go_66 rfl ?_
          refine v_iload_2 dX11_go_69 rfl ?_
          refine v_iald (j := y) (ma_8 hM) rfl (by omega) (zle rfl) dX11_go_70 rfl ?_
          refine v_aload_0 dX11_go_71 rfl ?_
          refine v_getN fl_11_245 (MOK.t hM) rfl (zle rfl) rfl dX11_go_72 rfl ?_
          refine v_top hI.2.2.2.1.1 ?_
          refine v_ishr dX11_go_75 rfl ?_
          refine v_iconst (v := 1) dX11_go_76 rfl rfl ?_
          refine v_iand dX11_go_77 rfl ?_
          refine v_iconst (v := 1) dX11_go_78 rfl rfl ?_
          refine v_icmp_ne (tgt := 89) dX11_go_79 (by decide) rfl (fun c79 => ?_) (fun c79 => ?_)
          · have cB : ¬ bt (I (ad 8) y) (tn (N 11 27 m)) = true := fun h => c79 ((bt_sh1 (by have := hI.2.2.2.1.2; show tn (N 11 27 m) < 32; have h7 : tn (mf N m 27) < 7 := this; have : tn (N 11 27 m) < 7 := h7; omega)).mpr h)
            refine v_aload_0 dX11_go_89 rfl ?_
            refine v_getP fl_11_25 (mp_7 hM) (MOK.t hM) rfl (zle rfl) rfl dX11_go_90 rfl ?_
            refine v_iload_2 dX11_go_93 rfl ?_
            refine v_zald (j := y) (ma_7 hM) rfl (by omega) (zle rfl) dX11_go_94 rfl ?_
            refine v_if_eq (tgt := 114) dX11_go_95 (by decide) rfl (fun c95 => ?_) (fun c95 => ?_)
            · exact key cE cB (Or.inl c95)
            · refine v_aload_0 dX11_go_98 rfl ?_
              refine v_getP fl_11_65 (mp_23 hM) (MOK.t hM) rfl (zle rfl) rfl dX11_go_99 rfl ?_
              refine v_iload_1 dX11_go_102 rfl ?_
              refine v_zald (j := w) (ma_23 hM) rfl (by omega) (zle rfl) dX11_go_103 rfl ?_
              refine v_if_ne (tgt := 114) dX11_go_104 (by decide) rfl (fun c104 => ?_) (fun c104 => ?_)
              · exact key cE cB (Or.inr c104)
              · refine v_aload_0 dX11_go_107 rfl ?_
                refine v_ldc dX11_go_108 kc_11_198 rfl ?_
                refine v_callV (ci := 11) (F := TX11) (c_X11_finding _ _ (MOK.t hM)) yy_X11_finding im_X11_finding se_X11_finding lk_11_132 (MOK.t hM) (zle rfl) rfl (zle rfl) (zle rfl) (zle rfl) (zle rfl) rfl rfl (zle rfl) dX11_go_110 rfl (zp.use ?_)
                exact v_ireturn rfl (mQ_fd hM ((((zi_t ⟨c5, c13⟩).trans (zi_f (by rw [tw]; exact c28))).trans (zi_t (by rw [tw, ty]; exact ⟨cE, cB⟩))).trans (zi_f (by rw [tw, ty]; exact fun h => h.elim c95 (fun h => h c104))))) (zle rfl) (zle rfl) dX11_go_113
          · have cB : bt (I (ad 8) y) (tn (N 11 27 m)) = true := (bt_sh1 (by have h7 : tn (N 11 27 m) < 7 := hI.2.2.2.1.2; omega)).mp c79
            refine v_aload_0 dX11_go_82 rfl ?_
            refine v_ldc dX11_go_83 kc_11_158 rfl ?_
            refine v_callV (ci := 11) (F := TX11) (c_X11_finding _ _ (MOK.t hM)) yy_X11_finding im_X11_finding se_X11_finding lk_11_132 (MOK.t hM) (zle rfl) rfl (zle rfl) (zle rfl) (zle rfl) (zle rfl) rfl rfl (zle rfl) dX11_go_85 rfl (zp.use ?_)
            exact v_ireturn rfl (mQ_fd hM (((zi_t ⟨c5, c13⟩).trans (zi_f (by rw [tw]; exact c28))).trans (zi_f (by rw [tw, ty]; exact fun h => h.2 cB)))) (zle rfl) (zle rfl) dX11_go_88
        refine v_aload_0 dX11_go_45 rfl ?_
        refine v_getP fl_11_16 (mp_4 hM) (MOK.t hM) rfl (zle rfl) rfl dX11_go_46 rfl ?_
        refine v_iload_2 dX11_go_49 rfl ?_
        refine v_iald (j := y) (ma_4 hM) rfl (by omega) (zle rfl) dX11_go_50 rfl ?_
        refine v_iload_3 dX11_go_51 rfl ?_
        refine v_icmp_eq (tgt := 65) dX11_go_52 (by decide) rfl (fun c52 => ?_) (fun c52 => ?_)
        · exact key2 (Or.inl c52)
        · refine v_aload_0 dX11_go_55 rfl ?_
          refine v_getP fl_11_19 (mp_5 hM) (MOK.t hM) rfl (zle rfl) rfl dX11_go_56 rfl ?_
          refine v_iload_2 dX11_go_59 rfl ?_
          refine v_iald (j := y) (ma_5 hM) rfl (by omega) (zle rfl) dX11_go_60 rfl ?_
          refine v_iload_3 dX11_go_61 rfl ?_
          refine v_icmp_ne (tgt := 82) dX11_go_62 (by decide) rfl (fun c62 => ?_) (fun c62 => ?_)
          · refine v_aload_0 dX11_go_82 rfl ?_
            refine v_ldc dX11_go_83 kc_11_158 rfl ?_
            refine v_callV (ci := 11) (F := TX11) (c_X11_finding _ _ (MOK.t hM)) yy_X11_finding im_X11_finding se_X11_finding lk_11_132 (MOK.t hM) (zle rfl) rfl (zle rfl) (zle rfl) (zle rfl) (zle rfl) rfl rfl (zle rfl) dX11_go_85 rfl (zp.use ?_)
            exact v_ireturn rfl (mQ_fd hM (((zi_t ⟨c5, c13⟩).trans (zi_f (by rw [tw]; exact c28))).trans (zi_f (by rw [tw, ty]; exact fun h => h.1.elim c52 c62)))) (zle rfl) (zle rfl) dX11_go_88
          · exact key2 (Or.inr c62)
      · refine v_aload_0 dX11_go_31 rfl ?_
        refine v_ldc dX11_go_32 kc_11_248 rfl ?_
        refine v_callV (ci := 11) (F := TX11) (c_X11_finding _ _ (MOK.t hM)) yy_X11_finding im_X11_finding se_X11_finding lk_11_132 (MOK.t hM) (zle rfl) rfl (zle rfl) (zle rfl) (zle rfl) (zle rfl) rfl rfl (zle rfl) dX11_go_34 rfl (zp.use ?_)
        exact v_ireturn rfl (mQ_fd hM ((zi_t ⟨c5, c13⟩).trans (zi_t (by rw [tw]; exact c28)))) (zle rfl) (zle rfl) dX11_go_37
    · refine v_aload_0 dX11_go_16 rfl ?_
      refine v_ldc dX11_go_17 kc_11_131 rfl ?_
      refine v_callV (ci := 11) (F := TX11) (c_X11_finding _ _ (MOK.t hM)) yy_X11_finding im_X11_finding se_X11_finding lk_11_132 (MOK.t hM) (zle rfl) rfl (zle rfl) (zle rfl) (zle rfl) (zle rfl) rfl rfl (zle rfl) dX11_go_19 rfl (zp.use ?_)
      exact v_ireturn rfl (mQ_fd hM (zi_f (fun h => c13 h.2))) (zle rfl) (zle rfl) dX11_go_22
