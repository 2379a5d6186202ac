/-- a new walker's rows, before it is told anything -/
noncomputable abbrev rwk (f : zf) (r : zg) (w : Nat) (c : Int32) (s : Prop) : zg := u2 (u2 (u2 (u2 r 19 w c) 23 w (zb s)) 22 w (f 9 - 1)) 24 w (-1)
noncomputable def ac_walker (f : zf) (r : zg) (c : Int32) (s : Prop) : zO := zi (0 ≤ c ∧ c ≤ f 0 - 1) (zi (f 9 = 0) (fdg (-1000005) f r) (zi (f 18 = 6) (fdg (-1000002) f r) (f 18, u1 f 18 (f 18 + 1), rz (rwk f r (tn (f 18)) c s) (tn (f 18)) (lsw (rwk f r (tn (f 18)) c s) (tn (f 27)) (tn (f 18)))))) (fdg (-1000001) f r)
theorem Nt.pred {x : Int32} {k : Nat} (h : Nt x k) (h0 : ¬ x = 0) (hk : k ≤ 2 ^ 31) : x - 1 = nI (tn x - 1) ∧ 0 < tn x := by
  have h2 := h.2
  have hp : 0 < tn x := by
    rcases Nat.eq_zero_or_pos (tn x) with z | z
    · exact absurd (by rw [h.1, z]; rfl) h0
    · exact z
  refine ⟨?_, hp⟩
  conv => lhs; rw [h.1]
  rw [show tn x = (tn x - 1) + 1 by omega, nI_pred, Nat.add_sub_cancel]
theorem rwk_k {f : zf} {r : zg} {w k : Nat} {c : Int32} {s : Prop} (h1 : k ≠ 19) (h2 : k ≠ 23) (h3 : k ≠ 22) (h4 : k ≠ 24) : rwk f r w c s k = r k := by
  unfold rwk
  rw [u2_off _ _ h4, u2_off _ _ h3, u2_off _ _ h2, u2_off _ _ h1]
theorem rwk_22 {f : zf} {r : zg} {w : Nat} {c : Int32} {s : Prop} : rwk f r w c s 22 w = f 9 - 1 := by simp [rwk, u2]
theorem rwk_ed {f : zf} {r : zg} {w : Nat} {c : Int32} {s : Prop} (hI : WkI f r) (h9 : ¬ f 9 = 0) : rwk f r w c s 22 w = nI (tn (rwk f r w c s 22 w)) ∧ tn (rwk f r w c s 22 w) < tn (f 9) ∧ tn (rwk f r w c s 22 w) < 4 ∧ rwk f r w c s 10 (tn (rwk f r w c s 22 w)) = nI (npw (rwk f r w c s) w) ∧ npw (rwk f r w c s) w ≤ 12 := by
  obtain ⟨g1, g2⟩ := hI.2.1.pred h9 (by decide)
  have g3 := hI.2.1.2
  have e : tn (rwk f r w c s 22 w) = tn (f 9) - 1 := by rw [rwk_22, g1, tn_nI (by omega)]
  have g4 := (hI.2.2.1 (tn (f 9) - 1) (by omega)).1
  have g5 := g4.2
  unfold npw
  rw [e, rwk_22, rwk_k (by decide) (by decide) (by decide) (by decide)]
  exact ⟨g1, by omega, by omega, g4.1, by omega⟩
theorem c_X11_walker {E : zE} {T : zT} {N : zN} {P : zP} {I : zI} {R : zR} (m : Nat) (ad : Nat → Nat) (c : Int32) (s : Prop) (hM : MOK T P m ad) (hI : WkI (mf N m) (mr I ad)) : zC E yX11_walker cX11_walker 5 (some .int) (zr0 3 77) [.ref m, .int c, .int (zb s)] T N P I R (mQ m ad T N P I R (ac_walker (mf N m) (mr I ad) c s)) := by
  refine zC.intro (ls := [some (.ref m), some (.int c), some (.int (zb s)), none, none]) pl_RX11 (zle rfl) 2 rfl (fun K => ?_)
  refine v_aload_0 dX11_walker_0 rfl ?_
  refine v_iload_1 dX11_walker_1 rfl ?_
  refine v_callV (ci := 11) (F := TX11) (c_X11_isCorner _ _ (MOK.t hM)) yy_X11_isCorner im_X11_isCorner se_X11_isCorner lk_11_137 (MOK.t hM) (zle rfl) rfl (zle rfl) (zle rfl) (zle rfl) (zle rfl) rfl rfl (zle rfl) dX11_walker_2 rfl (zp.use ?_)
  refine v_ifz_ne (tgt := 15) dX11_walker_5 (by decide) rfl (fun c5 => ?_) (fun c5 => ?_)
  · refine v_aload_0 dX11_walker_15 rfl ?_
    refine v_getN fl_11_184 (MOK.t hM) rfl (zle rfl) rfl dX11_walker_16 rfl ?_
    refine v_if_ne (tgt := 29) dX11_walker_19 (by decide) rfl (fun c19 => ?_) (fun c19 => ?_)
    · refine v_aload_0 dX11_walker_29 rfl ?_
      refine v_getN fl_11_128 (MOK.t hM) rfl (zle rfl) rfl dX11_walker_30 rfl ?_
      refine v_bipush (v := 6) dX11_walker_33 rfl rfl ?_
      refine v_icmp_ne (tgt := 45) dX11_walker_35 (by decide) rfl (fun c35 => ?_) (fun c35 => ?_)
      · have hw6 : tn (N 11 18 m) < 6 := Nt.lt (b := 6) hI.1 (zle rfl) c35
        refine v_aload_0 dX11_walker_45 rfl ?_
        refine v_getN fl_11_128 (MOK.t hM) rfl (zle rfl) rfl dX11_walker_46 rfl ?_
        refine v_istore_3 dX11_walker_49 rfl (zle rfl) rfl ?_
        refine v_aload_0 dX11_walker_50 rfl ?_
        refine v_getP fl_11_53 (mp_19 hM) (MOK.t hM) rfl (zle rfl) rfl dX11_walker_51 rfl ?_
        refine v_iload_3 dX11_walker_54 rfl ?_
        refine v_iload_1 dX11_walker_55 rfl ?_
        refine v_iast (j := tn (N 11 18 m)) (ma_19 hM) hI.1.1 hw6 (zle rfl) dX11_walker_56 rfl ?_
        refine v_aload_0 dX11_walker_57 rfl ?_
        refine v_getP fl_11_65 (mp_23 hM) (MOK.t hM) rfl (zle rfl) rfl dX11_walker_58 rfl ?_
        refine v_iload_3 dX11_walker_61 rfl ?_
        refine v_iload_2 dX11_walker_62 rfl ?_
        refine v_zast (j := tn (N 11 18 m)) (ma_23 hM) hI.1.1 hw6 (zle rfl) (zb_vp _) dX11_walker_63 rfl ?_
        refine v_aload_0 dX11_walker_64 rfl ?_
        refine v_getP fl_11_62 (mp_22 hM) (MOK.t hM) rfl (zle rfl) rfl dX11_walker_65 rfl ?_
        refine v_iload_3 dX11_walker_68 rfl ?_
        refine v_aload_0 dX11_walker_69 rfl ?_
        refine v_getN fl_11_184 (MOK.t hM) rfl (zle rfl) rfl dX11_walker_70 rfl ?_
        refine v_iconst (v := 1) dX11_walker_73 rfl rfl ?_
        refine v_isub dX11_walker_74 rfl ?_
        refine v_iast (j := tn (N 11 18 m)) (ma_22 hM) hI.1.1 hw6 (zle rfl) dX11_walker_75 rfl ?_
        refine v_aload_0 dX11_walker_76 rfl ?_
        refine v_getP fl_11_68 (mp_24 hM) (MOK.t hM) rfl (zle rfl) rfl dX11_walker_77 rfl ?_
        refine v_iload_3 dX11_walker_80 rfl ?_
        refine v_iconst (v := -1) dX11_walker_81 rfl rfl ?_
        refine v_iast (j := tn (N 11 18 m)) (ma_24 hM) hI.1.1 hw6 (zle rfl) dX11_walker_82 rfl ?_
        refine v_aload_0 dX11_walker_83 rfl ?_
        refine v_dup dX11_walker_84 rfl rfl ?_
        refine v_getN fl_11_128 (MOK.t hM) rfl (zle rfl) rfl dX11_walker_85 rfl ?_
        refine v_iconst (v := 1) dX11_walker_88 rfl rfl ?_
        refine v_iadd dX11_walker_89 rfl ?_
        refine v_putN fw_11_128 (MOK.t hM) rfl (zle rfl) rfl (fun h => by cases h) rfl rfl dX11_walker_90 rfl ?_
        refine v_abs (fun T1 N1 P1 I1 R1 => T = T1 ∧ u3 N 11 18 m (N 11 18 m + 1) = N1 ∧ P = P1 ∧ R = R1 ∧ mr I1 ad = rwk (mf N m) (mr I ad) (tn (N 11 18 m)) c s ∧ Mfr ad T N P I R T1 N1 P1 I1 R1) ⟨rfl, rfl, rfl, rfl, by rw [mr_set hM (by decide) rfl, mr_set hM (by decide) rfl, mr_set hM (by decide) rfl, mr_set hM (by decide) rfl]; rfl, ((((Mfr.rf.i (by decide) rfl _ _).i (by decide) rfl _ _).i (by decide) rfl _ _).i (by decide) rfl _ _).n _ _ _⟩ (fun T1 N1 P1 I1 R1 hG => ?_)
        obtain ⟨rfl, rfl, rfl, rfl, hm, hF⟩ := hG
        have hed := rwk_ed (w := tn (N 11 18 m)) (c := c) (s := s) hI c19
        rw [← hm] at hed
        obtain ⟨i1, i2, i3, i4, i5⟩ := hed
        refine v_loc (ls := [some (.ref m), some (.int c), some (.int (zb s)), some (.int (nI (tn (N 11 18 m)))), none]) (by rw [← show N 11 18 m = nI (tn (N 11 18 m)) from hI.1.1]) ?_
        refine v_aload_0 dX11_walker_93 rfl ?_
        refine v_iload_3 dX11_walker_94 rfl ?_
        refine v_callV (ci := 11) (F := TX11) (c_X11_listens (N := u3 N 11 18 m (N 11 18 m + 1)) (I := I1) m ad (tn (I1 (ad 22) (tn (N 11 18 m)))) (npw (mr I1 ad) (tn (N 11 18 m))) (tn (N 11 27 m)) (tn (N 11 18 m)) (I1 (ad 19) (tn (N 11 18 m))) hM i1 hw6 i3 i4 i5 hI.2.2.2.1.1 hI.2.2.2.1.2 rfl) yy_X11_listens im_X11_listens se_X11_listens lk_11_249 (MOK.t hM) (zle rfl) rfl (zle rfl) (zle rfl) (zle rfl) (zle rfl) rfl rfl (zle rfl) dX11_walker_95 rfl (zp.use ?_)
        refine v_istore_4 dX11_walker_98 rfl (zle rfl) rfl ?_
        refine v_iload_3 dX11_walker_100 rfl ?_
        have hzz : (lsn (mr I1 ad) (tn (I1 (ad 22) (tn (N 11 18 m)))) (npw (mr I1 ad) (tn (N 11 18 m))) (I1 (ad 19) (tn (N 11 18 m))) (tn (N 11 27 m)) 12 (I1 (ad 20) (tn (N 11 18 m)), I1 (ad 21) (tn (N 11 18 m)), I1 (ad 24) (tn (N 11 18 m)), 0)) = (lsw (rwk (mf N m) (mr I ad) (tn (N 11 18 m)) c s) (tn (N 11 27 m)) (tn (N 11 18 m))) := by
          rw [← hm]
          rfl
        have eo : ac_walker (mf N m) (mr I ad) c s = (N 11 18 m, u1 (mf N m) 18 (N 11 18 m + 1), rz (rwk (mf N m) (mr I ad) (tn (N 11 18 m)) c s) (tn (N 11 18 m)) (lsw (rwk (mf N m) (mr I ad) (tn (N 11 18 m)) c s) (tn (N 11 27 m)) (tn (N 11 18 m)))) := ((zi_t c5).trans (zi_f c19)).trans (zi_f c35)
        rw [hzz]
        generalize (lsw (rwk (mf N m) (mr I ad) (tn (N 11 18 m)) c s) (tn (N 11 27 m)) (tn (N 11 18 m))) = z at eo
        have hq := mQ_go (R := R) (v := nI (tn (N 11 18 m))) hM eo hI.1.1.symm (mf_set (N := N) (x := N 11 18 m + 1) (by decide)) (show mr (IZ I1 ad (tn (N 11 18 m)) z) ad = rz (rwk (mf N m) (mr I ad) (tn (N 11 18 m)) c s) (tn (N 11 18 m)) z by rw [mrIZ hM, hm]) (hF.iz _ z)
        exact v_ireturn rfl (hq) (zle rfl) (zle rfl) dX11_walker_101
      · refine v_aload_0 dX11_walker_38 rfl ?_
        refine v_ldc dX11_walker_39 kc_11_136 rfl ?_
        refine v_callV (ci := 11) (F := TX11) (c_X11_finding _ _ (MOK.t hM)) yy_X11_finding im_X11_finding se_X11_finding lk_11_132 (MOK.t hM) (zle rfl) rfl (zle rfl) (zle rfl) (zle rfl) (zle rfl) rfl rfl (zle rfl) dX11_walker_41 rfl (zp.use ?_)
        exact v_ireturn rfl (mQ_fd hM (((zi_t c5).trans (zi_f c19)).trans (zi_t c35))) (zle rfl) (zle rfl) dX11_walker_44
    · refine v_aload_0 dX11_walker_22 rfl ?_
      refine v_ldc dX11_walker_23 kc_11_248 rfl ?_
      refine v_callV (ci := 11) (F := TX11) (c_X11_finding _ _ (MOK.t hM)) yy_X11_finding im_X11_finding se_X11_finding lk_11_132 (MOK.t hM) (zle rfl) rfl (zle rfl) (zle rfl) (zle rfl) (zle rfl) rfl rfl (zle rfl) dX11_walker_25 rfl (zp.use ?_)
      exact v_ireturn rfl (mQ_fd hM ((zi_t c5).trans (zi_t c19))) (zle rfl) (zle rfl) dX11_walker_28
  · refine v_aload_0 dX11_walker_8 rfl ?_
    refine v_ldc dX11_walker_9 kc_11_131 rfl ?_
    refine v_callV (ci := 11) (F := TX11) (c_X11_finding _ _ (MOK.t hM)) yy_X11_finding im_X11_finding se_X11_finding lk_11_132 (MOK.t hM) (zle rfl) rfl (zle rfl) (zle rfl) (zle rfl) (zle rfl) rfl rfl (zle rfl) dX11_walker_11 rfl (zp.use ?_)
    exact v_ireturn rfl (mQ_fd hM (zi_f c5)) (zle rfl) (zle rfl) dX11_walker_14
