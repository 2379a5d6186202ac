noncomputable def ac_corner (f : zf) (r : zg) (x y : Int32) : zO := zi ((0 ≤ x ∧ x ≤ 99) ∧ (0 ≤ y ∧ y ≤ 99)) (zi (f 0 = 8) (fdg (-1000002) f r) (f 0, u1 f 0 (f 0 + 1), u2 (u2 r 1 (tn (f 0)) x) 2 (tn (f 0)) y)) (fdg (-1000001) f r)
noncomputable def ac_way (f : zf) (r : zg) (a b l : Int32) (s : Prop) : zO := zi ((0 ≤ a ∧ a ≤ f 0 - 1) ∧ (0 ≤ b ∧ b ≤ f 0 - 1) ∧ ¬ a = b ∧ (1 ≤ l ∧ l ≤ 20)) (zi (f 3 = 14) (fdg (-1000002) f r) (f 3, u1 f 3 (f 3 + 1), u2 (u2 (u2 (u2 r 4 (tn (f 3)) a) 5 (tn (f 3)) b) 6 (tn (f 3)) l) 7 (tn (f 3)) (zb s))) (fdg (-1000001) f r)
noncomputable def ac_shut (f : zf) (r : zg) (w d : Int32) : zO := zi ((0 ≤ w ∧ w ≤ f 3 - 1) ∧ (0 ≤ d ∧ d ≤ 127)) (r 8 (tn w), f, u2 r 8 (tn w) d) (fdg (-1000001) f r)
noncomputable def ac_told (f : zf) (r : zg) (w : Int32) : zO := zi (w = 0) (f 0, f, r) (zi (w = 1) (f 3, f, r) (zi (w = 2) (f 9, f, r) (zi (w = 3) (f 18, f, r) (zi (w = 4) (f 27, f, r) (zi (w = 5) (f 17, f, r) (zi (w = 6) (f 31, f, r) (fdg (-1000001) f r)))))))
noncomputable def ac_write (f : zf) (r : zg) (s i v : Int32) : zO := zi (0 ≤ s ∧ s ≤ 3) (zi (r 28 (tn s) = 0) (fdg (-1000006) f r) (zi (0 ≤ i ∧ i ≤ r 29 (tn s) - 1) (r 30 (12 * tn s + tn i), f, u2 r 30 (12 * tn s + tn i) (v <<< ((32 - r 28 (tn s)) &&& 31) >>> ((32 - r 28 (tn s)) &&& 31))) (fdg (-1000001) f r))) (fdg (-1000001) f r)
theorem c_X11_corner {E : zE} {T : zT} {N : zN} {P : zP} {I : zI} {R : zR} (m : Nat) (ad : Nat → Nat) (x y : Int32) (hM : MOK T P m ad) (h0 : Nt (N 11 0 m) 9) : zC E yX11_corner cX11_corner 3 (some .int) (zr0 1 22) [.ref m, .int x, .int y] T N P I R (mQ m ad T N P I R (ac_corner (mf N m) (mr I ad) x y)) := by
  refine zC.intro (ls := [some (.ref m), some (.int x), some (.int y)]) pl_RX11 (zle rfl) 0 rfl (fun K => ?_)
  refine v_iload_1 dX11_corner_0 rfl ?_
  refine v_iconst (v := 0) dX11_corner_1 rfl rfl ?_
  refine v_bipush (v := 99) dX11_corner_2 rfl rfl ?_
  refine v_callS (c_X11_within _ _ _) yy_X11_within st_X11_within lk_11_121 (zle rfl) (zle rfl) (zle rfl) (zle rfl) rfl rfl (zle rfl) dX11_corner_4 rfl (zp.use ?_)
  refine v_ifz_eq (tgt := 20) dX11_corner_7 (by decide) rfl (fun c7 => ?_) (fun c7 => ?_)
  · refine v_aload_0 dX11_corner_20 rfl ?_
    refine v_ldc dX11_corner_21 kc_11_131 rfl ?_
    refine v_callV (ci := 11) (F := TX11) (c_X11_finding _ _ (MOK.t hM)) yy_X11_finding im_X11_finding se_X11_finding lk_11_132 (MOK.t hM) (zle rfl) rfl (zle rfl) (zle rfl) (zle rfl) (zle rfl) rfl rfl (zle rfl) dX11_corner_23 rfl (zp.use ?_)
    exact v_ireturn rfl (mQ_fd hM (zi_f (fun h => c7 h.1))) (zle rfl) (zle rfl) dX11_corner_26
  · refine v_iload_2 dX11_corner_10 rfl ?_
    refine v_iconst (v := 0) dX11_corner_11 rfl rfl ?_
    refine v_bipush (v := 99) dX11_corner_12 rfl rfl ?_
    refine v_callS (c_X11_within _ _ _) yy_X11_within st_X11_within lk_11_121 (zle rfl) (zle rfl) (zle rfl) (zle rfl) rfl rfl (zle rfl) dX11_corner_14 rfl (zp.use ?_)
    refine v_ifz_ne (tgt := 27) dX11_corner_17 (by decide) rfl (fun c17 => ?_) (fun c17 => ?_)
    · refine v_aload_0 dX11_corner_27 rfl ?_
      refine v_getN fl_11_118 (MOK.t hM) rfl (zle rfl) rfl dX11_corner_28 rfl ?_
      refine v_bipush (v := 8) dX11_corner_31 rfl rfl ?_
      refine v_icmp_ne (tgt := 43) dX11_corner_33 (by decide) rfl (fun c33 => ?_) (fun c33 => ?_)
      · refine v_aload_0 dX11_corner_43 rfl ?_
        refine v_getP fl_11_9 (mp_1 hM) (MOK.t hM) rfl (zle rfl) rfl dX11_corner_44 rfl ?_
        refine v_aload_0 dX11_corner_47 rfl ?_
        refine v_getN fl_11_118 (MOK.t hM) rfl (zle rfl) rfl dX11_corner_48 rfl ?_
        refine v_iload_1 dX11_corner_51 rfl ?_
        refine v_iast (j := tn (N 11 0 m)) (ma_1 hM) h0.1 (h0.lt (zle rfl) c33) (zle rfl) dX11_corner_52 rfl ?_
        refine v_aload_0 dX11_corner_53 rfl ?_
        refine v_getP fl_11_13 (mp_2 hM) (MOK.t hM) rfl (zle rfl) rfl dX11_corner_54 rfl ?_
        refine v_aload_0 dX11_corner_57 rfl ?_
        refine v_getN fl_11_118 (MOK.t hM) rfl (zle rfl) rfl dX11_corner_58 rfl ?_
        refine v_iload_2 dX11_corner_61 rfl ?_
        refine v_iast (j := tn (N 11 0 m)) (ma_2 hM) h0.1 (h0.lt (zle rfl) c33) (zle rfl) dX11_corner_62 rfl ?_
        refine v_aload_0 dX11_corner_63 rfl ?_
        refine v_dup dX11_corner_64 rfl rfl ?_
        refine v_getN fl_11_118 (MOK.t hM) rfl (zle rfl) rfl dX11_corner_65 rfl ?_
        refine v_iconst (v := 1) dX11_corner_68 rfl rfl ?_
        refine v_iadd dX11_corner_69 rfl ?_
        refine v_putN fw_11_118 (MOK.t hM) rfl (zle rfl) rfl (fun h => by cases h) rfl rfl dX11_corner_70 rfl ?_
        refine v_aload_0 dX11_corner_73 rfl ?_
        refine v_getN fl_11_118 (MOK.t hM) rfl (zle rfl) rfl dX11_corner_74 rfl ?_
        rw [u3_self]
        refine v_iconst (v := 1) dX11_corner_77 rfl rfl ?_
        refine v_isub dX11_corner_78 rfl ?_
        exact v_ireturn rfl (mQ_go hM ((zi_t ⟨c7, c17⟩).trans (zi_f c33)) (i_ps _) (mf_set (by decide)) (by rw [mr_set hM (by decide) rfl, mr_set hM (by decide) rfl] <;> rfl) (Mfr.n (Mfr.i (Mfr.i Mfr.rf (by decide) rfl _ _) (by decide) rfl _ _) _ _ _)) (zle rfl) (zle rfl) dX11_corner_79
      · refine v_aload_0 dX11_corner_36 rfl ?_
        refine v_ldc dX11_corner_37 kc_11_136 rfl ?_
        refine v_callV (ci := 11) (F := TX11) (c_X11_finding _ _ (MOK.t hM)) yy_X11_finding im_X11_finding se_X11_finding lk_11_132 (MOK.t hM) (zle rfl) rfl (zle rfl) (zle rfl) (zle rfl) (zle rfl) rfl rfl (zle rfl) dX11_corner_39 rfl (zp.use ?_)
        exact v_ireturn rfl (mQ_fd hM ((zi_t ⟨c7, c17⟩).trans (zi_t c33))) (zle rfl) (zle rfl) dX11_corner_42
    · refine v_aload_0 dX11_corner_20 rfl ?_
      refine v_ldc dX11_corner_21 kc_11_131 rfl ?_
      refine v_callV (ci := 11) (F := TX11) (c_X11_finding _ _ (MOK.t hM)) yy_X11_finding im_X11_finding se_X11_finding lk_11_132 (MOK.t hM) (zle rfl) rfl (zle rfl) (zle rfl) (zle rfl) (zle rfl) rfl rfl (zle rfl) dX11_corner_23 rfl (zp.use ?_)
      exact v_ireturn rfl (mQ_fd hM (zi_f (fun h => c17 h.2))) (zle rfl) (zle rfl) dX11_corner_26
theorem c_X11_way {E : zE} {T : zT} {N : zN} {P : zP} {I : zI} {R : zR} (m : Nat) (ad : Nat → Nat) (a b l : Int32) (s : Prop) (hM : MOK T P m ad) (h3 : Nt (N 11 3 m) 15) : zC E yX11_way cX11_way 5 (some .int) (zr0 2 43) [.ref m, .int a, .int b, .int l, .int (zb s)] T N P I R (mQ m ad T N P I R (ac_way (mf N m) (mr I ad) a b l s)) := by
  refine zC.intro (ls := [some (.ref m), some (.int a), some (.int b), some (.int l), some (.int (zb s))]) pl_RX11 (zle rfl) 0 rfl (fun K => ?_)
  refine v_aload_0 dX11_way_0 rfl ?_
  refine v_iload_1 dX11_way_1 rfl ?_
  refine v_callV (ci := 11) (F := TX11) (c_X11_isCorner _ _ (MOK.t hM)) yy_X11_isCorner im_X11_isCorner se_X11_isCorner lk_11_137 (MOK.t hM) (zle rfl) rfl (zle rfl) (zle rfl) (zle rfl) (zle rfl) rfl rfl (zle rfl) dX11_way_2 rfl (zp.use ?_)
  refine v_ifz_eq (tgt := 31) dX11_way_5 (by decide) rfl (fun c5 => ?_) (fun c5 => ?_)
  · refine v_aload_0 dX11_way_31 rfl ?_
    refine v_ldc dX11_way_32 kc_11_131 rfl ?_
    refine v_callV (ci := 11) (F := TX11) (c_X11_finding _ _ (MOK.t hM)) yy_X11_finding im_X11_finding se_X11_finding lk_11_132 (MOK.t hM) (zle rfl) rfl (zle rfl) (zle rfl) (zle rfl) (zle rfl) rfl rfl (zle rfl) dX11_way_34 rfl (zp.use ?_)
    exact v_ireturn rfl (mQ_fd hM (zi_f (fun h => c5 h.1))) (zle rfl) (zle rfl) dX11_way_37
  · refine v_aload_0 dX11_way_8 rfl ?_
    refine v_iload_2 dX11_way_9 rfl ?_
    refine v_callV (ci := 11) (F := TX11) (c_X11_isCorner _ _ (MOK.t hM)) yy_X11_isCorner im_X11_isCorner se_X11_isCorner lk_11_137 (MOK.t hM) (zle rfl) rfl (zle rfl) (zle rfl) (zle rfl) (zle rfl) rfl rfl (zle rfl) dX11_way_10 rfl (zp.use ?_)
    refine v_ifz_eq (tgt := 31) dX11_way_13 (by decide) rfl (fun c13 => ?_) (fun c13 => ?_)
    · refine v_aload_0 dX11_way_31 rfl ?_
      refine v_ldc dX11_way_32 kc_11_131 rfl ?_
      refine v_callV (ci := 11) (F := TX11) (c_X11_finding _ _ (MOK.t hM)) yy_X11_finding im_X11_finding se_X11_finding lk_11_132 (MOK.t hM) (zle rfl) rfl (zle rfl) (zle rfl) (zle rfl) (zle rfl) rfl rfl (zle rfl) dX11_way_34 rfl (zp.use ?_)
      exact v_ireturn rfl (mQ_fd hM (zi_f (fun h => c13 h.2.1))) (zle rfl) (zle rfl) dX11_way_37
    · refine v_iload_1 dX11_way_16 rfl ?_
      refine v_iload_2 dX11_way_17 rfl ?_
      refine v_icmp_eq (tgt := 31) dX11_way_18 (by decide) rfl (fun c18 => ?_) (fun c18 => ?_)
      · refine v_aload_0 dX11_way_31 rfl ?_
        refine v_ldc dX11_way_32 kc_11_131 rfl ?_
        refine v_callV (ci := 11) (F := TX11) (c_X11_finding _ _ (MOK.t hM)) yy_X11_finding im_X11_finding se_X11_finding lk_11_132 (MOK.t hM) (zle rfl) rfl (zle rfl) (zle rfl) (zle rfl) (zle rfl) rfl rfl (zle rfl) dX11_way_34 rfl (zp.use ?_)
        exact v_ireturn rfl (mQ_fd hM (zi_f (fun h => h.2.2.1 c18))) (zle rfl) (zle rfl) dX11_way_37
      · refine v_iload_3 dX11_way_21 rfl ?_
        refine v_iconst (v := 1) dX11_way_22 rfl rfl ?_
        refine v_bipush (v := 20) dX11_way_23 rfl rfl ?_
        refine v_callS (c_X11_within _ _ _) yy_X11_within st_X11_within lk_11_121 (zle rfl) (zle rfl) (zle rfl) (zle rfl) rfl rfl (zle rfl) dX11_way_25 rfl (zp.use ?_)
        refine v_ifz_ne (tgt := 38) dX11_way_28 (by decide) rfl (fun c28 => ?_) (fun c28 => ?_)
        · refine v_aload_0 dX11_way_38 rfl ?_
          refine v_getN fl_11_125 (MOK.t hM) rfl (zle rfl) rfl dX11_way_39 rfl ?_
          refine v_bipush (v := 14) dX11_way_42 rfl rfl ?_
          refine v_icmp_ne (tgt := 54) dX11_way_44 (by decide) rfl (fun c44 => ?_) (fun c44 => ?_)
          · refine v_aload_0 dX11_way_54 rfl ?_
            refine v_getP fl_11_16 (mp_4 hM) (MOK.t hM) rfl (zle rfl) rfl dX11_way_55 rfl ?_
            refine v_aload_0 dX11_way_58 rfl ?_
            refine v_getN fl_11_125 (MOK.t hM) rfl (zle rfl) rfl dX11_way_59 rfl ?_
            refine v_iload_1 dX11_way_62 rfl ?_
            refine v_iast (j := tn (N 11 3 m)) (ma_4 hM) h3.1 (h3.lt (zle rfl) c44) (zle rfl) dX11_way_63 rfl ?_
            refine v_aload_0 dX11_way_64 rfl ?_
            refine v_getP fl_11_19 (mp_5 hM) (MOK.t hM) rfl (zle rfl) rfl dX11_way_65 rfl ?_
            refine v_aload_0 dX11_way_68 rfl ?_
            refine v_getN fl_11_125 (MOK.t hM) rfl (zle rfl) rfl dX11_way_69 rfl ?_
            refine v_iload_2 dX11_way_72 rfl ?_
            refine v_iast (j := tn (N 11 3 m)) (ma_5 hM) h3.1 (h3.lt (zle rfl) c44) (zle rfl) dX11_way_73 rfl ?_
            refine v_aload_0 dX11_way_74 rfl ?_
            refine v_getP fl_11_22 (mp_6 hM) (MOK.t hM) rfl (zle rfl) rfl dX11_way_75 rfl ?_
            refine v_aload_0 dX11_way_78 rfl ?_
            refine v_getN fl_11_125 (MOK.t hM) rfl (zle rfl) rfl dX11_way_79 rfl ?_
            refine v_iload_3 dX11_way_82 rfl ?_
            refine v_iast (j := tn (N 11 3 m)) (ma_6 hM) h3.1 (h3.lt (zle rfl) c44) (zle rfl) dX11_way_83 rfl ?_
            refine v_aload_0 dX11_way_84 rfl ?_
            refine v_getP fl_11_25 (mp_7 hM) (MOK.t hM) rfl (zle rfl) rfl dX11_way_85 rfl ?_
            refine v_aload_0 dX11_way_88 rfl ?_
            refine v_getN fl_11_125 (MOK.t hM) rfl (zle rfl) rfl dX11_way_89 rfl ?_
            refine v_iload_4 dX11_way_92 rfl ?_
            refine v_zast (j := tn (N 11 3 m)) (ma_7 hM) h3.1 (h3.lt (zle rfl) c44) (zle rfl) (zb_vp _) dX11_way_94 rfl ?_
            refine v_aload_0 dX11_way_95 rfl ?_
            refine v_dup dX11_way_96 rfl rfl ?_
            refine v_getN fl_11_125 (MOK.t hM) rfl (zle rfl) rfl dX11_way_97 rfl ?_
            refine v_iconst (v := 1) dX11_way_100 rfl rfl ?_
            refine v_iadd dX11_way_101 rfl ?_
            refine v_putN fw_11_125 (MOK.t hM) rfl (zle rfl) rfl (fun h => by cases h) rfl rfl dX11_way_102 rfl ?_
            refine v_aload_0 dX11_way_105 rfl ?_
            refine v_getN fl_11_125 (MOK.t hM) rfl (zle rfl) rfl dX11_way_106 rfl ?_
            rw [u3_self]
            refine v_iconst (v := 1) dX11_way_109 rfl rfl ?_
            refine v_isub dX11_way_110 rfl ?_
            exact v_ireturn rfl (mQ_go hM ((zi_t ⟨c5, c13, c18, c28⟩).trans (zi_f c44)) (i_ps _) (mf_set (by decide)) (by rw [mr_set hM (by decide) rfl, mr_set hM (by decide) rfl, mr_set hM (by decide) rfl, mr_set hM (by decide) rfl] <;> rfl) (Mfr.n (Mfr.i (Mfr.i (Mfr.i (Mfr.i Mfr.rf (by decide) rfl _ _) (by decide) rfl _ _) (by decide) rfl _ _) (by decide) rfl _ _) _ _ _)) (zle rfl) (zle rfl) dX11_way_111
          · refine v_aload_0 dX11_way_47 rfl ?_
            refine v_ldc dX11_way_48 kc_11_136 rfl ?_
            refine v_callV (ci := 11) (F := TX11) (c_X11_finding _ _ (MOK.t hM)) yy_X11_finding im_X11_finding se_X11_finding lk_11_132 (MOK.t hM) (zle rfl) rfl (zle rfl) (zle rfl) (zle rfl) (zle rfl) rfl rfl (zle rfl) dX11_way_50 rfl (zp.use ?_)
            exact v_ireturn rfl (mQ_fd hM ((zi_t ⟨c5, c13, c18, c28⟩).trans (zi_t c44))) (zle rfl) (zle rfl) dX11_way_53
        · refine v_aload_0 dX11_way_31 rfl ?_
          refine v_ldc dX11_way_32 kc_11_131 rfl ?_
          refine v_callV (ci := 11) (F := TX11) (c_X11_finding _ _ (MOK.t hM)) yy_X11_finding im_X11_finding se_X11_finding lk_11_132 (MOK.t hM) (zle rfl) rfl (zle rfl) (zle rfl) (zle rfl) (zle rfl) rfl rfl (zle rfl) dX11_way_34 rfl (zp.use ?_)
          exact v_ireturn rfl (mQ_fd hM (zi_f (fun h => c28 h.2.2.2))) (zle rfl) (zle rfl) dX11_way_37
theorem c_X11_shut {E : zE} {T : zT} {N : zN} {P : zP} {I : zI} {R : zR} (m : Nat) (ad : Nat → Nat) (w d : Int32) (hM : MOK T P m ad) (h3w : 0 ≤ w ∧ w ≤ N 11 3 m - 1 → Nt w (tn (N 11 3 m))) (h3 : tn (N 11 3 m) ≤ 14) : zC E yX11_shut cX11_shut 4 (some .int) (zr0 2 43) [.ref m, .int w, .int d] T N P I R (mQ m ad T N P I R (ac_shut (mf N m) (mr I ad) w d)) := by
  refine zC.intro (ls := [some (.ref m), some (.int w), some (.int d), none]) pl_RX11 (zle rfl) 1 rfl (fun K => ?_)
  refine v_aload_0 dX11_shut_0 rfl ?_
  refine v_iload_1 dX11_shut_1 rfl ?_
  refine v_callV (ci := 11) (F := TX11) (c_X11_isWay _ _ (MOK.t hM)) yy_X11_isWay im_X11_isWay se_X11_isWay lk_11_141 (MOK.t hM) (zle rfl) rfl (zle rfl) (zle rfl) (zle rfl) (zle rfl) rfl rfl (zle rfl) dX11_shut_2 rfl (zp.use ?_)
  refine v_ifz_eq (tgt := 18) dX11_shut_5 (by decide) rfl (fun c5 => ?_) (fun c5 => ?_)
  · refine v_aload_0 dX11_shut_18 rfl ?_
    refine v_ldc dX11_shut_19 kc_11_131 rfl ?_
    refine v_callV (ci := 11) (F := TX11) (c_X11_finding _ _ (MOK.t hM)) yy_X11_finding im_X11_finding se_X11_finding lk_11_132 (MOK.t hM) (zle rfl) rfl (zle rfl) (zle rfl) (zle rfl) (zle rfl) rfl rfl (zle rfl) dX11_shut_21 rfl (zp.use ?_)
    exact v_ireturn rfl (mQ_fd hM (zi_f (fun h => c5 h.1))) (zle rfl) (zle rfl) dX11_shut_24
  · refine v_iload_2 dX11_shut_8 rfl ?_
    refine v_iconst (v := 0) dX11_shut_9 rfl rfl ?_
    refine v_bipush (v := 127) dX11_shut_10 rfl rfl ?_
    refine v_callS (c_X11_within _ _ _) yy_X11_within st_X11_within lk_11_121 (zle rfl) (zle rfl) (zle rfl) (zle rfl) rfl rfl (zle rfl) dX11_shut_12 rfl (zp.use ?_)
    refine v_ifz_ne (tgt := 25) dX11_shut_15 (by decide) rfl (fun c15 => ?_) (fun c15 => ?_)
    · refine v_aload_0 dX11_shut_25 rfl ?_
      refine v_getP fl_11_29 (mp_8 hM) (MOK.t hM) rfl (zle rfl) rfl dX11_shut_26 rfl ?_
      refine v_iload_1 dX11_shut_29 rfl ?_
      refine v_iald (j := tn w) (ma_8 hM) (h3w c5).1 (Nat.lt_of_lt_of_le (h3w c5).2 h3) (zle rfl) dX11_shut_30 rfl ?_
      refine v_istore_3 dX11_shut_31 rfl (zle rfl) rfl ?_
      refine v_aload_0 dX11_shut_32 rfl ?_
      refine v_getP fl_11_29 (mp_8 hM) (MOK.t hM) rfl (zle rfl) rfl dX11_shut_33 rfl ?_
      refine v_iload_1 dX11_shut_36 rfl ?_
      refine v_iload_2 dX11_shut_37 rfl ?_
      refine v_iast (j := tn w) (ma_8 hM) (h3w c5).1 (Nat.lt_of_lt_of_le (h3w c5).2 h3) (zle rfl) dX11_shut_38 rfl ?_
      refine v_iload_3 dX11_shut_39 rfl ?_
      exact v_ireturn rfl (mQ_go hM (zi_t ⟨c5, c15⟩) rfl rfl (by rw [mr_set hM (by decide) rfl] <;> rfl) (Mfr.i Mfr.rf (by decide) rfl _ _)) (zle rfl) (zle rfl) dX11_shut_40
    · refine v_aload_0 dX11_shut_18 rfl ?_
      refine v_ldc dX11_shut_19 kc_11_131 rfl ?_
      refine v_callV (ci := 11) (F := TX11) (c_X11_finding _ _ (MOK.t hM)) yy_X11_finding im_X11_finding se_X11_finding lk_11_132 (MOK.t hM) (zle rfl) rfl (zle rfl) (zle rfl) (zle rfl) (zle rfl) rfl rfl (zle rfl) dX11_shut_21 rfl (zp.use ?_)
      exact v_ireturn rfl (mQ_fd hM (zi_f (fun h => c15 h.2))) (zle rfl) (zle rfl) dX11_shut_24
theorem c_X11_told {E : zE} {T : zT} {N : zN} {P : zP} {I : zI} {R : zR} (m : Nat) (ad : Nat → Nat) (w : Int32) (hM : MOK T P m ad) : zC E yX11_told cX11_told 2 (some .int) (zr0 1 21) [.ref m, .int w] T N P I R (mQ m ad T N P I R (ac_told (mf N m) (mr I ad) w)) := by
  refine zC.intro (ls := [some (.ref m), some (.int w)]) pl_RX11 (zle rfl) 0 rfl (fun K => ?_)
  refine v_iload_1 dX11_told_0 rfl ?_
  by_cases s1_0 : w = 0
  · refine v_tableIn (off := 43) (n := 44) dX11_told_1 (by rw [s1_0]; decide) (by rw [s1_0]; decide) (by rw [s1_0]; rfl) (by decide) ?_
    refine v_aload_0 dX11_told_44 rfl ?_
    refine v_getN fl_11_118 (MOK.t hM) rfl (zle rfl) rfl dX11_told_45 rfl ?_
    exact v_ireturn rfl (mQ_rd hM (zi_t s1_0)) (zle rfl) (zle rfl) dX11_told_48
  by_cases s1_1 : w = 1
  · refine v_tableIn (off := 48) (n := 49) dX11_told_1 (by rw [s1_1]; decide) (by rw [s1_1]; decide) (by rw [s1_1]; rfl) (by decide) ?_
    refine v_aload_0 dX11_told_49 rfl ?_
    refine v_getN fl_11_125 (MOK.t hM) rfl (zle rfl) rfl dX11_told_50 rfl ?_
    exact v_ireturn rfl (mQ_rd hM ((zi_f s1_0).trans (zi_t s1_1))) (zle rfl) (zle rfl) dX11_told_53
  by_cases s1_2 : w = 2
  · refine v_tableIn (off := 53) (n := 54) dX11_told_1 (by rw [s1_2]; decide) (by rw [s1_2]; decide) (by rw [s1_2]; rfl) (by decide) ?_
    refine v_aload_0 dX11_told_54 rfl ?_
    refine v_getN fl_11_184 (MOK.t hM) rfl (zle rfl) rfl dX11_told_55 rfl ?_
    exact v_ireturn rfl (mQ_rd hM (((zi_f s1_0).trans (zi_f s1_1)).trans (zi_t s1_2))) (zle rfl) (zle rfl) dX11_told_58
  by_cases s1_3 : w = 3
  · refine v_tableIn (off := 58) (n := 59) dX11_told_1 (by rw [s1_3]; decide) (by rw [s1_3]; decide) (by rw [s1_3]; rfl) (by decide) ?_
    refine v_aload_0 dX11_told_59 rfl ?_
    refine v_getN fl_11_128 (MOK.t hM) rfl (zle rfl) rfl dX11_told_60 rfl ?_
    exact v_ireturn rfl (mQ_rd hM ((((zi_f s1_0).trans (zi_f s1_1)).trans (zi_f s1_2)).trans (zi_t s1_3))) (zle rfl) (zle rfl) dX11_told_63
  by_cases s1_4 : w = 4
  · refine v_tableIn (off := 63) (n := 64) dX11_told_1 (by rw [s1_4]; decide) (by rw [s1_4]; decide) (by rw [s1_4]; rfl) (by decide) ?_
    refine v_aload_0 dX11_told_64 rfl ?_
    refine v_getN fl_11_245 (MOK.t hM) rfl (zle rfl) rfl dX11_told_65 rfl ?_
    exact v_ireturn rfl (mQ_rd hM (((((zi_f s1_0).trans (zi_f s1_1)).trans (zi_f s1_2)).trans (zi_f s1_3)).trans (zi_t s1_4))) (zle rfl) (zle rfl) dX11_told_68
  by_cases s1_5 : w = 5
  · refine v_tableIn (off := 68) (n := 69) dX11_told_1 (by rw [s1_5]; decide) (by rw [s1_5]; decide) (by rw [s1_5]; rfl) (by decide) ?_
    refine v_aload_0 dX11_told_69 rfl ?_
    refine v_getN fl_11_159 (MOK.t hM) rfl (zle rfl) rfl dX11_told_70 rfl ?_
    exact v_ireturn rfl (mQ_rd hM ((((((zi_f s1_0).trans (zi_f s1_1)).trans (zi_f s1_2)).trans (zi_f s1_3)).trans (zi_f s1_4)).trans (zi_t s1_5))) (zle rfl) (zle rfl) dX11_told_73
  by_cases s1_6 : w = 6
  · refine v_tableIn (off := 73) (n := 74) dX11_told_1 (by rw [s1_6]; decide) (by rw [s1_6]; decide) (by rw [s1_6]; rfl) (by decide) ?_
    refine v_aload_0 dX11_told_74 rfl ?_
    refine v_getN fl_11_114 (MOK.t hM) rfl (zle rfl) rfl dX11_told_75 rfl ?_
    exact v_ireturn rfl (mQ_rd hM (((((((zi_f s1_0).trans (zi_f s1_1)).trans (zi_f s1_2)).trans (zi_f s1_3)).trans (zi_f s1_4)).trans (zi_f s1_5)).trans (zi_t s1_6))) (zle rfl) (zle rfl) dX11_told_78
  refine v_tableOut (n := 79) dX11_told_1 (tb_out (k := 6) (fun j hj => by rcases (show j = 0 ∨ j = 1 ∨ j = 2 ∨ j = 3 ∨ j = 4 ∨ j = 5 ∨ j = 6 by omega) with rfl | rfl | rfl | rfl | rfl | rfl | rfl <;> first | exact s1_0 | exact s1_1 | exact s1_2 | exact s1_3 | exact s1_4 | exact s1_5 | exact s1_6)) (by decide) ?_
  refine v_aload_0 dX11_told_79 rfl ?_
  refine v_ldc dX11_told_80 kc_11_131 rfl ?_
  refine v_callV (ci := 11) (F := TX11) (c_X11_finding _ _ (MOK.t hM)) yy_X11_finding im_X11_finding se_X11_finding lk_11_132 (MOK.t hM) (zle rfl) rfl (zle rfl) (zle rfl) (zle rfl) (zle rfl) rfl rfl (zle rfl) dX11_told_82 rfl (zp.use ?_)
  exact v_ireturn rfl (mQ_fd hM (((((((zi_f s1_0).trans (zi_f s1_1)).trans (zi_f s1_2)).trans (zi_f s1_3)).trans (zi_f s1_4)).trans (zi_f s1_5)).trans (zi_f s1_6))) (zle rfl) (zle rfl) dX11_told_85
theorem c_X11_write {E : zE} {T : zT} {N : zN} {P : zP} {I : zI} {R : zR} (m : Nat) (ad : Nat → Nat) (s i v : Int32) (hM : MOK T P m ad) (hs : 0 ≤ s ∧ s ≤ 3 → s = nI (tn s) ∧ tn s < 4) (hx : 0 ≤ s ∧ s ≤ 3 → 0 ≤ i ∧ i ≤ I (ad 29) (tn s) - 1 → 12 * s + i = nI (12 * tn s + tn i) ∧ 12 * tn s + tn i < 48) : zC E yX11_write cX11_write 6 (some .int) (zr0 2 42) [.ref m, .int s, .int i, .int v] T N P I R (mQ m ad T N P I R (ac_write (mf N m) (mr I ad) s i v)) := by
  refine zC.intro (ls := [some (.ref m), some (.int s), some (.int i), some (.int v), none, none]) pl_RX11 (zle rfl) 2 rfl (fun K => ?_)
  refine v_iload_1 dX11_write_0 rfl ?_
  refine v_callS (c_X11_isSheet _) yy_X11_isSheet st_X11_isSheet lk_11_279 (zle rfl) (zle rfl) (zle rfl) (zle rfl) rfl rfl (zle rfl) dX11_write_1 rfl (zp.use ?_)
  refine v_ifz_ne (tgt := 14) dX11_write_4 (by decide) rfl (fun c4 => ?_) (fun c4 => ?_)
  · refine v_aload_0 dX11_write_14 rfl ?_
    refine v_getP fl_11_77 (mp_28 hM) (MOK.t hM) rfl (zle rfl) rfl dX11_write_15 rfl ?_
    refine v_iload_1 dX11_write_18 rfl ?_
    refine v_iald (j := tn s) (ma_28 hM) (hs c4).1 (hs c4).2 (zle rfl) dX11_write_19 rfl ?_
    refine v_if_ne (tgt := 31) dX11_write_20 (by decide) rfl (fun c20 => ?_) (fun c20 => ?_)
    · refine v_iload_2 dX11_write_31 rfl ?_
      refine v_iconst (v := 0) dX11_write_32 rfl rfl ?_
      refine v_aload_0 dX11_write_33 rfl ?_
      refine v_getP fl_11_80 (mp_29 hM) (MOK.t hM) rfl (zle rfl) rfl dX11_write_34 rfl ?_
      refine v_iload_1 dX11_write_37 rfl ?_
      refine v_iald (j := tn s) (ma_29 hM) (hs c4).1 (hs c4).2 (zle rfl) dX11_write_38 rfl ?_
      refine v_iconst (v := 1) dX11_write_39 rfl rfl ?_
      refine v_isub dX11_write_40 rfl ?_
      refine v_callS (c_X11_within _ _ _) yy_X11_within st_X11_within lk_11_121 (zle rfl) (zle rfl) (zle rfl) (zle rfl) rfl rfl (zle rfl) dX11_write_41 rfl (zp.use ?_)
      refine v_ifz_ne (tgt := 54) dX11_write_44 (by decide) rfl (fun c44 => ?_) (fun c44 => ?_)
      · refine v_aload_0 dX11_write_54 rfl ?_
        refine v_getP fl_11_83 (mp_30 hM) (MOK.t hM) rfl (zle rfl) rfl dX11_write_55 rfl ?_
        refine v_bipush (v := 12) dX11_write_58 rfl rfl ?_
        refine v_iload_1 dX11_write_60 rfl ?_
        refine v_imul dX11_write_61 rfl ?_
        refine v_iload_2 dX11_write_62 rfl ?_
        refine v_iadd dX11_write_63 rfl ?_
        refine v_iald (j := 12 * tn s + tn i) (ma_30 hM) (hx c4 c44).1 (hx c4 c44).2 (zle rfl) dX11_write_64 rfl ?_
        refine v_istore_4 dX11_write_65 rfl (zle rfl) rfl ?_
        refine v_bipush (v := 32) dX11_write_67 rfl rfl ?_
        refine v_aload_0 dX11_write_69 rfl ?_
        refine v_getP fl_11_77 (mp_28 hM) (MOK.t hM) rfl (zle rfl) rfl dX11_write_70 rfl ?_
        refine v_iload_1 dX11_write_73 rfl ?_
        refine v_iald (j := tn s) (ma_28 hM) (hs c4).1 (hs c4).2 (zle rfl) dX11_write_74 rfl ?_
        refine v_isub dX11_write_75 rfl ?_
        refine v_istore_5 dX11_write_76 rfl (zle rfl) rfl ?_
        refine v_aload_0 dX11_write_78 rfl ?_
        refine v_getP fl_11_83 (mp_30 hM) (MOK.t hM) rfl (zle rfl) rfl dX11_write_79 rfl ?_
        refine v_bipush (v := 12) dX11_write_82 rfl rfl ?_
        refine v_iload_1 dX11_write_84 rfl ?_
        refine v_imul dX11_write_85 rfl ?_
        refine v_iload_2 dX11_write_86 rfl ?_
        refine v_iadd dX11_write_87 rfl ?_
        refine v_iload_3 dX11_write_88 rfl ?_
        refine v_iload_5 dX11_write_89 rfl ?_
        refine v_ishl dX11_write_91 rfl ?_
        refine v_iload_5 dX11_write_92 rfl ?_
        refine v_ishr dX11_write_94 rfl ?_
        refine v_iast (j := 12 * tn s + tn i) (ma_30 hM) (hx c4 c44).1 (hx c4 c44).2 (zle rfl) dX11_write_95 rfl ?_
        refine v_iload_4 dX11_write_96 rfl ?_
        exact v_ireturn rfl (mQ_go hM (((zi_t c4).trans (zi_f c20)).trans (zi_t c44)) rfl rfl (by rw [mr_set hM (by decide) rfl] <;> rfl) (Mfr.i Mfr.rf (by decide) rfl _ _)) (zle rfl) (zle rfl) dX11_write_98
      · refine v_aload_0 dX11_write_47 rfl ?_
        refine v_ldc dX11_write_48 kc_11_131 rfl ?_
        refine v_callV (ci := 11) (F := TX11) (c_X11_finding _ _ (MOK.t hM)) yy_X11_finding im_X11_finding se_X11_finding lk_11_132 (MOK.t hM) (zle rfl) rfl (zle rfl) (zle rfl) (zle rfl) (zle rfl) rfl rfl (zle rfl) dX11_write_50 rfl (zp.use ?_)
        exact v_ireturn rfl (mQ_fd hM (((zi_t c4).trans (zi_f c20)).trans (zi_f c44))) (zle rfl) (zle rfl) dX11_write_53
    · refine v_aload_0 dX11_write_23 rfl ?_
      refine v_ldcw dX11_write_24 kc_11_283 rfl ?_
      refine v_callV (ci := 11) (F := TX11) (c_X11_finding _ _ (MOK.t hM)) yy_X11_finding im_X11_finding se_X11_finding lk_11_132 (MOK.t hM) (zle rfl) rfl (zle rfl) (zle rfl) (zle rfl) (zle rfl) rfl rfl (zle rfl) dX11_write_27 rfl (zp.use ?_)
      exact v_ireturn rfl (mQ_fd hM ((zi_t c4).trans (zi_t c20))) (zle rfl) (zle rfl) dX11_write_30
  · refine v_aload_0 dX11_write_7 rfl ?_
    refine v_ldc dX11_write_8 kc_11_131 rfl ?_
    refine v_callV (ci := 11) (F := TX11) (c_X11_finding _ _ (MOK.t hM)) yy_X11_finding im_X11_finding se_X11_finding lk_11_132 (MOK.t hM) (zle rfl) rfl (zle rfl) (zle rfl) (zle rfl) (zle rfl) rfl rfl (zle rfl) dX11_write_10 rfl (zp.use ?_)
    exact v_ireturn rfl (mQ_fd hM (zi_f c4)) (zle rfl) (zle rfl) dX11_write_13
