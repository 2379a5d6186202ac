def jn2 (r : zg) (a c : Int32) (n : Nat) : Prop := (r 4 n = a ∧ r 5 n = c) ∨ (r 5 n = a ∧ r 4 n = c)
/-- the shortest of the first n ways that joins two corners -/
noncomputable def wtv (r : zg) (d : Nat) (s : Prop) (a c : Int32) : Nat → Int32
  | 0 => 100000000
  | n + 1 => zi (jn2 r a c n ∧ opn r d s n) (if r 6 n < wtv r d s a c n then r 6 n else wtv r d s a c n) (wtv r d s a c n)
theorem lp_X11_wayTo {E : zE} {T : zT} {N : zN} {P : zP} {I : zI} {R : zR} {m : Nat} {ad : Nat → Nat} {w d nw : Nat} {s : Prop} {a c : Int32} {K : zK E yX11_wayTo cX11_wayTo 6 (some .int) (zr0 1 23)} (hM : MOK T P m ad) (hw : w < 6) (ha : I (ad 19) w = a) (hd0 : N 11 27 m = nI d) (hd : d < 7) (hs : I (ad 23) w = zb s) (hn0 : N 11 3 m = nI nw) (hn1 : nw ≤ 14) :
    ∀ k n (o5 : Option Value), n + k = nw → V K (zQf K (zp (wtv (mr I ad) d s a c nw) T N P I R)) T N P I R 0 0 6 [some (.ref m), some (.int (nI w)), some (.int c), some (.int (wtv (mr I ad) d s a c n)), some (.int (nI n)), o5] [] := by
  intro k
  induction k with
  | zero =>
    intro n o5 hn
    obtain rfl : n = nw := by omega
    refine v_iload_4 dX11_wayTo_6 rfl ?_
    refine v_aload_0 dX11_wayTo_8 rfl ?_
    refine v_getN fl_11_125 (MOK.t hM) rfl (zle rfl) rfl dX11_wayTo_9 rfl ?_
    refine v_top hn0 ?_
    refine v_icmp_ge_t (n := 122) (nI_le (a := n) (b := n) (Nat.le_refl _) (by omega)) dX11_wayTo_12 (by decide) ?_
    refine v_iload_3 dX11_wayTo_122 rfl ?_
    exact v_ireturn rfl (zp.rf) (zle rfl) (zle rfl) dX11_wayTo_123
  | succ k ih =>
    intro n o5 hn
    have hno : ¬ (jn2 (mr I ad) a c n ∧ opn (mr I ad) d s n) → wtv (mr I ad) d s a c n = wtv (mr I ad) d s a c (n + 1) := fun h => (zi_f h).symm
    have hye : jn2 (mr I ad) a c n ∧ opn (mr I ad) d s n → (if I (ad 6) n < wtv (mr I ad) d s a c n then I (ad 6) n else wtv (mr I ad) d s a c n) = wtv (mr I ad) d s a c (n + 1) := fun h => (zi_t h).symm
    refine v_iload_4 dX11_wayTo_6 rfl ?_
    refine v_aload_0 dX11_wayTo_8 rfl ?_
    refine v_getN fl_11_125 (MOK.t hM) rfl (zle rfl) rfl dX11_wayTo_9 rfl ?_
    refine v_top hn0 ?_
    refine v_icmp_ge_f (tgt := 122) (nI_ge (a := n) (b := nw) (by omega) (by omega)) dX11_wayTo_12 (by decide) rfl ?_
    refine v_aload_0 dX11_wayTo_15 rfl ?_
    refine v_getP fl_11_16 (mp_4 hM) (MOK.t hM) rfl (zle rfl) rfl dX11_wayTo_16 rfl ?_
    refine v_iload_4 dX11_wayTo_19 rfl ?_
    refine v_iald (j := n) (ma_4 hM) rfl (by omega) (zle rfl) dX11_wayTo_21 rfl ?_
    refine v_aload_0 dX11_wayTo_22 rfl ?_
    refine v_getP fl_11_53 (mp_19 hM) (MOK.t hM) rfl (zle rfl) rfl dX11_wayTo_23 rfl ?_
    refine v_iload_1 dX11_wayTo_26 rfl ?_
    refine v_iald (j := w) (ma_19 hM) rfl (by omega) (zle rfl) dX11_wayTo_27 rfl ?_
    refine v_top ha ?_
    refine v_icmp_ne (tgt := 42) dX11_wayTo_28 (by decide) rfl (fun c28 => ?_) (fun c28 => ?_)
    · refine v_aload_0 dX11_wayTo_42 rfl ?_
      refine v_getP fl_11_19 (mp_5 hM) (MOK.t hM) rfl (zle rfl) rfl dX11_wayTo_43 rfl ?_
      refine v_iload_4 dX11_wayTo_46 rfl ?_
      refine v_iald (j := n) (ma_5 hM) rfl (by omega) (zle rfl) dX11_wayTo_48 rfl ?_
      refine v_aload_0 dX11_wayTo_49 rfl ?_
      refine v_getP fl_11_53 (mp_19 hM) (MOK.t hM) rfl (zle rfl) rfl dX11_wayTo_50 rfl ?_
      refine v_iload_1 dX11_wayTo_53 rfl ?_
      refine v_iald (j := w) (ma_19 hM) rfl (by omega) (zle rfl) dX11_wayTo_54 rfl ?_
      refine v_top ha ?_
      refine v_icmp_ne (tgt := 73) dX11_wayTo_55 (by decide) rfl (fun c55 => ?_) (fun c55 => ?_)
      · refine v_iconst (v := 0) dX11_wayTo_73 rfl rfl ?_
        refine v_istore_5 dX11_wayTo_74 rfl (zle rfl) rfl ?_
        refine v_iload_5 dX11_wayTo_76 rfl ?_
        refine v_if_eq_t (n := 114) (by decide) dX11_wayTo_78 (by decide) ?_
        refine v_iload_3 dX11_wayTo_114 rfl ?_
        refine v_istore_3 dX11_wayTo_115 rfl (zle rfl) rfl ?_
        refine v_iinc_4 dX11_wayTo_116 (nI_1 n) rfl (zle rfl) rfl ?_
        refine v_goto (n := 6) dX11_wayTo_119 (by decide) ?_
        rw [hno (fun h => h.1.elim (fun h => c28 h.1) (fun h => c55 h.1))]
        exact ih (n + 1) _ (by omega)
      · refine v_aload_0 dX11_wayTo_58 rfl ?_
        refine v_getP fl_11_16 (mp_4 hM) (MOK.t hM) rfl (zle rfl) rfl dX11_wayTo_59 rfl ?_
        refine v_iload_4 dX11_wayTo_62 rfl ?_
        refine v_iald (j := n) (ma_4 hM) rfl (by omega) (zle rfl) dX11_wayTo_64 rfl ?_
        refine v_iload_2 dX11_wayTo_65 rfl ?_
        refine v_icmp_ne (tgt := 73) dX11_wayTo_66 (by decide) rfl (fun c66 => ?_) (fun c66 => ?_)
        · refine v_iconst (v := 0) dX11_wayTo_73 rfl rfl ?_
          refine v_istore_5 dX11_wayTo_74 rfl (zle rfl) rfl ?_
          refine v_iload_5 dX11_wayTo_76 rfl ?_
          refine v_if_eq_t (n := 114) (by decide) dX11_wayTo_78 (by decide) ?_
          refine v_iload_3 dX11_wayTo_114 rfl ?_
          refine v_istore_3 dX11_wayTo_115 rfl (zle rfl) rfl ?_
          refine v_iinc_4 dX11_wayTo_116 (nI_1 n) rfl (zle rfl) rfl ?_
          refine v_goto (n := 6) dX11_wayTo_119 (by decide) ?_
          rw [hno (fun h => h.1.elim (fun h => c28 h.1) (fun h => c66 h.2))]
          exact ih (n + 1) _ (by omega)
        · refine v_iconst (v := 1) dX11_wayTo_69 rfl rfl ?_
          refine v_goto (n := 74) dX11_wayTo_70 (by decide) ?_
          refine v_istore_5 dX11_wayTo_74 rfl (zle rfl) rfl ?_
          refine v_iload_5 dX11_wayTo_76 rfl ?_
          refine v_if_eq_f (tgt := 114) (by decide) dX11_wayTo_78 (by decide) rfl ?_
          refine v_aload_0 dX11_wayTo_81 rfl ?_
          refine v_iload_4 dX11_wayTo_82 rfl ?_
          refine v_aload_0 dX11_wayTo_84 rfl ?_
          refine v_getN fl_11_245 (MOK.t hM) rfl (zle rfl) rfl dX11_wayTo_85 rfl ?_
          refine v_top hd0 ?_
          refine v_aload_0 dX11_wayTo_88 rfl ?_
          refine v_getP fl_11_65 (mp_23 hM) (MOK.t hM) rfl (zle rfl) rfl dX11_wayTo_89 rfl ?_
          refine v_iload_1 dX11_wayTo_92 rfl ?_
          refine v_zald (j := w) (ma_23 hM) rfl (by omega) (zle rfl) dX11_wayTo_93 rfl ?_
          refine v_top hs ?_
          refine v_callV (ci := 11) (F := TX11) (c_X11_isOpen m ad n d s hM (by omega) hd) yy_X11_isOpen im_X11_isOpen se_X11_isOpen lk_11_148 (MOK.t hM) (zle rfl) rfl (zle rfl) (zle rfl) (zle rfl) (zle rfl) rfl rfl (zle rfl) dX11_wayTo_94 rfl (zp.use ?_)
          refine v_ifz_eq (tgt := 114) dX11_wayTo_97 (by decide) rfl (fun c97 => ?_) (fun c97 => ?_)
          · refine v_iload_3 dX11_wayTo_114 rfl ?_
            refine v_istore_3 dX11_wayTo_115 rfl (zle rfl) rfl ?_
            refine v_iinc_4 dX11_wayTo_116 (nI_1 n) rfl (zle rfl) rfl ?_
            refine v_goto (n := 6) dX11_wayTo_119 (by decide) ?_
            rw [hno (fun h => c97 h.2)]
            exact ih (n + 1) _ (by omega)
          · refine v_iload_3 dX11_wayTo_100 rfl ?_
            refine v_aload_0 dX11_wayTo_101 rfl ?_
            refine v_getP fl_11_22 (mp_6 hM) (MOK.t hM) rfl (zle rfl) rfl dX11_wayTo_102 rfl ?_
            refine v_iload_4 dX11_wayTo_105 rfl ?_
            refine v_iald (j := n) (ma_6 hM) rfl (by omega) (zle rfl) dX11_wayTo_107 rfl ?_
            refine v_min lk_11_152 st_min ii_math cd_min (zle rfl) (zle rfl) (zle rfl) (zle rfl) dX11_wayTo_108 rfl ?_
            refine v_goto (n := 115) dX11_wayTo_111 (by decide) ?_
            refine v_istore_3 dX11_wayTo_115 rfl (zle rfl) rfl ?_
            refine v_iinc_4 dX11_wayTo_116 (nI_1 n) rfl (zle rfl) rfl ?_
            refine v_goto (n := 6) dX11_wayTo_119 (by decide) ?_
            rw [hye (⟨Or.inr ⟨c55, c66⟩, c97⟩)]
            exact ih (n + 1) _ (by omega)
    · refine v_aload_0 dX11_wayTo_31 rfl ?_
      refine v_getP fl_11_19 (mp_5 hM) (MOK.t hM) rfl (zle rfl) rfl dX11_wayTo_32 rfl ?_
      refine v_iload_4 dX11_wayTo_35 rfl ?_
      refine v_iald (j := n) (ma_5 hM) rfl (by omega) (zle rfl) dX11_wayTo_37 rfl ?_
      refine v_iload_2 dX11_wayTo_38 rfl ?_
      refine v_icmp_eq (tgt := 69) dX11_wayTo_39 (by decide) rfl (fun c39 => ?_) (fun c39 => ?_)
      · refine v_iconst (v := 1) dX11_wayTo_69 rfl rfl ?_
        refine v_goto (n := 74) dX11_wayTo_70 (by decide) ?_
        refine v_istore_5 dX11_wayTo_74 rfl (zle rfl) rfl ?_
        refine v_iload_5 dX11_wayTo_76 rfl ?_
        refine v_if_eq_f (tgt := 114) (by decide) dX11_wayTo_78 (by decide) rfl ?_
        refine v_aload_0 dX11_wayTo_81 rfl ?_
        refine v_iload_4 dX11_wayTo_82 rfl ?_
        refine v_aload_0 dX11_wayTo_84 rfl ?_
        refine v_getN fl_11_245 (MOK.t hM) rfl (zle rfl) rfl dX11_wayTo_85 rfl ?_
        refine v_top hd0 ?_
        refine v_aload_0 dX11_wayTo_88 rfl ?_
        refine v_getP fl_11_65 (mp_23 hM) (MOK.t hM) rfl (zle rfl) rfl dX11_wayTo_89 rfl ?_
        refine v_iload_1 dX11_wayTo_92 rfl ?_
        refine v_zald (j := w) (ma_23 hM) rfl (by omega) (zle rfl) dX11_wayTo_93 rfl ?_
        refine v_top hs ?_
        refine v_callV (ci := 11) (F := TX11) (c_X11_isOpen m ad n d s hM (by omega) hd) yy_X11_isOpen im_X11_isOpen se_X11_isOpen lk_11_148 (MOK.t hM) (zle rfl) rfl (zle rfl) (zle rfl) (zle rfl) (zle rfl) rfl rfl (zle rfl) dX11_wayTo_94 rfl (zp.use ?_)
        refine v_ifz_eq (tgt := 114) dX11_wayTo_97 (by decide) rfl (fun c97 => ?_) (fun c97 => ?_)
        · refine v_iload_3 dX11_wayTo_114 rfl ?_
          refine v_istore_3 dX11_wayTo_115 rfl (zle rfl) rfl ?_
          refine v_iinc_4 dX11_wayTo_116 (nI_1 n) rfl (zle rfl) rfl ?_
          refine v_goto (n := 6) dX11_wayTo_119 (by decide) ?_
          rw [hno (fun h => c97 h.2)]
          exact ih (n + 1) _ (by omega)
        · refine v_iload_3 dX11_wayTo_100 rfl ?_
          refine v_aload_0 dX11_wayTo_101 rfl ?_
          refine v_getP fl_11_22 (mp_6 hM) (MOK.t hM) rfl (zle rfl) rfl dX11_wayTo_102 rfl ?_
          refine v_iload_4 dX11_wayTo_105 rfl ?_
          refine v_iald (j := n) (ma_6 hM) rfl (by omega) (zle rfl) dX11_wayTo_107 rfl ?_
          refine v_min lk_11_152 st_min ii_math cd_min (zle rfl) (zle rfl) (zle rfl) (zle rfl) dX11_wayTo_108 rfl ?_
          refine v_goto (n := 115) dX11_wayTo_111 (by decide) ?_
          refine v_istore_3 dX11_wayTo_115 rfl (zle rfl) rfl ?_
          refine v_iinc_4 dX11_wayTo_116 (nI_1 n) rfl (zle rfl) rfl ?_
          refine v_goto (n := 6) dX11_wayTo_119 (by decide) ?_
          rw [hye (⟨Or.inl ⟨c28, c39⟩, c97⟩)]
          exact ih (n + 1) _ (by omega)
      · refine v_aload_0 dX11_wayTo_42 rfl ?_
        refine v_getP fl_11_19 (mp_5 hM) (MOK.t hM) rfl (zle rfl) rfl dX11_wayTo_43 rfl ?_
        refine v_iload_4 dX11_wayTo_46 rfl ?_
        refine v_iald (j := n) (ma_5 hM) rfl (by omega) (zle rfl) dX11_wayTo_48 rfl ?_
        refine v_aload_0 dX11_wayTo_49 rfl ?_
        refine v_getP fl_11_53 (mp_19 hM) (MOK.t hM) rfl (zle rfl) rfl dX11_wayTo_50 rfl ?_
        refine v_iload_1 dX11_wayTo_53 rfl ?_
        refine v_iald (j := w) (ma_19 hM) rfl (by omega) (zle rfl) dX11_wayTo_54 rfl ?_
        refine v_top ha ?_
        refine v_icmp_ne (tgt := 73) dX11_wayTo_55 (by decide) rfl (fun c55 => ?_) (fun c55 => ?_)
        · refine v_iconst (v := 0) dX11_wayTo_73 rfl rfl ?_
          refine v_istore_5 dX11_wayTo_74 rfl (zle rfl) rfl ?_
          refine v_iload_5 dX11_wayTo_76 rfl ?_
          refine v_if_eq_t (n := 114) (by decide) dX11_wayTo_78 (by decide) ?_
          refine v_iload_3 dX11_wayTo_114 rfl ?_
          refine v_istore_3 dX11_wayTo_115 rfl (zle rfl) rfl ?_
          refine v_iinc_4 dX11_wayTo_116 (nI_1 n) rfl (zle rfl) rfl ?_
          refine v_goto (n := 6) dX11_wayTo_119 (by decide) ?_
          rw [hno (fun h => h.1.elim (fun h => c39 h.2) (fun h => c55 h.1))]
          exact ih (n + 1) _ (by omega)
        · refine v_aload_0 dX11_wayTo_58 rfl ?_
          refine v_getP fl_11_16 (mp_4 hM) (MOK.t hM) rfl (zle rfl) rfl dX11_wayTo_59 rfl ?_
          refine v_iload_4 dX11_wayTo_62 rfl ?_
          refine v_iald (j := n) (ma_4 hM) rfl (by omega) (zle rfl) dX11_wayTo_64 rfl ?_
          refine v_iload_2 dX11_wayTo_65 rfl ?_
          refine v_icmp_ne (tgt := 73) dX11_wayTo_66 (by decide) rfl (fun c66 => ?_) (fun c66 => ?_)
          · refine v_iconst (v := 0) dX11_wayTo_73 rfl rfl ?_
            refine v_istore_5 dX11_wayTo_74 rfl (zle rfl) rfl ?_
            refine v_iload_5 dX11_wayTo_76 rfl ?_
            refine v_if_eq_t (n := 114) (by decide) dX11_wayTo_78 (by decide) ?_
            refine v_iload_3 dX11_wayTo_114 rfl ?_
            refine v_istore_3 dX11_wayTo_115 rfl (zle rfl) rfl ?_
            refine v_iinc_4 dX11_wayTo_116 (nI_1 n) rfl (zle rfl) rfl ?_
            refine v_goto (n := 6) dX11_wayTo_119 (by decide) ?_
            rw [hno (fun h => h.1.elim (fun h => c39 h.2) (fun h => c66 h.2))]
            exact ih (n + 1) _ (by omega)
          · refine v_iconst (v := 1) dX11_wayTo_69 rfl rfl ?_
            refine v_goto (n := 74) dX11_wayTo_70 (by decide) ?_
            refine v_istore_5 dX11_wayTo_74 rfl (zle rfl) rfl ?_
            refine v_iload_5 dX11_wayTo_76 rfl ?_
            refine v_if_eq_f (tgt := 114) (by decide) dX11_wayTo_78 (by decide) rfl ?_
            refine v_aload_0 dX11_wayTo_81 rfl ?_
            refine v_iload_4 dX11_wayTo_82 rfl ?_
            refine v_aload_0 dX11_wayTo_84 rfl ?_
            refine v_getN fl_11_245 (MOK.t hM) rfl (zle rfl) rfl dX11_wayTo_85 rfl ?_
            refine v_top hd0 ?_
            refine v_aload_0 dX11_wayTo_88 rfl ?_
            refine v_getP fl_11_65 (mp_23 hM) (MOK.t hM) rfl (zle rfl) rfl dX11_wayTo_89 rfl ?_
            refine v_iload_1 dX11_wayTo_92 rfl ?_
            refine v_zald (j := w) (ma_23 hM) rfl (by omega) (zle rfl) dX11_wayTo_93 rfl ?_
            refine v_top hs ?_
            refine v_callV (ci := 11) (F := TX11) (c_X11_isOpen m ad n d s hM (by omega) hd) yy_X11_isOpen im_X11_isOpen se_X11_isOpen lk_11_148 (MOK.t hM) (zle rfl) rfl (zle rfl) (zle rfl) (zle rfl) (zle rfl) rfl rfl (zle rfl) dX11_wayTo_94 rfl (zp.use ?_)
            refine v_ifz_eq (tgt := 114) dX11_wayTo_97 (by decide) rfl (fun c97 => ?_) (fun c97 => ?_)
            · refine v_iload_3 dX11_wayTo_114 rfl ?_
              refine v_istore_3 dX11_wayTo_115 rfl (zle rfl) rfl ?_
              refine v_iinc_4 dX11_wayTo_116 (nI_1 n) rfl (zle rfl) rfl ?_
              refine v_goto (n := 6) dX11_wayTo_119 (by decide) ?_
              rw [hno (fun h => c97 h.2)]
              exact ih (n + 1) _ (by omega)
            · refine v_iload_3 dX11_wayTo_100 rfl ?_
              refine v_aload_0 dX11_wayTo_101 rfl ?_
              refine v_getP fl_11_22 (mp_6 hM) (MOK.t hM) rfl (zle rfl) rfl dX11_wayTo_102 rfl ?_
              refine v_iload_4 dX11_wayTo_105 rfl ?_
              refine v_iald (j := n) (ma_6 hM) rfl (by omega) (zle rfl) dX11_wayTo_107 rfl ?_
              refine v_min lk_11_152 st_min ii_math cd_min (zle rfl) (zle rfl) (zle rfl) (zle rfl) dX11_wayTo_108 rfl ?_
              refine v_goto (n := 115) dX11_wayTo_111 (by decide) ?_
              refine v_istore_3 dX11_wayTo_115 rfl (zle rfl) rfl ?_
              refine v_iinc_4 dX11_wayTo_116 (nI_1 n) rfl (zle rfl) rfl ?_
              refine v_goto (n := 6) dX11_wayTo_119 (by decide) ?_
              rw [hye (⟨Or.inr ⟨c55, c66⟩, c97⟩)]
              exact ih (n + 1) _ (by omega)
theorem c_X11_wayTo {E : zE} {T : zT} {N : zN} {P : zP} {I : zI} {R : zR} (m : Nat) (ad : Nat → Nat) (w d nw : Nat) (s : Prop) (a c : Int32) (hM : MOK T P m ad) (hw : w < 6) (ha : I (ad 19) w = a) (hd0 : N 11 27 m = nI d) (hd : d < 7) (hs : I (ad 23) w = zb s) (hn0 : N 11 3 m = nI nw) (hn1 : nw ≤ 14) : zC E yX11_wayTo cX11_wayTo 6 (some .int) (zr0 1 23) [.ref m, .int (nI w), .int c] T N P I R (zp (wtv (mr I ad) d s a c nw) T N P I R) := by
  refine zC.intro (ls := [some (.ref m), some (.int (nI w)), some (.int c), none, none, none]) pl_RX11 (zle rfl) 3 rfl (fun K => ?_)
  refine v_ldc dX11_wayTo_0 kc_11_147 rfl ?_
  refine v_istore_3 dX11_wayTo_2 rfl (zle rfl) rfl ?_
  refine v_iconst (v := 0) dX11_wayTo_3 rfl rfl ?_
  refine v_istore_4 dX11_wayTo_4 rfl (zle rfl) rfl ?_
  exact lp_X11_wayTo hM hw ha hd0 hd hs hn0 hn1 nw 0 _ (by omega)
