/-- what a walker is told where it is -/
noncomputable def lsw (r : zg) (d w : Nat) : zl := lsn r (tn (r 22 w)) (npw r w) (r 19 w) d 12 (r 20 w, r 21 w, r 24 w, 0)
/-- the first n walkers listen -/
noncomputable def tdy (d : Nat) : Nat → zg → zg
  | 0, r => r
  | n + 1, r => rz (tdy d n r) n (lsw (tdy d n r) d n)
noncomputable def ac_today (f : zf) (r : zg) (y : Int32) : zO := zi (0 ≤ y ∧ y ≤ 6) (f 27, u1 f 27 y, tdy (tn y) (tn (f 18)) r) (fdg (-1000001) f r)
theorem tdy_k {d k : Nat} {r : zg} (h0 : k ≠ 20) (h1 : k ≠ 21) (h4 : k ≠ 24) : ∀ n, tdy d n r k = r k := by
  intro n
  induction n with
  | zero => rfl
  | succ n ih =>
    show rz (tdy d n r) n (lsw (tdy d n r) d n) k = r k
    unfold rz
    rw [u2_off _ _ h4, u2_off _ _ h1, u2_off _ _ h0]
    exact ih
theorem WkI.td {f : zf} {r : zg} (h : WkI f r) (d n : Nat) : WkI f (tdy d n r) := by
  unfold WkI
  rw [tdy_k (by decide) (by decide) (by decide), tdy_k (by decide) (by decide) (by decide), tdy_k (by decide) (by decide) (by decide)]
  exact h
theorem WkI.day {f : zf} {r : zg} (h : WkI f r) {y : Int32} (hy : Nt y 7) : WkI (u1 f 27 y) r := ⟨h.1, h.2.1, h.2.2.1, by rw [u1_self]; exact hy, h.2.2.2.2⟩
theorem lp_X11_today {E : zE} {T : zT} {N : zN} {P : zP} {I : zI} {R : zR} {m : Nat} {ad : Nat → Nat} {d : Nat} {v : Int32} {K : zK E yX11_today cX11_today 5 (some .int) (zr0 3 77)} (hM : MOK T P m ad) (hI : WkI (mf N m) (mr I ad)) (hd : d < 7) (hv : N 11 27 m = v) (c4 : 0 ≤ nI d ∧ nI d ≤ 6) :
    ∀ k n (I' : zI) (o4 : Option Value), n + k = tn (N 11 18 m) → mr I' ad = tdy d n (mr I ad) → Mfr ad T N P I R T (u3 N 11 27 m (nI d)) P I' R → V K (zQf K (mQ m ad T N P I R (ac_today (mf N m) (mr I ad) (nI d)))) T (u3 N 11 27 m (nI d)) P I' R 0 0 26 [some (.ref m), some (.int (nI d)), some (.int v), some (.int (nI n)), o4] [] := by
  have h18 := hI.1
  have h18b : tn (N 11 18 m) < 7 := h18.2
  have e18 : N 11 18 m = nI (tn (N 11 18 m)) := h18.1
  have td : tn (nI d) = d := tn_nI (by omega)
  intro k
  induction k with
  | zero =>
    intro n I' o4 hn hm hF
    obtain rfl : n = tn (N 11 18 m) := by omega
    refine v_iload_3 dX11_today_26 rfl ?_
    refine v_aload_0 dX11_today_27 rfl ?_
    refine v_getN fl_11_128 (MOK.t hM) rfl (zle rfl) rfl dX11_today_28 rfl ?_
    refine v_top (show u3 N 11 27 m (nI d) 11 18 m = nI (tn (N 11 18 m)) from e18) ?_
    refine v_icmp_ge_t (n := 47) (nI_le (a := tn (N 11 18 m)) (b := tn (N 11 18 m)) (Nat.le_refl _) (by omega)) dX11_today_31 (by decide) ?_
    refine v_iload_2 dX11_today_47 rfl ?_
    exact v_ireturn rfl (mQ_go hM (zi_t c4) hv.symm (mf_set (by decide)) (by rw [td]; exact hm) hF) (zle rfl) (zle rfl) dX11_today_48
  | succ k ih =>
    intro n I' o4 hn hm hF
    have hnw : n < tn (N 11 18 m) := by omega
    obtain ⟨i1, i2, i3, i4, i5, i6⟩ := (hm ▸ hI.td d n : WkI (mf N m) (mr I' ad)).ed hnw
    refine v_iload_3 dX11_today_26 rfl ?_
    refine v_aload_0 dX11_today_27 rfl ?_
    refine v_getN fl_11_128 (MOK.t hM) rfl (zle rfl) rfl dX11_today_28 rfl ?_
    refine v_top (show u3 N 11 27 m (nI d) 11 18 m = nI (tn (N 11 18 m)) from e18) ?_
    refine v_icmp_ge_f (tgt := 47) (nI_ge (a := n) (b := tn (N 11 18 m)) (by omega) (by omega)) dX11_today_31 (by decide) rfl ?_
    refine v_aload_0 dX11_today_34 rfl ?_
    refine v_iload_3 dX11_today_35 rfl ?_
    refine v_callV (ci := 11) (F := TX11) (c_X11_listens (I := I') m ad (tn (I' (ad 22) n)) (npw (mr I' ad) n) d n (I' (ad 19) n) hM i1 (by omega) i3 i4 i5 u3_self hd rfl) yy_X11_listens im_X11_listens se_X11_listens lk_11_249 (MOK.t hM) (zle rfl) rfl (zle rfl) (zle rfl) (zle rfl) (zle rfl) rfl rfl (zle rfl) dX11_today_36 rfl (zp.use ?_)
    refine v_istore_4 dX11_today_39 rfl (zle rfl) rfl ?_
    refine v_iinc_3 dX11_today_41 (nI_1 n) rfl (zle rfl) rfl ?_
    refine v_goto (n := 26) dX11_today_44 (by decide) ?_
    exact ih (n + 1) _ _ (by omega) (by rw [mrIZ hM]; show rz (mr I' ad) n (lsw (mr I' ad) d n) = tdy d (n + 1) (mr I ad); rw [hm]; rfl) (hF.iz n _)
theorem c_X11_today {E : zE} {T : zT} {N : zN} {P : zP} {I : zI} {R : zR} (m : Nat) (ad : Nat → Nat) (y : Int32) (hM : MOK T P m ad) (hI : WkI (mf N m) (mr I ad)) : zC E yX11_today cX11_today 5 (some .int) (zr0 3 77) [.ref m, .int y] T N P I R (mQ m ad T N P I R (ac_today (mf N m) (mr I ad) y)) := by
  refine zC.intro (ls := [some (.ref m), some (.int y), none, none, none]) pl_RX11 (zle rfl) 3 rfl (fun K => ?_)
  refine v_iload_1 dX11_today_0 rfl ?_
  refine v_callS (c_X11_isDay _) yy_X11_isDay st_X11_isDay lk_11_144 (zle rfl) (zle rfl) (zle rfl) (zle rfl) rfl rfl (zle rfl) dX11_today_1 rfl (zp.use ?_)
  refine v_ifz_ne (tgt := 14) dX11_today_4 (by decide) rfl (fun c4 => ?_) (fun c4 => ?_)
  · refine v_aload_0 dX11_today_14 rfl ?_
    refine v_getN fl_11_245 (MOK.t hM) rfl (zle rfl) rfl dX11_today_15 rfl ?_
    refine v_istore_2 dX11_today_18 rfl (zle rfl) rfl ?_
    obtain ⟨d, hd, rfl⟩ : ∃ q, q < 7 ∧ y = nI q := by
      obtain ⟨k1, k2⟩ := tn_pos c4.1
      have := c4.2
      rw [Int32.le_iff_toInt_le] at this
      have e6 : (6 : Int32).toInt = 6 := rfl
      exact ⟨tn y, by omega, k1⟩
    refine v_aload_0 dX11_today_19 rfl ?_
    refine v_iload_1 dX11_today_20 rfl ?_
    refine v_putN fw_11_245 (MOK.t hM) rfl (zle rfl) rfl (fun h => by cases h) rfl rfl dX11_today_21 rfl ?_
    refine v_iconst (v := 0) dX11_today_24 rfl rfl ?_
    refine v_istore_3 dX11_today_25 rfl (zle rfl) rfl ?_
    exact lp_X11_today hM hI hd rfl c4 (tn (N 11 18 m)) 0 I _ (by omega) rfl (Mfr.rf.n _ _ _)
  · refine v_aload_0 dX11_today_7 rfl ?_
    refine v_ldc dX11_today_8 kc_11_131 rfl ?_
    refine v_callV (ci := 11) (F := TX11) (c_X11_finding _ _ (MOK.t hM)) yy_X11_finding im_X11_finding se_X11_finding lk_11_132 (MOK.t hM) (zle rfl) rfl (zle rfl) (zle rfl) (zle rfl) (zle rfl) rfl rfl (zle rfl) dX11_today_10 rfl (zp.use ?_)
    exact v_ireturn rfl (mQ_fd hM (zi_f c4)) (zle rfl) (zle rfl) dX11_today_13
theorem lp_X10_today {E : zE} {T : zT} {N : zN} {P : zP} {I : zI} {R : zR} {x : Nat} {Mn : Nat → Prop} {b : Nat → Nat → Nat} {g : Nat} {f : zf} {r : zg} {d : Nat} {v : Int32} {K : zK E yX10_today cX10_today 4 (some .int) (zr0 3 73)} (hI : WkI f r) (hd : d < 7) (hv : v = f 27) (c4 : 0 ≤ nI d ∧ nI d ≤ 6) :
    ∀ k n (N' : zN), n + k = tn (f 18) → CR T N' P I R x Mn b g (u1 f 27 (nI d)) (tdy d n r) → N' 11 = N 11 → V K (zQf K (cQ x Mn g T N P I R (ac_today f r (nI d)))) T N' P I R 0 0 26 [some (.ref x), some (.int (nI d)), some (.int v), some (.int (nI n))] [] := by
  have h18b : tn (f 18) < 7 := hI.1.2
  have td : tn (nI d) = d := tn_nI (by omega)
  intro k
  induction k with
  | zero =>
    intro n N' hn hC hF
    obtain rfl : n = tn (f 18) := by omega
    obtain ⟨⟨x1, x2, x3, x4, x5, x6, x7, x8, x9, x10, x11, x12, x13, x14⟩, -⟩ := id hC
    refine v_iload_3 dX10_today_26 rfl ?_
    refine v_aload_0 dX10_today_27 rfl ?_
    refine v_getN fl_10_52 (by assumption) rfl (zle rfl) rfl dX10_today_28 rfl ?_
    refine v_top (x12.trans hI.1.1) ?_
    refine v_icmp_ge_t (n := 54) (nI_le (a := tn (f 18)) (b := tn (f 18)) (Nat.le_refl _) (by omega)) dX10_today_31 (by decide) ?_
    refine v_iload_2 dX10_today_54 rfl ?_
    exact v_ireturn rfl (cQ_go b g (zi_t c4) hv (by rw [td]; exact hC) ⟨hF, rfl, fun _ _ => ⟨rfl, rfl⟩⟩) (zle rfl) (zle rfl) dX10_today_55
  | succ k ih =>
    intro n N' hn hC hF
    have hnw : n < tn (f 18) := by omega
    obtain ⟨⟨x1, x2, x3, x4, x5, x6, x7, x8, x9, x10, x11, x12, x13, x14⟩, -, -, -, hE, ⟨w1, w2⟩, -⟩ := id hC
    have hI' := hI.td d n
    obtain ⟨i1, i2, i3, i4, i5, i6⟩ := hI'.ed hnw
    obtain ⟨g1, g2, g3, g4, g5, g6, g7, g8, g9, g10, g11⟩ := w1 n hnw
    obtain ⟨q1, q2⟩ := hE _ i2
    have hz : lsn (tdy d n r) (tn (tdy d n r 22 n)) (tn (tdy d n r 10 (tn (tdy d n r 22 n)))) (tdy d n r 19 n) d 12 (N' 8 4 (b 5 n), N' 8 5 (b 5 n), N' 8 6 (b 5 n), 0) = lsw (tdy d n r) d n := by
      rw [g7, g8, g9]
      rfl
    refine v_iload_3 dX10_today_26 rfl ?_
    refine v_aload_0 dX10_today_27 rfl ?_
    refine v_getN fl_10_52 (by assumption) rfl (zle rfl) rfl dX10_today_28 rfl ?_
    refine v_top (x12.trans hI.1.1) ?_
    refine v_icmp_ge_f (tgt := 54) (nI_ge (a := n) (b := tn (f 18)) (by omega) (by omega)) dX10_today_31 (by decide) rfl ?_
    refine v_aload_0 dX10_today_34 rfl ?_
    refine v_getP fl_10_31 (by assumption) (by assumption) rfl (zle rfl) rfl dX10_today_35 rfl ?_
    refine v_iload_3 dX10_today_38 rfl ?_
    refine v_aald (j := n) ti_8 (by assumption) rfl (by omega) (zle rfl) g1 dX10_today_39 rfl ?_
    refine v_aload_0 dX10_today_40 rfl ?_
    refine v_getN fl_10_55 (by assumption) rfl (zle rfl) rfl dX10_today_41 rfl ?_
    refine v_top (x13.trans u1_self) ?_
    refine v_callV (ci := 8) (F := TX8) (c_X8_listen (N := N') (tn (tdy d n r 22 n)) (b 3 (tn (tdy d n r 22 n))) (b 4 (tn (tdy d n r 22 n))) d (b 5 n) (b (10 + tn (tdy d n r 22 n))) (tdy d n r) (tdy d n r 19 n) q2 (hI'.2.2.1 _ i2).1 (hI'.2.2.1 _ i2).2 hd g2 g3 g6) yy_X8_listen im_X8_listen se_X8_listen lk_10_190 g2 (zle rfl) rfl (zle rfl) (zle rfl) (zle rfl) (zle rfl) rfl rfl (zle rfl) dX10_today_44 rfl (zp.use ?_)
    rw [hz]
    refine v_pop dX10_today_47 rfl rfl ?_
    refine v_iinc_3 dX10_today_48 (nI_1 n) rfl (zle rfl) rfl ?_
    refine v_goto (n := 26) dX10_today_51 (by decide) ?_
    refine ih (n + 1) _ (by omega) ?_ ?_
    · show CR T _ P I R x Mn b g _ (rz (tdy d n r) n (lsw (tdy d n r) d n))
      generalize lsw (tdy d n r) d n = z
      refine hC.wk hnw (fun c k a h => ?_) (by simp [NZ, u3]) (by simp [NZ, u3]) (fun k a1 a2 a3 a4 a5 a6 => by rw [rz, u2_off _ _ a4, u2_off _ _ a3, u2_off _ _ a2]) (fun k j hj => by rw [rz, u2_ni hj, u2_ni hj, u2_ni hj]) ?_ ?_ ?_ ?_ ?_ ?_
      · unfold NZ
        rcases h with h | h
        · simp [u3, h]
        · simp [u3, h]
      · simp only [NZ, u3, u2]; simp; exact g6
      · simp [NZ, u3, u2]
      · simp [NZ, u3, u2]
      · simp [NZ, u3, u2]
      · simp only [NZ, u3, u2]; simp; exact g10
      · simp only [NZ, u3, u2]; simp; exact g11
    · rw [← hF]
      funext k a
      simp [NZ, u3]
theorem c_X10_today {E : zE} {T : zT} {N : zN} {P : zP} {I : zI} {R : zR} (x : Nat) (Mn : Nat → Prop) (b : Nat → Nat → Nat) (g : Nat) (f : zf) (r : zg) (y : Int32) (hC : CR T N P I R x Mn b g f r) (hI : WkI f r) : zC E yX10_today cX10_today 4 (some .int) (zr0 3 73) [.ref x, .int y] T N P I R (cQ x Mn g T N P I R (ac_today f r y)) := by
  refine zC.intro (ls := [some (.ref x), some (.int y), none, none]) pl_RX10 (zle rfl) 2 rfl (fun K => ?_)
  obtain ⟨hX, hT, hA, hP, hE, hW, hS, hQ⟩ := id hC
  obtain ⟨x1, x2, x3, x4, x5, x6, x7, x8, x9, x10, x11, x12, x13, x14⟩ := id hX
  refine v_iload_1 dX10_today_0 rfl ?_
  refine v_callS (c_X10_isDay _) yy_X10_isDay st_X10_isDay lk_10_101 (zle rfl) (zle rfl) (zle rfl) (zle rfl) rfl rfl (zle rfl) dX10_today_1 rfl (zp.use ?_)
  refine v_ifz_ne (tgt := 14) dX10_today_4 (by decide) rfl (fun c4 => ?_) (fun c4 => ?_)
  · refine v_aload_0 dX10_today_14 rfl ?_
    refine v_getN fl_10_55 (by assumption) rfl (zle rfl) rfl dX10_today_15 rfl ?_
    refine v_istore_2 dX10_today_18 rfl (zle rfl) rfl ?_
    obtain ⟨d, hd, rfl⟩ : ∃ q, q < 7 ∧ y = nI q := by
      obtain ⟨k1, k2⟩ := tn_pos c4.1
      have := c4.2
      rw [Int32.le_iff_toInt_le] at this
      have e6 : (6 : Int32).toInt = 6 := rfl
      exact ⟨tn y, by omega, k1⟩
    refine v_aload_0 dX10_today_19 rfl ?_
    refine v_iload_1 dX10_today_20 rfl ?_
    refine v_putN fw_10_55 (by assumption) rfl (zle rfl) rfl (fun h => by cases h) rfl rfl dX10_today_21 rfl ?_
    refine v_iconst (v := 0) dX10_today_24 rfl rfl ?_
    refine v_istore_3 dX10_today_25 rfl (zle rfl) rfl ?_
    exact lp_X10_today hI hd x13 c4 (tn (f 18)) 0 _ (by omega) ⟨⟨x1, x2, x3, x4, x5, x6, x7, x8, x9, x10, x11, x12, by rw [u3_self, u1_self], x14⟩, hT, hA, hP, hE, hW, hS, hQ⟩ rfl
  · refine v_aload_0 dX10_today_7 rfl ?_
    refine v_ldc dX10_today_8 kc_10_65 rfl ?_
    refine v_callV (ci := 10) (F := TX10) (c_X10_finding _ _ (by assumption)) yy_X10_finding im_X10_finding se_X10_finding lk_10_66 (by assumption) (zle rfl) rfl (zle rfl) (zle rfl) (zle rfl) (zle rfl) rfl rfl (zle rfl) dX10_today_10 rfl (zp.use ?_)
    exact v_ireturn rfl (cQ_fd hC (zi_f c4)) (zle rfl) (zle rfl) dX10_today_13
