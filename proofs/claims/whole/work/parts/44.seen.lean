noncomputable def ac_seen (f : zf) (r : zg) (w x y k : Int32) : zO := zi ((0 ≤ w ∧ w ≤ f 18 - 1) ∧ (0 ≤ k ∧ k ≤ 30)) (zi (ovr r (tn (r 22 (tn w))) (r 20 (tn w)) (npw r (tn w))) (fdg (-1000005) f r) (rds f r (tn w) x y k 19 (tn w), f, rds f r (tn w) x y k)) (fdg (-1000001) f r)
theorem Nt.of30 {k : Int32} (h : 0 ≤ k ∧ k ≤ 30) : Nt k 31 := by
  refine Nt.mk h.1 ?_
  have := h.2
  rw [Int32.le_iff_toInt_le] at this
  have e : (30 : Int32).toInt = 30 := rfl
  omega
theorem sgt_N {N : zN} {r : zg} {q w : Nat} {a : Int32} (h8 : N 8 8 q = r 26 w) (h7 : ¬ r 26 w = 0 → N 8 7 q = r 25 w) (h26 : Nt (r 26 w) 4) : sgt N q a = rdN r w a := by
  unfold sgt rdN
  by_cases h0 : r 26 w = 0
  · rw [h8, h0, zi_f (p := 0 < (0 : Int32) ∧ r 25 w = a) (fun h => absurd h.1 (by decide))]
    by_cases h : a = N 8 7 q
    · rw [zi_t h]; rfl
    · rw [zi_f h]; rfl
  · have hp : 0 < r 26 w := by
      have e := h26.toInt (by decide)
      rw [Int32.lt_iff_toInt_lt, e]
      have : (0 : Int32).toInt = 0 := rfl
      rcases Nat.eq_zero_or_pos (tn (r 26 w)) with z | z
      · exact absurd (by rw [h26.1, z]; rfl) h0
      · omega
    rw [h8, h7 h0]
    by_cases h : a = r 25 w
    · rw [zi_t h, zi_t ⟨hp, h.symm⟩]
    · rw [zi_f h, zi_f (fun g => h g.2.symm)]; rfl
theorem sur_C {f : zf} {r : zg} {w : Nat} {a n : Int32} : sur r (tn (f 3)) (tn (f 27)) (r 23 w = 1) (r 19 w) a n ↔ rdC f r w a n := by
  unfold sur rdC
  have h42 : 4 ≤ n → 2 ≤ n := fun h => by
    rw [Int32.le_iff_toInt_le] at *
    have e4 : (4 : Int32).toInt = 4 := rfl
    have e2 : (2 : Int32).toInt = 2 := rfl
    omega
  constructor
  · rintro (⟨h1, h2⟩ | ⟨h1, h2⟩)
    · exact Or.inr ⟨h2, h1⟩
    · exact Or.inl h2
  · rintro (h | ⟨h1, h2⟩)
    · by_cases hj : ∃ q, q < tn (f 3) ∧ jnd r (tn (f 27)) (r 23 w = 1) (r 19 w) a q
      · exact Or.inl ⟨hj, h42 h⟩
      · exact Or.inr ⟨hj, h⟩
    · exact Or.inl ⟨h2, h1⟩
/-- a reading of the class keeps the tie -/
theorem CR.rd {T : zT} {N N1 : zN} {P : zP} {I : zI} {R : zR} {x0 : Nat} {Mn : Nat → Prop} {b : Nat → Nat → Nat} {g : Nat} {f : zf} {r : zg} (h : CR T N P I R x0 Mn b g f r) (hS : SnI f r) {w : Nat} (hw : w < tn (f 18)) {x y k9 : Int32} (hq : ((psb r x y k9 (tn (r 19 w)) ∧ N1 = u3 (u3 N 8 7 (b 5 w) (-1)) 8 8 (b 5 w) 0) ∨ (¬ psb r x y k9 (tn (r 19 w)) ∧ ∃ j, j < 8 ∧ psn r x y k9 (tn (f 0)) = 2 ^ j ∧ N1 = zi (sur r (tn (f 3)) (tn (f 27)) (r 23 w = 1) (N 8 3 (b 5 w)) (nI j) (sgt N (b 5 w) (nI j))) (NZ (u3 (u3 (u3 (u3 (u3 N 8 7 (b 5 w) (nI j)) 8 8 (b 5 w) (sgt N (b 5 w) (nI j))) 8 3 (b 5 w) (nI j)) 8 7 (b 5 w) (-1)) 8 8 (b 5 w) 0) (b 5 w) (lsn r (tn (r 22 w)) (tn (r 10 (tn (r 22 w)))) (nI j) (tn (f 27)) 12 (N 8 4 (b 5 w), N 8 5 (b 5 w), N 8 6 (b 5 w), 0))) (u3 (u3 N 8 7 (b 5 w) (nI j)) 8 8 (b 5 w) (sgt N (b 5 w) (nI j)))) ∨ (¬ psb r x y k9 (tn (r 19 w)) ∧ (∀ j, j < 8 → ¬ psn r x y k9 (tn (f 0)) = 2 ^ j) ∧ N1 = N))) : CR T N1 P I R x0 Mn b g f (rds f r w x y k9) ∧ N1 11 = N 11 := by
  obtain ⟨g1, g2, g3, g4, g5, g6, g7, g8, g9, g10, g11⟩ := h.2.2.2.2.2.1.1 w hw
  obtain ⟨hI, h0, h3, hxy, hwy, hwk⟩ := id hS
  obtain ⟨v1, v2, v3⟩ := hwk w hw
  have h0b := h0.2
  rcases hq with ⟨hp, e⟩ | ⟨hp, j, hj, ej, e⟩ | ⟨hp, hn, e⟩
  · have er : rds f r w x y k9 = u2 r 26 w 0 := zi_t hp
    rw [er, e]
    refine ⟨h.wk hw (fun c k a h => ?_) (by simp [u3]) (by simp [u3]) (fun k a1 a2 a3 a4 a5 a6 => u2_off _ _ a6) (fun k j hj => u2_ni hj) ?_ ?_ ?_ ?_ ?_ ?_, by funext k a; simp [u3]⟩
    · rcases h with h | h
      · simp [u3, h]
      · simp [u3, h]
    · simp only [u3, u2]; simp; exact g6
    · simp only [u3, u2]; simp; exact g7
    · simp only [u3, u2]; simp; exact g8
    · simp only [u3, u2]; simp; exact g9
    · simp [u3, u2]
    · intro hh; exact absurd u2_self hh
  · have ea : rdA f r x y k9 = nI j := (rd_which ej).2.2
    have en : sgt N (b 5 w) (nI j) = rdN r w (nI j) := sgt_N g10 g11 v3
    have h1 : rdn r x y k9 (tn (f 0)) = 1 := (rd_one (by omega)).mpr ⟨j, hj, ej⟩
    rw [g6, en] at e
    by_cases hc : rdC f r w (nI j) (rdN r w (nI j))
    · have er : rds f r w x y k9 = rz (u2 (u2 (rd1 r w (nI j)) 19 w (nI j)) 26 w 0) w (cmz f r w (r 21 w) (nI j)) := by
        unfold rds
        rw [zi_f hp, zi_t h1, ea, zi_t hc]
      rw [zi_t (sur_C.mpr hc)] at e
      have ez : lsn r (tn (r 22 w)) (tn (r 10 (tn (r 22 w)))) (nI j) (tn (f 27)) 12 (N 8 4 (b 5 w), N 8 5 (b 5 w), N 8 6 (b 5 w), 0) = cmz f r w (r 21 w) (nI j) := by
        rw [g7, g8, g9]
        rfl
      rw [ez] at e
      rw [er, e]
      generalize cmz f r w (r 21 w) (nI j) = z
      refine ⟨h.wk hw (fun c k a h => ?_) (by simp [NZ, u3]) (by simp [NZ, u3]) (fun k a1 a2 a3 a4 a5 a6 => by rw [rz, u2_off _ _ a4, u2_off _ _ a3, u2_off _ _ a2, u2_off _ _ a6, u2_off _ _ a1, rd1, u2_off _ _ a5, u2_off _ _ a6]) (fun k j hj => by rw [rz, u2_ni hj, u2_ni hj, u2_ni hj, u2_ni hj, u2_ni hj, rd1, u2_ni hj, u2_ni hj]) ?_ ?_ ?_ ?_ ?_ ?_, by funext k a; simp [NZ, u3]⟩
      · unfold NZ
        rcases h with h | h
        · simp [u3, h]
        · simp [u3, h]
      · simp [NZ, u3, u2]
      · simp [NZ, u3, u2]
      · simp [NZ, u3, u2]
      · simp [NZ, u3, u2]
      · simp [NZ, u3, u2]
      · intro h0
        exact absurd (by simp [u2]) h0
    · have er : rds f r w x y k9 = rd1 r w (nI j) := by
        unfold rds
        rw [zi_f hp, zi_t h1, ea, zi_f hc]
      rw [zi_f (fun g => hc (sur_C.mp g))] at e
      rw [er, e]
      refine ⟨h.wk hw (fun c k a h => ?_) (by simp [u3]) (by simp [u3]) (fun k a1 a2 a3 a4 a5 a6 => by rw [rd1, u2_off _ _ a5, u2_off _ _ a6]) (fun k j hj => by rw [rd1, u2_ni hj, u2_ni hj]) ?_ ?_ ?_ ?_ ?_ ?_, by funext k a; simp [u3]⟩
      · rcases h with h | h
        · simp [u3, h]
        · simp [u3, h]
      · simp only [rd1, u3, u2]; simp; exact g6
      · simp only [rd1, u3, u2]; simp; exact g7
      · simp only [rd1, u3, u2]; simp; exact g8
      · simp only [rd1, u3, u2]; simp; exact g9
      · simp [rd1, u3, u2]
      · intro _; simp [rd1, u3, u2]
  · have h1 : ¬ rdn r x y k9 (tn (f 0)) = 1 := fun g => by
      obtain ⟨j, hj, ej⟩ := (rd_one (by omega)).mp g
      exact hn j hj ej
    have er : rds f r w x y k9 = r := (zi_f hp).trans (zi_f h1)
    rw [er, e]
    exact ⟨h, rfl⟩
theorem c_X11_seen {E : zE} {T : zT} {N : zN} {P : zP} {I : zI} {R : zR} (m : Nat) (ad : Nat → Nat) (w x y k : Int32) (hM : MOK T P m ad) (hS : SnI (mf N m) (mr I ad)) : zC E yX11_seen cX11_seen 5 (some .int) (zr0 5 126) [.ref m, .int w, .int x, .int y, .int k] T N P I R (mQ m ad T N P I R (ac_seen (mf N m) (mr I ad) w x y k)) := by
  refine zC.intro (ls := [some (.ref m), some (.int w), some (.int x), some (.int y), some (.int k)]) pl_RX11 (zle rfl) 0 rfl (fun K => ?_)
  refine v_aload_0 dX11_seen_0 rfl ?_
  refine v_iload_1 dX11_seen_1 rfl ?_
  refine v_callV (ci := 11) (F := TX11) (c_X11_isWalker _ _ (MOK.t hM)) yy_X11_isWalker im_X11_isWalker se_X11_isWalker lk_11_252 (MOK.t hM) (zle rfl) rfl (zle rfl) (zle rfl) (zle rfl) (zle rfl) rfl rfl (zle rfl) dX11_seen_2 rfl (zp.use ?_)
  refine v_ifz_eq (tgt := 19) dX11_seen_5 (by decide) rfl (fun c5 => ?_) (fun c5 => ?_)
  · refine v_aload_0 dX11_seen_19 rfl ?_
    refine v_ldc dX11_seen_20 kc_11_131 rfl ?_
    refine v_callV (ci := 11) (F := TX11) (c_X11_finding _ _ (MOK.t hM)) yy_X11_finding im_X11_finding se_X11_finding lk_11_132 (MOK.t hM) (zle rfl) rfl (zle rfl) (zle rfl) (zle rfl) (zle rfl) rfl rfl (zle rfl) dX11_seen_22 rfl (zp.use ?_)
    exact v_ireturn rfl (mQ_fd hM (zi_f (fun h => c5 h.1))) (zle rfl) (zle rfl) dX11_seen_25
  · refine v_iload_4 dX11_seen_8 rfl ?_
    refine v_iconst (v := 0) dX11_seen_10 rfl rfl ?_
    refine v_bipush (v := 30) dX11_seen_11 rfl rfl ?_
    refine v_callS (c_X11_within _ _ _) yy_X11_within st_X11_within lk_11_121 (zle rfl) (zle rfl) (zle rfl) (zle rfl) rfl rfl (zle rfl) dX11_seen_13 rfl (zp.use ?_)
    refine v_ifz_ne (tgt := 26) dX11_seen_16 (by decide) rfl (fun c16 => ?_) (fun c16 => ?_)
    · obtain ⟨w, hw, rfl⟩ := fnd (c := N 11 18 m) hS.1.1 (by decide) c5
      obtain ⟨i1, i2, i3, i4, i5, i6⟩ := hS.1.ed hw
      have tw : tn (nI w) = w := tn_nI (by omega)
      refine v_aload_0 dX11_seen_26 rfl ?_
      refine v_iload_1 dX11_seen_27 rfl ?_
      refine v_callV (ci := 11) (F := TX11) (c_X11_isDone m ad (tn (I (ad 22) w)) (npw (mr I ad) w) w hM (by omega) i1 i3 i4 i5) yy_X11_isDone im_X11_isDone se_X11_isDone lk_11_255 (MOK.t hM) (zle rfl) rfl (zle rfl) (zle rfl) (zle rfl) (zle rfl) rfl rfl (zle rfl) dX11_seen_28 rfl (zp.use ?_)
      refine v_ifz_eq (tgt := 41) dX11_seen_31 (by decide) rfl (fun c31 => ?_) (fun c31 => ?_)
      · refine v_aload_0 dX11_seen_41 rfl ?_
        refine v_iload_1 dX11_seen_42 rfl ?_
        refine v_iload_2 dX11_seen_43 rfl ?_
        refine v_iload_3 dX11_seen_44 rfl ?_
        refine v_iload_4 dX11_seen_45 rfl ?_
        refine v_callV (ci := 11) (F := TX11) (c_X11_reads m ad w x y k hM hS hw (Nt.of30 c16)) yy_X11_reads im_X11_reads se_X11_reads lk_11_275 (MOK.t hM) (zle rfl) rfl (zle rfl) (zle rfl) (zle rfl) (zle rfl) rfl rfl (zle rfl) dX11_seen_47 rfl (fun v1 T1 N1 P1 I1 R1 hq => ?_)
        obtain ⟨rfl, e1, e2, e3, e4, e5, e6⟩ := hq
        subst e1 e2 e3 e4
        refine v_aload_0 dX11_seen_50 rfl ?_
        refine v_getP fl_11_53 (mp_19 hM) (MOK.t hM) rfl (zle rfl) rfl dX11_seen_51 rfl ?_
        refine v_iload_1 dX11_seen_54 rfl ?_
        refine v_iald (j := w) (ma_19 hM) rfl (by omega) (zle rfl) dX11_seen_55 rfl ?_
        exact v_ireturn rfl (mQ_go hM ((zi_t ⟨c5, c16⟩).trans (zi_f (by rw [tw]; exact c31))) (by rw [tw, ← e5]; rfl) rfl (by rw [tw]; exact e5) e6) (zle rfl) (zle rfl) dX11_seen_56
      · refine v_aload_0 dX11_seen_34 rfl ?_
        refine v_ldc dX11_seen_35 kc_11_248 rfl ?_
        refine v_callV (ci := 11) (F := TX11) (c_X11_finding _ _ (MOK.t hM)) yy_X11_finding im_X11_finding se_X11_finding lk_11_132 (MOK.t hM) (zle rfl) rfl (zle rfl) (zle rfl) (zle rfl) (zle rfl) rfl rfl (zle rfl) dX11_seen_37 rfl (zp.use ?_)
        exact v_ireturn rfl (mQ_fd hM ((zi_t ⟨c5, c16⟩).trans (zi_t (by rw [tw]; exact c31)))) (zle rfl) (zle rfl) dX11_seen_40
    · refine v_aload_0 dX11_seen_19 rfl ?_
      refine v_ldc dX11_seen_20 kc_11_131 rfl ?_
      refine v_callV (ci := 11) (F := TX11) (c_X11_finding _ _ (MOK.t hM)) yy_X11_finding im_X11_finding se_X11_finding lk_11_132 (MOK.t hM) (zle rfl) rfl (zle rfl) (zle rfl) (zle rfl) (zle rfl) rfl rfl (zle rfl) dX11_seen_22 rfl (zp.use ?_)
      exact v_ireturn rfl (mQ_fd hM (zi_f (fun h => c16 h.2))) (zle rfl) (zle rfl) dX11_seen_25
theorem c_X10_seen {E : zE} {T : zT} {N : zN} {P : zP} {I : zI} {R : zR} (x : Nat) (Mn : Nat → Prop) (b : Nat → Nat → Nat) (g : Nat) (f : zf) (r : zg) (w u v k : Int32) (hC : CR T N P I R x Mn b g f r) (hZ : SnI f r) : zC E yX10_seen cX10_seen 6 (some .int) (zr0 6 145) [.ref x, .int w, .int u, .int v, .int k] T N P I R (cQ x Mn g T N P I R (ac_seen f r w u v k)) := by
  refine zC.intro (ls := [some (.ref x), some (.int w), some (.int u), some (.int v), some (.int k), none]) pl_RX10 (zle rfl) 1 rfl (fun K => ?_)
  obtain ⟨hX, hT, hA, hP, hE, hW, hS, hQ⟩ := id hC
  obtain ⟨x1, x2, x3, x4, x5, x6, x7, x8, x9, x10, x11, x12, x13, x14⟩ := id hX
  obtain ⟨w1, w2⟩ := id hW
  obtain ⟨t1, t2, t3, t4, t5, t6, t7, t8, t9, t10⟩ := id hT
  refine v_aload_0 dX10_seen_0 rfl ?_
  refine v_iload_1 dX10_seen_1 rfl ?_
  rcases Classical.em (0 ≤ w ∧ w ≤ f 18 - 1) with hw0 | hw0
  · obtain ⟨w, hw, rfl⟩ := fnd hZ.1.1 (by decide) hw0
    obtain ⟨i1, i2, i3, i4, i5, i6⟩ := hZ.1.ed hw
    have tw : tn (nI w) = w := tn_nI (by omega)
    obtain ⟨g1, g2, g3, g4, g5, g6, g7, g8, g9, g10, g11⟩ := w1 w hw
    obtain ⟨q1, q2⟩ := hE _ i2
    obtain ⟨v1, v2, v3⟩ := hZ.2.2.2.2.2 w hw
    have hd7 : tn (f 27) < 7 := hZ.1.2.2.2.1.2
    refine v_callV (ci := 10) (F := TX10) (c_X10_findWalker x (b 0 3) w (b 5 w) x1 x5 x9 (by rw [x12]; exact hw0) (by omega) g1) yy_X10_findWalker im_X10_findWalker se_X10_findWalker lk_10_193 (by assumption) (zle rfl) rfl (zle rfl) (zle rfl) (zle rfl) (zle rfl) rfl rfl (zle rfl) dX10_seen_2 rfl (za.use ?_)
    refine v_astore_5 dX10_seen_5 rfl (zle rfl) rfl ?_
    refine v_aload_5 dX10_seen_7 rfl ?_
    refine v_ifnull dX10_seen_9 rfl ?_
    refine v_iload_4 dX10_seen_12 rfl ?_
    refine v_callS (c_X10_isDoubt _) yy_X10_isDoubt st_X10_isDoubt lk_10_247 (zle rfl) (zle rfl) (zle rfl) (zle rfl) rfl rfl (zle rfl) dX10_seen_14 rfl (zp.use ?_)
    refine v_ifz_ne (tgt := 27) dX10_seen_17 (by decide) rfl (fun c17 => ?_) (fun c17 => ?_)
    · refine v_aload_5 dX10_seen_27 rfl ?_
      refine v_callV (ci := 8) (F := TX8) (c_X8_isOver (b 5 w) (b 3 (tn (r 22 w))) g2 g3 q2.1) yy_X8_isOver im_X8_isOver se_X8_isOver lk_10_197 g2 (zle rfl) rfl (zle rfl) (zle rfl) (zle rfl) (zle rfl) rfl rfl (zle rfl) dX10_seen_29 rfl (zp.use ?_)
      refine v_top (zb_iff (q := ovr r (tn (r 22 w)) (r 20 w) (npw r w)) (by rw [g7]; exact ends_ovr q2 i5 (r 20 w))) ?_
      refine v_ifz_eq (tgt := 42) dX10_seen_32 (by decide) rfl (fun c32 => ?_) (fun c32 => ?_)
      · refine v_aload_5 dX10_seen_42 rfl ?_
        refine v_aload_0 dX10_seen_44 rfl ?_
        refine v_getP fl_10_10 (by assumption) (by assumption) rfl (zle rfl) rfl dX10_seen_45 rfl ?_
        refine v_aload_0 dX10_seen_48 rfl ?_
        refine v_getN fl_10_55 (by assumption) rfl (zle rfl) rfl dX10_seen_49 rfl ?_
        refine v_top (x13.trans hZ.1.2.2.2.1.1) ?_
        refine v_iload_2 dX10_seen_52 rfl ?_
        refine v_iload_3 dX10_seen_53 rfl ?_
        refine v_iload_4 dX10_seen_54 rfl ?_
        refine v_callV (ci := 8) (F := TX8) (c_X8_takeReading (tn (r 22 w)) (b 3 (tn (r 22 w))) (b 4 (tn (r 22 w))) (tn (f 27)) (b 5 w) (tn (r 19 w)) (b (10 + tn (r 22 w))) b f r (r 23 w = 1) u v k q2 (hZ.1.2.2.1 _ i2).1 (hZ.1.2.2.1 _ i2).2 hd7 g2 g3 hT hZ.2.2.1 (g5.trans (zb_of v2)) hZ.2.1 (hA.2.1 0 (Or.inl (by decide))).1 (hA.2.1 1 (Or.inl (by decide))).1 (g6.trans v1.1) v1.2) yy_X8_takeReading im_X8_takeReading se_X8_takeReading lk_10_250 g2 (zle rfl) rfl (zle rfl) (zle rfl) (zle rfl) (zle rfl) rfl rfl (zle rfl) dX10_seen_56 rfl (fun v1 T1 N1 P1 I1 R1 hq => ?_)
        obtain ⟨rfl, e1, e2, e3, e4, e5⟩ := hq
        subst e1 e2 e3 e4
        obtain ⟨hC1, hF1⟩ := hC.rd hZ hw e5
        refine v_aload_5 dX10_seen_59 rfl ?_
        refine v_getN fl_10_201 g2 rfl (zle rfl) rfl dX10_seen_61 rfl ?_
        exact v_ireturn rfl (cQ_go b g ((zi_t ⟨hw0, c17⟩).trans (zi_f (by rw [tw]; exact c32))) (by rw [tw]; exact (hC1.2.2.2.2.2.1.1 w hw).2.2.2.2.2.1) (by rw [tw]; exact hC1) ⟨hF1, rfl, fun _ _ => ⟨rfl, rfl⟩⟩) (zle rfl) (zle rfl) dX10_seen_64
      · refine v_aload_0 dX10_seen_35 rfl ?_
        refine v_ldc dX10_seen_36 kc_10_183 rfl ?_
        refine v_callV (ci := 10) (F := TX10) (c_X10_finding _ _ (by assumption)) yy_X10_finding im_X10_finding se_X10_finding lk_10_66 (by assumption) (zle rfl) rfl (zle rfl) (zle rfl) (zle rfl) (zle rfl) rfl rfl (zle rfl) dX10_seen_38 rfl (zp.use ?_)
        exact v_ireturn rfl (cQ_fd hC ((zi_t ⟨hw0, c17⟩).trans (zi_t (by rw [tw]; exact c32)))) (zle rfl) (zle rfl) dX10_seen_41
    · refine v_aload_0 dX10_seen_20 rfl ?_
      refine v_ldc dX10_seen_21 kc_10_65 rfl ?_
      refine v_callV (ci := 10) (F := TX10) (c_X10_finding _ _ (by assumption)) yy_X10_finding im_X10_finding se_X10_finding lk_10_66 (by assumption) (zle rfl) rfl (zle rfl) (zle rfl) (zle rfl) (zle rfl) rfl rfl (zle rfl) dX10_seen_23 rfl (zp.use ?_)
      exact v_ireturn rfl (cQ_fd hC (zi_f (fun h => c17 h.2))) (zle rfl) (zle rfl) dX10_seen_26
  · refine v_callV (ci := 10) (F := TX10) (c_X10_findWalker_n x w x1 (by rw [x12]; exact hw0)) yy_X10_findWalker im_X10_findWalker se_X10_findWalker lk_10_193 (by assumption) (zle rfl) rfl (zle rfl) (zle rfl) (zle rfl) (zle rfl) rfl rfl (zle rfl) dX10_seen_2 rfl (za.use ?_)
    refine v_astoreN_5 dX10_seen_5 rfl (zle rfl) rfl ?_
    refine v_aloadN_5 dX10_seen_7 rfl ?_
    refine v_ifnullN (n := 20) dX10_seen_9 (by decide) ?_
    refine v_aload_0 dX10_seen_20 rfl ?_
    refine v_ldc dX10_seen_21 kc_10_65 rfl ?_
    refine v_callV (ci := 10) (F := TX10) (c_X10_finding _ _ (by assumption)) yy_X10_finding im_X10_finding se_X10_finding lk_10_66 (by assumption) (zle rfl) rfl (zle rfl) (zle rfl) (zle rfl) (zle rfl) rfl rfl (zle rfl) dX10_seen_23 rfl (zp.use ?_)
    exact v_ireturn rfl (cQ_fd hC (zi_f (fun h => hw0 h.1))) (zle rfl) (zle rfl) dX10_seen_26
