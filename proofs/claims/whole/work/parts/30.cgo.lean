/-- a walker's cell changes -/
theorem CR.wk {T : zT} {N N' : zN} {P : zP} {I : zI} {R : zR} {x : Nat} {Mn : Nat → Prop} {b : Nat → Nat → Nat} {g : Nat} {f : zf} {r r' : zg} (h : CR T N P I R x Mn b g f r) {w : Nat} (hw : w < tn (f 18)) (hN : ∀ c k a, c ≠ 8 ∨ a ≠ b 5 w → N' c k a = N c k a) (hN1 : N' 8 1 (b 5 w) = N 8 1 (b 5 w)) (hN2 : N' 8 2 (b 5 w) = N 8 2 (b 5 w)) (hr : ∀ k, k ≠ 19 → k ≠ 20 → k ≠ 21 → k ≠ 24 → k ≠ 25 → k ≠ 26 → r' k = r k) (hr2 : ∀ k j, j ≠ w → r' k j = r k j)
    (h3 : N' 8 3 (b 5 w) = r' 19 w) (h4 : N' 8 4 (b 5 w) = r' 20 w) (h5 : N' 8 5 (b 5 w) = r' 21 w) (h6 : N' 8 6 (b 5 w) = r' 24 w) (h8 : N' 8 8 (b 5 w) = r' 26 w) (h7 : ¬ r' 26 w = 0 → N' 8 7 (b 5 w) = r' 25 w) : CR T N' P I R x Mn b g f r' := by
  obtain ⟨hX, hT, hA, hP, hE, ⟨w1, w2⟩, hS, hQ⟩ := h
  have hc : ∀ c, c ≠ 8 → N' c = N c := fun c h => funext fun k => funext fun a => hN c k a (Or.inl h)
  have k1 : ∀ k, k < 19 → r' k = r k := fun k h => hr k (by omega) (by omega) (by omega) (by omega) (by omega) (by omega)
  have k2 : ∀ k, 27 ≤ k → r' k = r k := fun k h => hr k (by omega) (by omega) (by omega) (by omega) (by omega) (by omega)
  have e22 := hr 22 (by decide) (by decide) (by decide) (by decide) (by decide) (by decide)
  have e23 := hr 23 (by decide) (by decide) (by decide) (by decide) (by decide) (by decide)
  refine ⟨?_, ?_, ?_, ?_, ?_, ⟨?_, w2⟩, ?_, hQ⟩
  · unfold RX
    rw [hc 10 (by decide)]
    exact hX
  · unfold RT RTw
    rw [hc 7 (by decide), hc 9 (by decide), k1 1 (by decide), k1 2 (by decide), k1 4 (by decide), k1 5 (by decide), k1 6 (by decide), k1 7 (by decide), k1 8 (by decide)]
    exact hT
  · unfold RA lvr lnr
    rw [k2 28 (by decide), k2 29 (by decide)]
    exact hA
  · unfold RP
    rw [hc 6 (by decide), k1 16 (by decide)]
    exact hP
  · unfold RE REe REp
    rw [hc 0 (by decide), hc 2 (by decide), k1 10 (by decide), k1 11 (by decide), k1 12 (by decide), k1 13 (by decide), k1 14 (by decide), k1 15 (by decide)]
    exact hE
  · intro n hn
    obtain ⟨g1, g2, g3, g4, g5, g6, g7, g8, g9, g10, g11⟩ := w1 n hn
    by_cases hnw : n = w
    · subst hnw
      exact ⟨g1, g2, by rw [e22]; exact g3, by rw [hN1, e22]; exact g4, by rw [hN2, e23]; exact g5, h3, h4, h5, h6, h8, h7⟩
    · have hb : b 5 n ≠ b 5 w := fun e => hnw (w2 n w hn hw e)
      unfold RWn
      rw [hN 8 1 _ (Or.inr hb), hN 8 2 _ (Or.inr hb), hN 8 3 _ (Or.inr hb), hN 8 4 _ (Or.inr hb), hN 8 5 _ (Or.inr hb), hN 8 6 _ (Or.inr hb), hN 8 7 _ (Or.inr hb), hN 8 8 _ (Or.inr hb), hr2 19 n hnw, hr2 20 n hnw, hr2 21 n hnw, hr2 22 n hnw, hr2 23 n hnw, hr2 24 n hnw, hr2 25 n hnw, hr2 26 n hnw]
      exact ⟨g1, g2, g3, g4, g5, g6, g7, g8, g9, g10, g11⟩
  · unfold RS RSs
    rw [hc 5 (by decide), k2 28 (by decide), k2 29 (by decide), k2 30 (by decide)]
    exact hS
theorem c_X10_go {E : zE} {T : zT} {N : zN} {P : zP} {I : zI} {R : zR} (x : Nat) (Mn : Nat → Prop) (b : Nat → Nat → Nat) (g : Nat) (f : zf) (r : zg) (w y : Int32) (hC : CR T N P I R x Mn b g f r) (hI : WkI f r) (h3 : Nt (f 3) 15) (h23 : ∀ n, n < tn (f 18) → r 23 n = 0 ∨ r 23 n = 1) : zC E yX10_go cX10_go 5 (some .int) (zr0 4 95) [.ref x, .int w, .int y] T N P I R (cQ x Mn g T N P I R (ac_go f r w y)) := by
  refine zC.intro (ls := [some (.ref x), some (.int w), some (.int y), none, none]) pl_RX10 (zle rfl) 2 rfl (fun K => ?_)
  obtain ⟨hX, hT, hA, hP, hE, hW, hS, hQ⟩ := id hC
  obtain ⟨x1, x2, x3, x4, x5, x6, x7, x8, x9, x10, x11, x12, x13, x14⟩ := id hX
  obtain ⟨w1, w2⟩ := id hW
  obtain ⟨t1, t2, t3, t4, t5, t6, t7, t8, t9, t10⟩ := id hT
  refine v_aload_0 dX10_go_0 rfl ?_
  refine v_iload_1 dX10_go_1 rfl ?_
  rcases Classical.em (0 ≤ w ∧ w ≤ f 18 - 1) with hw0 | hw0 <;> rcases Classical.em (0 ≤ y ∧ y ≤ f 3 - 1) with hy0 | hy0
  · obtain ⟨w, hw, rfl⟩ := fnd hI.1 (by decide) hw0
    obtain ⟨i1, i2, i3, i4, i5, i6⟩ := hI.ed hw
    have tw : tn (nI w) = w := tn_nI (by omega)
    obtain ⟨g1, g2, g3, g4, g5, g6, g7, g8, g9, g10, g11⟩ := w1 w hw
    obtain ⟨q1, q2⟩ := hE _ i2
    have hd7 : tn (f 27) < 7 := hI.2.2.2.1.2
    obtain ⟨y, hy, rfl⟩ := fnd h3 (by decide) hy0
    have h3b := h3.2
    have ty : tn (nI y) = y := tn_nI (by omega)
    obtain ⟨v1, v2, v3, v4, v5, v6, v7⟩ := t9 y hy
    refine v_callV (ci := 10) (F := TX10) (c_X10_findWalker x (b 0 3) w (b 5 w) x1 x5 x9 (by rw [x12]; exact hw0) (by omega) g1) yy_X10_findWalker im_X10_findWalker se_X10_findWalker lk_10_193 (by assumption) (zle rfl) rfl (zle rfl) (zle rfl) (zle rfl) (zle rfl) rfl rfl (zle rfl) dX10_go_2 rfl (za.use ?_)
    refine v_astore_3 dX10_go_5 rfl (zle rfl) rfl ?_
    refine v_aload_0 dX10_go_6 rfl ?_
    refine v_getP fl_10_10 (by assumption) (by assumption) rfl (zle rfl) rfl dX10_go_7 rfl ?_
    refine v_iload_2 dX10_go_10 rfl ?_
    refine v_callV (ci := 7) (F := TX7) (c_X7_findWay (b 0 0) (b 0 8) y (b 2 y) t1 t4 t5 (by rw [t7]; exact hy0) (by omega) v1) yy_X7_findWay im_X7_findWay se_X7_findWay lk_10_94 t1 (zle rfl) rfl (zle rfl) (zle rfl) (zle rfl) (zle rfl) rfl rfl (zle rfl) dX10_go_11 rfl (za.use ?_)
    refine v_astore_4 dX10_go_14 rfl (zle rfl) rfl ?_
    refine v_aload_3 dX10_go_16 rfl ?_
    refine v_ifnull dX10_go_17 rfl ?_
    refine v_aload_4 dX10_go_20 rfl ?_
    refine v_ifnonnull (n := 32) dX10_go_22 (by decide) ?_
    refine v_aload_3 dX10_go_32 rfl ?_
    refine v_callV (ci := 8) (F := TX8) (c_X8_isOver (b 5 w) (b 3 (tn (r 22 w))) g2 g3 q2.1) yy_X8_isOver im_X8_isOver se_X8_isOver lk_10_197 g2 (zle rfl) rfl (zle rfl) (zle rfl) (zle rfl) (zle rfl) rfl rfl (zle rfl) dX10_go_33 rfl (zp.use ?_)
    refine v_top (zb_iff (q := ovr r (tn (r 22 w)) (r 20 w) (npw r w)) (by rw [g7]; exact ends_ovr q2 i5 (r 20 w))) ?_
    refine v_ifz_eq (tgt := 46) dX10_go_36 (by decide) rfl (fun c36 => ?_) (fun c36 => ?_)
    · refine v_aload_4 dX10_go_46 rfl ?_
      refine v_aload_3 dX10_go_48 rfl ?_
      refine v_getN fl_10_201 g2 rfl (zle rfl) rfl dX10_go_49 rfl ?_
      refine v_top g6 ?_
      refine v_callV (ci := 9) (F := TX9) (c_X9_leadsFrom (b 2 y) _ v2) yy_X9_leadsFrom im_X9_leadsFrom se_X9_leadsFrom lk_10_202 v2 (zle rfl) rfl (zle rfl) (zle rfl) (zle rfl) (zle rfl) rfl rfl (zle rfl) dX10_go_52 rfl (zp.use ?_)
      refine v_top (zb_iff (q := r 4 y = r 19 w ∨ r 5 y = r 19 w) (by rw [v3, v4]; exact ⟨fun h => h.imp Eq.symm Eq.symm, fun h => h.imp Eq.symm Eq.symm⟩)) ?_
      refine v_ifz_eq (tgt := 70) dX10_go_55 (by decide) rfl (fun c55 => ?_) (fun c55 => ?_)
      · refine v_aload_0 dX10_go_70 rfl ?_
        refine v_ldc dX10_go_71 kc_10_175 rfl ?_
        refine v_callV (ci := 10) (F := TX10) (c_X10_finding _ _ (by assumption)) yy_X10_finding im_X10_finding se_X10_finding lk_10_66 (by assumption) (zle rfl) rfl (zle rfl) (zle rfl) (zle rfl) (zle rfl) rfl rfl (zle rfl) dX10_go_73 rfl (zp.use ?_)
        exact v_ireturn rfl (cQ_fd hC (((zi_t ⟨hw0, hy0⟩).trans (zi_f (by rw [tw]; exact c36))).trans (zi_f (by rw [tw, ty]; exact fun h => c55 h.1)))) (zle rfl) (zle rfl) dX10_go_76
      · refine v_aload_4 dX10_go_58 rfl ?_
        refine v_aload_0 dX10_go_60 rfl ?_
        refine v_getN fl_10_55 (by assumption) rfl (zle rfl) rfl dX10_go_61 rfl ?_
        refine v_top (x13.trans hI.2.2.2.1.1) ?_
        refine v_callV (ci := 9) (F := TX9) (c_X9_isShut (b 2 y) (tn (f 27)) v2 (by omega)) yy_X9_isShut im_X9_isShut se_X9_isShut lk_10_205 v2 (zle rfl) rfl (zle rfl) (zle rfl) (zle rfl) (zle rfl) rfl rfl (zle rfl) dX10_go_64 rfl (zp.use ?_)
        refine v_top (zb_iff (q := bt (r 8 y) (tn (f 27)) = true) (by rw [v7])) ?_
        refine v_ifz_eq (tgt := 77) dX10_go_67 (by decide) rfl (fun c67 => ?_) (fun c67 => ?_)
        · refine v_aload_4 dX10_go_77 rfl ?_
          refine v_aload_3 dX10_go_79 rfl ?_
          refine v_getN fl_10_208 g2 rfl (zle rfl) rfl dX10_go_80 rfl ?_
          refine v_top (g5.trans (zb_of (h23 w hw))) ?_
          refine v_callV (ci := 9) (F := TX9) (c_X9_isFor (b 2 y) (r 23 w = 1) v2) yy_X9_isFor im_X9_isFor se_X9_isFor lk_10_212 v2 (zle rfl) rfl (zle rfl) (zle rfl) (zle rfl) (zle rfl) rfl rfl (zle rfl) dX10_go_83 rfl (zp.use ?_)
          refine v_top (zb_iff (q := r 7 y = 0 ∨ ¬ r 23 w = 0) (by rw [v6]; exact ⟨fun h => h.elim (fun h => Or.inr (by rw [h]; decide)) Or.inl, fun h => h.elim Or.inr (fun h => Or.inl ((h23 w hw).resolve_left h))⟩)) ?_
          refine v_ifz_ne (tgt := 96) dX10_go_86 (by decide) rfl (fun c86 => ?_) (fun c86 => ?_)
          · have cK := c86
            refine v_aload_3 dX10_go_96 rfl ?_
            refine v_dup dX10_go_97 rfl rfl ?_
            refine v_getN fl_10_216 g2 rfl (zle rfl) rfl dX10_go_98 rfl ?_
            refine v_top g8 ?_
            refine v_aload_4 dX10_go_101 rfl ?_
            refine v_getN fl_10_219 v2 rfl (zle rfl) rfl dX10_go_103 rfl ?_
            refine v_top v5 ?_
            refine v_iadd dX10_go_106 rfl ?_
            refine v_putN fw_10_216 g2 rfl (zle rfl) rfl (fun h => by cases h) rfl rfl dX10_go_107 rfl ?_
            refine v_aload_3 dX10_go_110 rfl ?_
            refine v_aload_4 dX10_go_111 rfl ?_
            refine v_aload_3 dX10_go_113 rfl ?_
            refine v_getN fl_10_201 g2 rfl (zle rfl) rfl dX10_go_114 rfl ?_
            refine v_top (show (u3 N 8 5 (b 5 w) (r 21 w + r 6 y)) 8 3 (b 5 w) = r 19 w from g6) ?_
            refine v_callV (ci := 9) (F := TX9) (c_X9_otherEnd (b 2 y) (r 19 w) v2) yy_X9_otherEnd im_X9_otherEnd se_X9_otherEnd lk_10_220 v2 (zle rfl) rfl (zle rfl) (zle rfl) (zle rfl) (zle rfl) rfl rfl (zle rfl) dX10_go_117 rfl (zp.use ?_)
            refine v_top (show (if r 19 w = N 9 0 (b 2 y) then N 9 1 (b 2 y) else N 9 0 (b 2 y)) = oth r y (r 19 w) by
              rw [v3, v4]
              unfold oth
              by_cases h : r 4 y = r 19 w
              · rw [if_pos h.symm, zi_t h]
              · rw [if_neg (Ne.symm h), zi_f h]) ?_
            refine v_aload_0 dX10_go_120 rfl ?_
            refine v_getN fl_10_55 (by assumption) rfl (zle rfl) rfl dX10_go_121 rfl ?_
            refine v_top (show N 10 8 x = nI (tn (f 27)) from x13.trans hI.2.2.2.1.1) ?_
            refine v_callV (ci := 8) (F := TX8) (c_X8_arrive (N := (u3 N 8 5 (b 5 w) (r 21 w + r 6 y))) (tn (r 22 w)) (b 3 (tn (r 22 w))) (b 4 (tn (r 22 w))) (tn (f 27)) (b 5 w) (b (10 + tn (r 22 w))) r (oth r y (r 19 w)) q2 (hI.2.2.1 _ i2).1 (hI.2.2.1 _ i2).2 hd7 g2 g3) yy_X8_arrive im_X8_arrive se_X8_arrive lk_10_187 g2 (zle rfl) rfl (zle rfl) (zle rfl) (zle rfl) (zle rfl) rfl rfl (zle rfl) dX10_go_124 rfl (zp.use ?_)
            have eo : ac_go f r (nI w) (nI y) = ((cmz f r w (r 21 w + r 6 y) (oth r y (r 19 w))).2.2.2, f, rz (u2 (u2 (u2 r 21 w (r 21 w + r 6 y)) 19 w (oth r y (r 19 w))) 26 w 0) w (cmz f r w (r 21 w + r 6 y) (oth r y (r 19 w)))) := by
              refine ((((zi_t ⟨hw0, hy0⟩).trans (zi_f (by rw [tw]; exact c36))).trans (zi_t (by rw [tw, ty]; exact ⟨c55, c67⟩))).trans (zi_t (by rw [tw, ty]; exact cK))).trans ?_
              rw [tw, ty]
            have hz : lsn r (tn (r 22 w)) (tn (r 10 (tn (r 22 w)))) (oth r y (r 19 w)) (tn (f 27)) 12 ((u3 N 8 5 (b 5 w) (r 21 w + r 6 y)) 8 4 (b 5 w), (u3 N 8 5 (b 5 w) (r 21 w + r 6 y)) 8 5 (b 5 w), (u3 N 8 5 (b 5 w) (r 21 w + r 6 y)) 8 6 (b 5 w), 0) = (cmz f r w (r 21 w + r 6 y) (oth r y (r 19 w))) := by
              rw [u3_self, show (u3 N 8 5 (b 5 w) (r 21 w + r 6 y)) 8 4 (b 5 w) = r 20 w from g7, show (u3 N 8 5 (b 5 w) (r 21 w + r 6 y)) 8 6 (b 5 w) = r 24 w from g9]
              rfl
            rw [hz]
            generalize (cmz f r w (r 21 w + r 6 y) (oth r y (r 19 w))) = z at eo
            have hq : cQ x Mn g T N P I R (ac_go f r (nI w) (nI y)) (some (.int z.2.2.2)) T (NZ (u3 (u3 (u3 (u3 N 8 5 (b 5 w) (r 21 w + r 6 y)) 8 3 (b 5 w) (oth r y (r 19 w))) 8 7 (b 5 w) (-1)) 8 8 (b 5 w) 0) (b 5 w) z) P I R := by
              refine cQ_go b g eo rfl (hC.wk hw (fun c k a h => ?_) (by simp [NZ, u3]) (by simp [NZ, u3]) (fun k a1 a2 a3 a4 a5 a6 => by rw [rz, u2_off _ _ a4, u2_off _ _ a3, u2_off _ _ a2, u2_off _ _ a6, u2_off _ _ a1, u2_off _ _ a3]) (fun k j hj => by rw [rz, u2_ni hj, u2_ni hj, u2_ni hj, u2_ni hj, u2_ni hj, u2_ni hj]) ?_ ?_ ?_ ?_ ?_ ?_) ⟨?_, rfl, fun _ _ => ⟨rfl, rfl⟩⟩
              · unfold NZ
                rcases h with h | h
                · simp [u3, h]
                · simp [u3, h]
              · simp [NZ, u3, u2]
              · simp [NZ, u3, u2]
              · simp [NZ, u3, u2]
              · simp [NZ, u3, u2]
              · simp [NZ, u3, u2]
              · intro h0
                exact absurd (by simp [u2]) h0
              · funext k a
                simp [NZ, u3]
            exact v_ireturn rfl (hq) (zle rfl) (zle rfl) dX10_go_127
          · refine v_aload_0 dX10_go_89 rfl ?_
            refine v_ldc dX10_go_90 kc_10_140 rfl ?_
            refine v_callV (ci := 10) (F := TX10) (c_X10_finding _ _ (by assumption)) yy_X10_finding im_X10_finding se_X10_finding lk_10_66 (by assumption) (zle rfl) rfl (zle rfl) (zle rfl) (zle rfl) (zle rfl) rfl rfl (zle rfl) dX10_go_92 rfl (zp.use ?_)
            exact v_ireturn rfl (cQ_fd hC ((((zi_t ⟨hw0, hy0⟩).trans (zi_f (by rw [tw]; exact c36))).trans (zi_t (by rw [tw, ty]; exact ⟨c55, c67⟩))).trans (zi_f (by rw [tw, ty]; exact c86)))) (zle rfl) (zle rfl) dX10_go_95
        · refine v_aload_0 dX10_go_70 rfl ?_
          refine v_ldc dX10_go_71 kc_10_175 rfl ?_
          refine v_callV (ci := 10) (F := TX10) (c_X10_finding _ _ (by assumption)) yy_X10_finding im_X10_finding se_X10_finding lk_10_66 (by assumption) (zle rfl) rfl (zle rfl) (zle rfl) (zle rfl) (zle rfl) rfl rfl (zle rfl) dX10_go_73 rfl (zp.use ?_)
          exact v_ireturn rfl (cQ_fd hC (((zi_t ⟨hw0, hy0⟩).trans (zi_f (by rw [tw]; exact c36))).trans (zi_f (by rw [tw, ty]; exact fun h => h.2 c67)))) (zle rfl) (zle rfl) dX10_go_76
    · refine v_aload_0 dX10_go_39 rfl ?_
      refine v_ldc dX10_go_40 kc_10_183 rfl ?_
      refine v_callV (ci := 10) (F := TX10) (c_X10_finding _ _ (by assumption)) yy_X10_finding im_X10_finding se_X10_finding lk_10_66 (by assumption) (zle rfl) rfl (zle rfl) (zle rfl) (zle rfl) (zle rfl) rfl rfl (zle rfl) dX10_go_42 rfl (zp.use ?_)
      exact v_ireturn rfl (cQ_fd hC ((zi_t ⟨hw0, hy0⟩).trans (zi_t (by rw [tw]; exact c36)))) (zle rfl) (zle rfl) dX10_go_45
  · obtain ⟨w, hw, rfl⟩ := fnd hI.1 (by decide) hw0
    obtain ⟨i1, i2, i3, i4, i5, i6⟩ := hI.ed hw
    have tw : tn (nI w) = w := tn_nI (by omega)
    obtain ⟨g1, g2, g3, g4, g5, g6, g7, g8, g9, g10, g11⟩ := w1 w hw
    obtain ⟨q1, q2⟩ := hE _ i2
    have hd7 : tn (f 27) < 7 := hI.2.2.2.1.2
    refine v_callV (ci := 10) (F := TX10) (c_X10_findWalker x (b 0 3) w (b 5 w) x1 x5 x9 (by rw [x12]; exact hw0) (by omega) g1) yy_X10_findWalker im_X10_findWalker se_X10_findWalker lk_10_193 (by assumption) (zle rfl) rfl (zle rfl) (zle rfl) (zle rfl) (zle rfl) rfl rfl (zle rfl) dX10_go_2 rfl (za.use ?_)
    refine v_astore_3 dX10_go_5 rfl (zle rfl) rfl ?_
    refine v_aload_0 dX10_go_6 rfl ?_
    refine v_getP fl_10_10 (by assumption) (by assumption) rfl (zle rfl) rfl dX10_go_7 rfl ?_
    refine v_iload_2 dX10_go_10 rfl ?_
    refine v_callV (ci := 7) (F := TX7) (c_X7_findWay_n (b 0 0) y t1 (by rw [t7]; exact hy0)) yy_X7_findWay im_X7_findWay se_X7_findWay lk_10_94 t1 (zle rfl) rfl (zle rfl) (zle rfl) (zle rfl) (zle rfl) rfl rfl (zle rfl) dX10_go_11 rfl (za.use ?_)
    refine v_astoreN_4 dX10_go_14 rfl (zle rfl) rfl ?_
    refine v_aload_3 dX10_go_16 rfl ?_
    refine v_ifnull dX10_go_17 rfl ?_
    refine v_aloadN_4 dX10_go_20 rfl ?_
    refine v_ifnonnullN dX10_go_22 rfl ?_
    refine v_aload_0 dX10_go_25 rfl ?_
    refine v_ldc dX10_go_26 kc_10_65 rfl ?_
    refine v_callV (ci := 10) (F := TX10) (c_X10_finding _ _ (by assumption)) yy_X10_finding im_X10_finding se_X10_finding lk_10_66 (by assumption) (zle rfl) rfl (zle rfl) (zle rfl) (zle rfl) (zle rfl) rfl rfl (zle rfl) dX10_go_28 rfl (zp.use ?_)
    exact v_ireturn rfl (cQ_fd hC (zi_f (fun h => hy0 h.2))) (zle rfl) (zle rfl) dX10_go_31
  · obtain ⟨y, hy, rfl⟩ := fnd h3 (by decide) hy0
    have h3b := h3.2
    have ty : tn (nI y) = y := tn_nI (by omega)
    obtain ⟨v1, v2, v3, v4, v5, v6, v7⟩ := t9 y hy
    refine v_callV (ci := 10) (F := TX10) (c_X10_findWalker_n x w x1 (by rw [x12]; exact hw0)) yy_X10_findWalker im_X10_findWalker se_X10_findWalker lk_10_193 (by assumption) (zle rfl) rfl (zle rfl) (zle rfl) (zle rfl) (zle rfl) rfl rfl (zle rfl) dX10_go_2 rfl (za.use ?_)
    refine v_astoreN_3 dX10_go_5 rfl (zle rfl) rfl ?_
    refine v_aload_0 dX10_go_6 rfl ?_
    refine v_getP fl_10_10 (by assumption) (by assumption) rfl (zle rfl) rfl dX10_go_7 rfl ?_
    refine v_iload_2 dX10_go_10 rfl ?_
    refine v_callV (ci := 7) (F := TX7) (c_X7_findWay (b 0 0) (b 0 8) y (b 2 y) t1 t4 t5 (by rw [t7]; exact hy0) (by omega) v1) yy_X7_findWay im_X7_findWay se_X7_findWay lk_10_94 t1 (zle rfl) rfl (zle rfl) (zle rfl) (zle rfl) (zle rfl) rfl rfl (zle rfl) dX10_go_11 rfl (za.use ?_)
    refine v_astore_4 dX10_go_14 rfl (zle rfl) rfl ?_
    refine v_aloadN_3 dX10_go_16 rfl ?_
    refine v_ifnullN (n := 25) dX10_go_17 (by decide) ?_
    refine v_aload_0 dX10_go_25 rfl ?_
    refine v_ldc dX10_go_26 kc_10_65 rfl ?_
    refine v_callV (ci := 10) (F := TX10) (c_X10_finding _ _ (by assumption)) yy_X10_finding im_X10_finding se_X10_finding lk_10_66 (by assumption) (zle rfl) rfl (zle rfl) (zle rfl) (zle rfl) (zle rfl) rfl rfl (zle rfl) dX10_go_28 rfl (zp.use ?_)
    exact v_ireturn rfl (cQ_fd hC (zi_f (fun h => hw0 h.1))) (zle rfl) (zle rfl) dX10_go_31
  · refine v_callV (ci := 10) (F := TX10) (c_X10_findWalker_n x w x1 (by rw [x12]; exact hw0)) yy_X10_findWalker im_X10_findWalker se_X10_findWalker lk_10_193 (by assumption) (zle rfl) rfl (zle rfl) (zle rfl) (zle rfl) (zle rfl) rfl rfl (zle rfl) dX10_go_2 rfl (za.use ?_)
    refine v_astoreN_3 dX10_go_5 rfl (zle rfl) rfl ?_
    refine v_aload_0 dX10_go_6 rfl ?_
    refine v_getP fl_10_10 (by assumption) (by assumption) rfl (zle rfl) rfl dX10_go_7 rfl ?_
    refine v_iload_2 dX10_go_10 rfl ?_
    refine v_callV (ci := 7) (F := TX7) (c_X7_findWay_n (b 0 0) y t1 (by rw [t7]; exact hy0)) yy_X7_findWay im_X7_findWay se_X7_findWay lk_10_94 t1 (zle rfl) rfl (zle rfl) (zle rfl) (zle rfl) (zle rfl) rfl rfl (zle rfl) dX10_go_11 rfl (za.use ?_)
    refine v_astoreN_4 dX10_go_14 rfl (zle rfl) rfl ?_
    refine v_aloadN_3 dX10_go_16 rfl ?_
    refine v_ifnullN (n := 25) dX10_go_17 (by decide) ?_
    refine v_aload_0 dX10_go_25 rfl ?_
    refine v_ldc dX10_go_26 kc_10_65 rfl ?_
    refine v_callV (ci := 10) (F := TX10) (c_X10_finding _ _ (by assumption)) yy_X10_finding im_X10_finding se_X10_finding lk_10_66 (by assumption) (zle rfl) rfl (zle rfl) (zle rfl) (zle rfl) (zle rfl) rfl rfl (zle rfl) dX10_go_28 rfl (zp.use ?_)
    exact v_ireturn rfl (cQ_fd hC (zi_f (fun h => hw0 h.1))) (zle rfl) (zle rfl) dX10_go_31
