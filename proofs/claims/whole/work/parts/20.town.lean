theorem c_X7_hasCorner {E : zE} {T : zT} {N : zN} {P : zP} {I : zI} {R : zR} (t : Nat) (x : Int32) (ht : (T t).1 = 17) : zC E yX7_hasCorner cX7_hasCorner 2 (some .boolean) (zr0 1 22) [.ref t, .int x] T N P I R (zp (zb (0 ≤ x ∧ x ≤ N 7 3 t - 1)) T N P I R) := by
  refine zC.intro (ls := [some (.ref t), some (.int x)]) pl_RX7 (zle rfl) 0 rfl (fun K => ?_)
  refine v_iload_1 dX7_hasCorner_0 rfl ?_
  refine v_iconst (v := 0) dX7_hasCorner_1 rfl rfl ?_
  refine v_aload_0 dX7_hasCorner_2 rfl ?_
  refine v_getN fl_7_24 (by assumption) rfl (zle rfl) rfl dX7_hasCorner_3 rfl ?_
  refine v_iconst (v := 1) dX7_hasCorner_6 rfl rfl ?_
  refine v_isub dX7_hasCorner_7 rfl ?_
  refine v_callS (c_X10_isWithin _ _ _) yy_X10_isWithin st_X10_isWithin lk_7_31 (zle rfl) (zle rfl) (zle rfl) (zle rfl) rfl rfl (zle rfl) dX7_hasCorner_8 rfl (zp.use ?_)
  exact v_zreturn rfl (zb_nar _) (zp.rf) (zle rfl) (zle rfl) dX7_hasCorner_11
theorem c_X7_addCorner {E : zE} {T : zT} {N : zN} {P : zP} {I : zI} {R : zR} (t xs ys c : Nat) (x y : Int32) (ht : (T t).1 = 17) (hx : P 7 0 t = some xs) (hy : P 7 1 t = some ys) (h1 : T xs = (1, 8)) (h2 : T ys = (1, 8)) (hc : N 7 3 t = nI c) (hc8 : c < 8) : zC E yX7_addCorner cX7_addCorner 3 (some .int) (zr0 0 0) [.ref t, .int x, .int y] T N P I R (zp (nI c) T (u3 N 7 3 t (nI c + 1)) P (u2 (u2 I xs c x) ys c y) R) := by
  refine zC.intro (ls := [some (.ref t), some (.int x), some (.int y)]) pl_RX7 (zle rfl) 0 rfl (fun K => ?_)
  refine v_aload_0 dX7_addCorner_0 rfl ?_
  refine v_getP fl_7_9 (by assumption) (by assumption) rfl (zle rfl) rfl dX7_addCorner_1 rfl ?_
  refine v_aload_0 dX7_addCorner_4 rfl ?_
  refine v_getN fl_7_24 (by assumption) rfl (zle rfl) rfl dX7_addCorner_5 rfl ?_
  refine v_iload_1 dX7_addCorner_8 rfl ?_
  refine v_iast (j := c) (by assumption) hc (by omega) (zle rfl) dX7_addCorner_9 rfl ?_
  refine v_aload_0 dX7_addCorner_10 rfl ?_
  refine v_getP fl_7_15 (by assumption) (by assumption) rfl (zle rfl) rfl dX7_addCorner_11 rfl ?_
  refine v_aload_0 dX7_addCorner_14 rfl ?_
  refine v_getN fl_7_24 (by assumption) rfl (zle rfl) rfl dX7_addCorner_15 rfl ?_
  refine v_iload_2 dX7_addCorner_18 rfl ?_
  refine v_iast (j := c) (by assumption) hc (by omega) (zle rfl) dX7_addCorner_19 rfl ?_
  refine v_aload_0 dX7_addCorner_20 rfl ?_
  refine v_dup dX7_addCorner_21 rfl rfl ?_
  refine v_getN fl_7_24 (by assumption) rfl (zle rfl) rfl dX7_addCorner_22 rfl ?_
  refine v_top hc ?_
  refine v_iconst (v := 1) dX7_addCorner_25 rfl rfl ?_
  refine v_iadd dX7_addCorner_26 rfl ?_
  refine v_putN fw_7_24 (by assumption) rfl (zle rfl) rfl (fun h => by cases h) rfl rfl dX7_addCorner_27 rfl ?_
  refine v_aload_0 dX7_addCorner_30 rfl ?_
  refine v_getN fl_7_24 (by assumption) rfl (zle rfl) rfl dX7_addCorner_31 rfl ?_
  refine v_top u3_self ?_
  refine v_iconst (v := 1) dX7_addCorner_34 rfl rfl ?_
  refine v_isub dX7_addCorner_35 rfl ?_
  exact v_ireturn rfl (zp_e (i_ps _)) (zle rfl) (zle rfl) dX7_addCorner_36
theorem c_X7_addWay {E : zE} {T : zT} {N : zN} {P : zP} {I : zI} {R : zR} (t ws w c : Nat) (ht : (T t).1 = 17) (hx : P 7 2 t = some ws) (h1 : T ws = (39, 14)) (hw : (T w).1 = 19) (hc : N 7 4 t = nI c) (hc8 : c < 14) : zC E yX7_addWay cX7_addWay 2 (some .int) (zr0 0 0) [.ref t, .ref w] T N P I R (zp (nI c) T (u3 N 7 4 t (nI c + 1)) P I (u2 R ws c (some w))) := by
  refine zC.intro (ls := [some (.ref t), some (.ref w)]) pl_RX7 (zle rfl) 0 rfl (fun K => ?_)
  refine v_aload_0 dX7_addWay_0 rfl ?_
  refine v_getP fl_7_20 (by assumption) (by assumption) rfl (zle rfl) rfl dX7_addWay_1 rfl ?_
  refine v_aload_0 dX7_addWay_4 rfl ?_
  refine v_getN fl_7_28 (by assumption) rfl (zle rfl) rfl dX7_addWay_5 rfl ?_
  refine v_aload_1 dX7_addWay_8 rfl ?_
  refine v_aast (j := c) ti_9 (F := TX9) rfl (zle rfl) (by assumption) hc (by omega) (zle rfl) (by assumption) dX7_addWay_9 rfl ?_
  refine v_aload_0 dX7_addWay_10 rfl ?_
  refine v_dup dX7_addWay_11 rfl rfl ?_
  refine v_getN fl_7_28 (by assumption) rfl (zle rfl) rfl dX7_addWay_12 rfl ?_
  refine v_top hc ?_
  refine v_iconst (v := 1) dX7_addWay_15 rfl rfl ?_
  refine v_iadd dX7_addWay_16 rfl ?_
  refine v_putN fw_7_28 (by assumption) rfl (zle rfl) rfl (fun h => by cases h) rfl rfl dX7_addWay_17 rfl ?_
  refine v_aload_0 dX7_addWay_20 rfl ?_
  refine v_getN fl_7_28 (by assumption) rfl (zle rfl) rfl dX7_addWay_21 rfl ?_
  refine v_top u3_self ?_
  refine v_iconst (v := 1) dX7_addWay_24 rfl rfl ?_
  refine v_isub dX7_addWay_25 rfl ?_
  exact v_ireturn rfl (zp_e (i_ps _)) (zle rfl) (zle rfl) dX7_addWay_26
theorem c_X7_findWay {E : zE} {T : zT} {N : zN} {P : zP} {I : zI} {R : zR} (t ws j w : Nat) (ht : (T t).1 = 17) (hx : P 7 2 t = some ws) (h1 : T ws = (39, 14)) (hw : 0 ≤ nI j ∧ nI j ≤ N 7 4 t - 1) (hj : j < 14) (hr : R ws j = some w) : zC E yX7_findWay cX7_findWay 2 (some (.object "WalkTeller$Way")) (zr0 1 22) [.ref t, .int (nI j)] T N P I R (za (some w) T N P I R) := by
  refine zC.intro (ls := [some (.ref t), some (.int (nI j))]) pl_RX7 (zle rfl) 0 rfl (fun K => ?_)
  refine v_iload_1 dX7_findWay_0 rfl ?_
  refine v_iconst (v := 0) dX7_findWay_1 rfl rfl ?_
  refine v_aload_0 dX7_findWay_2 rfl ?_
  refine v_getN fl_7_28 (by assumption) rfl (zle rfl) rfl dX7_findWay_3 rfl ?_
  refine v_iconst (v := 1) dX7_findWay_6 rfl rfl ?_
  refine v_isub dX7_findWay_7 rfl ?_
  refine v_callS (c_X10_isWithin _ _ _) yy_X10_isWithin st_X10_isWithin lk_7_31 (zle rfl) (zle rfl) (zle rfl) (zle rfl) rfl rfl (zle rfl) dX7_findWay_8 rfl (zp.use ?_)
  refine v_ifz_eq (tgt := 23) dX7_findWay_11 (by decide) rfl (fun c11 => ?_) (fun c11 => ?_)
  · exact absurd hw c11
  · refine v_aload_0 dX7_findWay_14 rfl ?_
    refine v_getP fl_7_20 (by assumption) (by assumption) rfl (zle rfl) rfl dX7_findWay_15 rfl ?_
    refine v_iload_1 dX7_findWay_18 rfl ?_
    refine v_aald (j := j) ti_9 (by assumption) rfl (by omega) (zle rfl) (by assumption) dX7_findWay_19 rfl ?_
    refine v_goto (n := 24) dX7_findWay_20 (by decide) ?_
    exact v_areturn rfl (Or.inl ⟨_, rfl⟩) (Or.inr ⟨_, rfl⟩) (za.rf) (zle rfl) (zle rfl) dX7_findWay_24
theorem c_X7_findWay_n {E : zE} {T : zT} {N : zN} {P : zP} {I : zI} {R : zR} (t : Nat) (x : Int32) (ht : (T t).1 = 17) (hw : ¬ (0 ≤ x ∧ x ≤ N 7 4 t - 1)) : zC E yX7_findWay cX7_findWay 2 (some (.object "WalkTeller$Way")) (zr0 1 22) [.ref t, .int x] T N P I R (za none T N P I R) := by
  refine zC.intro (ls := [some (.ref t), some (.int x)]) pl_RX7 (zle rfl) 0 rfl (fun K => ?_)
  refine v_iload_1 dX7_findWay_0 rfl ?_
  refine v_iconst (v := 0) dX7_findWay_1 rfl rfl ?_
  refine v_aload_0 dX7_findWay_2 rfl ?_
  refine v_getN fl_7_28 (by assumption) rfl (zle rfl) rfl dX7_findWay_3 rfl ?_
  refine v_iconst (v := 1) dX7_findWay_6 rfl rfl ?_
  refine v_isub dX7_findWay_7 rfl ?_
  refine v_callS (c_X10_isWithin _ _ _) yy_X10_isWithin st_X10_isWithin lk_7_31 (zle rfl) (zle rfl) (zle rfl) (zle rfl) rfl rfl (zle rfl) dX7_findWay_8 rfl (zp.use ?_)
  refine v_ifz_eq (tgt := 23) dX7_findWay_11 (by decide) rfl (fun c11 => ?_) (fun c11 => ?_)
  · refine v_null dX7_findWay_23 rfl ?_
    exact v_areturn rfl (Or.inl ⟨_, rfl⟩) (Or.inl rfl) (za.rf) (zle rfl) (zle rfl) dX7_findWay_24
  · exact absurd c11 hw
theorem c_X9_init {E : zE} {T : zT} {N : zN} {P : zP} {I : zI} {R : zR} (q : Nat) (a b l : Int32) (s : Prop) (hq : (T q).1 = 19) : zC E yX9_init cX9_init 5 none (zr0 1 20) [.ref q, .int a, .int b, .int l, .int (zb s)] T N P I R (zv T (u3 (u3 (u3 (u3 (u3 N 9 4 q 0) 9 0 q a) 9 1 q b) 9 2 q l) 9 3 q (zb s)) P I R) := by
  refine zC.intro (ls := [some (.ref q), some (.int a), some (.int b), some (.int l), some (.int (zb s))]) pl_RX9 (zle rfl) 0 rfl (fun K => ?_)
  refine v_aload_0 dX9_init_0 rfl ?_
  refine v_objInit lk_9_1 im_obj cd_obj (zle rfl) (zle rfl) dX9_init_1 rfl ?_
  refine v_aload_0 dX9_init_4 rfl ?_
  refine v_iconst (v := 0) dX9_init_5 rfl rfl ?_
  refine v_putN fw_9_7 (by assumption) rfl (zle rfl) rfl (fun h => by cases h) rfl rfl dX9_init_6 rfl ?_
  refine v_aload_0 dX9_init_9 rfl ?_
  refine v_iload_1 dX9_init_10 rfl ?_
  refine v_putN fw_9_13 (by assumption) rfl (zle rfl) rfl (fun _ => rfl) rfl rfl dX9_init_11 rfl ?_
  refine v_aload_0 dX9_init_14 rfl ?_
  refine v_iload_2 dX9_init_15 rfl ?_
  refine v_putN fw_9_16 (by assumption) rfl (zle rfl) rfl (fun _ => rfl) rfl rfl dX9_init_16 rfl ?_
  refine v_aload_0 dX9_init_19 rfl ?_
  refine v_iload_3 dX9_init_20 rfl ?_
  refine v_putN fw_9_19 (by assumption) rfl (zle rfl) rfl (fun _ => rfl) rfl rfl dX9_init_21 rfl ?_
  refine v_aload_0 dX9_init_24 rfl ?_
  refine v_iload_4 dX9_init_25 rfl ?_
  refine v_putN fw_9_22 (by assumption) rfl (zle rfl) rfl (fun _ => rfl) (zb_nar _) (zb_fit _) dX9_init_27 rfl ?_
  exact v_return rfl (zv.rf) (zle rfl) (zle rfl) dX9_init_30
theorem CR.corner {T : zT} {N : zN} {P : zP} {I : zI} {R : zR} {x : Nat} {Mn : Nat → Prop} {b : Nat → Nat → Nat} {g : Nat} {f : zf} {r : zg} (h : CR T N P I R x Mn b g f r) {c : Nat} (hc : f 0 = nI c) (hc8 : c < 8) (u v : Int32) : CR T (u3 N 7 3 (b 0 0) (nI c + 1)) P (u2 (u2 I (b 1 0) c u) (b 1 1) c v) R x Mn b g (u1 f 0 (f 0 + 1)) (u2 (u2 r 1 c u) 2 c v) := by
  obtain ⟨hX, ⟨t1, t2, t3, t4, t5, t6, t7, t8, t9, t10⟩, hA, hP, hE, hW, hS, hQ⟩ := h
  have n01 : b 1 0 ≠ b 1 1 := fun e => absurd (hA.2.2 0 1 (Or.inl (by decide)) (Or.inl (by decide)) e) (by decide)
  have e1 : tn (u1 f 0 (f 0 + 1) 0) = c + 1 := by rw [u1_self, hc, nI_1, tn_nI (by omega)]
  have e0 : tn (f 0) = c := by rw [hc, tn_nI (by omega)]
  refine ⟨hX, ⟨t1, t2, t3, t4, t5, by rw [u3_self, u1_self, hc], t7, ?_, t9, t10⟩, hA, ?_, hE, hW, ?_, hQ⟩
  · intro j hj
    rw [e1] at hj
    by_cases hjc : j = c
    · subst hjc
      refine ⟨?_, ?_⟩
      · rw [u2_na n01, u2_self]; show _ = u2 r 1 j u 1 j; rw [u2_self]
      · rw [u2_self, u2_self]
    · have := t8 j (by omega)
      refine ⟨?_, ?_⟩
      · rw [u2_na n01, u2_ni hjc, u2_ni hjc, u2_ni hjc]; exact this.1
      · rw [u2_ni hjc, u2_ni hjc, u2_ni hjc, u2_ni hjc]; exact this.2
  · obtain ⟨d1, d2, d3, d4, d5⟩ := hP
    refine ⟨d1, d2, d3, d4, fun j hj => ?_⟩
    have n0 : b 0 7 ≠ b 1 0 := fun e => by have := (hA.2.1 0 (Or.inl (by decide))).1; rw [← e, d3] at this; cases this
    have n1 : b 0 7 ≠ b 1 1 := fun e => by have := (hA.2.1 1 (Or.inl (by decide))).1; rw [← e, d3] at this; cases this
    rw [u2_na n1, u2_na n0]
    exact d5 j hj
  · intro s hs
    refine ⟨(hS s hs).1, fun h0 => ?_⟩
    obtain ⟨g1, g2, g3, g4, g5⟩ := (hS s hs).2 h0
    have hl : lvr r (7 + s) := Or.inr ⟨by omega, by rw [show 7 + s - 7 = s by omega]; exact h0⟩
    have n0 : b 1 (7 + s) ≠ b 1 0 := fun e => absurd (hA.2.2 _ 0 hl (Or.inl (by decide)) e) (by omega)
    have n1 : b 1 (7 + s) ≠ b 1 1 := fun e => absurd (hA.2.2 _ 1 hl (Or.inl (by decide)) e) (by omega)
    refine ⟨g1, g2, g3, g4, fun i hi => ?_⟩
    rw [u2_na n1, u2_na n0]
    exact g5 i hi
theorem c_X10_corner {E : zE} {T : zT} {N : zN} {P : zP} {I : zI} {R : zR} (x : Nat) (Mn : Nat → Prop) (b : Nat → Nat → Nat) (g : Nat) (f : zf) (r : zg) (u v : Int32) (hC : CR T N P I R x Mn b g f r) (h0 : Nt (f 0) 9) : zC E yX10_corner cX10_corner 3 (some .int) (zr0 1 22) [.ref x, .int u, .int v] T N P I R (cQ x Mn g T N P I R (ac_corner f r u v)) := by
  refine zC.intro (ls := [some (.ref x), some (.int u), some (.int v)]) pl_RX10 (zle rfl) 0 rfl (fun K => ?_)
  obtain ⟨hX, hT, hA, hP, hE, hW, hS, hQ⟩ := id hC
  obtain ⟨x1, x2, x3, x4, x5, x6, x7, x8, x9, x10, x11, x12, x13, x14⟩ := id hX
  obtain ⟨t1, t2, t3, t4, t5, t6, t7, t8, t9, t10⟩ := id hT
  obtain ⟨a1, a2, a3⟩ := id hA
  refine v_iload_1 dX10_corner_0 rfl ?_
  refine v_iconst (v := 0) dX10_corner_1 rfl rfl ?_
  refine v_bipush (v := 99) dX10_corner_2 rfl rfl ?_
  refine v_callS (c_X10_isWithin _ _ _) yy_X10_isWithin st_X10_isWithin lk_10_61 (zle rfl) (zle rfl) (zle rfl) (zle rfl) rfl rfl (zle rfl) dX10_corner_4 rfl (zp.use ?_)
  refine v_ifz_eq (tgt := 20) dX10_corner_7 (by decide) rfl (fun c7 => ?_) (fun c7 => ?_)
  · refine v_aload_0 dX10_corner_20 rfl ?_
    refine v_ldc dX10_corner_21 kc_10_65 rfl ?_
    refine v_callV (ci := 10) (F := TX10) (c_X10_finding _ _ (by assumption)) yy_X10_finding im_X10_finding se_X10_finding lk_10_66 (by assumption) (zle rfl) rfl (zle rfl) (zle rfl) (zle rfl) (zle rfl) rfl rfl (zle rfl) dX10_corner_23 rfl (zp.use ?_)
    exact v_ireturn rfl (cQ_fd hC (zi_f (fun h => c7 h.1))) (zle rfl) (zle rfl) dX10_corner_26
  · refine v_iload_2 dX10_corner_10 rfl ?_
    refine v_iconst (v := 0) dX10_corner_11 rfl rfl ?_
    refine v_bipush (v := 99) dX10_corner_12 rfl rfl ?_
    refine v_callS (c_X10_isWithin _ _ _) yy_X10_isWithin st_X10_isWithin lk_10_61 (zle rfl) (zle rfl) (zle rfl) (zle rfl) rfl rfl (zle rfl) dX10_corner_14 rfl (zp.use ?_)
    refine v_ifz_ne (tgt := 27) dX10_corner_17 (by decide) rfl (fun c17 => ?_) (fun c17 => ?_)
    · refine v_aload_0 dX10_corner_27 rfl ?_
      refine v_getP fl_10_10 (by assumption) (by assumption) rfl (zle rfl) rfl dX10_corner_28 rfl ?_
      refine v_getN fl_10_70 (by assumption) rfl (zle rfl) rfl dX10_corner_31 rfl ?_
      refine v_top t6 ?_
      refine v_bipush (v := 8) dX10_corner_34 rfl rfl ?_
      refine v_icmp_lt (tgt := 46) dX10_corner_36 (by decide) rfl (fun c36 => ?_) (fun c36 => ?_)
      · refine v_aload_0 dX10_corner_46 rfl ?_
        refine v_getP fl_10_10 (by assumption) (by assumption) rfl (zle rfl) rfl dX10_corner_47 rfl ?_
        refine v_iload_1 dX10_corner_50 rfl ?_
        refine v_iload_2 dX10_corner_51 rfl ?_
        have hc8 : tn (f 0) < 8 := h0.lt8 c36
        refine v_callV (ci := 7) (F := TX7) (c_X7_addCorner (b 0 0) (b 1 0) (b 1 1) (tn (f 0)) u v t1 t2 t3 (a2 0 (Or.inl (by decide))).1 (a2 1 (Or.inl (by decide))).1 (t6.trans h0.1) hc8) yy_X7_addCorner im_X7_addCorner se_X7_addCorner lk_10_74 (by assumption) (zle rfl) rfl (zle rfl) (zle rfl) (zle rfl) (zle rfl) rfl rfl (zle rfl) dX10_corner_52 rfl (zp.use ?_)
        exact v_ireturn rfl (cQ_go b g ((zi_t ⟨c7, c17⟩).trans (zi_f (fun e => absurd c36 (by rw [e]; decide)))) h0.1.symm (by
      have := hC.corner h0.1 hc8 u v
      exact this) (((Cfr.rf.i (a2 0 (Or.inl (by decide))).2 _ _).i (a2 1 (Or.inl (by decide))).2 _ _).n (by decide) _ _ _)) (zle rfl) (zle rfl) dX10_corner_55
      · refine v_aload_0 dX10_corner_39 rfl ?_
        refine v_ldc dX10_corner_40 kc_10_73 rfl ?_
        refine v_callV (ci := 10) (F := TX10) (c_X10_finding _ _ (by assumption)) yy_X10_finding im_X10_finding se_X10_finding lk_10_66 (by assumption) (zle rfl) rfl (zle rfl) (zle rfl) (zle rfl) (zle rfl) rfl rfl (zle rfl) dX10_corner_42 rfl (zp.use ?_)
        exact v_ireturn rfl (cQ_fd hC ((zi_t ⟨c7, c17⟩).trans (zi_t (h0.eq8 c36)))) (zle rfl) (zle rfl) dX10_corner_45
    · refine v_aload_0 dX10_corner_20 rfl ?_
      refine v_ldc dX10_corner_21 kc_10_65 rfl ?_
      refine v_callV (ci := 10) (F := TX10) (c_X10_finding _ _ (by assumption)) yy_X10_finding im_X10_finding se_X10_finding lk_10_66 (by assumption) (zle rfl) rfl (zle rfl) (zle rfl) (zle rfl) (zle rfl) rfl rfl (zle rfl) dX10_corner_23 rfl (zp.use ?_)
      exact v_ireturn rfl (cQ_fd hC (zi_f (fun h => c17 h.2))) (zle rfl) (zle rfl) dX10_corner_26
theorem CR.way {T : zT} {N : zN} {P : zP} {I : zI} {R : zR} {x : Nat} {Mn : Nat → Prop} {b : Nat → Nat → Nat} {g : Nat} {f : zf} {r : zg} (h : CR T N P I R x Mn b g f r) {c q : Nat} (hc : f 3 = nI c) (hc14 : c < 14) (u v l : Int32) (s : Prop) (hq : (T q).1 = 19) (hn : ∀ j, j < c → b 2 j ≠ q) (q0 : N 9 0 q = u) (q1 : N 9 1 q = v) (q2 : N 9 2 q = l) (q3 : N 9 3 q = zb s) (q4 : N 9 4 q = 0) (h8 : r 8 c = 0) : CR T (u3 N 7 4 (b 0 0) (nI c + 1)) P I (u2 R (b 0 8) c (some q)) x Mn (u2 b 2 c q) g (u1 f 3 (f 3 + 1)) (u2 (u2 (u2 (u2 r 4 c u) 5 c v) 6 c l) 7 c (zb s)) := by
  obtain ⟨hX, ⟨t1, t2, t3, t4, t5, t6, t7, t8, t9, t10⟩, hA, hP, hE, hW, hS, hQ⟩ := h
  have x8 : T (b 0 2) = (30, 4) := hX.2.2.2.2.2.2.2.1
  have x9 : T (b 0 3) = (38, 6) := hX.2.2.2.2.2.2.2.2.1
  have x10 : T (b 0 4) = (35, 4) := hX.2.2.2.2.2.2.2.2.2.1
  have e1 : tn (u1 f 3 (f 3 + 1) 3) = c + 1 := by rw [u1_self, hc, nI_1, tn_nI (by omega)]
  have e0 : tn (f 3) = c := by rw [hc, tn_nI (by omega)]
  have n2 : b 0 2 ≠ b 0 8 := fun e => by rw [e, t5] at x8; cases x8
  have n3 : b 0 3 ≠ b 0 8 := fun e => by rw [e, t5] at x9; cases x9
  have n4 : b 0 4 ≠ b 0 8 := fun e => by rw [e, t5] at x10; cases x10
  refine ⟨hX, ⟨t1, t2, t3, t4, t5, t6, by rw [show u3 N 7 4 (b 0 0) (nI c + 1) 7 4 (u2 b 2 c q 0 0) = nI c + 1 from u3_self, u1_self, hc], t8, ?_, ?_⟩, hA, hP, ?_, ?_, ?_, hQ⟩
  · intro j hj
    rw [e1] at hj
    by_cases hjc : j = c
    · subst hjc
      refine ⟨?_, ?_, ?_, ?_, ?_, ?_, ?_⟩
      · show u2 R (b 0 8) j (some q) (b 0 8) j = some (u2 b 2 j q 2 j); rw [u2_self, u2_self]
      · rw [u2_self]; exact hq
      · rw [u2_self]; show N 9 0 q = u2 r 4 j u 4 j; rw [u2_self]; exact q0
      · rw [u2_self]; show N 9 1 q = u2 (u2 r 4 j u) 5 j v 5 j; rw [u2_self]; exact q1
      · rw [u2_self]; show N 9 2 q = u2 (u2 (u2 r 4 j u) 5 j v) 6 j l 6 j; rw [u2_self]; exact q2
      · rw [u2_self, u2_self]; exact q3
      · rw [u2_self]; show N 9 4 q = r 8 j; rw [q4, h8]
    · obtain ⟨w1, w2, w3, w4, w5, w6, w7⟩ := t9 j (by omega)
      have eb : u2 b 2 c q 2 j = b 2 j := u2_ni hjc
      refine ⟨?_, ?_, ?_, ?_, ?_, ?_, ?_⟩
      · rw [eb]; show u2 R (b 0 8) c (some q) (b 0 8) j = _; rw [u2_ni hjc]; exact w1
      · rw [eb]; exact w2
      · rw [eb, u2_ni hjc, u2_ni hjc, u2_ni hjc, u2_ni hjc]; exact w3
      · rw [eb, u2_ni hjc, u2_ni hjc, u2_ni hjc, u2_ni hjc]; exact w4
      · rw [eb, u2_ni hjc, u2_ni hjc, u2_ni hjc, u2_ni hjc]; exact w5
      · rw [eb, u2_ni hjc, u2_ni hjc, u2_ni hjc, u2_ni hjc]; exact w6
      · rw [eb, u2_ni hjc, u2_ni hjc, u2_ni hjc, u2_ni hjc]; exact w7
  · intro i j hi hj e
    rw [e1] at hi hj
    by_cases hic : i = c
    · subst hic
      by_cases hjc : j = i
      · exact hjc.symm
      · rw [u2_self, u2_ni hjc] at e
        exact absurd e.symm (hn j (by omega))
    · by_cases hjc : j = c
      · subst hjc
        rw [u2_self, u2_ni hic] at e
        exact absurd e (hn i (by omega))
      · rw [u2_ni hic, u2_ni hjc] at e
        exact t10 i j (by omega) (by omega) e
  · intro e he
    obtain ⟨g1, g2, g3, g4, g5, g6, g7⟩ := hE e he
    have eb : u2 b 2 c q (10 + e) = b (10 + e) := u2_off b q (by omega)
    rw [eb]
    refine ⟨?_, g2, g3, g4, g5, fun p hp => ⟨?_, (g6 p hp).2⟩, g7⟩
    · show u2 R (b 0 8) c (some q) (b 0 2) e = _; rw [u2_na n2]; exact g1
    · have np : b 4 e ≠ b 0 8 := fun z => by rw [z, t5] at g4; cases g4
      show u2 R (b 0 8) c (some q) (b 4 e) p = _; rw [u2_na np]; exact (g6 p hp).1
  · refine ⟨fun n hn => ?_, hW.2⟩
    obtain ⟨g1, g2⟩ := hW.1 n hn
    exact ⟨by show u2 R (b 0 8) c (some q) (b 0 3) n = _; rw [u2_na n3]; exact g1, g2⟩
  · intro s hs
    refine ⟨fun h0 => ?_, fun h0 => ?_⟩
    · show u2 R (b 0 8) c (some q) (b 0 4) s = _; rw [u2_na n4]; exact (hS s hs).1 h0
    · obtain ⟨g1, g2⟩ := (hS s hs).2 h0
      exact ⟨by show u2 R (b 0 8) c (some q) (b 0 4) s = _; rw [u2_na n4]; exact g1, g2⟩
theorem c_X10_way {E : zE} {T : zT} {N : zN} {P : zP} {I : zI} {R : zR} (x : Nat) (Mn : Nat → Prop) (b : Nat → Nat → Nat) (g : Nat) (f : zf) (r : zg) (u v l : Int32) (s : Prop) (hC : CR T N P I R x Mn b g f r) (h3 : Nt (f 3) 15) (h8 : ∀ j, tn (f 3) ≤ j → j < 14 → r 8 j = 0) (hMn : ∀ a, Mn a → ¬ (T a).1 = 0) : zC E yX10_way cX10_way 5 (some .int) (zrm 2 44 1 5) [.ref x, .int u, .int v, .int l, .int (zb s)] T N P I R (cQ x Mn g T N P I R (ac_way f r u v l s)) := by
  refine zC.intro (ls := [some (.ref x), some (.int u), some (.int v), some (.int l), some (.int (zb s))]) pl_RX10 (zle rfl) 0 rfl (fun K => ?_)
  obtain ⟨hX, hT, hA, hP, hE, hW, hS, hQ⟩ := id hC
  obtain ⟨x1, x2, x3, x4, x5, x6, x7, x8, x9, x10, x11, x12, x13, x14⟩ := id hX
  obtain ⟨t1, t2, t3, t4, t5, t6, t7, t8, t9, t10⟩ := id hT
  obtain ⟨a1, a2, a3⟩ := id hA
  refine v_aload_0 dX10_way_0 rfl ?_
  refine v_getP fl_10_10 (by assumption) (by assumption) rfl (zle rfl) rfl dX10_way_1 rfl ?_
  refine v_iload_1 dX10_way_4 rfl ?_
  refine v_callV (ci := 7) (F := TX7) (c_X7_hasCorner _ _ (by assumption)) yy_X7_hasCorner im_X7_hasCorner se_X7_hasCorner lk_10_78 (by assumption) (zle rfl) rfl (zle rfl) (zle rfl) (zle rfl) (zle rfl) rfl rfl (zle rfl) dX10_way_5 rfl (zp.use ?_)
  refine v_top (zb_iff (q := 0 ≤ u ∧ u ≤ f 0 - 1) (by rw [t6])) ?_
  refine v_ifz_eq (tgt := 27) dX10_way_8 (by decide) rfl (fun c8 => ?_) (fun c8 => ?_)
  · refine v_aload_0 dX10_way_27 rfl ?_
    refine v_ldc dX10_way_28 kc_10_65 rfl ?_
    refine v_callV (ci := 10) (F := TX10) (c_X10_finding _ _ (by assumption)) yy_X10_finding im_X10_finding se_X10_finding lk_10_66 (by assumption) (zle rfl) rfl (zle rfl) (zle rfl) (zle rfl) (zle rfl) rfl rfl (zle rfl) dX10_way_30 rfl (zp.use ?_)
    exact v_ireturn rfl (cQ_fd hC (zi_f (fun h => c8 h.1))) (zle rfl) (zle rfl) dX10_way_33
  · refine v_aload_0 dX10_way_11 rfl ?_
    refine v_getP fl_10_10 (by assumption) (by assumption) rfl (zle rfl) rfl dX10_way_12 rfl ?_
    refine v_iload_2 dX10_way_15 rfl ?_
    refine v_callV (ci := 7) (F := TX7) (c_X7_hasCorner _ _ (by assumption)) yy_X7_hasCorner im_X7_hasCorner se_X7_hasCorner lk_10_78 (by assumption) (zle rfl) rfl (zle rfl) (zle rfl) (zle rfl) (zle rfl) rfl rfl (zle rfl) dX10_way_16 rfl (zp.use ?_)
    refine v_top (zb_iff (q := 0 ≤ v ∧ v ≤ f 0 - 1) (by rw [t6])) ?_
    refine v_ifz_eq (tgt := 27) dX10_way_19 (by decide) rfl (fun c19 => ?_) (fun c19 => ?_)
    · refine v_aload_0 dX10_way_27 rfl ?_
      refine v_ldc dX10_way_28 kc_10_65 rfl ?_
      refine v_callV (ci := 10) (F := TX10) (c_X10_finding _ _ (by assumption)) yy_X10_finding im_X10_finding se_X10_finding lk_10_66 (by assumption) (zle rfl) rfl (zle rfl) (zle rfl) (zle rfl) (zle rfl) rfl rfl (zle rfl) dX10_way_30 rfl (zp.use ?_)
      exact v_ireturn rfl (cQ_fd hC (zi_f (fun h => c19 h.2.1))) (zle rfl) (zle rfl) dX10_way_33
    · refine v_iload_1 dX10_way_22 rfl ?_
      refine v_iload_2 dX10_way_23 rfl ?_
      refine v_icmp_ne (tgt := 34) dX10_way_24 (by decide) rfl (fun c24 => ?_) (fun c24 => ?_)
      · refine v_iload_3 dX10_way_34 rfl ?_
        refine v_iconst (v := 1) dX10_way_35 rfl rfl ?_
        refine v_bipush (v := 20) dX10_way_36 rfl rfl ?_
        refine v_callS (c_X10_isWithin _ _ _) yy_X10_isWithin st_X10_isWithin lk_10_61 (zle rfl) (zle rfl) (zle rfl) (zle rfl) rfl rfl (zle rfl) dX10_way_38 rfl (zp.use ?_)
        refine v_ifz_ne (tgt := 51) dX10_way_41 (by decide) rfl (fun c41 => ?_) (fun c41 => ?_)
        · refine v_aload_0 dX10_way_51 rfl ?_
          refine v_getP fl_10_10 (by assumption) (by assumption) rfl (zle rfl) rfl dX10_way_52 rfl ?_
          refine v_getN fl_10_82 (by assumption) rfl (zle rfl) rfl dX10_way_55 rfl ?_
          refine v_top t7 ?_
          refine v_bipush (v := 14) dX10_way_58 rfl rfl ?_
          refine v_icmp_lt (tgt := 70) dX10_way_60 (by decide) rfl (fun c60 => ?_) (fun c60 => ?_)
          · refine v_aload_0 dX10_way_70 rfl ?_
            refine v_getP fl_10_10 (by assumption) (by assumption) rfl (zle rfl) rfl dX10_way_71 rfl ?_
            have hc14 : tn (f 3) < 14 := h3.lt14 c60
            refine v_new (ci := 9) rfl (zle rfl) cl_9 tyX9_ok dv_9 kl_10_85 it_9 ii_9 (zle rfl) (zle rfl) dX10_way_74 rfl (fun q74 hq74 => ?_)
            refine v_dup dX10_way_77 rfl rfl ?_
            refine v_iload_1 dX10_way_78 rfl ?_
            refine v_iload_2 dX10_way_79 rfl ?_
            refine v_iload_3 dX10_way_80 rfl ?_
            refine v_iload_4 dX10_way_81 rfl ?_
            have hq19 : (u1 T q74 (19, 0) q74).1 = 19 := by rw [u1_self]
            refine v_callI (c_X9_init q74 u v l s hq19) yy_X9_init im_X9_init rfl lk_10_87 (zle rfl) (zle rfl) (zle rfl) (zle rfl) rfl rfl (zle rfl) dX10_way_83 rfl (zv.use ?_)
            refine v_abs (fun T1 N1 P1 I1 R1 => CR T1 N1 P1 I1 R1 x Mn b g f r ∧ (T1 q74).1 = 19 ∧ N1 9 0 q74 = u ∧ N1 9 1 q74 = v ∧ N1 9 2 q74 = l ∧ N1 9 3 q74 = zb s ∧ N1 9 4 q74 = 0 ∧ Cfr Mn T N P I T1 N1 P1 I1) ⟨hC.gr ?_, hq19, by simp [u3], by simp [u3], by simp [u3], by simp [u3], by simp [u3], ?_⟩ (fun T1 N1 P1 I1 R1 hF => ?_)
            · intro a ha
              have hne : a ≠ q74 := fun e => ha (by rw [e]; exact hq74)
              exact ⟨u1_na hne, fun c k => by simp [u3, uo, hne], fun c k => by simp [uo, hne], rfl, rfl⟩
            · exact (((((((Cfr.rf.t (fun h => hMn _ h hq74) _).o (by decide) _).n (by decide) _ _ _).n (by decide) _ _ _).n (by decide) _ _ _).n (by decide) _ _ _).n (by decide) _ _ _)
            obtain ⟨f1, f2, f3, f4, f5, f6, f7, f8⟩ := hF
            obtain ⟨-, ⟨k1, -, -, k4, k5, -, k7, -⟩, -⟩ := id f1
            refine v_callV (ci := 7) (F := TX7) (c_X7_addWay (b 0 0) (b 0 8) q74 (tn (f 3)) k1 k4 k5 f2 (k7.trans h3.1) hc14) yy_X7_addWay im_X7_addWay se_X7_addWay lk_10_90 k1 (zle rfl) rfl (zle rfl) (zle rfl) (zle rfl) (zle rfl) rfl rfl (zle rfl) dX10_way_86 rfl (zp.use ?_)
            exact v_ireturn rfl (cQ_go (u2 b 2 (tn (f 3)) q74) g ((zi_t ⟨c8, c19, c24, c41⟩).trans (zi_f (fun e => absurd c60 (by rw [e]; decide)))) h3.1.symm (f1.way h3.1 hc14 u v l s f2 (fun j hj => fr_ne hq74 (t9 j hj).2.1 (by decide)) f3 f4 f5 f6 f7 (h8 _ (Nat.le_refl _) hc14)) (f8.n (by decide) _ _ _)) (zle rfl) (zle rfl) dX10_way_89
          · refine v_aload_0 dX10_way_63 rfl ?_
            refine v_ldc dX10_way_64 kc_10_73 rfl ?_
            refine v_callV (ci := 10) (F := TX10) (c_X10_finding _ _ (by assumption)) yy_X10_finding im_X10_finding se_X10_finding lk_10_66 (by assumption) (zle rfl) rfl (zle rfl) (zle rfl) (zle rfl) (zle rfl) rfl rfl (zle rfl) dX10_way_66 rfl (zp.use ?_)
            exact v_ireturn rfl (cQ_fd hC ((zi_t ⟨c8, c19, c24, c41⟩).trans (zi_t (h3.eq14 c60)))) (zle rfl) (zle rfl) dX10_way_69
        · refine v_aload_0 dX10_way_44 rfl ?_
          refine v_ldc dX10_way_45 kc_10_65 rfl ?_
          refine v_callV (ci := 10) (F := TX10) (c_X10_finding _ _ (by assumption)) yy_X10_finding im_X10_finding se_X10_finding lk_10_66 (by assumption) (zle rfl) rfl (zle rfl) (zle rfl) (zle rfl) (zle rfl) rfl rfl (zle rfl) dX10_way_47 rfl (zp.use ?_)
          exact v_ireturn rfl (cQ_fd hC (zi_f (fun h => c41 h.2.2.2))) (zle rfl) (zle rfl) dX10_way_50
      · refine v_aload_0 dX10_way_27 rfl ?_
        refine v_ldc dX10_way_28 kc_10_65 rfl ?_
        refine v_callV (ci := 10) (F := TX10) (c_X10_finding _ _ (by assumption)) yy_X10_finding im_X10_finding se_X10_finding lk_10_66 (by assumption) (zle rfl) rfl (zle rfl) (zle rfl) (zle rfl) (zle rfl) rfl rfl (zle rfl) dX10_way_30 rfl (zp.use ?_)
        exact v_ireturn rfl (cQ_fd hC (zi_f (fun h => h.2.2.1 c24))) (zle rfl) (zle rfl) dX10_way_33
theorem c_X10_told {E : zE} {T : zT} {N : zN} {P : zP} {I : zI} {R : zR} (x : Nat) (Mn : Nat → Prop) (b : Nat → Nat → Nat) (g : Nat) (f : zf) (r : zg) (w : Int32) (hC : CR T N P I R x Mn b g f r) : zC E yX10_told cX10_told 2 (some .int) (zr0 1 21) [.ref x, .int w] T N P I R (cQ x Mn g T N P I R (ac_told f r w)) := by
  refine zC.intro (ls := [some (.ref x), some (.int w)]) pl_RX10 (zle rfl) 0 rfl (fun K => ?_)
  obtain ⟨hX, hT, hA, hP, hE, hW, hS, hQ⟩ := id hC
  obtain ⟨x1, x2, x3, x4, x5, x6, x7, x8, x9, x10, x11, x12, x13, x14⟩ := id hX
  obtain ⟨t1, t2, t3, t4, t5, t6, t7, t8, t9, t10⟩ := id hT
  obtain ⟨a1, a2, a3⟩ := id hA
  obtain ⟨d1, d2, d3, d4, d5⟩ := id hP
  refine v_iload_1 dX10_told_0 rfl ?_
  by_cases s1_0 : w = 0
  · refine v_tableIn (off := 43) (n := 44) dX10_told_1 (by rw [s1_0]; decide) (by rw [s1_0]; decide) (by rw [s1_0]; rfl) (by decide) ?_
    refine v_aload_0 dX10_told_44 rfl ?_
    refine v_getP fl_10_10 (by assumption) (by assumption) rfl (zle rfl) rfl dX10_told_45 rfl ?_
    refine v_getN fl_10_70 (by assumption) rfl (zle rfl) rfl dX10_told_48 rfl ?_
    exact v_ireturn rfl (cQ_rd hC (zi_t s1_0) t6) (zle rfl) (zle rfl) dX10_told_51
  by_cases s1_1 : w = 1
  · refine v_tableIn (off := 51) (n := 52) dX10_told_1 (by rw [s1_1]; decide) (by rw [s1_1]; decide) (by rw [s1_1]; rfl) (by decide) ?_
    refine v_aload_0 dX10_told_52 rfl ?_
    refine v_getP fl_10_10 (by assumption) (by assumption) rfl (zle rfl) rfl dX10_told_53 rfl ?_
    refine v_getN fl_10_82 (by assumption) rfl (zle rfl) rfl dX10_told_56 rfl ?_
    exact v_ireturn rfl (cQ_rd hC ((zi_f s1_0).trans (zi_t s1_1)) t7) (zle rfl) (zle rfl) dX10_told_59
  by_cases s1_2 : w = 2
  · refine v_tableIn (off := 59) (n := 60) dX10_told_1 (by rw [s1_2]; decide) (by rw [s1_2]; decide) (by rw [s1_2]; rfl) (by decide) ?_
    refine v_aload_0 dX10_told_60 rfl ?_
    refine v_getN fl_10_48 (by assumption) rfl (zle rfl) rfl dX10_told_61 rfl ?_
    exact v_ireturn rfl (cQ_rd hC (((zi_f s1_0).trans (zi_f s1_1)).trans (zi_t s1_2)) x11) (zle rfl) (zle rfl) dX10_told_64
  by_cases s1_3 : w = 3
  · refine v_tableIn (off := 64) (n := 65) dX10_told_1 (by rw [s1_3]; decide) (by rw [s1_3]; decide) (by rw [s1_3]; rfl) (by decide) ?_
    refine v_aload_0 dX10_told_65 rfl ?_
    refine v_getN fl_10_52 (by assumption) rfl (zle rfl) rfl dX10_told_66 rfl ?_
    exact v_ireturn rfl (cQ_rd hC ((((zi_f s1_0).trans (zi_f s1_1)).trans (zi_f s1_2)).trans (zi_t s1_3)) x12) (zle rfl) (zle rfl) dX10_told_69
  by_cases s1_4 : w = 4
  · refine v_tableIn (off := 69) (n := 70) dX10_told_1 (by rw [s1_4]; decide) (by rw [s1_4]; decide) (by rw [s1_4]; rfl) (by decide) ?_
    refine v_aload_0 dX10_told_70 rfl ?_
    refine v_getN fl_10_55 (by assumption) rfl (zle rfl) rfl dX10_told_71 rfl ?_
    exact v_ireturn rfl (cQ_rd hC (((((zi_f s1_0).trans (zi_f s1_1)).trans (zi_f s1_2)).trans (zi_f s1_3)).trans (zi_t s1_4)) x13) (zle rfl) (zle rfl) dX10_told_74
  by_cases s1_5 : w = 5
  · refine v_tableIn (off := 74) (n := 75) dX10_told_1 (by rw [s1_5]; decide) (by rw [s1_5]; decide) (by rw [s1_5]; rfl) (by decide) ?_
    refine v_aload_0 dX10_told_75 rfl ?_
    refine v_getP fl_10_19 (by assumption) (by assumption) rfl (zle rfl) rfl dX10_told_76 rfl ?_
    refine v_getN fl_10_111 (by assumption) rfl (zle rfl) rfl dX10_told_79 rfl ?_
    exact v_ireturn rfl (cQ_rd hC ((((((zi_f s1_0).trans (zi_f s1_1)).trans (zi_f s1_2)).trans (zi_f s1_3)).trans (zi_f s1_4)).trans (zi_t s1_5)) d4) (zle rfl) (zle rfl) dX10_told_82
  by_cases s1_6 : w = 6
  · refine v_tableIn (off := 82) (n := 83) dX10_told_1 (by rw [s1_6]; decide) (by rw [s1_6]; decide) (by rw [s1_6]; rfl) (by decide) ?_
    refine v_aload_0 dX10_told_83 rfl ?_
    refine v_getN fl_10_58 (by assumption) rfl (zle rfl) rfl dX10_told_84 rfl ?_
    exact v_ireturn rfl (cQ_rd hC (((((((zi_f s1_0).trans (zi_f s1_1)).trans (zi_f s1_2)).trans (zi_f s1_3)).trans (zi_f s1_4)).trans (zi_f s1_5)).trans (zi_t s1_6)) x14) (zle rfl) (zle rfl) dX10_told_87
  refine v_tableOut (n := 88) dX10_told_1 (tb_out (k := 6) (fun j hj => by rcases (show j = 0 ∨ j = 1 ∨ j = 2 ∨ j = 3 ∨ j = 4 ∨ j = 5 ∨ j = 6 by omega) with rfl | rfl | rfl | rfl | rfl | rfl | rfl <;> first | exact s1_0 | exact s1_1 | exact s1_2 | exact s1_3 | exact s1_4 | exact s1_5 | exact s1_6)) (by decide) ?_
  refine v_aload_0 dX10_told_88 rfl ?_
  refine v_ldc dX10_told_89 kc_10_65 rfl ?_
  refine v_callV (ci := 10) (F := TX10) (c_X10_finding _ _ (by assumption)) yy_X10_finding im_X10_finding se_X10_finding lk_10_66 (by assumption) (zle rfl) rfl (zle rfl) (zle rfl) (zle rfl) (zle rfl) rfl rfl (zle rfl) dX10_told_91 rfl (zp.use ?_)
  exact v_ireturn rfl (cQ_fd hC (((((((zi_f s1_0).trans (zi_f s1_1)).trans (zi_f s1_2)).trans (zi_f s1_3)).trans (zi_f s1_4)).trans (zi_f s1_5)).trans (zi_f s1_6))) (zle rfl) (zle rfl) dX10_told_94
