theorem h6lt {x : Int32} (h : Nt x 7) (hc : x < 6) : tn x < 6 := by
  have e := h.toInt (by decide)
  rw [Int32.lt_iff_toInt_lt, e] at hc
  have : (6 : Int32).toInt = 6 := rfl
  omega
theorem h6eq {x : Int32} (h : Nt x 7) (hc : ¬ x < 6) : x = 6 := by
  have e := h.toInt (by decide)
  have h2 := h.2
  rw [Int32.lt_iff_toInt_lt, e] at hc
  have h3 : (6 : Int32).toInt = 6 := rfl
  rw [h.1, show tn x = 6 by omega]
  rfl
theorem c_X8_init {E : zE} {T : zT} {N : zN} {P : zP} {I : zI} {R : zR} (q ea : Nat) (en : Int32) (s : Prop) (hq : (T q).1 = 18) : zC E yX8_init cX8_init 4 none (zr0 1 20) [.ref q, .ref ea, .int en, .int (zb s)] T N P I R (zv T (u3 (u3 (u3 (u3 (u3 (u3 (u3 (u3 N 8 3 q 0) 8 4 q 0) 8 5 q 0) 8 6 q (-1)) 8 7 q (-1)) 8 8 q 0) 8 1 q en) 8 2 q (zb s)) (u3 P 8 0 q (some ea)) I R) := by
  refine zC.intro (ls := [some (.ref q), some (.ref ea), some (.int en), some (.int (zb s))]) pl_RX8 (zle rfl) 0 rfl (fun K => ?_)
  refine v_aload_0 dX8_init_0 rfl ?_
  refine v_objInit lk_8_3 im_obj cd_obj (zle rfl) (zle rfl) dX8_init_1 rfl ?_
  refine v_aload_0 dX8_init_4 rfl ?_
  refine v_iconst (v := 0) dX8_init_5 rfl rfl ?_
  refine v_putN fw_8_9 (by assumption) rfl (zle rfl) rfl (fun h => by cases h) rfl rfl dX8_init_6 rfl ?_
  refine v_aload_0 dX8_init_9 rfl ?_
  refine v_iconst (v := 0) dX8_init_10 rfl rfl ?_
  refine v_putN fw_8_15 (by assumption) rfl (zle rfl) rfl (fun h => by cases h) rfl rfl dX8_init_11 rfl ?_
  refine v_aload_0 dX8_init_14 rfl ?_
  refine v_iconst (v := 0) dX8_init_15 rfl rfl ?_
  refine v_putN fw_8_18 (by assumption) rfl (zle rfl) rfl (fun h => by cases h) rfl rfl dX8_init_16 rfl ?_
  refine v_aload_0 dX8_init_19 rfl ?_
  refine v_iconst (v := -1) dX8_init_20 rfl rfl ?_
  refine v_putN fw_8_21 (by assumption) rfl (zle rfl) rfl (fun h => by cases h) rfl rfl dX8_init_21 rfl ?_
  refine v_aload_0 dX8_init_24 rfl ?_
  refine v_iconst (v := -1) dX8_init_25 rfl rfl ?_
  refine v_putN fw_8_24 (by assumption) rfl (zle rfl) rfl (fun h => by cases h) rfl rfl dX8_init_26 rfl ?_
  refine v_aload_0 dX8_init_29 rfl ?_
  refine v_iconst (v := 0) dX8_init_30 rfl rfl ?_
  refine v_putN fw_8_27 (by assumption) rfl (zle rfl) rfl (fun h => by cases h) rfl rfl dX8_init_31 rfl ?_
  refine v_aload_0 dX8_init_34 rfl ?_
  refine v_aload_1 dX8_init_35 rfl ?_
  refine v_putP fw_8_30 (by assumption) rfl (zle rfl) rfl (fun _ => rfl) rfl rfl dX8_init_36 rfl ?_
  refine v_aload_0 dX8_init_39 rfl ?_
  refine v_iload_2 dX8_init_40 rfl ?_
  refine v_putN fw_8_34 (by assumption) rfl (zle rfl) rfl (fun _ => rfl) rfl rfl dX8_init_41 rfl ?_
  refine v_aload_0 dX8_init_44 rfl ?_
  refine v_iload_3 dX8_init_45 rfl ?_
  refine v_putN fw_8_37 (by assumption) rfl (zle rfl) rfl (fun _ => rfl) (zb_nar _) (zb_fit _) dX8_init_46 rfl ?_
  exact v_return rfl (zv.rf) (zle rfl) (zle rfl) dX8_init_49
/-- one walker more -/
theorem CR.addw {T : zT} {N N' : zN} {P : zP} {I : zI} {R : zR} {x : Nat} {Mn : Nat → Prop} {b : Nat → Nat → Nat} {g : Nat} {f : zf} {r r' : zg} (h : CR T N P I R x Mn b g f r) {w q : Nat} (hw : f 18 = nI w) (hw6 : w < 6) (hq : (T q).1 = 18) (hn : ∀ j, j < w → b 5 j ≠ q) (hN : ∀ c k a, c ≠ 8 ∨ a ≠ q → N' c k a = N c k a) (hr : ∀ k, k ≠ 19 → k ≠ 20 → k ≠ 21 → k ≠ 22 → k ≠ 23 → k ≠ 24 → r' k = r k) (hr2 : ∀ k j, j ≠ w → r' k j = r k j)
    (h0 : P 8 0 q = some (b 3 (tn (r' 22 w)))) (h1 : N' 8 1 q = r' 22 w) (h2 : N' 8 2 q = r' 23 w) (h3 : N' 8 3 q = r' 19 w) (h4 : N' 8 4 q = r' 20 w) (h5 : N' 8 5 q = r' 21 w) (h6 : N' 8 6 q = r' 24 w) (h8 : N' 8 8 q = r' 26 w) (h9 : r' 26 w = 0) : CR T (u3 N' 10 7 x (nI w + 1)) P I (u2 R (b 0 3) w (some q)) x Mn (u2 b 5 w q) g (u1 f 18 (f 18 + 1)) r' := by
  obtain ⟨⟨x1, x2, x3, x4, x5, x6, x7, x8, x9, x10, x11, x12, x13, x14⟩, hT, hA, hP, hE, ⟨w1, w2⟩, hS, hQ⟩ := h
  have t5 : T (b 0 8) = (39, 14) := hT.2.2.2.2.1
  have e1 : tn (u1 f 18 (f 18 + 1) 18) = w + 1 := by rw [u1_self, hw, nI_1, tn_nI (by omega)]
  have e0 : tn (f 18) = w := by rw [hw, tn_nI (by omega)]
  have hc : ∀ c, c ≠ 8 → N' c = N c := fun c h => funext fun k => funext fun a => hN c k a (Or.inl h)
  have hcu : ∀ c, c ≠ 8 → c ≠ 10 → u3 N' 10 7 x (nI w + 1) c = N c := fun c h h' => funext fun k => funext fun a => by
    rw [← hc c h]; simp [u3, h']
  have hcx : ∀ k, k ≠ 7 → u3 N' 10 7 x (nI w + 1) 10 k x = N 10 k x := fun k hk => by rw [← hc 10 (by decide)]; simp [u3, hk]
  have hc8 : ∀ k a, u3 N' 10 7 x (nI w + 1) 8 k a = N' 8 k a := fun k a => by simp [u3]
  have k1 : ∀ k, k < 19 → r' k = r k := fun k h => hr k (by omega) (by omega) (by omega) (by omega) (by omega) (by omega)
  have k2 : ∀ k, 25 ≤ k → r' k = r k := fun k h => hr k (by omega) (by omega) (by omega) (by omega) (by omega) (by omega)
  have bo : ∀ k, k ≠ 5 → u2 b 5 w q k = b k := fun k h => u2_off b q h
  have n2 : b 0 2 ≠ b 0 3 := fun e => by rw [e, x9] at x8; cases x8
  have n4 : b 0 4 ≠ b 0 3 := fun e => by rw [e, x9] at x10; cases x10
  have n8 : b 0 8 ≠ b 0 3 := fun e => by rw [e, x9] at t5; cases t5
  have Ro : ∀ a, a ≠ b 0 3 → u2 R (b 0 3) w (some q) a = R a := fun a h => u2_off R _ h
  refine ⟨?_, ?_, ?_, ?_, ?_, ⟨?_, ?_⟩, ?_, ?_⟩
  · unfold RX
    rw [bo 0 (by decide), hcx 6 (by decide), hcx 8 (by decide), hcx 9 (by decide), u3_self, u1_self, hw]
    exact ⟨x1, x2, x3, x4, x5, x6, x7, x8, x9, x10, x11, rfl, x13, x14⟩
  · unfold RT RTw
    rw [bo 0 (by decide), bo 1 (by decide), bo 2 (by decide), hcu 7 (by decide) (by decide), hcu 9 (by decide) (by decide), Ro _ n8, k1 1 (by decide), k1 2 (by decide), k1 4 (by decide), k1 5 (by decide), k1 6 (by decide), k1 7 (by decide), k1 8 (by decide)]
    exact hT
  · unfold RA lvr lnr
    rw [bo 1 (by decide), k2 28 (by decide), k2 29 (by decide)]
    exact hA
  · unfold RP
    rw [bo 0 (by decide), hcu 6 (by decide) (by decide), k1 16 (by decide)]
    exact hP
  · intro e he
    obtain ⟨g1, g2, g3, g4, g5, g6, g7⟩ := hE e he
    have n4e : b 4 e ≠ b 0 3 := fun z => by rw [z, x9] at g4; cases g4
    unfold REe REp
    rw [bo 0 (by decide), bo 3 (by decide), bo 4 (by decide), bo (10 + e) (by omega), hcu 0 (by decide) (by decide), hcu 2 (by decide) (by decide), Ro _ n2, Ro _ n4e, k1 10 (by decide), k1 11 (by decide), k1 12 (by decide), k1 13 (by decide), k1 14 (by decide), k1 15 (by decide)]
    exact ⟨g1, g2, g3, g4, g5, g6, g7⟩
  · intro n hn'
    rw [e1] at hn'
    unfold RWn
    rw [bo 0 (by decide), bo 3 (by decide)]
    by_cases hnw : n = w
    · subst hnw
      rw [u2_self, u2_self, hc8, hc8, hc8, hc8, hc8, hc8, hc8, hc8]
      exact ⟨rfl, hq, h0, h1, h2, h3, h4, h5, h6, h8, fun h => absurd h9 h⟩
    · obtain ⟨g1, g2, g3, g4, g5, g6, g7, g8, g9, g10, g11⟩ := w1 n (by omega)
      have hb : b 5 n ≠ q := hn n (by omega)
      rw [u2_ni hnw, u2_ni hnw, hc8, hc8, hc8, hc8, hc8, hc8, hc8, hc8, hN 8 1 _ (Or.inr hb), hN 8 2 _ (Or.inr hb), hN 8 3 _ (Or.inr hb), hN 8 4 _ (Or.inr hb), hN 8 5 _ (Or.inr hb), hN 8 6 _ (Or.inr hb), hN 8 7 _ (Or.inr hb), hN 8 8 _ (Or.inr hb), hr2 19 n hnw, hr2 20 n hnw, hr2 21 n hnw, hr2 22 n hnw, hr2 23 n hnw, hr2 24 n hnw, hr2 25 n hnw, hr2 26 n hnw]
      exact ⟨g1, g2, g3, g4, g5, g6, g7, g8, g9, g10, g11⟩
  · intro i j hi hj e
    rw [e1] at hi hj
    by_cases hic : i = w
    · subst hic
      by_cases hjc : j = i
      · exact hjc.symm
      · rw [u2_self, u2_ni hjc] at e
        exact absurd e.symm (hn j (by omega))
    · by_cases hjc : j = w
      · subst hjc
        rw [u2_self, u2_ni hic] at e
        exact absurd e (hn i (by omega))
      · rw [u2_ni hic, u2_ni hjc] at e
        exact w2 i j (by omega) (by omega) e
  · unfold RS RSs
    rw [bo 0 (by decide), bo 1 (by decide), bo 6 (by decide), hcu 5 (by decide) (by decide), Ro _ n4, k2 28 (by decide), k2 29 (by decide), k2 30 (by decide)]
    exact hS
  · unfold RQ
    rw [bo 0 (by decide), bo 1 (by decide)]
    exact hQ
theorem c_X10_walker {E : zE} {T : zT} {N : zN} {P : zP} {I : zI} {R : zR} (x : Nat) (Mn : Nat → Prop) (b : Nat → Nat → Nat) (g : Nat) (f : zf) (r : zg) (c : Int32) (s : Prop) (hC : CR T N P I R x Mn b g f r) (hI : WkI f r) (hz : ∀ j, tn (f 18) ≤ j → j < 6 → r 20 j = 0 ∧ r 21 j = 0 ∧ r 26 j = 0) (hMn : ∀ a, Mn a → ¬ (T a).1 = 0) : zC E yX10_walker cX10_walker 5 (some .int) (zrm 4 95 1 9) [.ref x, .int c, .int (zb s)] T N P I R (cQ x Mn g T N P I R (ac_walker f r c s)) := by
  refine zC.intro (ls := [some (.ref x), some (.int c), some (.int (zb s)), none, none]) pl_RX10 (zle rfl) 2 rfl (fun K => ?_)
  obtain ⟨hX, hT, hA, hP, hE, hW, hS, hQ⟩ := id hC
  obtain ⟨x1, x2, x3, x4, x5, x6, x7, x8, x9, x10, x11, x12, x13, x14⟩ := id hX
  obtain ⟨w1, w2⟩ := id hW
  obtain ⟨t1, t2, t3, t4, t5, t6, t7, t8, t9, t10⟩ := id hT
  refine v_aload_0 dX10_walker_0 rfl ?_
  refine v_getP fl_10_10 (by assumption) (by assumption) rfl (zle rfl) rfl dX10_walker_1 rfl ?_
  refine v_iload_1 dX10_walker_4 rfl ?_
  refine v_callV (ci := 7) (F := TX7) (c_X7_hasCorner _ _ (by assumption)) yy_X7_hasCorner im_X7_hasCorner se_X7_hasCorner lk_10_78 (by assumption) (zle rfl) rfl (zle rfl) (zle rfl) (zle rfl) (zle rfl) rfl rfl (zle rfl) dX10_walker_5 rfl (zp.use ?_)
  refine v_top (zb_iff (q := 0 ≤ c ∧ c ≤ f 0 - 1) (by rw [t6])) ?_
  refine v_ifz_ne (tgt := 18) dX10_walker_8 (by decide) rfl (fun c8 => ?_) (fun c8 => ?_)
  · refine v_aload_0 dX10_walker_18 rfl ?_
    refine v_aload_0 dX10_walker_19 rfl ?_
    refine v_getN fl_10_48 (by assumption) rfl (zle rfl) rfl dX10_walker_20 rfl ?_
    refine v_iconst (v := 1) dX10_walker_23 rfl rfl ?_
    refine v_isub dX10_walker_24 rfl ?_
    by_cases h9 : f 9 = 0
    · refine v_callV (ci := 10) (F := TX10) (c_X10_findEdition_n x (N 10 6 x - 1) x1 (by rw [x11, h9]; exact fun h => absurd h.1 (by decide))) yy_X10_findEdition im_X10_findEdition se_X10_findEdition lk_10_179 (by assumption) (zle rfl) rfl (zle rfl) (zle rfl) (zle rfl) (zle rfl) rfl rfl (zle rfl) dX10_walker_25 rfl (za.use ?_)
      refine v_astoreN_3 dX10_walker_28 rfl (zle rfl) rfl ?_
      refine v_aloadN_3 dX10_walker_29 rfl ?_
      refine v_ifnonnullN dX10_walker_30 rfl ?_
      refine v_aload_0 dX10_walker_33 rfl ?_
      refine v_ldc dX10_walker_34 kc_10_183 rfl ?_
      refine v_callV (ci := 10) (F := TX10) (c_X10_finding _ _ (by assumption)) yy_X10_finding im_X10_finding se_X10_finding lk_10_66 (by assumption) (zle rfl) rfl (zle rfl) (zle rfl) (zle rfl) (zle rfl) rfl rfl (zle rfl) dX10_walker_36 rfl (zp.use ?_)
      exact v_ireturn rfl (cQ_fd hC ((zi_t c8).trans (zi_t h9))) (zle rfl) (zle rfl) dX10_walker_39
    · obtain ⟨p1, p2⟩ := hI.2.1.pred h9 (by decide)
      have h9b := hI.2.1.2
      refine v_top (show N 10 6 x - 1 = nI (tn (f 9) - 1) by rw [x11]; exact p1) ?_
      obtain ⟨q1, q2⟩ := hE (tn (f 9) - 1) (by omega)
      refine v_callV (ci := 10) (F := TX10) (c_X10_findEdition x (b 0 2) (tn (f 9) - 1) (b 3 (tn (f 9) - 1)) x1 x4 x8 (by rw [x11]; exact (hI.2.1.within (by decide)).mpr (Nt.of_nI (by omega) (by omega))) (by omega) q1) yy_X10_findEdition im_X10_findEdition se_X10_findEdition lk_10_179 (by assumption) (zle rfl) rfl (zle rfl) (zle rfl) (zle rfl) (zle rfl) rfl rfl (zle rfl) dX10_walker_25 rfl (za.use ?_)
      refine v_astore_3 dX10_walker_28 rfl (zle rfl) rfl ?_
      refine v_aload_3 dX10_walker_29 rfl ?_
      refine v_ifnonnull (n := 40) dX10_walker_30 (by decide) ?_
      refine v_aload_0 dX10_walker_40 rfl ?_
      refine v_getN fl_10_52 (by assumption) rfl (zle rfl) rfl dX10_walker_41 rfl ?_
      refine v_top x12 ?_
      refine v_bipush (v := 6) dX10_walker_44 rfl rfl ?_
      refine v_icmp_lt (tgt := 56) dX10_walker_46 (by decide) rfl (fun c46 => ?_) (fun c46 => ?_)
      · have hw6 : tn (f 18) < 6 := h6lt hI.1 c46
        refine v_new (ci := 8) rfl (zle rfl) cl_8 tyX8_ok dv_8 kl_10_29 it_8 ii_8 (zle rfl) (zle rfl) dX10_walker_56 rfl (fun q56 hq56 => ?_)
        have hx20 : (u1 T q56 (18, 0) x).1 = 20 := by rw [u1_na (fr_ne hq56 x1 (by decide))]; exact x1
        refine v_dup dX10_walker_59 rfl rfl ?_
        refine v_aload_3 dX10_walker_60 rfl ?_
        refine v_aload_0 dX10_walker_61 rfl ?_
        
        refine v_getN fl_10_48 hx20 rfl (zle rfl) rfl dX10_walker_62 rfl ?_
        refine v_top (show uo N 8 q56 0 10 6 x = f 9 from x11) ?_
        refine v_iconst (v := 1) dX10_walker_65 rfl rfl ?_
        refine v_isub dX10_walker_66 rfl ?_
        refine v_top p1 ?_
        refine v_iload_2 dX10_walker_67 rfl ?_
        have hq18 : (u1 T q56 (18, 0) q56).1 = 18 := by rw [u1_self]
        refine v_callI (c_X8_init q56 (b 3 (tn (f 9) - 1)) (nI (tn (f 9) - 1)) s hq18) yy_X8_init im_X8_init rfl lk_10_184 (zle rfl) (zle rfl) (zle rfl) (zle rfl) rfl rfl (zle rfl) dX10_walker_68 rfl (zv.use ?_)
        refine v_astore_4 dX10_walker_71 rfl (zle rfl) rfl ?_
        refine v_abs (fun T1 N1 P1 I1 R1 => CR T1 N1 P1 I1 R1 x Mn b g f r ∧ (T1 q56).1 = 18 ∧ P1 8 0 q56 = some (b 3 (tn (f 9) - 1)) ∧ N1 8 1 q56 = nI (tn (f 9) - 1) ∧ N1 8 2 q56 = zb s ∧ N1 8 4 q56 = 0 ∧ N1 8 5 q56 = 0 ∧ N1 8 6 q56 = -1 ∧ Cfr Mn T N P I T1 N1 P1 I1) ⟨hC.gr ?_, hq18, u3_self, by simp [u3], by simp [u3], by simp [u3], by simp [u3], by simp [u3], ?_⟩ (fun T1 N1 P1 I1 R1 hF => ?_)
        · intro a ha
          have hne : a ≠ q56 := fun e => ha (by rw [e]; exact hq56)
          exact ⟨u1_na hne, fun c k => by simp [u3, uo, hne], fun c k => by simp [u3, uo, hne], rfl, rfl⟩
        · exact (((((((((((Cfr.rf.t (fun h => hMn _ h hq56) _).o (by decide) _).n (by decide) _ _ _).n (by decide) _ _ _).n (by decide) _ _ _).n (by decide) _ _ _).n (by decide) _ _ _).n (by decide) _ _ _).p (by decide) _ _ _).n (by decide) _ _ _).n (by decide) _ _ _)
        obtain ⟨f1, m1, m2, m3, m3b, m4, m5, m6, m7⟩ := hF
        obtain ⟨⟨k1, k2, k3, k4, k5, k6, k7, k8, k9, k10, k11, k12, k13, k14⟩, -, -, -, kE, -⟩ := id f1
        obtain ⟨l1, l2⟩ := kE (tn (f 9) - 1) (by omega)
        refine v_aload_4 dX10_walker_73 rfl ?_
        refine v_iload_1 dX10_walker_75 rfl ?_
        refine v_aload_0 dX10_walker_76 rfl ?_
        refine v_getN fl_10_55 k1 rfl (zle rfl) rfl dX10_walker_77 rfl ?_
        refine v_top (k13.trans hI.2.2.2.1.1) ?_
        refine v_callV (ci := 8) (F := TX8) (c_X8_arrive (N := N1) (tn (f 9) - 1) (b 3 (tn (f 9) - 1)) (b 4 (tn (f 9) - 1)) (tn (f 27)) q56 (b (10 + (tn (f 9) - 1))) r c l2 (hI.2.2.1 _ (by omega)).1 (hI.2.2.1 _ (by omega)).2 hI.2.2.2.1.2 m1 m2) yy_X8_arrive im_X8_arrive se_X8_arrive lk_10_187 m1 (zle rfl) rfl (zle rfl) (zle rfl) (zle rfl) (zle rfl) rfl rfl (zle rfl) dX10_walker_80 rfl (zp.use ?_)
        refine v_pop dX10_walker_83 rfl rfl ?_
        refine v_aload_0 dX10_walker_84 rfl ?_
        refine v_getP fl_10_31 k5 k1 rfl (zle rfl) rfl dX10_walker_85 rfl ?_
        refine v_aload_0 dX10_walker_88 rfl ?_
        refine v_getN fl_10_52 k1 rfl (zle rfl) rfl dX10_walker_89 rfl ?_
        refine v_top (show NZ (u3 (u3 (u3 N1 8 3 q56 c) 8 7 q56 (-1)) 8 8 q56 0) q56 _ 10 7 x = nI (tn (f 18)) from k12.trans hI.1.1) ?_
        refine v_aload_4 dX10_walker_92 rfl ?_
        refine v_aast (j := tn (f 18)) ti_8 (F := TX8) rfl (zle rfl) k9 rfl (by omega) (zle rfl) m1 dX10_walker_94 rfl ?_
        refine v_aload_0 dX10_walker_95 rfl ?_
        refine v_dup dX10_walker_96 rfl rfl ?_
        refine v_getN fl_10_52 k1 rfl (zle rfl) rfl dX10_walker_97 rfl ?_
        refine v_top (show NZ (u3 (u3 (u3 N1 8 3 q56 c) 8 7 q56 (-1)) 8 8 q56 0) q56 _ 10 7 x = nI (tn (f 18)) from k12.trans hI.1.1) ?_
        refine v_iconst (v := 1) dX10_walker_100 rfl rfl ?_
        refine v_iadd dX10_walker_101 rfl ?_
        refine v_putN fw_10_52 k1 rfl (zle rfl) rfl (fun h => by cases h) rfl rfl dX10_walker_102 rfl ?_
        refine v_aload_0 dX10_walker_105 rfl ?_
        refine v_getN fl_10_52 k1 rfl (zle rfl) rfl dX10_walker_106 rfl ?_
        refine v_top u3_self ?_
        refine v_iconst (v := 1) dX10_walker_109 rfl rfl ?_
        refine v_isub dX10_walker_110 rfl ?_
        refine v_top (i_ps _) ?_
        have e22 : tn ((rwk f r (tn (f 18)) c s) 22 (tn (f 18))) = (tn (f 9) - 1) := by rw [rwk_22, p1, tn_nI (by omega)]
        have hzz : (lsn r (tn (f 9) - 1) (tn (r 10 (tn (f 9) - 1))) c (tn (f 27)) 12 (N1 8 4 q56, N1 8 5 q56, N1 8 6 q56, 0)) = (lsw (rwk f r (tn (f 18)) c s) (tn (f 27)) (tn (f 18))) := by
          unfold lsw npw
          rw [e22, m4, m5, m6, show (rwk f r (tn (f 18)) c s) 10 = r 10 from rwk_k (by decide) (by decide) (by decide) (by decide), show (rwk f r (tn (f 18)) c s) 19 (tn (f 18)) = c by simp [rwk, u2], show (rwk f r (tn (f 18)) c s) 20 (tn (f 18)) = 0 by rw [rwk_k (by decide) (by decide) (by decide) (by decide)]; exact (hz _ (Nat.le_refl _) hw6).1, show (rwk f r (tn (f 18)) c s) 21 (tn (f 18)) = 0 by rw [rwk_k (by decide) (by decide) (by decide) (by decide)]; exact (hz _ (Nat.le_refl _) hw6).2.1, show (rwk f r (tn (f 18)) c s) 24 (tn (f 18)) = -1 by simp [rwk, u2]]
          exact (lsn_congr (rwk_k (by decide) (by decide) (by decide) (by decide)) (rwk_k (by decide) (by decide) (by decide) (by decide)) (rwk_k (by decide) (by decide) (by decide) (by decide)) (rwk_k (by decide) (by decide) (by decide) (by decide)) (rwk_k (by decide) (by decide) (by decide) (by decide)) 12 _).symm
        have eo : ac_walker f r c s = (f 18, u1 f 18 (f 18 + 1), rz (rwk f r (tn (f 18)) c s) (tn (f 18)) (lsw (rwk f r (tn (f 18)) c s) (tn (f 27)) (tn (f 18)))) := ((zi_t c8).trans (zi_f h9)).trans (zi_f (fun e => absurd c46 (by rw [e]; decide)))
        rw [hzz]
        generalize (lsw (rwk f r (tn (f 18)) c s) (tn (f 27)) (tn (f 18))) = z at eo
        have hq : cQ x Mn g T N P I R (ac_walker f r c s) (some (.int (nI (tn (f 18))))) T1 (u3 (NZ (u3 (u3 (u3 N1 8 3 q56 c) 8 7 q56 (-1)) 8 8 q56 0) q56 z) 10 7 x (nI (tn (f 18)) + 1)) P1 I1 (u2 R1 (b 0 3) (tn (f 18)) (some q56)) := by
          refine cQ_go (u2 b 5 (tn (f 18)) q56) g eo hI.1.1.symm (f1.addw hI.1.1 hw6 m1 (fun j hj => fr_ne hq56 (w1 j hj).2.1 (by decide)) (fun c k a h => ?_) (fun k a1 a2 a3 a4 a5 a6 => by rw [rz, u2_off _ _ a6, u2_off _ _ a3, u2_off _ _ a2, rwk_k a1 a5 a4 a6]) (fun k j hj => by rw [rz, u2_ni hj, u2_ni hj, u2_ni hj, rwk, u2_ni hj, u2_ni hj, u2_ni hj, u2_ni hj]) ?_ ?_ ?_ ?_ ?_ ?_ ?_ ?_ ?_) ?_
          · unfold NZ
            rcases h with h | h
            · simp [u3, h]
            · simp [u3, h]
          · rw [show rz (rwk f r (tn (f 18)) c s) (tn (f 18)) z 22 = (rwk f r (tn (f 18)) c s) 22 from rfl, e22]; exact m2
          · rw [show rz (rwk f r (tn (f 18)) c s) (tn (f 18)) z 22 = (rwk f r (tn (f 18)) c s) 22 from rfl, rwk_22, p1]; simp only [NZ, u3]; simp; exact m3
          · simp only [NZ, u3, rwk, u2]; simp; exact m3b
          · simp [NZ, u3, rwk, u2]
          · simp [NZ, u3, u2]
          · simp [NZ, u3, u2]
          · simp [NZ, u3, u2]
          · rw [show rz (rwk f r (tn (f 18)) c s) (tn (f 18)) z 26 = r 26 from by rw [rz, u2_off _ _ (show 26 ≠ 24 by decide), u2_off _ _ (show 26 ≠ 21 by decide), u2_off _ _ (show 26 ≠ 20 by decide), rwk_k (by decide) (by decide) (by decide) (by decide)], (hz _ (Nat.le_refl _) hw6).2.2]; simp [NZ, u3]
          · rw [show rz (rwk f r (tn (f 18)) c s) (tn (f 18)) z 26 = r 26 from by rw [rz, u2_off _ _ (show 26 ≠ 24 by decide), u2_off _ _ (show 26 ≠ 21 by decide), u2_off _ _ (show 26 ≠ 20 by decide), rwk_k (by decide) (by decide) (by decide) (by decide)]]; exact (hz _ (Nat.le_refl _) hw6).2.2
          · unfold NZ
            exact (((((((m7.n (by decide) _ _ _).n (by decide) _ _ _).n (by decide) _ _ _).n (by decide) _ _ _).n (by decide) _ _ _).n (by decide) _ _ _).n (by decide) _ _ _)
        exact v_ireturn rfl (hq) (zle rfl) (zle rfl) dX10_walker_111
      · refine v_aload_0 dX10_walker_49 rfl ?_
        refine v_ldc dX10_walker_50 kc_10_73 rfl ?_
        refine v_callV (ci := 10) (F := TX10) (c_X10_finding _ _ (by assumption)) yy_X10_finding im_X10_finding se_X10_finding lk_10_66 (by assumption) (zle rfl) rfl (zle rfl) (zle rfl) (zle rfl) (zle rfl) rfl rfl (zle rfl) dX10_walker_52 rfl (zp.use ?_)
        exact v_ireturn rfl (cQ_fd hC (((zi_t c8).trans (zi_f h9)).trans (zi_t (h6eq hI.1 c46)))) (zle rfl) (zle rfl) dX10_walker_55
  · refine v_aload_0 dX10_walker_11 rfl ?_
    refine v_ldc dX10_walker_12 kc_10_65 rfl ?_
    refine v_callV (ci := 10) (F := TX10) (c_X10_finding _ _ (by assumption)) yy_X10_finding im_X10_finding se_X10_finding lk_10_66 (by assumption) (zle rfl) rfl (zle rfl) (zle rfl) (zle rfl) (zle rfl) rfl rfl (zle rfl) dX10_walker_14 rfl (zp.use ?_)
    exact v_ireturn rfl (cQ_fd hC (zi_f c8)) (zle rfl) (zle rfl) dX10_walker_17
