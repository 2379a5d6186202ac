theorem i_ge4 {x : Int32} (h : Nt x 5) (hc : ¬ x < 4) : x = 4 := by
  have e := h.toInt (by decide)
  have h2 := h.2
  rw [Int32.lt_iff_toInt_lt, e] at hc
  have h3 : (4 : Int32).toInt = 4 := rfl
  rw [h.1, show tn x = 4 by omega]
  rfl
theorem CR.clr {T : zT} {N : zN} {P : zP} {I : zI} {R : zR} {x : Nat} {Mn : Nat → Prop} {b : Nat → Nat → Nat} {g : Nat} {f : zf} {r : zg} (h : CR T N P I R x Mn b g f r) : CR T (u3 N 6 1 (b 0 1) 0) P I R x Mn b g (u1 f 17 0) r := by
  obtain ⟨hX, hT, hA, ⟨p1, p2, p3, p4, p5⟩, hE, hW, hS, hQ⟩ := h
  refine ⟨hX, hT, hA, ⟨p1, p2, p3, by rw [u3_self, u1_self], fun j hj => ?_⟩, hE, hW, hS, hQ⟩
  rw [u1_self] at hj
  exact absurd hj (Nat.not_lt_zero j)
theorem cQ_tr {x g : Nat} {Mn : Nat → Prop} {T : zT} {N : zN} {P : zP} {I : zI} {R : zR} {T1 : zT} {N1 : zN} {P1 : zP} {I1 : zI} {R1 : zR} {o : zO} {v : Option Value} {T2 : zT} {N2 : zN} {P2 : zP} {I2 : zI} {R2 : zR} (hF : Cfr Mn T N P I T1 N1 P1 I1) (h : cQ x Mn g T1 N1 P1 I1 R1 o v T2 N2 P2 I2 R2) : cQ x Mn g T N P I R o v T2 N2 P2 I2 R2 := ⟨h.1, h.2.1, hF.tr h.2.2⟩
theorem ue_k {r : zg} {e n : Nat} {v : Nat → Nat → Int32} {j k : Nat} (h : k < 10 ∨ 15 < k) : ue r e n v j k = r k := by
  funext q
  unfold ue
  rw [zi_f (by omega), zi_f (by omega)]
theorem ue_o {r : zg} {e n : Nat} {v : Nat → Nat → Int32} {j k q : Nat} (h : 11 ≤ k) (h2 : q < 12 * e) : ue r e n v j k q = r k q := by
  unfold ue
  rw [zi_f (by omega), zi_f (by omega)]
theorem ue_i {r : zg} {e n : Nat} {v : Nat → Nat → Int32} {j k q : Nat} (h : 11 ≤ k) (h3 : k ≤ 15) (h2 : q < j) : ue r e n v j k (12 * e + q) = v q (k - 11) := by
  unfold ue
  rw [zi_f (by omega), zi_t (by omega), show 12 * e + q - 12 * e = q by omega]
theorem ue_10 {r : zg} {e n : Nat} {v : Nat → Nat → Int32} {j : Nat} : ue r e n v j 10 e = nI n := by
  unfold ue
  rw [zi_t ⟨rfl, rfl⟩]
theorem ue_10o {r : zg} {e n : Nat} {v : Nat → Nat → Int32} {j q : Nat} (h : q ≠ e) : ue r e n v j 10 q = r 10 q := by
  unfold ue
  rw [zi_f (by omega), zi_f (by omega)]
/-- one edition more -/
theorem CR.adde {T : zT} {N : zN} {P : zP} {I : zI} {R : zR} {x : Nat} {Mn : Nat → Prop} {b : Nat → Nat → Nat} {g : Nat} {f : zf} {r : zg} (h : CR T N P I R x Mn b g f r) {e ea pa n : Nat} {pp : Nat → Nat} {v : Nat → Nat → Int32} (he : f 9 = nI e) (he4 : e < 4) (hn : n ≤ 12) (hE : EdB T N P R ea pa pp n v) (h10 : ∀ i, i < e → tn (r 10 i) ≤ 12) (h22 : ∀ w, w < tn (f 18) → tn (r 22 w) < e) : CR T (u3 N 10 6 x (nI (e + 1))) P I (u2 R (b 0 2) e (some ea)) x Mn (u1 (u2 (u2 b 3 e ea) 4 e pa) (10 + e) pp) g (u1 f 9 (f 9 + 1)) (ue r e n v n) := by
  obtain ⟨⟨x1, x2, x3, x4, x5, x6, x7, x8, x9, x10, x11, x12, x13, x14⟩, hT, hA, hP, hE0, ⟨w1, w2⟩, hS, hQ⟩ := h
  obtain ⟨k1, k2, k3, k4, k5, k6, k7⟩ := hE
  have t5 : T (b 0 8) = (39, 14) := hT.2.2.2.2.1
  have e1 : tn (u1 f 9 (f 9 + 1) 9) = e + 1 := by rw [u1_self, he, nI_1, tn_nI (by omega)]
  have e0 : tn (f 9) = e := by rw [he, tn_nI (by omega)]
  have bo : ∀ k, k ≠ 3 → k ≠ 4 → k ≠ 10 + e → u1 (u2 (u2 b 3 e ea) 4 e pa) (10 + e) pp k = b k := fun k a1 a2 a3 => by rw [u1_na a3, u2_off _ _ a2, u2_off _ _ a1]
  have b0 : u1 (u2 (u2 b 3 e ea) 4 e pa) (10 + e) pp 0 = b 0 := bo 0 (by decide) (by decide) (by omega)
  have b1 : u1 (u2 (u2 b 3 e ea) 4 e pa) (10 + e) pp 1 = b 1 := bo 1 (by decide) (by decide) (by omega)
  have b2 : u1 (u2 (u2 b 3 e ea) 4 e pa) (10 + e) pp 2 = b 2 := bo 2 (by decide) (by decide) (by omega)
  have b5 : u1 (u2 (u2 b 3 e ea) 4 e pa) (10 + e) pp 5 = b 5 := bo 5 (by decide) (by decide) (by omega)
  have b6 : u1 (u2 (u2 b 3 e ea) 4 e pa) (10 + e) pp 6 = b 6 := bo 6 (by decide) (by decide) (by omega)
  have b3 : ∀ i, i ≠ e → u1 (u2 (u2 b 3 e ea) 4 e pa) (10 + e) pp 3 i = b 3 i := fun i hi => by rw [u1_na (by omega), u2_off _ _ (by decide), u2_ni hi]
  have b4 : ∀ i, i ≠ e → u1 (u2 (u2 b 3 e ea) 4 e pa) (10 + e) pp 4 i = b 4 i := fun i hi => by rw [u1_na (by omega), u2_ni hi, u2_off _ _ (by decide)]
  have b3e : u1 (u2 (u2 b 3 e ea) 4 e pa) (10 + e) pp 3 e = ea := by rw [u1_na (by omega), u2_off _ _ (by decide), u2_self]
  have b4e : u1 (u2 (u2 b 3 e ea) 4 e pa) (10 + e) pp 4 e = pa := by rw [u1_na (by omega), u2_self]
  have n3 : b 0 3 ≠ b 0 2 := fun e => by rw [e, x8] at x9; cases x9
  have n4 : b 0 4 ≠ b 0 2 := fun e => by rw [e, x8] at x10; cases x10
  have n8 : b 0 8 ≠ b 0 2 := fun e => by rw [e, x8] at t5; cases t5
  have npa : pa ≠ b 0 2 := fun e => by rw [e, x8] at k3; cases k3
  have Ro : ∀ a, a ≠ b 0 2 → u2 R (b 0 2) e (some ea) a = R a := fun a h => u2_off R _ h
  have hc : ∀ c, c ≠ 10 → u3 N 10 6 x (nI (e + 1)) c = N c := fun c h => by funext k a; simp [u3, h]
  have hx : ∀ k, k ≠ 6 → u3 N 10 6 x (nI (e + 1)) 10 k x = N 10 k x := fun k h => by simp [u3, h]
  refine ⟨?_, ?_, ?_, ?_, ?_, ⟨?_, ?_⟩, ?_, ?_⟩
  · unfold RX
    rw [b0, hx 7 (by decide), hx 8 (by decide), hx 9 (by decide), u3_self, u1_self, he, nI_1]
    exact ⟨x1, x2, x3, x4, x5, x6, x7, x8, x9, x10, rfl, x12, x13, x14⟩
  · unfold RT RTw
    rw [b0, b1, b2, hc 7 (by decide), hc 9 (by decide), Ro _ n8, ue_k (by decide), ue_k (by decide), ue_k (by decide), ue_k (by decide), ue_k (by decide), ue_k (by decide), ue_k (by decide)]
    exact hT
  · unfold RA lvr lnr
    rw [b1, ue_k (by decide), ue_k (by decide)]
    exact hA
  · unfold RP
    rw [b0, hc 6 (by decide), ue_k (by decide)]
    exact hP
  · intro i hi
    rw [e1] at hi
    unfold REe REp
    rw [b0, hc 0 (by decide), hc 2 (by decide)]
    by_cases hie : i = e
    · subst hie
      rw [b3e, b4e, u2_self, u1_self, Ro _ npa, ue_10, tn_nI (by omega)]
      refine ⟨rfl, k1, k2, k3, k4, fun p hp => ?_, k6, fun p hp => ?_⟩
      · rw [ue_i (by decide) (by decide) hp, ue_i (by decide) (by decide) hp, ue_i (by decide) (by decide) hp, ue_i (by decide) (by decide) hp, ue_i (by decide) (by decide) hp]
        obtain ⟨g1, g2, g3, g4, g5, g6, g7⟩ := k5 p hp
        exact ⟨g1, g2, g3, g4, g5, g6, g7⟩
      · rw [k7 p hp]
        constructor
        · rintro ⟨a1, a2⟩; exact ⟨a1, by rw [ue_i (by decide) (by decide) a1]; exact a2⟩
        · rintro ⟨a1, a2⟩; rw [ue_i (by decide) (by decide) a1] at a2; exact ⟨a1, a2⟩
    · obtain ⟨g1, g2, g3, g4, g5, g6, g7, g8⟩ := hE0 i (by omega)
      have h12 := h10 i (by omega)
      have n4e : b 4 i ≠ b 0 2 := fun z => by rw [z, x8] at g4; cases g4
      rw [b3 i hie, b4 i hie, u2_ni hie, u1_na (show 10 + i ≠ 10 + e by omega), u2_off _ _ (show 10 + i ≠ 4 by omega), u2_off _ _ (show 10 + i ≠ 3 by omega), Ro _ n4e, ue_10o hie]
      refine ⟨g1, g2, g3, g4, g5, fun p hp => ?_, g7, fun p hp => ?_⟩
      · rw [ue_o (by decide) (by omega), ue_o (by decide) (by omega), ue_o (by decide) (by omega), ue_o (by decide) (by omega), ue_o (by decide) (by omega)]
        exact g6 p hp
      · rw [ue_o (by decide) (by omega)]
        exact g8 p hp
  · intro w hw
    obtain ⟨g1, g2, g3, g4, g5, g6, g7, g8, g9, g10, g11⟩ := w1 w hw
    have := h22 w hw
    unfold RWn
    rw [b0, b5, ue_k (by decide), ue_k (by decide), ue_k (by decide), ue_k (by decide), ue_k (by decide), ue_k (by decide), ue_k (by decide), ue_k (by decide), hc 8 (by decide), b3 _ (by omega), Ro _ n3]
    exact ⟨g1, g2, g3, g4, g5, g6, g7, g8, g9, g10, g11⟩
  · rw [b5]
    exact w2
  · unfold RS RSs
    rw [b0, b1, b6, hc 5 (by decide), Ro _ n4, ue_k (by decide), ue_k (by decide), ue_k (by decide)]
    exact hS
  · unfold RQ
    rw [b0, b1]
    exact hQ
theorem c_X3_init {E : zE} {T : zT} {N : zN} {P : zP} {I : zI} {R : zR} (q tp : Nat) (c : Int32) (hq : (T q).1 = 13) : zC E yX3_init cX3_init 3 none (zr0 1 20) [.ref q, .ref tp, .int c] T N P I R (zv T (u3 (u3 N 3 2 q 0) 3 1 q c) (u3 P 3 0 q (some tp)) I R) := by
  refine zC.intro (ls := [some (.ref q), some (.ref tp), some (.int c)]) pl_RX3 (zle rfl) 0 rfl (fun K => ?_)
  refine v_aload_0 dX3_init_0 rfl ?_
  refine v_objInit lk_3_3 im_obj cd_obj (zle rfl) (zle rfl) dX3_init_1 rfl ?_
  refine v_aload_0 dX3_init_4 rfl ?_
  refine v_iconst (v := 0) dX3_init_5 rfl rfl ?_
  refine v_putN fw_3_9 (by assumption) rfl (zle rfl) rfl (fun h => by cases h) rfl rfl dX3_init_6 rfl ?_
  refine v_aload_0 dX3_init_9 rfl ?_
  refine v_aload_1 dX3_init_10 rfl ?_
  refine v_putP fw_3_15 (by assumption) rfl (zle rfl) rfl (fun _ => rfl) rfl rfl dX3_init_11 rfl ?_
  refine v_aload_0 dX3_init_14 rfl ?_
  refine v_iload_2 dX3_init_15 rfl ?_
  refine v_putN fw_3_19 (by assumption) rfl (zle rfl) rfl (fun _ => rfl) rfl rfl dX3_init_16 rfl ?_
  exact v_return rfl (zv.rf) (zle rfl) (zle rfl) dX3_init_19
theorem c_X10_story {E : zE} {T : zT} {N : zN} {P : zP} {I : zI} {R : zR} (x : Nat) (Mn : Nat → Prop) (b : Nat → Nat → Nat) (g : Nat) (f : zf) (r : zg)  (hC : CR T N P I R x Mn b g f r) (hI : WkI f r) (h0 : Nt (f 0) 9) (h17 : Nt (f 17) 201) (h16 : ∀ j, j < tn (f 17) → Nt (r 16 j) 256) (hMn : ∀ a, Mn a → ¬ (T a).1 = 0) : zC E yX10_story cX10_story 3 (some .int) (zrm 7 155 15 78) [.ref x] T N P I R (cQ x Mn g T N P I R (ac_story f r)) := by
  refine zC.intro (ls := [some (.ref x), none, none]) pl_RX10 (zle rfl) 2 rfl (fun K => ?_)
  obtain ⟨hX, hT, hA, hP, hE, hW, hS, hQ⟩ := id hC
  obtain ⟨x1, x2, x3, x4, x5, x6, x7, x8, x9, x10, x11, x12, x13, x14⟩ := id hX
  obtain ⟨t1, t2, t3, t4, t5, t6, t7, t8, t9, t10⟩ := id hT
  obtain ⟨a1, a2, a3⟩ := id hA
  refine v_new (ci := 3) rfl (zle rfl) cl_3 tyX3_ok dv_3 kl_10_118 it_3 ii_3 (zle rfl) (zle rfl) dX10_story_0 rfl (fun q0 hq0 => ?_)
  refine v_dup dX10_story_3 rfl rfl ?_
  have hx20 : (u1 T q0 (13, 0) x).1 = 20 := by rw [u1_na (fr_ne hq0 x1 (by decide))]; exact x1
  have ht17 : (u1 T q0 (13, 0) (b 0 0)).1 = 17 := by rw [u1_na (fr_ne hq0 t1 (by decide))]; exact t1
  refine v_aload_0 dX10_story_4 rfl ?_
  refine v_getP fl_10_19 x3 hx20 rfl (zle rfl) rfl dX10_story_5 rfl ?_
  refine v_aload_0 dX10_story_8 rfl ?_
  refine v_getP fl_10_10 x2 hx20 rfl (zle rfl) rfl dX10_story_9 rfl ?_
  refine v_getN fl_10_70 ht17 rfl (zle rfl) rfl dX10_story_12 rfl ?_
  refine v_top (show uo N 3 q0 0 7 3 (b 0 0) = f 0 from t6) ?_
  have hq13 : (u1 T q0 (13, 0) q0).1 = 13 := by rw [u1_self]
  refine v_callI (c_X3_init q0 (b 0 1) (f 0) hq13) yy_X3_init im_X3_init rfl lk_10_120 (zle rfl) (zle rfl) (zle rfl) (zle rfl) rfl rfl (zle rfl) dX10_story_15 rfl (zv.use ?_)
  refine v_abs (fun T1 N1 P1 I1 R1 => Gr T N P I R T1 N1 P1 I1 R1 ∧ I1 = I ∧ N1 11 = N 11 ∧ P1 11 = P 11 ∧ (T1 q0).1 = 13 ∧ P1 3 0 q0 = some (b 0 1) ∧ N1 3 1 q0 = f 0 ∧ N1 3 2 q0 = nI 0) ⟨?_, rfl, ?_, ?_, hq13, u3_self, u3_self, by simp [u3]; rfl⟩ (fun T1 N1 P1 I1 R1 hF => ?_)
  · intro a ha
    have hne : a ≠ q0 := fun e => ha (by rw [e]; exact hq0)
    exact ⟨u1_na hne, fun c k => by simp [u3, uo, hne], fun c k => by simp [u3, uo, hne], rfl, rfl⟩
  · funext k a; simp [u3, uo]
  · funext k a; simp [u3, uo]
  obtain ⟨f1, f2, f3, f4, f5, f6, f7, f8⟩ := hF
  have hC1 := hC.gr f1
  obtain ⟨p1, p2, p3, p4, p5⟩ := hC1.2.2.2.1
  have hR : tpR T1 N1 P1 I1 (b 0 1) (b 0 7) (tn (f 17)) (pB f r) := ⟨p1, p2, p3, p4.trans h17.1, by have := h17.2; omega, fun p => by
    unfold pB
    by_cases hp : p < (tn (f 17))
    · rw [zi_t hp, zi_t hp, p5 p hp]
    · rw [zi_f hp, zi_f hp]⟩
  have h0b := h0.2
  refine v_astore_1 dX10_story_18 rfl (zle rfl) rfl ?_
  refine v_aload_1 dX10_story_19 rfl ?_
  refine v_callV (ci := 3) (F := TX3) (c_X3_readEdition (N := N1) q0 (b 0 1) (b 0 7) (tn (f 17)) (pB f r) (tn (f 0)) f5 f6 (f7.trans h0.1) (by omega) hR (pB_t h16) (fun p hp => rpg_L hp) f8) yy_X3_readEdition im_X3_readEdition se_X3_readEdition lk_10_123 f5 (zle rfl) rfl (zle rfl) (zle rfl) (zle rfl) (zle rfl) rfl rfl (zle rfl) dX10_story_20 rfl (fun v1 T2 N2 P2 I2 R2 hq => ?_)
  obtain ⟨hG, hpl, hcase⟩ := hq
  have hGr : Gr T N P I R T2 N2 P2 I2 R2 := fun a ha => by
    obtain ⟨a1, a2, a3, a4, a5⟩ := f1 a ha
    obtain ⟨c1, c2, c3, c4⟩ := hG.2.1 a (by rw [a1]; exact ha)
    have hne : a ≠ q0 := fun e => ha (by rw [e]; exact hq0)
    exact ⟨c1.trans a1, fun c k => (c2 c k (Or.inr hne)).trans (a2 c k), fun c k => (c3 c k).trans (a3 c k), by rw [hG.1]; exact a4, c4.trans a5⟩
  have hFr : Cfr Mn T N P I T2 N2 P2 I2 := ⟨(hG.2.2.1 11 (by decide) (by decide) (by decide)).trans f3, (hG.2.2.2.1 11 (by decide) (by decide)).trans f4, fun a ha => ⟨by rw [hG.1, f2], (hGr a (hMn a ha)).1⟩⟩
  have hC2 := hC.gr hGr
  have hC3 := hC2.clr
  obtain ⟨y1, y2, y3, y4, y5, y6, y7, y8, y9, y10, y11, y12, y13, y14⟩ := hC2.1
  have yt : (T2 (b 0 1)).1 = 16 := hC2.2.2.2.1.1
  have hFr3 : Cfr Mn T N P I T2 (u3 N2 6 1 (b 0 1) 0) P2 I2 := hFr.n (by decide) _ _ _
  have yq : (T2 q0).1 = 13 := by rw [(hG.2.1 q0 (by rw [f5]; decide)).1]; exact f5
  rcases hcase with ⟨hz, rfl⟩ | ⟨hz, hz12, ea, pa, pp, rfl, hE⟩
  · refine v_astoreN_2 dX10_story_23 rfl (zle rfl) rfl ?_
    refine v_aload_0 dX10_story_24 rfl ?_
    refine v_getP fl_10_19 y3 y1 rfl (zle rfl) rfl dX10_story_25 rfl ?_
    refine v_iconst (v := 0) dX10_story_28 rfl rfl ?_
    refine v_putN fw_10_111 yt rfl (zle rfl) rfl (fun h => by cases h) rfl rfl dX10_story_29 rfl ?_
    refine v_aloadN_2 dX10_story_32 rfl ?_
    refine v_ifnonnullN dX10_story_33 rfl ?_
    refine v_aload_0 dX10_story_36 rfl ?_
    refine v_ldc dX10_story_37 kc_10_127 rfl ?_
    refine v_aload_1 dX10_story_39 rfl ?_
    refine v_getN fl_10_128 yq rfl (zle rfl) rfl dX10_story_40 rfl ?_
    refine v_isub dX10_story_43 rfl ?_
    refine v_callV (ci := 10) (F := TX10) (c_X10_finding _ _ (by assumption)) yy_X10_finding im_X10_finding se_X10_finding lk_10_66 y1 (zle rfl) rfl (zle rfl) (zle rfl) (zle rfl) (zle rfl) rfl rfl (zle rfl) dX10_story_44 rfl (zp.use ?_)
    exact v_ireturn rfl (cQ_tr hFr3 (cQ_fd hC3 ((zi_t hz).trans (by rw [show u3 N2 6 1 (b 0 1) 0 3 2 q0 = nI (stf f r).2 from hpl])))) (zle rfl) (zle rfl) dX10_story_47
  · refine v_astore_2 dX10_story_23 rfl (zle rfl) rfl ?_
    refine v_aload_0 dX10_story_24 rfl ?_
    refine v_getP fl_10_19 y3 y1 rfl (zle rfl) rfl dX10_story_25 rfl ?_
    refine v_iconst (v := 0) dX10_story_28 rfl rfl ?_
    refine v_putN fw_10_111 yt rfl (zle rfl) rfl (fun h => by cases h) rfl rfl dX10_story_29 rfl ?_
    refine v_aload_2 dX10_story_32 rfl ?_
    refine v_ifnonnull (n := 48) dX10_story_33 (by decide) ?_
    refine v_aload_0 dX10_story_48 rfl ?_
    refine v_getN fl_10_48 y1 rfl (zle rfl) rfl dX10_story_49 rfl ?_
    refine v_iconst (v := 4) dX10_story_52 rfl rfl ?_
    refine v_icmp_lt (tgt := 63) dX10_story_53 (by decide) rfl (fun c53 => ?_) (fun c53 => ?_)
    · refine v_aload_0 dX10_story_63 rfl ?_
      refine v_getP fl_10_25 y4 y1 rfl (zle rfl) rfl dX10_story_64 rfl ?_
      refine v_aload_0 dX10_story_67 rfl ?_
      refine v_getN fl_10_48 y1 rfl (zle rfl) rfl dX10_story_68 rfl ?_
      refine v_top (show u3 N2 6 1 (b 0 1) 0 10 6 x = nI (tn (f 9)) from y11.trans hI.2.1.1) ?_
      refine v_aload_2 dX10_story_71 rfl ?_
      refine v_aast (j := tn (f 9)) ti_0 (F := TX0) rfl (zle rfl) y8 rfl (Nt.lt (b := 4) hI.2.1 (zle rfl) (fun e => absurd c53 (by rw [show u3 N2 6 1 (b 0 1) 0 10 6 x = f 9 from y11, e]; decide))) (zle rfl) hE.1 dX10_story_72 rfl ?_
      refine v_aload_0 dX10_story_73 rfl ?_
      refine v_dup dX10_story_74 rfl rfl ?_
      refine v_getN fl_10_48 y1 rfl (zle rfl) rfl dX10_story_75 rfl ?_
      refine v_top (show u3 N2 6 1 (b 0 1) 0 10 6 x = nI (tn (f 9)) from y11.trans hI.2.1.1) ?_
      refine v_iconst (v := 1) dX10_story_78 rfl rfl ?_
      refine v_iadd dX10_story_79 rfl ?_
      refine v_top (nI_1 _) ?_
      refine v_putN fw_10_48 y1 rfl (zle rfl) rfl (fun h => by cases h) rfl rfl dX10_story_80 rfl ?_
      refine v_aload_0 dX10_story_83 rfl ?_
      refine v_getN fl_10_48 y1 rfl (zle rfl) rfl dX10_story_84 rfl ?_
      refine v_top u3_self ?_
      refine v_iconst (v := 1) dX10_story_87 rfl rfl ?_
      refine v_isub dX10_story_88 rfl ?_
      refine v_top (nI_pred _) ?_
      have h94 : ¬ f 9 = 4 := fun e => absurd c53 (by rw [show u3 N2 6 1 (b 0 1) 0 10 6 x = f 9 from y11, e]; decide)
      have he4 : tn (f 9) < 4 := Nt.lt (b := 4) hI.2.1 (zle rfl) h94
      have hq : cQ x Mn g T N P I R (ac_story f r) (some (.int (nI (tn (f 9))))) T2 (u3 (u3 N2 6 1 (b 0 1) 0) 10 6 x (nI (tn (f 9) + 1))) P2 I2 (u2 R2 (b 0 2) (tn (f 9)) (some ea)) := by
        refine cQ_go _ g ((zi_f hz).trans (zi_f h94)) hI.2.1.1.symm (hC3.adde hI.2.1.1 he4 hz12 hE (fun i hi => by have := (hI.2.2.1 i hi).1.2; omega) (fun w hw => (hI.2.2.2.2 w hw).2)) (hFr3.n (by decide) _ _ _)
      exact v_ireturn rfl (hq) (zle rfl) (zle rfl) dX10_story_89
    · refine v_aload_0 dX10_story_56 rfl ?_
      refine v_ldc dX10_story_57 kc_10_73 rfl ?_
      refine v_callV (ci := 10) (F := TX10) (c_X10_finding _ _ (by assumption)) yy_X10_finding im_X10_finding se_X10_finding lk_10_66 y1 (zle rfl) rfl (zle rfl) (zle rfl) (zle rfl) (zle rfl) rfl rfl (zle rfl) dX10_story_59 rfl (zp.use ?_)
      exact v_ireturn rfl (cQ_tr hFr3 (cQ_fd hC3 ((zi_f hz).trans (zi_t (by rw [← y11]; exact i_ge4 (by rw [y11]; exact hI.2.1) c53))))) (zle rfl) (zle rfl) dX10_story_62
