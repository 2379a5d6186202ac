theorem u2_id {α : Type} (f : Nat → Nat → α) (a i : Nat) : u2 f a i (f a i) = f := by
  funext b j
  unfold u2
  by_cases h : b = a ∧ j = i
  · rw [if_pos h, h.1, h.2]
  · rw [if_neg h]
theorem CR.si {T : zT} {N : zN} {P : zP} {I : zI} {R : zR} {x : Nat} {Mn : Nat → Prop} {b : Nat → Nat → Nat} {g : Nat} {f : zf} {r : zg} (h : CR T N P I R x Mn b g f r) {I' : zI} (hI : ∀ a, (T a).1 ≠ 0 → (∀ i, 2 ≤ i → i ≤ 6 → a ≠ b 1 i) → I' a = I a) : CR T N P I' R x Mn b g f r := by
  obtain ⟨a1, a2, a3⟩ := h.2.2.1
  obtain ⟨q1, q2, q3, q4, q5, q6, q7, q8, e0, q9, q10⟩ := h.2.2.2.2.2.2.2
  have h1 := h.sr (T' := T) (N' := N) (P' := P) (I' := I') (ra := b 1 3) (ta := b 1 4) (ea := e0) (g' := g) a1 (fun _ _ => rfl) (fun _ _ => rfl) (fun _ _ => rfl) rfl rfl q7 q8 q9 q10 hI (a2 3 (Or.inl (by decide))).1 (a2 4 (Or.inl (by decide))).1 (a2 3 (Or.inl (by decide))).2 (a2 4 (Or.inl (by decide))).2 (Or.inl ⟨rfl, rfl⟩)
  have e : u2 (u2 b 1 3 (b 1 3)) 1 4 (b 1 4) = b := by
    rw [u2_id b 1 3]
    exact u2_id b 1 4
  rw [e] at h1
  exact h1
/-- the search of an edition is ready -/
abbrev SxC (T : zT) (N : zN) (P : zP) (R : zR) (b : Nat → Nat → Nat) (g : Nat) (r : zg) (e d S0 : Nat) : Prop := SxE T N P R (b 0 5) (b 0 6) (b 1 5) (b 1 6) (b 1 3) (b 1 4) (2 ^ g) (b 3 e) (b 4 e) (b (10 + e)) r e d S0
theorem CR.sx {T : zT} {N : zN} {P : zP} {I : zI} {R : zR} {x : Nat} {Mn : Nat → Prop} {b : Nat → Nat → Nat} {g : Nat} {f : zf} {r : zg} (h : CR T N P I R x Mn b g f r) (hZ : SrI f r) {e d S0 : Nat} (he : e < tn (f 9)) (hd : d < 7) (h4 : P 4 4 (b 0 5) = some (b 3 e)) (h5 : N 4 5 (b 0 5) = nI d) (h6 : N 4 6 (b 0 5) = nI S0) (h7 : N 4 7 (b 0 5) = nI (2 ^ tn (r 10 e))) (hg : tn (r 10 e) ≤ g) : SxC T N P R b g r e d S0 := by
  obtain ⟨-, -, ⟨a1, a2, a3⟩, -, hE, -, -, ⟨q1, q2, q3, q4, q5, q6, q7, q8, -⟩⟩ := h
  have hp : 2 ^ tn (r 10 e) ≤ 2 ^ g := Nat.pow_le_pow_right (by decide) hg
  have hp2 : 2 ^ g ≤ 2 ^ 12 := Nat.pow_le_pow_right (by decide) a1
  have h9 := hZ.1.1.2.1.2
  have lv : ∀ i, i < 7 → lvr r i := fun i h => Or.inl h
  have ne : ∀ i j, i < 7 → j < 7 → i ≠ j → b 1 i ≠ b 1 j := fun i j hi hj hn e => hn (a3 i j (lv i hi) (lv j hj) e)
  refine ⟨⟨q1, q2, q3, q4, q5, (a2 5 (lv 5 (by decide))).1, (a2 6 (lv 6 (by decide))).1, q7, q8, (a2 3 (lv 3 (by decide))).1, (a2 4 (lv 4 (by decide))).1, h4, h5, h6, h7⟩, (hE e he).2, ⟨hp, hp2, hd, by omega⟩, ⟨ne 5 6 (by decide) (by decide) (by decide), ne 3 5 (by decide) (by decide) (by decide), ne 3 6 (by decide) (by decide) (by decide), ne 4 5 (by decide) (by decide) (by decide), ne 4 6 (by decide) (by decide) (by decide), ne 3 4 (by decide) (by decide) (by decide)⟩, (hZ.1.1.2.2.1 e he).1, fun p hp => ⟨(hZ.1.1.2.2.1 e he).2 p hp, (hZ.2.2.1 e he p hp).1⟩⟩
/-- what was found -/
def Fnd (I : zI) (b : Nat → Nat → Nat) (f : zf) (r : zg) (e d : Nat) (s : Prop) (S0 c0 : Nat) : Prop := ∃ (tm : Nat → Nat → Nat) (rm : Nat → Nat) (st : Nat → Nat → Nat) (nb : Nat → Nat), NtP (edg r (tn (f 0)) (tn (f 3)) d s) st nb ∧ NtR I (b 1 5) (b 1 6) st nb ∧ RcR I (b 1 3) (tn (r 10 e)) rm ∧ (∀ S c, S < 2 ^ tn (r 10 e) → ((rm S).testBit c = true ↔ Rch r e (tn (r 10 e)) (tn (f 0)) (tn (f 3)) d s S0 c0 S c)) ∧ TmOK r e (tn (r 10 e)) (tn (f 0)) (tn (f 3)) d s NEVn (Rch r e (tn (r 10 e)) (tn (f 0)) (tn (f 3)) d s S0 c0) tm ∧ ∀ S c, Rch r e (tn (r 10 e)) (tn (f 0)) (tn (f 3)) d s S0 c0 S c → I (b 1 4) (8 * S + c) = nI (tm S c)
def exQ (x : Nat) (Mn : Nat → Prop) (b : Nat → Nat → Nat) (g' : Nat) (f : zf) (r : zg) (e d : Nat) (s : Prop) (S0 c0 : Nat) (T : zT) (N : zN) (P : zP) (I : zI) (R : zR) : Option Value → zT → zN → zP → zI → zR → Prop := fun v T' N' P' I' R' => v = none ∧ R = R' ∧ ∃ b', (∀ k, k ≠ 1 → b' k = b k) ∧ CR T' N' P' I' R x Mn b' g' f r ∧ Cfr Mn T N P I T' N' P' I' ∧ SxC T' N' P' R b' g' r e d S0 ∧ Fnd I' b' f r e d s S0 c0
theorem c_X4_explore {E : zE} {T : zT} {N : zN} {P : zP} {I : zI} {R : zR} (x : Nat) (Mn : Nat → Prop) (b : Nat → Nat → Nat) (g : Nat) (f : zf) (r : zg) (e d : Nat) (s : Prop) (S0 c0 g' c9 s9 : Nat) (hC : CR T N P I R x Mn b g f r) (hZ : SrI f r) (he : e < tn (f 9)) (hc0 : c0 < tn (f 0)) (hS0 : S0 < 2 ^ (tn (r 10 e))) (hd : d < 7) (hMn : ∀ a, Mn a → ¬ (T a).1 = 0) (hg : GrO g (tn (r 10 e)) g' c9 s9) : zC E yX4_explore cX4_explore 8 none (zrm 4 97 c9 s9) [.ref (b 0 5), .ref (b 0 0), .ref (b 3 e), .int (nI c0), .int (nI S0), .int (nI d), .int (zb s)] T N P I R (exQ x Mn b g' f r e d s S0 c0 T N P I R) := by
  refine zC.intro (ls := [some (.ref (b 0 5)), some (.ref (b 0 0)), some (.ref (b 3 e)), some (.int (nI c0)), some (.int (nI S0)), some (.int (nI d)), some (.int (zb s)), none]) pl_RX4 (zle rfl) 1 rfl (fun K => ?_)
  obtain ⟨hX, hT, hA, hP, hE, hW, hS, hQ⟩ := id hC
  obtain ⟨t1, t2, t3, t4, t5, t6, t7, t8, t9, t10⟩ := id hT
  obtain ⟨q1, q2, q3, q4, q5, q6, q7, q8, e0, q9, q10⟩ := id hQ
  obtain ⟨a1, a2, a3⟩ := id hA
  obtain ⟨g1, g2, g3, g4, g5, g6⟩ := hE e he
  have h0 := hZ.1.2.1
  have h0b := h0.2
  have h3 := hZ.1.2.2.1
  have h3b := h3.2
  have h10 := (hZ.1.1.2.2.1 e he).1
  have h10b := h10.2
  have h12 : 2 ^ tn (r 10 e) ≤ 2 ^ 12 := Nat.pow_le_pow_right (by decide) (by omega)
  have lv : ∀ i, i < 7 → lvr r i := fun i h => Or.inl h
  have ne : ∀ i j, i < 7 → j < 7 → i ≠ j → b 1 i ≠ b 1 j := fun i j hi hj hn e => hn (a3 i j (lv i hi) (lv j hj) e)
  have hTw : TwR T N P R (b 0 0) (b 0 8) (tn (f 3)) (b 2) r := ⟨t1, t4, t5, t7.trans h3.1, by omega, t9⟩
  refine v_aload_0 dX4_explore_0 rfl ?_
  refine v_getP fl_4_12 q2 q1 rfl (zle rfl) rfl dX4_explore_1 rfl ?_
  refine v_aload_1 dX4_explore_4 rfl ?_
  refine v_iload_5 dX4_explore_5 rfl ?_
  refine v_iload_6 dX4_explore_7 rfl ?_
  refine v_callV (ci := 1) (F := TX1) (c_X1_lay (b 0 6) (b 1 5) (b 1 6) (b 0 0) (b 0 8) (tn (f 3)) (tn (f 0)) d (b 2) r s q3 q4 q5 (a2 5 (lv 5 (by decide))).1 (a2 6 (lv 6 (by decide))).1 (ne 5 6 (by decide) (by decide) (by decide)) hTw hd (by omega) hZ.2.1) yy_X1_lay im_X1_lay se_X1_lay lk_4_45 q3 (zle rfl) rfl (zle rfl) (zle rfl) (by show 0 + 0 ≤ c9; omega) (by show 0 + 0 ≤ s9; omega) rfl rfl (zle rfl) dX4_explore_9 rfl (fun y T2 N2 P2 I2 R2 hq => ?_)
  obtain ⟨rfl, rfl, rfl, rfl, rfl, hI2, st, nb, hNP, hNR⟩ := hq
  refine v_aload_0 dX4_explore_12 rfl ?_
  refine v_aload_2 dX4_explore_13 rfl ?_
  refine v_putP fw_4_31 q1 rfl (zle rfl) rfl (fun h => by cases h) rfl rfl dX4_explore_14 rfl ?_
  refine v_aload_0 dX4_explore_17 rfl ?_
  refine v_iload_5 dX4_explore_18 rfl ?_
  refine v_putN fw_4_35 q1 rfl (zle rfl) rfl (fun h => by cases h) rfl rfl dX4_explore_20 rfl ?_
  refine v_aload_0 dX4_explore_23 rfl ?_
  refine v_iload_4 dX4_explore_24 rfl ?_
  refine v_putN fw_4_39 q1 rfl (zle rfl) rfl (fun h => by cases h) rfl rfl dX4_explore_26 rfl ?_
  refine v_aload_0 dX4_explore_29 rfl ?_
  refine v_iconst (v := 1) dX4_explore_30 rfl rfl ?_
  refine v_aload_2 dX4_explore_31 rfl ?_
  refine v_getN fl_4_60 g2 rfl (zle rfl) rfl dX4_explore_32 rfl ?_
  refine v_top (show u3 (u3 N 4 5 (b 0 5) (nI d)) 4 6 (b 0 5) (nI S0) 0 1 (b 3 e) = nI (tn (r 10 e)) from g5.trans h10.1) ?_
  refine v_ishl dX4_explore_35 rfl ?_
  refine v_top (nI_sh13 _ (by omega)) ?_
  refine v_putN fw_4_42 q1 rfl (zle rfl) rfl (fun h => by cases h) rfl rfl dX4_explore_36 rfl ?_
  refine v_aload_0 dX4_explore_39 rfl ?_
  rcases hg with ⟨hgn, rfl, rfl, rfl⟩ | ⟨hgn, rfl, rfl, rfl⟩
  · have hle : 2 ^ tn (r 10 e) ≤ 2 ^ g' := Nat.pow_le_pow_right (by decide) hgn
    have hle2 : 2 ^ g' ≤ 4096 := (Nat.pow_le_pow_right (by decide) a1 : 2 ^ g' ≤ 2 ^ 12)
    refine v_callV (ci := 4) (F := TX4) (c_X4_clearReached (N := (u3 (u3 (u3 N 4 5 (b 0 5) (nI d)) 4 6 (b 0 5) (nI S0)) 4 7 (b 0 5) (nI (2 ^ tn (r 10 e))))) (P := (u3 P 4 4 (b 0 5) (some (b 3 e)))) (I := I2) (b 0 5) (b 1 3) (2 ^ g') (2 ^ tn (r 10 e)) q1 (by simp [u3]; exact q7) (a2 3 (lv 3 (by decide))).1 u3_self hle hle2) yy_X4_clearReached im_X4_clearReached se_X4_clearReached lk_4_63 q1 (zle rfl) rfl (zle rfl) (zle rfl) (Nat.le_refl _) (Nat.le_refl _) rfl rfl (zle rfl) dX4_explore_40 rfl (zv.use ?_)
    refine v_abs (fun T1 N1 P1 I1 R1 => R = R1 ∧ ∃ b', (∀ k, k ≠ 1 → b' k = b k) ∧ CR T1 N1 P1 I1 R x Mn b' g' f r ∧ Cfr Mn T N P I T1 N1 P1 I1 ∧ SxC T1 N1 P1 R b' g' r e d S0 ∧ NtR I1 (b' 1 5) (b' 1 6) st nb ∧ ∀ S, S < 2 ^ (tn (r 10 e)) → I1 (b' 1 3) S = 0) ⟨rfl, b, fun _ _ => rfl, ?_⟩ (fun T1 N1 P1 I1 R1 hF => ?_)
    · have hC1 : CR T (u3 (u3 (u3 N 4 5 (b 0 5) (nI d)) 4 6 (b 0 5) (nI S0)) 4 7 (b 0 5) (nI (2 ^ tn (r 10 e)))) (u3 P 4 4 (b 0 5) (some (b 3 e))) (ur I2 (b 1 3) 0 (2 ^ tn (r 10 e)) (fun _ => 0)) R x Mn b g' f r := by
        have h1 := hC.sr (T' := T) (N' := (u3 (u3 (u3 N 4 5 (b 0 5) (nI d)) 4 6 (b 0 5) (nI S0)) 4 7 (b 0 5) (nI (2 ^ tn (r 10 e))))) (P' := (u3 P 4 4 (b 0 5) (some (b 3 e)))) (I' := ur I2 (b 1 3) 0 (2 ^ tn (r 10 e)) (fun _ => 0)) (ra := b 1 3) (ta := b 1 4) (ea := b 3 e) (g' := g') a1 (fun _ _ => rfl) (fun c hc => by funext k a; simp [u3, hc]) (fun c hc => by funext k a; simp [u3, hc]) (by simp [u3]) (by simp [u3]) (by simp [u3]; exact q7) (by simp [u3]; exact q8) u3_self g2 (fun a ha hn => by rw [ur_na (hn 3 (by decide) (by decide)), hI2 a (hn 5 (by decide) (by decide)) (hn 6 (by decide) (by decide))]) (a2 3 (lv 3 (by decide))).1 (a2 4 (lv 4 (by decide))).1 (a2 3 (lv 3 (by decide))).2 (a2 4 (lv 4 (by decide))).2 (Or.inl ⟨rfl, rfl⟩)
        rw [show u2 (u2 b 1 3 (b 1 3)) 1 4 (b 1 4) = b by rw [u2_id b 1 3]; exact u2_id b 1 4] at h1
        exact h1
      refine ⟨hC1, ?_, hC1.sx (d := d) (S0 := S0) hZ he hd u3_self (by simp [u3]) (by simp [u3]) u3_self hgn, fun a ha => ⟨by rw [ur_na (ne 6 3 (by decide) (by decide) (by decide))]; exact (hNR a ha).1, fun c hc => by rw [ur_na (ne 5 3 (by decide) (by decide) (by decide))]; exact (hNR a ha).2 c hc⟩, fun S hS => ur_i hS⟩
      refine ⟨by funext k a; simp [u3], by funext k a; simp [u3], fun a ha => ⟨?_, rfl⟩⟩
      rw [ur_na (fun e => (a2 3 (lv 3 (by decide))).2 (by rw [← e]; exact ha)), hI2 a (fun e => (a2 5 (lv 5 (by decide))).2 (by rw [← e]; exact ha)) (fun e => (a2 6 (lv 6 (by decide))).2 (by rw [← e]; exact ha))]
    obtain ⟨rfl, b', hb', hC1, hFr, hX1, hN1, hZ1⟩ := hF
    obtain ⟨⟨x1, x2, x3, x4, x5, x6, x7, x8, x9, x10, x11, x12, x13, x14, x15⟩, xE, ⟨y1, y2, y3, y4⟩, ⟨z1, z2, z3, z4, z5, z6⟩, xN, xK⟩ := id hX1
    have eb0 : b' 0 = b 0 := hb' 0 (by decide)
    have eb3 : b' 3 = b 3 := hb' 3 (by decide)
    have eb05 : b' 0 5 = b 0 5 := by rw [eb0]
    have eb3e : b' 3 e = b 3 e := by rw [eb3]
    rw [← eb05, ← eb3e]
    refine v_aload_0 dX4_explore_43 rfl ?_
    refine v_getP fl_4_22 x8 x1 rfl (zle rfl) rfl dX4_explore_44 rfl ?_
    refine v_iload_4 dX4_explore_47 rfl ?_
    refine v_iconst (v := 1) dX4_explore_49 rfl rfl ?_
    refine v_iload_3 dX4_explore_50 rfl ?_
    refine v_ishl dX4_explore_51 rfl ?_
    refine v_top (nI_sh c0 (by omega)) ?_
    refine v_iast (j := S0) x10 rfl (by omega) (by omega) dX4_explore_52 rfl ?_
    refine v_aload_0 dX4_explore_53 rfl ?_
    refine v_getN fl_4_39 x1 rfl (zle rfl) rfl dX4_explore_54 rfl ?_
    refine v_top x14 ?_
    refine v_istore_7 dX4_explore_57 rfl (zle rfl) rfl ?_
    have hrc : RcR (u2 I1 (b' 1 3) S0 (nI (2 ^ c0))) (b' 1 3) (tn (r 10 e)) (u1 (fun _ => 0) S0 (2 ^ c0)) := fun q hq => by
      by_cases e : q = S0
      · subst e; rw [u2_self, u1_self]; exact ⟨rfl, p256 (by omega)⟩
      · rw [u2_ni e, u1_na e]; exact ⟨by rw [hZ1 q hq]; rfl, by decide⟩
    have hN2 : NtR (u2 I1 (b' 1 3) S0 (nI (2 ^ c0))) (b' 1 5) (b' 1 6) st nb := fun a ha => ⟨by rw [u2_off _ _ (fun e => z3 e.symm)]; exact (hN1 a ha).1, fun c hc => by rw [u2_off _ _ (fun e => z2 e.symm)]; exact (hN1 a ha).2 c hc⟩
    refine rl_X4_explore (I := u2 I1 (b' 1 3) S0 (nI (2 ^ c0))) hX1 (show tn (f 0) ≤ 8 by omega) hNP hN2 hS0 hc0 (Nat.le_refl _) (Nat.le_refl _) (2 ^ (tn (r 10 e)) - S0) S0 _ _ (by omega) (Nat.le_refl _) (fun _ _ => rfl) hrc (fun S c hS hb => ?_) (by rw [u1_self, Nat.testBit_two_pow_self]) (fun S c h1 h2 => absurd h2 (by omega)) (fun I3 rm q hF3 hR3 hB3 => ?_)
    · by_cases e : S = S0
      · subst e
        rw [u1_self, Nat.testBit_two_pow, decide_eq_true_eq] at hb
        rw [← hb]; exact Rch.rf
      · rw [u1_na e] at hb
        exact absurd hb (by rw [Nat.zero_testBit]; decide)
    refine v_aload_0 dX4_explore_80 rfl ?_
    refine v_getN fl_4_42 x1 rfl (zle rfl) rfl dX4_explore_81 rfl ?_
    refine v_top x15 ?_
    refine v_iconst (v := 1) dX4_explore_84 rfl rfl ?_
    refine v_isub dX4_explore_85 rfl ?_
    refine v_istore_7 dX4_explore_86 rfl (zle rfl) rfl ?_
    have hN3 : NtR I3 (b' 1 5) (b' 1 6) st nb := fun a ha => ⟨by rw [hF3 _ (fun e => z3 e.symm)]; exact (hN2 a ha).1, fun c hc => by rw [hF3 _ (fun e => z2 e.symm)]; exact (hN2 a ha).2 c hc⟩
    refine tl_X4_explore (I := I3) hX1 (show tn (f 0) ≤ 8 by omega) hNP hN3 hS0 hc0 (Nat.le_refl _) (Nat.le_refl _) hR3 hB3 (fun I5 tm hF5 hok hrow => ?_) (2 ^ (tn (r 10 e)) - S0) (2 ^ (tn (r 10 e))) I3 (fun _ _ => 0) (by omega) (Nat.le_refl _) (fun _ _ => rfl) ⟨fun S a b => absurd b (by omega), fun S c a b => absurd b (by omega)⟩
    have hI5 : ∀ a, a ≠ b' 1 3 → a ≠ b' 1 4 → I5 a = I1 a := fun a h1 h2 => by rw [hF5 a h2, hF3 a h1, u2_off _ _ h1]
    refine ⟨rfl, rfl, b', hb', hC1.si (fun a _ hn => hI5 a (hn 3 (by decide) (by decide)) (hn 4 (by decide) (by decide))), ⟨hFr.1, hFr.2.1, fun a ha => ⟨?_, (hFr.2.2 a ha).2⟩⟩, hX1, tm, rm, st, nb, hNP, fun a ha => ⟨by rw [hF5 _ (fun e => z5 e.symm)]; exact (hN3 a ha).1, fun c hc => by rw [hF5 _ (fun e => z4 e.symm)]; exact (hN3 a ha).2 c hc⟩, fun S hS => by rw [hF5 _ z6]; exact hR3 S hS, hB3, hok, hrow⟩
    rw [hI5 a (fun e => (hC1.2.2.1.2.1 3 (lv 3 (by decide))).2 (by rw [← e]; exact ha)) (fun e => (hC1.2.2.1.2.1 4 (lv 4 (by decide))).2 (by rw [← e]; exact ha))]
    exact (hFr.2.2 a ha).1
  · have hgt : 2 ^ g < 2 ^ tn (r 10 e) := Nat.pow_lt_pow_right (by decide) hgn
    refine v_callV (ci := 4) (F := TX4) (c_X4_clearReached_g (N := (u3 (u3 (u3 N 4 5 (b 0 5) (nI d)) 4 6 (b 0 5) (nI S0)) 4 7 (b 0 5) (nI (2 ^ tn (r 10 e))))) (P := (u3 P 4 4 (b 0 5) (some (b 3 e)))) (I := I2) (b 0 5) (b 1 3) (2 ^ g) (2 ^ tn (r 10 e)) q1 (by simp [u3]; exact q7) (a2 3 (lv 3 (by decide))).1 u3_self hgt (by omega)) yy_X4_clearReached im_X4_clearReached se_X4_clearReached lk_4_63 q1 (zle rfl) rfl (zle rfl) (zle rfl) (by show 0 + 0 + 2 ≤ 2; decide) (by show 0 + 0 + 9 * 2 ^ tn (r 10 e) ≤ 9 * 2 ^ tn (r 10 e); omega) rfl rfl (zle rfl) dX4_explore_40 rfl (fun y2 T9 N9 P9 I9 R9 hq9 => ?_)
    obtain ⟨rfl, rfl, rfl, ra, ta, hra, hta, hrt, rfl, rfl, rfl⟩ := hq9
    refine v_abs (fun T1 N1 P1 I1 R1 => R = R1 ∧ ∃ b', (∀ k, k ≠ 1 → b' k = b k) ∧ CR T1 N1 P1 I1 R x Mn b' (tn (r 10 e)) f r ∧ Cfr Mn T N P I T1 N1 P1 I1 ∧ SxC T1 N1 P1 R b' (tn (r 10 e)) r e d S0 ∧ NtR I1 (b' 1 5) (b' 1 6) st nb ∧ ∀ S, S < 2 ^ (tn (r 10 e)) → I1 (b' 1 3) S = 0) ⟨rfl, u2 (u2 b 1 3 ra) 1 4 ta, fun k hk => by rw [u2_off _ _ hk, u2_off _ _ hk], ?_⟩ (fun T1 N1 P1 I1 R1 hF => ?_)
    · have hT3 : ∀ a, (T a).1 ≠ 0 → (u1 (u1 T ra (1, 2 ^ tn (r 10 e))) ta (1, 2 ^ tn (r 10 e) * 8)) a = T a := fun a ha => by rw [u1_na (fun e => ha (by rw [e]; exact hta)), u1_na (fun e => ha (by rw [e]; exact hra))]
      have hI4 : ∀ a, (T a).1 ≠ 0 → (ur (u1 (u1 I2 ra (fun _ => 0)) ta (fun _ => 0)) ra 0 (2 ^ tn (r 10 e)) (fun _ => 0)) a = I2 a := fun a ha => by rw [ur_na (fun e => ha (by rw [e]; exact hra)), u1_na (fun e => ha (by rw [e]; exact hta)), u1_na (fun e => ha (by rw [e]; exact hra))]
      have hC1 : CR (u1 (u1 T ra (1, 2 ^ tn (r 10 e))) ta (1, 2 ^ tn (r 10 e) * 8)) (u3 (u3 (u3 N 4 5 (b 0 5) (nI d)) 4 6 (b 0 5) (nI S0)) 4 7 (b 0 5) (nI (2 ^ tn (r 10 e)))) (u3 (u3 (u3 P 4 4 (b 0 5) (some (b 3 e))) 4 2 (b 0 5) (some ra)) 4 3 (b 0 5) (some ta)) (ur (u1 (u1 I2 ra (fun _ => 0)) ta (fun _ => 0)) ra 0 (2 ^ tn (r 10 e)) (fun _ => 0)) R x Mn (u2 (u2 b 1 3 ra) 1 4 ta) (tn (r 10 e)) f r := hC.sr (ea := b 3 e) (by omega) hT3 (fun c hc => by funext k a; simp [u3, hc]) (fun c hc => by funext k a; simp [u3, hc]) (by simp [u3]) (by simp [u3]) (by simp [u3]) u3_self (by simp [u3]) g2 (fun a ha hn => by rw [hI4 a ha, hI2 a (hn 5 (by decide) (by decide)) (hn 6 (by decide) (by decide))]) (by rw [u1_na hrt, u1_self]) u1_self (fun h => hMn _ h hra) (fun h => hMn _ h hta) (Or.inr ⟨hra, hta, hrt⟩)
      have b13 : u2 (u2 b 1 3 ra) 1 4 ta 1 3 = ra := by rw [u2_ni (by decide), u2_self]
      refine ⟨hC1, ?_, hC1.sx (d := d) (S0 := S0) hZ he hd (by simp [u3, u2]) (by simp [u3, u2]) (by simp [u3, u2]) (by simp [u3, u2]) (Nat.le_refl _), fun a ha => ⟨?_, fun c hc => ?_⟩, fun S hS => by rw [b13]; exact ur_i hS⟩
      · refine ⟨by funext k a; simp [u3], by funext k a; simp [u3], fun a ha => ⟨?_, hT3 a (hMn a ha)⟩⟩
        rw [hI4 a (hMn a ha), hI2 a (fun e => (a2 5 (lv 5 (by decide))).2 (by rw [← e]; exact ha)) (fun e => (a2 6 (lv 6 (by decide))).2 (by rw [← e]; exact ha))]
      · rw [show u2 (u2 b 1 3 ra) 1 4 ta 1 6 = b 1 6 by rw [u2_ni (by decide), u2_ni (by decide)], hI4 _ (by rw [(a2 6 (lv 6 (by decide))).1]; exact Nat.one_ne_zero)]; exact (hNR a ha).1
      · rw [show u2 (u2 b 1 3 ra) 1 4 ta 1 5 = b 1 5 by rw [u2_ni (by decide), u2_ni (by decide)], hI4 _ (by rw [(a2 5 (lv 5 (by decide))).1]; exact Nat.one_ne_zero)]; exact (hNR a ha).2 c hc
    obtain ⟨rfl, b', hb', hC1, hFr, hX1, hN1, hZ1⟩ := hF
    obtain ⟨⟨x1, x2, x3, x4, x5, x6, x7, x8, x9, x10, x11, x12, x13, x14, x15⟩, xE, ⟨y1, y2, y3, y4⟩, ⟨z1, z2, z3, z4, z5, z6⟩, xN, xK⟩ := id hX1
    have eb0 : b' 0 = b 0 := hb' 0 (by decide)
    have eb3 : b' 3 = b 3 := hb' 3 (by decide)
    have eb05 : b' 0 5 = b 0 5 := by rw [eb0]
    have eb3e : b' 3 e = b 3 e := by rw [eb3]
    rw [← eb05, ← eb3e]
    refine v_aload_0 dX4_explore_43 rfl ?_
    refine v_getP fl_4_22 x8 x1 rfl (zle rfl) rfl dX4_explore_44 rfl ?_
    refine v_iload_4 dX4_explore_47 rfl ?_
    refine v_iconst (v := 1) dX4_explore_49 rfl rfl ?_
    refine v_iload_3 dX4_explore_50 rfl ?_
    refine v_ishl dX4_explore_51 rfl ?_
    refine v_top (nI_sh c0 (by omega)) ?_
    refine v_iast (j := S0) x10 rfl (by omega) (by omega) dX4_explore_52 rfl ?_
    refine v_aload_0 dX4_explore_53 rfl ?_
    refine v_getN fl_4_39 x1 rfl (zle rfl) rfl dX4_explore_54 rfl ?_
    refine v_top x14 ?_
    refine v_istore_7 dX4_explore_57 rfl (zle rfl) rfl ?_
    have hrc : RcR (u2 I1 (b' 1 3) S0 (nI (2 ^ c0))) (b' 1 3) (tn (r 10 e)) (u1 (fun _ => 0) S0 (2 ^ c0)) := fun q hq => by
      by_cases e : q = S0
      · subst e; rw [u2_self, u1_self]; exact ⟨rfl, p256 (by omega)⟩
      · rw [u2_ni e, u1_na e]; exact ⟨by rw [hZ1 q hq]; rfl, by decide⟩
    have hN2 : NtR (u2 I1 (b' 1 3) S0 (nI (2 ^ c0))) (b' 1 5) (b' 1 6) st nb := fun a ha => ⟨by rw [u2_off _ _ (fun e => z3 e.symm)]; exact (hN1 a ha).1, fun c hc => by rw [u2_off _ _ (fun e => z2 e.symm)]; exact (hN1 a ha).2 c hc⟩
    refine rl_X4_explore (I := u2 I1 (b' 1 3) S0 (nI (2 ^ c0))) hX1 (show tn (f 0) ≤ 8 by omega) hNP hN2 hS0 hc0 (show 0 + 0 + 2 ≤ 2 by decide) (show 0 + 0 + 9 * 2 ^ tn (r 10 e) ≤ 9 * 2 ^ tn (r 10 e) by omega) (2 ^ (tn (r 10 e)) - S0) S0 _ _ (by omega) (Nat.le_refl _) (fun _ _ => rfl) hrc (fun S c hS hb => ?_) (by rw [u1_self, Nat.testBit_two_pow_self]) (fun S c h1 h2 => absurd h2 (by omega)) (fun I3 rm q hF3 hR3 hB3 => ?_)
    · by_cases e : S = S0
      · subst e
        rw [u1_self, Nat.testBit_two_pow, decide_eq_true_eq] at hb
        rw [← hb]; exact Rch.rf
      · rw [u1_na e] at hb
        exact absurd hb (by rw [Nat.zero_testBit]; decide)
    refine v_aload_0 dX4_explore_80 rfl ?_
    refine v_getN fl_4_42 x1 rfl (zle rfl) rfl dX4_explore_81 rfl ?_
    refine v_top x15 ?_
    refine v_iconst (v := 1) dX4_explore_84 rfl rfl ?_
    refine v_isub dX4_explore_85 rfl ?_
    refine v_istore_7 dX4_explore_86 rfl (zle rfl) rfl ?_
    have hN3 : NtR I3 (b' 1 5) (b' 1 6) st nb := fun a ha => ⟨by rw [hF3 _ (fun e => z3 e.symm)]; exact (hN2 a ha).1, fun c hc => by rw [hF3 _ (fun e => z2 e.symm)]; exact (hN2 a ha).2 c hc⟩
    refine tl_X4_explore (I := I3) hX1 (show tn (f 0) ≤ 8 by omega) hNP hN3 hS0 hc0 (show 0 + 0 + 2 ≤ 2 by decide) (show 0 + 0 + 9 * 2 ^ tn (r 10 e) ≤ 9 * 2 ^ tn (r 10 e) by omega) hR3 hB3 (fun I5 tm hF5 hok hrow => ?_) (2 ^ (tn (r 10 e)) - S0) (2 ^ (tn (r 10 e))) I3 (fun _ _ => 0) (by omega) (Nat.le_refl _) (fun _ _ => rfl) ⟨fun S a b => absurd b (by omega), fun S c a b => absurd b (by omega)⟩
    have hI5 : ∀ a, a ≠ b' 1 3 → a ≠ b' 1 4 → I5 a = I1 a := fun a h1 h2 => by rw [hF5 a h2, hF3 a h1, u2_off _ _ h1]
    refine ⟨rfl, rfl, b', hb', hC1.si (fun a _ hn => hI5 a (hn 3 (by decide) (by decide)) (hn 4 (by decide) (by decide))), ⟨hFr.1, hFr.2.1, fun a ha => ⟨?_, (hFr.2.2 a ha).2⟩⟩, hX1, tm, rm, st, nb, hNP, fun a ha => ⟨by rw [hF5 _ (fun e => z5 e.symm)]; exact (hN3 a ha).1, fun c hc => by rw [hF5 _ (fun e => z4 e.symm)]; exact (hN3 a ha).2 c hc⟩, fun S hS => by rw [hF5 _ z6]; exact hR3 S hS, hB3, hok, hrow⟩
    rw [hI5 a (fun e => (hC1.2.2.1.2.1 3 (lv 3 (by decide))).2 (by rw [← e]; exact ha)) (fun e => (hC1.2.2.1.2.1 4 (lv 4 (by decide))).2 (by rw [← e]; exact ha))]
    exact (hFr.2.2 a ha).1
