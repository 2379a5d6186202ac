theorem il_X4_reachFrom {E : zE} {T : zT} {N : zN} {P : zP} {I : zI} {R : zR} {sx nt sa na ra ta ln ea pa : Nat} {pp : Nat → Nat} {r : zg} {e d S0 : Nat} {nc nw S c0 : Nat} {s : Prop} {st : Nat → Nat → Nat} {nb : Nat → Nat} {Qf : State → Prop} {rmA rm0 : Nat → Nat} {D0 : Nat} {j3 : Int32} {K : zK E yX4_reachFrom cX4_reachFrom 5 none (zr0 3 71)} (hX : SxE T N P R sx nt sa na ra ta ln ea pa pp r e d S0) (hS : S < 2 ^ (tn (r 10 e))) (hnc : nc ≤ 8) (hP : NtP (edg r nc nw d s) st nb) (hN : NtR I sa na st nb) (ho : ¬ ovr r e (nI S) (tn (r 10 e))) : ∀ k c (I1 : zI) (rm : Nat → Nat) (D : Nat), c + k = 8 → RcR I1 ra (tn (r 10 e)) rm → RcS r e (tn (r 10 e)) nc nw d s S0 c0 rm → RcG rmA rm S → D < 256 → (∀ i, D.testBit i = true → (rm S).testBit i = true ∧ RcC r e (tn (r 10 e)) nc nw d s rm S i) → (∀ a, a ≠ ra → I1 a = I a) → RcG rm0 rm S → (∀ i, D0.testBit i = true → D.testBit i = true) → (∀ i, i < c → (rm0 S).testBit i = true → D.testBit i = true) → (∀ (I1 : zI) (rm : Nat → Nat) (D c : Nat), RcR I1 ra (tn (r 10 e)) rm → RcS r e (tn (r 10 e)) nc nw d s S0 c0 rm → RcG rmA rm S → D < 256 → (∀ i, D.testBit i = true → (rm S).testBit i = true ∧ RcC r e (tn (r 10 e)) nc nw d s rm S i) → (∀ a, a ≠ ra → I1 a = I a) → RcG rm0 rm S → (∀ i, D0.testBit i = true → D.testBit i = true) → (∀ i, i < 8 → (rm0 S).testBit i = true → D.testBit i = true) → V K Qf T N P I1 R 0 0 80 [some (.ref sx), some (.int (nI S)), some (.int (nI D)), some (.int j3), some (.int (nI c))] []) → V K Qf T N P I1 R 0 0 35 [some (.ref sx), some (.int (nI S)), some (.int (nI D)), some (.int j3), some (.int (nI c))] [] := by
  obtain ⟨⟨x1, x2, x3, x4, x5, x6, x7, x8, x9, x10, x11, x12, x13, x14, x15⟩, xE, ⟨y1, y2, y3, y4⟩, ⟨z1, z2, z3, z4, z5, z6⟩, xN, xK⟩ := id hX
  have xNb := xN.2
  have h12 : 2 ^ tn (r 10 e) ≤ 2 ^ 12 := Nat.pow_le_pow_right (by decide) (by omega)
  intro k
  induction k with
  | zero =>
    intro c I1 rm D hk h1 h2 h3 h4 h5 h6 i1 i2 i3 kk
    obtain rfl : c = 8 := by omega
    refine v_iload_4 dX4_reachFrom_35 rfl ?_
    refine v_bipush (v := 8) dX4_reachFrom_37 rfl rfl ?_
    refine v_icmp_ge_t (n := 80) (by decide) dX4_reachFrom_39 (by decide) ?_
    exact kk I1 rm D 8 h1 h2 h3 h4 h5 h6 i1 i2 i3
  | succ k ih =>
    intro c I1 rm D hk h1 h2 h3 h4 h5 h6 i1 i2 i3 kk
    obtain ⟨r1, r2⟩ := h1 S hS
    refine v_iload_4 dX4_reachFrom_35 rfl ?_
    refine v_bipush (v := 8) dX4_reachFrom_37 rfl rfl ?_
    refine v_icmp_ge_f (tgt := 80) (nI_ge (a := c) (b := 8) (by omega) (by decide)) dX4_reachFrom_39 (by decide) rfl ?_
    refine v_aload_0 dX4_reachFrom_42 rfl ?_
    refine v_getP fl_4_22 x8 x1 rfl (zle rfl) rfl dX4_reachFrom_43 rfl ?_
    refine v_iload_1 dX4_reachFrom_46 rfl ?_
    refine v_iald (j := S) x10 rfl (by omega) (by omega) dX4_reachFrom_47 rfl ?_
    refine v_top r1 ?_
    refine v_iload_2 dX4_reachFrom_48 rfl ?_
    refine v_iconst (v := -1) dX4_reachFrom_49 rfl rfl ?_
    refine v_ixor dX4_reachFrom_50 rfl ?_
    refine v_iand dX4_reachFrom_51 rfl ?_
    refine v_iload_4 dX4_reachFrom_52 rfl ?_
    refine v_callS (c_X10_has _ c (by omega)) yy_X10_has st_X10_has lk_4_77 (zle rfl) (zle rfl) (zle rfl) (zle rfl) rfl rfl (zle rfl) dX4_reachFrom_54 rfl (zp.use ?_)
    refine v_top (zb_iff (q := (rm S).testBit c = true ∧ ¬ D.testBit c = true) ?_) ?_
    · rw [b_and, b_xor, b_m1 c (by omega), bt_nI (by omega), bt_nI (by omega), Bool.and_eq_true]
      cases D.testBit c <;> simp
    refine v_ifz_eq (tgt := 74) dX4_reachFrom_57 (by decide) rfl (fun c57 => ?_) (fun c57 => ?_)
    · refine v_iinc_4 dX4_reachFrom_74 (nI_1 c) rfl (zle rfl) rfl ?_
      refine v_goto (n := 35) dX4_reachFrom_77 (by decide) ?_
      exact ih (c + 1) I1 rm D (by omega) h1 h2 h3 h4 h5 h6 i1 i2 (fun i hi hb => by
        rcases (show i < c ∨ i = c by omega) with q | q
        · exact i3 i q hb
        · subst q
          exact Classical.byContradiction fun h => c57 ⟨i1.1 _ _ hb, h⟩) kk
    · have hlk := look hP (by omega) hS hnc (show c < 8 by omega) h2 c57.1 ho
      have hsh : nI D ||| (1 : Int32) <<< (nI c &&& 31) = nI (D ||| 2 ^ c) := by rw [nI_sh c (by omega), nI_or (by omega) (Nat.lt_trans (p256 (show c < 8 by omega)) (by decide))]
      have hD2 : D ||| 2 ^ c < 256 := or256 h4 (p256 (by omega))
      refine v_iload_2 dX4_reachFrom_60 rfl ?_
      refine v_iconst (v := 1) dX4_reachFrom_61 rfl rfl ?_
      refine v_iload_4 dX4_reachFrom_62 rfl ?_
      refine v_ishl dX4_reachFrom_64 rfl ?_
      refine v_ior dX4_reachFrom_65 rfl ?_
      refine v_top hsh ?_
      refine v_istore_2 dX4_reachFrom_66 rfl (zle rfl) rfl ?_
      refine v_aload_0 dX4_reachFrom_67 rfl ?_
      rcases nx_or r e (tn (r 10 e)) d S c with ⟨p, hp⟩ | hp
      · refine v_iload_1 dX4_reachFrom_68 rfl ?_
        refine v_iload_4 dX4_reachFrom_69 rfl ?_
        refine v_callV (ci := 4) (F := TX4) (c_X4_reachNext (I := I1) sx nt sa na ra ta ln ea pa pp r e d S0 S c p rm hX hS (by omega) h1 hp) yy_X4_reachNext im_X4_reachNext se_X4_reachNext lk_4_81 x1 (zle rfl) rfl (zle rfl) (zle rfl) (zle rfl) (zle rfl) rfl rfl (zle rfl) dX4_reachFrom_71 rfl (zv.use ?_)
        refine v_iinc_4 dX4_reachFrom_74 (nI_1 c) rfl (zle rfl) rfl ?_
        refine v_goto (n := 35) dX4_reachFrom_77 (by decide) ?_
        have hlp := hlk.1 p hp
        have hup := nx_up hp (by omega) hS
        exact ih (c + 1) _ _ (D ||| 2 ^ c) (by omega) (h1.p (or256 (h1 _ hup.2.1).2 (p256 (by omega)))) hlp.1 (h3.tr hlp.2.1) hD2 (fun i hi => by
          rw [Nat.testBit_or, Bool.or_eq_true, Nat.testBit_two_pow, decide_eq_true_eq] at hi
          rcases hi with q | q
          · exact ⟨hlp.2.1.1 _ _ (h5 i q).1, (h5 i q).2.g hlp.2.1⟩
          · subst q; exact ⟨hlp.2.1.1 _ _ c57.1, hlp.2.2⟩) (fun a ha => by rw [u2_off _ _ ha]; exact h6 a ha) (i1.tr hlp.2.1) (fun i hi => by rw [Nat.testBit_or, i2 i hi]; rfl) (fun i hi hb => by
          rw [Nat.testBit_or, Bool.or_eq_true, Nat.testBit_two_pow, decide_eq_true_eq]
          rcases (show i < c ∨ i = c by omega) with q | q
          · exact Or.inl (i3 i q hb)
          · exact Or.inr q.symm) kk
      · refine v_iload_1 dX4_reachFrom_68 rfl ?_
        refine v_iload_4 dX4_reachFrom_69 rfl ?_
        refine v_callV (ci := 4) (F := TX4) (c_X4_reachNext_n (I := I1) sx nt sa na ra ta ln ea pa pp r e d S0 S c (nb c) rm hX hS (by omega) h1 hp (by rw [h6 na (fun e => z3 e.symm)]; exact (hN c (by omega)).1) (hP c (by omega)).1) yy_X4_reachNext im_X4_reachNext se_X4_reachNext lk_4_81 x1 (zle rfl) rfl (zle rfl) (zle rfl) (zle rfl) (zle rfl) rfl rfl (zle rfl) dX4_reachFrom_71 rfl (zv.use ?_)
        refine v_iinc_4 dX4_reachFrom_74 (nI_1 c) rfl (zle rfl) rfl ?_
        refine v_goto (n := 35) dX4_reachFrom_77 (by decide) ?_
        have hlp := hlk.2 hp
        exact ih (c + 1) _ _ (D ||| 2 ^ c) (by omega) (h1.p (or256 r2 (hP c (by omega)).1)) hlp.1 (h3.tr hlp.2.1) hD2 (fun i hi => by
          rw [Nat.testBit_or, Bool.or_eq_true, Nat.testBit_two_pow, decide_eq_true_eq] at hi
          rcases hi with q | q
          · exact ⟨hlp.2.1.1 _ _ (h5 i q).1, (h5 i q).2.g hlp.2.1⟩
          · subst q; exact ⟨hlp.2.1.1 _ _ c57.1, hlp.2.2⟩) (fun a ha => by rw [u2_off _ _ ha]; exact h6 a ha) (i1.tr hlp.2.1) (fun i hi => by rw [Nat.testBit_or, i2 i hi]; rfl) (fun i hi hb => by
          rw [Nat.testBit_or, Bool.or_eq_true, Nat.testBit_two_pow, decide_eq_true_eq]
          rcases (show i < c ∨ i = c by omega) with q | q
          · exact Or.inl (i3 i q hb)
          · exact Or.inr q.symm) kk
def rfQ (r : zg) (e np nc nw d : Nat) (s : Prop) (S0 c0 S ra : Nat) (rmA : Nat → Nat) (T : zT) (N : zN) (P : zP) (I : zI) (R : zR) : Option Value → zT → zN → zP → zI → zR → Prop := fun v T' N' P' I' R' => v = none ∧ T = T' ∧ N = N' ∧ P = P' ∧ R = R' ∧ (∀ a, a ≠ ra → I' a = I a) ∧ ∃ rm, RcR I' ra np rm ∧ RcS r e np nc nw d s S0 c0 rm ∧ RcG rmA rm S ∧ ∀ c, (rm S).testBit c = true → RcC r e np nc nw d s rm S c
theorem ol_X4_reachFrom {E : zE} {T : zT} {N : zN} {P : zP} {I : zI} {R : zR} {sx nt sa na ra ta ln ea pa : Nat} {pp : Nat → Nat} {r : zg} {e d S0 : Nat} {nc nw S c0 : Nat} {s : Prop} {st : Nat → Nat → Nat} {nb : Nat → Nat} {rmA : Nat → Nat} {K : zK E yX4_reachFrom cX4_reachFrom 5 none (zr0 3 71)} (hX : SxE T N P R sx nt sa na ra ta ln ea pa pp r e d S0) (hS : S < 2 ^ (tn (r 10 e))) (hnc : nc ≤ 8) (hP : NtP (edg r nc nw d s) st nb) (hN : NtR I sa na st nb) (ho : ¬ ovr r e (nI S) (tn (r 10 e))) : ∀ k j (I1 : zI) (rm : Nat → Nat) (D : Nat) (o4 : Option Value), j + k = 8 → RcR I1 ra (tn (r 10 e)) rm → RcS r e (tn (r 10 e)) nc nw d s S0 c0 rm → RcG rmA rm S → D < 256 → (∀ i, D.testBit i = true → (rm S).testBit i = true ∧ RcC r e (tn (r 10 e)) nc nw d s rm S i) → (∀ a, a ≠ ra → I1 a = I a) → cnp (fun c => ¬ D.testBit c = true) 8 + j ≤ 8 → V K (zQf K (rfQ r e (tn (r 10 e)) nc nw d s S0 c0 S ra rmA T N P I R)) T N P I1 R 0 0 16 [some (.ref sx), some (.int (nI S)), some (.int (nI D)), some (.int (nI j)), o4] [] := by
  obtain ⟨⟨x1, x2, x3, x4, x5, x6, x7, x8, x9, x10, x11, x12, x13, x14, x15⟩, xE, ⟨y1, y2, y3, y4⟩, ⟨z1, z2, z3, z4, z5, z6⟩, xN, xK⟩ := id hX
  have xNb := xN.2
  have h12 : 2 ^ tn (r 10 e) ≤ 2 ^ 12 := Nat.pow_le_pow_right (by decide) (by omega)
  intro k
  induction k with
  | zero =>
    intro j I1 rm D o4 hk h1 h2 h3 h4 h5 h6 hc
    obtain rfl : j = 8 := by omega
    refine v_iload_3 dX4_reachFrom_16 rfl ?_
    refine v_bipush (v := 8) dX4_reachFrom_17 rfl rfl ?_
    refine v_icmp_ge_t (n := 86) (by decide) dX4_reachFrom_19 (by decide) ?_
    exact v_return rfl (⟨rfl, rfl, rfl, rfl, rfl, h6, rm, h1, h2, h3, fun c hb => (h5 c (Classical.byContradiction fun h => cnp_0 (p := fun c => ¬ D.testBit c = true) 8 (by omega) c (bt256 (h1 S hS).2 hb) h)).2⟩) (zle rfl) (zle rfl) dX4_reachFrom_86
  | succ k ih =>
    intro j I1 rm D o4 hk h1 h2 h3 h4 h5 h6 hc
    obtain ⟨r1, r2⟩ := h1 S hS
    refine v_iload_3 dX4_reachFrom_16 rfl ?_
    refine v_bipush (v := 8) dX4_reachFrom_17 rfl rfl ?_
    refine v_icmp_ge_f (tgt := 86) (nI_ge (a := j) (b := 8) (by omega) (by decide)) dX4_reachFrom_19 (by decide) rfl ?_
    refine v_iload_2 dX4_reachFrom_22 rfl ?_
    refine v_aload_0 dX4_reachFrom_23 rfl ?_
    refine v_getP fl_4_22 x8 x1 rfl (zle rfl) rfl dX4_reachFrom_24 rfl ?_
    refine v_iload_1 dX4_reachFrom_27 rfl ?_
    refine v_iald (j := S) x10 rfl (by omega) (by omega) dX4_reachFrom_28 rfl ?_
    refine v_top r1 ?_
    by_cases hne : D = rm S
    · refine v_icmp_eq_t (n := 86) (by rw [hne]) dX4_reachFrom_29 (by decide) ?_
      exact v_return rfl (⟨rfl, rfl, rfl, rfl, rfl, h6, rm, h1, h2, h3, fun c hb => (h5 c (by rw [hne]; exact hb)).2⟩) (zle rfl) (zle rfl) dX4_reachFrom_86
    · refine v_icmp_eq_f (tgt := 86) (fun h => hne ((nI_eq (by omega) (by omega)).mp h)) dX4_reachFrom_29 (by decide) rfl ?_
      refine v_iconst (v := 0) dX4_reachFrom_32 rfl rfl ?_
      refine v_istore_4 dX4_reachFrom_33 rfl (zle rfl) rfl ?_
      refine il_X4_reachFrom (rmA := rmA) (rm0 := rm) (D0 := D) hX hS hnc hP hN ho 8 0 I1 rm D (by omega) h1 h2 h3 h4 h5 h6 RcG.rf (fun _ h => h) (fun i hi => absurd hi (Nat.not_lt_zero i)) (fun I2 rm2 D2 c2 g1 g2 g3 g4 g5 g6 g7 g8 g9 => ?_)
      refine v_iinc_3 (b := nI (j + 1)) dX4_reachFrom_80 (nI_1 j) rfl (zle rfl) rfl ?_
      refine v_goto (n := 16) dX4_reachFrom_83 (by decide) ?_
      refine ih (j + 1) I2 rm2 D2 _ (by omega) g1 g2 g3 g4 g5 g6 ?_
      obtain ⟨c, hcb, hcd⟩ : ∃ c, (rm S).testBit c = true ∧ ¬ D.testBit c = true := Classical.byContradiction fun h => hne (Nat.eq_of_testBit_eq fun i => by
        cases q1 : D.testBit i <;> cases q2 : (rm S).testBit i
        · rfl
        · exact absurd ⟨i, q2, by rw [q1]; decide⟩ h
        · rw [(h5 i q1).1] at q2; cases q2
        · rfl)
      have := cnp_lt (p := fun c => ¬ D2.testBit c = true) (q := fun c => ¬ D.testBit c = true) 8 (fun c _ h hd => h (g8 c hd)) c (bt256 r2 hcb) hcd (fun h => h (g9 c (bt256 r2 hcb) hcb))
      omega
theorem c_X4_reachFrom {E : zE} {T : zT} {N : zN} {P : zP} {I : zI} {R : zR} (sx nt sa na ra ta ln ea pa : Nat) (pp : Nat → Nat) (r : zg) (e d S0 : Nat) (nc nw S c0 : Nat) (s : Prop) (st : Nat → Nat → Nat) (nb rm : Nat → Nat)  (hX : SxE T N P R sx nt sa na ra ta ln ea pa pp r e d S0) (hS : S < 2 ^ (tn (r 10 e))) (hnc : nc ≤ 8) (hP : NtP (edg r nc nw d s) st nb) (hN : NtR I sa na st nb) (hR : RcR I ra (tn (r 10 e)) rm) (hs : RcS r e (tn (r 10 e)) nc nw d s S0 c0 rm) : zC E yX4_reachFrom cX4_reachFrom 5 none (zr0 3 71) [.ref sx, .int (nI S)] T N P I R (rfQ r e (tn (r 10 e)) nc nw d s S0 c0 S ra rm T N P I R) := by
  refine zC.intro (ls := [some (.ref sx), some (.int (nI S)), none, none, none]) pl_RX4 (zle rfl) 3 rfl (fun K => ?_)
  obtain ⟨⟨x1, x2, x3, x4, x5, x6, x7, x8, x9, x10, x11, x12, x13, x14, x15⟩, xE, ⟨y1, y2, y3, y4⟩, ⟨z1, z2, z3, z4, z5, z6⟩, xN, xK⟩ := id hX
  have xNb := xN.2
  have h12 : 2 ^ tn (r 10 e) ≤ 2 ^ 12 := Nat.pow_le_pow_right (by decide) (by omega)
  refine v_aload_0 dX4_reachFrom_0 rfl ?_
  refine v_getP fl_4_31 x12 x1 rfl (zle rfl) rfl dX4_reachFrom_1 rfl ?_
  refine v_iload_1 dX4_reachFrom_4 rfl ?_
  refine v_callV (ci := 0) (F := TX0) (c_X0_isOver ea (nI S) xE.1) yy_X0_isOver im_X0_isOver se_X0_isOver lk_4_73 xE.1 (zle rfl) rfl (zle rfl) (zle rfl) (zle rfl) (zle rfl) rfl rfl (zle rfl) dX4_reachFrom_5 rfl (zp.use ?_)
  refine v_top (zb_iff (q := ovr r e (nI S) (tn (r 10 e))) (ends_ovr xE (by omega) (nI S))) ?_
  refine v_ifz_eq (tgt := 12) dX4_reachFrom_8 (by decide) rfl (fun c8 => ?_) (fun c8 => ?_)
  · refine v_iconst (v := 0) dX4_reachFrom_12 rfl rfl ?_
    refine v_istore_2 dX4_reachFrom_13 rfl (zle rfl) rfl ?_
    refine v_iconst (v := 0) dX4_reachFrom_14 rfl rfl ?_
    refine v_istore_3 dX4_reachFrom_15 rfl (zle rfl) rfl ?_
    exact ol_X4_reachFrom hX hS hnc hP hN c8 8 0 I rm 0 _ (by omega) hR hs RcG.rf (by decide) (fun i hi => absurd hi (by rw [Nat.zero_testBit]; decide)) (fun _ _ => rfl) (cnp_le _ 8)
  · exact v_return rfl (⟨rfl, rfl, rfl, rfl, rfl, fun _ _ => rfl, rm, hR, hs, RcG.rf, fun c _ h => absurd c8 h⟩) (zle rfl) (zle rfl) dX4_reachFrom_11
