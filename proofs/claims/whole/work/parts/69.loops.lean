theorem lp_X4_clearReached {E : zE} {T : zT} {N : zN} {P : zP} {I : zI} {R : zR} {sx ra L M c sl : Nat} {Qf : State → Prop} {kc ks : Nat} {K : zK E yX4_clearReached cX4_clearReached 2 none (zrm 0 0 c sl)} (h1 : (T sx).1 = 14) (h2 : P 4 2 sx = some ra) (h3 : T ra = (1, L)) (h4 : N 4 7 sx = nI M) (h5 : M ≤ L) (h6 : L ≤ 4096) (kk : ∀ j, V K Qf T N P (ur I ra 0 M (fun _ => 0)) R kc ks 58 [some (.ref sx), some (.int (nI j))] []) : ∀ k j, j + k = M → V K Qf T N P (ur I ra 0 j (fun _ => 0)) R kc ks 37 [some (.ref sx), some (.int (nI j))] [] := by
  intro k
  induction k with
  | zero =>
    intro j hj
    obtain rfl : j = M := by omega
    refine v_iload_1 dX4_clearReached_37 rfl ?_
    refine v_aload_0 dX4_clearReached_38 rfl ?_
    refine v_getN fl_4_42 h1 rfl (zle rfl) rfl dX4_clearReached_39 rfl ?_
    refine v_top h4 ?_
    refine v_icmp_ge_t (n := 58) (nI_le (a := j) (b := j) (by omega) (by omega)) dX4_clearReached_42 (by decide) ?_
    exact kk j
  | succ k ih =>
    intro j hj
    refine v_iload_1 dX4_clearReached_37 rfl ?_
    refine v_aload_0 dX4_clearReached_38 rfl ?_
    refine v_getN fl_4_42 h1 rfl (zle rfl) rfl dX4_clearReached_39 rfl ?_
    refine v_top h4 ?_
    refine v_icmp_ge_f (tgt := 58) (nI_ge (a := j) (b := M) (by omega) (by omega)) dX4_clearReached_42 (by decide) rfl ?_
    refine v_aload_0 dX4_clearReached_45 rfl ?_
    refine v_getP fl_4_22 h2 h1 rfl (zle rfl) rfl dX4_clearReached_46 rfl ?_
    refine v_iload_1 dX4_clearReached_49 rfl ?_
    refine v_iconst (v := 0) dX4_clearReached_50 rfl rfl ?_
    refine v_iast (j := j) h3 rfl (by omega) (by omega) dX4_clearReached_51 rfl ?_
    rw [ur_1]
    refine v_iinc_1 dX4_clearReached_52 (nI_1 j) rfl (zle rfl) rfl ?_
    refine v_goto (n := 37) dX4_clearReached_55 (by decide) ?_
    exact ih (j + 1) (by omega)
theorem c_X4_clearReached {E : zE} {T : zT} {N : zN} {P : zP} {I : zI} {R : zR} (sx ra L M : Nat) (h1 : (T sx).1 = 14) (h2 : P 4 2 sx = some ra) (h3 : T ra = (1, L)) (h4 : N 4 7 sx = nI M) (h5 : M ≤ L) (h6 : L ≤ 4096) : zC E yX4_clearReached cX4_clearReached 2 none (zrm 0 0 0 0) [.ref sx] T N P I R (zv T N P (ur I ra 0 M (fun _ => 0)) R) := by
  refine zC.intro (ls := [some (.ref sx), none]) pl_RX4 (zle rfl) 1 rfl (fun K => ?_)
  refine v_aload_0 dX4_clearReached_0 rfl ?_
  refine v_getP fl_4_22 h2 h1 rfl (zle rfl) rfl dX4_clearReached_1 rfl ?_
  refine v_alenN h3 (by decide) dX4_clearReached_4 rfl ?_
  refine v_aload_0 dX4_clearReached_5 rfl ?_
  refine v_getN fl_4_42 h1 rfl (zle rfl) rfl dX4_clearReached_6 rfl ?_
  refine v_top h4 ?_
  refine v_icmp_ge_t (n := 35) (nI_le (a := M) (b := L) h5 (by omega)) dX4_clearReached_9 (by decide) ?_
  refine v_iconst (v := 0) dX4_clearReached_35 rfl rfl ?_
  refine v_istore_1 dX4_clearReached_36 rfl (zle rfl) rfl ?_
  have h := lp_X4_clearReached (N := N) (P := P) (I := I) (R := R) (K := K) (Qf := zQf K (zv T N P (ur I ra 0 M (fun _ => 0)) R)) (kc := 0) (ks := 0) h1 h2 h3 h4 h5 h6 (by intro j; exact v_return rfl zv.rf (Nat.le_refl _) (Nat.le_refl _) dX4_clearReached_58) M 0 (by omega)
  rw [urz0] at h
  exact h
def cgQ (sx M : Nat) (T : zT) (N : zN) (P : zP) (I : zI) (R : zR) : Option Value → zT → zN → zP → zI → zR → Prop := fun v T' N' P' I' R' => v = none ∧ N = N' ∧ R = R' ∧ ∃ ra ta, (T ra).1 = 0 ∧ (T ta).1 = 0 ∧ ra ≠ ta ∧ u1 (u1 T ra (1, M)) ta (1, M * 8) = T' ∧ u3 (u3 P 4 2 sx (some ra)) 4 3 sx (some ta) = P' ∧ ur (u1 (u1 I ra (fun _ => 0)) ta (fun _ => 0)) ra 0 M (fun _ => 0) = I'
theorem c_X4_clearReached_g {E : zE} {T : zT} {N : zN} {P : zP} {I : zI} {R : zR} (sx ra L M : Nat) (h1 : (T sx).1 = 14) (h2 : P 4 2 sx = some ra) (h3 : T ra = (1, L)) (h4 : N 4 7 sx = nI M) (h5 : L < M) (h6 : M ≤ 4096) : zC E yX4_clearReached cX4_clearReached 2 none (zrm 0 0 2 (9 * M)) [.ref sx] T N P I R (cgQ sx M T N P I R) := by
  refine zC.intro (ls := [some (.ref sx), none]) pl_RX4 (zle rfl) 1 rfl (fun K => ?_)
  refine v_aload_0 dX4_clearReached_0 rfl ?_
  refine v_getP fl_4_22 h2 h1 rfl (zle rfl) rfl dX4_clearReached_1 rfl ?_
  refine v_alenN h3 (by decide) dX4_clearReached_4 rfl ?_
  refine v_aload_0 dX4_clearReached_5 rfl ?_
  refine v_getN fl_4_42 h1 rfl (zle rfl) rfl dX4_clearReached_6 rfl ?_
  refine v_top h4 ?_
  refine v_icmp_ge_f (tgt := 35) (nI_ge (a := L) (b := M) h5 (by omega)) dX4_clearReached_9 (by decide) rfl ?_
  refine v_aload_0 dX4_clearReached_12 rfl ?_
  refine v_aload_0 dX4_clearReached_13 rfl ?_
  refine v_getN fl_4_42 h1 rfl (zle rfl) rfl dX4_clearReached_14 rfl ?_
  refine v_top h4 ?_
  refine v_newa (atype := .int) (ft := .int) (t := 1) (j := M) rfl (Or.inl ⟨rfl, rfl⟩) ac_int rfl (by omega) (by show 0 + 1 ≤ 2; decide) (by show 0 + M ≤ 9 * M; omega) dX4_clearReached_17 rfl (fun q17 hq17 => ?_)
  refine v_putP fw_4_22 (show (u1 T q17 (1, M) sx).1 = 14 by rw [u1_na (fr_ne hq17 h1 (by decide))]; exact h1) rfl (zle rfl) rfl (fun h => by cases h) rfl rfl dX4_clearReached_19 rfl ?_
  refine v_aload_0 dX4_clearReached_22 rfl ?_
  refine v_aload_0 dX4_clearReached_23 rfl ?_
  refine v_getN fl_4_42 (show (u1 T q17 (1, M) sx).1 = 14 by rw [u1_na (fr_ne hq17 h1 (by decide))]; exact h1) rfl (zle rfl) rfl dX4_clearReached_24 rfl ?_
  refine v_top h4 ?_
  refine v_bipush (v := 8) dX4_clearReached_27 rfl rfl ?_
  refine v_imul dX4_clearReached_29 rfl ?_
  refine v_top (show nI M * 8 = nI (M * 8) by rw [show (8 : Int32) = nI 8 from rfl, pk_mul]) ?_
  refine v_newa (atype := .int) (ft := .int) (t := 1) (j := M * 8) rfl (Or.inl ⟨rfl, rfl⟩) ac_int rfl (by omega) (by show 0 + 1 + 1 ≤ 2; decide) (by show 0 + M + M * 8 ≤ 9 * M; omega) dX4_clearReached_30 rfl (fun q30 hq30 => ?_)
  have hne : q30 ≠ q17 := fun e => by rw [e, u1_self] at hq30; exact absurd hq30 (show ¬ (1 : Nat) = 0 by decide)
  have hsx2 : (u1 (u1 T q17 (1, M)) q30 (1, M * 8) sx).1 = 14 := by rw [u1_na (fr_ne hq30 (show (u1 T q17 (1, M) sx).1 = 14 by rw [u1_na (fr_ne hq17 h1 (by decide))]; exact h1) (by decide)), u1_na (fr_ne hq17 h1 (by decide))]; exact h1
  have hq30' : (T q30).1 = 0 := by rw [u1_na hne] at hq30; exact hq30
  refine v_putP fw_4_25 hsx2 rfl (zle rfl) rfl (fun h => by cases h) rfl rfl dX4_clearReached_32 rfl ?_
  refine v_iconst (v := 0) dX4_clearReached_35 rfl rfl ?_
  refine v_istore_1 dX4_clearReached_36 rfl (zle rfl) rfl ?_
  have h := lp_X4_clearReached (N := N) (T := u1 (u1 T q17 (1, M)) q30 (1, M * 8)) (P := u3 (u3 P 4 2 sx (some q17)) 4 3 sx (some q30)) (I := u1 (u1 I q17 (fun _ => 0)) q30 (fun _ => 0)) (R := R) (K := K) (Qf := zQf K (cgQ sx M T N P I R)) (kc := 0 + 1 + 1) (ks := 0 + M + M * 8) (ra := q17) (L := M) hsx2 (show u3 (u3 P 4 2 sx (some q17)) 4 3 sx (some q30) 4 2 sx = some q17 by simp [u3]) (by rw [u1_na (fun e => hne e.symm), u1_self]) h4 (Nat.le_refl _) h6 (by intro j; exact v_return rfl ⟨rfl, rfl, rfl, q17, q30, hq17, hq30', fun e => hne e.symm, rfl, rfl, rfl⟩ (by show 0 + 1 + 1 ≤ 2; decide) (by show 0 + M + M * 8 ≤ 9 * M; omega) dX4_clearReached_58) M 0 (by omega)
  rw [urz0] at h
  exact h
theorem rl_X4_explore {E : zE} {T : zT} {N : zN} {P : zP} {I : zI} {R : zR} {sx nt sa na ra ta ln ea pa : Nat} {pp : Nat → Nat} {r : zg} {e d S0 : Nat} {nc nw c0 c9 s9 kc ks : Nat} {s : Prop} {st : Nat → Nat → Nat} {nb : Nat → Nat} {tw : Nat} {Qf : State → Prop} {K : zK E yX4_explore cX4_explore 8 none (zrm 4 97 c9 s9)} (hX : SxE T N P R sx nt sa na ra ta ln ea pa pp r e d S0) (hnc : nc ≤ 8) (hP : NtP (edg r nc nw d s) st nb) (hN : NtR I sa na st nb) (hS0 : S0 < 2 ^ (tn (r 10 e))) (hc0 : c0 < nc) (hkc : kc ≤ c9) (hks : ks ≤ s9) : ∀ k q (I1 : zI) (rm : Nat → Nat), q + k = 2 ^ (tn (r 10 e)) → S0 ≤ q → (∀ a, a ≠ ra → I1 a = I a) → RcR I1 ra (tn (r 10 e)) rm → RcS r e (tn (r 10 e)) nc nw d s S0 c0 rm → (rm S0).testBit c0 = true → (∀ S c, S0 ≤ S → S < q → (rm S).testBit c = true → RcC r e (tn (r 10 e)) nc nw d s rm S c) → (∀ (I1 : zI) (rm : Nat → Nat) (q : Nat), (∀ a, a ≠ ra → I1 a = I a) → RcR I1 ra (tn (r 10 e)) rm → (∀ S c, S < 2 ^ (tn (r 10 e)) → ((rm S).testBit c = true ↔ (Rch r e (tn (r 10 e)) nc nw d s S0 c0) S c)) → V K Qf T N P I1 R kc ks 80 [some (.ref sx), some (.ref tw), some (.ref ea), some (.int (nI c0)), some (.int (nI S0)), some (.int (nI d)), some (.int (zb s)), some (.int (nI q))] []) → V K Qf T N P I1 R kc ks 59 [some (.ref sx), some (.ref tw), some (.ref ea), some (.int (nI c0)), some (.int (nI S0)), some (.int (nI d)), some (.int (zb s)), some (.int (nI q))] [] := by
  obtain ⟨⟨x1, x2, x3, x4, x5, x6, x7, x8, x9, x10, x11, x12, x13, x14, x15⟩, xE, ⟨y1, y2, y3, y4⟩, ⟨z1, z2, z3, z4, z5, z6⟩, xN, xK⟩ := id hX
  have xNb := xN.2
  have h12 : 2 ^ tn (r 10 e) ≤ 2 ^ 12 := Nat.pow_le_pow_right (by decide) (by omega)
  intro k
  induction k with
  | zero =>
    intro q I1 rm hk hq hF h1 h2 h3 h4 kk
    obtain rfl : q = 2 ^ (tn (r 10 e)) := by omega
    have hall : ∀ S c, S < 2 ^ (tn (r 10 e)) → ((rm S).testBit c = true ↔ (Rch r e (tn (r 10 e)) nc nw d s S0 c0) S c) := fun S c hS => ⟨h2 S c hS, fun hR => by
      have hx : (rm S).testBit c = true ∧ S < 2 ^ (tn (r 10 e)) ∧ S0 ≤ S := hR (fun S c => (rm S).testBit c = true ∧ S < 2 ^ (tn (r 10 e)) ∧ S0 ≤ S) (fun S c hX ho => ⟨fun p hp => by
        have hup := nx_up hp (by omega) hX.2.1
        exact ⟨(h4 S c hX.2.2 hX.2.1 hX.1 ho).1 p hp, hup.2.1, by omega⟩, fun hm c' l he => ⟨(h4 S c hX.2.2 hX.2.1 hX.1 ho).2 hm c' l he, hX.2⟩⟩) ⟨h3, hS0, Nat.le_refl _⟩
      exact hx.1⟩
    refine v_iload_7 dX4_explore_59 rfl ?_
    refine v_aload_0 dX4_explore_61 rfl ?_
    refine v_getN fl_4_42 x1 rfl (zle rfl) rfl dX4_explore_62 rfl ?_
    refine v_top x15 ?_
    refine v_icmp_ge_t (n := 80) (nI_le (a := 2 ^ (tn (r 10 e))) (b := 2 ^ (tn (r 10 e))) (Nat.le_refl _) (by omega)) dX4_explore_65 (by decide) ?_
    exact kk I1 rm _ hF h1 hall
  | succ k ih =>
    intro q I1 rm hk hq hF h1 h2 h3 h4 kk
    have hN1 : NtR I1 sa na st nb := fun a ha => ⟨by rw [hF na (fun e => z3 e.symm)]; exact (hN a ha).1, fun c hc => by rw [hF sa (fun e => z2 e.symm)]; exact (hN a ha).2 c hc⟩
    refine v_iload_7 dX4_explore_59 rfl ?_
    refine v_aload_0 dX4_explore_61 rfl ?_
    refine v_getN fl_4_42 x1 rfl (zle rfl) rfl dX4_explore_62 rfl ?_
    refine v_top x15 ?_
    refine v_icmp_ge_f (tgt := 80) (nI_ge (a := q) (b := 2 ^ (tn (r 10 e))) (by omega) (by omega)) dX4_explore_65 (by decide) rfl ?_
    refine v_aload_0 dX4_explore_68 rfl ?_
    refine v_iload_7 dX4_explore_69 rfl ?_
    refine v_callV (ci := 4) (F := TX4) (c_X4_reachFrom (I := I1) sx nt sa na ra ta ln ea pa pp r e d S0 nc nw q c0 s st nb rm hX (by omega) hnc hP hN1 h1 h2) yy_X4_reachFrom im_X4_reachFrom se_X4_reachFrom lk_4_66 x1 (zle rfl) rfl (zle rfl) (zle rfl) (by show kc + 0 ≤ c9; omega) (by show ks + 0 ≤ s9; omega) rfl rfl (zle rfl) dX4_explore_71 rfl (fun y T2 N2 P2 I2 R2 hq2 => ?_)
    obtain ⟨rfl, rfl, rfl, rfl, rfl, f1, rm2, g1, g2, g3, g4⟩ := hq2
    refine v_iinc_7 dX4_explore_74 (nI_1 q) rfl (zle rfl) rfl ?_
    refine v_goto (n := 59) dX4_explore_77 (by decide) ?_
    refine ih (q + 1) I2 rm2 (by omega) (by omega) (fun a ha => (f1 a ha).trans (hF a ha)) g1 g2 (g3.1 _ _ h3) (fun S c a1 a2 a3 => ?_) kk
    rcases (show S < q ∨ S = q by omega) with k | k
    · exact (h4 S c a1 k (by rw [← g3.2 S k]; exact a3)).g g3
    · subst k; exact g4 c a3
def exT (r : zg) (e np nc nw d : Nat) (s : Prop) (S0 c0 ta q : Nat) (tm : Nat → Nat → Nat) (I1 : zI) : Prop := (∀ S, q ≤ S → S < 2 ^ np → TmS r e np nc nw d s NEVn (Rch r e np nc nw d s S0 c0) tm S) ∧ ∀ S c, q ≤ S → S < 2 ^ np → Rch r e np nc nw d s S0 c0 S c → I1 ta (8 * S + c) = nI (tm S c)
theorem tl_X4_explore {E : zE} {T : zT} {N : zN} {P : zP} {I : zI} {R : zR} {sx nt sa na ra ta ln ea pa : Nat} {pp : Nat → Nat} {r : zg} {e d S0 : Nat} {nc nw c0 c9 s9 kc ks : Nat} {s : Prop} {st : Nat → Nat → Nat} {nb : Nat → Nat} {tw : Nat} {rm : Nat → Nat} {Q : Option Value → zT → zN → zP → zI → zR → Prop} {K : zK E yX4_explore cX4_explore 8 none (zrm 4 97 c9 s9)} (hX : SxE T N P R sx nt sa na ra ta ln ea pa pp r e d S0) (hnc : nc ≤ 8) (hP : NtP (edg r nc nw d s) st nb) (hN : NtR I sa na st nb) (hS0 : S0 < 2 ^ (tn (r 10 e))) (hc0 : c0 < nc) (hkc : kc ≤ c9) (hks : ks ≤ s9) (hR : RcR I ra (tn (r 10 e)) rm) (hB : ∀ S c, S < 2 ^ (tn (r 10 e)) → ((rm S).testBit c = true ↔ (Rch r e (tn (r 10 e)) nc nw d s S0 c0) S c)) (kk : (∀ (I1 : zI) (tm : Nat → Nat → Nat), (∀ a, a ≠ ta → I1 a = I a) → TmOK r e (tn (r 10 e)) nc nw d s NEVn (Rch r e (tn (r 10 e)) nc nw d s S0 c0) tm → (∀ S c, (Rch r e (tn (r 10 e)) nc nw d s S0 c0) S c → I1 ta (8 * S + c) = nI (tm S c)) → Q none T N P I1 R)) : ∀ k q (I1 : zI) (tm : Nat → Nat → Nat), q = S0 + k → q ≤ 2 ^ (tn (r 10 e)) → (∀ a, a ≠ ta → I1 a = I a) → exT r e (tn (r 10 e)) nc nw d s S0 c0 ta q tm I1 → V K (zQf K Q) T N P I1 R kc ks 88 [some (.ref sx), some (.ref tw), some (.ref ea), some (.int (nI c0)), some (.int (nI S0)), some (.int (nI d)), some (.int (zb s)), some (.int (nI q - 1))] [] := by
  obtain ⟨⟨x1, x2, x3, x4, x5, x6, x7, x8, x9, x10, x11, x12, x13, x14, x15⟩, xE, ⟨y1, y2, y3, y4⟩, ⟨z1, z2, z3, z4, z5, z6⟩, xN, xK⟩ := id hX
  have xNb := xN.2
  have h12 : 2 ^ tn (r 10 e) ≤ 2 ^ 12 := Nat.pow_le_pow_right (by decide) (by omega)
  intro k
  induction k with
  | zero =>
    intro q I1 tm hk hq hF hX2
    obtain rfl : q = S0 := by omega
    have hlt : nI q - 1 < nI q := by
      rw [Int32.lt_iff_toInt_lt, show (1 : Int32) = nI 1 from rfl, pk_sub_toInt (by omega) (by decide), nI_toInt (by omega)]; omega
    refine v_iload_7 dX4_explore_88 rfl ?_
    refine v_aload_0 dX4_explore_90 rfl ?_
    refine v_getN fl_4_39 x1 rfl (zle rfl) rfl dX4_explore_91 rfl ?_
    refine v_top x14 ?_
    refine v_icmp_lt_t (n := 109) hlt dX4_explore_94 (by decide) ?_
    exact v_return rfl (kk I1 tm hF (fun S hS => by
      rcases Nat.lt_or_ge S q with g | g
      · exact ⟨fun c hc => absurd (hc.in (by omega) hS0 hc0).1 (by omega), fun c hc => absurd (hc.in (by omega) hS0 hc0).1 (by omega)⟩
      · exact hX2.1 S g hS) (fun S c hc => by
      have hin := hc.in (by omega) hS0 hc0
      exact hX2.2 S c hin.1 hin.2.1 hc)) hkc hks dX4_explore_109
  | succ k ih =>
    intro q I1 tm hk hq hF hX2
    obtain ⟨q, rfl⟩ : ∃ p, q = p + 1 := ⟨q - 1, by omega⟩
    have hN1 : NtR I1 sa na st nb := fun a ha => ⟨by rw [hF na (fun e => z5 e.symm)]; exact (hN a ha).1, fun c hc => by rw [hF sa (fun e => z4 e.symm)]; exact (hN a ha).2 c hc⟩
    have hR1 : RcR I1 ra (tn (r 10 e)) rm := fun S hS => by rw [hF ra z6]; exact hR S hS
    have hE : Eg (edg r nc nw d s) (mvS r e (tn (r 10 e)) d q) ((Rch r e (tn (r 10 e)) nc nw d s S0 c0) q) := Eg.mk' hnc (fun c c' l a b h => (Rch.cl q c a b.1).2 b c' l h)
    obtain ⟨w, hw⟩ := Tm_st (K := NEVn) (dom := (Rch r e (tn (r 10 e)) nc nw d s S0 c0)) tm (show (tn (r 10 e)) ≤ 12 by omega) (show q < 2 ^ (tn (r 10 e)) by omega) hE
    refine v_loc (ls := [some (.ref sx), some (.ref tw), some (.ref ea), some (.int (nI c0)), some (.int (nI S0)), some (.int (nI d)), some (.int (zb s)), some (.int (nI q))]) (by rw [nI_pred]) ?_
    refine v_iload_7 dX4_explore_88 rfl ?_
    refine v_aload_0 dX4_explore_90 rfl ?_
    refine v_getN fl_4_39 x1 rfl (zle rfl) rfl dX4_explore_91 rfl ?_
    refine v_top x14 ?_
    refine v_icmp_lt_f (tgt := 109) (nI_nlt (a := q) (b := S0) (by omega) (by omega)) dX4_explore_94 (by decide) rfl ?_
    refine v_aload_0 dX4_explore_97 rfl ?_
    refine v_iload_7 dX4_explore_98 rfl ?_
    refine v_callV (ci := 4) (F := TX4) (c_X4_timeSet (I := I1) sx nt sa na ra ta ln ea pa pp r e d S0 nc nw q c0 s st nb rm w tm hX (by omega) hnc hP hN1 hR1 (fun c => hB q c (by omega)) (fun p c a b h => (Rch.cl q c a b).1 p h) hw (fun S c a b h => ⟨hX2.2 S c (by omega) b h, (hX2.1 S (by omega) b).le h⟩)) yy_X4_timeSet im_X4_timeSet se_X4_timeSet lk_4_70 x1 (zle rfl) rfl (zle rfl) (zle rfl) (by show kc + 0 ≤ c9; omega) (by show ks + 0 ≤ s9; omega) rfl rfl (zle rfl) dX4_explore_100 rfl (fun y T2 N2 P2 I2 R2 hq2 => ?_)
    obtain ⟨rfl, rfl, rfl, rfl, rfl, f1, f2⟩ := hq2
    refine v_iinc_7 (b := nI q - 1) dX4_explore_103 (i_neg1 _) rfl (zle rfl) rfl ?_
    refine v_goto (n := 88) dX4_explore_106 (by decide) ?_
    refine ih q I2 (u1 tm q w) (by omega) (by omega) (fun a ha => by funext j; rw [f1 a j (fun h => ha h.1), hF a ha]) ⟨fun S a1 a2 => ?_, fun S c a1 a2 a3 => ?_⟩
    · rcases (show S = q ∨ q < S by omega) with g | g
      · subst g; exact hw
      · have h1 := hX2.1 S (by omega) a2
        unfold TmS at h1 ⊢
        rw [u1_na (show S ≠ q by omega)]
        refine ⟨fun c hc => ⟨(h1.1 c hc).1, fun ho p hp => ?_⟩, h1.2⟩
        have hup := nx_up hp (by omega) a2
        rw [u1_na (show S ||| 2 ^ p ≠ q by omega)]
        exact (h1.1 c hc).2 ho p hp
    · have hin := a3.in (by omega) hS0 hc0
      rcases (show S = q ∨ q < S by omega) with g | g
      · subst g; rw [u1_self]; exact f2 c a3
      · rw [u1_na (show S ≠ q by omega), f1 ta _ (fun h => by omega)]
        exact hX2.2 S c (by omega) a2 a3
