def ors (rm : Nat → Nat) (S0 : Nat) : Nat → Nat
  | 0 => 0
  | n + 1 => if rm (S0 + n) = 0 then ors rm S0 n else ors rm S0 n ||| (S0 + n)
theorem ors_lt {rm : Nat → Nat} {S0 : Nat} : ∀ n, S0 + n ≤ 2 ^ 12 → ors rm S0 n < 2 ^ 12 := by
  intro n
  induction n with
  | zero => intro _; exact (by decide : 0 < 2 ^ 12)
  | succ n ih =>
    intro h
    have i := ih (by omega)
    show (if rm (S0 + n) = 0 then ors rm S0 n else ors rm S0 n ||| (S0 + n)) < 2 ^ 12
    by_cases hz : rm (S0 + n) = 0
    · rw [if_pos hz]; exact i
    · rw [if_neg hz]; exact Nat.or_lt_two_pow i (by omega)
theorem ors_bt {rm : Nat → Nat} {S0 i : Nat} : ∀ n, ((ors rm S0 n).testBit i = true ↔ ∃ k, k < n ∧ ¬ rm (S0 + k) = 0 ∧ (S0 + k).testBit i = true) := by
  intro n
  induction n with
  | zero => exact ⟨fun h => absurd h (by rw [show ors rm S0 0 = 0 from rfl, Nat.zero_testBit]; decide), fun ⟨k, h, _⟩ => absurd h (Nat.not_lt_zero k)⟩
  | succ n ih =>
    show (if rm (S0 + n) = 0 then ors rm S0 n else ors rm S0 n ||| (S0 + n)).testBit i = true ↔ _
    by_cases hz : rm (S0 + n) = 0
    · rw [if_pos hz, ih]
      constructor
      · rintro ⟨k, h1, h2⟩; exact ⟨k, by omega, h2⟩
      · rintro ⟨k, h1, h2, h3⟩
        rcases (show k < n ∨ k = n by omega) with g | g
        · exact ⟨k, g, h2, h3⟩
        · subst g; exact absurd hz h2
    · rw [if_neg hz, Nat.testBit_or, Bool.or_eq_true, ih]
      constructor
      · rintro (⟨k, h1, h2⟩ | h)
        · exact ⟨k, by omega, h2⟩
        · exact ⟨n, by omega, hz, h⟩
      · rintro ⟨k, h1, h2, h3⟩
        rcases (show k < n ∨ k = n by omega) with g | g
        · exact Or.inl ⟨k, g, h2, h3⟩
        · subst g; exact Or.inr h3
theorem ne0_bt {a : Nat} (h : ¬ a = 0) : ∃ c, a.testBit c = true := Classical.byContradiction fun g => h (Nat.eq_of_testBit_eq fun i => by
  rw [Nat.zero_testBit]
  cases q : a.testBit i
  · rfl
  · exact absurd ⟨i, q⟩ g)
theorem ors_hrd {r : zg} {e np nc nw d S0 c0 : Nat} {s : Prop} {rm : Nat → Nat} (hn : np ≤ 12) (hS : S0 < 2 ^ np) (hc : c0 < nc) (hB : ∀ S c, S < 2 ^ np → ((rm S).testBit c = true ↔ Rch r e np nc nw d s S0 c0 S c)) : hrd r e np nc nw d s S0 c0 = ors rm S0 (2 ^ np - S0) := by
  refine hrd_eq (fun i => ?_)
  rw [ors_bt]
  constructor
  · rintro ⟨k, h1, h2, h3⟩
    obtain ⟨c, hc⟩ := ne0_bt h2
    exact ⟨_, c, (hB _ c (by omega)).mp hc, h3⟩
  · rintro ⟨S, c, h1, h2⟩
    have hin := h1.in hn hS hc
    have hb := (hB S c hin.2.1).mpr h1
    refine ⟨S - S0, by omega, ?_, ?_⟩
    · rw [show S0 + (S - S0) = S by omega]
      intro h
      rw [h, Nat.zero_testBit] at hb
      cases hb
    · rw [show S0 + (S - S0) = S by omega]; exact h2
theorem cnp_cat (p : Nat → Prop) (a : Nat) : ∀ n, cnp p (a + n) = cnp p a + cnp (fun c => p (a + c)) n := by
  intro n
  induction n with
  | zero => rfl
  | succ n ih =>
    show cnp p (a + n) + zi (p (a + n)) 1 0 = cnp p a + (cnp (fun c => p (a + c)) n + zi (p (a + n)) 1 0)
    rw [ih]; omega
theorem cnp_z {p : Nat → Prop} : ∀ n, (∀ c, c < n → ¬ p c) → cnp p n = 0 := by
  intro n
  induction n with
  | zero => intro _; rfl
  | succ n ih =>
    intro h
    rw [cnp_f (h n (by omega)), ih (fun c hc => h c (by omega))]
/-- counting the reached moments set by set -/
theorem cnt_all {r : zg} {e np nc nw d S0 c0 : Nat} {s : Prop} {p : Nat → Prop} (hn : np ≤ 12) (hS : S0 < 2 ^ np) (hc : c0 < nc) : cnp (fun q => Rch r e np nc nw d s S0 c0 (q / 8) (q % 8) ∧ p q) 32768 = cnp (fun q => Rch r e np nc nw d s S0 c0 (q / 8) (q % 8) ∧ p q) (8 * 2 ^ np) ∧ cnp (fun q => Rch r e np nc nw d s S0 c0 (q / 8) (q % 8) ∧ p q) (8 * S0) = 0 := by
  have h12 : 2 ^ np ≤ 2 ^ 12 := Nat.pow_le_pow_right (by decide) hn
  constructor
  · have ecat := cnp_cat (fun q => Rch r e np nc nw d s S0 c0 (q / 8) (q % 8) ∧ p q) (8 * 2 ^ np) (32768 - 8 * 2 ^ np)
    rw [show 8 * 2 ^ np + (32768 - 8 * 2 ^ np) = 32768 by omega] at ecat
    rw [ecat, cnp_z (p := fun c => Rch r e np nc nw d s S0 c0 ((8 * 2 ^ np + c) / 8) ((8 * 2 ^ np + c) % 8) ∧ p (8 * 2 ^ np + c)) _ (fun c _ h => by have := h.1.in hn hS hc; omega)]
    rfl
  · exact cnp_z _ (fun q hq h => by have := h.1.in hn hS hc; omega)
/-- two voices -/
theorem two_v {p : Nat → Prop} {a : Nat} (ha : p a) (hl : ∀ q, q < a → ¬ p q) : ∀ n, a < n → (1 < cnp p n ↔ ∃ q, a < q ∧ q < n ∧ p q) := by
  intro n
  induction n with
  | zero => intro h; omega
  | succ n ih =>
    intro h
    by_cases hn : a = n
    · subst hn
      rw [cnp_t ha, cnp_z a hl]
      exact ⟨fun h => by omega, fun ⟨q, h1, h2, _⟩ => by omega⟩
    · have i := ih (by omega)
      have hpos : 0 < cnp p n := by
        have := cnp_lt (p := fun _ => False) (q := p) n (fun _ _ h => h.elim) a (by omega) ha (fun h => h)
        omega
      by_cases hp : p n
      · rw [cnp_t hp]
        exact ⟨fun _ => ⟨n, by omega, by omega, hp⟩, fun _ => by omega⟩
      · rw [cnp_f hp, i]
        constructor
        · rintro ⟨q, h1, h2, h3⟩; exact ⟨q, h1, by omega, h3⟩
        · rintro ⟨q, h1, h2, h3⟩
          rcases (show q < n ∨ q = n by omega) with g | g
          · exact ⟨q, h1, g, h3⟩
          · subst g; exact absurd h3 hp
theorem lp_X4_heardInSome {E : zE} {T : zT} {N : zN} {P : zP} {I : zI} {R : zR} {sx nt sa na ra ta ln ea pa : Nat} {pp : Nat → Nat} {r : zg} {e d S0 : Nat} {rm : Nat → Nat} {K : zK E yX4_heardInSome cX4_heardInSome 3 (some .int) (zr0 0 0)} (hX : SxE T N P R sx nt sa na ra ta ln ea pa pp r e d S0) (hS0 : S0 < 2 ^ (tn (r 10 e))) (hR : RcR I ra (tn (r 10 e)) rm) : ∀ k j, j + k = 2 ^ (tn (r 10 e)) - S0 → V K (zQf K (zp (nI (ors rm S0 (2 ^ (tn (r 10 e)) - S0))) T N P I R)) T N P I R 0 0 7 [some (.ref sx), some (.int (nI (ors rm S0 j))), some (.int (nI (S0 + j)))] [] := by
  obtain ⟨⟨x1, x2, x3, x4, x5, x6, x7, x8, x9, x10, x11, x12, x13, x14, x15⟩, xE, ⟨y1, y2, y3, y4⟩, ⟨z1, z2, z3, z4, z5, z6⟩, xN, xK⟩ := id hX
  have xNb := xN.2
  have h12 : 2 ^ tn (r 10 e) ≤ 2 ^ 12 := Nat.pow_le_pow_right (by decide) (by omega)
  intro k
  induction k with
  | zero =>
    intro j hj
    obtain rfl : j = 2 ^ (tn (r 10 e)) - S0 := by omega
    refine v_iload_2 dX4_heardInSome_7 rfl ?_
    refine v_aload_0 dX4_heardInSome_8 rfl ?_
    refine v_getN fl_4_42 x1 rfl (zle rfl) rfl dX4_heardInSome_9 rfl ?_
    refine v_top x15 ?_
    refine v_icmp_ge_t (n := 34) (nI_le (a := 2 ^ (tn (r 10 e))) (b := S0 + (2 ^ (tn (r 10 e)) - S0)) (by omega) (by omega)) dX4_heardInSome_12 (by decide) ?_
    refine v_iload_1 dX4_heardInSome_34 rfl ?_
    exact v_ireturn rfl (zp.rf) (zle rfl) (zle rfl) dX4_heardInSome_35
  | succ k ih =>
    intro j hj
    obtain ⟨r1, r2⟩ := hR (S0 + j) (by omega)
    have hol := ors_lt (rm := rm) (S0 := S0) j (by omega)
    refine v_iload_2 dX4_heardInSome_7 rfl ?_
    refine v_aload_0 dX4_heardInSome_8 rfl ?_
    refine v_getN fl_4_42 x1 rfl (zle rfl) rfl dX4_heardInSome_9 rfl ?_
    refine v_top x15 ?_
    refine v_icmp_ge_f (tgt := 34) (nI_ge (a := S0 + j) (b := 2 ^ (tn (r 10 e))) (by omega) (by omega)) dX4_heardInSome_12 (by decide) rfl ?_
    refine v_aload_0 dX4_heardInSome_15 rfl ?_
    refine v_getP fl_4_22 x8 x1 rfl (zle rfl) rfl dX4_heardInSome_16 rfl ?_
    refine v_iload_2 dX4_heardInSome_19 rfl ?_
    refine v_iald (j := S0 + j) x10 rfl (by omega) (by omega) dX4_heardInSome_20 rfl ?_
    refine v_top r1 ?_
    by_cases hz : rm (S0 + j) = 0
    · refine v_if_eq_t (n := 28) (by rw [hz]; rfl) dX4_heardInSome_21 (by decide) ?_
      refine v_iinc_2 dX4_heardInSome_28 (nI_1 (S0 + j)) rfl (zle rfl) rfl ?_
      refine v_goto (n := 7) dX4_heardInSome_31 (by decide) ?_
      have h := ih (j + 1) (by omega)
      rw [show ors rm S0 (j + 1) = ors rm S0 j from if_pos hz] at h
      exact h
    · refine v_if_eq_f (tgt := 28) (fun h => hz ((nI_eq (by omega) (by decide)).mp h)) dX4_heardInSome_21 (by decide) rfl ?_
      refine v_iload_1 dX4_heardInSome_24 rfl ?_
      refine v_iload_2 dX4_heardInSome_25 rfl ?_
      refine v_ior dX4_heardInSome_26 rfl ?_
      refine v_top (nI_or (by omega) (by omega)) ?_
      refine v_istore_1 dX4_heardInSome_27 rfl (zle rfl) rfl ?_
      refine v_iinc_2 dX4_heardInSome_28 (nI_1 (S0 + j)) rfl (zle rfl) rfl ?_
      refine v_goto (n := 7) dX4_heardInSome_31 (by decide) ?_
      have h := ih (j + 1) (by omega)
      rw [show ors rm S0 (j + 1) = ors rm S0 j ||| (S0 + j) from if_neg hz] at h
      exact h
theorem c_X4_heardInSome {E : zE} {T : zT} {N : zN} {P : zP} {I : zI} {R : zR} (sx nt sa na ra ta ln ea pa : Nat) (pp : Nat → Nat) (r : zg) (e d S0 : Nat) (rm : Nat → Nat) (hX : SxE T N P R sx nt sa na ra ta ln ea pa pp r e d S0) (hS0 : S0 < 2 ^ (tn (r 10 e))) (hR : RcR I ra (tn (r 10 e)) rm) : zC E yX4_heardInSome cX4_heardInSome 3 (some .int) (zr0 0 0) [.ref sx] T N P I R (zp (nI (ors rm S0 (2 ^ (tn (r 10 e)) - S0))) T N P I R) := by
  refine zC.intro (ls := [some (.ref sx), none, none]) pl_RX4 (zle rfl) 2 rfl (fun K => ?_)
  obtain ⟨⟨x1, x2, x3, x4, x5, x6, x7, x8, x9, x10, x11, x12, x13, x14, x15⟩, xE, ⟨y1, y2, y3, y4⟩, ⟨z1, z2, z3, z4, z5, z6⟩, xN, xK⟩ := id hX
  have xNb := xN.2
  have h12 : 2 ^ tn (r 10 e) ≤ 2 ^ 12 := Nat.pow_le_pow_right (by decide) (by omega)
  refine v_iconst (v := 0) dX4_heardInSome_0 rfl rfl ?_
  refine v_istore_1 dX4_heardInSome_1 rfl (zle rfl) rfl ?_
  refine v_aload_0 dX4_heardInSome_2 rfl ?_
  refine v_getN fl_4_39 x1 rfl (zle rfl) rfl dX4_heardInSome_3 rfl ?_
  refine v_top x14 ?_
  refine v_istore_2 dX4_heardInSome_6 rfl (zle rfl) rfl ?_
  exact lp_X4_heardInSome hX hS0 hR (2 ^ (tn (r 10 e)) - S0) 0 (by omega)
theorem c_X0_allPieces {E : zE} {T : zT} {N : zN} {P : zP} {I : zI} {R : zR} (ea n : Nat) (he : (T ea).1 = 10) (hn : N 0 1 ea = nI n) (hl : n < 13) : zC E yX0_allPieces cX0_allPieces 1 (some .int) (zr0 0 0) [.ref ea] T N P I R (zp (nI (2 ^ n) - 1) T N P I R) := by
  refine zC.intro (ls := [some (.ref ea)]) pl_RX0 (zle rfl) 0 rfl (fun K => ?_)
  refine v_iconst (v := 1) dX0_allPieces_0 rfl rfl ?_
  refine v_aload_0 dX0_allPieces_1 rfl ?_
  refine v_getN fl_0_17 he rfl (zle rfl) rfl dX0_allPieces_2 rfl ?_
  refine v_top hn ?_
  refine v_ishl dX0_allPieces_5 rfl ?_
  refine v_top (nI_sh13 n hl) ?_
  refine v_iconst (v := 1) dX0_allPieces_6 rfl rfl ?_
  refine v_isub dX0_allPieces_7 rfl ?_
  exact v_ireturn rfl (zp.rf) (zle rfl) (zle rfl) dX0_allPieces_8
theorem c_X10_lost {E : zE} {T : zT} {N : zN} {P : zP} {I : zI} {R : zR} (x : Nat) (Mn : Nat → Prop) (b : Nat → Nat → Nat) (g : Nat) (f : zf) (r : zg) (w g' c9 s9 : Nat) (hC : CR T N P I R x Mn b g f r) (hZ : SrI f r) (hMn : ∀ a, Mn a → ¬ (T a).1 = 0) (hw : w < tn (f 18)) (hw0 : 0 ≤ nI w ∧ nI w ≤ f 18 - 1) (hg : GrO g (npw r w) g' c9 s9) : zC E yX10_lost cX10_lost 3 (some .int) (zrm 6 145 c9 s9) [.ref x, .int (nI w)] T N P I R (cQ x Mn g' T N P I R (ac_lost f r (nI w))) := by
  refine zC.intro (ls := [some (.ref x), some (.int (nI w)), none]) pl_RX10 (zle rfl) 1 rfl (fun K => ?_)
  obtain ⟨hX, hT, hA, hP, hE, hW, hS, hQ⟩ := id hC
  obtain ⟨x1, x2, x3, x4, x5, x6, x7, x8, x9, x10, x11, x12, x13, x14⟩ := id hX
  obtain ⟨t1, t2, t3, t4, t5, t6, t7, t8, t9, t10⟩ := id hT
  have qs := hQ.1
  have h9b := hZ.1.1.2.1.2
  have h0 := hZ.1.2.1
  have h0b := h0.2
  obtain ⟨w1, w2⟩ := id hW
  obtain ⟨g1, g2, g3, g4, g5, g6, g7, g8, g9, g10, g11⟩ := w1 w hw
  obtain ⟨k1, k2, k3, k4, k5, k6, k7, k8, k9, k10⟩ := hZ.wk hw
  have hd := hZ.1.1.2.2.2.1
  have h18 := hZ.1.1.1.2
  have tw : tn (nI w) = w := tn_nI (by omega)
  refine v_aload_0 dX10_lost_0 rfl ?_
  refine v_iload_1 dX10_lost_1 rfl ?_
  refine v_callV (ci := 10) (F := TX10) (c_X10_findWalker x (b 0 3) w (b 5 w) x1 x5 x9 (by rw [x12]; exact hw0) (by omega) g1) yy_X10_findWalker im_X10_findWalker se_X10_findWalker lk_10_193 (by assumption) (zle rfl) rfl (zle rfl) (zle rfl) (by first | (show 0 + c9 ≤ c9; omega) | (show 0 ≤ c9; omega)) (by first | (show 0 + s9 ≤ s9; omega) | (show 0 ≤ s9; omega)) rfl rfl (zle rfl) dX10_lost_2 rfl (za.use ?_)
  refine v_astore_2 dX10_lost_5 rfl (zle rfl) rfl ?_
  refine v_aload_2 dX10_lost_6 rfl ?_
  refine v_ifnonnull (n := 17) dX10_lost_7 (by decide) ?_
  refine v_aload_0 dX10_lost_17 rfl ?_
  refine v_aload_2 dX10_lost_18 rfl ?_
  refine v_callV (ci := 10) (F := TX10) (c_X10_searchFrom x Mn b g f r w g' c9 s9 hC hZ hMn hw hg) yy_X10_searchFrom im_X10_searchFrom se_X10_searchFrom lk_10_232 (by assumption) (zle rfl) rfl (zle rfl) (zle rfl) (by first | (show 0 + c9 ≤ c9; omega) | (show 0 ≤ c9; omega)) (by first | (show 0 + s9 ≤ s9; omega) | (show 0 ≤ s9; omega)) rfl rfl (zle rfl) dX10_lost_19 rfl (fun y T2 N2 P2 I2 R2 hq => ?_)
  obtain ⟨rfl, rfl, b', hb', hC1, hFr, hX1, tm, rm, st, nb, hNP, hNR, hRR, hBB, hok, hrow⟩ := hq
  have eb0 : b' 0 = b 0 := hb' 0 (by decide)
  obtain ⟨y1, y2, y3, y4, y5, y6, y7, y8, y9, y10, y11, y12, y13, y14⟩ := id hC1.1
  have ys := hC1.2.2.2.2.2.2.2.1
  obtain ⟨n1, n2, n3, n4, n5, n6, n7, n8, n9, n10, n11⟩ := hC1.2.2.2.2.2.1.1 w hw
  have eb5 : b' 5 = b 5 := hb' 5 (by decide)
  rw [eb5] at n1 n2 n3 n4 n5 n6 n7 n8 n9 n10 n11
  obtain ⟨m1, m2⟩ := hC1.2.2.2.2.1 (tn (r 22 w)) k2
  have hor := ors_hrd k5 k10 k8 hBB
  refine v_aload_2 dX10_lost_22 rfl ?_
  refine v_getP fl_10_240 n3 n2 rfl (zle rfl) rfl dX10_lost_23 rfl ?_
  refine v_callV (ci := 0) (F := TX0) (c_X0_allPieces (b' 3 (tn (r 22 w))) (npw r w) m2.1 (m2.2.2.2.1.trans k4) (by omega)) yy_X0_allPieces im_X0_allPieces se_X0_allPieces lk_10_244 m2.1 (zle rfl) rfl (zle rfl) (zle rfl) (by first | (show 0 + c9 ≤ c9; omega) | (show 0 ≤ c9; omega)) (by first | (show 0 + s9 ≤ s9; omega) | (show 0 ≤ s9; omega)) rfl rfl (zle rfl) dX10_lost_26 rfl (zp.use ?_)
  refine v_aload_0 dX10_lost_29 rfl ?_
  refine v_getP fl_10_44 y7 y1 rfl (zle rfl) rfl dX10_lost_30 rfl ?_
  refine v_callV (ci := 4) (F := TX4) (c_X4_heardInSome (b' 0 5) (b' 0 6) (b' 1 5) (b' 1 6) (b' 1 3) (b' 1 4) (2 ^ g') (b' 3 (tn (r 22 w))) (b' 4 (tn (r 22 w))) (b' (10 + (tn (r 22 w)))) r (tn (r 22 w)) (tn (f 27)) (tn (r 20 w)) rm hX1 k10 hRR) yy_X4_heardInSome im_X4_heardInSome se_X4_heardInSome lk_10_168 ys (zle rfl) rfl (zle rfl) (zle rfl) (by first | (show 0 + c9 ≤ c9; omega) | (show 0 ≤ c9; omega)) (by first | (show 0 + s9 ≤ s9; omega) | (show 0 ≤ s9; omega)) rfl rfl (zle rfl) dX10_lost_33 rfl (zp.use ?_)
  refine v_iconst (v := -1) dX10_lost_36 rfl rfl ?_
  refine v_ixor dX10_lost_37 rfl ?_
  refine v_iand dX10_lost_38 rfl ?_
  exact v_ireturn rfl (cQ_tr hFr (cQ_rd hC1 (zi_t hw0) (by rw [tw]; exact congrArg (fun x => (nI (2 ^ npw r w) - 1) &&& (nI x ^^^ (-1))) hor.symm))) (by first | (show 0 + c9 ≤ c9; omega) | (show 0 ≤ c9; omega)) (by first | (show 0 + s9 ≤ s9; omega) | (show 0 ≤ s9; omega)) dX10_lost_39
