theorem fb_cnp (p : Nat → Bool) : ∀ n, fb_ct p n = cnp (fun c => p c = true) n := by
  intro n
  induction n with
  | zero => rfl
  | succ n ih =>
    by_cases h : p n = true
    · rw [cnp_t h, ← ih]; show fb_ct p n + (if p n then 1 else 0) = _; rw [if_pos h]
    · rw [cnp_f h, ← ih]; show fb_ct p n + (if p n then 1 else 0) = _; rw [if_neg h]; rfl
theorem lp_X4_countMoments {E : zE} {T : zT} {N : zN} {P : zP} {I : zI} {R : zR} {sx nt sa na ra ta ln ea pa : Nat} {pp : Nat → Nat} {r : zg} {e d S0 : Nat} {nc nw c0 : Nat} {s : Prop} {rm : Nat → Nat} {K : zK E yX4_countMoments cX4_countMoments 3 (some .int) (zr0 1 20)} (hX : SxE T N P R sx nt sa na ra ta ln ea pa pp r e d S0) (hS0 : S0 < 2 ^ (tn (r 10 e))) (hc0 : c0 < nc) (hR : RcR I ra (tn (r 10 e)) rm) (hB : ∀ S c, S < 2 ^ (tn (r 10 e)) → ((rm S).testBit c = true ↔ (Rch r e (tn (r 10 e)) nc nw d s S0 c0) S c)) : ∀ k q, q + k = 2 ^ (tn (r 10 e)) → S0 ≤ q → V K (zQf K (zp (nI (cnp (fun q => (Rch r e (tn (r 10 e)) nc nw d s S0 c0) (q / 8) (q % 8) ∧ (fun _ => True) q) (32768))) T N P I R)) T N P I R 0 0 7 [some (.ref sx), some (.int (nI (cnp (fun q => (Rch r e (tn (r 10 e)) nc nw d s S0 c0) (q / 8) (q % 8) ∧ (fun _ => True) q) (8 * q)))), some (.int (nI q))] [] := by
  obtain ⟨⟨x1, x2, x3, x4, x5, x6, x7, x8, x9, x10, x11, x12, x13, x14, x15⟩, xE, ⟨y1, y2, y3, y4⟩, ⟨z1, z2, z3, z4, z5, z6⟩, xN, xK⟩ := id hX
  have xNb := xN.2
  have h12 : 2 ^ tn (r 10 e) ≤ 2 ^ 12 := Nat.pow_le_pow_right (by decide) (by omega)
  obtain ⟨ca, cb⟩ := cnt_all (r := r) (e := e) (np := (tn (r 10 e))) (nc := nc) (nw := nw) (d := d) (s := s) (S0 := S0) (c0 := c0) (p := (fun _ => True)) (by omega) hS0 hc0
  intro k
  induction k with
  | zero =>
    intro q hq hq0
    obtain rfl : q = 2 ^ (tn (r 10 e)) := by omega
    refine v_iload_2 dX4_countMoments_7 rfl ?_
    refine v_aload_0 dX4_countMoments_8 rfl ?_
    refine v_getN fl_4_42 x1 rfl (zle rfl) rfl dX4_countMoments_9 rfl ?_
    refine v_top x15 ?_
    refine v_icmp_ge_t (n := 33) (nI_le (a := 2 ^ (tn (r 10 e))) (b := 2 ^ (tn (r 10 e))) (Nat.le_refl _) (by omega)) dX4_countMoments_12 (by decide) ?_
    refine v_iload_1 dX4_countMoments_33 rfl ?_
    exact v_ireturn rfl (zp_e (congrArg nI ca.symm)) (zle rfl) (zle rfl) dX4_countMoments_34
  | succ k ih =>
    intro q hq hq0
    obtain ⟨r1, r2⟩ := hR q (by omega)
    have est : cnp (fun q => (Rch r e (tn (r 10 e)) nc nw d s S0 c0) (q / 8) (q % 8) ∧ (fun _ => True) q) (8 * q) + fb_ct (fun p => (rm q).testBit p) 8 = cnp (fun q => (Rch r e (tn (r 10 e)) nc nw d s S0 c0) (q / 8) (q % 8) ∧ (fun _ => True) q) (8 * (q + 1)) := by
      rw [show 8 * (q + 1) = 8 * q + 8 by omega, cnp_cat, fb_cnp]
      congr 1
      exact cnp_congr 8 (fun c hc => by rw [hB q c (by omega), show (8 * q + c) / 8 = q by omega, show (8 * q + c) % 8 = c by omega]; exact ⟨fun h => ⟨h, trivial⟩, fun h => h.1⟩)
    refine v_iload_2 dX4_countMoments_7 rfl ?_
    refine v_aload_0 dX4_countMoments_8 rfl ?_
    refine v_getN fl_4_42 x1 rfl (zle rfl) rfl dX4_countMoments_9 rfl ?_
    refine v_top x15 ?_
    refine v_icmp_ge_f (tgt := 33) (nI_ge (a := q) (b := 2 ^ (tn (r 10 e))) (by omega) (by omega)) dX4_countMoments_12 (by decide) rfl ?_
    refine v_iload_1 dX4_countMoments_15 rfl ?_
    refine v_aload_0 dX4_countMoments_16 rfl ?_
    refine v_getP fl_4_22 x8 x1 rfl (zle rfl) rfl dX4_countMoments_17 rfl ?_
    refine v_iload_2 dX4_countMoments_20 rfl ?_
    refine v_iald (j := q) x10 rfl (by omega) (by omega) dX4_countMoments_21 rfl ?_
    refine v_top r1 ?_
    refine v_callS (c_J6_bitCount_0f7a4 (rm q) r2) yy_J6_bitCount_0f7a4 st_J6_bitCount_0f7a4 lk_4_116 (zle rfl) (zle rfl) (zle rfl) (zle rfl) rfl rfl (zle rfl) dX4_countMoments_22 rfl (zp.use ?_)
    refine v_iadd dX4_countMoments_25 rfl ?_
    refine v_top ((nI_add _ _).trans (congrArg nI est)) ?_
    refine v_istore_1 dX4_countMoments_26 rfl (zle rfl) rfl ?_
    refine v_iinc_2 dX4_countMoments_27 (nI_1 q) rfl (zle rfl) rfl ?_
    refine v_goto (n := 7) dX4_countMoments_30 (by decide) ?_
    exact ih (q + 1) (by omega) (by omega)
theorem c_X4_countMoments {E : zE} {T : zT} {N : zN} {P : zP} {I : zI} {R : zR} (sx nt sa na ra ta ln ea pa : Nat) (pp : Nat → Nat) (r : zg) (e d S0 : Nat) (nc nw c0 : Nat) (s : Prop) (rm : Nat → Nat) (hX : SxE T N P R sx nt sa na ra ta ln ea pa pp r e d S0) (hS0 : S0 < 2 ^ (tn (r 10 e))) (hc0 : c0 < nc) (hR : RcR I ra (tn (r 10 e)) rm) (hB : ∀ S c, S < 2 ^ (tn (r 10 e)) → ((rm S).testBit c = true ↔ (Rch r e (tn (r 10 e)) nc nw d s S0 c0) S c)) : zC E yX4_countMoments cX4_countMoments 3 (some .int) (zr0 1 20) [.ref sx] T N P I R (zp (nI (cnp (fun q => (Rch r e (tn (r 10 e)) nc nw d s S0 c0) (q / 8) (q % 8) ∧ (fun _ => True) q) (32768))) T N P I R) := by
  refine zC.intro (ls := [some (.ref sx), none, none]) pl_RX4 (zle rfl) 2 rfl (fun K => ?_)
  obtain ⟨⟨x1, x2, x3, x4, x5, x6, x7, x8, x9, x10, x11, x12, x13, x14, x15⟩, xE, ⟨y1, y2, y3, y4⟩, ⟨z1, z2, z3, z4, z5, z6⟩, xN, xK⟩ := id hX
  have xNb := xN.2
  have h12 : 2 ^ tn (r 10 e) ≤ 2 ^ 12 := Nat.pow_le_pow_right (by decide) (by omega)
  refine v_iconst (v := 0) dX4_countMoments_0 rfl rfl ?_
  refine v_istore_1 dX4_countMoments_1 rfl (zle rfl) rfl ?_
  refine v_aload_0 dX4_countMoments_2 rfl ?_
  refine v_getN fl_4_39 x1 rfl (zle rfl) rfl dX4_countMoments_3 rfl ?_
  refine v_top x14 ?_
  refine v_istore_2 dX4_countMoments_6 rfl (zle rfl) rfl ?_
  have hca := (cnt_all (r := r) (e := e) (np := (tn (r 10 e))) (nc := nc) (nw := nw) (d := d) (s := s) (S0 := S0) (c0 := c0) (p := (fun _ => True)) (by omega) hS0 hc0).2
  have h := lp_X4_countMoments (T := T) (N := N) (P := P) (I := I) (R := R) (nw := nw) (s := s) (K := K) hX hS0 hc0 hR hB (2 ^ (tn (r 10 e)) - S0) S0 (by omega) (Nat.le_refl _)
  rw [hca] at h
  exact h
theorem il_X4_countDeadEnds {E : zE} {T : zT} {N : zN} {P : zP} {I : zI} {R : zR} {sx nt sa na ra ta ln ea pa : Nat} {pp : Nat → Nat} {r : zg} {e d S0 : Nat} {nc nw c0 : Nat} {s : Prop} {rm : Nat → Nat} {tm : Nat → Nat → Nat} {Qf : State → Prop} {K : zK E yX4_countDeadEnds cX4_countDeadEnds 4 (some .int) (zr0 1 22)} (hX : SxE T N P R sx nt sa na ra ta ln ea pa pp r e d S0) (hS0 : S0 < 2 ^ (tn (r 10 e))) (hc0 : c0 < nc) (hR : RcR I ra (tn (r 10 e)) rm) (hB : ∀ S c, S < 2 ^ (tn (r 10 e)) → ((rm S).testBit c = true ↔ (Rch r e (tn (r 10 e)) nc nw d s S0 c0) S c)) (hrow : ∀ S c, (Rch r e (tn (r 10 e)) nc nw d s S0 c0) S c → I ta (8 * S + c) = nI (tm S c) ∧ tm S c ≤ NEVn) {q : Nat} (hq : q < 2 ^ (tn (r 10 e))) (kk : V K Qf T N P I R 0 0 56 [some (.ref sx), some (.int (nI (cnp (fun q => (Rch r e (tn (r 10 e)) nc nw d s S0 c0) (q / 8) (q % 8) ∧ (fun q => NEVn ≤ tm (q / 8) (q % 8)) q) (8 * q + 8)))), some (.int (nI q)), some (.int (nI 8))] []) : ∀ k c, c + k = 8 → V K Qf T N P I R 0 0 17 [some (.ref sx), some (.int (nI (cnp (fun q => (Rch r e (tn (r 10 e)) nc nw d s S0 c0) (q / 8) (q % 8) ∧ (fun q => NEVn ≤ tm (q / 8) (q % 8)) q) (8 * q + c)))), some (.int (nI q)), some (.int (nI c))] [] := by
  obtain ⟨⟨x1, x2, x3, x4, x5, x6, x7, x8, x9, x10, x11, x12, x13, x14, x15⟩, xE, ⟨y1, y2, y3, y4⟩, ⟨z1, z2, z3, z4, z5, z6⟩, xN, xK⟩ := id hX
  have xNb := xN.2
  have h12 : 2 ^ tn (r 10 e) ≤ 2 ^ 12 := Nat.pow_le_pow_right (by decide) (by omega)
  have hNV := NEV_le
  intro k
  induction k with
  | zero =>
    intro c hc
    obtain rfl : c = 8 := by omega
    refine v_iload_3 dX4_countDeadEnds_17 rfl ?_
    refine v_bipush (v := 8) dX4_countDeadEnds_18 rfl rfl ?_
    refine v_icmp_ge_t (n := 56) (by decide) dX4_countDeadEnds_20 (by decide) ?_
    exact kk
  | succ k ih =>
    intro c hc
    obtain ⟨r1, r2⟩ := hR q hq
    have hcb := cnp_le (fun q => (Rch r e (tn (r 10 e)) nc nw d s S0 c0) (q / 8) (q % 8) ∧ (fun q => NEVn ≤ tm (q / 8) (q % 8)) q) (8 * q + c)
    have ed : (8 * q + c) / 8 = q := by omega
    have em : (8 * q + c) % 8 = c := by omega
    have hye : (Rch r e (tn (r 10 e)) nc nw d s S0 c0) q c → (NEVn ≤ tm (q) (c)) → nI (cnp (fun q => (Rch r e (tn (r 10 e)) nc nw d s S0 c0) (q / 8) (q % 8) ∧ (fun q => NEVn ≤ tm (q / 8) (q % 8)) q) (8 * q + c)) + 1 = nI (cnp (fun q => (Rch r e (tn (r 10 e)) nc nw d s S0 c0) (q / 8) (q % 8) ∧ (fun q => NEVn ≤ tm (q / 8) (q % 8)) q) (8 * q + (c + 1))) := fun h1 h2 => by
      rw [show 8 * q + (c + 1) = 8 * q + c + 1 by omega, cnp_t (p := (fun q => (Rch r e (tn (r 10 e)) nc nw d s S0 c0) (q / 8) (q % 8) ∧ (fun q => NEVn ≤ tm (q / 8) (q % 8)) q)) (by show (Rch r e (tn (r 10 e)) nc nw d s S0 c0) ((8 * q + c) / 8) ((8 * q + c) % 8) ∧ (fun q => NEVn ≤ tm (q / 8) (q % 8)) (8 * q + c); rw [ed, em]; exact ⟨h1, by show (NEVn ≤ tm ((8 * q + c) / 8) ((8 * q + c) % 8)); rw [ed, em]; exact h2⟩), nI_1]
    have hno : ¬ ((Rch r e (tn (r 10 e)) nc nw d s S0 c0) q c ∧ (NEVn ≤ tm (q) (c))) → nI (cnp (fun q => (Rch r e (tn (r 10 e)) nc nw d s S0 c0) (q / 8) (q % 8) ∧ (fun q => NEVn ≤ tm (q / 8) (q % 8)) q) (8 * q + c)) = nI (cnp (fun q => (Rch r e (tn (r 10 e)) nc nw d s S0 c0) (q / 8) (q % 8) ∧ (fun q => NEVn ≤ tm (q / 8) (q % 8)) q) (8 * q + (c + 1))) := fun h1 => by
      rw [show 8 * q + (c + 1) = 8 * q + c + 1 by omega, cnp_f (p := (fun q => (Rch r e (tn (r 10 e)) nc nw d s S0 c0) (q / 8) (q % 8) ∧ (fun q => NEVn ≤ tm (q / 8) (q % 8)) q)) (fun h => h1 (by
        have h2 : (Rch r e (tn (r 10 e)) nc nw d s S0 c0) ((8 * q + c) / 8) ((8 * q + c) % 8) ∧ (NEVn ≤ tm ((8 * q + c) / 8) ((8 * q + c) % 8)) := h
        rw [ed, em] at h2; exact h2))]
    refine v_iload_3 dX4_countDeadEnds_17 rfl ?_
    refine v_bipush (v := 8) dX4_countDeadEnds_18 rfl rfl ?_
    refine v_icmp_ge_f (tgt := 56) (nI_ge (a := c) (b := 8) (by omega) (by decide)) dX4_countDeadEnds_20 (by decide) rfl ?_
    refine v_aload_0 dX4_countDeadEnds_23 rfl ?_
    refine v_getP fl_4_22 x8 x1 rfl (zle rfl) rfl dX4_countDeadEnds_24 rfl ?_
    refine v_iload_2 dX4_countDeadEnds_27 rfl ?_
    refine v_iald (j := q) x10 rfl (by omega) (by omega) dX4_countDeadEnds_28 rfl ?_
    refine v_top r1 ?_
    refine v_iload_3 dX4_countDeadEnds_29 rfl ?_
    refine v_callS (c_X10_has (nI (rm q)) c (by omega)) yy_X10_has st_X10_has lk_4_77 (zle rfl) (zle rfl) (zle rfl) (zle rfl) rfl rfl (zle rfl) dX4_countDeadEnds_30 rfl (zp.use ?_)
    refine v_top (zb_iff (q := (Rch r e (tn (r 10 e)) nc nw d s S0 c0) q c) (by rw [bt_nI (by omega)]; exact hB q c hq)) ?_
    refine v_ifz_eq (tgt := 50) dX4_countDeadEnds_33 (by decide) rfl (fun c33 => ?_) (fun c33 => ?_)
    · refine v_iinc_3 dX4_countDeadEnds_50 (nI_1 c) rfl (zle rfl) rfl ?_
      refine v_goto (n := 17) dX4_countDeadEnds_53 (by decide) ?_
      have h := ih (c + 1) (by omega)
      rw [← hno (fun h => c33 h.1)] at h
      exact h
    · refine v_aload_0 dX4_countDeadEnds_36 rfl ?_
      refine v_iload_3 dX4_countDeadEnds_37 rfl ?_
      refine v_iload_2 dX4_countDeadEnds_38 rfl ?_
      obtain ⟨b1, b2⟩ := hrow q c c33
      refine v_callV (ci := 4) (F := TX4) (c_X4_timeFrom sx nt sa na ra ta ln ea pa pp r e d S0 q c (tm q c) hX hq (by omega) b1) yy_X4_timeFrom im_X4_timeFrom se_X4_timeFrom lk_4_105 x1 (zle rfl) rfl (zle rfl) (zle rfl) (zle rfl) (zle rfl) rfl rfl (zle rfl) dX4_countDeadEnds_39 rfl (zp.use ?_)
      refine v_ldc dX4_countDeadEnds_42 kc_4_49 rfl ?_
      by_cases hlt : tm q c < NEVn
      · refine v_icmp_lt_t (n := 50) (nI_lt (a := tm q c) (b := NEVn) hlt (by decide)) dX4_countDeadEnds_44 (by decide) ?_
        refine v_iinc_3 dX4_countDeadEnds_50 (nI_1 c) rfl (zle rfl) rfl ?_
        refine v_goto (n := 17) dX4_countDeadEnds_53 (by decide) ?_
        have h := ih (c + 1) (by omega)
        rw [← hno (fun h => absurd h.2 (Nat.not_le.mpr hlt))] at h
        exact h
      · refine v_icmp_lt_f (tgt := 50) (nI_nlt (a := tm q c) (b := NEVn) (by omega) (by omega)) dX4_countDeadEnds_44 (by decide) rfl ?_
        refine v_iinc_1 dX4_countDeadEnds_47 rfl rfl (zle rfl) rfl ?_
        refine v_iinc_3 dX4_countDeadEnds_50 (nI_1 c) rfl (zle rfl) rfl ?_
        refine v_goto (n := 17) dX4_countDeadEnds_53 (by decide) ?_
        have h := ih (c + 1) (by omega)
        rw [← hye c33 (Nat.not_lt.mp hlt)] at h
        exact h
theorem ol_X4_countDeadEnds {E : zE} {T : zT} {N : zN} {P : zP} {I : zI} {R : zR} {sx nt sa na ra ta ln ea pa : Nat} {pp : Nat → Nat} {r : zg} {e d S0 : Nat} {nc nw c0 : Nat} {s : Prop} {rm : Nat → Nat} {tm : Nat → Nat → Nat} {K : zK E yX4_countDeadEnds cX4_countDeadEnds 4 (some .int) (zr0 1 22)} (hX : SxE T N P R sx nt sa na ra ta ln ea pa pp r e d S0) (hS0 : S0 < 2 ^ (tn (r 10 e))) (hc0 : c0 < nc) (hR : RcR I ra (tn (r 10 e)) rm) (hB : ∀ S c, S < 2 ^ (tn (r 10 e)) → ((rm S).testBit c = true ↔ (Rch r e (tn (r 10 e)) nc nw d s S0 c0) S c)) (hrow : ∀ S c, (Rch r e (tn (r 10 e)) nc nw d s S0 c0) S c → I ta (8 * S + c) = nI (tm S c) ∧ tm S c ≤ NEVn) : ∀ k q (o3 : Option Value), q + k = 2 ^ (tn (r 10 e)) → S0 ≤ q → V K (zQf K (zp (nI (cnp (fun q => (Rch r e (tn (r 10 e)) nc nw d s S0 c0) (q / 8) (q % 8) ∧ (fun q => NEVn ≤ tm (q / 8) (q % 8)) q) (32768))) T N P I R)) T N P I R 0 0 7 [some (.ref sx), some (.int (nI (cnp (fun q => (Rch r e (tn (r 10 e)) nc nw d s S0 c0) (q / 8) (q % 8) ∧ (fun q => NEVn ≤ tm (q / 8) (q % 8)) q) (8 * q)))), some (.int (nI q)), o3] [] := by
  obtain ⟨⟨x1, x2, x3, x4, x5, x6, x7, x8, x9, x10, x11, x12, x13, x14, x15⟩, xE, ⟨y1, y2, y3, y4⟩, ⟨z1, z2, z3, z4, z5, z6⟩, xN, xK⟩ := id hX
  have xNb := xN.2
  have h12 : 2 ^ tn (r 10 e) ≤ 2 ^ 12 := Nat.pow_le_pow_right (by decide) (by omega)
  obtain ⟨ca, cb⟩ := cnt_all (r := r) (e := e) (np := (tn (r 10 e))) (nc := nc) (nw := nw) (d := d) (s := s) (S0 := S0) (c0 := c0) (p := (fun q => NEVn ≤ tm (q / 8) (q % 8))) (by omega) hS0 hc0
  intro k
  induction k with
  | zero =>
    intro q o3 hq hq0
    obtain rfl : q = 2 ^ (tn (r 10 e)) := by omega
    refine v_iload_2 dX4_countDeadEnds_7 rfl ?_
    refine v_aload_0 dX4_countDeadEnds_8 rfl ?_
    refine v_getN fl_4_42 x1 rfl (zle rfl) rfl dX4_countDeadEnds_9 rfl ?_
    refine v_top x15 ?_
    refine v_icmp_ge_t (n := 62) (nI_le (a := 2 ^ (tn (r 10 e))) (b := 2 ^ (tn (r 10 e))) (Nat.le_refl _) (by omega)) dX4_countDeadEnds_12 (by decide) ?_
    refine v_iload_1 dX4_countDeadEnds_62 rfl ?_
    exact v_ireturn rfl (zp_e (congrArg nI ca.symm)) (zle rfl) (zle rfl) dX4_countDeadEnds_63
  | succ k ih =>
    intro q o3 hq hq0
    refine v_iload_2 dX4_countDeadEnds_7 rfl ?_
    refine v_aload_0 dX4_countDeadEnds_8 rfl ?_
    refine v_getN fl_4_42 x1 rfl (zle rfl) rfl dX4_countDeadEnds_9 rfl ?_
    refine v_top x15 ?_
    refine v_icmp_ge_f (tgt := 62) (nI_ge (a := q) (b := 2 ^ (tn (r 10 e))) (by omega) (by omega)) dX4_countDeadEnds_12 (by decide) rfl ?_
    refine v_iconst (v := 0) dX4_countDeadEnds_15 rfl rfl ?_
    refine v_istore_3 dX4_countDeadEnds_16 rfl (zle rfl) rfl ?_
    refine il_X4_countDeadEnds hX hS0 hc0 hR hB hrow (q := q) (by omega) ?_ 8 0 (by omega)
    refine v_iinc_2 (b := nI (q + 1)) dX4_countDeadEnds_56 (nI_1 q) rfl (zle rfl) rfl ?_
    refine v_goto (n := 7) dX4_countDeadEnds_59 (by decide) ?_
    have h := ih (q + 1) (some (.int (nI 8))) (by omega) (by omega)
    rw [show 8 * (q + 1) = 8 * q + 8 by omega] at h
    exact h
theorem c_X4_countDeadEnds {E : zE} {T : zT} {N : zN} {P : zP} {I : zI} {R : zR} (sx nt sa na ra ta ln ea pa : Nat) (pp : Nat → Nat) (r : zg) (e d S0 : Nat) (nc nw c0 : Nat) (s : Prop) (rm : Nat → Nat) (tm : Nat → Nat → Nat) (hX : SxE T N P R sx nt sa na ra ta ln ea pa pp r e d S0) (hS0 : S0 < 2 ^ (tn (r 10 e))) (hc0 : c0 < nc) (hR : RcR I ra (tn (r 10 e)) rm) (hB : ∀ S c, S < 2 ^ (tn (r 10 e)) → ((rm S).testBit c = true ↔ (Rch r e (tn (r 10 e)) nc nw d s S0 c0) S c)) (hrow : ∀ S c, (Rch r e (tn (r 10 e)) nc nw d s S0 c0) S c → I ta (8 * S + c) = nI (tm S c) ∧ tm S c ≤ NEVn) : zC E yX4_countDeadEnds cX4_countDeadEnds 4 (some .int) (zr0 1 22) [.ref sx] T N P I R (zp (nI (cnp (fun q => (Rch r e (tn (r 10 e)) nc nw d s S0 c0) (q / 8) (q % 8) ∧ (fun q => NEVn ≤ tm (q / 8) (q % 8)) q) (32768))) T N P I R) := by
  refine zC.intro (ls := [some (.ref sx), none, none, none]) pl_RX4 (zle rfl) 3 rfl (fun K => ?_)
  obtain ⟨⟨x1, x2, x3, x4, x5, x6, x7, x8, x9, x10, x11, x12, x13, x14, x15⟩, xE, ⟨y1, y2, y3, y4⟩, ⟨z1, z2, z3, z4, z5, z6⟩, xN, xK⟩ := id hX
  have xNb := xN.2
  have h12 : 2 ^ tn (r 10 e) ≤ 2 ^ 12 := Nat.pow_le_pow_right (by decide) (by omega)
  refine v_iconst (v := 0) dX4_countDeadEnds_0 rfl rfl ?_
  refine v_istore_1 dX4_countDeadEnds_1 rfl (zle rfl) rfl ?_
  refine v_aload_0 dX4_countDeadEnds_2 rfl ?_
  refine v_getN fl_4_39 x1 rfl (zle rfl) rfl dX4_countDeadEnds_3 rfl ?_
  refine v_top x14 ?_
  refine v_istore_2 dX4_countDeadEnds_6 rfl (zle rfl) rfl ?_
  have hca := (cnt_all (r := r) (e := e) (np := (tn (r 10 e))) (nc := nc) (nw := nw) (d := d) (s := s) (S0 := S0) (c0 := c0) (p := (fun q => NEVn ≤ tm (q / 8) (q % 8))) (by omega) hS0 hc0).2
  have h := ol_X4_countDeadEnds (T := T) (N := N) (P := P) (I := I) (R := R) (nw := nw) (s := s) (K := K) hX hS0 hc0 hR hB hrow (2 ^ (tn (r 10 e)) - S0) S0 none (by omega) (Nat.le_refl _)
  rw [hca] at h
  exact h
theorem c_X0_hasTwoVoices {E : zE} {T : zT} {N : zN} {P : zP} {I : zI} {R : zR} (e ea pa d : Nat) (pp : Nat → Nat) (r : zg) (c S : Int32) (hE : REe T N P R ea pa pp r e) (hn : Nt (r 10 e) 13) (hk : ∀ p, p < tn (r 10 e) → Nt (r 11 (12 * e + p)) 4) (hd : d < 7) : zC E yX0_hasTwoVoices cX0_hasTwoVoices 5 (some .boolean) (zr0 2 48) [.ref ea, .int c, .int S, .int (nI d)] T N P I R (zp (zb (1 < cnp (canP r e c S d) (tn (r 10 e)))) T N P I R) := by
  refine zC.intro (ls := [some (.ref ea), some (.int c), some (.int S), some (.int (nI d)), none]) pl_RX0 (zle rfl) 1 rfl (fun K => ?_)
  refine v_aload_0 dX0_hasTwoVoices_0 rfl ?_
  refine v_iconst (v := 0) dX0_hasTwoVoices_1 rfl rfl ?_
  refine v_iload_1 dX0_hasTwoVoices_2 rfl ?_
  refine v_iload_2 dX0_hasTwoVoices_3 rfl ?_
  refine v_iload_3 dX0_hasTwoVoices_4 rfl ?_
  refine v_callV (ci := 0) (F := TX0) (c_X0_nextPiece e ea pa 0 d pp r c S hE hn hk hd (Nat.zero_le _)) yy_X0_nextPiece im_X0_nextPiece se_X0_nextPiece lk_0_38 hE.1 (zle rfl) rfl (zle rfl) (zle rfl) (zle rfl) (zle rfl) rfl rfl (zle rfl) dX0_hasTwoVoices_5 rfl (zp.use ?_)
  rcases nxv_or (canP r e c S d) 0 (tn (r 10 e)) with ⟨g1, g2⟩ | ⟨p, g0, g1, g2, g3, g4⟩
  · refine v_top g1 ?_
    refine v_istore_4 dX0_hasTwoVoices_8 rfl (zle rfl) rfl ?_
    refine v_iload_4 dX0_hasTwoVoices_10 rfl ?_
    refine v_if_lt_t (n := 33) (by decide) dX0_hasTwoVoices_12 (by decide) ?_
    refine v_iconst (v := 0) dX0_hasTwoVoices_33 rfl rfl ?_
    exact v_zreturn rfl rfl (by rw [zb_f (fun h => by rw [cnp_z _ (fun q hq => g2 q (Nat.zero_le _) hq)] at h; omega)]; exact zp.rf) (zle rfl) (zle rfl) dX0_hasTwoVoices_34
  · refine v_top g4 ?_
    have hnb := hn.2
    have htv := two_v g2 (fun q hq => g3 q (Nat.zero_le _) hq) _ g1
    refine v_istore_4 dX0_hasTwoVoices_8 rfl (zle rfl) rfl ?_
    refine v_iload_4 dX0_hasTwoVoices_10 rfl ?_
    refine v_if_lt_f (tgt := 33) (nI_pos (by omega)) dX0_hasTwoVoices_12 (by decide) rfl ?_
    refine v_aload_0 dX0_hasTwoVoices_15 rfl ?_
    refine v_iload_4 dX0_hasTwoVoices_16 rfl ?_
    refine v_iconst (v := 1) dX0_hasTwoVoices_18 rfl rfl ?_
    refine v_iadd dX0_hasTwoVoices_19 rfl ?_
    refine v_top (nI_1 p) ?_
    refine v_iload_1 dX0_hasTwoVoices_20 rfl ?_
    refine v_iload_2 dX0_hasTwoVoices_21 rfl ?_
    refine v_iload_3 dX0_hasTwoVoices_22 rfl ?_
    refine v_callV (ci := 0) (F := TX0) (c_X0_nextPiece e ea pa (p + 1) d pp r c S hE hn hk hd (by omega)) yy_X0_nextPiece im_X0_nextPiece se_X0_nextPiece lk_0_38 hE.1 (zle rfl) rfl (zle rfl) (zle rfl) (zle rfl) (zle rfl) rfl rfl (zle rfl) dX0_hasTwoVoices_23 rfl (zp.use ?_)
    rcases nxv_or (canP r e c S d) (p + 1) (tn (r 10 e)) with ⟨q1, q2⟩ | ⟨q, q0, q1, q2, q3, q4⟩
    · refine v_top q1 ?_
      refine v_if_lt_t (n := 33) (by decide) dX0_hasTwoVoices_26 (by decide) ?_
      refine v_iconst (v := 0) dX0_hasTwoVoices_33 rfl rfl ?_
      exact v_zreturn rfl rfl (by rw [zb_f (fun h => by obtain ⟨q, a1, a2, a3⟩ := htv.mp h; exact q2 q (by omega) a2 a3)]; exact zp.rf) (zle rfl) (zle rfl) dX0_hasTwoVoices_34
    · refine v_top q4 ?_
      refine v_if_lt_f (tgt := 33) (nI_pos (by omega)) dX0_hasTwoVoices_26 (by decide) rfl ?_
      refine v_iconst (v := 1) dX0_hasTwoVoices_29 rfl rfl ?_
      refine v_goto (n := 34) dX0_hasTwoVoices_30 (by decide) ?_
      exact v_zreturn rfl rfl (by rw [zb_t (htv.mpr ⟨q, by omega, q1, q2⟩)]; exact zp.rf) (zle rfl) (zle rfl) dX0_hasTwoVoices_34
theorem il_X4_countTwoVoices {E : zE} {T : zT} {N : zN} {P : zP} {I : zI} {R : zR} {sx nt sa na ra ta ln ea pa : Nat} {pp : Nat → Nat} {r : zg} {e d S0 : Nat} {nc nw c0 : Nat} {s : Prop} {rm : Nat → Nat} {Qf : State → Prop} {K : zK E yX4_countTwoVoices cX4_countTwoVoices 4 (some .int) (zr0 3 72)} (hX : SxE T N P R sx nt sa na ra ta ln ea pa pp r e d S0) (hS0 : S0 < 2 ^ (tn (r 10 e))) (hc0 : c0 < nc) (hR : RcR I ra (tn (r 10 e)) rm) (hB : ∀ S c, S < 2 ^ (tn (r 10 e)) → ((rm S).testBit c = true ↔ (Rch r e (tn (r 10 e)) nc nw d s S0 c0) S c)) {q : Nat} (hq : q < 2 ^ (tn (r 10 e))) (kk : V K Qf T N P I R 0 0 72 [some (.ref sx), some (.int (nI (cnp (fun q => (Rch r e (tn (r 10 e)) nc nw d s S0 c0) (q / 8) (q % 8) ∧ (fun q => ¬ ovr r e (nI (q / 8)) (tn (r 10 e)) ∧ 1 < cnp (canP r e (nI (q % 8)) (nI (q / 8)) d) (tn (r 10 e))) q) (8 * q + 8)))), some (.int (nI q)), some (.int (nI 8))] []) : ∀ k c, c + k = 8 → V K Qf T N P I R 0 0 17 [some (.ref sx), some (.int (nI (cnp (fun q => (Rch r e (tn (r 10 e)) nc nw d s S0 c0) (q / 8) (q % 8) ∧ (fun q => ¬ ovr r e (nI (q / 8)) (tn (r 10 e)) ∧ 1 < cnp (canP r e (nI (q % 8)) (nI (q / 8)) d) (tn (r 10 e))) q) (8 * q + c)))), some (.int (nI q)), some (.int (nI c))] [] := by
  obtain ⟨⟨x1, x2, x3, x4, x5, x6, x7, x8, x9, x10, x11, x12, x13, x14, x15⟩, xE, ⟨y1, y2, y3, y4⟩, ⟨z1, z2, z3, z4, z5, z6⟩, xN, xK⟩ := id hX
  have xNb := xN.2
  have h12 : 2 ^ tn (r 10 e) ≤ 2 ^ 12 := Nat.pow_le_pow_right (by decide) (by omega)
  have hNV := NEV_le
  intro k
  induction k with
  | zero =>
    intro c hc
    obtain rfl : c = 8 := by omega
    refine v_iload_3 dX4_countTwoVoices_17 rfl ?_
    refine v_bipush (v := 8) dX4_countTwoVoices_18 rfl rfl ?_
    refine v_icmp_ge_t (n := 72) (by decide) dX4_countTwoVoices_20 (by decide) ?_
    exact kk
  | succ k ih =>
    intro c hc
    obtain ⟨r1, r2⟩ := hR q hq
    have hcb := cnp_le (fun q => (Rch r e (tn (r 10 e)) nc nw d s S0 c0) (q / 8) (q % 8) ∧ (fun q => ¬ ovr r e (nI (q / 8)) (tn (r 10 e)) ∧ 1 < cnp (canP r e (nI (q % 8)) (nI (q / 8)) d) (tn (r 10 e))) q) (8 * q + c)
    have ed : (8 * q + c) / 8 = q := by omega
    have em : (8 * q + c) % 8 = c := by omega
    have hye : (Rch r e (tn (r 10 e)) nc nw d s S0 c0) q c → (¬ ovr r e (nI (q)) (tn (r 10 e)) ∧ 1 < cnp (canP r e (nI (c)) (nI (q)) d) (tn (r 10 e))) → nI (cnp (fun q => (Rch r e (tn (r 10 e)) nc nw d s S0 c0) (q / 8) (q % 8) ∧ (fun q => ¬ ovr r e (nI (q / 8)) (tn (r 10 e)) ∧ 1 < cnp (canP r e (nI (q % 8)) (nI (q / 8)) d) (tn (r 10 e))) q) (8 * q + c)) + 1 = nI (cnp (fun q => (Rch r e (tn (r 10 e)) nc nw d s S0 c0) (q / 8) (q % 8) ∧ (fun q => ¬ ovr r e (nI (q / 8)) (tn (r 10 e)) ∧ 1 < cnp (canP r e (nI (q % 8)) (nI (q / 8)) d) (tn (r 10 e))) q) (8 * q + (c + 1))) := fun h1 h2 => by
      rw [show 8 * q + (c + 1) = 8 * q + c + 1 by omega, cnp_t (p := (fun q => (Rch r e (tn (r 10 e)) nc nw d s S0 c0) (q / 8) (q % 8) ∧ (fun q => ¬ ovr r e (nI (q / 8)) (tn (r 10 e)) ∧ 1 < cnp (canP r e (nI (q % 8)) (nI (q / 8)) d) (tn (r 10 e))) q)) (by show (Rch r e (tn (r 10 e)) nc nw d s S0 c0) ((8 * q + c) / 8) ((8 * q + c) % 8) ∧ (fun q => ¬ ovr r e (nI (q / 8)) (tn (r 10 e)) ∧ 1 < cnp (canP r e (nI (q % 8)) (nI (q / 8)) d) (tn (r 10 e))) (8 * q + c); rw [ed, em]; exact ⟨h1, by show (¬ ovr r e (nI ((8 * q + c) / 8)) (tn (r 10 e)) ∧ 1 < cnp (canP r e (nI ((8 * q + c) % 8)) (nI ((8 * q + c) / 8)) d) (tn (r 10 e))); rw [ed, em]; exact h2⟩), nI_1]
    have hno : ¬ ((Rch r e (tn (r 10 e)) nc nw d s S0 c0) q c ∧ (¬ ovr r e (nI (q)) (tn (r 10 e)) ∧ 1 < cnp (canP r e (nI (c)) (nI (q)) d) (tn (r 10 e)))) → nI (cnp (fun q => (Rch r e (tn (r 10 e)) nc nw d s S0 c0) (q / 8) (q % 8) ∧ (fun q => ¬ ovr r e (nI (q / 8)) (tn (r 10 e)) ∧ 1 < cnp (canP r e (nI (q % 8)) (nI (q / 8)) d) (tn (r 10 e))) q) (8 * q + c)) = nI (cnp (fun q => (Rch r e (tn (r 10 e)) nc nw d s S0 c0) (q / 8) (q % 8) ∧ (fun q => ¬ ovr r e (nI (q / 8)) (tn (r 10 e)) ∧ 1 < cnp (canP r e (nI (q % 8)) (nI (q / 8)) d) (tn (r 10 e))) q) (8 * q + (c + 1))) := fun h1 => by
      rw [show 8 * q + (c + 1) = 8 * q + c + 1 by omega, cnp_f (p := (fun q => (Rch r e (tn (r 10 e)) nc nw d s S0 c0) (q / 8) (q % 8) ∧ (fun q => ¬ ovr r e (nI (q / 8)) (tn (r 10 e)) ∧ 1 < cnp (canP r e (nI (q % 8)) (nI (q / 8)) d) (tn (r 10 e))) q)) (fun h => h1 (by
        have h2 : (Rch r e (tn (r 10 e)) nc nw d s S0 c0) ((8 * q + c) / 8) ((8 * q + c) % 8) ∧ (¬ ovr r e (nI ((8 * q + c) / 8)) (tn (r 10 e)) ∧ 1 < cnp (canP r e (nI ((8 * q + c) % 8)) (nI ((8 * q + c) / 8)) d) (tn (r 10 e))) := h
        rw [ed, em] at h2; exact h2))]
    refine v_iload_3 dX4_countTwoVoices_17 rfl ?_
    refine v_bipush (v := 8) dX4_countTwoVoices_18 rfl rfl ?_
    refine v_icmp_ge_f (tgt := 72) (nI_ge (a := c) (b := 8) (by omega) (by decide)) dX4_countTwoVoices_20 (by decide) rfl ?_
    refine v_aload_0 dX4_countTwoVoices_23 rfl ?_
    refine v_getP fl_4_22 x8 x1 rfl (zle rfl) rfl dX4_countTwoVoices_24 rfl ?_
    refine v_iload_2 dX4_countTwoVoices_27 rfl ?_
    refine v_iald (j := q) x10 rfl (by omega) (by omega) dX4_countTwoVoices_28 rfl ?_
    refine v_top r1 ?_
    refine v_iload_3 dX4_countTwoVoices_29 rfl ?_
    refine v_callS (c_X10_has (nI (rm q)) c (by omega)) yy_X10_has st_X10_has lk_4_77 (zle rfl) (zle rfl) (zle rfl) (zle rfl) rfl rfl (zle rfl) dX4_countTwoVoices_30 rfl (zp.use ?_)
    refine v_top (zb_iff (q := (Rch r e (tn (r 10 e)) nc nw d s S0 c0) q c) (by rw [bt_nI (by omega)]; exact hB q c hq)) ?_
    refine v_ifz_eq (tgt := 66) dX4_countTwoVoices_33 (by decide) rfl (fun c33 => ?_) (fun c33 => ?_)
    · refine v_iinc_3 dX4_countTwoVoices_66 (nI_1 c) rfl (zle rfl) rfl ?_
      refine v_goto (n := 17) dX4_countTwoVoices_69 (by decide) ?_
      have h := ih (c + 1) (by omega)
      rw [← hno (fun h => c33 h.1)] at h
      exact h
    · refine v_aload_0 dX4_countTwoVoices_36 rfl ?_
      refine v_getP fl_4_31 x12 x1 rfl (zle rfl) rfl dX4_countTwoVoices_37 rfl ?_
      refine v_iload_2 dX4_countTwoVoices_40 rfl ?_
      refine v_callV (ci := 0) (F := TX0) (c_X0_isOver ea (nI q) xE.1) yy_X0_isOver im_X0_isOver se_X0_isOver lk_4_73 xE.1 (zle rfl) rfl (zle rfl) (zle rfl) (zle rfl) (zle rfl) rfl rfl (zle rfl) dX4_countTwoVoices_41 rfl (zp.use ?_)
      refine v_top (zb_iff (q := ovr r e (nI q) (tn (r 10 e))) (ends_ovr xE (by omega) (nI q))) ?_
      refine v_ifz_ne (tgt := 66) dX4_countTwoVoices_44 (by decide) rfl (fun c44 => ?_) (fun c44 => ?_)
      · refine v_iinc_3 dX4_countTwoVoices_66 (nI_1 c) rfl (zle rfl) rfl ?_
        refine v_goto (n := 17) dX4_countTwoVoices_69 (by decide) ?_
        have h := ih (c + 1) (by omega)
        rw [← hno (fun h => h.2.1 c44)] at h
        exact h
      · refine v_aload_0 dX4_countTwoVoices_47 rfl ?_
        refine v_getP fl_4_31 x12 x1 rfl (zle rfl) rfl dX4_countTwoVoices_48 rfl ?_
        refine v_iload_3 dX4_countTwoVoices_51 rfl ?_
        refine v_iload_2 dX4_countTwoVoices_52 rfl ?_
        refine v_aload_0 dX4_countTwoVoices_53 rfl ?_
        refine v_getN fl_4_35 x1 rfl (zle rfl) rfl dX4_countTwoVoices_54 rfl ?_
        refine v_top x13 ?_
        refine v_callV (ci := 0) (F := TX0) (c_X0_hasTwoVoices e ea pa d pp r (nI c) (nI q) xE xN (fun p hp => (xK p hp).1) y3) yy_X0_hasTwoVoices im_X0_hasTwoVoices se_X0_hasTwoVoices lk_4_122 xE.1 (zle rfl) rfl (zle rfl) (zle rfl) (zle rfl) (zle rfl) rfl rfl (zle rfl) dX4_countTwoVoices_57 rfl (zp.use ?_)
        refine v_ifz_eq (tgt := 66) dX4_countTwoVoices_60 (by decide) rfl (fun c60 => ?_) (fun c60 => ?_)
        · refine v_iinc_3 dX4_countTwoVoices_66 (nI_1 c) rfl (zle rfl) rfl ?_
          refine v_goto (n := 17) dX4_countTwoVoices_69 (by decide) ?_
          have h := ih (c + 1) (by omega)
          rw [← hno (fun h => c60 h.2.2)] at h
          exact h
        · refine v_iinc_1 dX4_countTwoVoices_63 rfl rfl (zle rfl) rfl ?_
          refine v_iinc_3 dX4_countTwoVoices_66 (nI_1 c) rfl (zle rfl) rfl ?_
          refine v_goto (n := 17) dX4_countTwoVoices_69 (by decide) ?_
          have h := ih (c + 1) (by omega)
          rw [← hye c33 ⟨c44, c60⟩] at h
          exact h
theorem ol_X4_countTwoVoices {E : zE} {T : zT} {N : zN} {P : zP} {I : zI} {R : zR} {sx nt sa na ra ta ln ea pa : Nat} {pp : Nat → Nat} {r : zg} {e d S0 : Nat} {nc nw c0 : Nat} {s : Prop} {rm : Nat → Nat} {K : zK E yX4_countTwoVoices cX4_countTwoVoices 4 (some .int) (zr0 3 72)} (hX : SxE T N P R sx nt sa na ra ta ln ea pa pp r e d S0) (hS0 : S0 < 2 ^ (tn (r 10 e))) (hc0 : c0 < nc) (hR : RcR I ra (tn (r 10 e)) rm) (hB : ∀ S c, S < 2 ^ (tn (r 10 e)) → ((rm S).testBit c = true ↔ (Rch r e (tn (r 10 e)) nc nw d s S0 c0) S c)) : ∀ k q (o3 : Option Value), q + k = 2 ^ (tn (r 10 e)) → S0 ≤ q → V K (zQf K (zp (nI (cnp (fun q => (Rch r e (tn (r 10 e)) nc nw d s S0 c0) (q / 8) (q % 8) ∧ (fun q => ¬ ovr r e (nI (q / 8)) (tn (r 10 e)) ∧ 1 < cnp (canP r e (nI (q % 8)) (nI (q / 8)) d) (tn (r 10 e))) q) (32768))) T N P I R)) T N P I R 0 0 7 [some (.ref sx), some (.int (nI (cnp (fun q => (Rch r e (tn (r 10 e)) nc nw d s S0 c0) (q / 8) (q % 8) ∧ (fun q => ¬ ovr r e (nI (q / 8)) (tn (r 10 e)) ∧ 1 < cnp (canP r e (nI (q % 8)) (nI (q / 8)) d) (tn (r 10 e))) q) (8 * q)))), some (.int (nI q)), o3] [] := by
  obtain ⟨⟨x1, x2, x3, x4, x5, x6, x7, x8, x9, x10, x11, x12, x13, x14, x15⟩, xE, ⟨y1, y2, y3, y4⟩, ⟨z1, z2, z3, z4, z5, z6⟩, xN, xK⟩ := id hX
  have xNb := xN.2
  have h12 : 2 ^ tn (r 10 e) ≤ 2 ^ 12 := Nat.pow_le_pow_right (by decide) (by omega)
  obtain ⟨ca, cb⟩ := cnt_all (r := r) (e := e) (np := (tn (r 10 e))) (nc := nc) (nw := nw) (d := d) (s := s) (S0 := S0) (c0 := c0) (p := (fun q => ¬ ovr r e (nI (q / 8)) (tn (r 10 e)) ∧ 1 < cnp (canP r e (nI (q % 8)) (nI (q / 8)) d) (tn (r 10 e)))) (by omega) hS0 hc0
  intro k
  induction k with
  | zero =>
    intro q o3 hq hq0
    obtain rfl : q = 2 ^ (tn (r 10 e)) := by omega
    refine v_iload_2 dX4_countTwoVoices_7 rfl ?_
    refine v_aload_0 dX4_countTwoVoices_8 rfl ?_
    refine v_getN fl_4_42 x1 rfl (zle rfl) rfl dX4_countTwoVoices_9 rfl ?_
    refine v_top x15 ?_
    refine v_icmp_ge_t (n := 78) (nI_le (a := 2 ^ (tn (r 10 e))) (b := 2 ^ (tn (r 10 e))) (Nat.le_refl _) (by omega)) dX4_countTwoVoices_12 (by decide) ?_
    refine v_iload_1 dX4_countTwoVoices_78 rfl ?_
    exact v_ireturn rfl (zp_e (congrArg nI ca.symm)) (zle rfl) (zle rfl) dX4_countTwoVoices_79
  | succ k ih =>
    intro q o3 hq hq0
    refine v_iload_2 dX4_countTwoVoices_7 rfl ?_
    refine v_aload_0 dX4_countTwoVoices_8 rfl ?_
    refine v_getN fl_4_42 x1 rfl (zle rfl) rfl dX4_countTwoVoices_9 rfl ?_
    refine v_top x15 ?_
    refine v_icmp_ge_f (tgt := 78) (nI_ge (a := q) (b := 2 ^ (tn (r 10 e))) (by omega) (by omega)) dX4_countTwoVoices_12 (by decide) rfl ?_
    refine v_iconst (v := 0) dX4_countTwoVoices_15 rfl rfl ?_
    refine v_istore_3 dX4_countTwoVoices_16 rfl (zle rfl) rfl ?_
    refine il_X4_countTwoVoices hX hS0 hc0 hR hB (q := q) (by omega) ?_ 8 0 (by omega)
    refine v_iinc_2 (b := nI (q + 1)) dX4_countTwoVoices_72 (nI_1 q) rfl (zle rfl) rfl ?_
    refine v_goto (n := 7) dX4_countTwoVoices_75 (by decide) ?_
    have h := ih (q + 1) (some (.int (nI 8))) (by omega) (by omega)
    rw [show 8 * (q + 1) = 8 * q + 8 by omega] at h
    exact h
theorem c_X4_countTwoVoices {E : zE} {T : zT} {N : zN} {P : zP} {I : zI} {R : zR} (sx nt sa na ra ta ln ea pa : Nat) (pp : Nat → Nat) (r : zg) (e d S0 : Nat) (nc nw c0 : Nat) (s : Prop) (rm : Nat → Nat) (hX : SxE T N P R sx nt sa na ra ta ln ea pa pp r e d S0) (hS0 : S0 < 2 ^ (tn (r 10 e))) (hc0 : c0 < nc) (hR : RcR I ra (tn (r 10 e)) rm) (hB : ∀ S c, S < 2 ^ (tn (r 10 e)) → ((rm S).testBit c = true ↔ (Rch r e (tn (r 10 e)) nc nw d s S0 c0) S c)) : zC E yX4_countTwoVoices cX4_countTwoVoices 4 (some .int) (zr0 3 72) [.ref sx] T N P I R (zp (nI (cnp (fun q => (Rch r e (tn (r 10 e)) nc nw d s S0 c0) (q / 8) (q % 8) ∧ (fun q => ¬ ovr r e (nI (q / 8)) (tn (r 10 e)) ∧ 1 < cnp (canP r e (nI (q % 8)) (nI (q / 8)) d) (tn (r 10 e))) q) (32768))) T N P I R) := by
  refine zC.intro (ls := [some (.ref sx), none, none, none]) pl_RX4 (zle rfl) 3 rfl (fun K => ?_)
  obtain ⟨⟨x1, x2, x3, x4, x5, x6, x7, x8, x9, x10, x11, x12, x13, x14, x15⟩, xE, ⟨y1, y2, y3, y4⟩, ⟨z1, z2, z3, z4, z5, z6⟩, xN, xK⟩ := id hX
  have xNb := xN.2
  have h12 : 2 ^ tn (r 10 e) ≤ 2 ^ 12 := Nat.pow_le_pow_right (by decide) (by omega)
  refine v_iconst (v := 0) dX4_countTwoVoices_0 rfl rfl ?_
  refine v_istore_1 dX4_countTwoVoices_1 rfl (zle rfl) rfl ?_
  refine v_aload_0 dX4_countTwoVoices_2 rfl ?_
  refine v_getN fl_4_39 x1 rfl (zle rfl) rfl dX4_countTwoVoices_3 rfl ?_
  refine v_top x14 ?_
  refine v_istore_2 dX4_countTwoVoices_6 rfl (zle rfl) rfl ?_
  have hca := (cnt_all (r := r) (e := e) (np := (tn (r 10 e))) (nc := nc) (nw := nw) (d := d) (s := s) (S0 := S0) (c0 := c0) (p := (fun q => ¬ ovr r e (nI (q / 8)) (tn (r 10 e)) ∧ 1 < cnp (canP r e (nI (q % 8)) (nI (q / 8)) d) (tn (r 10 e)))) (by omega) hS0 hc0).2
  have h := ol_X4_countTwoVoices (T := T) (N := N) (P := P) (I := I) (R := R) (nw := nw) (s := s) (K := K) hX hS0 hc0 hR hB (2 ^ (tn (r 10 e)) - S0) S0 none (by omega) (Nat.le_refl _)
  rw [hca] at h
  exact h
