theorem nxv_at {Q : Nat → Prop} {n j : Nat} (h : Q j) (hj : j < n) (hl : ∀ q, q < j → ¬ Q q) : nxv Q 0 n = nI j := by
  rcases nxv_or Q 0 n with ⟨g1, g2⟩ | ⟨q, g0, g1, g2, g3, g4⟩
  · exact absurd h (g2 j (Nat.zero_le _) hj)
  · rcases Nat.lt_trichotomy q j with k | k | k
    · exact absurd g2 (hl q k)
    · rw [g4, k]
    · exact absurd h (g3 j (Nat.zero_le _) k)
theorem nxv_no {Q : Nat → Prop} {n : Nat} (hl : ∀ q, q < n → ¬ Q q) : nxv Q 0 n = -1 := by
  rcases nxv_or Q 0 n with ⟨g1, g2⟩ | ⟨q, g0, g1, g2, g3, g4⟩
  · exact g1
  · exact absurd g2 (hl q g1)
theorem qs_cv {f : zf} {r : zg} {e d : Nat} {s : Prop} {S0 c0 : Nat} {tm : Nat → Nat → Nat} {st : Nat → Nat → Nat} {nb : Nat → Nat} (hZ : SrI f r) (he : e < tn (f 9)) (hS0 : S0 < 2 ^ (tn (r 10 e))) (hc0 : c0 < tn (f 0)) (hok : TmOK r e (tn (r 10 e)) (tn (f 0)) (tn (f 3)) d s NEVn (Rch r e (tn (r 10 e)) (tn (f 0)) (tn (f 3)) d s S0 c0) tm) (hNP : NtP (edg r (tn (f 0)) (tn (f 3)) d s) st nb) {S c : Nat} (hR : Rch r e (tn (r 10 e)) (tn (f 0)) (tn (f 3)) d s S0 c0 S c) (hm : mvS r e (tn (r 10 e)) d S c) (hlt : tm S c < NEVn) (t : Nat) : qsP r e (tn (r 10 e)) (tn (f 0)) (tn (f 3)) d s S c t ↔ (∃ l, edg r (tn (f 0)) (tn (f 3)) d s c t l) ∧ st c t + tm S t = tm S c := by
  have h0 := hZ.1.2.1.2
  have h10 := (hZ.1.1.2.2.1 e he).1.2
  have hin := hR.in (by omega) hS0 hc0
  have hso := (hok S hin.2.1).2 c hR hm
  have cc : tm S c = tmv f r e d s S c ∧ tmv f r e d s S c < FARn := by
    rcases tm_cv hZ he hS0 hc0 hok hR with ⟨v1, v2, v3⟩ | ⟨v1, v2⟩
    · exact ⟨v3, v2⟩
    · omega
  have hst : ∀ l, edg r (tn (f 0)) (tn (f 3)) d s c t l → edg r (tn (f 0)) (tn (f 3)) d s c t (st c t) ∧ st c t ≤ l ∧ Rch r e (tn (r 10 e)) (tn (f 0)) (tn (f 3)) d s S0 c0 S t := fun l hl => by
    have h8c := hl.1.2.2.1
    have h8 := hl.1.2.2.2.1
    rcases (hNP c (by omega)).2.2 t (by omega) with g | g
    · exact absurd hl (g.1 l)
    · exact ⟨g.1, g.2 l hl, (Rch.cl S c hR hm.1).2 hm t l hl⟩
  constructor
  · rintro ⟨l, hl, h1⟩
    obtain ⟨a1, a2, a3⟩ := hst l hl
    refine ⟨⟨l, hl⟩, ?_⟩
    have h1 : tmv f r e d s S c = l + tmv f r e d s S t := h1
    have hle := hso.2.1 t (st c t) a1
    rcases tm_cv hZ he hS0 hc0 hok a3 with ⟨v1, v2, v3⟩ | ⟨v1, v2⟩
    · omega
    · omega
  · rintro ⟨⟨l, hl⟩, h1⟩
    obtain ⟨a1, a2, a3⟩ := hst l hl
    refine ⟨st c t, a1, ?_⟩
    show tmv f r e d s S c = st c t + tmv f r e d s S t
    rcases tm_cv hZ he hS0 hc0 hok a3 with ⟨v1, v2, v3⟩ | ⟨v1, v2⟩
    · omega
    · omega
theorem c_X4_timeBy {E : zE} {T : zT} {N : zN} {P : zP} {I : zI} {R : zR} (sx nt sa na ra ta ln ea pa : Nat) (pp : Nat → Nat) (r : zg) (e d S0 : Nat) (nc nw S c t : Nat) (s : Prop) (st : Nat → Nat → Nat) (nb : Nat → Nat) (v : Nat) (hX : SxE T N P R sx nt sa na ra ta ln ea pa pp r e d S0) (hNP : NtP (edg r nc nw d s) st nb) (hNR : NtR I sa na st nb) (hS : S < 2 ^ (tn (r 10 e))) (hc : c < 8) (ht : t < 8) (hl : ∃ l, (edg r nc nw d s) c t l) (hv : I ta (8 * S + t) = nI v) (hvl : v ≤ NEVn) : zC E yX4_timeBy cX4_timeBy 4 (some .int) (zr0 1 22) [.ref sx, .int (nI c), .int (nI t), .int (nI S)] T N P I R (zp (nI (min NEVn (st c t + v))) T N P I R) := by
  refine zC.intro (ls := [some (.ref sx), some (.int (nI c)), some (.int (nI t)), some (.int (nI S))]) pl_RX4 (zle rfl) 0 rfl (fun K => ?_)
  obtain ⟨⟨x1, x2, x3, x4, x5, x6, x7, x8, x9, x10, x11, x12, x13, x14, x15⟩, xE, ⟨y1, y2, y3, y4⟩, ⟨z1, z2, z3, z4, z5, z6⟩, xN, xK⟩ := id hX
  have xNb := xN.2
  have h12 : 2 ^ tn (r 10 e) ≤ 2 ^ 12 := Nat.pow_le_pow_right (by decide) (by omega)
  refine v_aload_0 dX4_timeBy_0 rfl ?_
  refine v_getP fl_4_12 x2 x1 rfl (zle rfl) rfl dX4_timeBy_1 rfl ?_
  refine v_getP fl_4_89 x5 x3 rfl (zle rfl) rfl dX4_timeBy_4 rfl ?_
  refine v_iload_1 dX4_timeBy_7 rfl ?_
  refine v_iald (j := c) x7 rfl hc (zle rfl) dX4_timeBy_8 rfl ?_
  refine v_top (hNR c hc).1 ?_
  refine v_iload_2 dX4_timeBy_9 rfl ?_
  refine v_callS (c_X10_has (nI (nb c)) t (by omega)) yy_X10_has st_X10_has lk_4_77 (zle rfl) (zle rfl) (zle rfl) (zle rfl) rfl rfl (zle rfl) dX4_timeBy_10 rfl (zp.use ?_)
  refine v_top (zb_iff (q := ∃ l, (edg r nc nw d s) c t l) (by rw [bt_nI (by have := (hNP c hc).1; omega)]; exact (hNP c hc).2.1 t ht)) ?_
  refine v_top (zb_t hl) ?_
  have hst : st c t ≤ 20 := by
    obtain ⟨l, hl⟩ := hl
    rcases (hNP c hc).2.2 t ht with g | g
    · exact absurd hl (g.1 l)
    · exact g.1.1.2.1
  have hNV := NEV_le
  refine v_if_ne_t (n := 19) (by decide) dX4_timeBy_13 (by decide) ?_
  refine v_ldc dX4_timeBy_19 kc_4_49 rfl ?_
  refine v_aload_0 dX4_timeBy_21 rfl ?_
  refine v_getP fl_4_12 x2 x1 rfl (zle rfl) rfl dX4_timeBy_22 rfl ?_
  refine v_iload_1 dX4_timeBy_25 rfl ?_
  refine v_iload_2 dX4_timeBy_26 rfl ?_
  refine v_callV (ci := 1) (F := TX1) (c_X1_step nt sa c t (st c t) x3 x4 x6 hc ht ((hNR c hc).2 t ht)) yy_X1_step im_X1_step se_X1_step lk_4_113 x3 (zle rfl) rfl (zle rfl) (zle rfl) (zle rfl) (zle rfl) rfl rfl (zle rfl) dX4_timeBy_27 rfl (zp.use ?_)
  refine v_aload_0 dX4_timeBy_30 rfl ?_
  refine v_iload_2 dX4_timeBy_31 rfl ?_
  refine v_iload_3 dX4_timeBy_32 rfl ?_
  refine v_callV (ci := 4) (F := TX4) (c_X4_timeFrom sx nt sa na ra ta ln ea pa pp r e d S0 S t v hX hS ht hv) yy_X4_timeFrom im_X4_timeFrom se_X4_timeFrom lk_4_105 x1 (zle rfl) rfl (zle rfl) (zle rfl) (zle rfl) (zle rfl) rfl rfl (zle rfl) dX4_timeBy_33 rfl (zp.use ?_)
  refine v_iadd dX4_timeBy_36 rfl ?_
  refine v_top (nI_add _ _) ?_
  refine v_min lk_4_108 st_min ii_math cd_min (zle rfl) (zle rfl) (zle rfl) (zle rfl) dX4_timeBy_37 rfl ?_
  refine v_top (nI_min (a := NEVn) (by decide) (by omega)) ?_
  exact v_ireturn rfl (zp.rf) (zle rfl) (zle rfl) dX4_timeBy_40
theorem c_X4_timeBy_n {E : zE} {T : zT} {N : zN} {P : zP} {I : zI} {R : zR} (sx nt sa na ra ta ln ea pa : Nat) (pp : Nat → Nat) (r : zg) (e d S0 : Nat) (nc nw S c t : Nat) (s : Prop) (st : Nat → Nat → Nat) (nb : Nat → Nat) (hX : SxE T N P R sx nt sa na ra ta ln ea pa pp r e d S0) (hNP : NtP (edg r nc nw d s) st nb) (hNR : NtR I sa na st nb) (hS : S < 2 ^ (tn (r 10 e))) (hc : c < 8) (ht : t < 8) (hl : ¬ ∃ l, (edg r nc nw d s) c t l) : zC E yX4_timeBy cX4_timeBy 4 (some .int) (zr0 1 22) [.ref sx, .int (nI c), .int (nI t), .int (nI S)] T N P I R (zp (nI NEVn) T N P I R) := by
  refine zC.intro (ls := [some (.ref sx), some (.int (nI c)), some (.int (nI t)), some (.int (nI S))]) pl_RX4 (zle rfl) 0 rfl (fun K => ?_)
  obtain ⟨⟨x1, x2, x3, x4, x5, x6, x7, x8, x9, x10, x11, x12, x13, x14, x15⟩, xE, ⟨y1, y2, y3, y4⟩, ⟨z1, z2, z3, z4, z5, z6⟩, xN, xK⟩ := id hX
  have xNb := xN.2
  have h12 : 2 ^ tn (r 10 e) ≤ 2 ^ 12 := Nat.pow_le_pow_right (by decide) (by omega)
  refine v_aload_0 dX4_timeBy_0 rfl ?_
  refine v_getP fl_4_12 x2 x1 rfl (zle rfl) rfl dX4_timeBy_1 rfl ?_
  refine v_getP fl_4_89 x5 x3 rfl (zle rfl) rfl dX4_timeBy_4 rfl ?_
  refine v_iload_1 dX4_timeBy_7 rfl ?_
  refine v_iald (j := c) x7 rfl hc (zle rfl) dX4_timeBy_8 rfl ?_
  refine v_top (hNR c hc).1 ?_
  refine v_iload_2 dX4_timeBy_9 rfl ?_
  refine v_callS (c_X10_has (nI (nb c)) t (by omega)) yy_X10_has st_X10_has lk_4_77 (zle rfl) (zle rfl) (zle rfl) (zle rfl) rfl rfl (zle rfl) dX4_timeBy_10 rfl (zp.use ?_)
  refine v_top (zb_iff (q := ∃ l, (edg r nc nw d s) c t l) (by rw [bt_nI (by have := (hNP c hc).1; omega)]; exact (hNP c hc).2.1 t ht)) ?_
  refine v_top (zb_f hl) ?_
  refine v_if_ne_f (tgt := 19) rfl dX4_timeBy_13 (by decide) rfl ?_
  refine v_ldc dX4_timeBy_16 kc_4_49 rfl ?_
  exact v_ireturn rfl (zp.rf) (zle rfl) (zle rfl) dX4_timeBy_18
theorem lp_X4_quickestStep {E : zE} {T : zT} {N : zN} {P : zP} {I : zI} {R : zR} {sx nt sa na ra ta ln ea pa : Nat} {pp : Nat → Nat} {r : zg} {e d S0 : Nat} {nc nw S c : Nat} {s : Prop} {st : Nat → Nat → Nat} {nb : Nat → Nat} {tm : Nat → Nat → Nat} {Qs : Nat → Prop} {K : zK E yX4_quickestStep cX4_quickestStep 5 (some .int) (zr0 2 45)} (hX : SxE T N P R sx nt sa na ra ta ln ea pa pp r e d S0) (hNP : NtP (edg r nc nw d s) st nb) (hNR : NtR I sa na st nb) (hS : S < 2 ^ (tn (r 10 e))) (hc : c < 8) (hrc : I ta (8 * S + c) = nI (tm S c)) (hlt : tm S c < NEVn) (hrt : ∀ t l, (edg r nc nw d s) c t l → I ta (8 * S + t) = nI (tm S t) ∧ tm S t ≤ NEVn) (hq : ∀ t, Qs t ↔ (∃ l, (edg r nc nw d s) c t l) ∧ st c t + tm S t = tm S c) : ∀ k j (o4 : Option Value), j + k = 8 → (∀ q, q < j → ¬ Qs q) → V K (zQf K (zp (nxv Qs 0 8) T N P I R)) T N P I R 0 0 2 [some (.ref sx), some (.int (nI c)), some (.int (nI S)), some (.int (nI j)), o4] [] := by
  obtain ⟨⟨x1, x2, x3, x4, x5, x6, x7, x8, x9, x10, x11, x12, x13, x14, x15⟩, xE, ⟨y1, y2, y3, y4⟩, ⟨z1, z2, z3, z4, z5, z6⟩, xN, xK⟩ := id hX
  have xNb := xN.2
  have h12 : 2 ^ tn (r 10 e) ≤ 2 ^ 12 := Nat.pow_le_pow_right (by decide) (by omega)
  have hNV := NEV_le
  intro k
  induction k with
  | zero =>
    intro j o4 hj hno
    obtain rfl : j = 8 := by omega
    refine v_iload_3 dX4_quickestStep_2 rfl ?_
    refine v_bipush (v := 8) dX4_quickestStep_3 rfl rfl ?_
    refine v_icmp_ge_t (n := 43) (by decide) dX4_quickestStep_5 (by decide) ?_
    refine v_iconst (v := -1) dX4_quickestStep_43 rfl rfl ?_
    exact v_ireturn rfl (by rw [nxv_no hno]; exact zp.rf) (zle rfl) (zle rfl) dX4_quickestStep_44
  | succ k ih =>
    intro j o4 hj hno
    have nxt : ¬ Qs j → ∀ q, q < j + 1 → ¬ Qs q := fun h q hq => by
      rcases (show q < j ∨ q = j by omega) with g | g
      · exact hno q g
      · subst g; exact h
    refine v_iload_3 dX4_quickestStep_2 rfl ?_
    refine v_bipush (v := 8) dX4_quickestStep_3 rfl rfl ?_
    refine v_icmp_ge_f (tgt := 43) (nI_ge (a := j) (b := 8) (by omega) (by decide)) dX4_quickestStep_5 (by decide) rfl ?_
    refine v_aload_0 dX4_quickestStep_8 rfl ?_
    refine v_iload_1 dX4_quickestStep_9 rfl ?_
    refine v_iload_3 dX4_quickestStep_10 rfl ?_
    refine v_iload_2 dX4_quickestStep_11 rfl ?_
    by_cases hx : ∃ l, (edg r nc nw d s) c j l
    · obtain ⟨l, hl⟩ := hx
      obtain ⟨v1, v2⟩ := hrt j l hl
      have hx : ∃ l, (edg r nc nw d s) c j l := ⟨l, hl⟩
      refine v_callV (ci := 4) (F := TX4) (c_X4_timeBy sx nt sa na ra ta ln ea pa pp r e d S0 nc nw S c j s st nb (tm S j) hX hNP hNR hS hc (by omega) hx v1 v2) yy_X4_timeBy im_X4_timeBy se_X4_timeBy lk_4_129 x1 (zle rfl) rfl (zle rfl) (zle rfl) (zle rfl) (zle rfl) rfl rfl (zle rfl) dX4_quickestStep_12 rfl (zp.use ?_)
      refine v_istore_4 dX4_quickestStep_15 rfl (zle rfl) rfl ?_
      refine v_iload_4 dX4_quickestStep_17 rfl ?_
      refine v_ldc dX4_quickestStep_19 kc_4_49 rfl ?_
      by_cases hsm : st c j + tm S j < NEVn
      · 
        refine v_icmp_ge_f (tgt := 37) (nI_ge (a := min NEVn (st c j + tm S j)) (b := NEVn) (by omega) (by decide)) dX4_quickestStep_21 (by decide) rfl ?_
        refine v_iload_4 dX4_quickestStep_24 rfl ?_
        refine v_aload_0 dX4_quickestStep_26 rfl ?_
        refine v_iload_1 dX4_quickestStep_27 rfl ?_
        refine v_iload_2 dX4_quickestStep_28 rfl ?_
        refine v_callV (ci := 4) (F := TX4) (c_X4_timeFrom sx nt sa na ra ta ln ea pa pp r e d S0 S c (tm S c) hX hS hc hrc) yy_X4_timeFrom im_X4_timeFrom se_X4_timeFrom lk_4_105 x1 (zle rfl) rfl (zle rfl) (zle rfl) (zle rfl) (zle rfl) rfl rfl (zle rfl) dX4_quickestStep_29 rfl (zp.use ?_)
        by_cases hqj : Qs j
        · refine v_icmp_ne_f (tgt := 37) (by rw [show min NEVn (st c j + tm S j) = tm S c by have := ((hq j).mp hqj).2; omega]) dX4_quickestStep_32 (by decide) rfl ?_
          refine v_iload_3 dX4_quickestStep_35 rfl ?_
          exact v_ireturn rfl (by rw [nxv_at hqj (by omega) hno]; exact zp.rf) (zle rfl) (zle rfl) dX4_quickestStep_36
        · refine v_icmp_ne_t (n := 37) (fun h => hqj ((hq j).mpr ⟨hx, by have := (nI_eq (by omega) (by omega)).mp h; omega⟩)) dX4_quickestStep_32 (by decide) ?_
          refine v_iinc_3 dX4_quickestStep_37 (nI_1 j) rfl (zle rfl) rfl ?_
          refine v_goto (n := 2) dX4_quickestStep_40 (by decide) ?_
          exact ih (j + 1) _ (by omega) (nxt hqj)
      · refine v_icmp_ge_t (n := 37) (nI_le (a := NEVn) (b := min NEVn (st c j + tm S j)) (by omega) (by omega)) dX4_quickestStep_21 (by decide) ?_
        refine v_iinc_3 dX4_quickestStep_37 (nI_1 j) rfl (zle rfl) rfl ?_
        refine v_goto (n := 2) dX4_quickestStep_40 (by decide) ?_
        exact ih (j + 1) _ (by omega) (nxt (fun h => by have := ((hq j).mp h).2; omega))
    · refine v_callV (ci := 4) (F := TX4) (c_X4_timeBy_n sx nt sa na ra ta ln ea pa pp r e d S0 nc nw S c j s st nb hX hNP hNR hS hc (by omega) hx) yy_X4_timeBy im_X4_timeBy se_X4_timeBy lk_4_129 x1 (zle rfl) rfl (zle rfl) (zle rfl) (zle rfl) (zle rfl) rfl rfl (zle rfl) dX4_quickestStep_12 rfl (zp.use ?_)
      refine v_istore_4 dX4_quickestStep_15 rfl (zle rfl) rfl ?_
      refine v_iload_4 dX4_quickestStep_17 rfl ?_
      refine v_ldc dX4_quickestStep_19 kc_4_49 rfl ?_
      refine v_icmp_ge_t (n := 37) (nI_le (a := NEVn) (b := NEVn) (Nat.le_refl _) (by decide)) dX4_quickestStep_21 (by decide) ?_
      refine v_iinc_3 dX4_quickestStep_37 (nI_1 j) rfl (zle rfl) rfl ?_
      refine v_goto (n := 2) dX4_quickestStep_40 (by decide) ?_
      exact ih (j + 1) _ (by omega) (nxt (fun h => hx ((hq j).mp h).1))
theorem c_X4_quickestStep {E : zE} {T : zT} {N : zN} {P : zP} {I : zI} {R : zR} (sx nt sa na ra ta ln ea pa : Nat) (pp : Nat → Nat) (r : zg) (e d S0 : Nat) (nc nw S c : Nat) (s : Prop) (st : Nat → Nat → Nat) (nb : Nat → Nat) (tm : Nat → Nat → Nat) (Qs : Nat → Prop) (hX : SxE T N P R sx nt sa na ra ta ln ea pa pp r e d S0) (hNP : NtP (edg r nc nw d s) st nb) (hNR : NtR I sa na st nb) (hS : S < 2 ^ (tn (r 10 e))) (hc : c < 8) (hrc : I ta (8 * S + c) = nI (tm S c)) (hlt : tm S c < NEVn) (hrt : ∀ t l, (edg r nc nw d s) c t l → I ta (8 * S + t) = nI (tm S t) ∧ tm S t ≤ NEVn) (hq : ∀ t, Qs t ↔ (∃ l, (edg r nc nw d s) c t l) ∧ st c t + tm S t = tm S c) : zC E yX4_quickestStep cX4_quickestStep 5 (some .int) (zr0 2 45) [.ref sx, .int (nI c), .int (nI S)] T N P I R (zp (nxv Qs 0 8) T N P I R) := by
  refine zC.intro (ls := [some (.ref sx), some (.int (nI c)), some (.int (nI S)), none, none]) pl_RX4 (zle rfl) 2 rfl (fun K => ?_)
  refine v_iconst (v := 0) dX4_quickestStep_0 rfl rfl ?_
  refine v_istore_3 dX4_quickestStep_1 rfl (zle rfl) rfl ?_
  exact lp_X4_quickestStep hX hNP hNR hS hc hrc hlt hrt hq 8 0 _ (by omega) (fun q hq => absurd hq (Nat.not_lt_zero q))
theorem lp_X4_cornerOnQuickest {E : zE} {T : zT} {N : zN} {P : zP} {I : zI} {R : zR} {sx nt sa na ra ta ln ea pa : Nat} {pp : Nat → Nat} {r : zg} {e d S0 : Nat} {f : zf} {c0 : Nat} {s : Prop} {st : Nat → Nat → Nat} {nb : Nat → Nat} {tm : Nat → Nat → Nat} {c1 : Nat} {i : Int32} {K : zK E yX4_cornerOnQuickest cX4_cornerOnQuickest 9 (some .int) (zr0 3 69)} (hX : SxE T N P R sx nt sa na ra ta ln ea pa pp r e d S0) (hZ : SrI f r) (he : e < tn (f 9)) (hS0 : S0 < 2 ^ (tn (r 10 e))) (hc0 : c0 < tn (f 0)) (hNP : NtP (edg r (tn (f 0)) (tn (f 3)) d s) st nb) (hNR : NtR I sa na st nb) (hok : TmOK r e (tn (r 10 e)) (tn (f 0)) (tn (f 3)) d s NEVn (Rch r e (tn (r 10 e)) (tn (f 0)) (tn (f 3)) d s S0 c0) tm) (hrow : ∀ S c, (Rch r e (tn (r 10 e)) (tn (f 0)) (tn (f 3)) d s S0 c0) S c → I ta (8 * S + c) = nI (tm S c)) {v : Int32} : ∀ k n c S g (o7 o8 : Option Value), n + k = 8 * 2 ^ (tn (r 10 e)) → (Rch r e (tn (r 10 e)) (tn (f 0)) (tn (f 3)) d s S0 c0) S c → tm S c < NEVn → v = rtv r e (tn (r 10 e)) (tn (f 0)) (tn (f 3)) d s i k c S g → V K (zQf K (zp v T N P I R)) T N P I R 0 0 14 [some (.ref sx), some (.int (nI c1)), some (.int i), some (.int (nI c)), some (.int (nI S)), some (.int (nI g)), some (.int (nI n)), o7, o8] [] := by
  obtain ⟨⟨x1, x2, x3, x4, x5, x6, x7, x8, x9, x10, x11, x12, x13, x14, x15⟩, xE, ⟨y1, y2, y3, y4⟩, ⟨z1, z2, z3, z4, z5, z6⟩, xN, xK⟩ := id hX
  have xNb := xN.2
  have h12 : 2 ^ tn (r 10 e) ≤ 2 ^ 12 := Nat.pow_le_pow_right (by decide) (by omega)
  have hNV := NEV_le
  have h0b := hZ.1.2.1.2
  have ebd : nI (2 ^ (tn (r 10 e))) * 8 = nI (8 * 2 ^ (tn (r 10 e))) := by rw [Int32.mul_comm, show (8 : Int32) = nI 8 from rfl, pk_mul]
  intro k
  induction k with
  | zero =>
    intro n c S g o7 o8 hk hR hlt hv
    obtain rfl : n = 8 * 2 ^ (tn (r 10 e)) := by omega
    refine v_iload_6 dX4_cornerOnQuickest_14 rfl ?_
    refine v_aload_0 dX4_cornerOnQuickest_16 rfl ?_
    refine v_getN fl_4_42 x1 rfl (zle rfl) rfl dX4_cornerOnQuickest_17 rfl ?_
    refine v_top x15 ?_
    refine v_bipush (v := 8) dX4_cornerOnQuickest_20 rfl rfl ?_
    refine v_imul dX4_cornerOnQuickest_22 rfl ?_
    refine v_top ebd ?_
    refine v_icmp_ge_t (n := 107) (nI_le (a := 8 * 2 ^ (tn (r 10 e))) (b := 8 * 2 ^ (tn (r 10 e))) (Nat.le_refl _) (by omega)) dX4_cornerOnQuickest_23 (by decide) ?_
    refine v_iconst (v := -1) dX4_cornerOnQuickest_107 rfl rfl ?_
    exact v_ireturn rfl (zp_e hv.symm) (zle rfl) (zle rfl) dX4_cornerOnQuickest_108
  | succ k ih =>
    intro n c S g o7 o8 hk hR hlt hv
    have hin := hR.in (by omega) hS0 hc0
    have cc : tmv f r e d s S c < FARn := by
      rcases tm_cv hZ he hS0 hc0 hok hR with ⟨v1, v2, v3⟩ | ⟨v1, v2⟩
      · exact v2
      · omega
    have hl : ∀ p, p < (tn (r 10 e)) → ¬ lnP r e p = 0 := fun p hp => ln_ne (hZ.2.2.1 e he p hp).1 (hZ.2.2.1 e he p hp).2
    refine v_iload_6 dX4_cornerOnQuickest_14 rfl ?_
    refine v_aload_0 dX4_cornerOnQuickest_16 rfl ?_
    refine v_getN fl_4_42 x1 rfl (zle rfl) rfl dX4_cornerOnQuickest_17 rfl ?_
    refine v_top x15 ?_
    refine v_bipush (v := 8) dX4_cornerOnQuickest_20 rfl rfl ?_
    refine v_imul dX4_cornerOnQuickest_22 rfl ?_
    refine v_top ebd ?_
    refine v_icmp_ge_f (tgt := 107) (nI_ge (a := n) (b := 8 * 2 ^ (tn (r 10 e))) (by omega) (by omega)) dX4_cornerOnQuickest_23 (by decide) rfl ?_
    refine v_aload_0 dX4_cornerOnQuickest_26 rfl ?_
    refine v_getP fl_4_31 x12 x1 rfl (zle rfl) rfl dX4_cornerOnQuickest_27 rfl ?_
    refine v_iload_4 dX4_cornerOnQuickest_30 rfl ?_
    refine v_callV (ci := 0) (F := TX0) (c_X0_isOver ea (nI S) xE.1) yy_X0_isOver im_X0_isOver se_X0_isOver lk_4_73 xE.1 (zle rfl) rfl (zle rfl) (zle rfl) (zle rfl) (zle rfl) rfl rfl (zle rfl) dX4_cornerOnQuickest_32 rfl (zp.use ?_)
    refine v_top (zb_iff (q := ovr r e (nI S) (tn (r 10 e))) (ends_ovr xE (by omega) (nI S))) ?_
    by_cases hO : ovr r e (nI S) (tn (r 10 e))
    · refine v_top (zb_t hO) ?_
      refine v_if_ne_t (n := 107) (by decide) dX4_cornerOnQuickest_35 (by decide) ?_
      refine v_iconst (v := -1) dX4_cornerOnQuickest_107 rfl rfl ?_
      exact v_ireturn rfl (zp_e (by rw [hv, rtv_o hO])) (zle rfl) (zle rfl) dX4_cornerOnQuickest_108
    · refine v_top (zb_f hO) ?_
      refine v_if_ne_f (tgt := 107) rfl dX4_cornerOnQuickest_35 (by decide) rfl ?_
      refine v_aload_0 dX4_cornerOnQuickest_38 rfl ?_
      refine v_getP fl_4_31 x12 x1 rfl (zle rfl) rfl dX4_cornerOnQuickest_39 rfl ?_
      refine v_iconst (v := 0) dX4_cornerOnQuickest_42 rfl rfl ?_
      refine v_iload_3 dX4_cornerOnQuickest_43 rfl ?_
      refine v_iload_4 dX4_cornerOnQuickest_44 rfl ?_
      refine v_aload_0 dX4_cornerOnQuickest_46 rfl ?_
      refine v_getN fl_4_35 x1 rfl (zle rfl) rfl dX4_cornerOnQuickest_47 rfl ?_
      refine v_top x13 ?_
      refine v_callV (ci := 0) (F := TX0) (c_X0_nextPiece e ea pa 0 d pp r (nI c) (nI S) xE xN (fun p hp => (xK p hp).1) y3 (Nat.zero_le _)) yy_X0_nextPiece im_X0_nextPiece se_X0_nextPiece lk_4_85 xE.1 (zle rfl) rfl (zle rfl) (zle rfl) (zle rfl) (zle rfl) rfl rfl (zle rfl) dX4_cornerOnQuickest_50 rfl (zp.use ?_)
      rcases nxv_or (canP r e (nI c) (nI S) d) 0 (tn (r 10 e)) with ⟨g1, g2⟩ | ⟨p, g0, g1, g2, g3, g4⟩
      · have cv : ∀ S' c', (Rch r e (tn (r 10 e)) (tn (f 0)) (tn (f 3)) d s S0 c0) S' c' → tmv f r e d s S' c' < FARn → tm S' c' < NEVn := fun S' c' h1 h2 => by
          rcases tm_cv hZ he hS0 hc0 hok h1 with ⟨v1, v2, v3⟩ | ⟨v1, v2⟩
          · exact v1
          · exact absurd h2 v2
        have hm : mvS r e (tn (r 10 e)) d S c := ⟨hO, fun q hq => g2 q (Nat.zero_le _) hq⟩
        obtain ⟨c2, a1, a2, a3, a4, a5, a6⟩ := (rt_step (nw := tn (f 3)) (s := s) (show (tn (r 10 e)) ≤ 12 by omega) (show tn (f 0) ≤ 8 by omega) hin.2.1 hin.2.2 hl cc hO).2 hm
        obtain ⟨l2, e2, -⟩ := id a2
        have hR2 : (Rch r e (tn (r 10 e)) (tn (f 0)) (tn (f 3)) d s S0 c0) S c2 := (Rch.cl S c hR hO).2 hm c2 l2 e2
        refine v_top g1 ?_
        refine v_istore_7 dX4_cornerOnQuickest_53 rfl (zle rfl) rfl ?_
        refine v_iload_7 dX4_cornerOnQuickest_55 rfl ?_
        refine v_if_lt_t (n := 72) (by decide) dX4_cornerOnQuickest_57 (by decide) ?_
        refine v_aload_0 dX4_cornerOnQuickest_72 rfl ?_
        refine v_iload_3 dX4_cornerOnQuickest_73 rfl ?_
        refine v_iload_4 dX4_cornerOnQuickest_74 rfl ?_
        refine v_callV (ci := 4) (F := TX4) (c_X4_quickestStep sx nt sa na ra ta ln ea pa pp r e d S0 (tn (f 0)) (tn (f 3)) S c s st nb tm (qsP r e (tn (r 10 e)) (tn (f 0)) (tn (f 3)) d s S c) hX hNP hNR hin.2.1 (by omega) (hrow S c hR) hlt (fun t l hl => ⟨hrow S t ((Rch.cl S c hR hO).2 hm t l hl), (hok S hin.2.1).le ((Rch.cl S c hR hO).2 hm t l hl)⟩) (qs_cv hZ he hS0 hc0 hok hNP hR hm hlt)) yy_X4_quickestStep im_X4_quickestStep se_X4_quickestStep lk_4_126 x1 (zle rfl) rfl (zle rfl) (zle rfl) (zle rfl) (zle rfl) rfl rfl (zle rfl) dX4_cornerOnQuickest_76 rfl (zp.use ?_)
        refine v_top a4 ?_
        refine v_istore_8 dX4_cornerOnQuickest_79 rfl (zle rfl) rfl ?_
        refine v_iload_8 dX4_cornerOnQuickest_81 rfl ?_
        refine v_if_lt_f (tgt := 92) (nI_pos (by omega)) dX4_cornerOnQuickest_83 (by decide) rfl ?_
        refine v_iload_5 dX4_cornerOnQuickest_86 rfl ?_
        refine v_iload_2 dX4_cornerOnQuickest_88 rfl ?_
        by_cases hgi : nI g = i
        · refine v_icmp_ne_f (tgt := 95) hgi dX4_cornerOnQuickest_89 (by decide) rfl ?_
          refine v_iload_8 dX4_cornerOnQuickest_92 rfl ?_
          exact v_ireturn rfl (zp_e (by rw [hv, rtv_i hm hgi, a4])) (zle rfl) (zle rfl) dX4_cornerOnQuickest_94
        · refine v_icmp_ne_t (n := 95) hgi dX4_cornerOnQuickest_89 (by decide) ?_
          refine v_iload_8 dX4_cornerOnQuickest_95 rfl ?_
          refine v_istore_3 dX4_cornerOnQuickest_97 rfl (zle rfl) rfl ?_
          refine v_iinc_5 dX4_cornerOnQuickest_98 (nI_1 g) rfl (zle rfl) rfl ?_
          refine v_iinc_6 dX4_cornerOnQuickest_101 (nI_1 n) rfl (zle rfl) rfl ?_
          refine v_goto (n := 14) dX4_cornerOnQuickest_104 (by decide) ?_
          exact ih (n + 1) c2 S (g + 1) _ _ (by omega) hR2 (cv _ _ hR2 a6) (hv.trans (rtv_n hm hgi a4 (by omega)))
      · have cv : ∀ S' c', (Rch r e (tn (r 10 e)) (tn (f 0)) (tn (f 3)) d s S0 c0) S' c' → tmv f r e d s S' c' < FARn → tm S' c' < NEVn := fun S' c' h1 h2 => by
          rcases tm_cv hZ he hS0 hc0 hok h1 with ⟨v1, v2, v3⟩ | ⟨v1, v2⟩
          · exact v1
          · exact absurd h2 v2
        have hx : nxS r e (tn (r 10 e)) d S c p := ⟨g1, g2, fun q hq => g3 q (Nat.zero_le _) hq⟩
        have hup := nx_up hx (by omega) hin.2.1
        have hst := (rt_step (nw := tn (f 3)) (s := s) (show (tn (r 10 e)) ≤ 12 by omega) (show tn (f 0) ≤ 8 by omega) hin.2.1 hin.2.2 hl cc hO).1 p hx
        refine v_top g4 ?_
        refine v_istore_7 dX4_cornerOnQuickest_53 rfl (zle rfl) rfl ?_
        refine v_iload_7 dX4_cornerOnQuickest_55 rfl ?_
        refine v_if_lt_f (tgt := 72) (nI_pos (by omega)) dX4_cornerOnQuickest_57 (by decide) rfl ?_
        refine v_iload_4 dX4_cornerOnQuickest_60 rfl ?_
        refine v_iconst (v := 1) dX4_cornerOnQuickest_62 rfl rfl ?_
        refine v_iload_7 dX4_cornerOnQuickest_63 rfl ?_
        refine v_ishl dX4_cornerOnQuickest_65 rfl ?_
        refine v_ior dX4_cornerOnQuickest_66 rfl ?_
        refine v_top hup.2.2 ?_
        refine v_istore_4 dX4_cornerOnQuickest_67 rfl (zle rfl) rfl ?_
        refine v_goto (n := 101) dX4_cornerOnQuickest_69 (by decide) ?_
        refine v_iinc_6 dX4_cornerOnQuickest_101 (nI_1 n) rfl (zle rfl) rfl ?_
        refine v_goto (n := 14) dX4_cornerOnQuickest_104 (by decide) ?_
        exact ih (n + 1) c (S ||| 2 ^ p) g _ _ (by omega) ((Rch.cl S c hR hO).1 p hx) (cv _ _ ((Rch.cl S c hR hO).1 p hx) hst.2) (hv.trans (rtv_p hO (by omega) hx))
theorem c_X4_cornerOnQuickest {E : zE} {T : zT} {N : zN} {P : zP} {I : zI} {R : zR} (sx nt sa na ra ta ln ea pa : Nat) (pp : Nat → Nat) (r : zg) (e d S0 : Nat) (f : zf) (c0 c : Nat) (i : Int32) (s : Prop) (st : Nat → Nat → Nat) (nb : Nat → Nat) (tm : Nat → Nat → Nat) (hX : SxE T N P R sx nt sa na ra ta ln ea pa pp r e d S0) (hZ : SrI f r) (he : e < tn (f 9)) (hS0 : S0 < 2 ^ (tn (r 10 e))) (hc0 : c0 < tn (f 0)) (hNP : NtP (edg r (tn (f 0)) (tn (f 3)) d s) st nb) (hNR : NtR I sa na st nb) (hok : TmOK r e (tn (r 10 e)) (tn (f 0)) (tn (f 3)) d s NEVn (Rch r e (tn (r 10 e)) (tn (f 0)) (tn (f 3)) d s S0 c0) tm) (hrow : ∀ S c, (Rch r e (tn (r 10 e)) (tn (f 0)) (tn (f 3)) d s S0 c0) S c → I ta (8 * S + c) = nI (tm S c)) (hR : (Rch r e (tn (r 10 e)) (tn (f 0)) (tn (f 3)) d s S0 c0) S0 c) (hlt : tm S0 c < NEVn) : zC E yX4_cornerOnQuickest cX4_cornerOnQuickest 9 (some .int) (zr0 3 69) [.ref sx, .int (nI c), .int i] T N P I R (zp (rtv r e (tn (r 10 e)) (tn (f 0)) (tn (f 3)) d s i (8 * 2 ^ (tn (r 10 e))) c S0 0) T N P I R) := by
  refine zC.intro (ls := [some (.ref sx), some (.int (nI c)), some (.int i), none, none, none, none, none, none]) pl_RX4 (zle rfl) 6 rfl (fun K => ?_)
  obtain ⟨⟨x1, x2, x3, x4, x5, x6, x7, x8, x9, x10, x11, x12, x13, x14, x15⟩, xE, ⟨y1, y2, y3, y4⟩, ⟨z1, z2, z3, z4, z5, z6⟩, xN, xK⟩ := id hX
  have xNb := xN.2
  have h12 : 2 ^ tn (r 10 e) ≤ 2 ^ 12 := Nat.pow_le_pow_right (by decide) (by omega)
  refine v_iload_1 dX4_cornerOnQuickest_0 rfl ?_
  refine v_istore_3 dX4_cornerOnQuickest_1 rfl (zle rfl) rfl ?_
  refine v_aload_0 dX4_cornerOnQuickest_2 rfl ?_
  refine v_getN fl_4_39 x1 rfl (zle rfl) rfl dX4_cornerOnQuickest_3 rfl ?_
  refine v_top x14 ?_
  refine v_istore_4 dX4_cornerOnQuickest_6 rfl (zle rfl) rfl ?_
  refine v_iconst (v := 0) dX4_cornerOnQuickest_8 rfl rfl ?_
  refine v_istore_5 dX4_cornerOnQuickest_9 rfl (zle rfl) rfl ?_
  refine v_iconst (v := 0) dX4_cornerOnQuickest_11 rfl rfl ?_
  refine v_istore_6 dX4_cornerOnQuickest_12 rfl (zle rfl) rfl ?_
  exact lp_X4_cornerOnQuickest hX hZ he hS0 hc0 hNP hNR hok hrow (8 * 2 ^ (tn (r 10 e))) 0 c S0 0 _ _ (by omega) hR hlt rfl
theorem c_X10_route {E : zE} {T : zT} {N : zN} {P : zP} {I : zI} {R : zR} (x : Nat) (Mn : Nat → Prop) (b : Nat → Nat → Nat) (g : Nat) (f : zf) (r : zg) (e c d : Nat) (s : Prop) (i : Int32) (g' c9 s9 : Nat) (hC : CR T N P I R x Mn b g f r) (hZ : SrI f r) (hMn : ∀ a, Mn a → ¬ (T a).1 = 0) (he : e < tn (f 9)) (hc : c < tn (f 0)) (hd : d < 7) (hak : asks f (nI e) (nI c) (nI d)) (hi : 0 ≤ i) (hg : GrO g (tn (r 10 e)) g' c9 s9) : zC E yX10_route cX10_route 6 (some .int) (zrm 6 149 c9 s9) [.ref x, .int (nI e), .int (nI c), .int (nI d), .int (zb s), .int i] T N P I R (cQ x Mn g' T N P I R (ac_route f r (nI e) (nI c) (nI d) s i)) := by
  refine zC.intro (ls := [some (.ref x), some (.int (nI e)), some (.int (nI c)), some (.int (nI d)), some (.int (zb s)), some (.int i)]) pl_RX10 (zle rfl) 0 rfl (fun K => ?_)
  obtain ⟨hX, hT, hA, hP, hE, hW, hS, hQ⟩ := id hC
  obtain ⟨x1, x2, x3, x4, x5, x6, x7, x8, x9, x10, x11, x12, x13, x14⟩ := id hX
  obtain ⟨t1, t2, t3, t4, t5, t6, t7, t8, t9, t10⟩ := id hT
  have qs := hQ.1
  have h9b := hZ.1.1.2.1.2
  have h0 := hZ.1.2.1
  have h0b := h0.2
  have te : tn (nI e) = e := tn_nI (by omega)
  have tc : tn (nI c) = c := tn_nI (by omega)
  have td : tn (nI d) = d := tn_nI (by omega)
  refine v_iload_5 dX10_route_0 rfl ?_
  refine v_if_lt_f (tgt := 17) (i_nlt0.mpr hi) dX10_route_2 (by decide) rfl ?_
  refine v_aload_0 dX10_route_5 rfl ?_
  refine v_iload_1 dX10_route_6 rfl ?_
  refine v_iload_2 dX10_route_7 rfl ?_
  refine v_iload_3 dX10_route_8 rfl ?_
  refine v_iload_4 dX10_route_9 rfl ?_
  refine v_callV (ci := 10) (F := TX10) (c_X10_searchAnew x Mn b g f r e c d s g' c9 s9 hC hZ hMn he hc hd hg) yy_X10_searchAnew im_X10_searchAnew se_X10_searchAnew lk_10_154 (by assumption) (zle rfl) rfl (zle rfl) (zle rfl) (by first | (show 0 + c9 ≤ c9; omega) | (show 0 ≤ c9; omega)) (by first | (show 0 + s9 ≤ s9; omega) | (show 0 ≤ s9; omega)) rfl rfl (zle rfl) dX10_route_11 rfl (fun y T2 N2 P2 I2 R2 hq => ?_)
  obtain ⟨rfl, -, rfl, b', hb', hC1, hFr, hX1, tm, rm, st, nb, hNP, hNR, hRR, hBB, hok, hrow⟩ := hq
  have eb0 : b' 0 = b 0 := hb' 0 (by decide)
  obtain ⟨y1, y2, y3, y4, y5, y6, y7, y8, y9, y10, y11, y12, y13, y14⟩ := id hC1.1
  have ys := hC1.2.2.2.2.2.2.2.1
  refine v_if_ne_t (n := 24) (by decide) dX10_route_14 (by decide) ?_
  refine v_aload_0 dX10_route_24 rfl ?_
  refine v_getP fl_10_44 y7 y1 rfl (zle rfl) rfl dX10_route_25 rfl ?_
  refine v_iload_2 dX10_route_28 rfl ?_
  refine v_iconst (v := 0) dX10_route_29 rfl rfl ?_
  refine v_callV (ci := 4) (F := TX4) (c_X4_timeFrom (b' 0 5) (b' 0 6) (b' 1 5) (b' 1 6) (b' 1 3) (b' 1 4) (2 ^ g') (b' 3 e) (b' 4 e) (b' (10 + e)) r e d 0 0 c (tm 0 c) hX1 (Nat.two_pow_pos _) (by omega) (hrow 0 c Rch.rf)) yy_X4_timeFrom im_X4_timeFrom se_X4_timeFrom lk_10_171 ys (zle rfl) rfl (zle rfl) (zle rfl) (by first | (show 0 + c9 ≤ c9; omega) | (show 0 ≤ c9; omega)) (by first | (show 0 + s9 ≤ s9; omega) | (show 0 ≤ s9; omega)) rfl rfl (zle rfl) dX10_route_30 rfl (zp.use ?_)
  have hcv := tm_cv hZ he (Nat.two_pow_pos _) hc hok Rch.rf
  refine v_ldc dX10_route_33 kc_10_174 rfl ?_
  rcases hcv with ⟨v1, v2, v3⟩ | ⟨v1, v2⟩
  · refine v_icmp_lt_t (n := 45) (nI_lt (a := tm 0 c) (b := NEVn) v1 (by decide)) dX10_route_35 (by decide) ?_
    refine v_aload_0 dX10_route_45 rfl ?_
    refine v_getP fl_10_44 y7 y1 rfl (zle rfl) rfl dX10_route_46 rfl ?_
    refine v_iload_2 dX10_route_49 rfl ?_
    refine v_iload_5 dX10_route_50 rfl ?_
    refine v_callV (ci := 4) (F := TX4) (c_X4_cornerOnQuickest (b' 0 5) (b' 0 6) (b' 1 5) (b' 1 6) (b' 1 3) (b' 1 4) (2 ^ g') (b' 3 e) (b' 4 e) (b' (10 + e)) r e d 0 f c c i s st nb tm hX1 hZ he (Nat.two_pow_pos _) hc hNP hNR hok hrow Rch.rf v1) yy_X4_cornerOnQuickest im_X4_cornerOnQuickest se_X4_cornerOnQuickest lk_10_176 ys (zle rfl) rfl (zle rfl) (zle rfl) (by first | (show 0 + c9 ≤ c9; omega) | (show 0 ≤ c9; omega)) (by first | (show 0 + s9 ≤ s9; omega) | (show 0 ≤ s9; omega)) rfl rfl (zle rfl) dX10_route_52 rfl (zp.use ?_)
    exact v_ireturn rfl (cQ_tr hFr (cQ_rd hC1 (((zi_t ⟨hak, hi⟩).trans (zi_t (by rw [te, tc, td]; exact v2))).trans (by rw [te, tc, td])) rfl)) (by first | (show 0 + c9 ≤ c9; omega) | (show 0 ≤ c9; omega)) (by first | (show 0 + s9 ≤ s9; omega) | (show 0 ≤ s9; omega)) dX10_route_55
  · refine v_top2 (congrArg nI v1) ?_
    refine v_icmp_lt_f (tgt := 45) (nI_nlt (a := NEVn) (b := NEVn) (Nat.le_refl _) (by decide)) dX10_route_35 (by decide) rfl ?_
    refine v_aload_0 dX10_route_38 rfl ?_
    refine v_ldc dX10_route_39 kc_10_175 rfl ?_
    refine v_callV (ci := 10) (F := TX10) (c_X10_finding x (-1000004) y1) yy_X10_finding im_X10_finding se_X10_finding lk_10_66 y1 (zle rfl) rfl (zle rfl) (zle rfl) (by first | (show 0 + c9 ≤ c9; omega) | (show 0 ≤ c9; omega)) (by first | (show 0 + s9 ≤ s9; omega) | (show 0 ≤ s9; omega)) rfl rfl (zle rfl) dX10_route_41 rfl (zp.use ?_)
    exact v_ireturn rfl (cQ_tr hFr (cQ_fd hC1 ((zi_t ⟨hak, hi⟩).trans (zi_f (by rw [te, tc, td]; exact v2))))) (by first | (show 0 + c9 ≤ c9; omega) | (show 0 ≤ c9; omega)) (by first | (show 0 + s9 ≤ s9; omega) | (show 0 ≤ s9; omega)) dX10_route_44
theorem c_X10_route_n {E : zE} {T : zT} {N : zN} {P : zP} {I : zI} {R : zR} (x : Nat) (Mn : Nat → Prop) (b : Nat → Nat → Nat) (g : Nat) (f : zf) (r : zg) (e c d : Int32) (s : Prop) (i : Int32) (hC : CR T N P I R x Mn b g f r) (hZ : SrI f r) (hno : ¬ (asks f e c d ∧ 0 ≤ i)) : zC E yX10_route cX10_route 6 (some .int) (zrm 6 149 0 0) [.ref x, .int e, .int c, .int d, .int (zb s), .int i] T N P I R (cQ x Mn g T N P I R (ac_route f r e c d s i)) := by
  refine zC.intro (ls := [some (.ref x), some (.int e), some (.int c), some (.int d), some (.int (zb s)), some (.int i)]) pl_RX10 (zle rfl) 0 rfl (fun K => ?_)
  obtain ⟨hX, hT, hA, hP, hE, hW, hS, hQ⟩ := id hC
  obtain ⟨x1, x2, x3, x4, x5, x6, x7, x8, x9, x10, x11, x12, x13, x14⟩ := id hX
  obtain ⟨t1, t2, t3, t4, t5, t6, t7, t8, t9, t10⟩ := id hT
  have qs := hQ.1
  have h9b := hZ.1.1.2.1.2
  have h0 := hZ.1.2.1
  have h0b := h0.2
  refine v_iload_5 dX10_route_0 rfl ?_
  by_cases hi : 0 ≤ i
  · have hak : ¬ asks f e c d := fun h => hno ⟨h, hi⟩
    refine v_if_lt_f (tgt := 17) (i_nlt0.mpr hi) dX10_route_2 (by decide) rfl ?_
    refine v_aload_0 dX10_route_5 rfl ?_
    refine v_iload_1 dX10_route_6 rfl ?_
    refine v_iload_2 dX10_route_7 rfl ?_
    refine v_iload_3 dX10_route_8 rfl ?_
    refine v_iload_4 dX10_route_9 rfl ?_
    refine v_callV (ci := 10) (F := TX10) (c_X10_searchAnew_n x Mn b g f r e c d s hC hZ hak) yy_X10_searchAnew im_X10_searchAnew se_X10_searchAnew lk_10_154 (by assumption) (zle rfl) rfl (zle rfl) (zle rfl) (zle rfl) (zle rfl) rfl rfl (zle rfl) dX10_route_11 rfl (zp.use ?_)
    refine v_if_ne_f (tgt := 24) rfl dX10_route_14 (by decide) rfl ?_
    refine v_aload_0 dX10_route_17 rfl ?_
    refine v_ldc dX10_route_18 kc_10_65 rfl ?_
    refine v_callV (ci := 10) (F := TX10) (c_X10_finding _ _ (by assumption)) yy_X10_finding im_X10_finding se_X10_finding lk_10_66 (by assumption) (zle rfl) rfl (zle rfl) (zle rfl) (zle rfl) (zle rfl) rfl rfl (zle rfl) dX10_route_20 rfl (zp.use ?_)
    exact v_ireturn rfl (cQ_fd hC (zi_f hno)) (zle rfl) (zle rfl) dX10_route_23
  · refine v_if_lt_t (n := 17) (i_lt0 hi) dX10_route_2 (by decide) ?_
    refine v_aload_0 dX10_route_17 rfl ?_
    refine v_ldc dX10_route_18 kc_10_65 rfl ?_
    refine v_callV (ci := 10) (F := TX10) (c_X10_finding _ _ (by assumption)) yy_X10_finding im_X10_finding se_X10_finding lk_10_66 (by assumption) (zle rfl) rfl (zle rfl) (zle rfl) (zle rfl) (zle rfl) rfl rfl (zle rfl) dX10_route_20 rfl (zp.use ?_)
    exact v_ireturn rfl (cQ_fd hC (zi_f hno)) (zle rfl) (zle rfl) dX10_route_23
