theorem lp_X10_countWalking {E : zE} {T : zT} {N : zN} {P : zP} {I : zI} {R : zR} {x : Nat} {Mn : Nat → Prop} {b : Nat → Nat → Nat} {g : Nat} {f : zf} {r : zg} {c : Nat} {K : zK E yX10_countWalking cX10_countWalking 4 (some .int) (zr0 2 41)} (hC : CR T N P I R x Mn b g f r) (hZ : SrI f r) : ∀ k j, j + k = tn (f 18) → V K (zQf K (zp (nI (crw f r c)) T N P I R)) T N P I R 0 0 4 [some (.ref x), some (.int (nI c)), some (.int (nI (cnp (wkA r c) j))), some (.int (nI j))] [] := by
  obtain ⟨hX, hT, hA, hP, hE, hW, hS, hQ⟩ := id hC
  obtain ⟨x1, x2, x3, x4, x5, x6, x7, x8, x9, x10, x11, x12, x13, x14⟩ := id hX
  obtain ⟨w1, w2⟩ := id hW
  have h18 := hZ.1.1.1
  have h18b := h18.2
  intro k
  induction k with
  | zero =>
    intro j hj
    obtain rfl : j = tn (f 18) := by omega
    refine v_iload_3 dX10_countWalking_4 rfl ?_
    refine v_aload_0 dX10_countWalking_5 rfl ?_
    refine v_getN fl_10_52 x1 rfl (zle rfl) rfl dX10_countWalking_6 rfl ?_
    refine v_top (x12.trans h18.1) ?_
    refine v_icmp_ge_t (n := 46) (nI_le (a := tn (f 18)) (b := tn (f 18)) (Nat.le_refl _) (by omega)) dX10_countWalking_9 (by decide) ?_
    refine v_iload_2 dX10_countWalking_46 rfl ?_
    exact v_ireturn rfl (zp.rf) (zle rfl) (zle rfl) dX10_countWalking_47
  | succ k ih =>
    intro j hj
    obtain ⟨g1, g2, g3, g4, g5, g6, g7, g8, g9, g10, g11⟩ := w1 j (by omega)
    obtain ⟨i1, i2, i3, i4, i5, i6⟩ := hZ.1.1.ed (show j < tn (f 18) by omega)
    obtain ⟨e1, e2⟩ := hE _ i2
    have hno : ¬ wkA r c j → nI (cnp (wkA r c) j) = nI (cnp (wkA r c) (j + 1)) := fun h => by rw [cnp_f h]
    have hye : wkA r c j → nI (cnp (wkA r c) j) + 1 = nI (cnp (wkA r c) (j + 1)) := fun h => by rw [cnp_t h, nI_1]
    refine v_iload_3 dX10_countWalking_4 rfl ?_
    refine v_aload_0 dX10_countWalking_5 rfl ?_
    refine v_getN fl_10_52 x1 rfl (zle rfl) rfl dX10_countWalking_6 rfl ?_
    refine v_top (x12.trans h18.1) ?_
    refine v_icmp_ge_f (tgt := 46) (nI_ge (a := j) (b := tn (f 18)) (by omega) (by omega)) dX10_countWalking_9 (by decide) rfl ?_
    refine v_aload_0 dX10_countWalking_12 rfl ?_
    refine v_getP fl_10_31 x5 x1 rfl (zle rfl) rfl dX10_countWalking_13 rfl ?_
    refine v_iload_3 dX10_countWalking_16 rfl ?_
    refine v_aald (j := j) ti_8 x9 rfl (by omega) (zle rfl) g1 dX10_countWalking_17 rfl ?_
    refine v_getN fl_10_201 g2 rfl (zle rfl) rfl dX10_countWalking_18 rfl ?_
    refine v_top g6 ?_
    refine v_iload_1 dX10_countWalking_21 rfl ?_
    refine v_icmp_ne (tgt := 40) dX10_countWalking_22 (by decide) rfl (fun c22 => ?_) (fun c22 => ?_)
    · refine v_iinc_3 dX10_countWalking_40 (nI_1 j) rfl (zle rfl) rfl ?_
      refine v_goto (n := 4) dX10_countWalking_43 (by decide) ?_
      rw [hno (fun h => c22 h.1)]
      exact ih (j + 1) (by omega)
    · refine v_aload_0 dX10_countWalking_25 rfl ?_
      refine v_getP fl_10_31 x5 x1 rfl (zle rfl) rfl dX10_countWalking_26 rfl ?_
      refine v_iload_3 dX10_countWalking_29 rfl ?_
      refine v_aald (j := j) ti_8 x9 rfl (by omega) (zle rfl) g1 dX10_countWalking_30 rfl ?_
      refine v_callV (ci := 8) (F := TX8) (c_X8_isOver (b 5 j) (b 3 (tn (r 22 j))) g2 g3 e2.1) yy_X8_isOver im_X8_isOver se_X8_isOver lk_10_197 g2 (zle rfl) rfl (zle rfl) (zle rfl) (zle rfl) (zle rfl) rfl rfl (zle rfl) dX10_countWalking_31 rfl (zp.use ?_)
      refine v_top (zb_iff (q := ovr r (tn (r 22 j)) (r 20 j) (npw r j)) (by rw [g7]; exact ends_ovr e2 i5 (r 20 j))) ?_
      refine v_ifz_ne (tgt := 40) dX10_countWalking_34 (by decide) rfl (fun c34 => ?_) (fun c34 => ?_)
      · refine v_iinc_3 dX10_countWalking_40 (nI_1 j) rfl (zle rfl) rfl ?_
        refine v_goto (n := 4) dX10_countWalking_43 (by decide) ?_
        rw [hno (fun h => h.2 c34)]
        exact ih (j + 1) (by omega)
      · refine v_iinc_2 (b := nI (cnp (wkA r c) (j + 1))) dX10_countWalking_37 (hye ⟨c22, c34⟩) rfl (zle rfl) rfl ?_
        refine v_iinc_3 dX10_countWalking_40 (nI_1 j) rfl (zle rfl) rfl ?_
        refine v_goto (n := 4) dX10_countWalking_43 (by decide) ?_
        exact ih (j + 1) (by omega)
theorem c_X10_countWalking {E : zE} {T : zT} {N : zN} {P : zP} {I : zI} {R : zR} (x : Nat) (Mn : Nat → Prop) (b : Nat → Nat → Nat) (g : Nat) (f : zf) (r : zg) (c : Nat) (hC : CR T N P I R x Mn b g f r) (hZ : SrI f r) : zC E yX10_countWalking cX10_countWalking 4 (some .int) (zr0 2 41) [.ref x, .int (nI c)] T N P I R (zp (nI (crw f r c)) T N P I R) := by
  refine zC.intro (ls := [some (.ref x), some (.int (nI c)), none, none]) pl_RX10 (zle rfl) 2 rfl (fun K => ?_)
  refine v_iconst (v := 0) dX10_countWalking_0 rfl rfl ?_
  refine v_istore_2 dX10_countWalking_1 rfl (zle rfl) rfl ?_
  refine v_iconst (v := 0) dX10_countWalking_2 rfl rfl ?_
  refine v_istore_3 dX10_countWalking_3 rfl (zle rfl) rfl ?_
  exact lp_X10_countWalking hC hZ (tn (f 18)) 0 (by omega)
/-- the class's time by a step and the common one -/
theorem of_cv {f : zf} {r : zg} {w : Nat} {tm : Nat → Nat → Nat} {st : Nat → Nat → Nat} {nb : Nat → Nat} (hZ : SrI f r) (hw : w < tn (f 18)) (hok : TmOK r (tn (r 22 w)) (npw r w) (tn (f 0)) (tn (f 3)) (tn (f 27)) (r 23 w = 1) NEVn (Rch r (tn (r 22 w)) (npw r w) (tn (f 0)) (tn (f 3)) (tn (f 27)) (r 23 w = 1) (tn (r 20 w)) (tn (r 19 w))) tm) (hNP : NtP (edg r (tn (f 0)) (tn (f 3)) (tn (f 27)) (r 23 w = 1)) st nb) (hO : ¬ ovr r (tn (r 22 w)) (r 20 w) (npw r w)) {t : Nat} (hl : ∃ l, (edg r (tn (f 0)) (tn (f 3)) (tn (f 27)) (r 23 w = 1)) (tn (r 19 w)) t l) : (Rch r (tn (r 22 w)) (npw r w) (tn (f 0)) (tn (f 3)) (tn (f 27)) (r 23 w = 1) (tn (r 20 w)) (tn (r 19 w))) (tn (r 20 w)) t ∧ t < tn (f 0) ∧ st (tn (r 19 w)) t ≤ 20 ∧ tm (tn (r 20 w)) t ≤ NEVn ∧ (st (tn (r 19 w)) t + tm (tn (r 20 w)) t < NEVn ↔ ofK f r w t) ∧ (ofK f r w t → st (tn (r 19 w)) t + tm (tn (r 20 w)) t = ofT f r w t) := by
  obtain ⟨k1, k2, k3, k4, k5, k6, k7, k8, k9, k10⟩ := hZ.wk hw
  have h0 := hZ.1.2.1.2
  have hF : FARn = 100000000 := rfl
  have hN := NEV_le
  have h12 : 2 ^ npw r w ≤ 2 ^ 12 := Nat.pow_le_pow_right (by decide) k5
  have hO2 : ¬ ovr r (tn (r 22 w)) (nI (tn (r 20 w))) (npw r w) := by rw [← k9]; exact hO
  have hm : mvS r (tn (r 22 w)) (npw r w) (tn (f 27)) (tn (r 20 w)) (tn (r 19 w)) := by
    rcases (hZ.2.2.2 w hw).2 with g | g
    · exact absurd g hO
    · exact ⟨hO2, fun q hq => by rw [← k9, ← k7]; exact g q (Nat.zero_le _) hq⟩
  obtain ⟨l, hl⟩ := hl
  have hR : (Rch r (tn (r 22 w)) (npw r w) (tn (f 0)) (tn (f 3)) (tn (f 27)) (r 23 w = 1) (tn (r 20 w)) (tn (r 19 w))) (tn (r 20 w)) t := (Rch.cl _ _ Rch.rf hO2).2 hm t l hl
  have ht := hl.1.2.2.2.1
  have he : elP r (tn (f 0)) (tn (f 3)) (tn (f 27)) (r 23 w = 1) (tn (r 19 w)) t (st (tn (r 19 w)) t) := by
    rcases (hNP (tn (r 19 w)) (by omega)).2.2 t (by omega) with g | g
    · exact absurd hl (g.1 l)
    · exact g
  have hel := elv_eq he
  have h20 := he.1.1.2.1
  have hT : ofT f r w t = st (tn (r 19 w)) t + tmv f r (tn (r 22 w)) (tn (f 27)) (r 23 w = 1) (tn (r 20 w)) t := congrArg (fun x => x + tmv f r (tn (r 22 w)) (tn (f 27)) (r 23 w = 1) (tn (r 20 w)) t) hel
  have hle := (hok _ k10).le hR
  have hbd : tm (tn (r 20 w)) t < NEVn → tm (tn (r 20 w)) t ≤ 200 * 2 ^ npw r w := fun h => Tm_bd k5 (by omega) (fun p hp => by have : lnP r (tn (r 22 w)) p < 10 := (hZ.2.2.1 _ k2 p hp).1.2; omega) Rch.cl hok (2 ^ npw r w) (tn (r 20 w)) t k10 (by omega) hR h
  refine ⟨hR, ht, h20, hle, ?_, ?_⟩
  · constructor
    · intro h
      have hb := hbd (by omega)
      refine ⟨⟨l, hl⟩, ?_⟩
      rw [hT]
      rcases tm_cv hZ k2 k10 k8 hok hR with ⟨v1, v2, v3⟩ | ⟨v1, v2⟩
      · rw [← v3]; omega
      · omega
    · intro h
      have h2 := h.2
      rw [hT] at h2
      rcases tm_cv hZ k2 k10 k8 hok hR with ⟨v1, v2, v3⟩ | ⟨v1, v2⟩
      · have hb := hbd v1; omega
      · omega
  · intro h
    have h2 := h.2
    rw [hT] at h2 ⊢
    rcases tm_cv hZ k2 k10 k8 hok hR with ⟨v1, v2, v3⟩ | ⟨v1, v2⟩
    · rw [v3]
    · omega
theorem lp_X10_bestNextCorner {E : zE} {T : zT} {N : zN} {P : zP} {I : zI} {R : zR} {x : Nat} {Mn : Nat → Prop} {b : Nat → Nat → Nat} {g : Nat} {f : zf} {r : zg} {w : Nat} {tm : Nat → Nat → Nat} {st : Nat → Nat → Nat} {nb : Nat → Nat} {K : zK E yX10_bestNextCorner cX10_bestNextCorner 8 (some .int) (zr0 3 64)} (hC : CR T N P I R x Mn b g f r) (hZ : SrI f r) (hw : w < tn (f 18)) (hXs : SxC T N P R b g r (tn (r 22 w)) (tn (f 27)) (tn (r 20 w))) (hNP : NtP (edg r (tn (f 0)) (tn (f 3)) (tn (f 27)) (r 23 w = 1)) st nb) (hNR : NtR I (b 1 5) (b 1 6) st nb) (hok : TmOK r (tn (r 22 w)) (npw r w) (tn (f 0)) (tn (f 3)) (tn (f 27)) (r 23 w = 1) NEVn (Rch r (tn (r 22 w)) (npw r w) (tn (f 0)) (tn (f 3)) (tn (f 27)) (r 23 w = 1) (tn (r 20 w)) (tn (r 19 w))) tm) (hrow : ∀ S c, (Rch r (tn (r 22 w)) (npw r w) (tn (f 0)) (tn (f 3)) (tn (f 27)) (r 23 w = 1) (tn (r 20 w)) (tn (r 19 w))) S c → I (b 1 4) (8 * S + c) = nI (tm S c)) (hO : ¬ ovr r (tn (r 22 w)) (r 20 w) (npw r w)) : ∀ k c (o6 o7 : Option Value), c + k = 8 → V K (zQf K (zp (ofv f r w 8).1 T N P I R)) T N P I R 0 0 10 [some (.ref x), some (.ref (b 5 w)), some (.int (ofv f r w c).1), some (.int (nI (ofv f r w c).2.1)), some (.int (nI (ofv f r w c).2.2)), some (.int (nI c)), o6, o7] [] := by
  obtain ⟨hX, hT, hA, hP, hE, hW, hS, hQ⟩ := id hC
  obtain ⟨x1, x2, x3, x4, x5, x6, x7, x8, x9, x10, x11, x12, x13, x14⟩ := id hX
  obtain ⟨w1, w2⟩ := id hW
  obtain ⟨g1, g2, g3, g4, g5, g6, g7, g8, g9, g10, g11⟩ := w1 w hw
  obtain ⟨k1, k2, k3, k4, k5, k6, k7, k8, k9, k10⟩ := hZ.wk hw
  have h18b := hZ.1.1.1.2
  have h0b := hZ.1.2.1.2
  have hF : FARn = 100000000 := rfl
  have hN := NEV_le
  have qs := hQ.1
  intro k
  induction k with
  | zero =>
    intro c o6 o7 hk
    obtain rfl : c = 8 := by omega
    refine v_iload_5 dX10_bestNextCorner_10 rfl ?_
    refine v_bipush (v := 8) dX10_bestNextCorner_12 rfl rfl ?_
    refine v_icmp_ge_t (n := 93) (by decide) dX10_bestNextCorner_14 (by decide) ?_
    refine v_iload_2 dX10_bestNextCorner_93 rfl ?_
    exact v_ireturn rfl (zp.rf) (zle rfl) (zle rfl) dX10_bestNextCorner_94
  | succ k ih =>
    intro c o6 o7 hk
    obtain ⟨zb1, zb2⟩ := ofv_b (f := f) (r := r) (w := w) h18b c
    have hstay : ¬ (ofK f r w c ∧ ofB (ofv f r w c) (crw f r c) (ofT f r w c)) → ofv f r w (c + 1) = (ofv f r w c) := ofv_f
    refine v_iload_5 dX10_bestNextCorner_10 rfl ?_
    refine v_bipush (v := 8) dX10_bestNextCorner_12 rfl rfl ?_
    refine v_icmp_ge_f (tgt := 93) (nI_ge (a := c) (b := 8) (by omega) (by decide)) dX10_bestNextCorner_14 (by decide) rfl ?_
    refine v_aload_0 dX10_bestNextCorner_17 rfl ?_
    refine v_getP fl_10_44 x7 x1 rfl (zle rfl) rfl dX10_bestNextCorner_18 rfl ?_
    refine v_aload_1 dX10_bestNextCorner_21 rfl ?_
    refine v_getN fl_10_201 g2 rfl (zle rfl) rfl dX10_bestNextCorner_22 rfl ?_
    refine v_top (g6.trans k7) ?_
    refine v_iload_5 dX10_bestNextCorner_25 rfl ?_
    refine v_aload_1 dX10_bestNextCorner_27 rfl ?_
    refine v_getN fl_10_223 g2 rfl (zle rfl) rfl dX10_bestNextCorner_28 rfl ?_
    refine v_top (g7.trans k9) ?_
    by_cases hx : ∃ l, (edg r (tn (f 0)) (tn (f 3)) (tn (f 27)) (r 23 w = 1)) (tn (r 19 w)) c l
    · obtain ⟨a1, a2, a3, a4, a5, a6⟩ := of_cv hZ hw hok hNP hO hx
      refine v_callV (ci := 4) (F := TX4) (c_X4_timeBy (b 0 5) (b 0 6) (b 1 5) (b 1 6) (b 1 3) (b 1 4) (2 ^ g) (b 3 (tn (r 22 w))) (b 4 (tn (r 22 w))) (b (10 + (tn (r 22 w)))) r (tn (r 22 w)) (tn (f 27)) (tn (r 20 w)) (tn (f 0)) (tn (f 3)) (tn (r 20 w)) (tn (r 19 w)) c (r 23 w = 1) st nb (tm (tn (r 20 w)) c) hXs hNP hNR k10 (by omega) (by omega) hx (hrow _ _ a1) a4) yy_X4_timeBy im_X4_timeBy se_X4_timeBy lk_10_292 qs (zle rfl) rfl (zle rfl) (zle rfl) (zle rfl) (zle rfl) rfl rfl (zle rfl) dX10_bestNextCorner_31 rfl (zp.use ?_)
      refine v_istore_6 dX10_bestNextCorner_34 rfl (zle rfl) rfl ?_
      refine v_iload_6 dX10_bestNextCorner_36 rfl ?_
      refine v_ldc dX10_bestNextCorner_38 kc_10_174 rfl ?_
      by_cases hsm : st (tn (r 19 w)) c + tm (tn (r 20 w)) c < NEVn
      · have hK : ofK f r w c := a5.mp hsm
        have eT := a6 hK
        have hT2 := hK.2
        refine v_top2 (show nI (min NEVn (st (tn (r 19 w)) c + tm (tn (r 20 w)) c)) = nI (ofT f r w c) by rw [← eT]; congr 1; omega) ?_
        refine v_loc (ls := [some (.ref x), some (.ref (b 5 w)), some (.int (ofv f r w c).1), some (.int (nI (ofv f r w c).2.1)), some (.int (nI (ofv f r w c).2.2)), some (.int (nI c)), some (.int (nI (ofT f r w c))), o7]) (by rw [← eT, show min NEVn (st (tn (r 19 w)) c + tm (tn (r 20 w)) c) = st (tn (r 19 w)) c + tm (tn (r 20 w)) c by omega]) ?_
        refine v_icmp_lt_t (n := 46) (nI_lt (a := ofT f r w c) (b := NEVn) (by omega) (by decide)) dX10_bestNextCorner_40 (by decide) ?_
        refine v_aload_0 dX10_bestNextCorner_46 rfl ?_
        refine v_iload_5 dX10_bestNextCorner_47 rfl ?_
        refine v_callV (ci := 10) (F := TX10) (c_X10_countWalking x Mn b g f r c hC hZ) yy_X10_countWalking im_X10_countWalking se_X10_countWalking lk_10_296 (by assumption) (zle rfl) rfl (zle rfl) (zle rfl) (zle rfl) (zle rfl) rfl rfl (zle rfl) dX10_bestNextCorner_49 rfl (zp.use ?_)
        have hcb : (crw f r c) < 7 := Nat.lt_of_le_of_lt (cnp_le _ _) h18b
        refine v_istore_7 dX10_bestNextCorner_52 rfl (zle rfl) rfl ?_
        refine v_iload_2 dX10_bestNextCorner_54 rfl ?_
        refine v_if_lt (tgt := 77) dX10_bestNextCorner_55 (by decide) rfl (fun c55 => ?_) (fun c55 => ?_)
        · refine v_iload_5 dX10_bestNextCorner_77 rfl ?_
          refine v_istore_2 dX10_bestNextCorner_79 rfl (zle rfl) rfl ?_
          refine v_iload_7 dX10_bestNextCorner_80 rfl ?_
          refine v_istore_3 dX10_bestNextCorner_82 rfl (zle rfl) rfl ?_
          refine v_iload_6 dX10_bestNextCorner_83 rfl ?_
          refine v_istore_4 dX10_bestNextCorner_85 rfl (zle rfl) rfl ?_
          refine v_iinc_5 dX10_bestNextCorner_87 (nI_1 c) rfl (zle rfl) rfl ?_
          refine v_goto (n := 10) dX10_bestNextCorner_90 (by decide) ?_
          have h := fun o6 o7 => ih (c + 1) o6 o7 (by omega)
          have he := ofv_t hK (Or.inl c55)
          simp only [he] at h
          exact h _ _
        · refine v_iload_7 dX10_bestNextCorner_58 rfl ?_
          refine v_iload_3 dX10_bestNextCorner_60 rfl ?_
          by_cases hb2 : (crw f r c) < (ofv f r w c).2.1
          · refine v_icmp_lt_t (n := 77) (nI_lt hb2 (by omega)) dX10_bestNextCorner_61 (by decide) ?_
            refine v_iload_5 dX10_bestNextCorner_77 rfl ?_
            refine v_istore_2 dX10_bestNextCorner_79 rfl (zle rfl) rfl ?_
            refine v_iload_7 dX10_bestNextCorner_80 rfl ?_
            refine v_istore_3 dX10_bestNextCorner_82 rfl (zle rfl) rfl ?_
            refine v_iload_6 dX10_bestNextCorner_83 rfl ?_
            refine v_istore_4 dX10_bestNextCorner_85 rfl (zle rfl) rfl ?_
            refine v_iinc_5 dX10_bestNextCorner_87 (nI_1 c) rfl (zle rfl) rfl ?_
            refine v_goto (n := 10) dX10_bestNextCorner_90 (by decide) ?_
            have h := fun o6 o7 => ih (c + 1) o6 o7 (by omega)
            have he := ofv_t hK (Or.inr (Or.inl hb2))
            simp only [he] at h
            exact h _ _
          · refine v_icmp_lt_f (tgt := 77) (nI_nlt (Nat.not_lt.mp hb2) (by omega)) dX10_bestNextCorner_61 (by decide) rfl ?_
            refine v_iload_7 dX10_bestNextCorner_64 rfl ?_
            refine v_iload_3 dX10_bestNextCorner_66 rfl ?_
            by_cases hb3 : (crw f r c) = (ofv f r w c).2.1
            · refine v_icmp_ne_f (tgt := 87) (by rw [hb3]) dX10_bestNextCorner_67 (by decide) rfl ?_
              refine v_iload_6 dX10_bestNextCorner_70 rfl ?_
              refine v_iload_4 dX10_bestNextCorner_72 rfl ?_
              by_cases hb4 : ofT f r w c < (ofv f r w c).2.2
              · refine v_icmp_ge_f (tgt := 87) (nI_ge hb4 (by omega)) dX10_bestNextCorner_74 (by decide) rfl ?_
                refine v_iload_5 dX10_bestNextCorner_77 rfl ?_
                refine v_istore_2 dX10_bestNextCorner_79 rfl (zle rfl) rfl ?_
                refine v_iload_7 dX10_bestNextCorner_80 rfl ?_
                refine v_istore_3 dX10_bestNextCorner_82 rfl (zle rfl) rfl ?_
                refine v_iload_6 dX10_bestNextCorner_83 rfl ?_
                refine v_istore_4 dX10_bestNextCorner_85 rfl (zle rfl) rfl ?_
                refine v_iinc_5 dX10_bestNextCorner_87 (nI_1 c) rfl (zle rfl) rfl ?_
                refine v_goto (n := 10) dX10_bestNextCorner_90 (by decide) ?_
                have h := fun o6 o7 => ih (c + 1) o6 o7 (by omega)
                have he := ofv_t hK (Or.inr (Or.inr ⟨hb3, hb4⟩))
                simp only [he] at h
                exact h _ _
              · refine v_icmp_ge_t (n := 87) (nI_le (Nat.not_lt.mp hb4) (by omega)) dX10_bestNextCorner_74 (by decide) ?_
                refine v_iinc_5 dX10_bestNextCorner_87 (nI_1 c) rfl (zle rfl) rfl ?_
                refine v_goto (n := 10) dX10_bestNextCorner_90 (by decide) ?_
                have h := fun o6 o7 => ih (c + 1) o6 o7 (by omega)
                simp only [hstay (fun h => h.2.elim c55 (fun g => g.elim hb2 (fun g => hb4 g.2)))] at h
                exact h _ _
            · refine v_icmp_ne_t (n := 87) (fun h => hb3 ((nI_eq (by omega) (by omega)).mp h)) dX10_bestNextCorner_67 (by decide) ?_
              refine v_iinc_5 dX10_bestNextCorner_87 (nI_1 c) rfl (zle rfl) rfl ?_
              refine v_goto (n := 10) dX10_bestNextCorner_90 (by decide) ?_
              have h := fun o6 o7 => ih (c + 1) o6 o7 (by omega)
              simp only [hstay (fun h => h.2.elim c55 (fun g => g.elim hb2 (fun g => hb3 g.1)))] at h
              exact h _ _
      · refine v_icmp_lt_f (tgt := 46) (nI_nlt (a := min NEVn (st (tn (r 19 w)) c + tm (tn (r 20 w)) c)) (b := NEVn) (by omega) (by omega)) dX10_bestNextCorner_40 (by decide) rfl ?_
        refine v_goto (n := 87) dX10_bestNextCorner_43 (by decide) ?_
        refine v_iinc_5 dX10_bestNextCorner_87 (nI_1 c) rfl (zle rfl) rfl ?_
        refine v_goto (n := 10) dX10_bestNextCorner_90 (by decide) ?_
        have h := fun o6 o7 => ih (c + 1) o6 o7 (by omega)
        simp only [hstay (fun h => hsm (a5.mpr h.1))] at h
        exact h _ _
    · refine v_callV (ci := 4) (F := TX4) (c_X4_timeBy_n (b 0 5) (b 0 6) (b 1 5) (b 1 6) (b 1 3) (b 1 4) (2 ^ g) (b 3 (tn (r 22 w))) (b 4 (tn (r 22 w))) (b (10 + (tn (r 22 w)))) r (tn (r 22 w)) (tn (f 27)) (tn (r 20 w)) (tn (f 0)) (tn (f 3)) (tn (r 20 w)) (tn (r 19 w)) c (r 23 w = 1) st nb hXs hNP hNR k10 (by omega) (by omega) hx) yy_X4_timeBy im_X4_timeBy se_X4_timeBy lk_10_292 qs (zle rfl) rfl (zle rfl) (zle rfl) (zle rfl) (zle rfl) rfl rfl (zle rfl) dX10_bestNextCorner_31 rfl (zp.use ?_)
      refine v_istore_6 dX10_bestNextCorner_34 rfl (zle rfl) rfl ?_
      refine v_iload_6 dX10_bestNextCorner_36 rfl ?_
      refine v_ldc dX10_bestNextCorner_38 kc_10_174 rfl ?_
      refine v_icmp_lt_f (tgt := 46) (nI_nlt (a := NEVn) (b := NEVn) (Nat.le_refl _) (by decide)) dX10_bestNextCorner_40 (by decide) rfl ?_
      refine v_goto (n := 87) dX10_bestNextCorner_43 (by decide) ?_
      refine v_iinc_5 dX10_bestNextCorner_87 (nI_1 c) rfl (zle rfl) rfl ?_
      refine v_goto (n := 10) dX10_bestNextCorner_90 (by decide) ?_
      have h := fun o6 o7 => ih (c + 1) o6 o7 (by omega)
      simp only [hstay (fun h => hx h.1.1)] at h
      exact h _ _
theorem c_X10_bestNextCorner {E : zE} {T : zT} {N : zN} {P : zP} {I : zI} {R : zR} (x : Nat) (Mn : Nat → Prop) (b : Nat → Nat → Nat) (g : Nat) (f : zf) (r : zg) (w : Nat) (tm : Nat → Nat → Nat) (st : Nat → Nat → Nat) (nb : Nat → Nat) (hC : CR T N P I R x Mn b g f r) (hZ : SrI f r) (hw : w < tn (f 18)) (hXs : SxC T N P R b g r (tn (r 22 w)) (tn (f 27)) (tn (r 20 w))) (hNP : NtP (edg r (tn (f 0)) (tn (f 3)) (tn (f 27)) (r 23 w = 1)) st nb) (hNR : NtR I (b 1 5) (b 1 6) st nb) (hok : TmOK r (tn (r 22 w)) (npw r w) (tn (f 0)) (tn (f 3)) (tn (f 27)) (r 23 w = 1) NEVn (Rch r (tn (r 22 w)) (npw r w) (tn (f 0)) (tn (f 3)) (tn (f 27)) (r 23 w = 1) (tn (r 20 w)) (tn (r 19 w))) tm) (hrow : ∀ S c, (Rch r (tn (r 22 w)) (npw r w) (tn (f 0)) (tn (f 3)) (tn (f 27)) (r 23 w = 1) (tn (r 20 w)) (tn (r 19 w))) S c → I (b 1 4) (8 * S + c) = nI (tm S c)) (hO : ¬ ovr r (tn (r 22 w)) (r 20 w) (npw r w)) : zC E yX10_bestNextCorner cX10_bestNextCorner 8 (some .int) (zr0 3 64) [.ref x, .ref (b 5 w)] T N P I R (zp (ofv f r w 8).1 T N P I R) := by
  refine zC.intro (ls := [some (.ref x), some (.ref (b 5 w)), none, none, none, none, none, none]) pl_RX10 (zle rfl) 6 rfl (fun K => ?_)
  refine v_iconst (v := -1) dX10_bestNextCorner_0 rfl rfl ?_
  refine v_istore_2 dX10_bestNextCorner_1 rfl (zle rfl) rfl ?_
  refine v_iconst (v := 0) dX10_bestNextCorner_2 rfl rfl ?_
  refine v_istore_3 dX10_bestNextCorner_3 rfl (zle rfl) rfl ?_
  refine v_iconst (v := 0) dX10_bestNextCorner_4 rfl rfl ?_
  refine v_istore_4 dX10_bestNextCorner_5 rfl (zle rfl) rfl ?_
  refine v_iconst (v := 0) dX10_bestNextCorner_7 rfl rfl ?_
  refine v_istore_5 dX10_bestNextCorner_8 rfl (zle rfl) rfl ?_
  exact lp_X10_bestNextCorner hC hZ hw hXs hNP hNR hok hrow hO 8 0 _ _ (by omega)
theorem c_X10_offer {E : zE} {T : zT} {N : zN} {P : zP} {I : zI} {R : zR} (x : Nat) (Mn : Nat → Prop) (b : Nat → Nat → Nat) (g : Nat) (f : zf) (r : zg) (w g' c9 s9 : Nat) (hC : CR T N P I R x Mn b g f r) (hZ : SrI f r) (hMn : ∀ a, Mn a → ¬ (T a).1 = 0) (hw : w < tn (f 18)) (hw0 : 0 ≤ nI w ∧ nI w ≤ f 18 - 1) (hO : ¬ ovr r (tn (r 22 w)) (r 20 w) (npw r w)) (hg : GrO g (npw r w) g' c9 s9) : zC E yX10_offer cX10_offer 4 (some .int) (zrm 6 145 c9 s9) [.ref x, .int (nI w)] T N P I R (cQ x Mn g' T N P I R (ac_offer f r (nI w))) := by
  refine zC.intro (ls := [some (.ref x), some (.int (nI w)), none, none]) pl_RX10 (zle rfl) 2 rfl (fun K => ?_)
  obtain ⟨hX, hT, hA, hP, hE, hW, hS, hQ⟩ := id hC
  obtain ⟨x1, x2, x3, x4, x5, x6, x7, x8, x9, x10, x11, x12, x13, x14⟩ := id hX
  obtain ⟨t1, t2, t3, t4, t5, t6, t7, t8, t9, t10⟩ := id hT
  have qs := hQ.1
  have h9b := hZ.1.1.2.1.2
  have h0 := hZ.1.2.1
  have h0b := h0.2
  obtain ⟨w1, w2⟩ := id hW
  obtain ⟨g1, g2, g3, g4, g5, g6, g7, g8, g9, g10, g11⟩ := w1 w hw
  obtain ⟨k1, k2, k3, k4, k5, k6, k7, k8, k9, k10⟩ := hZ.wk hw
  have hd := hZ.1.1.2.2.2.1
  have h18 := hZ.1.1.1.2
  have tw : tn (nI w) = w := tn_nI (by omega)
  refine v_aload_0 dX10_offer_0 rfl ?_
  refine v_iload_1 dX10_offer_1 rfl ?_
  refine v_callV (ci := 10) (F := TX10) (c_X10_findWalker x (b 0 3) w (b 5 w) x1 x5 x9 (by rw [x12]; exact hw0) (by omega) g1) yy_X10_findWalker im_X10_findWalker se_X10_findWalker lk_10_193 (by assumption) (zle rfl) rfl (zle rfl) (zle rfl) (by first | (show 0 + c9 ≤ c9; omega) | (show 0 ≤ c9; omega)) (by first | (show 0 + s9 ≤ s9; omega) | (show 0 ≤ s9; omega)) rfl rfl (zle rfl) dX10_offer_2 rfl (za.use ?_)
  refine v_astore_2 dX10_offer_5 rfl (zle rfl) rfl ?_
  refine v_aload_2 dX10_offer_6 rfl ?_
  refine v_ifnonnull (n := 17) dX10_offer_7 (by decide) ?_
  refine v_aload_2 dX10_offer_17 rfl ?_
  refine v_callV (ci := 8) (F := TX8) (c_X8_isOver (b 5 w) (b 3 (tn (r 22 w))) g2 g3 (hE _ k2).2.1) yy_X8_isOver im_X8_isOver se_X8_isOver lk_10_197 g2 (zle rfl) rfl (zle rfl) (zle rfl) (by first | (show 0 + c9 ≤ c9; omega) | (show 0 ≤ c9; omega)) (by first | (show 0 + s9 ≤ s9; omega) | (show 0 ≤ s9; omega)) rfl rfl (zle rfl) dX10_offer_18 rfl (zp.use ?_)
  refine v_top (zb_iff (q := ovr r (tn (r 22 w)) (r 20 w) (npw r w)) (by rw [g7]; exact ends_ovr (hE _ k2).2 k5 (r 20 w))) ?_
  refine v_top (zb_f hO) ?_
  refine v_if_eq_t (n := 31) rfl dX10_offer_21 (by decide) ?_
  refine v_aload_0 dX10_offer_31 rfl ?_
  refine v_aload_2 dX10_offer_32 rfl ?_
  refine v_callV (ci := 10) (F := TX10) (c_X10_searchFrom x Mn b g f r w g' c9 s9 hC hZ hMn hw hg) yy_X10_searchFrom im_X10_searchFrom se_X10_searchFrom lk_10_232 (by assumption) (zle rfl) rfl (zle rfl) (zle rfl) (by first | (show 0 + c9 ≤ c9; omega) | (show 0 ≤ c9; omega)) (by first | (show 0 + s9 ≤ s9; omega) | (show 0 ≤ s9; omega)) rfl rfl (zle rfl) dX10_offer_33 rfl (fun y T2 N2 P2 I2 R2 hq => ?_)
  obtain ⟨rfl, rfl, b', hb', hC1, hFr, hX1, tm, rm, st, nb, hNP, hNR, hRR, hBB, hok, hrow⟩ := hq
  have eb0 : b' 0 = b 0 := hb' 0 (by decide)
  obtain ⟨y1, y2, y3, y4, y5, y6, y7, y8, y9, y10, y11, y12, y13, y14⟩ := id hC1.1
  have ys := hC1.2.2.2.2.2.2.2.1
  obtain ⟨n1, n2, n3, n4, n5, n6, n7, n8, n9, n10, n11⟩ := hC1.2.2.2.2.2.1.1 w hw
  have eb5 : b' 5 = b 5 := hb' 5 (by decide)
  rw [eb5] at n1 n2 n3 n4 n5 n6 n7 n8 n9 n10 n11
  rw [← eb5]
  refine v_aload_0 dX10_offer_36 rfl ?_
  refine v_aload_2 dX10_offer_37 rfl ?_
  refine v_callV (ci := 10) (F := TX10) (c_X10_bestNextCorner x Mn b' g' f r w tm st nb hC1 hZ hw hX1 hNP hNR hok hrow hO) yy_X10_bestNextCorner im_X10_bestNextCorner se_X10_bestNextCorner lk_10_236 y1 (zle rfl) rfl (zle rfl) (zle rfl) (by first | (show 0 + c9 ≤ c9; omega) | (show 0 ≤ c9; omega)) (by first | (show 0 + s9 ≤ s9; omega) | (show 0 ≤ s9; omega)) rfl rfl (zle rfl) dX10_offer_38 rfl (zp.use ?_)
  refine v_istore_3 dX10_offer_41 rfl (zle rfl) rfl ?_
  refine v_iload_3 dX10_offer_42 rfl ?_
  by_cases hz : 0 ≤ (ofv f r w 8).1
  · refine v_if_lt_f (tgt := 50) (i_nlt0.mpr hz) dX10_offer_43 (by decide) rfl ?_
    refine v_iload_3 dX10_offer_46 rfl ?_
    refine v_goto (n := 56) dX10_offer_47 (by decide) ?_
    exact v_ireturn rfl (cQ_tr hFr (cQ_rd hC1 ((((zi_t hw0).trans (zi_f (by rw [tw]; exact hO))).trans (zi_t (by rw [tw]; exact hz))).trans (by rw [tw])) rfl)) (by first | (show 0 + c9 ≤ c9; omega) | (show 0 ≤ c9; omega)) (by first | (show 0 + s9 ≤ s9; omega) | (show 0 ≤ s9; omega)) dX10_offer_56
  · refine v_if_lt_t (n := 50) (i_lt0 hz) dX10_offer_43 (by decide) ?_
    refine v_aload_0 dX10_offer_50 rfl ?_
    refine v_ldc dX10_offer_51 kc_10_175 rfl ?_
    refine v_callV (ci := 10) (F := TX10) (c_X10_finding x (-1000004) y1) yy_X10_finding im_X10_finding se_X10_finding lk_10_66 y1 (zle rfl) rfl (zle rfl) (zle rfl) (by first | (show 0 + c9 ≤ c9; omega) | (show 0 ≤ c9; omega)) (by first | (show 0 + s9 ≤ s9; omega) | (show 0 ≤ s9; omega)) rfl rfl (zle rfl) dX10_offer_53 rfl (zp.use ?_)
    exact v_ireturn rfl (cQ_tr hFr (cQ_fd hC1 (((zi_t hw0).trans (zi_f (by rw [tw]; exact hO))).trans (zi_f (by rw [tw]; exact hz))))) (by first | (show 0 + c9 ≤ c9; omega) | (show 0 ≤ c9; omega)) (by first | (show 0 + s9 ≤ s9; omega) | (show 0 ≤ s9; omega)) dX10_offer_56
theorem c_X10_offer_o {E : zE} {T : zT} {N : zN} {P : zP} {I : zI} {R : zR} (x : Nat) (Mn : Nat → Prop) (b : Nat → Nat → Nat) (g : Nat) (f : zf) (r : zg) (w : Nat) (hC : CR T N P I R x Mn b g f r) (hZ : SrI f r) (hw : w < tn (f 18)) (hw0 : 0 ≤ nI w ∧ nI w ≤ f 18 - 1) (hO : ovr r (tn (r 22 w)) (r 20 w) (npw r w)) : zC E yX10_offer cX10_offer 4 (some .int) (zrm 6 145 0 0) [.ref x, .int (nI w)] T N P I R (cQ x Mn g T N P I R (ac_offer f r (nI w))) := by
  refine zC.intro (ls := [some (.ref x), some (.int (nI w)), none, none]) pl_RX10 (zle rfl) 2 rfl (fun K => ?_)
  obtain ⟨hX, hT, hA, hP, hE, hW, hS, hQ⟩ := id hC
  obtain ⟨x1, x2, x3, x4, x5, x6, x7, x8, x9, x10, x11, x12, x13, x14⟩ := id hX
  obtain ⟨t1, t2, t3, t4, t5, t6, t7, t8, t9, t10⟩ := id hT
  have qs := hQ.1
  have h9b := hZ.1.1.2.1.2
  have h0 := hZ.1.2.1
  have h0b := h0.2
  obtain ⟨w1, w2⟩ := id hW
  obtain ⟨g1, g2, g3, g4, g5, g6, g7, g8, g9, g10, g11⟩ := w1 w hw
  obtain ⟨k1, k2, k3, k4, k5, k6, k7, k8, k9, k10⟩ := hZ.wk hw
  have hd := hZ.1.1.2.2.2.1
  have h18 := hZ.1.1.1.2
  have tw : tn (nI w) = w := tn_nI (by omega)
  refine v_aload_0 dX10_offer_0 rfl ?_
  refine v_iload_1 dX10_offer_1 rfl ?_
  refine v_callV (ci := 10) (F := TX10) (c_X10_findWalker x (b 0 3) w (b 5 w) x1 x5 x9 (by rw [x12]; exact hw0) (by omega) g1) yy_X10_findWalker im_X10_findWalker se_X10_findWalker lk_10_193 (by assumption) (zle rfl) rfl (zle rfl) (zle rfl) (zle rfl) (zle rfl) rfl rfl (zle rfl) dX10_offer_2 rfl (za.use ?_)
  refine v_astore_2 dX10_offer_5 rfl (zle rfl) rfl ?_
  refine v_aload_2 dX10_offer_6 rfl ?_
  refine v_ifnonnull (n := 17) dX10_offer_7 (by decide) ?_
  refine v_aload_2 dX10_offer_17 rfl ?_
  refine v_callV (ci := 8) (F := TX8) (c_X8_isOver (b 5 w) (b 3 (tn (r 22 w))) g2 g3 (hE _ k2).2.1) yy_X8_isOver im_X8_isOver se_X8_isOver lk_10_197 g2 (zle rfl) rfl (zle rfl) (zle rfl) (zle rfl) (zle rfl) rfl rfl (zle rfl) dX10_offer_18 rfl (zp.use ?_)
  refine v_top (zb_iff (q := ovr r (tn (r 22 w)) (r 20 w) (npw r w)) (by rw [g7]; exact ends_ovr (hE _ k2).2 k5 (r 20 w))) ?_
  refine v_top (zb_t hO) ?_
  refine v_if_eq_f (tgt := 31) (by decide) dX10_offer_21 (by decide) rfl ?_
  refine v_aload_0 dX10_offer_24 rfl ?_
  refine v_ldc dX10_offer_25 kc_10_183 rfl ?_
  refine v_callV (ci := 10) (F := TX10) (c_X10_finding _ _ (by assumption)) yy_X10_finding im_X10_finding se_X10_finding lk_10_66 (by assumption) (zle rfl) rfl (zle rfl) (zle rfl) (zle rfl) (zle rfl) rfl rfl (zle rfl) dX10_offer_27 rfl (zp.use ?_)
  exact v_ireturn rfl (cQ_fd hC ((zi_t hw0).trans (zi_t (by rw [tw]; exact hO)))) (zle rfl) (zle rfl) dX10_offer_30
theorem c_X10_offer_n {E : zE} {T : zT} {N : zN} {P : zP} {I : zI} {R : zR} (x : Nat) (Mn : Nat → Prop) (b : Nat → Nat → Nat) (g : Nat) (f : zf) (r : zg) (w : Int32) (hC : CR T N P I R x Mn b g f r) (hw0 : ¬ (0 ≤ w ∧ w ≤ f 18 - 1)) : zC E yX10_offer cX10_offer 4 (some .int) (zrm 6 145 0 0) [.ref x, .int w] T N P I R (cQ x Mn g T N P I R (ac_offer f r w)) := by
  refine zC.intro (ls := [some (.ref x), some (.int w), none, none]) pl_RX10 (zle rfl) 2 rfl (fun K => ?_)
  obtain ⟨hX, hT, hA, hP, hE, hW, hS, hQ⟩ := id hC
  obtain ⟨x1, x2, x3, x4, x5, x6, x7, x8, x9, x10, x11, x12, x13, x14⟩ := id hX
  refine v_aload_0 dX10_offer_0 rfl ?_
  refine v_iload_1 dX10_offer_1 rfl ?_
  refine v_callV (ci := 10) (F := TX10) (c_X10_findWalker_n x w x1 (by rw [x12]; exact hw0)) yy_X10_findWalker im_X10_findWalker se_X10_findWalker lk_10_193 (by assumption) (zle rfl) rfl (zle rfl) (zle rfl) (zle rfl) (zle rfl) rfl rfl (zle rfl) dX10_offer_2 rfl (za.use ?_)
  refine v_astoreN_2 dX10_offer_5 rfl (zle rfl) rfl ?_
  refine v_aloadN_2 dX10_offer_6 rfl ?_
  refine v_ifnonnullN dX10_offer_7 rfl ?_
  refine v_aload_0 dX10_offer_10 rfl ?_
  refine v_ldc dX10_offer_11 kc_10_65 rfl ?_
  refine v_callV (ci := 10) (F := TX10) (c_X10_finding _ _ (by assumption)) yy_X10_finding im_X10_finding se_X10_finding lk_10_66 (by assumption) (zle rfl) rfl (zle rfl) (zle rfl) (zle rfl) (zle rfl) rfl rfl (zle rfl) dX10_offer_13 rfl (zp.use ?_)
  exact v_ireturn rfl (cQ_fd hC (zi_f hw0)) (zle rfl) (zle rfl) dX10_offer_16
