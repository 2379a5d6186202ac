def tpR (T : zT) (N : zN) (P : zP) (I : zI) (tp tb L : Nat) (b : Nat → Int32) : Prop := (T tp).1 = 16 ∧ P 6 0 tp = some tb ∧ T tb = (3, 200) ∧ N 6 1 tp = nI L ∧ L ≤ 200 ∧ ∀ p, b p = zi (p < L) (I tb p &&& 255) (-1)
theorem inL {p L : Nat} (hp : p < 2 ^ 30) (hL : L ≤ 200) : (0 ≤ nI p ∧ nI p ≤ nI L - 1) ↔ p < L := by
  rw [Nt.within (Nt.of_nI (k := L) (b := 201) (by omega) (by omega)) (by decide), tn_nI (by omega)]
  constructor
  · intro h
    have := h.2
    rw [tn_nI (by omega)] at this
    exact this
  · intro h
    exact Nt.of_nI h (by omega)
theorem kby_klt {j : Nat} (h : j < 4) : kby (klt j) = nI j := by
  rcases (show j = 0 ∨ j = 1 ∨ j = 2 ∨ j = 3 by omega) with h | h | h | h <;> subst h
  · exact zi_t rfl
  · exact (zi_f (by decide)).trans (zi_t rfl)
  · exact (zi_f (by decide)).trans ((zi_f (by decide)).trans (zi_t rfl))
  · exact (zi_f (by decide)).trans ((zi_f (by decide)).trans ((zi_f (by decide)).trans (zi_t rfl)))
theorem kby_no {x : Int32} (h : ∀ i, i < 4 → ¬ klt i = x) : kby x = -1 := by
  unfold kby
  rw [zi_f (fun e => h 0 (by decide) e.symm), zi_f (fun e => h 1 (by decide) e.symm), zi_f (fun e => h 2 (by decide) e.symm), zi_f (fun e => h 3 (by decide) e.symm)]
theorem hsb_1 {x : Int32} {c : Nat} : hsb x c 0 1 ↔ x = nI c := by
  constructor
  · rintro ⟨w, h1, h2, rfl⟩
    rw [show w = 0 by omega]; rfl
  · intro h
    exact ⟨0, Nat.le_refl _, by decide, h⟩
theorem c_X6_byteAt {E : zE} {T : zT} {N : zN} {P : zP} {I : zI} {R : zR} (tp tb L : Nat) (b : Nat → Int32) (p : Nat) (hR : tpR T N P I tp tb L b) (hpb : p < 2 ^ 30) : zC E yX6_byteAt cX6_byteAt 2 (some .int) (zr0 1 22) [.ref tp, .int (nI p)] T N P I R (zp (b p) T N P I R) := by
  refine zC.intro (ls := [some (.ref tp), some (.int (nI p))]) pl_RX6 (zle rfl) 0 rfl (fun K => ?_)
  obtain ⟨g1, g2, g3, g4, g5, g6⟩ := hR
  refine v_iload_1 dX6_byteAt_0 rfl ?_
  refine v_iconst (v := 0) dX6_byteAt_1 rfl rfl ?_
  refine v_aload_0 dX6_byteAt_2 rfl ?_
  refine v_getN fl_6_15 (by assumption) rfl (zle rfl) rfl dX6_byteAt_3 rfl ?_
  refine v_iconst (v := 1) dX6_byteAt_6 rfl rfl ?_
  refine v_isub dX6_byteAt_7 rfl ?_
  refine v_callS (c_X10_isWithin _ _ _) yy_X10_isWithin st_X10_isWithin lk_6_19 (zle rfl) (zle rfl) (zle rfl) (zle rfl) rfl rfl (zle rfl) dX6_byteAt_8 rfl (zp.use ?_)
  refine v_top (zb_iff (q := p < L) (by rw [g4]; exact inL (by omega) g5)) ?_
  refine v_ifz_eq (tgt := 27) dX6_byteAt_11 (by decide) rfl (fun c11 => ?_) (fun c11 => ?_)
  · refine v_iconst (v := -1) dX6_byteAt_27 rfl rfl ?_
    exact v_ireturn rfl (by rw [g6, zi_f c11]; exact zp.rf) (zle rfl) (zle rfl) dX6_byteAt_28
  · refine v_aload_0 dX6_byteAt_14 rfl ?_
    refine v_getP fl_6_9 (by assumption) (by assumption) rfl (zle rfl) rfl dX6_byteAt_15 rfl ?_
    refine v_iload_1 dX6_byteAt_18 rfl ?_
    refine v_bald (j := p) (by assumption) rfl (by omega) (zle rfl) dX6_byteAt_19 rfl ?_
    refine v_sipush (v := 255) dX6_byteAt_20 rfl rfl ?_
    refine v_iand dX6_byteAt_23 rfl ?_
    refine v_goto (n := 28) dX6_byteAt_24 (by decide) ?_
    exact v_ireturn rfl (by rw [g6, zi_t c11]; exact zp.rf) (zle rfl) (zle rfl) dX6_byteAt_28
theorem c_X3_takeOneOf {E : zE} {T : zT} {N : zN} {P : zP} {I : zI} {R : zR} (q tp tb L : Nat) (b : Nat → Int32) (p : Nat) (c n : Nat)  (hq : (T q).1 = 13) (h0 : P 3 0 q = some tp) (hp : N 3 2 q = nI p) (hR : tpR T N P I tp tb L b) (hpb : p < 2 ^ 29) (hBt : ∀ p, Bt (b p)) (hc : c + n ≤ 300) (hw : hsb (b p) c 0 n) : zC E yX3_takeOneOf cX3_takeOneOf 4 (some .int) (zr0 2 43) [.ref q, .int (nI c), .int (nI n)] T N P I R (zp (nI (wh (b p) c)) T (u3 N 3 2 q (nI (p + 1))) P I R) := by
  refine zC.intro (ls := [some (.ref q), some (.int (nI c)), some (.int (nI n)), none]) pl_RX3 (zle rfl) 1 rfl (fun K => ?_)
  refine v_aload_0 dX3_takeOneOf_0 rfl ?_
  refine v_getP fl_3_15 (by assumption) (by assumption) rfl (zle rfl) rfl dX3_takeOneOf_1 rfl ?_
  refine v_aload_0 dX3_takeOneOf_4 rfl ?_
  refine v_getN fl_3_9 (by assumption) rfl (zle rfl) rfl dX3_takeOneOf_5 rfl ?_
  refine v_top hp ?_
  refine v_callV (ci := 6) (F := TX6) (c_X6_byteAt tp tb L b p hR (by omega)) yy_X6_byteAt im_X6_byteAt se_X6_byteAt lk_3_58 hR.1 (zle rfl) rfl (zle rfl) (zle rfl) (zle rfl) (zle rfl) rfl rfl (zle rfl) dX3_takeOneOf_8 rfl (zp.use ?_)
  refine v_iload_1 dX3_takeOneOf_11 rfl ?_
  refine v_isub dX3_takeOneOf_12 rfl ?_
  refine v_top (hsb_s (n := n) hw hc) ?_
  refine v_istore_3 dX3_takeOneOf_13 rfl (zle rfl) rfl ?_
  refine v_iload_3 dX3_takeOneOf_14 rfl ?_
  refine v_iconst (v := 0) dX3_takeOneOf_15 rfl rfl ?_
  refine v_iload_2 dX3_takeOneOf_16 rfl ?_
  refine v_iconst (v := 1) dX3_takeOneOf_17 rfl rfl ?_
  refine v_isub dX3_takeOneOf_18 rfl ?_
  refine v_callS (c_X10_isWithin _ _ _) yy_X10_isWithin st_X10_isWithin lk_3_72 (zle rfl) (zle rfl) (zle rfl) (zle rfl) rfl rfl (zle rfl) dX3_takeOneOf_19 rfl (zp.use ?_)
  refine v_top (zb_t ?_) ?_
  · rw [← hsb_s (n := n) hw hc]; exact (hsb_cls (l := 0) (hBt p) hc (by omega)).mpr hw
  refine v_if_ne_t (n := 27) (by decide) dX3_takeOneOf_22 (by decide) ?_
  refine v_aload_0 dX3_takeOneOf_27 rfl ?_
  refine v_dup dX3_takeOneOf_28 rfl rfl ?_
  refine v_getN fl_3_9 (by assumption) rfl (zle rfl) rfl dX3_takeOneOf_29 rfl ?_
  refine v_top hp ?_
  refine v_iconst (v := 1) dX3_takeOneOf_32 rfl rfl ?_
  refine v_iadd dX3_takeOneOf_33 rfl ?_
  refine v_top (nI_1 p) ?_
  refine v_putN fw_3_9 (by assumption) rfl (zle rfl) rfl (fun h => by cases h) rfl rfl dX3_takeOneOf_34 rfl ?_
  refine v_iload_3 dX3_takeOneOf_37 rfl ?_
  exact v_ireturn rfl (zp.rf) (zle rfl) (zle rfl) dX3_takeOneOf_38
theorem c_X3_takeOneOf_f {E : zE} {T : zT} {N : zN} {P : zP} {I : zI} {R : zR} (q tp tb L : Nat) (b : Nat → Int32) (p : Nat) (c n : Nat)  (hq : (T q).1 = 13) (h0 : P 3 0 q = some tp) (hp : N 3 2 q = nI p) (hR : tpR T N P I tp tb L b) (hpb : p < 2 ^ 29) (hBt : ∀ p, Bt (b p)) (hc : c + n ≤ 300) (hw : ¬ hsb (b p) c 0 n) : zC E yX3_takeOneOf cX3_takeOneOf 4 (some .int) (zr0 2 43) [.ref q, .int (nI c), .int (nI n)] T N P I R (zp (-1) T N P I R) := by
  refine zC.intro (ls := [some (.ref q), some (.int (nI c)), some (.int (nI n)), none]) pl_RX3 (zle rfl) 1 rfl (fun K => ?_)
  refine v_aload_0 dX3_takeOneOf_0 rfl ?_
  refine v_getP fl_3_15 (by assumption) (by assumption) rfl (zle rfl) rfl dX3_takeOneOf_1 rfl ?_
  refine v_aload_0 dX3_takeOneOf_4 rfl ?_
  refine v_getN fl_3_9 (by assumption) rfl (zle rfl) rfl dX3_takeOneOf_5 rfl ?_
  refine v_top hp ?_
  refine v_callV (ci := 6) (F := TX6) (c_X6_byteAt tp tb L b p hR (by omega)) yy_X6_byteAt im_X6_byteAt se_X6_byteAt lk_3_58 hR.1 (zle rfl) rfl (zle rfl) (zle rfl) (zle rfl) (zle rfl) rfl rfl (zle rfl) dX3_takeOneOf_8 rfl (zp.use ?_)
  refine v_iload_1 dX3_takeOneOf_11 rfl ?_
  refine v_isub dX3_takeOneOf_12 rfl ?_
  refine v_istore_3 dX3_takeOneOf_13 rfl (zle rfl) rfl ?_
  refine v_iload_3 dX3_takeOneOf_14 rfl ?_
  refine v_iconst (v := 0) dX3_takeOneOf_15 rfl rfl ?_
  refine v_iload_2 dX3_takeOneOf_16 rfl ?_
  refine v_iconst (v := 1) dX3_takeOneOf_17 rfl rfl ?_
  refine v_isub dX3_takeOneOf_18 rfl ?_
  refine v_callS (c_X10_isWithin _ _ _) yy_X10_isWithin st_X10_isWithin lk_3_72 (zle rfl) (zle rfl) (zle rfl) (zle rfl) rfl rfl (zle rfl) dX3_takeOneOf_19 rfl (zp.use ?_)
  refine v_top (zb_f (fun h => hw ((hsb_cls (l := 0) (hBt p) hc (by omega)).mp h))) ?_
  refine v_if_ne_f (tgt := 27) (by decide) dX3_takeOneOf_22 (by decide) rfl ?_
  refine v_iconst (v := -1) dX3_takeOneOf_25 rfl rfl ?_
  exact v_ireturn rfl (zp.rf) (zle rfl) (zle rfl) dX3_takeOneOf_26
theorem c_X3_takeSign {E : zE} {T : zT} {N : zN} {P : zP} {I : zI} {R : zR} (q tp tb L : Nat) (b : Nat → Int32) (p : Nat) (c : Nat)  (hq : (T q).1 = 13) (h0 : P 3 0 q = some tp) (hp : N 3 2 q = nI p) (hR : tpR T N P I tp tb L b) (hpb : p < 2 ^ 29) (hBt : ∀ p, Bt (b p)) (hc : c + 1 ≤ 300) (hw : b p = nI c) : zC E yX3_takeSign cX3_takeSign 2 (some .boolean) (zr0 3 66) [.ref q, .int (nI c)] T N P I R (zp 1 T (u3 N 3 2 q (nI (p + 1))) P I R) := by
  refine zC.intro (ls := [some (.ref q), some (.int (nI c))]) pl_RX3 (zle rfl) 0 rfl (fun K => ?_)
  refine v_aload_0 dX3_takeSign_0 rfl ?_
  refine v_iload_1 dX3_takeSign_1 rfl ?_
  refine v_iconst (v := 1) dX3_takeSign_2 rfl rfl ?_
  refine v_callV (ci := 3) (F := TX3) (c_X3_takeOneOf q tp tb L b p c 1 hq h0 hp hR hpb hBt hc (hsb_1.mpr hw)) yy_X3_takeOneOf im_X3_takeOneOf se_X3_takeOneOf lk_3_38 hq (zle rfl) rfl (zle rfl) (zle rfl) (zle rfl) (zle rfl) rfl rfl (zle rfl) dX3_takeSign_3 rfl (zp.use ?_)
  refine v_top (show nI (wh (b p) c) = 0 by rw [hw]; unfold wh; rw [tn_nI (by omega), Nat.sub_self]; rfl) ?_
  refine v_if_ne_f (tgt := 13) (by decide) dX3_takeSign_6 (by decide) rfl ?_
  refine v_iconst (v := 1) dX3_takeSign_9 rfl rfl ?_
  refine v_goto (n := 14) dX3_takeSign_10 (by decide) ?_
  exact v_zreturn rfl rfl (zp.rf) (zle rfl) (zle rfl) dX3_takeSign_14
theorem c_X3_takeSign_f {E : zE} {T : zT} {N : zN} {P : zP} {I : zI} {R : zR} (q tp tb L : Nat) (b : Nat → Int32) (p : Nat) (c : Nat)  (hq : (T q).1 = 13) (h0 : P 3 0 q = some tp) (hp : N 3 2 q = nI p) (hR : tpR T N P I tp tb L b) (hpb : p < 2 ^ 29) (hBt : ∀ p, Bt (b p)) (hc : c + 1 ≤ 300) (hw : ¬ b p = nI c) : zC E yX3_takeSign cX3_takeSign 2 (some .boolean) (zr0 3 66) [.ref q, .int (nI c)] T N P I R (zp 0 T N P I R) := by
  refine zC.intro (ls := [some (.ref q), some (.int (nI c))]) pl_RX3 (zle rfl) 0 rfl (fun K => ?_)
  refine v_aload_0 dX3_takeSign_0 rfl ?_
  refine v_iload_1 dX3_takeSign_1 rfl ?_
  refine v_iconst (v := 1) dX3_takeSign_2 rfl rfl ?_
  refine v_callV (ci := 3) (F := TX3) (c_X3_takeOneOf_f q tp tb L b p c 1 hq h0 hp hR hpb hBt hc (fun h => hw (hsb_1.mp h))) yy_X3_takeOneOf im_X3_takeOneOf se_X3_takeOneOf lk_3_38 hq (zle rfl) rfl (zle rfl) (zle rfl) (zle rfl) (zle rfl) rfl rfl (zle rfl) dX3_takeSign_3 rfl (zp.use ?_)
  refine v_if_ne_t (n := 13) (by decide) dX3_takeSign_6 (by decide) ?_
  refine v_iconst (v := 0) dX3_takeSign_13 rfl rfl ?_
  exact v_zreturn rfl rfl (zp.rf) (zle rfl) (zle rfl) dX3_takeSign_14
theorem lp_X3_takeKind {E : zE} {T : zT} {N : zN} {P : zP} {I : zI} {R : zR} {q tp tb L : Nat} {b : Nat → Int32} {p : Nat} {K : zK E yX3_takeKind cX3_takeKind 3 (some .int) (zr0 4 85)} (hq : (T q).1 = 13) (h0 : P 3 0 q = some tp) (hp : N 3 2 q = nI p) (hR : tpR T N P I tp tb L b) (hpb : p < 2 ^ 29) : ∀ k j, j + k = 4 → (∀ i, i < j → ¬ klt i = b p) → V K (zQf K (zp (kby (b p)) T (zi (kby (b p) < 0) N (u3 N 3 2 q (nI (p + 1)))) P I R)) T N P I R 0 0 14 [some (.ref q), some (.int (b p)), some (.int (nI j))] [] := by
  intro k
  induction k with
  | zero =>
    intro j hj hn
    obtain rfl : j = 4 := by omega
    have ek := kby_no hn
    refine v_iload_2 dX3_takeKind_14 rfl ?_
    refine v_ldcS rfl dX3_takeKind_15 rfl ?_
    refine v_callT c_J0_length_8abf5 yy_J0_length_8abf5 im_J0_length_8abf5 se_J0_length_8abf5 lk_3_64 rfl (zle rfl) (zle rfl) (zle rfl) (zle rfl) rfl rfl (zle rfl) dX3_takeKind_17 rfl (zp.use ?_)
    refine v_icmp_ge_t (n := 51) (by decide) dX3_takeKind_20 (by decide) ?_
    refine v_iconst (v := -1) dX3_takeKind_51 rfl rfl ?_
    exact v_ireturn rfl (by rw [ek, zi_t (by decide)]; exact zp.rf) (zle rfl) (zle rfl) dX3_takeKind_52
  | succ k ih =>
    intro j hj hn
    refine v_iload_2 dX3_takeKind_14 rfl ?_
    refine v_ldcS rfl dX3_takeKind_15 rfl ?_
    refine v_callT c_J0_length_8abf5 yy_J0_length_8abf5 im_J0_length_8abf5 se_J0_length_8abf5 lk_3_64 rfl (zle rfl) (zle rfl) (zle rfl) (zle rfl) rfl rfl (zle rfl) dX3_takeKind_17 rfl (zp.use ?_)
    refine v_icmp_ge_f (tgt := 51) (nI_ge (a := j) (b := 4) (by omega) (by decide)) dX3_takeKind_20 (by decide) rfl ?_
    refine v_ldcS rfl dX3_takeKind_23 rfl ?_
    refine v_iload_2 dX3_takeKind_25 rfl ?_
    refine v_callT (c_J0_charAt_5068e j (by omega)) yy_J0_charAt_5068e im_J0_charAt_5068e se_J0_charAt_5068e lk_3_68 rfl (zle rfl) (zle rfl) (zle rfl) (zle rfl) rfl rfl (zle rfl) dX3_takeKind_26 rfl (zp.use ?_)
    refine v_iload_1 dX3_takeKind_29 rfl ?_
    refine v_icmp_ne (tgt := 45) dX3_takeKind_30 (by decide) rfl (fun c30 => ?_) (fun c30 => ?_)
    · refine v_iinc_2 dX3_takeKind_45 (nI_1 j) rfl (zle rfl) rfl ?_
      refine v_goto (n := 14) dX3_takeKind_48 (by decide) ?_
      exact ih (j + 1) (by omega) (fun i hi => by
        rcases (show i < j ∨ i = j by omega) with h | h
        · exact hn i h
        · subst h; exact c30)
    · refine v_aload_0 dX3_takeKind_33 rfl ?_
      refine v_dup dX3_takeKind_34 rfl rfl ?_
      refine v_getN fl_3_9 (by assumption) rfl (zle rfl) rfl dX3_takeKind_35 rfl ?_
      refine v_top hp ?_
      refine v_iconst (v := 1) dX3_takeKind_38 rfl rfl ?_
      refine v_iadd dX3_takeKind_39 rfl ?_
      refine v_top (nI_1 p) ?_
      refine v_putN fw_3_9 (by assumption) rfl (zle rfl) rfl (fun h => by cases h) rfl rfl dX3_takeKind_40 rfl ?_
      refine v_iload_2 dX3_takeKind_43 rfl ?_
      exact v_ireturn rfl (by
        have ek : kby (b p) = nI j := by rw [← c30]; exact kby_klt (by omega)
        rw [ek, zi_f (nI_pos (by omega))]; exact zp.rf) (zle rfl) (zle rfl) dX3_takeKind_44
theorem c_X3_takeKind {E : zE} {T : zT} {N : zN} {P : zP} {I : zI} {R : zR} (q tp tb L : Nat) (b : Nat → Int32) (p : Nat)  (hq : (T q).1 = 13) (h0 : P 3 0 q = some tp) (hp : N 3 2 q = nI p) (hR : tpR T N P I tp tb L b) (hpb : p < 2 ^ 29) : zC E yX3_takeKind cX3_takeKind 3 (some .int) (zr0 4 85) [.ref q] T N P I R (zp (kby (b p)) T (zi (kby (b p) < 0) N (u3 N 3 2 q (nI (p + 1)))) P I R) := by
  refine zC.intro (ls := [some (.ref q), none, none]) pl_RX3 (zle rfl) 2 rfl (fun K => ?_)
  refine v_aload_0 dX3_takeKind_0 rfl ?_
  refine v_getP fl_3_15 (by assumption) (by assumption) rfl (zle rfl) rfl dX3_takeKind_1 rfl ?_
  refine v_aload_0 dX3_takeKind_4 rfl ?_
  refine v_getN fl_3_9 (by assumption) rfl (zle rfl) rfl dX3_takeKind_5 rfl ?_
  refine v_top hp ?_
  refine v_callV (ci := 6) (F := TX6) (c_X6_byteAt tp tb L b p hR (by omega)) yy_X6_byteAt im_X6_byteAt se_X6_byteAt lk_3_58 hR.1 (zle rfl) rfl (zle rfl) (zle rfl) (zle rfl) (zle rfl) rfl rfl (zle rfl) dX3_takeKind_8 rfl (zp.use ?_)
  refine v_istore_1 dX3_takeKind_11 rfl (zle rfl) rfl ?_
  refine v_iconst (v := 0) dX3_takeKind_12 rfl rfl ?_
  refine v_istore_2 dX3_takeKind_13 rfl (zle rfl) rfl ?_
  exact lp_X3_takeKind hq h0 hp hR hpb 4 0 rfl (fun i hi => absurd hi (by omega))
theorem lp_X3_takeRising {E : zE} {T : zT} {N : zN} {P : zP} {I : zI} {R : zR} {q tp tb L : Nat} {b : Nat → Int32} {c n : Nat} {K : zK E yX3_takeRising cX3_takeRising 7 (some .int) (zr0 2 43)} (hq : (T q).1 = 13) (h0 : P 3 0 q = some tp) (hR : tpR T N P I tp tb L b) (hBt : ∀ p, Bt (b p)) (hc : c + n ≤ 300) : ∀ k i l (s : Int32) p (o6 : Option Value), i + k = n → l ≤ n → p + k < 2 ^ 30 → V K (zQf K (zp (rsn b c n k l s p).1 T (u3 N 3 2 q (nI (rsn b c n k l s p).2)) P I R)) T (u3 N 3 2 q (nI p)) P I R 0 0 8 [some (.ref q), some (.int (nI c)), some (.int (nI n)), some (.int s), some (.int (nI l)), some (.int (nI i)), o6] [] := by
  intro k
  induction k with
  | zero =>
    intro i l s p o6 hi hl hpb
    obtain rfl : i = n := by omega
    refine v_iload_5 dX3_takeRising_8 rfl ?_
    refine v_iload_2 dX3_takeRising_10 rfl ?_
    refine v_icmp_ge_t (n := 74) (nI_le (a := i) (b := i) (by omega) (by omega)) dX3_takeRising_11 (by decide) ?_
    refine v_iload_3 dX3_takeRising_74 rfl ?_
    exact v_ireturn rfl (zp.rf) (zle rfl) (zle rfl) dX3_takeRising_75
  | succ k ih =>
    intro i l s p o6 hi hl hpb
    refine v_iload_5 dX3_takeRising_8 rfl ?_
    refine v_iload_2 dX3_takeRising_10 rfl ?_
    refine v_icmp_ge_f (tgt := 74) (nI_ge (a := i) (b := n) (by omega) (by omega)) dX3_takeRising_11 (by decide) rfl ?_
    refine v_aload_0 dX3_takeRising_14 rfl ?_
    refine v_getP fl_3_15 (by assumption) (by assumption) rfl (zle rfl) rfl dX3_takeRising_15 rfl ?_
    refine v_aload_0 dX3_takeRising_18 rfl ?_
    refine v_getN fl_3_9 (by assumption) rfl (zle rfl) rfl dX3_takeRising_19 rfl ?_
    refine v_top u3_self ?_
    refine v_callV (ci := 6) (F := TX6) (c_X6_byteAt (N := u3 N 3 2 q (nI p)) tp tb L b p hR (by omega)) yy_X6_byteAt im_X6_byteAt se_X6_byteAt lk_3_58 hR.1 (zle rfl) rfl (zle rfl) (zle rfl) (zle rfl) (zle rfl) rfl rfl (zle rfl) dX3_takeRising_22 rfl (zp.use ?_)
    refine v_iload_1 dX3_takeRising_25 rfl ?_
    refine v_isub dX3_takeRising_26 rfl ?_
    refine v_istore_6 dX3_takeRising_27 rfl (zle rfl) rfl ?_
    refine v_iload_6 dX3_takeRising_29 rfl ?_
    refine v_iload_4 dX3_takeRising_31 rfl ?_
    refine v_iload_2 dX3_takeRising_33 rfl ?_
    refine v_iconst (v := 1) dX3_takeRising_34 rfl rfl ?_
    refine v_isub dX3_takeRising_35 rfl ?_
    refine v_callS (c_X10_isWithin _ _ _) yy_X10_isWithin st_X10_isWithin lk_3_72 (zle rfl) (zle rfl) (zle rfl) (zle rfl) rfl rfl (zle rfl) dX3_takeRising_36 rfl (zp.use ?_)
    refine v_top (zb_iff (q := hsb (b p) c l n) (hsb_cls (hBt p) hc (by omega))) ?_
    refine v_ifz_ne (tgt := 45) dX3_takeRising_39 (by decide) rfl (fun c39 => ?_) (fun c39 => ?_)
    · refine v_loc (ls := [some (.ref q), some (.int (nI c)), some (.int (nI n)), some (.int s), some (.int (nI l)), some (.int (nI i)), some (.int (nI (wh (b p) c)))]) (by rw [hsb_s (n := n) c39 hc]) ?_
      refine v_iload_3 dX3_takeRising_45 rfl ?_
      refine v_iconst (v := 1) dX3_takeRising_46 rfl rfl ?_
      refine v_iload_6 dX3_takeRising_47 rfl ?_
      refine v_ishl dX3_takeRising_49 rfl ?_
      refine v_ior dX3_takeRising_50 rfl ?_
      refine v_istore_3 dX3_takeRising_51 rfl (zle rfl) rfl ?_
      refine v_iload_6 dX3_takeRising_52 rfl ?_
      refine v_iconst (v := 1) dX3_takeRising_54 rfl rfl ?_
      refine v_iadd dX3_takeRising_55 rfl ?_
      refine v_top (nI_1 (wh (b p) c)) ?_
      refine v_istore_4 dX3_takeRising_56 rfl (zle rfl) rfl ?_
      refine v_aload_0 dX3_takeRising_58 rfl ?_
      refine v_dup dX3_takeRising_59 rfl rfl ?_
      refine v_getN fl_3_9 (by assumption) rfl (zle rfl) rfl dX3_takeRising_60 rfl ?_
      refine v_top u3_self ?_
      refine v_iconst (v := 1) dX3_takeRising_63 rfl rfl ?_
      refine v_iadd dX3_takeRising_64 rfl ?_
      refine v_top (nI_1 p) ?_
      refine v_putN fw_3_9 (by assumption) rfl (zle rfl) rfl (fun h => by cases h) rfl rfl dX3_takeRising_65 rfl ?_
      rw [u3_u3]
      refine v_iinc_5 dX3_takeRising_68 (nI_1 i) rfl (zle rfl) rfl ?_
      refine v_goto (n := 8) dX3_takeRising_71 (by decide) ?_
      have hw := hsb_w c39 hc
      rw [rsn_t c39]
      exact ih (i + 1) (wh (b p) c + 1) _ (p + 1) _ (by omega) (by omega) (by omega)
    · refine v_goto (n := 74) dX3_takeRising_42 (by decide) ?_
      refine v_iload_3 dX3_takeRising_74 rfl ?_
      exact v_ireturn rfl (by rw [rsn_f c39]; exact zp.rf) (zle rfl) (zle rfl) dX3_takeRising_75
theorem c_X3_takeRising {E : zE} {T : zT} {N : zN} {P : zP} {I : zI} {R : zR} (q tp tb L : Nat) (b : Nat → Int32) (p : Nat) (c n : Nat)  (hq : (T q).1 = 13) (h0 : P 3 0 q = some tp) (hp : N 3 2 q = nI p) (hR : tpR T N P I tp tb L b) (hpb : p < 2 ^ 29) (hBt : ∀ p, Bt (b p)) (hc : c + n ≤ 300) : zC E yX3_takeRising cX3_takeRising 7 (some .int) (zr0 2 43) [.ref q, .int (nI c), .int (nI n)] T N P I R (zp (rsn b c n n 0 0 p).1 T (u3 N 3 2 q (nI (rsn b c n n 0 0 p).2)) P I R) := by
  refine zC.intro (ls := [some (.ref q), some (.int (nI c)), some (.int (nI n)), none, none, none, none]) pl_RX3 (zle rfl) 4 rfl (fun K => ?_)
  refine v_iconst (v := 0) dX3_takeRising_0 rfl rfl ?_
  refine v_istore_3 dX3_takeRising_1 rfl (zle rfl) rfl ?_
  refine v_iconst (v := 0) dX3_takeRising_2 rfl rfl ?_
  refine v_istore_4 dX3_takeRising_3 rfl (zle rfl) rfl ?_
  refine v_iconst (v := 0) dX3_takeRising_5 rfl rfl ?_
  refine v_istore_5 dX3_takeRising_6 rfl (zle rfl) rfl ?_
  have e : u3 N 3 2 q (nI p) = N := by rw [← hp, u3_id]
  have := lp_X3_takeRising (R := R) (K := K) hq h0 hR hBt hc n 0 0 0 p none (by omega) (by omega) (by omega)
  rw [e] at this
  exact this
