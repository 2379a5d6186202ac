/-- a way is open on a day, with stairs or without; it leads from a to c -/
def opn (r : zg) (d : Nat) (s : Prop) (n : Nat) : Prop := ¬ bt (r 8 n) d = true ∧ (s ∨ r 7 n = 0)
def jnd (r : zg) (d : Nat) (s : Prop) (a c : Int32) (n : Nat) : Prop := opn r d s n ∧ (r 4 n = a ∨ r 5 n = a) ∧ oth r n a = c
theorem oth_if {r : zg} {n : Nat} {a u v : Int32} (h4 : u = r 4 n) (h5 : v = r 5 n) : (if a = u then v else u) = oth r n a := by
  rw [h4, h5]
  unfold oth
  by_cases h : r 4 n = a
  · rw [if_pos h.symm, zi_t h]
  · rw [if_neg (Ne.symm h), zi_f h]
/-- may a reading mean a corner -/
def psb (r : zg) (x y k : Int32) (n : Nat) : Prop := (r 1 n - k ≤ x ∧ x ≤ r 1 n + k) ∧ (r 2 n - k ≤ y ∧ y ≤ r 2 n + k)
noncomputable def psx (r : zg) (x y k : Int32) : Nat → Int32
  | 0 => 0
  | n + 1 => zi (psb r x y k n) (hset (psx r x y k n) n) (psx r x y k n)
theorem lp_X7_joined {E : zE} {T : zT} {N : zN} {P : zP} {I : zI} {R : zR} {b : Nat → Nat → Nat} {f : zf} {r : zg} {d : Nat} {s : Prop} {a c : Int32} {K : zK E yX7_isJoined cX7_isJoined 6 (some .boolean) (zr0 3 64)} (hT : RT T N P I R b f r) (h3 : Nt (f 3) 15) (hd : d < 7) :
    ∀ k n, n + k = tn (f 3) → (∀ q, q < n → ¬ jnd r d s a c q) → V K (zQf K (zp (zb (∃ q, q < tn (f 3) ∧ jnd r d s a c q)) T N P I R)) T N P I R 0 0 3 [some (.ref (b 0 0)), some (.int a), some (.int c), some (.int (nI d)), some (.int (zb s)), some (.int (nI n))] [] := by
  obtain ⟨t1, t2, t3, t4, t5, t6, t7, t8, t9, t10⟩ := id hT
  have h3b := h3.2
  intro k
  induction k with
  | zero =>
    intro n hn hq
    obtain rfl : n = tn (f 3) := by omega
    refine v_iload_5 dX7_isJoined_3 rfl ?_
    refine v_aload_0 dX7_isJoined_5 rfl ?_
    refine v_getN fl_7_28 (by assumption) rfl (zle rfl) rfl dX7_isJoined_6 rfl ?_
    refine v_top (t7.trans h3.1) ?_
    refine v_icmp_ge_t (n := 65) (nI_le (a := tn (f 3)) (b := tn (f 3)) (Nat.le_refl _) (by omega)) dX7_isJoined_9 (by decide) ?_
    refine v_iconst (v := 0) dX7_isJoined_65 rfl rfl ?_
    exact v_zreturn rfl rfl (zp_f (fun ⟨q, h1, h2⟩ => hq q h1 h2)) (zle rfl) (zle rfl) dX7_isJoined_66
  | succ k ih =>
    intro n hn hq
    have hnw : n < tn (f 3) := by omega
    obtain ⟨v1, v2, v3, v4, v5, v6, v7⟩ := t9 n hnw
    have hnx : ¬ jnd r d s a c n → ∀ q, q < n + 1 → ¬ jnd r d s a c q := fun h q h1 => by
      rcases Nat.lt_or_ge q n with z | z
      · exact hq q z
      · rw [show q = n by omega]; exact h
    refine v_iload_5 dX7_isJoined_3 rfl ?_
    refine v_aload_0 dX7_isJoined_5 rfl ?_
    refine v_getN fl_7_28 (by assumption) rfl (zle rfl) rfl dX7_isJoined_6 rfl ?_
    refine v_top (t7.trans h3.1) ?_
    refine v_icmp_ge_f (tgt := 65) (nI_ge (a := n) (b := tn (f 3)) (by omega) (by omega)) dX7_isJoined_9 (by decide) rfl ?_
    refine v_aload_0 dX7_isJoined_12 rfl ?_
    refine v_getP fl_7_20 (by assumption) (by assumption) rfl (zle rfl) rfl dX7_isJoined_13 rfl ?_
    refine v_iload_5 dX7_isJoined_16 rfl ?_
    refine v_aald (j := n) ti_9 (by assumption) rfl (by omega) (zle rfl) v1 dX7_isJoined_18 rfl ?_
    refine v_iload_3 dX7_isJoined_19 rfl ?_
    refine v_iload_4 dX7_isJoined_20 rfl ?_
    refine v_callV (ci := 9) (F := TX9) (c_X9_isOpen (b 2 n) d s v2 (by omega)) yy_X9_isOpen im_X9_isOpen se_X9_isOpen lk_7_35 v2 (zle rfl) rfl (zle rfl) (zle rfl) (zle rfl) (zle rfl) rfl rfl (zle rfl) dX7_isJoined_22 rfl (zp.use ?_)
    refine v_top (zb_iff (q := opn r d s n) (by rw [v6, v7]; exact Iff.rfl)) ?_
    refine v_ifz_eq (tgt := 59) dX7_isJoined_25 (by decide) rfl (fun c25 => ?_) (fun c25 => ?_)
    · refine v_iinc_5 dX7_isJoined_59 (nI_1 n) rfl (zle rfl) rfl ?_
      refine v_goto (n := 3) dX7_isJoined_62 (by decide) ?_
      exact ih (n + 1) (by omega) (hnx (fun h => c25 h.1))
    · refine v_aload_0 dX7_isJoined_28 rfl ?_
      refine v_getP fl_7_20 (by assumption) (by assumption) rfl (zle rfl) rfl dX7_isJoined_29 rfl ?_
      refine v_iload_5 dX7_isJoined_32 rfl ?_
      refine v_aald (j := n) ti_9 (by assumption) rfl (by omega) (zle rfl) v1 dX7_isJoined_34 rfl ?_
      refine v_iload_1 dX7_isJoined_35 rfl ?_
      refine v_callV (ci := 9) (F := TX9) (c_X9_leadsFrom (b 2 n) a v2) yy_X9_leadsFrom im_X9_leadsFrom se_X9_leadsFrom lk_7_39 v2 (zle rfl) rfl (zle rfl) (zle rfl) (zle rfl) (zle rfl) rfl rfl (zle rfl) dX7_isJoined_36 rfl (zp.use ?_)
      refine v_top (zb_iff (q := r 4 n = a ∨ r 5 n = a) (by rw [v3, v4]; exact ⟨fun h => h.imp Eq.symm Eq.symm, fun h => h.imp Eq.symm Eq.symm⟩)) ?_
      refine v_ifz_eq (tgt := 59) dX7_isJoined_39 (by decide) rfl (fun c39 => ?_) (fun c39 => ?_)
      · refine v_iinc_5 dX7_isJoined_59 (nI_1 n) rfl (zle rfl) rfl ?_
        refine v_goto (n := 3) dX7_isJoined_62 (by decide) ?_
        exact ih (n + 1) (by omega) (hnx (fun h => c39 h.2.1))
      · refine v_aload_0 dX7_isJoined_42 rfl ?_
        refine v_getP fl_7_20 (by assumption) (by assumption) rfl (zle rfl) rfl dX7_isJoined_43 rfl ?_
        refine v_iload_5 dX7_isJoined_46 rfl ?_
        refine v_aald (j := n) ti_9 (by assumption) rfl (by omega) (zle rfl) v1 dX7_isJoined_48 rfl ?_
        refine v_iload_1 dX7_isJoined_49 rfl ?_
        refine v_callV (ci := 9) (F := TX9) (c_X9_otherEnd (b 2 n) a v2) yy_X9_otherEnd im_X9_otherEnd se_X9_otherEnd lk_7_43 v2 (zle rfl) rfl (zle rfl) (zle rfl) (zle rfl) (zle rfl) rfl rfl (zle rfl) dX7_isJoined_50 rfl (zp.use ?_)
        refine v_top (oth_if v3 v4) ?_
        refine v_iload_2 dX7_isJoined_53 rfl ?_
        refine v_icmp_ne (tgt := 59) dX7_isJoined_54 (by decide) rfl (fun c54 => ?_) (fun c54 => ?_)
        · refine v_iinc_5 dX7_isJoined_59 (nI_1 n) rfl (zle rfl) rfl ?_
          refine v_goto (n := 3) dX7_isJoined_62 (by decide) ?_
          exact ih (n + 1) (by omega) (hnx (fun h => c54 h.2.2))
        · refine v_iconst (v := 1) dX7_isJoined_57 rfl rfl ?_
          exact v_zreturn rfl rfl (zp_t ⟨n, hnw, c25, c39, c54⟩) (zle rfl) (zle rfl) dX7_isJoined_58
theorem c_X7_isJoined {E : zE} {T : zT} {N : zN} {P : zP} {I : zI} {R : zR} (b : Nat → Nat → Nat) (f : zf) (r : zg) (d : Nat) (s : Prop) (a c : Int32) (hT : RT T N P I R b f r) (h3 : Nt (f 3) 15) (hd : d < 7) : zC E yX7_isJoined cX7_isJoined 6 (some .boolean) (zr0 3 64) [.ref (b 0 0), .int a, .int c, .int (nI d), .int (zb s)] T N P I R (zp (zb (∃ q, q < tn (f 3) ∧ jnd r d s a c q)) T N P I R) := by
  refine zC.intro (ls := [some (.ref (b 0 0)), some (.int a), some (.int c), some (.int (nI d)), some (.int (zb s)), none]) pl_RX7 (zle rfl) 1 rfl (fun K => ?_)
  refine v_iconst (v := 0) dX7_isJoined_0 rfl rfl ?_
  refine v_istore_5 dX7_isJoined_1 rfl (zle rfl) rfl ?_
  exact lp_X7_joined hT h3 hd (tn (f 3)) 0 (by omega) (fun q h => absurd h (Nat.not_lt_zero q))
theorem lp_X7_possible {E : zE} {T : zT} {N : zN} {P : zP} {I : zI} {R : zR} {b : Nat → Nat → Nat} {f : zf} {r : zg} {x y k9 : Int32} {K : zK E yX7_possibleCorners cX7_possibleCorners 6 (some .int) (zr0 1 22)} (hT : RT T N P I R b f r) (h0 : Nt (f 0) 9) (ha : T (b 1 0) = (1, 8)) (hb : T (b 1 1) = (1, 8)) :
    ∀ k n, n + k = tn (f 0) → V K (zQf K (zp (psx r x y k9 (tn (f 0))) T N P I R)) T N P I R 0 0 6 [some (.ref (b 0 0)), some (.int x), some (.int y), some (.int k9), some (.int (psx r x y k9 n)), some (.int (nI n))] [] := by
  obtain ⟨t1, t2, t3, t4, t5, t6, t7, t8, t9, t10⟩ := id hT
  have h0b := h0.2
  intro k
  induction k with
  | zero =>
    intro n hn
    obtain rfl : n = tn (f 0) := by omega
    refine v_iload_5 dX7_possibleCorners_6 rfl ?_
    refine v_aload_0 dX7_possibleCorners_8 rfl ?_
    refine v_getN fl_7_24 (by assumption) rfl (zle rfl) rfl dX7_possibleCorners_9 rfl ?_
    refine v_top (t6.trans h0.1) ?_
    refine v_icmp_ge_t (n := 80) (nI_le (a := tn (f 0)) (b := tn (f 0)) (Nat.le_refl _) (by omega)) dX7_possibleCorners_12 (by decide) ?_
    refine v_iload_4 dX7_possibleCorners_80 rfl ?_
    exact v_ireturn rfl (zp.rf) (zle rfl) (zle rfl) dX7_possibleCorners_82
  | succ k ih =>
    intro n hn
    have hnw : n < tn (f 0) := by omega
    obtain ⟨v1, v2⟩ := t8 n hnw
    have hno : ¬ psb r x y k9 n → psx r x y k9 n = psx r x y k9 (n + 1) := fun h => (zi_f h).symm
    have hye : psb r x y k9 n → hset (psx r x y k9 n) n = psx r x y k9 (n + 1) := fun h => (zi_t h).symm
    refine v_iload_5 dX7_possibleCorners_6 rfl ?_
    refine v_aload_0 dX7_possibleCorners_8 rfl ?_
    refine v_getN fl_7_24 (by assumption) rfl (zle rfl) rfl dX7_possibleCorners_9 rfl ?_
    refine v_top (t6.trans h0.1) ?_
    refine v_icmp_ge_f (tgt := 80) (nI_ge (a := n) (b := tn (f 0)) (by omega) (by omega)) dX7_possibleCorners_12 (by decide) rfl ?_
    refine v_iload_1 dX7_possibleCorners_15 rfl ?_
    refine v_aload_0 dX7_possibleCorners_16 rfl ?_
    refine v_getP fl_7_9 (by assumption) (by assumption) rfl (zle rfl) rfl dX7_possibleCorners_17 rfl ?_
    refine v_iload_5 dX7_possibleCorners_20 rfl ?_
    refine v_iald (j := n) (by assumption) rfl (by omega) (zle rfl) dX7_possibleCorners_22 rfl ?_
    refine v_top v1 ?_
    refine v_iload_3 dX7_possibleCorners_23 rfl ?_
    refine v_isub dX7_possibleCorners_24 rfl ?_
    refine v_aload_0 dX7_possibleCorners_25 rfl ?_
    refine v_getP fl_7_9 (by assumption) (by assumption) rfl (zle rfl) rfl dX7_possibleCorners_26 rfl ?_
    refine v_iload_5 dX7_possibleCorners_29 rfl ?_
    refine v_iald (j := n) (by assumption) rfl (by omega) (zle rfl) dX7_possibleCorners_31 rfl ?_
    refine v_top v1 ?_
    refine v_iload_3 dX7_possibleCorners_32 rfl ?_
    refine v_iadd dX7_possibleCorners_33 rfl ?_
    refine v_callS (c_X10_isWithin _ _ _) yy_X10_isWithin st_X10_isWithin lk_7_31 (zle rfl) (zle rfl) (zle rfl) (zle rfl) rfl rfl (zle rfl) dX7_possibleCorners_34 rfl (zp.use ?_)
    refine v_ifz_eq (tgt := 74) dX7_possibleCorners_37 (by decide) rfl (fun c37 => ?_) (fun c37 => ?_)
    · refine v_iinc_5 dX7_possibleCorners_74 (nI_1 n) rfl (zle rfl) rfl ?_
      refine v_goto (n := 6) dX7_possibleCorners_77 (by decide) ?_
      rw [hno (fun h => c37 h.1)]
      exact ih (n + 1) (by omega)
    · refine v_iload_2 dX7_possibleCorners_40 rfl ?_
      refine v_aload_0 dX7_possibleCorners_41 rfl ?_
      refine v_getP fl_7_15 (by assumption) (by assumption) rfl (zle rfl) rfl dX7_possibleCorners_42 rfl ?_
      refine v_iload_5 dX7_possibleCorners_45 rfl ?_
      refine v_iald (j := n) (by assumption) rfl (by omega) (zle rfl) dX7_possibleCorners_47 rfl ?_
      refine v_top v2 ?_
      refine v_iload_3 dX7_possibleCorners_48 rfl ?_
      refine v_isub dX7_possibleCorners_49 rfl ?_
      refine v_aload_0 dX7_possibleCorners_50 rfl ?_
      refine v_getP fl_7_15 (by assumption) (by assumption) rfl (zle rfl) rfl dX7_possibleCorners_51 rfl ?_
      refine v_iload_5 dX7_possibleCorners_54 rfl ?_
      refine v_iald (j := n) (by assumption) rfl (by omega) (zle rfl) dX7_possibleCorners_56 rfl ?_
      refine v_top v2 ?_
      refine v_iload_3 dX7_possibleCorners_57 rfl ?_
      refine v_iadd dX7_possibleCorners_58 rfl ?_
      refine v_callS (c_X10_isWithin _ _ _) yy_X10_isWithin st_X10_isWithin lk_7_31 (zle rfl) (zle rfl) (zle rfl) (zle rfl) rfl rfl (zle rfl) dX7_possibleCorners_59 rfl (zp.use ?_)
      refine v_ifz_eq (tgt := 74) dX7_possibleCorners_62 (by decide) rfl (fun c62 => ?_) (fun c62 => ?_)
      · refine v_iinc_5 dX7_possibleCorners_74 (nI_1 n) rfl (zle rfl) rfl ?_
        refine v_goto (n := 6) dX7_possibleCorners_77 (by decide) ?_
        rw [hno (fun h => c62 h.2)]
        exact ih (n + 1) (by omega)
      · refine v_iload_4 dX7_possibleCorners_65 rfl ?_
        refine v_iconst (v := 1) dX7_possibleCorners_67 rfl rfl ?_
        refine v_iload_5 dX7_possibleCorners_68 rfl ?_
        refine v_ishl dX7_possibleCorners_70 rfl ?_
        refine v_ior dX7_possibleCorners_71 rfl ?_
        refine v_istore_4 dX7_possibleCorners_72 rfl (zle rfl) rfl ?_
        refine v_iinc_5 dX7_possibleCorners_74 (nI_1 n) rfl (zle rfl) rfl ?_
        refine v_goto (n := 6) dX7_possibleCorners_77 (by decide) ?_
        rw [show psx r x y k9 n ||| (1 : Int32) <<< (nI n &&& 31) = psx r x y k9 (n + 1) from hye ⟨c37, c62⟩]
        exact ih (n + 1) (by omega)
theorem c_X7_possibleCorners {E : zE} {T : zT} {N : zN} {P : zP} {I : zI} {R : zR} (b : Nat → Nat → Nat) (f : zf) (r : zg) (x y k9 : Int32) (hT : RT T N P I R b f r) (h0 : Nt (f 0) 9) (ha : T (b 1 0) = (1, 8)) (hb : T (b 1 1) = (1, 8)) : zC E yX7_possibleCorners cX7_possibleCorners 6 (some .int) (zr0 1 22) [.ref (b 0 0), .int x, .int y, .int k9] T N P I R (zp (psx r x y k9 (tn (f 0))) T N P I R) := by
  refine zC.intro (ls := [some (.ref (b 0 0)), some (.int x), some (.int y), some (.int k9), none, none]) pl_RX7 (zle rfl) 2 rfl (fun K => ?_)
  refine v_iconst (v := 0) dX7_possibleCorners_0 rfl rfl ?_
  refine v_istore_4 dX7_possibleCorners_1 rfl (zle rfl) rfl ?_
  refine v_iconst (v := 0) dX7_possibleCorners_3 rfl rfl ?_
  refine v_istore_5 dX7_possibleCorners_4 rfl (zle rfl) rfl ?_
  exact lp_X7_possible hT h0 ha hb (tn (f 0)) 0 (by omega)
