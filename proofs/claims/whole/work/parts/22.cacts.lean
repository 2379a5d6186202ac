theorem fnd {x c : Int32} {k : Nat} (hc : Nt c k) (hk : k ≤ 2 ^ 31) (h : 0 ≤ x ∧ x ≤ c - 1) : ∃ q, q < tn c ∧ x = nI q := ⟨tn x, ((hc.within hk).mp h).2, ((hc.within hk).mp h).1⟩
theorem three {A B : Prop} : (A ∧ B) ∨ (A ∧ ¬ B) ∨ ¬ A := by
  by_cases a : A
  · by_cases b : B
    · exact Or.inl ⟨a, b⟩
    · exact Or.inr (Or.inl ⟨a, b⟩)
  · exact Or.inr (Or.inr a)
theorem c_X10_findEdition {E : zE} {T : zT} {N : zN} {P : zP} {I : zI} {R : zR} (x ed j e : Nat) (hx : (T x).1 = 20) (hp : P 10 2 x = some ed) (h1 : T ed = (30, 4)) (hw : 0 ≤ nI j ∧ nI j ≤ N 10 6 x - 1) (hj : j < 4) (hr : R ed j = some e) : zC E yX10_findEdition cX10_findEdition 2 (some (.object "WalkTeller$Edition")) (zr0 1 22) [.ref x, .int (nI j)] T N P I R (za (some e) T N P I R) := by
  refine zC.intro (ls := [some (.ref x), some (.int (nI j))]) pl_RX10 (zle rfl) 0 rfl (fun K => ?_)
  refine v_iload_1 dX10_findEdition_0 rfl ?_
  refine v_iconst (v := 0) dX10_findEdition_1 rfl rfl ?_
  refine v_aload_0 dX10_findEdition_2 rfl ?_
  refine v_getN fl_10_48 (by assumption) rfl (zle rfl) rfl dX10_findEdition_3 rfl ?_
  refine v_iconst (v := 1) dX10_findEdition_6 rfl rfl ?_
  refine v_isub dX10_findEdition_7 rfl ?_
  refine v_callS (c_X10_isWithin _ _ _) yy_X10_isWithin st_X10_isWithin lk_10_61 (zle rfl) (zle rfl) (zle rfl) (zle rfl) rfl rfl (zle rfl) dX10_findEdition_8 rfl (zp.use ?_)
  refine v_ifz_eq (tgt := 23) dX10_findEdition_11 (by decide) rfl (fun c11 => ?_) (fun c11 => ?_)
  · exact absurd hw c11
  · refine v_aload_0 dX10_findEdition_14 rfl ?_
    refine v_getP fl_10_25 (by assumption) (by assumption) rfl (zle rfl) rfl dX10_findEdition_15 rfl ?_
    refine v_iload_1 dX10_findEdition_18 rfl ?_
    refine v_aald (j := j) ti_0 (by assumption) rfl (by omega) (zle rfl) (by assumption) dX10_findEdition_19 rfl ?_
    refine v_goto (n := 24) dX10_findEdition_20 (by decide) ?_
    exact v_areturn rfl (Or.inl ⟨_, rfl⟩) (Or.inr ⟨_, rfl⟩) (za.rf) (zle rfl) (zle rfl) dX10_findEdition_24
theorem c_X10_findEdition_n {E : zE} {T : zT} {N : zN} {P : zP} {I : zI} {R : zR} (x : Nat) (j : Int32) (hx : (T x).1 = 20) (hw : ¬ (0 ≤ j ∧ j ≤ N 10 6 x - 1)) : zC E yX10_findEdition cX10_findEdition 2 (some (.object "WalkTeller$Edition")) (zr0 1 22) [.ref x, .int j] T N P I R (za none T N P I R) := by
  refine zC.intro (ls := [some (.ref x), some (.int j)]) pl_RX10 (zle rfl) 0 rfl (fun K => ?_)
  refine v_iload_1 dX10_findEdition_0 rfl ?_
  refine v_iconst (v := 0) dX10_findEdition_1 rfl rfl ?_
  refine v_aload_0 dX10_findEdition_2 rfl ?_
  refine v_getN fl_10_48 (by assumption) rfl (zle rfl) rfl dX10_findEdition_3 rfl ?_
  refine v_iconst (v := 1) dX10_findEdition_6 rfl rfl ?_
  refine v_isub dX10_findEdition_7 rfl ?_
  refine v_callS (c_X10_isWithin _ _ _) yy_X10_isWithin st_X10_isWithin lk_10_61 (zle rfl) (zle rfl) (zle rfl) (zle rfl) rfl rfl (zle rfl) dX10_findEdition_8 rfl (zp.use ?_)
  refine v_ifz_eq (tgt := 23) dX10_findEdition_11 (by decide) rfl (fun c11 => ?_) (fun c11 => ?_)
  · refine v_null dX10_findEdition_23 rfl ?_
    exact v_areturn rfl (Or.inl ⟨_, rfl⟩) (Or.inl rfl) (za.rf) (zle rfl) (zle rfl) dX10_findEdition_24
  · exact absurd c11 hw
theorem c_X10_findWalker {E : zE} {T : zT} {N : zN} {P : zP} {I : zI} {R : zR} (x ed j e : Nat) (hx : (T x).1 = 20) (hp : P 10 3 x = some ed) (h1 : T ed = (38, 6)) (hw : 0 ≤ nI j ∧ nI j ≤ N 10 7 x - 1) (hj : j < 6) (hr : R ed j = some e) : zC E yX10_findWalker cX10_findWalker 2 (some (.object "WalkTeller$Walker")) (zr0 1 22) [.ref x, .int (nI j)] T N P I R (za (some e) T N P I R) := by
  refine zC.intro (ls := [some (.ref x), some (.int (nI j))]) pl_RX10 (zle rfl) 0 rfl (fun K => ?_)
  refine v_iload_1 dX10_findWalker_0 rfl ?_
  refine v_iconst (v := 0) dX10_findWalker_1 rfl rfl ?_
  refine v_aload_0 dX10_findWalker_2 rfl ?_
  refine v_getN fl_10_52 (by assumption) rfl (zle rfl) rfl dX10_findWalker_3 rfl ?_
  refine v_iconst (v := 1) dX10_findWalker_6 rfl rfl ?_
  refine v_isub dX10_findWalker_7 rfl ?_
  refine v_callS (c_X10_isWithin _ _ _) yy_X10_isWithin st_X10_isWithin lk_10_61 (zle rfl) (zle rfl) (zle rfl) (zle rfl) rfl rfl (zle rfl) dX10_findWalker_8 rfl (zp.use ?_)
  refine v_ifz_eq (tgt := 23) dX10_findWalker_11 (by decide) rfl (fun c11 => ?_) (fun c11 => ?_)
  · exact absurd hw c11
  · refine v_aload_0 dX10_findWalker_14 rfl ?_
    refine v_getP fl_10_31 (by assumption) (by assumption) rfl (zle rfl) rfl dX10_findWalker_15 rfl ?_
    refine v_iload_1 dX10_findWalker_18 rfl ?_
    refine v_aald (j := j) ti_8 (by assumption) rfl (by omega) (zle rfl) (by assumption) dX10_findWalker_19 rfl ?_
    refine v_goto (n := 24) dX10_findWalker_20 (by decide) ?_
    exact v_areturn rfl (Or.inl ⟨_, rfl⟩) (Or.inr ⟨_, rfl⟩) (za.rf) (zle rfl) (zle rfl) dX10_findWalker_24
theorem c_X10_findWalker_n {E : zE} {T : zT} {N : zN} {P : zP} {I : zI} {R : zR} (x : Nat) (j : Int32) (hx : (T x).1 = 20) (hw : ¬ (0 ≤ j ∧ j ≤ N 10 7 x - 1)) : zC E yX10_findWalker cX10_findWalker 2 (some (.object "WalkTeller$Walker")) (zr0 1 22) [.ref x, .int j] T N P I R (za none T N P I R) := by
  refine zC.intro (ls := [some (.ref x), some (.int j)]) pl_RX10 (zle rfl) 0 rfl (fun K => ?_)
  refine v_iload_1 dX10_findWalker_0 rfl ?_
  refine v_iconst (v := 0) dX10_findWalker_1 rfl rfl ?_
  refine v_aload_0 dX10_findWalker_2 rfl ?_
  refine v_getN fl_10_52 (by assumption) rfl (zle rfl) rfl dX10_findWalker_3 rfl ?_
  refine v_iconst (v := 1) dX10_findWalker_6 rfl rfl ?_
  refine v_isub dX10_findWalker_7 rfl ?_
  refine v_callS (c_X10_isWithin _ _ _) yy_X10_isWithin st_X10_isWithin lk_10_61 (zle rfl) (zle rfl) (zle rfl) (zle rfl) rfl rfl (zle rfl) dX10_findWalker_8 rfl (zp.use ?_)
  refine v_ifz_eq (tgt := 23) dX10_findWalker_11 (by decide) rfl (fun c11 => ?_) (fun c11 => ?_)
  · refine v_null dX10_findWalker_23 rfl ?_
    exact v_areturn rfl (Or.inl ⟨_, rfl⟩) (Or.inl rfl) (za.rf) (zle rfl) (zle rfl) dX10_findWalker_24
  · exact absurd c11 hw
theorem c_X0_findPiece {E : zE} {T : zT} {N : zN} {P : zP} {I : zI} {R : zR} (x ed j e : Nat) (hx : (T x).1 = 10) (hp : P 0 0 x = some ed) (h1 : T ed = (32, 12)) (hw : 0 ≤ nI j ∧ nI j ≤ N 0 1 x - 1) (hj : j < 12) (hr : R ed j = some e) : zC E yX0_findPiece cX0_findPiece 2 (some (.object "WalkTeller$Piece")) (zr0 1 22) [.ref x, .int (nI j)] T N P I R (za (some e) T N P I R) := by
  refine zC.intro (ls := [some (.ref x), some (.int (nI j))]) pl_RX0 (zle rfl) 0 rfl (fun K => ?_)
  refine v_iload_1 dX0_findPiece_0 rfl ?_
  refine v_iconst (v := 0) dX0_findPiece_1 rfl rfl ?_
  refine v_aload_0 dX0_findPiece_2 rfl ?_
  refine v_getN fl_0_17 (by assumption) rfl (zle rfl) rfl dX0_findPiece_3 rfl ?_
  refine v_iconst (v := 1) dX0_findPiece_6 rfl rfl ?_
  refine v_isub dX0_findPiece_7 rfl ?_
  refine v_callS (c_X10_isWithin _ _ _) yy_X10_isWithin st_X10_isWithin lk_0_27 (zle rfl) (zle rfl) (zle rfl) (zle rfl) rfl rfl (zle rfl) dX0_findPiece_8 rfl (zp.use ?_)
  refine v_ifz_eq (tgt := 23) dX0_findPiece_11 (by decide) rfl (fun c11 => ?_) (fun c11 => ?_)
  · exact absurd hw c11
  · refine v_aload_0 dX0_findPiece_14 rfl ?_
    refine v_getP fl_0_11 (by assumption) (by assumption) rfl (zle rfl) rfl dX0_findPiece_15 rfl ?_
    refine v_iload_1 dX0_findPiece_18 rfl ?_
    refine v_aald (j := j) ti_2 (by assumption) rfl (by omega) (zle rfl) (by assumption) dX0_findPiece_19 rfl ?_
    refine v_goto (n := 24) dX0_findPiece_20 (by decide) ?_
    exact v_areturn rfl (Or.inl ⟨_, rfl⟩) (Or.inr ⟨_, rfl⟩) (za.rf) (zle rfl) (zle rfl) dX0_findPiece_24
theorem c_X0_findPiece_n {E : zE} {T : zT} {N : zN} {P : zP} {I : zI} {R : zR} (x : Nat) (j : Int32) (hx : (T x).1 = 10) (hw : ¬ (0 ≤ j ∧ j ≤ N 0 1 x - 1)) : zC E yX0_findPiece cX0_findPiece 2 (some (.object "WalkTeller$Piece")) (zr0 1 22) [.ref x, .int j] T N P I R (za none T N P I R) := by
  refine zC.intro (ls := [some (.ref x), some (.int j)]) pl_RX0 (zle rfl) 0 rfl (fun K => ?_)
  refine v_iload_1 dX0_findPiece_0 rfl ?_
  refine v_iconst (v := 0) dX0_findPiece_1 rfl rfl ?_
  refine v_aload_0 dX0_findPiece_2 rfl ?_
  refine v_getN fl_0_17 (by assumption) rfl (zle rfl) rfl dX0_findPiece_3 rfl ?_
  refine v_iconst (v := 1) dX0_findPiece_6 rfl rfl ?_
  refine v_isub dX0_findPiece_7 rfl ?_
  refine v_callS (c_X10_isWithin _ _ _) yy_X10_isWithin st_X10_isWithin lk_0_27 (zle rfl) (zle rfl) (zle rfl) (zle rfl) rfl rfl (zle rfl) dX0_findPiece_8 rfl (zp.use ?_)
  refine v_ifz_eq (tgt := 23) dX0_findPiece_11 (by decide) rfl (fun c11 => ?_) (fun c11 => ?_)
  · refine v_null dX0_findPiece_23 rfl ?_
    exact v_areturn rfl (Or.inl ⟨_, rfl⟩) (Or.inl rfl) (za.rf) (zle rfl) (zle rfl) dX0_findPiece_24
  · exact absurd c11 hw
theorem c_X10_findPiece {E : zE} {T : zT} {N : zN} {P : zP} {I : zI} {R : zR} (x ed ea pa j p a : Nat) (hx : (T x).1 = 20) (hp : P 10 2 x = some ed) (h1 : T ed = (30, 4)) (hw : 0 ≤ nI j ∧ nI j ≤ N 10 6 x - 1) (hj : j < 4) (hr : R ed j = some ea) (he : (T ea).1 = 10) (hq : P 0 0 ea = some pa) (h2 : T pa = (32, 12)) (hw2 : 0 ≤ nI p ∧ nI p ≤ N 0 1 ea - 1) (hp12 : p < 12) (hr2 : R pa p = some a) : zC E yX10_findPiece cX10_findPiece 4 (some (.object "WalkTeller$Piece")) (zr0 2 43) [.ref x, .int (nI j), .int (nI p)] T N P I R (za (some a) T N P I R) := by
  refine zC.intro (ls := [some (.ref x), some (.int (nI j)), some (.int (nI p)), none]) pl_RX10 (zle rfl) 1 rfl (fun K => ?_)
  refine v_aload_0 dX10_findPiece_0 rfl ?_
  refine v_iload_1 dX10_findPiece_1 rfl ?_
  refine v_callV (ci := 10) (F := TX10) (c_X10_findEdition x ed j ea hx hp h1 hw hj hr) yy_X10_findEdition im_X10_findEdition se_X10_findEdition lk_10_179 (by assumption) (zle rfl) rfl (zle rfl) (zle rfl) (zle rfl) (zle rfl) rfl rfl (zle rfl) dX10_findPiece_2 rfl (za.use ?_)
  refine v_astore_3 dX10_findPiece_5 rfl (zle rfl) rfl ?_
  refine v_aload_3 dX10_findPiece_6 rfl ?_
  refine v_ifnonnull (n := 14) dX10_findPiece_7 (by decide) ?_
  refine v_aload_3 dX10_findPiece_14 rfl ?_
  refine v_iload_2 dX10_findPiece_15 rfl ?_
  refine v_callV (ci := 0) (F := TX0) (c_X0_findPiece ea pa p a he hq h2 hw2 hp12 hr2) yy_X0_findPiece im_X0_findPiece se_X0_findPiece lk_10_285 (by assumption) (zle rfl) rfl (zle rfl) (zle rfl) (zle rfl) (zle rfl) rfl rfl (zle rfl) dX10_findPiece_16 rfl (za.use ?_)
  exact v_areturn rfl (Or.inl ⟨_, rfl⟩) (Or.inr ⟨_, rfl⟩) (za.rf) (zle rfl) (zle rfl) dX10_findPiece_19
theorem c_X10_findPiece_n {E : zE} {T : zT} {N : zN} {P : zP} {I : zI} {R : zR} (x ed ea j : Nat) (p : Int32) (hx : (T x).1 = 20) (hp : P 10 2 x = some ed) (h1 : T ed = (30, 4)) (hw : 0 ≤ nI j ∧ nI j ≤ N 10 6 x - 1) (hj : j < 4) (hr : R ed j = some ea) (he : (T ea).1 = 10) (hw2 : ¬ (0 ≤ p ∧ p ≤ N 0 1 ea - 1)) : zC E yX10_findPiece cX10_findPiece 4 (some (.object "WalkTeller$Piece")) (zr0 2 43) [.ref x, .int (nI j), .int p] T N P I R (za none T N P I R) := by
  refine zC.intro (ls := [some (.ref x), some (.int (nI j)), some (.int p), none]) pl_RX10 (zle rfl) 1 rfl (fun K => ?_)
  refine v_aload_0 dX10_findPiece_0 rfl ?_
  refine v_iload_1 dX10_findPiece_1 rfl ?_
  refine v_callV (ci := 10) (F := TX10) (c_X10_findEdition x ed j ea hx hp h1 hw hj hr) yy_X10_findEdition im_X10_findEdition se_X10_findEdition lk_10_179 (by assumption) (zle rfl) rfl (zle rfl) (zle rfl) (zle rfl) (zle rfl) rfl rfl (zle rfl) dX10_findPiece_2 rfl (za.use ?_)
  refine v_astore_3 dX10_findPiece_5 rfl (zle rfl) rfl ?_
  refine v_aload_3 dX10_findPiece_6 rfl ?_
  refine v_ifnonnull (n := 14) dX10_findPiece_7 (by decide) ?_
  refine v_aload_3 dX10_findPiece_14 rfl ?_
  refine v_iload_2 dX10_findPiece_15 rfl ?_
  refine v_callV (ci := 0) (F := TX0) (c_X0_findPiece_n ea p he hw2) yy_X0_findPiece im_X0_findPiece se_X0_findPiece lk_10_285 (by assumption) (zle rfl) rfl (zle rfl) (zle rfl) (zle rfl) (zle rfl) rfl rfl (zle rfl) dX10_findPiece_16 rfl (za.use ?_)
  exact v_areturn rfl (Or.inl ⟨_, rfl⟩) (Or.inl rfl) (za.rf) (zle rfl) (zle rfl) dX10_findPiece_19
theorem c_X10_findPiece_m {E : zE} {T : zT} {N : zN} {P : zP} {I : zI} {R : zR} (x : Nat) (j p : Int32) (hx : (T x).1 = 20) (hw : ¬ (0 ≤ j ∧ j ≤ N 10 6 x - 1)) : zC E yX10_findPiece cX10_findPiece 4 (some (.object "WalkTeller$Piece")) (zr0 2 43) [.ref x, .int j, .int p] T N P I R (za none T N P I R) := by
  refine zC.intro (ls := [some (.ref x), some (.int j), some (.int p), none]) pl_RX10 (zle rfl) 1 rfl (fun K => ?_)
  refine v_aload_0 dX10_findPiece_0 rfl ?_
  refine v_iload_1 dX10_findPiece_1 rfl ?_
  refine v_callV (ci := 10) (F := TX10) (c_X10_findEdition_n x j hx hw) yy_X10_findEdition im_X10_findEdition se_X10_findEdition lk_10_179 (by assumption) (zle rfl) rfl (zle rfl) (zle rfl) (zle rfl) (zle rfl) rfl rfl (zle rfl) dX10_findPiece_2 rfl (za.use ?_)
  refine v_astoreN_3 dX10_findPiece_5 rfl (zle rfl) rfl ?_
  refine v_aloadN_3 dX10_findPiece_6 rfl ?_
  refine v_ifnonnullN dX10_findPiece_7 rfl ?_
  refine v_null dX10_findPiece_10 rfl ?_
  refine v_goto (n := 19) dX10_findPiece_11 (by decide) ?_
  exact v_areturn rfl (Or.inl ⟨_, rfl⟩) (Or.inl rfl) (za.rf) (zle rfl) (zle rfl) dX10_findPiece_19
theorem CR.shut {T : zT} {N : zN} {P : zP} {I : zI} {R : zR} {x : Nat} {Mn : Nat → Prop} {b : Nat → Nat → Nat} {g : Nat} {f : zf} {r : zg} (h : CR T N P I R x Mn b g f r) {j : Nat} (hj : j < tn (f 3)) (d : Int32) : CR T (u3 N 9 4 (b 2 j) d) P I R x Mn b g f (u2 r 8 j d) := by
  obtain ⟨hX, ⟨t1, t2, t3, t4, t5, t6, t7, t8, t9, t10⟩, hA, hP, hE, hW, hS, hQ⟩ := h
  refine ⟨hX, ⟨t1, t2, t3, t4, t5, t6, t7, t8, fun i hi => ?_, t10⟩, hA, hP, hE, hW, hS, hQ⟩
  obtain ⟨w1, w2, w3, w4, w5, w6, w7⟩ := t9 i hi
  refine ⟨w1, w2, w3, w4, w5, w6, ?_⟩
  by_cases hij : i = j
  · subst hij
    rw [u3_self, u2_self]
  · rw [u3_na (fun e => hij (t10 i j hi hj e)), u2_ni hij]
    exact w7
theorem c_X10_shut {E : zE} {T : zT} {N : zN} {P : zP} {I : zI} {R : zR} (x : Nat) (Mn : Nat → Prop) (b : Nat → Nat → Nat) (g : Nat) (f : zf) (r : zg) (w d : Int32) (hC : CR T N P I R x Mn b g f r) (h3 : Nt (f 3) 15) : zC E yX10_shut cX10_shut 5 (some .int) (zr0 2 43) [.ref x, .int w, .int d] T N P I R (cQ x Mn g T N P I R (ac_shut f r w d)) := by
  refine zC.intro (ls := [some (.ref x), some (.int w), some (.int d), none, none]) pl_RX10 (zle rfl) 2 rfl (fun K => ?_)
  obtain ⟨hX, hT, hA, hP, hE, hW, hS, hQ⟩ := id hC
  obtain ⟨x1, x2, x3, x4, x5, x6, x7, x8, x9, x10, x11, x12, x13, x14⟩ := id hX
  obtain ⟨t1, t2, t3, t4, t5, t6, t7, t8, t9, t10⟩ := id hT
  obtain ⟨a1, a2, a3⟩ := id hA
  refine v_aload_0 dX10_shut_0 rfl ?_
  refine v_getP fl_10_10 (by assumption) (by assumption) rfl (zle rfl) rfl dX10_shut_1 rfl ?_
  refine v_iload_1 dX10_shut_4 rfl ?_
  by_cases hw : 0 ≤ w ∧ w ≤ f 3 - 1
  · obtain ⟨j, hj, rfl⟩ := fnd h3 (by decide) hw
    have h3b := h3.2
    have hw9 := (t9 j hj).2.1
    have tj : tn (nI j) = j := tn_nI (by omega)
    refine v_callV (ci := 7) (F := TX7) (c_X7_findWay (b 0 0) (b 0 8) j (b 2 j) t1 t4 t5 (by rw [t7]; exact hw) (by omega) (t9 j hj).1) yy_X7_findWay im_X7_findWay se_X7_findWay lk_10_94 (by assumption) (zle rfl) rfl (zle rfl) (zle rfl) (zle rfl) (zle rfl) rfl rfl (zle rfl) dX10_shut_5 rfl (za.use ?_)
    refine v_astore_3 dX10_shut_8 rfl (zle rfl) rfl ?_
    refine v_aload_3 dX10_shut_9 rfl ?_
    refine v_ifnull dX10_shut_10 rfl ?_
    refine v_iload_2 dX10_shut_13 rfl ?_
    refine v_iconst (v := 0) dX10_shut_14 rfl rfl ?_
    refine v_bipush (v := 127) dX10_shut_15 rfl rfl ?_
    refine v_callS (c_X10_isWithin _ _ _) yy_X10_isWithin st_X10_isWithin lk_10_61 (zle rfl) (zle rfl) (zle rfl) (zle rfl) rfl rfl (zle rfl) dX10_shut_17 rfl (zp.use ?_)
    refine v_ifz_ne (tgt := 30) dX10_shut_20 (by decide) rfl (fun c20 => ?_) (fun c20 => ?_)
    · refine v_aload_3 dX10_shut_30 rfl ?_
      refine v_getN fl_10_98 hw9 rfl (zle rfl) rfl dX10_shut_31 rfl ?_
      refine v_istore_4 dX10_shut_34 rfl (zle rfl) rfl ?_
      refine v_aload_3 dX10_shut_36 rfl ?_
      refine v_iload_2 dX10_shut_37 rfl ?_
      refine v_putN fw_10_98 hw9 rfl (zle rfl) rfl (fun h => by cases h) rfl rfl dX10_shut_38 rfl ?_
      refine v_iload_4 dX10_shut_41 rfl ?_
      exact v_ireturn rfl (cQ_go b g (zi_t ⟨hw, c20⟩) (by rw [tj]; exact (t9 j hj).2.2.2.2.2.2) (by rw [tj]; exact hC.shut hj d) (Cfr.rf.n (by decide) _ _ _)) (zle rfl) (zle rfl) dX10_shut_43
    · refine v_aload_0 dX10_shut_23 rfl ?_
      refine v_ldc dX10_shut_24 kc_10_65 rfl ?_
      refine v_callV (ci := 10) (F := TX10) (c_X10_finding _ _ (by assumption)) yy_X10_finding im_X10_finding se_X10_finding lk_10_66 (by assumption) (zle rfl) rfl (zle rfl) (zle rfl) (zle rfl) (zle rfl) rfl rfl (zle rfl) dX10_shut_26 rfl (zp.use ?_)
      exact v_ireturn rfl (cQ_fd hC (zi_f (fun h => c20 h.2))) (zle rfl) (zle rfl) dX10_shut_29
  · refine v_callV (ci := 7) (F := TX7) (c_X7_findWay_n (b 0 0) w t1 (by rw [t7]; exact hw)) yy_X7_findWay im_X7_findWay se_X7_findWay lk_10_94 (by assumption) (zle rfl) rfl (zle rfl) (zle rfl) (zle rfl) (zle rfl) rfl rfl (zle rfl) dX10_shut_5 rfl (za.use ?_)
    refine v_astoreN_3 dX10_shut_8 rfl (zle rfl) rfl ?_
    refine v_aloadN_3 dX10_shut_9 rfl ?_
    refine v_ifnullN (n := 23) dX10_shut_10 (by decide) ?_
    refine v_aload_0 dX10_shut_23 rfl ?_
    refine v_ldc dX10_shut_24 kc_10_65 rfl ?_
    refine v_callV (ci := 10) (F := TX10) (c_X10_finding _ _ (by assumption)) yy_X10_finding im_X10_finding se_X10_finding lk_10_66 (by assumption) (zle rfl) rfl (zle rfl) (zle rfl) (zle rfl) (zle rfl) rfl rfl (zle rfl) dX10_shut_26 rfl (zp.use ?_)
    exact v_ireturn rfl (cQ_fd hC (zi_f (fun h => hw h.1))) (zle rfl) (zle rfl) dX10_shut_29
theorem c_X10_as {E : zE} {T : zT} {N : zN} {P : zP} {I : zI} {R : zR} (x : Nat) (Mn : Nat → Prop) (b : Nat → Nat → Nat) (g : Nat) (f : zf) (r : zg) (e p k : Int32) (hC : CR T N P I R x Mn b g f r) (h9 : Nt (f 9) 5) (h10 : ∀ e, e < tn (f 9) → Nt (r 10 e) 13) : zC E yX10_as cX10_as 5 (some .int) (zr0 3 66) [.ref x, .int e, .int p, .int k] T N P I R (cQ x Mn g T N P I R (ac_as f r e p k)) := by
  refine zC.intro (ls := [some (.ref x), some (.int e), some (.int p), some (.int k), none]) pl_RX10 (zle rfl) 1 rfl (fun K => ?_)
  obtain ⟨hX, hT, hA, hP, hE, hW, hS, hQ⟩ := id hC
  obtain ⟨x1, x2, x3, x4, x5, x6, x7, x8, x9, x10, x11, x12, x13, x14⟩ := id hX
  obtain ⟨t1, t2, t3, t4, t5, t6, t7, t8, t9, t10⟩ := id hT
  obtain ⟨a1, a2, a3⟩ := id hA
  refine v_aload_0 dX10_as_0 rfl ?_
  refine v_iload_1 dX10_as_1 rfl ?_
  refine v_iload_2 dX10_as_2 rfl ?_
  rcases three (A := 0 ≤ e ∧ e ≤ f 9 - 1) (B := 0 ≤ p ∧ p ≤ r 10 (tn e) - 1) with ⟨h1, h2⟩ | ⟨h1, h2⟩ | h1
  · obtain ⟨e, he, rfl⟩ := fnd h9 (by decide) h1
    have h9b := h9.2
    have te : tn (nI e) = e := tn_nI (by omega)
    rw [te] at h2
    obtain ⟨g1, g2, g3, g4, g5, g6, g7⟩ := hE e he
    have h10e := h10 e he
    have h10b := h10e.2
    obtain ⟨p, hp, rfl⟩ := fnd h10e (by decide) h2
    have tp : tn (nI p) = p := tn_nI (by omega)
    have ti : 12 * tn (nI e) + tn (nI p) = 12 * e + p := by rw [te, tp]
    obtain ⟨k0, k1, k2, k3, k4, k5, k6⟩ := g6 p hp
    have cc : (0 ≤ nI e ∧ nI e ≤ f 9 - 1) ∧ (0 ≤ nI p ∧ nI p ≤ r 10 (tn (nI e)) - 1) := ⟨h1, by rw [te]; exact h2⟩
    refine v_callV (ci := 10) (F := TX10) (c_X10_findPiece x (b 0 2) (b 3 e) (b 4 e) e p (b (10 + e) p) x1 x4 x8 (by rw [x11]; exact h1) (by omega) g1 g2 g3 g4 (by rw [g5]; exact h2) (by omega) k0) yy_X10_findPiece im_X10_findPiece se_X10_findPiece lk_10_131 (by assumption) (zle rfl) rfl (zle rfl) (zle rfl) (zle rfl) (zle rfl) rfl rfl (zle rfl) dX10_as_3 rfl (za.use ?_)
    refine v_astore_4 dX10_as_6 rfl (zle rfl) rfl ?_
    refine v_aload_4 dX10_as_8 rfl ?_
    refine v_ifnull dX10_as_10 rfl ?_
    refine v_iload_3 dX10_as_13 rfl ?_
    refine v_iconst (v := 0) dX10_as_14 rfl rfl ?_
    refine v_iconst (v := 3) dX10_as_15 rfl rfl ?_
    refine v_callS (c_X10_isWithin _ _ _) yy_X10_isWithin st_X10_isWithin lk_10_61 (zle rfl) (zle rfl) (zle rfl) (zle rfl) rfl rfl (zle rfl) dX10_as_16 rfl (zp.use ?_)
    refine v_ifz_ne (tgt := 29) dX10_as_19 (by decide) rfl (fun c19 => ?_) (fun c19 => ?_)
    · refine v_aload_4 dX10_as_29 rfl ?_
      refine v_iload_3 dX10_as_31 rfl ?_
      refine v_callV (ci := 2) (F := TX2) (c_X2_isOfKind _ _ (by assumption)) yy_X2_isOfKind im_X2_isOfKind se_X2_isOfKind lk_10_135 (by assumption) (zle rfl) rfl (zle rfl) (zle rfl) (zle rfl) (zle rfl) rfl rfl (zle rfl) dX10_as_32 rfl (zp.use ?_)
      rw [k2]
      refine v_ifz_eq (tgt := 42) dX10_as_35 (by decide) rfl (fun c35 => ?_) (fun c35 => ?_)
      · refine v_aload_0 dX10_as_42 rfl ?_
        refine v_ldc dX10_as_43 kc_10_140 rfl ?_
        refine v_callV (ci := 10) (F := TX10) (c_X10_finding _ _ (by assumption)) yy_X10_finding im_X10_finding se_X10_finding lk_10_66 (by assumption) (zle rfl) rfl (zle rfl) (zle rfl) (zle rfl) (zle rfl) rfl rfl (zle rfl) dX10_as_45 rfl (zp.use ?_)
        exact v_ireturn rfl (cQ_fd hC ((zi_t ⟨cc, c19⟩).trans (zi_f (fun h => c35 (h.elim (fun h => Or.inr (Or.inl h)) (fun h => h.elim (fun h => Or.inl (by rw [ti] at h; exact h.symm)) (fun h => Or.inr (Or.inr ⟨h.1, by rw [← ti]; exact h.2⟩)))))))) (zle rfl) (zle rfl) dX10_as_48
      · refine v_iload_2 dX10_as_38 rfl ?_
        refine v_goto (n := 48) dX10_as_39 (by decide) ?_
        exact v_ireturn rfl (cQ_rd hC ((zi_t ⟨cc, c19⟩).trans (zi_t (c35.elim (fun h => Or.inr (Or.inl (by rw [ti]; exact h.symm))) (fun h => h.elim (fun h => Or.inl h) (fun h => Or.inr (Or.inr ⟨h.1, by rw [ti]; exact h.2⟩)))))) rfl) (zle rfl) (zle rfl) dX10_as_48
    · refine v_aload_0 dX10_as_22 rfl ?_
      refine v_ldc dX10_as_23 kc_10_65 rfl ?_
      refine v_callV (ci := 10) (F := TX10) (c_X10_finding _ _ (by assumption)) yy_X10_finding im_X10_finding se_X10_finding lk_10_66 (by assumption) (zle rfl) rfl (zle rfl) (zle rfl) (zle rfl) (zle rfl) rfl rfl (zle rfl) dX10_as_25 rfl (zp.use ?_)
      exact v_ireturn rfl (cQ_fd hC (zi_f (fun h => c19 h.2))) (zle rfl) (zle rfl) dX10_as_28
  · obtain ⟨e, he, rfl⟩ := fnd h9 (by decide) h1
    have h9b := h9.2
    have te : tn (nI e) = e := tn_nI (by omega)
    rw [te] at h2
    obtain ⟨g1, g2, g3, g4, g5, g6, g7⟩ := hE e he
    refine v_callV (ci := 10) (F := TX10) (c_X10_findPiece_n x (b 0 2) (b 3 e) e p x1 x4 x8 (by rw [x11]; exact h1) (by omega) g1 g2 (by rw [g5]; exact h2)) yy_X10_findPiece im_X10_findPiece se_X10_findPiece lk_10_131 (by assumption) (zle rfl) rfl (zle rfl) (zle rfl) (zle rfl) (zle rfl) rfl rfl (zle rfl) dX10_as_3 rfl (za.use ?_)
    refine v_astoreN_4 dX10_as_6 rfl (zle rfl) rfl ?_
    refine v_aloadN_4 dX10_as_8 rfl ?_
    refine v_ifnullN (n := 22) dX10_as_10 (by decide) ?_
    refine v_aload_0 dX10_as_22 rfl ?_
    refine v_ldc dX10_as_23 kc_10_65 rfl ?_
    refine v_callV (ci := 10) (F := TX10) (c_X10_finding _ _ (by assumption)) yy_X10_finding im_X10_finding se_X10_finding lk_10_66 (by assumption) (zle rfl) rfl (zle rfl) (zle rfl) (zle rfl) (zle rfl) rfl rfl (zle rfl) dX10_as_25 rfl (zp.use ?_)
    exact v_ireturn rfl (cQ_fd hC (zi_f (fun h => h2 (by have := h.1.2; rw [te] at this; exact this)))) (zle rfl) (zle rfl) dX10_as_28
  · refine v_callV (ci := 10) (F := TX10) (c_X10_findPiece_m x e p x1 (by rw [x11]; exact h1)) yy_X10_findPiece im_X10_findPiece se_X10_findPiece lk_10_131 (by assumption) (zle rfl) rfl (zle rfl) (zle rfl) (zle rfl) (zle rfl) rfl rfl (zle rfl) dX10_as_3 rfl (za.use ?_)
    refine v_astoreN_4 dX10_as_6 rfl (zle rfl) rfl ?_
    refine v_aloadN_4 dX10_as_8 rfl ?_
    refine v_ifnullN (n := 22) dX10_as_10 (by decide) ?_
    refine v_aload_0 dX10_as_22 rfl ?_
    refine v_ldc dX10_as_23 kc_10_65 rfl ?_
    refine v_callV (ci := 10) (F := TX10) (c_X10_finding _ _ (by assumption)) yy_X10_finding im_X10_finding se_X10_finding lk_10_66 (by assumption) (zle rfl) rfl (zle rfl) (zle rfl) (zle rfl) (zle rfl) rfl rfl (zle rfl) dX10_as_25 rfl (zp.use ?_)
    exact v_ireturn rfl (cQ_fd hC (zi_f (fun h => h1 h.1.1))) (zle rfl) (zle rfl) dX10_as_28
theorem c_X10_of {E : zE} {T : zT} {N : zN} {P : zP} {I : zI} {R : zR} (x : Nat) (Mn : Nat → Prop) (b : Nat → Nat → Nat) (g : Nat) (f : zf) (r : zg) (e p k : Int32) (hC : CR T N P I R x Mn b g f r) (h9 : Nt (f 9) 5) (h10 : ∀ e, e < tn (f 9) → Nt (r 10 e) 13) : zC E yX10_of cX10_of 5 (some .int) (zr0 3 66) [.ref x, .int e, .int p, .int k] T N P I R (cQ x Mn g T N P I R (ac_of f r e p k)) := by
  refine zC.intro (ls := [some (.ref x), some (.int e), some (.int p), some (.int k), none]) pl_RX10 (zle rfl) 1 rfl (fun K => ?_)
  obtain ⟨hX, hT, hA, hP, hE, hW, hS, hQ⟩ := id hC
  obtain ⟨x1, x2, x3, x4, x5, x6, x7, x8, x9, x10, x11, x12, x13, x14⟩ := id hX
  obtain ⟨t1, t2, t3, t4, t5, t6, t7, t8, t9, t10⟩ := id hT
  obtain ⟨a1, a2, a3⟩ := id hA
  refine v_aload_0 dX10_of_0 rfl ?_
  refine v_iload_1 dX10_of_1 rfl ?_
  refine v_iload_2 dX10_of_2 rfl ?_
  rcases three (A := 0 ≤ e ∧ e ≤ f 9 - 1) (B := 0 ≤ p ∧ p ≤ r 10 (tn e) - 1) with ⟨h1, h2⟩ | ⟨h1, h2⟩ | h1
  · obtain ⟨e, he, rfl⟩ := fnd h9 (by decide) h1
    have h9b := h9.2
    have te : tn (nI e) = e := tn_nI (by omega)
    rw [te] at h2
    obtain ⟨g1, g2, g3, g4, g5, g6, g7⟩ := hE e he
    have h10e := h10 e he
    have h10b := h10e.2
    obtain ⟨p, hp, rfl⟩ := fnd h10e (by decide) h2
    have tp : tn (nI p) = p := tn_nI (by omega)
    have ti : 12 * tn (nI e) + tn (nI p) = 12 * e + p := by rw [te, tp]
    obtain ⟨k0, k1, k2, k3, k4, k5, k6⟩ := g6 p hp
    have cc : (0 ≤ nI e ∧ nI e ≤ f 9 - 1) ∧ (0 ≤ nI p ∧ nI p ≤ r 10 (tn (nI e)) - 1) := ⟨h1, by rw [te]; exact h2⟩
    refine v_callV (ci := 10) (F := TX10) (c_X10_findPiece x (b 0 2) (b 3 e) (b 4 e) e p (b (10 + e) p) x1 x4 x8 (by rw [x11]; exact h1) (by omega) g1 g2 g3 g4 (by rw [g5]; exact h2) (by omega) k0) yy_X10_findPiece im_X10_findPiece se_X10_findPiece lk_10_131 (by assumption) (zle rfl) rfl (zle rfl) (zle rfl) (zle rfl) (zle rfl) rfl rfl (zle rfl) dX10_of_3 rfl (za.use ?_)
    refine v_astore_4 dX10_of_6 rfl (zle rfl) rfl ?_
    refine v_aload_4 dX10_of_8 rfl ?_
    refine v_ifnonnull (n := 20) dX10_of_10 (by decide) ?_
    refine v_iload_3 dX10_of_20 rfl ?_
    by_cases s21_0 : k = 0
    · refine v_tableIn (off := 35) (n := 56) dX10_of_21 (by rw [s21_0]; decide) (by rw [s21_0]; decide) (by rw [s21_0]; rfl) (by decide) ?_
      refine v_aload_4 dX10_of_56 rfl ?_
      refine v_getN fl_10_141 (by assumption) rfl (zle rfl) rfl dX10_of_58 rfl ?_
      exact v_ireturn rfl (cQ_rd hC ((zi_t cc).trans (zi_t s21_0)) (by rw [ti]; exact k2)) (zle rfl) (zle rfl) dX10_of_61
    by_cases s21_1 : k = 1
    · refine v_tableIn (off := 41) (n := 62) dX10_of_21 (by rw [s21_1]; decide) (by rw [s21_1]; decide) (by rw [s21_1]; rfl) (by decide) ?_
      refine v_aload_4 dX10_of_62 rfl ?_
      refine v_getN fl_10_144 (by assumption) rfl (zle rfl) rfl dX10_of_64 rfl ?_
      exact v_ireturn rfl (cQ_rd hC (((zi_t cc).trans (zi_f s21_0)).trans (zi_t s21_1)) (by rw [ti]; exact k3)) (zle rfl) (zle rfl) dX10_of_67
    by_cases s21_2 : k = 2
    · refine v_tableIn (off := 47) (n := 68) dX10_of_21 (by rw [s21_2]; decide) (by rw [s21_2]; decide) (by rw [s21_2]; rfl) (by decide) ?_
      refine v_aload_4 dX10_of_68 rfl ?_
      refine v_getN fl_10_147 (by assumption) rfl (zle rfl) rfl dX10_of_70 rfl ?_
      exact v_ireturn rfl (cQ_rd hC ((((zi_t cc).trans (zi_f s21_0)).trans (zi_f s21_1)).trans (zi_t s21_2)) (by rw [ti]; exact k4)) (zle rfl) (zle rfl) dX10_of_73
    by_cases s21_3 : k = 3
    · refine v_tableIn (off := 53) (n := 74) dX10_of_21 (by rw [s21_3]; decide) (by rw [s21_3]; decide) (by rw [s21_3]; rfl) (by decide) ?_
      refine v_aload_4 dX10_of_74 rfl ?_
      refine v_getN fl_10_148 (by assumption) rfl (zle rfl) rfl dX10_of_76 rfl ?_
      exact v_ireturn rfl (cQ_rd hC (((((zi_t cc).trans (zi_f s21_0)).trans (zi_f s21_1)).trans (zi_f s21_2)).trans (zi_t s21_3)) (by rw [ti]; exact k5)) (zle rfl) (zle rfl) dX10_of_79
    by_cases s21_4 : k = 4
    · refine v_tableIn (off := 59) (n := 80) dX10_of_21 (by rw [s21_4]; decide) (by rw [s21_4]; decide) (by rw [s21_4]; rfl) (by decide) ?_
      refine v_aload_4 dX10_of_80 rfl ?_
      refine v_getN fl_10_151 (by assumption) rfl (zle rfl) rfl dX10_of_82 rfl ?_
      exact v_ireturn rfl (cQ_rd hC ((((((zi_t cc).trans (zi_f s21_0)).trans (zi_f s21_1)).trans (zi_f s21_2)).trans (zi_f s21_3)).trans (zi_t s21_4)) (by rw [ti]; exact k6)) (zle rfl) (zle rfl) dX10_of_85
    refine v_tableOut (n := 86) dX10_of_21 (tb_out (k := 4) (fun j hj => by rcases (show j = 0 ∨ j = 1 ∨ j = 2 ∨ j = 3 ∨ j = 4 by omega) with rfl | rfl | rfl | rfl | rfl <;> first | exact s21_0 | exact s21_1 | exact s21_2 | exact s21_3 | exact s21_4)) (by decide) ?_
    refine v_aload_0 dX10_of_86 rfl ?_
    refine v_ldc dX10_of_87 kc_10_65 rfl ?_
    refine v_callV (ci := 10) (F := TX10) (c_X10_finding _ _ (by assumption)) yy_X10_finding im_X10_finding se_X10_finding lk_10_66 (by assumption) (zle rfl) rfl (zle rfl) (zle rfl) (zle rfl) (zle rfl) rfl rfl (zle rfl) dX10_of_89 rfl (zp.use ?_)
    exact v_ireturn rfl (cQ_fd hC ((((((zi_t cc).trans (zi_f s21_0)).trans (zi_f s21_1)).trans (zi_f s21_2)).trans (zi_f s21_3)).trans (zi_f s21_4))) (zle rfl) (zle rfl) dX10_of_92
  · obtain ⟨e, he, rfl⟩ := fnd h9 (by decide) h1
    have h9b := h9.2
    have te : tn (nI e) = e := tn_nI (by omega)
    rw [te] at h2
    obtain ⟨g1, g2, g3, g4, g5, g6, g7⟩ := hE e he
    refine v_callV (ci := 10) (F := TX10) (c_X10_findPiece_n x (b 0 2) (b 3 e) e p x1 x4 x8 (by rw [x11]; exact h1) (by omega) g1 g2 (by rw [g5]; exact h2)) yy_X10_findPiece im_X10_findPiece se_X10_findPiece lk_10_131 (by assumption) (zle rfl) rfl (zle rfl) (zle rfl) (zle rfl) (zle rfl) rfl rfl (zle rfl) dX10_of_3 rfl (za.use ?_)
    refine v_astoreN_4 dX10_of_6 rfl (zle rfl) rfl ?_
    refine v_aloadN_4 dX10_of_8 rfl ?_
    refine v_ifnonnullN dX10_of_10 rfl ?_
    refine v_aload_0 dX10_of_13 rfl ?_
    refine v_ldc dX10_of_14 kc_10_65 rfl ?_
    refine v_callV (ci := 10) (F := TX10) (c_X10_finding _ _ (by assumption)) yy_X10_finding im_X10_finding se_X10_finding lk_10_66 (by assumption) (zle rfl) rfl (zle rfl) (zle rfl) (zle rfl) (zle rfl) rfl rfl (zle rfl) dX10_of_16 rfl (zp.use ?_)
    exact v_ireturn rfl (cQ_fd hC (zi_f (fun h => h2 (by have := h.2; rw [te] at this; exact this)))) (zle rfl) (zle rfl) dX10_of_19
  · refine v_callV (ci := 10) (F := TX10) (c_X10_findPiece_m x e p x1 (by rw [x11]; exact h1)) yy_X10_findPiece im_X10_findPiece se_X10_findPiece lk_10_131 (by assumption) (zle rfl) rfl (zle rfl) (zle rfl) (zle rfl) (zle rfl) rfl rfl (zle rfl) dX10_of_3 rfl (za.use ?_)
    refine v_astoreN_4 dX10_of_6 rfl (zle rfl) rfl ?_
    refine v_aloadN_4 dX10_of_8 rfl ?_
    refine v_ifnonnullN dX10_of_10 rfl ?_
    refine v_aload_0 dX10_of_13 rfl ?_
    refine v_ldc dX10_of_14 kc_10_65 rfl ?_
    refine v_callV (ci := 10) (F := TX10) (c_X10_finding _ _ (by assumption)) yy_X10_finding im_X10_finding se_X10_finding lk_10_66 (by assumption) (zle rfl) rfl (zle rfl) (zle rfl) (zle rfl) (zle rfl) rfl rfl (zle rfl) dX10_of_16 rfl (zp.use ?_)
    exact v_ireturn rfl (cQ_fd hC (zi_f (fun h => h1 h.1))) (zle rfl) (zle rfl) dX10_of_19
theorem CR.srow {T : zT} {N : zN} {P : zP} {I I' : zI} {R : zR} {x : Nat} {Mn : Nat → Prop} {b : Nat → Nat → Nat} {g : Nat} {f : zf} {r r' : zg} (h : CR T N P I R x Mn b g f r) {s : Nat} (hs : s < 4) (hl : ¬ r 28 s = 0) (hI : ∀ a, a ≠ b 1 (7 + s) → I' a = I a) (hr : ∀ k, k ≠ 30 → r' k = r k) (h1 : ∀ i, i < tn (r 29 s) → I' (b 1 (7 + s)) i = r' 30 (12 * s + i)) (h2 : ∀ t, t < 4 → t ≠ s → ∀ i, i < tn (r 29 t) → r' 30 (12 * t + i) = r 30 (12 * t + i)) : CR T N P I' R x Mn b g f r' := by
  obtain ⟨hX, ⟨t1, t2, t3, t4, t5, t6, t7, t8, t9, t10⟩, ⟨a1, a2, a3⟩, ⟨d1, d2, d3, d4, d5⟩, hE, hW, hS, hQ⟩ := h
  have hlv : lvr r (7 + s) := Or.inr ⟨by omega, by rw [show 7 + s - 7 = s by omega]; exact hl⟩
  have ne : ∀ i, lvr r i → i ≠ 7 + s → b 1 i ≠ b 1 (7 + s) := fun i hi hn e => hn (a3 i _ hi hlv e)
  have e28 := hr 28 (by decide)
  have e29 := hr 29 (by decide)
  have lv : ∀ i, lvr r' i ↔ lvr r i := fun i => by unfold lvr; rw [e28]
  have ln : ∀ i, lnr g r' i = lnr g r i := fun i => by unfold lnr; rw [e29]
  have nb : b 0 7 ≠ b 1 (7 + s) := fun e => by have := (a2 _ hlv).1; rw [← e, d3] at this; cases this
  refine ⟨hX, ⟨t1, t2, t3, t4, t5, t6, t7, ?_, ?_, t10⟩, ⟨a1, fun i hi => by rw [ln]; exact a2 i ((lv i).mp hi), fun i j hi hj e => a3 i j ((lv i).mp hi) ((lv j).mp hj) e⟩, ⟨d1, d2, d3, d4, ?_⟩, ?_, ?_, ?_, hQ⟩
  · rw [hI _ (ne 0 (Or.inl (by decide)) (by omega)), hI _ (ne 1 (Or.inl (by decide)) (by omega)), hr 1 (by decide), hr 2 (by decide)]
    exact t8
  · intro j hj
    unfold RTw
    rw [hr 4 (by decide), hr 5 (by decide), hr 6 (by decide), hr 7 (by decide), hr 8 (by decide)]
    exact t9 j hj
  · rw [hI _ nb, hr 16 (by decide)]
    exact d5
  · intro e he
    unfold REe REp
    rw [hr 10 (by decide), hr 11 (by decide), hr 12 (by decide), hr 13 (by decide), hr 14 (by decide), hr 15 (by decide)]
    exact hE e he
  · refine ⟨fun n hn => ?_, hW.2⟩
    unfold RWn
    rw [hr 19 (by decide), hr 20 (by decide), hr 21 (by decide), hr 22 (by decide), hr 23 (by decide), hr 24 (by decide), hr 25 (by decide), hr 26 (by decide)]
    exact hW.1 n hn
  · intro t ht
    unfold RSs
    rw [e28, e29]
    refine ⟨(hS t ht).1, fun h0 => ?_⟩
    obtain ⟨g1, g2, g3, g4, g5⟩ := (hS t ht).2 h0
    refine ⟨g1, g2, g3, g4, fun i hi => ?_⟩
    by_cases hts : t = s
    · subst hts
      exact h1 i hi
    · have : lvr r (7 + t) := Or.inr ⟨by omega, by rw [show 7 + t - 7 = t by omega]; exact h0⟩
      rw [hI _ (ne _ this (by omega)), h2 t ht hts i hi]
      exact g5 i hi
theorem c_X10_write {E : zE} {T : zT} {N : zN} {P : zP} {I : zI} {R : zR} (x : Nat) (Mn : Nat → Prop) (b : Nat → Nat → Nat) (g : Nat) (f : zf) (r : zg) (s i v : Int32) (hC : CR T N P I R x Mn b g f r) (hs : 0 ≤ s ∧ s ≤ 3 → ∃ q, q < 4 ∧ s = nI q) (hz : ∀ q, q < 4 → Nt (r 29 q) 13) : zC E yX10_write cX10_write 6 (some .int) (zr0 2 42) [.ref x, .int s, .int i, .int v] T N P I R (cQ x Mn g T N P I R (ac_write f r s i v)) := by
  refine zC.intro (ls := [some (.ref x), some (.int s), some (.int i), some (.int v), none, none]) pl_RX10 (zle rfl) 2 rfl (fun K => ?_)
  obtain ⟨hX, hT, hA, hP, hE, hW, hS, hQ⟩ := id hC
  obtain ⟨x1, x2, x3, x4, x5, x6, x7, x8, x9, x10, x11, x12, x13, x14⟩ := id hX
  obtain ⟨t1, t2, t3, t4, t5, t6, t7, t8, t9, t10⟩ := id hT
  obtain ⟨a1, a2, a3⟩ := id hA
  have hsl : ∀ q, q < 4 → ¬ r 28 q = 0 → lvr r (7 + q) := fun q h1 h0 => Or.inr ⟨by omega, by rw [show 7 + q - 7 = q by omega]; exact h0⟩
  refine v_iload_1 dX10_write_0 rfl ?_
  refine v_callS (c_X10_isSheet _) yy_X10_isSheet st_X10_isSheet lk_10_254 (zle rfl) (zle rfl) (zle rfl) (zle rfl) rfl rfl (zle rfl) dX10_write_1 rfl (zp.use ?_)
  refine v_ifz_ne (tgt := 14) dX10_write_4 (by decide) rfl (fun c4 => ?_) (fun c4 => ?_)
  · obtain ⟨s, hs4, rfl⟩ := hs c4
    have ts : tn (nI s) = s := tn_nI (by omega)
    by_cases h0 : r 28 s = 0
    · refine v_aload_0 dX10_write_14 rfl ?_
      refine v_getP fl_10_37 (by assumption) (by assumption) rfl (zle rfl) rfl dX10_write_15 rfl ?_
      refine v_iload_1 dX10_write_18 rfl ?_
      refine v_aaldN (j := s) ti_5 (by assumption) rfl (by omega) (zle rfl) ((hS s hs4).1 h0) dX10_write_19 rfl ?_
      refine v_astoreN_4 dX10_write_20 rfl (zle rfl) rfl ?_
      refine v_aloadN_4 dX10_write_22 rfl ?_
      refine v_ifnonnullN dX10_write_24 rfl ?_
      refine v_aload_0 dX10_write_27 rfl ?_
      refine v_ldcw dX10_write_28 kc_10_264 rfl ?_
      refine v_callV (ci := 10) (F := TX10) (c_X10_finding _ _ (by assumption)) yy_X10_finding im_X10_finding se_X10_finding lk_10_66 (by assumption) (zle rfl) rfl (zle rfl) (zle rfl) (zle rfl) (zle rfl) rfl rfl (zle rfl) dX10_write_31 rfl (zp.use ?_)
      exact v_ireturn rfl (cQ_fd hC ((zi_t c4).trans (zi_t (by rw [ts]; exact h0)))) (zle rfl) (zle rfl) dX10_write_34
    · refine v_aload_0 dX10_write_14 rfl ?_
      refine v_getP fl_10_37 (by assumption) (by assumption) rfl (zle rfl) rfl dX10_write_15 rfl ?_
      refine v_iload_1 dX10_write_18 rfl ?_
      obtain ⟨g1, g2, g3, g4, g5⟩ := (hS s hs4).2 h0
      have hz4 := hz s hs4
      have hz5 := hz4.2
      have al := (a2 _ (hsl s hs4 h0))
      have al1 : T (b 1 (7 + s)) = (1, tn (r 29 s)) := by have := al.1; rw [show lnr g r (7 + s) = tn (r 29 (7 + s - 7)) from by rcases (show s = 0 ∨ s = 1 ∨ s = 2 ∨ s = 3 by omega) with rfl | rfl | rfl | rfl <;> rfl, show 7 + s - 7 = s by omega] at this; exact this
      refine v_aald (j := s) ti_5 (by assumption) rfl (by omega) (zle rfl) g1 dX10_write_19 rfl ?_
      refine v_astore_4 dX10_write_20 rfl (zle rfl) rfl ?_
      refine v_aload_4 dX10_write_22 rfl ?_
      refine v_ifnonnull (n := 35) dX10_write_24 (by decide) ?_
      refine v_iload_2 dX10_write_35 rfl ?_
      refine v_iconst (v := 0) dX10_write_36 rfl rfl ?_
      refine v_aload_4 dX10_write_37 rfl ?_
      refine v_getP fl_10_265 (by assumption) (by assumption) rfl (zle rfl) rfl dX10_write_39 rfl ?_
      
      refine v_alenN al1 (by decide) dX10_write_42 rfl ?_
      refine v_top hz4.1.symm ?_
      refine v_iconst (v := 1) dX10_write_43 rfl rfl ?_
      refine v_isub dX10_write_44 rfl ?_
      refine v_callS (c_X10_isWithin _ _ _) yy_X10_isWithin st_X10_isWithin lk_10_61 (zle rfl) (zle rfl) (zle rfl) (zle rfl) rfl rfl (zle rfl) dX10_write_45 rfl (zp.use ?_)
      refine v_ifz_ne (tgt := 58) dX10_write_48 (by decide) rfl (fun c48 => ?_) (fun c48 => ?_)
      · obtain ⟨i, hi, rfl⟩ := fnd hz4 (by decide) c48
        have tt : tn (nI i) = i := tn_nI (by omega)
        have tj : 12 * tn (nI s) + tn (nI i) = 12 * s + i := by rw [ts, tt]
        refine v_aload_4 dX10_write_58 rfl ?_
        refine v_getP fl_10_265 (by assumption) (by assumption) rfl (zle rfl) rfl dX10_write_60 rfl ?_
        refine v_iload_2 dX10_write_63 rfl ?_
        refine v_iald (j := i) al1 rfl hi (by omega) dX10_write_64 rfl ?_
        refine v_istore_5 dX10_write_65 rfl (zle rfl) rfl ?_
        refine v_aload_4 dX10_write_67 rfl ?_
        refine v_getP fl_10_265 (by assumption) (by assumption) rfl (zle rfl) rfl dX10_write_69 rfl ?_
        refine v_iload_2 dX10_write_72 rfl ?_
        refine v_aload_4 dX10_write_73 rfl ?_
        refine v_iload_3 dX10_write_75 rfl ?_
        refine v_callV (ci := 5) (F := TX5) (c_X5_lowestBits _ _ (by assumption)) yy_X5_lowestBits im_X5_lowestBits se_X5_lowestBits lk_10_269 (by assumption) (zle rfl) rfl (zle rfl) (zle rfl) (zle rfl) (zle rfl) rfl rfl (zle rfl) dX10_write_76 rfl (zp.use ?_)
        rw [g3]
        refine v_iast (j := i) al1 rfl hi (by omega) dX10_write_79 rfl ?_
        refine v_iload_5 dX10_write_80 rfl ?_
        exact v_ireturn rfl (cQ_go b g (((zi_t c4).trans (zi_f (by rw [ts]; exact h0))).trans (zi_t (by rw [ts]; exact c48))) (by rw [tj]; exact g5 i hi) (by
      rw [tj, ts]
      refine hC.srow hs4 h0 (fun a ha => u2_off I _ ha) (fun k hk => u2_off r _ hk) (fun q hq => ?_) (fun t ht hts q hq => ?_)
      · by_cases hqi : q = i
        · subst hqi; rw [u2_self, u2_self]
        · rw [u2_ni hqi, u2_ni (by omega)]; exact g5 q hq
      · have := (hz t ht).2
        rw [u2_ni (by omega)]) (Cfr.rf.i al.2 _ _)) (zle rfl) (zle rfl) dX10_write_82
      · refine v_aload_0 dX10_write_51 rfl ?_
        refine v_ldc dX10_write_52 kc_10_65 rfl ?_
        refine v_callV (ci := 10) (F := TX10) (c_X10_finding _ _ (by assumption)) yy_X10_finding im_X10_finding se_X10_finding lk_10_66 (by assumption) (zle rfl) rfl (zle rfl) (zle rfl) (zle rfl) (zle rfl) rfl rfl (zle rfl) dX10_write_54 rfl (zp.use ?_)
        exact v_ireturn rfl (cQ_fd hC (((zi_t c4).trans (zi_f (by rw [ts]; exact h0))).trans (zi_f (by rw [ts]; exact c48)))) (zle rfl) (zle rfl) dX10_write_57
  · refine v_aload_0 dX10_write_7 rfl ?_
    refine v_ldc dX10_write_8 kc_10_65 rfl ?_
    refine v_callV (ci := 10) (F := TX10) (c_X10_finding _ _ (by assumption)) yy_X10_finding im_X10_finding se_X10_finding lk_10_66 (by assumption) (zle rfl) rfl (zle rfl) (zle rfl) (zle rfl) (zle rfl) rfl rfl (zle rfl) dX10_write_10 rfl (zp.use ?_)
    exact v_ireturn rfl (cQ_fd hC (zi_f c4)) (zle rfl) (zle rfl) dX10_write_13
