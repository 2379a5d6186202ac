theorem c_X0_init {E : zE} {T : zT} {N : zN} {P : zP} {I : zI} {R : zR} (ea : Nat) (he : (T ea).1 = 10) : zC E yX0_init cX0_init 1 none (zrm 1 20 1 12) [.ref ea] T N P I R (fun v T1 N1 P1 I1 R1 => v = none ∧ ∃ pa, (T pa).1 = 0 ∧ u1 T pa (32, 12) = T1 ∧ u3 (u3 N 0 1 ea 0) 0 2 ea 0 = N1 ∧ u3 P 0 0 ea (some pa) = P1 ∧ I = I1 ∧ u1 R pa (fun _ => none) = R1) := by
  refine zC.intro (ls := [some (.ref ea)]) pl_RX0 (zle rfl) 0 rfl (fun K => ?_)
  refine v_aload_0 dX0_init_0 rfl ?_
  refine v_objInit lk_0_3 im_obj cd_obj (zle rfl) (zle rfl) dX0_init_1 rfl ?_
  refine v_aload_0 dX0_init_4 rfl ?_
  refine v_bipush (v := 12) dX0_init_5 rfl rfl ?_
  refine v_newq ti_2 kl_0_9 ao_2 rfl (zle rfl) (zle rfl) (zle rfl) dX0_init_7 rfl (fun q7 hq7 => ?_)
  refine v_putP fw_0_11 (show (u1 T q7 (32, 12) ea).1 = 10 by rw [u1_na (fr_ne hq7 he (by decide))]; exact he) rfl (zle rfl) rfl (fun _ => rfl) rfl rfl dX0_init_10 rfl ?_
  refine v_aload_0 dX0_init_13 rfl ?_
  refine v_iconst (v := 0) dX0_init_14 rfl rfl ?_
  refine v_putN fw_0_17 (show (u1 T q7 (32, 12) ea).1 = 10 by rw [u1_na (fr_ne hq7 he (by decide))]; exact he) rfl (zle rfl) rfl (fun h => by cases h) rfl rfl dX0_init_15 rfl ?_
  refine v_aload_0 dX0_init_18 rfl ?_
  refine v_iconst (v := 0) dX0_init_19 rfl rfl ?_
  refine v_putN fw_0_21 (show (u1 T q7 (32, 12) ea).1 = 10 by rw [u1_na (fr_ne hq7 he (by decide))]; exact he) rfl (zle rfl) rfl (fun h => by cases h) rfl rfl dX0_init_20 rfl ?_
  exact v_return rfl (⟨rfl, q7, hq7, rfl, rfl, rfl, rfl, rfl⟩) (zle rfl) (zle rfl) dX0_init_23
/-- the numbers when a piece was added -/
noncomputable def ane (N : zN) (ea a n : Nat) : zN := u3 (zi (N 2 0 a = 3) (u3 N 0 2 ea (N 0 2 ea ||| (1 : Int32) <<< (nI n &&& 31))) N) 0 1 ea (nI (n + 1))
theorem ane_t {N : zN} {ea a n : Nat} (h : N 2 0 a = 3) : ane N ea a n = u3 (u3 N 0 2 ea (N 0 2 ea ||| (1 : Int32) <<< (nI n &&& 31))) 0 1 ea (nI (n + 1)) := by unfold ane; rw [zi_t h]
theorem ane_f {N : zN} {ea a n : Nat} (h : ¬ N 2 0 a = 3) : ane N ea a n = u3 N 0 1 ea (nI (n + 1)) := by unfold ane; rw [zi_f h]
theorem ane_o {N : zN} {ea a n c k y : Nat} (hc : c ≠ 0 ∨ y ≠ ea) : ane N ea a n c k y = N c k y := by
  by_cases e : N 2 0 a = 3
  · rw [ane_t e]; rcases hc with hc | hc <;> simp [u3, hc]
  · rw [ane_f e]; rcases hc with hc | hc <;> simp [u3, hc]
theorem ane_1 {N : zN} {ea a n : Nat} : ane N ea a n 0 1 ea = nI (n + 1) := u3_self
theorem ane_2 {N : zN} {ea a n : Nat} : ane N ea a n 0 2 ea = zi (N 2 0 a = 3) (N 0 2 ea ||| (1 : Int32) <<< (nI n &&& 31)) (N 0 2 ea) := by
  by_cases e : N 2 0 a = 3
  · rw [ane_t e, zi_t e]; simp [u3]
  · rw [ane_f e, zi_f e]; simp [u3]
theorem nIinj {a b : Nat} (ha : a < 2 ^ 31) (hb : b < 2 ^ 31) (h : nI a = nI b) : a = b := by
  have := congrArg tn h
  rw [tn_nI ha, tn_nI hb] at this
  exact this
theorem c_X0_addPiece {E : zE} {T : zT} {N : zN} {P : zP} {I : zI} {R : zR} (ea pa a n : Nat) (he : (T ea).1 = 10) (ha : (T a).1 = 12) (hp : P 0 0 ea = some pa) (h1 : T pa = (32, 12)) (hn : N 0 1 ea = nI n) (hn12 : n < 12) : zC E yX0_addPiece cX0_addPiece 2 none (zr0 0 0) [.ref ea, .ref a] T N P I R (zv T (ane N ea a n) P I (u2 R pa n (some a))) := by
  refine zC.intro (ls := [some (.ref ea), some (.ref a)]) pl_RX0 (zle rfl) 0 rfl (fun K => ?_)
  refine v_aload_1 dX0_addPiece_0 rfl ?_
  refine v_getN fl_0_24 (by assumption) rfl (zle rfl) rfl dX0_addPiece_1 rfl ?_
  refine v_iconst (v := 3) dX0_addPiece_4 rfl rfl ?_
  refine v_icmp_ne (tgt := 23) dX0_addPiece_5 (by decide) rfl (fun c5 => ?_) (fun c5 => ?_)
  · rw [ane_f c5]
    refine v_aload_0 dX0_addPiece_23 rfl ?_
    refine v_getP fl_0_11 (by assumption) (by assumption) rfl (zle rfl) rfl dX0_addPiece_24 rfl ?_
    refine v_aload_0 dX0_addPiece_27 rfl ?_
    refine v_getN fl_0_17 (by assumption) rfl (zle rfl) rfl dX0_addPiece_28 rfl ?_
    refine v_top hn ?_
    refine v_aload_1 dX0_addPiece_31 rfl ?_
    refine v_aast (j := n) ti_2 (F := TX2) rfl (zle rfl) (by assumption) rfl (by omega) (zle rfl) ha dX0_addPiece_32 rfl ?_
    refine v_aload_0 dX0_addPiece_33 rfl ?_
    refine v_dup dX0_addPiece_34 rfl rfl ?_
    refine v_getN fl_0_17 (by assumption) rfl (zle rfl) rfl dX0_addPiece_35 rfl ?_
    refine v_top hn ?_
    refine v_iconst (v := 1) dX0_addPiece_38 rfl rfl ?_
    refine v_iadd dX0_addPiece_39 rfl ?_
    refine v_top (nI_1 n) ?_
    refine v_putN fw_0_17 (by assumption) rfl (zle rfl) rfl (fun h => by cases h) rfl rfl dX0_addPiece_40 rfl ?_
    exact v_return rfl (zv.rf) (zle rfl) (zle rfl) dX0_addPiece_43
  · rw [ane_t c5]
    refine v_aload_0 dX0_addPiece_8 rfl ?_
    refine v_dup dX0_addPiece_9 rfl rfl ?_
    refine v_getN fl_0_21 (by assumption) rfl (zle rfl) rfl dX0_addPiece_10 rfl ?_
    refine v_iconst (v := 1) dX0_addPiece_13 rfl rfl ?_
    refine v_aload_0 dX0_addPiece_14 rfl ?_
    refine v_getN fl_0_17 (by assumption) rfl (zle rfl) rfl dX0_addPiece_15 rfl ?_
    refine v_top hn ?_
    refine v_ishl dX0_addPiece_18 rfl ?_
    refine v_ior dX0_addPiece_19 rfl ?_
    refine v_putN fw_0_21 (by assumption) rfl (zle rfl) rfl (fun h => by cases h) rfl rfl dX0_addPiece_20 rfl ?_
    refine v_aload_0 dX0_addPiece_23 rfl ?_
    refine v_getP fl_0_11 (by assumption) (by assumption) rfl (zle rfl) rfl dX0_addPiece_24 rfl ?_
    refine v_aload_0 dX0_addPiece_27 rfl ?_
    refine v_getN fl_0_17 (by assumption) rfl (zle rfl) rfl dX0_addPiece_28 rfl ?_
    refine v_top hn ?_
    refine v_aload_1 dX0_addPiece_31 rfl ?_
    refine v_aast (j := n) ti_2 (F := TX2) rfl (zle rfl) (by assumption) rfl (by omega) (zle rfl) ha dX0_addPiece_32 rfl ?_
    refine v_aload_0 dX0_addPiece_33 rfl ?_
    refine v_dup dX0_addPiece_34 rfl rfl ?_
    refine v_getN fl_0_17 (by assumption) rfl (zle rfl) rfl dX0_addPiece_35 rfl ?_
    refine v_top hn ?_
    refine v_iconst (v := 1) dX0_addPiece_38 rfl rfl ?_
    refine v_iadd dX0_addPiece_39 rfl ?_
    refine v_top (nI_1 n) ?_
    refine v_putN fw_0_17 (by assumption) rfl (zle rfl) rfl (fun h => by cases h) rfl rfl dX0_addPiece_40 rfl ?_
    exact v_return rfl (zv.rf) (zle rfl) (zle rfl) dX0_addPiece_43
/-- an edition's cells -/
def EdB (T : zT) (N : zN) (P : zP) (R : zR) (ea pa : Nat) (pp : Nat → Nat) (n : Nat) (v : Nat → Nat → Int32) : Prop := (T ea).1 = 10 ∧ P 0 0 ea = some pa ∧ T pa = (32, 12) ∧ N 0 1 ea = nI n ∧ (∀ i, i < n → R pa i = some (pp i) ∧ (T (pp i)).1 = 12 ∧ N 2 0 (pp i) = v i 0 ∧ N 2 1 (pp i) = v i 1 ∧ N 2 2 (pp i) = v i 2 ∧ N 2 3 (pp i) = v i 3 ∧ N 2 4 (pp i) = v i 4) ∧ Nt (N 0 2 ea) 4096 ∧ ∀ i, i < 12 → ((tn (N 0 2 ea)).testBit i = true ↔ i < n ∧ v i 0 = 3)
/-- what reading leaves of the cells that were there -/
def GrQ (q : Nat) (T : zT) (N : zN) (P : zP) (I : zI) (R : zR) (T' : zT) (N' : zN) (P' : zP) (I' : zI) (R' : zR) : Prop := I' = I ∧ (∀ a, (T a).1 ≠ 0 → T' a = T a ∧ (∀ c k, c ≠ 3 ∨ a ≠ q → N' c k a = N c k a) ∧ (∀ c k, P' c k a = P c k a) ∧ R' a = R a) ∧ (∀ c, c ≠ 0 → c ≠ 2 → c ≠ 3 → N' c = N c) ∧ (∀ c, c ≠ 0 → c ≠ 2 → P' c = P c) ∧ N' 3 1 q = N 3 1 q
theorem GrQ.tr {q : Nat} {T : zT} {N : zN} {P : zP} {I : zI} {R : zR} {T1 : zT} {N1 : zN} {P1 : zP} {I1 : zI} {R1 : zR} {T2 : zT} {N2 : zN} {P2 : zP} {I2 : zI} {R2 : zR} (h : GrQ q T N P I R T1 N1 P1 I1 R1) (g : GrQ q T1 N1 P1 I1 R1 T2 N2 P2 I2 R2) : GrQ q T N P I R T2 N2 P2 I2 R2 := by
  obtain ⟨h1, h2, h3, h4, h5⟩ := h
  obtain ⟨g1, g2, g3, g4, g5⟩ := g
  refine ⟨g1.trans h1, fun a ha => ?_, fun c a1 a2 a3 => (g3 c a1 a2 a3).trans (h3 c a1 a2 a3), fun c a1 a2 => (g4 c a1 a2).trans (h4 c a1 a2), g5.trans h5⟩
  obtain ⟨p1, p2, p3, p4⟩ := h2 a ha
  obtain ⟨q1, q2, q3, q4⟩ := g2 a (by rw [p1]; exact ha)
  exact ⟨q1.trans p1, fun c k h => (q2 c k h).trans (p2 c k h), fun c k => (q3 c k).trans (p3 c k), q4.trans p4⟩
theorem tpR.mv {T : zT} {N : zN} {P : zP} {I : zI} {R : zR} {T' : zT} {N' : zN} {P' : zP} {I' : zI} {R' : zR} {tp tb L q : Nat} {b : Nat → Int32} (h : tpR T N P I tp tb L b) (g : GrQ q T N P I R T' N' P' I' R') : tpR T' N' P' I' tp tb L b := by
  obtain ⟨h1, h2, h3, h4, h5, h6⟩ := h
  obtain ⟨g1, g2, g3, g4, g5⟩ := g
  have t1 := g2 tp (by rw [h1]; decide)
  have t2 := g2 tb (by rw [h3]; decide)
  exact ⟨by rw [t1.1]; exact h1, by rw [t1.2.2.1]; exact h2, by rw [t2.1]; exact h3, by rw [g3 6 (by decide) (by decide) (by decide)]; exact h4, h5, by rw [g1]; exact h6⟩
theorem nI_sh12 : ∀ n, n < 12 → (1 : Int32) <<< (nI n &&& 31) = nI (2 ^ n) := by decide +kernel
/-- one piece more: it was made at a, and is added -/
theorem EdB.add {T : zT} {N : zN} {P : zP} {R : zR} {ea pa : Nat} {pp : Nat → Nat} {n : Nat} {v : Nat → Nat → Int32} (h : EdB T N P R ea pa pp n v) (hn : n < 12) {a q : Nat} {x : Int32} (ha : (T a).1 = 0) : EdB (u1 T a (12, 0)) (ane (NPv (u3 N 3 2 q x) a (v n 0) (v n 1) (v n 2) (v n 3) (v n 4)) ea a n) (uo P 2 a none) (u2 R pa n (some a)) ea pa (u1 pp n a) (n + 1) v := by
  obtain ⟨h1, h2, h3, h4, h5, h6, h7⟩ := h
  have nea : ea ≠ a := fr_ne ha h1 (by decide)
  have npa : pa ≠ a := fun e => by rw [e] at h3; rw [h3] at ha; cases ha
  have z2 : ∀ k y, ane (NPv (u3 N 3 2 q x) a (v n 0) (v n 1) (v n 2) (v n 3) (v n 4)) ea a n 2 k y = NPv (u3 N 3 2 q x) a (v n 0) (v n 1) (v n 2) (v n 3) (v n 4) 2 k y := fun k y => ane_o (Or.inl (by decide))
  have e20 : NPv (u3 N 3 2 q x) a (v n 0) (v n 1) (v n 2) (v n 3) (v n 4) 2 0 a = v n 0 := by simp [u3]
  have e02 : NPv (u3 N 3 2 q x) a (v n 0) (v n 1) (v n 2) (v n 3) (v n 4) 0 2 ea = N 0 2 ea := by simp [u3, uo]
  refine ⟨by rw [u1_na nea]; exact h1, by simp [uo]; exact h2, by rw [u1_na npa]; exact h3, ane_1, fun i hi => ?_, ?_⟩
  · simp only [z2]
    by_cases hin : i = n
    · subst hin
      rw [u2_self, u1_self, u1_self]
      exact ⟨rfl, rfl, e20, by simp [u3], by simp [u3], by simp [u3], by simp [u3]⟩
    · obtain ⟨g1, g2, g3, g4, g5, g6, g7⟩ := h5 i (by omega)
      have np : pp i ≠ a := fr_ne ha g2 (by decide)
      rw [u2_ni hin, u1_na hin, u1_na np]
      exact ⟨g1, g2, by simp [u3, uo, np]; exact g3, by simp [u3, uo, np]; exact g4, by simp [u3, uo, np]; exact g5, by simp [u3, uo, np]; exact g6, by simp [u3, uo, np]; exact g7⟩
  · have h62 := h6.2
    have hpw : (2 : Nat) ^ n < 2 ^ 12 := Nat.pow_lt_pow_right (by decide) hn
    have ho : tn (N 0 2 ea) ||| 2 ^ n < 2 ^ 12 := Nat.or_lt_two_pow (by omega) hpw
    rw [ane_2, e20, e02]
    by_cases e3 : v n 0 = 3
    · rw [zi_t e3, nI_sh12 n hn, h6.1, nI_or (by omega) (by omega)]
      refine ⟨Nt.of_nI (by omega) (by omega), fun i hi => ?_⟩
      rw [tn_nI (by omega), Nat.testBit_or, Nat.testBit_two_pow]
      have h7i := h7 i hi
      by_cases hin : i = n
      · subst hin
        simp [e3]
      · have hni : ¬ n = i := fun e => hin e.symm
        simp only [hni, decide_false, Bool.or_false]
        rw [h7i]
        constructor
        · rintro ⟨a1, a2⟩; exact ⟨by omega, a2⟩
        · rintro ⟨a1, a2⟩; exact ⟨by omega, a2⟩
    · rw [zi_f e3]
      refine ⟨h6, fun i hi => ?_⟩
      rw [h7 i hi]
      constructor
      · rintro ⟨a1, a2⟩; exact ⟨by omega, a2⟩
      · rintro ⟨a1, a2⟩
        refine ⟨?_, a2⟩
        rcases (show i < n ∨ i = n by omega) with k | k
        · exact k
        · subst k; exact absurd a2 e3
theorem GrQ.add {T : zT} {N : zN} {P : zP} {I : zI} {R : zR} {ea pa a q n : Nat} {x x0 x1 x2 x3 x4 : Int32} {T0 : zT} {N0 : zN} {P0 : zP} {I0 : zI} {R0 : zR} (g : GrQ q T0 N0 P0 I0 R0 T N P I R) (ha : (T a).1 = 0) (hea : (T0 ea).1 = 0) (hpa : (T0 pa).1 = 0) : GrQ q T0 N0 P0 I0 R0 (u1 T a (12, 0)) (ane (NPv (u3 N 3 2 q x) a x0 x1 x2 x3 x4) ea a n) (uo P 2 a none) I (u2 R pa n (some a)) := by
  obtain ⟨g1, g2, g3, g4, g5⟩ := g
  refine ⟨g1, fun y hy => ?_, fun c a1 a2 a3 => ?_, fun c a1 a2 => ?_, ?_⟩
  · obtain ⟨p1, p2, p3, p4⟩ := g2 y hy
    have hya : y ≠ a := fun e => by rw [e] at p1 hy; rw [p1] at ha; exact hy ha
    have hye : y ≠ ea := fun e => hy (by rw [e]; exact hea)
    have hyp : y ≠ pa := fun e => hy (by rw [e]; exact hpa)
    refine ⟨by rw [u1_na hya]; exact p1, fun c k hc => ?_, fun c k => ?_, by rw [u2_off _ _ hyp]; exact p4⟩
    · rw [ane_o (Or.inr hye), ← p2 c k hc]
      rcases hc with hc | hc <;> simp [u3, uo, hya, hc]
    · rw [← p3 c k]; simp [uo, hya]
  · rw [← g3 c a1 a2 a3]
    funext k y
    rw [ane_o (Or.inl a1)]
    simp [u3, uo, a2, a3]
  · rw [← g4 c a1 a2]
    funext k y
    simp [uo, a2]
  · rw [ane_o (Or.inl (by decide)), ← g5]
    simp [u3, uo]
def reQ (q : Nat) (b : Nat → Int32) (nc L : Nat) (T : zT) (N : zN) (P : zP) (I : zI) (R : zR) : Option Value → zT → zN → zP → zI → zR → Prop := fun v T' N' P' I' R' => GrQ q T N P I R T' N' P' I' R' ∧ N' 3 2 q = nI (sto b nc L 12 0).2 ∧ (((sto b nc L 12 0).1 = 0 ∧ v = some .null) ∨ (¬ (sto b nc L 12 0).1 = 0 ∧ (sto b nc L 12 0).1 ≤ 12 ∧ ∃ ea pa pp, v = some (.ref ea) ∧ EdB T' N' P' R' ea pa pp (sto b nc L 12 0).1 (fun i => pv b (plc b nc i))))
theorem lp_X3_readEdition {E : zE} {T : zT} {N : zN} {P : zP} {I : zI} {R : zR} {q tp tb L : Nat} {b : Nat → Int32} {nc ea pa : Nat} {K : zK E yX3_readEdition cX3_readEdition 4 (some (.object "WalkTeller$Edition")) (zrm 6 132 14 75)} (hq : (T q).1 = 13) (h0 : P 3 0 q = some tp) (h1 : N 3 1 q = nI nc) (hnc : nc ≤ 8) (hR : tpR T N P I tp tb L b) (hBt : ∀ p, Bt (b p)) (hL : ∀ p, rpg b nc p → rpe b nc p ≤ L) (hea : (T ea).1 = 0) (hpa : (T pa).1 = 0) :
    ∀ k n (T1 : zT) (N1 : zN) (P1 : zP) (R1 : zR) (pp : Nat → Nat) (o3 : Option Value), n + k = 12 → sto b nc L 12 0 = sto b nc L k n → GrQ q T N P I R T1 N1 P1 I R1 → N1 3 2 q = nI (plc b nc n) → EdB T1 N1 P1 R1 ea pa pp n (fun i => pv b (plc b nc i)) → V K (zQf K (reQ q b nc L T N P I R)) T1 N1 P1 I R1 (2 + n) (15 + 5 * n) 10 [some (.ref q), some (.ref ea), some (.int (nI n)), o3] [] := by
  intro k
  induction k with
  | zero =>
    intro n T1 N1 P1 R1 pp o3 hn hs hG hp hE
    obtain rfl : n = 12 := by omega
    refine v_iload_2 dX3_readEdition_10 rfl ?_
    refine v_bipush (v := 12) dX3_readEdition_11 rfl rfl ?_
    refine v_icmp_ge_t (n := 54) (by decide) dX3_readEdition_13 (by decide) ?_
    refine v_null dX3_readEdition_54 rfl ?_
    exact v_areturn rfl (Or.inl ⟨_, rfl⟩) (Or.inl rfl) (⟨hG, by rw [hs]; exact hp, Or.inl ⟨by rw [hs]; rfl, rfl⟩⟩) (zle rfl) (zle rfl) dX3_readEdition_55
  | succ k ih =>
    intro n T1 N1 P1 R1 pp o3 hn hs hG hp hE
    have hpb := plc_b b nc n
    have hR1 := hR.mv hG
    have hq1 : (T1 q).1 = 13 := by rw [(hG.2.1 q (by rw [hq]; decide)).1]; exact hq
    have h01 : P1 3 0 q = some tp := by rw [hG.2.2.2.1 3 (by decide) (by decide)]; exact h0
    have h11 : N1 3 1 q = nI nc := hG.2.2.2.2.trans h1
    refine v_iload_2 dX3_readEdition_10 rfl ?_
    refine v_bipush (v := 12) dX3_readEdition_11 rfl rfl ?_
    refine v_icmp_ge_f (tgt := 54) (nI_ge (a := n) (b := 12) (by omega) (by decide)) dX3_readEdition_13 (by decide) rfl ?_
    refine v_aload_0 dX3_readEdition_16 rfl ?_
    refine v_callV (ci := 3) (F := TX3) (c_X3_readPiece (N := N1) q tp tb L b nc (plc b nc n) hq1 h01 h11 hnc hR1 hBt (by omega) hp) yy_X3_readPiece im_X3_readPiece se_X3_readPiece lk_3_25 hq1 (zle rfl) rfl (zle rfl) (zle rfl) (by show 2 + n + 1 ≤ 14; omega) (by show 15 + 5 * n + 5 ≤ 75; omega) rfl rfl (zle rfl) dX3_readEdition_17 rfl (fun v1 T2 N2 P2 I2 R2 hq2 => ?_)
    obtain ⟨rfl, rfl, hq2⟩ := hq2
    rcases hq2 with ⟨gg, rfl, rfl, rfl, rfl⟩ | ⟨gg, a, ha, rfl, rfl, rfl, rfl⟩
    · refine v_astoreN_3 dX3_readEdition_20 rfl (zle rfl) rfl ?_
      refine v_aloadN_3 dX3_readEdition_21 rfl ?_
      refine v_ifnonnullN dX3_readEdition_22 rfl ?_
      refine v_null dX3_readEdition_25 rfl ?_
      have hq : reQ q b nc L T N P I R (some .null) T1 (u3 N1 3 2 q (nI (rpe b nc (plc b nc n)))) P1 I R1 := by
        refine ⟨⟨rfl, fun a ha => ?_, fun c a1 a2 a3 => ?_, hG.2.2.2.1, ?_⟩, by rw [hs, sto_f gg]; exact u3_self, Or.inl ⟨by rw [hs, sto_f gg], rfl⟩⟩
        · obtain ⟨p1, p2, p3, p4⟩ := hG.2.1 a ha
          exact ⟨p1, fun c k hc => by rw [← p2 c k hc]; rcases hc with hc | hc <;> simp [u3, hc], p3, p4⟩
        · rw [← hG.2.2.1 c a1 a2 a3]; funext k y; simp [u3, a3]
        · rw [← hG.2.2.2.2]; simp [u3]
      exact v_areturn rfl (Or.inl ⟨_, rfl⟩) (Or.inl rfl) (hq) (by show 2 + n + 1 ≤ 14; omega) (by show 15 + 5 * n + 5 ≤ 75; omega) dX3_readEdition_26
    · refine v_astore_3 dX3_readEdition_20 rfl (zle rfl) rfl ?_
      refine v_aload_3 dX3_readEdition_21 rfl ?_
      refine v_ifnonnull (n := 27) dX3_readEdition_22 (by decide) ?_
      refine v_aload_1 dX3_readEdition_27 rfl ?_
      refine v_aload_3 dX3_readEdition_28 rfl ?_
      have ha2 : (u1 T1 a (12, 0) a).1 = 12 := by rw [u1_self]
      have nea : ea ≠ a := fr_ne ha hE.1 (by decide)
      have npa : pa ≠ a := fun e => by have h3 := hE.2.2.1; rw [e] at h3; rw [h3] at ha; cases ha
      have hea2 : (u1 T1 a (12, 0) ea).1 = 10 := by rw [u1_na nea]; exact hE.1
      refine v_callV (ci := 0) (F := TX0) (c_X0_addPiece (N := NPv (u3 N1 3 2 q (nI (rpe b nc (plc b nc n)))) a (pv b (plc b nc n) 0) (pv b (plc b nc n) 1) (pv b (plc b nc n) 2) (pv b (plc b nc n) 3) (pv b (plc b nc n) 4)) (P := uo P1 2 a none) ea pa a n hea2 ha2 hE.2.1 (by rw [u1_na npa]; exact hE.2.2.1) hE.2.2.2.1 (by omega)) yy_X0_addPiece im_X0_addPiece se_X0_addPiece lk_3_29 hea2 (zle rfl) rfl (zle rfl) (zle rfl) (by show 2 + n + 1 + 0 ≤ 14; omega) (by show 15 + 5 * n + 5 + 0 ≤ 75; omega) rfl rfl (zle rfl) dX3_readEdition_29 rfl (zv.use ?_)
      have hE2 := hE.add (v := (fun i => pv b (plc b nc i))) (q := q) (x := nI (rpe b nc (plc b nc n))) (by omega) ha
      have hG2 := hG.add (n := n) (x := nI (rpe b nc (plc b nc n))) (x0 := pv b (plc b nc n) 0) (x1 := pv b (plc b nc n) 1) (x2 := pv b (plc b nc n) 2) (x3 := pv b (plc b nc n) 3) (x4 := pv b (plc b nc n) 4) ha hea hpa
      refine v_abs (fun T2 N2 P2 I2 R2 => I = I2 ∧ GrQ q T N P I R T2 N2 P2 I R2 ∧ N2 3 2 q = nI (plc b nc (n + 1)) ∧ EdB T2 N2 P2 R2 ea pa (u1 pp n a) (n + 1) (fun i => pv b (plc b nc i))) ⟨rfl, hG2, ?_, hE2⟩ (fun T2 N2 P2 I2 R2 hF => ?_)
      · rw [ane_o (Or.inl (by decide))]
        simp [u3, uo, plc]
      obtain ⟨rfl, f1, f2, f3⟩ := hF
      have hq2 : (T2 q).1 = 13 := by rw [(f1.2.1 q (by rw [hq]; decide)).1]; exact hq
      have h02 : P2 3 0 q = some tp := by rw [f1.2.2.2.1 3 (by decide) (by decide)]; exact h0
      have hR2 := hR.mv f1
      have hle : plc b nc (n + 1) ≤ L := hL _ gg
      have hL2 := hR2.2.2.2.2.1
      have ekc : 2 + n + 1 + 0 = 2 + (n + 1) ∧ 15 + 5 * n + 5 + 0 = 15 + 5 * (n + 1) := ⟨by omega, by omega⟩
      refine v_aload_0 dX3_readEdition_32 rfl ?_
      refine v_getN fl_3_9 hq2 rfl (zle rfl) rfl dX3_readEdition_33 rfl ?_
      refine v_top f2 ?_
      refine v_aload_0 dX3_readEdition_36 rfl ?_
      refine v_getP fl_3_15 h02 hq2 rfl (zle rfl) rfl dX3_readEdition_37 rfl ?_
      refine v_getN fl_3_33 hR2.1 rfl (zle rfl) rfl dX3_readEdition_40 rfl ?_
      refine v_top hR2.2.2.2.1 ?_
      by_cases he : plc b nc (n + 1) = L
      · refine v_icmp_ne_f (tgt := 48) (by rw [he]) dX3_readEdition_43 (by decide) rfl ?_
        refine v_aload_1 dX3_readEdition_46 rfl ?_
        exact v_areturn rfl (Or.inl ⟨_, rfl⟩) (Or.inr ⟨_, rfl⟩) (⟨f1, by rw [hs, sto_e gg he]; exact f2.trans (by rw [he]), Or.inr ⟨by rw [hs, sto_e gg he]; exact Nat.succ_ne_zero n, by rw [hs, sto_e gg he]; show n + 1 ≤ 12; omega, ea, pa, u1 pp n a, rfl, by rw [hs, sto_e gg he]; exact f3⟩⟩) (by show 2 + n + 1 + 0 ≤ 14; omega) (by show 15 + 5 * n + 5 + 0 ≤ 75; omega) dX3_readEdition_47
      · refine v_icmp_ne_t (n := 48) (fun h => he (nIinj (by omega) (by omega) h)) dX3_readEdition_43 (by decide) ?_
        refine v_iinc_2 dX3_readEdition_48 (nI_1 n) rfl (zle rfl) rfl ?_
        refine v_goto (n := 10) dX3_readEdition_51 (by decide) ?_
        exact ih (n + 1) T2 N2 P2 R2 (u1 pp n a) _ (by omega) (hs.trans (sto_n gg he)) f1 f2 f3
theorem c_X3_readEdition {E : zE} {T : zT} {N : zN} {P : zP} {I : zI} {R : zR} (q tp tb L : Nat) (b : Nat → Int32) (nc : Nat)  (hq : (T q).1 = 13) (h0 : P 3 0 q = some tp) (h1 : N 3 1 q = nI nc) (hnc : nc ≤ 8) (hR : tpR T N P I tp tb L b) (hBt : ∀ p, Bt (b p)) (hL : ∀ p, rpg b nc p → rpe b nc p ≤ L) (hp : N 3 2 q = nI 0) : zC E yX3_readEdition cX3_readEdition 4 (some (.object "WalkTeller$Edition")) (zrm 6 132 14 75) [.ref q] T N P I R (reQ q b nc L T N P I R) := by
  refine zC.intro (ls := [some (.ref q), none, none, none]) pl_RX3 (zle rfl) 3 rfl (fun K => ?_)
  refine v_new (ci := 0) rfl (zle rfl) cl_0 tyX0_ok dv_0 kl_3_22 it_0 ii_0 (zle rfl) (zle rfl) dX3_readEdition_0 rfl (fun q0 hq0 => ?_)
  refine v_dup dX3_readEdition_3 rfl rfl ?_
  have he0 : (u1 T q0 (10, 0) q0).1 = 10 := by rw [u1_self]
  refine v_callI (c_X0_init q0 he0) yy_X0_init im_X0_init rfl lk_3_24 (zle rfl) (zle rfl) (zle rfl) (zle rfl) rfl rfl (zle rfl) dX3_readEdition_4 rfl (fun v1 T1 N1 P1 I1 R1 hi => ?_)
  obtain ⟨rfl, pa, hpa, rfl, rfl, rfl, rfl, rfl⟩ := hi
  have hpa0 : (T pa).1 = 0 := by
    have n1 : pa ≠ q0 := fun e => by rw [e, u1_self] at hpa; exact absurd hpa (by decide)
    rw [u1_na n1] at hpa; exact hpa
  refine v_astore_1 dX3_readEdition_7 rfl (zle rfl) rfl ?_
  refine v_iconst (v := 0) dX3_readEdition_8 rfl rfl ?_
  refine v_istore_2 dX3_readEdition_9 rfl (zle rfl) rfl ?_
  refine v_abs (fun T2 N2 P2 I2 R2 => I = I2 ∧ GrQ q T N P I R T2 N2 P2 I R2 ∧ N2 3 2 q = nI (plc b nc 0) ∧ EdB T2 N2 P2 R2 q0 pa (fun _ => 0) 0 (fun i => pv b (plc b nc i))) ⟨rfl, ?_, ?_, ?_⟩ (fun T2 N2 P2 I2 R2 hF => ?_)
  · refine ⟨rfl, fun a ha => ?_, fun c a1 a2 a3 => ?_, fun c a1 a2 => ?_, ?_⟩
    · have n1 : a ≠ q0 := fun e => ha (by rw [e]; exact hq0)
      have n2 : a ≠ pa := fun e => ha (by rw [e]; exact hpa0)
      exact ⟨by rw [u1_na n2, u1_na n1], fun c k _ => by simp [u3, uo, n1], fun c k => by simp [u3, uo, n1], by rw [u1_na n2]⟩
    · funext k y; simp [u3, uo, a1]
    · funext k y; simp [u3, uo, a1]
    · simp [u3, uo]
  · simp [u3, uo]; exact hp
  · have n1 : q0 ≠ pa := fun e => by rw [← e, u1_self] at hpa; exact absurd hpa (by decide)
    exact ⟨by rw [u1_na n1, u1_self], u3_self, u1_self, by simp [u3]; rfl, fun i hi => absurd hi (by omega), by rw [u3_self]; exact Nt.of_nI (k := 0) (by decide) (by decide), fun i hi => by rw [u3_self, show tn 0 = 0 from rfl, Nat.zero_testBit]; exact ⟨fun h => absurd h (by decide), fun h => absurd h.1 (by omega)⟩⟩
  obtain ⟨rfl, f1, f2, f3⟩ := hF
  exact lp_X3_readEdition hq h0 h1 hnc hR hBt hL hq0 hpa0 12 0 T2 N2 P2 R2 (fun _ => 0) _ rfl rfl f1 f2 f3
