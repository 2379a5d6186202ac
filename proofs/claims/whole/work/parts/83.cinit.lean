/-- all cells but one stay as they were -/
def GrX (x : Nat) (T : zT) (N : zN) (P : zP) (I : zI) (R : zR) (T' : zT) (N' : zN) (P' : zP) (I' : zI) (R' : zR) : Prop := T' x = T x ∧ ∀ a, a ≠ x → (T a).1 ≠ 0 → T' a = T a ∧ (∀ c k, N' c k a = N c k a) ∧ (∀ c k, P' c k a = P c k a) ∧ I' a = I a ∧ R' a = R a
theorem GrX.rf {T : zT} {N : zN} {P : zP} {I : zI} {R : zR} {x : Nat} : GrX x T N P I R T N P I R := ⟨rfl, fun _ _ _ => ⟨rfl, fun _ _ => rfl, fun _ _ => rfl, rfl, rfl⟩⟩
theorem GrX.tr {T : zT} {N : zN} {P : zP} {I : zI} {R : zR} {T1 : zT} {N1 : zN} {P1 : zP} {I1 : zI} {R1 : zR} {T2 : zT} {N2 : zN} {P2 : zP} {I2 : zI} {R2 : zR} {x : Nat} (h : GrX x T N P I R T1 N1 P1 I1 R1) (g : GrX x T1 N1 P1 I1 R1 T2 N2 P2 I2 R2) : GrX x T N P I R T2 N2 P2 I2 R2 := ⟨g.1.trans h.1, fun a ha hT => by
  obtain ⟨p1, p2, p3, p4, p5⟩ := h.2 a ha hT
  obtain ⟨q1, q2, q3, q4, q5⟩ := g.2 a ha (by rw [p1]; exact hT)
  exact ⟨q1.trans p1, fun c k => (q2 c k).trans (p2 c k), fun c k => (q3 c k).trans (p3 c k), q4.trans p4, q5.trans p5⟩⟩
/-- the same, seen from a cell that was not there -/
theorem GrX.ot {T : zT} {N : zN} {P : zP} {I : zI} {R : zR} {T1 : zT} {N1 : zN} {P1 : zP} {I1 : zI} {R1 : zR} {T2 : zT} {N2 : zN} {P2 : zP} {I2 : zI} {R2 : zR} {x y : Nat} (h : GrX x T N P I R T1 N1 P1 I1 R1) (hy : (T y).1 = 0) (hxy : x ≠ y) (g : GrX y T1 N1 P1 I1 R1 T2 N2 P2 I2 R2) (hx : (T1 x).1 ≠ 0) : GrX x T N P I R T2 N2 P2 I2 R2 := ⟨((g.2 x hxy hx).1).trans h.1, fun a ha hT => by
  obtain ⟨p1, p2, p3, p4, p5⟩ := h.2 a ha hT
  have hay : a ≠ y := fun e => hT (by rw [e]; exact hy)
  obtain ⟨q1, q2, q3, q4, q5⟩ := g.2 a hay (by rw [p1]; exact hT)
  exact ⟨q1.trans p1, fun c k => (q2 c k).trans (p2 c k), fun c k => (q3 c k).trans (p3 c k), q4.trans p4, q5.trans p5⟩⟩
theorem GrX.n {T : zT} {N : zN} {P : zP} {I : zI} {R : zR} {T1 : zT} {N1 : zN} {P1 : zP} {I1 : zI} {R1 : zR} {x : Nat} (h : GrX x T N P I R T1 N1 P1 I1 R1) (c k : Nat) (v : Int32) : GrX x T N P I R T1 (u3 N1 c k x v) P1 I1 R1 := ⟨h.1, fun a ha hT => by
  obtain ⟨p1, p2, p3, p4, p5⟩ := h.2 a ha hT
  exact ⟨p1, fun c' k' => by rw [u3_na ha]; exact p2 c' k', p3, p4, p5⟩⟩
theorem GrX.p {T : zT} {N : zN} {P : zP} {I : zI} {R : zR} {T1 : zT} {N1 : zN} {P1 : zP} {I1 : zI} {R1 : zR} {x : Nat} (h : GrX x T N P I R T1 N1 P1 I1 R1) (c k : Nat) (v : Option Nat) : GrX x T N P I R T1 N1 (u3 P1 c k x v) I1 R1 := ⟨h.1, fun a ha hT => by
  obtain ⟨p1, p2, p3, p4, p5⟩ := h.2 a ha hT
  exact ⟨p1, p2, fun c' k' => by rw [u3_na ha]; exact p3 c' k', p4, p5⟩⟩
theorem GrX.fr {T : zT} {N : zN} {P : zP} {I : zI} {R : zR} {T1 : zT} {N1 : zN} {P1 : zP} {I1 : zI} {R1 : zR} {x q : Nat} (h : GrX x T N P I R T1 N1 P1 I1 R1) (hq : (T1 q).1 = 0) : ∀ a, a ≠ x → (T a).1 ≠ 0 → a ≠ q := fun a ha hT e => by
  have := (h.2 a ha hT).1
  rw [e] at this hT
  rw [this] at hq
  exact hT hq
theorem GrX.a {T : zT} {N : zN} {P : zP} {I : zI} {R : zR} {T1 : zT} {N1 : zN} {P1 : zP} {I1 : zI} {R1 : zR} {x q : Nat} (h : GrX x T N P I R T1 N1 P1 I1 R1) (hq : (T1 q).1 = 0) (hx : (T1 x).1 ≠ 0) (w : Nat × Nat) (v : Nat → Int32) : GrX x T N P I R (u1 T1 q w) N1 P1 (u1 I1 q v) R1 := ⟨by rw [u1_na (fun e => hx (by rw [e]; exact hq))]; exact h.1, fun a ha hT => by
  obtain ⟨p1, p2, p3, p4, p5⟩ := h.2 a ha hT
  have hn := h.fr hq a ha hT
  exact ⟨by rw [u1_na hn]; exact p1, p2, p3, by rw [u1_na hn]; exact p4, p5⟩⟩
theorem GrX.r {T : zT} {N : zN} {P : zP} {I : zI} {R : zR} {T1 : zT} {N1 : zN} {P1 : zP} {I1 : zI} {R1 : zR} {x q : Nat} (h : GrX x T N P I R T1 N1 P1 I1 R1) (hq : (T1 q).1 = 0) (hx : (T1 x).1 ≠ 0) (w : Nat × Nat) (v : Nat → Option Nat) : GrX x T N P I R (u1 T1 q w) N1 P1 I1 (u1 R1 q v) := ⟨by rw [u1_na (fun e => hx (by rw [e]; exact hq))]; exact h.1, fun a ha hT => by
  obtain ⟨p1, p2, p3, p4, p5⟩ := h.2 a ha hT
  have hn := h.fr hq a ha hT
  exact ⟨by rw [u1_na hn]; exact p1, p2, p3, p4, by rw [u1_na hn]; exact p5⟩⟩
theorem GrX.o {T : zT} {N : zN} {P : zP} {I : zI} {R : zR} {T1 : zT} {N1 : zN} {P1 : zP} {I1 : zI} {R1 : zR} {x q : Nat} (h : GrX x T N P I R T1 N1 P1 I1 R1) (hq : (T1 q).1 = 0) (hx : (T1 x).1 ≠ 0) (w : Nat × Nat) (ci : Nat) : GrX x T N P I R (u1 T1 q w) (uo N1 ci q 0) (uo P1 ci q none) I1 R1 := ⟨by rw [u1_na (fun e => hx (by rw [e]; exact hq))]; exact h.1, fun a ha hT => by
  obtain ⟨p1, p2, p3, p4, p5⟩ := h.2 a ha hT
  have hn := h.fr hq a ha hT
  exact ⟨by rw [u1_na hn]; exact p1, fun c k => by rw [← p2 c k]; simp [uo, hn], fun c k => by rw [← p3 c k]; simp [uo, hn], p4, p5⟩⟩
def TwO (T : zT) (N : zN) (P : zP) (t xs ys wa : Nat) : Prop := (T t).1 = 17 ∧ P 7 0 t = some xs ∧ P 7 1 t = some ys ∧ P 7 2 t = some wa ∧ T xs = (1, 8) ∧ T ys = (1, 8) ∧ T wa = (39, 14) ∧ N 7 3 t = 0 ∧ N 7 4 t = 0
def TpO (T : zT) (N : zN) (P : zP) (t ba : Nat) : Prop := (T t).1 = 16 ∧ P 6 0 t = some ba ∧ T ba = (3, 200) ∧ N 6 1 t = 0
def NtO (T : zT) (P : zP) (n sa na : Nat) : Prop := (T n).1 = 11 ∧ P 1 0 n = some sa ∧ P 1 1 n = some na ∧ T sa = (1, 64) ∧ T na = (1, 8)
def SrO (T : zT) (P : zP) (sx n sa na da ra ta e : Nat) : Prop := (T sx).1 = 14 ∧ P 4 0 sx = some n ∧ NtO T P n sa na ∧ P 4 1 sx = some da ∧ T da = (1, 8) ∧ P 4 2 sx = some ra ∧ T ra = (1, 1) ∧ P 4 3 sx = some ta ∧ T ta = (1, 8) ∧ P 4 4 sx = some e ∧ (T e).1 = 10
theorem TwO.g {T : zT} {N : zN} {P : zP} {I : zI} {R : zR} {T1 : zT} {N1 : zN} {P1 : zP} {I1 : zI} {R1 : zR} {x t xs ys wa : Nat} (h : TwO T N P t xs ys wa) (g : GrX x T N P I R T1 N1 P1 I1 R1) (hx : (T x).1 = 20 ∨ (T x).1 = 14) : TwO T1 N1 P1 t xs ys wa := by
  obtain ⟨h1, h2, h3, h4, h5, h6, h7, h8, h9⟩ := h
  have nx : ∀ {a k}, (T a).1 = k → k ≠ 20 → k ≠ 14 → a ≠ x := fun e n1 n2 q => by rw [q] at e; rcases hx with z | z <;> rw [z] at e <;> omega
  have e1 := g.2 t (nx h1 (by decide) (by decide)) (by rw [h1]; decide)
  have e2 := g.2 xs (nx (k := 1) (by rw [h5]) (by decide) (by decide)) (by rw [h5]; decide)
  have e3 := g.2 ys (nx (k := 1) (by rw [h6]) (by decide) (by decide)) (by rw [h6]; decide)
  have e4 := g.2 wa (nx (k := 39) (by rw [h7]) (by decide) (by decide)) (by rw [h7]; decide)
  exact ⟨by rw [e1.1]; exact h1, by rw [e1.2.2.1]; exact h2, by rw [e1.2.2.1]; exact h3, by rw [e1.2.2.1]; exact h4, by rw [e2.1]; exact h5, by rw [e3.1]; exact h6, by rw [e4.1]; exact h7, by rw [e1.2.1]; exact h8, by rw [e1.2.1]; exact h9⟩
theorem TpO.g {T : zT} {N : zN} {P : zP} {I : zI} {R : zR} {T1 : zT} {N1 : zN} {P1 : zP} {I1 : zI} {R1 : zR} {x t ba : Nat} (h : TpO T N P t ba) (g : GrX x T N P I R T1 N1 P1 I1 R1) (hx : (T x).1 = 20 ∨ (T x).1 = 14) : TpO T1 N1 P1 t ba := by
  obtain ⟨h1, h2, h3, h4⟩ := h
  have nx : ∀ {a k}, (T a).1 = k → k ≠ 20 → k ≠ 14 → a ≠ x := fun e n1 n2 q => by rw [q] at e; rcases hx with z | z <;> rw [z] at e <;> omega
  have e1 := g.2 t (nx h1 (by decide) (by decide)) (by rw [h1]; decide)
  have e2 := g.2 ba (nx (k := 3) (by rw [h3]) (by decide) (by decide)) (by rw [h3]; decide)
  exact ⟨by rw [e1.1]; exact h1, by rw [e1.2.2.1]; exact h2, by rw [e2.1]; exact h3, by rw [e1.2.1]; exact h4⟩
theorem NtO.g {T : zT} {N : zN} {P : zP} {I : zI} {R : zR} {T1 : zT} {N1 : zN} {P1 : zP} {I1 : zI} {R1 : zR} {x n sa na : Nat} (h : NtO T P n sa na) (g : GrX x T N P I R T1 N1 P1 I1 R1) (hx : (T x).1 = 20 ∨ (T x).1 = 14) : NtO T1 P1 n sa na := by
  obtain ⟨h1, h2, h3, h4, h5⟩ := h
  have nx : ∀ {a k}, (T a).1 = k → k ≠ 20 → k ≠ 14 → a ≠ x := fun e n1 n2 q => by rw [q] at e; rcases hx with z | z <;> rw [z] at e <;> omega
  have e1 := g.2 n (nx h1 (by decide) (by decide)) (by rw [h1]; decide)
  have e2 := g.2 sa (nx (k := 1) (by rw [h4]) (by decide) (by decide)) (by rw [h4]; decide)
  have e3 := g.2 na (nx (k := 1) (by rw [h5]) (by decide) (by decide)) (by rw [h5]; decide)
  exact ⟨by rw [e1.1]; exact h1, by rw [e1.2.2.1]; exact h2, by rw [e1.2.2.1]; exact h3, by rw [e2.1]; exact h4, by rw [e3.1]; exact h5⟩
theorem c_X7_init {E : zE} {T : zT} {N : zN} {P : zP} {I : zI} {R : zR} (t : Nat) (ht : (T t).1 = 17) : zC E yX7_init cX7_init 1 none (zrm 1 20 3 30) [.ref t] T N P I R (fun v T' N' P' I' R' => v = none ∧ GrX t T N P I R T' N' P' I' R' ∧ ∃ xs ys wa, TwO T' N' P' t xs ys wa ∧ (T xs).1 = 0 ∧ (T ys).1 = 0 ∧ xs ≠ ys) := by
  refine zC.intro (ls := [some (.ref t)]) pl_RX7 (zle rfl) 0 rfl (fun K => ?_)
  refine v_aload_0 dX7_init_0 rfl ?_
  refine v_objInit lk_7_3 im_obj cd_obj (zle rfl) (zle rfl) dX7_init_1 rfl ?_
  refine v_aload_0 dX7_init_4 rfl ?_
  refine v_bipush (v := 8) dX7_init_5 rfl rfl ?_
  refine v_newa (atype := .int) (ft := .int) (t := 1) rfl (Or.inl ⟨rfl, rfl⟩) ac_int rfl (zle rfl) (zle rfl) (zle rfl) dX7_init_7 rfl (fun q7 hq7 => ?_)
  have t1 : (u1 T q7 (1, 8) t).1 = 17 := by rw [u1_na (fr_ne hq7 ht (by decide))]; exact ht
  refine v_putP fw_7_9 t1 rfl (zle rfl) rfl (fun _ => rfl) rfl rfl dX7_init_9 rfl ?_
  refine v_aload_0 dX7_init_12 rfl ?_
  refine v_bipush (v := 8) dX7_init_13 rfl rfl ?_
  refine v_newa (atype := .int) (ft := .int) (t := 1) rfl (Or.inl ⟨rfl, rfl⟩) ac_int rfl (zle rfl) (zle rfl) (zle rfl) dX7_init_15 rfl (fun q15 hq15 => ?_)
  have t2 : (u1 (u1 T q7 (1, 8)) q15 (1, 8) t).1 = 17 := by rw [u1_na (fr_ne hq15 t1 (by decide))]; exact t1
  refine v_putP fw_7_15 t2 rfl (zle rfl) rfl (fun _ => rfl) rfl rfl dX7_init_17 rfl ?_
  refine v_aload_0 dX7_init_20 rfl ?_
  refine v_bipush (v := 14) dX7_init_21 rfl rfl ?_
  refine v_newq ti_9 kl_7_18 ao_9 rfl (zle rfl) (zle rfl) (zle rfl) dX7_init_23 rfl (fun q23 hq23 => ?_)
  have t3 : (u1 (u1 (u1 T q7 (1, 8)) q15 (1, 8)) q23 (39, 14) t).1 = 17 := by rw [u1_na (fr_ne hq23 t2 (by decide))]; exact t2
  refine v_putP fw_7_20 t3 rfl (zle rfl) rfl (fun _ => rfl) rfl rfl dX7_init_26 rfl ?_
  refine v_aload_0 dX7_init_29 rfl ?_
  refine v_iconst (v := 0) dX7_init_30 rfl rfl ?_
  refine v_putN fw_7_24 t3 rfl (zle rfl) rfl (fun h => by cases h) rfl rfl dX7_init_31 rfl ?_
  refine v_aload_0 dX7_init_34 rfl ?_
  refine v_iconst (v := 0) dX7_init_35 rfl rfl ?_
  refine v_putN fw_7_28 t3 rfl (zle rfl) rfl (fun h => by cases h) rfl rfl dX7_init_36 rfl ?_
  have n1 : q7 ≠ q15 := fun e => by rw [← e, u1_self] at hq15; exact absurd hq15 (by decide)
  have n2 : q7 ≠ q23 := fun e => by rw [← e, u1_na n1, u1_self] at hq23; exact absurd hq23 (by decide)
  have n3 : q15 ≠ q23 := fun e => by rw [← e, u1_self] at hq23; exact absurd hq23 (by decide)
  have tn0 : ∀ {T' : zT}, (T' t).1 = 17 → (T' t).1 ≠ 0 := fun h => by rw [h]; decide
  exact v_return rfl (⟨rfl, ((((((((GrX.rf.a hq7 (tn0 ht) _ _).p _ _ _).a hq15 (tn0 t1) _ _).p _ _ _).r hq23 (tn0 t2) _ _).p _ _ _).n _ _ _).n _ _ _), q7, q15, q23, ⟨t3, by simp [u3], by simp [u3], by simp [u3], by rw [u1_na n2, u1_na n1, u1_self], by rw [u1_na n3, u1_self], u1_self, by simp [u3], by simp [u3]⟩, hq7, by rw [u1_na (fun e => n1 e.symm)] at hq15; exact hq15, n1⟩) (zle rfl) (zle rfl) dX7_init_39
theorem c_X6_init {E : zE} {T : zT} {N : zN} {P : zP} {I : zI} {R : zR} (t : Nat) (ht : (T t).1 = 16) : zC E yX6_init cX6_init 1 none (zrm 1 20 1 200) [.ref t] T N P I R (fun v T' N' P' I' R' => v = none ∧ GrX t T N P I R T' N' P' I' R' ∧ ∃ ba, TpO T' N' P' t ba) := by
  refine zC.intro (ls := [some (.ref t)]) pl_RX6 (zle rfl) 0 rfl (fun K => ?_)
  refine v_aload_0 dX6_init_0 rfl ?_
  refine v_objInit lk_6_3 im_obj cd_obj (zle rfl) (zle rfl) dX6_init_1 rfl ?_
  refine v_aload_0 dX6_init_4 rfl ?_
  refine v_sipush (v := 200) dX6_init_5 rfl rfl ?_
  refine v_newa (atype := .byte) (ft := .byte) (t := 3) rfl (Or.inr (Or.inr ⟨rfl, rfl⟩)) ac_byte rfl (zle rfl) (zle rfl) (zle rfl) dX6_init_8 rfl (fun q8 hq8 => ?_)
  have t1 : (u1 T q8 (3, 200) t).1 = 16 := by rw [u1_na (fr_ne hq8 ht (by decide))]; exact ht
  refine v_putP fw_6_9 t1 rfl (zle rfl) rfl (fun _ => rfl) rfl rfl dX6_init_10 rfl ?_
  refine v_aload_0 dX6_init_13 rfl ?_
  refine v_iconst (v := 0) dX6_init_14 rfl rfl ?_
  refine v_putN fw_6_15 t1 rfl (zle rfl) rfl (fun h => by cases h) rfl rfl dX6_init_15 rfl ?_
  exact v_return rfl (⟨rfl, (((GrX.rf.a hq8 (by rw [ht]; decide) _ _).p _ _ _).n _ _ _), q8, ⟨t1, by simp [u3], u1_self, by simp [u3]⟩⟩) (zle rfl) (zle rfl) dX6_init_18
theorem c_X1_init {E : zE} {T : zT} {N : zN} {P : zP} {I : zI} {R : zR} (t : Nat) (ht : (T t).1 = 11) : zC E yX1_init cX1_init 1 none (zrm 1 20 2 72) [.ref t] T N P I R (fun v T' N' P' I' R' => v = none ∧ GrX t T N P I R T' N' P' I' R' ∧ ∃ sa na, NtO T' P' t sa na ∧ (T sa).1 = 0 ∧ (T na).1 = 0 ∧ sa ≠ na) := by
  refine zC.intro (ls := [some (.ref t)]) pl_RX1 (zle rfl) 0 rfl (fun K => ?_)
  refine v_aload_0 dX1_init_0 rfl ?_
  refine v_objInit lk_1_3 im_obj cd_obj (zle rfl) (zle rfl) dX1_init_1 rfl ?_
  refine v_aload_0 dX1_init_4 rfl ?_
  refine v_bipush (v := 64) dX1_init_5 rfl rfl ?_
  refine v_newa (atype := .int) (ft := .int) (t := 1) rfl (Or.inl ⟨rfl, rfl⟩) ac_int rfl (zle rfl) (zle rfl) (zle rfl) dX1_init_7 rfl (fun q7 hq7 => ?_)
  have t1 : (u1 T q7 (1, 64) t).1 = 11 := by rw [u1_na (fr_ne hq7 ht (by decide))]; exact ht
  refine v_putP fw_1_9 t1 rfl (zle rfl) rfl (fun _ => rfl) rfl rfl dX1_init_9 rfl ?_
  refine v_aload_0 dX1_init_12 rfl ?_
  refine v_bipush (v := 8) dX1_init_13 rfl rfl ?_
  refine v_newa (atype := .int) (ft := .int) (t := 1) rfl (Or.inl ⟨rfl, rfl⟩) ac_int rfl (zle rfl) (zle rfl) (zle rfl) dX1_init_15 rfl (fun q15 hq15 => ?_)
  have t2 : (u1 (u1 T q7 (1, 64)) q15 (1, 8) t).1 = 11 := by rw [u1_na (fr_ne hq15 t1 (by decide))]; exact t1
  refine v_putP fw_1_15 t2 rfl (zle rfl) rfl (fun _ => rfl) rfl rfl dX1_init_17 rfl ?_
  have n1 : q7 ≠ q15 := fun e => by rw [← e, u1_self] at hq15; exact absurd hq15 (by decide)
  exact v_return rfl (⟨rfl, ((((GrX.rf.a hq7 (by rw [ht]; decide) _ _).p _ _ _).a hq15 (by rw [t1]; decide) _ _).p _ _ _), q7, q15, ⟨t2, by simp [u3], by simp [u3], by rw [u1_na n1, u1_self], u1_self⟩, hq7, by rw [u1_na (fun e => n1 e.symm)] at hq15; exact hq15, n1⟩) (zle rfl) (zle rfl) dX1_init_20
