/-! how the class's cells hold the common state. b: the book of addresses; g: the rows of the search have 2^g sets -/
def RX (T : zT) (N : zN) (P : zP) (x : Nat) (b : Nat → Nat → Nat) (f : zf) : Prop := (T x).1 = 20 ∧ P 10 0 x = some (b 0 0) ∧ P 10 1 x = some (b 0 1) ∧ P 10 2 x = some (b 0 2) ∧ P 10 3 x = some (b 0 3) ∧ P 10 4 x = some (b 0 4) ∧ P 10 5 x = some (b 0 5) ∧ T (b 0 2) = (30, 4) ∧ T (b 0 3) = (38, 6) ∧ T (b 0 4) = (35, 4) ∧ N 10 6 x = f 9 ∧ N 10 7 x = f 18 ∧ N 10 8 x = f 27 ∧ N 10 9 x = f 31
def RTw (T : zT) (N : zN) (R : zR) (b : Nat → Nat → Nat) (r : zg) (j : Nat) : Prop := R (b 0 8) j = some (b 2 j) ∧ (T (b 2 j)).1 = 19 ∧ N 9 0 (b 2 j) = r 4 j ∧ N 9 1 (b 2 j) = r 5 j ∧ N 9 2 (b 2 j) = r 6 j ∧ N 9 3 (b 2 j) = r 7 j ∧ N 9 4 (b 2 j) = r 8 j
def RT (T : zT) (N : zN) (P : zP) (I : zI) (R : zR) (b : Nat → Nat → Nat) (f : zf) (r : zg) : Prop := (T (b 0 0)).1 = 17 ∧ P 7 0 (b 0 0) = some (b 1 0) ∧ P 7 1 (b 0 0) = some (b 1 1) ∧ P 7 2 (b 0 0) = some (b 0 8) ∧ T (b 0 8) = (39, 14) ∧ N 7 3 (b 0 0) = f 0 ∧ N 7 4 (b 0 0) = f 3 ∧ (∀ j, j < tn (f 0) → I (b 1 0) j = r 1 j ∧ I (b 1 1) j = r 2 j) ∧ (∀ j, j < tn (f 3) → RTw T N R b r j) ∧ ∀ i j, i < tn (f 3) → j < tn (f 3) → b 2 i = b 2 j → i = j
/-- which of the class's rows of ints are there: 0 xs, 1 ys, 2 distances, 3 reached, 4 times, 5 steps, 6 neighbours, 7 + s a sheet's -/
def lvr (r : zg) (i : Nat) : Prop := i < 7 ∨ (i < 11 ∧ ¬ r 28 (i - 7) = 0)
def lnr (g : Nat) (r : zg) : Nat → Nat
  | 0 => 8
  | 1 => 8
  | 2 => 8
  | 3 => 2 ^ g
  | 4 => 2 ^ g * 8
  | 5 => 64
  | 6 => 8
  | i => tn (r 29 (i - 7))
def RA (T : zT) (Mn : Nat → Prop) (b : Nat → Nat → Nat) (g : Nat) (r : zg) : Prop := g ≤ 12 ∧ (∀ i, lvr r i → T (b 1 i) = (1, lnr g r i) ∧ ¬ Mn (b 1 i)) ∧ ∀ i j, lvr r i → lvr r j → b 1 i = b 1 j → i = j
def RP (T : zT) (N : zN) (P : zP) (I : zI) (b : Nat → Nat → Nat) (f : zf) (r : zg) : Prop := (T (b 0 1)).1 = 16 ∧ P 6 0 (b 0 1) = some (b 0 7) ∧ T (b 0 7) = (3, 200) ∧ N 6 1 (b 0 1) = f 17 ∧ ∀ j, j < tn (f 17) → I (b 0 7) j &&& 255 = r 16 j
/-- a piece's cell; an edition's: pa its row, pp its pieces; q: where its pieces stand in the rows -/
def REp (T : zT) (N : zN) (a : Nat) (r : zg) (i : Nat) : Prop := (T a).1 = 12 ∧ N 2 0 a = r 11 i ∧ N 2 1 a = r 12 i ∧ N 2 2 a = r 13 i ∧ N 2 3 a = r 14 i ∧ N 2 4 a = r 15 i
def REe (T : zT) (N : zN) (P : zP) (R : zR) (ea pa : Nat) (pp : Nat → Nat) (r : zg) (e : Nat) : Prop := (T ea).1 = 10 ∧ P 0 0 ea = some pa ∧ T pa = (32, 12) ∧ N 0 1 ea = r 10 e ∧ (∀ p, p < tn (r 10 e) → R pa p = some (pp p) ∧ REp T N (pp p) r (12 * e + p)) ∧ Nt (N 0 2 ea) 4096 ∧ ∀ p, p < 12 → ((tn (N 0 2 ea)).testBit p = true ↔ p < tn (r 10 e) ∧ r 11 (12 * e + p) = 3)
def RE (T : zT) (N : zN) (P : zP) (R : zR) (b : Nat → Nat → Nat) (f : zf) (r : zg) : Prop := ∀ e, e < tn (f 9) → R (b 0 2) e = some (b 3 e) ∧ REe T N P R (b 3 e) (b 4 e) (b (10 + e)) r e
def RWn (T : zT) (N : zN) (P : zP) (R : zR) (b : Nat → Nat → Nat) (r : zg) (n : Nat) : Prop := R (b 0 3) n = some (b 5 n) ∧ (T (b 5 n)).1 = 18 ∧ P 8 0 (b 5 n) = some (b 3 (tn (r 22 n))) ∧ N 8 1 (b 5 n) = r 22 n ∧ N 8 2 (b 5 n) = r 23 n ∧ N 8 3 (b 5 n) = r 19 n ∧ N 8 4 (b 5 n) = r 20 n ∧ N 8 5 (b 5 n) = r 21 n ∧ N 8 6 (b 5 n) = r 24 n ∧ N 8 8 (b 5 n) = r 26 n ∧ (¬ r 26 n = 0 → N 8 7 (b 5 n) = r 25 n)
def RW (T : zT) (N : zN) (P : zP) (R : zR) (b : Nat → Nat → Nat) (f : zf) (r : zg) : Prop := (∀ n, n < tn (f 18) → RWn T N P R b r n) ∧ ∀ i j, i < tn (f 18) → j < tn (f 18) → b 5 i = b 5 j → i = j
def RSs (T : zT) (N : zN) (P : zP) (I : zI) (R : zR) (b : Nat → Nat → Nat) (r : zg) (s : Nat) : Prop := (r 28 s = 0 → R (b 0 4) s = none) ∧ (¬ r 28 s = 0 → R (b 0 4) s = some (b 6 s) ∧ (T (b 6 s)).1 = 15 ∧ N 5 0 (b 6 s) = r 28 s ∧ P 5 1 (b 6 s) = some (b 1 (7 + s)) ∧ ∀ i, i < tn (r 29 s) → I (b 1 (7 + s)) i = r 30 (12 * s + i))
def RS (T : zT) (N : zN) (P : zP) (I : zI) (R : zR) (b : Nat → Nat → Nat) (r : zg) : Prop := ∀ s, s < 4 → RSs T N P I R b r s
def RQ (T : zT) (P : zP) (b : Nat → Nat → Nat) : Prop := (T (b 0 5)).1 = 14 ∧ P 4 0 (b 0 5) = some (b 0 6) ∧ (T (b 0 6)).1 = 11 ∧ P 1 0 (b 0 6) = some (b 1 5) ∧ P 1 1 (b 0 6) = some (b 1 6) ∧ P 4 1 (b 0 5) = some (b 1 2) ∧ P 4 2 (b 0 5) = some (b 1 3) ∧ P 4 3 (b 0 5) = some (b 1 4) ∧ ∃ e0, P 4 4 (b 0 5) = some e0 ∧ (T e0).1 = 10
def CR (T : zT) (N : zN) (P : zP) (I : zI) (R : zR) (x : Nat) (Mn : Nat → Prop) (b : Nat → Nat → Nat) (g : Nat) (f : zf) (r : zg) : Prop := RX T N P x b f ∧ RT T N P I R b f r ∧ RA T Mn b g r ∧ RP T N P I b f r ∧ RE T N P R b f r ∧ RW T N P R b f r ∧ RS T N P I R b r ∧ RQ T P b
/-- what the class's methods leave as it was of the reference's cells -/
def Cfr (Mn : Nat → Prop) (T : zT) (N : zN) (P : zP) (I : zI) (T' : zT) (N' : zN) (P' : zP) (I' : zI) : Prop := N' 11 = N 11 ∧ P' 11 = P 11 ∧ ∀ a, Mn a → I' a = I a ∧ T' a = T a
theorem Cfr.rf {Mn : Nat → Prop} {T : zT} {N : zN} {P : zP} {I : zI} : Cfr Mn T N P I T N P I := ⟨rfl, rfl, fun _ _ => ⟨rfl, rfl⟩⟩
theorem Cfr.tr {Mn : Nat → Prop} {T : zT} {N : zN} {P : zP} {I : zI} {T1 : zT} {N1 : zN} {P1 : zP} {I1 : zI} {T2 : zT} {N2 : zN} {P2 : zP} {I2 : zI} (h : Cfr Mn T N P I T1 N1 P1 I1) (g : Cfr Mn T1 N1 P1 I1 T2 N2 P2 I2) : Cfr Mn T N P I T2 N2 P2 I2 :=
  ⟨g.1.trans h.1, g.2.1.trans h.2.1, fun a ha => ⟨(g.2.2 a ha).1.trans (h.2.2 a ha).1, (g.2.2 a ha).2.trans (h.2.2 a ha).2⟩⟩
theorem Cfr.n {Mn : Nat → Prop} {T : zT} {N : zN} {P : zP} {I : zI} {T1 : zT} {N1 : zN} {P1 : zP} {I1 : zI} (h : Cfr Mn T N P I T1 N1 P1 I1) {c : Nat} (hc : ¬ 11 = c) (k a : Nat) (v : Int32) : Cfr Mn T N P I T1 (u3 N1 c k a v) P1 I1 :=
  ⟨by rw [← h.1]; funext j q; simp [u3, hc], h.2⟩
theorem Cfr.p {Mn : Nat → Prop} {T : zT} {N : zN} {P : zP} {I : zI} {T1 : zT} {N1 : zN} {P1 : zP} {I1 : zI} (h : Cfr Mn T N P I T1 N1 P1 I1) {c : Nat} (hc : ¬ 11 = c) (k a : Nat) (v : Option Nat) : Cfr Mn T N P I T1 N1 (u3 P1 c k a v) I1 :=
  ⟨h.1, by rw [← h.2.1]; funext j q; simp [u3, hc], h.2.2⟩
theorem Cfr.i {Mn : Nat → Prop} {T : zT} {N : zN} {P : zP} {I : zI} {T1 : zT} {N1 : zN} {P1 : zP} {I1 : zI} (h : Cfr Mn T N P I T1 N1 P1 I1) {a : Nat} (ha : ¬ Mn a) (j : Nat) (v : Int32) : Cfr Mn T N P I T1 N1 P1 (u2 I1 a j v) :=
  ⟨h.1, h.2.1, fun q hq => ⟨by rw [u2_off I1 v (show q ≠ a from fun e => ha (e ▸ hq))]; exact (h.2.2 q hq).1, (h.2.2 q hq).2⟩⟩
theorem Cfr.i1 {Mn : Nat → Prop} {T : zT} {N : zN} {P : zP} {I : zI} {T1 : zT} {N1 : zN} {P1 : zP} {I1 : zI} (h : Cfr Mn T N P I T1 N1 P1 I1) {a : Nat} (ha : ¬ Mn a) (w : Nat → Int32) : Cfr Mn T N P I T1 N1 P1 (u1 I1 a w) :=
  ⟨h.1, h.2.1, fun q hq => ⟨by rw [u1_na (show q ≠ a from fun e => ha (e ▸ hq))]; exact (h.2.2 q hq).1, (h.2.2 q hq).2⟩⟩
theorem Cfr.t {Mn : Nat → Prop} {T : zT} {N : zN} {P : zP} {I : zI} {T1 : zT} {N1 : zN} {P1 : zP} {I1 : zI} (h : Cfr Mn T N P I T1 N1 P1 I1) {a : Nat} (ha : ¬ Mn a) (w : Nat × Nat) : Cfr Mn T N P I (u1 T1 a w) N1 P1 I1 :=
  ⟨h.1, h.2.1, fun q hq => ⟨(h.2.2 q hq).1, by rw [u1_na (show q ≠ a from fun e => ha (e ▸ hq))]; exact (h.2.2 q hq).2⟩⟩
theorem Cfr.o {Mn : Nat → Prop} {T : zT} {N : zN} {P : zP} {I : zI} {T1 : zT} {N1 : zN} {P1 : zP} {I1 : zI} (h : Cfr Mn T N P I T1 N1 P1 I1) {c : Nat} (hc : ¬ 11 = c) (a : Nat) : Cfr Mn T N P I T1 (uo N1 c a 0) (uo P1 c a none) I1 :=
  ⟨by rw [← h.1]; funext j q; simp [uo, hc], by rw [← h.2.1]; funext j q; simp [uo, hc], h.2.2⟩
/-- the end of an act of the class -/
def cQ (x : Nat) (Mn : Nat → Prop) (g' : Nat) (T : zT) (N : zN) (P : zP) (I : zI) (R : zR) (o : zO) : Option Value → zT → zN → zP → zI → zR → Prop := fun v T' N' P' I' R' => v = some (.int o.1) ∧ (∃ b' : Nat → Nat → Nat, CR T' N' P' I' R' x Mn b' g' o.2.1 o.2.2) ∧ Cfr Mn T N P I T' N' P' I'
theorem cQ_go {x : Nat} {Mn : Nat → Prop} {T : zT} {N : zN} {P : zP} {I : zI} {R : zR} {T' : zT} {N' : zN} {P' : zP} {I' : zI} {R' : zR} {o : zO} {v w : Int32} {f' : zf} {r' : zg} (b' : Nat → Nat → Nat) (g' : Nat) (ho : o = (w, f', r')) (hv : v = w) (hC : CR T' N' P' I' R' x Mn b' g' f' r') (hF : Cfr Mn T N P I T' N' P' I') : cQ x Mn g' T N P I R o (some (.int v)) T' N' P' I' R' := by
  subst ho; subst hv
  exact ⟨rfl, ⟨b', hC⟩, hF⟩
theorem cQ_fd {x : Nat} {Mn : Nat → Prop} {T : zT} {N : zN} {P : zP} {I : zI} {R : zR} {o : zO} {w : Int32} {b : Nat → Nat → Nat} {g : Nat} {f : zf} {r : zg} (h : CR T N P I R x Mn b g f r) (ho : o = fdg w f r) : cQ x Mn g T N P I R o (some (.int w)) T (u3 N 10 9 x (N 10 9 x + 1)) P I R := by
  obtain ⟨⟨a1, a2, a3, a4, a5, a6, a7, a8, a9, a10, a11, a12, a13, a14⟩, h2, h3, h4, h5, h6, h7, h8⟩ := h
  refine cQ_go b g ho rfl ⟨⟨a1, a2, a3, a4, a5, a6, a7, a8, a9, a10, a11, a12, a13, ?_⟩, h2, h3, h4, h5, h6, h7, h8⟩ (Cfr.rf.n (by decide) _ _ _)
  rw [u3_self, a14, u1_self]
theorem cQ_rd {x : Nat} {Mn : Nat → Prop} {T : zT} {N : zN} {P : zP} {I : zI} {R : zR} {o : zO} {v w : Int32} {b : Nat → Nat → Nat} {g : Nat} {f : zf} {r : zg} (h : CR T N P I R x Mn b g f r) (ho : o = (w, f, r)) (hv : v = w) : cQ x Mn g T N P I R o (some (.int v)) T N P I R := cQ_go b g ho hv h Cfr.rf
/-- growth: what was there stays -/
def Gr (T : zT) (N : zN) (P : zP) (I : zI) (R : zR) (T' : zT) (N' : zN) (P' : zP) (I' : zI) (R' : zR) : Prop := ∀ a, (T a).1 ≠ 0 → T' a = T a ∧ (∀ c k, N' c k a = N c k a) ∧ (∀ c k, P' c k a = P c k a) ∧ I' a = I a ∧ R' a = R a
theorem fr_ne {T : zT} {a q t : Nat} (hq : (T q).1 = 0) (h : (T a).1 = t) (ht : t ≠ 0) : a ≠ q := fun e => ht (by rw [← h, e, hq])
theorem CR.gr {T : zT} {N : zN} {P : zP} {I : zI} {R : zR} {T' : zT} {N' : zN} {P' : zP} {I' : zI} {R' : zR} {x : Nat} {Mn : Nat → Prop} {b : Nat → Nat → Nat} {g : Nat} {f : zf} {r : zg} (h : CR T N P I R x Mn b g f r) (hG : Gr T N P I R T' N' P' I' R') : CR T' N' P' I' R' x Mn b g f r := by
  have t1 : ∀ {a t : Nat}, (T a).1 = t → t ≠ 0 → (T' a).1 = t := fun e n => by rw [(hG _ (by rw [e]; exact n)).1]; exact e
  have t2 : ∀ {a t n : Nat}, T a = (t, n) → t ≠ 0 → T' a = (t, n) := fun e n => by rw [(hG _ (by rw [e]; exact n)).1]; exact e
  obtain ⟨⟨a1, a2, a3, a4, a5, a6, a7, a8, a9, a10, a11, a12, a13, a14⟩, ⟨b1, b2, b3, b4, b5, b6, b7, b8, b9, b10⟩, ⟨c1, c2, c3⟩, ⟨d1, d2, d3, d4, d5⟩, e1, ⟨w1, w2⟩, s1, ⟨q1, q2, q3, q4, q5, q6, q7, q8, e0, q9, q10⟩⟩ := h
  have n : ∀ {a t : Nat}, (T a).1 = t → t ≠ 0 → ∀ c k, N' c k a = N c k a := fun e n => (hG _ (by rw [e]; exact n)).2.1
  have p : ∀ {a t : Nat}, (T a).1 = t → t ≠ 0 → ∀ c k, P' c k a = P c k a := fun e n => (hG _ (by rw [e]; exact n)).2.2.1
  have i2 : ∀ {a t n : Nat}, T a = (t, n) → t ≠ 0 → I' a = I a := fun e n => (hG _ (by rw [e]; exact n)).2.2.2.1
  have r2 : ∀ {a t n : Nat}, T a = (t, n) → t ≠ 0 → R' a = R a := fun e n => (hG _ (by rw [e]; exact n)).2.2.2.2
  refine ⟨⟨t1 a1 (by decide), ?_, ?_, ?_, ?_, ?_, ?_, t2 a8 (by decide), t2 a9 (by decide), t2 a10 (by decide), ?_, ?_, ?_, ?_⟩, ⟨t1 b1 (by decide), ?_, ?_, ?_, t2 b5 (by decide), ?_, ?_, ?_, ?_, b10⟩, ⟨c1, fun i hi => ⟨t2 (c2 i hi).1 (by decide), (c2 i hi).2⟩, c3⟩, ⟨t1 d1 (by decide), ?_, t2 d3 (by decide), ?_, ?_⟩, ?_, ⟨?_, w2⟩, ?_, ⟨t1 q1 (by decide), ?_, t1 q3 (by decide), ?_, ?_, ?_, ?_, ?_, e0, ?_, t1 q10 (by decide)⟩⟩
  · rw [p a1 (by decide)]; exact a2
  · rw [p a1 (by decide)]; exact a3
  · rw [p a1 (by decide)]; exact a4
  · rw [p a1 (by decide)]; exact a5
  · rw [p a1 (by decide)]; exact a6
  · rw [p a1 (by decide)]; exact a7
  · rw [n a1 (by decide)]; exact a11
  · rw [n a1 (by decide)]; exact a12
  · rw [n a1 (by decide)]; exact a13
  · rw [n a1 (by decide)]; exact a14
  · rw [p b1 (by decide)]; exact b2
  · rw [p b1 (by decide)]; exact b3
  · rw [p b1 (by decide)]; exact b4
  · rw [n b1 (by decide)]; exact b6
  · rw [n b1 (by decide)]; exact b7
  · rw [i2 (c2 0 (Or.inl (by decide))).1 (by decide), i2 (c2 1 (Or.inl (by decide))).1 (by decide)]; exact b8
  · intro j hj
    obtain ⟨w1, w2, w3, w4, w5, w6, w7⟩ := b9 j hj
    exact ⟨by rw [r2 b5 (by decide)]; exact w1, t1 w2 (by decide), by rw [n w2 (by decide)]; exact w3, by rw [n w2 (by decide)]; exact w4, by rw [n w2 (by decide)]; exact w5, by rw [n w2 (by decide)]; exact w6, by rw [n w2 (by decide)]; exact w7⟩
  · rw [p d1 (by decide)]; exact d2
  · rw [n d1 (by decide)]; exact d4
  · rw [i2 d3 (by decide)]; exact d5
  · intro e he
    obtain ⟨f1, f2, f3, f4, f5, f6, f7, f8⟩ := e1 e he
    refine ⟨by rw [r2 a8 (by decide)]; exact f1, t1 f2 (by decide), by rw [p f2 (by decide)]; exact f3, t2 f4 (by decide), by rw [n f2 (by decide)]; exact f5, ?_, by rw [n f2 (by decide)]; exact f7, by rw [n f2 (by decide)]; exact f8⟩
    intro k hk
    obtain ⟨g1, g2, g3, g4, g5, g6, g7⟩ := f6 k hk
    exact ⟨by rw [r2 f4 (by decide)]; exact g1, t1 g2 (by decide), by rw [n g2 (by decide)]; exact g3, by rw [n g2 (by decide)]; exact g4, by rw [n g2 (by decide)]; exact g5, by rw [n g2 (by decide)]; exact g6, by rw [n g2 (by decide)]; exact g7⟩
  · intro j hj
    obtain ⟨f1, f2, f3, f4, f5, f6, f7, f8, f9, f10, f11⟩ := w1 j hj
    exact ⟨by rw [r2 a9 (by decide)]; exact f1, t1 f2 (by decide), by rw [p f2 (by decide)]; exact f3, by rw [n f2 (by decide)]; exact f4, by rw [n f2 (by decide)]; exact f5, by rw [n f2 (by decide)]; exact f6, by rw [n f2 (by decide)]; exact f7, by rw [n f2 (by decide)]; exact f8, by rw [n f2 (by decide)]; exact f9, by rw [n f2 (by decide)]; exact f10, by rw [n f2 (by decide)]; exact f11⟩
  · intro s hs
    obtain ⟨f1, f2⟩ := s1 s hs
    refine ⟨fun h0 => by rw [r2 a10 (by decide)]; exact f1 h0, fun h0 => ?_⟩
    obtain ⟨g1, g2, g3, g4, g5⟩ := f2 h0
    have hl := (c2 (7 + s) (Or.inr ⟨by omega, by rw [show 7 + s - 7 = s by omega]; exact h0⟩)).1
    exact ⟨by rw [r2 a10 (by decide)]; exact g1, t1 g2 (by decide), by rw [n g2 (by decide)]; exact g3, by rw [p g2 (by decide)]; exact g4, by rw [i2 hl (by decide)]; exact g5⟩
  · rw [p q1 (by decide)]; exact q2
  · rw [p q3 (by decide)]; exact q4
  · rw [p q3 (by decide)]; exact q5
  · rw [p q1 (by decide)]; exact q6
  · rw [p q1 (by decide)]; exact q7
  · rw [p q1 (by decide)]; exact q8
  · rw [p q1 (by decide)]; exact q9
section zabs
variable {E : zE} {y : MethodName} {cc : ByteArray} {nL : Nat} {ret : Option FieldType} {rm : Room} {K : zK E y cc nL ret rm} {Qf : State → Prop} {T : zT} {N : zN} {P : zP} {I : zI} {R : zR} {kc ks pc : Nat} {ls : List (Option Value)} {st : List Value}
theorem v_abs (F : zT → zN → zP → zI → zR → Prop) (h : F T N P I R) (k : ∀ (T : zT) (N : zN) (P : zP) (I : zI) (R : zR), F T N P I R → V K Qf T N P I R kc ks pc ls st) : V K Qf T N P I R kc ks pc ls st := k T N P I R h
end zabs
theorem Nt.lt8 {x : Int32} (h : Nt x 9) (hc : x < 8) : tn x < 8 := by
  have e := h.toInt (by decide)
  rw [Int32.lt_iff_toInt_lt, e] at hc
  have : (8 : Int32).toInt = 8 := rfl
  omega
theorem Nt.eq8 {x : Int32} (h : Nt x 9) (hc : ¬ x < 8) : x = 8 := by
  have e := h.toInt (by decide)
  have h2 := h.2
  rw [Int32.lt_iff_toInt_lt, e] at hc
  have h3 : (8 : Int32).toInt = 8 := rfl
  rw [h.1, show tn x = 8 by omega]
  rfl
theorem Nt.lt14 {x : Int32} (h : Nt x 15) (hc : x < 14) : tn x < 14 := by
  have e := h.toInt (by decide)
  rw [Int32.lt_iff_toInt_lt, e] at hc
  have : (14 : Int32).toInt = 14 := rfl
  omega
theorem Nt.eq14 {x : Int32} (h : Nt x 15) (hc : ¬ x < 14) : x = 14 := by
  have e := h.toInt (by decide)
  have h2 := h.2
  rw [Int32.lt_iff_toInt_lt, e] at hc
  have h3 : (14 : Int32).toInt = 14 := rfl
  rw [h.1, show tn x = 14 by omega]
  rfl
theorem fb_rng9 (x : Int32) : -2147483648 ≤ x.toInt ∧ x.toInt < 2147483648 := ⟨Int32.le_toInt x, Int32.toInt_lt x⟩
theorem fb9L {z : Int} (h1 : -9223372036854775808 ≤ z) (h2 : z < 9223372036854775808) : z.bmod (2 ^ 64) = z := by
  rw [Int.bmod_eq_emod]
  split <;> omega
