/-- growth of the search's rows: how far, and the room it takes -/
def GrO (g np g' c0 s0 : Nat) : Prop := (np ≤ g ∧ g' = g ∧ c0 = 0 ∧ s0 = 0) ∨ (g < np ∧ g' = np ∧ c0 = 2 ∧ s0 = 9 * 2 ^ np)
/-- the search may change its own cells -/
theorem CR.sr {T : zT} {N : zN} {P : zP} {I : zI} {R : zR} {x : Nat} {Mn : Nat → Prop} {b : Nat → Nat → Nat} {g : Nat} {f : zf} {r : zg} (h : CR T N P I R x Mn b g f r) {T' : zT} {N' : zN} {P' : zP} {I' : zI} {ra ta ea g' : Nat} (hg : g' ≤ 12) (hT : ∀ a, (T a).1 ≠ 0 → T' a = T a) (hN : ∀ c, c ≠ 4 → N' c = N c) (hP : ∀ c, c ≠ 4 → P' c = P c) (hP0 : P' 4 0 (b 0 5) = P 4 0 (b 0 5)) (hP1 : P' 4 1 (b 0 5) = P 4 1 (b 0 5)) (hP2 : P' 4 2 (b 0 5) = some ra) (hP3 : P' 4 3 (b 0 5) = some ta) (hP4 : P' 4 4 (b 0 5) = some ea) (hea : (T ea).1 = 10) (hI : ∀ a, (T a).1 ≠ 0 → (∀ i, 2 ≤ i → i ≤ 6 → a ≠ b 1 i) → I' a = I a) (hra : T' ra = (1, 2 ^ g')) (hta : T' ta = (1, 2 ^ g' * 8)) (hm1 : ¬ Mn ra) (hm2 : ¬ Mn ta) (hd : (ra = b 1 3 ∧ ta = b 1 4) ∨ ((T ra).1 = 0 ∧ (T ta).1 = 0 ∧ ra ≠ ta)) : CR T' N' P' I' R x Mn (u2 (u2 b 1 3 ra) 1 4 ta) g' f r := by
  obtain ⟨⟨x1, x2, x3, x4, x5, x6, x7, x8, x9, x10, x11, x12, x13, x14⟩, ⟨t1, t2, t3, t4, t5, t6, t7, t8, t9, t10⟩, ⟨a1, a2, a3⟩, ⟨p1, p2, p3, p4, p5⟩, hE, ⟨w1, w2⟩, hS, ⟨q1, q2, q3, q4, q5, q6, q7, q8, e0, q9, q10⟩⟩ := h
  have bk : ∀ k, k ≠ 1 → u2 (u2 b 1 3 ra) 1 4 ta k = b k := fun k hk => by rw [u2_off _ _ hk, u2_off _ _ hk]
  have b0 := bk 0 (by decide)
  have b1 : ∀ i, i ≠ 3 → i ≠ 4 → u2 (u2 b 1 3 ra) 1 4 ta 1 i = b 1 i := fun i h3 h4 => by rw [u2_ni h4, u2_ni h3]
  have b13 : u2 (u2 b 1 3 ra) 1 4 ta 1 3 = ra := by rw [u2_ni (by decide), u2_self]
  have b14 : u2 (u2 b 1 3 ra) 1 4 ta 1 4 = ta := u2_self
  have t' : ∀ {a t : Nat}, (T a).1 = t → t ≠ 0 → (T' a).1 = t := fun e n => by rw [hT _ (by rw [e]; exact n)]; exact e
  have t2' : ∀ {a t n : Nat}, T a = (t, n) → t ≠ 0 → T' a = (t, n) := fun e n => by rw [hT _ (by rw [e]; exact n)]; exact e
  have hi : ∀ i, lvr r i → (i < 2 ∨ 6 < i) → I' (b 1 i) = I (b 1 i) := fun i hl hi => hI _ (by rw [(a2 i hl).1]; exact Nat.one_ne_zero) (fun j h2 h6 e => by have := a3 i j hl (Or.inl (by omega)) e; omega)
  have lv : ∀ i, i < 7 → lvr r i := fun i h => Or.inl h
  refine ⟨?_, ?_, ⟨hg, ?_, ?_⟩, ?_, ?_, ⟨?_, ?_⟩, ?_, ?_⟩
  · unfold RX
    rw [b0, hP 10 (by decide), hN 10 (by decide)]
    exact ⟨t' x1 (by decide), x2, x3, x4, x5, x6, x7, t2' x8 (by decide), t2' x9 (by decide), t2' x10 (by decide), x11, x12, x13, x14⟩
  · unfold RT RTw
    rw [b0, bk 2 (by decide), b1 0 (by decide) (by decide), b1 1 (by decide) (by decide), hP 7 (by decide), hN 7 (by decide), hN 9 (by decide), hi 0 (lv 0 (by decide)) (by decide), hi 1 (lv 1 (by decide)) (by decide)]
    exact ⟨t' t1 (by decide), t2, t3, t4, t2' t5 (by decide), t6, t7, t8, fun j hj => by
      obtain ⟨k1, k2, k3⟩ := t9 j hj
      exact ⟨k1, t' k2 (by decide), k3⟩, t10⟩
  · intro i hl
    by_cases h3 : i = 3
    · subst h3; rw [b13]; exact ⟨hra, hm1⟩
    · by_cases h4 : i = 4
      · subst h4; rw [b14]; exact ⟨hta, hm2⟩
      · rw [b1 i h3 h4]
        have e : lnr g' r i = lnr g r i := by
          match i, h3, h4 with
          | 0, _, _ => rfl
          | 1, _, _ => rfl
          | 2, _, _ => rfl
          | 5, _, _ => rfl
          | 6, _, _ => rfl
          | i + 7, _, _ => rfl
        rw [e]
        exact ⟨t2' (a2 i hl).1 (by decide), (a2 i hl).2⟩
  · intro i j hl1 hl2 e
    have hfr : ∀ k, lvr r k → ¬ (T (b 1 k)).1 = 0 := fun k hk => by rw [(a2 k hk).1]; exact Nat.one_ne_zero
    rcases hd with ⟨d1, d2⟩ | ⟨d1, d2, d3⟩
    · have hb : ∀ k, u2 (u2 b 1 3 ra) 1 4 ta 1 k = b 1 k := fun k => by
        by_cases h3 : k = 3
        · subst h3; rw [b13, d1]
        · by_cases h4 : k = 4
          · subst h4; rw [b14, d2]
          · exact b1 k h3 h4
      rw [hb, hb] at e
      exact a3 i j hl1 hl2 e
    · have key : ∀ k, lvr r k → k ≠ 3 → k ≠ 4 → b 1 k ≠ ra ∧ b 1 k ≠ ta := fun k hk _ _ => ⟨fun q => hfr k hk (by rw [q]; exact d1), fun q => hfr k hk (by rw [q]; exact d2)⟩
      by_cases i3 : i = 3
      · subst i3
        by_cases j3 : j = 3
        · exact j3.symm
        · by_cases j4 : j = 4
          · subst j4; rw [b13, b14] at e; exact absurd e d3
          · rw [b13, b1 j j3 j4] at e; exact absurd e.symm (key j hl2 j3 j4).1
      · by_cases i4 : i = 4
        · subst i4
          by_cases j3 : j = 3
          · subst j3; rw [b13, b14] at e; exact absurd e.symm d3
          · by_cases j4 : j = 4
            · exact j4.symm
            · rw [b14, b1 j j3 j4] at e; exact absurd e.symm (key j hl2 j3 j4).2
        · by_cases j3 : j = 3
          · subst j3; rw [b13, b1 i i3 i4] at e; exact absurd e (key i hl1 i3 i4).1
          · by_cases j4 : j = 4
            · subst j4; rw [b14, b1 i i3 i4] at e; exact absurd e (key i hl1 i3 i4).2
            · rw [b1 i i3 i4, b1 j j3 j4] at e; exact a3 i j hl1 hl2 e
  · unfold RP
    rw [b0, hP 6 (by decide), hN 6 (by decide), hI (b 0 7) (by rw [p3]; decide) (fun i h2 h6 e => by have := (a2 i (Or.inl (by omega))).1; rw [← e, p3] at this; cases this)]
    exact ⟨t' p1 (by decide), p2, t2' p3 (by decide), p4, p5⟩
  · intro e he
    obtain ⟨f1, f2, f3, f4, f5, f6, f7⟩ := hE e he
    unfold REe REp
    rw [b0, bk 3 (by decide), bk 4 (by decide), bk (10 + e) (by omega), hP 0 (by decide), hN 0 (by decide), hN 2 (by decide)]
    exact ⟨f1, t' f2 (by decide), f3, t2' f4 (by decide), f5, fun p hp => ⟨(f6 p hp).1, t' (f6 p hp).2.1 (by decide), (f6 p hp).2.2⟩, f7⟩
  · intro n hn
    obtain ⟨g1, g2, g3⟩ := w1 n hn
    unfold RWn
    rw [b0, bk 3 (by decide), bk 5 (by decide), hP 8 (by decide), hN 8 (by decide)]
    exact ⟨g1, t' g2 (by decide), g3⟩
  · rw [bk 5 (by decide)]; exact w2
  · intro s hs
    obtain ⟨f1, f2⟩ := hS s hs
    unfold RSs
    rw [b0, bk 6 (by decide), b1 (7 + s) (by omega) (by omega), hN 5 (by decide), hP 5 (by decide)]
    refine ⟨f1, fun h0 => ?_⟩
    obtain ⟨k1, k2, k3, k4, k5⟩ := f2 h0
    rw [hi (7 + s) (Or.inr ⟨by omega, by rw [show 7 + s - 7 = s by omega]; exact h0⟩) (Or.inr (by omega))]
    exact ⟨k1, t' k2 (by decide), k3, k4, k5⟩
  · unfold RQ
    rw [b0, b1 5 (by decide) (by decide), b1 6 (by decide) (by decide), b1 2 (by decide) (by decide), b13, b14, hP 1 (by decide), hP0, hP1]
    exact ⟨t' q1 (by decide), q2, t' q3 (by decide), q4, q5, q6, hP2, hP3, ea, hP4, t' hea (by decide)⟩
