theorem i_way {f : zf} {r : zg} (h : Inv f r) (a b l : Int32) (s : Prop) : Inv (ac_way f r a b l s).2.1 (ac_way f r a b l s).2.2 := by
  refine zi_inv (fun hx => zi_inv (fun _ => h.fd _) (fun h14 => ?_)) (fun _ => h.fd _)
  obtain ⟨h1, h2, h3, h4, h5, h6, h7, h8, h9⟩ := h
  obtain ⟨a0, a3, a9, a17, a18, a27⟩ := h1
  obtain ⟨x1, x2, x3, x4⟩ := hx
  obtain ⟨v1, v2, v3⟩ := a3.up (k := 14) (by decide) h14
  have e : ∀ k, k ≠ 4 → k ≠ 5 → k ≠ 6 → k ≠ 7 → (u2 (u2 (u2 (u2 r 4 (tn (f 3)) a) 5 (tn (f 3)) b) 6 (tn (f 3)) l) 7 (tn (f 3)) (zb s)) k = r k := fun k k1 k2 k3 k4 => by rw [u2_off _ _ k4, u2_off _ _ k3, u2_off _ _ k2, u2_off _ _ k1]
  have en : tn (u1 f 3 (f 3 + 1) 3) = tn (f 3) + 1 := by rw [u1_self]; exact v1
  refine ⟨⟨a0, ?_, a9, a17, a18, a27⟩, ?_, ?_, ?_, fun q hq => (h5 q hq).s (Nat.le_refl _) (Nat.le_refl _) (fun k a b => e k (by omega) (by omega) (by omega) (by omega)) (e 19 (by decide) (by decide) (by decide) (by decide)) (e 20 (by decide) (by decide) (by decide) (by decide)) (e 22 (by decide) (by decide) (by decide) (by decide)) (e 23 (by decide) (by decide) (by decide) (by decide)) (e 26 (by decide) (by decide) (by decide) (by decide)), ?_, ?_, ?_, ?_⟩
  · show Nt (u1 f 3 (f 3 + 1) 3) 15
    rw [u1_self]; exact v2
  · show iB _ (u2 (u2 (u2 (u2 r 4 (tn (f 3)) a) 5 (tn (f 3)) b) 6 (tn (f 3)) l) 7 (tn (f 3)) (zb s)); unfold iB; rw [e 1 (by decide) (by decide) (by decide) (by decide), e 2 (by decide) (by decide) (by decide) (by decide)]; exact h2
  · intro q hq
    have hq : q < tn (u1 f 3 (f 3 + 1) 3) := hq
    rw [en] at hq
    show Nt ((u2 (u2 (u2 (u2 r 4 (tn (f 3)) a) 5 (tn (f 3)) b) 6 (tn (f 3)) l) 7 (tn (f 3)) (zb s)) 4 q) (tn (f 0)) ∧ Nt ((u2 (u2 (u2 (u2 r 4 (tn (f 3)) a) 5 (tn (f 3)) b) 6 (tn (f 3)) l) 7 (tn (f 3)) (zb s)) 5 q) (tn (f 0)) ∧ Nt ((u2 (u2 (u2 (u2 r 4 (tn (f 3)) a) 5 (tn (f 3)) b) 6 (tn (f 3)) l) 7 (tn (f 3)) (zb s)) 6 q) 21 ∧ ¬ (u2 (u2 (u2 (u2 r 4 (tn (f 3)) a) 5 (tn (f 3)) b) 6 (tn (f 3)) l) 7 (tn (f 3)) (zb s)) 6 q = 0 ∧ ¬ (u2 (u2 (u2 (u2 r 4 (tn (f 3)) a) 5 (tn (f 3)) b) 6 (tn (f 3)) l) 7 (tn (f 3)) (zb s)) 4 q = (u2 (u2 (u2 (u2 r 4 (tn (f 3)) a) 5 (tn (f 3)) b) 6 (tn (f 3)) l) 7 (tn (f 3)) (zb s)) 5 q
    rw [show (u2 (u2 (u2 (u2 r 4 (tn (f 3)) a) 5 (tn (f 3)) b) 6 (tn (f 3)) l) 7 (tn (f 3)) (zb s)) 4 q = u2 r 4 (tn (f 3)) a 4 q from by rw [u2_off _ _ (by decide), u2_off _ _ (by decide), u2_off _ _ (by decide)], show (u2 (u2 (u2 (u2 r 4 (tn (f 3)) a) 5 (tn (f 3)) b) 6 (tn (f 3)) l) 7 (tn (f 3)) (zb s)) 5 q = u2 r 5 (tn (f 3)) b 5 q from by rw [u2_off _ _ (by decide), u2_off _ _ (by decide)]; unfold u2; rfl, show (u2 (u2 (u2 (u2 r 4 (tn (f 3)) a) 5 (tn (f 3)) b) 6 (tn (f 3)) l) 7 (tn (f 3)) (zb s)) 6 q = u2 r 6 (tn (f 3)) l 6 q from by rw [u2_off _ _ (by decide)]; unfold u2; rfl]
    by_cases ec : q = tn (f 3)
    · subst ec
      rw [u2_self, u2_self, u2_self]
      have hl := rng_nt (b := 21) (by have := x4.1; rw [Int32.le_iff_toInt_le] at this ⊢; have e1 : (1 : Int32).toInt = 1 := rfl; have e0 : (0 : Int32).toInt = 0 := rfl; omega) x4.2 (by decide)
      refine ⟨(a0.within (by decide)).mp x1, (a0.within (by decide)).mp x2, hl, fun e => ?_, x3⟩
      have := x4.1
      rw [e] at this
      exact absurd this (by decide)
    · rw [u2_ni ec, u2_ni ec, u2_ni ec]
      exact h3 q (by omega)
  · show iD _ (u2 (u2 (u2 (u2 r 4 (tn (f 3)) a) 5 (tn (f 3)) b) 6 (tn (f 3)) l) 7 (tn (f 3)) (zb s)); unfold iD; rw [e 10 (by decide) (by decide) (by decide) (by decide), e 11 (by decide) (by decide) (by decide) (by decide), e 13 (by decide) (by decide) (by decide) (by decide)]; exact h4
  · show iF _ (u2 (u2 (u2 (u2 r 4 (tn (f 3)) a) 5 (tn (f 3)) b) 6 (tn (f 3)) l) 7 (tn (f 3)) (zb s)); unfold iF; rw [e 16 (by decide) (by decide) (by decide) (by decide)]; exact h6
  · intro j hj hj2
    have hj : tn (u1 f 3 (f 3 + 1) 3) ≤ j := hj
    rw [en] at hj
    show (u2 (u2 (u2 (u2 r 4 (tn (f 3)) a) 5 (tn (f 3)) b) 6 (tn (f 3)) l) 7 (tn (f 3)) (zb s)) 8 j = 0
    rw [e 8 (by decide) (by decide) (by decide) (by decide)]; exact h7 j (by omega) hj2
  · show iH _ (u2 (u2 (u2 (u2 r 4 (tn (f 3)) a) 5 (tn (f 3)) b) 6 (tn (f 3)) l) 7 (tn (f 3)) (zb s)); unfold iH; rw [e 20 (by decide) (by decide) (by decide) (by decide), e 21 (by decide) (by decide) (by decide) (by decide), e 26 (by decide) (by decide) (by decide) (by decide)]; exact h8
  · show iS (u2 (u2 (u2 (u2 r 4 (tn (f 3)) a) 5 (tn (f 3)) b) 6 (tn (f 3)) l) 7 (tn (f 3)) (zb s)); unfold iS; rw [e 29 (by decide) (by decide) (by decide) (by decide)]; exact h9
theorem kby_nt (x : Int32) (h : ¬ kby x < 0) : Nt (kby x) 4 := by
  unfold kby at h ⊢
  by_cases h1 : x = 112
  · rw [zi_t h1]; exact Nt.of_nI (k := 0) (by decide) (by decide)
  · rw [zi_f h1] at h ⊢
    by_cases h2 : x = 115
    · rw [zi_t h2]; exact Nt.of_nI (k := 1) (by decide) (by decide)
    · rw [zi_f h2] at h ⊢
      by_cases h3 : x = 116
      · rw [zi_t h3]; exact Nt.of_nI (k := 2) (by decide) (by decide)
      · rw [zi_f h3] at h ⊢
        by_cases h4 : x = 101
        · rw [zi_t h4]; exact Nt.of_nI (k := 3) (by decide) (by decide)
        · rw [zi_f h4] at h; exact absurd (by decide) h
/-- a text that is right has only right pieces -/
theorem sto_ok {b : Nat → Int32} {nc L : Nat} : ∀ k n, n + k = 12 → (∀ i, i < n → rpg b nc (plc b nc i)) → ¬ (sto b nc L k n).1 = 0 → (sto b nc L k n).1 ≤ 12 ∧ ∀ i, i < (sto b nc L k n).1 → rpg b nc (plc b nc i) := by
  intro k
  induction k with
  | zero => intro n hn hi h; exact absurd rfl h
  | succ k ih =>
    intro n hn hi h
    by_cases hg : rpg b nc (plc b nc n)
    · have hi2 : ∀ i, i < n + 1 → rpg b nc (plc b nc i) := fun i hin => by
        rcases (show i < n ∨ i = n by omega) with q | q
        · exact hi i q
        · subst q; exact hg
      by_cases he : plc b nc (n + 1) = L
      · rw [sto_e hg he] at h ⊢
        exact ⟨by show n + 1 ≤ 12; omega, hi2⟩
      · rw [sto_n hg he] at h ⊢
        exact ih (n + 1) (by omega) hi2 h
    · rw [sto_f hg] at h
      exact absurd rfl h
theorem i_story {f : zf} {r : zg} (h : Inv f r) : Inv (ac_story f r).2.1 (ac_story f r).2.2 := by
  have hclr : Inv (u1 f 17 0) r := by
    obtain ⟨h1, h2, h3, h4, h5, h6, h7, h8, h9⟩ := h
    obtain ⟨a0, a3, a9, a17, a18, a27⟩ := h1
    refine ⟨⟨a0, a3, a9, ?_, a18, a27⟩, h2, h3, h4, h5, fun j hj => ?_, h7, h8, h9⟩
    · show Nt (u1 f 17 0 17) 201
      rw [u1_self]; exact Nt.of_nI (k := 0) (by decide) (by decide)
    · have hj : j < tn (u1 f 17 0 17) := hj
      rw [u1_self] at hj; exact absurd hj (Nat.not_lt_zero j)
  refine zi_inv (fun _ => hclr.fd _) (fun hz => zi_inv (fun _ => hclr.fd _) (fun h94 => ?_))
  obtain ⟨s1, s2⟩ := sto_ok 12 0 (by omega) (fun i hi => absurd hi (Nat.not_lt_zero i)) hz
  have s1 : (stf f r).1 ≤ 12 := s1
  have s2 : ∀ i, i < (stf f r).1 → rpg (pB f r) (tn (f 0)) (plc (pB f r) (tn (f 0)) i) := s2
  show Inv (u1 (u1 f 17 0) 9 (f 9 + 1)) (ue r (tn (f 9)) (stf f r).1 (stv f r) (stf f r).1)
  obtain ⟨h1, h2, h3, h4, h5, h6, h7, h8, h9⟩ := hclr
  obtain ⟨a0, a3, a9, a17, a18, a27⟩ := h1
  have a9 : Nt (f 9) 5 := a9
  obtain ⟨v1, v2, v3⟩ := a9.up (k := 4) (by decide) h94
  have en : tn (u1 (u1 f 17 0) 9 (f 9 + 1) 9) = tn (f 9) + 1 := by rw [u1_self]; exact v1
  have e : ∀ k, (k < 10 ∨ 15 < k) → ue r (tn (f 9)) (stf f r).1 (stv f r) (stf f r).1 k = r k := fun k hk => ue_k hk
  refine ⟨⟨a0, a3, ?_, a17, a18, a27⟩, ?_, ?_, fun q hq => ?_, fun w hw => ?_, ?_, ?_, ?_, ?_⟩
  · show Nt (u1 (u1 f 17 0) 9 (f 9 + 1) 9) 5
    rw [u1_self]; exact v2
  · show iB _ (ue r _ _ _ _); unfold iB; rw [e 1 (by decide), e 2 (by decide)]; exact h2
  · show WyI (ue r _ _ _ _) _ _; unfold WyI; rw [e 4 (by decide), e 5 (by decide), e 6 (by decide)]; exact h3
  · have hq : q < tn (u1 (u1 f 17 0) 9 (f 9 + 1) 9) := hq
    rw [en] at hq
    by_cases eq : q = tn (f 9)
    · subst eq
      rw [ue_10]
      refine ⟨Nt.of_nI (by omega) (by omega), fun p hp => ?_⟩
      rw [tn_nI (by omega)] at hp
      rw [ue_i (by decide) (by decide) hp, ue_i (by decide) (by decide) hp]
      have hg := s2 p hp
      have hl := hsb_w hg.2.2.1 (by decide)
      refine ⟨kby_nt _ hg.2.1, ?_, ?_⟩
      · show Nt (nI (wh _ 49 + 1)) 10
        exact Nt.of_nI (by omega) (by omega)
      · show ¬ nI (wh _ 49 + 1) = 0
        exact nI_s0 (by omega)
    · rw [ue_10o eq]
      obtain ⟨g1, g2⟩ := h4 q (show q < tn (f 9) by omega)
      have g1b := g1.2
      refine ⟨g1, fun p hp => ?_⟩
      rw [ue_o (by decide) (by omega), ue_o (by decide) (by omega)]
      exact g2 p hp
  · have hw2 := h5 w hw
    have h22 : tn (r 22 w) < tn (f 9) := hw2.1.2
    have hnp := (h4 (tn (r 22 w)) h22).1.2
    have hnp : npw r w < 13 := hnp
    refine hw2.c (Nat.le_refl _) (show tn (f 9) ≤ tn (u1 (u1 f 17 0) 9 (f 9 + 1) 9) by rw [en]; omega) (ue_10o (by omega)) (fun p hp => ?_) (by rw [e 19 (by decide)]) (by rw [e 20 (by decide)]) (by rw [e 22 (by decide)]) (by rw [e 23 (by decide)]) (by rw [e 26 (by decide)])
    exact ⟨ue_o (by decide) (by omega), ue_o (by decide) (by omega), ue_o (by decide) (by omega), ue_o (by decide) (by omega)⟩
  · show iF _ (ue r _ _ _ _); unfold iF; rw [e 16 (by decide)]; exact h6
  · show iG _ (ue r _ _ _ _); unfold iG; rw [e 8 (by decide)]; exact h7
  · show iH _ (ue r _ _ _ _); unfold iH; rw [e 20 (by decide), e 21 (by decide), e 26 (by decide)]; exact h8
  · show iS (ue r _ _ _ _); unfold iS; rw [e 29 (by decide)]; exact h9
