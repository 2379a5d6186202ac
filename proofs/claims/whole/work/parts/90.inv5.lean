theorem tdy_j {d : Nat} {r : zg} {k j : Nat} : ∀ n, n ≤ j → tdy d n r k j = r k j := by
  intro n
  induction n with
  | zero => intro _; rfl
  | succ n ih =>
    intro h
    show rz (tdy d n r) n _ k j = _
    rw [rz, u2_ni (by omega), u2_ni (by omega), u2_ni (by omega)]
    exact ih (by omega)
theorem rz_k {r : zg} {w k : Nat} {z : zl} (h0 : k ≠ 20) (h1 : k ≠ 21) (h4 : k ≠ 24) : rz r w z k = r k := by rw [rz, u2_off _ _ h4, u2_off _ _ h1, u2_off _ _ h0]
theorem rz_j {r : zg} {w k j : Nat} {z : zl} (h : j ≠ w) : rz r w z k j = r k j := by rw [rz, u2_ni h, u2_ni h, u2_ni h]
/-- a walker that listens where it is -/
theorem iW.lw {n0 n9 d : Nat} {r : zg} {w : Nat} (h22 : Nt (r 22 w) n9) (h10 : npw r w ≤ 12) (h19 : Nt (r 19 w) n0) (h23 : r 23 w = 0 ∨ r 23 w = 1) (h26 : Nt (r 26 w) 4) (hz : Nt (r 20 w) (2 ^ npw r w)) : iW n0 n9 d (rz r w (lsw r d w)) w := by
  have e : ∀ k, k ≠ 20 → k ≠ 21 → k ≠ 24 → rz r w (lsw r d w) k = r k := fun k k1 k2 k3 => rz_k k1 k2 k3
  have enp : npw (rz r w (lsw r d w)) w = npw r w := by
    show tn (rz r w (lsw r d w) 10 (tn (rz r w (lsw r d w) 22 w))) = _
    rw [e 22 (by decide) (by decide) (by decide), e 10 (by decide) (by decide) (by decide)]
  refine iW.ls (z := (r 20 w, r 21 w, r 24 w, 0)) ?_ ?_ ?_ ?_ ?_ ?_ ?_
  · rw [e 22 (by decide) (by decide) (by decide)]; exact h22
  · rw [enp]; exact h10
  · rw [e 19 (by decide) (by decide) (by decide)]; exact h19
  · rw [e 23 (by decide) (by decide) (by decide)]; exact h23
  · rw [e 26 (by decide) (by decide) (by decide)]; exact h26
  · rw [enp]; exact hz
  · rw [enp, e 22 (by decide) (by decide) (by decide), e 19 (by decide) (by decide) (by decide), lsn_congr (e 11 (by decide) (by decide) (by decide)) (e 12 (by decide) (by decide) (by decide)) (e 13 (by decide) (by decide) (by decide)) (e 14 (by decide) (by decide) (by decide)) (e 15 (by decide) (by decide) (by decide))]
    show rz r w (lsw r d w) 20 w = (lsw r d w).1
    generalize lsw r d w = z
    simp [rz, u2]
theorem i_today {f : zf} {r : zg} (h : Inv f r) (y : Int32) : Inv (ac_today f r y).2.1 (ac_today f r y).2.2 := by
  refine zi_inv (fun hy => ?_) (fun _ => h.fd _)
  show Inv (u1 f 27 y) (tdy (tn y) (tn (f 18)) r)
  obtain ⟨q, hq7, rfl⟩ := day7 hy
  have tq : tn (nI q) = q := tn_nI (by omega)
  rw [tq]
  have hnps : ∀ w, w < tn (f 18) → npw r w ≤ 12 := fun w hw => h.np hw
  obtain ⟨h1, h2, h3, h4, h5, h6, h7, h8, h9⟩ := h
  obtain ⟨a0, a3, a9, a17, a18, a27⟩ := h1
  have key : ∀ n, n ≤ tn (f 18) → ∀ w, w < n → iW (tn (f 0)) (tn (f 9)) q (tdy q n r) w := by
    intro n
    induction n with
    | zero => intro _ w hw; exact absurd hw (Nat.not_lt_zero w)
    | succ n ih =>
      intro hn w hw
      show iW _ _ _ (rz (tdy q n r) n (lsw (tdy q n r) q n)) w
      by_cases ew : w = n
      · subst ew
        obtain ⟨g1, g2, g3, g4, g5, g6⟩ := h5 w (by omega)
        have e : ∀ k, tdy q w r k w = r k w := fun k => tdy_j w (Nat.le_refl _)
        have enp : npw (tdy q w r) w = npw r w := by
          show tn (tdy q w r 10 (tn (tdy q w r 22 w))) = _
          rw [e 22, tdy_k (by decide) (by decide) (by decide)]
        exact iW.lw (by rw [e]; exact g1) (by rw [enp]; exact hnps w (by omega)) (by rw [e]; exact g2) (by rw [e]; exact g3) (by rw [e]; exact g4) (by rw [enp, e]; exact g5)
      · have i := ih (by omega) w (by omega)
        exact i.c (Nat.le_refl _) (Nat.le_refl _) (by rw [rz_k (by decide) (by decide) (by decide)]) (fun p _ => by rw [rz_k (k := 11) (by decide) (by decide) (by decide), rz_k (k := 12) (by decide) (by decide) (by decide), rz_k (k := 14) (by decide) (by decide) (by decide), rz_k (k := 15) (by decide) (by decide) (by decide)]; exact ⟨rfl, rfl, rfl, rfl⟩) (rz_j ew) (rz_j ew) (rz_j ew) (rz_j ew) (rz_j ew)
  have e : ∀ k, k ≠ 20 → k ≠ 21 → k ≠ 24 → tdy q (tn (f 18)) r k = r k := fun k k1 k2 k3 => tdy_k k1 k2 k3 _
  refine ⟨⟨a0, a3, a9, a17, a18, ?_⟩, ?_, ?_, ?_, fun w hw => ?_, ?_, ?_, fun j a b => ?_, ?_⟩
  · show Nt (u1 f 27 (nI q) 27) 7
    rw [u1_self]; exact Nt.of_nI hq7 (by omega)
  · show iB _ (tdy _ _ _); unfold iB; rw [e 1 (by decide) (by decide) (by decide), e 2 (by decide) (by decide) (by decide)]; exact h2
  · show WyI (tdy _ _ _) _ _; unfold WyI; rw [e 4 (by decide) (by decide) (by decide), e 5 (by decide) (by decide) (by decide), e 6 (by decide) (by decide) (by decide)]; exact h3
  · show iD _ (tdy _ _ _); unfold iD; rw [e 10 (by decide) (by decide) (by decide), e 11 (by decide) (by decide) (by decide), e 13 (by decide) (by decide) (by decide)]; exact h4
  · have e27 : tn (u1 f 27 (nI q) 27) = q := by rw [u1_self]; exact tq
    rw [e27]
    exact key (tn (f 18)) (Nat.le_refl _) w hw
  · show iF _ (tdy _ _ _); unfold iF; rw [e 16 (by decide) (by decide) (by decide)]; exact h6
  · show iG _ (tdy _ _ _); unfold iG; rw [e 8 (by decide) (by decide) (by decide)]; exact h7
  · have a : tn (f 18) ≤ j := a
    rw [tdy_j _ a, tdy_j _ a, tdy_j _ a]
    exact h8 j a b
  · show iS (tdy _ _ _); unfold iS; rw [e 29 (by decide) (by decide) (by decide)]; exact h9
theorem i_walker {f : zf} {r : zg} (h : Inv f r) (c : Int32) (s : Prop) : Inv (ac_walker f r c s).2.1 (ac_walker f r c s).2.2 := by
  refine zi_inv (fun hc => zi_inv (fun _ => h.fd _) (fun h9' => zi_inv (fun _ => h.fd _) (fun h6' => ?_))) (fun _ => h.fd _)
  show Inv (u1 f 18 (f 18 + 1)) (rz (rwk f r (tn (f 18)) c s) (tn (f 18)) (lsw (rwk f r (tn (f 18)) c s) (tn (f 27)) (tn (f 18))))
  obtain ⟨i1, i2, i3, i4, i5⟩ := rwk_ed (w := tn (f 18)) (c := c) (s := s) h.wk h9'
  obtain ⟨h1, h2, h3, h4, h5, h6, h7, h8, h9⟩ := h
  obtain ⟨a0, a3, a9, a17, a18, a27⟩ := h1
  obtain ⟨v1, v2, v3⟩ := a18.up (k := 6) (by decide) h6'
  have en : tn (u1 f 18 (f 18 + 1) 18) = tn (f 18) + 1 := by rw [u1_self]; exact v1
  have rk : ∀ k, k ≠ 19 → k ≠ 23 → k ≠ 22 → k ≠ 24 → rwk f r (tn (f 18)) c s k = r k := fun k k1 k2 k3 k4 => rwk_k k1 k2 k3 k4
  have e : ∀ k, k < 19 ∨ 24 < k → rz (rwk f r (tn (f 18)) c s) (tn (f 18)) (lsw (rwk f r (tn (f 18)) c s) (tn (f 27)) (tn (f 18))) k = r k := fun k hk => by rw [rz_k (by omega) (by omega) (by omega), rk k (by omega) (by omega) (by omega) (by omega)]
  have ej : ∀ k j, j ≠ tn (f 18) → rz (rwk f r (tn (f 18)) c s) (tn (f 18)) (lsw (rwk f r (tn (f 18)) c s) (tn (f 27)) (tn (f 18))) k j = r k j := fun k j hj => by rw [rz_j hj, rwk, u2_ni hj, u2_ni hj, u2_ni hj, u2_ni hj]
  obtain ⟨z1, z2, z3⟩ := h8 (tn (f 18)) (Nat.le_refl _) v3
  refine ⟨⟨a0, a3, a9, a17, ?_, a27⟩, ?_, ?_, ?_, fun w hw => ?_, ?_, ?_, fun j a b => ?_, ?_⟩
  · show Nt (u1 f 18 (f 18 + 1) 18) 7
    rw [u1_self]; exact v2
  · show iB _ (rz _ _ _); unfold iB; rw [e 1 (by decide), e 2 (by decide)]; exact h2
  · show WyI (rz _ _ _) _ _; unfold WyI; rw [e 4 (by decide), e 5 (by decide), e 6 (by decide)]; exact h3
  · show iD _ (rz _ _ _); unfold iD; rw [e 10 (by decide), e 11 (by decide), e 13 (by decide)]; exact h4
  · have hw : w < tn (u1 f 18 (f 18 + 1) 18) := hw
    rw [en] at hw
    by_cases ew : w = tn (f 18)
    · subst ew
      refine iW.lw ⟨i1, i2⟩ i5 ?_ ?_ ?_ ?_
      · rw [show rwk f r (tn (f 18)) c s 19 (tn (f 18)) = c by simp [rwk, u2]]
        exact (a0.within (by decide)).mp hc
      · rw [show rwk f r (tn (f 18)) c s 23 (tn (f 18)) = zb s by simp [rwk, u2]]
        by_cases hs : s
        · exact Or.inr (zb_t hs)
        · exact Or.inl (zb_f hs)
      · rw [rk 26 (by decide) (by decide) (by decide) (by decide), z3]; exact Nt.of_nI (k := 0) (by decide) (by decide)
      · rw [rk 20 (by decide) (by decide) (by decide) (by decide), z1]; exact ⟨rfl, Nat.two_pow_pos _⟩
    · exact (h5 w (by show w < tn (f 18); omega)).c (Nat.le_refl _) (Nat.le_refl _) (by rw [e 10 (by decide)]) (fun p _ => by rw [e 11 (by decide), e 12 (by decide), e 14 (by decide), e 15 (by decide)]; exact ⟨rfl, rfl, rfl, rfl⟩) (ej _ _ ew) (ej _ _ ew) (ej _ _ ew) (ej _ _ ew) (ej _ _ ew)
  · show iF _ (rz _ _ _); unfold iF; rw [e 16 (by decide)]; exact h6
  · show iG _ (rz _ _ _); unfold iG; rw [e 8 (by decide)]; exact h7
  · have a : tn (u1 f 18 (f 18 + 1) 18) ≤ j := a
    rw [en] at a
    rw [ej 20 j (by omega), ej 21 j (by omega), ej 26 j (by omega)]
    exact h8 j (by show tn (f 18) ≤ j; omega) b
  · show iS (rz _ _ _); unfold iS; rw [e 29 (by decide)]; exact h9
