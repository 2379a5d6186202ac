theorem mu_le9 (h : Int32) (n : Nat) : mu h n ≤ n := by
  unfold mu
  rw [fb_cnp]
  exact cnp_le _ _
/-- what is heard stays a set of the pieces -/
theorem lsn_nt {r : zg} {e np d : Nat} {c : Int32} (hnp : np ≤ 12) : ∀ (k : Nat) (z : zl), Nt z.1 (2 ^ np) → Nt (lsn r e np c d k z).1 (2 ^ np) := by
  have h12 : 2 ^ np ≤ 2 ^ 12 := Nat.pow_le_pow_right (by decide) hnp
  intro k
  induction k with
  | zero => intro z h; exact h
  | succ k ih =>
    intro z h
    by_cases hs : stl r e np c d z.1
    · rw [lsn_st hs]; exact h
    · have h1 : ¬ ovr r e z.1 np := fun g => hs (Or.inl g)
      rcases nxv_or (canP r e c z.1 d) 0 np with ⟨-, g⟩ | ⟨p, g0, g1, g2, g3, g4⟩
      · exact absurd (Or.inr g) hs
      · rw [lsn_go h1 g1 g2 g3]
        refine ih _ ?_
        have hb := h.2
        have hp : 2 ^ p < 2 ^ np := Nat.pow_lt_pow_right (by decide) g1
        show Nt (hset z.1 p) (2 ^ np)
        have e : hset z.1 p = nI (tn z.1 ||| 2 ^ p) := by
          show z.1 ||| (1 : Int32) <<< (nI p &&& 31) = _
          rw [nI_sh12 p (by omega)]
          conv => lhs; rw [h.1]
          exact nI_or (by omega) (by omega)
        rw [e]
        exact Nt.of_nI (Nat.or_lt_two_pow hb hp) (Nat.lt_trans (Nat.or_lt_two_pow hb hp) (by omega))
/-- a walker that has listened -/
theorem iW.ls {n0 n9 d : Nat} {r : zg} {w : Nat} {z : zl} (h22 : Nt (r 22 w) n9) (h10 : npw r w ≤ 12) (h19 : Nt (r 19 w) n0) (h23 : r 23 w = 0 ∨ r 23 w = 1) (h26 : Nt (r 26 w) 4) (hz : Nt z.1 (2 ^ npw r w)) (h20 : r 20 w = (lsn r (tn (r 22 w)) (npw r w) (r 19 w) d 12 z).1) : iW n0 n9 d r w := by
  refine ⟨h22, h19, h23, h26, ?_, ?_⟩
  · rw [h20]; exact lsn_nt h10 12 z hz
  · rw [h20]; exact lsn_done h10 12 z (Nat.le_trans (mu_le9 _ _) h10)
/-- one walker's rows change -/
theorem Inv.w1 {f : zf} {r r' : zg} (h : Inv f r) {w : Nat} (hw : w < tn (f 18)) (hk : ∀ k, k ≠ 19 → k ≠ 20 → k ≠ 21 → k ≠ 24 → k ≠ 25 → k ≠ 26 → r' k = r k) (hj : ∀ k j, j ≠ w → r' k j = r k j) (hW : iW (tn (f 0)) (tn (f 9)) (tn (f 27)) r' w) : Inv f r' := by
  obtain ⟨h1, h2, h3, h4, h5, h6, h7, h8, h9⟩ := h
  have e : ∀ k, k < 19 ∨ k = 22 ∨ k = 23 ∨ 26 < k → r' k = r k := fun k q => hk k (by omega) (by omega) (by omega) (by omega) (by omega) (by omega)
  refine ⟨h1, ?_, ?_, ?_, fun q hq => ?_, ?_, ?_, fun j a b => ?_, ?_⟩
  · unfold iB; rw [e 1 (by omega), e 2 (by omega)]; exact h2
  · unfold WyI; rw [e 4 (by omega), e 5 (by omega), e 6 (by omega)]; exact h3
  · unfold iD; rw [e 10 (by omega), e 11 (by omega), e 13 (by omega)]; exact h4
  · by_cases eq : q = w
    · subst eq; exact hW
    · exact (h5 q hq).c (Nat.le_refl _) (Nat.le_refl _) (by rw [e 10 (by omega)]) (fun p _ => by rw [e 11 (by omega), e 12 (by omega), e 14 (by omega), e 15 (by omega)]; exact ⟨rfl, rfl, rfl, rfl⟩) (hj _ _ eq) (hj _ _ eq) (hj _ _ eq) (hj _ _ eq) (hj _ _ eq)
  · unfold iF; rw [e 16 (by omega)]; exact h6
  · unfold iG; rw [e 8 (by omega)]; exact h7
  · have : j ≠ w := by omega
    rw [hj _ _ this, hj _ _ this, hj _ _ this]; exact h8 j a b
  · unfold iS; rw [e 29 (by omega)]; exact h9
theorem Inv.np {f : zf} {r : zg} (h : Inv f r) {w : Nat} (hw : w < tn (f 18)) : npw r w ≤ 12 := by
  have := (h.2.2.2.1 _ (h.2.2.2.2.1 w hw).1.2).1.2
  have e : npw r w = tn (r 10 (tn (r 22 w))) := rfl
  omega
/-- comes to a corner -/
theorem Inv.cm {f : zf} {r : zg} (h : Inv f r) {w : Nat} (hw : w < tn (f 18)) (r1 : zg) (t c : Int32) (hc : Nt c (tn (f 0))) (hk : ∀ k, k ≠ 19 → k ≠ 20 → k ≠ 21 → k ≠ 24 → k ≠ 25 → k ≠ 26 → r1 k = r k) (hj : ∀ k j, j ≠ w → r1 k j = r k j) (h19 : r1 19 w = c) (h26 : r1 26 w = 0) : Inv f (rz r1 w (cmz f r w t c)) := by
  have hnp := h.np hw
  obtain ⟨g1, g2, g3, g4, g5, g6⟩ := h.2.2.2.2.1 w hw
  have e : ∀ k, k ≠ 20 → k ≠ 21 → k ≠ 24 → rz r1 w (cmz f r w t c) k = r1 k := fun k k1 k2 k3 => by rw [rz, u2_off _ _ k3, u2_off _ _ k2, u2_off _ _ k1]
  have e22 : rz r1 w (cmz f r w t c) 22 = r 22 := by rw [e 22 (by decide) (by decide) (by decide), hk 22 (by decide) (by decide) (by decide) (by decide) (by decide) (by decide)]
  have ek : ∀ k, k < 19 → rz r1 w (cmz f r w t c) k = r k := fun k q => by rw [e k (by omega) (by omega) (by omega), hk k (by omega) (by omega) (by omega) (by omega) (by omega) (by omega)]
  have enp : npw (rz r1 w (cmz f r w t c)) w = npw r w := by
    show tn (rz r1 w (cmz f r w t c) 10 (tn (rz r1 w (cmz f r w t c) 22 w))) = _
    rw [e22, ek 10 (by decide)]
  have e19 : rz r1 w (cmz f r w t c) 19 w = c := by rw [e 19 (by decide) (by decide) (by decide)]; exact h19
  refine h.w1 hw (fun k k1 k2 k3 k4 k5 k6 => by rw [e k k2 k3 k4, hk k k1 k2 k3 k4 k5 k6]) (fun k j hn => by rw [rz, u2_ni hn, u2_ni hn, u2_ni hn]; exact hj k j hn) (iW.ls (z := (r 20 w, t, r 24 w, 0)) ?_ ?_ ?_ ?_ ?_ ?_ ?_)
  · rw [e22]; exact g1
  · rw [enp]; exact hnp
  · rw [e19]; exact hc
  · rw [e 23 (by decide) (by decide) (by decide), hk 23 (by decide) (by decide) (by decide) (by decide) (by decide) (by decide)]; exact g3
  · rw [e 26 (by decide) (by decide) (by decide), h26]; exact Nt.of_nI (k := 0) (by decide) (by decide)
  · rw [enp]; exact g5
  · rw [enp, e22, e19, lsn_congr (ek 11 (by decide)) (ek 12 (by decide)) (ek 13 (by decide)) (ek 14 (by decide)) (ek 15 (by decide))]
    show rz r1 w (cmz f r w t c) 20 w = (cmz f r w t c).1
    generalize cmz f r w t c = z
    simp [rz, u2]
theorem i_go {f : zf} {r : zg} (h : Inv f r) (w y : Int32) : Inv (ac_go f r w y).2.1 (ac_go f r w y).2.2 := by
  refine zi_inv (fun hwy => zi_inv (fun _ => h.fd _) (fun _ => zi_inv (fun hc => zi_inv (fun _ => ?_) (fun _ => h.fd _)) (fun _ => h.fd _))) (fun _ => h.fd _)
  obtain ⟨w, hw, rfl⟩ := fnd h.1.2.2.2.2.1 (by decide) hwy.1
  obtain ⟨y, hy, rfl⟩ := fnd h.1.2.1 (by decide) hwy.2
  have h18 := h.1.2.2.2.2.1.2
  have h3 := h.1.2.1.2
  have tw : tn (nI w) = w := tn_nI (by omega)
  have ty : tn (nI y) = y := tn_nI (by omega)
  obtain ⟨w1, w2, -⟩ := h.2.2.1 y hy
  show Inv f (rz _ (tn (nI w)) (cmz f r (tn (nI w)) _ (oth r (tn (nI y)) (r 19 (tn (nI w))))))
  rw [tw, ty]
  refine h.cm hw _ _ _ ?_ (fun k k1 k2 k3 k4 k5 k6 => by rw [u2_off _ _ k6, u2_off _ _ k1, u2_off _ _ k3]) (fun k j hn => by rw [u2_ni hn, u2_ni hn, u2_ni hn]) (by simp [u2]) u2_self
  unfold oth
  by_cases e : r 4 y = r 19 w
  · rw [zi_t e]; exact w2
  · rw [zi_f e]; exact w1
theorem Inv.rd {f : zf} {r : zg} (h : Inv f r) {w : Nat} (hw : w < tn (f 18)) (x y k : Int32) : Inv f (rds f r w x y k) := by
  have hsn := h.sn.rd hw x y k
  have hsn6 := hsn.2.2.2.2.2 w hw
  unfold rds at hsn6 ⊢
  obtain ⟨g1, g2, g3, g4, g5, g6⟩ := h.2.2.2.2.1 w hw
  by_cases hp : psb r x y k (tn (r 19 w))
  · rw [zi_t hp]
    exact h.w1 hw (fun k _ _ _ _ _ k6 => u2_off _ _ k6) (fun k j hn => u2_ni hn) ⟨g1, g2, g3, by rw [u2_self]; exact Nt.of_nI (k := 0) (by decide) (by decide), g5, g6⟩
  · rw [zi_f hp] at hsn6 ⊢
    by_cases hn1 : rdn r x y k (tn (f 0)) = 1
    · rw [zi_t hn1] at hsn6 ⊢
      by_cases hc : rdC f r w (rdA f r x y k) (rdN r w (rdA f r x y k))
      · rw [zi_t hc]
        obtain ⟨j, j1, j2, j3, j4⟩ := rd_A h.1.1 hn1
        have h0 := h.1.1.2
        refine h.cm hw _ _ _ (by rw [j3]; exact Nt.of_nI j1 (by omega)) (fun k k1 k2 k3 k4 k5 k6 => by rw [u2_off _ _ k6, u2_off _ _ k1, rd1, u2_off _ _ k5, u2_off _ _ k6]) (fun k j hn => by rw [u2_ni hn, u2_ni hn, rd1, u2_ni hn, u2_ni hn]) (by simp [u2]) u2_self
      · rw [zi_f hc] at hsn6 ⊢
        exact h.w1 hw (fun k _ _ _ _ k5 k6 => by rw [rd1, u2_off _ _ k5, u2_off _ _ k6]) (fun k j hn => by rw [rd1, u2_ni hn, u2_ni hn]) ⟨g1, g2, g3, hsn6.2.2, g5, g6⟩
    · rw [zi_f hn1]; exact h
theorem i_seen {f : zf} {r : zg} (h : Inv f r) (w x y k : Int32) : Inv (ac_seen f r w x y k).2.1 (ac_seen f r w x y k).2.2 := by
  refine zi_inv (fun hq0 => zi_inv (fun _ => h.fd _) (fun _ => ?_)) (fun _ => h.fd _)
  obtain ⟨w, hw, rfl⟩ := fnd h.1.2.2.2.2.1 (by decide) hq0.1
  have h18 := h.1.2.2.2.2.1.2
  show Inv f (rds f r (tn (nI w)) x y k)
  rw [tn_nI (by omega)]
  exact h.rd hw x y k
theorem Inv.trc {f : zf} {w s : Nat} : ∀ k n (r : zg), Inv f r → w < tn (f 18) → Inv f (trc f w s k n r).2 := by
  intro k
  induction k with
  | zero => intro n r h _; exact h
  | succ k ih =>
    intro n r h hw
    by_cases hg : trg r w s n
    · rw [trc_t hg]; exact ih _ _ (h.rd hw _ _ _) hw
    · rw [trc_f hg]; exact h
theorem i_trace {f : zf} {r : zg} (h : Inv f r) (s w : Int32) : Inv (ac_trace f r s w).2.1 (ac_trace f r s w).2.2 := by
  refine zi_inv (fun hq0 => zi_inv (fun _ => h.fd _) (fun _ => ?_)) (fun _ => h.fd _)
  obtain ⟨w, hw, rfl⟩ := fnd h.1.2.2.2.2.1 (by decide) hq0.2
  have h18 := h.1.2.2.2.2.1.2
  show Inv f (trc f (tn (nI w)) (tn s) 4 0 r).2
  rw [tn_nI (by omega)]
  exact Inv.trc 4 0 r h hw
