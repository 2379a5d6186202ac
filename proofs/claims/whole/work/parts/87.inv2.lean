theorem urk_off {I : zI} {a b lo k : Nat} {g : Nat → Int32} (h : b ≠ a) : ur I a lo k g b = I b := by
  funext j
  unfold ur
  rw [if_neg (fun e => h e.1)]
theorem i_write {f : zf} {r : zg} (h : Inv f r) (s i v : Int32) : Inv (ac_write f r s i v).2.1 (ac_write f r s i v).2.2 := by
  refine zi_inv (fun _ => zi_inv (fun _ => h.fd _) (fun _ => zi_inv (fun _ => ?_) (fun _ => h.fd _))) (fun _ => h.fd _)
  show Inv f (u2 r 30 (12 * tn s + tn i) _)
  refine h.k (fun k _ _ _ _ _ hk => u2_off _ _ hk) (fun q hq => ?_)
  rw [u2_off _ _ (by decide)]
  exact h.2.2.2.2.2.2.2.2 q hq
theorem i_copy {f : zf} {r : zg} (h : Inv f r) (s a t c n : Int32) : Inv (ac_copy f r s a t c n).2.1 (ac_copy f r s a t c n).2.2 := by
  refine zi_inv (fun _ => zi_inv (fun _ => h.fd _) (fun _ => zi_inv (fun _ => zi_inv (fun _ => ?_) (fun _ => h.fd _)) (fun _ => h.fd _))) (fun _ => h.fd _)
  show Inv f (ur r 30 (12 * tn t + tn c) (tn n) (fun q => r 30 (12 * tn s + tn a + q)))
  refine h.k (fun k _ _ _ _ _ hk => urk_off hk) (fun q hq => ?_)
  rw [urk_off (by decide)]
  exact h.2.2.2.2.2.2.2.2 q hq
theorem i_sheet {f : zf} {r : zg} (h : Inv f r) (s w n : Int32) : Inv (ac_sheet f r s w n).2.1 (ac_sheet f r s w n).2.2 := by
  refine zi_inv (fun _ => zi_inv (fun h0 => zi_inv (fun h12 => ?_) (fun _ => h.fd _)) (fun _ => h.fd _)) (fun _ => h.fd _)
  show Inv f (ur (u2 (u2 r 28 (tn s) w) 29 (tn s) (zi (w = 0) 0 n)) 30 (12 * tn s) 12 (fun _ => 0))
  refine h.k (fun k _ _ _ k28 k29 k30 => by rw [urk_off k30, u2_off _ _ k29, u2_off _ _ k28]) (fun q hq => ?_)
  rw [urk_off (by decide)]
  by_cases e : q = tn s
  · subst e
    rw [u2_self]
    by_cases hw : w = 0
    · rw [zi_t hw]; exact Nt.of_nI (k := 0) (by decide) (by decide)
    · rw [zi_f hw]
      refine Nt.mk h0 ?_
      have h12 : n ≤ 12 := h12
      rw [Int32.le_iff_toInt_le] at h12
      have : (12 : Int32).toInt = 12 := rfl
      omega
  · rw [u2_ni e, u2_off _ _ (by decide)]
    exact h.2.2.2.2.2.2.2.2 q hq
theorem wby_nt (w : Int64) (i : Nat) : Nt (wby w i) 256 := by
  rw [← bw_wby]
  obtain ⟨j, hj, e⟩ := pk_andE (bw w i) (m := 255) 8 (by decide)
  rw [e]
  exact Nt.of_nI hj (by omega)
theorem i_feed {f : zf} {r : zg} (h : Inv f r) (w : Int64) (n : Int32) : Inv (ac_feed f r w n).2.1 (ac_feed f r w n).2.2 := by
  refine zi_inv (fun hn => zi_inv (fun h200 => ?_) (fun _ => h.fd _)) (fun _ => h.fd _)
  obtain ⟨h1, h2, h3, h4, h5, h6, h7, h8, h9⟩ := h
  obtain ⟨a0, a3, a9, a17, a18, a27⟩ := h1
  have hn0 : 0 ≤ n := by
    have := hn.1
    rw [Int32.le_iff_toInt_le] at this ⊢
    have e1 : (1 : Int32).toInt = 1 := rfl
    have e0 : (0 : Int32).toInt = 0 := rfl
    omega
  obtain ⟨n1, n2⟩ := tn_pos hn0
  have hn8 : tn n ≤ 8 := by
    have := hn.2
    rw [Int32.le_iff_toInt_le] at this
    have e8 : (8 : Int32).toInt = 8 := rfl
    omega
  have b17 := a17.2
  have es : f 17 + n = nI (tn (f 17) + tn n) := by
    conv => lhs; rw [a17.1, n1]
    exact nI_add _ _
  have et : tn (f 17 + n) = tn (f 17) + tn n := by rw [es, tn_nI (by omega)]
  have h201 : tn (f 17) + tn n ≤ 200 := by
    have h200 : f 17 + n ≤ 200 := h200
    rw [es, show (200 : Int32) = nI 200 from rfl, nI_leI (by omega) (by decide)] at h200
    exact h200
  have e : ∀ k, k ≠ 16 → ur r 16 (tn (f 17)) (tn n) (wby w) k = r k := fun k hk => urk_off hk
  refine ⟨⟨a0, a3, a9, ?_, a18, a27⟩, ?_, ?_, ?_, fun q hq => (h5 q hq).s (Nat.le_refl _) (Nat.le_refl _) (fun k a b => e k (by omega)) (e 19 (by decide)) (e 20 (by decide)) (e 22 (by decide)) (e 23 (by decide)) (e 26 (by decide)), ?_, ?_, ?_, ?_⟩
  · show Nt (u1 f 17 (f 17 + n) 17) 201
    rw [u1_self, es]; exact Nt.of_nI (by omega) (by omega)
  · show iB _ (ur r 16 _ _ _); unfold iB; rw [e 1 (by decide), e 2 (by decide)]; exact h2
  · show WyI (ur r 16 _ _ _) _ _; unfold WyI; rw [e 4 (by decide), e 5 (by decide), e 6 (by decide)]; exact h3
  · show iD _ (ur r 16 _ _ _); unfold iD; rw [e 10 (by decide), e 11 (by decide), e 13 (by decide)]; exact h4
  · intro j hj
    have hj : j < tn (u1 f 17 (f 17 + n) 17) := hj
    rw [u1_self, et] at hj
    show Nt (ur r 16 (tn (f 17)) (tn n) (wby w) 16 j) 256
    unfold ur
    by_cases hc : 16 = 16 ∧ tn (f 17) ≤ j ∧ j < tn (f 17) + tn n
    · rw [if_pos hc]; exact wby_nt w _
    · rw [if_neg hc]; exact h6 j (by omega)
  · show iG _ (ur r 16 _ _ _); unfold iG; rw [e 8 (by decide)]; exact h7
  · show iH _ (ur r 16 _ _ _); unfold iH; rw [e 20 (by decide), e 21 (by decide), e 26 (by decide)]; exact h8
  · show iS (ur r 16 _ _ _); unfold iS; rw [e 29 (by decide)]; exact h9
theorem Nt.w {x : Int32} {a b : Nat} (h : Nt x a) (hab : a ≤ b) : Nt x b := ⟨h.1, Nat.lt_of_lt_of_le h.2 hab⟩
theorem Nt.up {x : Int32} {k : Nat} (h : Nt x (k + 1)) (hk : k < 2 ^ 20) (hne : ¬ x = nI k) : tn (x + 1) = tn x + 1 ∧ Nt (x + 1) (k + 1) ∧ tn x < k := by
  have hlt := h.lt (by omega) hne
  have e : x + 1 = nI (tn x + 1) := by
    conv => lhs; rw [h.1]
    exact nI_1 _
  refine ⟨by rw [e, tn_nI (by omega)], ?_, hlt⟩
  rw [e]; exact Nt.of_nI (by omega) (by omega)
theorem rng_nt {x y : Int32} {b : Nat} (h0 : 0 ≤ x) (h : x ≤ y) (hy : y.toInt < b) : Nt x b := by
  refine Nt.mk h0 ?_
  rw [Int32.le_iff_toInt_le] at h
  omega
theorem i_corner {f : zf} {r : zg} (h : Inv f r) (x y : Int32) : Inv (ac_corner f r x y).2.1 (ac_corner f r x y).2.2 := by
  refine zi_inv (fun hxy => zi_inv (fun _ => h.fd _) (fun h8 => ?_)) (fun _ => h.fd _)
  obtain ⟨h1, h2, h3, h4, h5, h6, h7, h8', h9⟩ := h
  obtain ⟨a0, a3, a9, a17, a18, a27⟩ := h1
  obtain ⟨u1', u2', u3'⟩ := a0.up (k := 8) (by decide) h8
  have e : ∀ k, k ≠ 1 → k ≠ 2 → u2 (u2 r 1 (tn (f 0)) x) 2 (tn (f 0)) y k = r k := fun k k1 k2 => by rw [u2_off _ _ k2, u2_off _ _ k1]
  have en : tn (u1 f 0 (f 0 + 1) 0) = tn (f 0) + 1 := by rw [u1_self]; exact u1'
  refine ⟨⟨?_, a3, a9, a17, a18, a27⟩, ?_, ?_, ?_, fun q hq => ?_, ?_, ?_, ?_, ?_⟩
  · show Nt (u1 f 0 (f 0 + 1) 0) 9
    rw [u1_self]; exact u2'
  · intro c hc
    have hc : c < tn (u1 f 0 (f 0 + 1) 0) := hc
    rw [en] at hc
    show Nt (u2 (u2 r 1 (tn (f 0)) x) 2 (tn (f 0)) y 1 c) 100 ∧ Nt (u2 (u2 r 1 (tn (f 0)) x) 2 (tn (f 0)) y 2 c) 100
    rw [u2_off _ _ (show 1 ≠ 2 by decide)]
    by_cases ec : c = tn (f 0)
    · subst ec
      rw [u2_self, u2_self]
      exact ⟨rng_nt hxy.1.1 hxy.1.2 (by decide), rng_nt hxy.2.1 hxy.2.2 (by decide)⟩
    · rw [u2_ni ec, u2_ni ec, u2_off _ _ (show 2 ≠ 1 by decide)]
      exact h2 c (by omega)
  · intro q hq
    show Nt (u2 (u2 r 1 (tn (f 0)) x) 2 (tn (f 0)) y 4 q) (tn (u1 f 0 (f 0 + 1) 0)) ∧ Nt (u2 (u2 r 1 (tn (f 0)) x) 2 (tn (f 0)) y 5 q) (tn (u1 f 0 (f 0 + 1) 0)) ∧ Nt (u2 (u2 r 1 (tn (f 0)) x) 2 (tn (f 0)) y 6 q) 21 ∧ ¬ u2 (u2 r 1 (tn (f 0)) x) 2 (tn (f 0)) y 6 q = 0 ∧ ¬ u2 (u2 r 1 (tn (f 0)) x) 2 (tn (f 0)) y 4 q = u2 (u2 r 1 (tn (f 0)) x) 2 (tn (f 0)) y 5 q
    rw [en, e 4 (by decide) (by decide), e 5 (by decide) (by decide), e 6 (by decide) (by decide)]
    obtain ⟨w1, w2, w3⟩ := h3 q hq
    exact ⟨w1.w (by omega), w2.w (by omega), w3⟩
  · show iD _ (u2 (u2 r 1 _ _) 2 _ _); unfold iD; rw [e 10 (by decide) (by decide), e 11 (by decide) (by decide), e 13 (by decide) (by decide)]; exact h4
  · exact (h5 q hq).s (show tn (f 0) ≤ tn (u1 f 0 (f 0 + 1) 0) by rw [en]; omega) (Nat.le_refl _) (fun k a b => e k (by omega) (by omega)) (e 19 (by decide) (by decide)) (e 20 (by decide) (by decide)) (e 22 (by decide) (by decide)) (e 23 (by decide) (by decide)) (e 26 (by decide) (by decide))
  · show iF _ (u2 (u2 r 1 _ _) 2 _ _); unfold iF; rw [e 16 (by decide) (by decide)]; exact h6
  · show iG _ (u2 (u2 r 1 _ _) 2 _ _); unfold iG; rw [e 8 (by decide) (by decide)]; exact h7
  · show iH _ (u2 (u2 r 1 _ _) 2 _ _); unfold iH; rw [e 20 (by decide) (by decide), e 21 (by decide) (by decide), e 26 (by decide) (by decide)]; exact h8'
  · show iS (u2 (u2 r 1 _ _) 2 _ _); unfold iS; rw [e 29 (by decide) (by decide)]; exact h9
