theorem cnp_congr {p q : Nat → Prop} (n : Nat) (h : ∀ c, c < n → (p c ↔ q c)) : cnp p n = cnp q n := Nat.le_antisymm (cnp_mono n (fun c hc => (h c hc).mp)) (cnp_mono n (fun c hc => (h c hc).mpr))
theorem cnp_all : ∀ n, cnp (fun _ => True) n = n := by
  intro n
  induction n with
  | zero => rfl
  | succ n ih => rw [cnp_t trivial, ih]
theorem cnp_add {a p : Nat → Prop} {q0 : Nat} (ha : ¬ a q0) : ∀ n, q0 < n → cnp (fun q => (a q ∨ q = q0) ∧ p q) n = cnp (fun q => a q ∧ p q) n + zi (p q0) 1 0 := by
  intro n
  induction n with
  | zero => intro h; omega
  | succ n ih =>
    intro h
    show cnp (fun q => (a q ∨ q = q0) ∧ p q) n + zi ((a n ∨ n = q0) ∧ p n) 1 0 = cnp (fun q => a q ∧ p q) n + zi (a n ∧ p n) 1 0 + zi (p q0) 1 0
    by_cases hn : n = q0
    · subst hn
      rw [zi_f (fun h => ha h.1 : ¬ (a n ∧ p n)), cnp_congr (p := fun q => (a q ∨ q = n) ∧ p q) (q := fun q => a q ∧ p q) n (fun c hc => ⟨fun h => ⟨h.1.elim id (fun e => absurd e (by omega)), h.2⟩, fun h => ⟨Or.inl h.1, h.2⟩⟩)]
      by_cases hp : p n
      · rw [zi_t hp, zi_t ⟨Or.inr rfl, hp⟩]
      · rw [zi_f hp, zi_f (fun h => hp h.2)]
    · rw [ih (by omega), show ((a n ∨ n = q0) ∧ p n) = (a n ∧ p n) from propext ⟨fun h => ⟨h.1.elim id (fun e => absurd e hn), h.2⟩, fun h => ⟨Or.inl h.1, h.2⟩⟩]
      omega
/-- the row of moments that were met: numbers, rows -/
def BS (m : Nat) (ad : Nat → Nat) (N : zN) (I : zI) (n : Nat) (rw' : Nat → Nat) (mt' : Nat → Prop) : Prop := N 11 42 m = nI n ∧ (∀ k, k < n → I (ad 41) k = nI (rw' k)) ∧ ∀ q, q < 32768 → I (ad 40) q = zb (mt' q)
/-- what it means -/
def MI (r : zg) (e np nc nw d : Nat) (s : Prop) (S0 c0 n : Nat) (rw' : Nat → Nat) (mt' : Nat → Prop) : Prop := (∀ k, k < n → Rch r e np nc nw d s S0 c0 (rw' k / 8) (rw' k % 8)) ∧ (∀ q, mt' q ↔ ∃ k, k < n ∧ rw' k = q) ∧ ∀ p : Nat → Prop, cnp (fun k => p (rw' k)) n = cnp (fun q => mt' q ∧ p q) 32768
theorem MI.le {r : zg} {e np nc nw d S0 c0 : Nat} {s : Prop} {n : Nat} {rw' : Nat → Nat} {mt' : Nat → Prop} (h : MI r e np nc nw d s S0 c0 n rw' mt') : n ≤ 32768 := by
  have h1 := h.2.2 (fun _ => True)
  rw [cnp_all] at h1
  rw [h1]; exact cnp_le _ _
theorem MI.lt {r : zg} {e np nc nw d S0 c0 : Nat} {s : Prop} {n : Nat} {rw' : Nat → Nat} {mt' : Nat → Prop} (h : MI r e np nc nw d s S0 c0 n rw' mt') {q : Nat} (hq : q < 32768) (hm : ¬ mt' q) : n < 32768 := by
  have h1 := h.2.2 (fun _ => True)
  rw [cnp_all] at h1
  have h2 := cnp_lt (p := fun q => mt' q ∧ True) (q := fun _ => True) 32768 (fun _ _ _ => trivial) q hq trivial (fun h => hm h.1)
  rw [cnp_all] at h2
  omega
theorem MI.add {r : zg} {e np nc nw d S0 c0 : Nat} {s : Prop} {n : Nat} {rw' : Nat → Nat} {mt' : Nat → Prop} (h : MI r e np nc nw d s S0 c0 n rw' mt') {q : Nat} (hq : q < 32768) (hm : ¬ mt' q) (hR : Rch r e np nc nw d s S0 c0 (q / 8) (q % 8)) : MI r e np nc nw d s S0 c0 (n + 1) (u1 rw' n q) (fun x => mt' x ∨ x = q) := by
  obtain ⟨h1, h2, h3⟩ := h
  refine ⟨fun k hk => ?_, fun x => ?_, fun p => ?_⟩
  · by_cases e : k = n
    · subst e; rw [u1_self]; exact hR
    · rw [u1_na e]; exact h1 k (by omega)
  · constructor
    · rintro (g | g)
      · obtain ⟨k, k1, k2⟩ := (h2 x).mp g
        exact ⟨k, by omega, by rw [u1_na (by omega)]; exact k2⟩
      · exact ⟨n, by omega, by rw [u1_self]; exact g.symm⟩
    · rintro ⟨k, k1, k2⟩
      by_cases e : k = n
      · subst e; rw [u1_self] at k2; exact Or.inr k2.symm
      · rw [u1_na e] at k2; exact Or.inl ((h2 x).mpr ⟨k, by omega, k2⟩)
  · rw [cnp_add hm 32768 hq, ← h3 p]
    show cnp (fun k => p (u1 rw' n q k)) n + zi (p (u1 rw' n q n)) 1 0 = _
    rw [u1_self, cnp_congr (p := fun k => p (u1 rw' n q k)) (q := fun k => p (rw' k)) n (fun c hc => by rw [u1_na (by omega)])]
def FrM (m : Nat) (ad : Nat → Nat) (N : zN) (I : zI) (N' : zN) (I' : zI) : Prop := (∀ c k a, ¬ (c = 11 ∧ k = 42) → N' c k a = N c k a) ∧ ∀ a, a ≠ ad 40 → a ≠ ad 41 → I' a = I a
theorem FrM.rf {m : Nat} {ad : Nat → Nat} {N : zN} {I : zI} : FrM m ad N I N I := ⟨fun _ _ _ _ => rfl, fun _ _ _ => rfl⟩
theorem FrM.tr {m : Nat} {ad : Nat → Nat} {N : zN} {I : zI} {N1 : zN} {I1 : zI} {N2 : zN} {I2 : zI} (h : FrM m ad N I N1 I1) (g : FrM m ad N1 I1 N2 I2) : FrM m ad N I N2 I2 := ⟨fun c k a hc => (g.1 c k a hc).trans (h.1 c k a hc), fun a h1 h2 => (g.2 a h1 h2).trans (h.2 a h1 h2)⟩
theorem FrM.mmr {T : zT} {P : zP} {m : Nat} {ad : Nat → Nat} {N : zN} {I : zI} {N' : zN} {I' : zI} (h : FrM m ad N I N' I') (hM : MOK T P m ad) : mr I' ad = mr I ad := by
  funext a j
  unfold mr
  by_cases hk : a < 32 ∧ zr 11 a = true
  · rw [if_pos hk, if_pos hk, h.2 (ad a) (hM.ne (by omega) (by decide) hk.2 rfl (by omega)) (hM.ne (by omega) (by decide) hk.2 rfl (by omega))]
  · rw [if_neg hk, if_neg hk]
def mtQ (m : Nat) (ad : Nat → Nat) (r : zg) (e np nc nw d : Nat) (s : Prop) (S0 c0 q n : Nat) (rw' : Nat → Nat) (mt' : Nat → Prop) (T : zT) (N : zN) (P : zP) (I : zI) (R : zR) : Option Value → zT → zN → zP → zI → zR → Prop := fun v T' N' P' I' R' => v = none ∧ T = T' ∧ P = P' ∧ R = R' ∧ FrM m ad N I N' I' ∧ ∃ n1 rw1 mt1, BS m ad N' I' n1 rw1 mt1 ∧ MI r e np nc nw d s S0 c0 n1 rw1 mt1 ∧ mt1 q ∧ (∀ x, mt' x → mt1 x) ∧ n ≤ n1 ∧ ∀ k, k < n → rw1 k = rw' k
theorem c_X11_meets {E : zE} {T : zT} {N : zN} {P : zP} {I : zI} {R : zR} (m : Nat) (ad : Nat → Nat) (r : zg) (e np nc nw d : Nat) (s : Prop) (S0 c0 q n : Nat) (rw' : Nat → Nat) (mt' : Nat → Prop) (hM : MOK T P m ad) (hB : BS m ad N I n rw' mt') (hI : MI r e np nc nw d s S0 c0 n rw' mt') (hq : q < 32768) (hR : Rch r e np nc nw d s S0 c0 (q / 8) (q % 8)) : zC E yX11_meets cX11_meets 2 none (zr0 0 0) [.ref m, .int (nI q)] T N P I R (mtQ m ad r e np nc nw d s S0 c0 q n rw' mt' T N P I R) := by
  refine zC.intro (ls := [some (.ref m), some (.int (nI q))]) pl_RX11 (zle rfl) 0 rfl (fun K => ?_)
  refine v_aload_0 dX11_meets_0 rfl ?_
  refine v_getP fl_11_105 (mp_40 hM) (MOK.t hM) rfl (zle rfl) rfl dX11_meets_1 rfl ?_
  refine v_iload_1 dX11_meets_4 rfl ?_
  refine v_zald (j := q) (ma_40 hM) rfl (by omega) (zle rfl) dX11_meets_5 rfl ?_
  refine v_top (hB.2.2 q hq) ?_
  refine v_ifz_ne (tgt := 36) dX11_meets_6 (by decide) rfl (fun c6 => ?_) (fun c6 => ?_)
  · exact v_return rfl (⟨rfl, rfl, rfl, rfl, FrM.rf, n, rw', mt', hB, hI, c6, fun _ h => h, Nat.le_refl _, fun _ _ => rfl⟩) (zle rfl) (zle rfl) dX11_meets_36
  · have hlt := hI.lt hq c6
    refine v_aload_0 dX11_meets_9 rfl ?_
    refine v_getP fl_11_105 (mp_40 hM) (MOK.t hM) rfl (zle rfl) rfl dX11_meets_10 rfl ?_
    refine v_iload_1 dX11_meets_13 rfl ?_
    refine v_iconst (v := 1) dX11_meets_14 rfl rfl ?_
    refine v_zast (j := q) (ma_40 hM) rfl (by omega) (zle rfl) rfl dX11_meets_15 rfl ?_
    refine v_aload_0 dX11_meets_16 rfl ?_
    refine v_getP fl_11_108 (mp_41 hM) (MOK.t hM) rfl (zle rfl) rfl dX11_meets_17 rfl ?_
    refine v_aload_0 dX11_meets_20 rfl ?_
    refine v_getN fl_11_217 (MOK.t hM) rfl (zle rfl) rfl dX11_meets_21 rfl ?_
    refine v_top hB.1 ?_
    refine v_iload_1 dX11_meets_24 rfl ?_
    refine v_iast (j := n) (ma_41 hM) rfl (by omega) (zle rfl) dX11_meets_25 rfl ?_
    refine v_aload_0 dX11_meets_26 rfl ?_
    refine v_dup dX11_meets_27 rfl rfl ?_
    refine v_getN fl_11_217 (MOK.t hM) rfl (zle rfl) rfl dX11_meets_28 rfl ?_
    refine v_top hB.1 ?_
    refine v_iconst (v := 1) dX11_meets_31 rfl rfl ?_
    refine v_iadd dX11_meets_32 rfl ?_
    refine v_top (nI_1 n) ?_
    refine v_putN fw_11_217 (MOK.t hM) rfl (zle rfl) rfl (fun h => by cases h) rfl rfl dX11_meets_33 rfl ?_
    exact v_return rfl (by
      refine ⟨rfl, rfl, rfl, rfl, ⟨fun c k a h => ?_, fun a h1 h2 => by rw [u2_off _ _ h2, u2_off _ _ h1]⟩, n + 1, u1 rw' n q, fun x => mt' x ∨ x = q, ⟨u3_self, fun k hk => ?_, fun x hx => ?_⟩, hI.add hq c6 hR, Or.inr rfl, fun x h => Or.inl h, by omega, fun k hk => u1_na (by omega)⟩
      · unfold u3; rw [if_neg (fun e => h ⟨e.1, e.2.1⟩)]
      · by_cases e : k = n
        · subst e; rw [u2_self, u1_self]
        · rw [u2_ni e, u1_na e, u2_na (hM.ne (by decide) (by decide) rfl rfl (by decide))]; exact hB.2.1 k (by omega)
      · rw [u2_na (hM.ne (by decide) (by decide) rfl rfl (by decide))]
        by_cases e : x = q
        · subst e; rw [u2_self, zb_t (Or.inr rfl)]; rfl
        · rw [u2_ni e, hB.2.2 x hx]; exact zb_iff ⟨Or.inl, fun h => h.elim id (fun h => absurd h e)⟩) (zle rfl) (zle rfl) dX11_meets_36
/-- moment k was looked at -/
def CLk (r : zg) (e np nc nw d : Nat) (s : Prop) (rw' : Nat → Nat) (mt' : Nat → Prop) (k : Nat) : Prop := ¬ ovr r e (nI (rw' k / 8)) np → (∀ p, nxS r e np d (rw' k / 8) (rw' k % 8) p → mt' (8 * (rw' k / 8 ||| 2 ^ p) + rw' k % 8)) ∧ (mvS r e np d (rw' k / 8) (rw' k % 8) → ∀ c' l, edg r nc nw d s (rw' k % 8) c' l → mt' (8 * (rw' k / 8) + c'))
theorem CLk.mv {r : zg} {e np nc nw d : Nat} {s : Prop} {rw' rw1 : Nat → Nat} {mt' mt1 : Nat → Prop} {k : Nat} (h : CLk r e np nc nw d s rw' mt' k) (h1 : rw1 k = rw' k) (h2 : ∀ x, mt' x → mt1 x) : CLk r e np nc nw d s rw1 mt1 k := by
  unfold CLk
  rw [h1]
  exact fun ho => ⟨fun p hp => h2 _ ((h ho).1 p hp), fun hm c' l he => h2 _ ((h ho).2 hm c' l he)⟩
/-- when all were looked at, the met ones are those that can be come to -/
theorem MI.all {r : zg} {e np nc nw d S0 c0 : Nat} {s : Prop} {n : Nat} {rw' : Nat → Nat} {mt' : Nat → Prop} (h : MI r e np nc nw d s S0 c0 n rw' mt') (hc : ∀ k, k < n → CLk r e np nc nw d s rw' mt' k) (h0 : mt' (8 * S0 + c0)) (hn : np ≤ 12) (hnc : nc ≤ 8) (hS0 : S0 < 2 ^ np) (hc0 : c0 < nc) : ∀ q, mt' q ↔ Rch r e np nc nw d s S0 c0 (q / 8) (q % 8) := by
  intro q
  constructor
  · intro hq
    obtain ⟨k, k1, k2⟩ := (h.2.1 q).mp hq
    rw [← k2]; exact h.1 k k1
  · intro hR
    have h1 : mt' (8 * (q / 8) + q % 8) ∧ q % 8 < 8 := by
      refine hR (fun S c => mt' (8 * S + c) ∧ c < 8) (fun S c hX ho => ?_) ⟨h0, by omega⟩
      obtain ⟨k, k1, k2⟩ := (h.2.1 _).mp hX.1
      have hck := hc k k1
      unfold CLk at hck
      have hlt := hX.2
      rw [k2, show (8 * S + c) / 8 = S by omega, show (8 * S + c) % 8 = c by omega] at hck
      exact ⟨fun p hp => ⟨(hck ho).1 p hp, hX.2⟩, fun hm c' l he => ⟨(hck ho).2 hm c' l he, by have := he.1.2.2.2.1; omega⟩⟩
    rw [show 8 * (q / 8) + q % 8 = q by omega] at h1
    exact h1.1
def fmQ (m : Nat) (ad : Nat → Nat) (r : zg) (e np nc nw d : Nat) (s : Prop) (S0 c0 : Nat) (T : zT) (N : zN) (P : zP) (I : zI) (R : zR) : Option Value → zT → zN → zP → zI → zR → Prop := fun v T' N' P' I' R' => v = none ∧ T = T' ∧ P = P' ∧ R = R' ∧ FrM m ad N I N' I' ∧ ∃ n rw' mt', BS m ad N' I' n rw' mt' ∧ MI r e np nc nw d s S0 c0 n rw' mt' ∧ ∀ q, mt' q ↔ Rch r e np nc nw d s S0 c0 (q / 8) (q % 8)
theorem wl_X11_findMoments {E : zE} {T : zT} {N : zN} {P : zP} {I : zI} {R : zR} {m : Nat} {ad : Nat → Nat} {e np nc nw d S0 c0 : Nat} {s : Prop} {c S n0 k : Nat} {rw0 : Nat → Nat} {mt0 : Nat → Prop} {Qf : State → Prop} {K : zK E yX11_findMoments cX11_findMoments 11 none (zr0 2 52)} (hM : MOK T P m ad) (he : e < 4) (hd : d < 7) (hn10 : I (ad 10) e = nI np) (hn12 : np ≤ 12) (hnc : nc ≤ 8) (hn3 : N 11 3 m = nI nw) (hw14 : nw ≤ 14) (hWy : WyI (mr I ad) nc nw) (hS0 : S0 < 2 ^ np) (hc0 : c0 < nc) (hR : Rch (mr I ad) e np nc nw d s S0 c0 S c) (hm : mvS (mr I ad) e np d S c) (hcn : c < nc) (hSn : S < 2 ^ np) :
    ∀ j w (N1 : zN) (I1 : zI) (n1 : Nat) (rw1 : Nat → Nat) (mt1 : Nat → Prop), w + j = nw → BS m ad N1 I1 n1 rw1 mt1 → MI (mr I ad) e np nc nw d s S0 c0 n1 rw1 mt1 → FrM m ad N I N1 I1 → (∀ x, mt0 x → mt1 x) → n0 ≤ n1 → (∀ i, i < n0 → rw1 i = rw0 i) → (∀ q, q < w → opn (mr I ad) d s q → (I (ad 4) q = nI c → mt1 (8 * S + tn (I (ad 5) q))) ∧ (I (ad 5) q = nI c → mt1 (8 * S + tn (I (ad 4) q)))) → (∀ (N1 : zN) (I1 : zI) (n1 : Nat) (rw1 : Nat → Nat) (mt1 : Nat → Prop) (w : Nat), BS m ad N1 I1 n1 rw1 mt1 → MI (mr I ad) e np nc nw d s S0 c0 n1 rw1 mt1 → FrM m ad N I N1 I1 → (∀ x, mt0 x → mt1 x) → n0 ≤ n1 → (∀ i, i < n0 → rw1 i = rw0 i) → (∀ q, q < nw → opn (mr I ad) d s q → (I (ad 4) q = nI c → mt1 (8 * S + tn (I (ad 5) q))) ∧ (I (ad 5) q = nI c → mt1 (8 * S + tn (I (ad 4) q)))) → V K Qf T N1 P I1 R 0 0 206 [some (.ref m), some (.int (nI e)), some (.int (nI c0)), some (.int (nI S0)), some (.int (nI d)), some (.int (zb s)), some (.int (nI k)), some (.int (nI c)), some (.int (nI S)), some (.int (-1)), some (.int (nI w))] []) → V K Qf T N1 P I1 R 0 0 127 [some (.ref m), some (.int (nI e)), some (.int (nI c0)), some (.int (nI S0)), some (.int (nI d)), some (.int (zb s)), some (.int (nI k)), some (.int (nI c)), some (.int (nI S)), some (.int (-1)), some (.int (nI w))] [] := by
  have h12 : 2 ^ np ≤ 2 ^ 12 := Nat.pow_le_pow_right (by decide) hn12
  intro j
  induction j with
  | zero =>
    intro w N1 I1 n1 rw1 mt1 hj hB hI hF h1 h2 h3 h4 kk
    obtain rfl : w = nw := by omega
    refine v_iload_10 dX11_findMoments_127 rfl ?_
    refine v_aload_0 dX11_findMoments_129 rfl ?_
    refine v_getN fl_11_125 (MOK.t hM) rfl (zle rfl) rfl dX11_findMoments_130 rfl ?_
    refine v_top ((hF.1 11 3 m (by decide)).trans hn3) ?_
    refine v_icmp_ge_t (n := 206) (nI_le (a := w) (b := w) (by omega) (by omega)) dX11_findMoments_133 (by decide) ?_
    exact kk N1 I1 n1 rw1 mt1 w hB hI hF h1 h2 h3 h4
  | succ j ih =>
    intro w N1 I1 n1 rw1 mt1 hj hB hI hF h1 h2 h3 h4 kk
    have hmr := hF.mmr hM
    obtain ⟨w1, w2, w3, w4, w5⟩ := hWy w (by omega)
    have w1b := w1.2
    have w2b := w2.2
    have e4 : I1 (ad 4) w = I (ad 4) w := congrFun (congrFun hmr 4) w
    have e5 : I1 (ad 5) w = I (ad 5) w := congrFun (congrFun hmr 5) w
    have q4 : I (ad 4) w = nI (tn (I (ad 4) w)) := w1.1
    have q5 : I (ad 5) w = nI (tn (I (ad 5) w)) := w2.1
    have b4 : tn (I (ad 4) w) < nc := w1.2
    have b5 : tn (I (ad 5) w) < nc := w2.2
    have w5' : ¬ I (ad 4) w = I (ad 5) w := w5
    have hst : ∀ {mt2 : Nat → Prop}, (∀ x, mt1 x → mt2 x) → (opn (mr I ad) d s w → (I (ad 4) w = nI c → mt2 (8 * S + tn (I (ad 5) w))) ∧ (I (ad 5) w = nI c → mt2 (8 * S + tn (I (ad 4) w)))) → ∀ q, q < w + 1 → opn (mr I ad) d s q → (I (ad 4) q = nI c → mt2 (8 * S + tn (I (ad 5) q))) ∧ (I (ad 5) q = nI c → mt2 (8 * S + tn (I (ad 4) q))) := by
      intro mt2 hx hy q hq ho
      rcases (show q < w ∨ q = w by omega) with g | g
      · exact ⟨fun h => hx _ ((h4 q g ho).1 h), fun h => hx _ ((h4 q g ho).2 h)⟩
      · subst g; exact hy ho
    refine v_iload_10 dX11_findMoments_127 rfl ?_
    refine v_aload_0 dX11_findMoments_129 rfl ?_
    refine v_getN fl_11_125 (MOK.t hM) rfl (zle rfl) rfl dX11_findMoments_130 rfl ?_
    refine v_top ((hF.1 11 3 m (by decide)).trans hn3) ?_
    refine v_icmp_ge_f (tgt := 206) (nI_ge (a := w) (b := nw) (by omega) (by omega)) dX11_findMoments_133 (by decide) rfl ?_
    refine v_aload_0 dX11_findMoments_136 rfl ?_
    refine v_iload_10 dX11_findMoments_137 rfl ?_
    refine v_iload_4 dX11_findMoments_139 rfl ?_
    refine v_iload_5 dX11_findMoments_141 rfl ?_
    refine v_callV (ci := 11) (F := TX11) (c_X11_isOpen (I := I1) m ad w d s hM (by omega) hd) yy_X11_isOpen im_X11_isOpen se_X11_isOpen lk_11_148 (MOK.t hM) (zle rfl) rfl (zle rfl) (zle rfl) (zle rfl) (zle rfl) rfl rfl (zle rfl) dX11_findMoments_143 rfl (zp.use ?_)
    rw [hmr]
    refine v_ifz_eq (tgt := 200) dX11_findMoments_146 (by decide) rfl (fun c146 => ?_) (fun c146 => ?_)
    · refine v_iinc_10 dX11_findMoments_200 (nI_1 w) rfl (zle rfl) rfl ?_
      refine v_goto (n := 127) dX11_findMoments_203 (by decide) ?_
      exact ih (w + 1) N1 I1 n1 rw1 mt1 (by omega) hB hI hF h1 h2 h3 (hst (fun _ h => h) (fun ho => absurd ho c146)) kk
    · refine v_aload_0 dX11_findMoments_149 rfl ?_
      refine v_getP fl_11_16 (mp_4 hM) (MOK.t hM) rfl (zle rfl) rfl dX11_findMoments_150 rfl ?_
      refine v_iload_10 dX11_findMoments_153 rfl ?_
      refine v_iald (j := w) (ma_4 hM) rfl (by omega) (zle rfl) dX11_findMoments_155 rfl ?_
      refine v_top e4 ?_
      refine v_iload_7 dX11_findMoments_156 rfl ?_
      refine v_icmp_eq (tgt := 173) dX11_findMoments_158 (by decide) rfl (fun c158 => ?_) (fun c158 => ?_)
      · refine v_aload_0 dX11_findMoments_173 rfl ?_
        refine v_aload_0 dX11_findMoments_174 rfl ?_
        refine v_getP fl_11_16 (mp_4 hM) (MOK.t hM) rfl (zle rfl) rfl dX11_findMoments_175 rfl ?_
        refine v_iload_10 dX11_findMoments_178 rfl ?_
        refine v_iald (j := w) (ma_4 hM) rfl (by omega) (zle rfl) dX11_findMoments_180 rfl ?_
        refine v_top e4 ?_
        refine v_aload_0 dX11_findMoments_181 rfl ?_
        refine v_getP fl_11_19 (mp_5 hM) (MOK.t hM) rfl (zle rfl) rfl dX11_findMoments_182 rfl ?_
        refine v_iload_10 dX11_findMoments_185 rfl ?_
        refine v_iald (j := w) (ma_5 hM) rfl (by omega) (zle rfl) dX11_findMoments_187 rfl ?_
        refine v_top e5 ?_
        refine v_iadd dX11_findMoments_188 rfl ?_
        refine v_iload_7 dX11_findMoments_189 rfl ?_
        refine v_isub dX11_findMoments_191 rfl ?_
        refine v_top (show I (ad 4) w + I (ad 5) w - nI c = nI (tn (I (ad 5) w)) by rw [c158, i_cs]; exact q5) ?_
        have hE := (show Rch (mr I ad) e np nc nw d s S0 c0 S (tn (I (ad 5) w)) from by
          have h9 := hWy.ed (d := d) (s := s) (show w < nw by omega) c146
          have e9 : tn (mr I ad 4 w) = c := by rw [show mr I ad 4 w = nI c from c158]; exact tn_nI (by omega)
          rw [e9] at h9
          exact (Rch.cl S c hR hm.1).2 hm _ _ h9)
        refine v_iload_8 dX11_findMoments_192 rfl ?_
        refine v_callS (c_X11_momentOf (tn (I (ad 5) w)) S) yy_X11_momentOf st_X11_momentOf lk_11_210 (zle rfl) (zle rfl) (zle rfl) (zle rfl) rfl rfl (zle rfl) dX11_findMoments_194 rfl (zp.use ?_)
        refine v_callV (ci := 11) (F := TX11) (c_X11_meets (N := N1) (I := I1) m ad (mr I ad) e np nc nw d s S0 c0 (8 * S + (tn (I (ad 5) w))) n1 rw1 mt1 hM hB hI (by omega) (by rw [show (8 * S + (tn (I (ad 5) w))) / 8 = S by omega, show (8 * S + (tn (I (ad 5) w))) % 8 = (tn (I (ad 5) w)) by omega]; exact hE)) yy_X11_meets im_X11_meets se_X11_meets lk_11_220 (MOK.t hM) (zle rfl) rfl (zle rfl) (zle rfl) (zle rfl) (zle rfl) rfl rfl (zle rfl) dX11_findMoments_197 rfl (fun v1 T2 N2 P2 I2 R2 hq => ?_)
        obtain ⟨rfl, rfl, rfl, rfl, hF2, n2, rw2, mt2, hB2, hI2, m1, m2, m3, m4⟩ := hq
        refine v_iinc_10 dX11_findMoments_200 (nI_1 w) rfl (zle rfl) rfl ?_
        refine v_goto (n := 127) dX11_findMoments_203 (by decide) ?_
        exact ih (w + 1) N2 I2 n2 rw2 mt2 (by omega) hB2 hI2 (hF.tr hF2) (fun x h => m2 x (h1 x h)) (by omega) (fun i hi => (m4 i (by omega)).trans (h3 i hi)) (hst m2 (fun _ => ⟨fun _ => m1, fun h => absurd (c158.trans h.symm) w5'⟩)) kk
      · refine v_aload_0 dX11_findMoments_161 rfl ?_
        refine v_getP fl_11_19 (mp_5 hM) (MOK.t hM) rfl (zle rfl) rfl dX11_findMoments_162 rfl ?_
        refine v_iload_10 dX11_findMoments_165 rfl ?_
        refine v_iald (j := w) (ma_5 hM) rfl (by omega) (zle rfl) dX11_findMoments_167 rfl ?_
        refine v_top e5 ?_
        refine v_iload_7 dX11_findMoments_168 rfl ?_
        refine v_icmp_ne (tgt := 200) dX11_findMoments_170 (by decide) rfl (fun c170 => ?_) (fun c170 => ?_)
        · refine v_iinc_10 dX11_findMoments_200 (nI_1 w) rfl (zle rfl) rfl ?_
          refine v_goto (n := 127) dX11_findMoments_203 (by decide) ?_
          exact ih (w + 1) N1 I1 n1 rw1 mt1 (by omega) hB hI hF h1 h2 h3 (hst (fun _ h => h) (fun _ => ⟨fun h => absurd h c158, fun h => absurd h c170⟩)) kk
        · refine v_aload_0 dX11_findMoments_173 rfl ?_
          refine v_aload_0 dX11_findMoments_174 rfl ?_
          refine v_getP fl_11_16 (mp_4 hM) (MOK.t hM) rfl (zle rfl) rfl dX11_findMoments_175 rfl ?_
          refine v_iload_10 dX11_findMoments_178 rfl ?_
          refine v_iald (j := w) (ma_4 hM) rfl (by omega) (zle rfl) dX11_findMoments_180 rfl ?_
          refine v_top e4 ?_
          refine v_aload_0 dX11_findMoments_181 rfl ?_
          refine v_getP fl_11_19 (mp_5 hM) (MOK.t hM) rfl (zle rfl) rfl dX11_findMoments_182 rfl ?_
          refine v_iload_10 dX11_findMoments_185 rfl ?_
          refine v_iald (j := w) (ma_5 hM) rfl (by omega) (zle rfl) dX11_findMoments_187 rfl ?_
          refine v_top e5 ?_
          refine v_iadd dX11_findMoments_188 rfl ?_
          refine v_iload_7 dX11_findMoments_189 rfl ?_
          refine v_isub dX11_findMoments_191 rfl ?_
          refine v_top (show I (ad 4) w + I (ad 5) w - nI c = nI (tn (I (ad 4) w)) by rw [c170, Int32.add_sub_cancel]; exact q4) ?_
          have hE := (show Rch (mr I ad) e np nc nw d s S0 c0 S (tn (I (ad 4) w)) from by
            have h9 := (hWy.ed (d := d) (s := s) (show w < nw by omega) c146).sy
            have e9 : tn (mr I ad 5 w) = c := by rw [show mr I ad 5 w = nI c from c170]; exact tn_nI (by omega)
            rw [e9] at h9
            exact (Rch.cl S c hR hm.1).2 hm _ _ h9)
          refine v_iload_8 dX11_findMoments_192 rfl ?_
          refine v_callS (c_X11_momentOf (tn (I (ad 4) w)) S) yy_X11_momentOf st_X11_momentOf lk_11_210 (zle rfl) (zle rfl) (zle rfl) (zle rfl) rfl rfl (zle rfl) dX11_findMoments_194 rfl (zp.use ?_)
          refine v_callV (ci := 11) (F := TX11) (c_X11_meets (N := N1) (I := I1) m ad (mr I ad) e np nc nw d s S0 c0 (8 * S + (tn (I (ad 4) w))) n1 rw1 mt1 hM hB hI (by omega) (by rw [show (8 * S + (tn (I (ad 4) w))) / 8 = S by omega, show (8 * S + (tn (I (ad 4) w))) % 8 = (tn (I (ad 4) w)) by omega]; exact hE)) yy_X11_meets im_X11_meets se_X11_meets lk_11_220 (MOK.t hM) (zle rfl) rfl (zle rfl) (zle rfl) (zle rfl) (zle rfl) rfl rfl (zle rfl) dX11_findMoments_197 rfl (fun v1 T2 N2 P2 I2 R2 hq => ?_)
          obtain ⟨rfl, rfl, rfl, rfl, hF2, n2, rw2, mt2, hB2, hI2, m1, m2, m3, m4⟩ := hq
          refine v_iinc_10 dX11_findMoments_200 (nI_1 w) rfl (zle rfl) rfl ?_
          refine v_goto (n := 127) dX11_findMoments_203 (by decide) ?_
          exact ih (w + 1) N2 I2 n2 rw2 mt2 (by omega) hB2 hI2 (hF.tr hF2) (fun x h => m2 x (h1 x h)) (by omega) (fun i hi => (m4 i (by omega)).trans (h3 i hi)) (hst m2 (fun _ => ⟨fun h => absurd h c158, fun _ => m1⟩)) kk
