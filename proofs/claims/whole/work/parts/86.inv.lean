/-! what every act keeps -/
def iA (f : zf) : Prop := Nt (f 0) 9 ∧ Nt (f 3) 15 ∧ Nt (f 9) 5 ∧ Nt (f 17) 201 ∧ Nt (f 18) 7 ∧ Nt (f 27) 7
def iB (n : Nat) (r : zg) : Prop := ∀ c, c < n → Nt (r 1 c) 100 ∧ Nt (r 2 c) 100
def iD (n : Nat) (r : zg) : Prop := ∀ e, e < n → Nt (r 10 e) 13 ∧ ∀ p, p < tn (r 10 e) → Nt (r 11 (12 * e + p)) 4 ∧ Nt (r 13 (12 * e + p)) 10 ∧ ¬ r 13 (12 * e + p) = 0
def iW (n0 n9 d : Nat) (r : zg) (w : Nat) : Prop := Nt (r 22 w) n9 ∧ Nt (r 19 w) n0 ∧ (r 23 w = 0 ∨ r 23 w = 1) ∧ Nt (r 26 w) 4 ∧ Nt (r 20 w) (2 ^ npw r w) ∧ stl r (tn (r 22 w)) (npw r w) (r 19 w) d (r 20 w)
def iF (n : Nat) (r : zg) : Prop := ∀ j, j < n → Nt (r 16 j) 256
def iG (n : Nat) (r : zg) : Prop := ∀ j, n ≤ j → j < 14 → r 8 j = 0
def iH (n : Nat) (r : zg) : Prop := ∀ j, n ≤ j → j < 6 → r 20 j = 0 ∧ r 21 j = 0 ∧ r 26 j = 0
def iS (r : zg) : Prop := ∀ s, s < 4 → Nt (r 29 s) 13
def Inv (f : zf) (r : zg) : Prop := iA f ∧ iB (tn (f 0)) r ∧ WyI r (tn (f 0)) (tn (f 3)) ∧ iD (tn (f 9)) r ∧ (∀ w, w < tn (f 18) → iW (tn (f 0)) (tn (f 9)) (tn (f 27)) r w) ∧ iF (tn (f 17)) r ∧ iG (tn (f 3)) r ∧ iH (tn (f 18)) r ∧ iS r
theorem Inv.wk {f : zf} {r : zg} (h : Inv f r) : WkI f r := ⟨h.1.2.2.2.2.1, h.1.2.2.1, fun e he => ⟨(h.2.2.2.1 e he).1, fun p hp => ((h.2.2.2.1 e he).2 p hp).1⟩, h.1.2.2.2.2.2, fun n hn => (h.2.2.2.2.1 n hn).1⟩
theorem Inv.sn {f : zf} {r : zg} (h : Inv f r) : SnI f r := ⟨h.wk, h.1.1, h.1.2.1, h.2.1, fun q hq => ⟨(h.2.2.1 q hq).2.2.1, (h.2.2.1 q hq).2.2.2.2⟩, fun n hn => ⟨(h.2.2.2.2.1 n hn).2.1, (h.2.2.2.2.1 n hn).2.2.1, (h.2.2.2.2.1 n hn).2.2.2.1⟩⟩
theorem Inv.sr {f : zf} {r : zg} (h : Inv f r) : SrI f r := ⟨h.sn, h.2.2.1, fun e he p hp => ((h.2.2.2.1 e he).2 p hp).2, fun w hw => (h.2.2.2.2.1 w hw).2.2.2.2⟩
theorem Inv.fd {f : zf} {r : zg} (h : Inv f r) (w : Int32) : Inv (fdg w f r).2.1 (fdg w f r).2.2 := h
/-- at the start -/
theorem Inv0 : Inv (fun _ => 0) (fun _ _ => 0) := by
  have z : Nt (0 : Int32) 1 := Nt.of_nI (k := 0) (by decide) (by decide)
  have z0 : tn (0 : Int32) = 0 := rfl
  have up : ∀ b, 0 < b → Nt (0 : Int32) b := fun b hb => ⟨z.1, by rw [z0]; exact hb⟩
  refine ⟨⟨up _ (by decide), up _ (by decide), up _ (by decide), up _ (by decide), up _ (by decide), up _ (by decide)⟩, fun c hc => absurd hc (Nat.not_lt_zero c), fun c hc => absurd hc (Nat.not_lt_zero c), fun c hc => absurd hc (Nat.not_lt_zero c), fun c hc => absurd hc (Nat.not_lt_zero c), fun c hc => absurd hc (Nat.not_lt_zero c), fun _ _ _ => rfl, fun _ _ _ => ⟨rfl, rfl, rfl⟩, fun _ _ => up _ (by decide)⟩
/-- walkers and editions do not see other rows -/
theorem iW.c {n0 n0' n9 n9' d : Nat} {r r' : zg} {w : Nat} (h : iW n0 n9 d r w) (h0 : n0 ≤ n0') (h9 : n9 ≤ n9') (e10 : r' 10 (tn (r 22 w)) = r 10 (tn (r 22 w))) (e11 : ∀ p, p < npw r w → r' 11 (12 * tn (r 22 w) + p) = r 11 (12 * tn (r 22 w) + p) ∧ r' 12 (12 * tn (r 22 w) + p) = r 12 (12 * tn (r 22 w) + p) ∧ r' 14 (12 * tn (r 22 w) + p) = r 14 (12 * tn (r 22 w) + p) ∧ r' 15 (12 * tn (r 22 w) + p) = r 15 (12 * tn (r 22 w) + p)) (e19 : r' 19 w = r 19 w) (e20 : r' 20 w = r 20 w) (e22 : r' 22 w = r 22 w) (e23 : r' 23 w = r 23 w) (e26 : r' 26 w = r 26 w) : iW n0' n9' d r' w := by
  obtain ⟨h1, h2, h3, h4, h5, h6⟩ := h
  have en : npw r' w = npw r w := by show tn (r' 10 (tn (r' 22 w))) = _; rw [e22, e10]
  unfold iW
  rw [en, e19, e20, e22, e23, e26]
  refine ⟨⟨h1.1, Nat.lt_of_lt_of_le h1.2 h9⟩, ⟨h2.1, Nat.lt_of_lt_of_le h2.2 h0⟩, h3, h4, h5, ?_⟩
  rcases h6 with ⟨p, g1, g2, g3⟩ | g
  · exact Or.inl ⟨p, g1, by rw [(e11 p g1).1]; exact g2, g3⟩
  · refine Or.inr (fun q q0 q1 => ?_)
    unfold canP
    rw [(e11 q q1).1, (e11 q q1).2.1, (e11 q q1).2.2.1, (e11 q q1).2.2.2]
    exact g q q0 q1
theorem iW.s {n0 n0' n9 n9' d : Nat} {r r' : zg} {w : Nat} (h : iW n0 n9 d r w) (h0 : n0 ≤ n0') (h9 : n9 ≤ n9') (hk : ∀ k, 10 ≤ k → k ≤ 15 → r' k = r k) (e19 : r' 19 = r 19) (e20 : r' 20 = r 20) (e22 : r' 22 = r 22) (e23 : r' 23 = r 23) (e26 : r' 26 = r 26) : iW n0' n9' d r' w := h.c h0 h9 (by rw [hk 10 (by decide) (by decide)]) (fun p _ => by rw [hk 11 (by decide) (by decide), hk 12 (by decide) (by decide), hk 14 (by decide) (by decide), hk 15 (by decide) (by decide)]; exact ⟨rfl, rfl, rfl, rfl⟩) (by rw [e19]) (by rw [e20]) (by rw [e22]) (by rw [e23]) (by rw [e26])
/-- only rows that nobody asks of change -/
theorem Inv.k {f : zf} {r r' : zg} (h : Inv f r) (hr : ∀ k, k ≠ 7 → k ≠ 24 → k ≠ 25 → k ≠ 28 → k ≠ 29 → k ≠ 30 → r' k = r k) (hS : iS r') : Inv f r' := by
  obtain ⟨h1, h2, h3, h4, h5, h6, h7, h8, h9⟩ := h
  have e : ∀ k, k < 7 ∨ (7 < k ∧ k < 24) ∨ k = 26 ∨ k = 27 → r' k = r k := fun k hk => hr k (by omega) (by omega) (by omega) (by omega) (by omega) (by omega)
  refine ⟨h1, ?_, ?_, ?_, fun w hw => (h5 w hw).s (Nat.le_refl _) (Nat.le_refl _) (fun k a b => e k (by omega)) (e _ (by omega)) (e _ (by omega)) (e _ (by omega)) (e _ (by omega)) (e _ (by omega)), ?_, ?_, ?_, hS⟩
  · unfold iB; rw [e 1 (by omega), e 2 (by omega)]; exact h2
  · unfold WyI; rw [e 4 (by omega), e 5 (by omega), e 6 (by omega)]; exact h3
  · unfold iD; rw [e 10 (by omega), e 11 (by omega), e 13 (by omega)]; exact h4
  · unfold iF; rw [e 16 (by omega)]; exact h6
  · unfold iG; rw [e 8 (by omega)]; exact h7
  · unfold iH; rw [e 20 (by omega), e 21 (by omega), e 26 (by omega)]; exact h8
/-- the acts that only answer -/
theorem zi_inv {p : Prop} {a b : zO} (ha : p → Inv a.2.1 a.2.2) (hb : ¬ p → Inv b.2.1 b.2.2) : Inv (zi p a b).2.1 (zi p a b).2.2 := by
  by_cases h : p
  · rw [zi_t h]; exact ha h
  · rw [zi_f h]; exact hb h
theorem i_told {f : zf} {r : zg} (h : Inv f r) (w : Int32) : Inv (ac_told f r w).2.1 (ac_told f r w).2.2 := by
  unfold ac_told
  repeat' first
    | exact h
    | exact h.fd _
    | refine zi_inv (fun _ => ?_) (fun _ => ?_)
theorem i_as {f : zf} {r : zg} (h : Inv f r) (e p k : Int32) : Inv (ac_as f r e p k).2.1 (ac_as f r e p k).2.2 := by
  unfold ac_as
  repeat' first
    | exact h
    | exact h.fd _
    | refine zi_inv (fun _ => ?_) (fun _ => ?_)
theorem i_of {f : zf} {r : zg} (h : Inv f r) (e p k : Int32) : Inv (ac_of f r e p k).2.1 (ac_of f r e p k).2.2 := by
  unfold ac_of
  repeat' first
    | exact h
    | exact h.fd _
    | refine zi_inv (fun _ => ?_) (fun _ => ?_)
theorem i_about {f : zf} {r : zg} (h : Inv f r) (w k : Int32) : Inv (ac_about f r w k).2.1 (ac_about f r w k).2.2 := by
  unfold ac_about
  repeat' first
    | exact h
    | exact h.fd _
    | refine zi_inv (fun _ => ?_) (fun _ => ?_)
theorem i_far {f : zf} {r : zg} (h : Inv f r) (a b d : Int32) (s : Prop) : Inv (ac_far f r a b d s).2.1 (ac_far f r a b d s).2.2 := by
  unfold ac_far
  repeat' first
    | exact h
    | exact h.fd _
    | refine zi_inv (fun _ => ?_) (fun _ => ?_)
theorem i_check {f : zf} {r : zg} (h : Inv f r) (e c d : Int32) (s : Prop) (k : Int32) : Inv (ac_check f r e c d s k).2.1 (ac_check f r e c d s k).2.2 := by
  unfold ac_check
  repeat' first
    | exact h
    | exact h.fd _
    | refine zi_inv (fun _ => ?_) (fun _ => ?_)
theorem i_quickest {f : zf} {r : zg} (h : Inv f r) (e c d : Int32) (s : Prop) : Inv (ac_quickest f r e c d s).2.1 (ac_quickest f r e c d s).2.2 := by
  unfold ac_quickest
  repeat' first
    | exact h
    | exact h.fd _
    | refine zi_inv (fun _ => ?_) (fun _ => ?_)
theorem i_route {f : zf} {r : zg} (h : Inv f r) (e c d : Int32) (s : Prop) (i : Int32) : Inv (ac_route f r e c d s i).2.1 (ac_route f r e c d s i).2.2 := by
  unfold ac_route
  repeat' first
    | exact h
    | exact h.fd _
    | refine zi_inv (fun _ => ?_) (fun _ => ?_)
theorem i_offer {f : zf} {r : zg} (h : Inv f r) (w : Int32) : Inv (ac_offer f r w).2.1 (ac_offer f r w).2.2 := by
  unfold ac_offer
  repeat' first
    | exact h
    | exact h.fd _
    | refine zi_inv (fun _ => ?_) (fun _ => ?_)
theorem i_rest {f : zf} {r : zg} (h : Inv f r) (w : Int32) : Inv (ac_rest f r w).2.1 (ac_rest f r w).2.2 := by
  unfold ac_rest
  repeat' first
    | exact h
    | exact h.fd _
    | refine zi_inv (fun _ => ?_) (fun _ => ?_)
theorem i_lost {f : zf} {r : zg} (h : Inv f r) (w : Int32) : Inv (ac_lost f r w).2.1 (ac_lost f r w).2.2 := by
  unfold ac_lost
  repeat' first
    | exact h
    | exact h.fd _
    | refine zi_inv (fun _ => ?_) (fun _ => ?_)
theorem i_shut {f : zf} {r : zg} (h : Inv f r) (w d : Int32) : Inv (ac_shut f r w d).2.1 (ac_shut f r w d).2.2 := by
  refine zi_inv (fun hw => ?_) (fun _ => h.fd _)
  obtain ⟨q, hq, rfl⟩ := fnd h.1.2.1 (by decide) hw.1
  have h3 := h.1.2.1.2
  rw [show (r 8 (tn (nI q)), f, u2 r 8 (tn (nI q)) d) = (r 8 q, f, u2 r 8 q d) by rw [tn_nI (by omega)]]
  obtain ⟨h1, h2, h3, h4, h5, h6, h7, h8, h9⟩ := h
  have e : ∀ k, k ≠ 8 → u2 r 8 q d k = r k := fun k hk => u2_off _ _ hk
  refine ⟨h1, ?_, ?_, ?_, fun w hw => (h5 w hw).s (Nat.le_refl _) (Nat.le_refl _) (fun k a b => e k (by omega)) (e 19 (by decide)) (e 20 (by decide)) (e 22 (by decide)) (e 23 (by decide)) (e 26 (by decide)), ?_, fun j hj hj2 => ?_, ?_, ?_⟩
  · show iB _ (u2 r 8 q d); unfold iB; rw [e 1 (by decide), e 2 (by decide)]; exact h2
  · show WyI (u2 r 8 q d) _ _; unfold WyI; rw [e 4 (by decide), e 5 (by decide), e 6 (by decide)]; exact h3
  · show iD _ (u2 r 8 q d); unfold iD; rw [e 10 (by decide), e 11 (by decide), e 13 (by decide)]; exact h4
  · show iF _ (u2 r 8 q d); unfold iF; rw [e 16 (by decide)]; exact h6
  · show u2 r 8 q d 8 j = 0
    have hj : tn (f 3) ≤ j := hj
    rw [u2_ni (by omega)]; exact h7 j hj hj2
  · show iH _ (u2 r 8 q d); unfold iH; rw [e 20 (by decide), e 21 (by decide), e 26 (by decide)]; exact h8
  · show iS (u2 r 8 q d); unfold iS; rw [e 29 (by decide)]; exact h9
