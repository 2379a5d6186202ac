/-- a way that is open that day between two corners, of that length -/
def edg (r : zg) (nc nw d : Nat) (s : Prop) (a b l : Nat) : Prop := (1 ≤ l ∧ l ≤ 20 ∧ a < nc ∧ b < nc ∧ a ≠ b) ∧ ∃ w, w < nw ∧ opn r d s w ∧ ((r 4 w = nI a ∧ r 5 w = nI b) ∨ (r 4 w = nI b ∧ r 5 w = nI a)) ∧ r 6 w = nI l
theorem edg.sy {r : zg} {nc nw d : Nat} {s : Prop} {a b l : Nat} (h : edg r nc nw d s a b l) : edg r nc nw d s b a l := by
  obtain ⟨⟨h1, h2, h3, h4, h5⟩, w, g1, g2, g3, g4⟩ := h
  exact ⟨⟨h1, h2, h4, h3, fun e => h5 e.symm⟩, w, g1, g2, g3.symm, g4⟩
/-- the ways' rows -/
def WyI (r : zg) (nc nw : Nat) : Prop := ∀ w, w < nw → Nt (r 4 w) nc ∧ Nt (r 5 w) nc ∧ Nt (r 6 w) 21 ∧ ¬ r 6 w = 0 ∧ ¬ r 4 w = r 5 w
theorem WyI.ed {r : zg} {nc nw d : Nat} {s : Prop} (h : WyI r nc nw) {w : Nat} (hw : w < nw) (ho : opn r d s w) : edg r nc nw d s (tn (r 4 w)) (tn (r 5 w)) (tn (r 6 w)) := by
  obtain ⟨h1, h2, h3, h4, h5⟩ := h w hw
  refine ⟨⟨?_, by have := h3.2; omega, h1.2, h2.2, fun e => h5 (by rw [h1.1, h2.1, e])⟩, w, hw, ho, Or.inl ⟨h1.1, h2.1⟩, h3.1⟩
  rcases Nat.eq_zero_or_pos (tn (r 6 w)) with z | z
  · exact absurd (by rw [h3.1, z]; rfl) h4
  · exact z
/-- next to be told at a moment; one goes on from it -/
def nxS (r : zg) (e np d S c p : Nat) : Prop := p < np ∧ canP r e (nI c) (nI S) d p ∧ ∀ q, q < p → ¬ canP r e (nI c) (nI S) d q
def mvS (r : zg) (e np d S c : Nat) : Prop := ¬ ovr r e (nI S) np ∧ ∀ q, q < np → ¬ canP r e (nI c) (nI S) d q
theorem nx_or (r : zg) (e np d S c : Nat) : (∃ p, nxS r e np d S c p) ∨ ∀ q, q < np → ¬ canP r e (nI c) (nI S) d q := by
  by_cases h : ∃ p, p < np ∧ canP r e (nI c) (nI S) d p
  · left
    obtain ⟨p, h1, h2⟩ := h
    obtain ⟨q, ⟨g1, g2⟩, g3⟩ := least_of (fun p => p) p (p := fun p => p < np ∧ canP r e (nI c) (nI S) d p) ⟨p, ⟨h1, h2⟩, Nat.le_refl _⟩
    exact ⟨q, g1, g2, fun k hk hc => by have := g3 k ⟨by omega, hc⟩; omega⟩
  · right
    exact fun q hq hc => h ⟨q, hq, hc⟩
theorem nx_un {r : zg} {e np d S c p q : Nat} (h : nxS r e np d S c p) (g : nxS r e np d S c q) : p = q := by
  rcases Nat.lt_trichotomy p q with h1 | h1 | h1
  · exact absurd h.2.1 (g.2.2 p h1)
  · exact h1
  · exact absurd g.2.1 (h.2.2 q h1)
theorem nx_up {r : zg} {e np d S c p : Nat} (h : nxS r e np d S c p) (hn : np ≤ 12) (hS : S < 2 ^ np) : S < S ||| 2 ^ p ∧ S ||| 2 ^ p < 2 ^ np ∧ hset (nI S) p = nI (S ||| 2 ^ p) := by
  have h12 : 2 ^ np ≤ 2 ^ 12 := Nat.pow_le_pow_right (by decide) hn
  have hp := h.1
  have h2p : 2 ^ p < 2 ^ np := Nat.pow_lt_pow_right (by decide) hp
  have hb : S.testBit p = false := by
    have := h.2.1.2.1
    rw [bt_nI (by omega)] at this
    exact Bool.not_eq_true _ ▸ this
  have ho := Nat.or_lt_two_pow hS h2p
  refine ⟨?_, ho, ?_⟩
  · have hle : S ≤ S ||| 2 ^ p := Nat.left_le_or
    rcases Nat.lt_or_ge S (S ||| 2 ^ p) with q | q
    · exact q
    · have he : S ||| 2 ^ p = S := Nat.le_antisymm q hle
      have : (S ||| 2 ^ p).testBit p = true := by rw [Nat.testBit_or, Nat.testBit_two_pow_self, Bool.or_true]
      rw [he, hb] at this
      cases this
  · show nI S ||| (1 : Int32) <<< (nI p &&& 31) = _
    rw [nI_sh12 p (by omega), nI_or (by omega) (by omega)]
def FARn : Nat := 100000000
def NEVn : Nat := 1000000000
abbrev lnP (r : zg) (e p : Nat) : Nat := tn (r 13 (12 * e + p))
/-- the times of the moments of one set -/
def TmS (r : zg) (e np nc nw d : Nat) (s : Prop) (K : Nat) (dom : Nat → Nat → Prop) (tm : Nat → Nat → Nat) (S : Nat) : Prop := (∀ c, dom S c → (ovr r e (nI S) np → tm S c = 0) ∧ (¬ ovr r e (nI S) np → ∀ p, nxS r e np d S c p → tm S c = min K (lnP r e p + tm (S ||| 2 ^ p) c))) ∧ Sol (edg r nc nw d s) (mvS r e np d S) (dom S) K (tm S)
def TmOK (r : zg) (e np nc nw d : Nat) (s : Prop) (K : Nat) (dom : Nat → Nat → Prop) (tm : Nat → Nat → Nat) : Prop := ∀ S, S < 2 ^ np → TmS r e np nc nw d s K dom tm S
/-- closed under steps -/
def Cls (r : zg) (e np nc nw d : Nat) (s : Prop) (X : Nat → Nat → Prop) : Prop := ∀ S c, X S c → ¬ ovr r e (nI S) np → (∀ p, nxS r e np d S c p → X (S ||| 2 ^ p) c) ∧ (mvS r e np d S c → ∀ c' l, edg r nc nw d s c c' l → X S c')
/-- what can be come to from a moment -/
def Rch (r : zg) (e np nc nw d : Nat) (s : Prop) (S0 c0 S c : Nat) : Prop := ∀ X : Nat → Nat → Prop, Cls r e np nc nw d s X → X S0 c0 → X S c
theorem Rch.cl {r : zg} {e np nc nw d : Nat} {s : Prop} {S0 c0 : Nat} : Cls r e np nc nw d s (Rch r e np nc nw d s S0 c0) := fun S c h ho => ⟨fun p hp X hX h0 => (hX S c (h X hX h0) ho).1 p hp, fun hm c' l hl X hX h0 => (hX S c (h X hX h0) ho).2 hm c' l hl⟩
theorem Rch.rf {r : zg} {e np nc nw d : Nat} {s : Prop} {S0 c0 : Nat} : Rch r e np nc nw d s S0 c0 S0 c0 := fun _ _ h => h
theorem Rch.in {r : zg} {e np nc nw d : Nat} {s : Prop} {S0 c0 S c : Nat} (h : Rch r e np nc nw d s S0 c0 S c) (hn : np ≤ 12) (hS : S0 < 2 ^ np) (hc : c0 < nc) : S0 ≤ S ∧ S < 2 ^ np ∧ c < nc :=
  h (fun S c => S0 ≤ S ∧ S < 2 ^ np ∧ c < nc) (fun S c hX ho => ⟨fun p hp => by have := nx_up hp hn hX.2.1; exact ⟨by omega, this.2.1, hX.2.2⟩, fun hm c' l hl => ⟨hX.1, hX.2.1, hl.1.2.2.2.1⟩⟩) ⟨Nat.le_refl _, hS, hc⟩
theorem Eg.mk' {r : zg} {e np nc nw d : Nat} {s : Prop} {S : Nat} {dom : Nat → Prop} (hnc : nc ≤ 8) (hd : ∀ c c' l, dom c → mvS r e np d S c → edg r nc nw d s c c' l → dom c') : Eg (edg r nc nw d s) (mvS r e np d S) dom := ⟨fun c c' l h => ⟨h.1.1, h.1.2.1, by have := h.1.2.2.1; omega, by have := h.1.2.2.2.1; omega⟩, hd⟩
/-- there are times -/
theorem Tm_ex (r : zg) (e np nc nw d : Nat) (s : Prop) (K : Nat) (hn : np ≤ 12) (hnc : nc ≤ 8) : ∃ tm, TmOK r e np nc nw d s K (fun _ c => c < nc) tm := by
  have key : ∀ k, k ≤ 2 ^ np → ∃ tm, ∀ S, S < 2 ^ np → 2 ^ np - k ≤ S → TmS r e np nc nw d s K (fun _ c => c < nc) tm S := by
    intro k
    induction k with
    | zero => intro _; exact ⟨fun _ _ => 0, fun S h1 h2 => by omega⟩
    | succ k ih =>
      intro hk
      obtain ⟨tm, htm⟩ := ih (by omega)
      have hE : Eg (edg r nc nw d s) (mvS r e np d (2 ^ np - (k + 1))) (fun c => c < nc) := Eg.mk' hnc (fun c c' l _ _ h => h.1.2.2.2.1)
      obtain ⟨v, hv, hb⟩ := Sol_ex (K := K) (base := fun c => zi (ovr r e (nI (2 ^ np - (k + 1))) np) 0 (zi (∃ p, nxS r e np d (2 ^ np - (k + 1)) c p) (min K (lnP r e (tn (nxv (canP r e (nI c) (nI (2 ^ np - (k + 1))) d) 0 np)) + tm ((2 ^ np - (k + 1)) ||| 2 ^ (tn (nxv (canP r e (nI c) (nI (2 ^ np - (k + 1))) d) 0 np))) c)) 0)) hE
      refine ⟨u1 tm (2 ^ np - (k + 1)) v, fun S hS1 hS2 => ?_⟩
      by_cases hS : S = 2 ^ np - (k + 1)
      · subst hS
        unfold TmS
        rw [u1_self]
        refine ⟨fun c hc => ⟨fun ho => ?_, fun ho p hp => ?_⟩, hv⟩
        · rw [hb c (fun h => h.2.1 ho), zi_t ho]
        · have hup := nx_up hp hn hS1
          have hx : nxv (canP r e (nI c) (nI (2 ^ np - (k + 1))) d) 0 np = nI p := by
            rcases nxv_or (canP r e (nI c) (nI (2 ^ np - (k + 1))) d) 0 np with ⟨g1, g2⟩ | ⟨q, g0, g1, g2, g3, g4⟩
            · exact absurd hp.2.1 (g2 p (Nat.zero_le _) hp.1)
            · rw [g4, nx_un hp ⟨g1, g2, fun k hk => g3 k (Nat.zero_le _) hk⟩]
          have hp12 := hp.1
          rw [hb c (fun h => h.2.2 p hp.1 hp.2.1), zi_f ho, zi_t ⟨p, hp⟩, hx, tn_nI (by omega), u1_na (by omega)]
      · have h1 := htm S hS1 (by omega)
        unfold TmS at h1 ⊢
        rw [u1_na hS]
        refine ⟨fun c hc => ⟨(h1.1 c hc).1, fun ho p hp => ?_⟩, h1.2⟩
        have hup := nx_up hp hn hS1
        rw [u1_na (by omega)]
        exact (h1.1 c hc).2 ho p hp
  obtain ⟨tm, h⟩ := key (2 ^ np) (Nat.le_refl _)
  exact ⟨tm, fun S hS => h S hS (by omega)⟩
/-- the times -/
noncomputable def tmf (r : zg) (e np nc nw d : Nat) (s : Prop) : Nat → Nat → Nat := Classical.epsilon (TmOK r e np nc nw d s FARn (fun _ c => c < nc))
theorem tmf_ok {r : zg} {e np nc nw d : Nat} {s : Prop} (hn : np ≤ 12) (hnc : nc ≤ 8) : TmOK r e np nc nw d s FARn (fun _ c => c < nc) (tmf r e np nc nw d s) := Classical.epsilon_spec (Tm_ex r e np nc nw d s FARn hn hnc)
/-- times with a greater time of none are the same, up to it -/
theorem Tm_un {r : zg} {e np nc nw d : Nat} {s : Prop} {K : Nat} {dom : Nat → Nat → Prop} {v : Nat → Nat → Nat} (hn : np ≤ 12) (hnc : nc ≤ 8) (hK : FARn ≤ K) (hdc : ∀ S c, dom S c → c < nc) (hcl : Cls r e np nc nw d s dom) (hv : TmOK r e np nc nw d s K dom v) : ∀ k S c, S < 2 ^ np → 2 ^ np ≤ S + k → dom S c → min (v S c) FARn = tmf r e np nc nw d s S c := by
  have hu := tmf_ok (r := r) (e := e) (nw := nw) (d := d) (s := s) hn hnc
  intro k
  induction k with
  | zero => intro S c h1 h2; omega
  | succ k ih =>
    intro S c h1 h2 hd
    have hnm : ∀ c, dom S c → ¬ mvS r e np d S c → min (v S c) FARn = tmf r e np nc nw d s S c := by
      intro c hd hm
      by_cases ho : ovr r e (nI S) np
      · rw [((hv S h1).1 c hd).1 ho, ((hu S h1).1 c (hdc S c hd)).1 ho]; rfl
      · rcases nx_or r e np d S c with ⟨p, hp⟩ | h
        · have hup := nx_up hp hn h1
          have i := ih (S ||| 2 ^ p) c hup.2.1 (by omega) ((hcl S c hd ho).1 p hp)
          rw [((hv S h1).1 c hd).2 ho p hp, ((hu S h1).1 c (hdc S c hd)).2 ho p hp, ← i]
          omega
        · exact absurd ⟨ho, h⟩ hm
    have hE : Eg (edg r nc nw d s) (mvS r e np d S) (dom S) := Eg.mk' hnc (fun c c' l a b h => (hcl S c a b.1).2 b c' l h)
    exact (Sol_eq hE (v := tmf r e np nc nw d s S) (v' := fun c => min (v S c) FARn) (fun c a b => (hu S h1).2 c (hdc S c a) b) (Sol_cap (hv S h1).2 hK) hnm c hd)
/-- a time that is one is not long -/
theorem Tm_bd {r : zg} {e np nc nw d : Nat} {s : Prop} {K : Nat} {dom : Nat → Nat → Prop} {v : Nat → Nat → Nat} (hn : np ≤ 12) (hnc : nc ≤ 8) (hl : ∀ p, p < np → lnP r e p ≤ 9) (hcl : Cls r e np nc nw d s dom) (hv : TmOK r e np nc nw d s K dom v) : ∀ k S c, S < 2 ^ np → 2 ^ np ≤ S + k → dom S c → v S c < K → v S c ≤ 200 * k := by
  intro k
  induction k with
  | zero => intro S c h1 h2; omega
  | succ k ih =>
    intro S c h1 h2 hd hk
    have hE : Eg (edg r nc nw d s) (mvS r e np d S) (dom S) := Eg.mk' hnc (fun c c' l a b h => (hcl S c a b.1).2 b c' l h)
    have hnm : ∀ c, dom S c → ¬ mvS r e np d S c → v S c < K → v S c ≤ 200 * k + 9 := by
      intro c hd hm hk
      by_cases ho : ovr r e (nI S) np
      · rw [((hv S h1).1 c hd).1 ho]; omega
      · rcases nx_or r e np d S c with ⟨p, hp⟩ | h
        · have hup := nx_up hp hn h1
          have e1 := ((hv S h1).1 c hd).2 ho p hp
          have i := ih (S ||| 2 ^ p) c hup.2.1 (by omega) ((hcl S c hd ho).1 p hp) (by omega)
          have := hl p hp.1
          omega
        · exact absurd ⟨ho, h⟩ hm
    have := Sol_bd hE (hv S h1).2 hnm _ c (Nat.le_refl _) hd hk
    have := cnp_le (fun a => v S a < v S c) 8
    omega
