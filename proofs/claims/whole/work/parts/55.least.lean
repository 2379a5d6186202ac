/-! counting, and least times over steps of positive length -/
noncomputable def cnp (p : Nat → Prop) : Nat → Nat
  | 0 => 0
  | n + 1 => cnp p n + zi (p n) 1 0
theorem cnp_t {p : Nat → Prop} {n : Nat} (h : p n) : cnp p (n + 1) = cnp p n + 1 := by show cnp p n + zi (p n) 1 0 = _; rw [zi_t h]
theorem cnp_f {p : Nat → Prop} {n : Nat} (h : ¬ p n) : cnp p (n + 1) = cnp p n := by show cnp p n + zi (p n) 1 0 = _; rw [zi_f h]; rfl
theorem cnp_le (p : Nat → Prop) : ∀ n, cnp p n ≤ n := by
  intro n
  induction n with
  | zero => exact Nat.le_refl _
  | succ n ih =>
    by_cases h : p n
    · rw [cnp_t h]; omega
    · rw [cnp_f h]; omega
theorem cnp_mono {p q : Nat → Prop} : ∀ n, (∀ c, c < n → p c → q c) → cnp p n ≤ cnp q n := by
  intro n
  induction n with
  | zero => intro _; exact Nat.le_refl _
  | succ n ih =>
    intro h
    have i := ih (fun c hc => h c (by omega))
    by_cases h1 : p n
    · rw [cnp_t h1, cnp_t (h n (by omega) h1)]; omega
    · rw [cnp_f h1]
      by_cases h2 : q n
      · rw [cnp_t h2]; omega
      · rw [cnp_f h2]; exact i
theorem cnp_lt {p q : Nat → Prop} : ∀ n, (∀ c, c < n → p c → q c) → ∀ c, c < n → q c → ¬ p c → cnp p n < cnp q n := by
  intro n
  induction n with
  | zero => intro _ c hc; omega
  | succ n ih =>
    intro h c hc hq hp
    by_cases hcn : c = n
    · subst hcn
      rw [cnp_f hp, cnp_t hq]
      have := cnp_mono c (fun c' hc' => h c' (by omega))
      omega
    · have i := ih (fun c hc => h c (by omega)) c (by omega) hq hp
      by_cases h1 : p n
      · rw [cnp_t h1, cnp_t (h n (by omega) h1)]; omega
      · rw [cnp_f h1]
        by_cases h2 : q n
        · rw [cnp_t h2]; omega
        · rw [cnp_f h2]; exact i
theorem cnp_0 {p : Nat → Prop} : ∀ n, cnp p n = 0 → ∀ c, c < n → ¬ p c := by
  intro n h c hc hp
  have := cnp_lt (p := fun _ => False) (q := p) n (fun _ _ h => h.elim) c hc hp (fun h => h)
  omega
def smn (v : Nat → Nat) : Nat → Nat
  | 0 => 0
  | n + 1 => smn v n + v n
theorem smn_o {v : Nat → Nat} {c x : Nat} : ∀ n, n ≤ c → smn (u1 v c x) n = smn v n := by
  intro n
  induction n with
  | zero => intro _; rfl
  | succ n ih =>
    intro h
    show smn (u1 v c x) n + u1 v c x n = smn v n + v n
    rw [ih (by omega), u1_na (by omega)]
theorem smn_lt {v : Nat → Nat} {c x : Nat} (hx : x < v c) : ∀ n, c < n → smn (u1 v c x) n < smn v n := by
  intro n
  induction n with
  | zero => intro h; omega
  | succ n ih =>
    intro h
    show smn (u1 v c x) n + u1 v c x n < smn v n + v n
    by_cases hcn : c = n
    · subst hcn
      rw [smn_o c (Nat.le_refl _), u1_self]; omega
    · have := ih (by omega)
      rw [u1_na (show n ≠ c by omega)]; omega
/-- least times: mv those that go on, dom those that matter, K the time of none -/
def Sol (e : Nat → Nat → Nat → Prop) (mv dom : Nat → Prop) (K : Nat) (v : Nat → Nat) : Prop := ∀ c, dom c → mv c → v c ≤ K ∧ (∀ c' l, e c c' l → v c ≤ l + v c') ∧ (v c < K → ∃ c' l, e c c' l ∧ v c = l + v c')
/-- the steps: their lengths, their corners, none leads out of dom -/
def Eg (e : Nat → Nat → Nat → Prop) (mv dom : Nat → Prop) : Prop := (∀ c c' l, e c c' l → 1 ≤ l ∧ l ≤ 20 ∧ c < 8 ∧ c' < 8) ∧ ∀ c c' l, dom c → mv c → e c c' l → dom c'
theorem Sol_le {e : Nat → Nat → Nat → Prop} {mv dom : Nat → Prop} {K : Nat} {v v' : Nat → Nat} (hE : Eg e mv dom) (h1 : Sol e mv dom K v) (h2 : Sol e mv dom K v') (hb : ∀ c, dom c → ¬ mv c → v' c ≤ v c) : ∀ n c, v c ≤ n → dom c → v' c ≤ v c := by
  intro n
  induction n with
  | zero =>
    intro c hn hd
    by_cases hm : mv c
    · obtain ⟨a1, a2, a3⟩ := h1 c hd hm
      by_cases hk : v c < K
      · obtain ⟨c', l, b1, b2⟩ := a3 hk
        have := (hE.1 c c' l b1).1
        omega
      · have := (h2 c hd hm).1; omega
    · exact hb c hd hm
  | succ n ih =>
    intro c hn hd
    by_cases hm : mv c
    · obtain ⟨a1, a2, a3⟩ := h1 c hd hm
      by_cases hk : v c < K
      · obtain ⟨c', l, b1, b2⟩ := a3 hk
        have h3 := (hE.1 c c' l b1).1
        have h4 := ih c' (by omega) (hE.2 c c' l hd hm b1)
        have h5 := (h2 c hd hm).2.1 c' l b1
        omega
      · have := (h2 c hd hm).1; omega
    · exact hb c hd hm
theorem Sol_eq {e : Nat → Nat → Nat → Prop} {mv dom : Nat → Prop} {K : Nat} {v v' : Nat → Nat} (hE : Eg e mv dom) (h1 : Sol e mv dom K v) (h2 : Sol e mv dom K v') (hb : ∀ c, dom c → ¬ mv c → v' c = v c) : ∀ c, dom c → v' c = v c := fun c hd => Nat.le_antisymm (Sol_le hE h1 h2 (fun c a b => Nat.le_of_eq (hb c a b)) _ c (Nat.le_refl _) hd) (Sol_le hE h2 h1 (fun c a b => Nat.le_of_eq (hb c a b).symm) _ c (Nat.le_refl _) hd)
theorem Sol_ex0 {e : Nat → Nat → Nat → Prop} {mv dom : Nat → Prop} {K : Nat} {base : Nat → Nat} (hE : Eg e mv dom) : ∀ n (v : Nat → Nat), smn v 8 ≤ n → (∀ c, dom c → mv c → v c ≤ K ∧ (v c < K → ∃ c' l, e c c' l ∧ l + v c' ≤ v c)) → (∀ c, ¬ (dom c ∧ mv c) → v c = base c) → ∃ v, Sol e mv dom K v ∧ ∀ c, ¬ (dom c ∧ mv c) → v c = base c := by
  intro n
  induction n with
  | zero =>
    intro v hn hA hb
    refine ⟨v, fun c hd hm => ⟨(hA c hd hm).1, fun c' l he => ?_, fun hk => ?_⟩, hb⟩
    · have h8 := (hE.1 c c' l he)
      rcases Nat.lt_or_ge (l + v c') (v c) with h | h
      · have := smn_lt h 8 h8.2.2.1; omega
      · exact h
    · obtain ⟨c', l, he, h⟩ := (hA c hd hm).2 hk
      have h8 := (hE.1 c c' l he)
      refine ⟨c', l, he, ?_⟩
      rcases Nat.lt_or_ge (l + v c') (v c) with h | h
      · have := smn_lt h 8 h8.2.2.1; omega
      · omega
  | succ n ih =>
    intro v hn hA hb
    by_cases hx : ∃ c c' l, dom c ∧ mv c ∧ e c c' l ∧ l + v c' < v c
    · obtain ⟨c, c', l, hd, hm, he, h⟩ := hx
      have h8 := (hE.1 c c' l he)
      refine ih (u1 v c (l + v c')) (by have := smn_lt h 8 h8.2.2.1; omega) (fun a hda hma => ?_) (fun a ha => ?_)
      · by_cases hac : a = c
        · subst hac
          have hc' : c' ≠ a := fun e => by rw [e] at h; omega
          rw [u1_self]
          exact ⟨by have := (hA a hda hma).1; omega, fun _ => ⟨c', l, he, by rw [u1_na hc']; exact Nat.le_refl _⟩⟩
        · rw [u1_na hac]
          refine ⟨(hA a hda hma).1, fun hk => ?_⟩
          obtain ⟨a', l', e', h'⟩ := (hA a hda hma).2 hk
          refine ⟨a', l', e', ?_⟩
          by_cases hc : a' = c
          · subst hc; rw [u1_self]; omega
          · rw [u1_na hc]; exact h'
      · rw [u1_na (fun e => ha (by rw [e]; exact ⟨hd, hm⟩))]; exact hb a ha
    · refine ⟨v, fun c hd hm => ⟨(hA c hd hm).1, fun c' l he => ?_, fun hk => ?_⟩, hb⟩
      · rcases Nat.lt_or_ge (l + v c') (v c) with h | h
        · exact absurd ⟨c, c', l, hd, hm, he, h⟩ hx
        · exact h
      · obtain ⟨c', l, he, h⟩ := (hA c hd hm).2 hk
        refine ⟨c', l, he, ?_⟩
        rcases Nat.lt_or_ge (l + v c') (v c) with h2 | h2
        · exact absurd ⟨c, c', l, hd, hm, he, h2⟩ hx
        · omega
theorem Sol_ex {e : Nat → Nat → Nat → Prop} {mv dom : Nat → Prop} {K : Nat} {base : Nat → Nat} (hE : Eg e mv dom) : ∃ v, Sol e mv dom K v ∧ ∀ c, ¬ (dom c ∧ mv c) → v c = base c :=
  Sol_ex0 hE _ (fun c => zi (dom c ∧ mv c) K (base c)) (Nat.le_refl _) (fun c hd hm => by rw [zi_t ⟨hd, hm⟩]; exact ⟨Nat.le_refl _, fun h => absurd h (Nat.lt_irrefl _)⟩) (fun c hc => zi_f hc)
theorem least_of {p : Nat → Prop} (v : Nat → Nat) : ∀ n, (∃ c, p c ∧ v c ≤ n) → ∃ c, p c ∧ ∀ c', p c' → v c ≤ v c' := by
  intro n
  induction n with
  | zero =>
    rintro ⟨c, h1, h2⟩
    exact ⟨c, h1, fun c' _ => by omega⟩
  | succ n ih =>
    rintro ⟨c, h1, h2⟩
    by_cases h : ∃ c, p c ∧ v c ≤ n
    · exact ih h
    · refine ⟨c, h1, fun c' hc' => ?_⟩
      rcases Nat.lt_or_ge (v c') (v c) with q | q
      · exact absurd ⟨c', hc', by omega⟩ h
      · exact q
/-- one round brings one more corner to its least time -/
theorem rnd {e : Nat → Nat → Nat → Prop} {mv dom : Nat → Prop} {K : Nat} {w v v' : Nat → Nat} (hE : Eg e mv dom) (hw : Sol e mv dom K w) (hd8 : ∀ c, dom c → c < 8) (hv : ∀ c, dom c → w c ≤ v c ∧ (mv c → v c ≤ K) ∧ (¬ mv c → v c = w c)) (hv' : ∀ c, dom c → w c ≤ v' c ∧ v' c ≤ v c) (hr : ∀ c c' l, dom c → mv c → e c c' l → v' c ≤ l + v c') : cnp (fun c => dom c ∧ v' c ≠ w c) 8 + 1 ≤ cnp (fun c => dom c ∧ v c ≠ w c) 8 ∨ ∀ c, dom c → v' c = w c := by
  by_cases hx : ∃ c, dom c ∧ v c ≠ w c
  · left
    obtain ⟨c0, h0⟩ := hx
    obtain ⟨c, hc, hmin⟩ := least_of w (w c0) (p := fun c => dom c ∧ v c ≠ w c) ⟨c0, h0, Nat.le_refl _⟩
    obtain ⟨a1, a2, a3⟩ := hv c hc.1
    have hm : mv c := Classical.byContradiction fun h => hc.2 (a3 h)
    have a2 := a2 hm
    have hne := hc.2
    obtain ⟨b1, b2, b3⟩ := hw c hc.1 hm
    obtain ⟨c', l, he, h⟩ := b3 (by omega)
    have hl := hE.1 c c' l he
    have hdc := hE.2 c c' l hc.1 hm he
    have hset : v c' = w c' := Classical.byContradiction fun h2 => by have := hmin c' ⟨hdc, h2⟩; omega
    have h3 := hr c c' l hc.1 hm he
    have h4 := (hv' c hc.1).1
    refine cnp_lt 8 (fun a _ ha => ⟨ha.1, fun e => ?_⟩) c (hd8 c hc.1) hc (fun h => h.2 (by omega))
    obtain ⟨d1, d2⟩ := hv' a ha.1
    exact ha.2 (by omega)
  · right
    intro c hd
    have h1 : v c = w c := Classical.byContradiction fun h => hx ⟨c, hd, h⟩
    have := hv' c hd
    omega
/-- a time that is one is not long -/
theorem Sol_bd {e : Nat → Nat → Nat → Prop} {mv dom : Nat → Prop} {K B : Nat} {v : Nat → Nat} (hE : Eg e mv dom) (h : Sol e mv dom K v) (hb : ∀ c, dom c → ¬ mv c → v c < K → v c ≤ B) : ∀ n c, v c ≤ n → dom c → v c < K → v c ≤ B + 20 * cnp (fun a => v a < v c) 8 := by
  intro n
  induction n with
  | zero => intro c hn _ _; omega
  | succ n ih =>
    intro c hn hd hk
    by_cases hm : mv c
    · obtain ⟨c', l, he, hv⟩ := (h c hd hm).2.2 hk
      have hl := hE.1 c c' l he
      have i := ih c' (by omega) (hE.2 c c' l hd hm he) (by omega)
      have := cnp_lt (p := fun a => v a < v c') (q := fun a => v a < v c) 8 (fun a _ (ha : v a < v c') => by show v a < v c; omega) c' hl.2.2.2 (by show v c' < v c; omega) (fun h => Nat.lt_irrefl _ h)
      omega
    · have := hb c hd hm hk; omega
theorem Sol_cap {e : Nat → Nat → Nat → Prop} {mv dom : Nat → Prop} {K F : Nat} {v : Nat → Nat} (h : Sol e mv dom K v) (hF : F ≤ K) : Sol e mv dom F (fun c => min (v c) F) := by
  intro c hd hm
  obtain ⟨a1, a2, a3⟩ := h c hd hm
  refine ⟨Nat.min_le_right _ _, fun c' l he => ?_, fun hk => ?_⟩
  · have := a2 c' l he
    show min (v c) F ≤ l + min (v c') F
    omega
  · have hk : min (v c) F < F := hk
    obtain ⟨c', l, he, hv⟩ := a3 (by omega)
    refine ⟨c', l, he, ?_⟩
    show min (v c) F = l + min (v c') F
    omega
