theorem jn2_jnd {r : zg} {d : Nat} {s : Prop} {a c : Int32} {n : Nat} (hne : ¬ r 4 n = r 5 n) : jn2 r a c n ∧ opn r d s n ↔ jnd r d s a c n := by
  unfold jn2 jnd oth
  by_cases h4 : r 4 n = a
  · rw [zi_t h4]
    have h5 : ¬ r 5 n = a := fun e => hne (h4.trans e.symm)
    constructor
    · rintro ⟨g | g, ho⟩
      · exact ⟨ho, Or.inl h4, g.2⟩
      · exact absurd g.1 h5
    · rintro ⟨ho, -, g⟩
      exact ⟨Or.inl ⟨h4, g⟩, ho⟩
  · rw [zi_f h4]
    constructor
    · rintro ⟨g | g, ho⟩
      · exact absurd g.1 h4
      · exact ⟨ho, Or.inr g.1, g.2⟩
    · rintro ⟨ho, g | g, e⟩
      · exact absurd g h4
      · exact ⟨Or.inr ⟨g, e⟩, ho⟩
theorem wtv_far {r : zg} {d : Nat} {s : Prop} {a c : Int32} : ∀ n, (∀ q, q < n → Nt (r 6 q) 21) → wtv r d s a c n ≤ 100000000 ∧ (wtv r d s a c n < 100000000 ↔ ∃ q, q < n ∧ jn2 r a c q ∧ opn r d s q) := by
  intro n
  induction n with
  | zero =>
    intro _
    refine ⟨by show (100000000 : Int32) ≤ 100000000; decide, fun h => absurd h (by show ¬ (100000000 : Int32) < 100000000; decide), fun ⟨q, h, _⟩ => absurd h (Nat.not_lt_zero q)⟩
  | succ n ih =>
    intro hl
    obtain ⟨i1, i2⟩ := ih (fun q hq => hl q (by omega))
    have e6 := (hl n (by omega)).toInt (by decide)
    have l6 := (hl n (by omega)).2
    have eF : (100000000 : Int32).toInt = 100000000 := rfl
    have s6 : r 6 n < 100000000 := by rw [Int32.lt_iff_toInt_lt, e6, eF]; omega
    by_cases h : jn2 r a c n ∧ opn r d s n
    · have ew : wtv r d s a c (n + 1) = if r 6 n < wtv r d s a c n then r 6 n else wtv r d s a c n := zi_t h
      have lt : wtv r d s a c (n + 1) < 100000000 := by
        rw [ew]
        by_cases g : r 6 n < wtv r d s a c n
        · rw [if_pos g]; exact s6
        · rw [if_neg g]
          simp only [Int32.lt_iff_toInt_lt, Int32.le_iff_toInt_le] at *; omega
      refine ⟨by simp only [Int32.lt_iff_toInt_lt, Int32.le_iff_toInt_le] at *; omega, fun _ => ⟨n, by omega, h⟩, fun _ => lt⟩
    · have ew : wtv r d s a c (n + 1) = wtv r d s a c n := zi_f h
      rw [ew]
      refine ⟨i1, fun g => ?_, fun ⟨q, h1, h2⟩ => ?_⟩
      · obtain ⟨q, h1, h2⟩ := i2.mp g
        exact ⟨q, by omega, h2⟩
      · rcases Nat.lt_or_ge q n with z | z
        · exact i2.mpr ⟨q, z, h2⟩
        · rw [show q = n by omega] at h2
          exact absurd h2 h
theorem wtv_jnd {r : zg} {d n : Nat} {s : Prop} {a c : Int32} (hl : ∀ q, q < n → Nt (r 6 q) 21 ∧ ¬ r 4 q = r 5 q) : wtv r d s a c n < 100000000 ↔ ∃ q, q < n ∧ jnd r d s a c q := by
  rw [(wtv_far n (fun q hq => (hl q hq).1)).2]
  constructor
  · rintro ⟨q, h1, h2⟩
    exact ⟨q, h1, (jn2_jnd (hl q h1).2).mp h2⟩
  · rintro ⟨q, h1, h2⟩
    exact ⟨q, h1, (jn2_jnd (hl q h1).2).mpr h2⟩
