theorem rdn_ct {r : zg} {x y k : Int32} {nc : Nat} : ∀ n, n ≤ nc → rdn r x y k n = nI (fb_ct (fun p => (psn r x y k nc).testBit p) n) := by
  intro n
  induction n with
  | zero => intro _; rfl
  | succ n ih =>
    intro hn
    have hb := psn_bit (r := r) (x := x) (y := y) (k := k) (i := n) nc
    show zi _ _ _ = _
    rw [fb_ct_succ]
    by_cases h : psb r x y k n
    · have ht : (psn r x y k nc).testBit n = true := hb.mpr ⟨by omega, h⟩
      rw [zi_t h, ih (by omega), ht, nI_1]
      rfl
    · have ht : ¬ (psn r x y k nc).testBit n = true := fun g => h (hb.mp g).2
      rw [zi_f h, ih (by omega), if_neg ht, Nat.add_zero]
theorem rdn_8 {r : zg} {x y k : Int32} {nc : Nat} (hn : nc ≤ 8) : rdn r x y k nc = nI (fb_ct (fun p => (psn r x y k nc).testBit p) 8) := by
  rw [rdn_ct nc (Nat.le_refl _)]
  congr 1
  have h := fb_ct_split (fun p => (psn r x y k nc).testBit p) nc (8 - nc)
  rw [show nc + (8 - nc) = 8 by omega] at h
  rw [h]
  have hz : fb_ct (fun q => (psn r x y k nc).testBit (nc + q)) (8 - nc) = 0 := fb_ct_zero.mpr (fun q _ => by
    cases hq : (psn r x y k nc).testBit (nc + q) with
    | false => rfl
    | true => exact absurd ((psn_bit nc).mp hq).1 (by omega))
  rw [hz, Nat.add_zero]
/-- one alone: the reference's count and the class's -/
theorem rd_one {r : zg} {x y k : Int32} {nc : Nat} (hn : nc ≤ 8) : rdn r x y k nc = 1 ↔ ∃ j, j < 8 ∧ psn r x y k nc = 2 ^ j := by
  have hl := psn_lt r x y k nc
  have h256 : 2 ^ nc ≤ 2 ^ 8 := Nat.pow_le_pow_right (by decide) hn
  rw [rdn_8 hn]
  exact one_bit _ (by omega)
/-- and which it is -/
theorem rd_which {r : zg} {x y k : Int32} {nc j : Nat} (h : psn r x y k nc = 2 ^ j) : j < nc ∧ psb r x y k j ∧ rdw r x y k nc = nI j := by
  have hb : ∀ i, i < nc ∧ psb r x y k i ↔ i = j := fun i => by
    rw [← psn_bit nc, h, Nat.testBit_two_pow]
    constructor
    · intro e; exact (of_decide_eq_true e).symm
    · intro e; exact decide_eq_true e.symm
  have hj := (hb j).mpr rfl
  refine ⟨hj.1, hj.2, ?_⟩
  have key : ∀ n, n ≤ nc → rdw r x y k n = if j < n then nI j else -1 := by
    intro n
    induction n with
    | zero => intro _; rw [if_neg (by omega)]; rfl
    | succ n ih =>
      intro hn
      show zi _ _ _ = _
      by_cases hp : psb r x y k n
      · have : n = j := (hb n).mp ⟨by omega, hp⟩
        subst this
        rw [zi_t hp, if_pos (by omega)]
      · have hne : n ≠ j := fun e => hp (e ▸ hj.2)
        rw [zi_f hp, ih (by omega)]
        by_cases hlt : j < n
        · rw [if_pos hlt, if_pos (by omega)]
        · rw [if_neg hlt, if_neg (by omega)]
  rw [key nc (Nat.le_refl _), if_pos hj.1]
