/-! how a text is read: b p is the byte at place p, or -1 behind the last -/
def Bt (b : Int32) : Prop := b = -1 ∨ Nt b 256
def wh (b : Int32) (c : Nat) : Nat := tn b - c
/-- the byte is one of the signs c + l .. c + n - 1 -/
def hsb (b : Int32) (c l n : Nat) : Prop := ∃ w, l ≤ w ∧ w < n ∧ b = nI (c + w)
theorem hsb_w {b : Int32} {c l n : Nat} (h : hsb b c l n) (hc : c + n ≤ 300) : l ≤ wh b c ∧ wh b c < n ∧ b = nI (c + wh b c) := by
  obtain ⟨w, h1, h2, rfl⟩ := h
  have : wh (nI (c + w)) c = w := by unfold wh; rw [tn_nI (by omega)]; omega
  rw [this]
  exact ⟨h1, h2, rfl⟩
theorem m1_nI {k : Nat} (h : k < 2 ^ 31) : ¬ (-1 : Int32) = nI k := fun e => by
  have := congrArg Int32.toInt e
  rw [nI_toInt h] at this
  have h1 : (-1 : Int32).toInt = -1 := rfl
  omega
theorem Bt.ti {b : Int32} (h : Bt b) : (b = -1 ∧ b.toInt = -1) ∨ ∃ k, k < 256 ∧ b = nI k ∧ b.toInt = (k : Int) := by
  rcases h with h | h
  · exact Or.inl ⟨h, by rw [h]; rfl⟩
  · exact Or.inr ⟨tn b, h.2, h.1, h.toInt (by decide)⟩
theorem hsb_ref {b : Int32} {c l n : Nat} (hb : Bt b) (hc : c + n ≤ 300) (hl : c + l ≤ 300) (h0 : 0 < c + n) : (nI (c + l) ≤ b ∧ b ≤ nI (c + n - 1)) ↔ hsb b c l n := by
  rw [Int32.le_iff_toInt_le, Int32.le_iff_toInt_le, nI_toInt (by omega), nI_toInt (by omega)]
  rcases hb.ti with ⟨h1, h2⟩ | ⟨k, h1, h2, h3⟩
  · constructor
    · intro h; omega
    · rintro ⟨w, w1, w2, w3⟩
      exact absurd (h1.symm.trans w3) (m1_nI (by omega))
  · constructor
    · intro h
      exact ⟨k - c, by omega, by omega, by rw [h2]; congr 1; omega⟩
    · rintro ⟨w, w1, w2, w3⟩
      have := congrArg Int32.toInt w3
      rw [nI_toInt (by omega)] at this
      omega
theorem nI_subI {b : Int32} {k c : Nat} (h : b.toInt = (k : Int)) (hk : k < 2 ^ 30) (hc : c < 2 ^ 30) : (b - nI c).toInt = (k : Int) - c := by
  rw [Int32.toInt_sub, h, nI_toInt (by omega)]
  exact fb9 (by omega) (by omega)
theorem hsb_cls {b : Int32} {c l n : Nat} (hb : Bt b) (hc : c + n ≤ 300) (hl : c + l ≤ 300) : (nI l ≤ b - nI c ∧ b - nI c ≤ nI n - 1) ↔ hsb b c l n := by
  have e1 : (nI n - 1).toInt = (n : Int) - 1 := by
    rw [show (1 : Int32) = nI 1 from rfl]
    exact nI_subI (nI_toInt (by omega)) (by omega) (by omega)
  rw [Int32.le_iff_toInt_le, Int32.le_iff_toInt_le, nI_toInt (by omega), e1]
  rcases hb.ti with ⟨h1, h2⟩ | ⟨k, h1, h2, h3⟩
  · have e2 : (b - nI c).toInt = -1 - (c : Int) := by
      rw [Int32.toInt_sub, h2, nI_toInt (by omega)]
      exact fb9 (by omega) (by omega)
    constructor
    · intro h; omega
    · rintro ⟨w, w1, w2, w3⟩
      exact absurd (h1.symm.trans w3) (m1_nI (by omega))
  · have e2 := nI_subI (c := c) h3 (by omega) (by omega)
    constructor
    · intro h
      exact ⟨k - c, by omega, by omega, by rw [h2]; congr 1; omega⟩
    · rintro ⟨w, w1, w2, w3⟩
      have := congrArg Int32.toInt w3
      rw [nI_toInt (by omega)] at this
      omega
theorem nI_subc (c w : Nat) : nI (c + w) - nI c = nI w := by rw [← nI_add, i_cs]
/-- a set of signs, each behind the one ahead of it: the set and the place behind it -/
noncomputable def rsn (b : Nat → Int32) (c n : Nat) : Nat → Nat → Int32 → Nat → Int32 × Nat
  | 0, _, s, p => (s, p)
  | k + 1, l, s, p => zi (hsb (b p) c l n) (rsn b c n k (wh (b p) c + 1) (s ||| ((1 : Int32) <<< (nI (wh (b p) c) &&& 31))) (p + 1)) (s, p)
theorem rsn_t {b : Nat → Int32} {c n k l : Nat} {s : Int32} {p : Nat} (h : hsb (b p) c l n) : rsn b c n (k + 1) l s p = rsn b c n k (wh (b p) c + 1) (s ||| ((1 : Int32) <<< (nI (wh (b p) c) &&& 31))) (p + 1) := zi_t h
theorem rsn_f {b : Nat → Int32} {c n k l : Nat} {s : Int32} {p : Nat} (h : ¬ hsb (b p) c l n) : rsn b c n k l s p = (s, p) := by
  cases k with
  | zero => rfl
  | succ k => exact zi_f h
theorem rsn_b {b : Nat → Int32} {c n : Nat} : ∀ (k l : Nat) (s : Int32) (p : Nat), p ≤ (rsn b c n k l s p).2 ∧ (rsn b c n k l s p).2 ≤ p + k := by
  intro k
  induction k with
  | zero => intro l s p; exact ⟨Nat.le_refl _, Nat.le_refl _⟩
  | succ k ih =>
    intro l s p
    by_cases h : hsb (b p) c l n
    · rw [rsn_t h]
      have := ih (wh (b p) c + 1) (s ||| ((1 : Int32) <<< (nI (wh (b p) c) &&& 31))) (p + 1)
      omega
    · rw [rsn_f h]
      exact ⟨Nat.le_refl _, by omega⟩
noncomputable def kby (b : Int32) : Int32 := zi (b = 112) 0 (zi (b = 115) 1 (zi (b = 116) 2 (zi (b = 101) 3 (-1))))
/-- the needs and the days of a piece from place p on -/
noncomputable def rN (b : Nat → Int32) (p : Nat) : Int32 × Nat := rsn b 97 12 12 0 0 (p + 3)
def isD (b : Nat → Int32) (p : Nat) : Prop := kby (b (p + 1)) = 1 ∧ b (rN b p).2 = 64
noncomputable def rD (b : Nat → Int32) (p : Nat) : Int32 × Nat := rsn b 48 7 7 0 0 ((rN b p).2 + 1)
noncomputable def dyv (b : Nat → Int32) (p : Nat) : Int32 := zi (isD b p) (rD b p).1 127
noncomputable def pl5 (b : Nat → Int32) (p : Nat) : Nat := zi (isD b p) (rD b p).2 (rN b p).2
/-- a piece stands there; the place where its reading ends -/
def rpg (b : Nat → Int32) (nc p : Nat) : Prop := hsb (b p) 48 0 nc ∧ ¬ kby (b (p + 1)) < 0 ∧ hsb (b (p + 2)) 49 0 9 ∧ ¬ dyv b p = 0 ∧ b (pl5 b p) = 59
noncomputable def rpe (b : Nat → Int32) (nc p : Nat) : Nat := zi (hsb (b p) 48 0 nc) (zi (kby (b (p + 1)) < 0) (p + 1) (zi (hsb (b (p + 2)) 49 0 9) (zi (¬ dyv b p = 0 ∧ b (pl5 b p) = 59) (pl5 b p + 1) (pl5 b p)) (p + 2))) p
noncomputable def pv (b : Nat → Int32) (p : Nat) : Nat → Int32
  | 0 => kby (b (p + 1))
  | 1 => nI (wh (b p) 48)
  | 2 => nI (wh (b (p + 2)) 49 + 1)
  | 3 => (rN b p).1
  | _ => dyv b p
theorem rN_b (b : Nat → Int32) (p : Nat) : p + 3 ≤ (rN b p).2 ∧ (rN b p).2 ≤ p + 15 := by
  have := rsn_b (b := b) (c := 97) (n := 12) 12 0 0 (p + 3)
  unfold rN
  omega
theorem pl5_b (b : Nat → Int32) (p : Nat) : p + 3 ≤ pl5 b p ∧ pl5 b p ≤ p + 23 := by
  have h1 := rN_b b p
  have h2 := rsn_b (b := b) (c := 48) (n := 7) 7 0 0 ((rN b p).2 + 1)
  unfold pl5
  by_cases h : isD b p
  · rw [zi_t h]; unfold rD; omega
  · rw [zi_f h]; omega
theorem rpe_b (b : Nat → Int32) (nc p : Nat) : p ≤ rpe b nc p ∧ rpe b nc p ≤ p + 24 := by
  have h5 := pl5_b b p
  unfold rpe
  by_cases h1 : hsb (b p) 48 0 nc
  · rw [zi_t h1]
    by_cases h2 : kby (b (p + 1)) < 0
    · rw [zi_t h2]; omega
    · rw [zi_f h2]
      by_cases h3 : hsb (b (p + 2)) 49 0 9
      · rw [zi_t h3]
        by_cases h4 : ¬ dyv b p = 0 ∧ b (pl5 b p) = 59
        · rw [zi_t h4]; omega
        · rw [zi_f h4]; omega
      · rw [zi_f h3]; omega
  · rw [zi_f h1]; omega
theorem rpe_g {b : Nat → Int32} {nc p : Nat} (h : rpg b nc p) : rpe b nc p = pl5 b p + 1 := by
  unfold rpe
  rw [zi_t h.1, zi_f h.2.1, zi_t h.2.2.1, zi_t h.2.2.2]
/-- the place behind so many pieces -/
noncomputable def plc (b : Nat → Int32) (nc : Nat) : Nat → Nat
  | 0 => 0
  | n + 1 => rpe b nc (plc b nc n)
theorem plc_b (b : Nat → Int32) (nc : Nat) : ∀ n, plc b nc n ≤ 24 * n := by
  intro n
  induction n with
  | zero => exact Nat.le_refl _
  | succ n ih =>
    have := rpe_b b nc (plc b nc n)
    show rpe b nc (plc b nc n) ≤ _
    omega
/-- how many pieces the text has (0: it is wrong), and the place at the end -/
noncomputable def sto (b : Nat → Int32) (nc L : Nat) : Nat → Nat → Nat × Nat
  | 0, n => (0, plc b nc n)
  | k + 1, n => zi (rpg b nc (plc b nc n)) (zi (plc b nc (n + 1) = L) (n + 1, L) (sto b nc L k (n + 1))) (0, plc b nc (n + 1))
theorem sto_f {b : Nat → Int32} {nc L k n : Nat} (h : ¬ rpg b nc (plc b nc n)) : sto b nc L (k + 1) n = (0, plc b nc (n + 1)) := zi_f h
theorem sto_e {b : Nat → Int32} {nc L k n : Nat} (h : rpg b nc (plc b nc n)) (h2 : plc b nc (n + 1) = L) : sto b nc L (k + 1) n = (n + 1, L) := (zi_t h).trans (zi_t h2)
theorem sto_n {b : Nat → Int32} {nc L k n : Nat} (h : rpg b nc (plc b nc n)) (h2 : ¬ plc b nc (n + 1) = L) : sto b nc L (k + 1) n = sto b nc L k (n + 1) := (zi_t h).trans (zi_f h2)
/-- the rows with a new edition's n pieces -/
noncomputable def ue (r : zg) (e n : Nat) (v : Nat → Nat → Int32) (j : Nat) : zg := fun k q => zi (k = 10 ∧ q = e) (nI n) (zi (11 ≤ k ∧ k ≤ 15 ∧ 12 * e ≤ q ∧ q < 12 * e + j) (v (q - 12 * e) (k - 11)) (r k q))
theorem ue_0 (r : zg) (e n : Nat) (v : Nat → Nat → Int32) : ue r e n v 0 = u2 r 10 e (nI n) := by
  funext k q
  unfold ue u2
  by_cases h : k = 10 ∧ q = e
  · rw [zi_t h, if_pos h]
  · rw [zi_f h, zi_f (by omega), if_neg h]
theorem ue_1 (r : zg) (e n : Nat) (v : Nat → Nat → Int32) (j : Nat) : ue r e n v (j + 1) = u2 (u2 (u2 (u2 (u2 (ue r e n v j) 11 (12 * e + j) (v j 0)) 12 (12 * e + j) (v j 1)) 13 (12 * e + j) (v j 2)) 14 (12 * e + j) (v j 3)) 15 (12 * e + j) (v j 4) := by
  funext k q
  by_cases hq : q = 12 * e + j
  · subst hq
    have hs : 12 * e + j - 12 * e = j := by omega
    by_cases h11 : 11 ≤ k ∧ k ≤ 15
    · have el : ue r e n v (j + 1) k (12 * e + j) = v j (k - 11) := by
        unfold ue
        rw [zi_f (by omega), zi_t ⟨h11.1, h11.2, by omega, by omega⟩, hs]
      rw [el]
      rcases (show k = 11 ∨ k = 12 ∨ k = 13 ∨ k = 14 ∨ k = 15 by omega) with h | h | h | h | h <;> subst h <;> simp [u2]
    · rw [u2_off _ _ (by omega), u2_off _ _ (by omega), u2_off _ _ (by omega), u2_off _ _ (by omega), u2_off _ _ (by omega)]
      unfold ue
      by_cases h : k = 10 ∧ 12 * e + j = e
      · rw [zi_t h, zi_t h]
      · rw [zi_f h, zi_f h, zi_f (by omega), zi_f (by omega)]
  · rw [u2_ni hq, u2_ni hq, u2_ni hq, u2_ni hq, u2_ni hq]
    unfold ue
    by_cases h : k = 10 ∧ q = e
    · rw [zi_t h, zi_t h]
    · rw [zi_f h, zi_f h]
      by_cases h2 : 11 ≤ k ∧ k ≤ 15 ∧ 12 * e ≤ q ∧ q < 12 * e + j
      · rw [zi_t h2, zi_t (by omega)]
      · rw [zi_f h2, zi_f (by omega)]
/-- the bytes that were fed -/
noncomputable def pB (f : zf) (r : zg) (p : Nat) : Int32 := zi (p < tn (f 17)) (r 16 p) (-1)
noncomputable abbrev stf (f : zf) (r : zg) : Nat × Nat := sto (pB f r) (tn (f 0)) (tn (f 17)) 12 0
noncomputable abbrev stv (f : zf) (r : zg) (i : Nat) : Nat → Int32 := pv (pB f r) (plc (pB f r) (tn (f 0)) i)
noncomputable def ac_story (f : zf) (r : zg) : zO := zi ((stf f r).1 = 0) (fdg (-1000100 - nI (stf f r).2) (u1 f 17 0) r) (zi (f 9 = 4) (fdg (-1000002) (u1 f 17 0) r) (f 9, u1 (u1 f 17 0) 9 (f 9 + 1), ue r (tn (f 9)) (stf f r).1 (stv f r) (stf f r).1))
theorem pB_t {f : zf} {r : zg} (h : ∀ j, j < tn (f 17) → Nt (r 16 j) 256) (p : Nat) : Bt (pB f r p) := by
  unfold pB
  by_cases hp : p < tn (f 17)
  · rw [zi_t hp]; exact Or.inr (h p hp)
  · rw [zi_f hp]; exact Or.inl rfl
theorem pB_lt {f : zf} {r : zg} {p : Nat} (h : ¬ pB f r p = -1) : p < tn (f 17) := by
  rcases Nat.lt_or_ge p (tn (f 17)) with q | q
  · exact q
  · exact absurd (zi_f (by omega)) h
theorem rpg_L {f : zf} {r : zg} {nc p : Nat} (h : rpg (pB f r) nc p) : rpe (pB f r) nc p ≤ tn (f 17) := by
  rw [rpe_g h]
  have := pB_lt (f := f) (r := r) (p := pl5 (pB f r) p) (by rw [h.2.2.2.2]; decide)
  omega
theorem u1_comm {α : Type} (f : Nat → α) {j k : Nat} (h : j ≠ k) (a b : α) : u1 (u1 f j a) k b = u1 (u1 f k b) j a := by
  funext q
  unfold u1
  by_cases h1 : q = k
  · by_cases h2 : q = j
    · omega
    · simp [h1, show ¬ k = j by omega]
  · by_cases h2 : q = j <;> simp [h1, h2, h]
