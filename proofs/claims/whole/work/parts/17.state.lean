/-! the reference's state as the common abstract state: f its numbers, r its rows, by the slots of WalkTellerModel -/
noncomputable def zi {α : Type} (p : Prop) (a b : α) : α := @ite α p (Classical.propDecidable p) a b
theorem zi_t {α : Type} {p : Prop} {a b : α} (h : p) : zi p a b = a := by unfold zi; rw [if_pos h]
theorem zi_f {α : Type} {p : Prop} {a b : α} (h : ¬ p) : zi p a b = b := by unfold zi; rw [if_neg h]
theorem fb9 {z : Int} (h1 : -2147483648 ≤ z) (h2 : z < 2147483648) : z.bmod (2 ^ 32) = z := by
  rw [Int.bmod_eq_emod]
  split <;> omega
def tn (x : Int32) : Nat := x.toNatClampNeg
/-- a number that is one of the first b -/
def Nt (x : Int32) (b : Nat) : Prop := x = nI (tn x) ∧ tn x < b
theorem tn_nI {k : Nat} (h : k < 2 ^ 31) : tn (nI k) = k := nI_clamp h
theorem Nt.of_nI {k b : Nat} (h : k < b) (hb : k < 2 ^ 31) : Nt (nI k) b := ⟨by rw [tn_nI hb], by rw [tn_nI hb]; exact h⟩
theorem tn_pos {x : Int32} (h : 0 ≤ x) : x = nI (tn x) ∧ (tn x : Int) = x.toInt := by
  obtain ⟨j, hj, rfl⟩ := nI_of (x := x) (by simp only [Int32.lt_iff_toInt_lt, Int32.le_iff_toInt_le] at *; omega)
  rw [tn_nI hj, nI_toInt hj]
  exact ⟨rfl, rfl⟩
theorem Nt.mk {x : Int32} {b : Nat} (h0 : 0 ≤ x) (h : x.toInt < b) : Nt x b := by
  obtain ⟨h1, h2⟩ := tn_pos h0
  exact ⟨h1, by omega⟩
theorem Nt.toInt {x : Int32} {b : Nat} (h : Nt x b) (hb : b ≤ 2 ^ 31) : x.toInt = (tn x : Int) := by
  have h2 := h.2
  conv => lhs; rw [h.1]
  exact nI_toInt (by omega)
/-- 'within 0 and a number less one' -/
theorem Nt.within {x c : Int32} {b : Nat} (hc : Nt c b) (hb : b ≤ 2 ^ 31) : (0 ≤ x ∧ x ≤ c - 1) ↔ Nt x (tn c) := by
  have e := hc.toInt hb
  have h2 := hc.2
  have hs : (c - 1).toInt = (tn c : Int) - 1 := by
    rw [hc.1, tn_nI (by omega)]
    rw [show (1 : Int32) = nI 1 from rfl, Int32.toInt_sub, nI_toInt (by omega), nI_toInt (by omega)]
    exact fb9 (by omega) (by omega)
  constructor
  · rintro ⟨h0, h1⟩
    rw [Int32.le_iff_toInt_le, hs] at h1
    exact Nt.mk h0 (by omega)
  · rintro ⟨h0, h1⟩
    refine ⟨?_, ?_⟩
    · rw [h0]; exact nI_pos' (by omega)
    · rw [Int32.le_iff_toInt_le, hs]
      have : x.toInt = (tn x : Int) := by
        conv => lhs; rw [h0]
        exact nI_toInt (by omega)
      omega
def mt : Nat → Nat × Nat
  | 1 => (1, 8)
  | 2 => (1, 8)
  | 4 => (1, 14)
  | 5 => (1, 14)
  | 6 => (1, 14)
  | 7 => (2, 14)
  | 8 => (1, 14)
  | 10 => (1, 4)
  | 11 => (1, 48)
  | 12 => (1, 48)
  | 13 => (1, 48)
  | 14 => (1, 48)
  | 15 => (1, 48)
  | 16 => (1, 200)
  | 19 => (1, 6)
  | 20 => (1, 6)
  | 21 => (1, 6)
  | 22 => (1, 6)
  | 23 => (2, 6)
  | 24 => (1, 6)
  | 25 => (1, 6)
  | 26 => (1, 6)
  | 28 => (1, 4)
  | 29 => (1, 4)
  | 30 => (1, 48)
  | 34 => (1, 12)
  | 35 => (1, 12)
  | 36 => (1, 12)
  | 37 => (1, 12)
  | 38 => (1, 12)
  | 39 => (1, 32768)
  | 40 => (2, 32768)
  | 41 => (1, 32768)
  | 43 => (1, 12)
  | _ => (0, 0)
/-- the reference's object at m, its rows at ad -/
def MOK (T : zT) (P : zP) (m : Nat) (ad : Nat → Nat) : Prop := (T m).1 = 21 ∧ (∀ k, k < 44 → zr 11 k = true → P 11 k m = some (ad k) ∧ T (ad k) = mt k) ∧ ∀ j k, j < 44 → k < 44 → zr 11 j = true → zr 11 k = true → ad j = ad k → j = k
theorem MOK.t {T : zT} {P : zP} {m : Nat} {ad : Nat → Nat} (h : MOK T P m ad) : (T m).1 = 21 := h.1
theorem MOK.ne {T : zT} {P : zP} {m : Nat} {ad : Nat → Nat} (h : MOK T P m ad) {j k : Nat} (hj : j < 44) (hk : k < 44) (gj : zr 11 j = true) (gk : zr 11 k = true) (hne : j ≠ k) : ad j ≠ ad k := fun e => hne (h.2.2 j k hj hk gj gk e)
theorem mp_1 {T : zT} {P : zP} {m : Nat} {ad : Nat → Nat} (h : MOK T P m ad) : P 11 1 m = some (ad 1) := (h.2.1 1 (by decide) rfl).1
theorem ma_1 {T : zT} {P : zP} {m : Nat} {ad : Nat → Nat} (h : MOK T P m ad) : T (ad 1) = (1, 8) := (h.2.1 1 (by decide) rfl).2
theorem mp_2 {T : zT} {P : zP} {m : Nat} {ad : Nat → Nat} (h : MOK T P m ad) : P 11 2 m = some (ad 2) := (h.2.1 2 (by decide) rfl).1
theorem ma_2 {T : zT} {P : zP} {m : Nat} {ad : Nat → Nat} (h : MOK T P m ad) : T (ad 2) = (1, 8) := (h.2.1 2 (by decide) rfl).2
theorem mp_4 {T : zT} {P : zP} {m : Nat} {ad : Nat → Nat} (h : MOK T P m ad) : P 11 4 m = some (ad 4) := (h.2.1 4 (by decide) rfl).1
theorem ma_4 {T : zT} {P : zP} {m : Nat} {ad : Nat → Nat} (h : MOK T P m ad) : T (ad 4) = (1, 14) := (h.2.1 4 (by decide) rfl).2
theorem mp_5 {T : zT} {P : zP} {m : Nat} {ad : Nat → Nat} (h : MOK T P m ad) : P 11 5 m = some (ad 5) := (h.2.1 5 (by decide) rfl).1
theorem ma_5 {T : zT} {P : zP} {m : Nat} {ad : Nat → Nat} (h : MOK T P m ad) : T (ad 5) = (1, 14) := (h.2.1 5 (by decide) rfl).2
theorem mp_6 {T : zT} {P : zP} {m : Nat} {ad : Nat → Nat} (h : MOK T P m ad) : P 11 6 m = some (ad 6) := (h.2.1 6 (by decide) rfl).1
theorem ma_6 {T : zT} {P : zP} {m : Nat} {ad : Nat → Nat} (h : MOK T P m ad) : T (ad 6) = (1, 14) := (h.2.1 6 (by decide) rfl).2
theorem mp_7 {T : zT} {P : zP} {m : Nat} {ad : Nat → Nat} (h : MOK T P m ad) : P 11 7 m = some (ad 7) := (h.2.1 7 (by decide) rfl).1
theorem ma_7 {T : zT} {P : zP} {m : Nat} {ad : Nat → Nat} (h : MOK T P m ad) : T (ad 7) = (2, 14) := (h.2.1 7 (by decide) rfl).2
theorem mp_8 {T : zT} {P : zP} {m : Nat} {ad : Nat → Nat} (h : MOK T P m ad) : P 11 8 m = some (ad 8) := (h.2.1 8 (by decide) rfl).1
theorem ma_8 {T : zT} {P : zP} {m : Nat} {ad : Nat → Nat} (h : MOK T P m ad) : T (ad 8) = (1, 14) := (h.2.1 8 (by decide) rfl).2
theorem mp_10 {T : zT} {P : zP} {m : Nat} {ad : Nat → Nat} (h : MOK T P m ad) : P 11 10 m = some (ad 10) := (h.2.1 10 (by decide) rfl).1
theorem ma_10 {T : zT} {P : zP} {m : Nat} {ad : Nat → Nat} (h : MOK T P m ad) : T (ad 10) = (1, 4) := (h.2.1 10 (by decide) rfl).2
theorem mp_11 {T : zT} {P : zP} {m : Nat} {ad : Nat → Nat} (h : MOK T P m ad) : P 11 11 m = some (ad 11) := (h.2.1 11 (by decide) rfl).1
theorem ma_11 {T : zT} {P : zP} {m : Nat} {ad : Nat → Nat} (h : MOK T P m ad) : T (ad 11) = (1, 48) := (h.2.1 11 (by decide) rfl).2
theorem mp_12 {T : zT} {P : zP} {m : Nat} {ad : Nat → Nat} (h : MOK T P m ad) : P 11 12 m = some (ad 12) := (h.2.1 12 (by decide) rfl).1
theorem ma_12 {T : zT} {P : zP} {m : Nat} {ad : Nat → Nat} (h : MOK T P m ad) : T (ad 12) = (1, 48) := (h.2.1 12 (by decide) rfl).2
theorem mp_13 {T : zT} {P : zP} {m : Nat} {ad : Nat → Nat} (h : MOK T P m ad) : P 11 13 m = some (ad 13) := (h.2.1 13 (by decide) rfl).1
theorem ma_13 {T : zT} {P : zP} {m : Nat} {ad : Nat → Nat} (h : MOK T P m ad) : T (ad 13) = (1, 48) := (h.2.1 13 (by decide) rfl).2
theorem mp_14 {T : zT} {P : zP} {m : Nat} {ad : Nat → Nat} (h : MOK T P m ad) : P 11 14 m = some (ad 14) := (h.2.1 14 (by decide) rfl).1
theorem ma_14 {T : zT} {P : zP} {m : Nat} {ad : Nat → Nat} (h : MOK T P m ad) : T (ad 14) = (1, 48) := (h.2.1 14 (by decide) rfl).2
theorem mp_15 {T : zT} {P : zP} {m : Nat} {ad : Nat → Nat} (h : MOK T P m ad) : P 11 15 m = some (ad 15) := (h.2.1 15 (by decide) rfl).1
theorem ma_15 {T : zT} {P : zP} {m : Nat} {ad : Nat → Nat} (h : MOK T P m ad) : T (ad 15) = (1, 48) := (h.2.1 15 (by decide) rfl).2
theorem mp_16 {T : zT} {P : zP} {m : Nat} {ad : Nat → Nat} (h : MOK T P m ad) : P 11 16 m = some (ad 16) := (h.2.1 16 (by decide) rfl).1
theorem ma_16 {T : zT} {P : zP} {m : Nat} {ad : Nat → Nat} (h : MOK T P m ad) : T (ad 16) = (1, 200) := (h.2.1 16 (by decide) rfl).2
theorem mp_19 {T : zT} {P : zP} {m : Nat} {ad : Nat → Nat} (h : MOK T P m ad) : P 11 19 m = some (ad 19) := (h.2.1 19 (by decide) rfl).1
theorem ma_19 {T : zT} {P : zP} {m : Nat} {ad : Nat → Nat} (h : MOK T P m ad) : T (ad 19) = (1, 6) := (h.2.1 19 (by decide) rfl).2
theorem mp_20 {T : zT} {P : zP} {m : Nat} {ad : Nat → Nat} (h : MOK T P m ad) : P 11 20 m = some (ad 20) := (h.2.1 20 (by decide) rfl).1
theorem ma_20 {T : zT} {P : zP} {m : Nat} {ad : Nat → Nat} (h : MOK T P m ad) : T (ad 20) = (1, 6) := (h.2.1 20 (by decide) rfl).2
theorem mp_21 {T : zT} {P : zP} {m : Nat} {ad : Nat → Nat} (h : MOK T P m ad) : P 11 21 m = some (ad 21) := (h.2.1 21 (by decide) rfl).1
theorem ma_21 {T : zT} {P : zP} {m : Nat} {ad : Nat → Nat} (h : MOK T P m ad) : T (ad 21) = (1, 6) := (h.2.1 21 (by decide) rfl).2
theorem mp_22 {T : zT} {P : zP} {m : Nat} {ad : Nat → Nat} (h : MOK T P m ad) : P 11 22 m = some (ad 22) := (h.2.1 22 (by decide) rfl).1
theorem ma_22 {T : zT} {P : zP} {m : Nat} {ad : Nat → Nat} (h : MOK T P m ad) : T (ad 22) = (1, 6) := (h.2.1 22 (by decide) rfl).2
theorem mp_23 {T : zT} {P : zP} {m : Nat} {ad : Nat → Nat} (h : MOK T P m ad) : P 11 23 m = some (ad 23) := (h.2.1 23 (by decide) rfl).1
theorem ma_23 {T : zT} {P : zP} {m : Nat} {ad : Nat → Nat} (h : MOK T P m ad) : T (ad 23) = (2, 6) := (h.2.1 23 (by decide) rfl).2
theorem mp_24 {T : zT} {P : zP} {m : Nat} {ad : Nat → Nat} (h : MOK T P m ad) : P 11 24 m = some (ad 24) := (h.2.1 24 (by decide) rfl).1
theorem ma_24 {T : zT} {P : zP} {m : Nat} {ad : Nat → Nat} (h : MOK T P m ad) : T (ad 24) = (1, 6) := (h.2.1 24 (by decide) rfl).2
theorem mp_25 {T : zT} {P : zP} {m : Nat} {ad : Nat → Nat} (h : MOK T P m ad) : P 11 25 m = some (ad 25) := (h.2.1 25 (by decide) rfl).1
theorem ma_25 {T : zT} {P : zP} {m : Nat} {ad : Nat → Nat} (h : MOK T P m ad) : T (ad 25) = (1, 6) := (h.2.1 25 (by decide) rfl).2
theorem mp_26 {T : zT} {P : zP} {m : Nat} {ad : Nat → Nat} (h : MOK T P m ad) : P 11 26 m = some (ad 26) := (h.2.1 26 (by decide) rfl).1
theorem ma_26 {T : zT} {P : zP} {m : Nat} {ad : Nat → Nat} (h : MOK T P m ad) : T (ad 26) = (1, 6) := (h.2.1 26 (by decide) rfl).2
theorem mp_28 {T : zT} {P : zP} {m : Nat} {ad : Nat → Nat} (h : MOK T P m ad) : P 11 28 m = some (ad 28) := (h.2.1 28 (by decide) rfl).1
theorem ma_28 {T : zT} {P : zP} {m : Nat} {ad : Nat → Nat} (h : MOK T P m ad) : T (ad 28) = (1, 4) := (h.2.1 28 (by decide) rfl).2
theorem mp_29 {T : zT} {P : zP} {m : Nat} {ad : Nat → Nat} (h : MOK T P m ad) : P 11 29 m = some (ad 29) := (h.2.1 29 (by decide) rfl).1
theorem ma_29 {T : zT} {P : zP} {m : Nat} {ad : Nat → Nat} (h : MOK T P m ad) : T (ad 29) = (1, 4) := (h.2.1 29 (by decide) rfl).2
theorem mp_30 {T : zT} {P : zP} {m : Nat} {ad : Nat → Nat} (h : MOK T P m ad) : P 11 30 m = some (ad 30) := (h.2.1 30 (by decide) rfl).1
theorem ma_30 {T : zT} {P : zP} {m : Nat} {ad : Nat → Nat} (h : MOK T P m ad) : T (ad 30) = (1, 48) := (h.2.1 30 (by decide) rfl).2
theorem mp_34 {T : zT} {P : zP} {m : Nat} {ad : Nat → Nat} (h : MOK T P m ad) : P 11 34 m = some (ad 34) := (h.2.1 34 (by decide) rfl).1
theorem ma_34 {T : zT} {P : zP} {m : Nat} {ad : Nat → Nat} (h : MOK T P m ad) : T (ad 34) = (1, 12) := (h.2.1 34 (by decide) rfl).2
theorem mp_35 {T : zT} {P : zP} {m : Nat} {ad : Nat → Nat} (h : MOK T P m ad) : P 11 35 m = some (ad 35) := (h.2.1 35 (by decide) rfl).1
theorem ma_35 {T : zT} {P : zP} {m : Nat} {ad : Nat → Nat} (h : MOK T P m ad) : T (ad 35) = (1, 12) := (h.2.1 35 (by decide) rfl).2
theorem mp_36 {T : zT} {P : zP} {m : Nat} {ad : Nat → Nat} (h : MOK T P m ad) : P 11 36 m = some (ad 36) := (h.2.1 36 (by decide) rfl).1
theorem ma_36 {T : zT} {P : zP} {m : Nat} {ad : Nat → Nat} (h : MOK T P m ad) : T (ad 36) = (1, 12) := (h.2.1 36 (by decide) rfl).2
theorem mp_37 {T : zT} {P : zP} {m : Nat} {ad : Nat → Nat} (h : MOK T P m ad) : P 11 37 m = some (ad 37) := (h.2.1 37 (by decide) rfl).1
theorem ma_37 {T : zT} {P : zP} {m : Nat} {ad : Nat → Nat} (h : MOK T P m ad) : T (ad 37) = (1, 12) := (h.2.1 37 (by decide) rfl).2
theorem mp_38 {T : zT} {P : zP} {m : Nat} {ad : Nat → Nat} (h : MOK T P m ad) : P 11 38 m = some (ad 38) := (h.2.1 38 (by decide) rfl).1
theorem ma_38 {T : zT} {P : zP} {m : Nat} {ad : Nat → Nat} (h : MOK T P m ad) : T (ad 38) = (1, 12) := (h.2.1 38 (by decide) rfl).2
theorem mp_39 {T : zT} {P : zP} {m : Nat} {ad : Nat → Nat} (h : MOK T P m ad) : P 11 39 m = some (ad 39) := (h.2.1 39 (by decide) rfl).1
theorem ma_39 {T : zT} {P : zP} {m : Nat} {ad : Nat → Nat} (h : MOK T P m ad) : T (ad 39) = (1, 32768) := (h.2.1 39 (by decide) rfl).2
theorem mp_40 {T : zT} {P : zP} {m : Nat} {ad : Nat → Nat} (h : MOK T P m ad) : P 11 40 m = some (ad 40) := (h.2.1 40 (by decide) rfl).1
theorem ma_40 {T : zT} {P : zP} {m : Nat} {ad : Nat → Nat} (h : MOK T P m ad) : T (ad 40) = (2, 32768) := (h.2.1 40 (by decide) rfl).2
theorem mp_41 {T : zT} {P : zP} {m : Nat} {ad : Nat → Nat} (h : MOK T P m ad) : P 11 41 m = some (ad 41) := (h.2.1 41 (by decide) rfl).1
theorem ma_41 {T : zT} {P : zP} {m : Nat} {ad : Nat → Nat} (h : MOK T P m ad) : T (ad 41) = (1, 32768) := (h.2.1 41 (by decide) rfl).2
theorem mp_43 {T : zT} {P : zP} {m : Nat} {ad : Nat → Nat} (h : MOK T P m ad) : P 11 43 m = some (ad 43) := (h.2.1 43 (by decide) rfl).1
theorem ma_43 {T : zT} {P : zP} {m : Nat} {ad : Nat → Nat} (h : MOK T P m ad) : T (ad 43) = (1, 12) := (h.2.1 43 (by decide) rfl).2
abbrev zf : Type := Nat → Int32
abbrev zg : Type := Nat → Nat → Int32
def mf (N : zN) (m : Nat) : zf := fun k => if k < 32 then N 11 k m else 0
def mr (I : zI) (ad : Nat → Nat) : zg := fun k j => if k < 32 ∧ zr 11 k = true then I (ad k) j else 0
theorem mf_set {N : zN} {m k : Nat} {x : Int32} (hk : k < 32) : mf (u3 N 11 k m x) m = u1 (mf N m) k x := by
  funext j
  by_cases h : j = k
  · subst h; simp [mf, u3, u1, hk]
  · simp [mf, u3, u1, h]
theorem mf_scr {N : zN} {m k : Nat} {x : Int32} (hk : 32 ≤ k) : mf (u3 N 11 k m x) m = mf N m := by
  funext j
  by_cases h : j = k
  · subst h; simp [mf, show ¬ j < 32 by omega]
  · simp [mf, u3, h]
theorem mr_set {T : zT} {P : zP} {I : zI} {m : Nat} {ad : Nat → Nat} (h : MOK T P m ad) {k j : Nat} {x : Int32} (hk : k < 32) (hz : zr 11 k = true) : mr (u2 I (ad k) j x) ad = u2 (mr I ad) k j x := by
  funext a b
  unfold mr u2
  by_cases ha : a < 32 ∧ zr 11 a = true
  · by_cases hak : a = k
    · subst hak; simp [ha]
    · have := h.ne (by omega) (by omega) ha.2 hz hak
      simp [ha, this, hak]
  · have : a ≠ k := fun e => ha (e ▸ ⟨hk, hz⟩)
    simp [ha, this]
theorem mr_scr {T : zT} {P : zP} {I : zI} {m : Nat} {ad : Nat → Nat} (h : MOK T P m ad) {k j : Nat} {x : Int32} (hk : 32 ≤ k) (hk2 : k < 44) (hz : zr 11 k = true) : mr (u2 I (ad k) j x) ad = mr I ad := by
  funext a b
  unfold mr u2
  by_cases ha : a < 32 ∧ zr 11 a = true
  · have := h.ne (j := a) (by omega) hk2 ha.2 hz (by omega)
    simp [ha, this]
  · simp [ha]
/-- what the reference's methods leave as it was -/
def Mfr (ad : Nat → Nat) (T : zT) (N : zN) (P : zP) (I : zI) (R : zR) (T' : zT) (N' : zN) (P' : zP) (I' : zI) (R' : zR) : Prop := P' = P ∧ R' = R ∧ (∀ c k a, c ≠ 11 → N' c k a = N c k a) ∧ (∀ a, (T a).1 ≠ 0 → T' a = T a) ∧ ∀ a, (T a).1 ≠ 0 → (∀ k, k < 44 → zr 11 k = true → a ≠ ad k) → I' a = I a
theorem Mfr.rf {ad : Nat → Nat} {T : zT} {N : zN} {P : zP} {I : zI} {R : zR} : Mfr ad T N P I R T N P I R := ⟨rfl, rfl, fun _ _ _ _ => rfl, fun _ _ => rfl, fun _ _ _ => rfl⟩
theorem Mfr.tr {ad : Nat → Nat} {T : zT} {N : zN} {P : zP} {I : zI} {R : zR} {T1 : zT} {N1 : zN} {P1 : zP} {I1 : zI} {R1 : zR} {T2 : zT} {N2 : zN} {P2 : zP} {I2 : zI} {R2 : zR} (h : Mfr ad T N P I R T1 N1 P1 I1 R1) (g : Mfr ad T1 N1 P1 I1 R1 T2 N2 P2 I2 R2) : Mfr ad T N P I R T2 N2 P2 I2 R2 := by
  obtain ⟨h1, h2, h3, h4, h5⟩ := h
  obtain ⟨g1, g2, g3, g4, g5⟩ := g
  refine ⟨g1.trans h1, g2.trans h2, fun c k a hc => (g3 c k a hc).trans (h3 c k a hc), fun a ha => (g4 a (by rw [h4 a ha]; exact ha)).trans (h4 a ha), fun a ha hk => (g5 a (by rw [h4 a ha]; exact ha) hk).trans (h5 a ha hk)⟩
theorem Mfr.n {ad : Nat → Nat} {T : zT} {N : zN} {P : zP} {I : zI} {R : zR} {T1 : zT} {N1 : zN} {P1 : zP} {I1 : zI} {R1 : zR} (h : Mfr ad T N P I R T1 N1 P1 I1 R1) (k a : Nat) (x : Int32) : Mfr ad T N P I R T1 (u3 N1 11 k a x) P1 I1 R1 :=
  ⟨h.1, h.2.1, fun c j b hc => by rw [← h.2.2.1 c j b hc]; simp [u3, hc], h.2.2.2.1, h.2.2.2.2⟩
theorem Mfr.i {ad : Nat → Nat} {T : zT} {N : zN} {P : zP} {I : zI} {R : zR} {T1 : zT} {N1 : zN} {P1 : zP} {I1 : zI} {R1 : zR} (h : Mfr ad T N P I R T1 N1 P1 I1 R1) {k : Nat} (hk : k < 44) (hz : zr 11 k = true) (j : Nat) (x : Int32) : Mfr ad T N P I R T1 N1 P1 (u2 I1 (ad k) j x) R1 :=
  ⟨h.1, h.2.1, h.2.2.1, h.2.2.2.1, fun a ha hne => by rw [← h.2.2.2.2 a ha hne, u2_off I1 x (hne k hk hz)]⟩
/-- an outcome of an act: the answer, the numbers, the rows -/
abbrev zO : Type := Int32 × zf × zg
/-- the end of an act of the reference -/
def mQ (m : Nat) (ad : Nat → Nat) (T : zT) (N : zN) (P : zP) (I : zI) (R : zR) (o : zO) : Option Value → zT → zN → zP → zI → zR → Prop := fun v T' N' P' I' R' => v = some (.int o.1) ∧ MOK T' P' m ad ∧ mf N' m = o.2.1 ∧ mr I' ad = o.2.2 ∧ Mfr ad T N P I R T' N' P' I' R'
/-- a finding -/
def fdg (w : Int32) (f : zf) (r : zg) : zO := (w, u1 f 31 (f 31 + 1), r)
theorem mQ_fd {m : Nat} {ad : Nat → Nat} {T : zT} {N : zN} {P : zP} {I : zI} {R : zR} {o : zO} {w : Int32} (h : MOK T P m ad) (ho : o = fdg w (mf N m) (mr I ad)) : mQ m ad T N P I R o (some (.int w)) T (u3 N 11 31 m (N 11 31 m + 1)) P I R := by
  subst ho
  exact ⟨rfl, h, mf_set (by decide), rfl, Mfr.rf.n 31 m _⟩
theorem mQ_rd {m : Nat} {ad : Nat → Nat} {T : zT} {N : zN} {P : zP} {I : zI} {R : zR} {o : zO} {w : Int32} (h : MOK T P m ad) (ho : o = (w, mf N m, mr I ad)) : mQ m ad T N P I R o (some (.int w)) T N P I R := by
  subst ho
  exact ⟨rfl, h, rfl, rfl, Mfr.rf⟩
theorem Nt.lt {x : Int32} {b : Nat} (h : Nt x (b + 1)) (hb : b < 2 ^ 31) (hne : ¬ x = nI b) : tn x < b := by
  have h2 := h.2
  rcases Nat.lt_or_ge (tn x) b with q | q
  · exact q
  · exact absurd (by rw [h.1]; congr 1; omega) hne
theorem i_ps (x : Int32) : x + 1 - 1 = x := by
  rw [Int32.add_sub_cancel]
theorem tb_out {x : Int32} {k : Nat} (h : ∀ j, j ≤ k → ¬ x = nI j) : x.toInt < 0 ∨ (k : Int) < x.toInt := by
  rcases Int.lt_or_le x.toInt 0 with q | q
  · exact Or.inl q
  · right
    have h0 : 0 ≤ x := by rw [Int32.le_iff_toInt_le]; exact q
    obtain ⟨h1, h2⟩ := tn_pos h0
    rcases Int.lt_or_le k x.toInt with g | g
    · exact g
    · exact absurd h1 (h (tn x) (by omega))
theorem mQ_go {m : Nat} {ad : Nat → Nat} {T : zT} {N : zN} {P : zP} {I : zI} {R : zR} {T' : zT} {N' : zN} {P' : zP} {I' : zI} {R' : zR} {o : zO} {v w : Int32} {f' : zf} {r' : zg} (h : MOK T' P' m ad) (ho : o = (w, f', r')) (hv : v = w) (hf : mf N' m = f') (hr : mr I' ad = r') (hF : Mfr ad T N P I R T' N' P' I' R') : mQ m ad T N P I R o (some (.int v)) T' N' P' I' R' := by
  subst ho; subst hv
  exact ⟨rfl, h, hf, hr, hF⟩
theorem u3_self {α : Type} {f : Nat → Nat → Nat → α} {c k a : Nat} {v : α} : u3 f c k a v c k a = v := by simp [u3]
theorem u2_self {α : Type} {f : Nat → Nat → α} {a i : Nat} {v : α} : u2 f a i v a i = v := by simp [u2]
theorem u1_self {α : Type} {f : Nat → α} {a : Nat} {v : α} : u1 f a v a = v := by simp [u1]
theorem u3_na {α : Type} {f : Nat → Nat → Nat → α} {c k a c' k' b : Nat} {v : α} (h : b ≠ a) : u3 f c k a v c' k' b = f c' k' b := by simp [u3, h]
theorem u2_ni {α : Type} {f : Nat → Nat → α} {a i b j : Nat} {v : α} (h : j ≠ i) : u2 f a i v b j = f b j := by simp [u2, h]
theorem u2_na {α : Type} {f : Nat → Nat → α} {a i b j : Nat} {v : α} (h : b ≠ a) : u2 f a i v b j = f b j := by simp [u2, h]
theorem u1_na {α : Type} {f : Nat → α} {a b : Nat} {v : α} (h : b ≠ a) : u1 f a v b = f b := by simp [u1, h]
