theorem pl_RX0 : plainName RX0 = true := by decide
theorem pl_RX1 : plainName RX1 = true := by decide
theorem pl_RX2 : plainName RX2 = true := by decide
theorem pl_RX3 : plainName RX3 = true := by decide
theorem pl_RX4 : plainName RX4 = true := by decide
theorem pl_RX5 : plainName RX5 = true := by decide
theorem pl_RX6 : plainName RX6 = true := by decide
theorem pl_RX7 : plainName RX7 = true := by decide
theorem pl_RX8 : plainName RX8 = true := by decide
theorem pl_RX9 : plainName RX9 = true := by decide
theorem pl_RX10 : plainName RX10 = true := by decide
theorem pl_RX11 : plainName RX11 = true := by decide
theorem pl_RJ6 : plainName RJ6 = true := by decide
theorem pl_RJ0 : plainName RJ0 = true := by decide
theorem pl_RJ1 : plainName RJ1 = true := by decide
theorem pl_RJ2 : plainName RJ2 = true := by decide
theorem pl_RJ10 : plainName RJ10 = true := by decide
theorem pl_RJ7 : plainName RJ7 = true := by decide
theorem pl_RJ3 : plainName RJ3 = true := by decide
def bt (x : Int32) (i : Nat) : Bool := x.toBitVec.getLsbD i
theorem b_ext {x y : Int32} (h : ∀ i, i < 32 → bt x i = bt y i) : x = y := Int32.toBitVec_inj.mp (BitVec.eq_of_getLsbD_eq (fun i hi => h i hi))
theorem b_or (x y : Int32) (i : Nat) : bt (x ||| y) i = (bt x i || bt y i) := by unfold bt; rw [Int32.toBitVec_or, BitVec.getLsbD_or]
theorem b_and (x y : Int32) (i : Nat) : bt (x &&& y) i = (bt x i && bt y i) := by unfold bt; rw [Int32.toBitVec_and, BitVec.getLsbD_and]
theorem b_xor (x y : Int32) (i : Nat) : bt (x ^^^ y) i = (bt x i ^^ bt y i) := by unfold bt; rw [Int32.toBitVec_xor, BitVec.getLsbD_xor]
theorem b_big {x : Int32} {i : Nat} (h : 32 ≤ i) : bt x i = false := BitVec.getLsbD_of_ge _ _ h
theorem b_255 (i : Nat) : bt 255 i = decide (i < 8) := by
  rcases Nat.lt_or_ge i 32 with h | h
  · exact (by decide +kernel : ∀ i, i < 32 → bt 255 i = decide (i < 8)) i h
  · rw [b_big h, decide_eq_false (by omega)]
theorem b_65535 (i : Nat) : bt 65535 i = decide (i < 16) := by
  rcases Nat.lt_or_ge i 32 with h | h
  · exact (by decide +kernel : ∀ i, i < 32 → bt 65535 i = decide (i < 16)) i h
  · rw [b_big h, decide_eq_false (by omega)]
theorem b_m1 : ∀ i, i < 32 → bt (-1) i = true := by decide +kernel
theorem b_0 (i : Nat) : bt 0 i = false := BitVec.getLsbD_zero
theorem s_l : ∀ n, n < 32 → ((nI n &&& 31).toBitVec.smod 32).toNat = n := by decide +kernel
theorem s_u : ∀ n, n < 32 → (((nI n).toUInt32 &&& Int32.toUInt32 31).toBitVec % 32).toNat = n := by decide +kernel
theorem b_shl (n : Nat) (hn : n < 32) (x : Int32) {i : Nat} (hi : i < 32) : bt (x <<< (nI n &&& 31)) i = (decide (n ≤ i) && bt x (i - n)) := by
  unfold bt
  rw [Int32.toBitVec_shiftLeft]
  show (x.toBitVec <<< ((nI n &&& 31).toBitVec.smod 32).toNat).getLsbD i = _
  rw [s_l n hn, BitVec.getLsbD_shiftLeft]
  rcases Nat.lt_or_ge i n with h | h
  · simp [h, Nat.not_le.mpr h]
  · simp [hi, h, Nat.not_lt.mpr h]
theorem b_ushr (n : Nat) (hn : n < 32) (x : Int32) (i : Nat) : bt ((x.toUInt32 >>> ((nI n).toUInt32 &&& Int32.toUInt32 31)).toInt32) i = bt x (n + i) := by
  show (x.toUInt32 >>> ((nI n).toUInt32 &&& Int32.toUInt32 31)).toBitVec.getLsbD i = x.toUInt32.toBitVec.getLsbD (n + i)
  rw [UInt32.toBitVec_shiftRight]
  show (x.toUInt32.toBitVec >>> (((nI n).toUInt32 &&& Int32.toUInt32 31).toBitVec % 32).toNat).getLsbD i = _
  rw [s_u n hn, BitVec.getLsbD_ushiftRight]
theorem b_sshr (n : Nat) (hn : n < 32) (x : Int32) {i : Nat} (hi : i < 32) : bt (x >>> (nI n &&& 31)) i = if n + i < 32 then bt x (n + i) else bt x 31 := by
  unfold bt
  rw [Int32.toBitVec_shiftRight]
  show (x.toBitVec.sshiftRight ((nI n &&& 31).toBitVec.smod 32).toNat).getLsbD i = _
  rw [s_l n hn, BitVec.getLsbD_sshiftRight, BitVec.msb_eq_getLsbD_last]
  simp [hi]
theorem zp_t {p : Prop} {T : zT} {N : zN} {P : zP} {I : zI} {R : zR} (h : p) : zp (zb p) T N P I R (some (.int 1)) T N P I R := by rw [zb_t h]; exact zp.rf
theorem zp_f {p : Prop} {T : zT} {N : zN} {P : zP} {I : zI} {R : zR} (h : ¬ p) : zp (zb p) T N P I R (some (.int 0)) T N P I R := by rw [zb_f h]; exact zp.rf
theorem zp_e {a b : Int32} {T : zT} {N : zN} {P : zP} {I : zI} {R : zR} (h : a = b) : zp b T N P I R (some (.int a)) T N P I R := by rw [h]; exact zp.rf
/-- no answer, the heap as it is said -/
def zv (T : zT) (N : zN) (P : zP) (I : zI) (R : zR) : Option Value → zT → zN → zP → zI → zR → Prop := fun v T' N' P' I' R' => v = none ∧ T' = T ∧ N' = N ∧ P' = P ∧ I' = I ∧ R' = R
theorem zv.rf {T : zT} {N : zN} {P : zP} {I : zI} {R : zR} : zv T N P I R none T N P I R := ⟨rfl, rfl, rfl, rfl, rfl, rfl⟩
theorem zv.use {T : zT} {N : zN} {P : zP} {I : zI} {R : zR} {X : Option Value → zT → zN → zP → zI → zR → Prop} (h : X none T N P I R) : ∀ (v : Option Value) (T' : zT) (N' : zN) (P' : zP) (I' : zI) (R' : zR), zv T N P I R v T' N' P' I' R' → X v T' N' P' I' R' := by
  rintro v T' N' P' I' R' ⟨rfl, rfl, rfl, rfl, rfl, rfl⟩
  exact h
/-- an answer that is a cell (or none), the heap as it is said -/
def za (r : Option Nat) (T : zT) (N : zN) (P : zP) (I : zI) (R : zR) : Option Value → zT → zN → zP → zI → zR → Prop := fun v T' N' P' I' R' => v = some (va_rf r) ∧ T' = T ∧ N' = N ∧ P' = P ∧ I' = I ∧ R' = R
theorem za.rf {r : Option Nat} {T : zT} {N : zN} {P : zP} {I : zI} {R : zR} : za r T N P I R (some (va_rf r)) T N P I R := ⟨rfl, rfl, rfl, rfl, rfl, rfl⟩
theorem za.use {r : Option Nat} {T : zT} {N : zN} {P : zP} {I : zI} {R : zR} {X : Option Value → zT → zN → zP → zI → zR → Prop} (h : X (some (va_rf r)) T N P I R) : ∀ (v : Option Value) (T' : zT) (N' : zN) (P' : zP) (I' : zI) (R' : zR), za r T N P I R v T' N' P' I' R' → X v T' N' P' I' R' := by
  rintro v T' N' P' I' R' ⟨rfl, rfl, rfl, rfl, rfl, rfl⟩
  exact h
theorem bt_nI {s j : Nat} (hs : s < 2 ^ 31) : bt (nI s) j = s.testBit j := by
  unfold bt
  rw [← BitVec.testBit_toNat, pk_tn (by omega)]
/-- the machine's own test of a bit -/
theorem bt_sh {x : Int32} {j : Nat} (hj : j < 32) : x >>> (nI j &&& 31) &&& 1 = 0 ↔ ¬ bt x j = true := by
  have h1 : ∀ i, i < 32 → bt (x >>> (nI j &&& 31) &&& 1) i = (decide (i = 0) && bt x j) := by
    intro i hi
    rw [b_and, b_sshr j hj x hi]
    have h2 : bt 1 i = decide (i = 0) := (by decide +kernel : ∀ i, i < 32 → bt 1 i = decide (i = 0)) i hi
    rw [h2]
    by_cases h0 : i = 0
    · subst h0
      simp [hj]
    · simp [h0]
  constructor
  · intro e h
    have := h1 0 (by omega)
    rw [e, b_0] at this
    simp [h] at this
  · intro h
    apply b_ext
    intro i hi
    rw [h1 i hi, b_0]
    simp [Bool.eq_false_iff.mpr h]
theorem c_X10_isWithin {E : zE} {T : zT} {N : zN} {P : zP} {I : zI} {R : zR} (x a b : Int32) : zC E yX10_isWithin cX10_isWithin 3 (some .boolean) (zr0 0 0) [.int x, .int a, .int b] T N P I R (zp (zb (a ≤ x ∧ x ≤ b)) T N P I R) := by
  refine zC.intro (ls := [some (.int x), some (.int a), some (.int b)]) pl_RX10 (zle rfl) 0 rfl (fun K => ?_)
  refine v_iload_0 dX10_isWithin_0 rfl ?_
  refine v_iload_1 dX10_isWithin_1 rfl ?_
  refine v_icmp_lt (tgt := 14) dX10_isWithin_2 (by decide) rfl (fun c2 => ?_) (fun c2 => ?_)
  · refine v_iconst (v := 0) dX10_isWithin_14 rfl rfl ?_
    exact v_zreturn rfl rfl (zp_f (by simp only [Int32.lt_iff_toInt_lt, Int32.le_iff_toInt_le] at *; omega)) (zle rfl) (zle rfl) dX10_isWithin_15
  · refine v_iload_0 dX10_isWithin_5 rfl ?_
    refine v_iload_2 dX10_isWithin_6 rfl ?_
    refine v_icmp_gt (tgt := 14) dX10_isWithin_7 (by decide) rfl (fun c7 => ?_) (fun c7 => ?_)
    · refine v_iconst (v := 0) dX10_isWithin_14 rfl rfl ?_
      exact v_zreturn rfl rfl (zp_f (by simp only [Int32.lt_iff_toInt_lt, Int32.le_iff_toInt_le] at *; omega)) (zle rfl) (zle rfl) dX10_isWithin_15
    · refine v_iconst (v := 1) dX10_isWithin_10 rfl rfl ?_
      refine v_goto (n := 15) dX10_isWithin_11 (by decide) ?_
      exact v_zreturn rfl rfl (zp_t (by simp only [Int32.lt_iff_toInt_lt, Int32.le_iff_toInt_le] at *; omega)) (zle rfl) (zle rfl) dX10_isWithin_15
theorem c_X11_within {E : zE} {T : zT} {N : zN} {P : zP} {I : zI} {R : zR} (x a b : Int32) : zC E yX11_within cX11_within 3 (some .boolean) (zr0 0 0) [.int x, .int a, .int b] T N P I R (zp (zb (a ≤ x ∧ x ≤ b)) T N P I R) := by
  refine zC.intro (ls := [some (.int x), some (.int a), some (.int b)]) pl_RX11 (zle rfl) 0 rfl (fun K => ?_)
  refine v_iload_0 dX11_within_0 rfl ?_
  refine v_iload_1 dX11_within_1 rfl ?_
  refine v_icmp_lt (tgt := 14) dX11_within_2 (by decide) rfl (fun c2 => ?_) (fun c2 => ?_)
  · refine v_iconst (v := 0) dX11_within_14 rfl rfl ?_
    exact v_zreturn rfl rfl (zp_f (by simp only [Int32.lt_iff_toInt_lt, Int32.le_iff_toInt_le] at *; omega)) (zle rfl) (zle rfl) dX11_within_15
  · refine v_iload_0 dX11_within_5 rfl ?_
    refine v_iload_2 dX11_within_6 rfl ?_
    refine v_icmp_gt (tgt := 14) dX11_within_7 (by decide) rfl (fun c7 => ?_) (fun c7 => ?_)
    · refine v_iconst (v := 0) dX11_within_14 rfl rfl ?_
      exact v_zreturn rfl rfl (zp_f (by simp only [Int32.lt_iff_toInt_lt, Int32.le_iff_toInt_le] at *; omega)) (zle rfl) (zle rfl) dX11_within_15
    · refine v_iconst (v := 1) dX11_within_10 rfl rfl ?_
      refine v_goto (n := 15) dX11_within_11 (by decide) ?_
      exact v_zreturn rfl rfl (zp_t (by simp only [Int32.lt_iff_toInt_lt, Int32.le_iff_toInt_le] at *; omega)) (zle rfl) (zle rfl) dX11_within_15
theorem c_X10_isDay {E : zE} {T : zT} {N : zN} {P : zP} {I : zI} {R : zR} (x : Int32) : zC E yX10_isDay cX10_isDay 1 (some .boolean) (zr0 1 22) [.int x] T N P I R (zp (zb (0 ≤ x ∧ x ≤ 6)) T N P I R) := by
  refine zC.intro (ls := [some (.int x)]) pl_RX10 (zle rfl) 0 rfl (fun K => ?_)
  refine v_iload_0 dX10_isDay_0 rfl ?_
  refine v_iconst (v := 0) dX10_isDay_1 rfl rfl ?_
  refine v_bipush (v := 6) dX10_isDay_2 rfl rfl ?_
  refine v_callS (c_X10_isWithin _ _ _) yy_X10_isWithin st_X10_isWithin lk_10_61 (zle rfl) (zle rfl) (zle rfl) (zle rfl) rfl rfl (zle rfl) dX10_isDay_4 rfl (zp.use ?_)
  exact v_zreturn rfl (zb_nar _) (zp.rf) (zle rfl) (zle rfl) dX10_isDay_7
theorem c_X10_isDoubt {E : zE} {T : zT} {N : zN} {P : zP} {I : zI} {R : zR} (x : Int32) : zC E yX10_isDoubt cX10_isDoubt 1 (some .boolean) (zr0 1 22) [.int x] T N P I R (zp (zb (0 ≤ x ∧ x ≤ 30)) T N P I R) := by
  refine zC.intro (ls := [some (.int x)]) pl_RX10 (zle rfl) 0 rfl (fun K => ?_)
  refine v_iload_0 dX10_isDoubt_0 rfl ?_
  refine v_iconst (v := 0) dX10_isDoubt_1 rfl rfl ?_
  refine v_bipush (v := 30) dX10_isDoubt_2 rfl rfl ?_
  refine v_callS (c_X10_isWithin _ _ _) yy_X10_isWithin st_X10_isWithin lk_10_61 (zle rfl) (zle rfl) (zle rfl) (zle rfl) rfl rfl (zle rfl) dX10_isDoubt_4 rfl (zp.use ?_)
  exact v_zreturn rfl (zb_nar _) (zp.rf) (zle rfl) (zle rfl) dX10_isDoubt_7
theorem c_X10_isSheet {E : zE} {T : zT} {N : zN} {P : zP} {I : zI} {R : zR} (x : Int32) : zC E yX10_isSheet cX10_isSheet 1 (some .boolean) (zr0 1 22) [.int x] T N P I R (zp (zb (0 ≤ x ∧ x ≤ 3)) T N P I R) := by
  refine zC.intro (ls := [some (.int x)]) pl_RX10 (zle rfl) 0 rfl (fun K => ?_)
  refine v_iload_0 dX10_isSheet_0 rfl ?_
  refine v_iconst (v := 0) dX10_isSheet_1 rfl rfl ?_
  refine v_iconst (v := 3) dX10_isSheet_2 rfl rfl ?_
  refine v_callS (c_X10_isWithin _ _ _) yy_X10_isWithin st_X10_isWithin lk_10_61 (zle rfl) (zle rfl) (zle rfl) (zle rfl) rfl rfl (zle rfl) dX10_isSheet_3 rfl (zp.use ?_)
  exact v_zreturn rfl (zb_nar _) (zp.rf) (zle rfl) (zle rfl) dX10_isSheet_6
theorem c_X11_isDay {E : zE} {T : zT} {N : zN} {P : zP} {I : zI} {R : zR} (x : Int32) : zC E yX11_isDay cX11_isDay 1 (some .boolean) (zr0 1 22) [.int x] T N P I R (zp (zb (0 ≤ x ∧ x ≤ 6)) T N P I R) := by
  refine zC.intro (ls := [some (.int x)]) pl_RX11 (zle rfl) 0 rfl (fun K => ?_)
  refine v_iload_0 dX11_isDay_0 rfl ?_
  refine v_iconst (v := 0) dX11_isDay_1 rfl rfl ?_
  refine v_bipush (v := 6) dX11_isDay_2 rfl rfl ?_
  refine v_callS (c_X11_within _ _ _) yy_X11_within st_X11_within lk_11_121 (zle rfl) (zle rfl) (zle rfl) (zle rfl) rfl rfl (zle rfl) dX11_isDay_4 rfl (zp.use ?_)
  exact v_zreturn rfl (zb_nar _) (zp.rf) (zle rfl) (zle rfl) dX11_isDay_7
theorem c_X11_isSheet {E : zE} {T : zT} {N : zN} {P : zP} {I : zI} {R : zR} (x : Int32) : zC E yX11_isSheet cX11_isSheet 1 (some .boolean) (zr0 1 22) [.int x] T N P I R (zp (zb (0 ≤ x ∧ x ≤ 3)) T N P I R) := by
  refine zC.intro (ls := [some (.int x)]) pl_RX11 (zle rfl) 0 rfl (fun K => ?_)
  refine v_iload_0 dX11_isSheet_0 rfl ?_
  refine v_iconst (v := 0) dX11_isSheet_1 rfl rfl ?_
  refine v_iconst (v := 3) dX11_isSheet_2 rfl rfl ?_
  refine v_callS (c_X11_within _ _ _) yy_X11_within st_X11_within lk_11_121 (zle rfl) (zle rfl) (zle rfl) (zle rfl) rfl rfl (zle rfl) dX11_isSheet_3 rfl (zp.use ?_)
  exact v_zreturn rfl (zb_nar _) (zp.rf) (zle rfl) (zle rfl) dX11_isSheet_6
theorem c_X10_isSheetBits {E : zE} {T : zT} {N : zN} {P : zP} {I : zI} {R : zR} (x : Int32) : zC E yX10_isSheetBits cX10_isSheetBits 1 (some .boolean) (zr0 0 0) [.int x] T N P I R (zp (zb (x = 0 ∨ x = 8 ∨ x = 16 ∨ x = 32)) T N P I R) := by
  refine zC.intro (ls := [some (.int x)]) pl_RX10 (zle rfl) 0 rfl (fun K => ?_)
  refine v_iload_0 dX10_isSheetBits_0 rfl ?_
  refine v_if_eq (tgt := 22) dX10_isSheetBits_1 (by decide) rfl (fun c1 => ?_) (fun c1 => ?_)
  · refine v_iconst (v := 1) dX10_isSheetBits_22 rfl rfl ?_
    refine v_goto (n := 27) dX10_isSheetBits_23 (by decide) ?_
    exact v_zreturn rfl rfl (zp_t (Or.inl c1)) (zle rfl) (zle rfl) dX10_isSheetBits_27
  · refine v_iload_0 dX10_isSheetBits_4 rfl ?_
    refine v_bipush (v := 8) dX10_isSheetBits_5 rfl rfl ?_
    refine v_icmp_eq (tgt := 22) dX10_isSheetBits_7 (by decide) rfl (fun c7 => ?_) (fun c7 => ?_)
    · refine v_iconst (v := 1) dX10_isSheetBits_22 rfl rfl ?_
      refine v_goto (n := 27) dX10_isSheetBits_23 (by decide) ?_
      exact v_zreturn rfl rfl (zp_t (Or.inr (Or.inl c7))) (zle rfl) (zle rfl) dX10_isSheetBits_27
    · refine v_iload_0 dX10_isSheetBits_10 rfl ?_
      refine v_bipush (v := 16) dX10_isSheetBits_11 rfl rfl ?_
      refine v_icmp_eq (tgt := 22) dX10_isSheetBits_13 (by decide) rfl (fun c13 => ?_) (fun c13 => ?_)
      · refine v_iconst (v := 1) dX10_isSheetBits_22 rfl rfl ?_
        refine v_goto (n := 27) dX10_isSheetBits_23 (by decide) ?_
        exact v_zreturn rfl rfl (zp_t (Or.inr (Or.inr (Or.inl c13)))) (zle rfl) (zle rfl) dX10_isSheetBits_27
      · refine v_iload_0 dX10_isSheetBits_16 rfl ?_
        refine v_bipush (v := 32) dX10_isSheetBits_17 rfl rfl ?_
        refine v_icmp_ne (tgt := 26) dX10_isSheetBits_19 (by decide) rfl (fun c19 => ?_) (fun c19 => ?_)
        · refine v_iconst (v := 0) dX10_isSheetBits_26 rfl rfl ?_
          exact v_zreturn rfl rfl (zp_f (by simp [c1, c7, c13, c19])) (zle rfl) (zle rfl) dX10_isSheetBits_27
        · refine v_iconst (v := 1) dX10_isSheetBits_22 rfl rfl ?_
          refine v_goto (n := 27) dX10_isSheetBits_23 (by decide) ?_
          exact v_zreturn rfl rfl (zp_t (Or.inr (Or.inr (Or.inr c19)))) (zle rfl) (zle rfl) dX10_isSheetBits_27
theorem c_X10_has {E : zE} {T : zT} {N : zN} {P : zP} {I : zI} {R : zR} (x : Int32) (j : Nat) (hj : j < 32) : zC E yX10_has cX10_has 2 (some .boolean) (zr0 0 0) [.int x, .int (nI j)] T N P I R (zp (zb (bt x j = true)) T N P I R) := by
  refine zC.intro (ls := [some (.int x), some (.int (nI j))]) pl_RX10 (zle rfl) 0 rfl (fun K => ?_)
  refine v_iload_0 dX10_has_0 rfl ?_
  refine v_iload_1 dX10_has_1 rfl ?_
  refine v_ishr dX10_has_2 rfl ?_
  refine v_iconst (v := 1) dX10_has_3 rfl rfl ?_
  refine v_iand dX10_has_4 rfl ?_
  refine v_if_eq (tgt := 12) dX10_has_5 (by decide) rfl (fun c5 => ?_) (fun c5 => ?_)
  · refine v_iconst (v := 0) dX10_has_12 rfl rfl ?_
    exact v_zreturn rfl rfl (zp_f ((bt_sh hj).mp c5)) (zle rfl) (zle rfl) dX10_has_13
  · refine v_iconst (v := 1) dX10_has_8 rfl rfl ?_
    refine v_goto (n := 13) dX10_has_9 (by decide) ?_
    exact v_zreturn rfl rfl (zp_t (Classical.not_not.mp (fun h => c5 ((bt_sh hj).mpr h)))) (zle rfl) (zle rfl) dX10_has_13
theorem c_X10_finding {E : zE} {T : zT} {N : zN} {P : zP} {I : zI} {R : zR} (a : Nat) (w : Int32) (ha : (T a).1 = 20) : zC E yX10_finding cX10_finding 2 (some .int) (zr0 0 0) [.ref a, .int w] T N P I R (zp w T (u3 N 10 9 a (N 10 9 a + 1)) P I R) := by
  refine zC.intro (ls := [some (.ref a), some (.int w)]) pl_RX10 (zle rfl) 0 rfl (fun K => ?_)
  refine v_aload_0 dX10_finding_0 rfl ?_
  refine v_dup dX10_finding_1 rfl rfl ?_
  refine v_getN fl_10_58 (by assumption) rfl (zle rfl) rfl dX10_finding_2 rfl ?_
  refine v_iconst (v := 1) dX10_finding_5 rfl rfl ?_
  refine v_iadd dX10_finding_6 rfl ?_
  refine v_putN fw_10_58 (by assumption) rfl (zle rfl) rfl (fun h => by cases h) rfl rfl dX10_finding_7 rfl ?_
  refine v_iload_1 dX10_finding_10 rfl ?_
  exact v_ireturn rfl (zp.rf) (zle rfl) (zle rfl) dX10_finding_11
theorem c_X11_finding {E : zE} {T : zT} {N : zN} {P : zP} {I : zI} {R : zR} (a : Nat) (w : Int32) (ha : (T a).1 = 21) : zC E yX11_finding cX11_finding 2 (some .int) (zr0 0 0) [.ref a, .int w] T N P I R (zp w T (u3 N 11 31 a (N 11 31 a + 1)) P I R) := by
  refine zC.intro (ls := [some (.ref a), some (.int w)]) pl_RX11 (zle rfl) 0 rfl (fun K => ?_)
  refine v_aload_0 dX11_finding_0 rfl ?_
  refine v_dup dX11_finding_1 rfl rfl ?_
  refine v_getN fl_11_114 (by assumption) rfl (zle rfl) rfl dX11_finding_2 rfl ?_
  refine v_iconst (v := 1) dX11_finding_5 rfl rfl ?_
  refine v_iadd dX11_finding_6 rfl ?_
  refine v_putN fw_11_114 (by assumption) rfl (zle rfl) rfl (fun h => by cases h) rfl rfl dX11_finding_7 rfl ?_
  refine v_iload_1 dX11_finding_10 rfl ?_
  exact v_ireturn rfl (zp.rf) (zle rfl) (zle rfl) dX11_finding_11
theorem c_X11_isCorner {E : zE} {T : zT} {N : zN} {P : zP} {I : zI} {R : zR} (a : Nat) (x : Int32) (ha : (T a).1 = 21) : zC E yX11_isCorner cX11_isCorner 2 (some .boolean) (zr0 1 22) [.ref a, .int x] T N P I R (zp (zb (0 ≤ x ∧ x ≤ N 11 0 a - 1)) T N P I R) := by
  refine zC.intro (ls := [some (.ref a), some (.int x)]) pl_RX11 (zle rfl) 0 rfl (fun K => ?_)
  refine v_iload_1 dX11_isCorner_0 rfl ?_
  refine v_iconst (v := 0) dX11_isCorner_1 rfl rfl ?_
  refine v_aload_0 dX11_isCorner_2 rfl ?_
  refine v_getN fl_11_118 (by assumption) rfl (zle rfl) rfl dX11_isCorner_3 rfl ?_
  refine v_iconst (v := 1) dX11_isCorner_6 rfl rfl ?_
  refine v_isub dX11_isCorner_7 rfl ?_
  refine v_callS (c_X11_within _ _ _) yy_X11_within st_X11_within lk_11_121 (zle rfl) (zle rfl) (zle rfl) (zle rfl) rfl rfl (zle rfl) dX11_isCorner_8 rfl (zp.use ?_)
  exact v_zreturn rfl (zb_nar _) (zp.rf) (zle rfl) (zle rfl) dX11_isCorner_11
theorem c_X11_isWay {E : zE} {T : zT} {N : zN} {P : zP} {I : zI} {R : zR} (a : Nat) (x : Int32) (ha : (T a).1 = 21) : zC E yX11_isWay cX11_isWay 2 (some .boolean) (zr0 1 22) [.ref a, .int x] T N P I R (zp (zb (0 ≤ x ∧ x ≤ N 11 3 a - 1)) T N P I R) := by
  refine zC.intro (ls := [some (.ref a), some (.int x)]) pl_RX11 (zle rfl) 0 rfl (fun K => ?_)
  refine v_iload_1 dX11_isWay_0 rfl ?_
  refine v_iconst (v := 0) dX11_isWay_1 rfl rfl ?_
  refine v_aload_0 dX11_isWay_2 rfl ?_
  refine v_getN fl_11_125 (by assumption) rfl (zle rfl) rfl dX11_isWay_3 rfl ?_
  refine v_iconst (v := 1) dX11_isWay_6 rfl rfl ?_
  refine v_isub dX11_isWay_7 rfl ?_
  refine v_callS (c_X11_within _ _ _) yy_X11_within st_X11_within lk_11_121 (zle rfl) (zle rfl) (zle rfl) (zle rfl) rfl rfl (zle rfl) dX11_isWay_8 rfl (zp.use ?_)
  exact v_zreturn rfl (zb_nar _) (zp.rf) (zle rfl) (zle rfl) dX11_isWay_11
theorem c_X11_isWalker {E : zE} {T : zT} {N : zN} {P : zP} {I : zI} {R : zR} (a : Nat) (x : Int32) (ha : (T a).1 = 21) : zC E yX11_isWalker cX11_isWalker 2 (some .boolean) (zr0 1 22) [.ref a, .int x] T N P I R (zp (zb (0 ≤ x ∧ x ≤ N 11 18 a - 1)) T N P I R) := by
  refine zC.intro (ls := [some (.ref a), some (.int x)]) pl_RX11 (zle rfl) 0 rfl (fun K => ?_)
  refine v_iload_1 dX11_isWalker_0 rfl ?_
  refine v_iconst (v := 0) dX11_isWalker_1 rfl rfl ?_
  refine v_aload_0 dX11_isWalker_2 rfl ?_
  refine v_getN fl_11_128 (by assumption) rfl (zle rfl) rfl dX11_isWalker_3 rfl ?_
  refine v_iconst (v := 1) dX11_isWalker_6 rfl rfl ?_
  refine v_isub dX11_isWalker_7 rfl ?_
  refine v_callS (c_X11_within _ _ _) yy_X11_within st_X11_within lk_11_121 (zle rfl) (zle rfl) (zle rfl) (zle rfl) rfl rfl (zle rfl) dX11_isWalker_8 rfl (zp.use ?_)
  exact v_zreturn rfl (zb_nar _) (zp.rf) (zle rfl) (zle rfl) dX11_isWalker_11
theorem c_X11_isEdition {E : zE} {T : zT} {N : zN} {P : zP} {I : zI} {R : zR} (a : Nat) (x : Int32) (ha : (T a).1 = 21) : zC E yX11_isEdition cX11_isEdition 2 (some .boolean) (zr0 1 22) [.ref a, .int x] T N P I R (zp (zb (0 ≤ x ∧ x ≤ N 11 9 a - 1)) T N P I R) := by
  refine zC.intro (ls := [some (.ref a), some (.int x)]) pl_RX11 (zle rfl) 0 rfl (fun K => ?_)
  refine v_iload_1 dX11_isEdition_0 rfl ?_
  refine v_iconst (v := 0) dX11_isEdition_1 rfl rfl ?_
  refine v_aload_0 dX11_isEdition_2 rfl ?_
  refine v_getN fl_11_184 (by assumption) rfl (zle rfl) rfl dX11_isEdition_3 rfl ?_
  refine v_iconst (v := 1) dX11_isEdition_6 rfl rfl ?_
  refine v_isub dX11_isEdition_7 rfl ?_
  refine v_callS (c_X11_within _ _ _) yy_X11_within st_X11_within lk_11_121 (zle rfl) (zle rfl) (zle rfl) (zle rfl) rfl rfl (zle rfl) dX11_isEdition_8 rfl (zp.use ?_)
  exact v_zreturn rfl (zb_nar _) (zp.rf) (zle rfl) (zle rfl) dX11_isEdition_11
theorem c_X9_leadsFrom {E : zE} {T : zT} {N : zN} {P : zP} {I : zI} {R : zR} (a : Nat) (c : Int32) (ha : (T a).1 = 19) : zC E yX9_leadsFrom cX9_leadsFrom 2 (some .boolean) (zr0 0 0) [.ref a, .int c] T N P I R (zp (zb (c = N 9 0 a ∨ c = N 9 1 a)) T N P I R) := by
  refine zC.intro (ls := [some (.ref a), some (.int c)]) pl_RX9 (zle rfl) 0 rfl (fun K => ?_)
  refine v_iload_1 dX9_leadsFrom_0 rfl ?_
  refine v_aload_0 dX9_leadsFrom_1 rfl ?_
  refine v_getN fl_9_13 (by assumption) rfl (zle rfl) rfl dX9_leadsFrom_2 rfl ?_
  refine v_icmp_eq (tgt := 16) dX9_leadsFrom_5 (by decide) rfl (fun c5 => ?_) (fun c5 => ?_)
  · refine v_iconst (v := 1) dX9_leadsFrom_16 rfl rfl ?_
    refine v_goto (n := 21) dX9_leadsFrom_17 (by decide) ?_
    exact v_zreturn rfl rfl (zp_t (Or.inl c5)) (zle rfl) (zle rfl) dX9_leadsFrom_21
  · refine v_iload_1 dX9_leadsFrom_8 rfl ?_
    refine v_aload_0 dX9_leadsFrom_9 rfl ?_
    refine v_getN fl_9_16 (by assumption) rfl (zle rfl) rfl dX9_leadsFrom_10 rfl ?_
    refine v_icmp_ne (tgt := 20) dX9_leadsFrom_13 (by decide) rfl (fun c13 => ?_) (fun c13 => ?_)
    · refine v_iconst (v := 0) dX9_leadsFrom_20 rfl rfl ?_
      exact v_zreturn rfl rfl (zp_f (fun h => h.elim c5 c13)) (zle rfl) (zle rfl) dX9_leadsFrom_21
    · refine v_iconst (v := 1) dX9_leadsFrom_16 rfl rfl ?_
      refine v_goto (n := 21) dX9_leadsFrom_17 (by decide) ?_
      exact v_zreturn rfl rfl (zp_t (Or.inr c13)) (zle rfl) (zle rfl) dX9_leadsFrom_21
theorem c_X9_otherEnd {E : zE} {T : zT} {N : zN} {P : zP} {I : zI} {R : zR} (a : Nat) (c : Int32) (ha : (T a).1 = 19) : zC E yX9_otherEnd cX9_otherEnd 2 (some .int) (zr0 0 0) [.ref a, .int c] T N P I R (zp (if c = N 9 0 a then N 9 1 a else N 9 0 a) T N P I R) := by
  refine zC.intro (ls := [some (.ref a), some (.int c)]) pl_RX9 (zle rfl) 0 rfl (fun K => ?_)
  refine v_iload_1 dX9_otherEnd_0 rfl ?_
  refine v_aload_0 dX9_otherEnd_1 rfl ?_
  refine v_getN fl_9_13 (by assumption) rfl (zle rfl) rfl dX9_otherEnd_2 rfl ?_
  refine v_icmp_ne (tgt := 15) dX9_otherEnd_5 (by decide) rfl (fun c5 => ?_) (fun c5 => ?_)
  · refine v_aload_0 dX9_otherEnd_15 rfl ?_
    refine v_getN fl_9_13 (by assumption) rfl (zle rfl) rfl dX9_otherEnd_16 rfl ?_
    exact v_ireturn rfl (zp_e (by rw [if_neg c5])) (zle rfl) (zle rfl) dX9_otherEnd_19
  · refine v_aload_0 dX9_otherEnd_8 rfl ?_
    refine v_getN fl_9_16 (by assumption) rfl (zle rfl) rfl dX9_otherEnd_9 rfl ?_
    refine v_goto (n := 19) dX9_otherEnd_12 (by decide) ?_
    exact v_ireturn rfl (zp_e (by rw [if_pos c5])) (zle rfl) (zle rfl) dX9_otherEnd_19
theorem c_X9_isShut {E : zE} {T : zT} {N : zN} {P : zP} {I : zI} {R : zR} (a : Nat) (j : Nat) (ha : (T a).1 = 19) (hj : j < 32) : zC E yX9_isShut cX9_isShut 2 (some .boolean) (zr0 1 21) [.ref a, .int (nI j)] T N P I R (zp (zb (bt (N 9 4 a) j = true)) T N P I R) := by
  refine zC.intro (ls := [some (.ref a), some (.int (nI j))]) pl_RX9 (zle rfl) 0 rfl (fun K => ?_)
  refine v_aload_0 dX9_isShut_0 rfl ?_
  refine v_getN fl_9_7 (by assumption) rfl (zle rfl) rfl dX9_isShut_1 rfl ?_
  refine v_iload_1 dX9_isShut_4 rfl ?_
  refine v_callS (c_X10_has _ _ (by omega)) yy_X10_has st_X10_has lk_9_26 (zle rfl) (zle rfl) (zle rfl) (zle rfl) rfl rfl (zle rfl) dX9_isShut_5 rfl (zp.use ?_)
  exact v_zreturn rfl (zb_nar _) (zp.rf) (zle rfl) (zle rfl) dX9_isShut_8
theorem c_X9_isFor {E : zE} {T : zT} {N : zN} {P : zP} {I : zI} {R : zR} (a : Nat) (s : Prop) (ha : (T a).1 = 19) : zC E yX9_isFor cX9_isFor 2 (some .boolean) (zr0 0 0) [.ref a, .int (zb s)] T N P I R (zp (zb (s ∨ N 9 3 a = 0)) T N P I R) := by
  refine zC.intro (ls := [some (.ref a), some (.int (zb s))]) pl_RX9 (zle rfl) 0 rfl (fun K => ?_)
  refine v_iload_1 dX9_isFor_0 rfl ?_
  refine v_ifz_ne (tgt := 11) dX9_isFor_1 (by decide) rfl (fun c1 => ?_) (fun c1 => ?_)
  · refine v_iconst (v := 1) dX9_isFor_11 rfl rfl ?_
    refine v_goto (n := 16) dX9_isFor_12 (by decide) ?_
    exact v_zreturn rfl rfl (zp_t (Or.inl c1)) (zle rfl) (zle rfl) dX9_isFor_16
  · refine v_aload_0 dX9_isFor_4 rfl ?_
    refine v_getN fl_9_22 (by assumption) rfl (zle rfl) rfl dX9_isFor_5 rfl ?_
    refine v_if_ne (tgt := 15) dX9_isFor_8 (by decide) rfl (fun c8 => ?_) (fun c8 => ?_)
    · refine v_iconst (v := 0) dX9_isFor_15 rfl rfl ?_
      exact v_zreturn rfl rfl (zp_f (fun h => h.elim c1 c8)) (zle rfl) (zle rfl) dX9_isFor_16
    · refine v_iconst (v := 1) dX9_isFor_11 rfl rfl ?_
      refine v_goto (n := 16) dX9_isFor_12 (by decide) ?_
      exact v_zreturn rfl rfl (zp_t (Or.inr c8)) (zle rfl) (zle rfl) dX9_isFor_16
theorem c_X9_isOpen {E : zE} {T : zT} {N : zN} {P : zP} {I : zI} {R : zR} (a : Nat) (j : Nat) (s : Prop) (ha : (T a).1 = 19) (hj : j < 32) : zC E yX9_isOpen cX9_isOpen 3 (some .boolean) (zr0 2 42) [.ref a, .int (nI j), .int (zb s)] T N P I R (zp (zb (¬ bt (N 9 4 a) j = true ∧ (s ∨ N 9 3 a = 0))) T N P I R) := by
  refine zC.intro (ls := [some (.ref a), some (.int (nI j)), some (.int (zb s))]) pl_RX9 (zle rfl) 0 rfl (fun K => ?_)
  refine v_aload_0 dX9_isOpen_0 rfl ?_
  refine v_iload_1 dX9_isOpen_1 rfl ?_
  refine v_callV (ci := 9) (F := TX9) (c_X9_isShut _ _ (by assumption) (by omega)) yy_X9_isShut im_X9_isShut se_X9_isShut lk_9_32 (by assumption) (zle rfl) rfl (zle rfl) (zle rfl) (zle rfl) (zle rfl) rfl rfl (zle rfl) dX9_isOpen_2 rfl (zp.use ?_)
  refine v_ifz_ne (tgt := 20) dX9_isOpen_5 (by decide) rfl (fun c5 => ?_) (fun c5 => ?_)
  · refine v_iconst (v := 0) dX9_isOpen_20 rfl rfl ?_
    exact v_zreturn rfl rfl (zp_f (fun h => h.1 c5)) (zle rfl) (zle rfl) dX9_isOpen_21
  · refine v_aload_0 dX9_isOpen_8 rfl ?_
    refine v_iload_2 dX9_isOpen_9 rfl ?_
    refine v_callV (ci := 9) (F := TX9) (c_X9_isFor _ _ (by assumption)) yy_X9_isFor im_X9_isFor se_X9_isFor lk_9_36 (by assumption) (zle rfl) rfl (zle rfl) (zle rfl) (zle rfl) (zle rfl) rfl rfl (zle rfl) dX9_isOpen_10 rfl (zp.use ?_)
    refine v_ifz_eq (tgt := 20) dX9_isOpen_13 (by decide) rfl (fun c13 => ?_) (fun c13 => ?_)
    · refine v_iconst (v := 0) dX9_isOpen_20 rfl rfl ?_
      exact v_zreturn rfl rfl (zp_f (fun h => c13 h.2)) (zle rfl) (zle rfl) dX9_isOpen_21
    · refine v_iconst (v := 1) dX9_isOpen_16 rfl rfl ?_
      refine v_goto (n := 21) dX9_isOpen_17 (by decide) ?_
      exact v_zreturn rfl rfl (zp_t ⟨c5, c13⟩) (zle rfl) (zle rfl) dX9_isOpen_21
theorem c_X2_isOfKind {E : zE} {T : zT} {N : zN} {P : zP} {I : zI} {R : zR} (a : Nat) (k : Int32) (ha : (T a).1 = 12) : zC E yX2_isOfKind cX2_isOfKind 2 (some .boolean) (zr0 0 0) [.ref a, .int k] T N P I R (zp (zb (k = N 2 0 a ∨ k = 0 ∨ (k = 2 ∧ N 2 0 a = 3))) T N P I R) := by
  refine zC.intro (ls := [some (.ref a), some (.int k)]) pl_RX2 (zle rfl) 0 rfl (fun K => ?_)
  refine v_iload_1 dX2_isOfKind_0 rfl ?_
  refine v_aload_0 dX2_isOfKind_1 rfl ?_
  refine v_getN fl_2_9 (by assumption) rfl (zle rfl) rfl dX2_isOfKind_2 rfl ?_
  refine v_icmp_eq (tgt := 25) dX2_isOfKind_5 (by decide) rfl (fun c5 => ?_) (fun c5 => ?_)
  · refine v_iconst (v := 1) dX2_isOfKind_25 rfl rfl ?_
    refine v_goto (n := 30) dX2_isOfKind_26 (by decide) ?_
    exact v_zreturn rfl rfl (zp_t (Or.inl c5)) (zle rfl) (zle rfl) dX2_isOfKind_30
  · refine v_iload_1 dX2_isOfKind_8 rfl ?_
    refine v_if_eq (tgt := 25) dX2_isOfKind_9 (by decide) rfl (fun c9 => ?_) (fun c9 => ?_)
    · refine v_iconst (v := 1) dX2_isOfKind_25 rfl rfl ?_
      refine v_goto (n := 30) dX2_isOfKind_26 (by decide) ?_
      exact v_zreturn rfl rfl (zp_t (Or.inr (Or.inl c9))) (zle rfl) (zle rfl) dX2_isOfKind_30
    · refine v_iload_1 dX2_isOfKind_12 rfl ?_
      refine v_iconst (v := 2) dX2_isOfKind_13 rfl rfl ?_
      refine v_icmp_ne (tgt := 29) dX2_isOfKind_14 (by decide) rfl (fun c14 => ?_) (fun c14 => ?_)
      · refine v_iconst (v := 0) dX2_isOfKind_29 rfl rfl ?_
        exact v_zreturn rfl rfl (zp_f (fun h => h.elim c5 (fun h => h.elim c9 (fun h => c14 h.1)))) (zle rfl) (zle rfl) dX2_isOfKind_30
      · refine v_aload_0 dX2_isOfKind_17 rfl ?_
        refine v_getN fl_2_9 (by assumption) rfl (zle rfl) rfl dX2_isOfKind_18 rfl ?_
        refine v_iconst (v := 3) dX2_isOfKind_21 rfl rfl ?_
        refine v_icmp_ne (tgt := 29) dX2_isOfKind_22 (by decide) rfl (fun c22 => ?_) (fun c22 => ?_)
        · refine v_iconst (v := 0) dX2_isOfKind_29 rfl rfl ?_
          exact v_zreturn rfl rfl (zp_f (fun h => h.elim c5 (fun h => h.elim c9 (fun h => c22 h.2)))) (zle rfl) (zle rfl) dX2_isOfKind_30
        · refine v_iconst (v := 1) dX2_isOfKind_25 rfl rfl ?_
          refine v_goto (n := 30) dX2_isOfKind_26 (by decide) ?_
          exact v_zreturn rfl rfl (zp_t (Or.inr (Or.inr ⟨c14, c22⟩))) (zle rfl) (zle rfl) dX2_isOfKind_30
theorem c_X2_fits {E : zE} {T : zT} {N : zN} {P : zP} {I : zI} {R : zR} (a : Nat) (c s : Int32) (j : Nat) (ha : (T a).1 = 12) (hj : j < 32) : zC E yX2_fits cX2_fits 4 (some .boolean) (zr0 0 0) [.ref a, .int c, .int s, .int (nI j)] T N P I R (zp (zb (N 2 1 a = c ∧ bt (N 2 4 a) j = true ∧ ((N 2 0 a = 2 ∨ N 2 0 a = 3) ∧ (N 2 3 a = 0 ∨ ¬ N 2 3 a &&& s = 0) ∨ ¬ (N 2 0 a = 2 ∨ N 2 0 a = 3) ∧ N 2 3 a &&& (s ^^^ (-1)) = 0))) T N P I R) := by
  refine zC.intro (ls := [some (.ref a), some (.int c), some (.int s), some (.int (nI j))]) pl_RX2 (zle rfl) 0 rfl (fun K => ?_)
  refine v_aload_0 dX2_fits_0 rfl ?_
  refine v_getN fl_2_15 (by assumption) rfl (zle rfl) rfl dX2_fits_1 rfl ?_
  refine v_iload_1 dX2_fits_4 rfl ?_
  refine v_icmp_ne (tgt := 19) dX2_fits_5 (by decide) rfl (fun c5 => ?_) (fun c5 => ?_)
  · refine v_iconst (v := 0) dX2_fits_19 rfl rfl ?_
    exact v_zreturn rfl rfl (by
    first
      | (refine zp_t ?_; simp_all [bt_sh hj]; done)
      | (refine zp_f ?_; simp_all [bt_sh hj]; done)) (zle rfl) (zle rfl) dX2_fits_20
  · refine v_aload_0 dX2_fits_8 rfl ?_
    refine v_getN fl_2_24 (by assumption) rfl (zle rfl) rfl dX2_fits_9 rfl ?_
    refine v_iload_3 dX2_fits_12 rfl ?_
    refine v_ishr dX2_fits_13 rfl ?_
    refine v_iconst (v := 1) dX2_fits_14 rfl rfl ?_
    refine v_iand dX2_fits_15 rfl ?_
    refine v_if_ne (tgt := 21) dX2_fits_16 (by decide) rfl (fun c16 => ?_) (fun c16 => ?_)
    · refine v_aload_0 dX2_fits_21 rfl ?_
      refine v_getN fl_2_9 (by assumption) rfl (zle rfl) rfl dX2_fits_22 rfl ?_
      refine v_iconst (v := 2) dX2_fits_25 rfl rfl ?_
      refine v_icmp_eq (tgt := 37) dX2_fits_26 (by decide) rfl (fun c26 => ?_) (fun c26 => ?_)
      · refine v_aload_0 dX2_fits_37 rfl ?_
        refine v_getN fl_2_21 (by assumption) rfl (zle rfl) rfl dX2_fits_38 rfl ?_
        refine v_if_eq (tgt := 53) dX2_fits_41 (by decide) rfl (fun c41 => ?_) (fun c41 => ?_)
        · refine v_iconst (v := 1) dX2_fits_53 rfl rfl ?_
          refine v_goto (n := 58) dX2_fits_54 (by decide) ?_
          exact v_zreturn rfl rfl (by
    first
      | (refine zp_t ?_; simp_all [bt_sh hj]; done)
      | (refine zp_f ?_; simp_all [bt_sh hj]; done)) (zle rfl) (zle rfl) dX2_fits_58
        · refine v_aload_0 dX2_fits_44 rfl ?_
          refine v_getN fl_2_21 (by assumption) rfl (zle rfl) rfl dX2_fits_45 rfl ?_
          refine v_iload_2 dX2_fits_48 rfl ?_
          refine v_iand dX2_fits_49 rfl ?_
          refine v_if_eq (tgt := 57) dX2_fits_50 (by decide) rfl (fun c50 => ?_) (fun c50 => ?_)
          · refine v_iconst (v := 0) dX2_fits_57 rfl rfl ?_
            exact v_zreturn rfl rfl (by
    first
      | (refine zp_t ?_; simp_all [bt_sh hj]; done)
      | (refine zp_f ?_; simp_all [bt_sh hj]; done)) (zle rfl) (zle rfl) dX2_fits_58
          · refine v_iconst (v := 1) dX2_fits_53 rfl rfl ?_
            refine v_goto (n := 58) dX2_fits_54 (by decide) ?_
            exact v_zreturn rfl rfl (by
    first
      | (refine zp_t ?_; simp_all [bt_sh hj]; done)
      | (refine zp_f ?_; simp_all [bt_sh hj]; done)) (zle rfl) (zle rfl) dX2_fits_58
      · refine v_aload_0 dX2_fits_29 rfl ?_
        refine v_getN fl_2_9 (by assumption) rfl (zle rfl) rfl dX2_fits_30 rfl ?_
        refine v_iconst (v := 3) dX2_fits_33 rfl rfl ?_
        refine v_icmp_ne (tgt := 59) dX2_fits_34 (by decide) rfl (fun c34 => ?_) (fun c34 => ?_)
        · refine v_aload_0 dX2_fits_59 rfl ?_
          refine v_getN fl_2_21 (by assumption) rfl (zle rfl) rfl dX2_fits_60 rfl ?_
          refine v_iload_2 dX2_fits_63 rfl ?_
          refine v_iconst (v := -1) dX2_fits_64 rfl rfl ?_
          refine v_ixor dX2_fits_65 rfl ?_
          refine v_iand dX2_fits_66 rfl ?_
          refine v_if_ne (tgt := 74) dX2_fits_67 (by decide) rfl (fun c67 => ?_) (fun c67 => ?_)
          · refine v_iconst (v := 0) dX2_fits_74 rfl rfl ?_
            exact v_zreturn rfl rfl (by
    first
      | (refine zp_t ?_; simp_all [bt_sh hj]; done)
      | (refine zp_f ?_; simp_all [bt_sh hj]; done)) (zle rfl) (zle rfl) dX2_fits_75
          · refine v_iconst (v := 1) dX2_fits_70 rfl rfl ?_
            refine v_goto (n := 75) dX2_fits_71 (by decide) ?_
            exact v_zreturn rfl rfl (by
    first
      | (refine zp_t ?_; simp_all [bt_sh hj]; done)
      | (refine zp_f ?_; simp_all [bt_sh hj]; done)) (zle rfl) (zle rfl) dX2_fits_75
        · refine v_aload_0 dX2_fits_37 rfl ?_
          refine v_getN fl_2_21 (by assumption) rfl (zle rfl) rfl dX2_fits_38 rfl ?_
          refine v_if_eq (tgt := 53) dX2_fits_41 (by decide) rfl (fun c41 => ?_) (fun c41 => ?_)
          · refine v_iconst (v := 1) dX2_fits_53 rfl rfl ?_
            refine v_goto (n := 58) dX2_fits_54 (by decide) ?_
            exact v_zreturn rfl rfl (by
    first
      | (refine zp_t ?_; simp_all [bt_sh hj]; done)
      | (refine zp_f ?_; simp_all [bt_sh hj]; done)) (zle rfl) (zle rfl) dX2_fits_58
          · refine v_aload_0 dX2_fits_44 rfl ?_
            refine v_getN fl_2_21 (by assumption) rfl (zle rfl) rfl dX2_fits_45 rfl ?_
            refine v_iload_2 dX2_fits_48 rfl ?_
            refine v_iand dX2_fits_49 rfl ?_
            refine v_if_eq (tgt := 57) dX2_fits_50 (by decide) rfl (fun c50 => ?_) (fun c50 => ?_)
            · refine v_iconst (v := 0) dX2_fits_57 rfl rfl ?_
              exact v_zreturn rfl rfl (by
    first
      | (refine zp_t ?_; simp_all [bt_sh hj]; done)
      | (refine zp_f ?_; simp_all [bt_sh hj]; done)) (zle rfl) (zle rfl) dX2_fits_58
            · refine v_iconst (v := 1) dX2_fits_53 rfl rfl ?_
              refine v_goto (n := 58) dX2_fits_54 (by decide) ?_
              exact v_zreturn rfl rfl (by
    first
      | (refine zp_t ?_; simp_all [bt_sh hj]; done)
      | (refine zp_f ?_; simp_all [bt_sh hj]; done)) (zle rfl) (zle rfl) dX2_fits_58
    · refine v_iconst (v := 0) dX2_fits_19 rfl rfl ?_
      exact v_zreturn rfl rfl (by
    first
      | (refine zp_t ?_; simp_all [bt_sh hj]; done)
      | (refine zp_f ?_; simp_all [bt_sh hj]; done)) (zle rfl) (zle rfl) dX2_fits_20
theorem c_X5_lowestBits {E : zE} {T : zT} {N : zN} {P : zP} {I : zI} {R : zR} (a : Nat) (v : Int32) (ha : (T a).1 = 15) : zC E yX5_lowestBits cX5_lowestBits 3 (some .int) (zr0 0 0) [.ref a, .int v] T N P I R (zp (v <<< ((32 - N 5 0 a) &&& 31) >>> ((32 - N 5 0 a) &&& 31)) T N P I R) := by
  refine zC.intro (ls := [some (.ref a), some (.int v), none]) pl_RX5 (zle rfl) 1 rfl (fun K => ?_)
  refine v_bipush (v := 32) dX5_lowestBits_0 rfl rfl ?_
  refine v_aload_0 dX5_lowestBits_2 rfl ?_
  refine v_getN fl_5_7 (by assumption) rfl (zle rfl) rfl dX5_lowestBits_3 rfl ?_
  refine v_isub dX5_lowestBits_6 rfl ?_
  refine v_istore_2 dX5_lowestBits_7 rfl (zle rfl) rfl ?_
  refine v_iload_1 dX5_lowestBits_8 rfl ?_
  refine v_iload_2 dX5_lowestBits_9 rfl ?_
  refine v_ishl dX5_lowestBits_10 rfl ?_
  refine v_iload_2 dX5_lowestBits_11 rfl ?_
  refine v_ishr dX5_lowestBits_12 rfl ?_
  exact v_ireturn rfl (zp.rf) (zle rfl) (zle rfl) dX5_lowestBits_13
