theorem nI_or {a b : Nat} (ha : a < 2 ^ 31) (hb : b < 2 ^ 31) : nI a ||| nI b = nI (a ||| b) := by
  apply b_ext
  intro i hi
  rw [b_or, bt_nI ha, bt_nI hb, bt_nI (Nat.or_lt_two_pow ha hb), Nat.testBit_or]
theorem nI_sh : ∀ n, n < 8 → (1 : Int32) <<< (nI n &&& 31) = nI (2 ^ n) := by decide +kernel
/-- the set of possible corners as a number -/
noncomputable def psn (r : zg) (x y k : Int32) : Nat → Nat
  | 0 => 0
  | n + 1 => zi (psb r x y k n) (psn r x y k n ||| 2 ^ n) (psn r x y k n)
theorem psn_lt (r : zg) (x y k : Int32) : ∀ n, psn r x y k n < 2 ^ n := by
  intro n
  induction n with
  | zero => exact Nat.one_pos
  | succ n ih =>
    have h1 : psn r x y k n < 2 ^ (n + 1) := Nat.lt_trans ih (Nat.pow_lt_pow_right (by decide) (Nat.lt_succ_self n))
    show zi _ _ _ < _
    by_cases h : psb r x y k n
    · rw [zi_t h]
      exact Nat.or_lt_two_pow h1 (Nat.pow_lt_pow_right (by decide) (Nat.lt_succ_self n))
    · rw [zi_f h]; exact h1
theorem psx_psn (r : zg) (x y k : Int32) : ∀ n, n ≤ 8 → psx r x y k n = nI (psn r x y k n) := by
  intro n
  induction n with
  | zero => intro _; rfl
  | succ n ih =>
    intro hn
    have hl := psn_lt r x y k n
    have h256 : 2 ^ n ≤ 2 ^ 8 := Nat.pow_le_pow_right (by decide) (by omega)
    show zi _ _ _ = nI (zi _ _ _)
    by_cases h : psb r x y k n
    · rw [zi_t h, zi_t h, ih (by omega)]
      unfold hset
      rw [nI_sh n (by omega), nI_or (by omega) (by omega)]
    · rw [zi_f h, zi_f h, ih (by omega)]
theorem psn_bit {r : zg} {x y k : Int32} {i : Nat} : ∀ n, ((psn r x y k n).testBit i = true ↔ i < n ∧ psb r x y k i) := by
  intro n
  induction n with
  | zero => simp [psn]
  | succ n ih =>
    show (zi (psb r x y k n) (psn r x y k n ||| 2 ^ n) (psn r x y k n)).testBit i = true ↔ _
    by_cases h : psb r x y k n
    · rw [zi_t h, Nat.testBit_or, Bool.or_eq_true, ih, Nat.testBit_two_pow]
      constructor
      · rintro (⟨h1, h2⟩ | h1)
        · exact ⟨by omega, h2⟩
        · have := of_decide_eq_true h1
          subst this
          exact ⟨by omega, h⟩
      · rintro ⟨h1, h2⟩
        rcases Nat.lt_or_ge i n with z | z
        · exact Or.inl ⟨z, h2⟩
        · right
          exact decide_eq_true (by omega)
    · rw [zi_f h, ih]
      constructor
      · rintro ⟨h1, h2⟩
        exact ⟨by omega, h2⟩
      · rintro ⟨h1, h2⟩
        rcases Nat.lt_or_ge i n with z | z
        · exact ⟨z, h2⟩
        · obtain rfl : i = n := by omega
          exact absurd h2 h
theorem one_bit : ∀ s, s < 256 → (nI (fb_ct (fun p => s.testBit p) 8) = 1 ↔ ∃ k, k < 8 ∧ s = 2 ^ k) := by decide +kernel
theorem c_X8_takeReading {E : zE} {T : zT} {N : zN} {P : zP} {I : zI} {R : zR} (e ea pa d w c : Nat) (pp : Nat → Nat) (b : Nat → Nat → Nat) (f : zf) (r : zg) (s : Prop) (x y k9 : Int32) (hE : REe T N P R ea pa pp r e) (hn : Nt (r 10 e) 13) (hk : ∀ p, p < tn (r 10 e) → Nt (r 11 (12 * e + p)) 4) (hd : d < 7) (hw : (T w).1 = 18) (hp : P 8 0 w = some ea) (hT : RT T N P I R b f r) (h3 : Nt (f 3) 15) (hs : N 8 2 w = zb s) (h0 : Nt (f 0) 9) (ha : T (b 1 0) = (1, 8)) (hb : T (b 1 1) = (1, 8)) (hc : N 8 3 w = nI c) (hc8 : c < tn (f 0)) : zC E yX8_takeReading cX8_takeReading 7 none (zr0 5 119) [.ref w, .ref (b 0 0), .int (nI d), .int x, .int y, .int k9] T N P I R (fun v T1 N1 P1 I1 R1 => v = none ∧ T1 = T ∧ P1 = P ∧ I1 = I ∧ R1 = R ∧ ((psb r x y k9 c ∧ N1 = u3 (u3 N 8 7 w (-1)) 8 8 w 0) ∨ (¬ psb r x y k9 c ∧ ∃ j, j < 8 ∧ psn r x y k9 (tn (f 0)) = 2 ^ j ∧ N1 = zi (sur r (tn (f 3)) d s (N 8 3 w) (nI j) (sgt N w (nI j))) (NZ (u3 (u3 (u3 (u3 (u3 N 8 7 w (nI j)) 8 8 w (sgt N w (nI j))) 8 3 w (nI j)) 8 7 w (-1)) 8 8 w 0) w (lsn r e (tn (r 10 e)) (nI j) d 12 (N 8 4 w, N 8 5 w, N 8 6 w, 0))) (u3 (u3 N 8 7 w (nI j)) 8 8 w (sgt N w (nI j)))) ∨ (¬ psb r x y k9 c ∧ (∀ j, j < 8 → ¬ psn r x y k9 (tn (f 0)) = 2 ^ j) ∧ N1 = N))) := by
  refine zC.intro (ls := [some (.ref w), some (.ref (b 0 0)), some (.int (nI d)), some (.int x), some (.int y), some (.int k9), none]) pl_RX8 (zle rfl) 1 rfl (fun K => ?_)
  have h0b := h0.2
  have hl := psn_lt r x y k9 (tn (f 0))
  have h256 : 2 ^ tn (f 0) ≤ 2 ^ 8 := Nat.pow_le_pow_right (by decide) (by omega)
  have hS : psn r x y k9 (tn (f 0)) < 256 := by omega
  refine v_aload_1 dX8_takeReading_0 rfl ?_
  refine v_iload_3 dX8_takeReading_1 rfl ?_
  refine v_iload_4 dX8_takeReading_2 rfl ?_
  refine v_iload_5 dX8_takeReading_4 rfl ?_
  refine v_callV (ci := 7) (F := TX7) (c_X7_possibleCorners b f r x y k9 hT h0 ha hb) yy_X7_possibleCorners im_X7_possibleCorners se_X7_possibleCorners lk_8_70 hT.1 (zle rfl) rfl (zle rfl) (zle rfl) (zle rfl) (zle rfl) rfl rfl (zle rfl) dX8_takeReading_6 rfl (zp.use ?_)
  refine v_top (psx_psn r x y k9 (tn (f 0)) (by omega)) ?_
  refine v_istore_6 dX8_takeReading_9 rfl (zle rfl) rfl ?_
  refine v_iload_6 dX8_takeReading_11 rfl ?_
  refine v_aload_0 dX8_takeReading_13 rfl ?_
  refine v_getN fl_8_9 hw rfl (zle rfl) rfl dX8_takeReading_14 rfl ?_
  refine v_top hc ?_
  refine v_callS (c_X10_has _ c (by omega)) yy_X10_has st_X10_has lk_8_76 (zle rfl) (zle rfl) (zle rfl) (zle rfl) rfl rfl (zle rfl) dX8_takeReading_17 rfl (zp.use ?_)
  refine v_top (zb_iff (q := psb r x y k9 c) (by rw [bt_nI (by omega), psn_bit]; exact ⟨fun h => h.2, fun h => ⟨hc8, h⟩⟩)) ?_
  refine v_ifz_eq (tgt := 30) dX8_takeReading_20 (by decide) rfl (fun c20 => ?_) (fun c20 => ?_)
  · refine v_iload_6 dX8_takeReading_30 rfl ?_
    refine v_callS (c_J6_bitCount_0f7a4 _ hS) yy_J6_bitCount_0f7a4 st_J6_bitCount_0f7a4 lk_8_80 (zle rfl) (zle rfl) (zle rfl) (zle rfl) rfl rfl (zle rfl) dX8_takeReading_32 rfl (zp.use ?_)
    refine v_iconst (v := 1) dX8_takeReading_35 rfl rfl ?_
    refine v_icmp_ne (tgt := 50) dX8_takeReading_36 (by decide) rfl (fun c36 => ?_) (fun c36 => ?_)
    · exact v_return rfl (⟨rfl, rfl, rfl, rfl, rfl, Or.inr (Or.inr ⟨c20, fun j hj ej => c36 ((one_bit _ hS).mpr ⟨j, hj, ej⟩), rfl⟩)⟩) (zle rfl) (zle rfl) dX8_takeReading_50
    · obtain ⟨j, hj, ej⟩ := (one_bit _ hS).mp c36
      refine v_aload_0 dX8_takeReading_39 rfl ?_
      refine v_aload_1 dX8_takeReading_40 rfl ?_
      refine v_iload_2 dX8_takeReading_41 rfl ?_
      refine v_iload_6 dX8_takeReading_42 rfl ?_
      refine v_top (congrArg nI ej) ?_
      refine v_callS (c_J6_numberOfTrailingZeros_0f7a4 j hj) yy_J6_numberOfTrailingZeros_0f7a4 st_J6_numberOfTrailingZeros_0f7a4 lk_8_85 (zle rfl) (zle rfl) (zle rfl) (zle rfl) rfl rfl (zle rfl) dX8_takeReading_44 rfl (zp.use ?_)
      refine v_callV (ci := 8) (F := TX8) (c_X8_sight e ea pa d w pp b f r s (nI j) hE hn hk hd hw hp hT h3 hs) yy_X8_sight im_X8_sight se_X8_sight lk_8_88 hw (zle rfl) rfl (zle rfl) (zle rfl) (zle rfl) (zle rfl) rfl rfl (zle rfl) dX8_takeReading_47 rfl (zv.use ?_)
      exact v_return rfl (⟨rfl, rfl, rfl, rfl, rfl, Or.inr (Or.inl ⟨c20, j, hj, ej, rfl⟩)⟩) (zle rfl) (zle rfl) dX8_takeReading_50
  · refine v_aload_0 dX8_takeReading_23 rfl ?_
    refine v_callV (ci := 8) (F := TX8) (c_X8_forgetSightings w hw) yy_X8_forgetSightings im_X8_forgetSightings se_X8_forgetSightings lk_8_63 hw (zle rfl) rfl (zle rfl) (zle rfl) (zle rfl) (zle rfl) rfl rfl (zle rfl) dX8_takeReading_24 rfl (zv.use ?_)
    refine v_goto (n := 50) dX8_takeReading_27 (by decide) ?_
    exact v_return rfl (⟨rfl, rfl, rfl, rfl, rfl, Or.inl ⟨c20, rfl⟩⟩) (zle rfl) (zle rfl) dX8_takeReading_50
