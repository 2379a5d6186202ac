/-- the reference's object while its rows are made: those below slot K are there -/
def MB (m : Nat) (T0 : zT) (N0 : zN) (P0 : zP) (I0 : zI) (R0 : zR) (K : Nat) (ad : Nat → Nat) (T : zT) (N : zN) (P : zP) (I : zI) (R : zR) : Prop := (T m).1 = 21 ∧ N = N0 ∧ R = R0 ∧ (∀ k, k < K → k < 44 → zr 11 k = true → P 11 k m = some (ad k) ∧ T (ad k) = mt k ∧ I (ad k) = (fun _ => 0) ∧ (T0 (ad k)).1 = 0) ∧ (∀ j k, j < K → k < K → j < 44 → k < 44 → zr 11 j = true → zr 11 k = true → ad j = ad k → j = k) ∧ (∀ a, (T0 a).1 ≠ 0 → T a = T0 a ∧ I a = I0 a) ∧ ∀ c, c ≠ 11 → P c = P0 c
theorem MB.st {m : Nat} {T0 : zT} {N0 : zN} {P0 : zP} {I0 : zI} {R0 : zR} {K k : Nat} {ad : Nat → Nat} {T : zT} {N : zN} {P : zP} {I : zI} {R : zR} (h : MB m T0 N0 P0 I0 R0 K ad T N P I R) {q : Nat} (hq : (T q).1 = 0) {w : Nat × Nat} (hw : w = mt k) (hk : k < 44) (hz : zr 11 k = true) (hK : ∀ j, j < k → K ≤ j → zr 11 j = false) (hm : (T0 m).1 ≠ 0) : ∃ ad, MB m T0 N0 P0 I0 R0 (k + 1) ad (u1 T q w) N (u3 P 11 k m (some q)) (u1 I q (fun _ => 0)) R := by
  subst hw
  obtain ⟨h1, h2, h3, h4, h5, h6, h7⟩ := h
  have hT0 : (T0 q).1 = 0 := Classical.byContradiction fun e => by rw [(h6 q e).1] at hq; exact e hq
  have hlt : ∀ j, j < k + 1 → j ≠ k → zr 11 j = true → j < K := fun j hj hn hz => by
    rcases Nat.lt_or_ge j K with g | g
    · exact g
    · rw [hK j (by omega) g] at hz; cases hz
  have hne : ∀ j, j < K → j < 44 → zr 11 j = true → ad j ≠ q := fun j hj h44 hz e => by
    have := (h4 j hj h44 hz).2.1
    rw [e] at this
    rw [this] at hq
    exact mt0 j h44 hz hq
  refine ⟨u1 ad k q, ?_, h2, h3, fun j hj h44 hzj => ?_, fun i j hi hj i44 j44 hzi hzj e => ?_, fun a ha => ?_, fun c hc => ?_⟩
  · rw [u1_na (fr_ne hq h1 (by decide))]; exact h1
  · by_cases e : j = k
    · subst e
      rw [u1_self, u3_self, u1_self, u1_self]
      exact ⟨rfl, rfl, rfl, hT0⟩
    · have hjK := hlt j hj e hzj
      obtain ⟨g1, g2, g3, g4⟩ := h4 j hjK h44 hzj
      have hn := hne j hjK h44 hzj
      rw [u1_na e, u1_na hn, u1_na hn]
      refine ⟨?_, g2, g3, g4⟩
      rw [show u3 P 11 k m (some q) 11 j m = P 11 j m from by simp [u3, e]]
      exact g1
  · by_cases ei : i = k
    · by_cases ej : j = k
      · rw [ei, ej]
      · subst ei
        rw [u1_self, u1_na ej] at e
        exact absurd e.symm (hne j (hlt j hj ej hzj) j44 hzj)
    · by_cases ej : j = k
      · subst ej
        rw [u1_self, u1_na ei] at e
        exact absurd e (hne i (hlt i hi ei hzi) i44 hzi)
      · rw [u1_na ei, u1_na ej] at e
        exact h5 i j (hlt i hi ei hzi) (hlt j hj ej hzj) i44 j44 hzi hzj e
  · have hn : a ≠ q := fun e => ha (by rw [e]; exact hT0)
    rw [u1_na hn, u1_na hn]
    exact h6 a ha
  · rw [← h7 c hc]
    funext i a
    simp [u3, hc]
def miQ (m : Nat) (T : zT) (N : zN) (P : zP) (I : zI) (R : zR) : Option Value → zT → zN → zP → zI → zR → Prop := fun v T' N' P' I' R' => v = none ∧ N' = N ∧ R' = R ∧ ∃ ad, MOK T' P' m ad ∧ (∀ k, k < 44 → zr 11 k = true → I' (ad k) = (fun _ => 0) ∧ (T (ad k)).1 = 0) ∧ (∀ a, (T a).1 ≠ 0 → T' a = T a ∧ I' a = I a) ∧ ∀ c, c ≠ 11 → P' c = P c
theorem c_X11_init {E : zE} {T : zT} {N : zN} {P : zP} {I : zI} {R : zR} (m : Nat) (hm : (T m).1 = 21) : zC E yX11_init cX11_init 1 none (zrm 1 20 34 99010) [.ref m] T N P I R (miQ m T N P I R) := by
  refine zC.intro (ls := [some (.ref m)]) pl_RX11 (zle rfl) 0 rfl (fun K => ?_)
  have hm0 : (T m).1 ≠ 0 := by rw [hm]; decide
  have hB : MB m T N P I R 0 (fun _ => 0) T N P I R := ⟨hm, rfl, rfl, fun k hk => absurd hk (Nat.not_lt_zero k), fun j k hj => absurd hj (Nat.not_lt_zero j), fun _ _ => ⟨rfl, rfl⟩, fun _ _ => rfl⟩
  refine v_aload_0 dX11_init_0 rfl ?_
  refine v_objInit lk_11_1 im_obj cd_obj (zle rfl) (zle rfl) dX11_init_1 rfl ?_
  refine v_aload_0 dX11_init_4 rfl ?_
  refine v_bipush (v := 8) dX11_init_5 rfl rfl ?_
  refine v_newa (atype := .int) (ft := .int) (t := 1) rfl (Or.inl ⟨rfl, rfl⟩) ac_int rfl (zle rfl) (zle rfl) (zle rfl) dX11_init_7 rfl (fun q7 hq7 => ?_)
  refine v_putP fw_11_9 (show (u1 (α := Nat × Nat) _ q7 _ m).1 = 21 by rw [u1_na (fr_ne hq7 hB.1 (by decide))]; exact hB.1) rfl (zle rfl) rfl (fun _ => rfl) rfl rfl dX11_init_9 rfl ?_
  refine v_abs (fun T1 N1 P1 I1 R1 => ∃ ad, MB m T N P I R 2 ad T1 N1 P1 I1 R1) (hB.st (k := 1) hq7 rfl (by decide) rfl (by decide) hm0) (fun T1 N1 P1 I1 R1 hG => ?_)
  clear hB
  obtain ⟨ad, hB⟩ := hG
  refine v_aload_0 dX11_init_12 rfl ?_
  refine v_bipush (v := 8) dX11_init_13 rfl rfl ?_
  refine v_newa (atype := .int) (ft := .int) (t := 1) rfl (Or.inl ⟨rfl, rfl⟩) ac_int rfl (zle rfl) (zle rfl) (zle rfl) dX11_init_15 rfl (fun q15 hq15 => ?_)
  refine v_putP fw_11_13 (show (u1 (α := Nat × Nat) _ q15 _ m).1 = 21 by rw [u1_na (fr_ne hq15 hB.1 (by decide))]; exact hB.1) rfl (zle rfl) rfl (fun _ => rfl) rfl rfl dX11_init_17 rfl ?_
  refine v_abs (fun T1 N1 P1 I1 R1 => ∃ ad, MB m T N P I R 3 ad T1 N1 P1 I1 R1) (hB.st (k := 2) hq15 rfl (by decide) rfl (by decide) hm0) (fun T1 N1 P1 I1 R1 hG => ?_)
  clear hB
  obtain ⟨ad, hB⟩ := hG
  refine v_aload_0 dX11_init_20 rfl ?_
  refine v_bipush (v := 14) dX11_init_21 rfl rfl ?_
  refine v_newa (atype := .int) (ft := .int) (t := 1) rfl (Or.inl ⟨rfl, rfl⟩) ac_int rfl (zle rfl) (zle rfl) (zle rfl) dX11_init_23 rfl (fun q23 hq23 => ?_)
  refine v_putP fw_11_16 (show (u1 (α := Nat × Nat) _ q23 _ m).1 = 21 by rw [u1_na (fr_ne hq23 hB.1 (by decide))]; exact hB.1) rfl (zle rfl) rfl (fun _ => rfl) rfl rfl dX11_init_25 rfl ?_
  refine v_abs (fun T1 N1 P1 I1 R1 => ∃ ad, MB m T N P I R 5 ad T1 N1 P1 I1 R1) (hB.st (k := 4) hq23 rfl (by decide) rfl (by decide) hm0) (fun T1 N1 P1 I1 R1 hG => ?_)
  clear hB
  obtain ⟨ad, hB⟩ := hG
  refine v_aload_0 dX11_init_28 rfl ?_
  refine v_bipush (v := 14) dX11_init_29 rfl rfl ?_
  refine v_newa (atype := .int) (ft := .int) (t := 1) rfl (Or.inl ⟨rfl, rfl⟩) ac_int rfl (zle rfl) (zle rfl) (zle rfl) dX11_init_31 rfl (fun q31 hq31 => ?_)
  refine v_putP fw_11_19 (show (u1 (α := Nat × Nat) _ q31 _ m).1 = 21 by rw [u1_na (fr_ne hq31 hB.1 (by decide))]; exact hB.1) rfl (zle rfl) rfl (fun _ => rfl) rfl rfl dX11_init_33 rfl ?_
  refine v_abs (fun T1 N1 P1 I1 R1 => ∃ ad, MB m T N P I R 6 ad T1 N1 P1 I1 R1) (hB.st (k := 5) hq31 rfl (by decide) rfl (by decide) hm0) (fun T1 N1 P1 I1 R1 hG => ?_)
  clear hB
  obtain ⟨ad, hB⟩ := hG
  refine v_aload_0 dX11_init_36 rfl ?_
  refine v_bipush (v := 14) dX11_init_37 rfl rfl ?_
  refine v_newa (atype := .int) (ft := .int) (t := 1) rfl (Or.inl ⟨rfl, rfl⟩) ac_int rfl (zle rfl) (zle rfl) (zle rfl) dX11_init_39 rfl (fun q39 hq39 => ?_)
  refine v_putP fw_11_22 (show (u1 (α := Nat × Nat) _ q39 _ m).1 = 21 by rw [u1_na (fr_ne hq39 hB.1 (by decide))]; exact hB.1) rfl (zle rfl) rfl (fun _ => rfl) rfl rfl dX11_init_41 rfl ?_
  refine v_abs (fun T1 N1 P1 I1 R1 => ∃ ad, MB m T N P I R 7 ad T1 N1 P1 I1 R1) (hB.st (k := 6) hq39 rfl (by decide) rfl (by decide) hm0) (fun T1 N1 P1 I1 R1 hG => ?_)
  clear hB
  obtain ⟨ad, hB⟩ := hG
  refine v_aload_0 dX11_init_44 rfl ?_
  refine v_bipush (v := 14) dX11_init_45 rfl rfl ?_
  refine v_newa (atype := .boolean) (ft := .boolean) (t := 2) rfl (Or.inr (Or.inl ⟨rfl, rfl⟩)) ac_boolean rfl (zle rfl) (zle rfl) (zle rfl) dX11_init_47 rfl (fun q47 hq47 => ?_)
  refine v_putP fw_11_25 (show (u1 (α := Nat × Nat) _ q47 _ m).1 = 21 by rw [u1_na (fr_ne hq47 hB.1 (by decide))]; exact hB.1) rfl (zle rfl) rfl (fun _ => rfl) rfl rfl dX11_init_49 rfl ?_
  refine v_abs (fun T1 N1 P1 I1 R1 => ∃ ad, MB m T N P I R 8 ad T1 N1 P1 I1 R1) (hB.st (k := 7) hq47 rfl (by decide) rfl (by decide) hm0) (fun T1 N1 P1 I1 R1 hG => ?_)
  clear hB
  obtain ⟨ad, hB⟩ := hG
  refine v_aload_0 dX11_init_52 rfl ?_
  refine v_bipush (v := 14) dX11_init_53 rfl rfl ?_
  refine v_newa (atype := .int) (ft := .int) (t := 1) rfl (Or.inl ⟨rfl, rfl⟩) ac_int rfl (zle rfl) (zle rfl) (zle rfl) dX11_init_55 rfl (fun q55 hq55 => ?_)
  refine v_putP fw_11_29 (show (u1 (α := Nat × Nat) _ q55 _ m).1 = 21 by rw [u1_na (fr_ne hq55 hB.1 (by decide))]; exact hB.1) rfl (zle rfl) rfl (fun _ => rfl) rfl rfl dX11_init_57 rfl ?_
  refine v_abs (fun T1 N1 P1 I1 R1 => ∃ ad, MB m T N P I R 9 ad T1 N1 P1 I1 R1) (hB.st (k := 8) hq55 rfl (by decide) rfl (by decide) hm0) (fun T1 N1 P1 I1 R1 hG => ?_)
  clear hB
  obtain ⟨ad, hB⟩ := hG
  refine v_aload_0 dX11_init_60 rfl ?_
  refine v_iconst (v := 4) dX11_init_61 rfl rfl ?_
  refine v_newa (atype := .int) (ft := .int) (t := 1) rfl (Or.inl ⟨rfl, rfl⟩) ac_int rfl (zle rfl) (zle rfl) (zle rfl) dX11_init_62 rfl (fun q62 hq62 => ?_)
  refine v_putP fw_11_32 (show (u1 (α := Nat × Nat) _ q62 _ m).1 = 21 by rw [u1_na (fr_ne hq62 hB.1 (by decide))]; exact hB.1) rfl (zle rfl) rfl (fun _ => rfl) rfl rfl dX11_init_64 rfl ?_
  refine v_abs (fun T1 N1 P1 I1 R1 => ∃ ad, MB m T N P I R 11 ad T1 N1 P1 I1 R1) (hB.st (k := 10) hq62 rfl (by decide) rfl (by decide) hm0) (fun T1 N1 P1 I1 R1 hG => ?_)
  clear hB
  obtain ⟨ad, hB⟩ := hG
  refine v_aload_0 dX11_init_67 rfl ?_
  refine v_bipush (v := 48) dX11_init_68 rfl rfl ?_
  refine v_newa (atype := .int) (ft := .int) (t := 1) rfl (Or.inl ⟨rfl, rfl⟩) ac_int rfl (zle rfl) (zle rfl) (zle rfl) dX11_init_70 rfl (fun q70 hq70 => ?_)
  refine v_putP fw_11_35 (show (u1 (α := Nat × Nat) _ q70 _ m).1 = 21 by rw [u1_na (fr_ne hq70 hB.1 (by decide))]; exact hB.1) rfl (zle rfl) rfl (fun _ => rfl) rfl rfl dX11_init_72 rfl ?_
  refine v_abs (fun T1 N1 P1 I1 R1 => ∃ ad, MB m T N P I R 12 ad T1 N1 P1 I1 R1) (hB.st (k := 11) hq70 rfl (by decide) rfl (by decide) hm0) (fun T1 N1 P1 I1 R1 hG => ?_)
  clear hB
  obtain ⟨ad, hB⟩ := hG
  refine v_aload_0 dX11_init_75 rfl ?_
  refine v_bipush (v := 48) dX11_init_76 rfl rfl ?_
  refine v_newa (atype := .int) (ft := .int) (t := 1) rfl (Or.inl ⟨rfl, rfl⟩) ac_int rfl (zle rfl) (zle rfl) (zle rfl) dX11_init_78 rfl (fun q78 hq78 => ?_)
  refine v_putP fw_11_38 (show (u1 (α := Nat × Nat) _ q78 _ m).1 = 21 by rw [u1_na (fr_ne hq78 hB.1 (by decide))]; exact hB.1) rfl (zle rfl) rfl (fun _ => rfl) rfl rfl dX11_init_80 rfl ?_
  refine v_abs (fun T1 N1 P1 I1 R1 => ∃ ad, MB m T N P I R 13 ad T1 N1 P1 I1 R1) (hB.st (k := 12) hq78 rfl (by decide) rfl (by decide) hm0) (fun T1 N1 P1 I1 R1 hG => ?_)
  clear hB
  obtain ⟨ad, hB⟩ := hG
  refine v_aload_0 dX11_init_83 rfl ?_
  refine v_bipush (v := 48) dX11_init_84 rfl rfl ?_
  refine v_newa (atype := .int) (ft := .int) (t := 1) rfl (Or.inl ⟨rfl, rfl⟩) ac_int rfl (zle rfl) (zle rfl) (zle rfl) dX11_init_86 rfl (fun q86 hq86 => ?_)
  refine v_putP fw_11_41 (show (u1 (α := Nat × Nat) _ q86 _ m).1 = 21 by rw [u1_na (fr_ne hq86 hB.1 (by decide))]; exact hB.1) rfl (zle rfl) rfl (fun _ => rfl) rfl rfl dX11_init_88 rfl ?_
  refine v_abs (fun T1 N1 P1 I1 R1 => ∃ ad, MB m T N P I R 14 ad T1 N1 P1 I1 R1) (hB.st (k := 13) hq86 rfl (by decide) rfl (by decide) hm0) (fun T1 N1 P1 I1 R1 hG => ?_)
  clear hB
  obtain ⟨ad, hB⟩ := hG
  refine v_aload_0 dX11_init_91 rfl ?_
  refine v_bipush (v := 48) dX11_init_92 rfl rfl ?_
  refine v_newa (atype := .int) (ft := .int) (t := 1) rfl (Or.inl ⟨rfl, rfl⟩) ac_int rfl (zle rfl) (zle rfl) (zle rfl) dX11_init_94 rfl (fun q94 hq94 => ?_)
  refine v_putP fw_11_44 (show (u1 (α := Nat × Nat) _ q94 _ m).1 = 21 by rw [u1_na (fr_ne hq94 hB.1 (by decide))]; exact hB.1) rfl (zle rfl) rfl (fun _ => rfl) rfl rfl dX11_init_96 rfl ?_
  refine v_abs (fun T1 N1 P1 I1 R1 => ∃ ad, MB m T N P I R 15 ad T1 N1 P1 I1 R1) (hB.st (k := 14) hq94 rfl (by decide) rfl (by decide) hm0) (fun T1 N1 P1 I1 R1 hG => ?_)
  clear hB
  obtain ⟨ad, hB⟩ := hG
  refine v_aload_0 dX11_init_99 rfl ?_
  refine v_bipush (v := 48) dX11_init_100 rfl rfl ?_
  refine v_newa (atype := .int) (ft := .int) (t := 1) rfl (Or.inl ⟨rfl, rfl⟩) ac_int rfl (zle rfl) (zle rfl) (zle rfl) dX11_init_102 rfl (fun q102 hq102 => ?_)
  refine v_putP fw_11_47 (show (u1 (α := Nat × Nat) _ q102 _ m).1 = 21 by rw [u1_na (fr_ne hq102 hB.1 (by decide))]; exact hB.1) rfl (zle rfl) rfl (fun _ => rfl) rfl rfl dX11_init_104 rfl ?_
  refine v_abs (fun T1 N1 P1 I1 R1 => ∃ ad, MB m T N P I R 16 ad T1 N1 P1 I1 R1) (hB.st (k := 15) hq102 rfl (by decide) rfl (by decide) hm0) (fun T1 N1 P1 I1 R1 hG => ?_)
  clear hB
  obtain ⟨ad, hB⟩ := hG
  refine v_aload_0 dX11_init_107 rfl ?_
  refine v_sipush (v := 200) dX11_init_108 rfl rfl ?_
  refine v_newa (atype := .int) (ft := .int) (t := 1) rfl (Or.inl ⟨rfl, rfl⟩) ac_int rfl (zle rfl) (zle rfl) (zle rfl) dX11_init_111 rfl (fun q111 hq111 => ?_)
  refine v_putP fw_11_50 (show (u1 (α := Nat × Nat) _ q111 _ m).1 = 21 by rw [u1_na (fr_ne hq111 hB.1 (by decide))]; exact hB.1) rfl (zle rfl) rfl (fun _ => rfl) rfl rfl dX11_init_113 rfl ?_
  refine v_abs (fun T1 N1 P1 I1 R1 => ∃ ad, MB m T N P I R 17 ad T1 N1 P1 I1 R1) (hB.st (k := 16) hq111 rfl (by decide) rfl (by decide) hm0) (fun T1 N1 P1 I1 R1 hG => ?_)
  clear hB
  obtain ⟨ad, hB⟩ := hG
  refine v_aload_0 dX11_init_116 rfl ?_
  refine v_bipush (v := 6) dX11_init_117 rfl rfl ?_
  refine v_newa (atype := .int) (ft := .int) (t := 1) rfl (Or.inl ⟨rfl, rfl⟩) ac_int rfl (zle rfl) (zle rfl) (zle rfl) dX11_init_119 rfl (fun q119 hq119 => ?_)
  refine v_putP fw_11_53 (show (u1 (α := Nat × Nat) _ q119 _ m).1 = 21 by rw [u1_na (fr_ne hq119 hB.1 (by decide))]; exact hB.1) rfl (zle rfl) rfl (fun _ => rfl) rfl rfl dX11_init_121 rfl ?_
  refine v_abs (fun T1 N1 P1 I1 R1 => ∃ ad, MB m T N P I R 20 ad T1 N1 P1 I1 R1) (hB.st (k := 19) hq119 rfl (by decide) rfl (by decide) hm0) (fun T1 N1 P1 I1 R1 hG => ?_)
  clear hB
  obtain ⟨ad, hB⟩ := hG
  refine v_aload_0 dX11_init_124 rfl ?_
  refine v_bipush (v := 6) dX11_init_125 rfl rfl ?_
  refine v_newa (atype := .int) (ft := .int) (t := 1) rfl (Or.inl ⟨rfl, rfl⟩) ac_int rfl (zle rfl) (zle rfl) (zle rfl) dX11_init_127 rfl (fun q127 hq127 => ?_)
  refine v_putP fw_11_56 (show (u1 (α := Nat × Nat) _ q127 _ m).1 = 21 by rw [u1_na (fr_ne hq127 hB.1 (by decide))]; exact hB.1) rfl (zle rfl) rfl (fun _ => rfl) rfl rfl dX11_init_129 rfl ?_
  refine v_abs (fun T1 N1 P1 I1 R1 => ∃ ad, MB m T N P I R 21 ad T1 N1 P1 I1 R1) (hB.st (k := 20) hq127 rfl (by decide) rfl (by decide) hm0) (fun T1 N1 P1 I1 R1 hG => ?_)
  clear hB
  obtain ⟨ad, hB⟩ := hG
  refine v_aload_0 dX11_init_132 rfl ?_
  refine v_bipush (v := 6) dX11_init_133 rfl rfl ?_
  refine v_newa (atype := .int) (ft := .int) (t := 1) rfl (Or.inl ⟨rfl, rfl⟩) ac_int rfl (zle rfl) (zle rfl) (zle rfl) dX11_init_135 rfl (fun q135 hq135 => ?_)
  refine v_putP fw_11_59 (show (u1 (α := Nat × Nat) _ q135 _ m).1 = 21 by rw [u1_na (fr_ne hq135 hB.1 (by decide))]; exact hB.1) rfl (zle rfl) rfl (fun _ => rfl) rfl rfl dX11_init_137 rfl ?_
  refine v_abs (fun T1 N1 P1 I1 R1 => ∃ ad, MB m T N P I R 22 ad T1 N1 P1 I1 R1) (hB.st (k := 21) hq135 rfl (by decide) rfl (by decide) hm0) (fun T1 N1 P1 I1 R1 hG => ?_)
  clear hB
  obtain ⟨ad, hB⟩ := hG
  refine v_aload_0 dX11_init_140 rfl ?_
  refine v_bipush (v := 6) dX11_init_141 rfl rfl ?_
  refine v_newa (atype := .int) (ft := .int) (t := 1) rfl (Or.inl ⟨rfl, rfl⟩) ac_int rfl (zle rfl) (zle rfl) (zle rfl) dX11_init_143 rfl (fun q143 hq143 => ?_)
  refine v_putP fw_11_62 (show (u1 (α := Nat × Nat) _ q143 _ m).1 = 21 by rw [u1_na (fr_ne hq143 hB.1 (by decide))]; exact hB.1) rfl (zle rfl) rfl (fun _ => rfl) rfl rfl dX11_init_145 rfl ?_
  refine v_abs (fun T1 N1 P1 I1 R1 => ∃ ad, MB m T N P I R 23 ad T1 N1 P1 I1 R1) (hB.st (k := 22) hq143 rfl (by decide) rfl (by decide) hm0) (fun T1 N1 P1 I1 R1 hG => ?_)
  clear hB
  obtain ⟨ad, hB⟩ := hG
  refine v_aload_0 dX11_init_148 rfl ?_
  refine v_bipush (v := 6) dX11_init_149 rfl rfl ?_
  refine v_newa (atype := .boolean) (ft := .boolean) (t := 2) rfl (Or.inr (Or.inl ⟨rfl, rfl⟩)) ac_boolean rfl (zle rfl) (zle rfl) (zle rfl) dX11_init_151 rfl (fun q151 hq151 => ?_)
  refine v_putP fw_11_65 (show (u1 (α := Nat × Nat) _ q151 _ m).1 = 21 by rw [u1_na (fr_ne hq151 hB.1 (by decide))]; exact hB.1) rfl (zle rfl) rfl (fun _ => rfl) rfl rfl dX11_init_153 rfl ?_
  refine v_abs (fun T1 N1 P1 I1 R1 => ∃ ad, MB m T N P I R 24 ad T1 N1 P1 I1 R1) (hB.st (k := 23) hq151 rfl (by decide) rfl (by decide) hm0) (fun T1 N1 P1 I1 R1 hG => ?_)
  clear hB
  obtain ⟨ad, hB⟩ := hG
  refine v_aload_0 dX11_init_156 rfl ?_
  refine v_bipush (v := 6) dX11_init_157 rfl rfl ?_
  refine v_newa (atype := .int) (ft := .int) (t := 1) rfl (Or.inl ⟨rfl, rfl⟩) ac_int rfl (zle rfl) (zle rfl) (zle rfl) dX11_init_159 rfl (fun q159 hq159 => ?_)
  refine v_putP fw_11_68 (show (u1 (α := Nat × Nat) _ q159 _ m).1 = 21 by rw [u1_na (fr_ne hq159 hB.1 (by decide))]; exact hB.1) rfl (zle rfl) rfl (fun _ => rfl) rfl rfl dX11_init_161 rfl ?_
  refine v_abs (fun T1 N1 P1 I1 R1 => ∃ ad, MB m T N P I R 25 ad T1 N1 P1 I1 R1) (hB.st (k := 24) hq159 rfl (by decide) rfl (by decide) hm0) (fun T1 N1 P1 I1 R1 hG => ?_)
  clear hB
  obtain ⟨ad, hB⟩ := hG
  refine v_aload_0 dX11_init_164 rfl ?_
  refine v_bipush (v := 6) dX11_init_165 rfl rfl ?_
  refine v_newa (atype := .int) (ft := .int) (t := 1) rfl (Or.inl ⟨rfl, rfl⟩) ac_int rfl (zle rfl) (zle rfl) (zle rfl) dX11_init_167 rfl (fun q167 hq167 => ?_)
  refine v_putP fw_11_71 (show (u1 (α := Nat × Nat) _ q167 _ m).1 = 21 by rw [u1_na (fr_ne hq167 hB.1 (by decide))]; exact hB.1) rfl (zle rfl) rfl (fun _ => rfl) rfl rfl dX11_init_169 rfl ?_
  refine v_abs (fun T1 N1 P1 I1 R1 => ∃ ad, MB m T N P I R 26 ad T1 N1 P1 I1 R1) (hB.st (k := 25) hq167 rfl (by decide) rfl (by decide) hm0) (fun T1 N1 P1 I1 R1 hG => ?_)
  clear hB
  obtain ⟨ad, hB⟩ := hG
  refine v_aload_0 dX11_init_172 rfl ?_
  refine v_bipush (v := 6) dX11_init_173 rfl rfl ?_
  refine v_newa (atype := .int) (ft := .int) (t := 1) rfl (Or.inl ⟨rfl, rfl⟩) ac_int rfl (zle rfl) (zle rfl) (zle rfl) dX11_init_175 rfl (fun q175 hq175 => ?_)
  refine v_putP fw_11_74 (show (u1 (α := Nat × Nat) _ q175 _ m).1 = 21 by rw [u1_na (fr_ne hq175 hB.1 (by decide))]; exact hB.1) rfl (zle rfl) rfl (fun _ => rfl) rfl rfl dX11_init_177 rfl ?_
  refine v_abs (fun T1 N1 P1 I1 R1 => ∃ ad, MB m T N P I R 27 ad T1 N1 P1 I1 R1) (hB.st (k := 26) hq175 rfl (by decide) rfl (by decide) hm0) (fun T1 N1 P1 I1 R1 hG => ?_)
  clear hB
  obtain ⟨ad, hB⟩ := hG
  refine v_aload_0 dX11_init_180 rfl ?_
  refine v_iconst (v := 4) dX11_init_181 rfl rfl ?_
  refine v_newa (atype := .int) (ft := .int) (t := 1) rfl (Or.inl ⟨rfl, rfl⟩) ac_int rfl (zle rfl) (zle rfl) (zle rfl) dX11_init_182 rfl (fun q182 hq182 => ?_)
  refine v_putP fw_11_77 (show (u1 (α := Nat × Nat) _ q182 _ m).1 = 21 by rw [u1_na (fr_ne hq182 hB.1 (by decide))]; exact hB.1) rfl (zle rfl) rfl (fun _ => rfl) rfl rfl dX11_init_184 rfl ?_
  refine v_abs (fun T1 N1 P1 I1 R1 => ∃ ad, MB m T N P I R 29 ad T1 N1 P1 I1 R1) (hB.st (k := 28) hq182 rfl (by decide) rfl (by decide) hm0) (fun T1 N1 P1 I1 R1 hG => ?_)
  clear hB
  obtain ⟨ad, hB⟩ := hG
  refine v_aload_0 dX11_init_187 rfl ?_
  refine v_iconst (v := 4) dX11_init_188 rfl rfl ?_
  refine v_newa (atype := .int) (ft := .int) (t := 1) rfl (Or.inl ⟨rfl, rfl⟩) ac_int rfl (zle rfl) (zle rfl) (zle rfl) dX11_init_189 rfl (fun q189 hq189 => ?_)
  refine v_putP fw_11_80 (show (u1 (α := Nat × Nat) _ q189 _ m).1 = 21 by rw [u1_na (fr_ne hq189 hB.1 (by decide))]; exact hB.1) rfl (zle rfl) rfl (fun _ => rfl) rfl rfl dX11_init_191 rfl ?_
  refine v_abs (fun T1 N1 P1 I1 R1 => ∃ ad, MB m T N P I R 30 ad T1 N1 P1 I1 R1) (hB.st (k := 29) hq189 rfl (by decide) rfl (by decide) hm0) (fun T1 N1 P1 I1 R1 hG => ?_)
  clear hB
  obtain ⟨ad, hB⟩ := hG
  refine v_aload_0 dX11_init_194 rfl ?_
  refine v_bipush (v := 48) dX11_init_195 rfl rfl ?_
  refine v_newa (atype := .int) (ft := .int) (t := 1) rfl (Or.inl ⟨rfl, rfl⟩) ac_int rfl (zle rfl) (zle rfl) (zle rfl) dX11_init_197 rfl (fun q197 hq197 => ?_)
  refine v_putP fw_11_83 (show (u1 (α := Nat × Nat) _ q197 _ m).1 = 21 by rw [u1_na (fr_ne hq197 hB.1 (by decide))]; exact hB.1) rfl (zle rfl) rfl (fun _ => rfl) rfl rfl dX11_init_199 rfl ?_
  refine v_abs (fun T1 N1 P1 I1 R1 => ∃ ad, MB m T N P I R 31 ad T1 N1 P1 I1 R1) (hB.st (k := 30) hq197 rfl (by decide) rfl (by decide) hm0) (fun T1 N1 P1 I1 R1 hG => ?_)
  clear hB
  obtain ⟨ad, hB⟩ := hG
  refine v_aload_0 dX11_init_202 rfl ?_
  refine v_bipush (v := 12) dX11_init_203 rfl rfl ?_
  refine v_newa (atype := .int) (ft := .int) (t := 1) rfl (Or.inl ⟨rfl, rfl⟩) ac_int rfl (zle rfl) (zle rfl) (zle rfl) dX11_init_205 rfl (fun q205 hq205 => ?_)
  refine v_putP fw_11_86 (show (u1 (α := Nat × Nat) _ q205 _ m).1 = 21 by rw [u1_na (fr_ne hq205 hB.1 (by decide))]; exact hB.1) rfl (zle rfl) rfl (fun _ => rfl) rfl rfl dX11_init_207 rfl ?_
  refine v_abs (fun T1 N1 P1 I1 R1 => ∃ ad, MB m T N P I R 35 ad T1 N1 P1 I1 R1) (hB.st (k := 34) hq205 rfl (by decide) rfl (by decide) hm0) (fun T1 N1 P1 I1 R1 hG => ?_)
  clear hB
  obtain ⟨ad, hB⟩ := hG
  refine v_aload_0 dX11_init_210 rfl ?_
  refine v_bipush (v := 12) dX11_init_211 rfl rfl ?_
  refine v_newa (atype := .int) (ft := .int) (t := 1) rfl (Or.inl ⟨rfl, rfl⟩) ac_int rfl (zle rfl) (zle rfl) (zle rfl) dX11_init_213 rfl (fun q213 hq213 => ?_)
  refine v_putP fw_11_89 (show (u1 (α := Nat × Nat) _ q213 _ m).1 = 21 by rw [u1_na (fr_ne hq213 hB.1 (by decide))]; exact hB.1) rfl (zle rfl) rfl (fun _ => rfl) rfl rfl dX11_init_215 rfl ?_
  refine v_abs (fun T1 N1 P1 I1 R1 => ∃ ad, MB m T N P I R 36 ad T1 N1 P1 I1 R1) (hB.st (k := 35) hq213 rfl (by decide) rfl (by decide) hm0) (fun T1 N1 P1 I1 R1 hG => ?_)
  clear hB
  obtain ⟨ad, hB⟩ := hG
  refine v_aload_0 dX11_init_218 rfl ?_
  refine v_bipush (v := 12) dX11_init_219 rfl rfl ?_
  refine v_newa (atype := .int) (ft := .int) (t := 1) rfl (Or.inl ⟨rfl, rfl⟩) ac_int rfl (zle rfl) (zle rfl) (zle rfl) dX11_init_221 rfl (fun q221 hq221 => ?_)
  refine v_putP fw_11_92 (show (u1 (α := Nat × Nat) _ q221 _ m).1 = 21 by rw [u1_na (fr_ne hq221 hB.1 (by decide))]; exact hB.1) rfl (zle rfl) rfl (fun _ => rfl) rfl rfl dX11_init_223 rfl ?_
  refine v_abs (fun T1 N1 P1 I1 R1 => ∃ ad, MB m T N P I R 37 ad T1 N1 P1 I1 R1) (hB.st (k := 36) hq221 rfl (by decide) rfl (by decide) hm0) (fun T1 N1 P1 I1 R1 hG => ?_)
  clear hB
  obtain ⟨ad, hB⟩ := hG
  refine v_aload_0 dX11_init_226 rfl ?_
  refine v_bipush (v := 12) dX11_init_227 rfl rfl ?_
  refine v_newa (atype := .int) (ft := .int) (t := 1) rfl (Or.inl ⟨rfl, rfl⟩) ac_int rfl (zle rfl) (zle rfl) (zle rfl) dX11_init_229 rfl (fun q229 hq229 => ?_)
  refine v_putP fw_11_95 (show (u1 (α := Nat × Nat) _ q229 _ m).1 = 21 by rw [u1_na (fr_ne hq229 hB.1 (by decide))]; exact hB.1) rfl (zle rfl) rfl (fun _ => rfl) rfl rfl dX11_init_231 rfl ?_
  refine v_abs (fun T1 N1 P1 I1 R1 => ∃ ad, MB m T N P I R 38 ad T1 N1 P1 I1 R1) (hB.st (k := 37) hq229 rfl (by decide) rfl (by decide) hm0) (fun T1 N1 P1 I1 R1 hG => ?_)
  clear hB
  obtain ⟨ad, hB⟩ := hG
  refine v_aload_0 dX11_init_234 rfl ?_
  refine v_bipush (v := 12) dX11_init_235 rfl rfl ?_
  refine v_newa (atype := .int) (ft := .int) (t := 1) rfl (Or.inl ⟨rfl, rfl⟩) ac_int rfl (zle rfl) (zle rfl) (zle rfl) dX11_init_237 rfl (fun q237 hq237 => ?_)
  refine v_putP fw_11_98 (show (u1 (α := Nat × Nat) _ q237 _ m).1 = 21 by rw [u1_na (fr_ne hq237 hB.1 (by decide))]; exact hB.1) rfl (zle rfl) rfl (fun _ => rfl) rfl rfl dX11_init_239 rfl ?_
  refine v_abs (fun T1 N1 P1 I1 R1 => ∃ ad, MB m T N P I R 39 ad T1 N1 P1 I1 R1) (hB.st (k := 38) hq237 rfl (by decide) rfl (by decide) hm0) (fun T1 N1 P1 I1 R1 hG => ?_)
  clear hB
  obtain ⟨ad, hB⟩ := hG
  refine v_aload_0 dX11_init_242 rfl ?_
  refine v_ldc dX11_init_243 kc_11_101 rfl ?_
  refine v_newa (atype := .int) (ft := .int) (t := 1) rfl (Or.inl ⟨rfl, rfl⟩) ac_int rfl (zle rfl) (zle rfl) (zle rfl) dX11_init_245 rfl (fun q245 hq245 => ?_)
  refine v_putP fw_11_102 (show (u1 (α := Nat × Nat) _ q245 _ m).1 = 21 by rw [u1_na (fr_ne hq245 hB.1 (by decide))]; exact hB.1) rfl (zle rfl) rfl (fun _ => rfl) rfl rfl dX11_init_247 rfl ?_
  refine v_abs (fun T1 N1 P1 I1 R1 => ∃ ad, MB m T N P I R 40 ad T1 N1 P1 I1 R1) (hB.st (k := 39) hq245 rfl (by decide) rfl (by decide) hm0) (fun T1 N1 P1 I1 R1 hG => ?_)
  clear hB
  obtain ⟨ad, hB⟩ := hG
  refine v_aload_0 dX11_init_250 rfl ?_
  refine v_ldc dX11_init_251 kc_11_101 rfl ?_
  refine v_newa (atype := .boolean) (ft := .boolean) (t := 2) rfl (Or.inr (Or.inl ⟨rfl, rfl⟩)) ac_boolean rfl (zle rfl) (zle rfl) (zle rfl) dX11_init_253 rfl (fun q253 hq253 => ?_)
  refine v_putP fw_11_105 (show (u1 (α := Nat × Nat) _ q253 _ m).1 = 21 by rw [u1_na (fr_ne hq253 hB.1 (by decide))]; exact hB.1) rfl (zle rfl) rfl (fun _ => rfl) rfl rfl dX11_init_255 rfl ?_
  refine v_abs (fun T1 N1 P1 I1 R1 => ∃ ad, MB m T N P I R 41 ad T1 N1 P1 I1 R1) (hB.st (k := 40) hq253 rfl (by decide) rfl (by decide) hm0) (fun T1 N1 P1 I1 R1 hG => ?_)
  clear hB
  obtain ⟨ad, hB⟩ := hG
  refine v_aload_0 dX11_init_258 rfl ?_
  refine v_ldc dX11_init_259 kc_11_101 rfl ?_
  refine v_newa (atype := .int) (ft := .int) (t := 1) rfl (Or.inl ⟨rfl, rfl⟩) ac_int rfl (zle rfl) (zle rfl) (zle rfl) dX11_init_261 rfl (fun q261 hq261 => ?_)
  refine v_putP fw_11_108 (show (u1 (α := Nat × Nat) _ q261 _ m).1 = 21 by rw [u1_na (fr_ne hq261 hB.1 (by decide))]; exact hB.1) rfl (zle rfl) rfl (fun _ => rfl) rfl rfl dX11_init_263 rfl ?_
  refine v_abs (fun T1 N1 P1 I1 R1 => ∃ ad, MB m T N P I R 42 ad T1 N1 P1 I1 R1) (hB.st (k := 41) hq261 rfl (by decide) rfl (by decide) hm0) (fun T1 N1 P1 I1 R1 hG => ?_)
  clear hB
  obtain ⟨ad, hB⟩ := hG
  refine v_aload_0 dX11_init_266 rfl ?_
  refine v_bipush (v := 12) dX11_init_267 rfl rfl ?_
  refine v_newa (atype := .int) (ft := .int) (t := 1) rfl (Or.inl ⟨rfl, rfl⟩) ac_int rfl (zle rfl) (zle rfl) (zle rfl) dX11_init_269 rfl (fun q269 hq269 => ?_)
  refine v_putP fw_11_111 (show (u1 (α := Nat × Nat) _ q269 _ m).1 = 21 by rw [u1_na (fr_ne hq269 hB.1 (by decide))]; exact hB.1) rfl (zle rfl) rfl (fun _ => rfl) rfl rfl dX11_init_271 rfl ?_
  refine v_abs (fun T1 N1 P1 I1 R1 => ∃ ad, MB m T N P I R 44 ad T1 N1 P1 I1 R1) (hB.st (k := 43) hq269 rfl (by decide) rfl (by decide) hm0) (fun T1 N1 P1 I1 R1 hG => ?_)
  clear hB
  obtain ⟨ad, hB⟩ := hG
  exact v_return rfl (⟨rfl, hB.2.1, hB.2.2.1, ad, ⟨hB.1, fun k hk hz => ⟨(hB.2.2.2.1 k hk hk hz).1, (hB.2.2.2.1 k hk hk hz).2.1⟩, fun j k hj hk hz1 hz2 => hB.2.2.2.2.1 j k hj hk hj hk hz1 hz2⟩, fun k hk hz => (hB.2.2.2.1 k hk hk hz).2.2, hB.2.2.2.2.2.1, hB.2.2.2.2.2.2⟩) (zle rfl) (zle rfl) dX11_init_274
