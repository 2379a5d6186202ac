theorem GrX.f0 {T : zT} {N : zN} {P : zP} {I : zI} {R : zR} {T1 : zT} {N1 : zN} {P1 : zP} {I1 : zI} {R1 : zR} {x q : Nat} (h : GrX x T N P I R T1 N1 P1 I1 R1) (hq : (T1 q).1 = 0) (hx : (T1 x).1 ≠ 0) : (T q).1 = 0 := Classical.byContradiction fun e => by
  have hqx : q ≠ x := fun z => hx (by rw [← z]; exact hq)
  exact h.fr hq q hqx e rfl
theorem al_ne {T : zT} {a q k l : Nat} (h : T a = (k, l)) (hk : k ≠ 0) (hq : (T q).1 = 0) : a ≠ q := fun e => by rw [e] at h; rw [h] at hq; exact hk hq
theorem c_X4_init {E : zE} {T : zT} {N : zN} {P : zP} {I : zI} {R : zR} (sx : Nat) (hs : (T sx).1 = 14) : zC E yX4_init cX4_init 1 none (zrm 2 40 8 106) [.ref sx] T N P I R (fun v T' N' P' I' R' => v = none ∧ GrX sx T N P I R T' N' P' I' R' ∧ ∃ n sa na da ra ta e, SrO T' P' sx n sa na da ra ta e ∧ (T sa).1 = 0 ∧ (T na).1 = 0 ∧ (T da).1 = 0 ∧ (T ra).1 = 0 ∧ (T ta).1 = 0 ∧ sa ≠ na ∧ da ≠ sa ∧ da ≠ na ∧ ra ≠ sa ∧ ra ≠ na ∧ ra ≠ da ∧ ta ≠ sa ∧ ta ≠ na ∧ ta ≠ da ∧ ta ≠ ra) := by
  refine zC.intro (ls := [some (.ref sx)]) pl_RX4 (zle rfl) 0 rfl (fun K => ?_)
  refine v_aload_0 dX4_init_0 rfl ?_
  refine v_objInit lk_4_3 im_obj cd_obj (zle rfl) (zle rfl) dX4_init_1 rfl ?_
  refine v_aload_0 dX4_init_4 rfl ?_
  refine v_new (ci := 1) rfl (zle rfl) cl_1 tyX1_ok dv_1 kl_4_9 it_1 ii_1 (zle rfl) (zle rfl) dX4_init_5 rfl (fun q5 hq5 => ?_)
  refine v_dup dX4_init_8 rfl rfl ?_
  have a1 : (u1 T q5 (11, 0) q5).1 = 11 := by rw [u1_self]
  refine v_callI (c_X1_init q5 a1) yy_X1_init im_X1_init rfl lk_4_11 (zle rfl) (zle rfl) (zle rfl) (zle rfl) rfl rfl (zle rfl) dX4_init_9 rfl (fun v1 T2 N2 P2 I2 R2 hq => ?_)
  obtain ⟨rfl, hg, sa, na, hO, b1, b2, b3⟩ := hq
  have nsx : sx ≠ q5 := fr_ne hq5 hs (by decide)
  have a2 : (u1 T q5 (11, 0) sx).1 ≠ 0 := by rw [u1_na nsx, hs]; decide
  have G1 := (GrX.rf (x := sx)).o hq5 (by rw [hs]; decide) (11, 0) 1 |>.ot hq5 nsx hg a2
  have a3 : (T2 sx).1 = 14 := by rw [G1.1]; exact hs
  have c1 : (T sa).1 = 0 := by
    have : sa ≠ q5 := fun e => by rw [e, u1_self] at b1; exact absurd b1 (by decide)
    rw [u1_na this] at b1; exact b1
  have c2 : (T na).1 = 0 := by
    have : na ≠ q5 := fun e => by rw [e, u1_self] at b2; exact absurd b2 (by decide)
    rw [u1_na this] at b2; exact b2
  refine v_putP fw_4_12 a3 rfl (zle rfl) rfl (fun _ => rfl) rfl rfl dX4_init_12 rfl ?_
  refine v_abs (fun T1 N1 P1 I1 R1 => ∃ n sa na, GrX sx T N P I R T1 N1 P1 I1 R1 ∧ (T1 sx).1 = 14 ∧ NtO T1 P1 n sa na ∧ P1 4 0 sx = some n ∧ (T sa).1 = 0 ∧ (T na).1 = 0 ∧ sa ≠ na) ⟨q5, sa, na, G1.p _ _ _, a3, (show NtO T2 (u3 P2 4 0 sx (some q5)) q5 sa na from hO), u3_self, c1, c2, b3⟩ (fun T1 N1 P1 I1 R1 hG => ?_)
  obtain ⟨n, sa, na, f0, f1, f2, f3, f4, f5, f6⟩ := hG
  refine v_aload_0 dX4_init_15 rfl ?_
  refine v_bipush (v := 8) dX4_init_16 rfl rfl ?_
  refine v_newa (atype := .int) (ft := .int) (t := 1) rfl (Or.inl ⟨rfl, rfl⟩) ac_int rfl (zle rfl) (zle rfl) (zle rfl) dX4_init_18 rfl (fun q18 hq18 => ?_)
  have hsx : (u1 T1 q18 (1, 8) sx).1 = 14 := by rw [u1_na (fr_ne hq18 f1 (by decide))]; exact f1
  refine v_putP fw_4_18 hsx rfl (zle rfl) rfl (fun _ => rfl) rfl rfl dX4_init_20 rfl ?_
  have hGs := ((GrX.rf (x := sx) (T := T1) (N := N1) (P := P1) (I := I1) (R := R1)).a hq18 (by rw [f1]; decide) (1, 8) (fun _ => 0)).p 4 1 (some q18)
  refine v_abs (fun T1 N1 P1 I1 R1 => ∃ n sa na da, GrX sx T N P I R T1 N1 P1 I1 R1 ∧ (T1 sx).1 = 14 ∧ NtO T1 P1 n sa na ∧ P1 4 0 sx = some n ∧ (T sa).1 = 0 ∧ (T na).1 = 0 ∧ sa ≠ na ∧ P1 4 1 sx = some da ∧ T1 da = (1, 8) ∧ (T da).1 = 0 ∧ da ≠ sa ∧ da ≠ na) ⟨n, sa, na, q18, f0.tr hGs, hsx, f2.g hGs (Or.inr f1), by simp [u3]; exact f3, f4, f5, f6, u3_self, u1_self, f0.f0 hq18 (by rw [f1]; decide), fun e => al_ne f2.2.2.2.1 (by decide) hq18 e.symm, fun e => al_ne f2.2.2.2.2 (by decide) hq18 e.symm⟩ (fun T1 N1 P1 I1 R1 hG => ?_)
  obtain ⟨n, sa, na, da, f0, f1, f2, f3, f4, f5, f6, f7, f8, f9, f10, f11⟩ := hG
  refine v_aload_0 dX4_init_23 rfl ?_
  refine v_iconst (v := 1) dX4_init_24 rfl rfl ?_
  refine v_newa (atype := .int) (ft := .int) (t := 1) rfl (Or.inl ⟨rfl, rfl⟩) ac_int rfl (zle rfl) (zle rfl) (zle rfl) dX4_init_25 rfl (fun q25 hq25 => ?_)
  have hsx : (u1 T1 q25 (1, 1) sx).1 = 14 := by rw [u1_na (fr_ne hq25 f1 (by decide))]; exact f1
  refine v_putP fw_4_22 hsx rfl (zle rfl) rfl (fun h => by cases h) rfl rfl dX4_init_27 rfl ?_
  have hGs := ((GrX.rf (x := sx) (T := T1) (N := N1) (P := P1) (I := I1) (R := R1)).a hq25 (by rw [f1]; decide) (1, 1) (fun _ => 0)).p 4 2 (some q25)
  refine v_abs (fun T1 N1 P1 I1 R1 => ∃ n sa na da ra, GrX sx T N P I R T1 N1 P1 I1 R1 ∧ (T1 sx).1 = 14 ∧ NtO T1 P1 n sa na ∧ P1 4 0 sx = some n ∧ (T sa).1 = 0 ∧ (T na).1 = 0 ∧ sa ≠ na ∧ P1 4 1 sx = some da ∧ T1 da = (1, 8) ∧ (T da).1 = 0 ∧ da ≠ sa ∧ da ≠ na ∧ P1 4 2 sx = some ra ∧ T1 ra = (1, 1) ∧ (T ra).1 = 0 ∧ ra ≠ sa ∧ ra ≠ na ∧ ra ≠ da) ⟨n, sa, na, da, q25, f0.tr hGs, hsx, f2.g hGs (Or.inr f1), by simp [u3]; exact f3, f4, f5, f6, by simp [u3]; exact f7, by rw [u1_na (al_ne f8 (by decide) hq25)]; exact f8, f9, f10, f11, u3_self, u1_self, f0.f0 hq25 (by rw [f1]; decide), fun e => al_ne f2.2.2.2.1 (by decide) hq25 e.symm, fun e => al_ne f2.2.2.2.2 (by decide) hq25 e.symm, fun e => al_ne f8 (by decide) hq25 e.symm⟩ (fun T1 N1 P1 I1 R1 hG => ?_)
  obtain ⟨n, sa, na, da, ra, f0, f1, f2, f3, f4, f5, f6, f7, f8, f9, f10, f11, f12, f13, f14, f15, f16, f17⟩ := hG
  refine v_aload_0 dX4_init_30 rfl ?_
  refine v_bipush (v := 8) dX4_init_31 rfl rfl ?_
  refine v_newa (atype := .int) (ft := .int) (t := 1) rfl (Or.inl ⟨rfl, rfl⟩) ac_int rfl (zle rfl) (zle rfl) (zle rfl) dX4_init_33 rfl (fun q33 hq33 => ?_)
  have hsx : (u1 T1 q33 (1, 8) sx).1 = 14 := by rw [u1_na (fr_ne hq33 f1 (by decide))]; exact f1
  refine v_putP fw_4_25 hsx rfl (zle rfl) rfl (fun h => by cases h) rfl rfl dX4_init_35 rfl ?_
  have hGs := ((GrX.rf (x := sx) (T := T1) (N := N1) (P := P1) (I := I1) (R := R1)).a hq33 (by rw [f1]; decide) (1, 8) (fun _ => 0)).p 4 3 (some q33)
  refine v_abs (fun T1 N1 P1 I1 R1 => ∃ n sa na da ra ta, GrX sx T N P I R T1 N1 P1 I1 R1 ∧ (T1 sx).1 = 14 ∧ NtO T1 P1 n sa na ∧ P1 4 0 sx = some n ∧ (T sa).1 = 0 ∧ (T na).1 = 0 ∧ sa ≠ na ∧ P1 4 1 sx = some da ∧ T1 da = (1, 8) ∧ (T da).1 = 0 ∧ da ≠ sa ∧ da ≠ na ∧ P1 4 2 sx = some ra ∧ T1 ra = (1, 1) ∧ (T ra).1 = 0 ∧ ra ≠ sa ∧ ra ≠ na ∧ ra ≠ da ∧ P1 4 3 sx = some ta ∧ T1 ta = (1, 8) ∧ (T ta).1 = 0 ∧ ta ≠ sa ∧ ta ≠ na ∧ ta ≠ da ∧ ta ≠ ra) ⟨n, sa, na, da, ra, q33, f0.tr hGs, hsx, f2.g hGs (Or.inr f1), by simp [u3]; exact f3, f4, f5, f6, by simp [u3]; exact f7, by rw [u1_na (al_ne f8 (by decide) hq33)]; exact f8, f9, f10, f11, by simp [u3]; exact f12, by rw [u1_na (al_ne f13 (by decide) hq33)]; exact f13, f14, f15, f16, f17, u3_self, u1_self, f0.f0 hq33 (by rw [f1]; decide), fun e => al_ne f2.2.2.2.1 (by decide) hq33 e.symm, fun e => al_ne f2.2.2.2.2 (by decide) hq33 e.symm, fun e => al_ne f8 (by decide) hq33 e.symm, fun e => al_ne f13 (by decide) hq33 e.symm⟩ (fun T1 N1 P1 I1 R1 hG => ?_)
  obtain ⟨n, sa, na, da, ra, ta, f0, f1, f2, f3, f4, f5, f6, f7, f8, f9, f10, f11, f12, f13, f14, f15, f16, f17, f18, f19, f20, f21, f22, f23, f24⟩ := hG
  refine v_aload_0 dX4_init_38 rfl ?_
  refine v_new (ci := 0) rfl (zle rfl) cl_0 tyX0_ok dv_0 kl_4_28 it_0 ii_0 (zle rfl) (zle rfl) dX4_init_39 rfl (fun q39 hq39 => ?_)
  refine v_dup dX4_init_42 rfl rfl ?_
  have a5 : (u1 T1 q39 (10, 0) q39).1 = 10 := by rw [u1_self]
  refine v_callI (c_X0_init q39 a5) yy_X0_init im_X0_init rfl lk_4_30 (zle rfl) (zle rfl) (zle rfl) (zle rfl) rfl rfl (zle rfl) dX4_init_43 rfl (fun v1 T3 N3 P3 I3 R3 hi => ?_)
  obtain ⟨rfl, pa, hpa, rfl, rfl, rfl, rfl, rfl⟩ := hi
  have nsx : sx ≠ q39 := fr_ne hq39 f1 (by decide)
  have sx1 : (u1 T1 q39 (10, 0) sx).1 = 14 := by rw [u1_na nsx]; exact f1
  have sx2 : (u1 (u1 T1 q39 (10, 0)) pa (32, 12) sx).1 = 14 := by rw [u1_na (fr_ne hpa sx1 (by decide))]; exact sx1
  have npa : q39 ≠ pa := fun e => by rw [← e, u1_self] at hpa; exact absurd hpa (by decide)
  refine v_putP fw_4_31 sx2 rfl (zle rfl) rfl (fun h => by cases h) rfl rfl dX4_init_46 rfl ?_
  refine v_aload_0 dX4_init_49 rfl ?_
  refine v_iconst (v := 0) dX4_init_50 rfl rfl ?_
  refine v_putN fw_4_35 sx2 rfl (zle rfl) rfl (fun h => by cases h) rfl rfl dX4_init_51 rfl ?_
  refine v_aload_0 dX4_init_54 rfl ?_
  refine v_iconst (v := 0) dX4_init_55 rfl rfl ?_
  refine v_putN fw_4_39 sx2 rfl (zle rfl) rfl (fun h => by cases h) rfl rfl dX4_init_56 rfl ?_
  refine v_aload_0 dX4_init_59 rfl ?_
  refine v_iconst (v := 1) dX4_init_60 rfl rfl ?_
  refine v_putN fw_4_42 sx2 rfl (zle rfl) rfl (fun h => by cases h) rfl rfl dX4_init_61 rfl ?_
  have GE : GrX sx T1 N1 P1 I1 R1 (u1 (u1 T1 q39 (10, 0)) pa (32, 12)) (u3 (u3 (u3 (u3 (u3 (uo N1 0 q39 0) 0 1 q39 0) 0 2 q39 0) 4 5 sx 0) 4 6 sx 0) 4 7 sx 1) (u3 (u3 (uo P1 0 q39 none) 0 0 q39 (some pa)) 4 4 sx (some q39)) I1 (u1 R1 pa (fun _ => none)) := by
    refine ⟨by rw [u1_na (fr_ne hpa sx1 (by decide)), u1_na nsx], fun a ha hT => ?_⟩
    have n1 : a ≠ q39 := fun e => hT (by rw [e]; exact hq39)
    have n2 : a ≠ pa := fun e => by rw [← e, u1_na n1] at hpa; exact hT hpa
    exact ⟨by rw [u1_na n2, u1_na n1], fun c k => by simp [u3, uo, n1, ha], fun c k => by simp [u3, uo, n1, ha], rfl, by rw [u1_na n2]⟩
  exact v_return rfl (⟨rfl, f0.tr GE, n, sa, na, da, ra, ta, q39, ⟨sx2, by simp [u3, uo]; exact f3, f2.g GE (Or.inr f1), by simp [u3, uo]; exact f7, by rw [(GE.2 _ (fun e => by rw [e] at f8; rw [f8] at f1; cases f1) (by rw [f8]; decide)).1]; exact f8, by simp [u3, uo]; exact f12, by rw [(GE.2 _ (fun e => by rw [e] at f13; rw [f13] at f1; cases f1) (by rw [f13]; decide)).1]; exact f13, by simp [u3, uo]; exact f18, by rw [(GE.2 _ (fun e => by rw [e] at f19; rw [f19] at f1; cases f1) (by rw [f19]; decide)).1]; exact f19, u3_self, by rw [u1_na npa, u1_self]⟩, f4, f5, f9, f14, f20, f6, f10, f11, f15, f16, f17, f21, f22, f23, f24⟩) (zle rfl) (zle rfl) dX4_init_64
