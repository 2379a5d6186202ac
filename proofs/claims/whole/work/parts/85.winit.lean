def bk0 (l0 l1 : List Nat) : Nat → Nat → Nat := fun k i => if k = 0 then l0.getD i 0 else if k = 1 then l1.getD i 0 else 0
/-- the cells of the class when it has been made -/
theorem CR0 {T : zT} {N : zN} {P : zP} {I : zI} {R : zR} {x t tp ed wk sh sx n ba wa xs ys da ra ta sa na e : Nat} (hx : (T x).1 = 20) (p0 : P 10 0 x = some t) (p1 : P 10 1 x = some tp) (p2 : P 10 2 x = some ed) (p3 : P 10 3 x = some wk) (p4 : P 10 4 x = some sh) (p5 : P 10 5 x = some sx) (t2 : T ed = (30, 4)) (t3 : T wk = (38, 6)) (t4 : T sh = (35, 4)) (n6 : N 10 6 x = 0) (n7 : N 10 7 x = 0) (n8 : N 10 8 x = 0) (n9 : N 10 9 x = 0) (hw : TwO T N P t xs ys wa) (hp : TpO T N P tp ba) (hs : SrO T P sx n sa na da ra ta e) (hr : ∀ s, R sh s = none)
    (d1 : xs ≠ ys) (d2 : sa ≠ na) (d3 : da ≠ sa) (d4 : da ≠ na) (d5 : ra ≠ sa) (d6 : ra ≠ na) (d7 : ra ≠ da) (d8 : ta ≠ sa) (d9 : ta ≠ na) (d10 : ta ≠ da) (d11 : ta ≠ ra) (e1 : xs ≠ sa) (e2 : xs ≠ na) (e3 : xs ≠ da) (e4 : xs ≠ ra) (e5 : xs ≠ ta) (e6 : ys ≠ sa) (e7 : ys ≠ na) (e8 : ys ≠ da) (e9 : ys ≠ ra) (e10 : ys ≠ ta) : CR T N P I R x (fun _ => False) (bk0 [t, tp, ed, wk, sh, sx, n, ba, wa] [xs, ys, da, ra, ta, sa, na]) 0 (fun _ => 0) (fun _ _ => 0) := by
  obtain ⟨w1, w2, w3, w4, w5, w6, w7, w8, w9⟩ := hw
  obtain ⟨q1, q2, q3, q4⟩ := hp
  obtain ⟨s1, s2, ⟨m1, m2, m3, m4, m5⟩, s4, s5, s6, s7, s8, s9, s10, s11⟩ := hs
  have z0 : ∀ j, ¬ j < tn 0 := fun j h => absurd h (Nat.not_lt_zero j)
  refine ⟨⟨hx, p0, p1, p2, p3, p4, p5, t2, t3, t4, n6, n7, n8, n9⟩, ⟨w1, w2, w3, w4, w7, w8, w9, fun j hj => absurd hj (z0 j), fun j hj => absurd hj (z0 j), fun i j hi => absurd hi (z0 i)⟩, ⟨by decide, fun i hi => ⟨?_, fun h => h⟩, fun i j hi hj he => ?_⟩, ⟨q1, q2, q3, q4, fun j hj => absurd hj (z0 j)⟩, fun e he => absurd he (z0 e), ⟨fun k hk => absurd hk (z0 k), fun i j hi => absurd hi (z0 i)⟩, fun s _ => ⟨fun _ => hr s, fun h => absurd rfl h⟩, ⟨s1, s2, m1, m2, m3, s4, s6, s8, e, s10, s11⟩⟩
  · rcases hi with h | h
    · rcases (show i = 0 ∨ i = 1 ∨ i = 2 ∨ i = 3 ∨ i = 4 ∨ i = 5 ∨ i = 6 by omega) with h | h | h | h | h | h | h <;> subst h
      · exact w5
      · exact w6
      · exact s5
      · exact s7
      · exact s9
      · exact m4
      · exact m5
    · exact absurd rfl h.2
  · have hi7 : i < 7 := hi.elim id (fun h => absurd rfl h.2)
    have hj7 : j < 7 := hj.elim id (fun h => absurd rfl h.2)
    rcases (show i = 0 ∨ i = 1 ∨ i = 2 ∨ i = 3 ∨ i = 4 ∨ i = 5 ∨ i = 6 by omega) with h | h | h | h | h | h | h <;> subst h <;> rcases (show j = 0 ∨ j = 1 ∨ j = 2 ∨ j = 3 ∨ j = 4 ∨ j = 5 ∨ j = 6 by omega) with h | h | h | h | h | h | h <;> subst h <;> first
      | rfl
      | exact absurd he d1
      | exact absurd he.symm d1
      | exact absurd he d2
      | exact absurd he.symm d2
      | exact absurd he d3
      | exact absurd he.symm d3
      | exact absurd he d4
      | exact absurd he.symm d4
      | exact absurd he d5
      | exact absurd he.symm d5
      | exact absurd he d6
      | exact absurd he.symm d6
      | exact absurd he d7
      | exact absurd he.symm d7
      | exact absurd he d8
      | exact absurd he.symm d8
      | exact absurd he d9
      | exact absurd he.symm d9
      | exact absurd he d10
      | exact absurd he.symm d10
      | exact absurd he d11
      | exact absurd he.symm d11
      | exact absurd he e1
      | exact absurd he.symm e1
      | exact absurd he e2
      | exact absurd he.symm e2
      | exact absurd he e3
      | exact absurd he.symm e3
      | exact absurd he e4
      | exact absurd he.symm e4
      | exact absurd he e5
      | exact absurd he.symm e5
      | exact absurd he e6
      | exact absurd he.symm e6
      | exact absurd he e7
      | exact absurd he.symm e7
      | exact absurd he e8
      | exact absurd he.symm e8
      | exact absurd he e9
      | exact absurd he.symm e9
      | exact absurd he e10
      | exact absurd he.symm e10
theorem c_X10_init {E : zE} {T : zT} {N : zN} {P : zP} {I : zI} {R : zR} (x : Nat) (hx : (T x).1 = 20) : zC E yX10_init cX10_init 1 none (zrm 3 60 18 365) [.ref x] T N P I R (fun v T' N' P' I' R' => v = none ∧ GrX x T N P I R T' N' P' I' R' ∧ ∃ b, CR T' N' P' I' R' x (fun _ => False) b 0 (fun _ => 0) (fun _ _ => 0)) := by
  refine zC.intro (ls := [some (.ref x)]) pl_RX10 (zle rfl) 0 rfl (fun K => ?_)
  refine v_aload_0 dX10_init_0 rfl ?_
  refine v_objInit lk_10_1 im_obj cd_obj (zle rfl) (zle rfl) dX10_init_1 rfl ?_
  refine v_aload_0 dX10_init_4 rfl ?_
  refine v_new (ci := 7) rfl (zle rfl) cl_7 tyX7_ok dv_7 kl_10_7 it_7 ii_7 (zle rfl) (zle rfl) dX10_init_5 rfl (fun q5 hq5 => ?_)
  refine v_dup dX10_init_8 rfl rfl ?_
  have a1 : (u1 T q5 (17, 0) q5).1 = 17 := by rw [u1_self]
  refine v_callI (c_X7_init q5 a1) yy_X7_init im_X7_init rfl lk_10_9 (zle rfl) (zle rfl) (zle rfl) (zle rfl) rfl rfl (zle rfl) dX10_init_9 rfl (fun v1 T2 N2 P2 I2 R2 hq => ?_)
  obtain ⟨rfl, hg, xs, ys, wa, hO, b1, b2, b3⟩ := hq
  have nx : x ≠ q5 := fr_ne hq5 hx (by decide)
  have a2 : (u1 T q5 (17, 0) x).1 ≠ 0 := by rw [u1_na nx, hx]; decide
  have G1 := ((GrX.rf (x := x)).o hq5 (by rw [hx]; decide) (17, 0) 7).ot hq5 nx hg a2
  have a3 : (T2 x).1 = 20 := by rw [G1.1]; exact hx
  refine v_putP fw_10_10 a3 rfl (zle rfl) rfl (fun _ => rfl) rfl rfl dX10_init_12 rfl ?_
  refine v_abs (fun T1 N1 P1 I1 R1 => ∃ t xs ys wa, GrX x T N P I R T1 N1 P1 I1 R1 ∧ (T1 x).1 = 20 ∧ TwO T1 N1 P1 t xs ys wa ∧ P1 10 0 x = some t ∧ xs ≠ ys) ⟨q5, xs, ys, wa, G1.p _ _ _, a3, (show TwO T2 N2 (u3 P2 10 0 x (some q5)) q5 xs ys wa from hO), u3_self, b3⟩ (fun T1 N1 P1 I1 R1 hG => ?_)
  obtain ⟨t, xs, ys, wa, f0, f1, f2, f3, f4⟩ := hG
  refine v_aload_0 dX10_init_15 rfl ?_
  refine v_new (ci := 6) rfl (zle rfl) cl_6 tyX6_ok dv_6 kl_10_16 it_6 ii_6 (zle rfl) (zle rfl) dX10_init_16 rfl (fun q16 hq16 => ?_)
  refine v_dup dX10_init_19 rfl rfl ?_
  have a1 : (u1 T1 q16 (16, 0) q16).1 = 16 := by rw [u1_self]
  refine v_callI (c_X6_init q16 a1) yy_X6_init im_X6_init rfl lk_10_18 (zle rfl) (zle rfl) (zle rfl) (zle rfl) rfl rfl (zle rfl) dX10_init_20 rfl (fun v1 T2 N2 P2 I2 R2 hq => ?_)
  obtain ⟨rfl, hg, ba, hO⟩ := hq
  have nx : x ≠ q16 := fr_ne hq16 f1 (by decide)
  have a2 : (u1 T1 q16 (16, 0) x).1 ≠ 0 := by rw [u1_na nx, f1]; decide
  have G0 := ((GrX.rf (x := x) (T := T1) (N := N1) (P := P1) (I := I1) (R := R1)).o hq16 (by rw [f1]; decide) (16, 0) 6).ot hq16 nx hg a2
  have pk : ∀ k, P2 10 k x = P1 10 k x := fun k => by rw [(hg.2 x nx a2).2.2.1]; simp [uo]
  have G1 := G0.p 10 1 (some q16)
  have a3 : (T2 x).1 = 20 := by rw [G0.1]; exact f1
  refine v_putP fw_10_19 a3 rfl (zle rfl) rfl (fun _ => rfl) rfl rfl dX10_init_23 rfl ?_
  refine v_abs (fun T1 N1 P1 I1 R1 => ∃ t xs ys wa tp ba, GrX x T N P I R T1 N1 P1 I1 R1 ∧ (T1 x).1 = 20 ∧ TwO T1 N1 P1 t xs ys wa ∧ P1 10 0 x = some t ∧ xs ≠ ys ∧ TpO T1 N1 P1 tp ba ∧ P1 10 1 x = some tp) ⟨t, xs, ys, wa, q16, ba, f0.tr G1, a3, f2.g G1 (Or.inl f1), by simp [u3]; rw [pk]; exact f3, f4, (show TpO T2 N2 (u3 P2 10 1 x (some q16)) q16 ba from hO), u3_self⟩ (fun T1 N1 P1 I1 R1 hG => ?_)
  obtain ⟨t, xs, ys, wa, tp, ba, f0, f1, f2, f3, f4, f5, f6⟩ := hG
  refine v_aload_0 dX10_init_26 rfl ?_
  refine v_iconst (v := 4) dX10_init_27 rfl rfl ?_
  refine v_newq ti_0 kl_10_23 ao_0 rfl (zle rfl) (zle rfl) (zle rfl) dX10_init_28 rfl (fun q28 hq28 => ?_)
  have hx1 : (u1 T1 q28 (30, 4) x).1 = 20 := by rw [u1_na (fr_ne hq28 f1 (by decide))]; exact f1
  refine v_putP fw_10_25 hx1 rfl (zle rfl) rfl (fun _ => rfl) rfl rfl dX10_init_31 rfl ?_
  have G1 := ((GrX.rf (x := x) (T := T1) (N := N1) (P := P1) (I := I1) (R := R1)).r hq28 (by rw [f1]; decide) (30, 4) (fun _ => none)).p 10 2 (some q28)
  refine v_abs (fun T1 N1 P1 I1 R1 => ∃ t xs ys wa tp ba ed, GrX x T N P I R T1 N1 P1 I1 R1 ∧ (T1 x).1 = 20 ∧ TwO T1 N1 P1 t xs ys wa ∧ P1 10 0 x = some t ∧ xs ≠ ys ∧ TpO T1 N1 P1 tp ba ∧ P1 10 1 x = some tp ∧ T1 ed = (30, 4) ∧ P1 10 2 x = some ed) ⟨t, xs, ys, wa, tp, ba, q28, f0.tr G1, hx1, f2.g G1 (Or.inl f1), by simp [u3]; exact f3, f4, f5.g G1 (Or.inl f1), by simp [u3]; exact f6, u1_self, u3_self⟩ (fun T1 N1 P1 I1 R1 hG => ?_)
  obtain ⟨t, xs, ys, wa, tp, ba, ed, f0, f1, f2, f3, f4, f5, f6, f7, f8⟩ := hG
  refine v_aload_0 dX10_init_34 rfl ?_
  refine v_bipush (v := 6) dX10_init_35 rfl rfl ?_
  refine v_newq ti_8 kl_10_29 ao_8 rfl (zle rfl) (zle rfl) (zle rfl) dX10_init_37 rfl (fun q37 hq37 => ?_)
  have hx1 : (u1 T1 q37 (38, 6) x).1 = 20 := by rw [u1_na (fr_ne hq37 f1 (by decide))]; exact f1
  refine v_putP fw_10_31 hx1 rfl (zle rfl) rfl (fun _ => rfl) rfl rfl dX10_init_40 rfl ?_
  have G1 := ((GrX.rf (x := x) (T := T1) (N := N1) (P := P1) (I := I1) (R := R1)).r hq37 (by rw [f1]; decide) (38, 6) (fun _ => none)).p 10 3 (some q37)
  refine v_abs (fun T1 N1 P1 I1 R1 => ∃ t xs ys wa tp ba ed wk, GrX x T N P I R T1 N1 P1 I1 R1 ∧ (T1 x).1 = 20 ∧ TwO T1 N1 P1 t xs ys wa ∧ P1 10 0 x = some t ∧ xs ≠ ys ∧ TpO T1 N1 P1 tp ba ∧ P1 10 1 x = some tp ∧ T1 ed = (30, 4) ∧ P1 10 2 x = some ed ∧ T1 wk = (38, 6) ∧ P1 10 3 x = some wk) ⟨t, xs, ys, wa, tp, ba, ed, q37, f0.tr G1, hx1, f2.g G1 (Or.inl f1), by simp [u3]; exact f3, f4, f5.g G1 (Or.inl f1), by simp [u3]; exact f6, by rw [u1_na (al_ne f7 (by decide) hq37)]; exact f7, by simp [u3]; exact f8, u1_self, u3_self⟩ (fun T1 N1 P1 I1 R1 hG => ?_)
  obtain ⟨t, xs, ys, wa, tp, ba, ed, wk, f0, f1, f2, f3, f4, f5, f6, f7, f8, f9, f10⟩ := hG
  refine v_aload_0 dX10_init_43 rfl ?_
  refine v_iconst (v := 4) dX10_init_44 rfl rfl ?_
  refine v_newq ti_5 kl_10_35 ao_5 rfl (zle rfl) (zle rfl) (zle rfl) dX10_init_45 rfl (fun q45 hq45 => ?_)
  have hx1 : (u1 T1 q45 (35, 4) x).1 = 20 := by rw [u1_na (fr_ne hq45 f1 (by decide))]; exact f1
  refine v_putP fw_10_37 hx1 rfl (zle rfl) rfl (fun _ => rfl) rfl rfl dX10_init_48 rfl ?_
  have G1 := ((GrX.rf (x := x) (T := T1) (N := N1) (P := P1) (I := I1) (R := R1)).r hq45 (by rw [f1]; decide) (35, 4) (fun _ => none)).p 10 4 (some q45)
  refine v_abs (fun T1 N1 P1 I1 R1 => ∃ t xs ys wa tp ba ed wk sh, GrX x T N P I R T1 N1 P1 I1 R1 ∧ (T1 x).1 = 20 ∧ TwO T1 N1 P1 t xs ys wa ∧ P1 10 0 x = some t ∧ xs ≠ ys ∧ TpO T1 N1 P1 tp ba ∧ P1 10 1 x = some tp ∧ T1 ed = (30, 4) ∧ P1 10 2 x = some ed ∧ T1 wk = (38, 6) ∧ P1 10 3 x = some wk ∧ T1 sh = (35, 4) ∧ P1 10 4 x = some sh ∧ ∀ s, R1 sh s = none) ⟨t, xs, ys, wa, tp, ba, ed, wk, q45, f0.tr G1, hx1, f2.g G1 (Or.inl f1), by simp [u3]; exact f3, f4, f5.g G1 (Or.inl f1), by simp [u3]; exact f6, by rw [u1_na (al_ne f7 (by decide) hq45)]; exact f7, by simp [u3]; exact f8, by rw [u1_na (al_ne f9 (by decide) hq45)]; exact f9, by simp [u3]; exact f10, u1_self, u3_self, fun s => by rw [u1_self]⟩ (fun T1 N1 P1 I1 R1 hG => ?_)
  obtain ⟨t, xs, ys, wa, tp, ba, ed, wk, sh, f0, f1, f2, f3, f4, f5, f6, f7, f8, f9, f10, f11, f12, f13⟩ := hG
  refine v_aload_0 dX10_init_51 rfl ?_
  refine v_new (ci := 4) rfl (zle rfl) cl_4 tyX4_ok dv_4 kl_10_41 it_4 ii_4 (zle rfl) (zle rfl) dX10_init_52 rfl (fun q52 hq52 => ?_)
  refine v_dup dX10_init_55 rfl rfl ?_
  have a1 : (u1 T1 q52 (14, 0) q52).1 = 14 := by rw [u1_self]
  refine v_callI (c_X4_init q52 a1) yy_X4_init im_X4_init rfl lk_10_43 (zle rfl) (zle rfl) (zle rfl) (zle rfl) rfl rfl (zle rfl) dX10_init_56 rfl (fun v1 T2 N2 P2 I2 R2 hq => ?_)
  obtain ⟨rfl, hg, n, sa, na, da, ra, ta, e, hO, b1, b2, b3, b4, b5, d2, d3, d4, d5, d6, d7, d8, d9, d10, d11⟩ := hq
  have nx : x ≠ q52 := fr_ne hq52 f1 (by decide)
  have a2 : (u1 T1 q52 (14, 0) x).1 ≠ 0 := by rw [u1_na nx, f1]; decide
  have G0 := ((GrX.rf (x := x) (T := T1) (N := N1) (P := P1) (I := I1) (R := R1)).o hq52 (by rw [f1]; decide) (14, 0) 4).ot hq52 nx hg a2
  have pk : ∀ k, P2 10 k x = P1 10 k x := fun k => by rw [(hg.2 x nx a2).2.2.1]; simp [uo]
  have a3 : (T2 x).1 = 20 := by rw [G0.1]; exact f1
  have hxs : ∀ q, (u1 T1 q52 (14, 0) q).1 = 0 → xs ≠ q ∧ ys ≠ q := fun q hq => by
    have hq1 : (T1 q).1 = 0 := by
      have : q ≠ q52 := fun e => by rw [e, u1_self] at hq; exact absurd hq (by decide)
      rw [u1_na this] at hq; exact hq
    exact ⟨al_ne f2.2.2.2.2.1 (by decide) hq1, al_ne f2.2.2.2.2.2.1 (by decide) hq1⟩
  refine v_putP fw_10_44 a3 rfl (zle rfl) rfl (fun _ => rfl) rfl rfl dX10_init_59 rfl ?_
  refine v_aload_0 dX10_init_62 rfl ?_
  refine v_iconst (v := 0) dX10_init_63 rfl rfl ?_
  refine v_putN fw_10_48 a3 rfl (zle rfl) rfl (fun h => by cases h) rfl rfl dX10_init_64 rfl ?_
  refine v_aload_0 dX10_init_67 rfl ?_
  refine v_iconst (v := 0) dX10_init_68 rfl rfl ?_
  refine v_putN fw_10_52 a3 rfl (zle rfl) rfl (fun h => by cases h) rfl rfl dX10_init_69 rfl ?_
  refine v_aload_0 dX10_init_72 rfl ?_
  refine v_iconst (v := 0) dX10_init_73 rfl rfl ?_
  refine v_putN fw_10_55 a3 rfl (zle rfl) rfl (fun h => by cases h) rfl rfl dX10_init_74 rfl ?_
  refine v_aload_0 dX10_init_77 rfl ?_
  refine v_iconst (v := 0) dX10_init_78 rfl rfl ?_
  refine v_putN fw_10_58 a3 rfl (zle rfl) rfl (fun h => by cases h) rfl rfl dX10_init_79 rfl ?_
  have G2 := ((((G0.p 10 5 (some q52)).n 10 6 0).n 10 7 0).n 10 8 0).n 10 9 0
  exact v_return rfl (⟨rfl, f0.tr G2, _, CR0 (e := e) a3 (by simp [u3]; rw [pk]; exact f3) (by simp [u3]; rw [pk]; exact f6) (by simp [u3]; rw [pk]; exact f8) (by simp [u3]; rw [pk]; exact f10) (by simp [u3]; rw [pk]; exact f12) (by simp [u3]) (by rw [(G2.2 _ (fun e => by rw [e] at f7; rw [f7] at f1; cases f1) (by rw [f7]; decide)).1]; exact f7) (by rw [(G2.2 _ (fun e => by rw [e] at f9; rw [f9] at f1; cases f1) (by rw [f9]; decide)).1]; exact f9) (by rw [(G2.2 _ (fun e => by rw [e] at f11; rw [f11] at f1; cases f1) (by rw [f11]; decide)).1]; exact f11) (by simp [u3]) (by simp [u3]) (by simp [u3]) (by simp [u3]) (f2.g G2 (Or.inl f1)) (f5.g G2 (Or.inl f1)) (show SrO T2 (u3 P2 10 5 x (some q52)) q52 n sa na da ra ta e from hO) (fun s => by rw [(G2.2 sh (fun z => by rw [z] at f11; rw [f11] at f1; cases f1) (by rw [f11]; decide)).2.2.2.2]; exact f13 s) f4 d2 d3 d4 d5 d6 d7 d8 d9 d10 d11 (hxs _ b1).1 (hxs _ b2).1 (hxs _ b3).1 (hxs _ b4).1 (hxs _ b5).1 (hxs _ b1).2 (hxs _ b2).2 (hxs _ b3).2 (hxs _ b4).2 (hxs _ b5).2⟩) (zle rfl) (zle rfl) dX10_init_82
