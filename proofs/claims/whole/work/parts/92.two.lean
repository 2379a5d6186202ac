/-! the law: the script, and both objects in one heap -/
abbrev yL (nm : String) : MethodName := ⟨R_law, nm, "([I)Z"⟩
section zscr
variable {E : zE} {y : MethodName} {cc : ByteArray} {nL : Nat} {rt : Option FieldType} {rm : Room} {K : zK E y cc nL rt rm} {Qf : State → Prop} {T : zT} {N : zN} {P : zP} {I : zI} {R : zR} {kc ks pc n : Nat} {ls : List (Option Value)} {st : List Value}
/-- the script of L ints xs at the cell a -/
def zSc (K : zK E y cc nL rt rm) (a L : Nat) (xs : Nat → Int32) : Prop := va_X a L xs K.1.s K.1.s.heap ∧ a < K.1.s.heap.size ∧ ¬ zA E a
theorem v_sld {a L j : Nat} {xs : Nat → Int32} {i v : Int32} (hX : zSc K a L xs) (hi : i = nI j) (hj : j < L) (hl : L < 2 ^ 31) (hv : xs j = v) (d : decode cc pc = .ok (.iaload, 1)) (hn : pc + 1 = n) (kk : V K Qf T N P I R kc ks n ls (.int v :: st)) : V K Qf T N P I R kc ks pc ls (.int i :: .ref a :: st) := by
  subst hn; subst hv
  intro H locs LS h1 h2 h3
  subst hi
  refine va_sld K.x K.hb hX.1 hX.2.1 hX.2.2 h2 (vp_in_nI hj hl) d ?_
  rw [nI_clamp (by omega)]
  exact kk H locs LS h1 h2 h3
theorem v_slen {a L : Nat} {xs : Nat → Int32} (hX : zSc K a L xs) (d : decode cc pc = .ok (.arraylength, 1)) (hn : pc + 1 = n) (kk : V K Qf T N P I R kc ks n ls (.int (nI L) :: st)) : V K Qf T N P I R kc ks pc ls (.ref a :: st) := by
  subst hn
  intro H locs LS h1 h2 h3
  exact va_slen K.x K.hb hX.1 hX.2.1 hX.2.2 h2 d (kk H locs LS h1 h2 h3)
/-- a truth value out of a number: a != 0 -/
theorem v_nz {a : Int32} (d0 : decode cc pc = .ok (.ifCond .eq 7, 3)) (d1 : decode cc (pc + 3) = .ok (.iconst 1, 1)) (d2 : decode cc (pc + 4) = .ok (.goto 4, 3)) (d3 : decode cc (pc + 7) = .ok (.iconst 0, 1)) (hn : pc + 8 = n) (kk : V K Qf T N P I R kc ks n ls (.int (zb (¬ a = 0)) :: st)) : V K Qf T N P I R kc ks pc ls (.int a :: st) := by
  subst hn
  refine v_if_eq (tgt := pc + 7) d0 (by omega) rfl (fun h => ?_) (fun h => ?_)
  · refine v_iconst (v := 0) d3 rfl rfl ?_
    rw [zb_f (fun g => g h)] at kk
    exact kk
  · refine v_iconst (v := 1) d1 rfl rfl ?_
    rw [zb_t h] at kk
    exact v_goto (n := pc + 8) d2 (by omega) kk
theorem lsi (i k : Nat) {c : Int32} (hc : c = nI k) : nI i + c = nI (i + k) := by rw [hc, nI_add]
theorem rmc {k a c : Nat} (h : k ≤ a) (h2 : a + c ≤ 600000) : k + c ≤ room_1.cells := Nat.le_trans (Nat.add_le_add_right h c) h2
theorem rms {k a c : Nat} (h : k ≤ a) (h2 : a + c ≤ 7302250) : k + c ≤ room_1.slots := Nat.le_trans (Nat.add_le_add_right h c) h2
end zscr
/-- the reference's cells -/
def Mnn (m : Nat) (ad : Nat → Nat) (a : Nat) : Prop := a = m ∨ ∃ k, k < 44 ∧ zr 11 k = true ∧ a = ad k
/-- the class's object does not see the reference's numbers -/
theorem CR.fr {T : zT} {N : zN} {P : zP} {I : zI} {R : zR} {T' : zT} {N' : zN} {P' : zP} {I' : zI} {R' : zR} {x : Nat} {Mn Mn' : Nat → Prop} {b : Nat → Nat → Nat} {g : Nat} {f : zf} {r : zg} (h : CR T N P I R x Mn b g f r) (hT : ∀ a, (T a).1 ≠ 0 → T' a = T a) (hN : ∀ c k a, c ≠ 11 → (T a).1 ≠ 0 → N' c k a = N c k a) (hP : ∀ c k a, c ≠ 11 → (T a).1 ≠ 0 → P' c k a = P c k a) (hI : ∀ a, (T a).1 ≠ 0 → ¬ Mn' a → I' a = I a) (hR : ∀ a, (T a).1 ≠ 0 → R' a = R a) (hA : ∀ i, lvr r i → ¬ Mn' (b 1 i)) (h7 : ¬ Mn' (b 0 7)) : CR T' N' P' I' R' x Mn' b g f r := by
  have k1 : CR T' (fun c k a => if c = 11 then N c k a else N' c k a) (fun c k a => if c = 11 then P c k a else P' c k a) (fun a => @ite _ (Mn' a) (Classical.propDecidable _) (I a) (I' a)) R' x Mn b g f r := by
    refine h.gr fun a ha => ⟨hT a ha, fun c k => ?_, fun c k => ?_, ?_, hR a ha⟩
    · by_cases hc : c = 11
      · exact if_pos hc
      · exact (if_neg hc).trans (hN c k a hc ha)
    · by_cases hc : c = 11
      · exact if_pos hc
      · exact (if_neg hc).trans (hP c k a hc ha)
    · by_cases hm : Mn' a
      · exact if_pos hm
      · exact (if_neg hm).trans (hI a ha hm)
  have k2 : CR T' N' P' (fun a => @ite _ (Mn' a) (Classical.propDecidable _) (I a) (I' a)) R' x Mn b g f r := k1
  have eI : ∀ i, lvr r i → (fun a => @ite _ (Mn' a) (Classical.propDecidable _) (I a) (I' a)) (b 1 i) = I' (b 1 i) := fun i hi => if_neg (hA i hi)
  have e7 : (fun a => @ite _ (Mn' a) (Classical.propDecidable _) (I a) (I' a)) (b 0 7) = I' (b 0 7) := if_neg h7
  obtain ⟨a, ⟨b1, b2, b3, b4, b5, b6, b7, b8, b9, b10⟩, ⟨c1, c2, c3⟩, ⟨d1, d2, d3, d4, d5⟩, e1, w, s1, q⟩ := k2
  refine ⟨a, ⟨b1, b2, b3, b4, b5, b6, b7, ?_, b9, b10⟩, ⟨c1, fun i hi => ⟨(c2 i hi).1, hA i hi⟩, c3⟩, ⟨d1, d2, d3, d4, ?_⟩, e1, w, fun s hs => ⟨(s1 s hs).1, fun h0 => ?_⟩, q⟩
  · rw [eI 0 (Or.inl (by decide)), eI 1 (Or.inl (by decide))] at b8
    exact b8
  · rw [e7] at d5
    exact d5
  · obtain ⟨g1, g2, g3, g4, g5⟩ := (s1 s hs).2 h0
    rw [eI (7 + s) (Or.inr ⟨by omega, by rw [show 7 + s - 7 = s by omega]; exact h0⟩)] at g5
    exact ⟨g1, g2, g3, g4, g5⟩
/-- the two objects, at the same state -/
def LB (T : zT) (N : zN) (P : zP) (I : zI) (R : zR) (x m : Nat) (ad : Nat → Nat) (b : Nat → Nat → Nat) (g : Nat) (f : zf) (r : zg) : Prop := CR T N P I R x (Mnn m ad) b g f r ∧ MOK T P m ad ∧ mf N m = f ∧ mr I ad = r ∧ Inv f r
theorem mt_ok : ∀ k, k < 44 → zr 11 k = true → ¬ (mt k).1 = 0 ∧ ¬ (mt k).1 = 3 := by decide +kernel
theorem Mnn.t {T : zT} {P : zP} {m : Nat} {ad : Nat → Nat} (h : MOK T P m ad) : ∀ a, Mnn m ad a → ¬ (T a).1 = 0 := by
  rintro a (rfl | ⟨k, h1, h2, rfl⟩)
  · rw [h.1]; decide
  · rw [(h.2.1 k h1 h2).2]; exact (mt_ok k h1 h2).1
theorem Mnn.b {T : zT} {P : zP} {m : Nat} {ad : Nat → Nat} (h : MOK T P m ad) {a n : Nat} (ha : T a = (3, n)) : ¬ Mnn m ad a := by
  rintro (rfl | ⟨k, h1, h2, rfl⟩)
  · have := h.1; rw [ha] at this; cases this
  · have := (mt_ok k h1 h2).2; rw [← (h.2.1 k h1 h2).2, ha] at this; exact this rfl
theorem Mnn.b7 {T : zT} {N : zN} {P : zP} {I : zI} {R : zR} {x m : Nat} {ad : Nat → Nat} {Mn : Nat → Prop} {b : Nat → Nat → Nat} {g : Nat} {f : zf} {r : zg} (h : MOK T P m ad) (hC : CR T N P I R x Mn b g f r) : ¬ Mnn m ad (b 0 7) := Mnn.b h hC.2.2.2.1.2.2.1
/-- an act of the class leaves the reference as it was -/
theorem LB.c {T : zT} {N : zN} {P : zP} {I : zI} {R : zR} {T1 : zT} {N1 : zN} {P1 : zP} {I1 : zI} {R1 : zR} {x m : Nat} {ad : Nat → Nat} {b : Nat → Nat → Nat} {g g' : Nat} {f : zf} {r : zg} {o : zO} {v : Option Value} (h : LB T N P I R x m ad b g f r) (hq : cQ x (Mnn m ad) g' T N P I R o v T1 N1 P1 I1 R1) : v = some (.int o.1) ∧ (∃ b', CR T1 N1 P1 I1 R1 x (Mnn m ad) b' g' o.2.1 o.2.2) ∧ MOK T1 P1 m ad ∧ mf N1 m = f ∧ mr I1 ad = r := by
  obtain ⟨h1, h2, h3, h4, h5⟩ := h
  obtain ⟨q1, q2, q3, q4, q5⟩ := hq
  refine ⟨q1, q2, ⟨?_, fun k k1 k2 => ⟨?_, ?_⟩, h2.2.2⟩, ?_, ?_⟩
  · rw [(q5 m (Or.inl rfl)).2]; exact h2.1
  · rw [q4]; exact (h2.2.1 k k1 k2).1
  · rw [(q5 (ad k) (Or.inr ⟨k, k1, k2, rfl⟩)).2]; exact (h2.2.1 k k1 k2).2
  · rw [← h3]; funext k; unfold mf; rw [q3]
  · rw [← h4]
    funext k j
    unfold mr
    by_cases hk : k < 32 ∧ zr 11 k = true
    · rw [if_pos hk, if_pos hk, (q5 (ad k) (Or.inr ⟨k, by omega, hk.2, rfl⟩)).1]
    · rw [if_neg hk, if_neg hk]
/-- an act of the reference leaves the class as it was -/
theorem LB.m {T : zT} {N : zN} {P : zP} {I : zI} {R : zR} {T1 : zT} {N1 : zN} {P1 : zP} {I1 : zI} {R1 : zR} {x m : Nat} {ad : Nat → Nat} {b : Nat → Nat → Nat} {g : Nat} {o : zO} {v : Option Value} (hC : CR T N P I R x (Mnn m ad) b g o.2.1 o.2.2) (hM : MOK T P m ad) (hq : mQ m ad T N P I R o v T1 N1 P1 I1 R1) (hI : Inv o.2.1 o.2.2) : v = some (.int o.1) ∧ LB T1 N1 P1 I1 R1 x m ad b g o.2.1 o.2.2 := by
  obtain ⟨q1, q2, q3, q4, ⟨f1, f2, f3, f4, f5⟩⟩ := hq
  refine ⟨q1, hC.fr f4 (fun c k a hc _ => f3 c k a hc) (fun c k a _ _ => by rw [f1]) (fun a ha hm => f5 a ha (fun k k1 k2 e => hm (Or.inr ⟨k, k1, k2, e⟩))) (fun a _ => by rw [f2]) (fun i hi => (hC.2.2.1.2.1 i hi).2) (Mnn.b7 hM hC), q2, q3, q4, hI⟩
/-- room: after n calls, the search's rows at 2^g -/
def Rm (n g kc ks : Nat) : Prop := kc ≤ 60 + 20 * n + 2 * g ∧ ks ≤ 99500 + 100 * n + 9 * 2 ^ (g + 1)
theorem Rm.b {n g kc ks : Nat} (h : Rm n g kc ks) (hn : n < 512) (hg : g ≤ 12) : kc ≤ 11000 ∧ ks ≤ 300000 := by
  have : 2 ^ (g + 1) ≤ 2 ^ 13 := Nat.pow_le_pow_right (by decide) (by omega)
  obtain ⟨h1, h2⟩ := h
  have e : 2 ^ 13 = 8192 := rfl
  omega
theorem Rm.st {n g kc ks c1 s1 c2 s2 : Nat} (h : Rm n g kc ks) (hc : c1 + c2 ≤ 20) (hs : s1 + s2 ≤ 100) : Rm (n + 1) g (kc + c1 + c2) (ks + s1 + s2) := by
  obtain ⟨h1, h2⟩ := h
  unfold Rm
  omega
theorem Rm.gr {n g np g' kc ks c1 s1 c2 s2 : Nat} (h : Rm n g kc ks) (hg : GrO g np g' c1 s1) (hc : c2 ≤ 20) (hs : s2 ≤ 100) : Rm (n + 1) g' (kc + c1 + c2) (ks + s1 + s2) := by
  obtain ⟨h1, h2⟩ := h
  rcases hg with ⟨g1, rfl, rfl, rfl⟩ | ⟨g1, rfl, rfl, rfl⟩
  · unfold Rm; omega
  · have e : 2 ^ (g + 1) ≤ 2 ^ g' := Nat.pow_le_pow_right (by decide) (by omega)
    have e2 : 2 ^ (g' + 1) = 2 ^ g' * 2 := Nat.pow_succ 2 g'
    unfold Rm
    omega
theorem GrO.mk {g np : Nat} : ∃ g' c s, GrO g np g' c s := by
  by_cases h : np ≤ g
  · exact ⟨g, 0, 0, Or.inl ⟨h, rfl, rfl, rfl⟩⟩
  · exact ⟨np, 2, 9 * 2 ^ np, Or.inr ⟨by omega, rfl, rfl, rfl⟩⟩
theorem GrO.bd {g np g' c s : Nat} (h : GrO g np g' c s) (hn : np ≤ 12) : c ≤ 2 ∧ s ≤ 36864 := by
  rcases h with ⟨h1, rfl, rfl, rfl⟩ | ⟨h1, rfl, rfl, rfl⟩
  · omega
  · have : 2 ^ g' ≤ 2 ^ 12 := Nat.pow_le_pow_right (by decide) hn
    have e : 2 ^ 12 = 4096 := rfl
    omega
