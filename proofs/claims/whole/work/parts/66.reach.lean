/-- the search's cells, once an edition, a day, a first set were put there -/
def SxE (T : zT) (N : zN) (P : zP) (R : zR) (sx nt sa na ra ta ln ea pa : Nat) (pp : Nat → Nat) (r : zg) (e d S0 : Nat) : Prop := ((T sx).1 = 14 ∧ P 4 0 sx = some nt ∧ (T nt).1 = 11 ∧ P 1 0 nt = some sa ∧ P 1 1 nt = some na ∧ T sa = (1, 64) ∧ T na = (1, 8) ∧ P 4 2 sx = some ra ∧ P 4 3 sx = some ta ∧ T ra = (1, ln) ∧ T ta = (1, ln * 8) ∧ P 4 4 sx = some ea ∧ N 4 5 sx = nI d ∧ N 4 6 sx = nI S0 ∧ N 4 7 sx = nI (2 ^ (tn (r 10 e)))) ∧ REe T N P R ea pa pp r e ∧ (2 ^ (tn (r 10 e)) ≤ ln ∧ ln ≤ 4096 ∧ d < 7 ∧ e < 4) ∧ (sa ≠ na ∧ ra ≠ sa ∧ ra ≠ na ∧ ta ≠ sa ∧ ta ≠ na ∧ ra ≠ ta) ∧ Nt (r 10 e) 13 ∧ ∀ p, p < (tn (r 10 e)) → Nt (r 11 (12 * e + p)) 4 ∧ Nt (r 13 (12 * e + p)) 10
/-- the row of sets of corners -/
def RcR (I : zI) (ra np : Nat) (rm : Nat → Nat) : Prop := ∀ S, S < 2 ^ np → I ra S = nI (rm S) ∧ rm S < 256
theorem RcR.p {I : zI} {ra np : Nat} {rm : Nat → Nat} (h : RcR I ra np rm) {S x : Nat} (hx : x < 256) : RcR (u2 I ra S (nI x)) ra np (u1 rm S x) := fun q hq => by
  by_cases e : q = S
  · subst e; rw [u2_self, u1_self]; exact ⟨rfl, hx⟩
  · rw [u2_ni e, u1_na e]; exact h q hq
theorem c_X4_reachNext {E : zE} {T : zT} {N : zN} {P : zP} {I : zI} {R : zR} (sx nt sa na ra ta ln ea pa : Nat) (pp : Nat → Nat) (r : zg) (e d S0 : Nat) (S c p : Nat) (rm : Nat → Nat)  (hX : SxE T N P R sx nt sa na ra ta ln ea pa pp r e d S0) (hS : S < 2 ^ (tn (r 10 e))) (hc : c < 8) (hR : RcR I ra (tn (r 10 e)) rm) (hx : nxS r e (tn (r 10 e)) d S c p) : zC E yX4_reachNext cX4_reachNext 4 none (zr0 2 48) [.ref sx, .int (nI S), .int (nI c)] T N P I R (zv T N P (u2 I ra (S ||| 2 ^ p) (nI (rm (S ||| 2 ^ p) ||| 2 ^ c))) R) := by
  refine zC.intro (ls := [some (.ref sx), some (.int (nI S)), some (.int (nI c)), none]) pl_RX4 (zle rfl) 1 rfl (fun K => ?_)
  obtain ⟨⟨x1, x2, x3, x4, x5, x6, x7, x8, x9, x10, x11, x12, x13, x14, x15⟩, xE, ⟨y1, y2, y3, y4⟩, ⟨z1, z2, z3, z4, z5, z6⟩, xN, xK⟩ := id hX
  have xNb := xN.2
  have h12 : 2 ^ tn (r 10 e) ≤ 2 ^ 12 := Nat.pow_le_pow_right (by decide) (by omega)
  refine v_aload_0 dX4_reachNext_0 rfl ?_
  refine v_getP fl_4_31 x12 x1 rfl (zle rfl) rfl dX4_reachNext_1 rfl ?_
  refine v_iconst (v := 0) dX4_reachNext_4 rfl rfl ?_
  refine v_iload_2 dX4_reachNext_5 rfl ?_
  refine v_iload_1 dX4_reachNext_6 rfl ?_
  refine v_aload_0 dX4_reachNext_7 rfl ?_
  refine v_getN fl_4_35 x1 rfl (zle rfl) rfl dX4_reachNext_8 rfl ?_
  refine v_top x13 ?_
  refine v_callV (ci := 0) (F := TX0) (c_X0_nextPiece e ea pa 0 d pp r (nI c) (nI S) xE xN (fun p hp => (xK p hp).1) y3 (Nat.zero_le _)) yy_X0_nextPiece im_X0_nextPiece se_X0_nextPiece lk_4_85 xE.1 (zle rfl) rfl (zle rfl) (zle rfl) (zle rfl) (zle rfl) rfl rfl (zle rfl) dX4_reachNext_11 rfl (zp.use ?_)
  have e14 : nxv (canP r e (nI c) (nI S) d) 0 (tn (r 10 e)) = nI p := by
    rcases nxv_or (canP r e (nI c) (nI S) d) 0 (tn (r 10 e)) with ⟨g1, g2⟩ | ⟨q, g0, g1, g2, g3, g4⟩
    · exact absurd hx.2.1 (g2 p (Nat.zero_le _) hx.1)
    · rw [g4, nx_un hx ⟨g1, g2, fun k hk => g3 k (Nat.zero_le _) hk⟩]
  refine v_top e14 ?_
  have hup := nx_up hx (by omega) hS
  have hpl := hx.1
  obtain ⟨k1, k2⟩ := hR _ hup.2.1
  refine v_istore_3 dX4_reachNext_14 rfl (zle rfl) rfl ?_
  refine v_iload_3 dX4_reachNext_15 rfl ?_
  refine v_if_lt_f (tgt := 38) (nI_pos (by omega)) dX4_reachNext_16 (by decide) rfl ?_
  refine v_aload_0 dX4_reachNext_19 rfl ?_
  refine v_getP fl_4_22 x8 x1 rfl (zle rfl) rfl dX4_reachNext_20 rfl ?_
  refine v_iload_1 dX4_reachNext_23 rfl ?_
  refine v_iconst (v := 1) dX4_reachNext_24 rfl rfl ?_
  refine v_iload_3 dX4_reachNext_25 rfl ?_
  refine v_ishl dX4_reachNext_26 rfl ?_
  refine v_ior dX4_reachNext_27 rfl ?_
  refine v_top hup.2.2 ?_
  refine v_dup2 dX4_reachNext_28 rfl rfl rfl ?_
  refine v_iald (j := S ||| 2 ^ p) x10 rfl (by omega) (by omega) dX4_reachNext_29 rfl ?_
  refine v_top k1 ?_
  refine v_iconst (v := 1) dX4_reachNext_30 rfl rfl ?_
  refine v_iload_2 dX4_reachNext_31 rfl ?_
  refine v_ishl dX4_reachNext_32 rfl ?_
  refine v_top (nI_sh c hc) ?_
  refine v_ior dX4_reachNext_33 rfl ?_
  refine v_top (nI_or (by omega) (Nat.lt_trans (Nat.pow_lt_pow_right (by decide) hc) (by decide))) ?_
  refine v_iast (j := S ||| 2 ^ p) x10 rfl (by omega) (by omega) dX4_reachNext_34 rfl ?_
  refine v_goto (n := 56) dX4_reachNext_35 (by decide) ?_
  exact v_return rfl (zv.rf) (zle rfl) (zle rfl) dX4_reachNext_56
theorem c_X4_reachNext_n {E : zE} {T : zT} {N : zN} {P : zP} {I : zI} {R : zR} (sx nt sa na ra ta ln ea pa : Nat) (pp : Nat → Nat) (r : zg) (e d S0 : Nat) (S c y : Nat) (rm : Nat → Nat)  (hX : SxE T N P R sx nt sa na ra ta ln ea pa pp r e d S0) (hS : S < 2 ^ (tn (r 10 e))) (hc : c < 8) (hR : RcR I ra (tn (r 10 e)) rm) (hx : ∀ q, q < (tn (r 10 e)) → ¬ canP r e (nI c) (nI S) d q) (hy : I na c = nI y) (hyl : y < 256) : zC E yX4_reachNext cX4_reachNext 4 none (zr0 2 48) [.ref sx, .int (nI S), .int (nI c)] T N P I R (zv T N P (u2 I ra S (nI (rm S ||| y))) R) := by
  refine zC.intro (ls := [some (.ref sx), some (.int (nI S)), some (.int (nI c)), none]) pl_RX4 (zle rfl) 1 rfl (fun K => ?_)
  obtain ⟨⟨x1, x2, x3, x4, x5, x6, x7, x8, x9, x10, x11, x12, x13, x14, x15⟩, xE, ⟨y1, y2, y3, y4⟩, ⟨z1, z2, z3, z4, z5, z6⟩, xN, xK⟩ := id hX
  have xNb := xN.2
  have h12 : 2 ^ tn (r 10 e) ≤ 2 ^ 12 := Nat.pow_le_pow_right (by decide) (by omega)
  refine v_aload_0 dX4_reachNext_0 rfl ?_
  refine v_getP fl_4_31 x12 x1 rfl (zle rfl) rfl dX4_reachNext_1 rfl ?_
  refine v_iconst (v := 0) dX4_reachNext_4 rfl rfl ?_
  refine v_iload_2 dX4_reachNext_5 rfl ?_
  refine v_iload_1 dX4_reachNext_6 rfl ?_
  refine v_aload_0 dX4_reachNext_7 rfl ?_
  refine v_getN fl_4_35 x1 rfl (zle rfl) rfl dX4_reachNext_8 rfl ?_
  refine v_top x13 ?_
  refine v_callV (ci := 0) (F := TX0) (c_X0_nextPiece e ea pa 0 d pp r (nI c) (nI S) xE xN (fun p hp => (xK p hp).1) y3 (Nat.zero_le _)) yy_X0_nextPiece im_X0_nextPiece se_X0_nextPiece lk_4_85 xE.1 (zle rfl) rfl (zle rfl) (zle rfl) (zle rfl) (zle rfl) rfl rfl (zle rfl) dX4_reachNext_11 rfl (zp.use ?_)
  have e14 : nxv (canP r e (nI c) (nI S) d) 0 (tn (r 10 e)) = -1 := by
    rcases nxv_or (canP r e (nI c) (nI S) d) 0 (tn (r 10 e)) with ⟨g1, g2⟩ | ⟨q, g0, g1, g2, g3, g4⟩
    · exact g1
    · exact absurd g2 (hx q g1)
  refine v_top e14 ?_
  obtain ⟨k1, k2⟩ := hR S hS
  refine v_istore_3 dX4_reachNext_14 rfl (zle rfl) rfl ?_
  refine v_iload_3 dX4_reachNext_15 rfl ?_
  refine v_if_lt_t (n := 38) (by decide) dX4_reachNext_16 (by decide) ?_
  refine v_aload_0 dX4_reachNext_38 rfl ?_
  refine v_getP fl_4_22 x8 x1 rfl (zle rfl) rfl dX4_reachNext_39 rfl ?_
  refine v_iload_1 dX4_reachNext_42 rfl ?_
  refine v_dup2 dX4_reachNext_43 rfl rfl rfl ?_
  refine v_iald (j := S) x10 rfl (by omega) (by omega) dX4_reachNext_44 rfl ?_
  refine v_top k1 ?_
  refine v_aload_0 dX4_reachNext_45 rfl ?_
  refine v_getP fl_4_12 x2 x1 rfl (zle rfl) rfl dX4_reachNext_46 rfl ?_
  refine v_getP fl_4_89 x5 x3 rfl (zle rfl) rfl dX4_reachNext_49 rfl ?_
  refine v_iload_2 dX4_reachNext_52 rfl ?_
  refine v_iald (j := c) x7 rfl hc (zle rfl) dX4_reachNext_53 rfl ?_
  refine v_top hy ?_
  refine v_ior dX4_reachNext_54 rfl ?_
  refine v_top (nI_or (by omega) (by omega)) ?_
  refine v_iast (j := S) x10 rfl (by omega) (by omega) dX4_reachNext_55 rfl ?_
  exact v_return rfl (zv.rf) (zle rfl) (zle rfl) dX4_reachNext_56
/-- what was reached is right -/
def RcS (r : zg) (e np nc nw d : Nat) (s : Prop) (S0 c0 : Nat) (rm : Nat → Nat) : Prop := ∀ S c, S < 2 ^ np → (rm S).testBit c = true → Rch r e np nc nw d s S0 c0 S c
/-- a moment was looked at -/
def RcC (r : zg) (e np nc nw d : Nat) (s : Prop) (rm : Nat → Nat) (S c : Nat) : Prop := ¬ ovr r e (nI S) np → (∀ p, nxS r e np d S c p → (rm (S ||| 2 ^ p)).testBit c = true) ∧ (mvS r e np d S c → ∀ c' l, edg r nc nw d s c c' l → (rm S).testBit c' = true)
/-- it only grew, and only from S on -/
def RcG (rm rm' : Nat → Nat) (S : Nat) : Prop := (∀ q i, (rm q).testBit i = true → (rm' q).testBit i = true) ∧ ∀ q, q < S → rm' q = rm q
theorem RcG.rf {rm : Nat → Nat} {S : Nat} : RcG rm rm S := ⟨fun _ _ h => h, fun _ _ => rfl⟩
theorem RcG.tr {a b c : Nat → Nat} {S : Nat} (h : RcG a b S) (g : RcG b c S) : RcG a c S := ⟨fun q i k => g.1 q i (h.1 q i k), fun q k => (g.2 q k).trans (h.2 q k)⟩
theorem RcC.g {r : zg} {e np nc nw d : Nat} {s : Prop} {rm rm' : Nat → Nat} {S c S1 : Nat} (h : RcC r e np nc nw d s rm S c) (hg : RcG rm rm' S1) : RcC r e np nc nw d s rm' S c := fun ho => ⟨fun p hp => hg.1 _ _ ((h ho).1 p hp), fun hm c' l he => hg.1 _ _ ((h ho).2 hm c' l he)⟩
theorem RcG.p {rm : Nat → Nat} {S q x : Nat} (hq : S ≤ q) : RcG rm (u1 rm q (rm q ||| x)) S := ⟨fun k i h => by
  by_cases e : k = q
  · subst e; rw [u1_self, Nat.testBit_or, h]; rfl
  · rw [u1_na e]; exact h, fun k hk => u1_na (by omega)⟩
theorem RcS.p {r : zg} {e np nc nw d : Nat} {s : Prop} {S0 c0 : Nat} {rm : Nat → Nat} (h : RcS r e np nc nw d s S0 c0 rm) {q x : Nat} (hx : ∀ i, x.testBit i = true → Rch r e np nc nw d s S0 c0 q i) : RcS r e np nc nw d s S0 c0 (u1 rm q (rm q ||| x)) := fun S c hS hb => by
  by_cases e : S = q
  · subst e
    rw [u1_self, Nat.testBit_or, Bool.or_eq_true] at hb
    exact hb.elim (h S c hS) (hx c)
  · rw [u1_na e] at hb; exact h S c hS hb
theorem or256 {a b : Nat} (ha : a < 256) (hb : b < 256) : a ||| b < 256 := Nat.or_lt_two_pow (n := 8) ha hb
theorem p256 {c : Nat} (hc : c < 8) : 2 ^ c < 256 := (Nat.pow_lt_pow_right (by decide) hc : 2 ^ c < 2 ^ 8)
theorem bt256 {a c : Nat} (ha : a < 256) (h : a.testBit c = true) : c < 8 := by
  rcases Nat.lt_or_ge c 8 with q | q
  · exact q
  · rw [Nat.testBit_lt_two_pow (Nat.lt_of_lt_of_le ha (Nat.pow_le_pow_right (n := 2) (by decide) q))] at h; cases h
/-- one look: the new row -/
theorem look {r : zg} {e np nc nw d : Nat} {s : Prop} {S0 c0 : Nat} {rm nb : Nat → Nat} {st : Nat → Nat → Nat} {S c : Nat} (hP : NtP (edg r nc nw d s) st nb) (hnp : np ≤ 12) (hS : S < 2 ^ np) (hnc : nc ≤ 8) (hc : c < 8) (hs : RcS r e np nc nw d s S0 c0 rm) (hb : (rm S).testBit c = true) (ho : ¬ ovr r e (nI S) np) : (∀ p, nxS r e np d S c p → RcS r e np nc nw d s S0 c0 (u1 rm (S ||| 2 ^ p) (rm (S ||| 2 ^ p) ||| 2 ^ c)) ∧ RcG rm (u1 rm (S ||| 2 ^ p) (rm (S ||| 2 ^ p) ||| 2 ^ c)) S ∧ RcC r e np nc nw d s (u1 rm (S ||| 2 ^ p) (rm (S ||| 2 ^ p) ||| 2 ^ c)) S c) ∧ ((∀ q, q < np → ¬ canP r e (nI c) (nI S) d q) → RcS r e np nc nw d s S0 c0 (u1 rm S (rm S ||| nb c)) ∧ RcG rm (u1 rm S (rm S ||| nb c)) S ∧ RcC r e np nc nw d s (u1 rm S (rm S ||| nb c)) S c) := by
  have hR := hs S c hS hb
  constructor
  · intro p hp
    have hup := nx_up hp hnp hS
    refine ⟨hs.p (fun i hi => ?_), RcG.p (by omega), fun _ => ⟨fun p' hp' => ?_, fun hm => absurd hp.2.1 (hm.2 p hp.1)⟩⟩
    · rw [Nat.testBit_two_pow, decide_eq_true_eq] at hi
      rw [← hi]; exact (Rch.cl S c hR ho).1 p hp
    · rw [← nx_un hp hp', u1_self, Nat.testBit_or, Nat.testBit_two_pow_self, Bool.or_true]
  · intro hn
    have hm : mvS r e np d S c := ⟨ho, hn⟩
    obtain ⟨z1, z2, z3⟩ := hP c hc
    refine ⟨hs.p (fun i hi => ?_), RcG.p (Nat.le_refl _), fun _ => ⟨fun p hp => absurd hp.2.1 (hn p hp.1), fun _ c' l he => ?_⟩⟩
    · obtain ⟨l, hl⟩ := (z2 i (bt256 z1 hi)).mp hi
      exact (Rch.cl S c hR ho).2 hm i l hl
    · have h8 := he.1.2.2.2.1
      rw [u1_self, Nat.testBit_or, (z2 c' (by omega)).mpr ⟨l, he⟩, Bool.or_true]
