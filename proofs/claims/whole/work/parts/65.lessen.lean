/-- the least that steps from a to corners below j make of it -/
def LO (e : Nat → Nat → Nat → Prop) (v : Nat → Nat) (a x j : Nat) : Prop := x ≤ v a ∧ (∀ c l, c < j → e a c l → x ≤ l + v c) ∧ (x = v a ∨ ∃ c l, e a c l ∧ x = l + v c)
theorem LO.no {e : Nat → Nat → Nat → Prop} {v : Nat → Nat} {a x j : Nat} (h : LO e v a x j) (hn : ∀ l, ¬ e a j l) : LO e v a x (j + 1) := ⟨h.1, fun c l hc he => by
  rcases (show c < j ∨ c = j by omega) with k | k
  · exact h.2.1 c l k he
  · subst k; exact absurd he (hn l), h.2.2⟩
theorem LO.ye {e : Nat → Nat → Nat → Prop} {v : Nat → Nat} {a x j t : Nat} (h : LO e v a x j) (h1 : e a j t) (h2 : ∀ l, e a j l → t ≤ l) : LO e v a (min x (t + v j)) (j + 1) := by
  refine ⟨by have := h.1; omega, fun c l hc he => ?_, ?_⟩
  · rcases (show c < j ∨ c = j by omega) with k | k
    · have := h.2.1 c l k he; omega
    · subst k; have := h2 l he; omega
  · rcases Nat.le_total x (t + v j) with k | k
    · rw [Nat.min_eq_left k]; exact h.2.2
    · rw [Nat.min_eq_right k]; exact Or.inr ⟨j, t, h1, rfl⟩
/-- the times from the base on -/
def Rw (I : zI) (ta bs : Nat) (dom : Nat → Prop) (v : Nat → Nat) : Prop := ∀ c, dom c → c < 8 ∧ I ta (bs + c) = nI (v c) ∧ v c ≤ NEVn
theorem Rw.p {I : zI} {ta bs : Nat} {dom : Nat → Prop} {v : Nat → Nat} (h : Rw I ta bs dom v) {a x : Nat} (hx : x ≤ NEVn) : Rw (u2 I ta (bs + a) (nI x)) ta bs dom (u1 v a x) := fun c hc => by
  obtain ⟨h1, h2, h3⟩ := h c hc
  by_cases e : c = a
  · subst e; rw [u2_self, u1_self]; exact ⟨h1, rfl, hx⟩
  · rw [u2_ni (by omega), u1_na e]; exact ⟨h1, h2, h3⟩
def loQ (e : Nat → Nat → Nat → Prop) (v : Nat → Nat) (ta bs a : Nat) (T : zT) (N : zN) (P : zP) (I : zI) (R : zR) : Option Value → zT → zN → zP → zI → zR → Prop := fun y T' N' P' I' R' => ∃ x, LO e v a x 8 ∧ y = some (.int (zb (x < v a))) ∧ T = T' ∧ N = N' ∧ P = P' ∧ u2 I ta (bs + a) (nI x) = I' ∧ R = R'
theorem c_X1_step {E : zE} {T : zT} {N : zN} {P : zP} {I : zI} {R : zR} (n sa a c x : Nat) (hn : (T n).1 = 11) (hsa : P 1 0 n = some sa) (hs : T sa = (1, 64)) (ha : a < 8) (hc : c < 8) (hx : I sa (8 * a + c) = nI x) : zC E yX1_step cX1_step 3 (some .int) (zr0 0 0) [.ref n, .int (nI a), .int (nI c)] T N P I R (zp (nI x) T N P I R) := by
  refine zC.intro (ls := [some (.ref n), some (.int (nI a)), some (.int (nI c))]) pl_RX1 (zle rfl) 0 rfl (fun K => ?_)
  refine v_aload_0 dX1_step_0 rfl ?_
  refine v_getP fl_1_9 (by assumption) (by assumption) rfl (zle rfl) rfl dX1_step_1 rfl ?_
  refine v_iload_1 dX1_step_4 rfl ?_
  refine v_bipush (v := 8) dX1_step_5 rfl rfl ?_
  refine v_imul dX1_step_7 rfl ?_
  refine v_iload_2 dX1_step_8 rfl ?_
  refine v_iadd dX1_step_9 rfl ?_
  refine v_iald (j := 8 * a + c) hs (i8r a c) (by omega) (zle rfl) dX1_step_10 rfl ?_
  refine v_top hx ?_
  exact v_ireturn rfl (zp.rf) (zle rfl) (zle rfl) dX1_step_11
theorem lp_X1_lessenOne {E : zE} {T : zT} {N : zN} {P : zP} {I : zI} {R : zR} {n sa na ta bs len a : Nat} {e : Nat → Nat → Nat → Prop} {st : Nat → Nat → Nat} {nb : Nat → Nat} {dom : Nat → Prop} {v : Nat → Nat} {K : zK E yX1_lessenOne cX1_lessenOne 6 (some .boolean) (zr0 1 22)} (hn : (T n).1 = 11) (hsa : P 1 0 n = some sa) (hna : P 1 1 n = some na) (hs : T sa = (1, 64)) (ht : T na = (1, 8)) (hta : T ta = (1, len)) (hlen : len ≤ 2 ^ 16) (hbs : bs + 8 ≤ len) (hP : NtP e st nb) (hR : NtR I sa na st nb) (hel : ∀ a c l, e a c l → l ≤ 20) (ha : a < 8) (hda : dom a) (hdc : ∀ c l, e a c l → dom c) (hv : Rw I ta bs dom v) : ∀ k j x, j + k = 8 → LO e v a x j → V K (zQf K (loQ e v ta bs a T N P I R)) T N P I R 0 0 10 [some (.ref n), some (.ref ta), some (.int (nI bs)), some (.int (nI a)), some (.int (nI x)), some (.int (nI j))] [] := by
  have hN := NEV_le
  obtain ⟨a1, a2, a3⟩ := hv a hda
  intro k
  induction k with
  | zero =>
    intro j x hj hL
    obtain rfl : j = 8 := by omega
    have hL1 := hL.1
    refine v_iload_5 dX1_lessenOne_10 rfl ?_
    refine v_bipush (v := 8) dX1_lessenOne_12 rfl rfl ?_
    refine v_icmp_ge_t (n := 58) (by decide) dX1_lessenOne_14 (by decide) ?_
    refine v_iload_4 dX1_lessenOne_58 rfl ?_
    refine v_aload_1 dX1_lessenOne_60 rfl ?_
    refine v_iload_2 dX1_lessenOne_61 rfl ?_
    refine v_iload_3 dX1_lessenOne_62 rfl ?_
    refine v_iadd dX1_lessenOne_63 rfl ?_
    refine v_iald (j := bs + a) hta (nI_add bs a) (by omega) (by omega) dX1_lessenOne_64 rfl ?_
    refine v_top a2 ?_
    by_cases hlt : x < v a
    · refine v_icmp_ge_f (tgt := 72) (nI_ge (a := x) (b := v a) hlt (by omega)) dX1_lessenOne_65 (by decide) rfl ?_
      refine v_iconst (v := 1) dX1_lessenOne_68 rfl rfl ?_
      refine v_goto (n := 73) dX1_lessenOne_69 (by decide) ?_
      refine v_istore_5 dX1_lessenOne_73 rfl (zle rfl) rfl ?_
      refine v_aload_1 dX1_lessenOne_75 rfl ?_
      refine v_iload_2 dX1_lessenOne_76 rfl ?_
      refine v_iload_3 dX1_lessenOne_77 rfl ?_
      refine v_iadd dX1_lessenOne_78 rfl ?_
      refine v_iload_4 dX1_lessenOne_79 rfl ?_
      refine v_iast (j := bs + a) hta (nI_add bs a) (by omega) (by omega) dX1_lessenOne_81 rfl ?_
      refine v_iload_5 dX1_lessenOne_82 rfl ?_
      exact v_zreturn rfl rfl (⟨x, hL, by rw [zb_t hlt], rfl, rfl, rfl, rfl, rfl⟩) (zle rfl) (zle rfl) dX1_lessenOne_84
    · refine v_icmp_ge_t (n := 72) (nI_le (a := v a) (b := x) (by omega) (by omega)) dX1_lessenOne_65 (by decide) ?_
      refine v_iconst (v := 0) dX1_lessenOne_72 rfl rfl ?_
      refine v_istore_5 dX1_lessenOne_73 rfl (zle rfl) rfl ?_
      refine v_aload_1 dX1_lessenOne_75 rfl ?_
      refine v_iload_2 dX1_lessenOne_76 rfl ?_
      refine v_iload_3 dX1_lessenOne_77 rfl ?_
      refine v_iadd dX1_lessenOne_78 rfl ?_
      refine v_iload_4 dX1_lessenOne_79 rfl ?_
      refine v_iast (j := bs + a) hta (nI_add bs a) (by omega) (by omega) dX1_lessenOne_81 rfl ?_
      refine v_iload_5 dX1_lessenOne_82 rfl ?_
      exact v_zreturn rfl rfl (⟨x, hL, by rw [zb_f hlt], rfl, rfl, rfl, rfl, rfl⟩) (zle rfl) (zle rfl) dX1_lessenOne_84
  | succ k ih =>
    intro j x hj hL
    have hL1 := hL.1
    obtain ⟨z1, z2, z3⟩ := hP a ha
    refine v_iload_5 dX1_lessenOne_10 rfl ?_
    refine v_bipush (v := 8) dX1_lessenOne_12 rfl rfl ?_
    refine v_icmp_ge_f (tgt := 58) (nI_ge (a := j) (b := 8) (by omega) (by decide)) dX1_lessenOne_14 (by decide) rfl ?_
    refine v_aload_0 dX1_lessenOne_17 rfl ?_
    refine v_getP fl_1_15 (by assumption) (by assumption) rfl (zle rfl) rfl dX1_lessenOne_18 rfl ?_
    refine v_iload_3 dX1_lessenOne_21 rfl ?_
    refine v_iald (j := a) ht rfl (by omega) (zle rfl) dX1_lessenOne_22 rfl ?_
    refine v_top (hR a ha).1 ?_
    refine v_iload_5 dX1_lessenOne_23 rfl ?_
    refine v_callS (c_X10_has (nI (nb a)) j (by omega)) yy_X10_has st_X10_has lk_1_60 (zle rfl) (zle rfl) (zle rfl) (zle rfl) rfl rfl (zle rfl) dX1_lessenOne_25 rfl (zp.use ?_)
    refine v_top (zb_iff (q := ∃ l, e a j l) (by rw [bt_nI (by omega)]; exact z2 j (by omega))) ?_
    refine v_ifz_eq (tgt := 52) dX1_lessenOne_28 (by decide) rfl (fun c28 => ?_) (fun c28 => ?_)
    · refine v_iinc_5 dX1_lessenOne_52 (nI_1 j) rfl (zle rfl) rfl ?_
      refine v_goto (n := 10) dX1_lessenOne_55 (by decide) ?_
      exact ih (j + 1) x (by omega) (hL.no (fun l h => c28 ⟨l, h⟩))
    · have hdj : dom j := c28.elim (fun l h => hdc j l h)
      obtain ⟨b1, b2, b3⟩ := hv j hdj
      obtain ⟨y1, y2⟩ : e a j (st a j) ∧ ∀ l, e a j l → st a j ≤ l := (z3 j (by omega)).elim (fun h => absurd c28 (fun ⟨l, hl⟩ => h.1 l hl)) id
      have y3 := hel _ _ _ y1
      refine v_iload_4 dX1_lessenOne_31 rfl ?_
      refine v_aload_0 dX1_lessenOne_33 rfl ?_
      refine v_iload_3 dX1_lessenOne_34 rfl ?_
      refine v_iload_5 dX1_lessenOne_35 rfl ?_
      refine v_callV (ci := 1) (F := TX1) (c_X1_step n sa a j (st a j) hn hsa hs ha (by omega) ((hR a ha).2 j (by omega))) yy_X1_step im_X1_step se_X1_step lk_1_68 hn (zle rfl) rfl (zle rfl) (zle rfl) (zle rfl) (zle rfl) rfl rfl (zle rfl) dX1_lessenOne_37 rfl (zp.use ?_)
      refine v_aload_1 dX1_lessenOne_40 rfl ?_
      refine v_iload_2 dX1_lessenOne_41 rfl ?_
      refine v_iload_5 dX1_lessenOne_42 rfl ?_
      refine v_iadd dX1_lessenOne_44 rfl ?_
      refine v_iald (j := bs + j) hta (nI_add bs j) (by omega) (by omega) dX1_lessenOne_45 rfl ?_
      refine v_top b2 ?_
      refine v_iadd dX1_lessenOne_46 rfl ?_
      refine v_top (nI_add _ _) ?_
      refine v_min lk_1_54 st_min ii_math cd_min (zle rfl) (zle rfl) (zle rfl) (zle rfl) dX1_lessenOne_47 rfl ?_
      refine v_top (nI_min (by omega) (by omega)) ?_
      refine v_istore_4 dX1_lessenOne_50 rfl (zle rfl) rfl ?_
      refine v_iinc_5 dX1_lessenOne_52 (nI_1 j) rfl (zle rfl) rfl ?_
      refine v_goto (n := 10) dX1_lessenOne_55 (by decide) ?_
      exact ih (j + 1) _ (by omega) (hL.ye y1 y2)
theorem c_X1_lessenOne {E : zE} {T : zT} {N : zN} {P : zP} {I : zI} {R : zR} (n sa na ta bs len a : Nat) (e : Nat → Nat → Nat → Prop) (st : Nat → Nat → Nat) (nb : Nat → Nat) (dom : Nat → Prop) (v : Nat → Nat)  (hn : (T n).1 = 11) (hsa : P 1 0 n = some sa) (hna : P 1 1 n = some na) (hs : T sa = (1, 64)) (ht : T na = (1, 8)) (hta : T ta = (1, len)) (hlen : len ≤ 2 ^ 16) (hbs : bs + 8 ≤ len) (hP : NtP e st nb) (hR : NtR I sa na st nb) (hel : ∀ a c l, e a c l → l ≤ 20) (ha : a < 8) (hda : dom a) (hdc : ∀ c l, e a c l → dom c) (hv : Rw I ta bs dom v) : zC E yX1_lessenOne cX1_lessenOne 6 (some .boolean) (zr0 1 22) [.ref n, .ref ta, .int (nI bs), .int (nI a)] T N P I R (loQ e v ta bs a T N P I R) := by
  refine zC.intro (ls := [some (.ref n), some (.ref ta), some (.int (nI bs)), some (.int (nI a)), none, none]) pl_RX1 (zle rfl) 2 rfl (fun K => ?_)
  refine v_aload_1 dX1_lessenOne_0 rfl ?_
  refine v_iload_2 dX1_lessenOne_1 rfl ?_
  refine v_iload_3 dX1_lessenOne_2 rfl ?_
  refine v_iadd dX1_lessenOne_3 rfl ?_
  refine v_iald (j := bs + a) hta (nI_add bs a) (by omega) (by omega) dX1_lessenOne_4 rfl ?_
  refine v_top (hv a hda).2.1 ?_
  refine v_istore_4 dX1_lessenOne_5 rfl (zle rfl) rfl ?_
  refine v_iconst (v := 0) dX1_lessenOne_7 rfl rfl ?_
  refine v_istore_5 dX1_lessenOne_8 rfl (zle rfl) rfl ?_
  exact lp_X1_lessenOne hn hsa hna hs ht hta hlen hbs hP hR hel ha hda hdc hv 8 0 (v a) (by omega) ⟨Nat.le_refl _, fun c l hc => absurd hc (Nat.not_lt_zero c), Or.inl rfl⟩
/-- what a part of a round has done -/
def RA2 (e : Nat → Nat → Nat → Prop) (mv dom : Nat → Prop) (w v0 v : Nat → Nat) (n : Nat) : Prop := (∀ c, dom c → w c ≤ v c ∧ v c ≤ v0 c) ∧ ∀ c, c < n → dom c → mv c → ∀ c' l, e c c' l → v c ≤ l + v0 c'
theorem RA2.no {e : Nat → Nat → Nat → Prop} {mv dom : Nat → Prop} {w v0 v : Nat → Nat} {n : Nat} (h : RA2 e mv dom w v0 v n) (hn : ¬ (dom n ∧ mv n)) : RA2 e mv dom w v0 v (n + 1) := ⟨h.1, fun c hc hd hm => by
  rcases (show c < n ∨ c = n by omega) with k | k
  · exact h.2 c k hd hm
  · subst k; exact absurd ⟨hd, hm⟩ hn⟩
theorem RA2.ye {e : Nat → Nat → Nat → Prop} {mv dom : Nat → Prop} {K : Nat} {w v0 v : Nat → Nat} {n x : Nat} (h : RA2 e mv dom w v0 v n) (hE : Eg e mv dom) (hw : Sol e mv dom K w) (hd : dom n) (hm : mv n) (hx : LO e v n x 8) : RA2 e mv dom w v0 (u1 v n x) (n + 1) := by
  have hxw : w n ≤ x := by
    rcases hx.2.2 with g | ⟨c, l, g1, g2⟩
    · rw [g]; exact (h.1 n hd).1
    · have a1 := (hw n hd hm).2.1 c l g1
      have a2 := (h.1 c (hE.2 n c l hd hm g1)).1
      omega
  refine ⟨fun c hc => ?_, fun c hcn hdc hmc c' l hl => ?_⟩
  · by_cases e : c = n
    · subst e; rw [u1_self]; exact ⟨hxw, Nat.le_trans hx.1 (h.1 c hc).2⟩
    · rw [u1_na e]; exact h.1 c hc
  · by_cases e : c = n
    · subst e
      rw [u1_self]
      have b1 := hx.2.1 c' l (hE.1 c c' l hl).2.2.2 hl
      have b2 := (h.1 c' (hE.2 c c' l hd hm hl)).2
      omega
    · rw [u1_na e]; exact h.2 c (by omega) hdc hmc c' l hl
theorem NtR.mv {I I1 : zI} {sa na ta bs : Nat} {st : Nat → Nat → Nat} {nb : Nat → Nat} (h : NtR I sa na st nb) (n1 : ta ≠ sa) (n2 : ta ≠ na) (hF : (∀ a j, ¬ (a = ta ∧ bs ≤ j ∧ j < bs + 8) → I1 a j = I a j)) : NtR I1 sa na st nb := fun a ha => ⟨by rw [hF na a (fun h => n2 h.1.symm)]; exact (h a ha).1, fun c hc => by rw [hF sa _ (fun h => n1 h.1.symm)]; exact (h a ha).2 c hc⟩
theorem il_X1_lessen {E : zE} {T : zT} {N : zN} {P : zP} {I : zI} {R : zR} {n sa na ta bs len : Nat} {e : Nat → Nat → Nat → Prop} {st : Nat → Nat → Nat} {nb : Nat → Nat} {dom mv : Nat → Prop} {w : Nat → Nat} {M : Int32} {Qf : State → Prop} {v0 : Nat → Nat} {j5 : Int32} {K : zK E yX1_lessen cX1_lessen 7 none (zr0 2 47)} (hn : (T n).1 = 11) (hsa : P 1 0 n = some sa) (hna : P 1 1 n = some na) (hs : T sa = (1, 64)) (ht : T na = (1, 8)) (hta : T ta = (1, len)) (hlen : len ≤ 2 ^ 16) (hbs : bs + 8 ≤ len) (n1 : ta ≠ sa) (n2 : ta ≠ na) (hP : NtP e st nb) (hR : NtR I sa na st nb) (hE : Eg e mv dom) (hM : ∀ c, c < 8 → (bt M c = true ↔ dom c ∧ mv c)) (hw : Sol e mv dom NEVn w) : ∀ h i (I1 : zI) (v1 : Nat → Nat) (fl : Int32), i + h = 8 → (∀ a j, ¬ (a = ta ∧ bs ≤ j ∧ j < bs + 8) → I1 a j = I a j) → Rw I1 ta bs dom v1 → RA2 e mv dom w v0 v1 i → ((fl = 0 ∧ ∀ c, dom c → v1 c = v0 c) ∨ fl = 1) → (∀ (I1 : zI) (v1 : Nat → Nat) (fl : Int32) (i : Nat), (∀ a j, ¬ (a = ta ∧ bs ≤ j ∧ j < bs + 8) → I1 a j = I a j) → Rw I1 ta bs dom v1 → RA2 e mv dom w v0 v1 8 → ((fl = 0 ∧ ∀ c, dom c → v1 c = v0 c) ∨ fl = 1) → V K Qf T N P I1 R 0 0 68 [some (.ref n), some (.ref ta), some (.int (nI bs)), some (.int M), some (.int fl), some (.int j5), some (.int (nI i))] []) → V K Qf T N P I1 R 0 0 32 [some (.ref n), some (.ref ta), some (.int (nI bs)), some (.int M), some (.int fl), some (.int j5), some (.int (nI i))] [] := by
  intro h
  induction h with
  | zero =>
    intro i I1 v1 fl hi hF hv hA hf kk
    obtain rfl : i = 8 := by omega
    refine v_iload_6 dX1_lessen_32 rfl ?_
    refine v_bipush (v := 8) dX1_lessen_34 rfl rfl ?_
    refine v_icmp_ge_t (n := 68) (by decide) dX1_lessen_36 (by decide) ?_
    exact kk I1 v1 fl 8 hF hv hA hf
  | succ h ih =>
    intro i I1 v1 fl hi hF hv hA hf kk
    refine v_iload_6 dX1_lessen_32 rfl ?_
    refine v_bipush (v := 8) dX1_lessen_34 rfl rfl ?_
    refine v_icmp_ge_f (tgt := 68) (nI_ge (a := i) (b := 8) (by omega) (by decide)) dX1_lessen_36 (by decide) rfl ?_
    refine v_iload_3 dX1_lessen_39 rfl ?_
    refine v_iload_6 dX1_lessen_40 rfl ?_
    refine v_callS (c_X10_has M i (by omega)) yy_X10_has st_X10_has lk_1_60 (zle rfl) (zle rfl) (zle rfl) (zle rfl) rfl rfl (zle rfl) dX1_lessen_42 rfl (zp.use ?_)
    refine v_top (zb_iff (hM i (by omega))) ?_
    refine v_ifz_eq (tgt := 62) dX1_lessen_45 (by decide) rfl (fun c45 => ?_) (fun c45 => ?_)
    · refine v_iinc_6 dX1_lessen_62 (nI_1 i) rfl (zle rfl) rfl ?_
      refine v_goto (n := 32) dX1_lessen_65 (by decide) ?_
      exact ih (i + 1) I1 v1 fl (by omega) hF hv (hA.no c45) hf kk
    · refine v_aload_0 dX1_lessen_48 rfl ?_
      refine v_aload_1 dX1_lessen_49 rfl ?_
      refine v_iload_2 dX1_lessen_50 rfl ?_
      refine v_iload_6 dX1_lessen_51 rfl ?_
      refine v_callV (ci := 1) (F := TX1) (c_X1_lessenOne (I := I1) n sa na ta bs len i e st nb dom v1 hn hsa hna hs ht hta hlen hbs hP (hR.mv n1 n2 hF) (fun a c l h => (hE.1 a c l h).2.1) (by omega) c45.1 (fun c l h => hE.2 i c l c45.1 c45.2 h) hv) yy_X1_lessenOne im_X1_lessenOne se_X1_lessenOne lk_1_64 hn (zle rfl) rfl (zle rfl) (zle rfl) (zle rfl) (zle rfl) rfl rfl (zle rfl) dX1_lessen_53 rfl (fun y T2 N2 P2 I2 R2 hq => ?_)
      obtain ⟨x, hx, rfl, rfl, rfl, rfl, rfl, rfl⟩ := hq
      have hx2 : x ≤ NEVn := Nat.le_trans hx.1 (hv i c45.1).2.2
      refine v_ifz_eq (tgt := 62) dX1_lessen_56 (by decide) rfl (fun c56 => ?_) (fun c56 => ?_)
      · refine v_iinc_6 dX1_lessen_62 (nI_1 i) rfl (zle rfl) rfl ?_
        refine v_goto (n := 32) dX1_lessen_65 (by decide) ?_
        exact ih (i + 1) _ (u1 v1 i x) fl (by omega) (fun a j hj => by
          rw [show u2 I1 ta (bs + i) (nI x) a j = I1 a j from by unfold u2; rw [if_neg (fun e => hj ⟨e.1, by omega, by omega⟩)]]; exact hF a j hj) (hv.p hx2) (hA.ye hE hw c45.1 c45.2 hx) (hf.elim (fun g => Or.inl ⟨g.1, fun c hc => by
          by_cases e : c = i
          · subst e; rw [u1_self, ← g.2 c hc]; have := hx.1; omega
          · rw [u1_na e]; exact g.2 c hc⟩) Or.inr) kk
      · refine v_iconst (v := 1) dX1_lessen_59 rfl rfl ?_
        refine v_istore_4 dX1_lessen_60 rfl (zle rfl) rfl ?_
        refine v_iinc_6 dX1_lessen_62 (nI_1 i) rfl (zle rfl) rfl ?_
        refine v_goto (n := 32) dX1_lessen_65 (by decide) ?_
        exact ih (i + 1) _ (u1 v1 i x) 1 (by omega) (fun a j hj => by
          rw [show u2 I1 ta (bs + i) (nI x) a j = I1 a j from by unfold u2; rw [if_neg (fun e => hj ⟨e.1, by omega, by omega⟩)]]; exact hF a j hj) (hv.p hx2) (hA.ye hE hw c45.1 c45.2 hx) (Or.inr rfl) kk
def leQ (ta bs : Nat) (dom : Nat → Prop) (w : Nat → Nat) (T : zT) (N : zN) (P : zP) (I : zI) (R : zR) : Option Value → zT → zN → zP → zI → zR → Prop := fun y T' N' P' I1 R' => y = none ∧ T = T' ∧ N = N' ∧ P = P' ∧ R = R' ∧ (∀ a j, ¬ (a = ta ∧ bs ≤ j ∧ j < bs + 8) → I1 a j = I a j) ∧ Rw I1 ta bs dom w
theorem ol_X1_lessen {E : zE} {T : zT} {N : zN} {P : zP} {I : zI} {R : zR} {n sa na ta bs len : Nat} {e : Nat → Nat → Nat → Prop} {st : Nat → Nat → Nat} {nb : Nat → Nat} {dom mv : Nat → Prop} {w : Nat → Nat} {M : Int32} {K : zK E yX1_lessen cX1_lessen 7 none (zr0 2 47)} (hn : (T n).1 = 11) (hsa : P 1 0 n = some sa) (hna : P 1 1 n = some na) (hs : T sa = (1, 64)) (ht : T na = (1, 8)) (hta : T ta = (1, len)) (hlen : len ≤ 2 ^ 16) (hbs : bs + 8 ≤ len) (n1 : ta ≠ sa) (n2 : ta ≠ na) (hP : NtP e st nb) (hR : NtR I sa na st nb) (hE : Eg e mv dom) (hM : ∀ c, c < 8 → (bt M c = true ↔ dom c ∧ mv c)) (hw : Sol e mv dom NEVn w) (hd8 : ∀ c, dom c → c < 8) : ∀ k j (I1 : zI) (v1 : Nat → Nat) (fl : Int32) (o6 : Option Value), j + k = 8 → (∀ a j, ¬ (a = ta ∧ bs ≤ j ∧ j < bs + 8) → I1 a j = I a j) → Rw I1 ta bs dom v1 → (∀ c, dom c → w c ≤ v1 c ∧ (mv c → v1 c ≤ NEVn) ∧ (¬ mv c → v1 c = w c)) → (cnp (fun c => dom c ∧ v1 c ≠ w c) 8 + j ≤ 8 ∨ ∀ c, dom c → v1 c = w c) → ((fl = 0 ∧ ∀ c, dom c → v1 c = w c) ∨ fl = 1) → V K (zQf K (leQ ta bs dom w T N P I R)) T N P I1 R 0 0 14 [some (.ref n), some (.ref ta), some (.int (nI bs)), some (.int M), some (.int fl), some (.int (nI j)), o6] [] := by
  intro k
  induction k with
  | zero =>
    intro j I1 v1 fl o6 hj hF hv hB hc hf
    obtain rfl : j = 8 := by omega
    have hall : ∀ c, dom c → v1 c = w c := hc.elim (fun g c hd => Classical.byContradiction fun h => cnp_0 (p := fun c => dom c ∧ v1 c ≠ w c) 8 (by omega) c (hd8 c hd) ⟨hd, h⟩) id
    refine v_iload_5 dX1_lessen_14 rfl ?_
    refine v_bipush (v := 8) dX1_lessen_16 rfl rfl ?_
    refine v_icmp_ge_t (n := 74) (by decide) dX1_lessen_18 (by decide) ?_
    exact v_return rfl (⟨rfl, rfl, rfl, rfl, rfl, hF, fun c hc => by rw [← hall c hc]; exact hv c hc⟩) (zle rfl) (zle rfl) dX1_lessen_74
  | succ k ih =>
    intro j I1 v1 fl o6 hj hF hv hB hc hf
    refine v_iload_5 dX1_lessen_14 rfl ?_
    refine v_bipush (v := 8) dX1_lessen_16 rfl rfl ?_
    refine v_icmp_ge_f (tgt := 74) (nI_ge (a := j) (b := 8) (by omega) (by decide)) dX1_lessen_18 (by decide) rfl ?_
    refine v_iload_4 dX1_lessen_21 rfl ?_
    rcases hf with ⟨rfl, hall⟩ | rfl
    · refine v_if_eq_t (n := 74) rfl dX1_lessen_23 (by decide) ?_
      exact v_return rfl (⟨rfl, rfl, rfl, rfl, rfl, hF, fun c hc => by rw [← hall c hc]; exact hv c hc⟩) (zle rfl) (zle rfl) dX1_lessen_74
    · refine v_if_eq_f (tgt := 74) (by decide) dX1_lessen_23 (by decide) rfl ?_
      refine v_iconst (v := 0) dX1_lessen_26 rfl rfl ?_
      refine v_istore_4 dX1_lessen_27 rfl (zle rfl) rfl ?_
      refine v_iconst (v := 0) dX1_lessen_29 rfl rfl ?_
      refine v_istore_6 dX1_lessen_30 rfl (zle rfl) rfl ?_
      refine il_X1_lessen (v0 := v1) hn hsa hna hs ht hta hlen hbs n1 n2 hP hR hE hM hw 8 0 I1 v1 0 (by omega) hF hv ⟨fun c hc => ⟨(hB c hc).1, Nat.le_refl _⟩, fun c hc => absurd hc (Nat.not_lt_zero c)⟩ (Or.inl ⟨rfl, fun _ _ => rfl⟩) (fun I2 v2 fl i hF2 hv2 hA hf2 => ?_)
      refine v_iinc_5 (b := nI (j + 1)) dX1_lessen_68 (nI_1 j) rfl (zle rfl) rfl ?_
      refine v_goto (n := 14) dX1_lessen_71 (by decide) ?_
      have hr := rnd hE hw hd8 hB hA.1 (fun c c' l hd hm he => hA.2 c (hd8 c hd) hd hm c' l he)
      refine ih (j + 1) I2 v2 fl _ (by omega) hF2 hv2 (fun c hd => ⟨(hA.1 c hd).1, fun hm => Nat.le_trans (hA.1 c hd).2 ((hB c hd).2.1 hm), fun hm => Nat.le_antisymm (Nat.le_trans (hA.1 c hd).2 (Nat.le_of_eq ((hB c hd).2.2 hm))) (hA.1 c hd).1⟩) ?_ ?_
      · rcases hr with g | g
        · rcases hc with q | q
          · left; omega
          · right
            intro c hd
            have a1 := hA.1 c hd
            have a2 := q c hd
            omega
        · exact Or.inr g
      · rcases hf2 with ⟨g1, g2⟩ | g
        · left
          refine ⟨g1, ?_⟩
          rcases hr with q | q
          · have := cnp_congr (p := fun c => dom c ∧ v2 c ≠ w c) (q := fun c => dom c ∧ v1 c ≠ w c) 8 (fun c _ => ⟨fun h => ⟨h.1, by rw [← g2 c h.1]; exact h.2⟩, fun h => ⟨h.1, by rw [g2 c h.1]; exact h.2⟩⟩)
            omega
          · exact q
        · exact Or.inr g
theorem c_X1_lessen {E : zE} {T : zT} {N : zN} {P : zP} {I : zI} {R : zR} (n sa na ta bs len : Nat) (e : Nat → Nat → Nat → Prop) (st : Nat → Nat → Nat) (nb : Nat → Nat) (dom mv : Nat → Prop) (w v : Nat → Nat) (M : Int32)  (hn : (T n).1 = 11) (hsa : P 1 0 n = some sa) (hna : P 1 1 n = some na) (hs : T sa = (1, 64)) (ht : T na = (1, 8)) (hta : T ta = (1, len)) (hlen : len ≤ 2 ^ 16) (hbs : bs + 8 ≤ len) (n1 : ta ≠ sa) (n2 : ta ≠ na) (hP : NtP e st nb) (hR : NtR I sa na st nb) (hE : Eg e mv dom) (hM : ∀ c, c < 8 → (bt M c = true ↔ dom c ∧ mv c)) (hw : Sol e mv dom NEVn w) (hd8 : ∀ c, dom c → c < 8) (hv : Rw I ta bs dom v) (hB : ∀ c, dom c → w c ≤ v c ∧ (mv c → v c ≤ NEVn) ∧ (¬ mv c → v c = w c)) : zC E yX1_lessen cX1_lessen 7 none (zr0 2 47) [.ref n, .ref ta, .int (nI bs), .int M] T N P I R (leQ ta bs dom w T N P I R) := by
  refine zC.intro (ls := [some (.ref n), some (.ref ta), some (.int (nI bs)), some (.int M), none, none, none]) pl_RX1 (zle rfl) 3 rfl (fun K => ?_)
  refine v_iload_3 dX1_lessen_0 rfl ?_
  have hc0 : cnp (fun c => dom c ∧ v c ≠ w c) 8 + 0 ≤ 8 ∨ ∀ c, dom c → v c = w c := Or.inl (cnp_le _ 8)
  by_cases h0 : M = 0
  · refine v_if_eq_t (n := 8) h0 dX1_lessen_1 (by decide) ?_
    refine v_iconst (v := 0) dX1_lessen_8 rfl rfl ?_
    refine v_istore_4 dX1_lessen_9 rfl (zle rfl) rfl ?_
    refine v_iconst (v := 0) dX1_lessen_11 rfl rfl ?_
    refine v_istore_5 dX1_lessen_12 rfl (zle rfl) rfl ?_
    exact ol_X1_lessen hn hsa hna hs ht hta hlen hbs n1 n2 hP hR hE hM hw hd8 8 0 I v 0 _ (by omega) (fun _ _ _ => rfl) hv hB hc0 (Or.inl ⟨rfl, fun c hd => (hB c hd).2.2 (fun hm => by have := (hM c (hd8 c hd)).mpr ⟨hd, hm⟩; rw [h0, b_0] at this; cases this)⟩)
  · refine v_if_eq_f (tgt := 8) h0 dX1_lessen_1 (by decide) rfl ?_
    refine v_iconst (v := 1) dX1_lessen_4 rfl rfl ?_
    refine v_goto (n := 9) dX1_lessen_5 (by decide) ?_
    refine v_istore_4 dX1_lessen_9 rfl (zle rfl) rfl ?_
    refine v_iconst (v := 0) dX1_lessen_11 rfl rfl ?_
    refine v_istore_5 dX1_lessen_12 rfl (zle rfl) rfl ?_
    exact ol_X1_lessen hn hsa hna hs ht hta hlen hbs n1 n2 hP hR hE hM hw hd8 8 0 I v 1 _ (by omega) (fun _ _ _ => rfl) hv hB hc0 (Or.inr rfl)
