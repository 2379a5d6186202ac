theorem urz0 {I : zI} {a : Nat} {g : Nat → Int32} : ur I a 0 0 g = I := by
  funext b j
  unfold ur
  rw [if_neg (by omega)]
theorem ur_1 {I : zI} {a k : Nat} {v : Int32} : u2 (ur I a 0 k (fun _ => v)) a k v = ur I a 0 (k + 1) (fun _ => v) := by
  funext b j
  unfold ur u2
  by_cases h : b = a ∧ j = k
  · rw [if_pos h, if_pos (by omega)]
  · rw [if_neg h]
    show (if b = a ∧ 0 ≤ j ∧ j < 0 + k then v else I b j) = (if b = a ∧ 0 ≤ j ∧ j < 0 + (k + 1) then v else I b j)
    by_cases h2 : b = a ∧ 0 ≤ j ∧ j < 0 + k
    · rw [if_pos h2, if_pos (by omega)]
    · rw [if_neg h2, if_neg (by omega)]
theorem ur_i {I : zI} {a k j : Nat} {v : Int32} (h : j < k) : ur I a 0 k (fun _ => v) a j = v := by
  unfold ur
  rw [if_pos (by omega)]
theorem ur_na {I : zI} {a b k : Nat} {g : Nat → Int32} (h : b ≠ a) : ur I a 0 k g b = I b := by
  funext j
  unfold ur
  rw [if_neg (fun e => h e.1)]
theorem i8r (a c : Nat) : nI a * 8 + nI c = nI (8 * a + c) := by rw [Int32.mul_comm]; exact i8 a c
theorem lp_J7_fill {E : zE} {T : zT} {N : zN} {P : zP} {I : zI} {R : zR} {a len : Nat} {v : Int32} {K : zK E yJ7_fill_53178 cJ7_fill_53178 4 none (zr0 0 0)} (hT : T a = (1, len)) (hl : len ≤ 2 ^ 16) : ∀ k j, j + k = len → V K (zQf K (zv T N P (ur I a 0 len (fun _ => v)) R)) T N P (ur I a 0 j (fun _ => v)) R 0 0 5 [some (.ref a), some (.int v), some (.int (nI j)), some (.int (nI len))] [] := by
  intro k
  induction k with
  | zero =>
    intro j hj
    obtain rfl : j = len := by omega
    refine v_iload_2 dJ7_fill_53178_5 rfl ?_
    refine v_iload_3 dJ7_fill_53178_6 rfl ?_
    refine v_icmp_ge_t (n := 20) (nI_le (a := j) (b := j) (by omega) (by omega)) dJ7_fill_53178_7 (by decide) ?_
    exact v_return rfl (zv.rf) (zle rfl) (zle rfl) dJ7_fill_53178_20
  | succ k ih =>
    intro j hj
    refine v_iload_2 dJ7_fill_53178_5 rfl ?_
    refine v_iload_3 dJ7_fill_53178_6 rfl ?_
    refine v_icmp_ge_f (tgt := 20) (nI_ge (a := j) (b := len) (by omega) (by omega)) dJ7_fill_53178_7 (by decide) rfl ?_
    refine v_aload_0 dJ7_fill_53178_10 rfl ?_
    refine v_iload_2 dJ7_fill_53178_11 rfl ?_
    refine v_iload_1 dJ7_fill_53178_12 rfl ?_
    refine v_iast (j := j) hT rfl (by omega) (by omega) dJ7_fill_53178_13 rfl ?_
    rw [ur_1]
    refine v_iinc_2 dJ7_fill_53178_14 (nI_1 j) rfl (zle rfl) rfl ?_
    refine v_goto (n := 5) dJ7_fill_53178_17 (by decide) ?_
    exact ih (j + 1) (by omega)
theorem c_J7_fill_53178 {E : zE} {T : zT} {N : zN} {P : zP} {I : zI} {R : zR} (a len : Nat) (v : Int32) (hT : T a = (1, len)) (hl : len ≤ 2 ^ 16) : zC E yJ7_fill_53178 cJ7_fill_53178 4 none (zr0 0 0) [.ref a, .int v] T N P I R (zv T N P (ur I a 0 len (fun _ => v)) R) := by
  refine zC.intro (ls := [some (.ref a), some (.int v), none, none]) pl_RJ7 (zle rfl) 2 rfl (fun K => ?_)
  refine v_iconst (v := 0) dJ7_fill_53178_0 rfl rfl ?_
  refine v_istore_2 dJ7_fill_53178_1 rfl (zle rfl) rfl ?_
  refine v_aload_0 dJ7_fill_53178_2 rfl ?_
  refine v_alenN hT (by decide) dJ7_fill_53178_3 rfl ?_
  refine v_istore_3 dJ7_fill_53178_4 rfl (zle rfl) rfl ?_
  have h := lp_J7_fill (N := N) (P := P) (I := I) (R := R) (v := v) (K := K) hT hl len 0 (by omega)
  rw [urz0] at h
  exact h
/-- steps and neighbours -/
def NtP (e : Nat → Nat → Nat → Prop) (st : Nat → Nat → Nat) (nb : Nat → Nat) : Prop := ∀ a, a < 8 → nb a < 256 ∧ (∀ c, c < 8 → ((nb a).testBit c = true ↔ ∃ l, e a c l)) ∧ ∀ c, c < 8 → ((∀ l, ¬ e a c l) ∧ st a c = NEVn) ∨ (e a c (st a c) ∧ ∀ l, e a c l → st a c ≤ l)
def NtR (I : zI) (sa na : Nat) (st : Nat → Nat → Nat) (nb : Nat → Nat) : Prop := ∀ a, a < 8 → I na a = nI (nb a) ∧ ∀ c, c < 8 → I sa (8 * a + c) = nI (st a c)
theorem NtP.le {e : Nat → Nat → Nat → Prop} {st : Nat → Nat → Nat} {nb : Nat → Nat} (h : NtP e st nb) (he : ∀ a c l, e a c l → l ≤ 20) {a c : Nat} (ha : a < 8) (hc : c < 8) : st a c ≤ NEVn := by
  rcases (h a ha).2.2 c hc with g | g
  · rw [g.2]; exact Nat.le_refl _
  · have := he _ _ _ g.1
    have hN : NEVn = 1000000000 := rfl
    omega
theorem NtP.add {e e' : Nat → Nat → Nat → Prop} {st : Nat → Nat → Nat} {nb : Nat → Nat} (h : NtP e st nb) {x y l : Nat} (hx : x < 8) (hy : y < 8) (hl : l ≤ 20) (he : ∀ a c k, e a c k → k ≤ 20) (hE : ∀ a c k, e' a c k ↔ e a c k ∨ (a = x ∧ c = y ∧ k = l)) : NtP e' (u2 st x y (min (st x y) l)) (u1 nb x (nb x ||| 2 ^ y)) := by
  have hN : NEVn = 1000000000 := rfl
  intro a ha
  obtain ⟨h1, h2, h3⟩ := h a ha
  by_cases hax : a = x
  · subst hax
    rw [u1_self]
    refine ⟨Nat.or_lt_two_pow (n := 8) h1 (Nat.pow_lt_pow_right (by decide) hy), fun c hc => ?_, fun c hc => ?_⟩
    · rw [Nat.testBit_or, Bool.or_eq_true, h2 c hc, Nat.testBit_two_pow, decide_eq_true_eq]
      constructor
      · rintro (⟨k, g⟩ | g)
        · exact ⟨k, (hE _ _ _).mpr (Or.inl g)⟩
        · exact ⟨l, (hE _ _ _).mpr (Or.inr ⟨rfl, g.symm, rfl⟩)⟩
      · rintro ⟨k, g⟩
        rcases (hE _ _ _).mp g with g | g
        · exact Or.inl ⟨k, g⟩
        · exact Or.inr g.2.1.symm
    · by_cases hcy : c = y
      · subst hcy
        rw [u2_self]
        right
        rcases h3 c hc with g | g
        · rw [g.2, show min NEVn l = l by omega]
          refine ⟨(hE _ _ _).mpr (Or.inr ⟨rfl, rfl, rfl⟩), fun k hk => ?_⟩
          rcases (hE _ _ _).mp hk with q | q
          · exact absurd q (g.1 k)
          · omega
        · refine ⟨?_, fun k hk => ?_⟩
          · rcases Nat.le_total (st a c) l with q | q
            · rw [Nat.min_eq_left q]; exact (hE _ _ _).mpr (Or.inl g.1)
            · rw [Nat.min_eq_right q]; exact (hE _ _ _).mpr (Or.inr ⟨rfl, rfl, rfl⟩)
          · rcases (hE _ _ _).mp hk with q | q
            · have := g.2 k q; omega
            · omega
      · rw [u2_ni hcy]
        rcases h3 c hc with g | g
        · left
          exact ⟨fun k hk => ((hE _ _ _).mp hk).elim (g.1 k) (fun q => hcy q.2.1), g.2⟩
        · right
          exact ⟨(hE _ _ _).mpr (Or.inl g.1), fun k hk => ((hE _ _ _).mp hk).elim (g.2 k) (fun q => absurd q.2.1 hcy)⟩
  · rw [u1_na hax, u2_off _ _ hax]
    have hE2 : ∀ c k, e' a c k ↔ e a c k := fun c k => ⟨fun g => ((hE _ _ _).mp g).elim id (fun q => absurd q.1 hax), fun g => (hE _ _ _).mpr (Or.inl g)⟩
    refine ⟨h1, fun c hc => ?_, fun c hc => ?_⟩
    · rw [h2 c hc]
      exact ⟨fun ⟨k, g⟩ => ⟨k, (hE2 c k).mpr g⟩, fun ⟨k, g⟩ => ⟨k, (hE2 c k).mp g⟩⟩
    · rcases h3 c hc with g | g
      · exact Or.inl ⟨fun k hk => g.1 k ((hE2 c k).mp hk), g.2⟩
      · exact Or.inr ⟨(hE2 _ _).mpr g.1, fun k hk => g.2 k ((hE2 c k).mp hk)⟩
theorem NtR.add {I : zI} {sa na : Nat} {st : Nat → Nat → Nat} {nb : Nat → Nat} (h : NtR I sa na st nb) (hne : sa ≠ na) {x y t u : Nat} (hy : y < 8) : NtR (u2 (u2 I sa (8 * x + y) (nI t)) na x (nI u)) sa na (u2 st x y t) (u1 nb x u) := by
  intro a ha
  obtain ⟨h1, h2⟩ := h a ha
  refine ⟨?_, fun c hc => ?_⟩
  · by_cases e : a = x
    · subst e; rw [u2_self, u1_self]
    · rw [u2_ni e, u1_na e, u2_na (fun e => hne e.symm)]; exact h1
  · rw [u2_na hne]
    by_cases e : a = x ∧ c = y
    · obtain ⟨rfl, rfl⟩ := e
      rw [u2_self, u2_self]
    · rw [u2_ni (by omega), show u2 st x y t a c = st a c from by unfold u2; rw [if_neg e]]; exact h2 c hc
theorem c_X1_join {E : zE} {T : zT} {N : zN} {P : zP} {I : zI} {R : zR} (n sa na a c l x y : Nat) (hn : (T n).1 = 11) (hsa : P 1 0 n = some sa) (hna : P 1 1 n = some na) (hs : T sa = (1, 64)) (ht : T na = (1, 8)) (hne : sa ≠ na) (ha : a < 8) (hc : c < 8) (hl : l ≤ 20) (hx : I sa (8 * a + c) = nI x) (hxl : x ≤ 2000000000) (hy : I na a = nI y) (hyl : y < 256) : zC E yX1_join cX1_join 5 none (zr0 1 21) [.ref n, .int (nI a), .int (nI c), .int (nI l)] T N P I R (zv T N P (u2 (u2 I sa (8 * a + c) (nI (min x l))) na a (nI (y ||| 2 ^ c))) R) := by
  refine zC.intro (ls := [some (.ref n), some (.int (nI a)), some (.int (nI c)), some (.int (nI l)), none]) pl_RX1 (zle rfl) 1 rfl (fun K => ?_)
  refine v_iload_1 dX1_join_0 rfl ?_
  refine v_bipush (v := 8) dX1_join_1 rfl rfl ?_
  refine v_imul dX1_join_3 rfl ?_
  refine v_iload_2 dX1_join_4 rfl ?_
  refine v_iadd dX1_join_5 rfl ?_
  refine v_top (i8r a c) ?_
  refine v_istore_4 dX1_join_6 rfl (zle rfl) rfl ?_
  refine v_aload_0 dX1_join_8 rfl ?_
  refine v_getP fl_1_9 (by assumption) (by assumption) rfl (zle rfl) rfl dX1_join_9 rfl ?_
  refine v_iload_4 dX1_join_12 rfl ?_
  refine v_aload_0 dX1_join_14 rfl ?_
  refine v_getP fl_1_9 (by assumption) (by assumption) rfl (zle rfl) rfl dX1_join_15 rfl ?_
  refine v_iload_4 dX1_join_18 rfl ?_
  refine v_iald (j := 8 * a + c) hs rfl (by omega) (zle rfl) dX1_join_20 rfl ?_
  refine v_top hx ?_
  refine v_iload_3 dX1_join_21 rfl ?_
  refine v_min lk_1_54 st_min ii_math cd_min (zle rfl) (zle rfl) (zle rfl) (zle rfl) dX1_join_22 rfl ?_
  refine v_top (nI_min (by omega) (by omega)) ?_
  refine v_iast (j := 8 * a + c) hs rfl (by omega) (zle rfl) dX1_join_25 rfl ?_
  refine v_aload_0 dX1_join_26 rfl ?_
  refine v_getP fl_1_15 (by assumption) (by assumption) rfl (zle rfl) rfl dX1_join_27 rfl ?_
  refine v_iload_1 dX1_join_30 rfl ?_
  refine v_dup2 dX1_join_31 rfl rfl rfl ?_
  refine v_iald (j := a) ht rfl (by omega) (zle rfl) dX1_join_32 rfl ?_
  refine v_top (show u2 I sa (8 * a + c) _ na a = nI y by rw [u2_na (fun e => hne e.symm)]; exact hy) ?_
  refine v_iconst (v := 1) dX1_join_33 rfl rfl ?_
  refine v_iload_2 dX1_join_34 rfl ?_
  refine v_ishl dX1_join_35 rfl ?_
  refine v_top (nI_sh c hc) ?_
  refine v_ior dX1_join_36 rfl ?_
  refine v_top (nI_or (by omega) (Nat.lt_trans (Nat.pow_lt_pow_right (by decide) hc) (by decide))) ?_
  refine v_iast (j := a) ht rfl (by omega) (zle rfl) dX1_join_37 rfl ?_
  exact v_return rfl (zv.rf) (zle rfl) (zle rfl) dX1_join_38
theorem edg_no {r : zg} {nc n d : Nat} {s : Prop} (ho : ¬ opn r d s n) (a c l : Nat) : edg r nc (n + 1) d s a c l ↔ edg r nc n d s a c l := by
  constructor
  · rintro ⟨h1, w, g1, g2, g3⟩
    refine ⟨h1, w, ?_, g2, g3⟩
    rcases (show w < n ∨ w = n by omega) with k | k
    · exact k
    · subst k; exact absurd g2 ho
  · rintro ⟨h1, w, g1, g2, g3⟩
    exact ⟨h1, w, by omega, g2, g3⟩
theorem edg_ye {r : zg} {nc n d : Nat} {s : Prop} (hnc : nc ≤ 8) (ho : opn r d s n) (hW : WyI r nc (n + 1)) (a c l : Nat) : edg r nc (n + 1) d s a c l ↔ (edg r nc n d s a c l ∨ (a = tn (r 4 n) ∧ c = tn (r 5 n) ∧ l = tn (r 6 n))) ∨ (a = tn (r 5 n) ∧ c = tn (r 4 n) ∧ l = tn (r 6 n)) := by
  have hed := hW.ed (d := d) (s := s) (Nat.lt_succ_self n) ho
  constructor
  · rintro ⟨h1, w, g1, g2, g3, g4⟩
    rcases (show w < n ∨ w = n by omega) with k | k
    · exact Or.inl (Or.inl ⟨h1, w, k, g2, g3, g4⟩)
    · subst k
      have e6 : tn (r 6 w) = l := by rw [g4, tn_nI (by omega)]
      rcases g3 with ⟨q1, q2⟩ | ⟨q1, q2⟩
      · exact Or.inl (Or.inr ⟨by rw [q1, tn_nI (by omega)], by rw [q2, tn_nI (by omega)], e6.symm⟩)
      · exact Or.inr ⟨by rw [q2, tn_nI (by omega)], by rw [q1, tn_nI (by omega)], e6.symm⟩
  · rintro ((⟨h1, w, g1, g2, g3⟩ | ⟨rfl, rfl, rfl⟩) | ⟨rfl, rfl, rfl⟩)
    · exact ⟨h1, w, by omega, g2, g3⟩
    · exact hed
    · exact hed.sy
def TwR (T : zT) (N : zN) (P : zP) (R : zR) (tw wa nw : Nat) (wy : Nat → Nat) (r : zg) : Prop := (T tw).1 = 17 ∧ P 7 2 tw = some wa ∧ T wa = (39, 14) ∧ N 7 4 tw = nI nw ∧ nw ≤ 14 ∧ ∀ j, j < nw → R wa j = some (wy j) ∧ (T (wy j)).1 = 19 ∧ N 9 0 (wy j) = r 4 j ∧ N 9 1 (wy j) = r 5 j ∧ N 9 2 (wy j) = r 6 j ∧ N 9 3 (wy j) = r 7 j ∧ N 9 4 (wy j) = r 8 j
theorem NEV_le : NEVn = 1000000000 := rfl
def lyQ (r : zg) (nc nw d : Nat) (s : Prop) (sa na : Nat) (T : zT) (N : zN) (P : zP) (I : zI) (R : zR) : Option Value → zT → zN → zP → zI → zR → Prop := fun v T' N' P' I' R' => v = none ∧ T = T' ∧ N = N' ∧ P = P' ∧ R = R' ∧ (∀ a, a ≠ sa → a ≠ na → I' a = I a) ∧ ∃ st nb, NtP (edg r nc nw d s) st nb ∧ NtR I' sa na st nb
theorem lp_X1_lay {E : zE} {T : zT} {N : zN} {P : zP} {I : zI} {R : zR} {n sa na tw wa nw nc d : Nat} {wy : Nat → Nat} {r : zg} {s : Prop} {K : zK E yX1_lay cX1_lay 6 none (zr0 3 64)} (hn : (T n).1 = 11) (hsa : P 1 0 n = some sa) (hna : P 1 1 n = some na) (hs : T sa = (1, 64)) (ht : T na = (1, 8)) (hne : sa ≠ na) (hW : TwR T N P R tw wa nw wy r) (hd : d < 7) (hnc : nc ≤ 8) (hWy : WyI r nc nw) : ∀ k j (I1 : zI) (st : Nat → Nat → Nat) (nb : Nat → Nat) (o5 : Option Value), j + k = nw → (∀ a, a ≠ sa → a ≠ na → I1 a = I a) → NtP (edg r nc j d s) st nb → NtR I1 sa na st nb → V K (zQf K (lyQ r nc nw d s sa na T N P I R)) T N P I1 R 0 0 20 [some (.ref n), some (.ref tw), some (.int (nI d)), some (.int (zb s)), some (.int (nI j)), o5] [] := by
  obtain ⟨t1, t2, t3, t4, t5, t6⟩ := hW
  intro k
  induction k with
  | zero =>
    intro j I1 st nb o5 hj hF hP hR
    obtain rfl : j = nw := by omega
    refine v_iload_4 dX1_lay_20 rfl ?_
    refine v_aload_1 dX1_lay_22 rfl ?_
    refine v_getN fl_1_25 t1 rfl (zle rfl) rfl dX1_lay_23 rfl ?_
    refine v_top t4 ?_
    refine v_icmp_ge_t (n := 92) (nI_le (a := j) (b := j) (by omega) (by omega)) dX1_lay_26 (by decide) ?_
    exact v_return rfl (⟨rfl, rfl, rfl, rfl, rfl, hF, st, nb, hP, hR⟩) (zle rfl) (zle rfl) dX1_lay_92
  | succ k ih =>
    intro j I1 st nb o5 hj hF hP hR
    obtain ⟨q1, q2, q3, q4, q5, q6, q7⟩ := t6 j (by omega)
    obtain ⟨w1, w2, w3, w4, w5⟩ := hWy j (by omega)
    have w1b := w1.2
    have w2b := w2.2
    have w3b := w3.2
    have hN := NEV_le
    have hel : ∀ a c l, edg r nc j d s a c l → l ≤ 20 := fun a c l h => h.1.2.1
    have hW1 : WyI r nc (j + 1) := fun q hq => hWy q (by omega)
    refine v_iload_4 dX1_lay_20 rfl ?_
    refine v_aload_1 dX1_lay_22 rfl ?_
    refine v_getN fl_1_25 t1 rfl (zle rfl) rfl dX1_lay_23 rfl ?_
    refine v_top t4 ?_
    refine v_icmp_ge_f (tgt := 92) (nI_ge (a := j) (b := nw) (by omega) (by omega)) dX1_lay_26 (by decide) rfl ?_
    refine v_aload_1 dX1_lay_29 rfl ?_
    refine v_getP fl_1_31 t2 t1 rfl (zle rfl) rfl dX1_lay_30 rfl ?_
    refine v_iload_4 dX1_lay_33 rfl ?_
    refine v_aald (j := j) ti_9 t3 rfl (by omega) (zle rfl) q1 dX1_lay_35 rfl ?_
    refine v_astore_5 dX1_lay_36 rfl (zle rfl) rfl ?_
    refine v_aload_5 dX1_lay_38 rfl ?_
    refine v_iload_2 dX1_lay_40 rfl ?_
    refine v_iload_3 dX1_lay_41 rfl ?_
    refine v_callV (ci := 9) (F := TX9) (c_X9_isOpen (wy j) d s q2 (by omega)) yy_X9_isOpen im_X9_isOpen se_X9_isOpen lk_1_35 q2 (zle rfl) rfl (zle rfl) (zle rfl) (zle rfl) (zle rfl) rfl rfl (zle rfl) dX1_lay_42 rfl (zp.use ?_)
    refine v_top (zb_iff (q := opn r d s j) (by rw [q7, q6]; exact Iff.rfl)) ?_
    refine v_ifz_eq (tgt := 86) dX1_lay_45 (by decide) rfl (fun c45 => ?_) (fun c45 => ?_)
    · refine v_iinc_4 dX1_lay_86 (nI_1 j) rfl (zle rfl) rfl ?_
      refine v_goto (n := 20) dX1_lay_89 (by decide) ?_
      exact ih (j + 1) I1 st nb _ (by omega) hF (fun a ha => by
        obtain ⟨z1, z2, z3⟩ := hP a ha
        exact ⟨z1, fun c hc => (z2 c hc).trans ⟨fun ⟨l, h⟩ => ⟨l, (edg_no c45 _ _ _).mpr h⟩, fun ⟨l, h⟩ => ⟨l, (edg_no c45 _ _ _).mp h⟩⟩, fun c hc => (z3 c hc).elim (fun h => Or.inl ⟨fun l hl => h.1 l ((edg_no c45 _ _ _).mp hl), h.2⟩) (fun h => Or.inr ⟨(edg_no c45 _ _ _).mpr h.1, fun l hl => h.2 l ((edg_no c45 _ _ _).mp hl)⟩)⟩) hR
    · refine v_aload_0 dX1_lay_48 rfl ?_
      refine v_aload_5 dX1_lay_49 rfl ?_
      refine v_getN fl_1_41 q2 rfl (zle rfl) rfl dX1_lay_51 rfl ?_
      refine v_top (q3.trans w1.1) ?_
      refine v_aload_5 dX1_lay_54 rfl ?_
      refine v_getN fl_1_44 q2 rfl (zle rfl) rfl dX1_lay_56 rfl ?_
      refine v_top (q4.trans w2.1) ?_
      refine v_aload_5 dX1_lay_59 rfl ?_
      refine v_getN fl_1_47 q2 rfl (zle rfl) rfl dX1_lay_61 rfl ?_
      refine v_top (q5.trans w3.1) ?_
      refine v_callV (ci := 1) (F := TX1) (c_X1_join (I := I1) n sa na (tn (r 4 j)) (tn (r 5 j)) (tn (r 6 j)) (st (tn (r 4 j)) (tn (r 5 j))) (nb (tn (r 4 j))) hn hsa hna hs ht hne (by omega) (by omega) (by omega) ((hR (tn (r 4 j)) (by omega)).2 (tn (r 5 j)) (by omega)) (by have := hP.le hel (show (tn (r 4 j)) < 8 by omega) (show (tn (r 5 j)) < 8 by omega); omega) (hR (tn (r 4 j)) (by omega)).1 (hP (tn (r 4 j)) (by omega)).1) yy_X1_join im_X1_join se_X1_join lk_1_50 hn (zle rfl) rfl (zle rfl) (zle rfl) (zle rfl) (zle rfl) rfl rfl (zle rfl) dX1_lay_64 rfl (zv.use ?_)
      have hP2 : NtP (fun a c l => edg r nc j d s a c l ∨ (a = (tn (r 4 j)) ∧ c = (tn (r 5 j)) ∧ l = (tn (r 6 j)))) (u2 st (tn (r 4 j)) (tn (r 5 j)) (min (st (tn (r 4 j)) (tn (r 5 j))) (tn (r 6 j)))) (u1 nb (tn (r 4 j)) (nb (tn (r 4 j)) ||| 2 ^ (tn (r 5 j)))) := hP.add (by omega) (by omega) (by omega) hel (fun _ _ _ => Iff.rfl)
      have hR2 : NtR (u2 (u2 I1 sa (8 * (tn (r 4 j)) + (tn (r 5 j))) (nI (min (st (tn (r 4 j)) (tn (r 5 j))) (tn (r 6 j))))) na (tn (r 4 j)) (nI (nb (tn (r 4 j)) ||| 2 ^ (tn (r 5 j))))) sa na (u2 st (tn (r 4 j)) (tn (r 5 j)) (min (st (tn (r 4 j)) (tn (r 5 j))) (tn (r 6 j)))) (u1 nb (tn (r 4 j)) (nb (tn (r 4 j)) ||| 2 ^ (tn (r 5 j)))) := hR.add hne (by omega)
      have hel2 : ∀ a c l, (edg r nc j d s a c l ∨ (a = (tn (r 4 j)) ∧ c = (tn (r 5 j)) ∧ l = (tn (r 6 j)))) → l ≤ 20 := fun a c l h => h.elim (hel a c l) (fun g => by omega)
      refine v_aload_0 dX1_lay_67 rfl ?_
      refine v_aload_5 dX1_lay_68 rfl ?_
      refine v_getN fl_1_44 q2 rfl (zle rfl) rfl dX1_lay_70 rfl ?_
      refine v_top (q4.trans w2.1) ?_
      refine v_aload_5 dX1_lay_73 rfl ?_
      refine v_getN fl_1_41 q2 rfl (zle rfl) rfl dX1_lay_75 rfl ?_
      refine v_top (q3.trans w1.1) ?_
      refine v_aload_5 dX1_lay_78 rfl ?_
      refine v_getN fl_1_47 q2 rfl (zle rfl) rfl dX1_lay_80 rfl ?_
      refine v_top (q5.trans w3.1) ?_
      refine v_callV (ci := 1) (F := TX1) (c_X1_join (I := (u2 (u2 I1 sa (8 * (tn (r 4 j)) + (tn (r 5 j))) (nI (min (st (tn (r 4 j)) (tn (r 5 j))) (tn (r 6 j))))) na (tn (r 4 j)) (nI (nb (tn (r 4 j)) ||| 2 ^ (tn (r 5 j)))))) n sa na (tn (r 5 j)) (tn (r 4 j)) (tn (r 6 j)) ((u2 st (tn (r 4 j)) (tn (r 5 j)) (min (st (tn (r 4 j)) (tn (r 5 j))) (tn (r 6 j)))) (tn (r 5 j)) (tn (r 4 j))) ((u1 nb (tn (r 4 j)) (nb (tn (r 4 j)) ||| 2 ^ (tn (r 5 j)))) (tn (r 5 j))) hn hsa hna hs ht hne (by omega) (by omega) (by omega) ((hR2 (tn (r 5 j)) (by omega)).2 (tn (r 4 j)) (by omega)) (by have := hP2.le hel2 (show (tn (r 5 j)) < 8 by omega) (show (tn (r 4 j)) < 8 by omega); omega) (hR2 (tn (r 5 j)) (by omega)).1 (hP2 (tn (r 5 j)) (by omega)).1) yy_X1_join im_X1_join se_X1_join lk_1_50 hn (zle rfl) rfl (zle rfl) (zle rfl) (zle rfl) (zle rfl) rfl rfl (zle rfl) dX1_lay_83 rfl (zv.use ?_)
      have hP3 : NtP (edg r nc (j + 1) d s) _ _ := hP2.add (show (tn (r 5 j)) < 8 by omega) (show (tn (r 4 j)) < 8 by omega) (show (tn (r 6 j)) ≤ 20 by omega) hel2 (edg_ye hnc c45 hW1)
      have hR3 := hR2.add hne (x := (tn (r 5 j))) (y := (tn (r 4 j))) (t := min ((u2 st (tn (r 4 j)) (tn (r 5 j)) (min (st (tn (r 4 j)) (tn (r 5 j))) (tn (r 6 j)))) (tn (r 5 j)) (tn (r 4 j))) (tn (r 6 j))) (u := (u1 nb (tn (r 4 j)) (nb (tn (r 4 j)) ||| 2 ^ (tn (r 5 j)))) (tn (r 5 j)) ||| 2 ^ (tn (r 4 j))) (by omega)
      refine v_iinc_4 dX1_lay_86 (nI_1 j) rfl (zle rfl) rfl ?_
      refine v_goto (n := 20) dX1_lay_89 (by decide) ?_
      exact ih (j + 1) _ _ _ _ (by omega) (fun a a1 a2 => by rw [u2_off _ _ a2, u2_off _ _ a1, u2_off _ _ a2, u2_off _ _ a1]; exact hF a a1 a2) hP3 hR3
theorem c_X1_lay {E : zE} {T : zT} {N : zN} {P : zP} {I : zI} {R : zR} (n sa na tw wa nw nc d : Nat) (wy : Nat → Nat) (r : zg) (s : Prop) (hn : (T n).1 = 11) (hsa : P 1 0 n = some sa) (hna : P 1 1 n = some na) (hs : T sa = (1, 64)) (ht : T na = (1, 8)) (hne : sa ≠ na) (hW : TwR T N P R tw wa nw wy r) (hd : d < 7) (hnc : nc ≤ 8) (hWy : WyI r nc nw) : zC E yX1_lay cX1_lay 6 none (zr0 3 64) [.ref n, .ref tw, .int (nI d), .int (zb s)] T N P I R (lyQ r nc nw d s sa na T N P I R) := by
  refine zC.intro (ls := [some (.ref n), some (.ref tw), some (.int (nI d)), some (.int (zb s)), none, none]) pl_RX1 (zle rfl) 2 rfl (fun K => ?_)
  refine v_aload_0 dX1_lay_0 rfl ?_
  refine v_getP fl_1_9 (by assumption) (by assumption) rfl (zle rfl) rfl dX1_lay_1 rfl ?_
  refine v_ldc dX1_lay_4 kc_1_18 rfl ?_
  refine v_callS (c_J7_fill_53178 sa 64 1000000000 hs (by decide)) yy_J7_fill_53178 st_J7_fill_53178 lk_1_19 (zle rfl) (zle rfl) (zle rfl) (zle rfl) rfl rfl (zle rfl) dX1_lay_6 rfl (zv.use ?_)
  refine v_aload_0 dX1_lay_9 rfl ?_
  refine v_getP fl_1_15 (by assumption) (by assumption) rfl (zle rfl) rfl dX1_lay_10 rfl ?_
  refine v_iconst (v := 0) dX1_lay_13 rfl rfl ?_
  refine v_callS (c_J7_fill_53178 na 8 0 ht (by decide)) yy_J7_fill_53178 st_J7_fill_53178 lk_1_19 (zle rfl) (zle rfl) (zle rfl) (zle rfl) rfl rfl (zle rfl) dX1_lay_14 rfl (zv.use ?_)
  refine v_iconst (v := 0) dX1_lay_17 rfl rfl ?_
  refine v_istore_4 dX1_lay_18 rfl (zle rfl) rfl ?_
  refine lp_X1_lay hn hsa hna hs ht hne hW hd hnc hWy nw 0 (ur (ur I sa 0 64 (fun _ => 1000000000)) na 0 8 (fun _ => 0)) (fun _ _ => NEVn) (fun _ => 0) _ (by omega) (fun a a1 a2 => by rw [ur_na a2, ur_na a1]) (fun a ha => ⟨(by show 0 < 256; decide), fun c hc => ⟨fun h => absurd h (by rw [Nat.zero_testBit]; decide), fun ⟨l, h⟩ => ?_⟩, fun c hc => Or.inl ⟨fun l h => ?_, rfl⟩⟩) (fun a ha => ⟨ur_i ha, fun c hc => by rw [ur_na hne, ur_i (by omega)]; rfl⟩)
  · obtain ⟨_, w, hw, _⟩ := h; exact absurd hw (Nat.not_lt_zero w)
  · obtain ⟨_, w, hw, _⟩ := h; exact absurd hw (Nat.not_lt_zero w)
