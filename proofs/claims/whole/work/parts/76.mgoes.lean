/-- the quickest walk may go on to that corner -/
def qsP (r : zg) (e np nc nw d : Nat) (s : Prop) (S c c' : Nat) : Prop := ∃ l, edg r nc nw d s c c' l ∧ (tmf r e np nc nw d s) S c = l + (tmf r e np nc nw d s) S c'
noncomputable def qsv (r : zg) (e np nc nw d : Nat) (s : Prop) (S c : Nat) : Int32 := nxv (qsP r e np nc nw d s S c) 0 8
/-- the corner number i of the quickest walk, by so many looks -/
noncomputable def rtv (r : zg) (e np nc nw d : Nat) (s : Prop) (i : Int32) : Nat → Nat → Nat → Nat → Int32
  | 0, _, _, _ => -1
  | n + 1, c, S, g => zi (ovr r e (nI S) np) (-1) (zi (∃ p, nxS r e np d S c p) (rtv r e np nc nw d s i n c (S ||| 2 ^ tn (nxv (canP r e (nI c) (nI S) d) 0 np)) g) (zi (nI g = i) (qsv r e np nc nw d s S c) (rtv r e np nc nw d s i n (tn (qsv r e np nc nw d s S c)) S (g + 1))))
theorem rtv_o {r : zg} {e np nc nw d : Nat} {s : Prop} {i : Int32} {n c S g : Nat} (h : ovr r e (nI S) np) : rtv r e np nc nw d s i (n + 1) c S g = -1 := zi_t h
theorem nxv_p {r : zg} {e np d S c p : Nat} (hp : nxS r e np d S c p) : nxv (canP r e (nI c) (nI S) d) 0 np = nI p := by
  rcases nxv_or (canP r e (nI c) (nI S) d) 0 np with ⟨g1, g2⟩ | ⟨q, g0, g1, g2, g3, g4⟩
  · exact absurd hp.2.1 (g2 p (Nat.zero_le _) hp.1)
  · rw [g4, nx_un hp ⟨g1, g2, fun k hk => g3 k (Nat.zero_le _) hk⟩]
theorem rtv_p {r : zg} {e np nc nw d : Nat} {s : Prop} {i : Int32} {n c S g p : Nat} (h : ¬ ovr r e (nI S) np) (hn : np ≤ 12) (hp : nxS r e np d S c p) : rtv r e np nc nw d s i (n + 1) c S g = rtv r e np nc nw d s i n c (S ||| 2 ^ p) g := by
  show zi _ _ _ = _
  have := hp.1
  rw [zi_f h, zi_t ⟨p, hp⟩, nxv_p hp, tn_nI (by omega)]
theorem rtv_i {r : zg} {e np nc nw d : Nat} {s : Prop} {i : Int32} {n c S g : Nat} (h : mvS r e np d S c) (hi : nI g = i) : rtv r e np nc nw d s i (n + 1) c S g = qsv r e np nc nw d s S c := by
  show zi _ _ _ = _
  rw [zi_f h.1, zi_f (fun ⟨p, hp⟩ => h.2 p hp.1 hp.2.1), zi_t hi]
theorem rtv_n {r : zg} {e np nc nw d : Nat} {s : Prop} {i : Int32} {n c S g c' : Nat} (h : mvS r e np d S c) (hi : ¬ nI g = i) (hq : qsv r e np nc nw d s S c = nI c') (hc : c' < 8) : rtv r e np nc nw d s i (n + 1) c S g = rtv r e np nc nw d s i n c' S (g + 1) := by
  show zi _ _ _ = _
  rw [zi_f h.1, zi_f (fun ⟨p, hp⟩ => h.2 p hp.1 hp.2.1), zi_f hi, hq, tn_nI (by omega)]
/-- how many moments are nearer to an end -/
noncomputable def pot (r : zg) (e np nc nw d : Nat) (s : Prop) (S c : Nat) : Nat := cnp (fun q => (tmf r e np nc nw d s) (q / 8) (q % 8) < (tmf r e np nc nw d s) S c) (8 * 2 ^ np)
theorem pot_lt {r : zg} {e np nc nw d : Nat} {s : Prop} {S c S' c' : Nat} (hS : S' < 2 ^ np) (hc : c' < 8) (h : (tmf r e np nc nw d s) S' c' < (tmf r e np nc nw d s) S c) : pot r e np nc nw d s S' c' < pot r e np nc nw d s S c := by
  refine cnp_lt _ (fun q _ hq => ?_) (8 * S' + c') (by omega) ?_ ?_
  · have hq : (tmf r e np nc nw d s) (q / 8) (q % 8) < (tmf r e np nc nw d s) S' c' := hq
    show (tmf r e np nc nw d s) (q / 8) (q % 8) < (tmf r e np nc nw d s) S c
    omega
  · show (tmf r e np nc nw d s) ((8 * S' + c') / 8) ((8 * S' + c') % 8) < _
    rw [show (8 * S' + c') / 8 = S' by omega, show (8 * S' + c') % 8 = c' by omega]; exact h
  · show ¬ (tmf r e np nc nw d s) ((8 * S' + c') / 8) ((8 * S' + c') % 8) < _
    rw [show (8 * S' + c') / 8 = S' by omega, show (8 * S' + c') % 8 = c' by omega]; omega
theorem pot_0 {r : zg} {e np nc nw d : Nat} {s : Prop} {S c : Nat} (hS : S < 2 ^ np) (hc : c < 8) : pot r e np nc nw d s S c < 8 * 2 ^ np := by
  have h := cnp_lt (p := fun q => (tmf r e np nc nw d s) (q / 8) (q % 8) < (tmf r e np nc nw d s) S c) (q := fun _ => True) (8 * 2 ^ np) (fun _ _ _ => trivial) (8 * S + c) (by omega) trivial (by
    show ¬ (tmf r e np nc nw d s) ((8 * S + c) / 8) ((8 * S + c) % 8) < _
    rw [show (8 * S + c) / 8 = S by omega, show (8 * S + c) % 8 = c by omega]; omega)
  rw [cnp_all] at h
  exact h
/-- one look at a moment of the quickest walk -/
theorem rt_step {r : zg} {e np nc nw d : Nat} {s : Prop} {S c : Nat} (hn : np ≤ 12) (hnc : nc ≤ 8) (hS : S < 2 ^ np) (hc : c < nc) (hl : ∀ p, p < np → ¬ lnP r e p = 0) (ht : (tmf r e np nc nw d s) S c < FARn) (ho : ¬ ovr r e (nI S) np) : (∀ p, nxS r e np d S c p → (tmf r e np nc nw d s) (S ||| 2 ^ p) c < (tmf r e np nc nw d s) S c ∧ (tmf r e np nc nw d s) (S ||| 2 ^ p) c < FARn) ∧ (mvS r e np d S c → ∃ c', c' < nc ∧ qsP r e np nc nw d s S c c' ∧ (∀ q, q < c' → ¬ qsP r e np nc nw d s S c q) ∧ qsv r e np nc nw d s S c = nI c' ∧ (tmf r e np nc nw d s) S c' < (tmf r e np nc nw d s) S c ∧ (tmf r e np nc nw d s) S c' < FARn) := by
  have hok := tmf_ok (r := r) (e := e) (nw := nw) (d := d) (s := s) hn hnc S hS
  constructor
  · intro p hp
    have h1 := (hok.1 c hc).2 ho p hp
    have h2 := hl p hp.1
    omega
  · intro hm
    obtain ⟨c1, l1, e1, h1⟩ := (hok.2 c hc hm).2.2 ht
    have hx : ∃ q, 0 ≤ q ∧ q < 8 ∧ qsP r e np nc nw d s S c q := ⟨c1, Nat.zero_le _, by have := e1.1.2.2.2.1; omega, l1, e1, h1⟩
    rcases nxv_or (qsP r e np nc nw d s S c) 0 8 with ⟨g1, g2⟩ | ⟨q, g0, g1, g2, g3, g4⟩
    · obtain ⟨q, q1, q2, q3⟩ := hx; exact absurd q3 (g2 q q1 q2)
    · obtain ⟨l, e2, h2⟩ := g2
      have := e2.1.1
      exact ⟨q, e2.1.2.2.2.1, ⟨l, e2, h2⟩, fun k hk => g3 k (Nat.zero_le _) hk, g4, by omega, by omega⟩
noncomputable def ac_route (f : zf) (r : zg) (e c d : Int32) (s : Prop) (i : Int32) : zO := zi (asks f e c d ∧ 0 ≤ i) (zi (tmv f r (tn e) (tn d) s 0 (tn c) < FARn) (rtv r (tn e) (tn (r 10 (tn e))) (tn (f 0)) (tn (f 3)) (tn d) s i (8 * 2 ^ tn (r 10 (tn e))) (tn c) 0 0, f, r) (fdg (-1000004) f r)) (fdg (-1000001) f r)
/-- the least of the corners that the first j ways lead on to -/
def GTo (r : zg) (e np nc nw d : Nat) (s : Prop) (S c j x : Nat) : Prop := x ≤ 8 ∧ (∀ q t, q < j → opn r d s q → ((r 4 q = nI c ∧ r 5 q = nI t) ∨ (r 4 q = nI t ∧ r 5 q = nI c)) → t < 8 → (tmf r e np nc nw d s) S c = tn (r 6 q) + (tmf r e np nc nw d s) S t → x ≤ t) ∧ (x = 8 ∨ qsP r e np nc nw d s S c x)
theorem GTo.en {r : zg} {e np nc nw d : Nat} {s : Prop} {S c x c' : Nat} (h : GTo r e np nc nw d s S c nw x) (hq : qsP r e np nc nw d s S c c') (hm : ∀ q, q < c' → ¬ qsP r e np nc nw d s S c q) (hc : c' < 8) (hnc : nc ≤ 8) : x = c' := by
  have h1 : x ≤ c' := by
    obtain ⟨l, ⟨l1, w, w1, w2, w3, w4⟩, h2⟩ := hq
    exact h.2.1 w c' w1 w2 (w3.elim Or.inl (fun g => Or.inr g)) hc (by rw [w4, tn_nI (by omega)]; exact h2)
  rcases h.2.2 with g | g
  · omega
  · rcases Nat.lt_or_ge x c' with k | k
    · exact absurd g (hm x k)
    · omega
theorem lp_X11_goesTo {E : zE} {T : zT} {N : zN} {P : zP} {I : zI} {R : zR} {m : Nat} {ad : Nat → Nat} {e np nc nw d S c : Nat} {s : Prop} {Q : Option Value → zT → zN → zP → zI → zR → Prop} {K : zK E yX11_goesTo cX11_goesTo 9 (some .int) (zr0 1 23)} (hM : MOK T P m ad) (hd : d < 7) (hn3 : N 11 3 m = nI nw) (hw14 : nw ≤ 14) (hn12 : np ≤ 12) (hnc : nc ≤ 8) (hWy : WyI (mr I ad) nc nw) (hS : S < 2 ^ np) (hc : c < nc) (ht : ∀ q, q < nc → I (ad 39) (8 * S + q) = nI ((tmf (mr I ad) e np nc nw d s) S q)) (hQ : ∀ x, GTo (mr I ad) e np nc nw d s S c nw x → Q (some (.int (nI x))) T N P I R) : ∀ k j x (o7 o8 : Option Value), j + k = nw → GTo (mr I ad) e np nc nw d s S c j x → V K (zQf K Q) T N P I R 0 0 7 [some (.ref m), some (.int (nI c)), some (.int (nI S)), some (.int (nI d)), some (.int (zb s)), some (.int (nI x)), some (.int (nI j)), o7, o8] [] := by
  have h12 : 2 ^ np ≤ 2 ^ 12 := Nat.pow_le_pow_right (by decide) hn12
  have hfr : ∀ q, q < nc → (tmf (mr I ad) e np nc nw d s) S q ≤ FARn := fun q hq => tmf_far hn12 hnc hS hq
  have hF9 : FARn = 100000000 := rfl
  intro k
  induction k with
  | zero =>
    intro j x o7 o8 hj hG
    obtain rfl : j = nw := by omega
    refine v_iload_6 dX11_goesTo_7 rfl ?_
    refine v_aload_0 dX11_goesTo_9 rfl ?_
    refine v_getN fl_11_125 (MOK.t hM) rfl (zle rfl) rfl dX11_goesTo_10 rfl ?_
    refine v_top hn3 ?_
    refine v_icmp_ge_t (n := 133) (nI_le (a := j) (b := j) (by omega) (by omega)) dX11_goesTo_13 (by decide) ?_
    refine v_iload_5 dX11_goesTo_133 rfl ?_
    exact v_ireturn rfl (hQ x hG) (zle rfl) (zle rfl) dX11_goesTo_135
  | succ k ih =>
    intro j x o7 o8 hj hG
    obtain ⟨w1, w2, w3, w4, w5⟩ := hWy j (by omega)
    have hx8 := hG.1
    have q4 : I (ad 4) j = nI (tn (I (ad 4) j)) := w1.1
    have q5 : I (ad 5) j = nI (tn (I (ad 5) j)) := w2.1
    have q6 : I (ad 6) j = nI (tn (I (ad 6) j)) := w3.1
    have b4 : tn (I (ad 4) j) < nc := w1.2
    have b5 : tn (I (ad 5) j) < nc := w2.2
    have b6 : tn (I (ad 6) j) < 21 := w3.2
    have w5' : ¬ I (ad 4) j = I (ad 5) j := w5
    have fc := hfr c hc
    have f4 := hfr _ b4
    have f5 := hfr _ b5
    have hno : (opn (mr I ad) d s j → ∀ t, ((mr I ad 4 j = nI c ∧ mr I ad 5 j = nI t) ∨ (mr I ad 4 j = nI t ∧ mr I ad 5 j = nI c)) → t < 8 → (tmf (mr I ad) e np nc nw d s) S c = tn (mr I ad 6 j) + (tmf (mr I ad) e np nc nw d s) S t → x ≤ t) → GTo (mr I ad) e np nc nw d s S c (j + 1) x := fun h => ⟨hG.1, fun q t hq ho he ht8 h2 => by
      rcases (show q < j ∨ q = j by omega) with g | g
      · exact hG.2.1 q t g ho he ht8 h2
      · subst g; exact h ho t he ht8 h2, hG.2.2⟩
    have hye : ∀ t, t < nc → opn (mr I ad) d s j → ((mr I ad 4 j = nI c ∧ mr I ad 5 j = nI t) ∨ (mr I ad 4 j = nI t ∧ mr I ad 5 j = nI c)) → (∀ t', ((mr I ad 4 j = nI c ∧ mr I ad 5 j = nI t') ∨ (mr I ad 4 j = nI t' ∧ mr I ad 5 j = nI c)) → t' < 8 → t' = t) → (tmf (mr I ad) e np nc nw d s) S c = tn (mr I ad 6 j) + (tmf (mr I ad) e np nc nw d s) S t → GTo (mr I ad) e np nc nw d s S c (j + 1) (min x t) := fun t ht2 ho he hu h2 => ⟨by omega, fun q t' hq ho' he' ht8 h2' => by
      rcases (show q < j ∨ q = j by omega) with g | g
      · have := hG.2.1 q t' g ho' he' ht8 h2'; omega
      · subst g; rw [hu t' he' ht8]; omega, by
      rcases Nat.le_total x t with g | g
      · rw [Nat.min_eq_left g]; exact hG.2.2
      · rw [Nat.min_eq_right g]
        refine Or.inr ⟨tn (mr I ad 6 j), ?_, h2⟩
        have hed := hWy.ed (d := d) (s := s) (show j < nw by omega) ho
        have hc8 : c < 8 := by omega
        rcases he with ⟨e1, e2⟩ | ⟨e1, e2⟩
        · rw [e1, e2, tn_nI (by omega), tn_nI (by omega)] at hed; exact hed
        · rw [e1, e2, tn_nI (by omega), tn_nI (by omega)] at hed; exact hed.sy⟩
    refine v_iload_6 dX11_goesTo_7 rfl ?_
    refine v_aload_0 dX11_goesTo_9 rfl ?_
    refine v_getN fl_11_125 (MOK.t hM) rfl (zle rfl) rfl dX11_goesTo_10 rfl ?_
    refine v_top hn3 ?_
    refine v_icmp_ge_f (tgt := 133) (nI_ge (a := j) (b := nw) (by omega) (by omega)) dX11_goesTo_13 (by decide) rfl ?_
    refine v_aload_0 dX11_goesTo_16 rfl ?_
    refine v_iload_6 dX11_goesTo_17 rfl ?_
    refine v_iload_3 dX11_goesTo_19 rfl ?_
    refine v_iload_4 dX11_goesTo_20 rfl ?_
    refine v_callV (ci := 11) (F := TX11) (c_X11_isOpen m ad j d s hM (by omega) hd) yy_X11_isOpen im_X11_isOpen se_X11_isOpen lk_11_148 (MOK.t hM) (zle rfl) rfl (zle rfl) (zle rfl) (zle rfl) (zle rfl) rfl rfl (zle rfl) dX11_goesTo_22 rfl (zp.use ?_)
    refine v_ifz_eq (tgt := 127) dX11_goesTo_25 (by decide) rfl (fun c25 => ?_) (fun c25 => ?_)
    · refine v_iinc_6 dX11_goesTo_127 (nI_1 j) rfl (zle rfl) rfl ?_
      refine v_goto (n := 7) dX11_goesTo_130 (by decide) ?_
      exact ih (j + 1) x _ _ (by omega) (hno (fun h => absurd h c25))
    · refine v_aload_0 dX11_goesTo_28 rfl ?_
      refine v_getP fl_11_16 (mp_4 hM) (MOK.t hM) rfl (zle rfl) rfl dX11_goesTo_29 rfl ?_
      refine v_iload_6 dX11_goesTo_32 rfl ?_
      refine v_iald (j := j) (ma_4 hM) rfl (by omega) (zle rfl) dX11_goesTo_34 rfl ?_
      refine v_iload_1 dX11_goesTo_35 rfl ?_
      refine v_icmp_eq (tgt := 50) dX11_goesTo_36 (by decide) rfl (fun c36 => ?_) (fun c36 => ?_)
      · refine v_aload_0 dX11_goesTo_50 rfl ?_
        refine v_getP fl_11_16 (mp_4 hM) (MOK.t hM) rfl (zle rfl) rfl dX11_goesTo_51 rfl ?_
        refine v_iload_6 dX11_goesTo_54 rfl ?_
        refine v_iald (j := j) (ma_4 hM) rfl (by omega) (zle rfl) dX11_goesTo_56 rfl ?_
        refine v_aload_0 dX11_goesTo_57 rfl ?_
        refine v_getP fl_11_19 (mp_5 hM) (MOK.t hM) rfl (zle rfl) rfl dX11_goesTo_58 rfl ?_
        refine v_iload_6 dX11_goesTo_61 rfl ?_
        refine v_iald (j := j) (ma_5 hM) rfl (by omega) (zle rfl) dX11_goesTo_63 rfl ?_
        refine v_iadd dX11_goesTo_64 rfl ?_
        refine v_iload_1 dX11_goesTo_65 rfl ?_
        refine v_isub dX11_goesTo_66 rfl ?_
        refine v_top (show I (ad 4) j + I (ad 5) j - nI c = nI (tn (I (ad 5) j)) by rw [c36, i_cs]; exact q5) ?_
        refine v_istore_7 dX11_goesTo_67 rfl (zle rfl) rfl ?_
        refine v_aload_0 dX11_goesTo_69 rfl ?_
        refine v_getP fl_11_22 (mp_6 hM) (MOK.t hM) rfl (zle rfl) rfl dX11_goesTo_70 rfl ?_
        refine v_iload_6 dX11_goesTo_73 rfl ?_
        refine v_iald (j := j) (ma_6 hM) rfl (by omega) (zle rfl) dX11_goesTo_75 rfl ?_
        refine v_top q6 ?_
        refine v_aload_0 dX11_goesTo_76 rfl ?_
        refine v_getP fl_11_102 (mp_39 hM) (MOK.t hM) rfl (zle rfl) rfl dX11_goesTo_77 rfl ?_
        refine v_iload_7 dX11_goesTo_80 rfl ?_
        refine v_iload_2 dX11_goesTo_82 rfl ?_
        refine v_callS (c_X11_momentOf (tn (I (ad 5) j)) S) yy_X11_momentOf st_X11_momentOf lk_11_210 (zle rfl) (zle rfl) (zle rfl) (zle rfl) rfl rfl (zle rfl) dX11_goesTo_83 rfl (zp.use ?_)
        refine v_iald (j := 8 * S + (tn (I (ad 5) j))) (ma_39 hM) rfl (by omega) (zle rfl) dX11_goesTo_86 rfl ?_
        refine v_top (ht (tn (I (ad 5) j)) b5) ?_
        refine v_iadd dX11_goesTo_87 rfl ?_
        refine v_top (nI_add _ _) ?_
        refine v_aload_0 dX11_goesTo_88 rfl ?_
        refine v_getP fl_11_102 (mp_39 hM) (MOK.t hM) rfl (zle rfl) rfl dX11_goesTo_89 rfl ?_
        refine v_iload_1 dX11_goesTo_92 rfl ?_
        refine v_iload_2 dX11_goesTo_93 rfl ?_
        refine v_callS (c_X11_momentOf c S) yy_X11_momentOf st_X11_momentOf lk_11_210 (zle rfl) (zle rfl) (zle rfl) (zle rfl) rfl rfl (zle rfl) dX11_goesTo_94 rfl (zp.use ?_)
        refine v_iald (j := 8 * S + c) (ma_39 hM) rfl (by omega) (zle rfl) dX11_goesTo_97 rfl ?_
        have hu : ∀ t', ((mr I ad 4 j = nI c ∧ mr I ad 5 j = nI t') ∨ (mr I ad 4 j = nI t' ∧ mr I ad 5 j = nI c)) → t' < 8 → t' = (tn (I (ad 5) j)) := fun t' h h8 => by
          rcases h with ⟨h1, h2⟩ | ⟨h1, h2⟩
          · have h3 : nI (tn (I (ad 5) j)) = nI t' := q5.symm.trans h2
            exact ((nI_eq (by omega) (by omega)).mp h3).symm
          · exact absurd (show I (ad 4) j = I (ad 5) j from c36.trans h2.symm) w5'
        refine v_top (ht c hc) ?_
        by_cases heq : (tn (I (ad 6) j)) + (tmf (mr I ad) e np nc nw d s) S (tn (I (ad 5) j)) = (tmf (mr I ad) e np nc nw d s) S c
        · refine v_icmp_ne_f (tgt := 105) (by rw [heq]) dX11_goesTo_98 (by decide) rfl ?_
          refine v_iconst (v := 1) dX11_goesTo_101 rfl rfl ?_
          refine v_goto (n := 106) dX11_goesTo_102 (by decide) ?_
          refine v_istore_8 dX11_goesTo_106 rfl (zle rfl) rfl ?_
          refine v_iload_8 dX11_goesTo_108 rfl ?_
          refine v_if_eq_f (tgt := 123) (by decide) dX11_goesTo_110 (by decide) rfl ?_
          refine v_iload_5 dX11_goesTo_113 rfl ?_
          refine v_iload_7 dX11_goesTo_115 rfl ?_
          refine v_min lk_11_152 st_min ii_math cd_min (zle rfl) (zle rfl) (zle rfl) (zle rfl) dX11_goesTo_117 rfl ?_
          refine v_top (nI_min (by omega) (by omega)) ?_
          refine v_goto (n := 125) dX11_goesTo_120 (by decide) ?_
          refine v_istore_5 dX11_goesTo_125 rfl (zle rfl) rfl ?_
          refine v_iinc_6 dX11_goesTo_127 (nI_1 j) rfl (zle rfl) rfl ?_
          refine v_goto (n := 7) dX11_goesTo_130 (by decide) ?_
          exact ih (j + 1) _ _ _ (by omega) (hye (tn (I (ad 5) j)) (by omega) c25 (Or.inl ⟨c36, q5⟩) hu heq.symm)
        · refine v_icmp_ne_t (n := 105) (fun h => heq ((nI_eq (by omega) (by omega)).mp h)) dX11_goesTo_98 (by decide) ?_
          refine v_iconst (v := 0) dX11_goesTo_105 rfl rfl ?_
          refine v_istore_8 dX11_goesTo_106 rfl (zle rfl) rfl ?_
          refine v_iload_8 dX11_goesTo_108 rfl ?_
          refine v_if_eq_t (n := 123) (by decide) dX11_goesTo_110 (by decide) ?_
          refine v_iload_5 dX11_goesTo_123 rfl ?_
          refine v_istore_5 dX11_goesTo_125 rfl (zle rfl) rfl ?_
          refine v_iinc_6 dX11_goesTo_127 (nI_1 j) rfl (zle rfl) rfl ?_
          refine v_goto (n := 7) dX11_goesTo_130 (by decide) ?_
          exact ih (j + 1) x _ _ (by omega) (hno (fun _ t h h8 h2 => absurd (by rw [← hu t h h8]; exact h2.symm) heq))
      · refine v_aload_0 dX11_goesTo_39 rfl ?_
        refine v_getP fl_11_19 (mp_5 hM) (MOK.t hM) rfl (zle rfl) rfl dX11_goesTo_40 rfl ?_
        refine v_iload_6 dX11_goesTo_43 rfl ?_
        refine v_iald (j := j) (ma_5 hM) rfl (by omega) (zle rfl) dX11_goesTo_45 rfl ?_
        refine v_iload_1 dX11_goesTo_46 rfl ?_
        refine v_icmp_ne (tgt := 127) dX11_goesTo_47 (by decide) rfl (fun c47 => ?_) (fun c47 => ?_)
        · refine v_iinc_6 dX11_goesTo_127 (nI_1 j) rfl (zle rfl) rfl ?_
          refine v_goto (n := 7) dX11_goesTo_130 (by decide) ?_
          exact ih (j + 1) x _ _ (by omega) (hno (fun _ t h _ _ => by
            rcases h with ⟨h1, h2⟩ | ⟨h1, h2⟩
            · exact absurd h1 c36
            · exact absurd h2 c47))
        · refine v_aload_0 dX11_goesTo_50 rfl ?_
          refine v_getP fl_11_16 (mp_4 hM) (MOK.t hM) rfl (zle rfl) rfl dX11_goesTo_51 rfl ?_
          refine v_iload_6 dX11_goesTo_54 rfl ?_
          refine v_iald (j := j) (ma_4 hM) rfl (by omega) (zle rfl) dX11_goesTo_56 rfl ?_
          refine v_aload_0 dX11_goesTo_57 rfl ?_
          refine v_getP fl_11_19 (mp_5 hM) (MOK.t hM) rfl (zle rfl) rfl dX11_goesTo_58 rfl ?_
          refine v_iload_6 dX11_goesTo_61 rfl ?_
          refine v_iald (j := j) (ma_5 hM) rfl (by omega) (zle rfl) dX11_goesTo_63 rfl ?_
          refine v_iadd dX11_goesTo_64 rfl ?_
          refine v_iload_1 dX11_goesTo_65 rfl ?_
          refine v_isub dX11_goesTo_66 rfl ?_
          refine v_top (show I (ad 4) j + I (ad 5) j - nI c = nI (tn (I (ad 4) j)) by rw [c47, Int32.add_sub_cancel]; exact q4) ?_
          refine v_istore_7 dX11_goesTo_67 rfl (zle rfl) rfl ?_
          refine v_aload_0 dX11_goesTo_69 rfl ?_
          refine v_getP fl_11_22 (mp_6 hM) (MOK.t hM) rfl (zle rfl) rfl dX11_goesTo_70 rfl ?_
          refine v_iload_6 dX11_goesTo_73 rfl ?_
          refine v_iald (j := j) (ma_6 hM) rfl (by omega) (zle rfl) dX11_goesTo_75 rfl ?_
          refine v_top q6 ?_
          refine v_aload_0 dX11_goesTo_76 rfl ?_
          refine v_getP fl_11_102 (mp_39 hM) (MOK.t hM) rfl (zle rfl) rfl dX11_goesTo_77 rfl ?_
          refine v_iload_7 dX11_goesTo_80 rfl ?_
          refine v_iload_2 dX11_goesTo_82 rfl ?_
          refine v_callS (c_X11_momentOf (tn (I (ad 4) j)) S) yy_X11_momentOf st_X11_momentOf lk_11_210 (zle rfl) (zle rfl) (zle rfl) (zle rfl) rfl rfl (zle rfl) dX11_goesTo_83 rfl (zp.use ?_)
          refine v_iald (j := 8 * S + (tn (I (ad 4) j))) (ma_39 hM) rfl (by omega) (zle rfl) dX11_goesTo_86 rfl ?_
          refine v_top (ht (tn (I (ad 4) j)) b4) ?_
          refine v_iadd dX11_goesTo_87 rfl ?_
          refine v_top (nI_add _ _) ?_
          refine v_aload_0 dX11_goesTo_88 rfl ?_
          refine v_getP fl_11_102 (mp_39 hM) (MOK.t hM) rfl (zle rfl) rfl dX11_goesTo_89 rfl ?_
          refine v_iload_1 dX11_goesTo_92 rfl ?_
          refine v_iload_2 dX11_goesTo_93 rfl ?_
          refine v_callS (c_X11_momentOf c S) yy_X11_momentOf st_X11_momentOf lk_11_210 (zle rfl) (zle rfl) (zle rfl) (zle rfl) rfl rfl (zle rfl) dX11_goesTo_94 rfl (zp.use ?_)
          refine v_iald (j := 8 * S + c) (ma_39 hM) rfl (by omega) (zle rfl) dX11_goesTo_97 rfl ?_
          have hu : ∀ t', ((mr I ad 4 j = nI c ∧ mr I ad 5 j = nI t') ∨ (mr I ad 4 j = nI t' ∧ mr I ad 5 j = nI c)) → t' < 8 → t' = (tn (I (ad 4) j)) := fun t' h h8 => by
            rcases h with ⟨h1, h2⟩ | ⟨h1, h2⟩
            · exact absurd h1 c36
            · have h3 : nI (tn (I (ad 4) j)) = nI t' := q4.symm.trans h1
              exact ((nI_eq (by omega) (by omega)).mp h3).symm
          refine v_top (ht c hc) ?_
          by_cases heq : (tn (I (ad 6) j)) + (tmf (mr I ad) e np nc nw d s) S (tn (I (ad 4) j)) = (tmf (mr I ad) e np nc nw d s) S c
          · refine v_icmp_ne_f (tgt := 105) (by rw [heq]) dX11_goesTo_98 (by decide) rfl ?_
            refine v_iconst (v := 1) dX11_goesTo_101 rfl rfl ?_
            refine v_goto (n := 106) dX11_goesTo_102 (by decide) ?_
            refine v_istore_8 dX11_goesTo_106 rfl (zle rfl) rfl ?_
            refine v_iload_8 dX11_goesTo_108 rfl ?_
            refine v_if_eq_f (tgt := 123) (by decide) dX11_goesTo_110 (by decide) rfl ?_
            refine v_iload_5 dX11_goesTo_113 rfl ?_
            refine v_iload_7 dX11_goesTo_115 rfl ?_
            refine v_min lk_11_152 st_min ii_math cd_min (zle rfl) (zle rfl) (zle rfl) (zle rfl) dX11_goesTo_117 rfl ?_
            refine v_top (nI_min (by omega) (by omega)) ?_
            refine v_goto (n := 125) dX11_goesTo_120 (by decide) ?_
            refine v_istore_5 dX11_goesTo_125 rfl (zle rfl) rfl ?_
            refine v_iinc_6 dX11_goesTo_127 (nI_1 j) rfl (zle rfl) rfl ?_
            refine v_goto (n := 7) dX11_goesTo_130 (by decide) ?_
            exact ih (j + 1) _ _ _ (by omega) (hye (tn (I (ad 4) j)) (by omega) c25 (Or.inr ⟨q4, c47⟩) hu heq.symm)
          · refine v_icmp_ne_t (n := 105) (fun h => heq ((nI_eq (by omega) (by omega)).mp h)) dX11_goesTo_98 (by decide) ?_
            refine v_iconst (v := 0) dX11_goesTo_105 rfl rfl ?_
            refine v_istore_8 dX11_goesTo_106 rfl (zle rfl) rfl ?_
            refine v_iload_8 dX11_goesTo_108 rfl ?_
            refine v_if_eq_t (n := 123) (by decide) dX11_goesTo_110 (by decide) ?_
            refine v_iload_5 dX11_goesTo_123 rfl ?_
            refine v_istore_5 dX11_goesTo_125 rfl (zle rfl) rfl ?_
            refine v_iinc_6 dX11_goesTo_127 (nI_1 j) rfl (zle rfl) rfl ?_
            refine v_goto (n := 7) dX11_goesTo_130 (by decide) ?_
            exact ih (j + 1) x _ _ (by omega) (hno (fun _ t h h8 h2 => absurd (by rw [← hu t h h8]; exact h2.symm) heq))
theorem c_X11_goesTo {E : zE} {T : zT} {N : zN} {P : zP} {I : zI} {R : zR} (m : Nat) (ad : Nat → Nat) (e np nc nw d S c c1 : Nat) (s : Prop) (hM : MOK T P m ad) (hd : d < 7) (hn3 : N 11 3 m = nI nw) (hw14 : nw ≤ 14) (hn12 : np ≤ 12) (hnc : nc ≤ 8) (hWy : WyI (mr I ad) nc nw) (hS : S < 2 ^ np) (hc : c < nc) (ht : ∀ q, q < nc → I (ad 39) (8 * S + q) = nI ((tmf (mr I ad) e np nc nw d s) S q)) (hq1 : qsP (mr I ad) e np nc nw d s S c c1) (hq2 : ∀ q, q < c1 → ¬ qsP (mr I ad) e np nc nw d s S c q) (hc1 : c1 < nc) : zC E yX11_goesTo cX11_goesTo 9 (some .int) (zr0 1 23) [.ref m, .int (nI c), .int (nI S), .int (nI d), .int (zb s)] T N P I R (zp (nI c1) T N P I R) := by
  refine zC.intro (ls := [some (.ref m), some (.int (nI c)), some (.int (nI S)), some (.int (nI d)), some (.int (zb s)), none, none, none, none]) pl_RX11 (zle rfl) 4 rfl (fun K => ?_)
  refine v_bipush (v := 8) dX11_goesTo_0 rfl rfl ?_
  refine v_istore_5 dX11_goesTo_2 rfl (zle rfl) rfl ?_
  refine v_iconst (v := 0) dX11_goesTo_4 rfl rfl ?_
  refine v_istore_6 dX11_goesTo_5 rfl (zle rfl) rfl ?_
  exact lp_X11_goesTo hM hd hn3 hw14 hn12 hnc hWy hS hc ht (fun x hx => by rw [hx.en hq1 hq2 (by omega) hnc]; exact zp.rf) nw 0 8 _ _ (by omega) ⟨Nat.le_refl _, fun q t hq => absurd hq (Nat.not_lt_zero q), Or.inl rfl⟩
