/-- the shortest step -/
def elP (r : zg) (nc nw d : Nat) (s : Prop) (a c l : Nat) : Prop := edg r nc nw d s a c l ∧ ∀ k, edg r nc nw d s a c k → l ≤ k
noncomputable def elv (r : zg) (nc nw d : Nat) (s : Prop) (a c : Nat) : Nat := Classical.epsilon (elP r nc nw d s a c)
theorem elv_eq {r : zg} {nc nw d : Nat} {s : Prop} {a c l : Nat} (h : elP r nc nw d s a c l) : elv r nc nw d s a c = l := by
  have h2 : elP r nc nw d s a c (elv r nc nw d s a c) := Classical.epsilon_spec ⟨l, h⟩
  exact Nat.le_antisymm (h2.2 l h.1) (h.2 _ h2.1)
theorem wt_cv {r : zg} {nc nw d : Nat} {s : Prop} {a c : Nat} (hW : WyI r nc nw) (hnc : nc ≤ 8) (ha : a < nc) (hc : c < nc) : ∀ n, n ≤ nw → (wtv r d s (nI a) (nI c) n = nI FARn ∧ ∀ l, ¬ edg r nc n d s a c l) ∨ ∃ l, elP r nc n d s a c l ∧ wtv r d s (nI a) (nI c) n = nI l := by
  intro n
  induction n with
  | zero => intro _; exact Or.inl ⟨rfl, fun l ⟨_, w, hw, _⟩ => absurd hw (Nat.not_lt_zero w)⟩
  | succ n ih =>
    intro hn
    have i := ih (by omega)
    have hW1 : WyI r nc (n + 1) := fun q hq => hW q (by omega)
    obtain ⟨w1, w2, w3, w4, w5⟩ := hW n (by omega)
    by_cases hj : jn2 r (nI a) (nI c) n ∧ opn r d s n
    · have hw : wtv r d s (nI a) (nI c) (n + 1) = if r 6 n < wtv r d s (nI a) (nI c) n then r 6 n else wtv r d s (nI a) (nI c) n := zi_t hj
      have hed : edg r nc (n + 1) d s a c (tn (r 6 n)) := by
        have h := hW1.ed (d := d) (s := s) (Nat.lt_succ_self n) hj.2
        rcases hj.1 with ⟨e1, e2⟩ | ⟨e1, e2⟩
        · rw [e1, e2, tn_nI (by omega), tn_nI (by omega)] at h; exact h
        · rw [e1, e2, tn_nI (by omega), tn_nI (by omega)] at h; exact h.sy
      have hup : ∀ k, edg r nc (n + 1) d s a c k → edg r nc n d s a c k ∨ k = tn (r 6 n) := fun k hk => by
        rcases (edg_ye hnc hj.2 hW1 a c k).mp hk with (g | g) | g
        · exact Or.inl g
        · exact Or.inr g.2.2
        · exact Or.inr g.2.2
      have hdn : ∀ k, edg r nc n d s a c k → edg r nc (n + 1) d s a c k := fun k hk => (edg_ye hnc hj.2 hW1 a c k).mpr (Or.inl (Or.inl hk))
      have hr6 : r 6 n = nI (tn (r 6 n)) := w3.1
      have hr6b : tn (r 6 n) < 21 := w3.2
      right
      rcases i with ⟨i1, i2⟩ | ⟨l, i1, i2⟩
      · refine ⟨tn (r 6 n), ⟨hed, fun k hk => (hup k hk).elim (fun g => absurd g (i2 k)) (fun g => by omega)⟩, ?_⟩
        rw [hw, i1, hr6, if_pos (nI_lt (a := tn (r 6 n)) (b := FARn) (Nat.lt_trans hr6b (by decide)) (by decide)), tn_nI (by omega)]
      · have hl := i1.1.1.2.1
        by_cases hlt : tn (r 6 n) < l
        · refine ⟨tn (r 6 n), ⟨hed, fun k hk => (hup k hk).elim (fun g => by have := i1.2 k g; omega) (fun g => by omega)⟩, ?_⟩
          rw [hw, i2, hr6, if_pos (nI_lt hlt (by omega)), tn_nI (by omega)]
        · refine ⟨l, ⟨hdn l i1.1, fun k hk => (hup k hk).elim (i1.2 k) (fun g => by omega)⟩, ?_⟩
          rw [hw, i2, hr6, if_neg (nI_nlt (a := tn (r 6 n)) (b := l) (by omega) (by omega))]
    · have hw : wtv r d s (nI a) (nI c) (n + 1) = wtv r d s (nI a) (nI c) n := zi_f hj
      have hiff : ∀ k, edg r nc (n + 1) d s a c k ↔ edg r nc n d s a c k := fun k => by
        constructor
        · rintro ⟨h1, w, g1, g2, g3, g4⟩
          refine ⟨h1, w, ?_, g2, g3, g4⟩
          rcases (show w < n ∨ w = n by omega) with q | q
          · exact q
          · subst q
            exact absurd ⟨g3.elim (fun g => Or.inl g) (fun g => Or.inr ⟨g.2, g.1⟩), g2⟩ hj
        · rintro ⟨h1, w, g1, g2, g3⟩
          exact ⟨h1, w, by omega, g2, g3⟩
      rw [hw]
      rcases i with ⟨i1, i2⟩ | ⟨l, i1, i2⟩
      · exact Or.inl ⟨i1, fun l h => i2 l ((hiff l).mp h)⟩
      · exact Or.inr ⟨l, ⟨(hiff l).mpr i1.1, fun k hk => i1.2 k ((hiff k).mp hk)⟩, i2⟩
/-- who walks at a corner -/
def wkA (r : zg) (c q : Nat) : Prop := r 19 q = nI c ∧ ¬ ovr r (tn (r 22 q)) (r 20 q) (npw r q)
noncomputable def crw (f : zf) (r : zg) (c : Nat) : Nat := cnp (wkA r c) (tn (f 18))
abbrev ofE (f : zf) (r : zg) (w : Nat) : Nat → Nat → Prop := fun c l => edg r (tn (f 0)) (tn (f 3)) (tn (f 27)) (r 23 w = 1) (tn (r 19 w)) c l
noncomputable abbrev ofT (f : zf) (r : zg) (w c : Nat) : Nat := elv r (tn (f 0)) (tn (f 3)) (tn (f 27)) (r 23 w = 1) (tn (r 19 w)) c + tmv f r (tn (r 22 w)) (tn (f 27)) (r 23 w = 1) (tn (r 20 w)) c
def ofK (f : zf) (r : zg) (w c : Nat) : Prop := (∃ l, ofE f r w c l) ∧ ofT f r w c < FARn
def ofB (z : Int32 × Nat × Nat) (cr t : Nat) : Prop := z.1 < 0 ∨ cr < z.2.1 ∨ (cr = z.2.1 ∧ t < z.2.2)
noncomputable def ofv (f : zf) (r : zg) (w : Nat) : Nat → Int32 × Nat × Nat
  | 0 => (-1, 0, 0)
  | c + 1 => zi (ofK f r w c ∧ ofB (ofv f r w c) (crw f r c) (ofT f r w c)) (nI c, crw f r c, ofT f r w c) (ofv f r w c)
theorem ofv_t {f : zf} {r : zg} {w c : Nat} (h : ofK f r w c) (h2 : ofB (ofv f r w c) (crw f r c) (ofT f r w c)) : ofv f r w (c + 1) = (nI c, crw f r c, ofT f r w c) := zi_t ⟨h, h2⟩
theorem ofv_f {f : zf} {r : zg} {w c : Nat} (h : ¬ (ofK f r w c ∧ ofB (ofv f r w c) (crw f r c) (ofT f r w c))) : ofv f r w (c + 1) = ofv f r w c := zi_f h
theorem ofv_8 {f : zf} {r : zg} {w : Nat} (h0 : tn (f 0) ≤ 8) : ofv f r w 8 = ofv f r w (tn (f 0)) := by
  have key : ∀ k, ofv f r w (tn (f 0) + k) = ofv f r w (tn (f 0)) := by
    intro k
    induction k with
    | zero => rfl
    | succ k ih =>
      rw [show tn (f 0) + (k + 1) = tn (f 0) + k + 1 by omega, ofv_f (fun h => by
        obtain ⟨l, hl⟩ := h.1.1
        have h9 := hl.1.2.2.2.1
        omega), ih]
  have := key (8 - tn (f 0))
  rw [show tn (f 0) + (8 - tn (f 0)) = 8 by omega] at this
  exact this
theorem ofv_b {f : zf} {r : zg} {w : Nat} (h18 : tn (f 18) < 7) : ∀ c, (ofv f r w c).2.1 < 7 ∧ (ofv f r w c).2.2 < FARn := by
  intro c
  induction c with
  | zero => exact ⟨(by show 0 < 7; decide), (by show 0 < FARn; decide)⟩
  | succ c ih =>
    by_cases h : ofK f r w c ∧ ofB (ofv f r w c) (crw f r c) (ofT f r w c)
    · rw [ofv_t h.1 h.2]
      exact ⟨Nat.lt_of_le_of_lt (cnp_le _ _) h18, h.1.2⟩
    · rw [ofv_f h]; exact ih
noncomputable def ac_offer (f : zf) (r : zg) (w : Int32) : zO := zi (0 ≤ w ∧ w ≤ f 18 - 1) (zi (ovr r (tn (r 22 (tn w))) (r 20 (tn w)) (npw r (tn w))) (fdg (-1000005) f r) (zi (0 ≤ (ofv f r (tn w) 8).1) ((ofv f r (tn w) 8).1, f, r) (fdg (-1000004) f r))) (fdg (-1000001) f r)
theorem lp_X11_othersAt {E : zE} {T : zT} {N : zN} {P : zP} {I : zI} {R : zR} {m : Nat} {ad : Nat → Nat} {w c : Nat} {K : zK E yX11_othersAt cX11_othersAt 5 (some .int) (zr0 2 45)} (hM : MOK T P m ad) (hZ : SrI (mf N m) (mr I ad)) (hw6 : w < 6) : ∀ k j, j + k = tn (N 11 18 m) → V K (zQf K (zp (nI (cnp (fun q => q ≠ w ∧ wkA (mr I ad) c q) (tn (N 11 18 m)))) T N P I R)) T N P I R 0 0 5 [some (.ref m), some (.int (nI w)), some (.int (nI c)), some (.int (nI (cnp (fun q => q ≠ w ∧ wkA (mr I ad) c q) j))), some (.int (nI j))] [] := by
  have h18 : Nt (N 11 18 m) 7 := hZ.1.1.1
  have h18b := h18.2
  intro k
  induction k with
  | zero =>
    intro j hj
    obtain rfl : j = tn (N 11 18 m) := by omega
    refine v_iload_4 dX11_othersAt_5 rfl ?_
    refine v_aload_0 dX11_othersAt_7 rfl ?_
    refine v_getN fl_11_128 (MOK.t hM) rfl (zle rfl) rfl dX11_othersAt_8 rfl ?_
    refine v_top h18.1 ?_
    refine v_icmp_ge_t (n := 54) (nI_le (a := tn (N 11 18 m)) (b := tn (N 11 18 m)) (Nat.le_refl _) (by omega)) dX11_othersAt_11 (by decide) ?_
    refine v_iload_3 dX11_othersAt_54 rfl ?_
    exact v_ireturn rfl (zp.rf) (zle rfl) (zle rfl) dX11_othersAt_55
  | succ k ih =>
    intro j hj
    obtain ⟨k1, k2, k3, k4, k5, k6, k7, k8, k9, k10⟩ := hZ.wk (show j < tn (mf N m 18) from (by show j < tn (N 11 18 m); omega))
    have hno : ¬ (j ≠ w ∧ wkA (mr I ad) c j) → nI (cnp (fun q => q ≠ w ∧ wkA (mr I ad) c q) j) + 0 = nI (cnp (fun q => q ≠ w ∧ wkA (mr I ad) c q) (j + 1)) := fun h => by rw [cnp_f (p := (fun q => q ≠ w ∧ wkA (mr I ad) c q)) h, Int32.add_zero]
    have hye : (j ≠ w ∧ wkA (mr I ad) c j) → nI (cnp (fun q => q ≠ w ∧ wkA (mr I ad) c q) j) + 1 = nI (cnp (fun q => q ≠ w ∧ wkA (mr I ad) c q) (j + 1)) := fun h => by rw [cnp_t (p := (fun q => q ≠ w ∧ wkA (mr I ad) c q)) h, nI_1]
    have nIw : nI j = nI w → j = w := fun h => (nI_eq (by omega) (by omega)).mp h
    refine v_iload_4 dX11_othersAt_5 rfl ?_
    refine v_aload_0 dX11_othersAt_7 rfl ?_
    refine v_getN fl_11_128 (MOK.t hM) rfl (zle rfl) rfl dX11_othersAt_8 rfl ?_
    refine v_top h18.1 ?_
    refine v_icmp_ge_f (tgt := 54) (nI_ge (a := j) (b := tn (N 11 18 m)) (by omega) (by omega)) dX11_othersAt_11 (by decide) rfl ?_
    refine v_iload_3 dX11_othersAt_14 rfl ?_
    refine v_iload_4 dX11_othersAt_15 rfl ?_
    refine v_iload_1 dX11_othersAt_17 rfl ?_
    refine v_icmp_eq (tgt := 45) dX11_othersAt_18 (by decide) rfl (fun c18 => ?_) (fun c18 => ?_)
    · refine v_iconst (v := 0) dX11_othersAt_45 rfl rfl ?_
      refine v_iadd dX11_othersAt_46 rfl ?_
      refine v_top (hno (fun h => h.1 (nIw c18))) ?_
      refine v_istore_3 dX11_othersAt_47 rfl (zle rfl) rfl ?_
      refine v_iinc_4 dX11_othersAt_48 (nI_1 j) rfl (zle rfl) rfl ?_
      refine v_goto (n := 5) dX11_othersAt_51 (by decide) ?_
      exact ih (j + 1) (by omega)
    · refine v_aload_0 dX11_othersAt_21 rfl ?_
      refine v_getP fl_11_53 (mp_19 hM) (MOK.t hM) rfl (zle rfl) rfl dX11_othersAt_22 rfl ?_
      refine v_iload_4 dX11_othersAt_25 rfl ?_
      refine v_iald (j := j) (ma_19 hM) rfl (by omega) (zle rfl) dX11_othersAt_27 rfl ?_
      refine v_iload_2 dX11_othersAt_28 rfl ?_
      refine v_icmp_ne (tgt := 45) dX11_othersAt_29 (by decide) rfl (fun c29 => ?_) (fun c29 => ?_)
      · refine v_iconst (v := 0) dX11_othersAt_45 rfl rfl ?_
        refine v_iadd dX11_othersAt_46 rfl ?_
        refine v_top (hno (fun h => c29 h.2.1)) ?_
        refine v_istore_3 dX11_othersAt_47 rfl (zle rfl) rfl ?_
        refine v_iinc_4 dX11_othersAt_48 (nI_1 j) rfl (zle rfl) rfl ?_
        refine v_goto (n := 5) dX11_othersAt_51 (by decide) ?_
        exact ih (j + 1) (by omega)
      · refine v_aload_0 dX11_othersAt_32 rfl ?_
        refine v_iload_4 dX11_othersAt_33 rfl ?_
        refine v_callV (ci := 11) (F := TX11) (c_X11_isDone m ad (tn (I (ad 22) j)) (npw (mr I ad) j) j hM (by omega) k1 k3 k4 k5) yy_X11_isDone im_X11_isDone se_X11_isDone lk_11_255 (MOK.t hM) (zle rfl) rfl (zle rfl) (zle rfl) (zle rfl) (zle rfl) rfl rfl (zle rfl) dX11_othersAt_35 rfl (zp.use ?_)
        refine v_ifz_ne (tgt := 45) dX11_othersAt_38 (by decide) rfl (fun c38 => ?_) (fun c38 => ?_)
        · refine v_iconst (v := 0) dX11_othersAt_45 rfl rfl ?_
          refine v_iadd dX11_othersAt_46 rfl ?_
          refine v_top (hno (fun h => h.2.2 c38)) ?_
          refine v_istore_3 dX11_othersAt_47 rfl (zle rfl) rfl ?_
          refine v_iinc_4 dX11_othersAt_48 (nI_1 j) rfl (zle rfl) rfl ?_
          refine v_goto (n := 5) dX11_othersAt_51 (by decide) ?_
          exact ih (j + 1) (by omega)
        · refine v_iconst (v := 1) dX11_othersAt_41 rfl rfl ?_
          refine v_goto (n := 46) dX11_othersAt_42 (by decide) ?_
          refine v_iadd dX11_othersAt_46 rfl ?_
          refine v_top (hye ⟨fun h => c18 (by rw [h]), c29, c38⟩) ?_
          refine v_istore_3 dX11_othersAt_47 rfl (zle rfl) rfl ?_
          refine v_iinc_4 dX11_othersAt_48 (nI_1 j) rfl (zle rfl) rfl ?_
          refine v_goto (n := 5) dX11_othersAt_51 (by decide) ?_
          exact ih (j + 1) (by omega)
theorem c_X11_othersAt {E : zE} {T : zT} {N : zN} {P : zP} {I : zI} {R : zR} (m : Nat) (ad : Nat → Nat) (w c : Nat) (hM : MOK T P m ad) (hZ : SrI (mf N m) (mr I ad)) (hw6 : w < 6) : zC E yX11_othersAt cX11_othersAt 5 (some .int) (zr0 2 45) [.ref m, .int (nI w), .int (nI c)] T N P I R (zp (nI (cnp (fun q => q ≠ w ∧ wkA (mr I ad) c q) (tn (N 11 18 m)))) T N P I R) := by
  refine zC.intro (ls := [some (.ref m), some (.int (nI w)), some (.int (nI c)), none, none]) pl_RX11 (zle rfl) 2 rfl (fun K => ?_)
  refine v_iconst (v := 0) dX11_othersAt_0 rfl rfl ?_
  refine v_istore_3 dX11_othersAt_1 rfl (zle rfl) rfl ?_
  refine v_iconst (v := 0) dX11_othersAt_2 rfl rfl ?_
  refine v_istore_4 dX11_othersAt_3 rfl (zle rfl) rfl ?_
  exact lp_X11_othersAt hM hZ hw6 (tn (N 11 18 m)) 0 (by omega)
