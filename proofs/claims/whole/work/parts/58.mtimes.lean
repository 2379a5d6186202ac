theorem mt0 : ∀ k, k < 44 → zr 11 k = true → ¬ (mt k).1 = 0 := by decide
theorem MOK.fr {T : zT} {P : zP} {m : Nat} {ad : Nat → Nat} (h : MOK T P m ad) {q : Nat} (hq : (T q).1 = 0) {k : Nat} (hk : k < 44) (hz : zr 11 k = true) : ¬ q = ad k := by
  intro e
  have h1 := (h.2.1 k hk hz).2
  rw [← e] at h1
  rw [h1] at hq
  exact mt0 k hk hz hq
theorem MOK.t1 {T : zT} {P : zP} {m : Nat} {ad : Nat → Nat} (h : MOK T P m ad) {q : Nat} (hq : (T q).1 = 0) (x : Nat × Nat) : MOK (u1 T q x) P m ad := by
  refine ⟨?_, fun k hk hz => ⟨(h.2.1 k hk hz).1, ?_⟩, h.2.2⟩
  · rw [u1_na (fr_ne hq h.1 (by decide))]; exact h.1
  · rw [u1_na (fun e => h.fr hq hk hz e.symm)]
    exact (h.2.1 k hk hz).2
theorem tmf_far {r : zg} {e np nc nw d : Nat} {s : Prop} (hn : np ≤ 12) (hnc : nc ≤ 8) {S c : Nat} (hS : S < 2 ^ np) (hc : c < nc) : tmf r e np nc nw d s S c ≤ FARn := by
  obtain ⟨h1, h2⟩ := tmf_ok (r := r) (e := e) (nw := nw) (d := d) (s := s) hn hnc S hS
  by_cases ho : ovr r e (nI S) np
  · rw [(h1 c hc).1 ho]; exact Nat.zero_le _
  · rcases nx_or r e np d S c with ⟨p, hp⟩ | h
    · rw [(h1 c hc).2 ho p hp]; exact Nat.min_le_left _ _
    · exact (h2 c hc ⟨ho, h⟩).1
theorem cnp_nc (p : Nat → Prop) (k : Nat) : ∀ n, cnp (fun c => c < k ∧ p c) n ≤ k := by
  intro n
  induction n with
  | zero => exact Nat.zero_le _
  | succ n ih =>
    by_cases h : n < k ∧ p n
    · rw [cnp_t h]
      have := cnp_le (fun c => c < k ∧ p c) n
      omega
    · rw [cnp_f h]; exact ih
/-- between rounds -/
def RB (nc : Nat) (mv : Nat → Prop) (w v : Nat → Nat) : Prop := ∀ c, c < nc → w c ≤ v c ∧ (mv c → v c ≤ FARn) ∧ (¬ mv c → v c = w c)
theorem RB.rd {r : zg} {nc nw d : Nat} {s : Prop} {mv : Nat → Prop} {w v v2 : Nat → Nat} (h : RB nc mv w v) (hA : RA1 r nc nw d s mv w v v2 nw) : RB nc mv w v2 := fun c hc => ⟨(hA.1 c hc).1, fun hm => Nat.le_trans (hA.1 c hc).2 ((h c hc).2.1 hm), fun hm => Nat.le_antisymm (Nat.le_trans (hA.1 c hc).2 (Nat.le_of_eq ((h c hc).2.2 hm))) (hA.1 c hc).1⟩
theorem RB.ct {r : zg} {nc nw d : Nat} {s : Prop} {mv : Nat → Prop} {w v v2 : Nat → Nat} {j : Nat} (h : RB nc mv w v) (hE : Eg (edg r nc nw d s) mv (fun c => c < nc)) (hw : Sol (edg r nc nw d s) mv (fun c => c < nc) FARn w) (hnc : nc ≤ 8) (hA : RA1 r nc nw d s mv w v v2 nw) (hj : cnp (fun c => c < nc ∧ v c ≠ w c) 8 + j ≤ nc ∨ ∀ c, c < nc → v c = w c) : cnp (fun c => c < nc ∧ v2 c ≠ w c) 8 + (j + 1) ≤ nc ∨ ∀ c, c < nc → v2 c = w c := by
  have hr : ∀ c c' l, c < nc → mv c → edg r nc nw d s c c' l → v2 c ≤ l + v c' := by
    intro c c' l hc hm he
    obtain ⟨⟨l1, l2, l3, l4, l5⟩, q, q1, q2, q3, q4⟩ := he
    obtain ⟨b1, b2⟩ := hA.2 q q1 q2
    rcases q3 with ⟨k1, k2⟩ | ⟨k1, k2⟩
    · rw [k1, k2, q4, tn_nI (by omega), tn_nI (by omega), tn_nI (by omega)] at b1
      exact b1 hm
    · rw [k1, k2, q4, tn_nI (by omega), tn_nI (by omega), tn_nI (by omega)] at b2
      exact b2 hm
  rcases rnd hE hw (fun c (hc : c < nc) => by omega) h hA.1 hr with g | g
  · rcases hj with k | k
    · left; omega
    · right
      intro c hc
      have a1 := hA.1 c hc
      have a2 := k c hc
      omega
  · exact Or.inr g
theorem RB.en {nc j : Nat} {mv : Nat → Prop} {w v : Nat → Nat} (hnc : nc ≤ 8) (hj : cnp (fun c => c < nc ∧ v c ≠ w c) 8 + nc ≤ nc ∨ ∀ c, c < nc → v c = w c) : ∀ c, c < nc → v c = w c := by
  rcases hj with k | k
  · intro c hc
    exact Classical.byContradiction fun h => cnp_0 (p := fun c => c < nc ∧ v c ≠ w c) 8 (by omega) c (by omega) ⟨hc, h⟩
  · exact k
theorem rl_X11_findTimes {E : zE} {T : zT} {N : zN} {P : zP} {I : zI} {R : zR} {m : Nat} {ad : Nat → Nat} {e np nc nw d S ga : Nat} {s : Prop} {Qf : State → Prop} {w : Nat → Nat} {K : zK E yX11_findTimes cX11_findTimes 9 none (zrm 2 52 1 8)} (hM : MOK T P m ad) (hga : T ga = (2, 8)) (hna : ¬ ga = ad 39) (hf : ∀ k, k < 32 → zr 11 k = true → ¬ ga = ad k) (hS : S < 4096) (hd : d < 7) (hn3 : N 11 3 m = nI nw) (hw14 : nw ≤ 14) (hnc : nc ≤ 8) (hWy : WyI (mr I ad) nc nw) (hn0 : N 11 0 m = nI nc) (hE : Eg (edg (mr I ad) nc nw d s) (mvS (mr I ad) e np d S) (fun c => c < nc)) (hw : Sol (edg (mr I ad) nc nw d s) (mvS (mr I ad) e np d S) (fun c => c < nc) FARn w) (hwf : ∀ c, c < nc → w c ≤ FARn) :
    ∀ k j (I1 : zI) (v : Nat → Nat) (o8 : Option Value), j + k = nc → TR I I1 (ad 39) ga S nc (mvS (mr I ad) e np d S) v → RB nc (mvS (mr I ad) e np d S) w v → (cnp (fun c => c < nc ∧ v c ≠ w c) 8 + j ≤ nc ∨ ∀ c, c < nc → v c = w c) → (∀ (I2 : zI) (v2 : Nat → Nat) (j7 : Int32) (o8 : Option Value), TR I I2 (ad 39) ga S nc (mvS (mr I ad) e np d S) v2 → (∀ c, c < nc → v2 c = w c) → V K Qf T N P I2 R 1 8 267 [some (.ref m), some (.int (nI e)), some (.int (nI d)), some (.int (zb s)), some (.ref ga), some (.int (nI S)), some (.int 0), some (.int j7), o8] []) → V K Qf T N P I1 R 1 8 160 [some (.ref m), some (.int (nI e)), some (.int (nI d)), some (.int (zb s)), some (.ref ga), some (.int (nI S)), some (.int 0), some (.int (nI j)), o8] [] := by
  intro k
  induction k with
  | zero =>
    intro j I1 v o8 hj hT hB hc kk
    obtain rfl : j = nc := by omega
    refine v_iload_7 dX11_findTimes_160 rfl ?_
    refine v_aload_0 dX11_findTimes_162 rfl ?_
    refine v_getN fl_11_118 (MOK.t hM) rfl (zle rfl) rfl dX11_findTimes_163 rfl ?_
    refine v_top hn0 ?_
    refine v_icmp_ge_t (n := 267) (nI_le (a := j) (b := j) (by omega) (by omega)) dX11_findTimes_166 (by decide) ?_
    exact kk I1 v _ _ hT (RB.en (j := 0) (mv := (mvS (mr I ad) e np d S)) hnc hc)
  | succ k ih =>
    intro j I1 v o8 hj hT hB hc kk
    have hvf : ∀ c, c < nc → v c ≤ FARn := fun c h => by
      by_cases hm : (mvS (mr I ad) e np d S) c
      · exact (hB c h).2.1 hm
      · rw [(hB c h).2.2 hm]; exact hwf c h
    refine v_iload_7 dX11_findTimes_160 rfl ?_
    refine v_aload_0 dX11_findTimes_162 rfl ?_
    refine v_getN fl_11_118 (MOK.t hM) rfl (zle rfl) rfl dX11_findTimes_163 rfl ?_
    refine v_top hn0 ?_
    refine v_icmp_ge_f (tgt := 267) (nI_ge (a := j) (b := nc) (by omega) (by omega)) dX11_findTimes_166 (by decide) rfl ?_
    refine v_iload_6 dX11_findTimes_169 rfl ?_
    refine v_if_ne_f (tgt := 267) (by decide) dX11_findTimes_171 (by decide) rfl ?_
    refine v_iconst (v := 0) dX11_findTimes_174 rfl rfl ?_
    refine v_istore_8 dX11_findTimes_175 rfl (zle rfl) rfl ?_
    refine wl_X11_findTimes (w := w) (v0 := v) hM hga hna hf hS hd hn3 hw14 hnc hWy (fun c c' l h hm => (hw c h.1.2.2.1 hm).2.1 c' l h) hvf nw 0 I1 v (by omega) hT ⟨fun c h => ⟨(hB c h).1, Nat.le_refl _⟩, fun q hq => absurd hq (Nat.not_lt_zero q)⟩ (fun I2 v2 n hT2 hA => ?_)
    refine v_iinc_7 (b := nI (j + 1)) dX11_findTimes_261 (nI_1 j) rfl (zle rfl) rfl ?_
    refine v_goto (n := 160) dX11_findTimes_264 (by decide) ?_
    exact ih (j + 1) I2 v2 _ (by omega) hT2 (hB.rd hA) (hB.ct hE hw hnc hA hc) kk
theorem TR.put {I0 I1 : zI} {ta ga S c : Nat} {mv : Nat → Prop} {v : Nat → Nat} {g x : Int32} (h : TR I0 I1 ta ga S c mv v) (hne : ga ≠ ta) (hc : c < 8) (hg : g = zb (mv c)) (hx : x = nI (v c)) : TR I0 (u2 (u2 I1 ga c g) ta (8 * S + c) x) ta ga S (c + 1) mv v := by
  subst hg; subst hx
  refine ⟨fun q hq => ?_, fun q hq => ?_, fun a j h1 h2 => ?_⟩
  · by_cases e : q = c
    · subst e; rw [u2_self]
    · rw [u2_ni (by omega), u2_na (fun e => hne e.symm)]; exact h.1 q (by omega)
  · rw [u2_na hne]
    by_cases e : q = c
    · subst e; rw [u2_self]
    · rw [u2_ni e]; exact h.2.1 q (by omega)
  · rw [show u2 (u2 I1 ga c (zb (mv c))) ta (8 * S + c) (nI (v c)) a j = u2 I1 ga c (zb (mv c)) a j from by
      unfold u2
      rw [if_neg (fun e => h1 ⟨e.1, by omega, by omega⟩)], u2_na h2]
    exact h.2.2 a j h1 h2
theorem co_X11_findTimes {E : zE} {T : zT} {N : zN} {P : zP} {I : zI} {R : zR} {m : Nat} {ad : Nat → Nat} {e np nc nw d S ga : Nat} {s : Prop} {Qf : State → Prop} {K : zK E yX11_findTimes cX11_findTimes 9 none (zrm 2 52 1 8)} (hM : MOK T P m ad) (hga : T ga = (2, 8)) (hna : ¬ ga = ad 39) (hf : ∀ k, k < 32 → zr 11 k = true → ¬ ga = ad k) (hS : S < 4096) (hd : d < 7) (hn3 : N 11 3 m = nI nw) (hw14 : nw ≤ 14) (hnc : nc ≤ 8) (hWy : WyI (mr I ad) nc nw) (hn0 : N 11 0 m = nI nc) (he : e < 4) (hn10 : I (ad 10) e = nI np) (hn12 : np ≤ 12) (hSn : S < 2 ^ np) (hlen : ∀ p, p < np → Nt (I (ad 13) (12 * e + p)) 10) (hP : ∀ S2, S < S2 → S2 < 2 ^ np → ∀ c, c < nc → I (ad 39) (8 * S2 + c) = nI ((tmf (mr I ad) e np nc nw d s) S2 c)) (hO : ovr (mr I ad) e (nI S) np) :
    ∀ k c (I1 : zI) (o8 : Option Value), c + k = nc → TR I I1 (ad 39) ga S c (mvS (mr I ad) e np d S) (fun c => zi ((mvS (mr I ad) e np d S) c) FARn ((tmf (mr I ad) e np nc nw d s) S c)) → (∀ (I2 : zI) (c : Nat) (o8 : Option Value), TR I I2 (ad 39) ga S nc (mvS (mr I ad) e np d S) (fun c => zi ((mvS (mr I ad) e np d S) c) FARn ((tmf (mr I ad) e np nc nw d s) S c)) → V K Qf T N P I2 R 1 8 157 [some (.ref m), some (.int (nI e)), some (.int (nI d)), some (.int (zb s)), some (.ref ga), some (.int (nI S)), some (.int 1), some (.int (nI c)), o8] []) → V K Qf T N P I1 R 1 8 35 [some (.ref m), some (.int (nI e)), some (.int (nI d)), some (.int (zb s)), some (.ref ga), some (.int (nI S)), some (.int 1), some (.int (nI c)), o8] [] := by
  have hok := tmf_ok (r := mr I ad) (e := e) (nw := nw) (d := d) (s := s) hn12 hnc S hSn
  have hF : FARn = 100000000 := rfl
  intro k
  induction k with
  | zero =>
    intro c I1 o8 hc hT kk
    obtain rfl : c = nc := by omega
    refine v_iload_7 dX11_findTimes_35 rfl ?_
    refine v_aload_0 dX11_findTimes_37 rfl ?_
    refine v_getN fl_11_118 (MOK.t hM) rfl (zle rfl) rfl dX11_findTimes_38 rfl ?_
    refine v_top hn0 ?_
    refine v_icmp_ge_t (n := 157) (nI_le (a := c) (b := c) (by omega) (by omega)) dX11_findTimes_41 (by decide) ?_
    exact kk I1 c _ hT
  | succ k ih =>
    intro c I1 o8 hc hT kk
    have hmr := mrTR hM hf hT
    refine v_iload_7 dX11_findTimes_35 rfl ?_
    refine v_aload_0 dX11_findTimes_37 rfl ?_
    refine v_getN fl_11_118 (MOK.t hM) rfl (zle rfl) rfl dX11_findTimes_38 rfl ?_
    refine v_top hn0 ?_
    refine v_icmp_ge_f (tgt := 157) (nI_ge (a := c) (b := nc) (by omega) (by omega)) dX11_findTimes_41 (by decide) rfl ?_
    refine v_iload_6 dX11_findTimes_44 rfl ?_
    refine v_if_eq_f (tgt := 53) (by decide) dX11_findTimes_46 (by decide) rfl ?_
    refine v_iconst (v := -1) dX11_findTimes_49 rfl rfl ?_
    refine v_goto (n := 63) dX11_findTimes_50 (by decide) ?_
    refine v_istore_8 dX11_findTimes_63 rfl (zle rfl) rfl ?_
    refine v_aload_4 dX11_findTimes_65 rfl ?_
    refine v_iload_7 dX11_findTimes_67 rfl ?_
    refine v_iload_6 dX11_findTimes_69 rfl ?_
    refine v_if_ne_t (n := 83) (by decide) dX11_findTimes_71 (by decide) ?_
    refine v_iconst (v := 0) dX11_findTimes_83 rfl rfl ?_
    refine v_zast (j := c) hga rfl (by omega) (zle rfl) rfl dX11_findTimes_84 rfl ?_
    refine v_aload_0 dX11_findTimes_85 rfl ?_
    refine v_getP fl_11_102 (mp_39 hM) (MOK.t hM) rfl (zle rfl) rfl dX11_findTimes_86 rfl ?_
    refine v_iload_7 dX11_findTimes_89 rfl ?_
    refine v_iload_5 dX11_findTimes_91 rfl ?_
    refine v_callS (c_X11_momentOf c S) yy_X11_momentOf st_X11_momentOf lk_11_210 (zle rfl) (zle rfl) (zle rfl) (zle rfl) rfl rfl (zle rfl) dX11_findTimes_93 rfl (zp.use ?_)
    refine v_iload_6 dX11_findTimes_96 rfl ?_
    refine v_if_eq_f (tgt := 105) (by decide) dX11_findTimes_98 (by decide) rfl ?_
    refine v_iconst (v := 0) dX11_findTimes_101 rfl rfl ?_
    refine v_goto (n := 150) dX11_findTimes_102 (by decide) ?_
    refine v_iast (j := 8 * S + c) (ma_39 hM) rfl (by omega) (zle rfl) dX11_findTimes_150 rfl ?_
    refine v_iinc_7 dX11_findTimes_151 (nI_1 c) rfl (zle rfl) rfl ?_
    refine v_goto (n := 35) dX11_findTimes_154 (by decide) ?_
    exact ih (c + 1) _ _ (by omega) (hT.put hna (by omega) (zb_f (fun h => h.1 hO)).symm (show (0 : Int32) = nI (zi ((mvS (mr I ad) e np d S) c) FARn ((tmf (mr I ad) e np nc nw d s) S c)) by rw [zi_f (fun h => h.1 hO), (hok.1 c (by omega)).1 hO]; rfl)) kk
theorem cl_X11_findTimes {E : zE} {T : zT} {N : zN} {P : zP} {I : zI} {R : zR} {m : Nat} {ad : Nat → Nat} {e np nc nw d S ga : Nat} {s : Prop} {Qf : State → Prop} {K : zK E yX11_findTimes cX11_findTimes 9 none (zrm 2 52 1 8)} (hM : MOK T P m ad) (hga : T ga = (2, 8)) (hna : ¬ ga = ad 39) (hf : ∀ k, k < 32 → zr 11 k = true → ¬ ga = ad k) (hS : S < 4096) (hd : d < 7) (hn3 : N 11 3 m = nI nw) (hw14 : nw ≤ 14) (hnc : nc ≤ 8) (hWy : WyI (mr I ad) nc nw) (hn0 : N 11 0 m = nI nc) (he : e < 4) (hn10 : I (ad 10) e = nI np) (hn12 : np ≤ 12) (hSn : S < 2 ^ np) (hlen : ∀ p, p < np → Nt (I (ad 13) (12 * e + p)) 10) (hP : ∀ S2, S < S2 → S2 < 2 ^ np → ∀ c, c < nc → I (ad 39) (8 * S2 + c) = nI ((tmf (mr I ad) e np nc nw d s) S2 c)) (hO : ¬ ovr (mr I ad) e (nI S) np) :
    ∀ k c (I1 : zI) (o8 : Option Value), c + k = nc → TR I I1 (ad 39) ga S c (mvS (mr I ad) e np d S) (fun c => zi ((mvS (mr I ad) e np d S) c) FARn ((tmf (mr I ad) e np nc nw d s) S c)) → (∀ (I2 : zI) (c : Nat) (o8 : Option Value), TR I I2 (ad 39) ga S nc (mvS (mr I ad) e np d S) (fun c => zi ((mvS (mr I ad) e np d S) c) FARn ((tmf (mr I ad) e np nc nw d s) S c)) → V K Qf T N P I2 R 1 8 157 [some (.ref m), some (.int (nI e)), some (.int (nI d)), some (.int (zb s)), some (.ref ga), some (.int (nI S)), some (.int 0), some (.int (nI c)), o8] []) → V K Qf T N P I1 R 1 8 35 [some (.ref m), some (.int (nI e)), some (.int (nI d)), some (.int (zb s)), some (.ref ga), some (.int (nI S)), some (.int 0), some (.int (nI c)), o8] [] := by
  have hok := tmf_ok (r := mr I ad) (e := e) (nw := nw) (d := d) (s := s) hn12 hnc S hSn
  have hF : FARn = 100000000 := rfl
  intro k
  induction k with
  | zero =>
    intro c I1 o8 hc hT kk
    obtain rfl : c = nc := by omega
    refine v_iload_7 dX11_findTimes_35 rfl ?_
    refine v_aload_0 dX11_findTimes_37 rfl ?_
    refine v_getN fl_11_118 (MOK.t hM) rfl (zle rfl) rfl dX11_findTimes_38 rfl ?_
    refine v_top hn0 ?_
    refine v_icmp_ge_t (n := 157) (nI_le (a := c) (b := c) (by omega) (by omega)) dX11_findTimes_41 (by decide) ?_
    exact kk I1 c _ hT
  | succ k ih =>
    intro c I1 o8 hc hT kk
    have hmr := mrTR hM hf hT
    refine v_iload_7 dX11_findTimes_35 rfl ?_
    refine v_aload_0 dX11_findTimes_37 rfl ?_
    refine v_getN fl_11_118 (MOK.t hM) rfl (zle rfl) rfl dX11_findTimes_38 rfl ?_
    refine v_top hn0 ?_
    refine v_icmp_ge_f (tgt := 157) (nI_ge (a := c) (b := nc) (by omega) (by omega)) dX11_findTimes_41 (by decide) rfl ?_
    refine v_iload_6 dX11_findTimes_44 rfl ?_
    refine v_if_eq_t (n := 53) (by decide) dX11_findTimes_46 (by decide) ?_
    refine v_aload_0 dX11_findTimes_53 rfl ?_
    refine v_iload_1 dX11_findTimes_54 rfl ?_
    refine v_iload_7 dX11_findTimes_55 rfl ?_
    refine v_iload_5 dX11_findTimes_57 rfl ?_
    refine v_iload_2 dX11_findTimes_59 rfl ?_
    refine v_callV (ci := 11) (F := TX11) (c_X11_nextPiece (I := I1) m ad e np d (nI c) (nI S) hM ((congrFun (congrFun hmr 10) e : I1 (ad 10) e = I (ad 10) e).trans hn10) hn12 he hd) yy_X11_nextPiece im_X11_nextPiece se_X11_nextPiece lk_11_206 (MOK.t hM) (zle rfl) rfl (zle rfl) (zle rfl) (zle rfl) (zle rfl) rfl rfl (zle rfl) dX11_findTimes_60 rfl (zp.use ?_)
    rw [hmr]
    rcases nxv_or (canP (mr I ad) e (nI c) (nI S) d) 0 np with ⟨g1, g2⟩ | ⟨p, g0, g1, g2, g3, g4⟩
    · refine v_top g1 ?_
      refine v_istore_8 dX11_findTimes_63 rfl (zle rfl) rfl ?_
      refine v_aload_4 dX11_findTimes_65 rfl ?_
      refine v_iload_7 dX11_findTimes_67 rfl ?_
      refine v_iload_6 dX11_findTimes_69 rfl ?_
      refine v_if_ne_f (tgt := 83) (by decide) dX11_findTimes_71 (by decide) rfl ?_
      refine v_iload_8 dX11_findTimes_74 rfl ?_
      refine v_if_ge_f (tgt := 83) (by decide) dX11_findTimes_76 (by decide) rfl ?_
      refine v_iconst (v := 1) dX11_findTimes_79 rfl rfl ?_
      refine v_goto (n := 84) dX11_findTimes_80 (by decide) ?_
      refine v_zast (j := c) hga rfl (by omega) (zle rfl) rfl dX11_findTimes_84 rfl ?_
      refine v_aload_0 dX11_findTimes_85 rfl ?_
      refine v_getP fl_11_102 (mp_39 hM) (MOK.t hM) rfl (zle rfl) rfl dX11_findTimes_86 rfl ?_
      refine v_iload_7 dX11_findTimes_89 rfl ?_
      refine v_iload_5 dX11_findTimes_91 rfl ?_
      refine v_callS (c_X11_momentOf c S) yy_X11_momentOf st_X11_momentOf lk_11_210 (zle rfl) (zle rfl) (zle rfl) (zle rfl) rfl rfl (zle rfl) dX11_findTimes_93 rfl (zp.use ?_)
      refine v_iload_6 dX11_findTimes_96 rfl ?_
      refine v_if_eq_t (n := 105) (by decide) dX11_findTimes_98 (by decide) ?_
      refine v_iload_8 dX11_findTimes_105 rfl ?_
      refine v_if_ge_f (tgt := 115) (by decide) dX11_findTimes_107 (by decide) rfl ?_
      refine v_ldc dX11_findTimes_110 kc_11_147 rfl ?_
      refine v_goto (n := 150) dX11_findTimes_112 (by decide) ?_
      refine v_iast (j := 8 * S + c) (ma_39 hM) rfl (by omega) (zle rfl) dX11_findTimes_150 rfl ?_
      refine v_iinc_7 dX11_findTimes_151 (nI_1 c) rfl (zle rfl) rfl ?_
      refine v_goto (n := 35) dX11_findTimes_154 (by decide) ?_
      have hm : (mvS (mr I ad) e np d S) c := ⟨hO, fun q hq => g2 q (Nat.zero_le _) hq⟩
      exact ih (c + 1) _ _ (by omega) (hT.put hna (by omega) (zb_t hm).symm (show (100000000 : Int32) = nI (zi ((mvS (mr I ad) e np d S) c) FARn ((tmf (mr I ad) e np nc nw d s) S c)) by rw [zi_t hm]; rfl)) kk
    · refine v_top g4 ?_
      have hx : nxS (mr I ad) e np d S c p := ⟨g1, g2, fun q hq => g3 q (Nat.zero_le _) hq⟩
      have hup := nx_up hx hn12 hSn
      have h12 : 2 ^ np ≤ 2 ^ 12 := Nat.pow_le_pow_right (by decide) hn12
      have hl := hlen p g1
      have hlb : lnP (mr I ad) e p < 10 := hl.2
      have htf := tmf_far (r := mr I ad) (e := e) (nw := nw) (d := d) (s := s) hn12 hnc hup.2.1 (show c < nc by omega)
      refine v_istore_8 dX11_findTimes_63 rfl (zle rfl) rfl ?_
      refine v_aload_4 dX11_findTimes_65 rfl ?_
      refine v_iload_7 dX11_findTimes_67 rfl ?_
      refine v_iload_6 dX11_findTimes_69 rfl ?_
      refine v_if_ne_f (tgt := 83) (by decide) dX11_findTimes_71 (by decide) rfl ?_
      refine v_iload_8 dX11_findTimes_74 rfl ?_
      refine v_if_ge_t (n := 83) (nI_pos' (by omega)) dX11_findTimes_76 (by decide) ?_
      refine v_iconst (v := 0) dX11_findTimes_83 rfl rfl ?_
      refine v_zast (j := c) hga rfl (by omega) (zle rfl) rfl dX11_findTimes_84 rfl ?_
      refine v_aload_0 dX11_findTimes_85 rfl ?_
      refine v_getP fl_11_102 (mp_39 hM) (MOK.t hM) rfl (zle rfl) rfl dX11_findTimes_86 rfl ?_
      refine v_iload_7 dX11_findTimes_89 rfl ?_
      refine v_iload_5 dX11_findTimes_91 rfl ?_
      refine v_callS (c_X11_momentOf c S) yy_X11_momentOf st_X11_momentOf lk_11_210 (zle rfl) (zle rfl) (zle rfl) (zle rfl) rfl rfl (zle rfl) dX11_findTimes_93 rfl (zp.use ?_)
      refine v_iload_6 dX11_findTimes_96 rfl ?_
      refine v_if_eq_t (n := 105) (by decide) dX11_findTimes_98 (by decide) ?_
      refine v_iload_8 dX11_findTimes_105 rfl ?_
      refine v_if_ge_t (n := 115) (nI_pos' (by omega)) dX11_findTimes_107 (by decide) ?_
      refine v_ldc dX11_findTimes_115 kc_11_147 rfl ?_
      refine v_aload_0 dX11_findTimes_117 rfl ?_
      refine v_getP fl_11_41 (mp_13 hM) (MOK.t hM) rfl (zle rfl) rfl dX11_findTimes_118 rfl ?_
      refine v_bipush (v := 12) dX11_findTimes_121 rfl rfl ?_
      refine v_iload_1 dX11_findTimes_123 rfl ?_
      refine v_imul dX11_findTimes_124 rfl ?_
      refine v_iload_8 dX11_findTimes_125 rfl ?_
      refine v_iadd dX11_findTimes_127 rfl ?_
      refine v_top (i12 e p) ?_
      refine v_iald (j := 12 * e + p) (ma_13 hM) rfl (by omega) (zle rfl) dX11_findTimes_128 rfl ?_
      refine v_top (show u2 I1 ga c 0 (ad 13) (12 * e + p) = nI (lnP (mr I ad) e p) by rw [u2_na (fun e => hf 13 (by decide) rfl e.symm)]; exact (congrFun (congrFun hmr 13) (12 * e + p) : I1 (ad 13) (12 * e + p) = I (ad 13) (12 * e + p)).trans hl.1) ?_
      refine v_aload_0 dX11_findTimes_129 rfl ?_
      refine v_getP fl_11_102 (mp_39 hM) (MOK.t hM) rfl (zle rfl) rfl dX11_findTimes_130 rfl ?_
      refine v_iload_7 dX11_findTimes_133 rfl ?_
      refine v_iload_5 dX11_findTimes_135 rfl ?_
      refine v_iconst (v := 1) dX11_findTimes_137 rfl rfl ?_
      refine v_iload_8 dX11_findTimes_138 rfl ?_
      refine v_ishl dX11_findTimes_140 rfl ?_
      refine v_ior dX11_findTimes_141 rfl ?_
      refine v_top hup.2.2 ?_
      refine v_callS (c_X11_momentOf c (S ||| 2 ^ p)) yy_X11_momentOf st_X11_momentOf lk_11_210 (zle rfl) (zle rfl) (zle rfl) (zle rfl) rfl rfl (zle rfl) dX11_findTimes_142 rfl (zp.use ?_)
      refine v_iald (j := 8 * (S ||| 2 ^ p) + c) (ma_39 hM) rfl (by omega) (zle rfl) dX11_findTimes_145 rfl ?_
      refine v_top (show u2 I1 ga c 0 (ad 39) (8 * (S ||| 2 ^ p) + c) = nI ((tmf (mr I ad) e np nc nw d s) (S ||| 2 ^ p) c) by rw [u2_na (fun e => hna e.symm), hT.2.2 (ad 39) _ (fun h => by omega) (fun e => hna e.symm)]; exact hP _ hup.1 hup.2.1 c (by omega)) ?_
      refine v_iadd dX11_findTimes_146 rfl ?_
      refine v_top (nI_add _ _) ?_
      refine v_min lk_11_152 st_min ii_math cd_min (zle rfl) (zle rfl) (zle rfl) (zle rfl) dX11_findTimes_147 rfl ?_
      refine v_top (nI_min (a := FARn) (by omega) (by omega)) ?_
      refine v_iast (j := 8 * S + c) (ma_39 hM) rfl (by omega) (zle rfl) dX11_findTimes_150 rfl ?_
      refine v_iinc_7 dX11_findTimes_151 (nI_1 c) rfl (zle rfl) rfl ?_
      refine v_goto (n := 35) dX11_findTimes_154 (by decide) ?_
      have hm : ¬ (mvS (mr I ad) e np d S) c := fun h => h.2 p g1 g2
      exact ih (c + 1) _ _ (by omega) (hT.put hna (by omega) (zb_f hm).symm (show _ = nI (zi ((mvS (mr I ad) e np d S) c) FARn ((tmf (mr I ad) e np nc nw d s) S c)) by rw [zi_f hm, (hok.1 c (by omega)).2 hO p hx])) kk
