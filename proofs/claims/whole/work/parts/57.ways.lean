theorem nI_min {a b : Nat} (ha : a < 2 ^ 31) (hb : b < 2 ^ 31) : (if nI b < nI a then nI b else nI a) = nI (min a b) := by
  by_cases h : b < a
  · rw [if_pos (by rw [Int32.lt_iff_toInt_lt, nI_toInt ha, nI_toInt hb]; omega), show min a b = b by omega]
  · rw [if_neg (by rw [Int32.lt_iff_toInt_lt, nI_toInt ha, nI_toInt hb]; omega), show min a b = a by omega]
/-- one step's look -/
noncomputable def rlx (mv : Nat → Prop) (v : Nat → Nat) (x y l : Nat) : Nat → Nat := zi (mv x) (u1 v x (min (v x) (l + v y))) v
theorem rlx_le {mv : Nat → Prop} {v : Nat → Nat} {x y l c : Nat} : rlx mv v x y l c ≤ v c := by
  unfold rlx
  by_cases h : mv x
  · rw [zi_t h]
    by_cases hc : c = x
    · subst hc; rw [u1_self]; exact Nat.min_le_left _ _
    · rw [u1_na hc]; exact Nat.le_refl _
  · rw [zi_f h]; exact Nat.le_refl _
theorem rlx_ge {mv : Nat → Prop} {v w : Nat → Nat} {x y l c : Nat} (h : mv x → w x ≤ l + w y) (hx : w x ≤ v x) (hy : w y ≤ v y) (hc : w c ≤ v c) : w c ≤ rlx mv v x y l c := by
  unfold rlx
  by_cases hm : mv x
  · rw [zi_t hm]
    by_cases hcx : c = x
    · subst hcx; rw [u1_self]; have := h hm; omega
    · rw [u1_na hcx]; exact hc
  · rw [zi_f hm]; exact hc
theorem rlx_hit {mv : Nat → Prop} {v : Nat → Nat} {x y l : Nat} (h : mv x) : rlx mv v x y l x ≤ l + v y := by
  unfold rlx
  rw [zi_t h, u1_self]
  exact Nat.min_le_right _ _
/-- the times of one set in the rows, and what else is there -/
def TR (I0 I1 : zI) (ta ga S nc : Nat) (mv : Nat → Prop) (v : Nat → Nat) : Prop := (∀ c, c < nc → I1 ta (8 * S + c) = nI (v c)) ∧ (∀ c, c < nc → I1 ga c = zb (mv c)) ∧ ∀ a j, ¬ (a = ta ∧ 8 * S ≤ j ∧ j < 8 * S + 8) → a ≠ ga → I1 a j = I0 a j
theorem TR.rx {I0 I1 : zI} {ta ga S nc : Nat} {mv : Nat → Prop} {v : Nat → Nat} (h : TR I0 I1 ta ga S nc mv v) (hne : ga ≠ ta) (hnc : nc ≤ 8) {x : Nat} (y l : Nat) (hx : x < nc) : TR I0 (zi (mv x) (u2 I1 ta (8 * S + x) (nI (min (v x) (l + v y)))) I1) ta ga S nc mv (rlx mv v x y l) := by
  unfold rlx
  by_cases hm : mv x
  · rw [zi_t hm, zi_t hm]
    refine ⟨fun c hc => ?_, fun c hc => by rw [u2_na hne]; exact h.2.1 c hc, fun a j h1 h2 => ?_⟩
    · by_cases hcx : c = x
      · subst hcx; rw [u2_self, u1_self]
      · rw [u2_ni (by omega), u1_na hcx]; exact h.1 c hc
    · by_cases hj : a = ta ∧ j = 8 * S + x
      · exact absurd ⟨hj.1, by omega, by omega⟩ h1
      · rw [show u2 I1 ta (8 * S + x) (nI (min (v x) (l + v y))) a j = I1 a j from by unfold u2; rw [if_neg hj]]; exact h.2.2 a j h1 h2
  · rw [zi_f hm, zi_f hm]; exact h
theorem i8 (S c : Nat) : 8 * nI S + nI c = nI (8 * S + c) := by rw [show (8 : Int32) = nI 8 from rfl, pk_mul, nI_add]
theorem c_X11_momentOf {E : zE} {T : zT} {N : zN} {P : zP} {I : zI} {R : zR} (c S : Nat) : zC E yX11_momentOf cX11_momentOf 2 (some .int) (zr0 0 0) [.int (nI c), .int (nI S)] T N P I R (zp (nI (8 * S + c)) T N P I R) := by
  refine zC.intro (ls := [some (.int (nI c)), some (.int (nI S))]) pl_RX11 (zle rfl) 0 rfl (fun K => ?_)
  refine v_bipush (v := 8) dX11_momentOf_0 rfl rfl ?_
  refine v_iload_1 dX11_momentOf_2 rfl ?_
  refine v_imul dX11_momentOf_3 rfl ?_
  refine v_iload_0 dX11_momentOf_4 rfl ?_
  refine v_iadd dX11_momentOf_5 rfl ?_
  refine v_top (i8 S c) ?_
  exact v_ireturn rfl (zp.rf) (zle rfl) (zle rfl) dX11_momentOf_6
theorem c_X11_comesNearer {E : zE} {T : zT} {N : zN} {P : zP} {I : zI} {R : zR} (m : Nat) (ad : Nat → Nat) (ga S x y l a b : Nat) (g : Prop) (hM : MOK T P m ad) (hga : T ga = (2, 8)) (hS : S < 4096) (hx : x < 8) (hy : y < 8) (hg : I ga x = zb g) (ha : I (ad 39) (8 * S + x) = nI a) (hb : I (ad 39) (8 * S + y) = nI b) (hal : a < 2 ^ 30) (hbl : b < 2 ^ 30) (hl : l < 2 ^ 20) : zC E yX11_comesNearer cX11_comesNearer 6 none (zr0 1 21) [.ref m, .ref ga, .int (nI S), .int (nI x), .int (nI y), .int (nI l)] T N P I R (zv T N P (zi g (u2 I (ad 39) (8 * S + x) (nI (min a (l + b)))) I) R) := by
  refine zC.intro (ls := [some (.ref m), some (.ref ga), some (.int (nI S)), some (.int (nI x)), some (.int (nI y)), some (.int (nI l))]) pl_RX11 (zle rfl) 0 rfl (fun K => ?_)
  refine v_aload_1 dX11_comesNearer_0 rfl ?_
  refine v_iload_3 dX11_comesNearer_1 rfl ?_
  refine v_zald (j := x) hga rfl (by omega) (zle rfl) dX11_comesNearer_2 rfl ?_
  refine v_top hg ?_
  refine v_ifz_eq (tgt := 43) dX11_comesNearer_3 (by decide) rfl (fun c3 => ?_) (fun c3 => ?_)
  · exact v_return rfl (by rw [zi_f c3]; exact zv.rf) (zle rfl) (zle rfl) dX11_comesNearer_43
  · refine v_aload_0 dX11_comesNearer_6 rfl ?_
    refine v_getP fl_11_102 (mp_39 hM) (MOK.t hM) rfl (zle rfl) rfl dX11_comesNearer_7 rfl ?_
    refine v_iload_3 dX11_comesNearer_10 rfl ?_
    refine v_iload_2 dX11_comesNearer_11 rfl ?_
    refine v_callS (c_X11_momentOf x S) yy_X11_momentOf st_X11_momentOf lk_11_210 (zle rfl) (zle rfl) (zle rfl) (zle rfl) rfl rfl (zle rfl) dX11_comesNearer_12 rfl (zp.use ?_)
    refine v_aload_0 dX11_comesNearer_15 rfl ?_
    refine v_getP fl_11_102 (mp_39 hM) (MOK.t hM) rfl (zle rfl) rfl dX11_comesNearer_16 rfl ?_
    refine v_iload_3 dX11_comesNearer_19 rfl ?_
    refine v_iload_2 dX11_comesNearer_20 rfl ?_
    refine v_callS (c_X11_momentOf x S) yy_X11_momentOf st_X11_momentOf lk_11_210 (zle rfl) (zle rfl) (zle rfl) (zle rfl) rfl rfl (zle rfl) dX11_comesNearer_21 rfl (zp.use ?_)
    refine v_iald (j := 8 * S + x) (ma_39 hM) rfl (by omega) (zle rfl) dX11_comesNearer_24 rfl ?_
    refine v_top ha ?_
    refine v_iload_5 dX11_comesNearer_25 rfl ?_
    refine v_aload_0 dX11_comesNearer_27 rfl ?_
    refine v_getP fl_11_102 (mp_39 hM) (MOK.t hM) rfl (zle rfl) rfl dX11_comesNearer_28 rfl ?_
    refine v_iload_4 dX11_comesNearer_31 rfl ?_
    refine v_iload_2 dX11_comesNearer_33 rfl ?_
    refine v_callS (c_X11_momentOf y S) yy_X11_momentOf st_X11_momentOf lk_11_210 (zle rfl) (zle rfl) (zle rfl) (zle rfl) rfl rfl (zle rfl) dX11_comesNearer_34 rfl (zp.use ?_)
    refine v_iald (j := 8 * S + y) (ma_39 hM) rfl (by omega) (zle rfl) dX11_comesNearer_37 rfl ?_
    refine v_top hb ?_
    refine v_iadd dX11_comesNearer_38 rfl ?_
    refine v_top (nI_add l b) ?_
    refine v_min lk_11_152 st_min ii_math cd_min (zle rfl) (zle rfl) (zle rfl) (zle rfl) dX11_comesNearer_39 rfl ?_
    refine v_top (nI_min (by omega) (by omega)) ?_
    refine v_iast (j := 8 * S + x) (ma_39 hM) rfl (by omega) (zle rfl) dX11_comesNearer_42 rfl ?_
    exact v_return rfl (by rw [zi_t c3]; exact zv.rf) (zle rfl) (zle rfl) dX11_comesNearer_43
/-- what a part of a round has done -/
def RA1 (r : zg) (nc nw d : Nat) (s : Prop) (mv : Nat → Prop) (w v0 v : Nat → Nat) (n : Nat) : Prop := (∀ c, c < nc → w c ≤ v c ∧ v c ≤ v0 c) ∧ ∀ q, q < n → opn r d s q → (mv (tn (r 4 q)) → v (tn (r 4 q)) ≤ tn (r 6 q) + v0 (tn (r 5 q))) ∧ (mv (tn (r 5 q)) → v (tn (r 5 q)) ≤ tn (r 6 q) + v0 (tn (r 4 q)))
theorem RA1.no {r : zg} {nc nw d : Nat} {s : Prop} {mv : Nat → Prop} {w v0 v : Nat → Nat} {n : Nat} (h : RA1 r nc nw d s mv w v0 v n) (ho : ¬ opn r d s n) : RA1 r nc nw d s mv w v0 v (n + 1) := ⟨h.1, fun q hq h2 => by
  rcases (show q < n ∨ q = n by omega) with k | k
  · exact h.2 q k h2
  · subst k; exact absurd h2 ho⟩
theorem RA1.ye {r : zg} {nc nw d : Nat} {s : Prop} {mv : Nat → Prop} {w v0 v : Nat → Nat} {n : Nat} (h : RA1 r nc nw d s mv w v0 v n) (ho : opn r d s n) (hW : WyI r nc nw) (hn : n < nw) (hw : ∀ c c' l, edg r nc nw d s c c' l → mv c → w c ≤ l + w c') : RA1 r nc nw d s mv w v0 (rlx mv (rlx mv v (tn (r 4 n)) (tn (r 5 n)) (tn (r 6 n))) (tn (r 5 n)) (tn (r 4 n)) (tn (r 6 n))) (n + 1) := by
  obtain ⟨w1, w2, w3, w4, w5⟩ := hW n hn
  have hed := hW.ed (d := d) (s := s) hn ho
  have x1 := h.1 _ w1.2
  have y1 := h.1 _ w2.2
  have g1 : ∀ c, c < nc → w c ≤ rlx mv v (tn (r 4 n)) (tn (r 5 n)) (tn (r 6 n)) c := fun c hc => rlx_ge (fun hm => hw _ _ _ hed hm) x1.1 y1.1 (h.1 c hc).1
  refine ⟨fun c hc => ⟨rlx_ge (fun hm => hw _ _ _ hed.sy hm) (g1 _ w2.2) (g1 _ w1.2) (g1 c hc), Nat.le_trans rlx_le (Nat.le_trans rlx_le (h.1 c hc).2)⟩, fun q hq h2 => ?_⟩
  rcases (show q < n ∨ q = n by omega) with k | k
  · obtain ⟨b1, b2⟩ := h.2 q k h2
    exact ⟨fun hm => Nat.le_trans rlx_le (Nat.le_trans rlx_le (b1 hm)), fun hm => Nat.le_trans rlx_le (Nat.le_trans rlx_le (b2 hm))⟩
  · subst k
    refine ⟨fun hm => Nat.le_trans rlx_le (Nat.le_trans (rlx_hit hm) (by have := y1.2; omega)), fun hm => Nat.le_trans (rlx_hit hm) ?_⟩
    have a1 := rlx_le (mv := mv) (v := v) (x := tn (r 4 q)) (y := tn (r 5 q)) (l := tn (r 6 q)) (c := tn (r 4 q))
    have a2 := x1.2
    omega
theorem mrTR {T : zT} {P : zP} {m : Nat} {I I1 : zI} {ad : Nat → Nat} {ga S nc : Nat} {mv : Nat → Prop} {v : Nat → Nat} (hM : MOK T P m ad) (hf : ∀ k, k < 32 → zr 11 k = true → ¬ ga = ad k) (h : TR I I1 (ad 39) ga S nc mv v) : mr I1 ad = mr I ad := by
  funext k j
  unfold mr
  by_cases hk : k < 32 ∧ zr 11 k = true
  · rw [if_pos hk, if_pos hk]
    exact h.2.2 (ad k) j (fun e => hM.ne (by omega) (by decide) hk.2 rfl (by omega) e.1) (fun e => hf k hk.1 hk.2 e.symm)
  · rw [if_neg hk, if_neg hk]
theorem wl_X11_findTimes {E : zE} {T : zT} {N : zN} {P : zP} {I : zI} {R : zR} {m : Nat} {ad : Nat → Nat} {e np nc nw d S ga : Nat} {s : Prop} {Qf : State → Prop} {w v0 : Nat → Nat} {o6 : Option Value} {j7 : Int32} {K : zK E yX11_findTimes cX11_findTimes 9 none (zrm 2 52 1 8)} (hM : MOK T P m ad) (hga : T ga = (2, 8)) (hna : ¬ ga = ad 39) (hf : ∀ k, k < 32 → zr 11 k = true → ¬ ga = ad k) (hS : S < 4096) (hd : d < 7) (hn3 : N 11 3 m = nI nw) (hw14 : nw ≤ 14) (hnc : nc ≤ 8) (hWy : WyI (mr I ad) nc nw) (hw : ∀ c c' l, (edg (mr I ad) nc nw d s) c c' l → (mvS (mr I ad) e np d S) c → w c ≤ l + w c') (hv0 : ∀ c, c < nc → v0 c ≤ FARn) :
    ∀ k n (I1 : zI) (v : Nat → Nat), n + k = nw → TR I I1 (ad 39) ga S nc (mvS (mr I ad) e np d S) v → RA1 (mr I ad) nc nw d s (mvS (mr I ad) e np d S) w v0 v n → (∀ (I2 : zI) (v2 : Nat → Nat) (n : Nat), TR I I2 (ad 39) ga S nc (mvS (mr I ad) e np d S) v2 → RA1 (mr I ad) nc nw d s (mvS (mr I ad) e np d S) w v0 v2 nw → V K Qf T N P I2 R 1 8 261 [some (.ref m), some (.int (nI e)), some (.int (nI d)), some (.int (zb s)), some (.ref ga), some (.int (nI S)), o6, some (.int j7), some (.int (nI n))] []) → V K Qf T N P I1 R 1 8 177 [some (.ref m), some (.int (nI e)), some (.int (nI d)), some (.int (zb s)), some (.ref ga), some (.int (nI S)), o6, some (.int j7), some (.int (nI n))] [] := by
  intro k
  induction k with
  | zero =>
    intro n I1 v hn hT hA kk
    obtain rfl : n = nw := by omega
    refine v_iload_8 dX11_findTimes_177 rfl ?_
    refine v_aload_0 dX11_findTimes_179 rfl ?_
    refine v_getN fl_11_125 (MOK.t hM) rfl (zle rfl) rfl dX11_findTimes_180 rfl ?_
    refine v_top hn3 ?_
    refine v_icmp_ge_t (n := 261) (nI_le (a := n) (b := n) (by omega) (by omega)) dX11_findTimes_183 (by decide) ?_
    exact kk I1 v n hT hA
  | succ k ih =>
    intro n I1 v hn hT hA kk
    have hmr := mrTR hM hf hT
    obtain ⟨w1, w2, w3, w4, w5⟩ := hWy n (by omega)
    have w1b := w1.2
    have w2b := w2.2
    have w3b := w3.2
    have e4 : I1 (ad 4) n = nI (tn (mr I ad 4 n)) := (congrFun (congrFun hmr 4) n : I1 (ad 4) n = I (ad 4) n).trans w1.1
    have e5 : I1 (ad 5) n = nI (tn (mr I ad 5 n)) := (congrFun (congrFun hmr 5) n : I1 (ad 5) n = I (ad 5) n).trans w2.1
    have e6 : I1 (ad 6) n = nI (tn (mr I ad 6 n)) := (congrFun (congrFun hmr 6) n : I1 (ad 6) n = I (ad 6) n).trans w3.1
    have bx := hA.1 _ w1b
    have by' := hA.1 _ w2b
    have fx := hv0 _ w1b
    have fy := hv0 _ w2b
    have hF : FARn = 100000000 := rfl
    refine v_iload_8 dX11_findTimes_177 rfl ?_
    refine v_aload_0 dX11_findTimes_179 rfl ?_
    refine v_getN fl_11_125 (MOK.t hM) rfl (zle rfl) rfl dX11_findTimes_180 rfl ?_
    refine v_top hn3 ?_
    refine v_icmp_ge_f (tgt := 261) (nI_ge (a := n) (b := nw) (by omega) (by omega)) dX11_findTimes_183 (by decide) rfl ?_
    refine v_aload_0 dX11_findTimes_186 rfl ?_
    refine v_iload_8 dX11_findTimes_187 rfl ?_
    refine v_iload_2 dX11_findTimes_189 rfl ?_
    refine v_iload_3 dX11_findTimes_190 rfl ?_
    refine v_callV (ci := 11) (F := TX11) (c_X11_isOpen (I := I1) m ad n d s hM (by omega) hd) yy_X11_isOpen im_X11_isOpen se_X11_isOpen lk_11_148 (MOK.t hM) (zle rfl) rfl (zle rfl) (zle rfl) (zle rfl) (zle rfl) rfl rfl (zle rfl) dX11_findTimes_191 rfl (zp.use ?_)
    rw [hmr]
    refine v_ifz_eq (tgt := 255) dX11_findTimes_194 (by decide) rfl (fun c194 => ?_) (fun c194 => ?_)
    · refine v_iinc_8 dX11_findTimes_255 (nI_1 n) rfl (zle rfl) rfl ?_
      refine v_goto (n := 177) dX11_findTimes_258 (by decide) ?_
      exact ih (n + 1) I1 v (by omega) hT (hA.no c194) kk
    · refine v_aload_0 dX11_findTimes_197 rfl ?_
      refine v_aload_4 dX11_findTimes_198 rfl ?_
      refine v_iload_5 dX11_findTimes_200 rfl ?_
      refine v_aload_0 dX11_findTimes_202 rfl ?_
      refine v_getP fl_11_16 (mp_4 hM) (MOK.t hM) rfl (zle rfl) rfl dX11_findTimes_203 rfl ?_
      refine v_iload_8 dX11_findTimes_206 rfl ?_
      refine v_iald (j := n) (ma_4 hM) rfl (by omega) (zle rfl) dX11_findTimes_208 rfl ?_
      refine v_top e4 ?_
      refine v_aload_0 dX11_findTimes_209 rfl ?_
      refine v_getP fl_11_19 (mp_5 hM) (MOK.t hM) rfl (zle rfl) rfl dX11_findTimes_210 rfl ?_
      refine v_iload_8 dX11_findTimes_213 rfl ?_
      refine v_iald (j := n) (ma_5 hM) rfl (by omega) (zle rfl) dX11_findTimes_215 rfl ?_
      refine v_top e5 ?_
      refine v_aload_0 dX11_findTimes_216 rfl ?_
      refine v_getP fl_11_22 (mp_6 hM) (MOK.t hM) rfl (zle rfl) rfl dX11_findTimes_217 rfl ?_
      refine v_iload_8 dX11_findTimes_220 rfl ?_
      refine v_iald (j := n) (ma_6 hM) rfl (by omega) (zle rfl) dX11_findTimes_222 rfl ?_
      refine v_top e6 ?_
      refine v_callV (ci := 11) (F := TX11) (c_X11_comesNearer (I := I1) m ad ga S (tn (mr I ad 4 n)) (tn (mr I ad 5 n)) (tn (mr I ad 6 n)) (v (tn (mr I ad 4 n))) (v (tn (mr I ad 5 n))) ((mvS (mr I ad) e np d S) (tn (mr I ad 4 n))) hM hga hS (by omega) (by omega) (hT.2.1 _ w1b) (hT.1 _ w1b) (hT.1 _ w2b) (by omega) (by omega) (by omega)) yy_X11_comesNearer im_X11_comesNearer se_X11_comesNearer lk_11_213 (MOK.t hM) (zle rfl) rfl (zle rfl) (zle rfl) (zle rfl) (zle rfl) rfl rfl (zle rfl) dX11_findTimes_223 rfl (zv.use ?_)
      have hT2 := hT.rx hna hnc (tn (mr I ad 5 n)) (tn (mr I ad 6 n)) w1b
      have l1 := rlx_le (mv := (mvS (mr I ad) e np d S)) (v := v) (x := (tn (mr I ad 4 n))) (y := (tn (mr I ad 5 n))) (l := (tn (mr I ad 6 n))) (c := (tn (mr I ad 4 n)))
      have l2 := rlx_le (mv := (mvS (mr I ad) e np d S)) (v := v) (x := (tn (mr I ad 4 n))) (y := (tn (mr I ad 5 n))) (l := (tn (mr I ad 6 n))) (c := (tn (mr I ad 5 n)))
      have hmr2 := mrTR hM hf hT2
      have f4 : (zi ((mvS (mr I ad) e np d S) (tn (mr I ad 4 n))) (u2 I1 (ad 39) (8 * S + (tn (mr I ad 4 n))) (nI (min (v (tn (mr I ad 4 n))) ((tn (mr I ad 6 n)) + v (tn (mr I ad 5 n)))))) I1) (ad 4) n = nI (tn (mr I ad 4 n)) := (congrFun (congrFun hmr2 4) n : (zi ((mvS (mr I ad) e np d S) (tn (mr I ad 4 n))) (u2 I1 (ad 39) (8 * S + (tn (mr I ad 4 n))) (nI (min (v (tn (mr I ad 4 n))) ((tn (mr I ad 6 n)) + v (tn (mr I ad 5 n)))))) I1) (ad 4) n = I (ad 4) n).trans w1.1
      have f5 : (zi ((mvS (mr I ad) e np d S) (tn (mr I ad 4 n))) (u2 I1 (ad 39) (8 * S + (tn (mr I ad 4 n))) (nI (min (v (tn (mr I ad 4 n))) ((tn (mr I ad 6 n)) + v (tn (mr I ad 5 n)))))) I1) (ad 5) n = nI (tn (mr I ad 5 n)) := (congrFun (congrFun hmr2 5) n : (zi ((mvS (mr I ad) e np d S) (tn (mr I ad 4 n))) (u2 I1 (ad 39) (8 * S + (tn (mr I ad 4 n))) (nI (min (v (tn (mr I ad 4 n))) ((tn (mr I ad 6 n)) + v (tn (mr I ad 5 n)))))) I1) (ad 5) n = I (ad 5) n).trans w2.1
      have f6 : (zi ((mvS (mr I ad) e np d S) (tn (mr I ad 4 n))) (u2 I1 (ad 39) (8 * S + (tn (mr I ad 4 n))) (nI (min (v (tn (mr I ad 4 n))) ((tn (mr I ad 6 n)) + v (tn (mr I ad 5 n)))))) I1) (ad 6) n = nI (tn (mr I ad 6 n)) := (congrFun (congrFun hmr2 6) n : (zi ((mvS (mr I ad) e np d S) (tn (mr I ad 4 n))) (u2 I1 (ad 39) (8 * S + (tn (mr I ad 4 n))) (nI (min (v (tn (mr I ad 4 n))) ((tn (mr I ad 6 n)) + v (tn (mr I ad 5 n)))))) I1) (ad 6) n = I (ad 6) n).trans w3.1
      refine v_aload_0 dX11_findTimes_226 rfl ?_
      refine v_aload_4 dX11_findTimes_227 rfl ?_
      refine v_iload_5 dX11_findTimes_229 rfl ?_
      refine v_aload_0 dX11_findTimes_231 rfl ?_
      refine v_getP fl_11_19 (mp_5 hM) (MOK.t hM) rfl (zle rfl) rfl dX11_findTimes_232 rfl ?_
      refine v_iload_8 dX11_findTimes_235 rfl ?_
      refine v_iald (j := n) (ma_5 hM) rfl (by omega) (zle rfl) dX11_findTimes_237 rfl ?_
      refine v_top f5 ?_
      refine v_aload_0 dX11_findTimes_238 rfl ?_
      refine v_getP fl_11_16 (mp_4 hM) (MOK.t hM) rfl (zle rfl) rfl dX11_findTimes_239 rfl ?_
      refine v_iload_8 dX11_findTimes_242 rfl ?_
      refine v_iald (j := n) (ma_4 hM) rfl (by omega) (zle rfl) dX11_findTimes_244 rfl ?_
      refine v_top f4 ?_
      refine v_aload_0 dX11_findTimes_245 rfl ?_
      refine v_getP fl_11_22 (mp_6 hM) (MOK.t hM) rfl (zle rfl) rfl dX11_findTimes_246 rfl ?_
      refine v_iload_8 dX11_findTimes_249 rfl ?_
      refine v_iald (j := n) (ma_6 hM) rfl (by omega) (zle rfl) dX11_findTimes_251 rfl ?_
      refine v_top f6 ?_
      refine v_callV (ci := 11) (F := TX11) (c_X11_comesNearer (I := (zi ((mvS (mr I ad) e np d S) (tn (mr I ad 4 n))) (u2 I1 (ad 39) (8 * S + (tn (mr I ad 4 n))) (nI (min (v (tn (mr I ad 4 n))) ((tn (mr I ad 6 n)) + v (tn (mr I ad 5 n)))))) I1)) m ad ga S (tn (mr I ad 5 n)) (tn (mr I ad 4 n)) (tn (mr I ad 6 n)) ((rlx (mvS (mr I ad) e np d S) v (tn (mr I ad 4 n)) (tn (mr I ad 5 n)) (tn (mr I ad 6 n))) (tn (mr I ad 5 n))) ((rlx (mvS (mr I ad) e np d S) v (tn (mr I ad 4 n)) (tn (mr I ad 5 n)) (tn (mr I ad 6 n))) (tn (mr I ad 4 n))) ((mvS (mr I ad) e np d S) (tn (mr I ad 5 n))) hM hga hS (by omega) (by omega) (hT2.2.1 _ w2b) (hT2.1 _ w2b) (hT2.1 _ w1b) (by omega) (by omega) (by omega)) yy_X11_comesNearer im_X11_comesNearer se_X11_comesNearer lk_11_213 (MOK.t hM) (zle rfl) rfl (zle rfl) (zle rfl) (zle rfl) (zle rfl) rfl rfl (zle rfl) dX11_findTimes_252 rfl (zv.use ?_)
      have hT3 := hT2.rx hna hnc (tn (mr I ad 4 n)) (tn (mr I ad 6 n)) w2b
      refine v_iinc_8 dX11_findTimes_255 (nI_1 n) rfl (zle rfl) rfl ?_
      refine v_goto (n := 177) dX11_findTimes_258 (by decide) ?_
      exact ih (n + 1) _ _ (by omega) hT3 (hA.ye c194 hWy (by omega) hw) kk
