theorem nI_sh13 : ∀ n, n < 13 → (1 : Int32) <<< (nI n &&& 31) = nI (2 ^ n) := by decide +kernel
theorem i_neg1 (x : Int32) : x + (-1) = x - 1 := (Int32.sub_eq_add_neg x 1).symm
theorem sl_X11_findTimes {E : zE} {T : zT} {N : zN} {P : zP} {I : zI} {R : zR} {m : Nat} {ad : Nat → Nat} {e np nc nw d ga : Nat} {s : Prop} {Q : Option Value → zT → zN → zP → zI → zR → Prop} {K : zK E yX11_findTimes cX11_findTimes 9 none (zrm 2 52 1 8)} (hM : MOK T P m ad) (hga : T ga = (2, 8)) (hna : ¬ ga = ad 39) (hf : ∀ k, k < 32 → zr 11 k = true → ¬ ga = ad k) (hd : d < 7) (hn3 : N 11 3 m = nI nw) (hw14 : nw ≤ 14) (hnc : nc ≤ 8) (hWy : WyI (mr I ad) nc nw) (hn0 : N 11 0 m = nI nc) (he : e < 4) (hn10 : I (ad 10) e = nI np) (hn12 : np ≤ 12) (hlen : ∀ p, p < np → Nt (I (ad 13) (12 * e + p)) 10) (hQ : ∀ I1 : zI, (∀ a j, a ≠ ad 39 → a ≠ ga → I1 a j = I a j) → (∀ S, 0 ≤ S → S < 2 ^ np → ∀ c, c < nc → I1 (ad 39) (8 * S + c) = nI ((tmf (mr I ad) e np nc nw d s) S c)) → Q none T N P I1 R) :
    ∀ k (I1 : zI) (o6 o7 o8 : Option Value), k ≤ 2 ^ np → (∀ a j, a ≠ ad 39 → a ≠ ga → I1 a j = I a j) → (∀ S, k ≤ S → S < 2 ^ np → ∀ c, c < nc → I1 (ad 39) (8 * S + c) = nI ((tmf (mr I ad) e np nc nw d s) S c)) → V K (zQf K Q) T N P I1 R 1 8 18 [some (.ref m), some (.int (nI e)), some (.int (nI d)), some (.int (zb s)), some (.ref ga), some (.int (nI k - 1)), o6, o7, o8] [] := by
  have h12 : 2 ^ np ≤ 2 ^ 12 := Nat.pow_le_pow_right (by decide) hn12
  intro k
  induction k with
  | zero =>
    intro I1 o6 o7 o8 hk hF hR
    refine v_iload_5 dX11_findTimes_18 rfl ?_
    refine v_if_lt_t (n := 273) (by decide) dX11_findTimes_20 (by decide) ?_
    exact v_return rfl (hQ I1 hF hR) (zle rfl) (zle rfl) dX11_findTimes_273
  | succ k ih =>
    intro I1 o6 o7 o8 hk hF hR
    have hmr : mr I1 ad = mr I ad := by
      funext a j
      unfold mr
      by_cases hk : a < 32 ∧ zr 11 a = true
      · rw [if_pos hk, if_pos hk]
        exact hF (ad a) j (hM.ne (by omega) (by decide) hk.2 rfl (by omega)) (fun e => hf a hk.1 hk.2 e.symm)
      · rw [if_neg hk, if_neg hk]
    have hWy1 : WyI (mr I1 ad) nc nw := by rw [hmr]; exact hWy
    have hn1 : I1 (ad 10) e = nI np := (congrFun (congrFun hmr 10) e : I1 (ad 10) e = I (ad 10) e).trans hn10
    have hlen1 : ∀ p, p < np → Nt (I1 (ad 13) (12 * e + p)) 10 := fun p hp => by
      have e1 : I1 (ad 13) (12 * e + p) = I (ad 13) (12 * e + p) := congrFun (congrFun hmr 13) (12 * e + p)
      rw [e1]; exact hlen p hp
    have hP1 : ∀ S2, k < S2 → S2 < 2 ^ np → ∀ c, c < nc → I1 (ad 39) (8 * S2 + c) = nI (tmf (mr I1 ad) e np nc nw d s S2 c) := fun S2 a1 a2 => by rw [hmr]; exact hR S2 (by omega) a2
    have hok := tmf_ok (r := mr I1 ad) (e := e) (nw := nw) (d := d) (s := s) hn12 hnc k (by omega)
    have T0 : TR I1 I1 (ad 39) ga k 0 (mvS (mr I1 ad) e np d k) (fun c => zi (mvS (mr I1 ad) e np d k c) FARn (tmf (mr I1 ad) e np nc nw d s k c)) := ⟨fun c hc => absurd hc (Nat.not_lt_zero c), fun c hc => absurd hc (Nat.not_lt_zero c), fun _ _ _ _ => rfl⟩
    have hend : ∀ (I2 : zI) (v2 : Nat → Nat), TR I1 I2 (ad 39) ga k nc (mvS (mr I1 ad) e np d k) v2 → (∀ c, c < nc → v2 c = tmf (mr I1 ad) e np nc nw d s k c) → (∀ a j, a ≠ ad 39 → a ≠ ga → I2 a j = I a j) ∧ ∀ S, k ≤ S → S < 2 ^ np → ∀ c, c < nc → I2 (ad 39) (8 * S + c) = nI ((tmf (mr I ad) e np nc nw d s) S c) := by
      intro I2 v2 hT2 h2
      refine ⟨fun a j a1 a2 => (hT2.2.2 a j (fun h => a1 h.1) a2).trans (hF a j a1 a2), fun S hS1 hS2 c hc => ?_⟩
      rcases (show S = k ∨ k < S by omega) with h | h
      · subst h
        rw [hT2.1 c hc, h2 c hc, hmr]
      · rw [hT2.2.2 (ad 39) _ (fun h => by omega) (fun e => hna e.symm)]
        exact hR S (by omega) hS2 c hc
    refine v_loc (ls := [some (.ref m), some (.int (nI e)), some (.int (nI d)), some (.int (zb s)), some (.ref ga), some (.int (nI k)), o6, o7, o8]) (by rw [nI_pred]) ?_
    refine v_iload_5 dX11_findTimes_18 rfl ?_
    refine v_if_lt_f (tgt := 273) (nI_pos (by omega)) dX11_findTimes_20 (by decide) rfl ?_
    refine v_aload_0 dX11_findTimes_23 rfl ?_
    refine v_iload_1 dX11_findTimes_24 rfl ?_
    refine v_iload_5 dX11_findTimes_25 rfl ?_
    refine v_callV (ci := 11) (F := TX11) (c_X11_isOver (I := I1) m ad e np (nI k) hM hn1 hn12 he) yy_X11_isOver im_X11_isOver se_X11_isOver lk_11_203 (MOK.t hM) (zle rfl) rfl (zle rfl) (zle rfl) (zle rfl) (zle rfl) rfl rfl (zle rfl) dX11_findTimes_27 rfl (zp.use ?_)
    by_cases hO : ovr (mr I1 ad) e (nI k) np
    · refine v_top (zb_t hO) ?_
      refine v_istore_6 dX11_findTimes_30 rfl (zle rfl) rfl ?_
      refine v_iconst (v := 0) dX11_findTimes_32 rfl rfl ?_
      refine v_istore_7 dX11_findTimes_33 rfl (zle rfl) rfl ?_
      refine co_X11_findTimes (I := I1) hM hga hna hf (by omega) hd hn3 hw14 hnc hWy1 hn0 he hn1 hn12 (by omega) hlen1 hP1 hO nc 0 I1 _ (by omega) T0 (fun I2 c1 o9 hT2 => ?_)
      refine v_iconst (v := 0) dX11_findTimes_157 rfl rfl ?_
      refine v_istore_7 dX11_findTimes_158 rfl (zle rfl) rfl ?_
      refine v_iload_7 dX11_findTimes_160 rfl ?_
      refine v_aload_0 dX11_findTimes_162 rfl ?_
      refine v_getN fl_11_118 (MOK.t hM) rfl (zle rfl) rfl dX11_findTimes_163 rfl ?_
      refine v_top hn0 ?_
      by_cases hz : nc = 0
      · refine v_icmp_ge_t (n := 267) (by rw [hz]; decide) dX11_findTimes_166 (by decide) ?_
        obtain ⟨z1, z2⟩ := hend I2 _ hT2 (fun c hc => zi_f (fun h => h.1 hO))
        refine v_iinc_5 (b := nI k - 1) dX11_findTimes_267 (i_neg1 _) rfl (zle rfl) rfl ?_
        refine v_goto (n := 18) dX11_findTimes_270 (by decide) ?_
        exact ih I2 _ _ _ (by omega) z1 z2
      · refine v_icmp_ge_f (tgt := 267) (nI_ge (a := 0) (b := nc) (by omega) (by omega)) dX11_findTimes_166 (by decide) rfl ?_
        refine v_iload_6 dX11_findTimes_169 rfl ?_
        refine v_if_ne_t (n := 267) (by decide) dX11_findTimes_171 (by decide) ?_
        obtain ⟨z1, z2⟩ := hend I2 _ hT2 (fun c hc => zi_f (fun h => h.1 hO))
        refine v_iinc_5 (b := nI k - 1) dX11_findTimes_267 (i_neg1 _) rfl (zle rfl) rfl ?_
        refine v_goto (n := 18) dX11_findTimes_270 (by decide) ?_
        exact ih I2 _ _ _ (by omega) z1 z2
    · refine v_top (zb_f hO) ?_
      refine v_istore_6 dX11_findTimes_30 rfl (zle rfl) rfl ?_
      refine v_iconst (v := 0) dX11_findTimes_32 rfl rfl ?_
      refine v_istore_7 dX11_findTimes_33 rfl (zle rfl) rfl ?_
      refine cl_X11_findTimes (I := I1) hM hga hna hf (by omega) hd hn3 hw14 hnc hWy1 hn0 he hn1 hn12 (by omega) hlen1 hP1 hO nc 0 I1 _ (by omega) T0 (fun I2 c1 o9 hT2 => ?_)
      refine v_iconst (v := 0) dX11_findTimes_157 rfl rfl ?_
      refine v_istore_7 dX11_findTimes_158 rfl (zle rfl) rfl ?_
      refine rl_X11_findTimes (I := I1) (w := tmf (mr I1 ad) e np nc nw d s k) hM hga hna hf (by omega) hd hn3 hw14 hnc hWy1 hn0 (Eg.mk' hnc (fun c c' l _ _ h => h.1.2.2.2.1)) hok.2 (fun c hc => tmf_far hn12 hnc (by omega) hc) nc 0 I2 _ _ (by omega) hT2 (fun c hc => ?_) (Or.inl (cnp_nc _ _ _)) (fun I3 v3 j7 o8 hT3 h3 => ?_)
      · have hfa := tmf_far (r := mr I1 ad) (e := e) (nw := nw) (d := d) (s := s) hn12 hnc (show k < 2 ^ np by omega) hc
        by_cases hm : mvS (mr I1 ad) e np d k c
        · show _ ≤ zi (mvS (mr I1 ad) e np d k c) FARn _ ∧ (_ → zi (mvS (mr I1 ad) e np d k c) FARn _ ≤ _) ∧ (_ → zi (mvS (mr I1 ad) e np d k c) FARn _ = _)
          rw [zi_t hm]; exact ⟨hfa, fun _ => Nat.le_refl _, fun h => absurd hm h⟩
        · show _ ≤ zi (mvS (mr I1 ad) e np d k c) FARn _ ∧ (_ → zi (mvS (mr I1 ad) e np d k c) FARn _ ≤ _) ∧ (_ → zi (mvS (mr I1 ad) e np d k c) FARn _ = _)
          rw [zi_f hm]; exact ⟨Nat.le_refl _, fun h => absurd h hm, fun _ => rfl⟩
      obtain ⟨z1, z2⟩ := hend I3 _ hT3 h3
      refine v_iinc_5 (b := nI k - 1) dX11_findTimes_267 (i_neg1 _) rfl (zle rfl) rfl ?_
      refine v_goto (n := 18) dX11_findTimes_270 (by decide) ?_
      exact ih I3 _ _ _ (by omega) z1 z2
/-- what findTimes leaves -/
def ftQ (m : Nat) (ad : Nat → Nat) (e np nc nw d : Nat) (s : Prop) (T : zT) (N : zN) (P : zP) (I : zI) (R : zR) : Option Value → zT → zN → zP → zI → zR → Prop := fun v T' N' P' I' R' => v = none ∧ N = N' ∧ P = P' ∧ R = R' ∧ MOK T' P m ad ∧ mr I' ad = mr I ad ∧ (∀ a, (T a).1 ≠ 0 → T' a = T a ∧ (a ≠ ad 39 → I' a = I a)) ∧ ∀ S, S < 2 ^ np → ∀ c, c < nc → I' (ad 39) (8 * S + c) = nI ((tmf (mr I ad) e np nc nw d s) S c)
theorem c_X11_findTimes {E : zE} {T : zT} {N : zN} {P : zP} {I : zI} {R : zR} (m : Nat) (ad : Nat → Nat) (e np nc nw d : Nat) (s : Prop) (hM : MOK T P m ad) (he : e < 4) (hd : d < 7) (hn10 : I (ad 10) e = nI np) (hn12 : np ≤ 12) (hn0 : N 11 0 m = nI nc) (hnc : nc ≤ 8) (hn3 : N 11 3 m = nI nw) (hw14 : nw ≤ 14) (hWy : WyI (mr I ad) nc nw) (hlen : ∀ p, p < np → Nt (I (ad 13) (12 * e + p)) 10) : zC E yX11_findTimes cX11_findTimes 9 none (zrm 2 52 1 8) [.ref m, .int (nI e), .int (nI d), .int (zb s)] T N P I R (ftQ m ad e np nc nw d s T N P I R) := by
  refine zC.intro (ls := [some (.ref m), some (.int (nI e)), some (.int (nI d)), some (.int (zb s)), none, none, none, none, none]) pl_RX11 (zle rfl) 5 rfl (fun K => ?_)
  refine v_bipush (v := 8) dX11_findTimes_0 rfl rfl ?_
  refine v_newa (atype := .boolean) (ft := .boolean) (t := 2) rfl (Or.inr (Or.inl ⟨rfl, rfl⟩)) ac_boolean rfl (zle rfl) (zle rfl) (zle rfl) dX11_findTimes_2 rfl (fun q2 hq2 => ?_)
  have hM2 := hM.t1 hq2 (2, 8)
  have hfr : ∀ k, k < 32 → zr 11 k = true → ¬ q2 = ad k := fun k hk hz => hM.fr hq2 (by omega) hz
  have hf39 : ¬ q2 = ad 39 := hM.fr hq2 (by decide) rfl
  refine v_astore_4 dX11_findTimes_4 rfl (zle rfl) rfl ?_
  refine v_iconst (v := 1) dX11_findTimes_6 rfl rfl ?_
  refine v_aload_0 dX11_findTimes_7 rfl ?_
  refine v_getP fl_11_32 (mp_10 hM2) (MOK.t hM2) rfl (zle rfl) rfl dX11_findTimes_8 rfl ?_
  refine v_iload_1 dX11_findTimes_11 rfl ?_
  refine v_iald (j := e) (ma_10 hM2) rfl (by omega) (zle rfl) dX11_findTimes_12 rfl ?_
  refine v_top (show u1 I q2 (fun _ => 0) (ad 10) e = nI np by rw [u1_na (fun e => hfr 10 (by decide) rfl e.symm)]; exact hn10) ?_
  refine v_ishl dX11_findTimes_13 rfl ?_
  refine v_top (nI_sh13 np (by omega)) ?_
  refine v_iconst (v := 1) dX11_findTimes_14 rfl rfl ?_
  refine v_isub dX11_findTimes_15 rfl ?_
  refine v_istore_5 dX11_findTimes_16 rfl (zle rfl) rfl ?_
  refine v_abs (fun T1 N1 P1 I1 R1 => u1 T q2 (2, 8) = T1 ∧ N = N1 ∧ P = P1 ∧ R = R1 ∧ u1 I q2 (fun _ => 0) = I1) ⟨rfl, rfl, rfl, rfl, rfl⟩ (fun T1 N1 P1 I1 R1 hG => ?_)
  obtain ⟨rfl, rfl, rfl, rfl, hI1⟩ := hG
  have hmr : mr I1 ad = mr I ad := by
    subst hI1
    funext a j
    unfold mr
    by_cases hk : a < 32 ∧ zr 11 a = true
    · rw [if_pos hk, if_pos hk, u1_na (fun e => hfr a hk.1 hk.2 e.symm)]
    · rw [if_neg hk, if_neg hk]
  have g1 : ∀ a, a ≠ q2 → I1 a = I a := fun a ha => by rw [← hI1, u1_na ha]
  refine sl_X11_findTimes (I := I1) hM2 u1_self hf39 hfr hd hn3 hw14 hnc (by rw [hmr]; exact hWy) hn0 he ((congrFun (congrFun hmr 10) e : I1 (ad 10) e = I (ad 10) e).trans hn10) hn12 (fun p hp => by have e1 : I1 (ad 13) (12 * e + p) = I (ad 13) (12 * e + p) := congrFun (congrFun hmr 13) (12 * e + p); rw [e1]; exact hlen p hp) (fun I2 h1 h2 => ?_) (2 ^ np) I1 _ _ _ (Nat.le_refl _) (fun _ _ _ _ => rfl) (fun S h1 h2 => by omega)
  rw [hmr] at h2
  refine ⟨rfl, rfl, rfl, rfl, hM2, ?_, fun a ha => ?_, fun S hS => h2 S (Nat.zero_le _) hS⟩
  · rw [← hmr]
    funext a j
    unfold mr
    by_cases hk : a < 32 ∧ zr 11 a = true
    · rw [if_pos hk, if_pos hk]
      exact h1 (ad a) j (hM.ne (by omega) (by decide) hk.2 rfl (by omega)) (fun e => hfr a hk.1 hk.2 e.symm)
    · rw [if_neg hk, if_neg hk]
  · have hne : a ≠ q2 := fun e => ha (by rw [e]; exact hq2)
    exact ⟨u1_na hne, fun h9 => by funext j; rw [h1 a j h9 hne, g1 a hne]⟩
