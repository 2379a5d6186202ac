theorem nI_n12 {i : Nat} (h : i < 12) : ¬ nI i = 12 := fun e => by
  have := congrArg Int32.toInt e
  rw [nI_toInt (by omega)] at this
  have h1 : (12 : Int32).toInt = 12 := rfl
  omega
/-- reading a piece changes these rows at i only -/
def Rs5 (ad : Nat → Nat) (i : Nat) (I I' : zI) : Prop := mr I' ad = mr I ad ∧ (∀ k j, 34 ≤ k → k ≤ 38 → j ≠ i → I' (ad k) j = I (ad k) j) ∧ ∀ a, (∀ k, k < 44 → zr 11 k = true → a ≠ ad k) → I' a = I a
theorem Rs5.rf {ad : Nat → Nat} {i : Nat} {I : zI} : Rs5 ad i I I := ⟨rfl, fun _ _ _ _ _ => rfl, fun _ _ => rfl⟩
theorem zr5 {k : Nat} (h1 : 34 ≤ k) (h2 : k ≤ 38) : zr 11 k = true := by
  rcases (show k = 34 ∨ k = 35 ∨ k = 36 ∨ k = 37 ∨ k = 38 by omega) with h | h | h | h | h <;> subst h <;> rfl
theorem Rs5.i {T : zT} {P : zP} {m : Nat} {ad : Nat → Nat} {i k : Nat} {I I' : zI} (h : Rs5 ad i I I') (hM : MOK T P m ad) (h1 : 34 ≤ k) (h2 : k ≤ 38) (v : Int32) : Rs5 ad i I (u2 I' (ad k) i v) :=
  ⟨(mr_scr hM (by omega) (by omega) (zr5 h1 h2)).trans h.1, fun k' j a1 a2 a3 => by rw [u2_ni a3]; exact h.2.1 k' j a1 a2 a3, fun a ha => by rw [u2_off _ _ (ha k (by omega) (zr5 h1 h2))]; exact h.2.2 a ha⟩
theorem Rs5.fr {T : zT} {N N' : zN} {P : zP} {I I' : zI} {R : zR} {ad : Nat → Nat} {i : Nat} (h : Rs5 ad i I I') (hN : ∀ c k a, c ≠ 11 → N' c k a = N c k a) : Mfr ad T N P I R T N' P I' R := ⟨rfl, rfl, hN, fun _ _ => rfl, fun a _ ha => h.2.2 a ha⟩
def F4 (ad : Nat → Nat) (i : Nat) (I I' : zI) (x0 x1 x2 x3 : Int32) : Prop := Rs5 ad i I I' ∧ I' (ad 34) i = x0 ∧ I' (ad 35) i = x1 ∧ I' (ad 36) i = x2 ∧ I' (ad 37) i = x3
theorem F4.n {T : zT} {P : zP} {m : Nat} {ad : Nat → Nat} {i : Nat} {I I' : zI} {x0 x1 x2 x3 : Int32} (h : F4 ad i I I' x0 x1 x2 x3) (hM : MOK T P m ad) (v : Int32) : F4 ad i I (u2 I' (ad 37) i v) x0 x1 x2 v :=
  ⟨h.1.i hM (by decide) (by decide) v, by rw [u2_na (hM.ne (by decide) (by decide) rfl rfl (by decide))]; exact h.2.1, by rw [u2_na (hM.ne (by decide) (by decide) rfl rfl (by decide))]; exact h.2.2.1, by rw [u2_na (hM.ne (by decide) (by decide) rfl rfl (by decide))]; exact h.2.2.2.1, u2_self⟩
theorem F4.d {T : zT} {P : zP} {m : Nat} {ad : Nat → Nat} {i : Nat} {I I' : zI} {x0 x1 x2 x3 : Int32} (h : F4 ad i I I' x0 x1 x2 x3) (hM : MOK T P m ad) (v : Int32) : F4 ad i I (u2 I' (ad 38) i v) x0 x1 x2 x3 :=
  ⟨h.1.i hM (by decide) (by decide) v, by rw [u2_na (hM.ne (by decide) (by decide) rfl rfl (by decide))]; exact h.2.1, by rw [u2_na (hM.ne (by decide) (by decide) rfl rfl (by decide))]; exact h.2.2.1, by rw [u2_na (hM.ne (by decide) (by decide) rfl rfl (by decide))]; exact h.2.2.2.1, by rw [u2_na (hM.ne (by decide) (by decide) rfl rfl (by decide))]; exact h.2.2.2.2⟩
def rpQ (m : Nat) (ad : Nat → Nat) (b : Nat → Int32) (nc i p : Nat) (T : zT) (N : zN) (P : zP) (I : zI) (R : zR) : Option Value → zT → zN → zP → zI → zR → Prop := fun v T' N' P' I' R' => T' = T ∧ P' = P ∧ R' = R ∧ Rs5 ad i I I' ∧ ((¬ rpg b nc p ∧ v = some (.int 0) ∧ N' = u3 N 11 33 m (nI (rpe b nc p))) ∨ (rpg b nc p ∧ v = some (.int 1) ∧ N' = u3 (u3 N 11 33 m (nI (rpe b nc p))) 11 32 m (nI (i + 1)) ∧ I' (ad 34) i = pv b p 0 ∧ I' (ad 35) i = pv b p 1 ∧ I' (ad 36) i = pv b p 2 ∧ I' (ad 37) i = pv b p 3 ∧ I' (ad 38) i = pv b p 4))
theorem rpQ_f {m : Nat} {ad : Nat → Nat} {b : Nat → Int32} {nc i p q : Nat} {T : zT} {N : zN} {P : zP} {I I' : zI} {R : zR} (h : Rs5 ad i I I') (hq : rpe b nc p = q) (hg : ¬ rpg b nc p) : rpQ m ad b nc i p T N P I R (some (.int 0)) T (u3 N 11 33 m (nI q)) P I' R := ⟨rfl, rfl, rfl, h, Or.inl ⟨hg, rfl, by rw [hq]⟩⟩
theorem rpQ_g {m : Nat} {ad : Nat → Nat} {b : Nat → Int32} {nc i p q : Nat} {T : zT} {N : zN} {P : zP} {I I' : zI} {R : zR} (h : F4 ad i I I' (pv b p 0) (pv b p 1) (pv b p 2) (pv b p 3)) (h4 : I' (ad 38) i = pv b p 4) (hq : rpe b nc p = q) (hg : rpg b nc p) : rpQ m ad b nc i p T N P I R (some (.int 1)) T (u3 (u3 N 11 33 m (nI q)) 11 32 m (nI (i + 1))) P I' R := ⟨rfl, rfl, rfl, h.1, Or.inr ⟨hg, rfl, by rw [hq], h.2.1, h.2.2.1, h.2.2.2.1, h.2.2.2.2, h4⟩⟩
theorem pv1_eq {b : Nat → Int32} {nc p : Nat} (h : hsb (b p) 48 0 nc) (hc : nc ≤ 8) : b p - 48 = pv b p 1 := by
  conv => lhs; rw [(hsb_w h (by omega)).2.2]
  exact nI_subc 48 _
theorem pv2_eq {b : Nat → Int32} {p : Nat} (h : hsb (b (p + 2)) 49 0 9) : b (p + 2) - 48 = pv b p 2 := by
  conv => lhs; rw [(hsb_w h (by omega)).2.2]
  rw [show 49 + wh (b (p + 2)) 49 = 48 + (wh (b (p + 2)) 49 + 1) by omega]
  exact nI_subc 48 _
theorem hsb_s {b : Int32} {c l n : Nat} (h : hsb b c l n) (hc : c + n ≤ 300) : b - nI c = nI (wh b c) := by
  conv => lhs; rw [(hsb_w h hc).2.2]
  exact nI_subc c _
theorem hsb_n {b : Int32} {c l n : Nat} (h : hsb b c l n) (hc : c + n ≤ 300) : b + 1 = nI (c + (wh b c + 1)) := by
  conv => lhs; rw [(hsb_w h hc).2.2]
  exact nI_1 _
theorem c_X11_byteAt {E : zE} {T : zT} {N : zN} {P : zP} {I : zI} {R : zR} (m : Nat) (ad : Nat → Nat) (b : Nat → Int32) (p : Nat) (hM : MOK T P m ad) (h17 : Nt (N 11 17 m) 201) (hb : pB (mf N m) (mr I ad) = b) (hp : p < 2 ^ 30) : zC E yX11_byteAt cX11_byteAt 2 (some .int) (zr0 0 0) [.ref m, .int (nI p)] T N P I R (zp (b p) T N P I R) := by
  refine zC.intro (ls := [some (.ref m), some (.int (nI p))]) pl_RX11 (zle rfl) 0 rfl (fun K => ?_)
  refine v_iload_1 dX11_byteAt_0 rfl ?_
  refine v_aload_0 dX11_byteAt_1 rfl ?_
  refine v_getN fl_11_159 (MOK.t hM) rfl (zle rfl) rfl dX11_byteAt_2 rfl ?_
  refine v_top h17.1 ?_
  have h17b := h17.2
  by_cases hlt : p < tn (N 11 17 m)
  · refine v_icmp_ge_f (tgt := 17) (nI_ge (a := p) (b := tn (N 11 17 m)) (by omega) (by omega)) dX11_byteAt_5 (by decide) rfl ?_
    refine v_aload_0 dX11_byteAt_8 rfl ?_
    refine v_getP fl_11_50 (mp_16 hM) (MOK.t hM) rfl (zle rfl) rfl dX11_byteAt_9 rfl ?_
    refine v_iload_1 dX11_byteAt_12 rfl ?_
    refine v_iald (j := p) (ma_16 hM) rfl (by omega) (zle rfl) dX11_byteAt_13 rfl ?_
    refine v_goto (n := 18) dX11_byteAt_14 (by decide) ?_
    exact v_ireturn rfl (by rw [← hb]; unfold pB; rw [zi_t (show p < tn (mf N m 17) from hlt)]; exact zp.rf) (zle rfl) (zle rfl) dX11_byteAt_18
  · refine v_icmp_ge_t (n := 17) (nI_le (a := tn (N 11 17 m)) (b := p) (by omega) (by omega)) dX11_byteAt_5 (by decide) ?_
    refine v_iconst (v := -1) dX11_byteAt_17 rfl rfl ?_
    exact v_ireturn rfl (by rw [← hb]; unfold pB; rw [zi_f (show ¬ p < tn (mf N m 17) from hlt)]; exact zp.rf) (zle rfl) (zle rfl) dX11_byteAt_18
theorem c_X11_kindBy {E : zE} {T : zT} {N : zN} {P : zP} {I : zI} {R : zR} (x : Int32) : zC E yX11_kindBy cX11_kindBy 1 (some .int) (zr0 0 0) [.int x] T N P I R (zp (kby x) T N P I R) := by
  refine zC.intro (ls := [some (.int x)]) pl_RX11 (zle rfl) 0 rfl (fun K => ?_)
  refine v_iload_0 dX11_kindBy_0 rfl ?_
  refine v_bipush (v := 112) dX11_kindBy_1 rfl rfl ?_
  refine v_icmp_ne (tgt := 10) dX11_kindBy_3 (by decide) rfl (fun c3 => ?_) (fun c3 => ?_)
  · refine v_iload_0 dX11_kindBy_10 rfl ?_
    refine v_bipush (v := 115) dX11_kindBy_11 rfl rfl ?_
    refine v_icmp_ne (tgt := 20) dX11_kindBy_13 (by decide) rfl (fun c13 => ?_) (fun c13 => ?_)
    · refine v_iload_0 dX11_kindBy_20 rfl ?_
      refine v_bipush (v := 116) dX11_kindBy_21 rfl rfl ?_
      refine v_icmp_ne (tgt := 30) dX11_kindBy_23 (by decide) rfl (fun c23 => ?_) (fun c23 => ?_)
      · refine v_iload_0 dX11_kindBy_30 rfl ?_
        refine v_bipush (v := 101) dX11_kindBy_31 rfl rfl ?_
        refine v_icmp_ne (tgt := 40) dX11_kindBy_33 (by decide) rfl (fun c33 => ?_) (fun c33 => ?_)
        · refine v_iconst (v := -1) dX11_kindBy_40 rfl rfl ?_
          exact v_ireturn rfl (by unfold kby; rw [zi_f c3, zi_f c13, zi_f c23, zi_f c33]; exact zp.rf) (zle rfl) (zle rfl) dX11_kindBy_41
        · refine v_iconst (v := 3) dX11_kindBy_36 rfl rfl ?_
          refine v_goto (n := 41) dX11_kindBy_37 (by decide) ?_
          exact v_ireturn rfl (by unfold kby; rw [zi_f c3, zi_f c13, zi_f c23, zi_t c33]; exact zp.rf) (zle rfl) (zle rfl) dX11_kindBy_41
      · refine v_iconst (v := 2) dX11_kindBy_26 rfl rfl ?_
        refine v_goto (n := 41) dX11_kindBy_27 (by decide) ?_
        exact v_ireturn rfl (by unfold kby; rw [zi_f c3, zi_f c13, zi_t c23]; exact zp.rf) (zle rfl) (zle rfl) dX11_kindBy_41
    · refine v_iconst (v := 1) dX11_kindBy_16 rfl rfl ?_
      refine v_goto (n := 41) dX11_kindBy_17 (by decide) ?_
      exact v_ireturn rfl (by unfold kby; rw [zi_f c3, zi_t c13]; exact zp.rf) (zle rfl) (zle rfl) dX11_kindBy_41
  · refine v_iconst (v := 0) dX11_kindBy_6 rfl rfl ?_
    refine v_goto (n := 41) dX11_kindBy_7 (by decide) ?_
    exact v_ireturn rfl (by unfold kby; rw [zi_t c3]; exact zp.rf) (zle rfl) (zle rfl) dX11_kindBy_41
theorem lp_X11_readsDays {E : zE} {T : zT} {N : zN} {P : zP} {I : zI} {R : zR} {m : Nat} {ad : Nat → Nat} {b : Nat → Int32} {i : Nat} {K : zK E yX11_readsDays cX11_readsDays 3 (some .boolean) (zr0 1 22)} (hM : MOK T P m ad) (h17 : Nt (N 11 17 m) 201) (hb : pB (mf N m) (mr I ad) = b) (hBt : ∀ p, Bt (b p)) (hi : i < 12) (h32 : N 11 32 m = nI i) :
    ∀ k l q (s : Int32), l ≤ 7 → 7 ≤ l + k → q + k < 2 ^ 29 → V K (zQf K (zp (zb (¬ (rsn b 48 7 k l s q).1 = 0)) T (u3 N 11 33 m (nI (rsn b 48 7 k l s q).2)) P (u2 I (ad 38) i (rsn b 48 7 k l s q).1) R)) T (u3 N 11 33 m (nI (q))) P I R 0 0 15 [some (.ref m), some (.int s), some (.int (nI (48 + l)))] [] := by
  intro k
  induction k with
  | zero =>
    intro l q s hl hk hq
    refine v_aload_0 dX11_readsDays_15 rfl ?_
    refine v_aload_0 dX11_readsDays_16 rfl ?_
    refine v_getN fl_11_167 (MOK.t hM) rfl (zle rfl) rfl dX11_readsDays_17 rfl ?_
    refine v_top u3_self ?_
    refine v_callV (ci := 11) (F := TX11) (c_X11_byteAt (N := (u3 N 11 33 m (nI (q)))) m ad b (q) hM h17 (by rw [mf_scr (by decide)]; exact hb) (by omega)) yy_X11_byteAt im_X11_byteAt se_X11_byteAt lk_11_170 (MOK.t hM) (zle rfl) rfl (zle rfl) (zle rfl) (zle rfl) (zle rfl) rfl rfl (zle rfl) dX11_readsDays_20 rfl (zp.use ?_)
    refine v_iload_2 dX11_readsDays_23 rfl ?_
    refine v_bipush (v := 54) dX11_readsDays_24 rfl rfl ?_
    refine v_callS (c_X11_within _ _ _) yy_X11_within st_X11_within lk_11_121 (zle rfl) (zle rfl) (zle rfl) (zle rfl) rfl rfl (zle rfl) dX11_readsDays_26 rfl (zp.use ?_)
    refine v_top (zb_iff (q := hsb (b (q)) 48 l 7) (hsb_ref (c := 48) (l := l) (n := 7) (hBt _) (by omega) (by omega) (by omega))) ?_
    refine v_ifz_eq (tgt := 72) dX11_readsDays_29 (by decide) rfl (fun c29 => ?_) (fun c29 => ?_)
    · refine v_aload_0 dX11_readsDays_72 rfl ?_
      refine v_getP fl_11_98 (mp_38 hM) (MOK.t hM) rfl (zle rfl) rfl dX11_readsDays_73 rfl ?_
      refine v_aload_0 dX11_readsDays_76 rfl ?_
      refine v_getN fl_11_164 (MOK.t hM) rfl (zle rfl) rfl dX11_readsDays_77 rfl ?_
      refine v_top h32 ?_
      refine v_iload_1 dX11_readsDays_80 rfl ?_
      refine v_iast (j := i) (ma_38 hM) rfl (by omega) (zle rfl) dX11_readsDays_81 rfl ?_
      refine v_iload_1 dX11_readsDays_82 rfl ?_
      refine v_if_eq (tgt := 90) dX11_readsDays_83 (by decide) rfl (fun c83 => ?_) (fun c83 => ?_)
      · refine v_iconst (v := 0) dX11_readsDays_90 rfl rfl ?_
        exact v_zreturn rfl rfl (by
          rw [rsn_f c29, zb_f (fun h => h c83)]
          exact zp.rf) (zle rfl) (zle rfl) dX11_readsDays_91
      · refine v_iconst (v := 1) dX11_readsDays_86 rfl rfl ?_
        refine v_goto (n := 91) dX11_readsDays_87 (by decide) ?_
        exact v_zreturn rfl rfl (by
          rw [rsn_f c29, zb_t c83]
          exact zp.rf) (zle rfl) (zle rfl) dX11_readsDays_91
    · exact absurd (hsb_w c29 (by omega)) (by omega)
  | succ k ih =>
    intro l q s hl hk hq
    refine v_aload_0 dX11_readsDays_15 rfl ?_
    refine v_aload_0 dX11_readsDays_16 rfl ?_
    refine v_getN fl_11_167 (MOK.t hM) rfl (zle rfl) rfl dX11_readsDays_17 rfl ?_
    refine v_top u3_self ?_
    refine v_callV (ci := 11) (F := TX11) (c_X11_byteAt (N := (u3 N 11 33 m (nI (q)))) m ad b (q) hM h17 (by rw [mf_scr (by decide)]; exact hb) (by omega)) yy_X11_byteAt im_X11_byteAt se_X11_byteAt lk_11_170 (MOK.t hM) (zle rfl) rfl (zle rfl) (zle rfl) (zle rfl) (zle rfl) rfl rfl (zle rfl) dX11_readsDays_20 rfl (zp.use ?_)
    refine v_iload_2 dX11_readsDays_23 rfl ?_
    refine v_bipush (v := 54) dX11_readsDays_24 rfl rfl ?_
    refine v_callS (c_X11_within _ _ _) yy_X11_within st_X11_within lk_11_121 (zle rfl) (zle rfl) (zle rfl) (zle rfl) rfl rfl (zle rfl) dX11_readsDays_26 rfl (zp.use ?_)
    refine v_top (zb_iff (q := hsb (b (q)) 48 l 7) (hsb_ref (c := 48) (l := l) (n := 7) (hBt _) (by omega) (by omega) (by omega))) ?_
    refine v_ifz_eq (tgt := 72) dX11_readsDays_29 (by decide) rfl (fun c29 => ?_) (fun c29 => ?_)
    · refine v_aload_0 dX11_readsDays_72 rfl ?_
      refine v_getP fl_11_98 (mp_38 hM) (MOK.t hM) rfl (zle rfl) rfl dX11_readsDays_73 rfl ?_
      refine v_aload_0 dX11_readsDays_76 rfl ?_
      refine v_getN fl_11_164 (MOK.t hM) rfl (zle rfl) rfl dX11_readsDays_77 rfl ?_
      refine v_top h32 ?_
      refine v_iload_1 dX11_readsDays_80 rfl ?_
      refine v_iast (j := i) (ma_38 hM) rfl (by omega) (zle rfl) dX11_readsDays_81 rfl ?_
      refine v_iload_1 dX11_readsDays_82 rfl ?_
      refine v_if_eq (tgt := 90) dX11_readsDays_83 (by decide) rfl (fun c83 => ?_) (fun c83 => ?_)
      · refine v_iconst (v := 0) dX11_readsDays_90 rfl rfl ?_
        exact v_zreturn rfl rfl (by
          rw [rsn_f c29, zb_f (fun h => h c83)]
          exact zp.rf) (zle rfl) (zle rfl) dX11_readsDays_91
      · refine v_iconst (v := 1) dX11_readsDays_86 rfl rfl ?_
        refine v_goto (n := 91) dX11_readsDays_87 (by decide) ?_
        exact v_zreturn rfl rfl (by
          rw [rsn_f c29, zb_t c83]
          exact zp.rf) (zle rfl) (zle rfl) dX11_readsDays_91
    · refine v_iload_1 dX11_readsDays_32 rfl ?_
      refine v_iconst (v := 1) dX11_readsDays_33 rfl rfl ?_
      refine v_aload_0 dX11_readsDays_34 rfl ?_
      refine v_aload_0 dX11_readsDays_35 rfl ?_
      refine v_getN fl_11_167 (MOK.t hM) rfl (zle rfl) rfl dX11_readsDays_36 rfl ?_
      refine v_top u3_self ?_
      refine v_callV (ci := 11) (F := TX11) (c_X11_byteAt (N := (u3 N 11 33 m (nI (q)))) m ad b (q) hM h17 (by rw [mf_scr (by decide)]; exact hb) (by omega)) yy_X11_byteAt im_X11_byteAt se_X11_byteAt lk_11_170 (MOK.t hM) (zle rfl) rfl (zle rfl) (zle rfl) (zle rfl) (zle rfl) rfl rfl (zle rfl) dX11_readsDays_39 rfl (zp.use ?_)
      refine v_bipush (v := 48) dX11_readsDays_42 rfl rfl ?_
      refine v_isub dX11_readsDays_44 rfl ?_
      refine v_top (hsb_s (c := 48) (l := l) (n := 7) c29 (by decide)) ?_
      refine v_ishl dX11_readsDays_45 rfl ?_
      refine v_ior dX11_readsDays_46 rfl ?_
      refine v_istore_1 dX11_readsDays_47 rfl (zle rfl) rfl ?_
      refine v_aload_0 dX11_readsDays_48 rfl ?_
      refine v_aload_0 dX11_readsDays_49 rfl ?_
      refine v_getN fl_11_167 (MOK.t hM) rfl (zle rfl) rfl dX11_readsDays_50 rfl ?_
      refine v_top u3_self ?_
      refine v_callV (ci := 11) (F := TX11) (c_X11_byteAt (N := (u3 N 11 33 m (nI (q)))) m ad b (q) hM h17 (by rw [mf_scr (by decide)]; exact hb) (by omega)) yy_X11_byteAt im_X11_byteAt se_X11_byteAt lk_11_170 (MOK.t hM) (zle rfl) rfl (zle rfl) (zle rfl) (zle rfl) (zle rfl) rfl rfl (zle rfl) dX11_readsDays_53 rfl (zp.use ?_)
      refine v_iconst (v := 1) dX11_readsDays_56 rfl rfl ?_
      refine v_iadd dX11_readsDays_57 rfl ?_
      refine v_top (hsb_n (c := 48) (l := l) (n := 7) c29 (by decide)) ?_
      refine v_istore_2 dX11_readsDays_58 rfl (zle rfl) rfl ?_
      refine v_aload_0 dX11_readsDays_59 rfl ?_
      refine v_dup dX11_readsDays_60 rfl rfl ?_
      refine v_getN fl_11_167 (MOK.t hM) rfl (zle rfl) rfl dX11_readsDays_61 rfl ?_
      refine v_top u3_self ?_
      refine v_iconst (v := 1) dX11_readsDays_64 rfl rfl ?_
      refine v_iadd dX11_readsDays_65 rfl ?_
      refine v_top (nI_1 (q)) ?_
      refine v_putN fw_11_167 (MOK.t hM) rfl (zle rfl) rfl (fun h => by cases h) rfl rfl dX11_readsDays_66 rfl ?_
      rw [u3_u3]
      refine v_goto (n := 15) dX11_readsDays_69 (by decide) ?_
      rw [rsn_t c29]
      have hw := hsb_w c29 (by omega)
      exact ih (wh (b q) 48 + 1) (q + 1) _ (by omega) (by omega) (by omega)
theorem c_X11_readsDays {E : zE} {T : zT} {N : zN} {P : zP} {I : zI} {R : zR} (m : Nat) (ad : Nat → Nat) (b : Nat → Int32) (i p : Nat) (hM : MOK T P m ad) (h17 : Nt (N 11 17 m) 201) (hb : pB (mf N m) (mr I ad) = b) (hBt : ∀ p, Bt (b p)) (hi : i < 12) (hp : p < 2 ^ 28) (h32 : N 11 32 m = nI i) (h33 : N 11 33 m = nI p) : zC E yX11_readsDays cX11_readsDays 3 (some .boolean) (zr0 1 22) [.ref m] T N P I R (zp (zb (¬ (rsn b 48 7 7 0 0 (p + 1)).1 = 0)) T (u3 N 11 33 m (nI (rsn b 48 7 7 0 0 (p + 1)).2)) P (u2 I (ad 38) i (rsn b 48 7 7 0 0 (p + 1)).1) R) := by
  refine zC.intro (ls := [some (.ref m), none, none]) pl_RX11 (zle rfl) 2 rfl (fun K => ?_)
  refine v_aload_0 dX11_readsDays_0 rfl ?_
  refine v_dup dX11_readsDays_1 rfl rfl ?_
  refine v_getN fl_11_167 (MOK.t hM) rfl (zle rfl) rfl dX11_readsDays_2 rfl ?_
  refine v_top h33 ?_
  refine v_iconst (v := 1) dX11_readsDays_5 rfl rfl ?_
  refine v_iadd dX11_readsDays_6 rfl ?_
  refine v_top (nI_1 p) ?_
  refine v_putN fw_11_167 (MOK.t hM) rfl (zle rfl) rfl (fun h => by cases h) rfl rfl dX11_readsDays_7 rfl ?_
  refine v_iconst (v := 0) dX11_readsDays_10 rfl rfl ?_
  refine v_istore_1 dX11_readsDays_11 rfl (zle rfl) rfl ?_
  refine v_bipush (v := 48) dX11_readsDays_12 rfl rfl ?_
  refine v_istore_2 dX11_readsDays_14 rfl (zle rfl) rfl ?_
  exact lp_X11_readsDays hM h17 hb hBt hi h32 7 0 (p + 1) 0 (by omega) (by omega) (by omega)
