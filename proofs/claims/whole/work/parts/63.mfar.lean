/-- the times to one corner -/
def DsP (r : zg) (nc nw d : Nat) (s : Prop) (K b : Nat) (v : Nat → Nat) : Prop := Sol (edg r nc nw d s) (fun c => c ≠ b) (fun c => c < nc) K v ∧ v b = 0
theorem DsE {r : zg} {nc nw d : Nat} {s : Prop} (b : Nat) (hnc : nc ≤ 8) : Eg (edg r nc nw d s) (fun c => c ≠ b) (fun c => c < nc) := ⟨fun c c' l h => ⟨h.1.1, h.1.2.1, by have := h.1.2.2.1; omega, by have := h.1.2.2.2.1; omega⟩, fun c c' l _ _ h => h.1.2.2.2.1⟩
noncomputable def dsf (r : zg) (nc nw d : Nat) (s : Prop) (b : Nat) : Nat → Nat := Classical.epsilon (DsP r nc nw d s FARn b)
theorem dsf_ok {r : zg} {nc nw d : Nat} {s : Prop} {b : Nat} (hnc : nc ≤ 8) : DsP r nc nw d s FARn b (dsf r nc nw d s b) := by
  refine Classical.epsilon_spec ?_
  obtain ⟨v, h1, h2⟩ := Sol_ex (K := FARn) (base := fun _ => 0) (DsE (r := r) (nw := nw) (d := d) (s := s) b hnc)
  exact ⟨v, h1, h2 b (fun h => h.2 rfl)⟩
noncomputable def ac_far (f : zf) (r : zg) (a b d : Int32) (s : Prop) : zO := zi ((0 ≤ a ∧ a ≤ f 0 - 1) ∧ (0 ≤ b ∧ b ≤ f 0 - 1) ∧ (0 ≤ d ∧ d ≤ 6)) (zi (dsf r (tn (f 0)) (tn (f 3)) (tn d) s (tn b) (tn a) < FARn) (nI (dsf r (tn (f 0)) (tn (f 3)) (tn d) s (tn b) (tn a)), f, r) (fdg (-1000004) f r)) (fdg (-1000001) f r)
theorem rlx_b {v : Nat → Nat} {b x y l : Nat} (h : v b = 0) : u1 v x (min (v x) (v y + l)) = rlx (fun c => c ≠ b) v x y l := by
  unfold rlx
  by_cases hx : x = b
  · subst hx
    rw [zi_f (fun h => h rfl)]
    funext c
    by_cases hc : c = x
    · subst hc; rw [u1_self, h]; omega
    · rw [u1_na hc]
  · rw [zi_t hx, Nat.add_comm]
theorem rlx_b0 {v : Nat → Nat} {b x y l : Nat} (h : v b = 0) : rlx (fun c => c ≠ b) v x y l b = 0 := by
  have := rlx_le (mv := fun c => c ≠ b) (v := v) (x := x) (y := y) (l := l) (c := b)
  omega
def DR (I0 I1 : zI) (q nc : Nat) (v : Nat → Nat) : Prop := (∀ c, c < nc → I1 q c = nI (v c)) ∧ ∀ a, a ≠ q → I1 a = I0 a
theorem DR.p {I0 I1 : zI} {q nc : Nat} {v : Nat → Nat} (h : DR I0 I1 q nc v) (x t : Nat) : DR I0 (u2 I1 q x (nI t)) q nc (u1 v x t) := ⟨fun c hc => by
  by_cases e : c = x
  · subst e; rw [u2_self, u1_self]
  · rw [u2_ni e, u1_na e]; exact h.1 c hc, fun a ha => by rw [u2_off _ _ ha]; exact h.2 a ha⟩
theorem wl_X11_far {E : zE} {T : zT} {N : zN} {P : zP} {I : zI} {R : zR} {m : Nat} {ad : Nat → Nat} {nc nw d q a b : Nat} {s : Prop} {Qf : State → Prop} {w v0 : Nat → Nat} {j6 : Int32} {K : zK E yX11_far cX11_far 10 (some .int) (zrm 2 43 1 8)} (hM : MOK T P m ad) (hq : T q = (1, 8)) (hfr : ∀ k, k < 44 → zr 11 k = true → ¬ q = ad k) (hd : d < 7) (hn3 : N 11 3 m = nI nw) (hw14 : nw ≤ 14) (hnc : nc ≤ 8) (hWy : WyI (mr I ad) nc nw) (hw : ∀ c c' l, edg (mr I ad) nc nw d s c c' l → c ≠ b → w c ≤ l + w c') (hv0 : ∀ c, c < nc → v0 c ≤ FARn) :
    ∀ k n (I1 : zI) (v : Nat → Nat) (o8 o9 : Option Value), n + k = nw → DR I I1 q nc v → v b = 0 → RA1 (mr I ad) nc nw d s (fun c => c ≠ b) w v0 v n → (∀ (I2 : zI) (v2 : Nat → Nat) (n : Nat) (o8 o9 : Option Value), DR I I2 q nc v2 → v2 b = 0 → RA1 (mr I ad) nc nw d s (fun c => c ≠ b) w v0 v2 nw → V K Qf T N P I2 R 1 8 183 [some (.ref m), some (.int (nI a)), some (.int (nI b)), some (.int (nI d)), some (.int (zb s)), some (.ref q), some (.int j6), some (.int (nI n)), o8, o9] []) → V K Qf T N P I1 R 1 8 86 [some (.ref m), some (.int (nI a)), some (.int (nI b)), some (.int (nI d)), some (.int (zb s)), some (.ref q), some (.int j6), some (.int (nI n)), o8, o9] [] := by
  intro k
  induction k with
  | zero =>
    intro n I1 v o8 o9 hn hT hb hA kk
    obtain rfl : n = nw := by omega
    refine v_iload_7 dX11_far_86 rfl ?_
    refine v_aload_0 dX11_far_88 rfl ?_
    refine v_getN fl_11_125 (MOK.t hM) rfl (zle rfl) rfl dX11_far_89 rfl ?_
    refine v_top hn3 ?_
    refine v_icmp_ge_t (n := 183) (nI_le (a := n) (b := n) (by omega) (by omega)) dX11_far_92 (by decide) ?_
    exact kk I1 v n _ _ hT hb hA
  | succ k ih =>
    intro n I1 v o8 o9 hn hT hb hA kk
    have hne : ∀ k, k < 32 → zr 11 k = true → I1 (ad k) = I (ad k) := fun k hk hz => hT.2 _ (fun e => hfr k (by omega) hz e.symm)
    have hmr : mr I1 ad = mr I ad := by
      funext k j
      unfold mr
      by_cases hk : k < 32 ∧ zr 11 k = true
      · rw [if_pos hk, if_pos hk, hne k hk.1 hk.2]
      · rw [if_neg hk, if_neg hk]
    obtain ⟨w1, w2, w3, w4, w5⟩ := hWy n (by omega)
    have w1b := w1.2
    have w2b := w2.2
    have w3b := w3.2
    have e4 : I1 (ad 4) n = nI (tn (mr I ad 4 n)) := (congrFun (hne 4 (by decide) rfl) n).trans w1.1
    have e5 : I1 (ad 5) n = nI (tn (mr I ad 5 n)) := (congrFun (hne 5 (by decide) rfl) n).trans w2.1
    have e6 : I1 (ad 6) n = nI (tn (mr I ad 6 n)) := (congrFun (hne 6 (by decide) rfl) n).trans w3.1
    have bx := hA.1 _ w1b
    have by' := hA.1 _ w2b
    have fx := hv0 _ w1b
    have fy := hv0 _ w2b
    have hF : FARn = 100000000 := rfl
    have q6 : ¬ ad 6 = q := fun e => hfr 6 (by decide) rfl e.symm
    refine v_iload_7 dX11_far_86 rfl ?_
    refine v_aload_0 dX11_far_88 rfl ?_
    refine v_getN fl_11_125 (MOK.t hM) rfl (zle rfl) rfl dX11_far_89 rfl ?_
    refine v_top hn3 ?_
    refine v_icmp_ge_f (tgt := 183) (nI_ge (a := n) (b := nw) (by omega) (by omega)) dX11_far_92 (by decide) rfl ?_
    refine v_aload_0 dX11_far_95 rfl ?_
    refine v_iload_7 dX11_far_96 rfl ?_
    refine v_iload_3 dX11_far_98 rfl ?_
    refine v_iload_4 dX11_far_99 rfl ?_
    refine v_callV (ci := 11) (F := TX11) (c_X11_isOpen (I := I1) m ad n d s hM (by omega) hd) yy_X11_isOpen im_X11_isOpen se_X11_isOpen lk_11_148 (MOK.t hM) (zle rfl) rfl (zle rfl) (zle rfl) (zle rfl) (zle rfl) rfl rfl (zle rfl) dX11_far_101 rfl (zp.use ?_)
    rw [hmr]
    refine v_ifz_eq (tgt := 177) dX11_far_104 (by decide) rfl (fun c104 => ?_) (fun c104 => ?_)
    · refine v_iinc_7 dX11_far_177 (nI_1 n) rfl (zle rfl) rfl ?_
      refine v_goto (n := 86) dX11_far_180 (by decide) ?_
      exact ih (n + 1) I1 v _ _ (by omega) hT hb (hA.no c104) kk
    · refine v_aload_0 dX11_far_107 rfl ?_
      refine v_getP fl_11_16 (mp_4 hM) (MOK.t hM) rfl (zle rfl) rfl dX11_far_108 rfl ?_
      refine v_iload_7 dX11_far_111 rfl ?_
      refine v_iald (j := n) (ma_4 hM) rfl (by omega) (zle rfl) dX11_far_113 rfl ?_
      refine v_top e4 ?_
      refine v_istore_8 dX11_far_114 rfl (zle rfl) rfl ?_
      refine v_aload_0 dX11_far_116 rfl ?_
      refine v_getP fl_11_19 (mp_5 hM) (MOK.t hM) rfl (zle rfl) rfl dX11_far_117 rfl ?_
      refine v_iload_7 dX11_far_120 rfl ?_
      refine v_iald (j := n) (ma_5 hM) rfl (by omega) (zle rfl) dX11_far_122 rfl ?_
      refine v_top e5 ?_
      refine v_istore_9 dX11_far_123 rfl (zle rfl) rfl ?_
      refine v_aload_5 dX11_far_125 rfl ?_
      refine v_iload_8 dX11_far_127 rfl ?_
      refine v_aload_5 dX11_far_129 rfl ?_
      refine v_iload_8 dX11_far_131 rfl ?_
      refine v_iald (j := (tn (mr I ad 4 n))) hq rfl (by omega) (zle rfl) dX11_far_133 rfl ?_
      refine v_top (hT.1 _ w1b) ?_
      refine v_aload_5 dX11_far_134 rfl ?_
      refine v_iload_9 dX11_far_136 rfl ?_
      refine v_iald (j := (tn (mr I ad 5 n))) hq rfl (by omega) (zle rfl) dX11_far_138 rfl ?_
      refine v_top (hT.1 _ w2b) ?_
      refine v_aload_0 dX11_far_139 rfl ?_
      refine v_getP fl_11_22 (mp_6 hM) (MOK.t hM) rfl (zle rfl) rfl dX11_far_140 rfl ?_
      refine v_iload_7 dX11_far_143 rfl ?_
      refine v_iald (j := n) (ma_6 hM) rfl (by omega) (zle rfl) dX11_far_145 rfl ?_
      refine v_top e6 ?_
      refine v_iadd dX11_far_146 rfl ?_
      refine v_top (nI_add _ _) ?_
      refine v_min lk_11_152 st_min ii_math cd_min (zle rfl) (zle rfl) (zle rfl) (zle rfl) dX11_far_147 rfl ?_
      refine v_top (nI_min (by omega) (by omega)) ?_
      refine v_iast (j := (tn (mr I ad 4 n))) hq rfl (by omega) (zle rfl) dX11_far_150 rfl ?_
      have hT2 : DR I (u2 I1 q (tn (mr I ad 4 n)) (nI (min (v (tn (mr I ad 4 n))) (v (tn (mr I ad 5 n)) + (tn (mr I ad 6 n)))))) q nc (rlx (fun c => c ≠ b) v (tn (mr I ad 4 n)) (tn (mr I ad 5 n)) (tn (mr I ad 6 n))) := by rw [← rlx_b hb]; exact hT.p _ _
      have hb2 : (rlx (fun c => c ≠ b) v (tn (mr I ad 4 n)) (tn (mr I ad 5 n)) (tn (mr I ad 6 n))) b = 0 := rlx_b0 hb
      have l1 := rlx_le (mv := (fun c => c ≠ b)) (v := v) (x := (tn (mr I ad 4 n))) (y := (tn (mr I ad 5 n))) (l := (tn (mr I ad 6 n))) (c := (tn (mr I ad 4 n)))
      have l2 := rlx_le (mv := (fun c => c ≠ b)) (v := v) (x := (tn (mr I ad 4 n))) (y := (tn (mr I ad 5 n))) (l := (tn (mr I ad 6 n))) (c := (tn (mr I ad 5 n)))
      have f6 : (u2 I1 q (tn (mr I ad 4 n)) (nI (min (v (tn (mr I ad 4 n))) (v (tn (mr I ad 5 n)) + (tn (mr I ad 6 n)))))) (ad 6) n = nI (tn (mr I ad 6 n)) := by rw [u2_na q6]; exact e6
      refine v_aload_5 dX11_far_151 rfl ?_
      refine v_iload_9 dX11_far_153 rfl ?_
      refine v_aload_5 dX11_far_155 rfl ?_
      refine v_iload_9 dX11_far_157 rfl ?_
      refine v_iald (j := (tn (mr I ad 5 n))) hq rfl (by omega) (zle rfl) dX11_far_159 rfl ?_
      refine v_top (hT2.1 _ w2b) ?_
      refine v_aload_5 dX11_far_160 rfl ?_
      refine v_iload_8 dX11_far_162 rfl ?_
      refine v_iald (j := (tn (mr I ad 4 n))) hq rfl (by omega) (zle rfl) dX11_far_164 rfl ?_
      refine v_top (hT2.1 _ w1b) ?_
      refine v_aload_0 dX11_far_165 rfl ?_
      refine v_getP fl_11_22 (mp_6 hM) (MOK.t hM) rfl (zle rfl) rfl dX11_far_166 rfl ?_
      refine v_iload_7 dX11_far_169 rfl ?_
      refine v_iald (j := n) (ma_6 hM) rfl (by omega) (zle rfl) dX11_far_171 rfl ?_
      refine v_top f6 ?_
      refine v_iadd dX11_far_172 rfl ?_
      refine v_top (nI_add _ _) ?_
      refine v_min lk_11_152 st_min ii_math cd_min (zle rfl) (zle rfl) (zle rfl) (zle rfl) dX11_far_173 rfl ?_
      refine v_top (nI_min (by omega) (by omega)) ?_
      refine v_iast (j := (tn (mr I ad 5 n))) hq rfl (by omega) (zle rfl) dX11_far_176 rfl ?_
      refine v_iinc_7 dX11_far_177 (nI_1 n) rfl (zle rfl) rfl ?_
      refine v_goto (n := 86) dX11_far_180 (by decide) ?_
      exact ih (n + 1) _ (rlx (fun c => c ≠ b) (rlx (fun c => c ≠ b) v (tn (mr I ad 4 n)) (tn (mr I ad 5 n)) (tn (mr I ad 6 n))) (tn (mr I ad 5 n)) (tn (mr I ad 4 n)) (tn (mr I ad 6 n))) _ _ (by omega) (by rw [← rlx_b hb2]; exact hT2.p _ _) (rlx_b0 hb2) (hA.ye c104 hWy (by omega) hw) kk
theorem rl_X11_far {E : zE} {T : zT} {N : zN} {P : zP} {I : zI} {R : zR} {m : Nat} {ad : Nat → Nat} {nc nw d q a b : Nat} {s : Prop} {Qf : State → Prop} {w : Nat → Nat} {K : zK E yX11_far cX11_far 10 (some .int) (zrm 2 43 1 8)} (hM : MOK T P m ad) (hq : T q = (1, 8)) (hfr : ∀ k, k < 44 → zr 11 k = true → ¬ q = ad k) (hd : d < 7) (hn3 : N 11 3 m = nI nw) (hw14 : nw ≤ 14) (hnc : nc ≤ 8) (hWy : WyI (mr I ad) nc nw) (hn0 : N 11 0 m = nI nc) (hw : Sol (edg (mr I ad) nc nw d s) (fun c => c ≠ b) (fun c => c < nc) FARn w) (hwb : w b = 0) :
    ∀ k j (I1 : zI) (v : Nat → Nat) (o7 o8 o9 : Option Value), j + k = nc → DR I I1 q nc v → v b = 0 → RB nc (fun c => c ≠ b) w v → (cnp (fun c => c < nc ∧ v c ≠ w c) 8 + j ≤ nc ∨ ∀ c, c < nc → v c = w c) → (∀ (I2 : zI) (v2 : Nat → Nat) (j6 : Int32) (o7 o8 o9 : Option Value), DR I I2 q nc v2 → (∀ c, c < nc → v2 c = w c) → V K Qf T N P I2 R 1 8 189 [some (.ref m), some (.int (nI a)), some (.int (nI b)), some (.int (nI d)), some (.int (zb s)), some (.ref q), some (.int j6), o7, o8, o9] []) → V K Qf T N P I1 R 1 8 74 [some (.ref m), some (.int (nI a)), some (.int (nI b)), some (.int (nI d)), some (.int (zb s)), some (.ref q), some (.int (nI j)), o7, o8, o9] [] := by
  intro k
  induction k with
  | zero =>
    intro j I1 v o7 o8 o9 hj hT hb hB hc kk
    obtain rfl : j = nc := by omega
    refine v_iload_6 dX11_far_74 rfl ?_
    refine v_aload_0 dX11_far_76 rfl ?_
    refine v_getN fl_11_118 (MOK.t hM) rfl (zle rfl) rfl dX11_far_77 rfl ?_
    refine v_top hn0 ?_
    refine v_icmp_ge_t (n := 189) (nI_le (a := j) (b := j) (by omega) (by omega)) dX11_far_80 (by decide) ?_
    exact kk I1 v _ _ _ _ hT (RB.en (j := 0) (mv := (fun c => c ≠ b)) hnc hc)
  | succ k ih =>
    intro j I1 v o7 o8 o9 hj hT hb hB hc kk
    have hvf : ∀ c, c < nc → v c ≤ FARn := fun c h => by
      by_cases hm : c = b
      · rw [hm, hb]; exact Nat.zero_le _
      · exact (hB c h).2.1 hm
    refine v_iload_6 dX11_far_74 rfl ?_
    refine v_aload_0 dX11_far_76 rfl ?_
    refine v_getN fl_11_118 (MOK.t hM) rfl (zle rfl) rfl dX11_far_77 rfl ?_
    refine v_top hn0 ?_
    refine v_icmp_ge_f (tgt := 189) (nI_ge (a := j) (b := nc) (by omega) (by omega)) dX11_far_80 (by decide) rfl ?_
    refine v_iconst (v := 0) dX11_far_83 rfl rfl ?_
    refine v_istore_7 dX11_far_84 rfl (zle rfl) rfl ?_
    refine wl_X11_far (w := w) (v0 := v) hM hq hfr hd hn3 hw14 hnc hWy (fun c c' l h hm => (hw c h.1.2.2.1 hm).2.1 c' l h) hvf nw 0 I1 v _ _ (by omega) hT hb ⟨fun c h => ⟨(hB c h).1, Nat.le_refl _⟩, fun q hq => absurd hq (Nat.not_lt_zero q)⟩ (fun I2 v2 n o8 o9 hT2 hb2 hA => ?_)
    refine v_iinc_6 (b := nI (j + 1)) dX11_far_183 (nI_1 j) rfl (zle rfl) rfl ?_
    refine v_goto (n := 74) dX11_far_186 (by decide) ?_
    exact ih (j + 1) I2 v2 _ _ _ (by omega) hT2 hb2 (hB.rd hA) (hB.ct (DsE b hnc) hw hnc hA hc) kk
theorem il_X11_far {E : zE} {T : zT} {N : zN} {P : zP} {I : zI} {R : zR} {m : Nat} {ad : Nat → Nat} {nc nw d q a b : Nat} {s : Prop} {Qf : State → Prop} {K : zK E yX11_far cX11_far 10 (some .int) (zrm 2 43 1 8)} (hM : MOK T P m ad) (hq : T q = (1, 8)) (hn0 : N 11 0 m = nI nc) (hnc : nc ≤ 8) (hb : b < nc) :
    ∀ k c (I1 : zI), c + k = nc → DR I I1 q c (fun c => zi (c = b) 0 FARn) → (∀ (I2 : zI) (c : Nat), DR I I2 q nc (fun c => zi (c = b) 0 FARn) → V K Qf T N P I2 R 1 8 71 [some (.ref m), some (.int (nI a)), some (.int (nI b)), some (.int (nI d)), some (.int (zb s)), some (.ref q), some (.int (nI c)), none, none, none] []) → V K Qf T N P I1 R 1 8 39 [some (.ref m), some (.int (nI a)), some (.int (nI b)), some (.int (nI d)), some (.int (zb s)), some (.ref q), some (.int (nI c)), none, none, none] [] := by
  intro k
  induction k with
  | zero =>
    intro c I1 hk hT kk
    obtain rfl : c = nc := by omega
    refine v_iload_6 dX11_far_39 rfl ?_
    refine v_aload_0 dX11_far_41 rfl ?_
    refine v_getN fl_11_118 (MOK.t hM) rfl (zle rfl) rfl dX11_far_42 rfl ?_
    refine v_top hn0 ?_
    refine v_icmp_ge_t (n := 71) (nI_le (a := c) (b := c) (by omega) (by omega)) dX11_far_45 (by decide) ?_
    exact kk I1 c hT
  | succ k ih =>
    intro c I1 hk hT kk
    have hst : ∀ x : Int32, x = nI (zi (c = b) 0 FARn) → DR I (u2 I1 q c x) q (c + 1) (fun c => zi (c = b) 0 FARn) := fun x hx => ⟨fun i hi => by
      by_cases e : i = c
      · subst e; rw [u2_self]; exact hx
      · rw [u2_ni e]; exact hT.1 i (by omega), fun a ha => by rw [u2_off _ _ ha]; exact hT.2 a ha⟩
    refine v_iload_6 dX11_far_39 rfl ?_
    refine v_aload_0 dX11_far_41 rfl ?_
    refine v_getN fl_11_118 (MOK.t hM) rfl (zle rfl) rfl dX11_far_42 rfl ?_
    refine v_top hn0 ?_
    refine v_icmp_ge_f (tgt := 71) (nI_ge (a := c) (b := nc) (by omega) (by omega)) dX11_far_45 (by decide) rfl ?_
    refine v_aload_5 dX11_far_48 rfl ?_
    refine v_iload_6 dX11_far_50 rfl ?_
    refine v_iload_6 dX11_far_52 rfl ?_
    refine v_iload_2 dX11_far_54 rfl ?_
    by_cases hcb : c = b
    · refine v_icmp_ne_f (tgt := 62) (by rw [hcb]) dX11_far_55 (by decide) rfl ?_
      refine v_iconst (v := 0) dX11_far_58 rfl rfl ?_
      refine v_goto (n := 64) dX11_far_59 (by decide) ?_
      refine v_iast (j := c) hq rfl (by omega) (zle rfl) dX11_far_64 rfl ?_
      refine v_iinc_6 dX11_far_65 (nI_1 c) rfl (zle rfl) rfl ?_
      refine v_goto (n := 39) dX11_far_68 (by decide) ?_
      exact ih (c + 1) _ (by omega) (hst 0 (by rw [zi_t hcb]; rfl)) kk
    · refine v_icmp_ne_t (n := 62) (fun h => hcb ((nI_eq (by omega) (by omega)).mp h)) dX11_far_55 (by decide) ?_
      refine v_ldc dX11_far_62 kc_11_147 rfl ?_
      refine v_iast (j := c) hq rfl (by omega) (zle rfl) dX11_far_64 rfl ?_
      refine v_iinc_6 dX11_far_65 (nI_1 c) rfl (zle rfl) rfl ?_
      refine v_goto (n := 39) dX11_far_68 (by decide) ?_
      exact ih (c + 1) _ (by omega) (hst 100000000 (by rw [zi_f hcb]; rfl)) kk
theorem c_X11_far {E : zE} {T : zT} {N : zN} {P : zP} {I : zI} {R : zR} (m : Nat) (ad : Nat → Nat) (a b d : Int32) (s : Prop) (hM : MOK T P m ad) (hZ : SrI (mf N m) (mr I ad)) : zC E yX11_far cX11_far 10 (some .int) (zrm 2 43 1 8) [.ref m, .int a, .int b, .int d, .int (zb s)] T N P I R (mQ m ad T N P I R (ac_far (mf N m) (mr I ad) a b d s)) := by
  refine zC.intro (ls := [some (.ref m), some (.int a), some (.int b), some (.int d), some (.int (zb s)), none, none, none, none, none]) pl_RX11 (zle rfl) 5 rfl (fun K => ?_)
  refine v_aload_0 dX11_far_0 rfl ?_
  refine v_iload_1 dX11_far_1 rfl ?_
  refine v_callV (ci := 11) (F := TX11) (c_X11_isCorner _ _ (MOK.t hM)) yy_X11_isCorner im_X11_isCorner se_X11_isCorner lk_11_137 (MOK.t hM) (zle rfl) rfl (zle rfl) (zle rfl) (zle rfl) (zle rfl) rfl rfl (zle rfl) dX11_far_2 rfl (zp.use ?_)
  refine v_ifz_eq (tgt := 23) dX11_far_5 (by decide) rfl (fun c5 => ?_) (fun c5 => ?_)
  · refine v_aload_0 dX11_far_23 rfl ?_
    refine v_ldc dX11_far_24 kc_11_131 rfl ?_
    refine v_callV (ci := 11) (F := TX11) (c_X11_finding _ _ (MOK.t hM)) yy_X11_finding im_X11_finding se_X11_finding lk_11_132 (MOK.t hM) (zle rfl) rfl (zle rfl) (zle rfl) (zle rfl) (zle rfl) rfl rfl (zle rfl) dX11_far_26 rfl (zp.use ?_)
    exact v_ireturn rfl (mQ_fd hM (zi_f (fun h => c5 h.1))) (zle rfl) (zle rfl) dX11_far_29
  · refine v_aload_0 dX11_far_8 rfl ?_
    refine v_iload_2 dX11_far_9 rfl ?_
    refine v_callV (ci := 11) (F := TX11) (c_X11_isCorner _ _ (MOK.t hM)) yy_X11_isCorner im_X11_isCorner se_X11_isCorner lk_11_137 (MOK.t hM) (zle rfl) rfl (zle rfl) (zle rfl) (zle rfl) (zle rfl) rfl rfl (zle rfl) dX11_far_10 rfl (zp.use ?_)
    refine v_ifz_eq (tgt := 23) dX11_far_13 (by decide) rfl (fun c13 => ?_) (fun c13 => ?_)
    · refine v_aload_0 dX11_far_23 rfl ?_
      refine v_ldc dX11_far_24 kc_11_131 rfl ?_
      refine v_callV (ci := 11) (F := TX11) (c_X11_finding _ _ (MOK.t hM)) yy_X11_finding im_X11_finding se_X11_finding lk_11_132 (MOK.t hM) (zle rfl) rfl (zle rfl) (zle rfl) (zle rfl) (zle rfl) rfl rfl (zle rfl) dX11_far_26 rfl (zp.use ?_)
      exact v_ireturn rfl (mQ_fd hM (zi_f (fun h => c13 h.2.1))) (zle rfl) (zle rfl) dX11_far_29
    · refine v_iload_3 dX11_far_16 rfl ?_
      refine v_callS (c_X11_isDay _) yy_X11_isDay st_X11_isDay lk_11_144 (zle rfl) (zle rfl) (zle rfl) (zle rfl) rfl rfl (zle rfl) dX11_far_17 rfl (zp.use ?_)
      refine v_ifz_ne (tgt := 30) dX11_far_20 (by decide) rfl (fun c20 => ?_) (fun c20 => ?_)
      · have h9 := hZ.1.1.2.1
        have h9b := h9.2
        have h0 : Nt (N 11 0 m) 9 := hZ.1.2.1
        have h0b := h0.2
        have h3 : Nt (N 11 3 m) 15 := hZ.1.2.2.1
        have h3b := h3.2
        obtain ⟨a, ha, rfl⟩ := fnd h0 (by decide) c5
        obtain ⟨b, hb, rfl⟩ := fnd h0 (by decide) c13
        obtain ⟨d, hd, rfl⟩ := day7 c20
        have ta : tn (nI a) = a := tn_nI (by omega)
        have tb : tn (nI b) = b := tn_nI (by omega)
        have td : tn (nI d) = d := tn_nI (by omega)
        refine v_bipush (v := 8) dX11_far_30 rfl rfl ?_
        refine v_newa (atype := .int) (ft := .int) (t := 1) rfl (Or.inl ⟨rfl, rfl⟩) ac_int rfl (zle rfl) (zle rfl) (zle rfl) dX11_far_32 rfl (fun q32 hq32 => ?_)
        refine v_astore_5 dX11_far_34 rfl (zle rfl) rfl ?_
        refine v_iconst (v := 0) dX11_far_36 rfl rfl ?_
        refine v_istore_6 dX11_far_37 rfl (zle rfl) rfl ?_
        have hfr : ∀ k, k < 44 → zr 11 k = true → ¬ q32 = ad k := fun k hk hz => hM.fr hq32 hk hz
        have hM2 := hM.t1 hq32 (1, 8)
        refine v_abs (fun T1 N1 P1 I1 R1 => u1 T q32 (1, 8) = T1 ∧ N = N1 ∧ P = P1 ∧ R = R1 ∧ u1 I q32 (fun _ => 0) = I1) ⟨rfl, rfl, rfl, rfl, rfl⟩ (fun T1 N1 P1 I1 R1 hG => ?_)
        obtain ⟨rfl, rfl, rfl, rfl, hI1⟩ := hG
        have hI1' : ∀ a, a ≠ q32 → I1 a = I a := fun a ha => by rw [← hI1, u1_na ha]
        have hmr : mr I1 ad = mr I ad := by
          funext k j
          unfold mr
          by_cases hk : k < 32 ∧ zr 11 k = true
          · rw [if_pos hk, if_pos hk, hI1' _ (fun e => hfr k (by omega) hk.2 e.symm)]
          · rw [if_neg hk, if_neg hk]
        have hok := dsf_ok (r := mr I1 ad) (nc := tn (N 11 0 m)) (nw := tn (N 11 3 m)) (d := d) (s := s) (b := b) (by omega)
        have hWy1 : WyI (mr I1 ad) (tn (N 11 0 m)) (tn (N 11 3 m)) := by rw [hmr]; exact hZ.2.1
        have hwf : ∀ c, c < tn (N 11 0 m) → dsf (mr I1 ad) (tn (N 11 0 m)) (tn (N 11 3 m)) d s b c ≤ FARn := fun c hc => by
          by_cases hm : c = b
          · rw [hm, hok.2]; exact Nat.zero_le _
          · exact (hok.1 c hc hm).1
        refine il_X11_far (nw := 0) (I := I1) hM2 u1_self h0.1 (by omega) hb (tn (N 11 0 m)) 0 I1 (by omega) ⟨fun c hc => absurd hc (Nat.not_lt_zero c), fun _ _ => rfl⟩ (fun I2 c hT2 => ?_)
        refine v_iconst (v := 0) dX11_far_71 rfl rfl ?_
        refine v_istore_6 dX11_far_72 rfl (zle rfl) rfl ?_
        refine rl_X11_far (I := I1) (w := dsf (mr I1 ad) (tn (N 11 0 m)) (tn (N 11 3 m)) d s b) hM2 u1_self hfr hd h3.1 (by omega) (by omega) hWy1 h0.1 hok.1 hok.2 (tn (N 11 0 m)) 0 I2 (fun c => zi (c = b) 0 FARn) _ _ _ (by omega) hT2 (zi_t rfl) (fun c hc => ?_) (Or.inl (cnp_nc _ _ _)) (fun I3 v3 j6 o7 o8 o9 hT3 h3' => ?_)
        · by_cases hm : c = b
          · subst hm
            show _ ≤ zi (c = c) 0 FARn ∧ (_ → zi (c = c) 0 FARn ≤ _) ∧ (_ → zi (c = c) 0 FARn = _)
            rw [zi_t rfl, hok.2]; exact ⟨Nat.le_refl _, fun h => absurd rfl h, fun _ => rfl⟩
          · show _ ≤ zi (c = b) 0 FARn ∧ (_ → zi (c = b) 0 FARn ≤ _) ∧ (_ → zi (c = b) 0 FARn = _)
            rw [zi_f hm]; exact ⟨hwf c hc, fun _ => Nat.le_refl _, fun h => absurd hm h⟩
        have hM := hM2
        have hF9 : FARn = 100000000 := rfl
        have mv : I3 q32 a = nI ((dsf (mr I ad) (tn (N 11 0 m)) (tn (N 11 3 m)) d s b) a) := by rw [hT3.1 a ha, h3' a ha, hmr]
        have hff : (dsf (mr I ad) (tn (N 11 0 m)) (tn (N 11 3 m)) d s b) a ≤ FARn := by rw [← hmr]; exact hwf a ha
        have m2 : mr I3 ad = mr I ad := by
          rw [← hmr]
          funext k j
          unfold mr
          by_cases hk : k < 32 ∧ zr 11 k = true
          · rw [if_pos hk, if_pos hk, hT3.2 _ (fun e => hfr k (by omega) hk.2 e.symm)]
          · rw [if_neg hk, if_neg hk]
        have hMf : Mfr ad T N P I R (u1 T q32 (1, 8)) N P I3 R := ⟨rfl, rfl, fun _ _ _ _ => rfl, fun x hx => u1_na (fun e => hx (by rw [e]; exact hq32)), fun x hx _ => by
          have hne : x ≠ q32 := fun e => hx (by rw [e]; exact hq32)
          rw [hT3.2 x hne, hI1' x hne]⟩
        refine v_aload_5 dX11_far_189 rfl ?_
        refine v_iload_1 dX11_far_191 rfl ?_
        refine v_iald (j := a) u1_self rfl (by omega) (zle rfl) dX11_far_192 rfl ?_
        refine v_top mv ?_
        refine v_ldc dX11_far_193 kc_11_147 rfl ?_
        by_cases hlt : (dsf (mr I ad) (tn (N 11 0 m)) (tn (N 11 3 m)) d s b) a < FARn
        · refine v_icmp_lt_t (n := 207) (nI_lt (a := (dsf (mr I ad) (tn (N 11 0 m)) (tn (N 11 3 m)) d s b) a) (b := FARn) hlt (by decide)) dX11_far_195 (by decide) ?_
          refine v_aload_5 dX11_far_207 rfl ?_
          refine v_iload_1 dX11_far_209 rfl ?_
          refine v_iald (j := a) u1_self rfl (by omega) (zle rfl) dX11_far_210 rfl ?_
          refine v_top mv ?_
          exact v_ireturn rfl (mQ_go hM (((zi_t ⟨c5, c13, c20⟩).trans (zi_t (by rw [ta, tb, td]; exact hlt))).trans (by rw [ta, tb, td] <;> rfl)) rfl rfl m2 hMf) (zle rfl) (zle rfl) dX11_far_211
        · refine v_icmp_lt_f (tgt := 207) (nI_nlt (a := (dsf (mr I ad) (tn (N 11 0 m)) (tn (N 11 3 m)) d s b) a) (b := FARn) (by omega) (by omega)) dX11_far_195 (by decide) rfl ?_
          refine v_aload_0 dX11_far_198 rfl ?_
          refine v_ldc dX11_far_199 kc_11_158 rfl ?_
          refine v_callV (ci := 11) (F := TX11) (c_X11_finding m (-1000004) (MOK.t hM)) yy_X11_finding im_X11_finding se_X11_finding lk_11_132 (MOK.t hM) (zle rfl) rfl (zle rfl) (zle rfl) (zle rfl) (zle rfl) rfl rfl (zle rfl) dX11_far_201 rfl (zp.use ?_)
          refine v_goto (n := 211) dX11_far_204 (by decide) ?_
          exact v_ireturn rfl (mQ_go hM ((zi_t ⟨c5, c13, c20⟩).trans (zi_f (by rw [ta, tb, td]; exact hlt))) rfl (mf_set (by decide)) m2 (hMf.n _ _ _)) (zle rfl) (zle rfl) dX11_far_211
      · refine v_aload_0 dX11_far_23 rfl ?_
        refine v_ldc dX11_far_24 kc_11_131 rfl ?_
        refine v_callV (ci := 11) (F := TX11) (c_X11_finding _ _ (MOK.t hM)) yy_X11_finding im_X11_finding se_X11_finding lk_11_132 (MOK.t hM) (zle rfl) rfl (zle rfl) (zle rfl) (zle rfl) (zle rfl) rfl rfl (zle rfl) dX11_far_26 rfl (zp.use ?_)
        exact v_ireturn rfl (mQ_fd hM (zi_f (fun h => c20 h.2.2))) (zle rfl) (zle rfl) dX11_far_29
