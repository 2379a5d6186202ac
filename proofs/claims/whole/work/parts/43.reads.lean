theorem i_nle {a b : Int32} (h : a < b) : ¬ b ≤ a := by simp only [Int32.lt_iff_toInt_lt, Int32.le_iff_toInt_le] at *; omega
theorem i_lnle {a b : Int32} (h : ¬ b ≤ a) : a < b := by simp only [Int32.lt_iff_toInt_lt, Int32.le_iff_toInt_le] at *; omega
theorem i_lnlt {a b : Int32} (h : ¬ b < a) : a ≤ b := by simp only [Int32.lt_iff_toInt_lt, Int32.le_iff_toInt_le] at *; omega
theorem wtv_congr {r r' : zg} {d : Nat} {s : Prop} {a c : Int32} (h4 : r' 4 = r 4) (h5 : r' 5 = r 5) (h6 : r' 6 = r 6) (h7 : r' 7 = r 7) (h8 : r' 8 = r 8) : ∀ n, wtv r' d s a c n = wtv r d s a c n := by
  intro n
  induction n with
  | zero => rfl
  | succ n ih =>
    show zi (jn2 r' a c n ∧ opn r' d s n) (if r' 6 n < wtv r' d s a c n then r' 6 n else wtv r' d s a c n) (wtv r' d s a c n) = zi (jn2 r a c n ∧ opn r d s n) (if r 6 n < wtv r d s a c n then r 6 n else wtv r d s a c n) (wtv r d s a c n)
    unfold jn2 opn
    rw [ih, h4, h5, h6, h7, h8]
/-- what a reading asks of the state -/
def SnI (f : zf) (r : zg) : Prop := WkI f r ∧ Nt (f 0) 9 ∧ Nt (f 3) 15 ∧ (∀ c, c < tn (f 0) → Nt (r 1 c) 100 ∧ Nt (r 2 c) 100) ∧ (∀ q, q < tn (f 3) → Nt (r 6 q) 21 ∧ ¬ r 4 q = r 5 q) ∧ ∀ n, n < tn (f 18) → Nt (r 19 n) (tn (f 0)) ∧ (r 23 n = 0 ∨ r 23 n = 1) ∧ Nt (r 26 n) 4
/-- the only corner that a reading may mean, how often it was then, whether it's sure -/
noncomputable def rdA (f : zf) (r : zg) (x y k : Int32) : Int32 := rdw r x y k (tn (f 0))
noncomputable def rdN (r : zg) (w : Nat) (a : Int32) : Int32 := zi (0 < r 26 w ∧ r 25 w = a) (r 26 w + 1) 1
def rdC (f : zf) (r : zg) (w : Nat) (a n : Int32) : Prop := 4 ≤ n ∨ (2 ≤ n ∧ ∃ q, q < tn (f 3) ∧ jnd r (tn (f 27)) (r 23 w = 1) (r 19 w) a q)
noncomputable def rd1 (r : zg) (w : Nat) (a : Int32) : zg := u2 (u2 r 26 w (rdN r w a)) 25 w a
/-- the rows behind a reading -/
noncomputable def rds (f : zf) (r : zg) (w : Nat) (x y k : Int32) : zg := zi (psb r x y k (tn (r 19 w))) (u2 r 26 w 0) (zi (rdn r x y k (tn (f 0)) = 1) (zi (rdC f r w (rdA f r x y k) (rdN r w (rdA f r x y k))) (rz (u2 (u2 (rd1 r w (rdA f r x y k)) 19 w (rdA f r x y k)) 26 w 0) w (cmz f r w (r 21 w) (rdA f r x y k))) (rd1 r w (rdA f r x y k))) r)
theorem rds_k {f : zf} {r : zg} {w : Nat} {x y k : Int32} {j : Nat} (h1 : j ≠ 19) (h2 : j ≠ 20) (h3 : j ≠ 21) (h4 : j ≠ 24) (h5 : j ≠ 25) (h6 : j ≠ 26) : rds f r w x y k j = r j := by
  unfold rds
  by_cases hp : psb r x y k (tn (r 19 w))
  · rw [zi_t hp, u2_off _ _ h6]
  · rw [zi_f hp]
    by_cases hn : rdn r x y k (tn (f 0)) = 1
    · rw [zi_t hn]
      have e1 : rd1 r w (rdA f r x y k) j = r j := by
        unfold rd1
        rw [u2_off _ _ h5, u2_off _ _ h6]
      by_cases hc : rdC f r w (rdA f r x y k) (rdN r w (rdA f r x y k))
      · rw [zi_t hc]
        unfold rz
        rw [u2_off _ _ h4, u2_off _ _ h3, u2_off _ _ h2, u2_off _ _ h6, u2_off _ _ h1]
        exact e1
      · rw [zi_f hc]
        exact e1
    · rw [zi_f hn]
theorem rds_w {f : zf} {r : zg} {w : Nat} {x y k : Int32} {i j : Nat} (h : j ≠ w) : rds f r w x y k i j = r i j := by
  unfold rds
  by_cases hp : psb r x y k (tn (r 19 w))
  · rw [zi_t hp, u2_ni h]
  · rw [zi_f hp]
    by_cases hn : rdn r x y k (tn (f 0)) = 1
    · rw [zi_t hn]
      have e1 : ∀ i, rd1 r w (rdA f r x y k) i j = r i j := fun i => by
        unfold rd1
        rw [u2_ni h, u2_ni h]
      by_cases hc : rdC f r w (rdA f r x y k) (rdN r w (rdA f r x y k))
      · rw [zi_t hc]
        unfold rz
        rw [u2_ni h, u2_ni h, u2_ni h, u2_ni h, u2_ni h]
        exact e1 i
      · rw [zi_f hc]
        exact e1 i
    · rw [zi_f hn]
theorem rd_A {f : zf} {r : zg} {x y k : Int32} (h0 : Nt (f 0) 9) (hn : rdn r x y k (tn (f 0)) = 1) : ∃ j, j < tn (f 0) ∧ psb r x y k j ∧ rdA f r x y k = nI j ∧ psn r x y k (tn (f 0)) = 2 ^ j := by
  have h0b := h0.2
  obtain ⟨j, hj, ej⟩ := (rd_one (by omega)).mp hn
  obtain ⟨h1, h2, h3⟩ := rd_which ej
  exact ⟨j, h1, h2, h3, ej⟩
theorem rd_N {r : zg} {w : Nat} {a : Int32} (h : Nt (r 26 w) 4) : Nt (rdN r w a) 5 ∧ ¬ rdN r w a = 0 := by
  have h2 := h.2
  unfold rdN
  by_cases g : 0 < r 26 w ∧ r 25 w = a
  · rw [zi_t g, h.1, nI_1]
    exact ⟨Nt.of_nI (by omega) (by omega), fun e => by have := congrArg tn e; rw [tn_nI (by omega)] at this; exact absurd this (by show ¬ tn (r 26 w) + 1 = 0; omega)⟩
  · rw [zi_f g]
    exact ⟨Nt.of_nI (k := 1) (by decide) (by decide), by decide⟩
theorem SnI.rd {f : zf} {r : zg} (h : SnI f r) {w : Nat} (hw : w < tn (f 18)) (x y k : Int32) : SnI f (rds f r w x y k) := by
  obtain ⟨h1, h2, h3, h4, h5, h6⟩ := h
  have kk : ∀ j, j < 19 → rds f r w x y k j = r j := fun j hj => rds_k (by omega) (by omega) (by omega) (by omega) (by omega) (by omega)
  have k22 : rds f r w x y k 22 = r 22 := rds_k (by decide) (by decide) (by decide) (by decide) (by decide) (by decide)
  have k23 : rds f r w x y k 23 = r 23 := rds_k (by decide) (by decide) (by decide) (by decide) (by decide) (by decide)
  refine ⟨?_, h2, h3, ?_, ?_, ?_⟩
  · unfold WkI
    rw [kk 10 (by decide), kk 11 (by decide), k22]
    exact h1
  · rw [kk 1 (by decide), kk 2 (by decide)]
    exact h4
  · rw [kk 4 (by decide), kk 5 (by decide), kk 6 (by decide)]
    exact h5
  · intro n hn
    obtain ⟨g1, g2, g3⟩ := h6 n hn
    rw [k23]
    by_cases hnw : n = w
    · subst hnw
      refine ⟨?_, g2, ?_⟩
      · unfold rds
        by_cases hp : psb r x y k (tn (r 19 n))
        · rw [zi_t hp]; exact g1
        · rw [zi_f hp]
          by_cases hn1 : rdn r x y k (tn (f 0)) = 1
          · rw [zi_t hn1]
            obtain ⟨j, j1, j2, j3, j4⟩ := rd_A h2 hn1
            have := h2.2
            by_cases hc : rdC f r n (rdA f r x y k) (rdN r n (rdA f r x y k))
            · rw [zi_t hc]
              generalize cmz f r n (r 21 n) (rdA f r x y k) = z
              have e : rz (u2 (u2 (rd1 r n (rdA f r x y k)) 19 n (rdA f r x y k)) 26 n 0) n z 19 n = rdA f r x y k := by simp [rz, u2]
              rw [e, j3]
              exact Nt.of_nI j1 (by omega)
            · rw [zi_f hc]; exact g1
          · rw [zi_f hn1]; exact g1
      · unfold rds
        by_cases hp : psb r x y k (tn (r 19 n))
        · rw [zi_t hp, u2_self]; exact Nt.of_nI (k := 0) (by decide) (by decide)
        · rw [zi_f hp]
          by_cases hn1 : rdn r x y k (tn (f 0)) = 1
          · rw [zi_t hn1]
            by_cases hc : rdC f r n (rdA f r x y k) (rdN r n (rdA f r x y k))
            · rw [zi_t hc]
              generalize cmz f r n (r 21 n) (rdA f r x y k) = z
              have e : rz (u2 (u2 (rd1 r n (rdA f r x y k)) 19 n (rdA f r x y k)) 26 n 0) n z 26 n = 0 := by simp [rz, u2]
              rw [e]
              exact Nt.of_nI (k := 0) (by decide) (by decide)
            · rw [zi_f hc]
              have e : rd1 r n (rdA f r x y k) 26 n = rdN r n (rdA f r x y k) := by simp [rd1, u2]
              rw [e]
              obtain ⟨q1, -⟩ := rd_N (a := rdA f r x y k) g3
              refine ⟨q1.1, ?_⟩
              have q2 := q1.2
              have q3 := q1.toInt (by decide)
              rcases Nat.lt_or_ge (tn (rdN r n (rdA f r x y k))) 4 with z | z
              · exact z
              · exact absurd (Or.inl (by rw [Int32.le_iff_toInt_le, q3]; have : (4 : Int32).toInt = 4 := rfl; omega)) hc
          · rw [zi_f hn1]; exact g3
    · rw [rds_w hnw, rds_w hnw]
      exact ⟨g1, g2, g3⟩
theorem c_X11_reads {E : zE} {T : zT} {N : zN} {P : zP} {I : zI} {R : zR} (m : Nat) (ad : Nat → Nat) (w : Nat) (x y k9 : Int32) (hM : MOK T P m ad) (hS : SnI (mf N m) (mr I ad)) (hw : w < tn (N 11 18 m)) (hk : Nt k9 31) : zC E yX11_reads cX11_reads 8 none (zr0 4 99) [.ref m, .int (nI w), .int x, .int y, .int k9] T N P I R (fun v T1 N1 P1 I1 R1 => v = none ∧ T1 = T ∧ N1 = N ∧ P1 = P ∧ R1 = R ∧ mr I1 ad = rds (mf N m) (mr I ad) w x y k9 ∧ Mfr ad T N P I R T N P I1 R) := by
  refine zC.intro (ls := [some (.ref m), some (.int (nI w)), some (.int x), some (.int y), some (.int k9), none, none, none]) pl_RX11 (zle rfl) 3 rfl (fun K => ?_)
  obtain ⟨hI, h0, h3, hxy, hwy, hwk⟩ := id hS
  obtain ⟨i1, i2, i3, i4, i5, i6⟩ := hI.ed hw
  obtain ⟨v1, v2, v3⟩ := hwk w hw
  have h0b : tn (N 11 0 m) < 9 := h0.2
  have h3b : tn (N 11 3 m) < 15 := h3.2
  have hd7 : tn (N 11 27 m) < 7 := hI.2.2.2.1.2
  have hc8 : tn (I (ad 19) w) < tn (N 11 0 m) := v1.2
  have hxc := hxy _ hc8
  obtain ⟨nc, hnc⟩ : ∃ nc, nc = tn (N 11 0 m) := ⟨_, rfl⟩
  have key : ¬ psb (mr I ad) x y k9 (tn (I (ad 19) w)) → rdn (mr I ad) x y k9 nc = 1 → ∀ a n, a = rdA (mf N m) (mr I ad) x y k9 → n = rdN (mr I ad) w a → V K (zQf K (fun v T1 N1 P1 I1 R1 => v = none ∧ T1 = T ∧ N1 = N ∧ P1 = P ∧ R1 = R ∧ mr I1 ad = rds (mf N m) (mr I ad) w x y k9 ∧ Mfr ad T N P I R T N P I1 R)) T N P I R 0 0 113 [some (.ref m), some (.int (nI w)), some (.int x), some (.int y), some (.int k9), some (.int (rdn (mr I ad) x y k9 nc)), some (.int a), some (.int (nI nc))] [.int n, .int (nI w), .ref (ad 26)] := by
    intro hp h1 a n ha hn
    subst hnc
    have ne : ∀ k, k < 44 → zr 11 k = true → k ≠ 26 → k ≠ 25 → (u2 (u2 I (ad 26) w n) (ad 25) w a) (ad k) = I (ad k) := fun k h1 h2 h3 h4 => by rw [u2_off _ _ (hM.ne h1 (by decide) h2 rfl h4), u2_off _ _ (hM.ne h1 (by decide) h2 rfl h3)]
    have e26 : (u2 (u2 I (ad 26) w n) (ad 25) w a) (ad 26) w = n := by rw [u2_na (hM.ne (by decide) (by decide) rfl rfl (by decide)), u2_self]
    have em : mr (u2 (u2 I (ad 26) w n) (ad 25) w a) ad = rd1 (mr I ad) w a := by
      rw [mr_set hM (by decide) rfl, mr_set hM (by decide) rfl, hn]
      rfl
    have ed : rds (mf N m) (mr I ad) w x y k9 = zi (rdC (mf N m) (mr I ad) w a n) (rz (u2 (u2 (rd1 (mr I ad) w a) 19 w a) 26 w 0) w (cmz (mf N m) (mr I ad) w (mr I ad 21 w) a)) (rd1 (mr I ad) w a) := by
      rw [hn, ha]
      exact (zi_f hp).trans (zi_t h1)
    have ez : lsn (mr (u2 (u2 I (ad 26) w n) (ad 25) w a) ad) (tn (I (ad 22) w)) (npw (mr I ad) w) a (tn (N 11 27 m)) 12 ((u2 (u2 I (ad 26) w n) (ad 25) w a) (ad 20) w, (u2 (u2 I (ad 26) w n) (ad 25) w a) (ad 21) w, (u2 (u2 I (ad 26) w n) (ad 25) w a) (ad 24) w, 0) = cmz (mf N m) (mr I ad) w (mr I ad 21 w) a := by
      rw [ne 20 (by decide) rfl (by decide) (by decide), ne 21 (by decide) rfl (by decide) (by decide), ne 24 (by decide) rfl (by decide) (by decide), em]
      unfold cmz
      exact lsn_congr (r := mr I ad) (r' := rd1 (mr I ad) w a) (e := tn (I (ad 22) w)) (np := npw (mr I ad) w) (d := tn (N 11 27 m)) (c := a) rfl rfl rfl rfl rfl 12 (I (ad 20) w, I (ad 21) w, I (ad 24) w, 0)
    have ew : ∀ c, wtv (mr (u2 (u2 I (ad 26) w n) (ad 25) w a) ad) (tn (N 11 27 m)) (I (ad 23) w = 1) (I (ad 19) w) c (tn (N 11 3 m)) < 100000000 ↔ ∃ q, q < tn (N 11 3 m) ∧ jnd (mr I ad) (tn (N 11 27 m)) (I (ad 23) w = 1) (I (ad 19) w) c q := fun c => by
      rw [em, wtv_congr (r := mr I ad) (r' := rd1 (mr I ad) w a) rfl rfl rfl rfl rfl]
      exact wtv_jnd hwy
    refine v_iast (j := w) (ma_26 hM) rfl (by omega) (zle rfl) dX11_reads_113 rfl ?_
    refine v_aload_0 dX11_reads_114 rfl ?_
    refine v_getP fl_11_71 (mp_25 hM) (MOK.t hM) rfl (zle rfl) rfl dX11_reads_115 rfl ?_
    refine v_iload_1 dX11_reads_118 rfl ?_
    refine v_iload_6 dX11_reads_119 rfl ?_
    refine v_iast (j := w) (ma_25 hM) rfl (by omega) (zle rfl) dX11_reads_121 rfl ?_
    refine v_aload_0 dX11_reads_122 rfl ?_
    refine v_getP fl_11_74 (mp_26 hM) (MOK.t hM) rfl (zle rfl) rfl dX11_reads_123 rfl ?_
    refine v_iload_1 dX11_reads_126 rfl ?_
    refine v_iald (j := w) (ma_26 hM) rfl (by omega) (zle rfl) dX11_reads_127 rfl ?_
    refine v_top e26 ?_
    refine v_iconst (v := 4) dX11_reads_128 rfl rfl ?_
    refine v_icmp_ge (tgt := 154) dX11_reads_129 (by decide) rfl (fun c129 => ?_) (fun c129 => ?_)
    · refine v_aload_0 dX11_reads_154 rfl ?_
      refine v_iload_1 dX11_reads_155 rfl ?_
      refine v_iload_6 dX11_reads_156 rfl ?_
      refine v_callV (ci := 11) (F := TX11) (c_X11_comes (I := (u2 (u2 I (ad 26) w n) (ad 25) w a)) m ad (tn (I (ad 22) w)) (npw (mr I ad) w) (tn (N 11 27 m)) w a hM (by rw [ne 22 (by decide) rfl (by decide) (by decide)]; exact i1) (by omega) i3 (by rw [ne 10 (by decide) rfl (by decide) (by decide)]; exact i4) i5 hI.2.2.2.1.1 hd7) yy_X11_comes im_X11_comes se_X11_comes lk_11_258 (MOK.t hM) (zle rfl) rfl (zle rfl) (zle rfl) (zle rfl) (zle rfl) rfl rfl (zle rfl) dX11_reads_158 rfl (zp.use ?_)
      refine v_istore_7 dX11_reads_161 rfl (zle rfl) rfl ?_
      exact v_return rfl (by
        rw [ez]
        exact ⟨rfl, rfl, rfl, rfl, rfl, by rw [ed, zi_t (show rdC (mf N m) (mr I ad) w a n from Or.inl c129), mrIZ hM, mr_set hM (by decide) rfl, mr_set hM (by decide) rfl, em], (((Mfr.rf.i (k := 26) (by decide) rfl _ _).i (k := 25) (by decide) rfl _ _).i (k := 19) (by decide) rfl _ _).i (k := 26) (by decide) rfl _ _ |>.iz w _⟩) (zle rfl) (zle rfl) dX11_reads_163
    · refine v_aload_0 dX11_reads_132 rfl ?_
      refine v_getP fl_11_74 (mp_26 hM) (MOK.t hM) rfl (zle rfl) rfl dX11_reads_133 rfl ?_
      refine v_iload_1 dX11_reads_136 rfl ?_
      refine v_iald (j := w) (ma_26 hM) rfl (by omega) (zle rfl) dX11_reads_137 rfl ?_
      refine v_top e26 ?_
      refine v_iconst (v := 2) dX11_reads_138 rfl rfl ?_
      refine v_icmp_lt (tgt := 163) dX11_reads_139 (by decide) rfl (fun c139 => ?_) (fun c139 => ?_)
      · exact v_return rfl (⟨rfl, rfl, rfl, rfl, rfl, by rw [ed, zi_f (fun h => h.elim (fun h => absurd h c129) (fun h => i_nle c139 h.1)), em], ((Mfr.rf.i (k := 26) (by decide) rfl _ _).i (k := 25) (by decide) rfl _ _)⟩) (zle rfl) (zle rfl) dX11_reads_163
      · refine v_aload_0 dX11_reads_142 rfl ?_
        refine v_iload_1 dX11_reads_143 rfl ?_
        refine v_iload_6 dX11_reads_144 rfl ?_
        refine v_callV (ci := 11) (F := TX11) (c_X11_wayTo (I := (u2 (u2 I (ad 26) w n) (ad 25) w a)) m ad w (tn (N 11 27 m)) (tn (N 11 3 m)) (I (ad 23) w = 1) (I (ad 19) w) a hM (by omega) (by rw [ne 19 (by decide) rfl (by decide) (by decide)]) hI.2.2.2.1.1 hd7 (by rw [ne 23 (by decide) rfl (by decide) (by decide)]; exact zb_of v2) h3.1 (by omega)) yy_X11_wayTo im_X11_wayTo se_X11_wayTo lk_11_261 (MOK.t hM) (zle rfl) rfl (zle rfl) (zle rfl) (zle rfl) (zle rfl) rfl rfl (zle rfl) dX11_reads_146 rfl (zp.use ?_)
        refine v_ldc dX11_reads_149 kc_11_147 rfl ?_
        refine v_icmp_ge (tgt := 163) dX11_reads_151 (by decide) rfl (fun c151 => ?_) (fun c151 => ?_)
        · exact v_return rfl (⟨rfl, rfl, rfl, rfl, rfl, by rw [ed, zi_f (fun h => h.elim (fun h => absurd h c129) (fun h => i_nle ((ew _).mpr h.2) c151)), em], ((Mfr.rf.i (k := 26) (by decide) rfl _ _).i (k := 25) (by decide) rfl _ _)⟩) (zle rfl) (zle rfl) dX11_reads_163
        · refine v_aload_0 dX11_reads_154 rfl ?_
          refine v_iload_1 dX11_reads_155 rfl ?_
          refine v_iload_6 dX11_reads_156 rfl ?_
          refine v_callV (ci := 11) (F := TX11) (c_X11_comes (I := (u2 (u2 I (ad 26) w n) (ad 25) w a)) m ad (tn (I (ad 22) w)) (npw (mr I ad) w) (tn (N 11 27 m)) w a hM (by rw [ne 22 (by decide) rfl (by decide) (by decide)]; exact i1) (by omega) i3 (by rw [ne 10 (by decide) rfl (by decide) (by decide)]; exact i4) i5 hI.2.2.2.1.1 hd7) yy_X11_comes im_X11_comes se_X11_comes lk_11_258 (MOK.t hM) (zle rfl) rfl (zle rfl) (zle rfl) (zle rfl) (zle rfl) rfl rfl (zle rfl) dX11_reads_158 rfl (zp.use ?_)
          refine v_istore_7 dX11_reads_161 rfl (zle rfl) rfl ?_
          exact v_return rfl (by
        rw [ez]
        exact ⟨rfl, rfl, rfl, rfl, rfl, by rw [ed, zi_t (show rdC (mf N m) (mr I ad) w a n from Or.inr ⟨i_lnlt c139, (ew _).mp (i_lnle c151)⟩), mrIZ hM, mr_set hM (by decide) rfl, mr_set hM (by decide) rfl, em], (((Mfr.rf.i (k := 26) (by decide) rfl _ _).i (k := 25) (by decide) rfl _ _).i (k := 19) (by decide) rfl _ _).i (k := 26) (by decide) rfl _ _ |>.iz w _⟩) (zle rfl) (zle rfl) dX11_reads_163
  refine v_iconst (v := 0) dX11_reads_0 rfl rfl ?_
  refine v_istore_5 dX11_reads_1 rfl (zle rfl) rfl ?_
  refine v_iconst (v := -1) dX11_reads_3 rfl rfl ?_
  refine v_istore_6 dX11_reads_4 rfl (zle rfl) rfl ?_
  refine v_iconst (v := 0) dX11_reads_6 rfl rfl ?_
  refine v_istore_7 dX11_reads_7 rfl (zle rfl) rfl ?_
  have e0 : N 11 0 m = nI nc := by rw [hnc]; exact h0.1
  refine lp_X11_reads hM e0 (by omega) (fun c hc => hxy c (by rw [hnc] at hc; exact hc)) hk ?_ nc 0 (by omega)
  refine v_aload_0 dX11_reads_44 rfl ?_
  refine v_aload_0 dX11_reads_45 rfl ?_
  refine v_getP fl_11_53 (mp_19 hM) (MOK.t hM) rfl (zle rfl) rfl dX11_reads_46 rfl ?_
  refine v_iload_1 dX11_reads_49 rfl ?_
  refine v_iald (j := w) (ma_19 hM) rfl (by omega) (zle rfl) dX11_reads_50 rfl ?_
  refine v_top v1.1 ?_
  refine v_iload_2 dX11_reads_51 rfl ?_
  refine v_iload_3 dX11_reads_52 rfl ?_
  refine v_iload_4 dX11_reads_53 rfl ?_
  refine v_callV (ci := 11) (F := TX11) (c_X11_isPossible m ad (tn (I (ad 19) w)) x y k9 hM (by omega) hxc.1 hxc.2 hk) yy_X11_isPossible im_X11_isPossible se_X11_isPossible lk_11_271 (MOK.t hM) (zle rfl) rfl (zle rfl) (zle rfl) (zle rfl) (zle rfl) rfl rfl (zle rfl) dX11_reads_55 rfl (zp.use ?_)
  refine v_ifz_eq (tgt := 69) dX11_reads_58 (by decide) rfl (fun c58 => ?_) (fun c58 => ?_)
  · refine v_iload_5 dX11_reads_69 rfl ?_
    refine v_iconst (v := 1) dX11_reads_71 rfl rfl ?_
    refine v_icmp_eq (tgt := 76) dX11_reads_72 (by decide) rfl (fun c72 => ?_) (fun c72 => ?_)
    · rw [hnc] at c72
      refine v_aload_0 dX11_reads_76 rfl ?_
      refine v_getP fl_11_74 (mp_26 hM) (MOK.t hM) rfl (zle rfl) rfl dX11_reads_77 rfl ?_
      refine v_iload_1 dX11_reads_80 rfl ?_
      refine v_aload_0 dX11_reads_81 rfl ?_
      refine v_getP fl_11_74 (mp_26 hM) (MOK.t hM) rfl (zle rfl) rfl dX11_reads_82 rfl ?_
      refine v_iload_1 dX11_reads_85 rfl ?_
      refine v_iald (j := w) (ma_26 hM) rfl (by omega) (zle rfl) dX11_reads_86 rfl ?_
      refine v_if_le (tgt := 112) dX11_reads_87 (by decide) rfl (fun c87 => ?_) (fun c87 => ?_)
      · refine v_iconst (v := 1) dX11_reads_112 rfl rfl ?_
        exact key c58 (by rw [hnc]; exact c72) _ _ (by rw [hnc]; rfl) (by unfold rdN; rw [zi_f (fun h => i_nle (show 0 < I (ad 26) w from h.1) c87)])
      · refine v_aload_0 dX11_reads_90 rfl ?_
        refine v_getP fl_11_71 (mp_25 hM) (MOK.t hM) rfl (zle rfl) rfl dX11_reads_91 rfl ?_
        refine v_iload_1 dX11_reads_94 rfl ?_
        refine v_iald (j := w) (ma_25 hM) rfl (by omega) (zle rfl) dX11_reads_95 rfl ?_
        refine v_iload_6 dX11_reads_96 rfl ?_
        refine v_icmp_ne (tgt := 112) dX11_reads_98 (by decide) rfl (fun c98 => ?_) (fun c98 => ?_)
        · refine v_iconst (v := 1) dX11_reads_112 rfl rfl ?_
          exact key c58 (by rw [hnc]; exact c72) _ _ (by rw [hnc]; rfl) (by unfold rdN; rw [zi_f (fun h => c98 h.2)])
        · refine v_aload_0 dX11_reads_101 rfl ?_
          refine v_getP fl_11_74 (mp_26 hM) (MOK.t hM) rfl (zle rfl) rfl dX11_reads_102 rfl ?_
          refine v_iload_1 dX11_reads_105 rfl ?_
          refine v_iald (j := w) (ma_26 hM) rfl (by omega) (zle rfl) dX11_reads_106 rfl ?_
          refine v_iconst (v := 1) dX11_reads_107 rfl rfl ?_
          refine v_iadd dX11_reads_108 rfl ?_
          refine v_goto (n := 113) dX11_reads_109 (by decide) ?_
          exact key c58 (by rw [hnc]; exact c72) _ _ (by rw [hnc]; rfl) (by unfold rdN; rw [zi_t ⟨i_lnle c87, c98⟩]; rfl)
    · exact v_return rfl (⟨rfl, rfl, rfl, rfl, rfl, by rw [show rds (mf N m) (mr I ad) w x y k9 = mr I ad from (zi_f c58).trans (zi_f (by rw [hnc] at c72; exact c72))], Mfr.rf⟩) (zle rfl) (zle rfl) dX11_reads_75
  · refine v_aload_0 dX11_reads_61 rfl ?_
    refine v_getP fl_11_74 (mp_26 hM) (MOK.t hM) rfl (zle rfl) rfl dX11_reads_62 rfl ?_
    refine v_iload_1 dX11_reads_65 rfl ?_
    refine v_iconst (v := 0) dX11_reads_66 rfl rfl ?_
    refine v_iast (j := w) (ma_26 hM) rfl (by omega) (zle rfl) dX11_reads_67 rfl ?_
    exact v_return rfl (⟨rfl, rfl, rfl, rfl, rfl, by rw [mr_set hM (by decide) rfl]; exact (zi_t c58).symm, Mfr.rf.i (by decide) rfl _ _⟩) (zle rfl) (zle rfl) dX11_reads_68
