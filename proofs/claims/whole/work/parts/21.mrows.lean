/-- a stretch of a row is written anew -/
def ur (I : zI) (a lo k : Nat) (g : Nat → Int32) : zI := fun b j => if b = a ∧ lo ≤ j ∧ j < lo + k then g (j - lo) else I b j
theorem ur_0 (I : zI) (a lo : Nat) (g : Nat → Int32) : ur I a lo 0 g = I := by
  funext b j
  unfold ur
  rw [if_neg (by omega)]
theorem ur_s (I : zI) (a lo k : Nat) (g : Nat → Int32) : u2 (ur I a lo k g) a (lo + k) (g k) = ur I a lo (k + 1) g := by
  funext b j
  unfold u2 ur
  by_cases hb : b = a
  · by_cases hj : j = lo + k
    · rw [if_pos ⟨hb, hj⟩, if_pos ⟨hb, by omega, by omega⟩, show j - lo = k by omega]
    · rw [if_neg (by omega)]
      by_cases hl : lo ≤ j ∧ j < lo + k
      · rw [if_pos ⟨hb, hl⟩, if_pos ⟨hb, hl.1, by omega⟩]
      · rw [if_neg (by omega), if_neg (by omega)]
  · rw [if_neg (by omega), if_neg (by omega), if_neg (by omega)]
theorem ur_in {I : zI} {a lo k j : Nat} {g : Nat → Int32} (h1 : lo ≤ j) (h2 : j < lo + k) : ur I a lo k g a j = g (j - lo) := if_pos ⟨rfl, h1, h2⟩
theorem ur_out {I : zI} {a lo k b j : Nat} {g : Nat → Int32} (h : j < lo ∨ lo + k ≤ j) : ur I a lo k g b j = I b j := if_neg (by omega)
theorem ur_off {I : zI} {a lo k b : Nat} {g : Nat → Int32} (h : b ≠ a) : ur I a lo k g b = I b := funext fun j => if_neg (by omega)
theorem mr_ur {T : zT} {P : zP} {I : zI} {m : Nat} {ad : Nat → Nat} (h : MOK T P m ad) {k lo c : Nat} {g : Nat → Int32} (hk : k < 32) (hz : zr 11 k = true) : mr (ur I (ad k) lo c g) ad = ur (mr I ad) k lo c g := by
  funext a b
  unfold mr ur
  by_cases ha : a < 32 ∧ zr 11 a = true
  · by_cases hak : a = k
    · subst hak; simp [ha]
    · have := h.ne (by omega) (by omega) ha.2 hz hak
      simp [ha, this, hak]
  · have : a ≠ k := fun e => ha (e ▸ ⟨hk, hz⟩)
    simp [ha, this]
theorem mr_urs {T : zT} {P : zP} {I : zI} {m : Nat} {ad : Nat → Nat} (h : MOK T P m ad) {k lo c : Nat} {g : Nat → Int32} (hk : 32 ≤ k) (hk2 : k < 44) (hz : zr 11 k = true) : mr (ur I (ad k) lo c g) ad = mr I ad := by
  funext a b
  unfold mr ur
  by_cases ha : a < 32 ∧ zr 11 a = true
  · have := h.ne (j := a) (by omega) hk2 ha.2 hz (by omega)
    simp [ha, this]
  · simp [ha]
theorem Mfr.u {ad : Nat → Nat} {T : zT} {N : zN} {P : zP} {I : zI} {R : zR} {T1 : zT} {N1 : zN} {P1 : zP} {I1 : zI} {R1 : zR} (h : Mfr ad T N P I R T1 N1 P1 I1 R1) {k : Nat} (hk : k < 44) (hz : zr 11 k = true) (lo c : Nat) (g : Nat → Int32) : Mfr ad T N P I R T1 N1 P1 (ur I1 (ad k) lo c g) R1 :=
  ⟨h.1, h.2.1, h.2.2.1, h.2.2.2.1, fun a ha hne => by rw [← h.2.2.2.2 a ha hne, ur_off (hne k hk hz)]⟩
theorem u3_u3 {α : Type} (f : Nat → Nat → Nat → α) (c k a : Nat) (v w : α) : u3 (u3 f c k a v) c k a w = u3 f c k a w := by
  funext p q s
  unfold u3
  split <;> rfl
theorem u3_id {α : Type} (f : Nat → Nat → Nat → α) (c k a : Nat) : u3 f c k a (f c k a) = f := by
  funext p q s
  unfold u3
  split
  next h => rw [h.1, h.2.1, h.2.2]
  next => rfl
theorem i12 (a b : Nat) : (12 : Int32) * nI a + nI b = nI (12 * a + b) := by rw [show (12 : Int32) = nI 12 from rfl, pk_mul, nI_add]
theorem zl_sum {a b : Int32} : (a.toInt64 + b.toInt64).toInt = a.toInt + b.toInt := by
  have ha := fb_rng9 a
  have hb := fb_rng9 b
  rw [Int64.toInt_add, Int32.toInt_toInt64, Int32.toInt_toInt64]
  exact fb9L (by omega) (by omega)
theorem l_gt {a b c : Int32} : 0 < lg_cmp (a.toInt64 + b.toInt64) c.toInt64 ↔ c.toInt < a.toInt + b.toInt := by
  rw [lg_cmp_gt, Int64.lt_iff_toInt_lt, zl_sum, Int32.toInt_toInt64]
theorem l_le {a b c : Int32} : lg_cmp (a.toInt64 + b.toInt64) c.toInt64 ≤ 0 ↔ a.toInt + b.toInt ≤ c.toInt := by
  have h := l_gt (a := a) (b := b) (c := c)
  constructor
  · intro g
    rcases Int.lt_or_le c.toInt (a.toInt + b.toInt) with q | q
    · have := h.mpr q
      simp only [Int32.lt_iff_toInt_lt, Int32.le_iff_toInt_le] at *; omega
    · exact q
  · intro g
    by_cases q : 0 < lg_cmp (a.toInt64 + b.toInt64) c.toInt64
    · have := h.mp q; omega
    · simp only [Int32.lt_iff_toInt_lt, Int32.le_iff_toInt_le] at *; omega
theorem l_ngt {a b c : Int32} : ¬ 0 < lg_cmp (a.toInt64 + b.toInt64) c.toInt64 ↔ a.toInt + b.toInt ≤ c.toInt := by rw [l_gt]; omega
theorem l_nle {a b c : Int32} : ¬ lg_cmp (a.toInt64 + b.toInt64) c.toInt64 ≤ 0 ↔ ¬ a.toInt + b.toInt ≤ c.toInt := by rw [l_le]
theorem i_nlt0 {a : Int32} : ¬ a < 0 ↔ 0 ≤ a := by simp only [Int32.lt_iff_toInt_lt, Int32.le_iff_toInt_le]; omega
theorem ur_congr {I : zI} {a lo k : Nat} {g h : Nat → Int32} (e : ∀ q, q < k → g q = h q) : ur I a lo k g = ur I a lo k h := by
  funext b j
  unfold ur
  split
  next q => exact e _ (by omega)
  next => rfl
/-- byte number i of a word -/
def wby (w : Int64) (i : Nat) : Int32 := (w >>> ((8 * nI i : Int32).toInt64 &&& 63) &&& 255).toInt32
noncomputable def ac_as (f : zf) (r : zg) (e p k : Int32) : zO := zi (((0 ≤ e ∧ e ≤ f 9 - 1) ∧ (0 ≤ p ∧ p ≤ r 10 (tn e) - 1)) ∧ (0 ≤ k ∧ k ≤ 3)) (zi (k = 0 ∨ r 11 (12 * tn e + tn p) = k ∨ (k = 2 ∧ r 11 (12 * tn e + tn p) = 3)) (p, f, r) (fdg (-1000003) f r)) (fdg (-1000001) f r)
noncomputable def ac_of (f : zf) (r : zg) (e p k : Int32) : zO := zi ((0 ≤ e ∧ e ≤ f 9 - 1) ∧ (0 ≤ p ∧ p ≤ r 10 (tn e) - 1)) (zi (k = 0) (r 11 (12 * tn e + tn p), f, r) (zi (k = 1) (r 12 (12 * tn e + tn p), f, r) (zi (k = 2) (r 13 (12 * tn e + tn p), f, r) (zi (k = 3) (r 14 (12 * tn e + tn p), f, r) (zi (k = 4) (r 15 (12 * tn e + tn p), f, r) (fdg (-1000001) f r)))))) (fdg (-1000001) f r)
noncomputable def ac_feed (f : zf) (r : zg) (w : Int64) (n : Int32) : zO := zi (1 ≤ n ∧ n ≤ 8) (zi (f 17 + n ≤ 200) (f 17 + n, u1 f 17 (f 17 + n), ur r 16 (tn (f 17)) (tn n) (wby w)) (fdg (-1000002) f r)) (fdg (-1000001) f r)
noncomputable def ac_sheet (f : zf) (r : zg) (s w n : Int32) : zO := zi ((0 ≤ s ∧ s ≤ 3) ∧ (w = 0 ∨ w = 8 ∨ w = 16 ∨ w = 32)) (zi (0 ≤ n) (zi (n ≤ 12) (zi (w = 0) 0 n, f, ur (u2 (u2 r 28 (tn s) w) 29 (tn s) (zi (w = 0) 0 n)) 30 (12 * tn s) 12 (fun _ => 0)) (fdg (-1000001) f r)) (fdg (-1000007) f r)) (fdg (-1000001) f r)
noncomputable def ac_copy (f : zf) (r : zg) (s a t c n : Int32) : zO := zi ((0 ≤ s ∧ s ≤ 3) ∧ (0 ≤ t ∧ t ≤ 3)) (zi (r 28 (tn s) = 0 ∨ r 28 (tn t) = 0) (fdg (-1000006) f r) (zi (r 28 (tn s) = r 28 (tn t)) (zi ((0 ≤ a ∧ 0 ≤ c ∧ 0 ≤ n) ∧ a.toInt + n.toInt ≤ (r 29 (tn s)).toInt ∧ c.toInt + n.toInt ≤ (r 29 (tn t)).toInt) (n, f, ur r 30 (12 * tn t + tn c) (tn n) (fun q => r 30 (12 * tn s + tn a + q))) (fdg (-1000001) f r)) (fdg (-1000003) f r))) (fdg (-1000001) f r)
theorem c_X11_isPiece {E : zE} {T : zT} {N : zN} {P : zP} {I : zI} {R : zR} (m : Nat) (ad : Nat → Nat) (e p : Int32) (hM : MOK T P m ad) (he : 0 ≤ e ∧ e ≤ N 11 9 m - 1 → e = nI (tn e) ∧ tn e < 4) : zC E yX11_isPiece cX11_isPiece 3 (some .boolean) (zr0 2 43) [.ref m, .int e, .int p] T N P I R (zp (zb ((0 ≤ e ∧ e ≤ N 11 9 m - 1) ∧ (0 ≤ p ∧ p ≤ I (ad 10) (tn e) - 1))) T N P I R) := by
  refine zC.intro (ls := [some (.ref m), some (.int e), some (.int p)]) pl_RX11 (zle rfl) 0 rfl (fun K => ?_)
  refine v_aload_0 dX11_isPiece_0 rfl ?_
  refine v_iload_1 dX11_isPiece_1 rfl ?_
  refine v_callV (ci := 11) (F := TX11) (c_X11_isEdition _ _ (MOK.t hM)) yy_X11_isEdition im_X11_isEdition se_X11_isEdition lk_11_191 (MOK.t hM) (zle rfl) rfl (zle rfl) (zle rfl) (zle rfl) (zle rfl) rfl rfl (zle rfl) dX11_isPiece_2 rfl (zp.use ?_)
  refine v_ifz_eq (tgt := 28) dX11_isPiece_5 (by decide) rfl (fun c5 => ?_) (fun c5 => ?_)
  · refine v_iconst (v := 0) dX11_isPiece_28 rfl rfl ?_
    exact v_zreturn rfl rfl (zp_f (fun h => c5 h.1)) (zle rfl) (zle rfl) dX11_isPiece_29
  · refine v_iload_2 dX11_isPiece_8 rfl ?_
    refine v_iconst (v := 0) dX11_isPiece_9 rfl rfl ?_
    refine v_aload_0 dX11_isPiece_10 rfl ?_
    refine v_getP fl_11_32 (mp_10 hM) (MOK.t hM) rfl (zle rfl) rfl dX11_isPiece_11 rfl ?_
    refine v_iload_1 dX11_isPiece_14 rfl ?_
    refine v_iald (j := tn e) (ma_10 hM) (he c5).1 (he c5).2 (zle rfl) dX11_isPiece_15 rfl ?_
    refine v_iconst (v := 1) dX11_isPiece_16 rfl rfl ?_
    refine v_isub dX11_isPiece_17 rfl ?_
    refine v_callS (c_X11_within _ _ _) yy_X11_within st_X11_within lk_11_121 (zle rfl) (zle rfl) (zle rfl) (zle rfl) rfl rfl (zle rfl) dX11_isPiece_18 rfl (zp.use ?_)
    refine v_ifz_eq (tgt := 28) dX11_isPiece_21 (by decide) rfl (fun c21 => ?_) (fun c21 => ?_)
    · refine v_iconst (v := 0) dX11_isPiece_28 rfl rfl ?_
      exact v_zreturn rfl rfl (zp_f (fun h => c21 h.2)) (zle rfl) (zle rfl) dX11_isPiece_29
    · refine v_iconst (v := 1) dX11_isPiece_24 rfl rfl ?_
      refine v_goto (n := 29) dX11_isPiece_25 (by decide) ?_
      exact v_zreturn rfl rfl (zp_t ⟨c5, c21⟩) (zle rfl) (zle rfl) dX11_isPiece_29
theorem c_X11_as {E : zE} {T : zT} {N : zN} {P : zP} {I : zI} {R : zR} (m : Nat) (ad : Nat → Nat) (e p k : Int32) (hM : MOK T P m ad) (he : 0 ≤ e ∧ e ≤ N 11 9 m - 1 → e = nI (tn e) ∧ tn e < 4) (hi : (0 ≤ e ∧ e ≤ N 11 9 m - 1) ∧ (0 ≤ p ∧ p ≤ I (ad 10) (tn e) - 1) → 12 * e + p = nI (12 * tn e + tn p) ∧ 12 * tn e + tn p < 48) : zC E yX11_as cX11_as 5 (some .int) (zr0 3 65) [.ref m, .int e, .int p, .int k] T N P I R (mQ m ad T N P I R (ac_as (mf N m) (mr I ad) e p k)) := by
  refine zC.intro (ls := [some (.ref m), some (.int e), some (.int p), some (.int k), none]) pl_RX11 (zle rfl) 1 rfl (fun K => ?_)
  refine v_aload_0 dX11_as_0 rfl ?_
  refine v_iload_1 dX11_as_1 rfl ?_
  refine v_iload_2 dX11_as_2 rfl ?_
  refine v_callV (ci := 11) (F := TX11) (c_X11_isPiece m ad _ _ hM he) yy_X11_isPiece im_X11_isPiece se_X11_isPiece lk_11_194 (MOK.t hM) (zle rfl) rfl (zle rfl) (zle rfl) (zle rfl) (zle rfl) rfl rfl (zle rfl) dX11_as_3 rfl (zp.use ?_)
  refine v_ifz_eq (tgt := 18) dX11_as_6 (by decide) rfl (fun c6 => ?_) (fun c6 => ?_)
  · refine v_aload_0 dX11_as_18 rfl ?_
    refine v_ldc dX11_as_19 kc_11_131 rfl ?_
    refine v_callV (ci := 11) (F := TX11) (c_X11_finding _ _ (MOK.t hM)) yy_X11_finding im_X11_finding se_X11_finding lk_11_132 (MOK.t hM) (zle rfl) rfl (zle rfl) (zle rfl) (zle rfl) (zle rfl) rfl rfl (zle rfl) dX11_as_21 rfl (zp.use ?_)
    exact v_ireturn rfl (mQ_fd hM (zi_f (fun h => c6 h.1))) (zle rfl) (zle rfl) dX11_as_24
  · refine v_iload_3 dX11_as_9 rfl ?_
    refine v_iconst (v := 0) dX11_as_10 rfl rfl ?_
    refine v_iconst (v := 3) dX11_as_11 rfl rfl ?_
    refine v_callS (c_X11_within _ _ _) yy_X11_within st_X11_within lk_11_121 (zle rfl) (zle rfl) (zle rfl) (zle rfl) rfl rfl (zle rfl) dX11_as_12 rfl (zp.use ?_)
    refine v_ifz_ne (tgt := 25) dX11_as_15 (by decide) rfl (fun c15 => ?_) (fun c15 => ?_)
    · refine v_aload_0 dX11_as_25 rfl ?_
      refine v_getP fl_11_35 (mp_11 hM) (MOK.t hM) rfl (zle rfl) rfl dX11_as_26 rfl ?_
      refine v_bipush (v := 12) dX11_as_29 rfl rfl ?_
      refine v_iload_1 dX11_as_31 rfl ?_
      refine v_imul dX11_as_32 rfl ?_
      refine v_iload_2 dX11_as_33 rfl ?_
      refine v_iadd dX11_as_34 rfl ?_
      refine v_iald (j := 12 * tn e + tn p) (ma_11 hM) (hi c6).1 (hi c6).2 (zle rfl) dX11_as_35 rfl ?_
      refine v_istore_4 dX11_as_36 rfl (zle rfl) rfl ?_
      refine v_iload_3 dX11_as_38 rfl ?_
      refine v_if_eq (tgt := 59) dX11_as_39 (by decide) rfl (fun c39 => ?_) (fun c39 => ?_)
      · refine v_iload_2 dX11_as_59 rfl ?_
        refine v_goto (n := 69) dX11_as_60 (by decide) ?_
        exact v_ireturn rfl (mQ_rd hM ((zi_t ⟨c6, c15⟩).trans (zi_t (Or.inl c39)))) (zle rfl) (zle rfl) dX11_as_69
      · refine v_iload_4 dX11_as_42 rfl ?_
        refine v_iload_3 dX11_as_44 rfl ?_
        refine v_icmp_eq (tgt := 59) dX11_as_45 (by decide) rfl (fun c45 => ?_) (fun c45 => ?_)
        · refine v_iload_2 dX11_as_59 rfl ?_
          refine v_goto (n := 69) dX11_as_60 (by decide) ?_
          exact v_ireturn rfl (mQ_rd hM ((zi_t ⟨c6, c15⟩).trans (zi_t (Or.inr (Or.inl c45))))) (zle rfl) (zle rfl) dX11_as_69
        · refine v_iload_3 dX11_as_48 rfl ?_
          refine v_iconst (v := 2) dX11_as_49 rfl rfl ?_
          refine v_icmp_ne (tgt := 63) dX11_as_50 (by decide) rfl (fun c50 => ?_) (fun c50 => ?_)
          · refine v_aload_0 dX11_as_63 rfl ?_
            refine v_ldc dX11_as_64 kc_11_198 rfl ?_
            refine v_callV (ci := 11) (F := TX11) (c_X11_finding _ _ (MOK.t hM)) yy_X11_finding im_X11_finding se_X11_finding lk_11_132 (MOK.t hM) (zle rfl) rfl (zle rfl) (zle rfl) (zle rfl) (zle rfl) rfl rfl (zle rfl) dX11_as_66 rfl (zp.use ?_)
            exact v_ireturn rfl (mQ_fd hM ((zi_t ⟨c6, c15⟩).trans (zi_f (fun h => h.elim c39 (fun h => h.elim c45 (fun h => c50 h.1)))))) (zle rfl) (zle rfl) dX11_as_69
          · refine v_iload_4 dX11_as_53 rfl ?_
            refine v_iconst (v := 3) dX11_as_55 rfl rfl ?_
            refine v_icmp_ne (tgt := 63) dX11_as_56 (by decide) rfl (fun c56 => ?_) (fun c56 => ?_)
            · refine v_aload_0 dX11_as_63 rfl ?_
              refine v_ldc dX11_as_64 kc_11_198 rfl ?_
              refine v_callV (ci := 11) (F := TX11) (c_X11_finding _ _ (MOK.t hM)) yy_X11_finding im_X11_finding se_X11_finding lk_11_132 (MOK.t hM) (zle rfl) rfl (zle rfl) (zle rfl) (zle rfl) (zle rfl) rfl rfl (zle rfl) dX11_as_66 rfl (zp.use ?_)
              exact v_ireturn rfl (mQ_fd hM ((zi_t ⟨c6, c15⟩).trans (zi_f (fun h => h.elim c39 (fun h => h.elim c45 (fun h => c56 h.2)))))) (zle rfl) (zle rfl) dX11_as_69
            · refine v_iload_2 dX11_as_59 rfl ?_
              refine v_goto (n := 69) dX11_as_60 (by decide) ?_
              exact v_ireturn rfl (mQ_rd hM ((zi_t ⟨c6, c15⟩).trans (zi_t (Or.inr (Or.inr ⟨c50, c56⟩))))) (zle rfl) (zle rfl) dX11_as_69
    · refine v_aload_0 dX11_as_18 rfl ?_
      refine v_ldc dX11_as_19 kc_11_131 rfl ?_
      refine v_callV (ci := 11) (F := TX11) (c_X11_finding _ _ (MOK.t hM)) yy_X11_finding im_X11_finding se_X11_finding lk_11_132 (MOK.t hM) (zle rfl) rfl (zle rfl) (zle rfl) (zle rfl) (zle rfl) rfl rfl (zle rfl) dX11_as_21 rfl (zp.use ?_)
      exact v_ireturn rfl (mQ_fd hM (zi_f (fun h => c15 h.2))) (zle rfl) (zle rfl) dX11_as_24
theorem c_X11_of {E : zE} {T : zT} {N : zN} {P : zP} {I : zI} {R : zR} (m : Nat) (ad : Nat → Nat) (e p k : Int32) (hM : MOK T P m ad) (he : 0 ≤ e ∧ e ≤ N 11 9 m - 1 → e = nI (tn e) ∧ tn e < 4) (hi : (0 ≤ e ∧ e ≤ N 11 9 m - 1) ∧ (0 ≤ p ∧ p ≤ I (ad 10) (tn e) - 1) → 12 * e + p = nI (12 * tn e + tn p) ∧ 12 * tn e + tn p < 48) : zC E yX11_of cX11_of 5 (some .int) (zr0 3 65) [.ref m, .int e, .int p, .int k] T N P I R (mQ m ad T N P I R (ac_of (mf N m) (mr I ad) e p k)) := by
  refine zC.intro (ls := [some (.ref m), some (.int e), some (.int p), some (.int k), none]) pl_RX11 (zle rfl) 1 rfl (fun K => ?_)
  refine v_aload_0 dX11_of_0 rfl ?_
  refine v_iload_1 dX11_of_1 rfl ?_
  refine v_iload_2 dX11_of_2 rfl ?_
  refine v_callV (ci := 11) (F := TX11) (c_X11_isPiece m ad _ _ hM he) yy_X11_isPiece im_X11_isPiece se_X11_isPiece lk_11_194 (MOK.t hM) (zle rfl) rfl (zle rfl) (zle rfl) (zle rfl) (zle rfl) rfl rfl (zle rfl) dX11_of_3 rfl (zp.use ?_)
  refine v_ifz_ne (tgt := 16) dX11_of_6 (by decide) rfl (fun c6 => ?_) (fun c6 => ?_)
  · refine v_bipush (v := 12) dX11_of_16 rfl rfl ?_
    refine v_iload_1 dX11_of_18 rfl ?_
    refine v_imul dX11_of_19 rfl ?_
    refine v_iload_2 dX11_of_20 rfl ?_
    refine v_iadd dX11_of_21 rfl ?_
    refine v_istore_4 dX11_of_22 rfl (zle rfl) rfl ?_
    refine v_iload_3 dX11_of_24 rfl ?_
    by_cases s25_0 : k = 0
    · refine v_tableIn (off := 35) (n := 60) dX11_of_25 (by rw [s25_0]; decide) (by rw [s25_0]; decide) (by rw [s25_0]; rfl) (by decide) ?_
      refine v_aload_0 dX11_of_60 rfl ?_
      refine v_getP fl_11_35 (mp_11 hM) (MOK.t hM) rfl (zle rfl) rfl dX11_of_61 rfl ?_
      refine v_iload_4 dX11_of_64 rfl ?_
      refine v_iald (j := 12 * tn e + tn p) (ma_11 hM) (hi c6).1 (hi c6).2 (zle rfl) dX11_of_66 rfl ?_
      exact v_ireturn rfl (mQ_rd hM ((zi_t c6).trans (zi_t s25_0))) (zle rfl) (zle rfl) dX11_of_67
    by_cases s25_1 : k = 1
    · refine v_tableIn (off := 43) (n := 68) dX11_of_25 (by rw [s25_1]; decide) (by rw [s25_1]; decide) (by rw [s25_1]; rfl) (by decide) ?_
      refine v_aload_0 dX11_of_68 rfl ?_
      refine v_getP fl_11_38 (mp_12 hM) (MOK.t hM) rfl (zle rfl) rfl dX11_of_69 rfl ?_
      refine v_iload_4 dX11_of_72 rfl ?_
      refine v_iald (j := 12 * tn e + tn p) (ma_12 hM) (hi c6).1 (hi c6).2 (zle rfl) dX11_of_74 rfl ?_
      exact v_ireturn rfl (mQ_rd hM (((zi_t c6).trans (zi_f s25_0)).trans (zi_t s25_1))) (zle rfl) (zle rfl) dX11_of_75
    by_cases s25_2 : k = 2
    · refine v_tableIn (off := 51) (n := 76) dX11_of_25 (by rw [s25_2]; decide) (by rw [s25_2]; decide) (by rw [s25_2]; rfl) (by decide) ?_
      refine v_aload_0 dX11_of_76 rfl ?_
      refine v_getP fl_11_41 (mp_13 hM) (MOK.t hM) rfl (zle rfl) rfl dX11_of_77 rfl ?_
      refine v_iload_4 dX11_of_80 rfl ?_
      refine v_iald (j := 12 * tn e + tn p) (ma_13 hM) (hi c6).1 (hi c6).2 (zle rfl) dX11_of_82 rfl ?_
      exact v_ireturn rfl (mQ_rd hM ((((zi_t c6).trans (zi_f s25_0)).trans (zi_f s25_1)).trans (zi_t s25_2))) (zle rfl) (zle rfl) dX11_of_83
    by_cases s25_3 : k = 3
    · refine v_tableIn (off := 59) (n := 84) dX11_of_25 (by rw [s25_3]; decide) (by rw [s25_3]; decide) (by rw [s25_3]; rfl) (by decide) ?_
      refine v_aload_0 dX11_of_84 rfl ?_
      refine v_getP fl_11_44 (mp_14 hM) (MOK.t hM) rfl (zle rfl) rfl dX11_of_85 rfl ?_
      refine v_iload_4 dX11_of_88 rfl ?_
      refine v_iald (j := 12 * tn e + tn p) (ma_14 hM) (hi c6).1 (hi c6).2 (zle rfl) dX11_of_90 rfl ?_
      exact v_ireturn rfl (mQ_rd hM (((((zi_t c6).trans (zi_f s25_0)).trans (zi_f s25_1)).trans (zi_f s25_2)).trans (zi_t s25_3))) (zle rfl) (zle rfl) dX11_of_91
    by_cases s25_4 : k = 4
    · refine v_tableIn (off := 67) (n := 92) dX11_of_25 (by rw [s25_4]; decide) (by rw [s25_4]; decide) (by rw [s25_4]; rfl) (by decide) ?_
      refine v_aload_0 dX11_of_92 rfl ?_
      refine v_getP fl_11_47 (mp_15 hM) (MOK.t hM) rfl (zle rfl) rfl dX11_of_93 rfl ?_
      refine v_iload_4 dX11_of_96 rfl ?_
      refine v_iald (j := 12 * tn e + tn p) (ma_15 hM) (hi c6).1 (hi c6).2 (zle rfl) dX11_of_98 rfl ?_
      exact v_ireturn rfl (mQ_rd hM ((((((zi_t c6).trans (zi_f s25_0)).trans (zi_f s25_1)).trans (zi_f s25_2)).trans (zi_f s25_3)).trans (zi_t s25_4))) (zle rfl) (zle rfl) dX11_of_99
    refine v_tableOut (n := 100) dX11_of_25 (tb_out (k := 4) (fun j hj => by rcases (show j = 0 ∨ j = 1 ∨ j = 2 ∨ j = 3 ∨ j = 4 by omega) with rfl | rfl | rfl | rfl | rfl <;> first | exact s25_0 | exact s25_1 | exact s25_2 | exact s25_3 | exact s25_4)) (by decide) ?_
    refine v_aload_0 dX11_of_100 rfl ?_
    refine v_ldc dX11_of_101 kc_11_131 rfl ?_
    refine v_callV (ci := 11) (F := TX11) (c_X11_finding _ _ (MOK.t hM)) yy_X11_finding im_X11_finding se_X11_finding lk_11_132 (MOK.t hM) (zle rfl) rfl (zle rfl) (zle rfl) (zle rfl) (zle rfl) rfl rfl (zle rfl) dX11_of_103 rfl (zp.use ?_)
    exact v_ireturn rfl (mQ_fd hM ((((((zi_t c6).trans (zi_f s25_0)).trans (zi_f s25_1)).trans (zi_f s25_2)).trans (zi_f s25_3)).trans (zi_f s25_4))) (zle rfl) (zle rfl) dX11_of_106
  · refine v_aload_0 dX11_of_9 rfl ?_
    refine v_ldc dX11_of_10 kc_11_131 rfl ?_
    refine v_callV (ci := 11) (F := TX11) (c_X11_finding _ _ (MOK.t hM)) yy_X11_finding im_X11_finding se_X11_finding lk_11_132 (MOK.t hM) (zle rfl) rfl (zle rfl) (zle rfl) (zle rfl) (zle rfl) rfl rfl (zle rfl) dX11_of_12 rfl (zp.use ?_)
    exact v_ireturn rfl (mQ_fd hM (zi_f c6)) (zle rfl) (zle rfl) dX11_of_15
theorem lp_X11_sheet {E : zE} {T : zT} {N : zN} {P : zP} {I : zI} {R : zR} {m : Nat} {ad : Nat → Nat} {K : zK E yX11_sheet cX11_sheet 5 (some .int) (zr0 2 42)} {Qf : State → Prop} (hM : MOK T P m ad) {s : Nat} (hs : s < 4) {w n : Int32}
    (hk : V K Qf T N P (ur I (ad 30) (12 * s) 12 (fun _ => 0)) R 0 0 112 [some (.ref m), some (.int (nI s)), some (.int w), some (.int n), some (.int (nI 12))] []) :
    ∀ k i, i + k = 12 → V K Qf T N P (ur I (ad 30) (12 * s) i (fun _ => 0)) R 0 0 86 [some (.ref m), some (.int (nI s)), some (.int w), some (.int n), some (.int (nI i))] [] := by
  intro k
  induction k with
  | zero =>
    intro i hi
    obtain rfl : i = 12 := by omega
    refine v_iload_4 dX11_sheet_86 rfl ?_
    refine v_bipush (v := 12) dX11_sheet_88 rfl rfl ?_
    refine v_icmp_ge_t (n := 112) (by decide) dX11_sheet_90 (by decide) ?_
    exact hk
  | succ k ih =>
    intro i hi
    refine v_iload_4 dX11_sheet_86 rfl ?_
    refine v_bipush (v := 12) dX11_sheet_88 rfl rfl ?_
    refine v_icmp_ge_f (tgt := 112) (nI_ge (a := i) (b := 12) (by omega) (zle rfl)) dX11_sheet_90 (by decide) rfl ?_
    refine v_aload_0 dX11_sheet_93 rfl ?_
    refine v_getP fl_11_83 (mp_30 hM) (MOK.t hM) rfl (zle rfl) rfl dX11_sheet_94 rfl ?_
    refine v_bipush (v := 12) dX11_sheet_97 rfl rfl ?_
    refine v_iload_1 dX11_sheet_99 rfl ?_
    refine v_imul dX11_sheet_100 rfl ?_
    refine v_iload_4 dX11_sheet_101 rfl ?_
    refine v_iadd dX11_sheet_103 rfl ?_
    refine v_iconst (v := 0) dX11_sheet_104 rfl rfl ?_
    refine v_iast (j := 12 * s + i) (ma_30 hM) (i12 s i) (by omega) (zle rfl) dX11_sheet_105 rfl ?_
    rw [ur_s]
    refine v_iinc_4 dX11_sheet_106 (nI_1 i) rfl (zle rfl) rfl ?_
    refine v_goto (n := 86) dX11_sheet_109 (by decide) ?_
    exact ih (i + 1) (by omega)
theorem c_X11_sheet {E : zE} {T : zT} {N : zN} {P : zP} {I : zI} {R : zR} (m : Nat) (ad : Nat → Nat) (s w n : Int32) (hM : MOK T P m ad) (hs : 0 ≤ s ∧ s ≤ 3 → s = nI (tn s) ∧ tn s < 4) : zC E yX11_sheet cX11_sheet 5 (some .int) (zr0 2 42) [.ref m, .int s, .int w, .int n] T N P I R (mQ m ad T N P I R (ac_sheet (mf N m) (mr I ad) s w n)) := by
  refine zC.intro (ls := [some (.ref m), some (.int s), some (.int w), some (.int n), none]) pl_RX11 (zle rfl) 1 rfl (fun K => ?_)
  have key : (0 ≤ s ∧ s ≤ 3) → (w = 0 ∨ w = 8 ∨ w = 16 ∨ w = 32) → V K (zQf K (mQ m ad T N P I R (ac_sheet (mf N m) (mr I ad) s w n))) T N P I R 0 0 36 [some (.ref m), some (.int s), some (.int w), some (.int n), none] [] := by
    intro c4 CB
    have hs := hs c4
    refine v_iload_3 dX11_sheet_36 rfl ?_
    refine v_if_ge (tgt := 48) dX11_sheet_37 (by decide) rfl (fun c37 => ?_) (fun c37 => ?_)
    · refine v_iload_3 dX11_sheet_48 rfl ?_
      refine v_bipush (v := 12) dX11_sheet_49 rfl rfl ?_
      refine v_icmp_le (tgt := 61) dX11_sheet_51 (by decide) rfl (fun c51 => ?_) (fun c51 => ?_)
      · refine v_aload_0 dX11_sheet_61 rfl ?_
        refine v_getP fl_11_77 (mp_28 hM) (MOK.t hM) rfl (zle rfl) rfl dX11_sheet_62 rfl ?_
        refine v_iload_1 dX11_sheet_65 rfl ?_
        refine v_iload_2 dX11_sheet_66 rfl ?_
        refine v_iast (j := tn s) (ma_28 hM) hs.1 hs.2 (zle rfl) dX11_sheet_67 rfl ?_
        refine v_aload_0 dX11_sheet_68 rfl ?_
        refine v_getP fl_11_80 (mp_29 hM) (MOK.t hM) rfl (zle rfl) rfl dX11_sheet_69 rfl ?_
        refine v_iload_1 dX11_sheet_72 rfl ?_
        refine v_iload_2 dX11_sheet_73 rfl ?_
        refine v_if_ne (tgt := 81) dX11_sheet_74 (by decide) rfl (fun c74 => ?_) (fun c74 => ?_)
        · refine v_iload_3 dX11_sheet_81 rfl ?_
          refine v_iast (j := tn s) (ma_29 hM) hs.1 hs.2 (zle rfl) dX11_sheet_82 rfl ?_
          refine v_iconst (v := 0) dX11_sheet_83 rfl rfl ?_
          refine v_istore_4 dX11_sheet_84 rfl (zle rfl) rfl ?_
          have e0 : s = nI (tn s) := hs.1
          rw [show (some (Value.int s) : Option Value) = some (.int (nI (tn s))) by rw [← e0]]
          rw [← ur_0 (u2 (u2 I (ad 28) (tn s) w) (ad 29) (tn s) n) (ad 30) (12 * tn s) (fun _ => 0)]
          refine lp_X11_sheet hM hs.2 ?_ 12 0 rfl
          rw [← e0]
          refine v_aload_0 dX11_sheet_112 rfl ?_
          refine v_getP fl_11_80 (mp_29 hM) (MOK.t hM) rfl (zle rfl) rfl dX11_sheet_113 rfl ?_
          refine v_iload_1 dX11_sheet_116 rfl ?_
          refine v_iald (j := tn s) (ma_29 hM) hs.1 hs.2 (zle rfl) dX11_sheet_117 rfl ?_
          exact v_ireturn rfl (mQ_go hM (((zi_t ⟨c4, CB⟩).trans (zi_t c37)).trans (zi_t c51)) (by rw [ur_off (hM.ne (by decide) (by decide) rfl rfl (by decide)), u2_self, zi_f c74]) rfl (by rw [mr_ur hM (by decide) rfl, mr_set hM (by decide) rfl, mr_set hM (by decide) rfl, zi_f c74]) (((Mfr.rf.i (by decide) rfl _ _).i (by decide) rfl _ _).u (by decide) rfl _ _ _)) (zle rfl) (zle rfl) dX11_sheet_118
        · refine v_iconst (v := 0) dX11_sheet_77 rfl rfl ?_
          refine v_goto (n := 82) dX11_sheet_78 (by decide) ?_
          refine v_iast (j := tn s) (ma_29 hM) hs.1 hs.2 (zle rfl) dX11_sheet_82 rfl ?_
          refine v_iconst (v := 0) dX11_sheet_83 rfl rfl ?_
          refine v_istore_4 dX11_sheet_84 rfl (zle rfl) rfl ?_
          have e0 : s = nI (tn s) := hs.1
          rw [show (some (Value.int s) : Option Value) = some (.int (nI (tn s))) by rw [← e0]]
          rw [← ur_0 (u2 (u2 I (ad 28) (tn s) w) (ad 29) (tn s) 0) (ad 30) (12 * tn s) (fun _ => 0)]
          refine lp_X11_sheet hM hs.2 ?_ 12 0 rfl
          rw [← e0]
          refine v_aload_0 dX11_sheet_112 rfl ?_
          refine v_getP fl_11_80 (mp_29 hM) (MOK.t hM) rfl (zle rfl) rfl dX11_sheet_113 rfl ?_
          refine v_iload_1 dX11_sheet_116 rfl ?_
          refine v_iald (j := tn s) (ma_29 hM) hs.1 hs.2 (zle rfl) dX11_sheet_117 rfl ?_
          exact v_ireturn rfl (mQ_go hM (((zi_t ⟨c4, CB⟩).trans (zi_t c37)).trans (zi_t c51)) (by rw [ur_off (hM.ne (by decide) (by decide) rfl rfl (by decide)), u2_self, zi_t c74]) rfl (by rw [mr_ur hM (by decide) rfl, mr_set hM (by decide) rfl, mr_set hM (by decide) rfl, zi_t c74]) (((Mfr.rf.i (by decide) rfl _ _).i (by decide) rfl _ _).u (by decide) rfl _ _ _)) (zle rfl) (zle rfl) dX11_sheet_118
      · refine v_aload_0 dX11_sheet_54 rfl ?_
        refine v_ldc dX11_sheet_55 kc_11_131 rfl ?_
        refine v_callV (ci := 11) (F := TX11) (c_X11_finding _ _ (MOK.t hM)) yy_X11_finding im_X11_finding se_X11_finding lk_11_132 (MOK.t hM) (zle rfl) rfl (zle rfl) (zle rfl) (zle rfl) (zle rfl) rfl rfl (zle rfl) dX11_sheet_57 rfl (zp.use ?_)
        exact v_ireturn rfl (mQ_fd hM (((zi_t ⟨c4, CB⟩).trans (zi_t c37)).trans (zi_f c51))) (zle rfl) (zle rfl) dX11_sheet_60
    · refine v_aload_0 dX11_sheet_40 rfl ?_
      refine v_ldcw dX11_sheet_41 kc_11_282 rfl ?_
      refine v_callV (ci := 11) (F := TX11) (c_X11_finding _ _ (MOK.t hM)) yy_X11_finding im_X11_finding se_X11_finding lk_11_132 (MOK.t hM) (zle rfl) rfl (zle rfl) (zle rfl) (zle rfl) (zle rfl) rfl rfl (zle rfl) dX11_sheet_44 rfl (zp.use ?_)
      exact v_ireturn rfl (mQ_fd hM ((zi_t ⟨c4, CB⟩).trans (zi_f c37))) (zle rfl) (zle rfl) dX11_sheet_47
  refine v_iload_1 dX11_sheet_0 rfl ?_
  refine v_callS (c_X11_isSheet _) yy_X11_isSheet st_X11_isSheet lk_11_279 (zle rfl) (zle rfl) (zle rfl) (zle rfl) rfl rfl (zle rfl) dX11_sheet_1 rfl (zp.use ?_)
  refine v_ifz_eq (tgt := 29) dX11_sheet_4 (by decide) rfl (fun c4 => ?_) (fun c4 => ?_)
  · refine v_aload_0 dX11_sheet_29 rfl ?_
    refine v_ldc dX11_sheet_30 kc_11_131 rfl ?_
    refine v_callV (ci := 11) (F := TX11) (c_X11_finding _ _ (MOK.t hM)) yy_X11_finding im_X11_finding se_X11_finding lk_11_132 (MOK.t hM) (zle rfl) rfl (zle rfl) (zle rfl) (zle rfl) (zle rfl) rfl rfl (zle rfl) dX11_sheet_32 rfl (zp.use ?_)
    exact v_ireturn rfl (mQ_fd hM (zi_f (fun h => c4 h.1))) (zle rfl) (zle rfl) dX11_sheet_35
  · refine v_iload_2 dX11_sheet_7 rfl ?_
    refine v_if_eq (tgt := 36) dX11_sheet_8 (by decide) rfl (fun c8 => ?_) (fun c8 => ?_)
    · exact key c4 (Or.inl c8)
    · refine v_iload_2 dX11_sheet_11 rfl ?_
      refine v_bipush (v := 8) dX11_sheet_12 rfl rfl ?_
      refine v_icmp_eq (tgt := 36) dX11_sheet_14 (by decide) rfl (fun c14 => ?_) (fun c14 => ?_)
      · exact key c4 (Or.inr (Or.inl c14))
      · refine v_iload_2 dX11_sheet_17 rfl ?_
        refine v_bipush (v := 16) dX11_sheet_18 rfl rfl ?_
        refine v_icmp_eq (tgt := 36) dX11_sheet_20 (by decide) rfl (fun c20 => ?_) (fun c20 => ?_)
        · exact key c4 (Or.inr (Or.inr (Or.inl c20)))
        · refine v_iload_2 dX11_sheet_23 rfl ?_
          refine v_bipush (v := 32) dX11_sheet_24 rfl rfl ?_
          refine v_icmp_eq (tgt := 36) dX11_sheet_26 (by decide) rfl (fun c26 => ?_) (fun c26 => ?_)
          · exact key c4 (Or.inr (Or.inr (Or.inr c26)))
          · refine v_aload_0 dX11_sheet_29 rfl ?_
            refine v_ldc dX11_sheet_30 kc_11_131 rfl ?_
            refine v_callV (ci := 11) (F := TX11) (c_X11_finding _ _ (MOK.t hM)) yy_X11_finding im_X11_finding se_X11_finding lk_11_132 (MOK.t hM) (zle rfl) rfl (zle rfl) (zle rfl) (zle rfl) (zle rfl) rfl rfl (zle rfl) dX11_sheet_32 rfl (zp.use ?_)
            exact v_ireturn rfl (mQ_fd hM (zi_f (fun h => h.2.elim c8 (fun h => h.elim c14 (fun h => h.elim c20 c26))))) (zle rfl) (zle rfl) dX11_sheet_35
theorem lp_X11_feed {E : zE} {T : zT} {N : zN} {P : zP} {I : zI} {R : zR} {m : Nat} {ad : Nat → Nat} {K : zK E yX11_feed cX11_feed 5 (some .int) (zr0 1 22)} {Qf : State → Prop} (hM : MOK T P m ad) {w : Int64} {n t : Nat} (hn : n ≤ 8) (ht : t + n ≤ 200)
    (hk : V K Qf T (u3 N 11 17 m (nI (t + n))) P (ur I (ad 16) t n (wby w)) R 0 0 82 [some (.ref m), some (.long w), none, some (.int (nI n)), some (.int (nI n))] []) :
    ∀ k i, i + k = n → V K Qf T (u3 N 11 17 m (nI (t + i))) P (ur I (ad 16) t i (wby w)) R 0 0 39 [some (.ref m), some (.long w), none, some (.int (nI n)), some (.int (nI i))] [] := by
  intro k
  induction k with
  | zero =>
    intro i hi
    obtain rfl : i = n := by omega
    refine v_iload_4 dX11_feed_39 rfl ?_
    refine v_iload_3 dX11_feed_41 rfl ?_
    refine v_icmp_ge_t (n := 82) (nI_le (a := i) (b := i) (Nat.le_refl _) (by omega)) dX11_feed_42 (by decide) ?_
    exact hk
  | succ k ih =>
    intro i hi
    refine v_iload_4 dX11_feed_39 rfl ?_
    refine v_iload_3 dX11_feed_41 rfl ?_
    refine v_icmp_ge_f (tgt := 82) (nI_ge (a := i) (b := n) (by omega) (by omega)) dX11_feed_42 (by decide) rfl ?_
    refine v_aload_0 dX11_feed_45 rfl ?_
    refine v_getP fl_11_50 (mp_16 hM) (MOK.t hM) rfl (zle rfl) rfl dX11_feed_46 rfl ?_
    refine v_aload_0 dX11_feed_49 rfl ?_
    refine v_getN fl_11_159 (MOK.t hM) rfl (zle rfl) rfl dX11_feed_50 rfl ?_
    refine v_top u3_self ?_
    refine v_lload_1 dX11_feed_53 rfl ?_
    refine v_bipush (v := 8) dX11_feed_54 rfl rfl ?_
    refine v_iload_4 dX11_feed_56 rfl ?_
    refine v_imul dX11_feed_58 rfl ?_
    refine v_lshr dX11_feed_59 rfl ?_
    refine v_ldc2 dX11_feed_60 kc_11_162 rfl ?_
    refine v_land dX11_feed_63 rfl ?_
    refine v_l2i dX11_feed_64 rfl ?_
    refine v_iast (j := t + i) (ma_16 hM) rfl (by omega) (zle rfl) dX11_feed_65 rfl ?_
    rw [show (w >>> ((8 * nI i : Int32).toInt64 &&& 63) &&& 255).toInt32 = wby w i from rfl, ur_s]
    refine v_aload_0 dX11_feed_66 rfl ?_
    refine v_dup dX11_feed_67 rfl rfl ?_
    refine v_getN fl_11_159 (MOK.t hM) rfl (zle rfl) rfl dX11_feed_68 rfl ?_
    refine v_top u3_self ?_
    refine v_iconst (v := 1) dX11_feed_71 rfl rfl ?_
    refine v_iadd dX11_feed_72 rfl ?_
    refine v_putN fw_11_159 (MOK.t hM) rfl (zle rfl) rfl (fun h => by cases h) rfl rfl dX11_feed_73 rfl ?_
    rw [u3_u3, nI_1]
    refine v_iinc_4 dX11_feed_76 (nI_1 i) rfl (zle rfl) rfl ?_
    refine v_goto (n := 39) dX11_feed_79 (by decide) ?_
    exact ih (i + 1) (by omega)
theorem c_X11_feed {E : zE} {T : zT} {N : zN} {P : zP} {I : zI} {R : zR} (m : Nat) (ad : Nat → Nat) (w : Int64) (n : Int32) (t : Nat) (hM : MOK T P m ad) (ht0 : N 11 17 m = nI t) (ht2 : t ≤ 200) (hn : 1 ≤ n ∧ n ≤ 8 → ∃ k, k ≤ 8 ∧ n = nI k) (ht : ∀ k, k ≤ 8 → n = nI k → N 11 17 m + n ≤ 200 → t + k ≤ 200) : zC E yX11_feed cX11_feed 5 (some .int) (zr0 1 22) [.ref m, .long w, .int n] T N P I R (mQ m ad T N P I R (ac_feed (mf N m) (mr I ad) w n)) := by
  refine zC.intro (ls := [some (.ref m), some (.long w), none, some (.int n), none]) pl_RX11 (zle rfl) 1 rfl (fun K => ?_)
  refine v_iload_3 dX11_feed_0 rfl ?_
  refine v_iconst (v := 1) dX11_feed_1 rfl rfl ?_
  refine v_bipush (v := 8) dX11_feed_2 rfl rfl ?_
  refine v_callS (c_X11_within _ _ _) yy_X11_within st_X11_within lk_11_121 (zle rfl) (zle rfl) (zle rfl) (zle rfl) rfl rfl (zle rfl) dX11_feed_4 rfl (zp.use ?_)
  refine v_ifz_ne (tgt := 17) dX11_feed_7 (by decide) rfl (fun c7 => ?_) (fun c7 => ?_)
  · refine v_aload_0 dX11_feed_17 rfl ?_
    refine v_getN fl_11_159 (MOK.t hM) rfl (zle rfl) rfl dX11_feed_18 rfl ?_
    refine v_iload_3 dX11_feed_21 rfl ?_
    refine v_iadd dX11_feed_22 rfl ?_
    refine v_sipush (v := 200) dX11_feed_23 rfl rfl ?_
    refine v_icmp_le (tgt := 36) dX11_feed_26 (by decide) rfl (fun c26 => ?_) (fun c26 => ?_)
    · refine v_iconst (v := 0) dX11_feed_36 rfl rfl ?_
      refine v_istore_4 dX11_feed_37 rfl (zle rfl) rfl ?_
      obtain ⟨k, hk8, rfl⟩ := hn c7
      have hs : t + k ≤ 200 := ht k hk8 rfl c26
      refine v_heap rfl (show N = u3 N 11 17 m (nI (t + 0)) by rw [Nat.add_zero, ← ht0, u3_id]) rfl (ur_0 I (ad 16) t (wby w)).symm rfl ?_
      refine lp_X11_feed hM hk8 hs ?_ k 0 (by omega)
      have ef : u1 (mf N m) 17 (mf N m 17 + nI k) = u1 (mf N m) 17 (nI (t + k)) := by rw [show mf N m 17 = nI t from ht0, nI_add]
      have et : tn (mf N m 17) = t := by rw [show mf N m 17 = nI t from ht0, tn_nI (by omega)]
      have ek : tn (nI k) = k := tn_nI (by omega)
      have eo : ac_feed (mf N m) (mr I ad) w (nI k) = (nI (t + k), u1 (mf N m) 17 (nI (t + k)), ur (mr I ad) 16 t k (wby w)) := by
        refine ((zi_t c7).trans (zi_t c26)).trans ?_
        rw [ef, et, ek, show mf N m 17 = nI t from ht0, nI_add]
      refine v_aload_0 dX11_feed_82 rfl ?_
      refine v_getN fl_11_159 (MOK.t hM) rfl (zle rfl) rfl dX11_feed_83 rfl ?_
      refine v_top u3_self ?_
      exact v_ireturn rfl (mQ_go hM eo rfl (mf_set (by decide)) (by rw [mr_ur hM (by decide) rfl]) ((Mfr.rf.u (by decide) rfl _ _ _).n _ _ _)) (zle rfl) (zle rfl) dX11_feed_86
    · refine v_aload_0 dX11_feed_29 rfl ?_
      refine v_ldc dX11_feed_30 kc_11_136 rfl ?_
      refine v_callV (ci := 11) (F := TX11) (c_X11_finding _ _ (MOK.t hM)) yy_X11_finding im_X11_finding se_X11_finding lk_11_132 (MOK.t hM) (zle rfl) rfl (zle rfl) (zle rfl) (zle rfl) (zle rfl) rfl rfl (zle rfl) dX11_feed_32 rfl (zp.use ?_)
      exact v_ireturn rfl (mQ_fd hM ((zi_t c7).trans (zi_f c26))) (zle rfl) (zle rfl) dX11_feed_35
  · refine v_aload_0 dX11_feed_10 rfl ?_
    refine v_ldc dX11_feed_11 kc_11_131 rfl ?_
    refine v_callV (ci := 11) (F := TX11) (c_X11_finding _ _ (MOK.t hM)) yy_X11_finding im_X11_finding se_X11_finding lk_11_132 (MOK.t hM) (zle rfl) rfl (zle rfl) (zle rfl) (zle rfl) (zle rfl) rfl rfl (zle rfl) dX11_feed_13 rfl (zp.use ?_)
    exact v_ireturn rfl (mQ_fd hM (zi_f c7)) (zle rfl) (zle rfl) dX11_feed_16
theorem lp_X11_copy1 {E : zE} {T : zT} {N : zN} {P : zP} {I : zI} {R : zR} {m : Nat} {ad : Nat → Nat} {K : zK E yX11_copy cX11_copy 7 (some .int) (zr0 2 42)} {Qf : State → Prop} (hM : MOK T P m ad) {s a t c n : Nat} (hs : s < 4) (hn : a + n ≤ 12)
    (hk : V K Qf T N P (ur I (ad 43) 0 n (fun q => I (ad 30) (12 * s + a + q))) R 0 0 162 [some (.ref m), some (.int (nI s)), some (.int (nI a)), some (.int (nI t)), some (.int (nI c)), some (.int (nI n)), some (.int (nI n))] []) :
    ∀ k i, i + k = n → V K Qf T N P (ur I (ad 43) 0 i (fun q => I (ad 30) (12 * s + a + q))) R 0 0 128 [some (.ref m), some (.int (nI s)), some (.int (nI a)), some (.int (nI t)), some (.int (nI c)), some (.int (nI n)), some (.int (nI i))] [] := by
  intro k
  induction k with
  | zero =>
    intro i hi
    obtain rfl : i = n := by omega
    refine v_iload_6 dX11_copy_128 rfl ?_
    refine v_iload_5 dX11_copy_130 rfl ?_
    refine v_icmp_ge_t (n := 162) (nI_le (a := i) (b := i) (Nat.le_refl _) (by omega)) dX11_copy_132 (by decide) ?_
    exact hk
  | succ k ih =>
    intro i hi
    refine v_iload_6 dX11_copy_128 rfl ?_
    refine v_iload_5 dX11_copy_130 rfl ?_
    refine v_icmp_ge_f (tgt := 162) (nI_ge (a := i) (b := n) (by omega) (by omega)) dX11_copy_132 (by decide) rfl ?_
    refine v_aload_0 dX11_copy_135 rfl ?_
    refine v_getP fl_11_111 (mp_43 hM) (MOK.t hM) rfl (zle rfl) rfl dX11_copy_136 rfl ?_
    refine v_iload_6 dX11_copy_139 rfl ?_
    refine v_aload_0 dX11_copy_141 rfl ?_
    refine v_getP fl_11_83 (mp_30 hM) (MOK.t hM) rfl (zle rfl) rfl dX11_copy_142 rfl ?_
    refine v_bipush (v := 12) dX11_copy_145 rfl rfl ?_
    refine v_iload_1 dX11_copy_147 rfl ?_
    refine v_imul dX11_copy_148 rfl ?_
    refine v_iload_2 dX11_copy_149 rfl ?_
    refine v_iadd dX11_copy_150 rfl ?_
    refine v_iload_6 dX11_copy_151 rfl ?_
    refine v_iadd dX11_copy_153 rfl ?_
    refine v_top ((congrArg (· + nI i) (i12 s a)).trans (nI_add _ _)) ?_
    refine v_iald (j := 12 * s + a + i) (ma_30 hM) rfl (by omega) (zle rfl) dX11_copy_154 rfl ?_
    rw [ur_off (hM.ne (by decide) (by decide) rfl rfl (by decide))]
    refine v_iast (j := i) (ma_43 hM) rfl (by omega) (zle rfl) dX11_copy_155 rfl ?_
    refine v_heap rfl rfl rfl (show _ = ur I (ad 43) 0 (i + 1) (fun q => I (ad 30) (12 * s + a + q)) by rw [← ur_s, Nat.zero_add]) rfl ?_
    refine v_iinc_6 dX11_copy_156 (nI_1 i) rfl (zle rfl) rfl ?_
    refine v_goto (n := 128) dX11_copy_159 (by decide) ?_
    exact ih (i + 1) (by omega)
theorem lp_X11_copy2 {E : zE} {T : zT} {N : zN} {P : zP} {I : zI} {R : zR} {m : Nat} {ad : Nat → Nat} {K : zK E yX11_copy cX11_copy 7 (some .int) (zr0 2 42)} {Qf : State → Prop} (hM : MOK T P m ad) {s a t c n : Nat} (ht : t < 4) (hn : c + n ≤ 12)
    (hk : V K Qf T N P (ur I (ad 30) (12 * t + c) n (fun q => I (ad 43) q)) R 0 0 200 [some (.ref m), some (.int (nI s)), some (.int (nI a)), some (.int (nI t)), some (.int (nI c)), some (.int (nI n)), some (.int (nI n))] []) :
    ∀ k i, i + k = n → V K Qf T N P (ur I (ad 30) (12 * t + c) i (fun q => I (ad 43) q)) R 0 0 165 [some (.ref m), some (.int (nI s)), some (.int (nI a)), some (.int (nI t)), some (.int (nI c)), some (.int (nI n)), some (.int (nI i))] [] := by
  intro k
  induction k with
  | zero =>
    intro i hi
    obtain rfl : i = n := by omega
    refine v_iload_6 dX11_copy_165 rfl ?_
    refine v_iload_5 dX11_copy_167 rfl ?_
    refine v_icmp_ge_t (n := 200) (nI_le (a := i) (b := i) (Nat.le_refl _) (by omega)) dX11_copy_169 (by decide) ?_
    exact hk
  | succ k ih =>
    intro i hi
    refine v_iload_6 dX11_copy_165 rfl ?_
    refine v_iload_5 dX11_copy_167 rfl ?_
    refine v_icmp_ge_f (tgt := 200) (nI_ge (a := i) (b := n) (by omega) (by omega)) dX11_copy_169 (by decide) rfl ?_
    refine v_aload_0 dX11_copy_172 rfl ?_
    refine v_getP fl_11_83 (mp_30 hM) (MOK.t hM) rfl (zle rfl) rfl dX11_copy_173 rfl ?_
    refine v_bipush (v := 12) dX11_copy_176 rfl rfl ?_
    refine v_iload_3 dX11_copy_178 rfl ?_
    refine v_imul dX11_copy_179 rfl ?_
    refine v_iload_4 dX11_copy_180 rfl ?_
    refine v_iadd dX11_copy_182 rfl ?_
    refine v_iload_6 dX11_copy_183 rfl ?_
    refine v_iadd dX11_copy_185 rfl ?_
    refine v_top ((congrArg (· + nI i) (i12 t c)).trans (nI_add _ _)) ?_
    refine v_aload_0 dX11_copy_186 rfl ?_
    refine v_getP fl_11_111 (mp_43 hM) (MOK.t hM) rfl (zle rfl) rfl dX11_copy_187 rfl ?_
    refine v_iload_6 dX11_copy_190 rfl ?_
    refine v_iald (j := i) (ma_43 hM) rfl (by omega) (zle rfl) dX11_copy_192 rfl ?_
    rw [ur_off (hM.ne (by decide) (by decide) rfl rfl (by decide))]
    refine v_iast (j := 12 * t + c + i) (ma_30 hM) rfl (by omega) (zle rfl) dX11_copy_193 rfl ?_
    refine v_heap rfl rfl rfl (show _ = ur I (ad 30) (12 * t + c) (i + 1) (fun q => I (ad 43) q) by rw [← ur_s]) rfl ?_
    refine v_iinc_6 dX11_copy_194 (nI_1 i) rfl (zle rfl) rfl ?_
    refine v_goto (n := 165) dX11_copy_197 (by decide) ?_
    exact ih (i + 1) (by omega)
theorem c_X11_copy {E : zE} {T : zT} {N : zN} {P : zP} {I : zI} {R : zR} (m : Nat) (ad : Nat → Nat) (s a t c n : Int32) (hM : MOK T P m ad) (hs : 0 ≤ s ∧ s ≤ 3 → s = nI (tn s) ∧ tn s < 4) (ht : 0 ≤ t ∧ t ≤ 3 → t = nI (tn t) ∧ tn t < 4) (hz : ∀ q, q < 4 → Nt (I (ad 29) q) 13) : zC E yX11_copy cX11_copy 7 (some .int) (zr0 2 42) [.ref m, .int s, .int a, .int t, .int c, .int n] T N P I R (mQ m ad T N P I R (ac_copy (mf N m) (mr I ad) s a t c n)) := by
  refine zC.intro (ls := [some (.ref m), some (.int s), some (.int a), some (.int t), some (.int c), some (.int n), none]) pl_RX11 (zle rfl) 1 rfl (fun K => ?_)
  refine v_iload_1 dX11_copy_0 rfl ?_
  refine v_callS (c_X11_isSheet _) yy_X11_isSheet st_X11_isSheet lk_11_279 (zle rfl) (zle rfl) (zle rfl) (zle rfl) rfl rfl (zle rfl) dX11_copy_1 rfl (zp.use ?_)
  refine v_ifz_eq (tgt := 14) dX11_copy_4 (by decide) rfl (fun c4 => ?_) (fun c4 => ?_)
  · refine v_aload_0 dX11_copy_14 rfl ?_
    refine v_ldc dX11_copy_15 kc_11_131 rfl ?_
    refine v_callV (ci := 11) (F := TX11) (c_X11_finding _ _ (MOK.t hM)) yy_X11_finding im_X11_finding se_X11_finding lk_11_132 (MOK.t hM) (zle rfl) rfl (zle rfl) (zle rfl) (zle rfl) (zle rfl) rfl rfl (zle rfl) dX11_copy_17 rfl (zp.use ?_)
    exact v_ireturn rfl (mQ_fd hM (zi_f (fun h => c4 h.1))) (zle rfl) (zle rfl) dX11_copy_20
  · refine v_iload_3 dX11_copy_7 rfl ?_
    refine v_callS (c_X11_isSheet _) yy_X11_isSheet st_X11_isSheet lk_11_279 (zle rfl) (zle rfl) (zle rfl) (zle rfl) rfl rfl (zle rfl) dX11_copy_8 rfl (zp.use ?_)
    refine v_ifz_ne (tgt := 21) dX11_copy_11 (by decide) rfl (fun c11 => ?_) (fun c11 => ?_)
    · refine v_aload_0 dX11_copy_21 rfl ?_
      refine v_getP fl_11_77 (mp_28 hM) (MOK.t hM) rfl (zle rfl) rfl dX11_copy_22 rfl ?_
      have hs := hs c4
      have ht := ht c11
      refine v_iload_1 dX11_copy_25 rfl ?_
      refine v_iald (j := tn s) (ma_28 hM) hs.1 hs.2 (zle rfl) dX11_copy_26 rfl ?_
      refine v_if_eq (tgt := 39) dX11_copy_27 (by decide) rfl (fun c27 => ?_) (fun c27 => ?_)
      · refine v_aload_0 dX11_copy_39 rfl ?_
        refine v_ldcw dX11_copy_40 kc_11_283 rfl ?_
        refine v_callV (ci := 11) (F := TX11) (c_X11_finding _ _ (MOK.t hM)) yy_X11_finding im_X11_finding se_X11_finding lk_11_132 (MOK.t hM) (zle rfl) rfl (zle rfl) (zle rfl) (zle rfl) (zle rfl) rfl rfl (zle rfl) dX11_copy_43 rfl (zp.use ?_)
        exact v_ireturn rfl (mQ_fd hM ((zi_t ⟨c4, c11⟩).trans (zi_t (Or.inl c27)))) (zle rfl) (zle rfl) dX11_copy_46
      · refine v_aload_0 dX11_copy_30 rfl ?_
        refine v_getP fl_11_77 (mp_28 hM) (MOK.t hM) rfl (zle rfl) rfl dX11_copy_31 rfl ?_
        refine v_iload_3 dX11_copy_34 rfl ?_
        refine v_iald (j := tn t) (ma_28 hM) ht.1 ht.2 (zle rfl) dX11_copy_35 rfl ?_
        refine v_if_ne (tgt := 47) dX11_copy_36 (by decide) rfl (fun c36 => ?_) (fun c36 => ?_)
        · refine v_aload_0 dX11_copy_47 rfl ?_
          refine v_getP fl_11_77 (mp_28 hM) (MOK.t hM) rfl (zle rfl) rfl dX11_copy_48 rfl ?_
          refine v_iload_1 dX11_copy_51 rfl ?_
          refine v_iald (j := tn s) (ma_28 hM) hs.1 hs.2 (zle rfl) dX11_copy_52 rfl ?_
          refine v_aload_0 dX11_copy_53 rfl ?_
          refine v_getP fl_11_77 (mp_28 hM) (MOK.t hM) rfl (zle rfl) rfl dX11_copy_54 rfl ?_
          refine v_iload_3 dX11_copy_57 rfl ?_
          refine v_iald (j := tn t) (ma_28 hM) ht.1 ht.2 (zle rfl) dX11_copy_58 rfl ?_
          refine v_icmp_eq (tgt := 69) dX11_copy_59 (by decide) rfl (fun c59 => ?_) (fun c59 => ?_)
          · refine v_iload_2 dX11_copy_69 rfl ?_
            refine v_if_lt (tgt := 118) dX11_copy_70 (by decide) rfl (fun c70 => ?_) (fun c70 => ?_)
            · refine v_aload_0 dX11_copy_118 rfl ?_
              refine v_ldc dX11_copy_119 kc_11_131 rfl ?_
              refine v_callV (ci := 11) (F := TX11) (c_X11_finding _ _ (MOK.t hM)) yy_X11_finding im_X11_finding se_X11_finding lk_11_132 (MOK.t hM) (zle rfl) rfl (zle rfl) (zle rfl) (zle rfl) (zle rfl) rfl rfl (zle rfl) dX11_copy_121 rfl (zp.use ?_)
              exact v_ireturn rfl (mQ_fd hM ((((zi_t ⟨c4, c11⟩).trans (zi_f (fun h => h.elim c27 c36))).trans (zi_t c59)).trans (zi_f (fun h => i_nlt0.mpr h.1.1 c70)))) (zle rfl) (zle rfl) dX11_copy_124
            · have c70 := i_nlt0.mp c70
              refine v_iload_4 dX11_copy_73 rfl ?_
              refine v_if_lt (tgt := 118) dX11_copy_75 (by decide) rfl (fun c75 => ?_) (fun c75 => ?_)
              · refine v_aload_0 dX11_copy_118 rfl ?_
                refine v_ldc dX11_copy_119 kc_11_131 rfl ?_
                refine v_callV (ci := 11) (F := TX11) (c_X11_finding _ _ (MOK.t hM)) yy_X11_finding im_X11_finding se_X11_finding lk_11_132 (MOK.t hM) (zle rfl) rfl (zle rfl) (zle rfl) (zle rfl) (zle rfl) rfl rfl (zle rfl) dX11_copy_121 rfl (zp.use ?_)
                exact v_ireturn rfl (mQ_fd hM ((((zi_t ⟨c4, c11⟩).trans (zi_f (fun h => h.elim c27 c36))).trans (zi_t c59)).trans (zi_f (fun h => i_nlt0.mpr h.1.2.1 c75)))) (zle rfl) (zle rfl) dX11_copy_124
              · have c75 := i_nlt0.mp c75
                refine v_iload_5 dX11_copy_78 rfl ?_
                refine v_if_lt (tgt := 118) dX11_copy_80 (by decide) rfl (fun c80 => ?_) (fun c80 => ?_)
                · refine v_aload_0 dX11_copy_118 rfl ?_
                  refine v_ldc dX11_copy_119 kc_11_131 rfl ?_
                  refine v_callV (ci := 11) (F := TX11) (c_X11_finding _ _ (MOK.t hM)) yy_X11_finding im_X11_finding se_X11_finding lk_11_132 (MOK.t hM) (zle rfl) rfl (zle rfl) (zle rfl) (zle rfl) (zle rfl) rfl rfl (zle rfl) dX11_copy_121 rfl (zp.use ?_)
                  exact v_ireturn rfl (mQ_fd hM ((((zi_t ⟨c4, c11⟩).trans (zi_f (fun h => h.elim c27 c36))).trans (zi_t c59)).trans (zi_f (fun h => i_nlt0.mpr h.1.2.2 c80)))) (zle rfl) (zle rfl) dX11_copy_124
                · have c80 := i_nlt0.mp c80
                  refine v_iload_2 dX11_copy_83 rfl ?_
                  refine v_i2l dX11_copy_84 rfl ?_
                  refine v_iload_5 dX11_copy_85 rfl ?_
                  refine v_i2l dX11_copy_87 rfl ?_
                  refine v_ladd dX11_copy_88 rfl ?_
                  refine v_aload_0 dX11_copy_89 rfl ?_
                  refine v_getP fl_11_80 (mp_29 hM) (MOK.t hM) rfl (zle rfl) rfl dX11_copy_90 rfl ?_
                  refine v_iload_1 dX11_copy_93 rfl ?_
                  refine v_iald (j := tn s) (ma_29 hM) hs.1 hs.2 (zle rfl) dX11_copy_94 rfl ?_
                  refine v_i2l dX11_copy_95 rfl ?_
                  refine v_lcmp dX11_copy_96 rfl ?_
                  refine v_if_gt (tgt := 118) dX11_copy_97 (by decide) rfl (fun c97 => ?_) (fun c97 => ?_)
                  · have c97 := l_gt.mp c97
                    refine v_aload_0 dX11_copy_118 rfl ?_
                    refine v_ldc dX11_copy_119 kc_11_131 rfl ?_
                    refine v_callV (ci := 11) (F := TX11) (c_X11_finding _ _ (MOK.t hM)) yy_X11_finding im_X11_finding se_X11_finding lk_11_132 (MOK.t hM) (zle rfl) rfl (zle rfl) (zle rfl) (zle rfl) (zle rfl) rfl rfl (zle rfl) dX11_copy_121 rfl (zp.use ?_)
                    exact v_ireturn rfl (mQ_fd hM ((((zi_t ⟨c4, c11⟩).trans (zi_f (fun h => h.elim c27 c36))).trans (zi_t c59)).trans (zi_f (fun h => absurd h.2.1 (Int.not_le.mpr c97))))) (zle rfl) (zle rfl) dX11_copy_124
                  · have c97 := l_ngt.mp c97
                    refine v_iload_4 dX11_copy_100 rfl ?_
                    refine v_i2l dX11_copy_102 rfl ?_
                    refine v_iload_5 dX11_copy_103 rfl ?_
                    refine v_i2l dX11_copy_105 rfl ?_
                    refine v_ladd dX11_copy_106 rfl ?_
                    refine v_aload_0 dX11_copy_107 rfl ?_
                    refine v_getP fl_11_80 (mp_29 hM) (MOK.t hM) rfl (zle rfl) rfl dX11_copy_108 rfl ?_
                    refine v_iload_3 dX11_copy_111 rfl ?_
                    refine v_iald (j := tn t) (ma_29 hM) ht.1 ht.2 (zle rfl) dX11_copy_112 rfl ?_
                    refine v_i2l dX11_copy_113 rfl ?_
                    refine v_lcmp dX11_copy_114 rfl ?_
                    refine v_if_le (tgt := 125) dX11_copy_115 (by decide) rfl (fun c115 => ?_) (fun c115 => ?_)
                    · have c115 := l_le.mp c115
                      obtain ⟨s, hs4, rfl⟩ : ∃ q, q < 4 ∧ s = nI q := ⟨tn s, hs.2, hs.1⟩
                      obtain ⟨t, ht4, rfl⟩ : ∃ q, q < 4 ∧ t = nI q := ⟨tn t, ht.2, ht.1⟩
                      have es : tn (nI s) = s := tn_nI (by omega)
                      have et : tn (nI t) = t := tn_nI (by omega)
                      rw [es] at c97
                      rw [et] at c115
                      have z1 := (hz s hs4).toInt (by decide)
                      have z2 := (hz t ht4).toInt (by decide)
                      have z3 := (hz s hs4).2
                      have z4 := (hz t ht4).2
                      obtain ⟨k1, k2⟩ := tn_pos c70
                      obtain ⟨k3, k4⟩ := tn_pos c75
                      obtain ⟨k5, k6⟩ := tn_pos c80
                      generalize tn a = a' at k1 k2
                      generalize tn c = c' at k3 k4
                      generalize tn n = n' at k5 k6
                      subst k1
                      subst k3
                      subst k5
                      have en : tn (nI n') = n' := tn_nI (by omega)
                      have ea : tn (nI a') = a' := tn_nI (by omega)
                      have ec : tn (nI c') = c' := tn_nI (by omega)
                      have eo : ac_copy (mf N m) (mr I ad) (nI s) (nI a') (nI t) (nI c') (nI n') = (nI n', mf N m, ur (mr I ad) 30 (12 * t + c') n' (fun q => mr I ad 30 (12 * s + a' + q))) := by
                        refine ((((zi_t ⟨c4, c11⟩).trans (zi_f (fun h => h.elim c27 c36))).trans (zi_t c59)).trans (zi_t ⟨⟨c70, c75, c80⟩, by rw [es]; exact c97, by rw [et]; exact c115⟩)).trans ?_
                        rw [es, et, en, ea, ec]
                      have er : mr (ur (ur I (ad 43) 0 n' (fun q => I (ad 30) (12 * s + a' + q))) (ad 30) (12 * t + c') n' (fun q => ur I (ad 43) 0 n' (fun q => I (ad 30) (12 * s + a' + q)) (ad 43) q)) ad = ur (mr I ad) 30 (12 * t + c') n' (fun q => mr I ad 30 (12 * s + a' + q)) := by
                        rw [mr_ur hM (by decide) rfl, mr_urs hM (by decide) (by decide) rfl]
                        refine ur_congr (fun q hq => ?_)
                        rw [ur_in (by omega) (by omega), Nat.sub_zero]
                        rfl
                      refine v_iconst (v := 0) dX11_copy_125 rfl rfl ?_
                      refine v_istore_6 dX11_copy_126 rfl (zle rfl) rfl ?_
                      refine v_heap rfl rfl rfl (ur_0 I (ad 43) 0 (fun q => I (ad 30) (12 * s + a' + q))).symm rfl ?_
                      refine lp_X11_copy1 hM hs4 (by omega) ?_ n' 0 (by omega)
                      refine v_iconst (v := 0) dX11_copy_162 rfl rfl ?_
                      refine v_istore_6 dX11_copy_163 rfl (zle rfl) rfl ?_
                      refine v_heap rfl rfl rfl (ur_0 _ (ad 30) (12 * t + c') (fun q => ur I (ad 43) 0 n' (fun q => I (ad 30) (12 * s + a' + q)) (ad 43) q)).symm rfl ?_
                      refine lp_X11_copy2 hM ht4 (by omega) ?_ n' 0 (by omega)
                      refine v_iload_5 dX11_copy_200 rfl ?_
                      exact v_ireturn rfl (mQ_go hM eo rfl rfl er ((Mfr.rf.u (by decide) rfl _ _ _).u (by decide) rfl _ _ _)) (zle rfl) (zle rfl) dX11_copy_202
                    · have c115 := l_nle.mp c115
                      refine v_aload_0 dX11_copy_118 rfl ?_
                      refine v_ldc dX11_copy_119 kc_11_131 rfl ?_
                      refine v_callV (ci := 11) (F := TX11) (c_X11_finding _ _ (MOK.t hM)) yy_X11_finding im_X11_finding se_X11_finding lk_11_132 (MOK.t hM) (zle rfl) rfl (zle rfl) (zle rfl) (zle rfl) (zle rfl) rfl rfl (zle rfl) dX11_copy_121 rfl (zp.use ?_)
                      exact v_ireturn rfl (mQ_fd hM ((((zi_t ⟨c4, c11⟩).trans (zi_f (fun h => h.elim c27 c36))).trans (zi_t c59)).trans (zi_f (fun h => c115 h.2.2)))) (zle rfl) (zle rfl) dX11_copy_124
          · refine v_aload_0 dX11_copy_62 rfl ?_
            refine v_ldc dX11_copy_63 kc_11_198 rfl ?_
            refine v_callV (ci := 11) (F := TX11) (c_X11_finding _ _ (MOK.t hM)) yy_X11_finding im_X11_finding se_X11_finding lk_11_132 (MOK.t hM) (zle rfl) rfl (zle rfl) (zle rfl) (zle rfl) (zle rfl) rfl rfl (zle rfl) dX11_copy_65 rfl (zp.use ?_)
            exact v_ireturn rfl (mQ_fd hM (((zi_t ⟨c4, c11⟩).trans (zi_f (fun h => h.elim c27 c36))).trans (zi_f c59))) (zle rfl) (zle rfl) dX11_copy_68
        · refine v_aload_0 dX11_copy_39 rfl ?_
          refine v_ldcw dX11_copy_40 kc_11_283 rfl ?_
          refine v_callV (ci := 11) (F := TX11) (c_X11_finding _ _ (MOK.t hM)) yy_X11_finding im_X11_finding se_X11_finding lk_11_132 (MOK.t hM) (zle rfl) rfl (zle rfl) (zle rfl) (zle rfl) (zle rfl) rfl rfl (zle rfl) dX11_copy_43 rfl (zp.use ?_)
          exact v_ireturn rfl (mQ_fd hM ((zi_t ⟨c4, c11⟩).trans (zi_t (Or.inr c36)))) (zle rfl) (zle rfl) dX11_copy_46
    · refine v_aload_0 dX11_copy_14 rfl ?_
      refine v_ldc dX11_copy_15 kc_11_131 rfl ?_
      refine v_callV (ci := 11) (F := TX11) (c_X11_finding _ _ (MOK.t hM)) yy_X11_finding im_X11_finding se_X11_finding lk_11_132 (MOK.t hM) (zle rfl) rfl (zle rfl) (zle rfl) (zle rfl) (zle rfl) rfl rfl (zle rfl) dX11_copy_17 rfl (zp.use ?_)
      exact v_ireturn rfl (mQ_fd hM (zi_f (fun h => c11 h.2))) (zle rfl) (zle rfl) dX11_copy_20
