/-- a stretch of a row is written anew -/
def ur (I : zI) (a lo k : Nat) (g : Nat → Int32) : zI := fun b j => if b = a ∧ lo ≤ j ∧ j < lo + k then g (j - lo) else I b j
theorem ur_0 (I : zI) (a lo : Nat) (g : Nat → Int32) : ur I a lo 0 g = I := by
  funext b j
  unfold ur
  rw [if_neg (by omega)]
theorem ur_s (I : zI) (a lo k : Nat) (g : Nat → Int32) : u2 (ur I a lo k g) a (lo + k) (g k) = ur I a lo (k + 1) g := by
  funext b j
  unfold u2 ur
  by_cases hb : b = a
  · by_cases hj : j = lo + k
    · rw [if_pos ⟨hb, hj⟩, if_pos ⟨hb, by omega, by omega⟩, show j - lo = k by omega]
    · rw [if_neg (by omega)]
      by_cases hl : lo ≤ j ∧ j < lo + k
      · rw [if_pos ⟨hb, hl⟩, if_pos ⟨hb, hl.1, by omega⟩]
      · rw [if_neg (by omega), if_neg (by omega)]
  · rw [if_neg (by omega), if_neg (by omega), if_neg (by omega)]
theorem ur_in {I : zI} {a lo k j : Nat} {g : Nat → Int32} (h1 : lo ≤ j) (h2 : j < lo + k) : ur I a lo k g a j = g (j - lo) := if_pos ⟨rfl, h1, h2⟩
theorem ur_out {I : zI} {a lo k b j : Nat} {g : Nat → Int32} (h : j < lo ∨ lo + k ≤ j) : ur I a lo k g b j = I b j := if_neg (by omega)
theorem ur_off {I : zI} {a lo k b : Nat} {g : Nat → Int32} (h : b ≠ a) : ur I a lo k g b = I b := funext fun j => if_neg (by omega)
theorem mr_ur {T : zT} {P : zP} {I : zI} {m : Nat} {ad : Nat → Nat} (h : MOK T P m ad) {k lo c : Nat} {g : Nat → Int32} (hk : k < 32) (hz : zr 11 k = true) : mr (ur I (ad k) lo c g) ad = ur (mr I ad) k lo c g := by
  funext a b
  unfold mr ur
  by_cases ha : a < 32 ∧ zr 11 a = true
  · by_cases hak : a = k
    · subst hak; simp [ha]
    · have := h.ne (by omega) (by omega) ha.2 hz hak
      simp [ha, this, hak]
  · have : a ≠ k := fun e => ha (e ▸ ⟨hk, hz⟩)
    simp [ha, this]
theorem mr_urs {T : zT} {P : zP} {I : zI} {m : Nat} {ad : Nat → Nat} (h : MOK T P m ad) {k lo c : Nat} {g : Nat → Int32} (hk : 32 ≤ k) (hk2 : k < 44) (hz : zr 11 k = true) : mr (ur I (ad k) lo c g) ad = mr I ad := by
  funext a b
  unfold mr ur
  by_cases ha : a < 32 ∧ zr 11 a = true
  · have := h.ne (j := a) (by omega) hk2 ha.2 hz (by omega)
    simp [ha, this]
  · simp [ha]
theorem Mfr.u {ad : Nat → Nat} {T : zT} {N : zN} {P : zP} {I : zI} {R : zR} {T1 : zT} {N1 : zN} {P1 : zP} {I1 : zI} {R1 : zR} (h : Mfr ad T N P I R T1 N1 P1 I1 R1) {k : Nat} (hk : k < 44) (hz : zr 11 k = true) (lo c : Nat) (g : Nat → Int32) : Mfr ad T N P I R T1 N1 P1 (ur I1 (ad k) lo c g) R1 :=
  ⟨h.1, h.2.1, h.2.2.1, h.2.2.2.1, fun a ha hne => by rw [← h.2.2.2.2 a ha hne, ur_off (hne k hk hz)]⟩
theorem u3_u3 {α : Type} (f : Nat → Nat → Nat → α) (c k a : Nat) (v w : α) : u3 (u3 f c k a v) c k a w = u3 f c k a w := by
  funext p q s
  unfold u3
  split <;> rfl
theorem u3_id {α : Type} (f : Nat → Nat → Nat → α) (c k a : Nat) : u3 f c k a (f c k a) = f := by
  funext p q s
  unfold u3
  split
  next h => rw [h.1, h.2.1, h.2.2]
  next => rfl
theorem i12 (a b : Nat) : (12 : Int32) * nI a + nI b = nI (12 * a + b) := by rw [show (12 : Int32) = nI 12 from rfl, pk_mul, nI_add]
theorem zl_sum {a b : Int32} : (a.toInt64 + b.toInt64).toInt = a.toInt + b.toInt := by
  have ha := fb_rng9 a
  have hb := fb_rng9 b
  rw [Int64.toInt_add, Int32.toInt_toInt64, Int32.toInt_toInt64]
  exact fb9L (by omega) (by omega)
theorem l_gt {a b c : Int32} : 0 < lg_cmp (a.toInt64 + b.toInt64) c.toInt64 ↔ c.toInt < a.toInt + b.toInt := by
  rw [lg_cmp_gt, Int64.lt_iff_toInt_lt, zl_sum, Int32.toInt_toInt64]
theorem l_le {a b c : Int32} : lg_cmp (a.toInt64 + b.toInt64) c.toInt64 ≤ 0 ↔ a.toInt + b.toInt ≤ c.toInt := by
  have h := l_gt (a := a) (b := b) (c := c)
  constructor
  · intro g
    rcases Int.lt_or_le c.toInt (a.toInt + b.toInt) with q | q
    · have := h.mpr q
      simp only [Int32.lt_iff_toInt_lt, Int32.le_iff_toInt_le] at *; omega
    · exact q
  · intro g
    by_cases q : 0 < lg_cmp (a.toInt64 + b.toInt64) c.toInt64
    · have := h.mp q; omega
    · simp only [Int32.lt_iff_toInt_lt, Int32.le_iff_toInt_le] at *; omega
/-- byte number i of a word -/
def wby (w : Int64) (i : Nat) : Int32 := (w >>> ((8 * nI i : Int32).toInt64 &&& 63) &&& 255).toInt32
noncomputable def ac_as (f : zf) (r : zg) (e p k : Int32) : zO := zi (((0 ≤ e ∧ e ≤ f 9 - 1) ∧ (0 ≤ p ∧ p ≤ r 10 (tn e) - 1)) ∧ (0 ≤ k ∧ k ≤ 3)) (zi (k = 0 ∨ r 11 (12 * tn e + tn p) = k ∨ (k = 2 ∧ r 11 (12 * tn e + tn p) = 3)) (p, f, r) (fdg (-1000003) f r)) (fdg (-1000001) f r)
noncomputable def ac_of (f : zf) (r : zg) (e p k : Int32) : zO := zi ((0 ≤ e ∧ e ≤ f 9 - 1) ∧ (0 ≤ p ∧ p ≤ r 10 (tn e) - 1)) (zi (k = 0) (r 11 (12 * tn e + tn p), f, r) (zi (k = 1) (r 12 (12 * tn e + tn p), f, r) (zi (k = 2) (r 13 (12 * tn e + tn p), f, r) (zi (k = 3) (r 14 (12 * tn e + tn p), f, r) (zi (k = 4) (r 15 (12 * tn e + tn p), f, r) (fdg (-1000001) f r)))))) (fdg (-1000001) f r)
noncomputable def ac_feed (f : zf) (r : zg) (w : Int64) (n : Int32) : zO := zi (1 ≤ n ∧ n ≤ 8) (zi (f 17 + n ≤ 200) (f 17 + n, u1 f 17 (f 17 + n), ur r 16 (tn (f 17)) (tn n) (wby w)) (fdg (-1000002) f r)) (fdg (-1000001) f r)
noncomputable def ac_sheet (f : zf) (r : zg) (s w n : Int32) : zO := zi ((0 ≤ s ∧ s ≤ 3) ∧ (w = 0 ∨ w = 8 ∨ w = 16 ∨ w = 32)) (zi (0 ≤ n) (zi (n ≤ 12) (zi (w = 0) 0 n, f, ur (u2 (u2 r 28 (tn s) w) 29 (tn s) (zi (w = 0) 0 n)) 30 (12 * tn s) 12 (fun _ => 0)) (fdg (-1000001) f r)) (fdg (-1000007) f r)) (fdg (-1000001) f r)
noncomputable def ac_copy (f : zf) (r : zg) (s a t c n : Int32) : zO := zi ((0 ≤ s ∧ s ≤ 3) ∧ (0 ≤ t ∧ t ≤ 3)) (zi (r 28 (tn s) = 0 ∨ r 28 (tn t) = 0) (fdg (-1000006) f r) (zi (r 28 (tn s) = r 28 (tn t)) (zi ((0 ≤ a ∧ 0 ≤ c ∧ 0 ≤ n) ∧ a.toInt + n.toInt ≤ (r 29 (tn s)).toInt ∧ c.toInt + n.toInt ≤ (r 29 (tn t)).toInt) (n, f, ur r 30 (12 * tn t + tn c) (tn n) (fun q => r 30 (12 * tn s + tn a + q))) (fdg (-1000001) f r)) (fdg (-1000003) f r))) (fdg (-1000001) f r)
theorem c_X11_isPiece {E : zE} {T : zT} {N : zN} {P : zP} {I : zI} {R : zR} (m : Nat) (ad : Nat → Nat) (e p : Int32) (hM : MOK T P m ad) (he : 0 ≤ e ∧ e ≤ N 11 9 m - 1 → e = nI (tn e) ∧ tn e < 4) : zC E yX11_isPiece cX11_isPiece 3 (some .boolean) (zr0 2 43) [.ref m, .int e, .int p] T N P I R (zp (zb ((0 ≤ e ∧ e ≤ N 11 9 m - 1) ∧ (0 ≤ p ∧ p ≤ I (ad 10) (tn e) - 1))) T N P I R) := by
  refine zC.intro (ls := [some (.ref m), some (.int e), some (.int p)]) pl_RX11 (zle rfl) 0 rfl (fun K => ?_)
  refine v_aload_0 dX11_isPiece_0 rfl ?_
  refine v_iload_1 dX11_isPiece_1 rfl ?_
  refine v_callV (ci := 11) (F := TX11) (c_X11_isEdition _ _ (MOK.t hM)) yy_X11_isEdition im_X11_isEdition se_X11_isEdition lk_11_191 (MOK.t hM) (zle rfl) rfl (zle rfl) (zle rfl) (zle rfl) (zle rfl) rfl rfl (zle rfl) dX11_isPiece_2 rfl (zp.use ?_)
  refine v_ifz_eq (tgt := 28) dX11_isPiece_5 (by decide) rfl (fun c5 => ?_) (fun c5 => ?_)
  · refine v_iconst (v := 0) dX11_isPiece_28 rfl rfl ?_
    exact v_zreturn rfl rfl (zp_f (fun h => c5 h.1)) (zle rfl) (zle rfl) dX11_isPiece_29
  · refine v_iload_2 dX11_isPiece_8 rfl ?_
    refine v_iconst (v := 0) dX11_isPiece_9 rfl rfl ?_
    refine v_aload_0 dX11_isPiece_10 rfl ?_
    refine v_getP fl_11_32 (mp_10 hM) (MOK.t hM) rfl (zle rfl) rfl dX11_isPiece_11 rfl ?_
    refine v_iload_1 dX11_isPiece_14 rfl ?_
    refine v_iald (j := tn e) (ma_10 hM) (he c5).1 (he c5).2 (zle rfl) dX11_isPiece_15 rfl ?_
    refine v_iconst (v := 1) dX11_isPiece_16 rfl rfl ?_
    refine v_isub dX11_isPiece_17 rfl ?_
    refine v_callS (c_X11_within _ _ _) yy_X11_within st_X11_within lk_11_121 (zle rfl) (zle rfl) (zle rfl) (zle rfl) rfl rfl (zle rfl) dX11_isPiece_18 rfl (zp.use ?_)
    refine v_ifz_eq (tgt := 28) dX11_isPiece_21 (by decide) rfl (fun c21 => ?_) (fun c21 => ?_)
    · refine v_iconst (v := 0) dX11_isPiece_28 rfl rfl ?_
      exact v_zreturn rfl rfl (zp_f (fun h => c21 h.2)) (zle rfl) (zle rfl) dX11_isPiece_29
    · refine v_iconst (v := 1) dX11_isPiece_24 rfl rfl ?_
      refine v_goto (n := 29) dX11_isPiece_25 (by decide) ?_
      exact v_zreturn rfl rfl (zp_t ⟨c5, c21⟩) (zle rfl) (zle rfl) dX11_isPiece_29
theorem c_X11_as {E : zE} {T : zT} {N : zN} {P : zP} {I : zI} {R : zR} (m : Nat) (ad : Nat → Nat) (e p k : Int32) (hM : MOK T P m ad) (he : 0 ≤ e ∧ e ≤ N 11 9 m - 1 → e = nI (tn e) ∧ tn e < 4) (hi : (0 ≤ e ∧ e ≤ N 11 9 m - 1) ∧ (0 ≤ p ∧ p ≤ I (ad 10) (tn e) - 1) → 12 * e + p = nI (12 * tn e + tn p) ∧ 12 * tn e + tn p < 48) : zC E yX11_as cX11_as 5 (some .int) (zr0 3 65) [.ref m, .int e, .int p, .int k] T N P I R (mQ m ad T N P I R (ac_as (mf N m) (mr I ad) e p k)) := by
  refine zC.intro (ls := [some (.ref m), some (.int e), some (.int p), some (.int k), none]) pl_RX11 (zle rfl) 1 rfl (fun K => ?_)
  refine v_aload_0 dX11_as_0 rfl ?_
  refine v_iload_1 dX11_as_1 rfl ?_
  refine v_iload_2 dX11_as_2 rfl ?_
  refine v_callV (ci := 11) (F := TX11) (c_X11_isPiece m ad _ _ hM he) yy_X11_isPiece im_X11_isPiece se_X11_isPiece lk_11_194 (MOK.t hM) (zle rfl) rfl (zle rfl) (zle rfl) (zle rfl) (zle rfl) rfl rfl (zle rfl) dX11_as_3 rfl (zp.use ?_)
  refine v_ifz_eq (tgt := 18) dX11_as_6 (by decide) rfl (fun c6 => ?_) (fun c6 => ?_)
  · refine v_aload_0 dX11_as_18 rfl ?_
    refine v_ldc dX11_as_19 kc_11_131 rfl ?_
    refine v_callV (ci := 11) (F := TX11) (c_X11_finding _ _ (MOK.t hM)) yy_X11_finding im_X11_finding se_X11_finding lk_11_132 (MOK.t hM) (zle rfl) rfl (zle rfl) (zle rfl) (zle rfl) (zle rfl) rfl rfl (zle rfl) dX11_as_21 rfl (zp.use ?_)
    exact v_ireturn rfl (mQ_fd hM (zi_f (fun h => c6 h.1))) (zle rfl) (zle rfl) dX11_as_24
  · refine v_iload_3 dX11_as_9 rfl ?_
    refine v_iconst (v := 0) dX11_as_10 rfl rfl ?_
    refine v_iconst (v := 3) dX11_as_11 rfl rfl ?_
    refine v_callS (c_X11_within _ _ _) yy_X11_within st_X11_within lk_11_121 (zle rfl) (zle rfl) (zle rfl) (zle rfl) rfl rfl (zle rfl) dX11_as_12 rfl (zp.use ?_)
    refine v_ifz_ne (tgt := 25) dX11_as_15 (by decide) rfl (fun c15 => ?_) (fun c15 => ?_)
    · refine v_aload_0 dX11_as_25 rfl ?_
      refine v_getP fl_11_35 (mp_11 hM) (MOK.t hM) rfl (zle rfl) rfl dX11_as_26 rfl ?_
      refine v_bipush (v := 12) dX11_as_29 rfl rfl ?_
      refine v_iload_1 dX11_as_31 rfl ?_
      refine v_imul dX11_as_32 rfl ?_
      refine v_iload_2 dX11_as_33 rfl ?_
      refine v_iadd dX11_as_34 rfl ?_
      refine v_iald (j := 12 * tn e + tn p) (ma_11 hM) (hi c6).1 (hi c6).2 (zle rfl) dX11_as_35 rfl ?_
      refine v_istore_4 dX11_as_36 rfl (zle rfl) rfl ?_
      refine v_iload_3 dX11_as_38 rfl ?_
      refine v_if_eq (tgt := 59) dX11_as_39 (by decide) rfl (fun c39 => ?_) (fun c39 => ?_)
      · refine v_iload_2 dX11_as_59 rfl ?_
        refine v_goto (n := 69) dX11_as_60 (by decide) ?_
        exact v_ireturn rfl (mQ_rd hM ((zi_t ⟨c6, c15⟩).trans (zi_t (Or.inl c39)))) (zle rfl) (zle rfl) dX11_as_69
      · refine v_iload_4 dX11_as_42 rfl ?_
        refine v_iload_3 dX11_as_44 rfl ?_
        refine v_icmp_eq (tgt := 59) dX11_as_45 (by decide) rfl (fun c45 => ?_) (fun c45 => ?_)
        · refine v_iload_2 dX11_as_59 rfl ?_
          refine v_goto (n := 69) dX11_as_60 (by decide) ?_
          exact v_ireturn rfl (mQ_rd hM ((zi_t ⟨c6, c15⟩).trans (zi_t (Or.inr (Or.inl c45))))) (zle rfl) (zle rfl) dX11_as_69
        · refine v_iload_3 dX11_as_48 rfl ?_
          refine v_iconst (v := 2) dX11_as_49 rfl rfl ?_
          refine v_icmp_ne (tgt := 63) dX11_as_50 (by decide) rfl (fun c50 => ?_) (fun c50 => ?_)
          · refine v_aload_0 dX11_as_63 rfl ?_
            refine v_ldc dX11_as_64 kc_11_198 rfl ?_
            refine v_callV (ci := 11) (F := TX11) (c_X11_finding _ _ (MOK.t hM)) yy_X11_finding im_X11_finding se_X11_finding lk_11_132 (MOK.t hM) (zle rfl) rfl (zle rfl) (zle rfl) (zle rfl) (zle rfl) rfl rfl (zle rfl) dX11_as_66 rfl (zp.use ?_)
            exact v_ireturn rfl (mQ_fd hM ((zi_t ⟨c6, c15⟩).trans (zi_f (fun h => h.elim c39 (fun h => h.elim c45 (fun h => c50 h.1)))))) (zle rfl) (zle rfl) dX11_as_69
          · refine v_iload_4 dX11_as_53 rfl ?_
            refine v_iconst (v := 3) dX11_as_55 rfl rfl ?_
            refine v_icmp_ne (tgt := 63) dX11_as_56 (by decide) rfl (fun c56 => ?_) (fun c56 => ?_)
            · refine v_aload_0 dX11_as_63 rfl ?_
              refine v_ldc dX11_as_64 kc_11_198 rfl ?_
              refine v_callV (ci := 11) (F := TX11) (c_X11_finding _ _ (MOK.t hM)) yy_X11_finding im_X11_finding se_X11_finding lk_11_132 (MOK.t hM) (zle rfl) rfl (zle rfl) (zle rfl) (zle rfl) (zle rfl) rfl rfl (zle rfl) dX11_as_66 rfl (zp.use ?_)
              exact v_ireturn rfl (mQ_fd hM ((zi_t ⟨c6, c15⟩).trans (zi_f (fun h => h.elim c39 (fun h => h.elim c45 (fun h => c56 h.2)))))) (zle rfl) (zle rfl) dX11_as_69
            · refine v_iload_2 dX11_as_59 rfl ?_
              refine v_goto (n := 69) dX11_as_60 (by decide) ?_
              exact v_ireturn rfl (mQ_rd hM ((zi_t ⟨c6, c15⟩).trans (zi_t (Or.inr (Or.inr ⟨c50, c56⟩))))) (zle rfl) (zle rfl) dX11_as_69
    · refine v_aload_0 dX11_as_18 rfl ?_
      refine v_ldc dX11_as_19 kc_11_131 rfl ?_
      refine v_callV (ci := 11) (F := TX11) (c_X11_finding _ _ (MOK.t hM)) yy_X11_finding im_X11_finding se_X11_finding lk_11_132 (MOK.t hM) (zle rfl) rfl (zle rfl) (zle rfl) (zle rfl) (zle rfl) rfl rfl (zle rfl) dX11_as_21 rfl (zp.use ?_)
      exact v_ireturn rfl (mQ_fd hM (zi_f (fun h => c15 h.2))) (zle rfl) (zle rfl) dX11_as_24
theorem c_X11_of {E : zE} {T : zT} {N : zN} {P : zP} {I : zI} {R : zR} (m : Nat) (ad : Nat → Nat) (e p k : Int32) (hM : MOK T P m ad) (he : 0 ≤ e ∧ e ≤ N 11 9 m - 1 → e = nI (tn e) ∧ tn e < 4) (hi : (0 ≤ e ∧ e ≤ N 11 9 m - 1) ∧ (0 ≤ p ∧ p ≤ I (ad 10) (tn e) - 1) → 12 * e + p = nI (12 * tn e + tn p) ∧ 12 * tn e + tn p < 48) : zC E yX11_of cX11_of 5 (some .int) (zr0 3 65) [.ref m, .int e, .int p, .int k] T N P I R (mQ m ad T N P I R (ac_of (mf N m) (mr I ad) e p k)) := by
  refine zC.intro (ls := [some (.ref m), some (.int e), some (.int p), some (.int k), none]) pl_RX11 (zle rfl) 1 rfl (fun K => ?_)
  refine v_aload_0 dX11_of_0 rfl ?_
  refine v_iload_1 dX11_of_1 rfl ?_
  refine v_iload_2 dX11_of_2 rfl ?_
  refine v_callV (ci := 11) (F := TX11) (c_X11_isPiece m ad _ _ hM he) yy_X11_isPiece im_X11_isPiece se_X11_isPiece lk_11_194 (MOK.t hM) (zle rfl) rfl (zle rfl) (zle rfl) (zle rfl) (zle rfl) rfl rfl (zle rfl) dX11_of_3 rfl (zp.use ?_)
  refine v_ifz_ne (tgt := 16) dX11_of_6 (by decide) rfl (fun c6 => ?_) (fun c6 => ?_)
  · refine v_bipush (v := 12) dX11_of_16 rfl rfl ?_
    refine v_iload_1 dX11_of_18 rfl ?_
    refine v_imul dX11_of_19 rfl ?_
    refine v_iload_2 dX11_of_20 rfl ?_
    refine v_iadd dX11_of_21 rfl ?_
    refine v_istore_4 dX11_of_22 rfl (zle rfl) rfl ?_
    refine v_iload_3 dX11_of_24 rfl ?_
    by_cases s25_0 : k = 0
    · refine v_tableIn (off := 35) (n := 60) dX11_of_25 (by rw [s25_0]; decide) (by rw [s25_0]; decide) (by rw [s25_0]; rfl) (by decide) ?_
      refine v_aload_0 dX11_of_60 rfl ?_
      refine v_getP fl_11_35 (mp_11 hM) (MOK.t hM) rfl (zle rfl) rfl dX11_of_61 rfl ?_
      refine v_iload_4 dX11_of_64 rfl ?_
      refine v_iald (j := 12 * tn e + tn p) (ma_11 hM) (hi c6).1 (hi c6).2 (zle rfl) dX11_of_66 rfl ?_
      exact v_ireturn rfl (mQ_rd hM ((zi_t c6).trans (zi_t s25_0))) (zle rfl) (zle rfl) dX11_of_67
    by_cases s25_1 : k = 1
    · refine v_tableIn (off := 43) (n := 68) dX11_of_25 (by rw [s25_1]; decide) (by rw [s25_1]; decide) (by rw [s25_1]; rfl) (by decide) ?_
      refine v_aload_0 dX11_of_68 rfl ?_
      refine v_getP fl_11_38 (mp_12 hM) (MOK.t hM) rfl (zle rfl) rfl dX11_of_69 rfl ?_
      refine v_iload_4 dX11_of_72 rfl ?_
      refine v_iald (j := 12 * tn e + tn p) (ma_12 hM) (hi c6).1 (hi c6).2 (zle rfl) dX11_of_74 rfl ?_
      exact v_ireturn rfl (mQ_rd hM (((zi_t c6).trans (zi_f s25_0)).trans (zi_t s25_1))) (zle rfl) (zle rfl) dX11_of_75
    by_cases s25_2 : k = 2
    · refine v_tableIn (off := 51) (n := 76) dX11_of_25 (by rw [s25_2]; decide) (by rw [s25_2]; decide) (by rw [s25_2]; rfl) (by decide) ?_
      refine v_aload_0 dX11_of_76 rfl ?_
      refine v_getP fl_11_41 (mp_13 hM) (MOK.t hM) rfl (zle rfl) rfl dX11_of_77 rfl ?_
      refine v_iload_4 dX11_of_80 rfl ?_
      refine v_iald (j := 12 * tn e + tn p) (ma_13 hM) (hi c6).1 (hi c6).2 (zle rfl) dX11_of_82 rfl ?_
      exact v_ireturn rfl (mQ_rd hM ((((zi_t c6).trans (zi_f s25_0)).trans (zi_f s25_1)).trans (zi_t s25_2))) (zle rfl) (zle rfl) dX11_of_83
    by_cases s25_3 : k = 3
    · refine v_tableIn (off := 59) (n := 84) dX11_of_25 (by rw [s25_3]; decide) (by rw [s25_3]; decide) (by rw [s25_3]; rfl) (by decide) ?_
      refine v_aload_0 dX11_of_84 rfl ?_
      refine v_getP fl_11_44 (mp_14 hM) (MOK.t hM) rfl (zle rfl) rfl dX11_of_85 rfl ?_
      refine v_iload_4 dX11_of_88 rfl ?_
      refine v_iald (j := 12 * tn e + tn p) (ma_14 hM) (hi c6).1 (hi c6).2 (zle rfl) dX11_of_90 rfl ?_
      exact v_ireturn rfl (mQ_rd hM (((((zi_t c6).trans (zi_f s25_0)).trans (zi_f s25_1)).trans (zi_f s25_2)).trans (zi_t s25_3))) (zle rfl) (zle rfl) dX11_of_91
    by_cases s25_4 : k = 4
    · refine v_tableIn (off := 67) (n := 92) dX11_of_25 (by rw [s25_4]; decide) (by rw [s25_4]; decide) (by rw [s25_4]; rfl) (by decide) ?_
      refine v_aload_0 dX11_of_92 rfl ?_
      refine v_getP fl_11_47 (mp_15 hM) (MOK.t hM) rfl (zle rfl) rfl dX11_of_93 rfl ?_
      refine v_iload_4 dX11_of_96 rfl ?_
      refine v_iald (j := 12 * tn e + tn p) (ma_15 hM) (hi c6).1 (hi c6).2 (zle rfl) dX11_of_98 rfl ?_
      exact v_ireturn rfl (mQ_rd hM ((((((zi_t c6).trans (zi_f s25_0)).trans (zi_f s25_1)).trans (zi_f s25_2)).trans (zi_f s25_3)).trans (zi_t s25_4))) (zle rfl) (zle rfl) dX11_of_99
    refine v_tableOut (n := 100) dX11_of_25 (tb_out (k := 4) (fun j hj => by rcases (show j = 0 ∨ j = 1 ∨ j = 2 ∨ j = 3 ∨ j = 4 by omega) with rfl | rfl | rfl | rfl | rfl <;> first | exact s25_0 | exact s25_1 | exact s25_2 | exact s25_3 | exact s25_4)) (by decide) ?_
    refine v_aload_0 dX11_of_100 rfl ?_
    refine v_ldc dX11_of_101 kc_11_131 rfl ?_
    refine v_callV (ci := 11) (F := TX11) (c_X11_finding _ _ (MOK.t hM)) yy_X11_finding im_X11_finding se_X11_finding lk_11_132 (MOK.t hM) (zle rfl) rfl (zle rfl) (zle rfl) (zle rfl) (zle rfl) rfl rfl (zle rfl) dX11_of_103 rfl (zp.use ?_)
    exact v_ireturn rfl (mQ_fd hM ((((((zi_t c6).trans (zi_f s25_0)).trans (zi_f s25_1)).trans (zi_f s25_2)).trans (zi_f s25_3)).trans (zi_f s25_4))) (zle rfl) (zle rfl) dX11_of_106
  · refine v_aload_0 dX11_of_9 rfl ?_
    refine v_ldc dX11_of_10 kc_11_131 rfl ?_
    refine v_callV (ci := 11) (F := TX11) (c_X11_finding _ _ (MOK.t hM)) yy_X11_finding im_X11_finding se_X11_finding lk_11_132 (MOK.t hM) (zle rfl) rfl (zle rfl) (zle rfl) (zle rfl) (zle rfl) rfl rfl (zle rfl) dX11_of_12 rfl (zp.use ?_)
    exact v_ireturn rfl (mQ_fd hM (zi_f c6)) (zle rfl) (zle rfl) dX11_of_15
theorem lp_X11_sheet {E : zE} {T : zT} {N : zN} {P : zP} {I : zI} {R : zR} {m : Nat} {ad : Nat → Nat} {K : zK E yX11_sheet cX11_sheet 5 (some .int) (zr0 2 42)} {Qf : State → Prop} (hM : MOK T P m ad) {s : Nat} (hs : s < 4) {w n : Int32}
    (hk : V K Qf T N P (ur I (ad 30) (12 * s) 12 (fun _ => 0)) R 0 0 112 [some (.ref m), some (.int (nI s)), some (.int w), some (.int n), some (.int (nI 12))] []) :
    ∀ k i, i + k = 12 → V K Qf T N P (ur I (ad 30) (12 * s) i (fun _ => 0)) R 0 0 86 [some (.ref m), some (.int (nI s)), some (.int w), some (.int n), some (.int (nI i))] [] := by
  intro k
  induction k with
  | zero =>
    intro i hi
    obtain rfl : i = 12 := by omega
    refine v_iload_4 dX11_sheet_86 rfl ?_
    refine v_bipush (v := 12) dX11_sheet_88 rfl rfl ?_
    refine v_icmp_ge_t (n := 112) (by decide) dX11_sheet_90 (by decide) ?_
    exact hk
  | succ k ih =>
    intro i hi
    refine v_iload_4 dX11_sheet_86 rfl ?_
    refine v_bipush (v := 12) dX11_sheet_88 rfl rfl ?_
    refine v_icmp_ge_f (tgt := 112) (nI_ge (a := i) (b := 12) (by omega) (zle rfl)) dX11_sheet_90 (by decide) rfl ?_
    refine v_aload_0 dX11_sheet_93 rfl ?_
    refine v_getP fl_11_83 (mp_30 hM) (MOK.t hM) rfl (zle rfl) rfl dX11_sheet_94 rfl ?_
    refine v_bipush (v := 12) dX11_sheet_97 rfl rfl ?_
    refine v_iload_1 dX11_sheet_99 rfl ?_
    refine v_imul dX11_sheet_100 rfl ?_
    refine v_iload_4 dX11_sheet_101 rfl ?_
    refine v_iadd dX11_sheet_103 rfl ?_
    refine v_iconst (v := 0) dX11_sheet_104 rfl rfl ?_
    refine v_iast (j := 12 * s + i) (ma_30 hM) (i12 s i) (by omega) (zle rfl) dX11_sheet_105 rfl ?_
    rw [ur_s]
    refine v_iinc_4 dX11_sheet_106 (nI_1 i) rfl (zle rfl) rfl ?_
    refine v_goto (n := 86) dX11_sheet_109 (by decide) ?_
    exact ih (i + 1) (by omega)
theorem c_X11_sheet {E : zE} {T : zT} {N : zN} {P : zP} {I : zI} {R : zR} (m : Nat) (ad : Nat → Nat) (s w n : Int32) (hM : MOK T P m ad) (hs : 0 ≤ s ∧ s ≤ 3 → s = nI (tn s) ∧ tn s < 4) : zC E yX11_sheet cX11_sheet 5 (some .int) (zr0 2 42) [.ref m, .int s, .int w, .int n] T N P I R (mQ m ad T N P I R (ac_sheet (mf N m) (mr I ad) s w n)) := by
  refine zC.intro (ls := [some (.ref m), some (.int s), some (.int w), some (.int n), none]) pl_RX11 (zle rfl) 1 rfl (fun K => ?_)
  have key : (0 ≤ s ∧ s ≤ 3) → (w = 0 ∨ w = 8 ∨ w = 16 ∨ w = 32) → V K (zQf K (mQ m ad T N P I R (ac_sheet (mf N m) (mr I ad) s w n))) T N P I R 0 0 36 [some (.ref m), some (.int s), some (.int w), some (.int n), none] [] := by
    intro c4 CB
    have hs := hs c4
    refine v_iload_3 dX11_sheet_36 rfl ?_
    refine v_if_ge (tgt := 48) dX11_sheet_37 (by decide) rfl (fun c37 => ?_) (fun c37 => ?_)
    · refine v_iload_3 dX11_sheet_48 rfl ?_
      refine v_bipush (v := 12) dX11_sheet_49 rfl rfl ?_
      refine v_icmp_le (tgt := 61) dX11_sheet_51 (by decide) rfl (fun c51 => ?_) (fun c51 => ?_)
      · refine v_aload_0 dX11_sheet_61 rfl ?_
        refine v_getP fl_11_77 (mp_28 hM) (MOK.t hM) rfl (zle rfl) rfl dX11_sheet_62 rfl ?_
        refine v_iload_1 dX11_sheet_65 rfl ?_
        refine v_iload_2 dX11_sheet_66 rfl ?_
        refine v_iast (j := tn s) (ma_28 hM) hs.1 hs.2 (zle rfl) dX11_sheet_67 rfl ?_
        refine v_aload_0 dX11_sheet_68 rfl ?_
        refine v_getP fl_11_80 (mp_29 hM) (MOK.t hM) rfl (zle rfl) rfl dX11_sheet_69 rfl ?_
        refine v_iload_1 dX11_sheet_72 rfl ?_
        refine v_iload_2 dX11_sheet_73 rfl ?_
        refine v_if_ne (tgt := 81) dX11_sheet_74 (by decide) rfl (fun c74 => ?_) (fun c74 => ?_)
        · refine v_iload_3 dX11_sheet_81 rfl ?_
          refine v_iast (j := tn s) (ma_29 hM) hs.1 hs.2 (zle rfl) dX11_sheet_82 rfl ?_
          refine v_iconst (v := 0) dX11_sheet_83 rfl rfl ?_
          refine v_istore_4 dX11_sheet_84 rfl (zle rfl) rfl ?_
          have e0 : s = nI (tn s) := hs.1
          rw [show (some (Value.int s) : Option Value) = some (.int (nI (tn s))) by rw [← e0]]
          rw [← ur_0 (u2 (u2 I (ad 28) (tn s) w) (ad 29) (tn s) n) (ad 30) (12 * tn s) (fun _ => 0)]
          refine lp_X11_sheet hM hs.2 ?_ 12 0 rfl
          rw [← e0]
          refine v_aload_0 dX11_sheet_112 rfl ?_
          refine v_getP fl_11_80 (mp_29 hM) (MOK.t hM) rfl (zle rfl) rfl dX11_sheet_113 rfl ?_
          refine v_iload_1 dX11_sheet_116 rfl ?_
          refine v_iald (j := tn s) (ma_29 hM) hs.1 hs.2 (zle rfl) dX11_sheet_117 rfl ?_
          exact v_ireturn rfl (mQ_go hM (((zi_t ⟨c4, CB⟩).trans (zi_t c37)).trans (zi_t c51)) (by rw [ur_off (hM.ne (by decide) (by decide) rfl rfl (by decide)), u2_self, zi_f c74]) rfl (by rw [mr_ur hM (by decide) rfl, mr_set hM (by decide) rfl, mr_set hM (by decide) rfl, zi_f c74]) (((Mfr.rf.i (by decide) rfl _ _).i (by decide) rfl _ _).u (by decide) rfl _ _ _)) (zle rfl) (zle rfl) dX11_sheet_118
        · refine v_iconst (v := 0) dX11_sheet_77 rfl rfl ?_
          refine v_goto (n := 82) dX11_sheet_78 (by decide) ?_
          refine v_iast (j := tn s) (ma_29 hM) hs.1 hs.2 (zle rfl) dX11_sheet_82 rfl ?_
          refine v_iconst (v := 0) dX11_sheet_83 rfl rfl ?_
          refine v_istore_4 dX11_sheet_84 rfl (zle rfl) rfl ?_
          have e0 : s = nI (tn s) := hs.1
          rw [show (some (Value.int s) : Option Value) = some (.int (nI (tn s))) by rw [← e0]]
          rw [← ur_0 (u2 (u2 I (ad 28) (tn s) w) (ad 29) (tn s) 0) (ad 30) (12 * tn s) (fun _ => 0)]
          refine lp_X11_sheet hM hs.2 ?_ 12 0 rfl
          rw [← e0]
          refine v_aload_0 dX11_sheet_112 rfl ?_
          refine v_getP fl_11_80 (mp_29 hM) (MOK.t hM) rfl (zle rfl) rfl dX11_sheet_113 rfl ?_
          refine v_iload_1 dX11_sheet_116 rfl ?_
          refine v_iald (j := tn s) (ma_29 hM) hs.1 hs.2 (zle rfl) dX11_sheet_117 rfl ?_
          exact v_ireturn rfl (mQ_go hM (((zi_t ⟨c4, CB⟩).trans (zi_t c37)).trans (zi_t c51)) (by rw [ur_off (hM.ne (by decide) (by decide) rfl rfl (by decide)), u2_self, zi_t c74]) rfl (by rw [mr_ur hM (by decide) rfl, mr_set hM (by decide) rfl, mr_set hM (by decide) rfl, zi_t c74]) (((Mfr.rf.i (by decide) rfl _ _).i (by decide) rfl _ _).u (by decide) rfl _ _ _)) (zle rfl) (zle rfl) dX11_sheet_118
      · refine v_aload_0 dX11_sheet_54 rfl ?_
        refine v_ldc dX11_sheet_55 kc_11_131 rfl ?_
        refine v_callV (ci := 11) (F := TX11) (c_X11_finding _ _ (MOK.t hM)) yy_X11_finding im_X11_finding se_X11_finding lk_11_132 (MOK.t hM) (zle rfl) rfl (zle rfl) (zle rfl) (zle rfl) (zle rfl) rfl rfl (zle rfl) dX11_sheet_57 rfl (zp.use ?_)
        exact v_ireturn rfl (mQ_fd hM (((zi_t ⟨c4, CB⟩).trans (zi_t c37)).trans (zi_f c51))) (zle rfl) (zle rfl) dX11_sheet_60
    · refine v_aload_0 dX11_sheet_40 rfl ?_
      refine v_ldcw dX11_sheet_41 kc_11_282 rfl ?_
      refine v_callV (ci := 11) (F := TX11) (c_X11_finding _ _ (MOK.t hM)) yy_X11_finding im_X11_finding se_X11_finding lk_11_132 (MOK.t hM) (zle rfl) rfl (zle rfl) (zle rfl) (zle rfl) (zle rfl) rfl rfl (zle rfl) dX11_sheet_44 rfl (zp.use ?_)
      exact v_ireturn rfl (mQ_fd hM ((zi_t ⟨c4, CB⟩).trans (zi_f c37))) (zle rfl) (zle rfl) dX11_sheet_47
  refine v_iload_1 dX11_sheet_0 rfl ?_
  refine v_callS (c_X11_isSheet _) yy_X11_isSheet st_X11_isSheet lk_11_279 (zle rfl) (zle rfl) (zle rfl) (zle rfl) rfl rfl (zle rfl) dX11_sheet_1 rfl (zp.use ?_)
  refine v_ifz_eq (tgt := 29) dX11_sheet_4 (by decide) rfl (fun c4 => ?_) (fun c4 => ?_)
  · refine v_aload_0 dX11_sheet_29 rfl ?_
    refine v_ldc dX11_sheet_30 kc_11_131 rfl ?_
    refine v_callV (ci := 11) (F := TX11) (c_X11_finding _ _ (MOK.t hM)) yy_X11_finding im_X11_finding se_X11_finding lk_11_132 (MOK.t hM) (zle rfl) rfl (zle rfl) (zle rfl) (zle rfl) (zle rfl) rfl rfl (zle rfl) dX11_sheet_32 rfl (zp.use ?_)
    exact v_ireturn rfl (mQ_fd hM (zi_f (fun h => c4 h.1))) (zle rfl) (zle rfl) dX11_sheet_35
  · refine v_iload_2 dX11_sheet_7 rfl ?_
    refine v_if_eq (tgt := 36) dX11_sheet_8 (by decide) rfl (fun c8 => ?_) (fun c8 => ?_)
    · exact key c4 (Or.inl c8)
    · refine v_iload_2 dX11_sheet_11 rfl ?_
      refine v_bipush (v := 8) dX11_sheet_12 rfl rfl ?_
      refine v_icmp_eq (tgt := 36) dX11_sheet_14 (by decide) rfl (fun c14 => ?_) (fun c14 => ?_)
      · exact key c4 (Or.inr (Or.inl c14))
      · refine v_iload_2 dX11_sheet_17 rfl ?_
        refine v_bipush (v := 16) dX11_sheet_18 rfl rfl ?_
        refine v_icmp_eq (tgt := 36) dX11_sheet_20 (by decide) rfl (fun c20 => ?_) (fun c20 => ?_)
        · exact key c4 (Or.inr (Or.inr (Or.inl c20)))
        · refine v_iload_2 dX11_sheet_23 rfl ?_
          refine v_bipush (v := 32) dX11_sheet_24 rfl rfl ?_
          refine v_icmp_eq (tgt := 36) dX11_sheet_26 (by decide) rfl (fun c26 => ?_) (fun c26 => ?_)
          · exact key c4 (Or.inr (Or.inr (Or.inr c26)))
          · refine v_aload_0 dX11_sheet_29 rfl ?_
            refine v_ldc dX11_sheet_30 kc_11_131 rfl ?_
            refine v_callV (ci := 11) (F := TX11) (c_X11_finding _ _ (MOK.t hM)) yy_X11_finding im_X11_finding se_X11_finding lk_11_132 (MOK.t hM) (zle rfl) rfl (zle rfl) (zle rfl) (zle rfl) (zle rfl) rfl rfl (zle rfl) dX11_sheet_32 rfl (zp.use ?_)
            exact v_ireturn rfl (mQ_fd hM (zi_f (fun h => h.2.elim c8 (fun h => h.elim c14 (fun h => h.elim c20 c26))))) (zle rfl) (zle rfl) dX11_sheet_35
theorem lp_X11_feed {E : zE} {T : zT} {N : zN} {P : zP} {I : zI} {R : zR} {m : Nat} {ad : Nat → Nat} {K : zK E yX11_feed cX11_feed 5 (some .int) (zr0 1 22)} {Qf : State → Prop} (hM : MOK T P m ad) {w : Int64} {n t : Nat} (hn : n ≤ 8) (ht : t + n ≤ 200)
    (hk : V K Qf T (u3 N 11 17 m (nI (t + n))) P (ur I (ad 16) t n (wby w)) R 0 0 82 [some (.ref m), some (.long w), none, some (.int (nI n)), some (.int (nI n))] []) :
    ∀ k i, i + k = n → V K Qf T (u3 N 11 17 m (nI (t + i))) P (ur I (ad 16) t i (wby w)) R 0 0 39 [some (.ref m), some (.long w), none, some (.int (nI n)), some (.int (nI i))] [] := by
  intro k
  induction k with
  | zero =>
    intro i hi
    obtain rfl : i = n := by omega
    refine v_iload_4 dX11_feed_39 rfl ?_
    refine v_iload_3 dX11_feed_41 rfl ?_
    refine v_icmp_ge_t (n := 82) (nI_le (a := i) (b := i) (Nat.le_refl _) (by omega)) dX11_feed_42 (by decide) ?_
    exact hk
  | succ k ih =>
    intro i hi
    refine v_iload_4 dX11_feed_39 rfl ?_
    refine v_iload_3 dX11_feed_41 rfl ?_
    refine v_icmp_ge_f (tgt := 82) (nI_ge (a := i) (b := n) (by omega) (by omega)) dX11_feed_42 (by decide) rfl ?_
    refine v_aload_0 dX11_feed_45 rfl ?_
    refine v_getP fl_11_50 (mp_16 hM) (MOK.t hM) rfl (zle rfl) rfl dX11_feed_46 rfl ?_
    refine v_aload_0 dX11_feed_49 rfl ?_
    refine v_getN fl_11_159 (MOK.t hM) rfl (zle rfl) rfl dX11_feed_50 rfl ?_
    refine v_top u3_self ?_
    refine v_lload_1 dX11_feed_53 rfl ?_
    refine v_bipush (v := 8) dX11_feed_54 rfl rfl ?_
    refine v_iload_4 dX11_feed_56 rfl ?_
    refine v_imul dX11_feed_58 rfl ?_
    refine v_lshr dX11_feed_59 rfl ?_
    refine v_ldc2 dX11_feed_60 kc_11_162 rfl ?_
    refine v_land dX11_feed_63 rfl ?_
    refine v_l2i dX11_feed_64 rfl ?_
    refine v_iast (j := t + i) (ma_16 hM) rfl (by omega) (zle rfl) dX11_feed_65 rfl ?_
    rw [show (w >>> ((8 * nI i : Int32).toInt64 &&& 63) &&& 255).toInt32 = wby w i from rfl, ur_s]
    refine v_aload_0 dX11_feed_66 rfl ?_
    refine v_dup dX11_feed_67 rfl rfl ?_
    refine v_getN fl_11_159 (MOK.t hM) rfl (zle rfl) rfl dX11_feed_68 rfl ?_
    refine v_top u3_self ?_
    refine v_iconst (v := 1) dX11_feed_71 rfl rfl ?_
    refine v_iadd dX11_feed_72 rfl ?_
    refine v_putN fw_11_159 (MOK.t hM) rfl (zle rfl) rfl (fun h => by cases h) rfl rfl dX11_feed_73 rfl ?_
    rw [u3_u3, nI_1]
    refine v_iinc_4 dX11_feed_76 (nI_1 i) rfl (zle rfl) rfl ?_
    refine v_goto (n := 39) dX11_feed_79 (by decide) ?_
    exact ih (i + 1) (by omega)

