theorem bt_sh1 {x : Int32} {j : Nat} (hj : j < 32) : x >>> (nI j &&& 31) &&& 1 = 1 ↔ bt x j = true := by
  constructor
  · intro e
    by_cases h : bt x j = true
    · exact h
    · have := (bt_sh hj).mpr h
      rw [this] at e
      exact absurd e (by decide)
  · intro h
    apply b_ext
    intro i hi
    rw [b_and, b_sshr j hj x hi]
    have h2 : bt 1 i = decide (i = 0) := (by decide +kernel : ∀ i, i < 32 → bt 1 i = decide (i = 0)) i hi
    rw [h2]
    by_cases h0 : i = 0
    · subst h0
      simp [hj, h]
    · simp [h0]
/-- the least one from a on, below n -/
noncomputable def lsf (Q : Nat → Prop) (a n : Nat) : Nat := @dite _ (∃ p, a ≤ p ∧ p < n ∧ Q p) (Classical.propDecidable _) (fun h => Classical.choose (pk_least (fun p => a ≤ p ∧ p < n ∧ Q p) h)) (fun _ => n)
noncomputable def nxv (Q : Nat → Prop) (a n : Nat) : Int32 := zi (∃ p, a ≤ p ∧ p < n ∧ Q p) (nI (lsf Q a n)) (-1)
theorem lsf_some {Q : Nat → Prop} {a n p : Nat} (h1 : a ≤ p) (h2 : p < n) (h3 : Q p) (h4 : ∀ q, a ≤ q → q < p → ¬ Q q) : lsf Q a n = p := by
  have he : ∃ p, a ≤ p ∧ p < n ∧ Q p := ⟨p, h1, h2, h3⟩
  unfold lsf
  rw [dif_pos he]
  obtain ⟨g1, g2⟩ := Classical.choose_spec (pk_least (fun p => a ≤ p ∧ p < n ∧ Q p) he)
  generalize Classical.choose (pk_least (fun p => a ≤ p ∧ p < n ∧ Q p) he) = k at g1 g2
  rcases Nat.lt_trichotomy k p with h | h | h
  · exact absurd g1.2.2 (h4 k g1.1 h)
  · exact h
  · exact absurd ⟨h1, h2, h3⟩ (g2 p h)
theorem nxv_some {Q : Nat → Prop} {a n p : Nat} (h1 : a ≤ p) (h2 : p < n) (h3 : Q p) (h4 : ∀ q, a ≤ q → q < p → ¬ Q q) : nxv Q a n = nI p := by
  unfold nxv
  rw [zi_t ⟨p, h1, h2, h3⟩, lsf_some h1 h2 h3 h4]
theorem nxv_none {Q : Nat → Prop} {a n : Nat} (h : ∀ q, a ≤ q → q < n → ¬ Q q) : nxv Q a n = -1 := by
  unfold nxv
  exact zi_f (fun ⟨p, h1, h2, h3⟩ => h p h1 h2 h3)
/-- either none, or the least -/
theorem nxv_or (Q : Nat → Prop) (a n : Nat) : (nxv Q a n = -1 ∧ ∀ q, a ≤ q → q < n → ¬ Q q) ∨ ∃ p, a ≤ p ∧ p < n ∧ Q p ∧ (∀ q, a ≤ q → q < p → ¬ Q q) ∧ nxv Q a n = nI p := by
  by_cases h : ∃ p, a ≤ p ∧ p < n ∧ Q p
  · right
    obtain ⟨k, g1, g2⟩ := pk_least (fun p => a ≤ p ∧ p < n ∧ Q p) h
    refine ⟨k, g1.1, g1.2.1, g1.2.2, fun q h1 h2 h3 => g2 q h2 ⟨h1, by omega, h3⟩, nxv_some g1.1 g1.2.1 g1.2.2 (fun q h1 h2 h3 => g2 q h2 ⟨h1, by omega, h3⟩)⟩
  · left
    have h' : ∀ q, a ≤ q → q < n → ¬ Q q := fun q h1 h2 h3 => h ⟨q, h1, h2, h3⟩
    exact ⟨nxv_none h', h'⟩
/-- whether a piece can be told: kind, corner, needs, days; at corner c with the set s heard, its own place p, on day d -/
def canV (kd cr nd dy c s : Int32) (p d : Nat) : Prop := cr = c ∧ ¬ bt s p = true ∧ bt dy d = true ∧ ((kd < 2 ∧ nd &&& (s ^^^ (-1)) = 0) ∨ (¬ kd < 2 ∧ (nd = 0 ∨ ¬ nd &&& s = 0)))
def canP (r : zg) (e : Nat) (c s : Int32) (d p : Nat) : Prop := canV (r 11 (12 * e + p)) (r 12 (12 * e + p)) (r 14 (12 * e + p)) (r 15 (12 * e + p)) c s p d
def ovr (r : zg) (e : Nat) (s : Int32) (n : Nat) : Prop := ∃ p, p < n ∧ r 11 (12 * e + p) = 3 ∧ bt s p = true
section zloc
variable {E : zE} {y : MethodName} {cc : ByteArray} {nL : Nat} {ret : Option FieldType} {rm : Room} {K : zK E y cc nL ret rm} {Qf : State → Prop} {T : zT} {N : zN} {P : zP} {I : zI} {R : zR} {kc ks pc : Nat} {ls ls' : List (Option Value)} {st : List Value}
/-- the locals under other names -/
theorem v_loc (h : ls = ls') (k : V K Qf T N P I R kc ks pc ls st) : V K Qf T N P I R kc ks pc ls' st := h ▸ k
end zloc
theorem c_X11_canTell {E : zE} {T : zT} {N : zN} {P : zP} {I : zI} {R : zR} (m : Nat) (ad : Nat → Nat) (e p d : Nat) (c s : Int32) (hM : MOK T P m ad) (he : e < 4) (hp : p < 12) (hd : d < 7) : zC E yX11_canTell cX11_canTell 8 (some .boolean) (zr0 0 0) [.ref m, .int (nI e), .int (nI p), .int c, .int s, .int (nI d)] T N P I R (zp (zb (canP (mr I ad) e c s d p)) T N P I R) := by
  refine zC.intro (ls := [some (.ref m), some (.int (nI e)), some (.int (nI p)), some (.int c), some (.int s), some (.int (nI d)), none, none]) pl_RX11 (zle rfl) 2 rfl (fun K => ?_)
  refine v_bipush (v := 12) dX11_canTell_0 rfl rfl ?_
  refine v_iload_1 dX11_canTell_2 rfl ?_
  refine v_imul dX11_canTell_3 rfl ?_
  refine v_iload_2 dX11_canTell_4 rfl ?_
  refine v_iadd dX11_canTell_5 rfl ?_
  refine v_top (i12 e p) ?_
  refine v_istore_6 dX11_canTell_6 rfl (zle rfl) rfl ?_
  refine v_aload_0 dX11_canTell_8 rfl ?_
  refine v_getP fl_11_35 (mp_11 hM) (MOK.t hM) rfl (zle rfl) rfl dX11_canTell_9 rfl ?_
  refine v_iload_6 dX11_canTell_12 rfl ?_
  refine v_iald (j := 12 * e + p) (ma_11 hM) rfl (by omega) (zle rfl) dX11_canTell_14 rfl ?_
  refine v_iconst (v := 2) dX11_canTell_15 rfl rfl ?_
  refine v_icmp_ge (tgt := 42) dX11_canTell_16 (by decide) rfl (fun c16 => ?_) (fun c16 => ?_)
  · have n16 : ¬ I (ad 11) (12 * e + p) < 2 := fun h => absurd c16 (by simp only [Int32.lt_iff_toInt_lt, Int32.le_iff_toInt_le] at *; omega)
    refine v_aload_0 dX11_canTell_42 rfl ?_
    refine v_getP fl_11_44 (mp_14 hM) (MOK.t hM) rfl (zle rfl) rfl dX11_canTell_43 rfl ?_
    refine v_iload_6 dX11_canTell_46 rfl ?_
    refine v_iald (j := 12 * e + p) (ma_14 hM) rfl (by omega) (zle rfl) dX11_canTell_48 rfl ?_
    refine v_if_eq (tgt := 65) dX11_canTell_49 (by decide) rfl (fun c49 => ?_) (fun c49 => ?_)
    · refine v_iconst (v := 1) dX11_canTell_65 rfl rfl ?_
      refine v_goto (n := 70) dX11_canTell_66 (by decide) ?_
      refine v_istore_7 dX11_canTell_70 rfl (zle rfl) rfl ?_
      refine v_aload_0 dX11_canTell_72 rfl ?_
      refine v_getP fl_11_38 (mp_12 hM) (MOK.t hM) rfl (zle rfl) rfl dX11_canTell_73 rfl ?_
      refine v_iload_6 dX11_canTell_76 rfl ?_
      refine v_iald (j := 12 * e + p) (ma_12 hM) rfl (by omega) (zle rfl) dX11_canTell_78 rfl ?_
      refine v_iload_3 dX11_canTell_79 rfl ?_
      refine v_icmp_ne (tgt := 117) dX11_canTell_80 (by decide) rfl (fun c80 => ?_) (fun c80 => ?_)
      · refine v_iconst (v := 0) dX11_canTell_117 rfl rfl ?_
        exact v_zreturn rfl rfl (by
                    show zp (zb (canV (I (ad 11) (12 * e + p)) (I (ad 12) (12 * e + p)) (I (ad 14) (12 * e + p)) (I (ad 15) (12 * e + p)) c s p d)) T N P I R _ T N P I R
                    first
                      | (refine zp_t ?_; unfold canV; simp_all [bt_sh (show p < 32 by omega), bt_sh1 (show d < 32 by omega)]; done)
                      | (refine zp_f ?_; unfold canV; simp_all [bt_sh (show p < 32 by omega), bt_sh1 (show d < 32 by omega)]; done)
                      | (refine zp_f ?_; unfold canV; simp_all [bt_sh (show p < 32 by omega), bt_sh1 (show d < 32 by omega)]; intro h; exact absurd h (Int32.not_lt.mpr c16))) (zle rfl) (zle rfl) dX11_canTell_118
      · refine v_iload_4 dX11_canTell_83 rfl ?_
        refine v_iload_2 dX11_canTell_85 rfl ?_
        refine v_ishr dX11_canTell_86 rfl ?_
        refine v_iconst (v := 1) dX11_canTell_87 rfl rfl ?_
        refine v_iand dX11_canTell_88 rfl ?_
        refine v_if_ne (tgt := 117) dX11_canTell_89 (by decide) rfl (fun c89 => ?_) (fun c89 => ?_)
        · refine v_iconst (v := 0) dX11_canTell_117 rfl rfl ?_
          exact v_zreturn rfl rfl (by
                    show zp (zb (canV (I (ad 11) (12 * e + p)) (I (ad 12) (12 * e + p)) (I (ad 14) (12 * e + p)) (I (ad 15) (12 * e + p)) c s p d)) T N P I R _ T N P I R
                    first
                      | (refine zp_t ?_; unfold canV; simp_all [bt_sh (show p < 32 by omega), bt_sh1 (show d < 32 by omega)]; done)
                      | (refine zp_f ?_; unfold canV; simp_all [bt_sh (show p < 32 by omega), bt_sh1 (show d < 32 by omega)]; done)
                      | (refine zp_f ?_; unfold canV; simp_all [bt_sh (show p < 32 by omega), bt_sh1 (show d < 32 by omega)]; intro h; exact absurd h (Int32.not_lt.mpr c16))) (zle rfl) (zle rfl) dX11_canTell_118
        · refine v_aload_0 dX11_canTell_92 rfl ?_
          refine v_getP fl_11_47 (mp_15 hM) (MOK.t hM) rfl (zle rfl) rfl dX11_canTell_93 rfl ?_
          refine v_iload_6 dX11_canTell_96 rfl ?_
          refine v_iald (j := 12 * e + p) (ma_15 hM) rfl (by omega) (zle rfl) dX11_canTell_98 rfl ?_
          refine v_iload_5 dX11_canTell_99 rfl ?_
          refine v_ishr dX11_canTell_101 rfl ?_
          refine v_iconst (v := 1) dX11_canTell_102 rfl rfl ?_
          refine v_iand dX11_canTell_103 rfl ?_
          refine v_iconst (v := 1) dX11_canTell_104 rfl rfl ?_
          refine v_icmp_ne (tgt := 117) dX11_canTell_105 (by decide) rfl (fun c105 => ?_) (fun c105 => ?_)
          · refine v_iconst (v := 0) dX11_canTell_117 rfl rfl ?_
            exact v_zreturn rfl rfl (by
                    show zp (zb (canV (I (ad 11) (12 * e + p)) (I (ad 12) (12 * e + p)) (I (ad 14) (12 * e + p)) (I (ad 15) (12 * e + p)) c s p d)) T N P I R _ T N P I R
                    first
                      | (refine zp_t ?_; unfold canV; simp_all [bt_sh (show p < 32 by omega), bt_sh1 (show d < 32 by omega)]; done)
                      | (refine zp_f ?_; unfold canV; simp_all [bt_sh (show p < 32 by omega), bt_sh1 (show d < 32 by omega)]; done)
                      | (refine zp_f ?_; unfold canV; simp_all [bt_sh (show p < 32 by omega), bt_sh1 (show d < 32 by omega)]; intro h; exact absurd h (Int32.not_lt.mpr c16))) (zle rfl) (zle rfl) dX11_canTell_118
          · refine v_iload_7 dX11_canTell_108 rfl ?_
            refine v_if_eq_f (tgt := 117) (by decide) dX11_canTell_110 (by decide) rfl ?_
            refine v_iconst (v := 1) dX11_canTell_113 rfl rfl ?_
            refine v_goto (n := 118) dX11_canTell_114 (by decide) ?_
            exact v_zreturn rfl rfl (by
                    show zp (zb (canV (I (ad 11) (12 * e + p)) (I (ad 12) (12 * e + p)) (I (ad 14) (12 * e + p)) (I (ad 15) (12 * e + p)) c s p d)) T N P I R _ T N P I R
                    first
                      | (refine zp_t ?_; unfold canV; simp_all [bt_sh (show p < 32 by omega), bt_sh1 (show d < 32 by omega)]; done)
                      | (refine zp_f ?_; unfold canV; simp_all [bt_sh (show p < 32 by omega), bt_sh1 (show d < 32 by omega)]; done)
                      | (refine zp_f ?_; unfold canV; simp_all [bt_sh (show p < 32 by omega), bt_sh1 (show d < 32 by omega)]; intro h; exact absurd h (Int32.not_lt.mpr c16))) (zle rfl) (zle rfl) dX11_canTell_118
    · refine v_aload_0 dX11_canTell_52 rfl ?_
      refine v_getP fl_11_44 (mp_14 hM) (MOK.t hM) rfl (zle rfl) rfl dX11_canTell_53 rfl ?_
      refine v_iload_6 dX11_canTell_56 rfl ?_
      refine v_iald (j := 12 * e + p) (ma_14 hM) rfl (by omega) (zle rfl) dX11_canTell_58 rfl ?_
      refine v_iload_4 dX11_canTell_59 rfl ?_
      refine v_iand dX11_canTell_61 rfl ?_
      refine v_if_eq (tgt := 69) dX11_canTell_62 (by decide) rfl (fun c62 => ?_) (fun c62 => ?_)
      · refine v_iconst (v := 0) dX11_canTell_69 rfl rfl ?_
        refine v_istore_7 dX11_canTell_70 rfl (zle rfl) rfl ?_
        refine v_aload_0 dX11_canTell_72 rfl ?_
        refine v_getP fl_11_38 (mp_12 hM) (MOK.t hM) rfl (zle rfl) rfl dX11_canTell_73 rfl ?_
        refine v_iload_6 dX11_canTell_76 rfl ?_
        refine v_iald (j := 12 * e + p) (ma_12 hM) rfl (by omega) (zle rfl) dX11_canTell_78 rfl ?_
        refine v_iload_3 dX11_canTell_79 rfl ?_
        refine v_icmp_ne (tgt := 117) dX11_canTell_80 (by decide) rfl (fun c80 => ?_) (fun c80 => ?_)
        · refine v_iconst (v := 0) dX11_canTell_117 rfl rfl ?_
          exact v_zreturn rfl rfl (by
                    show zp (zb (canV (I (ad 11) (12 * e + p)) (I (ad 12) (12 * e + p)) (I (ad 14) (12 * e + p)) (I (ad 15) (12 * e + p)) c s p d)) T N P I R _ T N P I R
                    first
                      | (refine zp_t ?_; unfold canV; simp_all [bt_sh (show p < 32 by omega), bt_sh1 (show d < 32 by omega)]; done)
                      | (refine zp_f ?_; unfold canV; simp_all [bt_sh (show p < 32 by omega), bt_sh1 (show d < 32 by omega)]; done)
                      | (refine zp_f ?_; unfold canV; simp_all [bt_sh (show p < 32 by omega), bt_sh1 (show d < 32 by omega)]; intro h; exact absurd h (Int32.not_lt.mpr c16))) (zle rfl) (zle rfl) dX11_canTell_118
        · refine v_iload_4 dX11_canTell_83 rfl ?_
          refine v_iload_2 dX11_canTell_85 rfl ?_
          refine v_ishr dX11_canTell_86 rfl ?_
          refine v_iconst (v := 1) dX11_canTell_87 rfl rfl ?_
          refine v_iand dX11_canTell_88 rfl ?_
          refine v_if_ne (tgt := 117) dX11_canTell_89 (by decide) rfl (fun c89 => ?_) (fun c89 => ?_)
          · refine v_iconst (v := 0) dX11_canTell_117 rfl rfl ?_
            exact v_zreturn rfl rfl (by
                    show zp (zb (canV (I (ad 11) (12 * e + p)) (I (ad 12) (12 * e + p)) (I (ad 14) (12 * e + p)) (I (ad 15) (12 * e + p)) c s p d)) T N P I R _ T N P I R
                    first
                      | (refine zp_t ?_; unfold canV; simp_all [bt_sh (show p < 32 by omega), bt_sh1 (show d < 32 by omega)]; done)
                      | (refine zp_f ?_; unfold canV; simp_all [bt_sh (show p < 32 by omega), bt_sh1 (show d < 32 by omega)]; done)
                      | (refine zp_f ?_; unfold canV; simp_all [bt_sh (show p < 32 by omega), bt_sh1 (show d < 32 by omega)]; intro h; exact absurd h (Int32.not_lt.mpr c16))) (zle rfl) (zle rfl) dX11_canTell_118
          · refine v_aload_0 dX11_canTell_92 rfl ?_
            refine v_getP fl_11_47 (mp_15 hM) (MOK.t hM) rfl (zle rfl) rfl dX11_canTell_93 rfl ?_
            refine v_iload_6 dX11_canTell_96 rfl ?_
            refine v_iald (j := 12 * e + p) (ma_15 hM) rfl (by omega) (zle rfl) dX11_canTell_98 rfl ?_
            refine v_iload_5 dX11_canTell_99 rfl ?_
            refine v_ishr dX11_canTell_101 rfl ?_
            refine v_iconst (v := 1) dX11_canTell_102 rfl rfl ?_
            refine v_iand dX11_canTell_103 rfl ?_
            refine v_iconst (v := 1) dX11_canTell_104 rfl rfl ?_
            refine v_icmp_ne (tgt := 117) dX11_canTell_105 (by decide) rfl (fun c105 => ?_) (fun c105 => ?_)
            · refine v_iconst (v := 0) dX11_canTell_117 rfl rfl ?_
              exact v_zreturn rfl rfl (by
                    show zp (zb (canV (I (ad 11) (12 * e + p)) (I (ad 12) (12 * e + p)) (I (ad 14) (12 * e + p)) (I (ad 15) (12 * e + p)) c s p d)) T N P I R _ T N P I R
                    first
                      | (refine zp_t ?_; unfold canV; simp_all [bt_sh (show p < 32 by omega), bt_sh1 (show d < 32 by omega)]; done)
                      | (refine zp_f ?_; unfold canV; simp_all [bt_sh (show p < 32 by omega), bt_sh1 (show d < 32 by omega)]; done)
                      | (refine zp_f ?_; unfold canV; simp_all [bt_sh (show p < 32 by omega), bt_sh1 (show d < 32 by omega)]; intro h; exact absurd h (Int32.not_lt.mpr c16))) (zle rfl) (zle rfl) dX11_canTell_118
            · refine v_iload_7 dX11_canTell_108 rfl ?_
              refine v_if_eq_t (n := 117) (by decide) dX11_canTell_110 (by decide) ?_
              refine v_iconst (v := 0) dX11_canTell_117 rfl rfl ?_
              exact v_zreturn rfl rfl (by
                    show zp (zb (canV (I (ad 11) (12 * e + p)) (I (ad 12) (12 * e + p)) (I (ad 14) (12 * e + p)) (I (ad 15) (12 * e + p)) c s p d)) T N P I R _ T N P I R
                    first
                      | (refine zp_t ?_; unfold canV; simp_all [bt_sh (show p < 32 by omega), bt_sh1 (show d < 32 by omega)]; done)
                      | (refine zp_f ?_; unfold canV; simp_all [bt_sh (show p < 32 by omega), bt_sh1 (show d < 32 by omega)]; done)
                      | (refine zp_f ?_; unfold canV; simp_all [bt_sh (show p < 32 by omega), bt_sh1 (show d < 32 by omega)]; intro h; exact absurd h (Int32.not_lt.mpr c16))) (zle rfl) (zle rfl) dX11_canTell_118
      · refine v_iconst (v := 1) dX11_canTell_65 rfl rfl ?_
        refine v_goto (n := 70) dX11_canTell_66 (by decide) ?_
        refine v_istore_7 dX11_canTell_70 rfl (zle rfl) rfl ?_
        refine v_aload_0 dX11_canTell_72 rfl ?_
        refine v_getP fl_11_38 (mp_12 hM) (MOK.t hM) rfl (zle rfl) rfl dX11_canTell_73 rfl ?_
        refine v_iload_6 dX11_canTell_76 rfl ?_
        refine v_iald (j := 12 * e + p) (ma_12 hM) rfl (by omega) (zle rfl) dX11_canTell_78 rfl ?_
        refine v_iload_3 dX11_canTell_79 rfl ?_
        refine v_icmp_ne (tgt := 117) dX11_canTell_80 (by decide) rfl (fun c80 => ?_) (fun c80 => ?_)
        · refine v_iconst (v := 0) dX11_canTell_117 rfl rfl ?_
          exact v_zreturn rfl rfl (by
                    show zp (zb (canV (I (ad 11) (12 * e + p)) (I (ad 12) (12 * e + p)) (I (ad 14) (12 * e + p)) (I (ad 15) (12 * e + p)) c s p d)) T N P I R _ T N P I R
                    first
                      | (refine zp_t ?_; unfold canV; simp_all [bt_sh (show p < 32 by omega), bt_sh1 (show d < 32 by omega)]; done)
                      | (refine zp_f ?_; unfold canV; simp_all [bt_sh (show p < 32 by omega), bt_sh1 (show d < 32 by omega)]; done)
                      | (refine zp_f ?_; unfold canV; simp_all [bt_sh (show p < 32 by omega), bt_sh1 (show d < 32 by omega)]; intro h; exact absurd h (Int32.not_lt.mpr c16))) (zle rfl) (zle rfl) dX11_canTell_118
        · refine v_iload_4 dX11_canTell_83 rfl ?_
          refine v_iload_2 dX11_canTell_85 rfl ?_
          refine v_ishr dX11_canTell_86 rfl ?_
          refine v_iconst (v := 1) dX11_canTell_87 rfl rfl ?_
          refine v_iand dX11_canTell_88 rfl ?_
          refine v_if_ne (tgt := 117) dX11_canTell_89 (by decide) rfl (fun c89 => ?_) (fun c89 => ?_)
          · refine v_iconst (v := 0) dX11_canTell_117 rfl rfl ?_
            exact v_zreturn rfl rfl (by
                    show zp (zb (canV (I (ad 11) (12 * e + p)) (I (ad 12) (12 * e + p)) (I (ad 14) (12 * e + p)) (I (ad 15) (12 * e + p)) c s p d)) T N P I R _ T N P I R
                    first
                      | (refine zp_t ?_; unfold canV; simp_all [bt_sh (show p < 32 by omega), bt_sh1 (show d < 32 by omega)]; done)
                      | (refine zp_f ?_; unfold canV; simp_all [bt_sh (show p < 32 by omega), bt_sh1 (show d < 32 by omega)]; done)
                      | (refine zp_f ?_; unfold canV; simp_all [bt_sh (show p < 32 by omega), bt_sh1 (show d < 32 by omega)]; intro h; exact absurd h (Int32.not_lt.mpr c16))) (zle rfl) (zle rfl) dX11_canTell_118
          · refine v_aload_0 dX11_canTell_92 rfl ?_
            refine v_getP fl_11_47 (mp_15 hM) (MOK.t hM) rfl (zle rfl) rfl dX11_canTell_93 rfl ?_
            refine v_iload_6 dX11_canTell_96 rfl ?_
            refine v_iald (j := 12 * e + p) (ma_15 hM) rfl (by omega) (zle rfl) dX11_canTell_98 rfl ?_
            refine v_iload_5 dX11_canTell_99 rfl ?_
            refine v_ishr dX11_canTell_101 rfl ?_
            refine v_iconst (v := 1) dX11_canTell_102 rfl rfl ?_
            refine v_iand dX11_canTell_103 rfl ?_
            refine v_iconst (v := 1) dX11_canTell_104 rfl rfl ?_
            refine v_icmp_ne (tgt := 117) dX11_canTell_105 (by decide) rfl (fun c105 => ?_) (fun c105 => ?_)
            · refine v_iconst (v := 0) dX11_canTell_117 rfl rfl ?_
              exact v_zreturn rfl rfl (by
                    show zp (zb (canV (I (ad 11) (12 * e + p)) (I (ad 12) (12 * e + p)) (I (ad 14) (12 * e + p)) (I (ad 15) (12 * e + p)) c s p d)) T N P I R _ T N P I R
                    first
                      | (refine zp_t ?_; unfold canV; simp_all [bt_sh (show p < 32 by omega), bt_sh1 (show d < 32 by omega)]; done)
                      | (refine zp_f ?_; unfold canV; simp_all [bt_sh (show p < 32 by omega), bt_sh1 (show d < 32 by omega)]; done)
                      | (refine zp_f ?_; unfold canV; simp_all [bt_sh (show p < 32 by omega), bt_sh1 (show d < 32 by omega)]; intro h; exact absurd h (Int32.not_lt.mpr c16))) (zle rfl) (zle rfl) dX11_canTell_118
            · refine v_iload_7 dX11_canTell_108 rfl ?_
              refine v_if_eq_f (tgt := 117) (by decide) dX11_canTell_110 (by decide) rfl ?_
              refine v_iconst (v := 1) dX11_canTell_113 rfl rfl ?_
              refine v_goto (n := 118) dX11_canTell_114 (by decide) ?_
              exact v_zreturn rfl rfl (by
                    show zp (zb (canV (I (ad 11) (12 * e + p)) (I (ad 12) (12 * e + p)) (I (ad 14) (12 * e + p)) (I (ad 15) (12 * e + p)) c s p d)) T N P I R _ T N P I R
                    first
                      | (refine zp_t ?_; unfold canV; simp_all [bt_sh (show p < 32 by omega), bt_sh1 (show d < 32 by omega)]; done)
                      | (refine zp_f ?_; unfold canV; simp_all [bt_sh (show p < 32 by omega), bt_sh1 (show d < 32 by omega)]; done)
                      | (refine zp_f ?_; unfold canV; simp_all [bt_sh (show p < 32 by omega), bt_sh1 (show d < 32 by omega)]; intro h; exact absurd h (Int32.not_lt.mpr c16))) (zle rfl) (zle rfl) dX11_canTell_118
  · refine v_aload_0 dX11_canTell_19 rfl ?_
    refine v_getP fl_11_44 (mp_14 hM) (MOK.t hM) rfl (zle rfl) rfl dX11_canTell_20 rfl ?_
    refine v_iload_6 dX11_canTell_23 rfl ?_
    refine v_iald (j := 12 * e + p) (ma_14 hM) rfl (by omega) (zle rfl) dX11_canTell_25 rfl ?_
    refine v_iload_4 dX11_canTell_26 rfl ?_
    refine v_iconst (v := -1) dX11_canTell_28 rfl rfl ?_
    refine v_ixor dX11_canTell_29 rfl ?_
    refine v_iand dX11_canTell_30 rfl ?_
    refine v_if_ne (tgt := 38) dX11_canTell_31 (by decide) rfl (fun c31 => ?_) (fun c31 => ?_)
    · refine v_iconst (v := 0) dX11_canTell_38 rfl rfl ?_
      refine v_goto (n := 70) dX11_canTell_39 (by decide) ?_
      refine v_istore_7 dX11_canTell_70 rfl (zle rfl) rfl ?_
      refine v_aload_0 dX11_canTell_72 rfl ?_
      refine v_getP fl_11_38 (mp_12 hM) (MOK.t hM) rfl (zle rfl) rfl dX11_canTell_73 rfl ?_
      refine v_iload_6 dX11_canTell_76 rfl ?_
      refine v_iald (j := 12 * e + p) (ma_12 hM) rfl (by omega) (zle rfl) dX11_canTell_78 rfl ?_
      refine v_iload_3 dX11_canTell_79 rfl ?_
      refine v_icmp_ne (tgt := 117) dX11_canTell_80 (by decide) rfl (fun c80 => ?_) (fun c80 => ?_)
      · refine v_iconst (v := 0) dX11_canTell_117 rfl rfl ?_
        exact v_zreturn rfl rfl (by
                    show zp (zb (canV (I (ad 11) (12 * e + p)) (I (ad 12) (12 * e + p)) (I (ad 14) (12 * e + p)) (I (ad 15) (12 * e + p)) c s p d)) T N P I R _ T N P I R
                    first
                      | (refine zp_t ?_; unfold canV; simp_all [bt_sh (show p < 32 by omega), bt_sh1 (show d < 32 by omega)]; done)
                      | (refine zp_f ?_; unfold canV; simp_all [bt_sh (show p < 32 by omega), bt_sh1 (show d < 32 by omega)]; done)
                      | (refine zp_f ?_; unfold canV; simp_all [bt_sh (show p < 32 by omega), bt_sh1 (show d < 32 by omega)]; intro h; exact absurd h (Int32.not_lt.mpr c16))) (zle rfl) (zle rfl) dX11_canTell_118
      · refine v_iload_4 dX11_canTell_83 rfl ?_
        refine v_iload_2 dX11_canTell_85 rfl ?_
        refine v_ishr dX11_canTell_86 rfl ?_
        refine v_iconst (v := 1) dX11_canTell_87 rfl rfl ?_
        refine v_iand dX11_canTell_88 rfl ?_
        refine v_if_ne (tgt := 117) dX11_canTell_89 (by decide) rfl (fun c89 => ?_) (fun c89 => ?_)
        · refine v_iconst (v := 0) dX11_canTell_117 rfl rfl ?_
          exact v_zreturn rfl rfl (by
                    show zp (zb (canV (I (ad 11) (12 * e + p)) (I (ad 12) (12 * e + p)) (I (ad 14) (12 * e + p)) (I (ad 15) (12 * e + p)) c s p d)) T N P I R _ T N P I R
                    first
                      | (refine zp_t ?_; unfold canV; simp_all [bt_sh (show p < 32 by omega), bt_sh1 (show d < 32 by omega)]; done)
                      | (refine zp_f ?_; unfold canV; simp_all [bt_sh (show p < 32 by omega), bt_sh1 (show d < 32 by omega)]; done)
                      | (refine zp_f ?_; unfold canV; simp_all [bt_sh (show p < 32 by omega), bt_sh1 (show d < 32 by omega)]; intro h; exact absurd h (Int32.not_lt.mpr c16))) (zle rfl) (zle rfl) dX11_canTell_118
        · refine v_aload_0 dX11_canTell_92 rfl ?_
          refine v_getP fl_11_47 (mp_15 hM) (MOK.t hM) rfl (zle rfl) rfl dX11_canTell_93 rfl ?_
          refine v_iload_6 dX11_canTell_96 rfl ?_
          refine v_iald (j := 12 * e + p) (ma_15 hM) rfl (by omega) (zle rfl) dX11_canTell_98 rfl ?_
          refine v_iload_5 dX11_canTell_99 rfl ?_
          refine v_ishr dX11_canTell_101 rfl ?_
          refine v_iconst (v := 1) dX11_canTell_102 rfl rfl ?_
          refine v_iand dX11_canTell_103 rfl ?_
          refine v_iconst (v := 1) dX11_canTell_104 rfl rfl ?_
          refine v_icmp_ne (tgt := 117) dX11_canTell_105 (by decide) rfl (fun c105 => ?_) (fun c105 => ?_)
          · refine v_iconst (v := 0) dX11_canTell_117 rfl rfl ?_
            exact v_zreturn rfl rfl (by
                    show zp (zb (canV (I (ad 11) (12 * e + p)) (I (ad 12) (12 * e + p)) (I (ad 14) (12 * e + p)) (I (ad 15) (12 * e + p)) c s p d)) T N P I R _ T N P I R
                    first
                      | (refine zp_t ?_; unfold canV; simp_all [bt_sh (show p < 32 by omega), bt_sh1 (show d < 32 by omega)]; done)
                      | (refine zp_f ?_; unfold canV; simp_all [bt_sh (show p < 32 by omega), bt_sh1 (show d < 32 by omega)]; done)
                      | (refine zp_f ?_; unfold canV; simp_all [bt_sh (show p < 32 by omega), bt_sh1 (show d < 32 by omega)]; intro h; exact absurd h (Int32.not_lt.mpr c16))) (zle rfl) (zle rfl) dX11_canTell_118
          · refine v_iload_7 dX11_canTell_108 rfl ?_
            refine v_if_eq_t (n := 117) (by decide) dX11_canTell_110 (by decide) ?_
            refine v_iconst (v := 0) dX11_canTell_117 rfl rfl ?_
            exact v_zreturn rfl rfl (by
                    show zp (zb (canV (I (ad 11) (12 * e + p)) (I (ad 12) (12 * e + p)) (I (ad 14) (12 * e + p)) (I (ad 15) (12 * e + p)) c s p d)) T N P I R _ T N P I R
                    first
                      | (refine zp_t ?_; unfold canV; simp_all [bt_sh (show p < 32 by omega), bt_sh1 (show d < 32 by omega)]; done)
                      | (refine zp_f ?_; unfold canV; simp_all [bt_sh (show p < 32 by omega), bt_sh1 (show d < 32 by omega)]; done)
                      | (refine zp_f ?_; unfold canV; simp_all [bt_sh (show p < 32 by omega), bt_sh1 (show d < 32 by omega)]; intro h; exact absurd h (Int32.not_lt.mpr c16))) (zle rfl) (zle rfl) dX11_canTell_118
    · refine v_iconst (v := 1) dX11_canTell_34 rfl rfl ?_
      refine v_goto (n := 70) dX11_canTell_35 (by decide) ?_
      refine v_istore_7 dX11_canTell_70 rfl (zle rfl) rfl ?_
      refine v_aload_0 dX11_canTell_72 rfl ?_
      refine v_getP fl_11_38 (mp_12 hM) (MOK.t hM) rfl (zle rfl) rfl dX11_canTell_73 rfl ?_
      refine v_iload_6 dX11_canTell_76 rfl ?_
      refine v_iald (j := 12 * e + p) (ma_12 hM) rfl (by omega) (zle rfl) dX11_canTell_78 rfl ?_
      refine v_iload_3 dX11_canTell_79 rfl ?_
      refine v_icmp_ne (tgt := 117) dX11_canTell_80 (by decide) rfl (fun c80 => ?_) (fun c80 => ?_)
      · refine v_iconst (v := 0) dX11_canTell_117 rfl rfl ?_
        exact v_zreturn rfl rfl (by
                    show zp (zb (canV (I (ad 11) (12 * e + p)) (I (ad 12) (12 * e + p)) (I (ad 14) (12 * e + p)) (I (ad 15) (12 * e + p)) c s p d)) T N P I R _ T N P I R
                    first
                      | (refine zp_t ?_; unfold canV; simp_all [bt_sh (show p < 32 by omega), bt_sh1 (show d < 32 by omega)]; done)
                      | (refine zp_f ?_; unfold canV; simp_all [bt_sh (show p < 32 by omega), bt_sh1 (show d < 32 by omega)]; done)
                      | (refine zp_f ?_; unfold canV; simp_all [bt_sh (show p < 32 by omega), bt_sh1 (show d < 32 by omega)]; intro h; exact absurd h (Int32.not_lt.mpr c16))) (zle rfl) (zle rfl) dX11_canTell_118
      · refine v_iload_4 dX11_canTell_83 rfl ?_
        refine v_iload_2 dX11_canTell_85 rfl ?_
        refine v_ishr dX11_canTell_86 rfl ?_
        refine v_iconst (v := 1) dX11_canTell_87 rfl rfl ?_
        refine v_iand dX11_canTell_88 rfl ?_
        refine v_if_ne (tgt := 117) dX11_canTell_89 (by decide) rfl (fun c89 => ?_) (fun c89 => ?_)
        · refine v_iconst (v := 0) dX11_canTell_117 rfl rfl ?_
          exact v_zreturn rfl rfl (by
                    show zp (zb (canV (I (ad 11) (12 * e + p)) (I (ad 12) (12 * e + p)) (I (ad 14) (12 * e + p)) (I (ad 15) (12 * e + p)) c s p d)) T N P I R _ T N P I R
                    first
                      | (refine zp_t ?_; unfold canV; simp_all [bt_sh (show p < 32 by omega), bt_sh1 (show d < 32 by omega)]; done)
                      | (refine zp_f ?_; unfold canV; simp_all [bt_sh (show p < 32 by omega), bt_sh1 (show d < 32 by omega)]; done)
                      | (refine zp_f ?_; unfold canV; simp_all [bt_sh (show p < 32 by omega), bt_sh1 (show d < 32 by omega)]; intro h; exact absurd h (Int32.not_lt.mpr c16))) (zle rfl) (zle rfl) dX11_canTell_118
        · refine v_aload_0 dX11_canTell_92 rfl ?_
          refine v_getP fl_11_47 (mp_15 hM) (MOK.t hM) rfl (zle rfl) rfl dX11_canTell_93 rfl ?_
          refine v_iload_6 dX11_canTell_96 rfl ?_
          refine v_iald (j := 12 * e + p) (ma_15 hM) rfl (by omega) (zle rfl) dX11_canTell_98 rfl ?_
          refine v_iload_5 dX11_canTell_99 rfl ?_
          refine v_ishr dX11_canTell_101 rfl ?_
          refine v_iconst (v := 1) dX11_canTell_102 rfl rfl ?_
          refine v_iand dX11_canTell_103 rfl ?_
          refine v_iconst (v := 1) dX11_canTell_104 rfl rfl ?_
          refine v_icmp_ne (tgt := 117) dX11_canTell_105 (by decide) rfl (fun c105 => ?_) (fun c105 => ?_)
          · refine v_iconst (v := 0) dX11_canTell_117 rfl rfl ?_
            exact v_zreturn rfl rfl (by
                    show zp (zb (canV (I (ad 11) (12 * e + p)) (I (ad 12) (12 * e + p)) (I (ad 14) (12 * e + p)) (I (ad 15) (12 * e + p)) c s p d)) T N P I R _ T N P I R
                    first
                      | (refine zp_t ?_; unfold canV; simp_all [bt_sh (show p < 32 by omega), bt_sh1 (show d < 32 by omega)]; done)
                      | (refine zp_f ?_; unfold canV; simp_all [bt_sh (show p < 32 by omega), bt_sh1 (show d < 32 by omega)]; done)
                      | (refine zp_f ?_; unfold canV; simp_all [bt_sh (show p < 32 by omega), bt_sh1 (show d < 32 by omega)]; intro h; exact absurd h (Int32.not_lt.mpr c16))) (zle rfl) (zle rfl) dX11_canTell_118
          · refine v_iload_7 dX11_canTell_108 rfl ?_
            refine v_if_eq_f (tgt := 117) (by decide) dX11_canTell_110 (by decide) rfl ?_
            refine v_iconst (v := 1) dX11_canTell_113 rfl rfl ?_
            refine v_goto (n := 118) dX11_canTell_114 (by decide) ?_
            exact v_zreturn rfl rfl (by
                    show zp (zb (canV (I (ad 11) (12 * e + p)) (I (ad 12) (12 * e + p)) (I (ad 14) (12 * e + p)) (I (ad 15) (12 * e + p)) c s p d)) T N P I R _ T N P I R
                    first
                      | (refine zp_t ?_; unfold canV; simp_all [bt_sh (show p < 32 by omega), bt_sh1 (show d < 32 by omega)]; done)
                      | (refine zp_f ?_; unfold canV; simp_all [bt_sh (show p < 32 by omega), bt_sh1 (show d < 32 by omega)]; done)
                      | (refine zp_f ?_; unfold canV; simp_all [bt_sh (show p < 32 by omega), bt_sh1 (show d < 32 by omega)]; intro h; exact absurd h (Int32.not_lt.mpr c16))) (zle rfl) (zle rfl) dX11_canTell_118
theorem lp_X11_next {E : zE} {T : zT} {N : zN} {P : zP} {I : zI} {R : zR} {m : Nat} {ad : Nat → Nat} {e np d : Nat} {c s : Int32} {K : zK E yX11_nextPiece cX11_nextPiece 6 (some .int) (zr0 1 27)} (hM : MOK T P m ad) (hn : I (ad 10) e = nI np) (hn2 : np ≤ 12) (he : e < 4) (hd : d < 7) :
    ∀ k p, p + k = np → (∀ q, 0 ≤ q → q < p → ¬ canP (mr I ad) e c s d q) → V K (zQf K (zp (nxv (canP (mr I ad) e c s d) 0 np) T N P I R)) T N P I R 0 0 3 [some (.ref m), some (.int (nI e)), some (.int c), some (.int s), some (.int (nI d)), some (.int (nI p))] [] := by
  intro k
  induction k with
  | zero =>
    intro p hp hq
    obtain rfl : p = np := by omega
    refine v_iload_5 dX11_nextPiece_3 rfl ?_
    refine v_aload_0 dX11_nextPiece_5 rfl ?_
    refine v_getP fl_11_32 (mp_10 hM) (MOK.t hM) rfl (zle rfl) rfl dX11_nextPiece_6 rfl ?_
    refine v_iload_1 dX11_nextPiece_9 rfl ?_
    refine v_iald (j := e) (ma_10 hM) rfl (by omega) (zle rfl) dX11_nextPiece_10 rfl ?_
    refine v_top hn ?_
    refine v_icmp_ge_t (n := 37) (nI_le (a := p) (b := p) (Nat.le_refl _) (by omega)) dX11_nextPiece_11 (by decide) ?_
    refine v_iconst (v := -1) dX11_nextPiece_37 rfl rfl ?_
    exact v_ireturn rfl (zp_e (nxv_none hq).symm) (zle rfl) (zle rfl) dX11_nextPiece_38
  | succ k ih =>
    intro p hp hq
    refine v_iload_5 dX11_nextPiece_3 rfl ?_
    refine v_aload_0 dX11_nextPiece_5 rfl ?_
    refine v_getP fl_11_32 (mp_10 hM) (MOK.t hM) rfl (zle rfl) rfl dX11_nextPiece_6 rfl ?_
    refine v_iload_1 dX11_nextPiece_9 rfl ?_
    refine v_iald (j := e) (ma_10 hM) rfl (by omega) (zle rfl) dX11_nextPiece_10 rfl ?_
    refine v_top hn ?_
    refine v_icmp_ge_f (tgt := 37) (nI_ge (a := p) (b := np) (by omega) (by omega)) dX11_nextPiece_11 (by decide) rfl ?_
    refine v_aload_0 dX11_nextPiece_14 rfl ?_
    refine v_iload_1 dX11_nextPiece_15 rfl ?_
    refine v_iload_5 dX11_nextPiece_16 rfl ?_
    refine v_iload_2 dX11_nextPiece_18 rfl ?_
    refine v_iload_3 dX11_nextPiece_19 rfl ?_
    refine v_iload_4 dX11_nextPiece_20 rfl ?_
    refine v_callV (ci := 11) (F := TX11) (c_X11_canTell m ad _ _ _ _ _ hM (by omega) (by omega) (by omega)) yy_X11_canTell im_X11_canTell se_X11_canTell lk_11_199 (MOK.t hM) (zle rfl) rfl (zle rfl) (zle rfl) (zle rfl) (zle rfl) rfl rfl (zle rfl) dX11_nextPiece_22 rfl (zp.use ?_)
    refine v_ifz_eq (tgt := 31) dX11_nextPiece_25 (by decide) rfl (fun c25 => ?_) (fun c25 => ?_)
    · refine v_iinc_5 dX11_nextPiece_31 (nI_1 p) rfl (zle rfl) rfl ?_
      refine v_goto (n := 3) dX11_nextPiece_34 (by decide) ?_
      exact ih (p + 1) (by omega) (fun q h0 h1 => by
        rcases Nat.lt_or_ge q p with z | z
        · exact hq q h0 z
        · rw [show q = p by omega]; exact c25)
    · refine v_iload_5 dX11_nextPiece_28 rfl ?_
      exact v_ireturn rfl (zp_e (nxv_some (Nat.zero_le _) (by omega) c25 hq).symm) (zle rfl) (zle rfl) dX11_nextPiece_30
theorem c_X11_nextPiece {E : zE} {T : zT} {N : zN} {P : zP} {I : zI} {R : zR} (m : Nat) (ad : Nat → Nat) (e np d : Nat) (c s : Int32) (hM : MOK T P m ad) (hn : I (ad 10) e = nI np) (hn2 : np ≤ 12) (he : e < 4) (hd : d < 7) : zC E yX11_nextPiece cX11_nextPiece 6 (some .int) (zr0 1 27) [.ref m, .int (nI e), .int c, .int s, .int (nI d)] T N P I R (zp (nxv (canP (mr I ad) e c s d) 0 np) T N P I R) := by
  refine zC.intro (ls := [some (.ref m), some (.int (nI e)), some (.int c), some (.int s), some (.int (nI d)), none]) pl_RX11 (zle rfl) 1 rfl (fun K => ?_)
  refine v_iconst (v := 0) dX11_nextPiece_0 rfl rfl ?_
  refine v_istore_5 dX11_nextPiece_1 rfl (zle rfl) rfl ?_
  exact lp_X11_next hM hn hn2 he hd np 0 (by omega) (fun q _ h => absurd h (Nat.not_lt_zero q))
theorem ovr_s {r : zg} {e p : Nat} {s : Int32} : ovr r e s (p + 1) ↔ ovr r e s p ∨ (r 11 (12 * e + p) = 3 ∧ bt s p = true) := by
  constructor
  · rintro ⟨q, h1, h2⟩
    rcases Nat.lt_or_ge q p with z | z
    · exact Or.inl ⟨q, z, h2⟩
    · obtain rfl : q = p := by omega
      exact Or.inr h2
  · rintro (⟨q, h1, h2⟩ | h)
    · exact ⟨q, by omega, h2⟩
    · exact ⟨p, by omega, h⟩
theorem lp_X11_over {E : zE} {T : zT} {N : zN} {P : zP} {I : zI} {R : zR} {m : Nat} {ad : Nat → Nat} {e np : Nat} {s : Int32} {K : zK E yX11_isOver cX11_isOver 5 (some .boolean) (zr0 0 0)} (hM : MOK T P m ad) (hn : I (ad 10) e = nI np) (hn2 : np ≤ 12) (he : e < 4) :
    ∀ k p, p + k = np → V K (zQf K (zp (zb (ovr (mr I ad) e s np)) T N P I R)) T N P I R 0 0 5 [some (.ref m), some (.int (nI e)), some (.int s), some (.int (zb (ovr (mr I ad) e s p))), some (.int (nI p))] [] := by
  intro k
  induction k with
  | zero =>
    intro p hp
    obtain rfl : p = np := by omega
    refine v_iload_4 dX11_isOver_5 rfl ?_
    refine v_aload_0 dX11_isOver_7 rfl ?_
    refine v_getP fl_11_32 (mp_10 hM) (MOK.t hM) rfl (zle rfl) rfl dX11_isOver_8 rfl ?_
    refine v_iload_1 dX11_isOver_11 rfl ?_
    refine v_iald (j := e) (ma_10 hM) rfl (by omega) (zle rfl) dX11_isOver_12 rfl ?_
    refine v_top hn ?_
    refine v_icmp_ge_t (n := 58) (nI_le (a := p) (b := p) (Nat.le_refl _) (by omega)) dX11_isOver_13 (by decide) ?_
    refine v_iload_3 dX11_isOver_58 rfl ?_
    exact v_zreturn rfl (zb_nar _) (zp.rf) (zle rfl) (zle rfl) dX11_isOver_59
  | succ k ih =>
    intro p hp
    refine v_iload_4 dX11_isOver_5 rfl ?_
    refine v_aload_0 dX11_isOver_7 rfl ?_
    refine v_getP fl_11_32 (mp_10 hM) (MOK.t hM) rfl (zle rfl) rfl dX11_isOver_8 rfl ?_
    refine v_iload_1 dX11_isOver_11 rfl ?_
    refine v_iald (j := e) (ma_10 hM) rfl (by omega) (zle rfl) dX11_isOver_12 rfl ?_
    refine v_top hn ?_
    refine v_icmp_ge_f (tgt := 58) (nI_ge (a := p) (b := np) (by omega) (by omega)) dX11_isOver_13 (by decide) rfl ?_
    refine v_iload_3 dX11_isOver_16 rfl ?_
    refine v_ifz_ne (tgt := 46) dX11_isOver_17 (by decide) rfl (fun c17 => ?_) (fun c17 => ?_)
    · refine v_iconst (v := 1) dX11_isOver_46 rfl rfl ?_
      refine v_goto (n := 51) dX11_isOver_47 (by decide) ?_
      refine v_istore_3 dX11_isOver_51 rfl (zle rfl) rfl ?_
      refine v_iinc_4 dX11_isOver_52 (nI_1 p) rfl (zle rfl) rfl ?_
      refine v_goto (n := 5) dX11_isOver_55 (by decide) ?_
      rw [show (1 : Int32) = zb (ovr (mr I ad) e s (p + 1)) from (zb_t (ovr_s.mpr (Or.inl c17))).symm]
      exact ih (p + 1) (by omega)
    · refine v_aload_0 dX11_isOver_20 rfl ?_
      refine v_getP fl_11_35 (mp_11 hM) (MOK.t hM) rfl (zle rfl) rfl dX11_isOver_21 rfl ?_
      refine v_bipush (v := 12) dX11_isOver_24 rfl rfl ?_
      refine v_iload_1 dX11_isOver_26 rfl ?_
      refine v_imul dX11_isOver_27 rfl ?_
      refine v_iload_4 dX11_isOver_28 rfl ?_
      refine v_iadd dX11_isOver_30 rfl ?_
      refine v_top (i12 e p) ?_
      refine v_iald (j := 12 * e + p) (ma_11 hM) rfl (by omega) (zle rfl) dX11_isOver_31 rfl ?_
      refine v_iconst (v := 3) dX11_isOver_32 rfl rfl ?_
      refine v_icmp_ne (tgt := 50) dX11_isOver_33 (by decide) rfl (fun c33 => ?_) (fun c33 => ?_)
      · refine v_iconst (v := 0) dX11_isOver_50 rfl rfl ?_
        refine v_istore_3 dX11_isOver_51 rfl (zle rfl) rfl ?_
        refine v_iinc_4 dX11_isOver_52 (nI_1 p) rfl (zle rfl) rfl ?_
        refine v_goto (n := 5) dX11_isOver_55 (by decide) ?_
        rw [show (0 : Int32) = zb (ovr (mr I ad) e s (p + 1)) from (zb_f (fun h => (ovr_s.mp h).elim c17 (fun h => c33 h.1))).symm]
        exact ih (p + 1) (by omega)
      · refine v_iload_2 dX11_isOver_36 rfl ?_
        refine v_iload_4 dX11_isOver_37 rfl ?_
        refine v_ishr dX11_isOver_39 rfl ?_
        refine v_iconst (v := 1) dX11_isOver_40 rfl rfl ?_
        refine v_iand dX11_isOver_41 rfl ?_
        refine v_iconst (v := 1) dX11_isOver_42 rfl rfl ?_
        refine v_icmp_ne (tgt := 50) dX11_isOver_43 (by decide) rfl (fun c43 => ?_) (fun c43 => ?_)
        · refine v_iconst (v := 0) dX11_isOver_50 rfl rfl ?_
          refine v_istore_3 dX11_isOver_51 rfl (zle rfl) rfl ?_
          refine v_iinc_4 dX11_isOver_52 (nI_1 p) rfl (zle rfl) rfl ?_
          refine v_goto (n := 5) dX11_isOver_55 (by decide) ?_
          rw [show (0 : Int32) = zb (ovr (mr I ad) e s (p + 1)) from (zb_f (fun h => (ovr_s.mp h).elim c17 (fun h => c43 ((bt_sh1 (by omega)).mpr h.2)))).symm]
          exact ih (p + 1) (by omega)
        · refine v_iconst (v := 1) dX11_isOver_46 rfl rfl ?_
          refine v_goto (n := 51) dX11_isOver_47 (by decide) ?_
          refine v_istore_3 dX11_isOver_51 rfl (zle rfl) rfl ?_
          refine v_iinc_4 dX11_isOver_52 (nI_1 p) rfl (zle rfl) rfl ?_
          refine v_goto (n := 5) dX11_isOver_55 (by decide) ?_
          rw [show (1 : Int32) = zb (ovr (mr I ad) e s (p + 1)) from (zb_t (ovr_s.mpr (Or.inr ⟨c33, (bt_sh1 (by omega)).mp c43⟩))).symm]
          exact ih (p + 1) (by omega)
theorem c_X11_isOver {E : zE} {T : zT} {N : zN} {P : zP} {I : zI} {R : zR} (m : Nat) (ad : Nat → Nat) (e np : Nat) (s : Int32) (hM : MOK T P m ad) (hn : I (ad 10) e = nI np) (hn2 : np ≤ 12) (he : e < 4) : zC E yX11_isOver cX11_isOver 5 (some .boolean) (zr0 0 0) [.ref m, .int (nI e), .int s] T N P I R (zp (zb (ovr (mr I ad) e s np)) T N P I R) := by
  refine zC.intro (ls := [some (.ref m), some (.int (nI e)), some (.int s), none, none]) pl_RX11 (zle rfl) 2 rfl (fun K => ?_)
  refine v_iconst (v := 0) dX11_isOver_0 rfl rfl ?_
  refine v_istore_3 dX11_isOver_1 rfl (zle rfl) rfl ?_
  refine v_iconst (v := 0) dX11_isOver_2 rfl rfl ?_
  refine v_istore_4 dX11_isOver_3 rfl (zle rfl) rfl ?_
  have e0 : (0 : Int32) = zb (ovr (mr I ad) e s 0) := (zb_f (fun ⟨q, h, _⟩ => absurd h (Nat.not_lt_zero q))).symm
  refine v_loc (ls := [some (.ref m), some (.int (nI e)), some (.int s), some (.int (zb (ovr (mr I ad) e s 0))), some (.int (nI 0))]) (by rw [← e0]; rfl) ?_
  exact lp_X11_over hM hn hn2 he np 0 (by omega)
theorem and0 {x y : Int32} : x &&& y = 0 ↔ ∀ i, i < 32 → ¬ (bt x i = true ∧ bt y i = true) := by
  constructor
  · intro h i hi ⟨h1, h2⟩
    have := b_and x y i
    rw [h, b_0, h1, h2] at this
    cases this
  · intro h
    apply b_ext
    intro i hi
    rw [b_and, b_0]
    have := h i hi
    cases h1 : bt x i <;> cases h2 : bt y i <;> simp_all
/-- the class's ends are the reference's over -/
theorem ends_ovr {T : zT} {N : zN} {P : zP} {R : zR} {ea pa e : Nat} {pp : Nat → Nat} {r : zg} (h : REe T N P R ea pa pp r e) (hn : tn (r 10 e) ≤ 12) (s : Int32) : ¬ s &&& N 0 2 ea = 0 ↔ ovr r e s (tn (r 10 e)) := by
  obtain ⟨-, -, -, -, -, h6, h7⟩ := h
  have hb : ∀ i, bt (N 0 2 ea) i = (tn (N 0 2 ea)).testBit i := fun i => by
    conv => lhs; rw [h6.1]
    exact bt_nI (by have := h6.2; omega)
  rw [and0]
  constructor
  · intro h
    apply Classical.byContradiction
    intro hno
    refine h (fun i hi ⟨h1, h2⟩ => ?_)
    rw [hb] at h2
    rcases Nat.lt_or_ge i 12 with z | z
    · have := (h7 i z).mp h2
      exact hno ⟨i, this.1, this.2, h1⟩
    · rw [Nat.testBit_lt_two_pow (Nat.lt_of_lt_of_le h6.2 (Nat.pow_le_pow_right (n := 2) (i := 12) (by decide) z))] at h2
      cases h2
  · rintro ⟨p, h1, h2, h3⟩ h
    exact h p (by omega) ⟨h3, by rw [hb]; exact (h7 p (by omega)).mpr ⟨h1, h2⟩⟩
theorem c_X0_isOver {E : zE} {T : zT} {N : zN} {P : zP} {I : zI} {R : zR} (ea : Nat) (s : Int32) (he : (T ea).1 = 10) : zC E yX0_isOver cX0_isOver 2 (some .boolean) (zr0 0 0) [.ref ea, .int s] T N P I R (zp (zb (¬ s &&& N 0 2 ea = 0)) T N P I R) := by
  refine zC.intro (ls := [some (.ref ea), some (.int s)]) pl_RX0 (zle rfl) 0 rfl (fun K => ?_)
  refine v_iload_1 dX0_isOver_0 rfl ?_
  refine v_aload_0 dX0_isOver_1 rfl ?_
  refine v_getN fl_0_21 (by assumption) rfl (zle rfl) rfl dX0_isOver_2 rfl ?_
  refine v_iand dX0_isOver_5 rfl ?_
  refine v_if_eq (tgt := 13) dX0_isOver_6 (by decide) rfl (fun c6 => ?_) (fun c6 => ?_)
  · refine v_iconst (v := 0) dX0_isOver_13 rfl rfl ?_
    exact v_zreturn rfl rfl (zp_f (fun h => h c6)) (zle rfl) (zle rfl) dX0_isOver_14
  · refine v_iconst (v := 1) dX0_isOver_9 rfl rfl ?_
    refine v_goto (n := 14) dX0_isOver_10 (by decide) ?_
    exact v_zreturn rfl rfl (zp_t c6) (zle rfl) (zle rfl) dX0_isOver_14
/-- a piece's cell says the same -/
theorem fit_can {N : zN} {a e p d : Nat} {r : zg} {c s : Int32} (h0 : N 2 0 a = r 11 (12 * e + p)) (h1 : N 2 1 a = r 12 (12 * e + p)) (h3 : N 2 3 a = r 14 (12 * e + p)) (h4 : N 2 4 a = r 15 (12 * e + p)) (hk : Nt (r 11 (12 * e + p)) 4) (hb : ¬ bt s p = true) : (N 2 1 a = c ∧ bt (N 2 4 a) d = true ∧ ((N 2 0 a = 2 ∨ N 2 0 a = 3) ∧ (N 2 3 a = 0 ∨ ¬ N 2 3 a &&& s = 0) ∨ ¬ (N 2 0 a = 2 ∨ N 2 0 a = 3) ∧ N 2 3 a &&& (s ^^^ (-1)) = 0)) ↔ canP r e c s d p := by
  have hk2 : (r 11 (12 * e + p) = 2 ∨ r 11 (12 * e + p) = 3) ↔ ¬ r 11 (12 * e + p) < 2 := by
    have g1 := hk.1
    have g2 := hk.2
    generalize tn (r 11 (12 * e + p)) = k at g1 g2
    rw [g1]
    rcases (show k = 0 ∨ k = 1 ∨ k = 2 ∨ k = 3 by omega) with rfl | rfl | rfl | rfl <;> decide
  unfold canP canV
  rw [h0, h1, h3, h4, hk2]
  constructor
  · rintro ⟨a1, a2, a3 | a3⟩
    · exact ⟨a1, hb, a2, Or.inr a3⟩
    · exact ⟨a1, hb, a2, Or.inl ⟨Classical.not_not.mp a3.1, a3.2⟩⟩
  · rintro ⟨a1, -, a2, a3 | a3⟩
    · exact ⟨a1, a2, Or.inr ⟨fun h => h a3.1, a3.2⟩⟩
    · exact ⟨a1, a2, Or.inl a3⟩
theorem lp_X0_next {E : zE} {T : zT} {N : zN} {P : zP} {I : zI} {R : zR} {e ea pa a0 d : Nat} {pp : Nat → Nat} {r : zg} {c s : Int32} {K : zK E yX0_nextPiece cX0_nextPiece 6 (some .int) (zr0 1 23)} (hE : REe T N P R ea pa pp r e) (hn : Nt (r 10 e) 13) (hk : ∀ p, p < tn (r 10 e) → Nt (r 11 (12 * e + p)) 4) (hd : d < 7) :
    ∀ k p, p + k = tn (r 10 e) → a0 ≤ p → (∀ q, a0 ≤ q → q < p → ¬ canP r e c s d q) → V K (zQf K (zp (nxv (canP r e c s d) a0 (tn (r 10 e))) T N P I R)) T N P I R 0 0 3 [some (.ref ea), some (.int (nI a0)), some (.int c), some (.int s), some (.int (nI d)), some (.int (nI p))] [] := by
  obtain ⟨e1, e2, e3, e4, e5, e6, e7⟩ := id hE
  have hn2 := hn.2
  intro k
  induction k with
  | zero =>
    intro p hp ha hq
    obtain rfl : p = tn (r 10 e) := by omega
    refine v_iload_5 dX0_nextPiece_3 rfl ?_
    refine v_aload_0 dX0_nextPiece_5 rfl ?_
    refine v_getN fl_0_17 (by assumption) rfl (zle rfl) rfl dX0_nextPiece_6 rfl ?_
    refine v_top (e4.trans hn.1) ?_
    refine v_icmp_ge_t (n := 47) (nI_le (a := tn (r 10 e)) (b := tn (r 10 e)) (Nat.le_refl _) (by omega)) dX0_nextPiece_9 (by decide) ?_
    refine v_iconst (v := -1) dX0_nextPiece_47 rfl rfl ?_
    exact v_ireturn rfl (zp_e (nxv_none hq).symm) (zle rfl) (zle rfl) dX0_nextPiece_48
  | succ k ih =>
    intro p hp ha hq
    have hpn : p < tn (r 10 e) := by omega
    obtain ⟨f1, f2, f3, f4, f5, f6, f7⟩ := e5 p hpn
    have hnx : ¬ canP r e c s d p → ∀ q, a0 ≤ q → q < p + 1 → ¬ canP r e c s d q := fun hc q h0 h1 => by
      rcases Nat.lt_or_ge q p with z | z
      · exact hq q h0 z
      · rw [show q = p by omega]; exact hc
    refine v_iload_5 dX0_nextPiece_3 rfl ?_
    refine v_aload_0 dX0_nextPiece_5 rfl ?_
    refine v_getN fl_0_17 (by assumption) rfl (zle rfl) rfl dX0_nextPiece_6 rfl ?_
    refine v_top (e4.trans hn.1) ?_
    refine v_icmp_ge_f (tgt := 47) (nI_ge (a := p) (b := tn (r 10 e)) (by omega) (by omega)) dX0_nextPiece_9 (by decide) rfl ?_
    refine v_iload_3 dX0_nextPiece_12 rfl ?_
    refine v_iload_5 dX0_nextPiece_13 rfl ?_
    refine v_callS (c_X10_has s p (by omega)) yy_X10_has st_X10_has lk_0_31 (zle rfl) (zle rfl) (zle rfl) (zle rfl) rfl rfl (zle rfl) dX0_nextPiece_15 rfl (zp.use ?_)
    refine v_ifz_ne (tgt := 41) dX0_nextPiece_18 (by decide) rfl (fun c18 => ?_) (fun c18 => ?_)
    · refine v_iinc_5 dX0_nextPiece_41 (nI_1 p) rfl (zle rfl) rfl ?_
      refine v_goto (n := 3) dX0_nextPiece_44 (by decide) ?_
      exact ih (p + 1) (by omega) (by omega) (hnx (fun h => h.2.1 c18))
    · refine v_aload_0 dX0_nextPiece_21 rfl ?_
      refine v_getP fl_0_11 (by assumption) (by assumption) rfl (zle rfl) rfl dX0_nextPiece_22 rfl ?_
      refine v_iload_5 dX0_nextPiece_25 rfl ?_
      refine v_aald (j := p) ti_2 (by assumption) rfl (by omega) (zle rfl) f1 dX0_nextPiece_27 rfl ?_
      refine v_iload_2 dX0_nextPiece_28 rfl ?_
      refine v_iload_3 dX0_nextPiece_29 rfl ?_
      refine v_iload_4 dX0_nextPiece_30 rfl ?_
      refine v_callV (ci := 2) (F := TX2) (c_X2_fits (pp p) c s d f2 (by omega)) yy_X2_fits im_X2_fits se_X2_fits lk_0_35 f2 (zle rfl) rfl (zle rfl) (zle rfl) (zle rfl) (zle rfl) rfl rfl (zle rfl) dX0_nextPiece_32 rfl (zp.use ?_)
      refine v_ifz_eq (tgt := 41) dX0_nextPiece_35 (by decide) rfl (fun c35 => ?_) (fun c35 => ?_)
      · refine v_iinc_5 dX0_nextPiece_41 (nI_1 p) rfl (zle rfl) rfl ?_
        refine v_goto (n := 3) dX0_nextPiece_44 (by decide) ?_
        exact ih (p + 1) (by omega) (by omega) (hnx (fun h => c35 ((fit_can f3 f4 f6 f7 (hk p hpn) c18).mpr h)))
      · refine v_iload_5 dX0_nextPiece_38 rfl ?_
        exact v_ireturn rfl (zp_e (nxv_some ha hpn ((fit_can f3 f4 f6 f7 (hk p hpn) c18).mp c35) hq).symm) (zle rfl) (zle rfl) dX0_nextPiece_40
theorem c_X0_nextPiece {E : zE} {T : zT} {N : zN} {P : zP} {I : zI} {R : zR} (e ea pa a0 d : Nat) (pp : Nat → Nat) (r : zg) (c s : Int32) (hE : REe T N P R ea pa pp r e) (hn : Nt (r 10 e) 13) (hk : ∀ p, p < tn (r 10 e) → Nt (r 11 (12 * e + p)) 4) (hd : d < 7) (ha0 : a0 ≤ tn (r 10 e)) : zC E yX0_nextPiece cX0_nextPiece 6 (some .int) (zr0 1 23) [.ref ea, .int (nI a0), .int c, .int s, .int (nI d)] T N P I R (zp (nxv (canP r e c s d) a0 (tn (r 10 e))) T N P I R) := by
  refine zC.intro (ls := [some (.ref ea), some (.int (nI a0)), some (.int c), some (.int s), some (.int (nI d)), none]) pl_RX0 (zle rfl) 1 rfl (fun K => ?_)
  obtain ⟨e1, e2, e3, e4, e5, e6, e7⟩ := id hE
  refine v_iload_1 dX0_nextPiece_0 rfl ?_
  refine v_istore_5 dX0_nextPiece_1 rfl (zle rfl) rfl ?_
  exact lp_X0_next hE hn hk hd (tn (r 10 e) - a0) a0 (by omega) (Nat.le_refl _) (fun q h0 h => absurd h (Nat.not_lt.mpr h0))
