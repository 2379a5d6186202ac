def fb_ct (p : Nat → Bool) : Nat → Nat
  | 0 => 0
  | n + 1 => fb_ct p n + (if p n then 1 else 0)
theorem fb_ct_succ (p : Nat → Bool) (n : Nat) : fb_ct p (n + 1) = fb_ct p n + (if p n then 1 else 0) := rfl
theorem fb_ct_le (p : Nat → Bool) : ∀ n, fb_ct p n ≤ n
  | 0 => Nat.le_refl _
  | n + 1 => by
    have h := fb_ct_le p n
    rw [fb_ct_succ]
    split <;> omega
theorem fb_ct_step (p : Nat → Bool) (m : Nat) : ∀ n, fb_ct p m ≤ fb_ct p (m + n)
  | 0 => Nat.le_refl _
  | n + 1 => by
    have h := fb_ct_step p m n
    show fb_ct p m ≤ fb_ct p (m + n + 1)
    rw [fb_ct_succ]
    omega
theorem fb_ct_mono (p : Nat → Bool) {m n : Nat} (h : m ≤ n) : fb_ct p m ≤ fb_ct p n := by
  have := fb_ct_step p m (n - m)
  rwa [Nat.add_sub_cancel' h] at this
theorem fb_ct_cong {p q : Nat → Bool} : ∀ {n : Nat}, (∀ k, k < n → p k = q k) → fb_ct p n = fb_ct q n
  | 0, _ => rfl
  | n + 1, h => by
    rw [fb_ct_succ, fb_ct_succ, fb_ct_cong (fun k hk => h k (by omega)), h n (by omega)]
/-- one place changed -/
theorem fb_ct_out (p : Nat → Bool) (b : Bool) {i n : Nat} (h : n ≤ i) : fb_ct (fun k => if k = i then b else p k) n = fb_ct p n :=
  fb_ct_cong fun k hk => if_neg (by omega)
theorem fb_ct_upd (p : Nat → Bool) (b : Bool) {i : Nat} : ∀ {n : Nat}, i < n → fb_ct (fun k => if k = i then b else p k) n + (if p i then 1 else 0) = fb_ct p n + (if b then 1 else 0)
  | 0, h => absurd h (Nat.not_lt_zero i)
  | n + 1, h => by
    rw [fb_ct_succ, fb_ct_succ]
    rcases Nat.lt_or_ge i n with q | q
    · have := fb_ct_upd p b q
      have e : (if n = i then b else p n) = p n := if_neg (by omega)
      rw [e]
      omega
    · have e : i = n := by omega
      subst e
      rw [fb_ct_out p b (Nat.le_refl _)]
      simp only [if_true]
      omega
theorem fb_ct_sub {p q : Nat → Bool} : ∀ {n : Nat}, (∀ k, k < n → p k = true → q k = true) → fb_ct p n ≤ fb_ct q n
  | 0, _ => Nat.le_refl _
  | n + 1, h => by
    have h1 := fb_ct_sub (n := n) (p := p) (q := q) (fun k hk => h k (by omega))
    have h2 := h n (by omega)
    rw [fb_ct_succ, fb_ct_succ]
    cases hp : p n <;> cases hq : q n <;> simp_all <;> omega
theorem fb_ct_or {p q : Nat → Bool} : ∀ {n : Nat}, (∀ k, k < n → ¬ (p k = true ∧ q k = true)) → fb_ct (fun k => p k || q k) n = fb_ct p n + fb_ct q n
  | 0, _ => rfl
  | n + 1, h => by
    have h1 := fb_ct_or (n := n) (p := p) (q := q) (fun k hk => h k (by omega))
    have h2 := h n (by omega)
    rw [fb_ct_succ, fb_ct_succ, fb_ct_succ, h1]
    cases hp : p n <;> cases hq : q n <;> simp_all <;> omega
theorem fb_ct_not (p : Nat → Bool) : ∀ n, fb_ct p n + fb_ct (fun k => !p k) n = n
  | 0 => rfl
  | n + 1 => by
    have h := fb_ct_not p n
    rw [fb_ct_succ, fb_ct_succ]
    cases p n <;> simp <;> omega
theorem fb_ct_split (p : Nat → Bool) (m : Nat) : ∀ n, fb_ct p (m + n) = fb_ct p m + fb_ct (fun k => p (m + k)) n
  | 0 => rfl
  | n + 1 => by
    have h := fb_ct_split p m n
    show fb_ct p (m + n + 1) = _
    rw [fb_ct_succ, fb_ct_succ, h, Nat.add_assoc]
theorem fb_ct_zero {p : Nat → Bool} : ∀ {n : Nat}, fb_ct p n = 0 ↔ ∀ k, k < n → p k = false
  | 0 => ⟨fun _ k hk => absurd hk (Nat.not_lt_zero k), fun _ => rfl⟩
  | n + 1 => by
    have h := fb_ct_zero (p := p) (n := n)
    rw [fb_ct_succ]
    constructor
    · intro e k hk
      have e1 : fb_ct p n = 0 := by omega
      rcases Nat.lt_or_ge k n with q | q
      · exact h.mp e1 k q
      · have ek : k = n := by omega
        subst ek
        cases hp : p k
        · rfl
        · simp [hp] at e
    · intro a
      rw [h.mpr (fun k hk => a k (by omega)), a n (by omega)]
      rfl
theorem fb_ct_pos {p : Nat → Bool} {n : Nat} : 0 < fb_ct p n ↔ ∃ k, k < n ∧ p k = true := by
  constructor
  · intro h
    refine Classical.byContradiction fun hx => ?_
    have := fb_ct_zero.mpr (fun k hk => by
      cases hp : p k
      · rfl
      · exact absurd ⟨k, hk, hp⟩ hx : ∀ k, k < n → p k = false)
    omega
  · rintro ⟨k, hk, hp⟩
    rcases Nat.eq_zero_or_pos (fb_ct p n) with e | e
    · have := fb_ct_zero.mp e k hk
      rw [this] at hp
      cases hp
    · exact e
theorem fb_ct_all {p : Nat → Bool} {n : Nat} : fb_ct p n = n ↔ ∀ k, k < n → p k = true := by
  have h := fb_ct_not p n
  constructor
  · intro e k hk
    have z : fb_ct (fun k => !p k) n = 0 := by omega
    have := fb_ct_zero.mp z k hk
    cases hp : p k
    · simp [hp] at this
    · rfl
  · intro a
    have z : fb_ct (fun k => !p k) n = 0 := fb_ct_zero.mpr (fun k hk => by simp [a k hk])
    omega
/-- the k-th place with the property -/
theorem fb_ct_kth {p : Nat → Bool} {k : Nat} : ∀ {n : Nat}, k < fb_ct p n → ∃ i, i < n ∧ p i = true ∧ fb_ct p i = k
  | 0, h => absurd h (Nat.not_lt_zero k)
  | n + 1, h => by
    rcases Nat.lt_or_ge k (fb_ct p n) with q | q
    · obtain ⟨i, h1, h2⟩ := fb_ct_kth q
      exact ⟨i, by omega, h2⟩
    · rw [fb_ct_succ] at h
      cases hp : p n
      · simp [hp] at h; omega
      · simp [hp] at h
        exact ⟨n, by omega, hp, by omega⟩
theorem fb_ct_kth_one {p : Nat → Bool} {i j : Nat} (hi : p i = true) (hj : p j = true) (e : fb_ct p i = fb_ct p j) : i = j := by
  have key : ∀ a b : Nat, a < b → p a = true → fb_ct p a < fb_ct p b := by
    intro a b hab ha
    have h := fb_ct_mono p (show a + 1 ≤ b from hab)
    rw [fb_ct_succ, ha] at h
    simp at h
    omega
  rcases Nat.lt_trichotomy i j with q | q | q
  · have := key i j q hi; omega
  · exact q
  · have := key j i q hj; omega
theorem bt_one {i : Nat} (hi : i < 32) : bt 1 i = decide (i = 0) := (by decide +kernel : ∀ i, i < 32 → bt 1 i = decide (i = 0)) i hi
/-- one more of a set -/
abbrev hset (h : Int32) (p : Nat) : Int32 := h ||| (1 : Int32) <<< (nI p &&& 31)
theorem bt_set {h : Int32} {p q : Nat} (hp : p < 32) : bt (hset h p) q = if q = p then true else bt h q := by
  unfold hset
  rcases Nat.lt_or_ge q 32 with hq | hq
  · rw [b_or, b_shl p hp 1 hq]
    by_cases e : q = p
    · subst e
      simp [bt_one]
    · rw [if_neg e]
      by_cases hl : p ≤ q
      · rw [bt_one (by omega)]
        have : ¬ q - p = 0 := by omega
        simp [this]
      · simp [hl]
  · rw [b_big hq, b_big hq, if_neg (by omega)]
/-- how many of the first n aren't in a set -/
def mu (h : Int32) (n : Nat) : Nat := fb_ct (fun p => !bt h p) n
theorem mu_step {h : Int32} {p n : Nat} (hp : p < n) (hn : n ≤ 32) (hb : ¬ bt h p = true) : mu (hset h p) n + 1 = mu h n := by
  have e : (fun q => !bt (hset h p) q) = fun q => if q = p then false else !bt h q := by
    funext q
    rw [bt_set (by omega)]
    by_cases hq : q = p <;> simp [hq]
  unfold mu
  rw [e]
  have e2 : (!bt h p) = true := by simp [hb]
  have := fb_ct_upd (fun q => !bt h q) false hp
  simp only [e2, if_true, Bool.false_eq_true, if_false] at this
  omega
theorem mu_0 {h : Int32} {n : Nat} (hm : mu h n = 0) : ∀ p, p < n → bt h p = true := fun p hp => by
  have := (fb_ct_zero.mp hm) p hp
  simpa using this
theorem mu_le (h : Int32) (n : Nat) : mu h n ≤ n := fb_ct_le _ n
/-- nothing more is told: over, or nothing can be -/
def stl (r : zg) (e np : Nat) (c : Int32) (d : Nat) (h : Int32) : Prop := ovr r e h np ∨ ∀ q, 0 ≤ q → q < np → ¬ canP r e c h d q
abbrev zl : Type := Int32 × Int32 × Int32 × Int32
/-- one piece is told: heard, time, last, how many -/
noncomputable def ls1 (r : zg) (e p : Nat) (z : zl) : zl := (hset z.1 p, z.2.1 + r 13 (12 * e + p), nI p, z.2.2.2 + 1)
noncomputable def lsn (r : zg) (e np : Nat) (c : Int32) (d : Nat) : Nat → zl → zl
  | 0, z => z
  | k + 1, z => zi (stl r e np c d z.1) z (lsn r e np c d k (ls1 r e (lsf (canP r e c z.1 d) 0 np) z))
theorem lsn_st {r : zg} {e np d k : Nat} {c : Int32} {z : zl} (h : stl r e np c d z.1) : lsn r e np c d k z = z := by
  cases k with
  | zero => rfl
  | succ k => exact zi_t h
theorem lsn_go {r : zg} {e np d k p : Nat} {c : Int32} {z : zl} (h : ¬ ovr r e z.1 np) (h2 : p < np) (h3 : canP r e c z.1 d p) (h4 : ∀ q, 0 ≤ q → q < p → ¬ canP r e c z.1 d q) : lsn r e np c d (k + 1) z = lsn r e np c d k (ls1 r e p z) := by
  show zi _ _ _ = _
  rw [zi_f (fun g => g.elim h (fun g => g p (Nat.zero_le _) h2 h3)), lsf_some (Nat.zero_le _) h2 h3 h4]
/-- behind it nothing more is told -/
theorem lsn_done {r : zg} {e np d : Nat} {c : Int32} (hnp : np ≤ 12) : ∀ (k : Nat) (z : zl), mu z.1 np ≤ k → stl r e np c d (lsn r e np c d k z).1 := by
  intro k
  induction k with
  | zero =>
    intro z hz
    have hz0 : mu z.1 np = 0 := by omega
    exact Or.inr (fun q _ h2 h3 => h3.2.1 (mu_0 hz0 q h2))
  | succ k ih =>
    intro z hz
    by_cases h : stl r e np c d z.1
    · rw [lsn_st h]; exact h
    · have h1 : ¬ ovr r e z.1 np := fun g => h (Or.inl g)
      rcases nxv_or (canP r e c z.1 d) 0 np with ⟨-, g⟩ | ⟨p, g0, g1, g2, g3, g4⟩
      · exact absurd (Or.inr g) h
      · rw [lsn_go h1 g1 g2 g3]
        refine ih _ ?_
        have := mu_step g1 (by omega) g2.2.1
        show mu (hset z.1 p) np ≤ k
        omega
/-- a walker's cell with what was told -/
def NZ (N : zN) (w : Nat) (z : zl) : zN := u3 (u3 (u3 N 8 4 w z.1) 8 5 w z.2.1) 8 6 w z.2.2.1
theorem NZ4 {N : zN} {w : Nat} {z : zl} : NZ N w z 8 4 w = z.1 := by simp [NZ, u3]
theorem NZ5 {N : zN} {w : Nat} {z : zl} : NZ N w z 8 5 w = z.2.1 := by simp [NZ, u3]
theorem NZ6 {N : zN} {w : Nat} {z : zl} : NZ N w z 8 6 w = z.2.2.1 := by simp [NZ, u3]
theorem NZ_s {N : zN} {w : Nat} {z : zl} {a b c n : Int32} : u3 (u3 (u3 (NZ N w z) 8 4 w a) 8 5 w b) 8 6 w c = NZ N w (a, b, c, n) := by
  funext i j k
  unfold NZ u3
  by_cases hi : i = 8 <;> by_cases hk : k = w <;> by_cases h4 : j = 4 <;> by_cases h5 : j = 5 <;> by_cases h6 : j = 6 <;> simp_all
theorem NZ_0 {N : zN} {w : Nat} {n : Int32} : NZ N w (N 8 4 w, N 8 5 w, N 8 6 w, n) = N := by
  funext i j k
  unfold NZ u3
  by_cases hi : i = 8 <;> by_cases hk : k = w <;> by_cases h4 : j = 4 <;> by_cases h5 : j = 5 <;> by_cases h6 : j = 6 <;> simp_all
theorem c_X8_isOver {E : zE} {T : zT} {N : zN} {P : zP} {I : zI} {R : zR} (w ea : Nat) (hw : (T w).1 = 18) (hp : P 8 0 w = some ea) (he : (T ea).1 = 10) : zC E yX8_isOver cX8_isOver 1 (some .boolean) (zr0 1 21) [.ref w] T N P I R (zp (zb (¬ N 8 4 w &&& N 0 2 ea = 0)) T N P I R) := by
  refine zC.intro (ls := [some (.ref w)]) pl_RX8 (zle rfl) 0 rfl (fun K => ?_)
  refine v_aload_0 dX8_isOver_0 rfl ?_
  refine v_getP fl_8_30 (by assumption) (by assumption) rfl (zle rfl) rfl dX8_isOver_1 rfl ?_
  refine v_aload_0 dX8_isOver_4 rfl ?_
  refine v_getN fl_8_15 (by assumption) rfl (zle rfl) rfl dX8_isOver_5 rfl ?_
  refine v_callV (ci := 0) (F := TX0) (c_X0_isOver ea _ he) yy_X0_isOver im_X0_isOver se_X0_isOver lk_8_41 he (zle rfl) rfl (zle rfl) (zle rfl) (zle rfl) (zle rfl) rfl rfl (zle rfl) dX8_isOver_8 rfl (zp.use ?_)
  exact v_zreturn rfl (zb_nar _) (zp.rf) (zle rfl) (zle rfl) dX8_isOver_11
theorem lp_X8_listen {E : zE} {T : zT} {N : zN} {P : zP} {I : zI} {R : zR} {e ea pa d w : Nat} {pp : Nat → Nat} {r : zg} {c : Int32} {K : zK E yX8_listen cX8_listen 6 (some .int) (zr0 2 48)} (hE : REe T N P R ea pa pp r e) (hn : Nt (r 10 e) 13) (hk : ∀ p, p < tn (r 10 e) → Nt (r 11 (12 * e + p)) 4) (hd : d < 7) (hw : (T w).1 = 18) (hp : P 8 0 w = some ea) (hc : N 8 3 w = c) :
    ∀ k n (z : zl) (o4 o5 : Option Value), n + k = 12 → zpv o4 = true → V K (zQf K (zp (lsn r e (tn (r 10 e)) c d k z).2.2.2 T (NZ N w (lsn r e (tn (r 10 e)) c d k z)) P I R)) T (NZ N w z) P I R 0 0 4 [some (.ref w), some (.int (nI d)), some (.int z.2.2.2), some (.int (nI n)), o4, o5] [] := by
  obtain ⟨e1, e2, e3, e4, e5, e6, e7⟩ := id hE
  have hn2 := hn.2
  intro k
  induction k with
  | zero =>
    intro n z o4 o5 hkn h4
    obtain rfl : n = 12 := by omega
    refine v_iload_3 dX8_listen_4 rfl ?_
    refine v_bipush (v := 12) dX8_listen_5 rfl rfl ?_
    refine v_icmp_ge_t (n := 97) (by decide) dX8_listen_7 (by decide) ?_
    refine v_iload_2 dX8_listen_97 rfl ?_
    exact v_ireturn rfl (zp.rf) (zle rfl) (zle rfl) dX8_listen_98
  | succ k ih =>
    intro n z o4 o5 hkn h4
    refine v_iload_3 dX8_listen_4 rfl ?_
    refine v_bipush (v := 12) dX8_listen_5 rfl rfl ?_
    refine v_icmp_ge_f (tgt := 97) (nI_ge (a := n) (b := 12) (by omega) (zle rfl)) dX8_listen_7 (by decide) rfl ?_
    refine v_aload_0 dX8_listen_10 rfl ?_
    refine v_callV (ci := 8) (F := TX8) (c_X8_isOver w ea hw hp e1) yy_X8_isOver im_X8_isOver se_X8_isOver lk_8_47 hw (zle rfl) rfl (zle rfl) (zle rfl) (zle rfl) (zle rfl) rfl rfl (zle rfl) dX8_listen_11 rfl (zp.use ?_)
    refine v_top (zb_iff (q := ovr r e z.1 (tn (r 10 e))) (by rw [NZ4]; exact ends_ovr hE (by omega) z.1)) ?_
    refine v_ifz_ne (tgt := 97) dX8_listen_14 (by decide) rfl (fun c14 => ?_) (fun c14 => ?_)
    · refine v_iload_2 dX8_listen_97 rfl ?_
      exact v_ireturn rfl (by
        rw [lsn_st (Or.inl c14)]
        exact zp.rf) (zle rfl) (zle rfl) dX8_listen_98
    · refine v_aload_0 dX8_listen_17 rfl ?_
      refine v_getP fl_8_30 (by assumption) (by assumption) rfl (zle rfl) rfl dX8_listen_18 rfl ?_
      refine v_iconst (v := 0) dX8_listen_21 rfl rfl ?_
      refine v_top (show (0 : Int32) = nI 0 from rfl) ?_
      refine v_aload_0 dX8_listen_22 rfl ?_
      refine v_getN fl_8_9 (by assumption) rfl (zle rfl) rfl dX8_listen_23 rfl ?_
      refine v_top hc ?_
      refine v_aload_0 dX8_listen_26 rfl ?_
      refine v_getN fl_8_15 (by assumption) rfl (zle rfl) rfl dX8_listen_27 rfl ?_
      refine v_top NZ4 ?_
      refine v_iload_1 dX8_listen_30 rfl ?_
      refine v_callV (ci := 0) (F := TX0) (c_X0_nextPiece (N := NZ N w z) e ea pa 0 d pp r c z.1 hE hn hk hd (Nat.zero_le _)) yy_X0_nextPiece im_X0_nextPiece se_X0_nextPiece lk_8_50 e1 (zle rfl) rfl (zle rfl) (zle rfl) (zle rfl) (zle rfl) rfl rfl (zle rfl) dX8_listen_31 rfl (zp.use ?_)
      rcases nxv_or (canP r e c z.1 d) 0 (tn (r 10 e)) with ⟨g1, g2⟩ | ⟨p, g0, g1, g2, g3, g4⟩
      · refine v_top g1 ?_
        refine v_istore_4 dX8_listen_34 rfl (zle rfl) rfl ?_
        refine v_aload_0 dX8_listen_36 rfl ?_
        refine v_getP fl_8_30 (by assumption) (by assumption) rfl (zle rfl) rfl dX8_listen_37 rfl ?_
        refine v_iload_4 dX8_listen_40 rfl ?_
        refine v_callV (ci := 0) (F := TX0) (c_X0_findPiece_n ea (-1) e1 (fun h => absurd h.1 (by decide))) yy_X0_findPiece im_X0_findPiece se_X0_findPiece lk_8_54 e1 (zle rfl) rfl (zle rfl) (zle rfl) (zle rfl) (zle rfl) rfl rfl (zle rfl) dX8_listen_42 rfl (za.use ?_)
        refine v_astoreN_5 dX8_listen_45 rfl (zle rfl) rfl ?_
        refine v_aloadN_5 dX8_listen_47 rfl ?_
        refine v_ifnonnullN dX8_listen_49 rfl ?_
        refine v_goto (n := 97) dX8_listen_52 (by decide) ?_
        refine v_iload_2 dX8_listen_97 rfl ?_
        exact v_ireturn rfl (by
            rw [lsn_st (Or.inr g2)]
            exact zp.rf) (zle rfl) (zle rfl) dX8_listen_98
      · refine v_top g4 ?_
        obtain ⟨f1, f2, f3, f4, f5, f6, f7⟩ := e5 p g1
        have hpw : 0 ≤ nI p ∧ nI p ≤ NZ N w z 0 1 ea - 1 := by
          show 0 ≤ nI p ∧ nI p ≤ N 0 1 ea - 1
          rw [e4]
          exact (hn.within (by decide)).mpr (Nt.of_nI g1 (by omega))
        refine v_istore_4 dX8_listen_34 rfl (zle rfl) rfl ?_
        refine v_aload_0 dX8_listen_36 rfl ?_
        refine v_getP fl_8_30 (by assumption) (by assumption) rfl (zle rfl) rfl dX8_listen_37 rfl ?_
        refine v_iload_4 dX8_listen_40 rfl ?_
        refine v_callV (ci := 0) (F := TX0) (c_X0_findPiece ea pa p (pp p) e1 e2 e3 hpw (by omega) f1) yy_X0_findPiece im_X0_findPiece se_X0_findPiece lk_8_54 e1 (zle rfl) rfl (zle rfl) (zle rfl) (zle rfl) (zle rfl) rfl rfl (zle rfl) dX8_listen_42 rfl (za.use ?_)
        refine v_astore_5 dX8_listen_45 rfl (zle rfl) rfl ?_
        refine v_aload_5 dX8_listen_47 rfl ?_
        refine v_ifnonnull (n := 55) dX8_listen_49 (by decide) ?_
        refine v_aload_0 dX8_listen_55 rfl ?_
        refine v_dup dX8_listen_56 rfl rfl ?_
        refine v_getN fl_8_15 (by assumption) rfl (zle rfl) rfl dX8_listen_57 rfl ?_
        refine v_top NZ4 ?_
        refine v_iconst (v := 1) dX8_listen_60 rfl rfl ?_
        refine v_iload_4 dX8_listen_61 rfl ?_
        refine v_ishl dX8_listen_63 rfl ?_
        refine v_ior dX8_listen_64 rfl ?_
        refine v_putN fw_8_15 (by assumption) rfl (zle rfl) rfl (fun h => by cases h) rfl rfl dX8_listen_65 rfl ?_
        refine v_aload_0 dX8_listen_68 rfl ?_
        refine v_dup dX8_listen_69 rfl rfl ?_
        refine v_getN fl_8_18 (by assumption) rfl (zle rfl) rfl dX8_listen_70 rfl ?_
        refine v_top (show u3 (NZ N w z) 8 4 w _ 8 5 w = z.2.1 from NZ5) ?_
        refine v_aload_5 dX8_listen_73 rfl ?_
        refine v_getN fl_8_58 f2 rfl (zle rfl) rfl dX8_listen_75 rfl ?_
        refine v_top (show N 2 2 (pp p) = r 13 (12 * e + p) from f5) ?_
        refine v_iadd dX8_listen_78 rfl ?_
        refine v_putN fw_8_18 (by assumption) rfl (zle rfl) rfl (fun h => by cases h) rfl rfl dX8_listen_79 rfl ?_
        refine v_aload_0 dX8_listen_82 rfl ?_
        refine v_iload_4 dX8_listen_83 rfl ?_
        refine v_putN fw_8_21 (by assumption) rfl (zle rfl) rfl (fun h => by cases h) rfl rfl dX8_listen_85 rfl ?_
        rw [NZ_s (n := z.2.2.2 + 1)]
        refine v_iinc_2 (b := z.2.2.2 + 1) dX8_listen_88 rfl rfl (zle rfl) rfl ?_
        refine v_iinc_3 dX8_listen_91 (nI_1 n) rfl (zle rfl) rfl ?_
        refine v_goto (n := 4) dX8_listen_94 (by decide) ?_
        rw [lsn_go c14 g1 g2 g3]
        exact ih (n + 1) (ls1 r e p z) _ _ (by omega) rfl
theorem c_X8_listen {E : zE} {T : zT} {N : zN} {P : zP} {I : zI} {R : zR} (e ea pa d w : Nat) (pp : Nat → Nat) (r : zg) (c : Int32) (hE : REe T N P R ea pa pp r e) (hn : Nt (r 10 e) 13) (hk : ∀ p, p < tn (r 10 e) → Nt (r 11 (12 * e + p)) 4) (hd : d < 7) (hw : (T w).1 = 18) (hp : P 8 0 w = some ea) (hc : N 8 3 w = c) : zC E yX8_listen cX8_listen 6 (some .int) (zr0 2 48) [.ref w, .int (nI d)] T N P I R (zp (lsn r e (tn (r 10 e)) c d 12 (N 8 4 w, N 8 5 w, N 8 6 w, 0)).2.2.2 T (NZ N w (lsn r e (tn (r 10 e)) c d 12 (N 8 4 w, N 8 5 w, N 8 6 w, 0))) P I R) := by
  refine zC.intro (ls := [some (.ref w), some (.int (nI d)), none, none, none, none]) pl_RX8 (zle rfl) 4 rfl (fun K => ?_)
  refine v_iconst (v := 0) dX8_listen_0 rfl rfl ?_
  refine v_istore_2 dX8_listen_1 rfl (zle rfl) rfl ?_
  refine v_iconst (v := 0) dX8_listen_2 rfl rfl ?_
  refine v_istore_3 dX8_listen_3 rfl (zle rfl) rfl ?_
  refine v_heap rfl (NZ_0 (N := N) (w := w) (n := 0)).symm rfl rfl rfl ?_
  exact lp_X8_listen hE hn hk hd hw hp hc 12 0 (N 8 4 w, N 8 5 w, N 8 6 w, 0) _ _ rfl rfl
