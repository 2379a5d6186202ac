theorem fd_n {n : Int32} (h : 1 ≤ n ∧ n ≤ 8) : ∃ k, k ≤ 8 ∧ n = nI k := by
  have q := rng_nt (b := 9) (Int32.le_trans (by decide : (0 : Int32) ≤ 1) h.1) h.2 (by decide)
  exact ⟨tn n, Nat.le_of_lt_succ q.2, q.1⟩
theorem fd_t {x n : Int32} (hx : Nt x 201) (k : Nat) (hk : k ≤ 8) (hn : n = nI k) (h : x + n ≤ 200) : tn x + k ≤ 200 := by
  have h2 := hx.2
  rw [hn, hx.1, nI_add, Int32.le_iff_toInt_le, nI_toInt (by omega)] at h
  have e : (200 : Int32).toInt = 200 := rfl
  omega
theorem ed_e {x c : Int32} (h : Nt c 5) (hx : 0 ≤ x ∧ x ≤ c - 1) : x = nI (tn x) ∧ tn x < 4 := by
  have q := (h.within (by decide)).mp hx
  have h2 := h.2
  exact ⟨q.1, Nat.lt_of_lt_of_le q.2 (by omega)⟩
theorem ed_i {f : zf} {r : zg} (h : Inv f r) {x p : Int32} (hx : (0 ≤ x ∧ x ≤ f 9 - 1) ∧ (0 ≤ p ∧ p ≤ r 10 (tn x) - 1)) : 12 * x + p = nI (12 * tn x + tn p) ∧ 12 * tn x + tn p < 48 := by
  have q := (h.1.2.2.1.within (by decide)).mp hx.1
  have h4 := h.1.2.2.1.2
  have t := (h.2.2.2.1 (tn x) q.2).1
  have t2 := t.2
  have s := (t.within (by decide)).mp hx.2
  have q2 := q.2
  have s2 := s.2
  refine ⟨?_, by omega⟩
  conv => lhs; rw [q.1, s.1]
  rw [show (12 : Int32) = nI 12 from rfl, pk_mul, nI_add]
theorem sh_q {s : Int32} (h : 0 ≤ s ∧ s ≤ 3) : ∃ q, q < 4 ∧ s = nI q := by
  have q := rng_nt (b := 4) h.1 h.2 (by decide)
  exact ⟨tn s, q.2, q.1⟩
theorem sh_n {s : Int32} (h : 0 ≤ s ∧ s ≤ 3) : s = nI (tn s) ∧ tn s < 4 := rng_nt (b := 4) h.1 h.2 (by decide)
theorem sh_i {r : zg} (h : iS r) {s i : Int32} (hs : 0 ≤ s ∧ s ≤ 3) (hi : 0 ≤ i ∧ i ≤ r 29 (tn s) - 1) : 12 * s + i = nI (12 * tn s + tn i) ∧ 12 * tn s + tn i < 48 := by
  have q := sh_n hs
  have t := h (tn s) q.2
  have t2 := t.2
  have u := (t.within (by decide)).mp hi
  have q2 := q.2
  have u2 := u.2
  refine ⟨?_, by omega⟩
  conv => lhs; rw [q.1, u.1]
  rw [show (12 : Int32) = nI 12 from rfl, pk_mul, nI_add]
theorem S_corner {E : zE} {nm : String} {K : zK E (yL nm) code 4 ret room_1} {Qf : State → Prop} {T : zT} {N : zN} {P : zP} {I : zI} {R : zR} {s0 L i x m : Nat} {xs : Nat → Int32} {ad : Nat → Nat} {b : Nat → Nat → Nat} {g : Nat} {f : zf} {r : zg} {kc ks : Nat} {n : Nat} (hX : zSc K s0 L xs) (hl : L < 2 ^ 31) (hi : i + 5 < L) (hS : LB T N P I R x m ad b g f r) (hR : Rm n g kc ks) (hn : n < 512) (kk : ∀ (T : zT) (N : zN) (P : zP) (I : zI) (R : zR) (b : Nat → Nat → Nat) (g : Nat) (f : zf) (r : zg) (kc ks : Nat), LB T N P I R x m ad b g f r → Rm (n + 1) g kc ks → V K Qf T N P I R kc ks 1202 [some (.ref s0), some (.ref x), some (.ref m), some (.int (nI i))] []) : V K Qf T N P I R kc ks 144 [some (.ref s0), some (.ref x), some (.ref m), some (.int (nI i))] [] := by
  have hI : Inv f r := hS.2.2.2.2
  obtain ⟨y1, y2⟩ := hR.b hn hS.1.2.2.1.1
  exact L_corner hX hl hi rfl rfl hS (c_X10_corner x (Mnn m ad) b g f r (xs (i + 1)) (xs (i + 2)) hS.1 hI.1.1) (fun T N P I R hM hf hr => by
    have hJ : Inv (mf N m) (mr I ad) := by rw [hf, hr]; exact hI
    have q := c_X11_corner (E := E) (T := T) (N := N) (P := P) (I := I) (R := R) m ad (xs (i + 1)) (xs (i + 2)) hM hJ.1.1
    rw [hf, hr] at q
    exact q) (i_corner hI (xs (i + 1)) (xs (i + 2))) (by omega) (by omega) (fun T N P I R b h => kk T N P I R b _ _ _ _ _ h (hR.st (zle rfl) (zle rfl)))
theorem S_way {E : zE} {nm : String} {K : zK E (yL nm) code 4 ret room_1} {Qf : State → Prop} {T : zT} {N : zN} {P : zP} {I : zI} {R : zR} {s0 L i x m : Nat} {xs : Nat → Int32} {ad : Nat → Nat} {b : Nat → Nat → Nat} {g : Nat} {f : zf} {r : zg} {kc ks : Nat} {n : Nat} (hX : zSc K s0 L xs) (hl : L < 2 ^ 31) (hi : i + 5 < L) (hS : LB T N P I R x m ad b g f r) (hR : Rm n g kc ks) (hn : n < 512) (kk : ∀ (T : zT) (N : zN) (P : zP) (I : zI) (R : zR) (b : Nat → Nat → Nat) (g : Nat) (f : zf) (r : zg) (kc ks : Nat), LB T N P I R x m ad b g f r → Rm (n + 1) g kc ks → V K Qf T N P I R kc ks 1202 [some (.ref s0), some (.ref x), some (.ref m), some (.int (nI i))] []) : V K Qf T N P I R kc ks 177 [some (.ref s0), some (.ref x), some (.ref m), some (.int (nI i))] [] := by
  have hI : Inv f r := hS.2.2.2.2
  obtain ⟨y1, y2⟩ := hR.b hn hS.1.2.2.1.1
  exact L_way hX hl hi rfl rfl rfl rfl hS (c_X10_way x (Mnn m ad) b g f r (xs (i + 1)) (xs (i + 2)) (xs (i + 3)) (¬ (xs (i + 4)) = 0) hS.1 hI.1.2.1 hI.2.2.2.2.2.2.1 (Mnn.t hS.2.1)) (fun T N P I R hM hf hr => by
    have hJ : Inv (mf N m) (mr I ad) := by rw [hf, hr]; exact hI
    have q := c_X11_way (E := E) (T := T) (N := N) (P := P) (I := I) (R := R) m ad (xs (i + 1)) (xs (i + 2)) (xs (i + 3)) (¬ (xs (i + 4)) = 0) hM hJ.1.2.1
    rw [hf, hr] at q
    exact q) (i_way hI (xs (i + 1)) (xs (i + 2)) (xs (i + 3)) (¬ (xs (i + 4)) = 0)) (by omega) (by omega) (fun T N P I R b h => kk T N P I R b _ _ _ _ _ h (hR.st (zle rfl) (zle rfl)))
theorem S_shut {E : zE} {nm : String} {K : zK E (yL nm) code 4 ret room_1} {Qf : State → Prop} {T : zT} {N : zN} {P : zP} {I : zI} {R : zR} {s0 L i x m : Nat} {xs : Nat → Int32} {ad : Nat → Nat} {b : Nat → Nat → Nat} {g : Nat} {f : zf} {r : zg} {kc ks : Nat} {n : Nat} (hX : zSc K s0 L xs) (hl : L < 2 ^ 31) (hi : i + 5 < L) (hS : LB T N P I R x m ad b g f r) (hR : Rm n g kc ks) (hn : n < 512) (kk : ∀ (T : zT) (N : zN) (P : zP) (I : zI) (R : zR) (b : Nat → Nat → Nat) (g : Nat) (f : zf) (r : zg) (kc ks : Nat), LB T N P I R x m ad b g f r → Rm (n + 1) g kc ks → V K Qf T N P I R kc ks 1202 [some (.ref s0), some (.ref x), some (.ref m), some (.int (nI i))] []) : V K Qf T N P I R kc ks 246 [some (.ref s0), some (.ref x), some (.ref m), some (.int (nI i))] [] := by
  have hI : Inv f r := hS.2.2.2.2
  obtain ⟨y1, y2⟩ := hR.b hn hS.1.2.2.1.1
  exact L_shut hX hl hi rfl rfl hS (c_X10_shut x (Mnn m ad) b g f r (xs (i + 1)) (xs (i + 2)) hS.1 hI.1.2.1) (fun T N P I R hM hf hr => by
    have hJ : Inv (mf N m) (mr I ad) := by rw [hf, hr]; exact hI
    have q := c_X11_shut (E := E) (T := T) (N := N) (P := P) (I := I) (R := R) m ad (xs (i + 1)) (xs (i + 2)) hM (Nt.within hJ.1.2.1 (by decide)).mp (Nat.le_of_lt_succ hJ.1.2.1.2)
    rw [hf, hr] at q
    exact q) (i_shut hI (xs (i + 1)) (xs (i + 2))) (by omega) (by omega) (fun T N P I R b h => kk T N P I R b _ _ _ _ _ h (hR.st (zle rfl) (zle rfl)))
theorem S_far {E : zE} {nm : String} {K : zK E (yL nm) code 4 ret room_1} {Qf : State → Prop} {T : zT} {N : zN} {P : zP} {I : zI} {R : zR} {s0 L i x m : Nat} {xs : Nat → Int32} {ad : Nat → Nat} {b : Nat → Nat → Nat} {g : Nat} {f : zf} {r : zg} {kc ks : Nat} {n : Nat} (hX : zSc K s0 L xs) (hl : L < 2 ^ 31) (hi : i + 5 < L) (hS : LB T N P I R x m ad b g f r) (hR : Rm n g kc ks) (hn : n < 512) (kk : ∀ (T : zT) (N : zN) (P : zP) (I : zI) (R : zR) (b : Nat → Nat → Nat) (g : Nat) (f : zf) (r : zg) (kc ks : Nat), LB T N P I R x m ad b g f r → Rm (n + 1) g kc ks → V K Qf T N P I R kc ks 1202 [some (.ref s0), some (.ref x), some (.ref m), some (.int (nI i))] []) : V K Qf T N P I R kc ks 279 [some (.ref s0), some (.ref x), some (.ref m), some (.int (nI i))] [] := by
  have hI : Inv f r := hS.2.2.2.2
  obtain ⟨y1, y2⟩ := hR.b hn hS.1.2.2.1.1
  exact L_far hX hl hi rfl rfl rfl rfl hS (c_X10_far x (Mnn m ad) b g f r (xs (i + 1)) (xs (i + 2)) (xs (i + 3)) (¬ (xs (i + 4)) = 0) hS.1 hI.sr) (fun T N P I R hM hf hr => by
    have hJ : Inv (mf N m) (mr I ad) := by rw [hf, hr]; exact hI
    have q := c_X11_far (E := E) (T := T) (N := N) (P := P) (I := I) (R := R) m ad (xs (i + 1)) (xs (i + 2)) (xs (i + 3)) (¬ (xs (i + 4)) = 0) hM hJ.sr
    rw [hf, hr] at q
    exact q) (i_far hI (xs (i + 1)) (xs (i + 2)) (xs (i + 3)) (¬ (xs (i + 4)) = 0)) (by omega) (by omega) (fun T N P I R b h => kk T N P I R b _ _ _ _ _ h (hR.st (zle rfl) (zle rfl)))
theorem S_feed {E : zE} {nm : String} {K : zK E (yL nm) code 4 ret room_1} {Qf : State → Prop} {T : zT} {N : zN} {P : zP} {I : zI} {R : zR} {s0 L i x m : Nat} {xs : Nat → Int32} {ad : Nat → Nat} {b : Nat → Nat → Nat} {g : Nat} {f : zf} {r : zg} {kc ks : Nat} {n : Nat} (hX : zSc K s0 L xs) (hl : L < 2 ^ 31) (hi : i + 5 < L) (hS : LB T N P I R x m ad b g f r) (hR : Rm n g kc ks) (hn : n < 512) (kk : ∀ (T : zT) (N : zN) (P : zP) (I : zI) (R : zR) (b : Nat → Nat → Nat) (g : Nat) (f : zf) (r : zg) (kc ks : Nat), LB T N P I R x m ad b g f r → Rm (n + 1) g kc ks → V K Qf T N P I R kc ks 1202 [some (.ref s0), some (.ref x), some (.ref m), some (.int (nI i))] []) : V K Qf T N P I R kc ks 348 [some (.ref s0), some (.ref x), some (.ref m), some (.int (nI i))] [] := by
  have hI : Inv f r := hS.2.2.2.2
  obtain ⟨y1, y2⟩ := hR.b hn hS.1.2.2.1.1
  exact L_feed hX hl hi rfl rfl rfl hS (c_X10_feed x (Mnn m ad) b g f r ((xs (i + 1)).toInt64 <<< ((32 : Int32).toInt64 &&& 63) ||| ((xs (i + 2)).toInt64 &&& 4294967295)) (xs (i + 3)) (tn (f 17)) hS.1 hI.1.2.2.2.1.1 (Nat.le_of_lt_succ hI.1.2.2.2.1.2) fd_n (fd_t hI.1.2.2.2.1) (Mnn.b7 hS.2.1 hS.1)) (fun T N P I R hM hf hr => by
    have hJ : Inv (mf N m) (mr I ad) := by rw [hf, hr]; exact hI
    have q := c_X11_feed (E := E) (T := T) (N := N) (P := P) (I := I) (R := R) m ad ((xs (i + 1)).toInt64 <<< ((32 : Int32).toInt64 &&& 63) ||| ((xs (i + 2)).toInt64 &&& 4294967295)) (xs (i + 3)) (tn (mf N m 17)) hM hJ.1.2.2.2.1.1 (Nat.le_of_lt_succ hJ.1.2.2.2.1.2) fd_n (fd_t hJ.1.2.2.2.1)
    rw [hf, hr] at q
    exact q) (i_feed hI ((xs (i + 1)).toInt64 <<< ((32 : Int32).toInt64 &&& 63) ||| ((xs (i + 2)).toInt64 &&& 4294967295)) (xs (i + 3))) (by omega) (by omega) (fun T N P I R b h => kk T N P I R b _ _ _ _ _ h (hR.st (zle rfl) (zle rfl)))
theorem S_story {E : zE} {nm : String} {K : zK E (yL nm) code 4 ret room_1} {Qf : State → Prop} {T : zT} {N : zN} {P : zP} {I : zI} {R : zR} {s0 L i x m : Nat} {xs : Nat → Int32} {ad : Nat → Nat} {b : Nat → Nat → Nat} {g : Nat} {f : zf} {r : zg} {kc ks : Nat} {n : Nat} (hX : zSc K s0 L xs) (hl : L < 2 ^ 31) (hi : i + 5 < L) (hS : LB T N P I R x m ad b g f r) (hR : Rm n g kc ks) (hn : n < 512) (kk : ∀ (T : zT) (N : zN) (P : zP) (I : zI) (R : zR) (b : Nat → Nat → Nat) (g : Nat) (f : zf) (r : zg) (kc ks : Nat), LB T N P I R x m ad b g f r → Rm (n + 1) g kc ks → V K Qf T N P I R kc ks 1202 [some (.ref s0), some (.ref x), some (.ref m), some (.int (nI i))] []) : V K Qf T N P I R kc ks 411 [some (.ref s0), some (.ref x), some (.ref m), some (.int (nI i))] [] := by
  have hI : Inv f r := hS.2.2.2.2
  obtain ⟨y1, y2⟩ := hR.b hn hS.1.2.2.1.1
  exact L_story hX hl hi  hS (c_X10_story x (Mnn m ad) b g f r  hS.1 hI.wk hI.1.1 hI.1.2.2.2.1 hI.2.2.2.2.2.1 (Mnn.t hS.2.1)) (fun T N P I R hM hf hr => by
    have hJ : Inv (mf N m) (mr I ad) := by rw [hf, hr]; exact hI
    have q := c_X11_story (E := E) (T := T) (N := N) (P := P) (I := I) (R := R) m ad  hM hJ.1.1 hJ.1.2.2.1 hJ.1.2.2.2.1 hJ.2.2.2.2.2.1
    rw [hf, hr] at q
    exact q) (i_story hI ) (by omega) (by omega) (fun T N P I R b h => kk T N P I R b _ _ _ _ _ h (hR.st (zle rfl) (zle rfl)))
theorem S_as {E : zE} {nm : String} {K : zK E (yL nm) code 4 ret room_1} {Qf : State → Prop} {T : zT} {N : zN} {P : zP} {I : zI} {R : zR} {s0 L i x m : Nat} {xs : Nat → Int32} {ad : Nat → Nat} {b : Nat → Nat → Nat} {g : Nat} {f : zf} {r : zg} {kc ks : Nat} {n : Nat} (hX : zSc K s0 L xs) (hl : L < 2 ^ 31) (hi : i + 5 < L) (hS : LB T N P I R x m ad b g f r) (hR : Rm n g kc ks) (hn : n < 512) (kk : ∀ (T : zT) (N : zN) (P : zP) (I : zI) (R : zR) (b : Nat → Nat → Nat) (g : Nat) (f : zf) (r : zg) (kc ks : Nat), LB T N P I R x m ad b g f r → Rm (n + 1) g kc ks → V K Qf T N P I R kc ks 1202 [some (.ref s0), some (.ref x), some (.ref m), some (.int (nI i))] []) : V K Qf T N P I R kc ks 424 [some (.ref s0), some (.ref x), some (.ref m), some (.int (nI i))] [] := by
  have hI : Inv f r := hS.2.2.2.2
  obtain ⟨y1, y2⟩ := hR.b hn hS.1.2.2.1.1
  exact L_as hX hl hi rfl rfl rfl hS (c_X10_as x (Mnn m ad) b g f r (xs (i + 1)) (xs (i + 2)) (xs (i + 3)) hS.1 hI.1.2.2.1 (fun e he => (hI.2.2.2.1 e he).1)) (fun T N P I R hM hf hr => by
    have hJ : Inv (mf N m) (mr I ad) := by rw [hf, hr]; exact hI
    have q := c_X11_as (E := E) (T := T) (N := N) (P := P) (I := I) (R := R) m ad (xs (i + 1)) (xs (i + 2)) (xs (i + 3)) hM (ed_e hJ.1.2.2.1) (ed_i hJ)
    rw [hf, hr] at q
    exact q) (i_as hI (xs (i + 1)) (xs (i + 2)) (xs (i + 3))) (by omega) (by omega) (fun T N P I R b h => kk T N P I R b _ _ _ _ _ h (hR.st (zle rfl) (zle rfl)))
theorem S_of {E : zE} {nm : String} {K : zK E (yL nm) code 4 ret room_1} {Qf : State → Prop} {T : zT} {N : zN} {P : zP} {I : zI} {R : zR} {s0 L i x m : Nat} {xs : Nat → Int32} {ad : Nat → Nat} {b : Nat → Nat → Nat} {g : Nat} {f : zf} {r : zg} {kc ks : Nat} {n : Nat} (hX : zSc K s0 L xs) (hl : L < 2 ^ 31) (hi : i + 5 < L) (hS : LB T N P I R x m ad b g f r) (hR : Rm n g kc ks) (hn : n < 512) (kk : ∀ (T : zT) (N : zN) (P : zP) (I : zI) (R : zR) (b : Nat → Nat → Nat) (g : Nat) (f : zf) (r : zg) (kc ks : Nat), LB T N P I R x m ad b g f r → Rm (n + 1) g kc ks → V K Qf T N P I R kc ks 1202 [some (.ref s0), some (.ref x), some (.ref m), some (.int (nI i))] []) : V K Qf T N P I R kc ks 467 [some (.ref s0), some (.ref x), some (.ref m), some (.int (nI i))] [] := by
  have hI : Inv f r := hS.2.2.2.2
  obtain ⟨y1, y2⟩ := hR.b hn hS.1.2.2.1.1
  exact L_of hX hl hi rfl rfl rfl hS (c_X10_of x (Mnn m ad) b g f r (xs (i + 1)) (xs (i + 2)) (xs (i + 3)) hS.1 hI.1.2.2.1 (fun e he => (hI.2.2.2.1 e he).1)) (fun T N P I R hM hf hr => by
    have hJ : Inv (mf N m) (mr I ad) := by rw [hf, hr]; exact hI
    have q := c_X11_of (E := E) (T := T) (N := N) (P := P) (I := I) (R := R) m ad (xs (i + 1)) (xs (i + 2)) (xs (i + 3)) hM (ed_e hJ.1.2.2.1) (ed_i hJ)
    rw [hf, hr] at q
    exact q) (i_of hI (xs (i + 1)) (xs (i + 2)) (xs (i + 3))) (by omega) (by omega) (fun T N P I R b h => kk T N P I R b _ _ _ _ _ h (hR.st (zle rfl) (zle rfl)))
theorem S_walker {E : zE} {nm : String} {K : zK E (yL nm) code 4 ret room_1} {Qf : State → Prop} {T : zT} {N : zN} {P : zP} {I : zI} {R : zR} {s0 L i x m : Nat} {xs : Nat → Int32} {ad : Nat → Nat} {b : Nat → Nat → Nat} {g : Nat} {f : zf} {r : zg} {kc ks : Nat} {n : Nat} (hX : zSc K s0 L xs) (hl : L < 2 ^ 31) (hi : i + 5 < L) (hS : LB T N P I R x m ad b g f r) (hR : Rm n g kc ks) (hn : n < 512) (kk : ∀ (T : zT) (N : zN) (P : zP) (I : zI) (R : zR) (b : Nat → Nat → Nat) (g : Nat) (f : zf) (r : zg) (kc ks : Nat), LB T N P I R x m ad b g f r → Rm (n + 1) g kc ks → V K Qf T N P I R kc ks 1202 [some (.ref s0), some (.ref x), some (.ref m), some (.int (nI i))] []) : V K Qf T N P I R kc ks 737 [some (.ref s0), some (.ref x), some (.ref m), some (.int (nI i))] [] := by
  have hI : Inv f r := hS.2.2.2.2
  obtain ⟨y1, y2⟩ := hR.b hn hS.1.2.2.1.1
  exact L_walker hX hl hi rfl rfl hS (c_X10_walker x (Mnn m ad) b g f r (xs (i + 1)) (¬ (xs (i + 2)) = 0) hS.1 hI.wk hI.2.2.2.2.2.2.2.1 (Mnn.t hS.2.1)) (fun T N P I R hM hf hr => by
    have hJ : Inv (mf N m) (mr I ad) := by rw [hf, hr]; exact hI
    have q := c_X11_walker (E := E) (T := T) (N := N) (P := P) (I := I) (R := R) m ad (xs (i + 1)) (¬ (xs (i + 2)) = 0) hM hJ.wk
    rw [hf, hr] at q
    exact q) (i_walker hI (xs (i + 1)) (¬ (xs (i + 2)) = 0)) (by omega) (by omega) (fun T N P I R b h => kk T N P I R b _ _ _ _ _ h (hR.st (zle rfl) (zle rfl)))
theorem S_today {E : zE} {nm : String} {K : zK E (yL nm) code 4 ret room_1} {Qf : State → Prop} {T : zT} {N : zN} {P : zP} {I : zI} {R : zR} {s0 L i x m : Nat} {xs : Nat → Int32} {ad : Nat → Nat} {b : Nat → Nat → Nat} {g : Nat} {f : zf} {r : zg} {kc ks : Nat} {n : Nat} (hX : zSc K s0 L xs) (hl : L < 2 ^ 31) (hi : i + 5 < L) (hS : LB T N P I R x m ad b g f r) (hR : Rm n g kc ks) (hn : n < 512) (kk : ∀ (T : zT) (N : zN) (P : zP) (I : zI) (R : zR) (b : Nat → Nat → Nat) (g : Nat) (f : zf) (r : zg) (kc ks : Nat), LB T N P I R x m ad b g f r → Rm (n + 1) g kc ks → V K Qf T N P I R kc ks 1202 [some (.ref s0), some (.ref x), some (.ref m), some (.int (nI i))] []) : V K Qf T N P I R kc ks 786 [some (.ref s0), some (.ref x), some (.ref m), some (.int (nI i))] [] := by
  have hI : Inv f r := hS.2.2.2.2
  obtain ⟨y1, y2⟩ := hR.b hn hS.1.2.2.1.1
  exact L_today hX hl hi rfl hS (c_X10_today x (Mnn m ad) b g f r (xs (i + 1)) hS.1 hI.wk) (fun T N P I R hM hf hr => by
    have hJ : Inv (mf N m) (mr I ad) := by rw [hf, hr]; exact hI
    have q := c_X11_today (E := E) (T := T) (N := N) (P := P) (I := I) (R := R) m ad (xs (i + 1)) hM hJ.wk
    rw [hf, hr] at q
    exact q) (i_today hI (xs (i + 1))) (by omega) (by omega) (fun T N P I R b h => kk T N P I R b _ _ _ _ _ h (hR.st (zle rfl) (zle rfl)))
theorem S_go {E : zE} {nm : String} {K : zK E (yL nm) code 4 ret room_1} {Qf : State → Prop} {T : zT} {N : zN} {P : zP} {I : zI} {R : zR} {s0 L i x m : Nat} {xs : Nat → Int32} {ad : Nat → Nat} {b : Nat → Nat → Nat} {g : Nat} {f : zf} {r : zg} {kc ks : Nat} {n : Nat} (hX : zSc K s0 L xs) (hl : L < 2 ^ 31) (hi : i + 5 < L) (hS : LB T N P I R x m ad b g f r) (hR : Rm n g kc ks) (hn : n < 512) (kk : ∀ (T : zT) (N : zN) (P : zP) (I : zI) (R : zR) (b : Nat → Nat → Nat) (g : Nat) (f : zf) (r : zg) (kc ks : Nat), LB T N P I R x m ad b g f r → Rm (n + 1) g kc ks → V K Qf T N P I R kc ks 1202 [some (.ref s0), some (.ref x), some (.ref m), some (.int (nI i))] []) : V K Qf T N P I R kc ks 809 [some (.ref s0), some (.ref x), some (.ref m), some (.int (nI i))] [] := by
  have hI : Inv f r := hS.2.2.2.2
  obtain ⟨y1, y2⟩ := hR.b hn hS.1.2.2.1.1
  exact L_go hX hl hi rfl rfl hS (c_X10_go x (Mnn m ad) b g f r (xs (i + 1)) (xs (i + 2)) hS.1 hI.wk hI.1.2.1 (fun n hn => (hI.2.2.2.2.1 n hn).2.2.1)) (fun T N P I R hM hf hr => by
    have hJ : Inv (mf N m) (mr I ad) := by rw [hf, hr]; exact hI
    have q := c_X11_go (E := E) (T := T) (N := N) (P := P) (I := I) (R := R) m ad (xs (i + 1)) (xs (i + 2)) hM hJ.wk hJ.1.2.1
    rw [hf, hr] at q
    exact q) (i_go hI (xs (i + 1)) (xs (i + 2))) (by omega) (by omega) (fun T N P I R b h => kk T N P I R b _ _ _ _ _ h (hR.st (zle rfl) (zle rfl)))
theorem S_about {E : zE} {nm : String} {K : zK E (yL nm) code 4 ret room_1} {Qf : State → Prop} {T : zT} {N : zN} {P : zP} {I : zI} {R : zR} {s0 L i x m : Nat} {xs : Nat → Int32} {ad : Nat → Nat} {b : Nat → Nat → Nat} {g : Nat} {f : zf} {r : zg} {kc ks : Nat} {n : Nat} (hX : zSc K s0 L xs) (hl : L < 2 ^ 31) (hi : i + 5 < L) (hS : LB T N P I R x m ad b g f r) (hR : Rm n g kc ks) (hn : n < 512) (kk : ∀ (T : zT) (N : zN) (P : zP) (I : zI) (R : zR) (b : Nat → Nat → Nat) (g : Nat) (f : zf) (r : zg) (kc ks : Nat), LB T N P I R x m ad b g f r → Rm (n + 1) g kc ks → V K Qf T N P I R kc ks 1202 [some (.ref s0), some (.ref x), some (.ref m), some (.int (nI i))] []) : V K Qf T N P I R kc ks 842 [some (.ref s0), some (.ref x), some (.ref m), some (.int (nI i))] [] := by
  have hI : Inv f r := hS.2.2.2.2
  obtain ⟨y1, y2⟩ := hR.b hn hS.1.2.2.1.1
  exact L_about hX hl hi rfl rfl hS (c_X10_about x (Mnn m ad) b g f r (xs (i + 1)) (xs (i + 2)) hS.1 hI.wk) (fun T N P I R hM hf hr => by
    have hJ : Inv (mf N m) (mr I ad) := by rw [hf, hr]; exact hI
    have q := c_X11_about (E := E) (T := T) (N := N) (P := P) (I := I) (R := R) m ad (xs (i + 1)) (xs (i + 2)) hM hJ.wk
    rw [hf, hr] at q
    exact q) (i_about hI (xs (i + 1)) (xs (i + 2))) (by omega) (by omega) (fun T N P I R b h => kk T N P I R b _ _ _ _ _ h (hR.st (zle rfl) (zle rfl)))
theorem S_seen {E : zE} {nm : String} {K : zK E (yL nm) code 4 ret room_1} {Qf : State → Prop} {T : zT} {N : zN} {P : zP} {I : zI} {R : zR} {s0 L i x m : Nat} {xs : Nat → Int32} {ad : Nat → Nat} {b : Nat → Nat → Nat} {g : Nat} {f : zf} {r : zg} {kc ks : Nat} {n : Nat} (hX : zSc K s0 L xs) (hl : L < 2 ^ 31) (hi : i + 5 < L) (hS : LB T N P I R x m ad b g f r) (hR : Rm n g kc ks) (hn : n < 512) (kk : ∀ (T : zT) (N : zN) (P : zP) (I : zI) (R : zR) (b : Nat → Nat → Nat) (g : Nat) (f : zf) (r : zg) (kc ks : Nat), LB T N P I R x m ad b g f r → Rm (n + 1) g kc ks → V K Qf T N P I R kc ks 1202 [some (.ref s0), some (.ref x), some (.ref m), some (.int (nI i))] []) : V K Qf T N P I R kc ks 944 [some (.ref s0), some (.ref x), some (.ref m), some (.int (nI i))] [] := by
  have hI : Inv f r := hS.2.2.2.2
  obtain ⟨y1, y2⟩ := hR.b hn hS.1.2.2.1.1
  exact L_seen hX hl hi rfl rfl rfl rfl hS (c_X10_seen x (Mnn m ad) b g f r (xs (i + 1)) (xs (i + 2)) (xs (i + 3)) (xs (i + 4)) hS.1 hI.sn) (fun T N P I R hM hf hr => by
    have hJ : Inv (mf N m) (mr I ad) := by rw [hf, hr]; exact hI
    have q := c_X11_seen (E := E) (T := T) (N := N) (P := P) (I := I) (R := R) m ad (xs (i + 1)) (xs (i + 2)) (xs (i + 3)) (xs (i + 4)) hM hJ.sn
    rw [hf, hr] at q
    exact q) (i_seen hI (xs (i + 1)) (xs (i + 2)) (xs (i + 3)) (xs (i + 4))) (by omega) (by omega) (fun T N P I R b h => kk T N P I R b _ _ _ _ _ h (hR.st (zle rfl) (zle rfl)))
theorem S_sheet {E : zE} {nm : String} {K : zK E (yL nm) code 4 ret room_1} {Qf : State → Prop} {T : zT} {N : zN} {P : zP} {I : zI} {R : zR} {s0 L i x m : Nat} {xs : Nat → Int32} {ad : Nat → Nat} {b : Nat → Nat → Nat} {g : Nat} {f : zf} {r : zg} {kc ks : Nat} {n : Nat} (hX : zSc K s0 L xs) (hl : L < 2 ^ 31) (hi : i + 5 < L) (hS : LB T N P I R x m ad b g f r) (hR : Rm n g kc ks) (hn : n < 512) (kk : ∀ (T : zT) (N : zN) (P : zP) (I : zI) (R : zR) (b : Nat → Nat → Nat) (g : Nat) (f : zf) (r : zg) (kc ks : Nat), LB T N P I R x m ad b g f r → Rm (n + 1) g kc ks → V K Qf T N P I R kc ks 1202 [some (.ref s0), some (.ref x), some (.ref m), some (.int (nI i))] []) : V K Qf T N P I R kc ks 997 [some (.ref s0), some (.ref x), some (.ref m), some (.int (nI i))] [] := by
  have hI : Inv f r := hS.2.2.2.2
  obtain ⟨y1, y2⟩ := hR.b hn hS.1.2.2.1.1
  exact L_sheet hX hl hi rfl rfl rfl hS (c_X10_sheet x (Mnn m ad) b g f r (xs (i + 1)) (xs (i + 2)) (xs (i + 3)) hS.1 sh_q hI.2.2.2.2.2.2.2.2 (Mnn.t hS.2.1)) (fun T N P I R hM hf hr => by
    have hJ : Inv (mf N m) (mr I ad) := by rw [hf, hr]; exact hI
    have q := c_X11_sheet (E := E) (T := T) (N := N) (P := P) (I := I) (R := R) m ad (xs (i + 1)) (xs (i + 2)) (xs (i + 3)) hM sh_n
    rw [hf, hr] at q
    exact q) (i_sheet hI (xs (i + 1)) (xs (i + 2)) (xs (i + 3))) (by omega) (by omega) (fun T N P I R b h => kk T N P I R b _ _ _ _ _ h (hR.st (zle rfl) (zle rfl)))
theorem S_write {E : zE} {nm : String} {K : zK E (yL nm) code 4 ret room_1} {Qf : State → Prop} {T : zT} {N : zN} {P : zP} {I : zI} {R : zR} {s0 L i x m : Nat} {xs : Nat → Int32} {ad : Nat → Nat} {b : Nat → Nat → Nat} {g : Nat} {f : zf} {r : zg} {kc ks : Nat} {n : Nat} (hX : zSc K s0 L xs) (hl : L < 2 ^ 31) (hi : i + 5 < L) (hS : LB T N P I R x m ad b g f r) (hR : Rm n g kc ks) (hn : n < 512) (kk : ∀ (T : zT) (N : zN) (P : zP) (I : zI) (R : zR) (b : Nat → Nat → Nat) (g : Nat) (f : zf) (r : zg) (kc ks : Nat), LB T N P I R x m ad b g f r → Rm (n + 1) g kc ks → V K Qf T N P I R kc ks 1202 [some (.ref s0), some (.ref x), some (.ref m), some (.int (nI i))] []) : V K Qf T N P I R kc ks 1040 [some (.ref s0), some (.ref x), some (.ref m), some (.int (nI i))] [] := by
  have hI : Inv f r := hS.2.2.2.2
  obtain ⟨y1, y2⟩ := hR.b hn hS.1.2.2.1.1
  exact L_write hX hl hi rfl rfl rfl hS (c_X10_write x (Mnn m ad) b g f r (xs (i + 1)) (xs (i + 2)) (xs (i + 3)) hS.1 sh_q hI.2.2.2.2.2.2.2.2) (fun T N P I R hM hf hr => by
    have hJ : Inv (mf N m) (mr I ad) := by rw [hf, hr]; exact hI
    have q := c_X11_write (E := E) (T := T) (N := N) (P := P) (I := I) (R := R) m ad (xs (i + 1)) (xs (i + 2)) (xs (i + 3)) hM sh_n (sh_i hJ.2.2.2.2.2.2.2.2)
    rw [hf, hr] at q
    exact q) (i_write hI (xs (i + 1)) (xs (i + 2)) (xs (i + 3))) (by omega) (by omega) (fun T N P I R b h => kk T N P I R b _ _ _ _ _ h (hR.st (zle rfl) (zle rfl)))
theorem S_copy {E : zE} {nm : String} {K : zK E (yL nm) code 4 ret room_1} {Qf : State → Prop} {T : zT} {N : zN} {P : zP} {I : zI} {R : zR} {s0 L i x m : Nat} {xs : Nat → Int32} {ad : Nat → Nat} {b : Nat → Nat → Nat} {g : Nat} {f : zf} {r : zg} {kc ks : Nat} {n : Nat} (hX : zSc K s0 L xs) (hl : L < 2 ^ 31) (hi : i + 5 < L) (hS : LB T N P I R x m ad b g f r) (hR : Rm n g kc ks) (hn : n < 512) (kk : ∀ (T : zT) (N : zN) (P : zP) (I : zI) (R : zR) (b : Nat → Nat → Nat) (g : Nat) (f : zf) (r : zg) (kc ks : Nat), LB T N P I R x m ad b g f r → Rm (n + 1) g kc ks → V K Qf T N P I R kc ks 1202 [some (.ref s0), some (.ref x), some (.ref m), some (.int (nI i))] []) : V K Qf T N P I R kc ks 1083 [some (.ref s0), some (.ref x), some (.ref m), some (.int (nI i))] [] := by
  have hI : Inv f r := hS.2.2.2.2
  obtain ⟨y1, y2⟩ := hR.b hn hS.1.2.2.1.1
  exact L_copy hX hl hi rfl rfl rfl rfl rfl hS (c_X10_copy x (Mnn m ad) b g f r (xs (i + 1)) (xs (i + 2)) (xs (i + 3)) (xs (i + 4)) (xs (i + 5)) hS.1 sh_q sh_q hI.2.2.2.2.2.2.2.2) (fun T N P I R hM hf hr => by
    have hJ : Inv (mf N m) (mr I ad) := by rw [hf, hr]; exact hI
    have q := c_X11_copy (E := E) (T := T) (N := N) (P := P) (I := I) (R := R) m ad (xs (i + 1)) (xs (i + 2)) (xs (i + 3)) (xs (i + 4)) (xs (i + 5)) hM sh_n sh_n hJ.2.2.2.2.2.2.2.2
    rw [hf, hr] at q
    exact q) (i_copy hI (xs (i + 1)) (xs (i + 2)) (xs (i + 3)) (xs (i + 4)) (xs (i + 5))) (by omega) (by omega) (fun T N P I R b h => kk T N P I R b _ _ _ _ _ h (hR.st (zle rfl) (zle rfl)))
theorem S_trace {E : zE} {nm : String} {K : zK E (yL nm) code 4 ret room_1} {Qf : State → Prop} {T : zT} {N : zN} {P : zP} {I : zI} {R : zR} {s0 L i x m : Nat} {xs : Nat → Int32} {ad : Nat → Nat} {b : Nat → Nat → Nat} {g : Nat} {f : zf} {r : zg} {kc ks : Nat} {n : Nat} (hX : zSc K s0 L xs) (hl : L < 2 ^ 31) (hi : i + 5 < L) (hS : LB T N P I R x m ad b g f r) (hR : Rm n g kc ks) (hn : n < 512) (kk : ∀ (T : zT) (N : zN) (P : zP) (I : zI) (R : zR) (b : Nat → Nat → Nat) (g : Nat) (f : zf) (r : zg) (kc ks : Nat), LB T N P I R x m ad b g f r → Rm (n + 1) g kc ks → V K Qf T N P I R kc ks 1202 [some (.ref s0), some (.ref x), some (.ref m), some (.int (nI i))] []) : V K Qf T N P I R kc ks 1146 [some (.ref s0), some (.ref x), some (.ref m), some (.int (nI i))] [] := by
  have hI : Inv f r := hS.2.2.2.2
  obtain ⟨y1, y2⟩ := hR.b hn hS.1.2.2.1.1
  exact L_trace hX hl hi rfl rfl hS (c_X10_trace x (Mnn m ad) b g f r (xs (i + 1)) (xs (i + 2)) hS.1 hI.sn hI.2.2.2.2.2.2.2.2) (fun T N P I R hM hf hr => by
    have hJ : Inv (mf N m) (mr I ad) := by rw [hf, hr]; exact hI
    have q := c_X11_trace (E := E) (T := T) (N := N) (P := P) (I := I) (R := R) m ad (xs (i + 1)) (xs (i + 2)) hM hJ.sn hJ.2.2.2.2.2.2.2.2
    rw [hf, hr] at q
    exact q) (i_trace hI (xs (i + 1)) (xs (i + 2))) (by omega) (by omega) (fun T N P I R b h => kk T N P I R b _ _ _ _ _ h (hR.st (zle rfl) (zle rfl)))
theorem S_told {E : zE} {nm : String} {K : zK E (yL nm) code 4 ret room_1} {Qf : State → Prop} {T : zT} {N : zN} {P : zP} {I : zI} {R : zR} {s0 L i x m : Nat} {xs : Nat → Int32} {ad : Nat → Nat} {b : Nat → Nat → Nat} {g : Nat} {f : zf} {r : zg} {kc ks : Nat} {n : Nat} (hX : zSc K s0 L xs) (hl : L < 2 ^ 31) (hi : i + 5 < L) (hS : LB T N P I R x m ad b g f r) (hR : Rm n g kc ks) (hn : n < 512) (kk : ∀ (T : zT) (N : zN) (P : zP) (I : zI) (R : zR) (b : Nat → Nat → Nat) (g : Nat) (f : zf) (r : zg) (kc ks : Nat), LB T N P I R x m ad b g f r → Rm (n + 1) g kc ks → V K Qf T N P I R kc ks 1202 [some (.ref s0), some (.ref x), some (.ref m), some (.int (nI i))] []) : V K Qf T N P I R kc ks 1179 [some (.ref s0), some (.ref x), some (.ref m), some (.int (nI i))] [] := by
  have hI : Inv f r := hS.2.2.2.2
  obtain ⟨y1, y2⟩ := hR.b hn hS.1.2.2.1.1
  exact L_told hX hl hi rfl hS (c_X10_told x (Mnn m ad) b g f r (xs (i + 1)) hS.1 ) (fun T N P I R hM hf hr => by
    have hJ : Inv (mf N m) (mr I ad) := by rw [hf, hr]; exact hI
    have q := c_X11_told (E := E) (T := T) (N := N) (P := P) (I := I) (R := R) m ad (xs (i + 1)) hM 
    rw [hf, hr] at q
    exact q) (i_told hI (xs (i + 1))) (by omega) (by omega) (fun T N P I R b h => kk T N P I R b _ _ _ _ _ h (hR.st (zle rfl) (zle rfl)))
theorem S_check {E : zE} {nm : String} {K : zK E (yL nm) code 4 ret room_1} {Qf : State → Prop} {T : zT} {N : zN} {P : zP} {I : zI} {R : zR} {s0 L i x m : Nat} {xs : Nat → Int32} {ad : Nat → Nat} {b : Nat → Nat → Nat} {g : Nat} {f : zf} {r : zg} {kc ks : Nat} {n : Nat} (hX : zSc K s0 L xs) (hl : L < 2 ^ 31) (hi : i + 5 < L) (hS : LB T N P I R x m ad b g f r) (hR : Rm n g kc ks) (hn : n < 512) (kk : ∀ (T : zT) (N : zN) (P : zP) (I : zI) (R : zR) (b : Nat → Nat → Nat) (g : Nat) (f : zf) (r : zg) (kc ks : Nat), LB T N P I R x m ad b g f r → Rm (n + 1) g kc ks → V K Qf T N P I R kc ks 1202 [some (.ref s0), some (.ref x), some (.ref m), some (.int (nI i))] []) : V K Qf T N P I R kc ks 510 [some (.ref s0), some (.ref x), some (.ref m), some (.int (nI i))] [] := by
  have hI : Inv f r := hS.2.2.2.2
  obtain ⟨y1, y2⟩ := hR.b hn hS.1.2.2.1.1
  by_cases ha : asks f (xs (i + 1)) (xs (i + 2)) (xs (i + 3)) ∧ (0 ≤ xs (i + 5) ∧ xs (i + 5) ≤ 3)
  · have q1 := (hI.1.2.2.1.within (by decide)).mp ha.1.1
    have q2 := (hI.1.1.within (by decide)).mp ha.1.2.1
    have q3 := rng_nt (b := 7) ha.1.2.2.1 ha.1.2.2.2 (by decide)
    have hak : asks f (nI (tn (xs (i + 1)))) (nI (tn (xs (i + 2)))) (nI (tn (xs (i + 3)))) := by rw [← q1.1, ← q2.1, ← q3.1]; exact ha.1
    have h10 := (hI.2.2.2.1 _ q1.2).1.2
    obtain ⟨g', c9, s9, hg⟩ := GrO.mk (g := g) (np := tn (r 10 (tn (xs (i + 1)))))
    have z := hg.bd (Nat.le_of_lt_succ h10)
    exact L_check hX hl hi q1.1 q2.1 q3.1 rfl rfl hS (c_X10_check x (Mnn m ad) b g f r (tn (xs (i + 1))) (tn (xs (i + 2))) (tn (xs (i + 3))) (¬ (xs (i + 4)) = 0) (xs (i + 5)) g' c9 s9 hS.1 hI.sr (Mnn.t hS.2.1) q1.2 q2.2 q3.2 hak ha.2 hg) (fun T N P I R hM hf hr => by
    have hJ : Inv (mf N m) (mr I ad) := by rw [hf, hr]; exact hI
    have q := c_X11_check (E := E) (T := T) (N := N) (P := P) (I := I) (R := R) m ad (nI (tn (xs (i + 1)))) (nI (tn (xs (i + 2)))) (nI (tn (xs (i + 3)))) (¬ (xs (i + 4)) = 0) (xs (i + 5)) hM hJ.sr
    rw [hf, hr] at q
    exact q) (i_check hI (nI (tn (xs (i + 1)))) (nI (tn (xs (i + 2)))) (nI (tn (xs (i + 3)))) (¬ (xs (i + 4)) = 0) (xs (i + 5))) (by omega) (by omega) (fun T N P I R b h => kk T N P I R b _ _ _ _ _ h (hR.gr hg (zle rfl) (zle rfl)))
  · exact L_check hX hl hi rfl rfl rfl rfl rfl hS (c_X10_check_n x (Mnn m ad) b g f r (xs (i + 1)) (xs (i + 2)) (xs (i + 3)) (¬ (xs (i + 4)) = 0) (xs (i + 5)) hS.1 hI.sr ha) (fun T N P I R hM hf hr => by
    have hJ : Inv (mf N m) (mr I ad) := by rw [hf, hr]; exact hI
    have q := c_X11_check (E := E) (T := T) (N := N) (P := P) (I := I) (R := R) m ad (xs (i + 1)) (xs (i + 2)) (xs (i + 3)) (¬ (xs (i + 4)) = 0) (xs (i + 5)) hM hJ.sr
    rw [hf, hr] at q
    exact q) (i_check hI (xs (i + 1)) (xs (i + 2)) (xs (i + 3)) (¬ (xs (i + 4)) = 0) (xs (i + 5))) (by omega) (by omega) (fun T N P I R b h => kk T N P I R b _ _ _ _ _ h (hR.st (zle rfl) (zle rfl)))
theorem S_quickest {E : zE} {nm : String} {K : zK E (yL nm) code 4 ret room_1} {Qf : State → Prop} {T : zT} {N : zN} {P : zP} {I : zI} {R : zR} {s0 L i x m : Nat} {xs : Nat → Int32} {ad : Nat → Nat} {b : Nat → Nat → Nat} {g : Nat} {f : zf} {r : zg} {kc ks : Nat} {n : Nat} (hX : zSc K s0 L xs) (hl : L < 2 ^ 31) (hi : i + 5 < L) (hS : LB T N P I R x m ad b g f r) (hR : Rm n g kc ks) (hn : n < 512) (kk : ∀ (T : zT) (N : zN) (P : zP) (I : zI) (R : zR) (b : Nat → Nat → Nat) (g : Nat) (f : zf) (r : zg) (kc ks : Nat), LB T N P I R x m ad b g f r → Rm (n + 1) g kc ks → V K Qf T N P I R kc ks 1202 [some (.ref s0), some (.ref x), some (.ref m), some (.int (nI i))] []) : V K Qf T N P I R kc ks 589 [some (.ref s0), some (.ref x), some (.ref m), some (.int (nI i))] [] := by
  have hI : Inv f r := hS.2.2.2.2
  obtain ⟨y1, y2⟩ := hR.b hn hS.1.2.2.1.1
  by_cases ha : asks f (xs (i + 1)) (xs (i + 2)) (xs (i + 3))
  · have q1 := (hI.1.2.2.1.within (by decide)).mp ha.1
    have q2 := (hI.1.1.within (by decide)).mp ha.2.1
    have q3 := rng_nt (b := 7) ha.2.2.1 ha.2.2.2 (by decide)
    have hak : asks f (nI (tn (xs (i + 1)))) (nI (tn (xs (i + 2)))) (nI (tn (xs (i + 3)))) := by rw [← q1.1, ← q2.1, ← q3.1]; exact ha
    have h10 := (hI.2.2.2.1 _ q1.2).1.2
    obtain ⟨g', c9, s9, hg⟩ := GrO.mk (g := g) (np := tn (r 10 (tn (xs (i + 1)))))
    have z := hg.bd (Nat.le_of_lt_succ h10)
    exact L_quickest hX hl hi q1.1 q2.1 q3.1 rfl hS (c_X10_quickest x (Mnn m ad) b g f r (tn (xs (i + 1))) (tn (xs (i + 2))) (tn (xs (i + 3))) (¬ (xs (i + 4)) = 0) g' c9 s9 hS.1 hI.sr (Mnn.t hS.2.1) q1.2 q2.2 q3.2 hak hg) (fun T N P I R hM hf hr => by
    have hJ : Inv (mf N m) (mr I ad) := by rw [hf, hr]; exact hI
    have q := c_X11_quickest (E := E) (T := T) (N := N) (P := P) (I := I) (R := R) m ad (nI (tn (xs (i + 1)))) (nI (tn (xs (i + 2)))) (nI (tn (xs (i + 3)))) (¬ (xs (i + 4)) = 0) hM hJ.sr
    rw [hf, hr] at q
    exact q) (i_quickest hI (nI (tn (xs (i + 1)))) (nI (tn (xs (i + 2)))) (nI (tn (xs (i + 3)))) (¬ (xs (i + 4)) = 0)) (by omega) (by omega) (fun T N P I R b h => kk T N P I R b _ _ _ _ _ h (hR.gr hg (zle rfl) (zle rfl)))
  · exact L_quickest hX hl hi rfl rfl rfl rfl hS (c_X10_quickest_n x (Mnn m ad) b g f r (xs (i + 1)) (xs (i + 2)) (xs (i + 3)) (¬ (xs (i + 4)) = 0) hS.1 hI.sr ha) (fun T N P I R hM hf hr => by
    have hJ : Inv (mf N m) (mr I ad) := by rw [hf, hr]; exact hI
    have q := c_X11_quickest (E := E) (T := T) (N := N) (P := P) (I := I) (R := R) m ad (xs (i + 1)) (xs (i + 2)) (xs (i + 3)) (¬ (xs (i + 4)) = 0) hM hJ.sr
    rw [hf, hr] at q
    exact q) (i_quickest hI (xs (i + 1)) (xs (i + 2)) (xs (i + 3)) (¬ (xs (i + 4)) = 0)) (by omega) (by omega) (fun T N P I R b h => kk T N P I R b _ _ _ _ _ h (hR.st (zle rfl) (zle rfl)))
theorem S_route {E : zE} {nm : String} {K : zK E (yL nm) code 4 ret room_1} {Qf : State → Prop} {T : zT} {N : zN} {P : zP} {I : zI} {R : zR} {s0 L i x m : Nat} {xs : Nat → Int32} {ad : Nat → Nat} {b : Nat → Nat → Nat} {g : Nat} {f : zf} {r : zg} {kc ks : Nat} {n : Nat} (hX : zSc K s0 L xs) (hl : L < 2 ^ 31) (hi : i + 5 < L) (hS : LB T N P I R x m ad b g f r) (hR : Rm n g kc ks) (hn : n < 512) (kk : ∀ (T : zT) (N : zN) (P : zP) (I : zI) (R : zR) (b : Nat → Nat → Nat) (g : Nat) (f : zf) (r : zg) (kc ks : Nat), LB T N P I R x m ad b g f r → Rm (n + 1) g kc ks → V K Qf T N P I R kc ks 1202 [some (.ref s0), some (.ref x), some (.ref m), some (.int (nI i))] []) : V K Qf T N P I R kc ks 658 [some (.ref s0), some (.ref x), some (.ref m), some (.int (nI i))] [] := by
  have hI : Inv f r := hS.2.2.2.2
  obtain ⟨y1, y2⟩ := hR.b hn hS.1.2.2.1.1
  by_cases ha : asks f (xs (i + 1)) (xs (i + 2)) (xs (i + 3)) ∧ 0 ≤ xs (i + 5)
  · have q1 := (hI.1.2.2.1.within (by decide)).mp ha.1.1
    have q2 := (hI.1.1.within (by decide)).mp ha.1.2.1
    have q3 := rng_nt (b := 7) ha.1.2.2.1 ha.1.2.2.2 (by decide)
    have hak : asks f (nI (tn (xs (i + 1)))) (nI (tn (xs (i + 2)))) (nI (tn (xs (i + 3)))) := by rw [← q1.1, ← q2.1, ← q3.1]; exact ha.1
    have h10 := (hI.2.2.2.1 _ q1.2).1.2
    obtain ⟨g', c9, s9, hg⟩ := GrO.mk (g := g) (np := tn (r 10 (tn (xs (i + 1)))))
    have z := hg.bd (Nat.le_of_lt_succ h10)
    exact L_route hX hl hi q1.1 q2.1 q3.1 rfl rfl hS (c_X10_route x (Mnn m ad) b g f r (tn (xs (i + 1))) (tn (xs (i + 2))) (tn (xs (i + 3))) (¬ (xs (i + 4)) = 0) (xs (i + 5)) g' c9 s9 hS.1 hI.sr (Mnn.t hS.2.1) q1.2 q2.2 q3.2 hak ha.2 hg) (fun T N P I R hM hf hr => by
    have hJ : Inv (mf N m) (mr I ad) := by rw [hf, hr]; exact hI
    have q := c_X11_route (E := E) (T := T) (N := N) (P := P) (I := I) (R := R) m ad (nI (tn (xs (i + 1)))) (nI (tn (xs (i + 2)))) (nI (tn (xs (i + 3)))) (¬ (xs (i + 4)) = 0) (xs (i + 5)) hM hJ.sr
    rw [hf, hr] at q
    exact q) (i_route hI (nI (tn (xs (i + 1)))) (nI (tn (xs (i + 2)))) (nI (tn (xs (i + 3)))) (¬ (xs (i + 4)) = 0) (xs (i + 5))) (by omega) (by omega) (fun T N P I R b h => kk T N P I R b _ _ _ _ _ h (hR.gr hg (zle rfl) (zle rfl)))
  · exact L_route hX hl hi rfl rfl rfl rfl rfl hS (c_X10_route_n x (Mnn m ad) b g f r (xs (i + 1)) (xs (i + 2)) (xs (i + 3)) (¬ (xs (i + 4)) = 0) (xs (i + 5)) hS.1 hI.sr ha) (fun T N P I R hM hf hr => by
    have hJ : Inv (mf N m) (mr I ad) := by rw [hf, hr]; exact hI
    have q := c_X11_route (E := E) (T := T) (N := N) (P := P) (I := I) (R := R) m ad (xs (i + 1)) (xs (i + 2)) (xs (i + 3)) (¬ (xs (i + 4)) = 0) (xs (i + 5)) hM hJ.sr
    rw [hf, hr] at q
    exact q) (i_route hI (xs (i + 1)) (xs (i + 2)) (xs (i + 3)) (¬ (xs (i + 4)) = 0) (xs (i + 5))) (by omega) (by omega) (fun T N P I R b h => kk T N P I R b _ _ _ _ _ h (hR.st (zle rfl) (zle rfl)))
theorem S_offer {E : zE} {nm : String} {K : zK E (yL nm) code 4 ret room_1} {Qf : State → Prop} {T : zT} {N : zN} {P : zP} {I : zI} {R : zR} {s0 L i x m : Nat} {xs : Nat → Int32} {ad : Nat → Nat} {b : Nat → Nat → Nat} {g : Nat} {f : zf} {r : zg} {kc ks : Nat} {n : Nat} (hX : zSc K s0 L xs) (hl : L < 2 ^ 31) (hi : i + 5 < L) (hS : LB T N P I R x m ad b g f r) (hR : Rm n g kc ks) (hn : n < 512) (kk : ∀ (T : zT) (N : zN) (P : zP) (I : zI) (R : zR) (b : Nat → Nat → Nat) (g : Nat) (f : zf) (r : zg) (kc ks : Nat), LB T N P I R x m ad b g f r → Rm (n + 1) g kc ks → V K Qf T N P I R kc ks 1202 [some (.ref s0), some (.ref x), some (.ref m), some (.int (nI i))] []) : V K Qf T N P I R kc ks 875 [some (.ref s0), some (.ref x), some (.ref m), some (.int (nI i))] [] := by
  have hI : Inv f r := hS.2.2.2.2
  obtain ⟨y1, y2⟩ := hR.b hn hS.1.2.2.1.1
  by_cases ha : 0 ≤ xs (i + 1) ∧ xs (i + 1) ≤ f 18 - 1
  · have q1 := (hI.1.2.2.2.2.1.within (by decide)).mp ha
    have hw0 : 0 ≤ nI (tn (xs (i + 1))) ∧ nI (tn (xs (i + 1))) ≤ f 18 - 1 := by rw [← q1.1]; exact ha
    by_cases hO : ovr r (tn (r 22 (tn (xs (i + 1))))) (r 20 (tn (xs (i + 1)))) (npw r (tn (xs (i + 1))))
    · exact L_offer hX hl hi q1.1 hS (c_X10_offer_o x (Mnn m ad) b g f r (tn (xs (i + 1))) hS.1 hI.sr q1.2 hw0 hO) (fun T N P I R hM hf hr => by
    have hJ : Inv (mf N m) (mr I ad) := by rw [hf, hr]; exact hI
    have q := c_X11_offer (E := E) (T := T) (N := N) (P := P) (I := I) (R := R) m ad (nI (tn (xs (i + 1)))) hM hJ.sr
    rw [hf, hr] at q
    exact q) (i_offer hI (nI (tn (xs (i + 1))))) (by omega) (by omega) (fun T N P I R b h => kk T N P I R b _ _ _ _ _ h (hR.st (zle rfl) (zle rfl)))
    · obtain ⟨g', c9, s9, hg⟩ := GrO.mk (g := g) (np := npw r (tn (xs (i + 1))))
      have z := hg.bd (hI.np q1.2)
      exact L_offer hX hl hi q1.1 hS (c_X10_offer x (Mnn m ad) b g f r (tn (xs (i + 1))) g' c9 s9 hS.1 hI.sr (Mnn.t hS.2.1) q1.2 hw0 hO hg) (fun T N P I R hM hf hr => by
    have hJ : Inv (mf N m) (mr I ad) := by rw [hf, hr]; exact hI
    have q := c_X11_offer (E := E) (T := T) (N := N) (P := P) (I := I) (R := R) m ad (nI (tn (xs (i + 1)))) hM hJ.sr
    rw [hf, hr] at q
    exact q) (i_offer hI (nI (tn (xs (i + 1))))) (by omega) (by omega) (fun T N P I R b h => kk T N P I R b _ _ _ _ _ h (hR.gr hg (zle rfl) (zle rfl)))
  · exact L_offer hX hl hi rfl hS (c_X10_offer_n x (Mnn m ad) b g f r (xs (i + 1)) hS.1 ha) (fun T N P I R hM hf hr => by
    have hJ : Inv (mf N m) (mr I ad) := by rw [hf, hr]; exact hI
    have q := c_X11_offer (E := E) (T := T) (N := N) (P := P) (I := I) (R := R) m ad (xs (i + 1)) hM hJ.sr
    rw [hf, hr] at q
    exact q) (i_offer hI (xs (i + 1))) (by omega) (by omega) (fun T N P I R b h => kk T N P I R b _ _ _ _ _ h (hR.st (zle rfl) (zle rfl)))
theorem S_rest {E : zE} {nm : String} {K : zK E (yL nm) code 4 ret room_1} {Qf : State → Prop} {T : zT} {N : zN} {P : zP} {I : zI} {R : zR} {s0 L i x m : Nat} {xs : Nat → Int32} {ad : Nat → Nat} {b : Nat → Nat → Nat} {g : Nat} {f : zf} {r : zg} {kc ks : Nat} {n : Nat} (hX : zSc K s0 L xs) (hl : L < 2 ^ 31) (hi : i + 5 < L) (hS : LB T N P I R x m ad b g f r) (hR : Rm n g kc ks) (hn : n < 512) (kk : ∀ (T : zT) (N : zN) (P : zP) (I : zI) (R : zR) (b : Nat → Nat → Nat) (g : Nat) (f : zf) (r : zg) (kc ks : Nat), LB T N P I R x m ad b g f r → Rm (n + 1) g kc ks → V K Qf T N P I R kc ks 1202 [some (.ref s0), some (.ref x), some (.ref m), some (.int (nI i))] []) : V K Qf T N P I R kc ks 898 [some (.ref s0), some (.ref x), some (.ref m), some (.int (nI i))] [] := by
  have hI : Inv f r := hS.2.2.2.2
  obtain ⟨y1, y2⟩ := hR.b hn hS.1.2.2.1.1
  by_cases ha : 0 ≤ xs (i + 1) ∧ xs (i + 1) ≤ f 18 - 1
  · have q1 := (hI.1.2.2.2.2.1.within (by decide)).mp ha
    have hw0 : 0 ≤ nI (tn (xs (i + 1))) ∧ nI (tn (xs (i + 1))) ≤ f 18 - 1 := by rw [← q1.1]; exact ha
    obtain ⟨g', c9, s9, hg⟩ := GrO.mk (g := g) (np := npw r (tn (xs (i + 1))))
    have z := hg.bd (hI.np q1.2)
    exact L_rest hX hl hi q1.1 hS (c_X10_rest x (Mnn m ad) b g f r (tn (xs (i + 1))) g' c9 s9 hS.1 hI.sr (Mnn.t hS.2.1) q1.2 hw0 hg) (fun T N P I R hM hf hr => by
    have hJ : Inv (mf N m) (mr I ad) := by rw [hf, hr]; exact hI
    have q := c_X11_rest (E := E) (T := T) (N := N) (P := P) (I := I) (R := R) m ad (nI (tn (xs (i + 1)))) hM hJ.sr
    rw [hf, hr] at q
    exact q) (i_rest hI (nI (tn (xs (i + 1))))) (by omega) (by omega) (fun T N P I R b h => kk T N P I R b _ _ _ _ _ h (hR.gr hg (zle rfl) (zle rfl)))
  · exact L_rest hX hl hi rfl hS (c_X10_rest_n x (Mnn m ad) b g f r (xs (i + 1)) hS.1 ha) (fun T N P I R hM hf hr => by
    have hJ : Inv (mf N m) (mr I ad) := by rw [hf, hr]; exact hI
    have q := c_X11_rest (E := E) (T := T) (N := N) (P := P) (I := I) (R := R) m ad (xs (i + 1)) hM hJ.sr
    rw [hf, hr] at q
    exact q) (i_rest hI (xs (i + 1))) (by omega) (by omega) (fun T N P I R b h => kk T N P I R b _ _ _ _ _ h (hR.st (zle rfl) (zle rfl)))
theorem S_lost {E : zE} {nm : String} {K : zK E (yL nm) code 4 ret room_1} {Qf : State → Prop} {T : zT} {N : zN} {P : zP} {I : zI} {R : zR} {s0 L i x m : Nat} {xs : Nat → Int32} {ad : Nat → Nat} {b : Nat → Nat → Nat} {g : Nat} {f : zf} {r : zg} {kc ks : Nat} {n : Nat} (hX : zSc K s0 L xs) (hl : L < 2 ^ 31) (hi : i + 5 < L) (hS : LB T N P I R x m ad b g f r) (hR : Rm n g kc ks) (hn : n < 512) (kk : ∀ (T : zT) (N : zN) (P : zP) (I : zI) (R : zR) (b : Nat → Nat → Nat) (g : Nat) (f : zf) (r : zg) (kc ks : Nat), LB T N P I R x m ad b g f r → Rm (n + 1) g kc ks → V K Qf T N P I R kc ks 1202 [some (.ref s0), some (.ref x), some (.ref m), some (.int (nI i))] []) : V K Qf T N P I R kc ks 921 [some (.ref s0), some (.ref x), some (.ref m), some (.int (nI i))] [] := by
  have hI : Inv f r := hS.2.2.2.2
  obtain ⟨y1, y2⟩ := hR.b hn hS.1.2.2.1.1
  by_cases ha : 0 ≤ xs (i + 1) ∧ xs (i + 1) ≤ f 18 - 1
  · have q1 := (hI.1.2.2.2.2.1.within (by decide)).mp ha
    have hw0 : 0 ≤ nI (tn (xs (i + 1))) ∧ nI (tn (xs (i + 1))) ≤ f 18 - 1 := by rw [← q1.1]; exact ha
    obtain ⟨g', c9, s9, hg⟩ := GrO.mk (g := g) (np := npw r (tn (xs (i + 1))))
    have z := hg.bd (hI.np q1.2)
    exact L_lost hX hl hi q1.1 hS (c_X10_lost x (Mnn m ad) b g f r (tn (xs (i + 1))) g' c9 s9 hS.1 hI.sr (Mnn.t hS.2.1) q1.2 hw0 hg) (fun T N P I R hM hf hr => by
    have hJ : Inv (mf N m) (mr I ad) := by rw [hf, hr]; exact hI
    have q := c_X11_lost (E := E) (T := T) (N := N) (P := P) (I := I) (R := R) m ad (nI (tn (xs (i + 1)))) hM hJ.sr
    rw [hf, hr] at q
    exact q) (i_lost hI (nI (tn (xs (i + 1))))) (by omega) (by omega) (fun T N P I R b h => kk T N P I R b _ _ _ _ _ h (hR.gr hg (zle rfl) (zle rfl)))
  · exact L_lost hX hl hi rfl hS (c_X10_lost_n x (Mnn m ad) b g f r (xs (i + 1)) hS.1 ha) (fun T N P I R hM hf hr => by
    have hJ : Inv (mf N m) (mr I ad) := by rw [hf, hr]; exact hI
    have q := c_X11_lost (E := E) (T := T) (N := N) (P := P) (I := I) (R := R) m ad (xs (i + 1)) hM hJ.sr
    rw [hf, hr] at q
    exact q) (i_lost hI (xs (i + 1))) (by omega) (by omega) (fun T N P I R b h => kk T N P I R b _ _ _ _ _ h (hR.st (zle rfl) (zle rfl)))
