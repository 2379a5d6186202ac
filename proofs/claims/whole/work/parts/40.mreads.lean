/-- how many of the first n corners a reading may mean, and the last of them -/
noncomputable def rdn (r : zg) (x y k : Int32) : Nat → Int32
  | 0 => 0
  | n + 1 => zi (psb r x y k n) (rdn r x y k n + 1) (rdn r x y k n)
noncomputable def rdw (r : zg) (x y k : Int32) : Nat → Int32
  | 0 => -1
  | n + 1 => zi (psb r x y k n) (nI n) (rdw r x y k n)
theorem lp_X11_reads {E : zE} {T : zT} {N : zN} {P : zP} {I : zI} {R : zR} {m : Nat} {ad : Nat → Nat} {w nc : Nat} {x y k9 : Int32} {K : zK E yX11_reads cX11_reads 8 none (zr0 4 99)} {Qf : State → Prop} (hM : MOK T P m ad) (hn0 : N 11 0 m = nI nc) (hn1 : nc ≤ 8) (hxy : ∀ c, c < nc → Nt (I (ad 1) c) 100 ∧ Nt (I (ad 2) c) 100) (hk : Nt k9 31) 
    (hkk : V K Qf T N P I R 0 0 44 [some (.ref m), some (.int (nI w)), some (.int x), some (.int y), some (.int k9), some (.int (rdn (mr I ad) x y k9 nc)), some (.int (rdw (mr I ad) x y k9 nc)), some (.int (nI nc))] []) :
    ∀ k n, n + k = nc → V K Qf T N P I R 0 0 9 [some (.ref m), some (.int (nI w)), some (.int x), some (.int y), some (.int k9), some (.int (rdn (mr I ad) x y k9 n)), some (.int (rdw (mr I ad) x y k9 n)), some (.int (nI n))] [] := by
  intro k
  induction k with
  | zero =>
    intro n hn
    obtain rfl : n = nc := by omega
    refine v_iload_7 dX11_reads_9 rfl ?_
    refine v_aload_0 dX11_reads_11 rfl ?_
    refine v_getN fl_11_118 (MOK.t hM) rfl (zle rfl) rfl dX11_reads_12 rfl ?_
    refine v_top hn0 ?_
    refine v_icmp_ge_t (n := 44) (nI_le (a := n) (b := n) (Nat.le_refl _) (by omega)) dX11_reads_15 (by decide) ?_
    exact hkk
  | succ k ih =>
    intro n hn
    have hnc := hxy n (by omega)
    have h1 : ¬ psb (mr I ad) x y k9 n → rdn (mr I ad) x y k9 n = rdn (mr I ad) x y k9 (n + 1) := fun h => (zi_f h).symm
    have h2 : ¬ psb (mr I ad) x y k9 n → rdw (mr I ad) x y k9 n = rdw (mr I ad) x y k9 (n + 1) := fun h => (zi_f h).symm
    have h3 : psb (mr I ad) x y k9 n → rdn (mr I ad) x y k9 n + 1 = rdn (mr I ad) x y k9 (n + 1) := fun h => (zi_t h).symm
    have h4 : psb (mr I ad) x y k9 n → nI n = rdw (mr I ad) x y k9 (n + 1) := fun h => (zi_t h).symm
    refine v_iload_7 dX11_reads_9 rfl ?_
    refine v_aload_0 dX11_reads_11 rfl ?_
    refine v_getN fl_11_118 (MOK.t hM) rfl (zle rfl) rfl dX11_reads_12 rfl ?_
    refine v_top hn0 ?_
    refine v_icmp_ge_f (tgt := 44) (nI_ge (a := n) (b := nc) (by omega) (by omega)) dX11_reads_15 (by decide) rfl ?_
    refine v_aload_0 dX11_reads_18 rfl ?_
    refine v_iload_7 dX11_reads_19 rfl ?_
    refine v_iload_2 dX11_reads_21 rfl ?_
    refine v_iload_3 dX11_reads_22 rfl ?_
    refine v_iload_4 dX11_reads_23 rfl ?_
    refine v_callV (ci := 11) (F := TX11) (c_X11_isPossible m ad n x y k9 hM (by omega) hnc.1 hnc.2 hk) yy_X11_isPossible im_X11_isPossible se_X11_isPossible lk_11_271 (MOK.t hM) (zle rfl) rfl (zle rfl) (zle rfl) (zle rfl) (zle rfl) rfl rfl (zle rfl) dX11_reads_25 rfl (zp.use ?_)
    refine v_ifz_eq (tgt := 38) dX11_reads_28 (by decide) rfl (fun c28 => ?_) (fun c28 => ?_)
    · refine v_iinc_7 dX11_reads_38 (nI_1 n) rfl (zle rfl) rfl ?_
      refine v_goto (n := 9) dX11_reads_41 (by decide) ?_
      refine v_loc (ls := [some (.ref m), some (.int (nI w)), some (.int x), some (.int y), some (.int k9), some (.int (rdn (mr I ad) x y k9 (n + 1))), some (.int (rdw (mr I ad) x y k9 (n + 1))), some (.int (nI (n + 1)))]) (by rw [← h1 c28, ← h2 c28]) ?_
      exact ih (n + 1) (by omega)
    · refine v_iinc_5 (b := rdn (mr I ad) x y k9 n + 1) dX11_reads_31 rfl rfl (zle rfl) rfl ?_
      refine v_iload_7 dX11_reads_34 rfl ?_
      refine v_istore_6 dX11_reads_36 rfl (zle rfl) rfl ?_
      refine v_iinc_7 dX11_reads_38 (nI_1 n) rfl (zle rfl) rfl ?_
      refine v_goto (n := 9) dX11_reads_41 (by decide) ?_
      refine v_loc (ls := [some (.ref m), some (.int (nI w)), some (.int x), some (.int y), some (.int k9), some (.int (rdn (mr I ad) x y k9 (n + 1))), some (.int (rdw (mr I ad) x y k9 (n + 1))), some (.int (nI (n + 1)))]) (by rw [← h3 c28, ← h4 c28]) ?_
      exact ih (n + 1) (by omega)
