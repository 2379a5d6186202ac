theorem st_labs : Cond.static Lib.MathLoose.abs_long.x ∈ lw_tbl := in_t5 179 rfl
theorem cd_labs : Cond.code Lib.MathLoose.abs_long.x Lib.MathLoose.abs_long.code 2 (some .long) ∈ lw_tbl := in_t5 180 rfl
theorem lk_labs : Cond.methodLink RX11 267 Lib.MathLoose.abs_long.x ∈ lw_tbl := in_t5 178 rfl
section zlabs
variable {E : zE} {y : MethodName} {cc : ByteArray} {nL : Nat} {ret : Option FieldType} {rm : Room} {K : zK E y cc nL ret rm} {Qf : State → Prop} {T : zT} {N : zN} {P : zP} {I : zI} {R : zR} {kc ks pc n idx : Nat} {ls : List (Option Value)} {st : List Value}
theorem v_labs {a : Int64} (hl : Cond.methodLink y.cls idx Lib.MathLoose.abs_long.x ∈ lw_tbl) (hfr : 1 ≤ rm.frames) (hlo : (st.map fun v => v.category).sum + 13 ≤ rm.locals) (hkc : kc ≤ rm.cells) (hks : ks ≤ rm.slots) (d : decode cc pc = .ok (.invokestatic idx, 3)) (hn : pc + 3 = n)
    (kk : V K Qf T N P I R kc ks n ls (.long (if 0 < a then a else -a) :: st)) : V K Qf T N P I R kc ks pc ls (.long a :: st) := by
  subst hn
  intro H locs LS h1 h2 h3
  exact va_mabs_long K.x K.hb (K.hm.trans h3.1.symm) K.ho (K.wd hl rfl) (K.wd st_labs rfl) (K.wd ii_math rfl) (K.wd cd_labs rfl) (by rw [K.hR]; exact hfr) (by rw [K.hR]; exact hlo) (by rw [K.hR]; exact hkc) (by rw [K.hR]; exact hks) d (kk H locs LS h1 h2 h3)
end zlabs
/-- near: as the reference asks it, as the class does -/
theorem near_iff {u x k : Int32} (hu : Nt u 100) (hk : Nt k 31) : 0 < lg_cmp (if 0 < u.toInt64 - x.toInt64 then u.toInt64 - x.toInt64 else -(u.toInt64 - x.toInt64)) k.toInt64 ↔ ¬ (u - k ≤ x ∧ x ≤ u + k) := by
  have e1 := hu.toInt (by decide)
  have e2 := hk.toInt (by decide)
  have l1 := hu.2
  have l2 := hk.2
  have rx := fb_rng9 x
  have es : (u.toInt64 - x.toInt64).toInt = u.toInt - x.toInt := by
    rw [Int64.toInt_sub, Int32.toInt_toInt64, Int32.toInt_toInt64]
    exact fb9L (by omega) (by omega)
  have en : (-(u.toInt64 - x.toInt64)).toInt = -(u.toInt - x.toInt) := by
    rw [Int64.toInt_neg, es]
    exact fb9L (by omega) (by omega)
  have ek : k.toInt64.toInt = k.toInt := Int32.toInt_toInt64 k
  have e0 : (0 : Int64).toInt = 0 := rfl
  have ea : (u - k).toInt = u.toInt - k.toInt := by
    rw [Int32.toInt_sub]
    exact fb9 (by omega) (by omega)
  have eb : (u + k).toInt = u.toInt + k.toInt := by
    rw [Int32.toInt_add]
    exact fb9 (by omega) (by omega)
  rw [lg_cmp_gt, Int32.le_iff_toInt_le, Int32.le_iff_toInt_le, ea, eb, Int64.lt_iff_toInt_lt, ek]
  by_cases h : 0 < u.toInt64 - x.toInt64
  · rw [if_pos h, es]
    rw [Int64.lt_iff_toInt_lt, es, e0] at h
    omega
  · rw [if_neg h, en]
    rw [Int64.lt_iff_toInt_lt, es, e0] at h
    omega
theorem c_X11_isOpen {E : zE} {T : zT} {N : zN} {P : zP} {I : zI} {R : zR} (m : Nat) (ad : Nat → Nat) (w d : Nat) (s : Prop) (hM : MOK T P m ad) (hw : w < 14) (hd : d < 7) : zC E yX11_isOpen cX11_isOpen 4 (some .boolean) (zr0 0 0) [.ref m, .int (nI w), .int (nI d), .int (zb s)] T N P I R (zp (zb (opn (mr I ad) d s w)) T N P I R) := by
  refine zC.intro (ls := [some (.ref m), some (.int (nI w)), some (.int (nI d)), some (.int (zb s))]) pl_RX11 (zle rfl) 0 rfl (fun K => ?_)
  refine v_aload_0 dX11_isOpen_0 rfl ?_
  refine v_getP fl_11_29 (mp_8 hM) (MOK.t hM) rfl (zle rfl) rfl dX11_isOpen_1 rfl ?_
  refine v_iload_1 dX11_isOpen_4 rfl ?_
  refine v_iald (j := w) (ma_8 hM) rfl (by omega) (zle rfl) dX11_isOpen_5 rfl ?_
  refine v_iload_2 dX11_isOpen_6 rfl ?_
  refine v_ishr dX11_isOpen_7 rfl ?_
  refine v_iconst (v := 1) dX11_isOpen_8 rfl rfl ?_
  refine v_iand dX11_isOpen_9 rfl ?_
  refine v_if_ne (tgt := 30) dX11_isOpen_10 (by decide) rfl (fun c10 => ?_) (fun c10 => ?_)
  · refine v_iconst (v := 0) dX11_isOpen_30 rfl rfl ?_
    exact v_zreturn rfl rfl (zp_f (fun h => c10 ((bt_sh (by omega)).mpr h.1))) (zle rfl) (zle rfl) dX11_isOpen_31
  · refine v_iload_3 dX11_isOpen_13 rfl ?_
    refine v_ifz_ne (tgt := 26) dX11_isOpen_14 (by decide) rfl (fun c14 => ?_) (fun c14 => ?_)
    · refine v_iconst (v := 1) dX11_isOpen_26 rfl rfl ?_
      refine v_goto (n := 31) dX11_isOpen_27 (by decide) ?_
      exact v_zreturn rfl rfl (zp_t ⟨(bt_sh (by omega)).mp c10, Or.inl c14⟩) (zle rfl) (zle rfl) dX11_isOpen_31
    · refine v_aload_0 dX11_isOpen_17 rfl ?_
      refine v_getP fl_11_25 (mp_7 hM) (MOK.t hM) rfl (zle rfl) rfl dX11_isOpen_18 rfl ?_
      refine v_iload_1 dX11_isOpen_21 rfl ?_
      refine v_zald (j := w) (ma_7 hM) rfl (by omega) (zle rfl) dX11_isOpen_22 rfl ?_
      refine v_if_ne (tgt := 30) dX11_isOpen_23 (by decide) rfl (fun c23 => ?_) (fun c23 => ?_)
      · refine v_iconst (v := 0) dX11_isOpen_30 rfl rfl ?_
        exact v_zreturn rfl rfl (zp_f (fun h => h.2.elim c14 c23)) (zle rfl) (zle rfl) dX11_isOpen_31
      · refine v_iconst (v := 1) dX11_isOpen_26 rfl rfl ?_
        refine v_goto (n := 31) dX11_isOpen_27 (by decide) ?_
        exact v_zreturn rfl rfl (zp_t ⟨(bt_sh (by omega)).mp c10, Or.inr c23⟩) (zle rfl) (zle rfl) dX11_isOpen_31
theorem c_X11_isPossible {E : zE} {T : zT} {N : zN} {P : zP} {I : zI} {R : zR} (m : Nat) (ad : Nat → Nat) (c : Nat) (x y k : Int32) (hM : MOK T P m ad) (hc : c < 8) (hx : Nt (I (ad 1) c) 100) (hy : Nt (I (ad 2) c) 100) (hk : Nt k 31) : zC E yX11_isPossible cX11_isPossible 5 (some .boolean) (zr0 1 21) [.ref m, .int (nI c), .int x, .int y, .int k] T N P I R (zp (zb (psb (mr I ad) x y k c)) T N P I R) := by
  refine zC.intro (ls := [some (.ref m), some (.int (nI c)), some (.int x), some (.int y), some (.int k)]) pl_RX11 (zle rfl) 0 rfl (fun K => ?_)
  refine v_aload_0 dX11_isPossible_0 rfl ?_
  refine v_getP fl_11_9 (mp_1 hM) (MOK.t hM) rfl (zle rfl) rfl dX11_isPossible_1 rfl ?_
  refine v_iload_1 dX11_isPossible_4 rfl ?_
  refine v_iald (j := c) (ma_1 hM) rfl (by omega) (zle rfl) dX11_isPossible_5 rfl ?_
  refine v_i2l dX11_isPossible_6 rfl ?_
  refine v_iload_2 dX11_isPossible_7 rfl ?_
  refine v_i2l dX11_isPossible_8 rfl ?_
  refine v_lsub dX11_isPossible_9 rfl ?_
  refine v_labs lk_labs (zle rfl) (zle rfl) (zle rfl) (zle rfl) dX11_isPossible_10 rfl ?_
  refine v_iload_4 dX11_isPossible_13 rfl ?_
  refine v_i2l dX11_isPossible_15 rfl ?_
  refine v_lcmp dX11_isPossible_16 rfl ?_
  refine v_if_gt (tgt := 44) dX11_isPossible_17 (by decide) rfl (fun c17 => ?_) (fun c17 => ?_)
  · refine v_iconst (v := 0) dX11_isPossible_44 rfl rfl ?_
    exact v_zreturn rfl rfl (zp_f (fun h => (near_iff hx hk).mp c17 h.1)) (zle rfl) (zle rfl) dX11_isPossible_45
  · refine v_aload_0 dX11_isPossible_20 rfl ?_
    refine v_getP fl_11_13 (mp_2 hM) (MOK.t hM) rfl (zle rfl) rfl dX11_isPossible_21 rfl ?_
    refine v_iload_1 dX11_isPossible_24 rfl ?_
    refine v_iald (j := c) (ma_2 hM) rfl (by omega) (zle rfl) dX11_isPossible_25 rfl ?_
    refine v_i2l dX11_isPossible_26 rfl ?_
    refine v_iload_3 dX11_isPossible_27 rfl ?_
    refine v_i2l dX11_isPossible_28 rfl ?_
    refine v_lsub dX11_isPossible_29 rfl ?_
    refine v_labs lk_labs (zle rfl) (zle rfl) (zle rfl) (zle rfl) dX11_isPossible_30 rfl ?_
    refine v_iload_4 dX11_isPossible_33 rfl ?_
    refine v_i2l dX11_isPossible_35 rfl ?_
    refine v_lcmp dX11_isPossible_36 rfl ?_
    refine v_if_gt (tgt := 44) dX11_isPossible_37 (by decide) rfl (fun c37 => ?_) (fun c37 => ?_)
    · refine v_iconst (v := 0) dX11_isPossible_44 rfl rfl ?_
      exact v_zreturn rfl rfl (zp_f (fun h => (near_iff hy hk).mp c37 h.2)) (zle rfl) (zle rfl) dX11_isPossible_45
    · refine v_iconst (v := 1) dX11_isPossible_40 rfl rfl ?_
      refine v_goto (n := 45) dX11_isPossible_41 (by decide) ?_
      exact v_zreturn rfl rfl (zp_t ⟨Classical.not_not.mp (fun h => c17 ((near_iff hx hk).mpr h)), Classical.not_not.mp (fun h => c37 ((near_iff hy hk).mpr h))⟩) (zle rfl) (zle rfl) dX11_isPossible_45
