theorem bp_b (x : Int32) : x.toInt8.toInt32 &&& 255 = x &&& 255 := by
  apply Int32.toBitVec_inj.mp
  rw [Int32.toBitVec_and, Int32.toBitVec_and, Int8.toBitVec_toInt32, Int32.toBitVec_toInt8]
  apply BitVec.eq_of_getLsbD_eq
  intro i hi
  rw [BitVec.getLsbD_and, BitVec.getLsbD_and]
  have hm : ∀ i < 32, 8 ≤ i → (255 : Int32).toBitVec.getLsbD i = false := by decide
  rcases Nat.lt_or_ge i 8 with z | z
  · rw [BitVec.getLsbD_signExtend, BitVec.getLsbD_signExtend, if_pos z, if_pos hi]
    simp only [z, hi, decide_true, Bool.true_and]
  · rw [hm i hi z]; simp
section zcopy
variable {E : zE} {y : MethodName} {cc : ByteArray} {nL : Nat} {ret : Option FieldType} {rm : Room} {K : zK E y cc nL ret rm} {Qf : State → Prop} {T : zT} {N : zN} {P : zP} {I : zI} {R : zR} {kc ks pc n : Nat} {ls : List (Option Value)} {st : List Value}
theorem v_copy {a0 a1 n0 n1 sp dp k idx : Nat} (hl : Cond.methodLink y.cls idx arraycopyName ∈ lw_tbl) (hnat : Cond.native arraycopyName ∈ lw_tbl) (hst : Cond.static arraycopyName ∈ lw_tbl) (hini : Cond.initialized "java/lang/System" ∈ lw_tbl) (h0 : T a0 = (1, n0)) (h1 : T a1 = (1, n1)) (hs : sp + k ≤ n0) (hd : dp + k ≤ n1) (hn0 : n0 < 2 ^ 31) (hn1 : n1 < 2 ^ 31) (hfr : 1 ≤ rm.frames) (hlo : (st.map fun v => v.category).sum + (nativeFrameWords "java/lang/System" "arraycopy" 5 + 11) ≤ rm.locals) (d : decode cc pc = .ok (.invokestatic idx, 3)) (hn : pc + 3 = n)
    (kk : V K Qf T N P (u1 I a1 (va_cpy (I a0) (I a1) sp dp k)) R kc ks n ls st) : V K Qf T N P I R kc ks pc ls (.int (nI k) :: .int (nI dp) :: .ref a1 :: .int (nI sp) :: .ref a0 :: st) := by
  subst hn
  intro H locs LS g1 g2 g3
  obtain ⟨ws, e1, e2, e3⟩ := id g1
  obtain ⟨q0, hq0⟩ := e3 a0 _ (zcell_num h0 (by decide) (by decide))
  obtain ⟨q1, hq1⟩ := e3 a1 _ (zcell_num h1 (by decide) (by decide))
  refine va_copyi K.x K.hb (K.hm.trans g3.1.symm) K.ho (K.wd hl rfl) (K.wd hnat rfl) (K.wd hst rfl) (K.wd hini rfl) K.kk e1 e2 g2 q0 q1 0 0 hq0 hq1 rfl rfl rfl (nI_pos (by omega)) (nI_pos (by omega)) (nI_pos (by omega)) (by rw [nI_clamp (by omega), nI_clamp (by omega)]; exact hs) (by rw [nI_clamp (by omega), nI_clamp (by omega)]; exact hd) (fun _ _ => rfl) (by rw [K.hR]; exact hfr) (by rw [K.hR]; exact hlo) d (fun H1 locs1 p1 p2 p3 => ?_)
  rw [nI_clamp (show sp < 2 ^ 31 by omega), nI_clamp (show dp < 2 ^ 31 by omega), nI_clamp (show k < 2 ^ 31 by omega)] at p1 p2
  exact kk H1 locs1 LS ⟨_, p1, p2, zI_set e3 h1 (by decide) (by decide) hq1 _ (by simp [u1]) (fun b hb => by simp [u1, hb])⟩ p3 g3
end zcopy
theorem na_copy : Cond.native arraycopyName ∈ lw_tbl := in_t4 55 rfl
theorem st_copy : Cond.static arraycopyName ∈ lw_tbl := in_t4 54 rfl
theorem ii_sys : Cond.initialized "java/lang/System" ∈ lw_tbl := in_t1 20 rfl
theorem c_X5_init {E : zE} {T : zT} {N : zN} {P : zP} {I : zI} {R : zR} (q : Nat) (w : Int32) (k : Nat) (hq : (T q).1 = 15) (hk : k ≤ 12) : zC E yX5_init cX5_init 3 none (zrm 1 21 1 12) [.ref q, .int w, .int (nI k)] T N P I R (fun v T1 N1 P1 I1 R1 => v = none ∧ ∃ q2, (T q2).1 = 0 ∧ u1 T q2 (1, k) = T1 ∧ u3 N 5 0 q w = N1 ∧ u3 P 5 1 q (some q2) = P1 ∧ u1 I q2 (fun _ => 0) = I1 ∧ R = R1) := by
  refine zC.intro (ls := [some (.ref q), some (.int w), some (.int (nI k))]) pl_RX5 (zle rfl) 0 rfl (fun K => ?_)
  refine v_aload_0 dX5_init_0 rfl ?_
  refine v_objInit lk_5_1 im_obj cd_obj (zle rfl) (zle rfl) dX5_init_1 rfl ?_
  refine v_aload_0 dX5_init_4 rfl ?_
  refine v_iload_1 dX5_init_5 rfl ?_
  refine v_putN fw_5_7 (by assumption) rfl (zle rfl) rfl (fun _ => rfl) rfl rfl dX5_init_6 rfl ?_
  refine v_aload_0 dX5_init_9 rfl ?_
  refine v_iload_2 dX5_init_10 rfl ?_
  refine v_iconst (v := 0) dX5_init_11 rfl rfl ?_
  refine v_max lk_5_13 st_max ii_math cd_max (zle rfl) (zle rfl) (zle rfl) (zle rfl) dX5_init_12 rfl ?_
  refine v_top (show (if nI k < 0 then (0 : Int32) else nI k) = nI k from if_neg (nI_pos (by omega))) ?_
  refine v_newa (atype := .int) (ft := .int) (t := 1) (j := k) rfl (Or.inl ⟨rfl, rfl⟩) ac_int rfl (by omega) (zle rfl) (show 0 + k ≤ 12 by omega) dX5_init_15 rfl (fun q15 hq15 => ?_)
  have hq2 : (u1 T q15 (1, k) q).1 = 15 := by rw [u1_na (fr_ne hq15 hq (by decide))]; exact hq
  refine v_putP fw_5_19 hq2 rfl (zle rfl) rfl (fun _ => rfl) rfl rfl dX5_init_17 rfl ?_
  exact v_return rfl (⟨rfl, q15, hq15, rfl, rfl, rfl, rfl, rfl⟩) (zle rfl) (show 0 + k ≤ 12 by omega) dX5_init_20
theorem lnr7 {g t : Nat} {r : zg} (ht : t < 4) : lnr g r (7 + t) = tn (r 29 t) := by rcases (show t = 0 ∨ t = 1 ∨ t = 2 ∨ t = 3 by omega) with rfl | rfl | rfl | rfl <;> rfl
theorem lnr6 {g i : Nat} {r r' : zg} (hi : i < 7) : lnr g r' i = lnr g r i := by rcases (show i = 0 ∨ i = 1 ∨ i = 2 ∨ i = 3 ∨ i = 4 ∨ i = 5 ∨ i = 6 by omega) with rfl | rfl | rfl | rfl | rfl | rfl | rfl <;> simp only [lnr]
theorem CR.sgen {T : zT} {N : zN} {P : zP} {I : zI} {R R' : zR} {x : Nat} {Mn : Nat → Prop} {b b' : Nat → Nat → Nat} {g : Nat} {f : zf} {r r' : zg} (h : CR T N P I R x Mn b g f r) {s : Nat} (hs : s < 4) (hR : ∀ a, a ≠ b 0 4 → R' a = R a) (hR2 : ∀ t, t ≠ s → R' (b 0 4) t = R (b 0 4) t) (hb : ∀ k, k ≠ 6 → k ≠ 1 → b' k = b k) (hb6 : ∀ t, t ≠ s → b' 6 t = b 6 t) (hb1 : ∀ i, i ≠ 7 + s → b' 1 i = b 1 i) (hr : ∀ k, k ≠ 28 → k ≠ 29 → k ≠ 30 → r' k = r k) (hr8 : ∀ t, t ≠ s → r' 28 t = r 28 t) (hr9 : ∀ t, t ≠ s → r' 29 t = r 29 t) (hr0 : ∀ t, t < 4 → t ≠ s → ∀ i, i < 12 → r' 30 (12 * t + i) = r 30 (12 * t + i)) (hz : ∀ t, t < 4 → tn (r 29 t) ≤ 12) (hn : RSs T N P I R' b' r' s) (ha : ¬ r' 28 s = 0 → T (b' 1 (7 + s)) = (1, tn (r' 29 s)) ∧ ¬ Mn (b' 1 (7 + s)) ∧ ∀ i, lvr r i → i ≠ 7 + s → b 1 i ≠ b' 1 (7 + s)) : CR T N P I R' x Mn b' g f r' := by
  obtain ⟨⟨x1, x2, x3, x4, x5, x6, x7, x8, x9, x10, x11⟩, ⟨t1, t2, t3, t4, t5, t6, t7, t8, t9, t10⟩, ⟨a1, a2, a3⟩, ⟨d1, d2, d3, d4, d5⟩, hE, hW, hS, q1, q2, q3, q4, q5, q6, q7, q8, q9⟩ := h
  have e0 := hb 0 (by decide) (by decide)
  have b0 := hb1 0 (by omega)
  have b1 := hb1 1 (by omega)
  have n2 : b 0 2 ≠ b 0 4 := fun e => by rw [e, x10] at x8; cases x8
  have n3 : b 0 3 ≠ b 0 4 := fun e => by rw [e, x10] at x9; cases x9
  have n8 : b 0 8 ≠ b 0 4 := fun e => by rw [e, x10] at t5; cases t5
  have lv : ∀ i, i ≠ 7 + s → (lvr r' i ↔ lvr r i) := fun i hi => by
    unfold lvr
    by_cases h7 : i < 7
    · simp [h7]
    · rw [hr8 (i - 7) (by omega)]
  have ln : ∀ i, i < 11 → i ≠ 7 + s → lnr g r' i = lnr g r i := fun i h11 hi => by
    rcases Nat.lt_or_ge i 7 with h7 | h7
    · exact lnr6 h7
    · obtain ⟨j, rfl⟩ : ∃ j, i = 7 + j := ⟨i - 7, by omega⟩
      rw [lnr7 (by omega), lnr7 (by omega), hr9 j (by omega)]
  have lns : lnr g r' (7 + s) = tn (r' 29 s) := lnr7 hs
  have l11 : ∀ i, lvr r i → i < 11 := fun i h => h.elim (fun h => by omega) (fun h => h.1)
  have lvs : lvr r' (7 + s) → ¬ r' 28 s = 0 := fun h => by
    rcases h with h | h
    · omega
    · have := h.2; rw [show 7 + s - 7 = s by omega] at this; exact this
  refine ⟨?_, ?_, ⟨a1, ?_, ?_⟩, ?_, ?_, ⟨?_, ?_⟩, ?_, ?_⟩
  · unfold RX
    rw [e0]
    exact ⟨x1, x2, x3, x4, x5, x6, x7, x8, x9, x10, x11⟩
  · unfold RT RTw
    rw [e0, b0, b1, hb 2 (by decide) (by decide), hR _ n8, hr 1 (by decide) (by decide) (by decide), hr 2 (by decide) (by decide) (by decide), hr 4 (by decide) (by decide) (by decide), hr 5 (by decide) (by decide) (by decide), hr 6 (by decide) (by decide) (by decide), hr 7 (by decide) (by decide) (by decide), hr 8 (by decide) (by decide) (by decide)]
    exact ⟨t1, t2, t3, t4, t5, t6, t7, t8, t9, t10⟩
  · intro i hi
    by_cases his : i = 7 + s
    · subst his
      have := ha (lvs hi)
      exact ⟨by rw [lns]; exact this.1, this.2.1⟩
    · rw [hb1 i his, ln i (l11 i ((lv i his).mp hi)) his]
      exact a2 i ((lv i his).mp hi)
  · intro i j hi hj e
    by_cases his : i = 7 + s
    · subst his
      by_cases hjs : j = 7 + s
      · exact hjs.symm
      · rw [hb1 j hjs] at e
        exact absurd e.symm ((ha (lvs hi)).2.2 j ((lv j hjs).mp hj) hjs)
    · by_cases hjs : j = 7 + s
      · subst hjs
        rw [hb1 i his] at e
        exact absurd e ((ha (lvs hj)).2.2 i ((lv i his).mp hi) his)
      · rw [hb1 i his, hb1 j hjs] at e
        exact a3 i j ((lv i his).mp hi) ((lv j hjs).mp hj) e
  · unfold RP
    rw [e0, hr 16 (by decide) (by decide) (by decide)]
    exact ⟨d1, d2, d3, d4, d5⟩
  · intro e he
    obtain ⟨g1, g2, g3, g4, g5, g6, g7⟩ := hE e he
    have n4 : b 4 e ≠ b 0 4 := fun z => by rw [z, x10] at g4; cases g4
    unfold REe REp
    rw [e0, hb 3 (by decide) (by decide), hb 4 (by decide) (by decide), hb (10 + e) (by omega) (by omega), hR _ n2, hR _ n4, hr 10 (by decide) (by decide) (by decide), hr 11 (by decide) (by decide) (by decide), hr 12 (by decide) (by decide) (by decide), hr 13 (by decide) (by decide) (by decide), hr 14 (by decide) (by decide) (by decide), hr 15 (by decide) (by decide) (by decide)]
    exact ⟨g1, g2, g3, g4, g5, g6, g7⟩
  · intro n hn
    unfold RWn
    rw [e0, hb 5 (by decide) (by decide), hb 3 (by decide) (by decide), hR _ n3, hr 19 (by decide) (by decide) (by decide), hr 20 (by decide) (by decide) (by decide), hr 21 (by decide) (by decide) (by decide), hr 22 (by decide) (by decide) (by decide), hr 23 (by decide) (by decide) (by decide), hr 24 (by decide) (by decide) (by decide), hr 25 (by decide) (by decide) (by decide), hr 26 (by decide) (by decide) (by decide)]
    exact hW.1 n hn
  · rw [hb 5 (by decide) (by decide)]
    exact hW.2
  · intro t ht
    by_cases hts : t = s
    · subst hts; exact hn
    · have e7 := hb1 (7 + t) (by omega)
      unfold RSs
      rw [e0, hr8 t hts, hr9 t hts, hb6 t hts, e7, hR2 t hts]
      refine ⟨(hS t ht).1, fun h0 => ?_⟩
      obtain ⟨g1, g2, g3, g4, g5⟩ := (hS t ht).2 h0
      have := hz t ht
      exact ⟨g1, g2, g3, g4, fun i hi => by rw [hr0 t ht hts i (by omega)]; exact g5 i hi⟩
  · unfold RQ
    rw [e0, hb1 5 (by omega), hb1 6 (by omega), hb1 2 (by omega), hb1 3 (by omega), hb1 4 (by omega)]
    exact ⟨q1, q2, q3, q4, q5, q6, q7, q8, q9⟩
theorem ur_k {r : zg} {a lo c k : Nat} {h : Nat → Int32} (hk : k ≠ a) : ur r a lo c h k = r k := ur_off hk
/-- what sheet does to the rows -/
abbrev shr (r : zg) (s : Nat) (w z : Int32) : zg := ur (u2 (u2 r 28 s w) 29 s z) 30 (12 * s) 12 (fun _ => 0)
theorem shr_k {r : zg} {s k : Nat} {w z : Int32} (h8 : k ≠ 28) (h9 : k ≠ 29) (h0 : k ≠ 30) : shr r s w z k = r k := by
  unfold shr
  rw [ur_off h0, u2_off _ _ h9, u2_off _ _ h8]
theorem shr_8 {r : zg} {s t : Nat} {w z : Int32} : shr r s w z 28 t = if t = s then w else r 28 t := by
  unfold shr
  rw [ur_off (by decide), u2_off _ _ (show 28 ≠ 29 by decide)]
  simp [u2]
theorem shr_9 {r : zg} {s t : Nat} {w z : Int32} : shr r s w z 29 t = if t = s then z else r 29 t := by
  unfold shr
  rw [ur_off (by decide)]
  by_cases h : t = s
  · subst h; simp [u2]
  · simp [u2, h]
theorem shr_0 {r : zg} {s t i : Nat} {w z : Int32} (h : t ≠ s) (hi : i < 12) : shr r s w z 30 (12 * t + i) = r 30 (12 * t + i) := by
  unfold shr
  rw [ur_out (by omega), u2_off _ _ (show 30 ≠ 29 by decide), u2_off _ _ (show 30 ≠ 28 by decide)]
theorem shr_s {r : zg} {s i : Nat} {w z : Int32} (hi : i < 12) : shr r s w z 30 (12 * s + i) = 0 := by
  unfold shr
  rw [ur_in (by omega) (by omega)]
theorem c_X10_sheet {E : zE} {T : zT} {N : zN} {P : zP} {I : zI} {R : zR} (x : Nat) (Mn : Nat → Prop) (b : Nat → Nat → Nat) (g : Nat) (f : zf) (r : zg) (s w n : Int32) (hC : CR T N P I R x Mn b g f r) (hs : 0 ≤ s ∧ s ≤ 3 → ∃ q, q < 4 ∧ s = nI q) (hz : ∀ q, q < 4 → Nt (r 29 q) 13) (hMn : ∀ a, Mn a → ¬ (T a).1 = 0) : zC E yX10_sheet cX10_sheet 4 (some .int) (zrm 2 43 2 14) [.ref x, .int s, .int w, .int n] T N P I R (cQ x Mn g T N P I R (ac_sheet f r s w n)) := by
  refine zC.intro (ls := [some (.ref x), some (.int s), some (.int w), some (.int n)]) pl_RX10 (zle rfl) 0 rfl (fun K => ?_)
  obtain ⟨hX, hT, hA, hP, hE, hW, hS, hQ⟩ := id hC
  obtain ⟨x1, x2, x3, x4, x5, x6, x7, x8, x9, x10, x11, x12, x13, x14⟩ := id hX
  obtain ⟨t1, t2, t3, t4, t5, t6, t7, t8, t9, t10⟩ := id hT
  obtain ⟨a1, a2, a3⟩ := id hA
  have hsl : ∀ q, q < 4 → ¬ r 28 q = 0 → lvr r (7 + q) := fun q h1 h0 => Or.inr ⟨by omega, by rw [show 7 + q - 7 = q by omega]; exact h0⟩
  refine v_iload_1 dX10_sheet_0 rfl ?_
  refine v_callS (c_X10_isSheet _) yy_X10_isSheet st_X10_isSheet lk_10_254 (zle rfl) (zle rfl) (zle rfl) (zle rfl) rfl rfl (zle rfl) dX10_sheet_1 rfl (zp.use ?_)
  refine v_ifz_eq (tgt := 14) dX10_sheet_4 (by decide) rfl (fun c4 => ?_) (fun c4 => ?_)
  · refine v_aload_0 dX10_sheet_14 rfl ?_
    refine v_ldc dX10_sheet_15 kc_10_65 rfl ?_
    refine v_callV (ci := 10) (F := TX10) (c_X10_finding _ _ (by assumption)) yy_X10_finding im_X10_finding se_X10_finding lk_10_66 (by assumption) (zle rfl) rfl (zle rfl) (zle rfl) (zle rfl) (zle rfl) rfl rfl (zle rfl) dX10_sheet_17 rfl (zp.use ?_)
    exact v_ireturn rfl (cQ_fd hC (zi_f (fun h => c4 h.1))) (zle rfl) (zle rfl) dX10_sheet_20
  · refine v_iload_2 dX10_sheet_7 rfl ?_
    refine v_callS (c_X10_isSheetBits _) yy_X10_isSheetBits st_X10_isSheetBits lk_10_257 (zle rfl) (zle rfl) (zle rfl) (zle rfl) rfl rfl (zle rfl) dX10_sheet_8 rfl (zp.use ?_)
    refine v_ifz_ne (tgt := 21) dX10_sheet_11 (by decide) rfl (fun c11 => ?_) (fun c11 => ?_)
    · refine v_iload_3 dX10_sheet_21 rfl ?_
      refine v_if_ge (tgt := 33) dX10_sheet_22 (by decide) rfl (fun c22 => ?_) (fun c22 => ?_)
      · have c22 : 0 ≤ n := c22
        refine v_iload_3 dX10_sheet_33 rfl ?_
        refine v_bipush (v := 12) dX10_sheet_34 rfl rfl ?_
        refine v_icmp_le (tgt := 46) dX10_sheet_36 (by decide) rfl (fun c36 => ?_) (fun c36 => ?_)
        · obtain ⟨s, hs4, rfl⟩ := hs c4
          have ts : tn (nI s) = s := tn_nI (by omega)
          obtain ⟨k1, k2⟩ := tn_pos c22
          have hk : tn n ≤ 12 := by rw [Int32.le_iff_toInt_le] at c36; have : (12 : Int32).toInt = 12 := rfl; omega
          generalize tn n = k at k1 k2 hk
          subst k1
          refine v_iload_2 dX10_sheet_46 rfl ?_
          refine v_if_ne (tgt := 59) dX10_sheet_47 (by decide) rfl (fun c47 => ?_) (fun c47 => ?_)
          · refine v_aload_0 dX10_sheet_59 rfl ?_
            refine v_getP fl_10_37 (by assumption) (by assumption) rfl (zle rfl) rfl dX10_sheet_60 rfl ?_
            refine v_iload_1 dX10_sheet_63 rfl ?_
            refine v_new (ci := 5) rfl (zle rfl) cl_5 tyX5_ok dv_5 kl_10_35 it_5 ii_5 (zle rfl) (zle rfl) dX10_sheet_64 rfl (fun q64 hq64 => ?_)
            refine v_dup dX10_sheet_67 rfl rfl ?_
            refine v_iload_2 dX10_sheet_68 rfl ?_
            refine v_iload_3 dX10_sheet_69 rfl ?_
            have hq15 : (u1 T q64 (15, 0) q64).1 = 15 := by rw [u1_self]
            refine v_callI (c_X5_init q64 w k hq15 hk) yy_X5_init im_X5_init rfl lk_10_261 (zle rfl) (zle rfl) (zle rfl) (zle rfl) rfl rfl (zle rfl) dX10_sheet_70 rfl (fun v1 T1 N1 P1 I1 R1 hq => ?_)
            obtain ⟨rfl, q2, e0, rfl, rfl, rfl, rfl, rfl⟩ := hq
            have hne : q64 ≠ q2 := fun e => by rw [← e, u1_self] at e0; cases e0
            have hq2 : (T q2).1 = 0 := by rw [u1_na (Ne.symm hne)] at e0; exact e0
            refine v_abs (fun T1 N1 P1 I1 R1 => CR T1 N1 P1 I1 R1 x Mn b g f r ∧ (T1 q64).1 = 15 ∧ N1 5 0 q64 = w ∧ P1 5 1 q64 = some q2 ∧ T1 q2 = (1, k) ∧ (∀ i, I1 q2 i = 0) ∧ Cfr Mn T N P I T1 N1 P1 I1) ⟨hC.gr ?_, ?_, u3_self, u3_self, u1_self, fun i => by rw [u1_self], ?_⟩ (fun T1 N1 P1 I1 R1 hF => ?_)
            · intro a ha
              have h1 : a ≠ q64 := fun e => ha (by rw [e]; exact hq64)
              have h2 : a ≠ q2 := fun e => ha (by rw [e]; exact hq2)
              exact ⟨by rw [u1_na h2, u1_na h1], fun c j => by simp [u3, uo, h1], fun c j => by simp [u3, uo, h1], u1_na h2, rfl⟩
            · rw [u1_na hne, u1_self]
            · exact (((((Cfr.rf.t (fun h => hMn _ h hq64) _).o (by decide) _).t (fun h => hMn _ h hq2) _).n (by decide) _ _ _).p (by decide) _ _ _).i1 (fun h => hMn _ h hq2) _
            obtain ⟨f1, f2, f3, f4, f5, f6, f7⟩ := hF
            obtain ⟨⟨k1, -, -, -, -, k6, -, -, -, k10, -⟩, -, ⟨-, l2, l3⟩, -⟩ := id f1
            refine v_aast (j := s) ti_5 (F := TX5) rfl (zle rfl) k10 rfl (by omega) (zle rfl) f2 dX10_sheet_73 rfl ?_
            refine v_iload_3 dX10_sheet_74 rfl ?_
            have eo : ac_sheet f r (nI s) w (nI k) = (nI k, f, shr r s w (nI k)) := by
              refine (((zi_t ⟨c4, c11⟩).trans (zi_t c22)).trans (zi_t c36)).trans ?_
              rw [ts, zi_f c47]
            have hq : cQ x Mn g T N P I R (ac_sheet f r (nI s) w (nI k)) (some (.int (nI k))) T1 N1 P1 I1 (u2 R1 (b 0 4) s (some q64)) := by
              refine cQ_go (u2 (u2 b 6 s q64) 1 (7 + s) q2) g eo rfl ?_ f7
              refine CR.sgen f1 hs4 (fun a ha => u2_off R1 _ ha) (fun t ht => u2_ni ht) (b' := u2 (u2 b 6 s q64) 1 (7 + s) q2) (fun k h6 h1 => by rw [u2_off _ _ h1, u2_off _ _ h6]) (fun t ht => by rw [u2_off _ _ (show 6 ≠ 1 by decide), u2_ni ht]) (fun i hi => by rw [u2_ni hi, u2_off _ _ (show 1 ≠ 6 by decide)]) (fun k h8 h9 h0 => shr_k h8 h9 h0) (fun t ht => by rw [shr_8, if_neg ht]) (fun t ht => by rw [shr_9, if_neg ht]) (fun t _ ht i hi => shr_0 ht hi) (fun t ht => by have := (hz t ht).2; omega) ⟨fun e => absurd (by rw [shr_8, if_pos rfl] at e; exact e) c47, fun _ => ⟨?_, ?_, ?_, ?_, fun i hi => ?_⟩⟩ (fun _ => ⟨?_, ?_, fun i hi _ => ?_⟩)
              · show u2 R1 (b 0 4) s (some q64) (b 0 4) s = some (u2 (u2 b 6 s q64) 1 (7 + s) q2 6 s)
                rw [u2_self, u2_off _ _ (show 6 ≠ 1 by decide), u2_self]
              · rw [u2_off _ _ (show 6 ≠ 1 by decide), u2_self]; exact f2
              · rw [u2_off _ _ (show 6 ≠ 1 by decide), u2_self, shr_8, if_pos rfl]; exact f3
              · rw [u2_off _ _ (show 6 ≠ 1 by decide), u2_self, u2_self]; exact f4
              · rw [shr_9, if_pos rfl, tn_nI (by omega)] at hi
                rw [u2_self, f6, shr_s (by omega)]
              · rw [u2_self, shr_9, if_pos rfl, tn_nI (by omega)]; exact f5
              · rw [u2_self]; exact fun h => hMn _ h hq2
              · rw [u2_self]; exact fr_ne (t := 1) hq2 (by rw [(a2 i hi).1]) (by decide)
            exact v_ireturn rfl (hq) (zle rfl) (zle rfl) dX10_sheet_75
          · refine v_aload_0 dX10_sheet_50 rfl ?_
            refine v_getP fl_10_37 (by assumption) (by assumption) rfl (zle rfl) rfl dX10_sheet_51 rfl ?_
            refine v_iload_1 dX10_sheet_54 rfl ?_
            refine v_null dX10_sheet_55 rfl ?_
            refine v_aastN (j := s) ti_5 (by assumption) rfl (by omega) (zle rfl) dX10_sheet_56 rfl ?_
            refine v_iconst (v := 0) dX10_sheet_57 rfl rfl ?_
            have eo : ac_sheet f r (nI s) w (nI k) = (0, f, shr r s 0 0) := by
              refine (((zi_t ⟨c4, c11⟩).trans (zi_t c22)).trans (zi_t c36)).trans ?_
              rw [ts, zi_t c47, c47]
            have hq : cQ x Mn g T N P I R (ac_sheet f r (nI s) w (nI k)) (some (.int 0)) T N P I (u2 R (b 0 4) s none) := by
              refine cQ_go b g eo rfl (hC.sgen hs4 (fun a ha => u2_off R _ ha) (fun t ht => u2_ni ht) (fun _ _ _ => rfl) (fun _ _ => rfl) (fun _ _ => rfl) (fun k h8 h9 h0 => shr_k h8 h9 h0) (fun t ht => by rw [shr_8, if_neg ht]) (fun t ht => by rw [shr_9, if_neg ht]) (fun t _ ht i hi => shr_0 ht hi) (fun t ht => by have := (hz t ht).2; omega) ⟨fun _ => u2_self, fun e => absurd (by rw [shr_8, if_pos rfl]) e⟩ (fun e => absurd (by rw [shr_8, if_pos rfl]) e)) Cfr.rf
            exact v_ireturn rfl (hq) (zle rfl) (zle rfl) dX10_sheet_58
        · refine v_aload_0 dX10_sheet_39 rfl ?_
          refine v_ldc dX10_sheet_40 kc_10_65 rfl ?_
          refine v_callV (ci := 10) (F := TX10) (c_X10_finding _ _ (by assumption)) yy_X10_finding im_X10_finding se_X10_finding lk_10_66 (by assumption) (zle rfl) rfl (zle rfl) (zle rfl) (zle rfl) (zle rfl) rfl rfl (zle rfl) dX10_sheet_42 rfl (zp.use ?_)
          exact v_ireturn rfl (cQ_fd hC (((zi_t ⟨c4, c11⟩).trans (zi_t c22)).trans (zi_f c36))) (zle rfl) (zle rfl) dX10_sheet_45
      · refine v_aload_0 dX10_sheet_25 rfl ?_
        refine v_ldcw dX10_sheet_26 kc_10_260 rfl ?_
        refine v_callV (ci := 10) (F := TX10) (c_X10_finding _ _ (by assumption)) yy_X10_finding im_X10_finding se_X10_finding lk_10_66 (by assumption) (zle rfl) rfl (zle rfl) (zle rfl) (zle rfl) (zle rfl) rfl rfl (zle rfl) dX10_sheet_29 rfl (zp.use ?_)
        exact v_ireturn rfl (cQ_fd hC ((zi_t ⟨c4, c11⟩).trans (zi_f c22))) (zle rfl) (zle rfl) dX10_sheet_32
    · refine v_aload_0 dX10_sheet_14 rfl ?_
      refine v_ldc dX10_sheet_15 kc_10_65 rfl ?_
      refine v_callV (ci := 10) (F := TX10) (c_X10_finding _ _ (by assumption)) yy_X10_finding im_X10_finding se_X10_finding lk_10_66 (by assumption) (zle rfl) rfl (zle rfl) (zle rfl) (zle rfl) (zle rfl) rfl rfl (zle rfl) dX10_sheet_17 rfl (zp.use ?_)
      exact v_ireturn rfl (cQ_fd hC (zi_f (fun h => c11 h.2))) (zle rfl) (zle rfl) dX10_sheet_20
