section zstr
variable {E : zE} {y : MethodName} {cc : ByteArray} {nL : Nat} {ret : Option FieldType} {rm : Room} {K : zK E y cc nL ret rm} {Qf : State → Prop} {T : zT} {N : zN} {P : zP} {I : zI} {R : zR} {kc ks pc n idx : Nat} {ls : List (Option Value)} {st : List Value}
theorem v_ldcS (hy : y.cls = RX3) (d : decode cc pc = .ok (.ldc 62, 2)) (hn : pc + 2 = n) (k : V K Qf T N P I R kc ks n ls (.ref E.2.2.2.1 :: st)) : V K Qf T N P I R kc ks pc ls st := by
  subst hn
  exact fun H locs LS h1 h2 h3 => va_ldcS K.x K.hb (own := RX3) (by rw [← hy]; exact K.ho) K.hw.2.2.2.1 d (k H locs LS h1 h2 h3)
theorem v_gets1 (hl : Cond.fieldLink y.cls idx "java/lang/String" "COMPACT_STRINGS" "Z" ∈ lw_tbl) (d : decode cc pc = .ok (.getstatic idx, 3)) (hn : pc + 3 = n) (k : V K Qf T N P I R kc ks n ls (.int 1 :: st)) : V K Qf T N P I R kc ks pc ls st := by
  subst hn
  exact fun H locs LS h1 h2 h3 => va_gets K.x K.hb K.hw.2.2.2.2.2.1 h2 K.ho (K.wd hl rfl) (fun _ h => h) d (k H locs LS h1 h2 h3)
theorem v_getsQ (hl : Cond.fieldLink y.cls idx "jdk/internal/util/Preconditions" "SIOOBE_FORMATTER" "Ljava/util/function/BiFunction;" ∈ lw_tbl) (d : decode cc pc = .ok (.getstatic idx, 3)) (hn : pc + 3 = n) (k : ∀ v : Value, (v = .null ∨ ∃ t, v = .ref t) → V K Qf T N P I R kc ks n ls (v :: st)) : V K Qf T N P I R kc ks pc ls st := by
  subst hn
  intro H locs LS h1 h2 h3
  rcases K.hw.2.2.2.2.2.2 with hz | ⟨t, hz⟩
  · exact va_gets K.x K.hb hz h2 K.ho (K.wd hl rfl) (fun _ h => h) d (k _ (Or.inl rfl) H locs LS h1 h2 h3)
  · exact va_gets K.x K.hb hz h2 K.ho (K.wd hl rfl) (fun _ h => h) d (k _ (Or.inr ⟨t, rfl⟩) H locs LS h1 h2 h3)
theorem v_getfC (hl : Cond.fieldLink y.cls idx "java/lang/String" "coder" "B" ∈ lw_tbl) (d : decode cc pc = .ok (.getfield idx, 3)) (hn : pc + 3 = n) (k : V K Qf T N P I R kc ks n ls (.int 0 :: st)) : V K Qf T N P I R kc ks pc ls (.ref E.2.2.2.1 :: st) := by
  subst hn
  exact fun H locs LS h1 h2 h3 => vk_getf K.x K.hb (K.hw.2.2.2.2.1.1 0 (by decide)).2.1 h2 K.ho (K.wd hl rfl) (fun _ h => h) d (k H locs LS h1 h2 h3)
theorem v_getfV (hl : Cond.fieldLink y.cls idx "java/lang/String" "value" "[B" ∈ lw_tbl) (d : decode cc pc = .ok (.getfield idx, 3)) (hn : pc + 3 = n) (k : V K Qf T N P I R kc ks n ls (.ref E.2.2.2.2 :: st)) : V K Qf T N P I R kc ks pc ls (.ref E.2.2.2.1 :: st) := by
  subst hn
  exact fun H locs LS h1 h2 h3 => vk_getf K.x K.hb (K.hw.2.2.2.2.1.1 0 (by decide)).2.2.1 h2 K.ho (K.wd hl rfl) (fun _ h => h) d (k H locs LS h1 h2 h3)
theorem v_tlen4 (d : decode cc pc = .ok (.arraylength, 1)) (hn : pc + 1 = n) (k : V K Qf T N P I R kc ks n ls (.int 4 :: st)) : V K Qf T N P I R kc ks pc ls (.ref E.2.2.2.2 :: st) := by
  subst hn
  exact fun H locs LS h1 h2 h3 => va_tlen K.x K.hb (K.hw.2.2.2.2.1.1 0 (by decide)).2.2.2 h2 (v := 4) rfl d (k H locs LS h1 h2 h3)
/-- the letters of the kinds -/
def klt (j : Nat) : Int32 := ([112, 115, 116, 101] : List Int32).getD j 0
theorem v_tb4 {j : Nat} (hj : j < 4) (d : decode cc pc = .ok (.baload, 1)) (hn : pc + 1 = n) (k : V K Qf T N P I R kc ks n ls (.int (klt j) :: st)) : V K Qf T N P I R kc ks pc ls (.int (nI j) :: .ref E.2.2.2.2 :: st) := by
  subst hn
  exact fun H locs LS h1 h2 h3 => va_tb K.x K.hb (K.hw.2.2.2.2.1.1 0 (by decide)).2.2.2 h2 (vp_in_nI hj (by decide)) (v := .int (klt j)) (by rw [nI_clamp (by omega)]; rfl) d (k H locs LS h1 h2 h3)
variable {y2 : MethodName} {cc2 : ByteArray} {nL2 np : Nat} {ret2 : Option FieldType} {rm2 : Room} {As : List Value} {Q : Option Value → zT → zN → zP → zI → zR → Prop}
theorem v_callT (hC : zC E y2 cc2 nL2 ret2 rm2 (.ref E.2.2.2.1 :: As) T N P I R Q) (hy : zY y2 cc2 nL2 ret2 np) (hin : Cond.instanceMethod y2 ∈ lw_tbl) (hse : Cond.selects y2.cls y2 y2 ∈ lw_tbl) (hl : zLk y.cls idx y2) (hys : y2.cls = "java/lang/String") (hfr : rm2.frames + 1 ≤ rm.frames) (hlo : 8 + (nL2 + 11) + rm2.locals ≤ rm.locals) (hcc : kc + rm2.cells ≤ rm.cells) (hss : ks + rm2.slots ≤ rm.slots)
    (hnp : As.length = np) {st0 : List Value} (hst : st0 = As.reverse ++ .ref E.2.2.2.1 :: st) (hcat : (st.map fun v => v.category).sum ≤ 8) (d : decode cc pc = .ok (.invokevirtual idx, 3)) (hn : pc + 3 = n)
    (kk : ∀ (v : Option Value) (T : zT) (N : zN) (P : zP) (I : zI) (R : zR), Q v T N P I R → V K Qf T N P I R (kc + rm2.cells) (ks + rm2.slots) n ls (v.toList ++ st)) : V K Qf T N P I R kc ks pc ls st0 := by
  subst hn
  intro H locs LS h1 h2 h3
  have hrc := vk_recv K.hw.2.2.2.2.1 (i := 0) (by decide) h2
  rw [← hys] at hrc
  have hf : kc + rm2.cells ≤ K.1.R.cells ∧ ks + rm2.slots ≤ K.1.R.slots := by rw [K.hR]; exact ⟨hcc, hss⟩
  rcases hl with hl | ⟨host, hl⟩
  · exact z_cont (va_runV K.fix (hC K.1.l) ⟨K.callB hy hl hfr hlo, K.wd hin rfl, K.wd hse rfl⟩ ⟨zblind, hrc, K.pre h1 h2⟩ rfl hnp h3.1 hst (lv_room hcat) d hf) h2 (fun v T N P I R hq H1 locs1 g1 g2 => kk v T N P I R hq H1 locs1 LS g1 g2 h3)
  · exact z_cont (va_runVN K.fix (hC K.1.l) ⟨K.callN hy hl hfr hlo, K.wd hin rfl, K.wd hse rfl⟩ ⟨zblind, hrc, K.pre h1 h2⟩ rfl hnp h3.1 hst (lv_room hcat) d hf) h2 (fun v T N P I R hq H1 locs1 g1 g2 => kk v T N P I R hq H1 locs1 LS g1 g2 h3)
end zstr
theorem c_J0_coder_7d493 {E : zE} {T : zT} {N : zN} {P : zP} {I : zI} {R : zR} : zC E yJ0_coder_7d493 cJ0_coder_7d493 1 (some .byte) (zr0 0 0) [.ref E.2.2.2.1] T N P I R (zp 0 T N P I R) := by
  refine zC.intro (ls := [some (.ref E.2.2.2.1)]) pl_RJ0 (zle rfl) 0 rfl (fun K => ?_)
  refine v_gets1 (in_t2 124 rfl) dJ0_coder_7d493_0 rfl ?_
  refine v_if_eq_f (tgt := 13) (by decide) dJ0_coder_7d493_3 (by decide) rfl ?_
  refine v_aload_0 dJ0_coder_7d493_6 rfl ?_
  refine v_getfC (in_t5 208 rfl) dJ0_coder_7d493_7 rfl ?_
  refine v_goto (n := 14) dJ0_coder_7d493_10 (by decide) ?_
  exact v_zreturn rfl rfl zp.rf (zle rfl) (zle rfl) dJ0_coder_7d493_14
theorem c_J0_isLatin1_aae02 {E : zE} {T : zT} {N : zN} {P : zP} {I : zI} {R : zR} : zC E yJ0_isLatin1_aae02 cJ0_isLatin1_aae02 1 (some .boolean) (zr0 0 0) [.ref E.2.2.2.1] T N P I R (zp 1 T N P I R) := by
  refine zC.intro (ls := [some (.ref E.2.2.2.1)]) pl_RJ0 (zle rfl) 0 rfl (fun K => ?_)
  refine v_gets1 (in_t2 124 rfl) dJ0_isLatin1_aae02_0 rfl ?_
  refine v_if_eq_f (tgt := 17) (by decide) dJ0_isLatin1_aae02_3 (by decide) rfl ?_
  refine v_aload_0 dJ0_isLatin1_aae02_6 rfl ?_
  refine v_getfC (in_t5 208 rfl) dJ0_isLatin1_aae02_7 rfl ?_
  refine v_if_ne_f (tgt := 17) (by decide) dJ0_isLatin1_aae02_10 (by decide) rfl ?_
  refine v_iconst (v := 1) dJ0_isLatin1_aae02_13 rfl rfl ?_
  refine v_goto (n := 18) dJ0_isLatin1_aae02_14 (by decide) ?_
  exact v_zreturn rfl rfl zp.rf (zle rfl) (zle rfl) dJ0_isLatin1_aae02_18
theorem c_J0_length_8abf5 {E : zE} {T : zT} {N : zN} {P : zP} {I : zI} {R : zR} : zC E yJ0_length_8abf5 cJ0_length_8abf5 1 (some .int) (zr0 1 20) [.ref E.2.2.2.1] T N P I R (zp 4 T N P I R) := by
  refine zC.intro (ls := [some (.ref E.2.2.2.1)]) pl_RJ0 (zle rfl) 0 rfl (fun K => ?_)
  refine v_aload_0 dJ0_length_8abf5_0 rfl ?_
  refine v_getfV (in_t5 207 rfl) dJ0_length_8abf5_1 rfl ?_
  refine v_tlen4 dJ0_length_8abf5_4 rfl ?_
  refine v_aload_0 dJ0_length_8abf5_5 rfl ?_
  refine v_callT c_J0_coder_7d493 yy_J0_coder_7d493 im_J0_coder_7d493 se_J0_coder_7d493 (Or.inl (in_t2 120 rfl)) rfl (zle rfl) (zle rfl) (zle rfl) (zle rfl) rfl rfl (zle rfl) dJ0_length_8abf5_6 rfl (zp.use ?_)
  refine v_ishr dJ0_length_8abf5_9 rfl ?_
  exact v_ireturn rfl zp.rf (zle rfl) (zle rfl) dJ0_length_8abf5_10
theorem c_J3_checkIndex_8e157 {E : zE} {T : zT} {N : zN} {P : zP} {I : zI} {R : zR} (j : Nat) (v : Value) (hj : j < 4) (hv : v = .null ∨ ∃ t, v = .ref t) : zC E yJ3_checkIndex_8e157 cJ3_checkIndex_8e157 3 (some .int) (zr0 0 0) [.int (nI j), .int 4, v] T N P I R (zp (nI j) T N P I R) := by
  have hw : ∀ K : zK E yJ3_checkIndex_8e157 cJ3_checkIndex_8e157 3 (some .int) (zr0 0 0), V K (zQf K (zp (nI j) T N P I R)) T N P I R 0 0 0 [some (.int (nI j)), some (.int 4), some v] [] := by
    intro K
    refine v_iload_0 dJ3_checkIndex_8e157_0 rfl ?_
    refine v_if_lt_f (tgt := 9) (nI_pos (by omega)) dJ3_checkIndex_8e157_1 (by decide) rfl ?_
    refine v_iload_0 dJ3_checkIndex_8e157_4 rfl ?_
    refine v_iload_1 dJ3_checkIndex_8e157_5 rfl ?_
    refine v_icmp_lt_t (n := 16) (by rcases (show j = 0 ∨ j = 1 ∨ j = 2 ∨ j = 3 by omega) with h | h | h | h <;> subst h <;> decide) dJ3_checkIndex_8e157_6 (by decide) ?_
    refine v_iload_0 dJ3_checkIndex_8e157_16 rfl ?_
    exact v_ireturn rfl zp.rf (zle rfl) (zle rfl) dJ3_checkIndex_8e157_17
  rcases hv with rfl | ⟨t, rfl⟩
  · exact zC.intro pl_RJ3 (zle rfl) 0 rfl hw
  · exact zC.intro pl_RJ3 (zle rfl) 0 rfl hw
theorem c_J0_checkIndex_df160 {E : zE} {T : zT} {N : zN} {P : zP} {I : zI} {R : zR} (j : Nat) (hj : j < 4) : zC E yJ0_checkIndex_df160 cJ0_checkIndex_df160 2 none (zr0 1 22) [.int (nI j), .int 4] T N P I R (zv T N P I R) := by
  refine zC.intro (ls := [some (.int (nI j)), some (.int 4)]) pl_RJ0 (zle rfl) 0 rfl (fun K => ?_)
  refine v_iload_0 dJ0_checkIndex_df160_0 rfl ?_
  refine v_iload_1 dJ0_checkIndex_df160_1 rfl ?_
  refine v_getsQ (in_t2 140 rfl) dJ0_checkIndex_df160_2 rfl (fun v hv => ?_)
  refine v_callS (c_J3_checkIndex_8e157 j v hj hv) yy_J3_checkIndex_8e157 st_J3_checkIndex_8e157 (Or.inl (in_t2 142 rfl)) (zle rfl) (zle rfl) (zle rfl) (zle rfl) rfl rfl (zle rfl) dJ0_checkIndex_df160_5 rfl (zp.use ?_)
  refine v_pop dJ0_checkIndex_df160_8 rfl rfl ?_
  exact v_return rfl zv.rf (zle rfl) (zle rfl) dJ0_checkIndex_df160_9
theorem c_J1_charAt_3b067 {E : zE} {T : zT} {N : zN} {P : zP} {I : zI} {R : zR} (j : Nat) (hj : j < 4) : zC E yJ1_charAt_3b067 cJ1_charAt_3b067 2 (some .char) (zr0 2 43) [.ref E.2.2.2.2, .int (nI j)] T N P I R (zp (klt j) T N P I R) := by
  refine zC.intro (ls := [some (.ref E.2.2.2.2), some (.int (nI j))]) pl_RJ1 (zle rfl) 0 rfl (fun K => ?_)
  have e : ((klt j &&& 255).toUInt32 % 65536).toInt32 = klt j ∧ narrow .char (.int (klt j)) = .int (klt j) := by
    rcases (show j = 0 ∨ j = 1 ∨ j = 2 ∨ j = 3 by omega) with h | h | h | h <;> subst h <;> exact ⟨by decide, rfl⟩
  refine v_iload_1 dJ1_charAt_3b067_0 rfl ?_
  refine v_aload_0 dJ1_charAt_3b067_1 rfl ?_
  refine v_tlen4 dJ1_charAt_3b067_2 rfl ?_
  refine v_callS (c_J0_checkIndex_df160 j hj) yy_J0_checkIndex_df160 st_J0_checkIndex_df160 (Or.inl (in_t2 137 rfl)) (zle rfl) (zle rfl) (zle rfl) (zle rfl) rfl rfl (zle rfl) dJ1_charAt_3b067_3 rfl (zv.use ?_)
  refine v_aload_0 dJ1_charAt_3b067_6 rfl ?_
  refine v_iload_1 dJ1_charAt_3b067_7 rfl ?_
  refine v_tb4 hj dJ1_charAt_3b067_8 rfl ?_
  refine v_sipush (v := 255) dJ1_charAt_3b067_9 rfl rfl ?_
  refine v_iand dJ1_charAt_3b067_12 rfl ?_
  refine v_i2c dJ1_charAt_3b067_13 rfl ?_
  refine v_top e.1 ?_
  exact v_zreturn rfl e.2 zp.rf (zle rfl) (zle rfl) dJ1_charAt_3b067_14
theorem c_J0_charAt_5068e {E : zE} {T : zT} {N : zN} {P : zP} {I : zI} {R : zR} (j : Nat) (hj : j < 4) : zC E yJ0_charAt_5068e cJ0_charAt_5068e 2 (some .char) (zr0 3 64) [.ref E.2.2.2.1, .int (nI j)] T N P I R (zp (klt j) T N P I R) := by
  refine zC.intro (ls := [some (.ref E.2.2.2.1), some (.int (nI j))]) pl_RJ0 (zle rfl) 0 rfl (fun K => ?_)
  have e : narrow .char (.int (klt j)) = .int (klt j) := by
    rcases (show j = 0 ∨ j = 1 ∨ j = 2 ∨ j = 3 by omega) with h | h | h | h <;> subst h <;> rfl
  refine v_aload_0 dJ0_charAt_5068e_0 rfl ?_
  refine v_callT c_J0_isLatin1_aae02 yy_J0_isLatin1_aae02 im_J0_isLatin1_aae02 se_J0_isLatin1_aae02 (Or.inl (in_t2 130 rfl)) rfl (zle rfl) (zle rfl) (zle rfl) (zle rfl) rfl rfl (zle rfl) dJ0_charAt_5068e_1 rfl (zp.use ?_)
  refine v_if_eq_f (tgt := 16) (by decide) dJ0_charAt_5068e_4 (by decide) rfl ?_
  refine v_aload_0 dJ0_charAt_5068e_7 rfl ?_
  refine v_getfV (in_t5 207 rfl) dJ0_charAt_5068e_8 rfl ?_
  refine v_iload_1 dJ0_charAt_5068e_11 rfl ?_
  refine v_callS (c_J1_charAt_3b067 j hj) yy_J1_charAt_3b067 st_J1_charAt_3b067 (Or.inl (in_t2 134 rfl)) (zle rfl) (zle rfl) (zle rfl) (zle rfl) rfl rfl (zle rfl) dJ0_charAt_5068e_12 rfl (zp.use ?_)
  exact v_zreturn rfl e zp.rf (zle rfl) (zle rfl) dJ0_charAt_5068e_15
