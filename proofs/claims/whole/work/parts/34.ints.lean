theorem kc_J6_266 : Cond.constant RJ6 264 (65536) ∈ lw_tbl := in_t3 235 rfl
theorem kc_J6_267 : Cond.constant RJ6 265 (1431655765) ∈ lw_tbl := in_t3 52 rfl
theorem kc_J6_268 : Cond.constant RJ6 266 (858993459) ∈ lw_tbl := in_t3 53 rfl
theorem kc_J6_269 : Cond.constant RJ6 267 (252645135) ∈ lw_tbl := in_t3 54 rfl
abbrev ush (a b : Int32) : Int32 := (a.toUInt32 >>> (b.toUInt32 &&& Int32.toUInt32 31)).toInt32
abbrev bcA (x : Int32) : Int32 := x - (ush x 1 &&& 1431655765)
abbrev bcB (x : Int32) : Int32 := (x &&& 858993459) + (ush x 2 &&& 858993459)
abbrev bcC (x : Int32) : Int32 := (x + ush x 4) &&& 252645135
abbrev bcD (x : Int32) : Int32 := x + ush x 8
abbrev bcE (x : Int32) : Int32 := x + ush x 16
theorem bc_all : ∀ s, s < 256 → (bcE (bcD (bcC (bcB (bcA (nI s)))))) &&& 63 = nI (fb_ct (fun p => s.testBit p) 8) := by decide +kernel
theorem c_J6_bitCount_0f7a4 {E : zE} {T : zT} {N : zN} {P : zP} {I : zI} {R : zR} (s : Nat) (hs : s < 256) : zC E yJ6_bitCount_0f7a4 cJ6_bitCount_0f7a4 1 (some .int) (zr0 0 0) [.int (nI s)] T N P I R (zp (nI (fb_ct (fun p => s.testBit p) 8)) T N P I R) := by
  refine zC.intro (ls := [some (.int (nI s))]) pl_RJ6 (zle rfl) 0 rfl (fun K => ?_)
  refine v_iload_0 dJ6_bitCount_0f7a4_0 rfl ?_
  refine v_iload_0 dJ6_bitCount_0f7a4_1 rfl ?_
  refine v_iconst (v := 1) dJ6_bitCount_0f7a4_2 rfl rfl ?_
  refine v_iushr dJ6_bitCount_0f7a4_3 rfl ?_
  refine v_ldcw dJ6_bitCount_0f7a4_4 kc_J6_267 rfl ?_
  refine v_iand dJ6_bitCount_0f7a4_7 rfl ?_
  refine v_isub dJ6_bitCount_0f7a4_8 rfl ?_
  refine v_istore_0 dJ6_bitCount_0f7a4_9 (zle rfl) rfl ?_
  refine v_iload_0 dJ6_bitCount_0f7a4_10 rfl ?_
  refine v_ldcw dJ6_bitCount_0f7a4_11 kc_J6_268 rfl ?_
  refine v_iand dJ6_bitCount_0f7a4_14 rfl ?_
  refine v_iload_0 dJ6_bitCount_0f7a4_15 rfl ?_
  refine v_iconst (v := 2) dJ6_bitCount_0f7a4_16 rfl rfl ?_
  refine v_iushr dJ6_bitCount_0f7a4_17 rfl ?_
  refine v_ldcw dJ6_bitCount_0f7a4_18 kc_J6_268 rfl ?_
  refine v_iand dJ6_bitCount_0f7a4_21 rfl ?_
  refine v_iadd dJ6_bitCount_0f7a4_22 rfl ?_
  refine v_istore_0 dJ6_bitCount_0f7a4_23 (zle rfl) rfl ?_
  refine v_iload_0 dJ6_bitCount_0f7a4_24 rfl ?_
  refine v_iload_0 dJ6_bitCount_0f7a4_25 rfl ?_
  refine v_iconst (v := 4) dJ6_bitCount_0f7a4_26 rfl rfl ?_
  refine v_iushr dJ6_bitCount_0f7a4_27 rfl ?_
  refine v_iadd dJ6_bitCount_0f7a4_28 rfl ?_
  refine v_ldcw dJ6_bitCount_0f7a4_29 kc_J6_269 rfl ?_
  refine v_iand dJ6_bitCount_0f7a4_32 rfl ?_
  refine v_istore_0 dJ6_bitCount_0f7a4_33 (zle rfl) rfl ?_
  refine v_iload_0 dJ6_bitCount_0f7a4_34 rfl ?_
  refine v_iload_0 dJ6_bitCount_0f7a4_35 rfl ?_
  refine v_bipush (v := 8) dJ6_bitCount_0f7a4_36 rfl rfl ?_
  refine v_iushr dJ6_bitCount_0f7a4_38 rfl ?_
  refine v_iadd dJ6_bitCount_0f7a4_39 rfl ?_
  refine v_istore_0 dJ6_bitCount_0f7a4_40 (zle rfl) rfl ?_
  refine v_iload_0 dJ6_bitCount_0f7a4_41 rfl ?_
  refine v_iload_0 dJ6_bitCount_0f7a4_42 rfl ?_
  refine v_bipush (v := 16) dJ6_bitCount_0f7a4_43 rfl rfl ?_
  refine v_iushr dJ6_bitCount_0f7a4_45 rfl ?_
  refine v_iadd dJ6_bitCount_0f7a4_46 rfl ?_
  refine v_istore_0 dJ6_bitCount_0f7a4_47 (zle rfl) rfl ?_
  refine v_iload_0 dJ6_bitCount_0f7a4_48 rfl ?_
  refine v_bipush (v := 63) dJ6_bitCount_0f7a4_49 rfl rfl ?_
  refine v_iand dJ6_bitCount_0f7a4_51 rfl ?_
  exact v_ireturn rfl (zp_e (bc_all s hs)) (zle rfl) (zle rfl) dJ6_bitCount_0f7a4_52
theorem c_J6_numberOfTrailingZeros_0f7a4 {E : zE} {T : zT} {N : zN} {P : zP} {I : zI} {R : zR} (k : Nat) (hk : k < 8) : zC E yJ6_numberOfTrailingZeros_0f7a4 cJ6_numberOfTrailingZeros_0f7a4 2 (some .int) (zr0 0 0) [.int (nI (2 ^ k))] T N P I R (zp (nI k) T N P I R) := by
  refine zC.intro (ls := [some (.int (nI (2 ^ k))), none]) pl_RJ6 (zle rfl) 1 rfl (fun K => ?_)
  refine v_iload_0 dJ6_numberOfTrailingZeros_0f7a4_0 rfl ?_
  refine v_iconst (v := -1) dJ6_numberOfTrailingZeros_0f7a4_1 rfl rfl ?_
  refine v_ixor dJ6_numberOfTrailingZeros_0f7a4_2 rfl ?_
  refine v_iload_0 dJ6_numberOfTrailingZeros_0f7a4_3 rfl ?_
  refine v_iconst (v := 1) dJ6_numberOfTrailingZeros_0f7a4_4 rfl rfl ?_
  refine v_isub dJ6_numberOfTrailingZeros_0f7a4_5 rfl ?_
  refine v_iand dJ6_numberOfTrailingZeros_0f7a4_6 rfl ?_
  refine v_istore_0 dJ6_numberOfTrailingZeros_0f7a4_7 (zle rfl) rfl ?_
  refine v_iload_0 dJ6_numberOfTrailingZeros_0f7a4_8 rfl ?_
  refine v_if_gt (tgt := 17) dJ6_numberOfTrailingZeros_0f7a4_9 (by decide) rfl (fun c9 => ?_) (fun c9 => ?_)
  · refine v_iconst (v := 1) dJ6_numberOfTrailingZeros_0f7a4_17 rfl rfl ?_
    refine v_istore_1 dJ6_numberOfTrailingZeros_0f7a4_18 rfl (zle rfl) rfl ?_
    refine v_iload_0 dJ6_numberOfTrailingZeros_0f7a4_19 rfl ?_
    refine v_ldcw dJ6_numberOfTrailingZeros_0f7a4_20 kc_J6_266 rfl ?_
    refine v_icmp_le (tgt := 34) dJ6_numberOfTrailingZeros_0f7a4_23 (by decide) rfl (fun c23 => ?_) (fun c23 => ?_)
    · refine v_iload_0 dJ6_numberOfTrailingZeros_0f7a4_34 rfl ?_
      refine v_sipush (v := 256) dJ6_numberOfTrailingZeros_0f7a4_35 rfl rfl ?_
      refine v_icmp_le (tgt := 49) dJ6_numberOfTrailingZeros_0f7a4_38 (by decide) rfl (fun c38 => ?_) (fun c38 => ?_)
      · refine v_iload_0 dJ6_numberOfTrailingZeros_0f7a4_49 rfl ?_
        refine v_bipush (v := 16) dJ6_numberOfTrailingZeros_0f7a4_50 rfl rfl ?_
        refine v_icmp_le (tgt := 62) dJ6_numberOfTrailingZeros_0f7a4_52 (by decide) rfl (fun c52 => ?_) (fun c52 => ?_)
        · refine v_iload_0 dJ6_numberOfTrailingZeros_0f7a4_62 rfl ?_
          refine v_iconst (v := 4) dJ6_numberOfTrailingZeros_0f7a4_63 rfl rfl ?_
          refine v_icmp_le (tgt := 74) dJ6_numberOfTrailingZeros_0f7a4_64 (by decide) rfl (fun c64 => ?_) (fun c64 => ?_)
          · refine v_iload_1 dJ6_numberOfTrailingZeros_0f7a4_74 rfl ?_
            refine v_iload_0 dJ6_numberOfTrailingZeros_0f7a4_75 rfl ?_
            refine v_iconst (v := 1) dJ6_numberOfTrailingZeros_0f7a4_76 rfl rfl ?_
            refine v_iushr dJ6_numberOfTrailingZeros_0f7a4_77 rfl ?_
            refine v_iadd dJ6_numberOfTrailingZeros_0f7a4_78 rfl ?_
            exact v_ireturn rfl (by
      rcases (show k = 0 ∨ k = 1 ∨ k = 2 ∨ k = 3 ∨ k = 4 ∨ k = 5 ∨ k = 6 ∨ k = 7 by omega) with rfl | rfl | rfl | rfl | rfl | rfl | rfl | rfl <;> first | exact zp_e (by decide +kernel) | exact absurd c9 (by decide +kernel) | exact absurd c23 (by decide +kernel) | exact absurd c38 (by decide +kernel) | exact absurd c52 (by decide +kernel) | exact absurd c64 (by decide +kernel)) (zle rfl) (zle rfl) dJ6_numberOfTrailingZeros_0f7a4_79
          · refine v_iinc_1 dJ6_numberOfTrailingZeros_0f7a4_67 rfl rfl (zle rfl) rfl ?_
            refine v_iload_0 dJ6_numberOfTrailingZeros_0f7a4_70 rfl ?_
            refine v_iconst (v := 2) dJ6_numberOfTrailingZeros_0f7a4_71 rfl rfl ?_
            refine v_iushr dJ6_numberOfTrailingZeros_0f7a4_72 rfl ?_
            refine v_istore_0 dJ6_numberOfTrailingZeros_0f7a4_73 (zle rfl) rfl ?_
            refine v_iload_1 dJ6_numberOfTrailingZeros_0f7a4_74 rfl ?_
            refine v_iload_0 dJ6_numberOfTrailingZeros_0f7a4_75 rfl ?_
            refine v_iconst (v := 1) dJ6_numberOfTrailingZeros_0f7a4_76 rfl rfl ?_
            refine v_iushr dJ6_numberOfTrailingZeros_0f7a4_77 rfl ?_
            refine v_iadd dJ6_numberOfTrailingZeros_0f7a4_78 rfl ?_
            exact v_ireturn rfl (by
      rcases (show k = 0 ∨ k = 1 ∨ k = 2 ∨ k = 3 ∨ k = 4 ∨ k = 5 ∨ k = 6 ∨ k = 7 by omega) with rfl | rfl | rfl | rfl | rfl | rfl | rfl | rfl <;> first | exact zp_e (by decide +kernel) | exact absurd c9 (by decide +kernel) | exact absurd c23 (by decide +kernel) | exact absurd c38 (by decide +kernel) | exact absurd c52 (by decide +kernel) | exact absurd c64 (by decide +kernel)) (zle rfl) (zle rfl) dJ6_numberOfTrailingZeros_0f7a4_79
        · refine v_iinc_1 dJ6_numberOfTrailingZeros_0f7a4_55 rfl rfl (zle rfl) rfl ?_
          refine v_iload_0 dJ6_numberOfTrailingZeros_0f7a4_58 rfl ?_
          refine v_iconst (v := 4) dJ6_numberOfTrailingZeros_0f7a4_59 rfl rfl ?_
          refine v_iushr dJ6_numberOfTrailingZeros_0f7a4_60 rfl ?_
          refine v_istore_0 dJ6_numberOfTrailingZeros_0f7a4_61 (zle rfl) rfl ?_
          refine v_iload_0 dJ6_numberOfTrailingZeros_0f7a4_62 rfl ?_
          refine v_iconst (v := 4) dJ6_numberOfTrailingZeros_0f7a4_63 rfl rfl ?_
          refine v_icmp_le (tgt := 74) dJ6_numberOfTrailingZeros_0f7a4_64 (by decide) rfl (fun c64 => ?_) (fun c64 => ?_)
          · refine v_iload_1 dJ6_numberOfTrailingZeros_0f7a4_74 rfl ?_
            refine v_iload_0 dJ6_numberOfTrailingZeros_0f7a4_75 rfl ?_
            refine v_iconst (v := 1) dJ6_numberOfTrailingZeros_0f7a4_76 rfl rfl ?_
            refine v_iushr dJ6_numberOfTrailingZeros_0f7a4_77 rfl ?_
            refine v_iadd dJ6_numberOfTrailingZeros_0f7a4_78 rfl ?_
            exact v_ireturn rfl (by
      rcases (show k = 0 ∨ k = 1 ∨ k = 2 ∨ k = 3 ∨ k = 4 ∨ k = 5 ∨ k = 6 ∨ k = 7 by omega) with rfl | rfl | rfl | rfl | rfl | rfl | rfl | rfl <;> first | exact zp_e (by decide +kernel) | exact absurd c9 (by decide +kernel) | exact absurd c23 (by decide +kernel) | exact absurd c38 (by decide +kernel) | exact absurd c52 (by decide +kernel) | exact absurd c64 (by decide +kernel)) (zle rfl) (zle rfl) dJ6_numberOfTrailingZeros_0f7a4_79
          · refine v_iinc_1 dJ6_numberOfTrailingZeros_0f7a4_67 rfl rfl (zle rfl) rfl ?_
            refine v_iload_0 dJ6_numberOfTrailingZeros_0f7a4_70 rfl ?_
            refine v_iconst (v := 2) dJ6_numberOfTrailingZeros_0f7a4_71 rfl rfl ?_
            refine v_iushr dJ6_numberOfTrailingZeros_0f7a4_72 rfl ?_
            refine v_istore_0 dJ6_numberOfTrailingZeros_0f7a4_73 (zle rfl) rfl ?_
            refine v_iload_1 dJ6_numberOfTrailingZeros_0f7a4_74 rfl ?_
            refine v_iload_0 dJ6_numberOfTrailingZeros_0f7a4_75 rfl ?_
            refine v_iconst (v := 1) dJ6_numberOfTrailingZeros_0f7a4_76 rfl rfl ?_
            refine v_iushr dJ6_numberOfTrailingZeros_0f7a4_77 rfl ?_
            refine v_iadd dJ6_numberOfTrailingZeros_0f7a4_78 rfl ?_
            exact v_ireturn rfl (by
      rcases (show k = 0 ∨ k = 1 ∨ k = 2 ∨ k = 3 ∨ k = 4 ∨ k = 5 ∨ k = 6 ∨ k = 7 by omega) with rfl | rfl | rfl | rfl | rfl | rfl | rfl | rfl <;> first | exact zp_e (by decide +kernel) | exact absurd c9 (by decide +kernel) | exact absurd c23 (by decide +kernel) | exact absurd c38 (by decide +kernel) | exact absurd c52 (by decide +kernel) | exact absurd c64 (by decide +kernel)) (zle rfl) (zle rfl) dJ6_numberOfTrailingZeros_0f7a4_79
      · refine v_iinc_1 dJ6_numberOfTrailingZeros_0f7a4_41 rfl rfl (zle rfl) rfl ?_
        refine v_iload_0 dJ6_numberOfTrailingZeros_0f7a4_44 rfl ?_
        refine v_bipush (v := 8) dJ6_numberOfTrailingZeros_0f7a4_45 rfl rfl ?_
        refine v_iushr dJ6_numberOfTrailingZeros_0f7a4_47 rfl ?_
        refine v_istore_0 dJ6_numberOfTrailingZeros_0f7a4_48 (zle rfl) rfl ?_
        refine v_iload_0 dJ6_numberOfTrailingZeros_0f7a4_49 rfl ?_
        refine v_bipush (v := 16) dJ6_numberOfTrailingZeros_0f7a4_50 rfl rfl ?_
        refine v_icmp_le (tgt := 62) dJ6_numberOfTrailingZeros_0f7a4_52 (by decide) rfl (fun c52 => ?_) (fun c52 => ?_)
        · refine v_iload_0 dJ6_numberOfTrailingZeros_0f7a4_62 rfl ?_
          refine v_iconst (v := 4) dJ6_numberOfTrailingZeros_0f7a4_63 rfl rfl ?_
          refine v_icmp_le (tgt := 74) dJ6_numberOfTrailingZeros_0f7a4_64 (by decide) rfl (fun c64 => ?_) (fun c64 => ?_)
          · refine v_iload_1 dJ6_numberOfTrailingZeros_0f7a4_74 rfl ?_
            refine v_iload_0 dJ6_numberOfTrailingZeros_0f7a4_75 rfl ?_
            refine v_iconst (v := 1) dJ6_numberOfTrailingZeros_0f7a4_76 rfl rfl ?_
            refine v_iushr dJ6_numberOfTrailingZeros_0f7a4_77 rfl ?_
            refine v_iadd dJ6_numberOfTrailingZeros_0f7a4_78 rfl ?_
            exact v_ireturn rfl (by
      rcases (show k = 0 ∨ k = 1 ∨ k = 2 ∨ k = 3 ∨ k = 4 ∨ k = 5 ∨ k = 6 ∨ k = 7 by omega) with rfl | rfl | rfl | rfl | rfl | rfl | rfl | rfl <;> first | exact zp_e (by decide +kernel) | exact absurd c9 (by decide +kernel) | exact absurd c23 (by decide +kernel) | exact absurd c38 (by decide +kernel) | exact absurd c52 (by decide +kernel) | exact absurd c64 (by decide +kernel)) (zle rfl) (zle rfl) dJ6_numberOfTrailingZeros_0f7a4_79
          · refine v_iinc_1 dJ6_numberOfTrailingZeros_0f7a4_67 rfl rfl (zle rfl) rfl ?_
            refine v_iload_0 dJ6_numberOfTrailingZeros_0f7a4_70 rfl ?_
            refine v_iconst (v := 2) dJ6_numberOfTrailingZeros_0f7a4_71 rfl rfl ?_
            refine v_iushr dJ6_numberOfTrailingZeros_0f7a4_72 rfl ?_
            refine v_istore_0 dJ6_numberOfTrailingZeros_0f7a4_73 (zle rfl) rfl ?_
            refine v_iload_1 dJ6_numberOfTrailingZeros_0f7a4_74 rfl ?_
            refine v_iload_0 dJ6_numberOfTrailingZeros_0f7a4_75 rfl ?_
            refine v_iconst (v := 1) dJ6_numberOfTrailingZeros_0f7a4_76 rfl rfl ?_
            refine v_iushr dJ6_numberOfTrailingZeros_0f7a4_77 rfl ?_
            refine v_iadd dJ6_numberOfTrailingZeros_0f7a4_78 rfl ?_
            exact v_ireturn rfl (by
      rcases (show k = 0 ∨ k = 1 ∨ k = 2 ∨ k = 3 ∨ k = 4 ∨ k = 5 ∨ k = 6 ∨ k = 7 by omega) with rfl | rfl | rfl | rfl | rfl | rfl | rfl | rfl <;> first | exact zp_e (by decide +kernel) | exact absurd c9 (by decide +kernel) | exact absurd c23 (by decide +kernel) | exact absurd c38 (by decide +kernel) | exact absurd c52 (by decide +kernel) | exact absurd c64 (by decide +kernel)) (zle rfl) (zle rfl) dJ6_numberOfTrailingZeros_0f7a4_79
        · refine v_iinc_1 dJ6_numberOfTrailingZeros_0f7a4_55 rfl rfl (zle rfl) rfl ?_
          refine v_iload_0 dJ6_numberOfTrailingZeros_0f7a4_58 rfl ?_
          refine v_iconst (v := 4) dJ6_numberOfTrailingZeros_0f7a4_59 rfl rfl ?_
          refine v_iushr dJ6_numberOfTrailingZeros_0f7a4_60 rfl ?_
          refine v_istore_0 dJ6_numberOfTrailingZeros_0f7a4_61 (zle rfl) rfl ?_
          refine v_iload_0 dJ6_numberOfTrailingZeros_0f7a4_62 rfl ?_
          refine v_iconst (v := 4) dJ6_numberOfTrailingZeros_0f7a4_63 rfl rfl ?_
          refine v_icmp_le (tgt := 74) dJ6_numberOfTrailingZeros_0f7a4_64 (by decide) rfl (fun c64 => ?_) (fun c64 => ?_)
          · refine v_iload_1 dJ6_numberOfTrailingZeros_0f7a4_74 rfl ?_
            refine v_iload_0 dJ6_numberOfTrailingZeros_0f7a4_75 rfl ?_
            refine v_iconst (v := 1) dJ6_numberOfTrailingZeros_0f7a4_76 rfl rfl ?_
            refine v_iushr dJ6_numberOfTrailingZeros_0f7a4_77 rfl ?_
            refine v_iadd dJ6_numberOfTrailingZeros_0f7a4_78 rfl ?_
            exact v_ireturn rfl (by
      rcases (show k = 0 ∨ k = 1 ∨ k = 2 ∨ k = 3 ∨ k = 4 ∨ k = 5 ∨ k = 6 ∨ k = 7 by omega) with rfl | rfl | rfl | rfl | rfl | rfl | rfl | rfl <;> first | exact zp_e (by decide +kernel) | exact absurd c9 (by decide +kernel) | exact absurd c23 (by decide +kernel) | exact absurd c38 (by decide +kernel) | exact absurd c52 (by decide +kernel) | exact absurd c64 (by decide +kernel)) (zle rfl) (zle rfl) dJ6_numberOfTrailingZeros_0f7a4_79
          · refine v_iinc_1 dJ6_numberOfTrailingZeros_0f7a4_67 rfl rfl (zle rfl) rfl ?_
            refine v_iload_0 dJ6_numberOfTrailingZeros_0f7a4_70 rfl ?_
            refine v_iconst (v := 2) dJ6_numberOfTrailingZeros_0f7a4_71 rfl rfl ?_
            refine v_iushr dJ6_numberOfTrailingZeros_0f7a4_72 rfl ?_
            refine v_istore_0 dJ6_numberOfTrailingZeros_0f7a4_73 (zle rfl) rfl ?_
            refine v_iload_1 dJ6_numberOfTrailingZeros_0f7a4_74 rfl ?_
            refine v_iload_0 dJ6_numberOfTrailingZeros_0f7a4_75 rfl ?_
            refine v_iconst (v := 1) dJ6_numberOfTrailingZeros_0f7a4_76 rfl rfl ?_
            refine v_iushr dJ6_numberOfTrailingZeros_0f7a4_77 rfl ?_
            refine v_iadd dJ6_numberOfTrailingZeros_0f7a4_78 rfl ?_
            exact v_ireturn rfl (by
      rcases (show k = 0 ∨ k = 1 ∨ k = 2 ∨ k = 3 ∨ k = 4 ∨ k = 5 ∨ k = 6 ∨ k = 7 by omega) with rfl | rfl | rfl | rfl | rfl | rfl | rfl | rfl <;> first | exact zp_e (by decide +kernel) | exact absurd c9 (by decide +kernel) | exact absurd c23 (by decide +kernel) | exact absurd c38 (by decide +kernel) | exact absurd c52 (by decide +kernel) | exact absurd c64 (by decide +kernel)) (zle rfl) (zle rfl) dJ6_numberOfTrailingZeros_0f7a4_79
    · refine v_iinc_1 dJ6_numberOfTrailingZeros_0f7a4_26 rfl rfl (zle rfl) rfl ?_
      refine v_iload_0 dJ6_numberOfTrailingZeros_0f7a4_29 rfl ?_
      refine v_bipush (v := 16) dJ6_numberOfTrailingZeros_0f7a4_30 rfl rfl ?_
      refine v_iushr dJ6_numberOfTrailingZeros_0f7a4_32 rfl ?_
      refine v_istore_0 dJ6_numberOfTrailingZeros_0f7a4_33 (zle rfl) rfl ?_
      refine v_iload_0 dJ6_numberOfTrailingZeros_0f7a4_34 rfl ?_
      refine v_sipush (v := 256) dJ6_numberOfTrailingZeros_0f7a4_35 rfl rfl ?_
      refine v_icmp_le (tgt := 49) dJ6_numberOfTrailingZeros_0f7a4_38 (by decide) rfl (fun c38 => ?_) (fun c38 => ?_)
      · refine v_iload_0 dJ6_numberOfTrailingZeros_0f7a4_49 rfl ?_
        refine v_bipush (v := 16) dJ6_numberOfTrailingZeros_0f7a4_50 rfl rfl ?_
        refine v_icmp_le (tgt := 62) dJ6_numberOfTrailingZeros_0f7a4_52 (by decide) rfl (fun c52 => ?_) (fun c52 => ?_)
        · refine v_iload_0 dJ6_numberOfTrailingZeros_0f7a4_62 rfl ?_
          refine v_iconst (v := 4) dJ6_numberOfTrailingZeros_0f7a4_63 rfl rfl ?_
          refine v_icmp_le (tgt := 74) dJ6_numberOfTrailingZeros_0f7a4_64 (by decide) rfl (fun c64 => ?_) (fun c64 => ?_)
          · refine v_iload_1 dJ6_numberOfTrailingZeros_0f7a4_74 rfl ?_
            refine v_iload_0 dJ6_numberOfTrailingZeros_0f7a4_75 rfl ?_
            refine v_iconst (v := 1) dJ6_numberOfTrailingZeros_0f7a4_76 rfl rfl ?_
            refine v_iushr dJ6_numberOfTrailingZeros_0f7a4_77 rfl ?_
            refine v_iadd dJ6_numberOfTrailingZeros_0f7a4_78 rfl ?_
            exact v_ireturn rfl (by
      rcases (show k = 0 ∨ k = 1 ∨ k = 2 ∨ k = 3 ∨ k = 4 ∨ k = 5 ∨ k = 6 ∨ k = 7 by omega) with rfl | rfl | rfl | rfl | rfl | rfl | rfl | rfl <;> first | exact zp_e (by decide +kernel) | exact absurd c9 (by decide +kernel) | exact absurd c23 (by decide +kernel) | exact absurd c38 (by decide +kernel) | exact absurd c52 (by decide +kernel) | exact absurd c64 (by decide +kernel)) (zle rfl) (zle rfl) dJ6_numberOfTrailingZeros_0f7a4_79
          · refine v_iinc_1 dJ6_numberOfTrailingZeros_0f7a4_67 rfl rfl (zle rfl) rfl ?_
            refine v_iload_0 dJ6_numberOfTrailingZeros_0f7a4_70 rfl ?_
            refine v_iconst (v := 2) dJ6_numberOfTrailingZeros_0f7a4_71 rfl rfl ?_
            refine v_iushr dJ6_numberOfTrailingZeros_0f7a4_72 rfl ?_
            refine v_istore_0 dJ6_numberOfTrailingZeros_0f7a4_73 (zle rfl) rfl ?_
            refine v_iload_1 dJ6_numberOfTrailingZeros_0f7a4_74 rfl ?_
            refine v_iload_0 dJ6_numberOfTrailingZeros_0f7a4_75 rfl ?_
            refine v_iconst (v := 1) dJ6_numberOfTrailingZeros_0f7a4_76 rfl rfl ?_
            refine v_iushr dJ6_numberOfTrailingZeros_0f7a4_77 rfl ?_
            refine v_iadd dJ6_numberOfTrailingZeros_0f7a4_78 rfl ?_
            exact v_ireturn rfl (by
      rcases (show k = 0 ∨ k = 1 ∨ k = 2 ∨ k = 3 ∨ k = 4 ∨ k = 5 ∨ k = 6 ∨ k = 7 by omega) with rfl | rfl | rfl | rfl | rfl | rfl | rfl | rfl <;> first | exact zp_e (by decide +kernel) | exact absurd c9 (by decide +kernel) | exact absurd c23 (by decide +kernel) | exact absurd c38 (by decide +kernel) | exact absurd c52 (by decide +kernel) | exact absurd c64 (by decide +kernel)) (zle rfl) (zle rfl) dJ6_numberOfTrailingZeros_0f7a4_79
        · refine v_iinc_1 dJ6_numberOfTrailingZeros_0f7a4_55 rfl rfl (zle rfl) rfl ?_
          refine v_iload_0 dJ6_numberOfTrailingZeros_0f7a4_58 rfl ?_
          refine v_iconst (v := 4) dJ6_numberOfTrailingZeros_0f7a4_59 rfl rfl ?_
          refine v_iushr dJ6_numberOfTrailingZeros_0f7a4_60 rfl ?_
          refine v_istore_0 dJ6_numberOfTrailingZeros_0f7a4_61 (zle rfl) rfl ?_
          refine v_iload_0 dJ6_numberOfTrailingZeros_0f7a4_62 rfl ?_
          refine v_iconst (v := 4) dJ6_numberOfTrailingZeros_0f7a4_63 rfl rfl ?_
          refine v_icmp_le (tgt := 74) dJ6_numberOfTrailingZeros_0f7a4_64 (by decide) rfl (fun c64 => ?_) (fun c64 => ?_)
          · refine v_iload_1 dJ6_numberOfTrailingZeros_0f7a4_74 rfl ?_
            refine v_iload_0 dJ6_numberOfTrailingZeros_0f7a4_75 rfl ?_
            refine v_iconst (v := 1) dJ6_numberOfTrailingZeros_0f7a4_76 rfl rfl ?_
            refine v_iushr dJ6_numberOfTrailingZeros_0f7a4_77 rfl ?_
            refine v_iadd dJ6_numberOfTrailingZeros_0f7a4_78 rfl ?_
            exact v_ireturn rfl (by
      rcases (show k = 0 ∨ k = 1 ∨ k = 2 ∨ k = 3 ∨ k = 4 ∨ k = 5 ∨ k = 6 ∨ k = 7 by omega) with rfl | rfl | rfl | rfl | rfl | rfl | rfl | rfl <;> first | exact zp_e (by decide +kernel) | exact absurd c9 (by decide +kernel) | exact absurd c23 (by decide +kernel) | exact absurd c38 (by decide +kernel) | exact absurd c52 (by decide +kernel) | exact absurd c64 (by decide +kernel)) (zle rfl) (zle rfl) dJ6_numberOfTrailingZeros_0f7a4_79
          · refine v_iinc_1 dJ6_numberOfTrailingZeros_0f7a4_67 rfl rfl (zle rfl) rfl ?_
            refine v_iload_0 dJ6_numberOfTrailingZeros_0f7a4_70 rfl ?_
            refine v_iconst (v := 2) dJ6_numberOfTrailingZeros_0f7a4_71 rfl rfl ?_
            refine v_iushr dJ6_numberOfTrailingZeros_0f7a4_72 rfl ?_
            refine v_istore_0 dJ6_numberOfTrailingZeros_0f7a4_73 (zle rfl) rfl ?_
            refine v_iload_1 dJ6_numberOfTrailingZeros_0f7a4_74 rfl ?_
            refine v_iload_0 dJ6_numberOfTrailingZeros_0f7a4_75 rfl ?_
            refine v_iconst (v := 1) dJ6_numberOfTrailingZeros_0f7a4_76 rfl rfl ?_
            refine v_iushr dJ6_numberOfTrailingZeros_0f7a4_77 rfl ?_
            refine v_iadd dJ6_numberOfTrailingZeros_0f7a4_78 rfl ?_
            exact v_ireturn rfl (by
      rcases (show k = 0 ∨ k = 1 ∨ k = 2 ∨ k = 3 ∨ k = 4 ∨ k = 5 ∨ k = 6 ∨ k = 7 by omega) with rfl | rfl | rfl | rfl | rfl | rfl | rfl | rfl <;> first | exact zp_e (by decide +kernel) | exact absurd c9 (by decide +kernel) | exact absurd c23 (by decide +kernel) | exact absurd c38 (by decide +kernel) | exact absurd c52 (by decide +kernel) | exact absurd c64 (by decide +kernel)) (zle rfl) (zle rfl) dJ6_numberOfTrailingZeros_0f7a4_79
      · refine v_iinc_1 dJ6_numberOfTrailingZeros_0f7a4_41 rfl rfl (zle rfl) rfl ?_
        refine v_iload_0 dJ6_numberOfTrailingZeros_0f7a4_44 rfl ?_
        refine v_bipush (v := 8) dJ6_numberOfTrailingZeros_0f7a4_45 rfl rfl ?_
        refine v_iushr dJ6_numberOfTrailingZeros_0f7a4_47 rfl ?_
        refine v_istore_0 dJ6_numberOfTrailingZeros_0f7a4_48 (zle rfl) rfl ?_
        refine v_iload_0 dJ6_numberOfTrailingZeros_0f7a4_49 rfl ?_
        refine v_bipush (v := 16) dJ6_numberOfTrailingZeros_0f7a4_50 rfl rfl ?_
        refine v_icmp_le (tgt := 62) dJ6_numberOfTrailingZeros_0f7a4_52 (by decide) rfl (fun c52 => ?_) (fun c52 => ?_)
        · refine v_iload_0 dJ6_numberOfTrailingZeros_0f7a4_62 rfl ?_
          refine v_iconst (v := 4) dJ6_numberOfTrailingZeros_0f7a4_63 rfl rfl ?_
          refine v_icmp_le (tgt := 74) dJ6_numberOfTrailingZeros_0f7a4_64 (by decide) rfl (fun c64 => ?_) (fun c64 => ?_)
          · refine v_iload_1 dJ6_numberOfTrailingZeros_0f7a4_74 rfl ?_
            refine v_iload_0 dJ6_numberOfTrailingZeros_0f7a4_75 rfl ?_
            refine v_iconst (v := 1) dJ6_numberOfTrailingZeros_0f7a4_76 rfl rfl ?_
            refine v_iushr dJ6_numberOfTrailingZeros_0f7a4_77 rfl ?_
            refine v_iadd dJ6_numberOfTrailingZeros_0f7a4_78 rfl ?_
            exact v_ireturn rfl (by
      rcases (show k = 0 ∨ k = 1 ∨ k = 2 ∨ k = 3 ∨ k = 4 ∨ k = 5 ∨ k = 6 ∨ k = 7 by omega) with rfl | rfl | rfl | rfl | rfl | rfl | rfl | rfl <;> first | exact zp_e (by decide +kernel) | exact absurd c9 (by decide +kernel) | exact absurd c23 (by decide +kernel) | exact absurd c38 (by decide +kernel) | exact absurd c52 (by decide +kernel) | exact absurd c64 (by decide +kernel)) (zle rfl) (zle rfl) dJ6_numberOfTrailingZeros_0f7a4_79
          · refine v_iinc_1 dJ6_numberOfTrailingZeros_0f7a4_67 rfl rfl (zle rfl) rfl ?_
            refine v_iload_0 dJ6_numberOfTrailingZeros_0f7a4_70 rfl ?_
            refine v_iconst (v := 2) dJ6_numberOfTrailingZeros_0f7a4_71 rfl rfl ?_
            refine v_iushr dJ6_numberOfTrailingZeros_0f7a4_72 rfl ?_
            refine v_istore_0 dJ6_numberOfTrailingZeros_0f7a4_73 (zle rfl) rfl ?_
            refine v_iload_1 dJ6_numberOfTrailingZeros_0f7a4_74 rfl ?_
            refine v_iload_0 dJ6_numberOfTrailingZeros_0f7a4_75 rfl ?_
            refine v_iconst (v := 1) dJ6_numberOfTrailingZeros_0f7a4_76 rfl rfl ?_
            refine v_iushr dJ6_numberOfTrailingZeros_0f7a4_77 rfl ?_
            refine v_iadd dJ6_numberOfTrailingZeros_0f7a4_78 rfl ?_
            exact v_ireturn rfl (by
      rcases (show k = 0 ∨ k = 1 ∨ k = 2 ∨ k = 3 ∨ k = 4 ∨ k = 5 ∨ k = 6 ∨ k = 7 by omega) with rfl | rfl | rfl | rfl | rfl | rfl | rfl | rfl <;> first | exact zp_e (by decide +kernel) | exact absurd c9 (by decide +kernel) | exact absurd c23 (by decide +kernel) | exact absurd c38 (by decide +kernel) | exact absurd c52 (by decide +kernel) | exact absurd c64 (by decide +kernel)) (zle rfl) (zle rfl) dJ6_numberOfTrailingZeros_0f7a4_79
        · refine v_iinc_1 dJ6_numberOfTrailingZeros_0f7a4_55 rfl rfl (zle rfl) rfl ?_
          refine v_iload_0 dJ6_numberOfTrailingZeros_0f7a4_58 rfl ?_
          refine v_iconst (v := 4) dJ6_numberOfTrailingZeros_0f7a4_59 rfl rfl ?_
          refine v_iushr dJ6_numberOfTrailingZeros_0f7a4_60 rfl ?_
          refine v_istore_0 dJ6_numberOfTrailingZeros_0f7a4_61 (zle rfl) rfl ?_
          refine v_iload_0 dJ6_numberOfTrailingZeros_0f7a4_62 rfl ?_
          refine v_iconst (v := 4) dJ6_numberOfTrailingZeros_0f7a4_63 rfl rfl ?_
          refine v_icmp_le (tgt := 74) dJ6_numberOfTrailingZeros_0f7a4_64 (by decide) rfl (fun c64 => ?_) (fun c64 => ?_)
          · refine v_iload_1 dJ6_numberOfTrailingZeros_0f7a4_74 rfl ?_
            refine v_iload_0 dJ6_numberOfTrailingZeros_0f7a4_75 rfl ?_
            refine v_iconst (v := 1) dJ6_numberOfTrailingZeros_0f7a4_76 rfl rfl ?_
            refine v_iushr dJ6_numberOfTrailingZeros_0f7a4_77 rfl ?_
            refine v_iadd dJ6_numberOfTrailingZeros_0f7a4_78 rfl ?_
            exact v_ireturn rfl (by
      rcases (show k = 0 ∨ k = 1 ∨ k = 2 ∨ k = 3 ∨ k = 4 ∨ k = 5 ∨ k = 6 ∨ k = 7 by omega) with rfl | rfl | rfl | rfl | rfl | rfl | rfl | rfl <;> first | exact zp_e (by decide +kernel) | exact absurd c9 (by decide +kernel) | exact absurd c23 (by decide +kernel) | exact absurd c38 (by decide +kernel) | exact absurd c52 (by decide +kernel) | exact absurd c64 (by decide +kernel)) (zle rfl) (zle rfl) dJ6_numberOfTrailingZeros_0f7a4_79
          · refine v_iinc_1 dJ6_numberOfTrailingZeros_0f7a4_67 rfl rfl (zle rfl) rfl ?_
            refine v_iload_0 dJ6_numberOfTrailingZeros_0f7a4_70 rfl ?_
            refine v_iconst (v := 2) dJ6_numberOfTrailingZeros_0f7a4_71 rfl rfl ?_
            refine v_iushr dJ6_numberOfTrailingZeros_0f7a4_72 rfl ?_
            refine v_istore_0 dJ6_numberOfTrailingZeros_0f7a4_73 (zle rfl) rfl ?_
            refine v_iload_1 dJ6_numberOfTrailingZeros_0f7a4_74 rfl ?_
            refine v_iload_0 dJ6_numberOfTrailingZeros_0f7a4_75 rfl ?_
            refine v_iconst (v := 1) dJ6_numberOfTrailingZeros_0f7a4_76 rfl rfl ?_
            refine v_iushr dJ6_numberOfTrailingZeros_0f7a4_77 rfl ?_
            refine v_iadd dJ6_numberOfTrailingZeros_0f7a4_78 rfl ?_
            exact v_ireturn rfl (by
      rcases (show k = 0 ∨ k = 1 ∨ k = 2 ∨ k = 3 ∨ k = 4 ∨ k = 5 ∨ k = 6 ∨ k = 7 by omega) with rfl | rfl | rfl | rfl | rfl | rfl | rfl | rfl <;> first | exact zp_e (by decide +kernel) | exact absurd c9 (by decide +kernel) | exact absurd c23 (by decide +kernel) | exact absurd c38 (by decide +kernel) | exact absurd c52 (by decide +kernel) | exact absurd c64 (by decide +kernel)) (zle rfl) (zle rfl) dJ6_numberOfTrailingZeros_0f7a4_79
  · refine v_iload_0 dJ6_numberOfTrailingZeros_0f7a4_12 rfl ?_
    refine v_bipush (v := 32) dJ6_numberOfTrailingZeros_0f7a4_13 rfl rfl ?_
    refine v_iand dJ6_numberOfTrailingZeros_0f7a4_15 rfl ?_
    exact v_ireturn rfl (by
      rcases (show k = 0 ∨ k = 1 ∨ k = 2 ∨ k = 3 ∨ k = 4 ∨ k = 5 ∨ k = 6 ∨ k = 7 by omega) with rfl | rfl | rfl | rfl | rfl | rfl | rfl | rfl <;> first | exact zp_e (by decide +kernel) | exact absurd c9 (by decide +kernel)) (zle rfl) (zle rfl) dJ6_numberOfTrailingZeros_0f7a4_16
