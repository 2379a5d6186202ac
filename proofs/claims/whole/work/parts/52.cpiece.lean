theorem c_X2_init {E : zE} {T : zT} {N : zN} {P : zP} {I : zI} {R : zR} (a : Nat) (x0 x1 x2 x3 x4 : Int32) (ha : (T a).1 = 12) : zC E yX2_init cX2_init 6 none (zr0 1 20) [.ref a, .int x0, .int x1, .int x2, .int x3, .int x4] T N P I R (zv T (u3 (u3 (u3 (u3 (u3 N 2 0 a x0) 2 1 a x1) 2 2 a x2) 2 3 a x3) 2 4 a x4) P I R) := by
  refine zC.intro (ls := [some (.ref a), some (.int x0), some (.int x1), some (.int x2), some (.int x3), some (.int x4)]) pl_RX2 (zle rfl) 0 rfl (fun K => ?_)
  refine v_aload_0 dX2_init_0 rfl ?_
  refine v_objInit lk_2_3 im_obj cd_obj (zle rfl) (zle rfl) dX2_init_1 rfl ?_
  refine v_aload_0 dX2_init_4 rfl ?_
  refine v_iload_1 dX2_init_5 rfl ?_
  refine v_putN fw_2_9 (by assumption) rfl (zle rfl) rfl (fun _ => rfl) rfl rfl dX2_init_6 rfl ?_
  refine v_aload_0 dX2_init_9 rfl ?_
  refine v_iload_2 dX2_init_10 rfl ?_
  refine v_putN fw_2_15 (by assumption) rfl (zle rfl) rfl (fun _ => rfl) rfl rfl dX2_init_11 rfl ?_
  refine v_aload_0 dX2_init_14 rfl ?_
  refine v_iload_3 dX2_init_15 rfl ?_
  refine v_putN fw_2_18 (by assumption) rfl (zle rfl) rfl (fun _ => rfl) rfl rfl dX2_init_16 rfl ?_
  refine v_aload_0 dX2_init_19 rfl ?_
  refine v_iload_4 dX2_init_20 rfl ?_
  refine v_putN fw_2_21 (by assumption) rfl (zle rfl) rfl (fun _ => rfl) rfl rfl dX2_init_22 rfl ?_
  refine v_aload_0 dX2_init_25 rfl ?_
  refine v_iload_5 dX2_init_26 rfl ?_
  refine v_putN fw_2_24 (by assumption) rfl (zle rfl) rfl (fun _ => rfl) rfl rfl dX2_init_28 rfl ?_
  exact v_return rfl (zv.rf) (zle rfl) (zle rfl) dX2_init_31
abbrev NPv (N : zN) (a : Nat) (x0 x1 x2 x3 x4 : Int32) : zN := u3 (u3 (u3 (u3 (u3 (uo N 2 a 0) 2 0 a x0) 2 1 a x1) 2 2 a x2) 2 3 a x3) 2 4 a x4
def rcQ (q : Nat) (b : Nat → Int32) (nc p : Nat) (T : zT) (N : zN) (P : zP) (I : zI) (R : zR) : Option Value → zT → zN → zP → zI → zR → Prop := fun v T' N' P' I' R' => I = I' ∧ R = R' ∧ ((¬ rpg b nc p ∧ v = some .null ∧ T = T' ∧ P = P' ∧ u3 N 3 2 q (nI (rpe b nc p)) = N') ∨ (rpg b nc p ∧ ∃ a, (T a).1 = 0 ∧ v = some (.ref a) ∧ u1 T a (12, 0) = T' ∧ uo P 2 a none = P' ∧ NPv (u3 N 3 2 q (nI (rpe b nc p))) a (pv b p 0) (pv b p 1) (pv b p 2) (pv b p 3) (pv b p 4) = N'))
theorem rcQ_f {q : Nat} {b : Nat → Int32} {nc p x : Nat} {T : zT} {N : zN} {P : zP} {I : zI} {R : zR} (hx : rpe b nc p = x) (hg : ¬ rpg b nc p) : rcQ q b nc p T N P I R (some .null) T (u3 N 3 2 q (nI x)) P I R := ⟨rfl, rfl, Or.inl ⟨hg, rfl, rfl, rfl, by rw [hx]⟩⟩
theorem rcQ_g {q : Nat} {b : Nat → Int32} {nc p x a : Nat} {T : zT} {N : zN} {P : zP} {I : zI} {R : zR} (ha : (T a).1 = 0) (hx : rpe b nc p = x) (hg : rpg b nc p) : rcQ q b nc p T N P I R (some (.ref a)) (u1 T a (12, 0)) (u3 (u3 (u3 (u3 (u3 (uo (u3 N 3 2 q (nI (x))) 2 a 0) 2 0 a (pv b p 0)) 2 1 a (pv b p 1)) 2 2 a (pv b p 2)) 2 3 a (pv b p 3)) 2 4 a (pv b p 4)) (uo P 2 a none) I R := ⟨rfl, rfl, Or.inr ⟨hg, a, ha, rfl, rfl, rfl, by rw [hx]⟩⟩
theorem en_X3_readPiece {E : zE} {T : zT} {N : zN} {P : zP} {I : zI} {R : zR} {q tp tb L : Nat} {b : Nat → Int32} {nc p : Nat} {K : zK E yX3_readPiece cX3_readPiece 6 (some (.object "WalkTeller$Piece")) (zrm 5 107 1 5)} (hq : (T q).1 = 13) (h0 : P 3 0 q = some tp) (h1 : N 3 1 q = nI nc) (hnc : nc ≤ 8) (hR : tpR T N P I tp tb L b) (hBt : ∀ p, Bt (b p)) (hpb : p < 2 ^ 20) (g1 : hsb (b p) 48 0 nc) (g2 : ¬ kby (b (p + 1)) < 0) (g3 : hsb (b (p + 2)) 49 0 9) : V K (zQf K (rcQ q b nc p T N P I R)) T (u3 N 3 2 q (nI (pl5 b p))) P I R 0 0 84 [some (.ref q), some (.int (pv b p 1)), some (.int (pv b p 0)), some (.int (pv b p 2)), some (.int (pv b p 3)), some (.int (dyv b p))] [] := by
  have h5 := pl5_b b p
  refine v_iload_5 dX3_readPiece_84 rfl ?_
  refine v_if_eq (tgt := 98) dX3_readPiece_86 (by decide) rfl (fun c86 => ?_) (fun c86 => ?_)
  · refine v_null dX3_readPiece_98 rfl ?_
    exact v_areturn rfl (Or.inl ⟨_, rfl⟩) (Or.inl rfl) (rcQ_f (by unfold rpe; rw [zi_t g1, zi_f g2, zi_t g3, zi_f (fun h => h.1 c86)]) (fun h => h.2.2.2.1 c86)) (zle rfl) (zle rfl) dX3_readPiece_99
  · refine v_aload_0 dX3_readPiece_89 rfl ?_
    refine v_bipush (v := 59) dX3_readPiece_90 rfl rfl ?_
    by_cases g5 : b (pl5 b p) = 59
    · refine v_callV (ci := 3) (F := TX3) (c_X3_takeSign (N := (u3 N 3 2 q (nI (pl5 b p)))) q tp tb L b (pl5 b p) 59 hq h0 u3_self hR (by omega) hBt (by decide) g5) yy_X3_takeSign im_X3_takeSign se_X3_takeSign lk_3_49 hq (zle rfl) rfl (zle rfl) (zle rfl) (zle rfl) (zle rfl) rfl rfl (zle rfl) dX3_readPiece_92 rfl (zp.use ?_)
      rw [u3_u3]
      refine v_if_ne_t (n := 100) (by decide) dX3_readPiece_95 (by decide) ?_
      refine v_new (ci := 2) rfl (zle rfl) cl_2 tyX2_ok dv_2 kl_3_53 it_2 ii_2 (zle rfl) (zle rfl) dX3_readPiece_100 rfl (fun q100 hq100 => ?_)
      refine v_dup dX3_readPiece_103 rfl rfl ?_
      refine v_iload_2 dX3_readPiece_104 rfl ?_
      refine v_iload_1 dX3_readPiece_105 rfl ?_
      refine v_iload_3 dX3_readPiece_106 rfl ?_
      refine v_iload_4 dX3_readPiece_107 rfl ?_
      refine v_iload_5 dX3_readPiece_109 rfl ?_
      have ha : (u1 T q100 (12, 0) q100).1 = 12 := by rw [u1_self]
      refine v_callI (c_X2_init q100 _ _ _ _ _ ha) yy_X2_init im_X2_init rfl lk_3_55 (zle rfl) (zle rfl) (zle rfl) (zle rfl) rfl rfl (zle rfl) dX3_readPiece_111 rfl (zv.use ?_)
      exact v_areturn rfl (Or.inl ⟨_, rfl⟩) (Or.inr ⟨_, rfl⟩) (rcQ_g hq100 (rpe_g ⟨g1, g2, g3, c86, g5⟩) ⟨g1, g2, g3, c86, g5⟩) (zle rfl) (zle rfl) dX3_readPiece_114
    · refine v_callV (ci := 3) (F := TX3) (c_X3_takeSign_f (N := (u3 N 3 2 q (nI (pl5 b p)))) q tp tb L b (pl5 b p) 59 hq h0 u3_self hR (by omega) hBt (by decide) g5) yy_X3_takeSign im_X3_takeSign se_X3_takeSign lk_3_49 hq (zle rfl) rfl (zle rfl) (zle rfl) (zle rfl) (zle rfl) rfl rfl (zle rfl) dX3_readPiece_92 rfl (zp.use ?_)
      refine v_if_ne_f (tgt := 100) (by decide) dX3_readPiece_95 (by decide) rfl ?_
      refine v_null dX3_readPiece_98 rfl ?_
      exact v_areturn rfl (Or.inl ⟨_, rfl⟩) (Or.inl rfl) (rcQ_f (by unfold rpe; rw [zi_t g1, zi_f g2, zi_t g3, zi_f (fun h => g5 h.2)]) (fun h => g5 h.2.2.2.2)) (zle rfl) (zle rfl) dX3_readPiece_99
theorem c_X3_readPiece {E : zE} {T : zT} {N : zN} {P : zP} {I : zI} {R : zR} (q tp tb L : Nat) (b : Nat → Int32) (nc p : Nat)  (hq : (T q).1 = 13) (h0 : P 3 0 q = some tp) (h1 : N 3 1 q = nI nc) (hnc : nc ≤ 8) (hR : tpR T N P I tp tb L b) (hBt : ∀ p, Bt (b p)) (hpb : p < 2 ^ 20) (hp : N 3 2 q = nI p) : zC E yX3_readPiece cX3_readPiece 6 (some (.object "WalkTeller$Piece")) (zrm 5 107 1 5) [.ref q] T N P I R (rcQ q b nc p T N P I R) := by
  refine zC.intro (ls := [some (.ref q), none, none, none, none, none]) pl_RX3 (zle rfl) 5 rfl (fun K => ?_)
  refine v_aload_0 dX3_readPiece_0 rfl ?_
  refine v_bipush (v := 48) dX3_readPiece_1 rfl rfl ?_
  refine v_aload_0 dX3_readPiece_3 rfl ?_
  refine v_getN fl_3_19 (by assumption) rfl (zle rfl) rfl dX3_readPiece_4 rfl ?_
  refine v_top h1 ?_
  have en : u3 N 3 2 q (nI p) = N := by rw [← hp, u3_id]
  by_cases g1 : hsb (b p) 48 0 nc
  · refine v_callV (ci := 3) (F := TX3) (c_X3_takeOneOf q tp tb L b p 48 nc hq h0 hp hR (by omega) hBt (by omega) g1) yy_X3_takeOneOf im_X3_takeOneOf se_X3_takeOneOf lk_3_38 hq (zle rfl) rfl (zle rfl) (zle rfl) (zle rfl) (zle rfl) rfl rfl (zle rfl) dX3_readPiece_7 rfl (zp.use ?_)
    refine v_istore_1 dX3_readPiece_10 rfl (zle rfl) rfl ?_
    refine v_iload_1 dX3_readPiece_11 rfl ?_
    have hw1 := hsb_w g1 (by omega)
    refine v_if_ge_t (n := 17) (nI_pos' (by omega)) dX3_readPiece_12 (by decide) ?_
    refine v_aload_0 dX3_readPiece_17 rfl ?_
    by_cases g2 : kby (b (p + 1)) < 0
    · refine v_callV (ci := 3) (F := TX3) (c_X3_takeKind (N := (u3 N 3 2 q (nI (p + 1)))) q tp tb L b (p + 1) hq h0 u3_self hR (by omega)) yy_X3_takeKind im_X3_takeKind se_X3_takeKind lk_3_42 hq (zle rfl) rfl (zle rfl) (zle rfl) (zle rfl) (zle rfl) rfl rfl (zle rfl) dX3_readPiece_18 rfl (zp.use ?_)
      rw [zi_t g2]
      refine v_istore_2 dX3_readPiece_21 rfl (zle rfl) rfl ?_
      refine v_iload_2 dX3_readPiece_22 rfl ?_
      refine v_if_ge_f (tgt := 28) (fun h => i_nlt0.mpr h g2) dX3_readPiece_23 (by decide) rfl ?_
      refine v_null dX3_readPiece_26 rfl ?_
      exact v_areturn rfl (Or.inl ⟨_, rfl⟩) (Or.inl rfl) (rcQ_f (by unfold rpe; rw [zi_t g1, zi_t g2]) (fun h => h.2.1 g2)) (zle rfl) (zle rfl) dX3_readPiece_27
    · refine v_callV (ci := 3) (F := TX3) (c_X3_takeKind (N := (u3 N 3 2 q (nI (p + 1)))) q tp tb L b (p + 1) hq h0 u3_self hR (by omega)) yy_X3_takeKind im_X3_takeKind se_X3_takeKind lk_3_42 hq (zle rfl) rfl (zle rfl) (zle rfl) (zle rfl) (zle rfl) rfl rfl (zle rfl) dX3_readPiece_18 rfl (zp.use ?_)
      rw [zi_f g2, u3_u3]
      refine v_istore_2 dX3_readPiece_21 rfl (zle rfl) rfl ?_
      refine v_iload_2 dX3_readPiece_22 rfl ?_
      refine v_if_ge_t (n := 28) (i_nlt0.mp g2) dX3_readPiece_23 (by decide) ?_
      refine v_aload_0 dX3_readPiece_28 rfl ?_
      refine v_bipush (v := 49) dX3_readPiece_29 rfl rfl ?_
      refine v_bipush (v := 9) dX3_readPiece_31 rfl rfl ?_
      by_cases g3 : hsb (b (p + 2)) 49 0 9
      · refine v_callV (ci := 3) (F := TX3) (c_X3_takeOneOf (N := (u3 N 3 2 q (nI (p + 2)))) q tp tb L b (p + 2) 49 9 hq h0 u3_self hR (by omega) hBt (by omega) g3) yy_X3_takeOneOf im_X3_takeOneOf se_X3_takeOneOf lk_3_38 hq (zle rfl) rfl (zle rfl) (zle rfl) (zle rfl) (zle rfl) rfl rfl (zle rfl) dX3_readPiece_33 rfl (zp.use ?_)
        rw [u3_u3]
        refine v_iconst (v := 1) dX3_readPiece_36 rfl rfl ?_
        refine v_iadd dX3_readPiece_37 rfl ?_
        refine v_top (nI_1 _) ?_
        refine v_istore_3 dX3_readPiece_38 rfl (zle rfl) rfl ?_
        have hw3 := hsb_w g3 (by decide)
        refine v_iload_3 dX3_readPiece_39 rfl ?_
        refine v_iconst (v := 1) dX3_readPiece_40 rfl rfl ?_
        refine v_icmp_ge_t (n := 46) (nI_le (a := 1) (b := wh (b (p + 2)) 49 + 1) (by omega) (by omega)) dX3_readPiece_41 (by decide) ?_
        refine v_aload_0 dX3_readPiece_46 rfl ?_
        refine v_bipush (v := 97) dX3_readPiece_47 rfl rfl ?_
        refine v_bipush (v := 12) dX3_readPiece_49 rfl rfl ?_
        refine v_callV (ci := 3) (F := TX3) (c_X3_takeRising (N := (u3 N 3 2 q (nI (p + 3)))) q tp tb L b (p + 3) 97 12 hq h0 u3_self hR (by omega) hBt (by decide)) yy_X3_takeRising im_X3_takeRising se_X3_takeRising lk_3_46 hq (zle rfl) rfl (zle rfl) (zle rfl) (zle rfl) (zle rfl) rfl rfl (zle rfl) dX3_readPiece_51 rfl (zp.use ?_)
        rw [u3_u3]
        change V K _ T (u3 N 3 2 q (nI ((rN b p).2))) P I R _ _ _ _ (.int (rN b p).1 :: _)
        have hr := rN_b b p
        refine v_istore_4 dX3_readPiece_54 rfl (zle rfl) rfl ?_
        refine v_bipush (v := 127) dX3_readPiece_56 rfl rfl ?_
        refine v_istore_5 dX3_readPiece_58 rfl (zle rfl) rfl ?_
        refine v_iload_2 dX3_readPiece_60 rfl ?_
        refine v_iconst (v := 1) dX3_readPiece_61 rfl rfl ?_
        refine v_icmp_ne (tgt := 84) dX3_readPiece_62 (by decide) rfl (fun c62 => ?_) (fun c62 => ?_)
        · have e5 : pl5 b p = (rN b p).2 := zi_f (fun h => c62 h.1)
          have e6 : dyv b p = 127 := zi_f (fun h => c62 h.1)
          have := en_X3_readPiece (R := R) (K := K) hq h0 h1 hnc hR hBt hpb g1 g2 g3
          rw [e5, e6] at this
          exact this
        · refine v_aload_0 dX3_readPiece_65 rfl ?_
          refine v_bipush (v := 64) dX3_readPiece_66 rfl rfl ?_
          by_cases g4 : b (rN b p).2 = 64
          · refine v_callV (ci := 3) (F := TX3) (c_X3_takeSign (N := (u3 N 3 2 q (nI ((rN b p).2)))) q tp tb L b ((rN b p).2) 64 hq h0 u3_self hR (by omega) hBt (by decide) g4) yy_X3_takeSign im_X3_takeSign se_X3_takeSign lk_3_49 hq (zle rfl) rfl (zle rfl) (zle rfl) (zle rfl) (zle rfl) rfl rfl (zle rfl) dX3_readPiece_68 rfl (zp.use ?_)
            rw [u3_u3]
            refine v_if_eq_f (tgt := 84) (by decide) dX3_readPiece_71 (by decide) rfl ?_
            refine v_aload_0 dX3_readPiece_74 rfl ?_
            refine v_bipush (v := 48) dX3_readPiece_75 rfl rfl ?_
            refine v_bipush (v := 7) dX3_readPiece_77 rfl rfl ?_
            refine v_callV (ci := 3) (F := TX3) (c_X3_takeRising (N := (u3 N 3 2 q (nI ((rN b p).2 + 1)))) q tp tb L b ((rN b p).2 + 1) 48 7 hq h0 u3_self hR (by omega) hBt (by decide)) yy_X3_takeRising im_X3_takeRising se_X3_takeRising lk_3_46 hq (zle rfl) rfl (zle rfl) (zle rfl) (zle rfl) (zle rfl) rfl rfl (zle rfl) dX3_readPiece_79 rfl (zp.use ?_)
            rw [u3_u3]
            change V K _ T (u3 N 3 2 q (nI ((rD b p).2))) P I R _ _ _ _ (.int (rD b p).1 :: _)
            refine v_istore_5 dX3_readPiece_82 rfl (zle rfl) rfl ?_
            have hD : isD b p := ⟨c62, g4⟩
            have e5 : pl5 b p = (rD b p).2 := zi_t hD
            have e6 : dyv b p = (rD b p).1 := zi_t hD
            have := en_X3_readPiece (R := R) (K := K) hq h0 h1 hnc hR hBt hpb g1 g2 g3
            rw [e5, e6] at this
            exact this
          · refine v_callV (ci := 3) (F := TX3) (c_X3_takeSign_f (N := (u3 N 3 2 q (nI ((rN b p).2)))) q tp tb L b ((rN b p).2) 64 hq h0 u3_self hR (by omega) hBt (by decide) g4) yy_X3_takeSign im_X3_takeSign se_X3_takeSign lk_3_49 hq (zle rfl) rfl (zle rfl) (zle rfl) (zle rfl) (zle rfl) rfl rfl (zle rfl) dX3_readPiece_68 rfl (zp.use ?_)
            refine v_if_eq_t (n := 84) (by decide) dX3_readPiece_71 (by decide) ?_
            have e5 : pl5 b p = (rN b p).2 := zi_f (fun h => g4 h.2)
            have e6 : dyv b p = 127 := zi_f (fun h => g4 h.2)
            have := en_X3_readPiece (R := R) (K := K) hq h0 h1 hnc hR hBt hpb g1 g2 g3
            rw [e5, e6] at this
            exact this
      · refine v_callV (ci := 3) (F := TX3) (c_X3_takeOneOf_f (N := (u3 N 3 2 q (nI (p + 2)))) q tp tb L b (p + 2) 49 9 hq h0 u3_self hR (by omega) hBt (by omega) g3) yy_X3_takeOneOf im_X3_takeOneOf se_X3_takeOneOf lk_3_38 hq (zle rfl) rfl (zle rfl) (zle rfl) (zle rfl) (zle rfl) rfl rfl (zle rfl) dX3_readPiece_33 rfl (zp.use ?_)
        refine v_iconst (v := 1) dX3_readPiece_36 rfl rfl ?_
        refine v_iadd dX3_readPiece_37 rfl ?_
        refine v_istore_3 dX3_readPiece_38 rfl (zle rfl) rfl ?_
        refine v_iload_3 dX3_readPiece_39 rfl ?_
        refine v_iconst (v := 1) dX3_readPiece_40 rfl rfl ?_
        refine v_icmp_ge_f (tgt := 46) (by decide) dX3_readPiece_41 (by decide) rfl ?_
        refine v_null dX3_readPiece_44 rfl ?_
        exact v_areturn rfl (Or.inl ⟨_, rfl⟩) (Or.inl rfl) (rcQ_f (by unfold rpe; rw [zi_t g1, zi_f g2, zi_f g3]) (fun h => g3 h.2.2.1)) (zle rfl) (zle rfl) dX3_readPiece_45
  · refine v_callV (ci := 3) (F := TX3) (c_X3_takeOneOf_f q tp tb L b p 48 nc hq h0 hp hR (by omega) hBt (by omega) g1) yy_X3_takeOneOf im_X3_takeOneOf se_X3_takeOneOf lk_3_38 hq (zle rfl) rfl (zle rfl) (zle rfl) (zle rfl) (zle rfl) rfl rfl (zle rfl) dX3_readPiece_7 rfl (zp.use ?_)
    refine v_istore_1 dX3_readPiece_10 rfl (zle rfl) rfl ?_
    refine v_iload_1 dX3_readPiece_11 rfl ?_
    refine v_if_ge_f (tgt := 17) (by decide) dX3_readPiece_12 (by decide) rfl ?_
    refine v_null dX3_readPiece_15 rfl ?_
    exact v_areturn rfl (Or.inl ⟨_, rfl⟩) (Or.inl rfl) (by
      have hq := rcQ_f (q := q) (T := T) (N := N) (P := P) (I := I) (R := R) (zi_f g1 : rpe b nc p = p) (fun h => g1 h.1)
      rw [en] at hq
      exact hq) (zle rfl) (zle rfl) dX3_readPiece_16
