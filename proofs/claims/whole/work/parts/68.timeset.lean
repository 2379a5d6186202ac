/-- times for one set more -/
theorem Tm_st {r : zg} {e np nc nw d : Nat} {s : Prop} {K : Nat} {dom : Nat → Nat → Prop} (tm : Nat → Nat → Nat) {S : Nat} (hn : np ≤ 12) (hS : S < 2 ^ np) (hE : Eg (edg r nc nw d s) (mvS r e np d S) (dom S)) : ∃ w, TmS r e np nc nw d s K dom (u1 tm S w) S := by
  obtain ⟨v, hv, hb⟩ := Sol_ex (K := K) (base := fun c => zi (ovr r e (nI S) np) 0 (zi (∃ p, nxS r e np d S c p) (min K (lnP r e (tn (nxv (canP r e (nI c) (nI S) d) 0 np)) + tm (S ||| 2 ^ (tn (nxv (canP r e (nI c) (nI S) d) 0 np))) c)) 0)) hE
  refine ⟨v, ?_⟩
  unfold TmS
  rw [u1_self]
  refine ⟨fun c hc => ⟨fun ho => ?_, fun ho p hp => ?_⟩, hv⟩
  · rw [hb c (fun h => h.2.1 ho), zi_t ho]
  · have hup := nx_up hp hn hS
    have hx : nxv (canP r e (nI c) (nI S) d) 0 np = nI p := by
      rcases nxv_or (canP r e (nI c) (nI S) d) 0 np with ⟨g1, g2⟩ | ⟨q, g0, g1, g2, g3, g4⟩
      · exact absurd hp.2.1 (g2 p (Nat.zero_le _) hp.1)
      · rw [g4, nx_un hp ⟨g1, g2, fun k hk => g3 k (Nat.zero_le _) hk⟩]
    have hp12 := hp.1
    rw [hb c (fun h => h.2.2 p hp.1 hp.2.1), zi_f ho, zi_t ⟨p, hp⟩, hx, tn_nI (by omega), u1_na (by omega)]
theorem TmS.le {r : zg} {e np nc nw d : Nat} {s : Prop} {K : Nat} {dom : Nat → Nat → Prop} {tm : Nat → Nat → Nat} {S c : Nat} (h : TmS r e np nc nw d s K dom tm S) (hc : dom S c) : tm S c ≤ K := by
  obtain ⟨h1, h2⟩ := h
  by_cases ho : ovr r e (nI S) np
  · rw [(h1 c hc).1 ho]; exact Nat.zero_le _
  · rcases nx_or r e np d S c with ⟨p, hp⟩ | g
    · rw [(h1 c hc).2 ho p hp]; exact Nat.min_le_left _ _
    · exact (h2 c hc ⟨ho, g⟩).1
theorem c_X4_timeFrom {E : zE} {T : zT} {N : zN} {P : zP} {I : zI} {R : zR} (sx nt sa na ra ta ln ea pa : Nat) (pp : Nat → Nat) (r : zg) (e d S0 : Nat) (S c x : Nat) (hX : SxE T N P R sx nt sa na ra ta ln ea pa pp r e d S0) (hS : S < 2 ^ (tn (r 10 e))) (hc : c < 8) (hx : I ta (8 * S + c) = nI x) : zC E yX4_timeFrom cX4_timeFrom 3 (some .int) (zr0 0 0) [.ref sx, .int (nI c), .int (nI S)] T N P I R (zp (nI x) T N P I R) := by
  refine zC.intro (ls := [some (.ref sx), some (.int (nI c)), some (.int (nI S))]) pl_RX4 (zle rfl) 0 rfl (fun K => ?_)
  obtain ⟨⟨x1, x2, x3, x4, x5, x6, x7, x8, x9, x10, x11, x12, x13, x14, x15⟩, xE, ⟨y1, y2, y3, y4⟩, ⟨z1, z2, z3, z4, z5, z6⟩, xN, xK⟩ := id hX
  have xNb := xN.2
  have h12 : 2 ^ tn (r 10 e) ≤ 2 ^ 12 := Nat.pow_le_pow_right (by decide) (by omega)
  refine v_aload_0 dX4_timeFrom_0 rfl ?_
  refine v_getP fl_4_25 x9 x1 rfl (zle rfl) rfl dX4_timeFrom_1 rfl ?_
  refine v_iload_2 dX4_timeFrom_4 rfl ?_
  refine v_bipush (v := 8) dX4_timeFrom_5 rfl rfl ?_
  refine v_imul dX4_timeFrom_7 rfl ?_
  refine v_iload_1 dX4_timeFrom_8 rfl ?_
  refine v_iadd dX4_timeFrom_9 rfl ?_
  refine v_iald (j := 8 * S + c) x11 (i8r S c) (by omega) (by omega) dX4_timeFrom_10 rfl ?_
  refine v_top hx ?_
  exact v_ireturn rfl (zp.rf) (zle rfl) (zle rfl) dX4_timeFrom_11
theorem c_X4_timeToldHere {E : zE} {T : zT} {N : zN} {P : zP} {I : zI} {R : zR} (sx nt sa na ra ta ln ea pa : Nat) (pp : Nat → Nat) (r : zg) (e d S0 : Nat) (S c : Nat) (hX : SxE T N P R sx nt sa na ra ta ln ea pa pp r e d S0) (hS : S < 2 ^ (tn (r 10 e))) (hc : c < 8) (ho : ovr r e (nI S) (tn (r 10 e))) : zC E yX4_timeToldHere cX4_timeToldHere 5 (some .int) (zr0 2 48) [.ref sx, .int (nI S), .int (nI c)] T N P I R (zp 0 T N P I R) := by
  refine zC.intro (ls := [some (.ref sx), some (.int (nI S)), some (.int (nI c)), none, none]) pl_RX4 (zle rfl) 2 rfl (fun K => ?_)
  obtain ⟨⟨x1, x2, x3, x4, x5, x6, x7, x8, x9, x10, x11, x12, x13, x14, x15⟩, xE, ⟨y1, y2, y3, y4⟩, ⟨z1, z2, z3, z4, z5, z6⟩, xN, xK⟩ := id hX
  have xNb := xN.2
  have h12 : 2 ^ tn (r 10 e) ≤ 2 ^ 12 := Nat.pow_le_pow_right (by decide) (by omega)
  refine v_aload_0 dX4_timeToldHere_0 rfl ?_
  refine v_getP fl_4_31 x12 x1 rfl (zle rfl) rfl dX4_timeToldHere_1 rfl ?_
  refine v_iload_1 dX4_timeToldHere_4 rfl ?_
  refine v_callV (ci := 0) (F := TX0) (c_X0_isOver ea (nI S) xE.1) yy_X0_isOver im_X0_isOver se_X0_isOver lk_4_73 xE.1 (zle rfl) rfl (zle rfl) (zle rfl) (zle rfl) (zle rfl) rfl rfl (zle rfl) dX4_timeToldHere_5 rfl (zp.use ?_)
  refine v_top (zb_iff (q := ovr r e (nI S) (tn (r 10 e))) (ends_ovr xE (by omega) (nI S))) ?_
  refine v_top (zb_t ho) ?_
  refine v_if_eq_f (tgt := 13) (by decide) dX4_timeToldHere_8 (by decide) rfl ?_
  refine v_iconst (v := 0) dX4_timeToldHere_11 rfl rfl ?_
  exact v_ireturn rfl (zp.rf) (zle rfl) (zle rfl) dX4_timeToldHere_12
theorem c_X4_timeToldHere_n {E : zE} {T : zT} {N : zN} {P : zP} {I : zI} {R : zR} (sx nt sa na ra ta ln ea pa : Nat) (pp : Nat → Nat) (r : zg) (e d S0 : Nat) (S c : Nat) (hX : SxE T N P R sx nt sa na ra ta ln ea pa pp r e d S0) (hS : S < 2 ^ (tn (r 10 e))) (hc : c < 8) (ho : ¬ ovr r e (nI S) (tn (r 10 e))) (hx : ∀ q, q < (tn (r 10 e)) → ¬ canP r e (nI c) (nI S) d q) : zC E yX4_timeToldHere cX4_timeToldHere 5 (some .int) (zr0 2 48) [.ref sx, .int (nI S), .int (nI c)] T N P I R (zp (-1) T N P I R) := by
  refine zC.intro (ls := [some (.ref sx), some (.int (nI S)), some (.int (nI c)), none, none]) pl_RX4 (zle rfl) 2 rfl (fun K => ?_)
  obtain ⟨⟨x1, x2, x3, x4, x5, x6, x7, x8, x9, x10, x11, x12, x13, x14, x15⟩, xE, ⟨y1, y2, y3, y4⟩, ⟨z1, z2, z3, z4, z5, z6⟩, xN, xK⟩ := id hX
  have xNb := xN.2
  have h12 : 2 ^ tn (r 10 e) ≤ 2 ^ 12 := Nat.pow_le_pow_right (by decide) (by omega)
  refine v_aload_0 dX4_timeToldHere_0 rfl ?_
  refine v_getP fl_4_31 x12 x1 rfl (zle rfl) rfl dX4_timeToldHere_1 rfl ?_
  refine v_iload_1 dX4_timeToldHere_4 rfl ?_
  refine v_callV (ci := 0) (F := TX0) (c_X0_isOver ea (nI S) xE.1) yy_X0_isOver im_X0_isOver se_X0_isOver lk_4_73 xE.1 (zle rfl) rfl (zle rfl) (zle rfl) (zle rfl) (zle rfl) rfl rfl (zle rfl) dX4_timeToldHere_5 rfl (zp.use ?_)
  refine v_top (zb_iff (q := ovr r e (nI S) (tn (r 10 e))) (ends_ovr xE (by omega) (nI S))) ?_
  refine v_top (zb_f ho) ?_
  refine v_if_eq_t (n := 13) rfl dX4_timeToldHere_8 (by decide) ?_
  refine v_aload_0 dX4_timeToldHere_13 rfl ?_
  refine v_getP fl_4_31 x12 x1 rfl (zle rfl) rfl dX4_timeToldHere_14 rfl ?_
  refine v_iconst (v := 0) dX4_timeToldHere_17 rfl rfl ?_
  refine v_iload_2 dX4_timeToldHere_18 rfl ?_
  refine v_iload_1 dX4_timeToldHere_19 rfl ?_
  refine v_aload_0 dX4_timeToldHere_20 rfl ?_
  refine v_getN fl_4_35 x1 rfl (zle rfl) rfl dX4_timeToldHere_21 rfl ?_
  refine v_top x13 ?_
  refine v_callV (ci := 0) (F := TX0) (c_X0_nextPiece e ea pa 0 d pp r (nI c) (nI S) xE xN (fun p hp => (xK p hp).1) y3 (Nat.zero_le _)) yy_X0_nextPiece im_X0_nextPiece se_X0_nextPiece lk_4_85 xE.1 (zle rfl) rfl (zle rfl) (zle rfl) (zle rfl) (zle rfl) rfl rfl (zle rfl) dX4_timeToldHere_24 rfl (zp.use ?_)
  have e14 : nxv (canP r e (nI c) (nI S) d) 0 (tn (r 10 e)) = -1 := by
    rcases nxv_or (canP r e (nI c) (nI S) d) 0 (tn (r 10 e)) with ⟨g1, g2⟩ | ⟨q, g0, g1, g2, g3, g4⟩
    · exact g1
    · exact absurd g2 (hx q g1)
  refine v_top e14 ?_
  refine v_istore_3 dX4_timeToldHere_27 rfl (zle rfl) rfl ?_
  refine v_aload_0 dX4_timeToldHere_28 rfl ?_
  refine v_getP fl_4_31 x12 x1 rfl (zle rfl) rfl dX4_timeToldHere_29 rfl ?_
  refine v_iload_3 dX4_timeToldHere_32 rfl ?_
  refine v_callV (ci := 0) (F := TX0) (c_X0_findPiece_n ea (-1) xE.1 (fun h => absurd h.1 (by decide))) yy_X0_findPiece im_X0_findPiece se_X0_findPiece lk_4_96 xE.1 (zle rfl) rfl (zle rfl) (zle rfl) (zle rfl) (zle rfl) rfl rfl (zle rfl) dX4_timeToldHere_33 rfl (za.use ?_)
  refine v_astoreN_4 dX4_timeToldHere_36 rfl (zle rfl) rfl ?_
  refine v_aloadN_4 dX4_timeToldHere_38 rfl ?_
  refine v_ifnonnullN dX4_timeToldHere_40 rfl ?_
  refine v_iconst (v := -1) dX4_timeToldHere_43 rfl rfl ?_
  exact v_ireturn rfl (zp.rf) (zle rfl) (zle rfl) dX4_timeToldHere_44
theorem c_X4_timeToldHere_p {E : zE} {T : zT} {N : zN} {P : zP} {I : zI} {R : zR} (sx nt sa na ra ta ln ea pa : Nat) (pp : Nat → Nat) (r : zg) (e d S0 : Nat) (S c p t : Nat) (hX : SxE T N P R sx nt sa na ra ta ln ea pa pp r e d S0) (hS : S < 2 ^ (tn (r 10 e))) (hc : c < 8) (ho : ¬ ovr r e (nI S) (tn (r 10 e))) (hx : nxS r e (tn (r 10 e)) d S c p) (ht : I ta (8 * (S ||| 2 ^ p) + c) = nI t) (htl : t ≤ NEVn) : zC E yX4_timeToldHere cX4_timeToldHere 5 (some .int) (zr0 2 48) [.ref sx, .int (nI S), .int (nI c)] T N P I R (zp (nI (min NEVn (lnP r e p + t))) T N P I R) := by
  refine zC.intro (ls := [some (.ref sx), some (.int (nI S)), some (.int (nI c)), none, none]) pl_RX4 (zle rfl) 2 rfl (fun K => ?_)
  obtain ⟨⟨x1, x2, x3, x4, x5, x6, x7, x8, x9, x10, x11, x12, x13, x14, x15⟩, xE, ⟨y1, y2, y3, y4⟩, ⟨z1, z2, z3, z4, z5, z6⟩, xN, xK⟩ := id hX
  have xNb := xN.2
  have h12 : 2 ^ tn (r 10 e) ≤ 2 ^ 12 := Nat.pow_le_pow_right (by decide) (by omega)
  refine v_aload_0 dX4_timeToldHere_0 rfl ?_
  refine v_getP fl_4_31 x12 x1 rfl (zle rfl) rfl dX4_timeToldHere_1 rfl ?_
  refine v_iload_1 dX4_timeToldHere_4 rfl ?_
  refine v_callV (ci := 0) (F := TX0) (c_X0_isOver ea (nI S) xE.1) yy_X0_isOver im_X0_isOver se_X0_isOver lk_4_73 xE.1 (zle rfl) rfl (zle rfl) (zle rfl) (zle rfl) (zle rfl) rfl rfl (zle rfl) dX4_timeToldHere_5 rfl (zp.use ?_)
  refine v_top (zb_iff (q := ovr r e (nI S) (tn (r 10 e))) (ends_ovr xE (by omega) (nI S))) ?_
  refine v_top (zb_f ho) ?_
  refine v_if_eq_t (n := 13) rfl dX4_timeToldHere_8 (by decide) ?_
  refine v_aload_0 dX4_timeToldHere_13 rfl ?_
  refine v_getP fl_4_31 x12 x1 rfl (zle rfl) rfl dX4_timeToldHere_14 rfl ?_
  refine v_iconst (v := 0) dX4_timeToldHere_17 rfl rfl ?_
  refine v_iload_2 dX4_timeToldHere_18 rfl ?_
  refine v_iload_1 dX4_timeToldHere_19 rfl ?_
  refine v_aload_0 dX4_timeToldHere_20 rfl ?_
  refine v_getN fl_4_35 x1 rfl (zle rfl) rfl dX4_timeToldHere_21 rfl ?_
  refine v_top x13 ?_
  refine v_callV (ci := 0) (F := TX0) (c_X0_nextPiece e ea pa 0 d pp r (nI c) (nI S) xE xN (fun p hp => (xK p hp).1) y3 (Nat.zero_le _)) yy_X0_nextPiece im_X0_nextPiece se_X0_nextPiece lk_4_85 xE.1 (zle rfl) rfl (zle rfl) (zle rfl) (zle rfl) (zle rfl) rfl rfl (zle rfl) dX4_timeToldHere_24 rfl (zp.use ?_)
  have e14 : nxv (canP r e (nI c) (nI S) d) 0 (tn (r 10 e)) = nI p := by
    rcases nxv_or (canP r e (nI c) (nI S) d) 0 (tn (r 10 e)) with ⟨g1, g2⟩ | ⟨q, g0, g1, g2, g3, g4⟩
    · exact absurd hx.2.1 (g2 p (Nat.zero_le _) hx.1)
    · rw [g4, nx_un hx ⟨g1, g2, fun k hk => g3 k (Nat.zero_le _) hk⟩]
  refine v_top e14 ?_
  have hup := nx_up hx (by omega) hS
  have hpl := hx.1
  have hpc := xE.2.2.2.2.1 p hpl
  have hln := (xK p hpl).2
  have hlb : lnP r e p < 10 := hln.2
  refine v_istore_3 dX4_timeToldHere_27 rfl (zle rfl) rfl ?_
  refine v_aload_0 dX4_timeToldHere_28 rfl ?_
  refine v_getP fl_4_31 x12 x1 rfl (zle rfl) rfl dX4_timeToldHere_29 rfl ?_
  refine v_iload_3 dX4_timeToldHere_32 rfl ?_
  refine v_callV (ci := 0) (F := TX0) (c_X0_findPiece ea pa p (pp p) xE.1 xE.2.1 xE.2.2.1 (by rw [xE.2.2.2.1]; exact (xN.within (by decide)).mpr (Nt.of_nI hpl (by omega))) (by omega) hpc.1) yy_X0_findPiece im_X0_findPiece se_X0_findPiece lk_4_96 xE.1 (zle rfl) rfl (zle rfl) (zle rfl) (zle rfl) (zle rfl) rfl rfl (zle rfl) dX4_timeToldHere_33 rfl (za.use ?_)
  refine v_astore_4 dX4_timeToldHere_36 rfl (zle rfl) rfl ?_
  refine v_aload_4 dX4_timeToldHere_38 rfl ?_
  refine v_ifnonnull (n := 45) dX4_timeToldHere_40 (by decide) ?_
  refine v_ldc dX4_timeToldHere_45 kc_4_49 rfl ?_
  refine v_aload_4 dX4_timeToldHere_47 rfl ?_
  refine v_getN fl_4_100 hpc.2.1 rfl (zle rfl) rfl dX4_timeToldHere_49 rfl ?_
  refine v_top (hpc.2.2.2.2.1.trans hln.1) ?_
  refine v_aload_0 dX4_timeToldHere_52 rfl ?_
  refine v_iload_2 dX4_timeToldHere_53 rfl ?_
  refine v_iload_1 dX4_timeToldHere_54 rfl ?_
  refine v_iconst (v := 1) dX4_timeToldHere_55 rfl rfl ?_
  refine v_iload_3 dX4_timeToldHere_56 rfl ?_
  refine v_ishl dX4_timeToldHere_57 rfl ?_
  refine v_ior dX4_timeToldHere_58 rfl ?_
  refine v_top hup.2.2 ?_
  refine v_callV (ci := 4) (F := TX4) (c_X4_timeFrom sx nt sa na ra ta ln ea pa pp r e d S0 (S ||| 2 ^ p) c t hX hup.2.1 hc ht) yy_X4_timeFrom im_X4_timeFrom se_X4_timeFrom lk_4_105 x1 (zle rfl) rfl (zle rfl) (zle rfl) (zle rfl) (zle rfl) rfl rfl (zle rfl) dX4_timeToldHere_59 rfl (zp.use ?_)
  refine v_iadd dX4_timeToldHere_62 rfl ?_
  refine v_top (nI_add _ _) ?_
  have hN := NEV_le
  refine v_min lk_4_108 st_min ii_math cd_min (zle rfl) (zle rfl) (zle rfl) (zle rfl) dX4_timeToldHere_63 rfl ?_
  refine v_top (nI_min (a := NEVn) (b := lnP r e p + t) (by decide) (by omega)) ?_
  exact v_ireturn rfl (zp.rf) (zle rfl) (zle rfl) dX4_timeToldHere_66
def tsQ (ta S : Nat) (dom : Nat → Prop) (w : Nat → Nat) (T : zT) (N : zN) (P : zP) (I : zI) (R : zR) : Option Value → zT → zN → zP → zI → zR → Prop := fun v T' N' P' I1 R' => v = none ∧ T = T' ∧ N = N' ∧ P = P' ∧ R = R' ∧ (∀ a j, ¬ (a = ta ∧ 8 * S ≤ j ∧ j < 8 * S + 8) → I1 a j = I a j) ∧ ∀ c, dom c → I1 ta (8 * S + c) = nI (w c)
theorem lp_X4_timeSet {E : zE} {T : zT} {N : zN} {P : zP} {I : zI} {R : zR} {sx nt sa na ra ta ln ea pa : Nat} {pp : Nat → Nat} {r : zg} {e d S0 : Nat} {nc nw S c0 : Nat} {s : Prop} {st : Nat → Nat → Nat} {nb rm w : Nat → Nat} {tm : Nat → Nat → Nat} {K : zK E yX4_timeSet cX4_timeSet 5 none (zr0 3 73)} (hX : SxE T N P R sx nt sa na ra ta ln ea pa pp r e d S0) (hS : S < 2 ^ (tn (r 10 e))) (hnc : nc ≤ 8) (hP : NtP (edg r nc nw d s) st nb) (hN : NtR I sa na st nb) (hR : RcR I ra (tn (r 10 e)) rm) (hB : ∀ c, ((rm S).testBit c = true ↔ (Rch r e (tn (r 10 e)) nc nw d s S0 c0) S c)) (hcl : ∀ p c, (Rch r e (tn (r 10 e)) nc nw d s S0 c0) S c → ¬ ovr r e (nI S) (tn (r 10 e)) → nxS r e (tn (r 10 e)) d S c p → (Rch r e (tn (r 10 e)) nc nw d s S0 c0) (S ||| 2 ^ p) c) (hTm : TmS r e (tn (r 10 e)) nc nw d s NEVn (Rch r e (tn (r 10 e)) nc nw d s S0 c0) (u1 tm S w) S) (hT : ∀ q c, S < q → q < 2 ^ (tn (r 10 e)) → (Rch r e (tn (r 10 e)) nc nw d s S0 c0) q c → I ta (8 * q + c) = nI (tm q c) ∧ tm q c ≤ NEVn) : ∀ k c (I1 : zI) (u : Nat) (o4 : Option Value), c + k = 8 → (∀ a j, ¬ (a = ta ∧ 8 * S ≤ j ∧ j < 8 * S + 8) → I1 a j = I a j) → (∀ i, i < c → (Rch r e (tn (r 10 e)) nc nw d s S0 c0) S i → I1 ta (8 * S + i) = nI (zi ((mvS r e (tn (r 10 e)) d S) i) NEVn (w i))) → u < 256 → (∀ i, (u.testBit i = true ↔ i < c ∧ (Rch r e (tn (r 10 e)) nc nw d s S0 c0) S i ∧ (mvS r e (tn (r 10 e)) d S) i)) → V K (zQf K (tsQ ta S ((Rch r e (tn (r 10 e)) nc nw d s S0 c0) S) w T N P I R)) T N P I1 R 0 0 4 [some (.ref sx), some (.int (nI S)), some (.int (nI u)), some (.int (nI c)), o4] [] := by
  obtain ⟨⟨x1, x2, x3, x4, x5, x6, x7, x8, x9, x10, x11, x12, x13, x14, x15⟩, xE, ⟨y1, y2, y3, y4⟩, ⟨z1, z2, z3, z4, z5, z6⟩, xN, xK⟩ := id hX
  have xNb := xN.2
  have h12 : 2 ^ tn (r 10 e) ≤ 2 ^ 12 := Nat.pow_le_pow_right (by decide) (by omega)
  have hNV := NEV_le
  have hd8 : ∀ c, (Rch r e (tn (r 10 e)) nc nw d s S0 c0) S c → c < 8 := fun c h => bt256 (hR S hS).2 ((hB c).mpr h)
  have hw1 : ∀ c, (Rch r e (tn (r 10 e)) nc nw d s S0 c0) S c → w c ≤ NEVn := fun c h => by have := hTm.le h; rw [u1_self] at this; exact this
  have hw0 := hTm.1
  have hw2 := hTm.2
  rw [u1_self] at hw2
  simp only [u1_self] at hw0
  intro k
  induction k with
  | zero =>
    intro c I1 u o4 hk hF hV hu hub
    obtain rfl : c = 8 := by omega
    refine v_iload_3 dX4_timeSet_4 rfl ?_
    refine v_bipush (v := 8) dX4_timeSet_5 rfl rfl ?_
    refine v_icmp_ge_t (n := 65) (by decide) dX4_timeSet_7 (by decide) ?_
    refine v_aload_0 dX4_timeSet_65 rfl ?_
    refine v_getP fl_4_12 x2 x1 rfl (zle rfl) rfl dX4_timeSet_66 rfl ?_
    refine v_aload_0 dX4_timeSet_69 rfl ?_
    refine v_getP fl_4_25 x9 x1 rfl (zle rfl) rfl dX4_timeSet_70 rfl ?_
    refine v_iload_1 dX4_timeSet_73 rfl ?_
    refine v_bipush (v := 8) dX4_timeSet_74 rfl rfl ?_
    refine v_imul dX4_timeSet_76 rfl ?_
    refine v_top (show nI S * 8 = nI (8 * S) by rw [Int32.mul_comm, show (8 : Int32) = nI 8 from rfl, pk_mul]) ?_
    have hv0 : ∀ i, (Rch r e (tn (r 10 e)) nc nw d s S0 c0) S i → (zi ((mvS r e (tn (r 10 e)) d S) i) NEVn (w i)) ≤ NEVn := fun i hi => by
      by_cases hm : (mvS r e (tn (r 10 e)) d S) i
      · rw [zi_t hm]; exact Nat.le_refl _
      · rw [zi_f hm]; exact hw1 i hi
    have hE : Eg (edg r nc nw d s) (mvS r e (tn (r 10 e)) d S) ((Rch r e (tn (r 10 e)) nc nw d s S0 c0) S) := Eg.mk' hnc (fun c c' l a b h => (Rch.cl S c a b.1).2 b c' l h)
    refine v_iload_2 dX4_timeSet_77 rfl ?_
    refine v_callV (ci := 1) (F := TX1) (c_X1_lessen (I := I1) nt sa na ta (8 * S) (ln * 8) (edg r nc nw d s) st nb ((Rch r e (tn (r 10 e)) nc nw d s S0 c0) S) (mvS r e (tn (r 10 e)) d S) w (fun c => (zi ((mvS r e (tn (r 10 e)) d S) c) NEVn (w c))) (nI u) x3 x4 x5 x6 x7 x11 (by omega) (by omega) z4 z5 hP (hN.mv z4 z5 hF) hE (fun i hi => by rw [bt_nI (by omega), hub i]; exact ⟨fun h => h.2, fun h => ⟨hi, h⟩⟩) hw2 hd8 (fun i hi => ⟨hd8 i hi, hV i (hd8 i hi) hi, hv0 i hi⟩) (fun i hi => by
  by_cases hm : (mvS r e (tn (r 10 e)) d S) i
  · show w i ≤ (zi ((mvS r e (tn (r 10 e)) d S) i) NEVn (w i)) ∧ (_ → (zi ((mvS r e (tn (r 10 e)) d S) i) NEVn (w i)) ≤ _) ∧ (_ → (zi ((mvS r e (tn (r 10 e)) d S) i) NEVn (w i)) = _)
    rw [zi_t hm]; exact ⟨hw1 i hi, fun _ => Nat.le_refl _, fun h => absurd hm h⟩
  · show w i ≤ (zi ((mvS r e (tn (r 10 e)) d S) i) NEVn (w i)) ∧ (_ → (zi ((mvS r e (tn (r 10 e)) d S) i) NEVn (w i)) ≤ _) ∧ (_ → (zi ((mvS r e (tn (r 10 e)) d S) i) NEVn (w i)) = _)
    rw [zi_f hm]; exact ⟨Nat.le_refl _, fun h => absurd h hm, fun _ => rfl⟩)) yy_X1_lessen im_X1_lessen se_X1_lessen lk_4_56 x3 (zle rfl) rfl (zle rfl) (zle rfl) (zle rfl) (zle rfl) rfl rfl (zle rfl) dX4_timeSet_78 rfl (fun y T2 N2 P2 I2 R2 hq => ?_)
    obtain ⟨rfl, rfl, rfl, rfl, rfl, l1, l2⟩ := hq
    exact v_return rfl (⟨rfl, rfl, rfl, rfl, rfl, fun a j h => (l1 a j h).trans (hF a j h), fun i hi => (l2 i hi).2.1⟩) (zle rfl) (zle rfl) dX4_timeSet_81
  | succ k ih =>
    intro c I1 u o4 hk hF hV hu hub
    obtain ⟨r1, r2⟩ := hR S hS
    have r1' : I1 ra S = nI (rm S) := by rw [hF ra S (fun h => z6 h.1)]; exact r1
    refine v_iload_3 dX4_timeSet_4 rfl ?_
    refine v_bipush (v := 8) dX4_timeSet_5 rfl rfl ?_
    refine v_icmp_ge_f (tgt := 65) (nI_ge (a := c) (b := 8) (by omega) (by decide)) dX4_timeSet_7 (by decide) rfl ?_
    refine v_aload_0 dX4_timeSet_10 rfl ?_
    refine v_getP fl_4_22 x8 x1 rfl (zle rfl) rfl dX4_timeSet_11 rfl ?_
    refine v_iload_1 dX4_timeSet_14 rfl ?_
    refine v_iald (j := S) x10 rfl (by omega) (by omega) dX4_timeSet_15 rfl ?_
    refine v_top r1' ?_
    refine v_iload_3 dX4_timeSet_16 rfl ?_
    refine v_callS (c_X10_has (nI (rm S)) c (by omega)) yy_X10_has st_X10_has lk_4_77 (zle rfl) (zle rfl) (zle rfl) (zle rfl) rfl rfl (zle rfl) dX4_timeSet_17 rfl (zp.use ?_)
    refine v_top (zb_iff (q := (Rch r e (tn (r 10 e)) nc nw d s S0 c0) S c) (by rw [bt_nI (by omega)]; exact hB c)) ?_
    refine v_ifz_eq (tgt := 59) dX4_timeSet_20 (by decide) rfl (fun c20 => ?_) (fun c20 => ?_)
    · refine v_iinc_3 dX4_timeSet_59 (nI_1 c) rfl (zle rfl) rfl ?_
      refine v_goto (n := 4) dX4_timeSet_62 (by decide) ?_
      exact ih (c + 1) I1 u _ (by omega) hF (fun i hi hri => by
        rcases (show i < c ∨ i = c by omega) with q | q
        · exact hV i q hri
        · subst q; exact absurd hri c20) hu (fun i => by
        rw [hub i]
        exact ⟨fun h => ⟨by omega, h.2⟩, fun h => ⟨by
          rcases (show i < c ∨ i = c by omega) with q | q
          · exact q
          · subst q; exact absurd h.2.1 c20, h.2⟩⟩)
    · have hrc := c20
      have hc8 : c < 8 := by omega
      rcases Classical.em (ovr r e (nI S) (tn (r 10 e))) with hO | hO
      rotate_left
      rcases nx_or r e (tn (r 10 e)) d S c with ⟨p, hp⟩ | hp
      · refine v_aload_0 dX4_timeSet_23 rfl ?_
        refine v_iload_1 dX4_timeSet_24 rfl ?_
        refine v_iload_3 dX4_timeSet_25 rfl ?_
        have hup := nx_up hp (by omega) hS
        obtain ⟨v1, v2⟩ := hT _ c hup.1 hup.2.1 (hcl p c hrc hO hp)
        refine v_callV (ci := 4) (F := TX4) (c_X4_timeToldHere_p (I := I1) sx nt sa na ra ta ln ea pa pp r e d S0 S c p (tm (S ||| 2 ^ p) c) hX hS hc8 hO hp (by rw [hF ta _ (fun h => by omega)]; exact v1) v2) yy_X4_timeToldHere im_X4_timeToldHere se_X4_timeToldHere lk_4_92 x1 (zle rfl) rfl (zle rfl) (zle rfl) (zle rfl) (zle rfl) rfl rfl (zle rfl) dX4_timeSet_26 rfl (zp.use ?_)
        refine v_istore_4 dX4_timeSet_29 rfl (zle rfl) rfl ?_
        refine v_iload_4 dX4_timeSet_31 rfl ?_
        refine v_if_ge_t (n := 46) (nI_pos' (by omega)) dX4_timeSet_33 (by decide) ?_
        refine v_aload_0 dX4_timeSet_46 rfl ?_
        refine v_getP fl_4_25 (by assumption) (by assumption) rfl (zle rfl) rfl dX4_timeSet_47 rfl ?_
        refine v_iload_1 dX4_timeSet_50 rfl ?_
        refine v_bipush (v := 8) dX4_timeSet_51 rfl rfl ?_
        refine v_imul dX4_timeSet_53 rfl ?_
        refine v_iload_3 dX4_timeSet_54 rfl ?_
        refine v_iadd dX4_timeSet_55 rfl ?_
        refine v_iload_4 dX4_timeSet_56 rfl ?_
        refine v_iast (j := 8 * S + c) x11 (i8r S c) (by omega) (by omega) dX4_timeSet_58 rfl ?_
        refine v_iinc_3 dX4_timeSet_59 (nI_1 c) rfl (zle rfl) rfl ?_
        refine v_goto (n := 4) dX4_timeSet_62 (by decide) ?_
        have hm : ¬ (mvS r e (tn (r 10 e)) d S) c := fun h => h.2 p hp.1 hp.2.1
        exact ih (c + 1) _ u _ (by omega) (fun a j hj => by
          rw [show u2 I1 ta (8 * S + c) (nI (min NEVn (lnP r e p + tm (S ||| 2 ^ p) c))) a j = I1 a j from by unfold u2; rw [if_neg (fun e => hj ⟨e.1, by omega, by omega⟩)]]; exact hF a j hj) (fun i hi hri => by
          by_cases e : i = c
          · subst e; rw [u2_self]; exact (by rw [zi_f hm, (hw0 i hrc).2 hO p hp, u1_na (by omega)])
          · rw [u2_ni (by omega)]; exact hV i (by omega) hri) hu (fun i => by
          rw [hub i]
          exact ⟨fun h => ⟨by omega, h.2⟩, fun h => ⟨by
            rcases (show i < c ∨ i = c by omega) with q | q
            · exact q
            · subst q; exact absurd h.2.2 hm, h.2⟩⟩)
      · refine v_aload_0 dX4_timeSet_23 rfl ?_
        refine v_iload_1 dX4_timeSet_24 rfl ?_
        refine v_iload_3 dX4_timeSet_25 rfl ?_
        refine v_callV (ci := 4) (F := TX4) (c_X4_timeToldHere_n (I := I1) sx nt sa na ra ta ln ea pa pp r e d S0 S c hX hS hc8 hO hp) yy_X4_timeToldHere im_X4_timeToldHere se_X4_timeToldHere lk_4_92 x1 (zle rfl) rfl (zle rfl) (zle rfl) (zle rfl) (zle rfl) rfl rfl (zle rfl) dX4_timeSet_26 rfl (zp.use ?_)
        refine v_istore_4 dX4_timeSet_29 rfl (zle rfl) rfl ?_
        refine v_iload_4 dX4_timeSet_31 rfl ?_
        refine v_if_ge_f (tgt := 46) (by decide) dX4_timeSet_33 (by decide) rfl ?_
        refine v_iload_2 dX4_timeSet_36 rfl ?_
        refine v_iconst (v := 1) dX4_timeSet_37 rfl rfl ?_
        refine v_iload_3 dX4_timeSet_38 rfl ?_
        refine v_ishl dX4_timeSet_39 rfl ?_
        refine v_ior dX4_timeSet_40 rfl ?_
        refine v_top (show nI u ||| (1 : Int32) <<< (nI c &&& 31) = nI (u ||| 2 ^ c) by rw [nI_sh c hc8, nI_or (by omega) (Nat.lt_trans (p256 hc8) (by decide))]) ?_
        refine v_istore_2 dX4_timeSet_41 rfl (zle rfl) rfl ?_
        refine v_ldc dX4_timeSet_42 kc_4_49 rfl ?_
        refine v_istore_4 dX4_timeSet_44 rfl (zle rfl) rfl ?_
        refine v_aload_0 dX4_timeSet_46 rfl ?_
        refine v_getP fl_4_25 (by assumption) (by assumption) rfl (zle rfl) rfl dX4_timeSet_47 rfl ?_
        refine v_iload_1 dX4_timeSet_50 rfl ?_
        refine v_bipush (v := 8) dX4_timeSet_51 rfl rfl ?_
        refine v_imul dX4_timeSet_53 rfl ?_
        refine v_iload_3 dX4_timeSet_54 rfl ?_
        refine v_iadd dX4_timeSet_55 rfl ?_
        refine v_iload_4 dX4_timeSet_56 rfl ?_
        refine v_iast (j := 8 * S + c) x11 (i8r S c) (by omega) (by omega) dX4_timeSet_58 rfl ?_
        refine v_iinc_3 dX4_timeSet_59 (nI_1 c) rfl (zle rfl) rfl ?_
        refine v_goto (n := 4) dX4_timeSet_62 (by decide) ?_
        have hm : (mvS r e (tn (r 10 e)) d S) c := ⟨hO, hp⟩
        exact ih (c + 1) _ (u ||| 2 ^ c) _ (by omega) (fun a j hj => by
          rw [show u2 I1 ta (8 * S + c) 1000000000 a j = I1 a j from by unfold u2; rw [if_neg (fun e => hj ⟨e.1, by omega, by omega⟩)]]; exact hF a j hj) (fun i hi hri => by
          by_cases e : i = c
          · subst e; rw [u2_self]; exact (by rw [zi_t hm]; rfl)
          · rw [u2_ni (by omega)]; exact hV i (by omega) hri) (or256 hu (p256 hc8)) (fun i => by
          rw [Nat.testBit_or, Bool.or_eq_true, hub i, Nat.testBit_two_pow, decide_eq_true_eq]
          constructor
          · rintro (h | h)
            · exact ⟨by omega, h.2⟩
            · subst h; exact ⟨by omega, hrc, hm⟩
          · rintro ⟨h1, h2⟩
            rcases (show i < c ∨ i = c by omega) with q | q
            · exact Or.inl ⟨q, h2⟩
            · exact Or.inr q.symm)
      · refine v_aload_0 dX4_timeSet_23 rfl ?_
        refine v_iload_1 dX4_timeSet_24 rfl ?_
        refine v_iload_3 dX4_timeSet_25 rfl ?_
        refine v_callV (ci := 4) (F := TX4) (c_X4_timeToldHere (I := I1) sx nt sa na ra ta ln ea pa pp r e d S0 S c hX hS hc8 hO) yy_X4_timeToldHere im_X4_timeToldHere se_X4_timeToldHere lk_4_92 x1 (zle rfl) rfl (zle rfl) (zle rfl) (zle rfl) (zle rfl) rfl rfl (zle rfl) dX4_timeSet_26 rfl (zp.use ?_)
        refine v_istore_4 dX4_timeSet_29 rfl (zle rfl) rfl ?_
        refine v_iload_4 dX4_timeSet_31 rfl ?_
        refine v_if_ge_t (n := 46) (by decide) dX4_timeSet_33 (by decide) ?_
        refine v_aload_0 dX4_timeSet_46 rfl ?_
        refine v_getP fl_4_25 (by assumption) (by assumption) rfl (zle rfl) rfl dX4_timeSet_47 rfl ?_
        refine v_iload_1 dX4_timeSet_50 rfl ?_
        refine v_bipush (v := 8) dX4_timeSet_51 rfl rfl ?_
        refine v_imul dX4_timeSet_53 rfl ?_
        refine v_iload_3 dX4_timeSet_54 rfl ?_
        refine v_iadd dX4_timeSet_55 rfl ?_
        refine v_iload_4 dX4_timeSet_56 rfl ?_
        refine v_iast (j := 8 * S + c) x11 (i8r S c) (by omega) (by omega) dX4_timeSet_58 rfl ?_
        refine v_iinc_3 dX4_timeSet_59 (nI_1 c) rfl (zle rfl) rfl ?_
        refine v_goto (n := 4) dX4_timeSet_62 (by decide) ?_
        have hm : ¬ (mvS r e (tn (r 10 e)) d S) c := fun h => h.1 hO
        exact ih (c + 1) _ u _ (by omega) (fun a j hj => by
          rw [show u2 I1 ta (8 * S + c) 0 a j = I1 a j from by unfold u2; rw [if_neg (fun e => hj ⟨e.1, by omega, by omega⟩)]]; exact hF a j hj) (fun i hi hri => by
          by_cases e : i = c
          · subst e; rw [u2_self]; exact (by rw [zi_f hm, (hw0 i hrc).1 hO]; rfl)
          · rw [u2_ni (by omega)]; exact hV i (by omega) hri) hu (fun i => by
          rw [hub i]
          exact ⟨fun h => ⟨by omega, h.2⟩, fun h => ⟨by
            rcases (show i < c ∨ i = c by omega) with q | q
            · exact q
            · subst q; exact absurd h.2.2 hm, h.2⟩⟩)
theorem c_X4_timeSet {E : zE} {T : zT} {N : zN} {P : zP} {I : zI} {R : zR} (sx nt sa na ra ta ln ea pa : Nat) (pp : Nat → Nat) (r : zg) (e d S0 : Nat) (nc nw S c0 : Nat) (s : Prop) (st : Nat → Nat → Nat) (nb rm w : Nat → Nat) (tm : Nat → Nat → Nat)  (hX : SxE T N P R sx nt sa na ra ta ln ea pa pp r e d S0) (hS : S < 2 ^ (tn (r 10 e))) (hnc : nc ≤ 8) (hP : NtP (edg r nc nw d s) st nb) (hN : NtR I sa na st nb) (hR : RcR I ra (tn (r 10 e)) rm) (hB : ∀ c, ((rm S).testBit c = true ↔ (Rch r e (tn (r 10 e)) nc nw d s S0 c0) S c)) (hcl : ∀ p c, (Rch r e (tn (r 10 e)) nc nw d s S0 c0) S c → ¬ ovr r e (nI S) (tn (r 10 e)) → nxS r e (tn (r 10 e)) d S c p → (Rch r e (tn (r 10 e)) nc nw d s S0 c0) (S ||| 2 ^ p) c) (hTm : TmS r e (tn (r 10 e)) nc nw d s NEVn (Rch r e (tn (r 10 e)) nc nw d s S0 c0) (u1 tm S w) S) (hT : ∀ q c, S < q → q < 2 ^ (tn (r 10 e)) → (Rch r e (tn (r 10 e)) nc nw d s S0 c0) q c → I ta (8 * q + c) = nI (tm q c) ∧ tm q c ≤ NEVn) : zC E yX4_timeSet cX4_timeSet 5 none (zr0 3 73) [.ref sx, .int (nI S)] T N P I R (tsQ ta S ((Rch r e (tn (r 10 e)) nc nw d s S0 c0) S) w T N P I R) := by
  refine zC.intro (ls := [some (.ref sx), some (.int (nI S)), none, none, none]) pl_RX4 (zle rfl) 3 rfl (fun K => ?_)
  refine v_iconst (v := 0) dX4_timeSet_0 rfl rfl ?_
  refine v_istore_2 dX4_timeSet_1 rfl (zle rfl) rfl ?_
  refine v_iconst (v := 0) dX4_timeSet_2 rfl rfl ?_
  refine v_istore_3 dX4_timeSet_3 rfl (zle rfl) rfl ?_
  exact lp_X4_timeSet hX hS hnc hP hN hR hB hcl hTm hT 8 0 I 0 _ (by omega) (fun _ _ _ => rfl) (fun i hi => absurd hi (Nat.not_lt_zero i)) (by decide) (fun i => ⟨fun h => absurd h (by rw [Nat.zero_testBit]; decide), fun h => absurd h.1 (Nat.not_lt_zero i)⟩)
