theorem lp_cmp {L i : Nat} (hL : L ≤ 3072) (hi : i ≤ 3072) (h : ¬ nI L - 6 < nI i) : i + 5 < L := by
  rw [Int32.lt_iff_toInt_lt, Int32.toInt_sub, nI_toInt (by omega), nI_toInt (by omega)] at h
  have e : (6 : Int32).toInt = 6 := rfl
  rw [e, fb9 (by omega) (by omega)] at h
  omega
/-- the switch: one call -/
theorem L_switch {E : zE} {nm : String} {K : zK E (yL nm) code 4 ret room_1} {Qf : State → Prop} {T : zT} {N : zN} {P : zP} {I : zI} {R : zR} {s0 L n x m : Nat} {xs : Nat → Int32} {ad : Nat → Nat} {b : Nat → Nat → Nat} {g : Nat} {f : zf} {r : zg} {kc ks : Nat} (hX : zSc K s0 L xs) (hl : L < 2 ^ 31) (hi : 6 * n + 5 < L) (hS : LB T N P I R x m ad b g f r) (hR : Rm n g kc ks) (hn : n < 512) (kk : ∀ (T : zT) (N : zN) (P : zP) (I : zI) (R : zR) (b : Nat → Nat → Nat) (g : Nat) (f : zf) (r : zg) (kc ks : Nat), LB T N P I R x m ad b g f r → Rm (n + 1) g kc ks → V K Qf T N P I R kc ks 1202 [some (.ref s0), some (.ref x), some (.ref m), some (.int (nI (6 * n)))] []) : V K Qf T N P I R kc ks 33 [some (.ref s0), some (.ref x), some (.ref m), some (.int (nI (6 * n)))] [.int (xs (6 * n) &&& 31)] := by
  by_cases sw0 : xs (6 * n) &&& 31 = 0
  · refine v_tableIn (off := 111) (n := 144) dL_law_33 (by rw [sw0]; decide) (by rw [sw0]; decide) (by rw [sw0]; rfl) (by decide) ?_
    exact S_corner hX hl hi hS hR hn kk
  by_cases sw1 : xs (6 * n) &&& 31 = 1
  · refine v_tableIn (off := 144) (n := 177) dL_law_33 (by rw [sw1]; decide) (by rw [sw1]; decide) (by rw [sw1]; rfl) (by decide) ?_
    exact S_way hX hl hi hS hR hn kk
  by_cases sw2 : xs (6 * n) &&& 31 = 2
  · refine v_tableIn (off := 213) (n := 246) dL_law_33 (by rw [sw2]; decide) (by rw [sw2]; decide) (by rw [sw2]; rfl) (by decide) ?_
    exact S_shut hX hl hi hS hR hn kk
  by_cases sw3 : xs (6 * n) &&& 31 = 3
  · refine v_tableIn (off := 246) (n := 279) dL_law_33 (by rw [sw3]; decide) (by rw [sw3]; decide) (by rw [sw3]; rfl) (by decide) ?_
    exact S_far hX hl hi hS hR hn kk
  by_cases sw4 : xs (6 * n) &&& 31 = 4
  · refine v_tableIn (off := 315) (n := 348) dL_law_33 (by rw [sw4]; decide) (by rw [sw4]; decide) (by rw [sw4]; rfl) (by decide) ?_
    exact S_feed hX hl hi hS hR hn kk
  by_cases sw5 : xs (6 * n) &&& 31 = 5
  · refine v_tableIn (off := 378) (n := 411) dL_law_33 (by rw [sw5]; decide) (by rw [sw5]; decide) (by rw [sw5]; rfl) (by decide) ?_
    exact S_story hX hl hi hS hR hn kk
  by_cases sw6 : xs (6 * n) &&& 31 = 6
  · refine v_tableIn (off := 391) (n := 424) dL_law_33 (by rw [sw6]; decide) (by rw [sw6]; decide) (by rw [sw6]; rfl) (by decide) ?_
    exact S_as hX hl hi hS hR hn kk
  by_cases sw7 : xs (6 * n) &&& 31 = 7
  · refine v_tableIn (off := 434) (n := 467) dL_law_33 (by rw [sw7]; decide) (by rw [sw7]; decide) (by rw [sw7]; rfl) (by decide) ?_
    exact S_of hX hl hi hS hR hn kk
  by_cases sw8 : xs (6 * n) &&& 31 = 8
  · refine v_tableIn (off := 477) (n := 510) dL_law_33 (by rw [sw8]; decide) (by rw [sw8]; decide) (by rw [sw8]; rfl) (by decide) ?_
    exact S_check hX hl hi hS hR hn kk
  by_cases sw9 : xs (6 * n) &&& 31 = 9
  · refine v_tableIn (off := 556) (n := 589) dL_law_33 (by rw [sw9]; decide) (by rw [sw9]; decide) (by rw [sw9]; rfl) (by decide) ?_
    exact S_quickest hX hl hi hS hR hn kk
  by_cases sw10 : xs (6 * n) &&& 31 = 10
  · refine v_tableIn (off := 625) (n := 658) dL_law_33 (by rw [sw10]; decide) (by rw [sw10]; decide) (by rw [sw10]; rfl) (by decide) ?_
    exact S_route hX hl hi hS hR hn kk
  by_cases sw11 : xs (6 * n) &&& 31 = 11
  · refine v_tableIn (off := 704) (n := 737) dL_law_33 (by rw [sw11]; decide) (by rw [sw11]; decide) (by rw [sw11]; rfl) (by decide) ?_
    exact S_walker hX hl hi hS hR hn kk
  by_cases sw12 : xs (6 * n) &&& 31 = 12
  · refine v_tableIn (off := 753) (n := 786) dL_law_33 (by rw [sw12]; decide) (by rw [sw12]; decide) (by rw [sw12]; rfl) (by decide) ?_
    exact S_today hX hl hi hS hR hn kk
  by_cases sw13 : xs (6 * n) &&& 31 = 13
  · refine v_tableIn (off := 776) (n := 809) dL_law_33 (by rw [sw13]; decide) (by rw [sw13]; decide) (by rw [sw13]; rfl) (by decide) ?_
    exact S_go hX hl hi hS hR hn kk
  by_cases sw14 : xs (6 * n) &&& 31 = 14
  · refine v_tableIn (off := 809) (n := 842) dL_law_33 (by rw [sw14]; decide) (by rw [sw14]; decide) (by rw [sw14]; rfl) (by decide) ?_
    exact S_about hX hl hi hS hR hn kk
  by_cases sw15 : xs (6 * n) &&& 31 = 15
  · refine v_tableIn (off := 842) (n := 875) dL_law_33 (by rw [sw15]; decide) (by rw [sw15]; decide) (by rw [sw15]; rfl) (by decide) ?_
    exact S_offer hX hl hi hS hR hn kk
  by_cases sw16 : xs (6 * n) &&& 31 = 16
  · refine v_tableIn (off := 865) (n := 898) dL_law_33 (by rw [sw16]; decide) (by rw [sw16]; decide) (by rw [sw16]; rfl) (by decide) ?_
    exact S_rest hX hl hi hS hR hn kk
  by_cases sw17 : xs (6 * n) &&& 31 = 17
  · refine v_tableIn (off := 888) (n := 921) dL_law_33 (by rw [sw17]; decide) (by rw [sw17]; decide) (by rw [sw17]; rfl) (by decide) ?_
    exact S_lost hX hl hi hS hR hn kk
  by_cases sw18 : xs (6 * n) &&& 31 = 18
  · refine v_tableIn (off := 911) (n := 944) dL_law_33 (by rw [sw18]; decide) (by rw [sw18]; decide) (by rw [sw18]; rfl) (by decide) ?_
    exact S_seen hX hl hi hS hR hn kk
  by_cases sw19 : xs (6 * n) &&& 31 = 19
  · refine v_tableIn (off := 964) (n := 997) dL_law_33 (by rw [sw19]; decide) (by rw [sw19]; decide) (by rw [sw19]; rfl) (by decide) ?_
    exact S_sheet hX hl hi hS hR hn kk
  by_cases sw20 : xs (6 * n) &&& 31 = 20
  · refine v_tableIn (off := 1007) (n := 1040) dL_law_33 (by rw [sw20]; decide) (by rw [sw20]; decide) (by rw [sw20]; rfl) (by decide) ?_
    exact S_write hX hl hi hS hR hn kk
  by_cases sw21 : xs (6 * n) &&& 31 = 21
  · refine v_tableIn (off := 1050) (n := 1083) dL_law_33 (by rw [sw21]; decide) (by rw [sw21]; decide) (by rw [sw21]; rfl) (by decide) ?_
    exact S_copy hX hl hi hS hR hn kk
  by_cases sw22 : xs (6 * n) &&& 31 = 22
  · refine v_tableIn (off := 1113) (n := 1146) dL_law_33 (by rw [sw22]; decide) (by rw [sw22]; decide) (by rw [sw22]; rfl) (by decide) ?_
    exact S_trace hX hl hi hS hR hn kk
  by_cases sw23 : xs (6 * n) &&& 31 = 23
  · refine v_tableIn (off := 1146) (n := 1179) dL_law_33 (by rw [sw23]; decide) (by rw [sw23]; decide) (by rw [sw23]; rfl) (by decide) ?_
    exact S_told hX hl hi hS hR hn kk
  refine v_tableOut (n := 1202) dL_law_33 (tb_out (k := 23) (fun j hj => by rcases (show j = 0 ∨ j = 1 ∨ j = 2 ∨ j = 3 ∨ j = 4 ∨ j = 5 ∨ j = 6 ∨ j = 7 ∨ j = 8 ∨ j = 9 ∨ j = 10 ∨ j = 11 ∨ j = 12 ∨ j = 13 ∨ j = 14 ∨ j = 15 ∨ j = 16 ∨ j = 17 ∨ j = 18 ∨ j = 19 ∨ j = 20 ∨ j = 21 ∨ j = 22 ∨ j = 23 by omega) with rfl | rfl | rfl | rfl | rfl | rfl | rfl | rfl | rfl | rfl | rfl | rfl | rfl | rfl | rfl | rfl | rfl | rfl | rfl | rfl | rfl | rfl | rfl | rfl <;> first | exact sw0 | exact sw1 | exact sw2 | exact sw3 | exact sw4 | exact sw5 | exact sw6 | exact sw7 | exact sw8 | exact sw9 | exact sw10 | exact sw11 | exact sw12 | exact sw13 | exact sw14 | exact sw15 | exact sw16 | exact sw17 | exact sw18 | exact sw19 | exact sw20 | exact sw21 | exact sw22 | exact sw23)) (by decide) ?_
  exact kk T N P I R b g f r kc ks hS (by obtain ⟨y1, y2⟩ := hR; unfold Rm; omega)
theorem L_loop {E : zE} {nm : String} {K : zK E (yL nm) code 4 ret room_1} {Qf : State → Prop} {s0 L x m : Nat} {xs : Nat → Int32} {ad : Nat → Nat} (hX : zSc K s0 L xs) (hL : L ≤ 3072) (he : ∀ (T : zT) (N : zN) (P : zP) (I : zI) (R : zR) (kc ks : Nat) (a1 a2 a3 : Option Value), kc ≤ 600000 → ks ≤ 7302250 → V K Qf T N P I R kc ks 1208 [some (.ref s0), a1, a2, a3] []) : ∀ (k n : Nat) (T : zT) (N : zN) (P : zP) (I : zI) (R : zR) (b : Nat → Nat → Nat) (g : Nat) (f : zf) (r : zg) (kc ks : Nat), n + k = 512 → LB T N P I R x m ad b g f r → Rm n g kc ks → V K Qf T N P I R kc ks 18 [some (.ref s0), some (.ref x), some (.ref m), some (.int (nI (6 * n)))] [] := by
  intro k
  induction k with
  | zero =>
    intro n T N P I R b g f r kc ks hk hS hR
    have hg := hS.1.2.2.1.1
    have hp : 2 ^ (g + 1) ≤ 2 ^ 13 := Nat.pow_le_pow_right (by decide) (by omega)
    have e13 : 2 ^ 13 = 8192 := rfl
    refine v_iload_3 dL_law_18 rfl ?_
    refine v_aload_0 dL_law_19 rfl ?_
    refine v_slen hX dL_law_20 rfl ?_
    refine v_bipush (v := 6) dL_law_21 rfl rfl ?_
    refine v_isub dL_law_23 rfl ?_
    refine v_icmp_gt (tgt := 1208) dL_law_24 (by decide) rfl (fun c => ?_) (fun c => ?_)
    · obtain ⟨y1, y2⟩ := hR
      exact he T N P I R kc ks _ _ _ (by omega) (by omega)
    · have := lp_cmp hL (by omega) c
      omega
  | succ k ih =>
    intro n T N P I R b g f r kc ks hk hS hR
    obtain ⟨y1, y2⟩ := hR.b (by omega) hS.1.2.2.1.1
    refine v_iload_3 dL_law_18 rfl ?_
    refine v_aload_0 dL_law_19 rfl ?_
    refine v_slen hX dL_law_20 rfl ?_
    refine v_bipush (v := 6) dL_law_21 rfl rfl ?_
    refine v_isub dL_law_23 rfl ?_
    refine v_icmp_gt (tgt := 1208) dL_law_24 (by decide) rfl (fun c => ?_) (fun c => ?_)
    · exact he T N P I R kc ks _ _ _ (by omega) (by omega)
    · have hi := lp_cmp hL (by omega) c
      refine v_aload_0 dL_law_27 rfl ?_
      refine v_iload_3 dL_law_28 rfl ?_
      refine v_sld hX rfl (by omega) (by omega) rfl dL_law_29 rfl ?_
      refine v_bipush (v := 31) dL_law_30 rfl rfl ?_
      refine v_iand dL_law_32 rfl ?_
      refine L_switch hX (by omega) hi hS hR (by omega) (fun T N P I R b g f r kc ks hS hR => ?_)
      refine v_iinc_3 (b := nI (6 * (n + 1))) dL_law_1202 (lsi (6 * n) 6 rfl) rfl (zle rfl) rfl ?_
      refine v_goto (n := 18) dL_law_1205 (by decide) ?_
      exact ih (n + 1) T N P I R b g f r kc ks (by omega) hS hR
/-- both objects are made -/
theorem LB0 {T1 : zT} {N1 : zN} {P1 : zP} {I1 : zI} {R1 : zR} {T3 : zT} {N3 : zN} {P3 : zP} {I3 : zI} {R3 : zR} {x m : Nat} {b : Nat → Nat → Nat} {v : Option Value} (hC : CR T1 N1 P1 I1 R1 x (fun _ => False) b 0 (fun _ => 0) (fun _ _ => 0)) (hm : (T1 m).1 = 0) (hq : miQ m (u1 T1 m (21, 0)) (uo N1 11 m 0) (uo P1 11 m none) I1 R1 v T3 N3 P3 I3 R3) : v = none ∧ ∃ ad, LB T3 N3 P3 I3 R3 x m ad b 0 (fun _ => 0) (fun _ _ => 0) := by
  obtain ⟨hv, rfl, rfl, ad, q1, q2, q3, q4⟩ := hq
  have ne : ∀ a, (T1 a).1 ≠ 0 → a ≠ m := fun a ha e => ha (by rw [e]; exact hm)
  have t1 : ∀ a, (T1 a).1 ≠ 0 → u1 T1 m (21, 0) a = T1 a := fun a ha => u1_na (ne a ha)
  have nm : ∀ a, (T1 a).1 ≠ 0 → ¬ Mnn m ad a := by
    rintro a ha (h | ⟨k, h1, h2, h3⟩)
    · exact ne a ha h
    · have := (q2 k h1 h2).2
      rw [← h3, t1 a ha] at this
      exact ha this
  refine ⟨hv, ad, ?_, q1, ?_, ?_, Inv0⟩
  · refine hC.fr (fun a ha => ((q3 a (by rw [t1 a ha]; exact ha)).1).trans (t1 a ha)) (fun c k a hc _ => ?_) (fun c k a hc _ => ?_) (fun a ha _ => (q3 a (by rw [t1 a ha]; exact ha)).2) (fun a _ => rfl) (fun i hi => nm _ ?_) (nm _ ?_)
    · simp [uo, hc]
    · rw [q4 c hc]; simp [uo, hc]
    · rw [(hC.2.2.1.2.1 i hi).1]; exact Nat.one_ne_zero
    · rw [hC.2.2.2.1.2.2.1]; decide
  · funext k
    unfold mf
    by_cases hk : k < 32
    · rw [if_pos hk]; simp [uo]
    · rw [if_neg hk]
  · funext k j
    unfold mr
    by_cases hk : k < 32 ∧ zr 11 k = true
    · rw [if_pos hk, (q2 k (by omega) hk.2).1]
    · rw [if_neg hk]
/-- the law from its entry -/
theorem L_start {E : zE} {nm : String} {K : zK E (yL nm) code 4 ret room_1} {Qf : State → Prop} {T : zT} {N : zN} {P : zP} {I : zI} {R : zR} {s0 L : Nat} {xs : Nat → Int32} (hX : zSc K s0 L xs) (hL : L ≤ 3072) (he : ∀ (T : zT) (N : zN) (P : zP) (I : zI) (R : zR) (kc ks : Nat) (a1 a2 a3 : Option Value), kc ≤ 600000 → ks ≤ 7302250 → V K Qf T N P I R kc ks 1208 [some (.ref s0), a1, a2, a3] []) : V K Qf T N P I R 0 0 0 [some (.ref s0), none, none, none] [] := by
  refine v_new (ci := 10) rfl (zle rfl) cl_10 tyX10_ok dv_10 kl_L_7 it_10 ii_10 (zle rfl) (zle rfl) dL_law_0 rfl (fun x hx => ?_)
  refine v_dup dL_law_3 rfl rfl ?_
  refine v_callI (c_X10_init x (congrArg Prod.fst u1_self)) yy_X10_init im_X10_init rfl lk_L_9 (zle rfl) (zle rfl) (zle rfl) (zle rfl) rfl rfl (zle rfl) dL_law_4 rfl (fun v T1 N1 P1 I1 R1 hq => ?_)
  obtain ⟨rfl, -, b, hC⟩ := hq
  refine v_astore_1 dL_law_7 rfl (zle rfl) rfl ?_
  refine v_new (ci := 11) rfl (zle rfl) cl_11 tyX11_ok dv_11 kl_L_10 it_11 ii_11 (zle rfl) (zle rfl) dL_law_8 rfl (fun m hm => ?_)
  refine v_dup dL_law_11 rfl rfl ?_
  refine v_callI (c_X11_init m (congrArg Prod.fst u1_self)) yy_X11_init im_X11_init rfl lk_L_12 (zle rfl) (zle rfl) (zle rfl) (zle rfl) rfl rfl (zle rfl) dL_law_12 rfl (fun v T3 N3 P3 I3 R3 hq => ?_)
  obtain ⟨rfl, ad, hS⟩ := LB0 hC hm hq
  refine v_astore_2 dL_law_15 rfl (zle rfl) rfl ?_
  refine v_iconst (v := 0) dL_law_16 rfl rfl ?_
  refine v_istore_3 dL_law_17 rfl (zle rfl) rfl ?_
  exact L_loop hX hL he 512 0 T3 N3 P3 I3 R3 b 0 _ _ _ _ rfl hS ⟨zle rfl, zle rfl⟩
