/-! returns and calls -/
/-- what is known of a method: its code, its class, how many parameters -/
def zY (y : MethodName) (cc : ByteArray) (nL : Nat) (ret : Option FieldType) (np : Nat) : Prop := Cond.code y cc nL ret ∈ lw_tbl ∧ Cond.initialized y.cls ∈ lw_tbl ∧ (y.cls ≠ "java/lang/invoke/MethodHandle" ∧ y.cls ≠ "java/lang/invoke/VarHandle") ∧ (parseMethodDescriptor y.desc).map (fun d => d.parameters.length) = some np
/-- how a class links it -/
def zLk (own : String) (idx : Nat) (y : MethodName) : Prop := Cond.methodLink own idx y ∈ lw_tbl ∨ ∃ host : String, Cond.methodLinkNest own idx y host ∈ lw_tbl
theorem zY.len {y : MethodName} {np : Nat} (h : (parseMethodDescriptor y.desc).map (fun d => d.parameters.length) = some np) : ∀ sig, parseMethodDescriptor y.desc = some sig → np = sig.parameters.length := by
  intro sig hs
  rw [hs] at h
  exact (Option.some.inj h).symm
section zcall
variable {E : zE} {y : MethodName} {cc : ByteArray} {nL : Nat} {ret : Option FieldType} {rm : Room} {K : zK E y cc nL ret rm} {Qf : State → Prop} {T : zT} {N : zN} {P : zP} {I : zI} {R : zR} {kc ks pc n : Nat} {ls : List (Option Value)} {st : List Value}
variable {y2 : MethodName} {cc2 : ByteArray} {nL2 idx np : Nat} {ret2 : Option FieldType} {rm2 : Room} {As : List Value} {Q : Option Value → zT → zN → zP → zI → zR → Prop}
theorem v_ireturn {x : Int32} (hr : ret = some .int) (hq : Q (some (.int x)) T N P I R) (hc : kc ≤ rm.cells) (hs : ks ≤ rm.slots) (d : decode cc pc = .ok (.ireturn, 1)) : V K (zQf K Q) T N P I R kc ks pc ls [.int x] :=
  fun _ _ _ h1 h2 _ => W.widen hc hs (W.iret K.x K.hb (K.hr.trans hr) (fun t ht _ => ⟨⟨_, T, N, P, I, R, rfl, hq, by rw [ht]; exact h1⟩, h2.F ht⟩) h2.2.2 d K.hk)
theorem v_zreturn {x : Int32} {ty : FieldType} (hr : ret = some ty) (hx : narrow ty (.int x) = .int x) (hq : Q (some (.int x)) T N P I R) (hc : kc ≤ rm.cells) (hs : ks ≤ rm.slots) (d : decode cc pc = .ok (.ireturn, 1)) : V K (zQf K Q) T N P I R kc ks pc ls [.int x] :=
  fun _ _ _ h1 h2 _ => W.widen hc hs (W.zret K.x K.hb (K.hr.trans hr) hx (fun t ht _ => ⟨⟨_, T, N, P, I, R, rfl, hq, by rw [ht]; exact h1⟩, h2.F ht⟩) h2.2.2 d K.hk)
theorem v_return (hr : ret = none) (hq : Q none T N P I R) (hc : kc ≤ rm.cells) (hs : ks ≤ rm.slots) (d : decode cc pc = .ok (.return_, 1)) : V K (zQf K Q) T N P I R kc ks pc ls [] :=
  fun _ _ _ h1 h2 _ => W.widen hc hs (W.vret K.x K.hb (K.hr.trans hr) (fun t ht _ => ⟨⟨_, T, N, P, I, R, rfl, hq, by rw [ht]; exact h1⟩, h2.F ht⟩) h2.2.2 d K.hk)
theorem v_areturn {v : Value} {rt : FieldType} (hr : ret = some rt) (hrt : (∃ c, rt = .object c) ∨ ∃ t, rt = .array t) (hv : v = .null ∨ ∃ a, v = .ref a) (hq : Q (some v) T N P I R) (hc : kc ≤ rm.cells) (hs : ks ≤ rm.slots) (d : decode cc pc = .ok (.areturn, 1)) : V K (zQf K Q) T N P I R kc ks pc ls [v] :=
  fun _ _ _ h1 h2 _ => W.widen hc hs (W.aret K.x K.hb (K.hr.trans hr) hrt hv (fun t ht _ => ⟨⟨_, T, N, P, I, R, rfl, hq, by rw [ht]; exact h1⟩, h2.F ht⟩) h2.2.2 d K.hk)
theorem v_lreturn {x : Int64} (hr : ret = some .long) (hq : Q (some (.long x)) T N P I R) (hc : kc ≤ rm.cells) (hs : ks ≤ rm.slots) (d : decode cc pc = .ok (.lreturn, 1)) : V K (zQf K Q) T N P I R kc ks pc ls [.long x] :=
  fun _ _ _ h1 h2 _ => W.widen hc hs (W.lret K.x K.hb (K.hr.trans hr) (fun t ht _ => ⟨⟨_, T, N, P, I, R, rfl, hq, by rw [ht]; exact h1⟩, h2.F ht⟩) h2.2.2 d K.hk)
/-- fewer cells said -/
theorem v_widen {k1 s1 : Nat} (h1 : kc ≤ k1) (h2 : ks ≤ s1) (k : V K Qf T N P I R k1 s1 pc ls st) : V K Qf T N P I R kc ks pc ls st := fun H locs LS g1 g2 g3 => W.widen h1 h2 (k H locs LS g1 g2 g3)
theorem zblind : FrameBlind (va_Pc As (fun U => zH E T N P I R U.heap ∧ zW E U)) := fun a U g mk h => ⟨h.1, h.2.1, by
  obtain ⟨h1, h2, h3, h4, h5, h6, h7⟩ := h.2.2
  refine ⟨va_K.moved (u := U) (U := U.calling g mk a) (Vm.Alike.refl U.vm) h1, fun A w hw ho => ?_, h3, vk_R.same rfl h4, vk_S.moved (Vm.Alike.refl U.vm) h5, va_Z.moved (Vm.Alike.refl U.vm) h6, va_Zq.moved (Vm.Alike.refl U.vm) h7⟩
  have := h2 A w hw ho
  exact zsame (u := U) (U := U.calling g mk a) ho rfl this⟩
/-- behind a call -/
theorem z_cont {p : Program} {l : Launch} {e : Env} {R0 : Room} {s : State} {m : MethodId} {args : Array Value} {below : List Frame} {meth : Method} {c : Code} {H H0 : Heap} {locs : List Loc} {cells slots mc ms : Nat} {LS : Array Slot} {st0 rest : List Value} {a : Array Value}
    (hr : va_Run p l e R0 s m args below meth c H locs cells slots mc ms (F0 m pc LS st0) rest (zQ E Q a) (zA E)) (hS : va_S (zA E) H0 H locs)
    (kk : ∀ (v : Option Value) (T : zT) (N : zN) (P : zP) (I : zI) (R : zR), Q v T N P I R → ∀ (H1 : Heap) (locs1 : List Loc), zH E T N P I R H1 → va_S (zA E) H0 H1 locs1 → W p l e R0 s m args below meth c H1 locs1 (cells + mc) (slots + ms) Qf (F0 m (pc + 3) LS (v.toList ++ rest))) : W p l e R0 s m args below meth c H locs cells slots Qf (F0 m pc LS st0) := by
  intro U hU X
  obtain ⟨v, st₀, t, T', L, h0, X', hL, e1, e2, ⟨⟨r, T, N, P, I, R, hv, hp, hb⟩, hz, hk⟩, st⟩ := hr U hU X
  cases hv
  rw [h0] at hz hk
  obtain ⟨t2, a1, b1⟩ := kk v T N P I R hp T'.heap (locs ++ L) (by rw [e1]; exact hb)
    ⟨Nat.le_trans hS.1 (by rw [e1]; exact hz), fun q h1 h2 => by rw [e1, hk q (Nat.lt_of_lt_of_le h1 hS.1) h2]; exact hS.2.1 q h1 h2, fun q hq => by
      rcases List.mem_append.mp hq with h | h
      · exact hS.2.2 q h
      · exact hL q h⟩ T' rfl X'
  exact ⟨t2, st t2 a1, b1⟩
theorem zK.callB (K : zK E y cc nL ret rm) (hy : zY y2 cc2 nL2 ret2 np) (hl : Cond.methodLink y.cls idx y2 ∈ lw_tbl) (hfr : rm2.frames + 1 ≤ rm.frames) (hlo : 8 + (nL2 + 11) + rm2.locals ≤ rm.locals) : CallB K.1.R K.1.s K.1.a y.cls idx y2 cc2 nL2 ret2 [Cond.code y2 cc2 nL2 ret2] rm2 rm2.cells rm2.slots np := by
  obtain ⟨g1, g2, g3, g4⟩ := hy
  refine ⟨rfl, rfl, by rw [K.hR]; exact hfr, by rw [K.hR]; exact hlo, fun w hw a' U hW => ?_, List.mem_cons_self, K.wd g1 rfl, K.wd g2 rfl, g3, zY.len g4, K.wd hl rfl⟩
  rw [List.mem_singleton] at hw
  subst hw
  exact word_at hW (Or.inl rfl) (K.wd g1 rfl)
theorem zK.callN (K : zK E y cc nL ret rm) {host : String} (hy : zY y2 cc2 nL2 ret2 np) (hl : Cond.methodLinkNest y.cls idx y2 host ∈ lw_tbl) (hfr : rm2.frames + 1 ≤ rm.frames) (hlo : 8 + (nL2 + 11) + rm2.locals ≤ rm.locals) : va_CN K.1.R K.1.s K.1.a y.cls idx y2 host cc2 nL2 ret2 [Cond.code y2 cc2 nL2 ret2] rm2 rm2.cells rm2.slots np := by
  obtain ⟨g1, g2, g3, g4⟩ := hy
  refine ⟨⟨rfl, rfl, by rw [K.hR]; exact hfr, by rw [K.hR]; exact hlo, fun w hw a' U hW => ?_, List.mem_cons_self⟩, K.wd g1 rfl, K.wd g2 rfl, g3, zY.len g4, K.wd hl rfl⟩
  rw [List.mem_singleton] at hw
  subst hw
  exact word_at hW (Or.inl rfl) (K.wd g1 rfl)
theorem zK.fix (K : zK E y cc nL ret rm) : CallFix K.1.p K.1.m K.1.c cc nL K.1.s K.1.a [] y.cls := ⟨K.x, K.hb, K.hm, K.ho, fun _ h => by cases h⟩
theorem zK.pre (K : zK E y cc nL ret rm) {H : Heap} {locs : List Loc} (h1 : zH E T N P I R H) (h2 : va_S (zA E) K.1.s.heap H locs) (U : State) (hU : U.heap = H) (hW : K.1.s.WarmedH U.vm) : va_Pc As (fun U => zH E T N P I R U.heap ∧ zW E U) As.toArray U :=
  ⟨rfl, by rw [hU]; exact h1, K.hw.move hW (by rw [hU]; exact h2)⟩
theorem v_callS (hC : zC E y2 cc2 nL2 ret2 rm2 As T N P I R Q) (hy : zY y2 cc2 nL2 ret2 np) (hs : Cond.static y2 ∈ lw_tbl) (hl : zLk y.cls idx y2) (hfr : rm2.frames + 1 ≤ rm.frames) (hlo : 8 + (nL2 + 11) + rm2.locals ≤ rm.locals) (hcc : kc + rm2.cells ≤ rm.cells) (hss : ks + rm2.slots ≤ rm.slots)
    (hnp : As.length = np) {st0 : List Value} (hst : st0 = As.reverse ++ st) (hcat : (st.map fun v => v.category).sum ≤ 8) (d : decode cc pc = .ok (.invokestatic idx, 3)) (hn : pc + 3 = n)
    (kk : ∀ (v : Option Value) (T : zT) (N : zN) (P : zP) (I : zI) (R : zR), Q v T N P I R → V K Qf T N P I R (kc + rm2.cells) (ks + rm2.slots) n ls (v.toList ++ st)) : V K Qf T N P I R kc ks pc ls st0 := by
  subst hn
  intro H locs LS h1 h2 h3
  have hf : kc + rm2.cells ≤ K.1.R.cells ∧ ks + rm2.slots ≤ K.1.R.slots := by rw [K.hR]; exact ⟨hcc, hss⟩
  rcases hl with hl | ⟨host, hl⟩
  · exact z_cont (va_runS K.fix (hC K.1.l) ⟨K.callB hy hl hfr hlo, K.wd hs rfl⟩ ⟨zblind, K.pre h1 h2⟩ rfl hnp h3.1 hst (lv_room hcat) d hf) h2 (fun v T N P I R hq H1 locs1 g1 g2 => kk v T N P I R hq H1 locs1 LS g1 g2 h3)
  · exact z_cont (va_runSN K.fix (hC K.1.l) ⟨K.callN hy hl hfr hlo, K.wd hs rfl, trivial⟩ ⟨zblind, K.pre h1 h2⟩ rfl hnp h3.1 hst (lv_room hcat) d hf) h2 (fun v T N P I R hq H1 locs1 g1 g2 => kk v T N P I R hq H1 locs1 LS g1 g2 h3)
theorem v_callV {ci a : Nat} {F : u_T} (hC : zC E y2 cc2 nL2 ret2 rm2 (.ref a :: As) T N P I R Q) (hy : zY y2 cc2 nL2 ret2 np) (hin : Cond.instanceMethod y2 ∈ lw_tbl) (hse : Cond.selects y2.cls y2 y2 ∈ lw_tbl) (hl : zLk y.cls idx y2) (hT : (T a).1 = 10 + ci) (hci : ci < 20) (hcl : vwCl[ci]? = some (y2.cls, F, zn ci)) (hfr : rm2.frames + 1 ≤ rm.frames) (hlo : 8 + (nL2 + 11) + rm2.locals ≤ rm.locals) (hcc : kc + rm2.cells ≤ rm.cells) (hss : ks + rm2.slots ≤ rm.slots)
    (hnp : As.length = np) {st0 : List Value} (hst : st0 = As.reverse ++ .ref a :: st) (hcat : (st.map fun v => v.category).sum ≤ 8) (d : decode cc pc = .ok (.invokevirtual idx, 3)) (hn : pc + 3 = n)
    (kk : ∀ (v : Option Value) (T : zT) (N : zN) (P : zP) (I : zI) (R : zR), Q v T N P I R → V K Qf T N P I R (kc + rm2.cells) (ks + rm2.slots) n ls (v.toList ++ st)) : V K Qf T N P I R kc ks pc ls st0 := by
  subst hn
  intro H locs LS h1 h2 h3
  obtain ⟨ws, g1, g2, g3⟩ := id h1
  obtain ⟨q, hq⟩ := g3 a _ (zcell_obj hT hci)
  have hrc := va_recv K.kk g1 hcl hq
  have hf : kc + rm2.cells ≤ K.1.R.cells ∧ ks + rm2.slots ≤ K.1.R.slots := by rw [K.hR]; exact ⟨hcc, hss⟩
  rcases hl with hl | ⟨host, hl⟩
  · exact z_cont (va_runV K.fix (hC K.1.l) ⟨K.callB hy hl hfr hlo, K.wd hin rfl, K.wd hse rfl⟩ ⟨zblind, hrc, K.pre h1 h2⟩ rfl hnp h3.1 hst (lv_room hcat) d hf) h2 (fun v T N P I R hq H1 locs1 g1 g2 => kk v T N P I R hq H1 locs1 LS g1 g2 h3)
  · exact z_cont (va_runVN K.fix (hC K.1.l) ⟨K.callN hy hl hfr hlo, K.wd hin rfl, K.wd hse rfl⟩ ⟨zblind, hrc, K.pre h1 h2⟩ rfl hnp h3.1 hst (lv_room hcat) d hf) h2 (fun v T N P I R hq H1 locs1 g1 g2 => kk v T N P I R hq H1 locs1 LS g1 g2 h3)
theorem v_callI {a : Nat} (hC : zC E y2 cc2 nL2 none rm2 (.ref a :: As) T N P I R Q) (hy : zY y2 cc2 nL2 none np) (hin : Cond.instanceMethod y2 ∈ lw_tbl) (hnm : y2.name = "<init>") (hl : zLk y.cls idx y2) (hfr : rm2.frames + 1 ≤ rm.frames) (hlo : 8 + (nL2 + 11) + rm2.locals ≤ rm.locals) (hcc : kc + rm2.cells ≤ rm.cells) (hss : ks + rm2.slots ≤ rm.slots)
    (hnp : As.length = np) {st0 : List Value} (hst : st0 = As.reverse ++ .ref a :: st) (hcat : (st.map fun v => v.category).sum ≤ 8) (d : decode cc pc = .ok (.invokespecial idx, 3)) (hn : pc + 3 = n)
    (kk : ∀ (v : Option Value) (T : zT) (N : zN) (P : zP) (I : zI) (R : zR), Q v T N P I R → V K Qf T N P I R (kc + rm2.cells) (ks + rm2.slots) n ls (v.toList ++ st)) : V K Qf T N P I R kc ks pc ls st0 := by
  subst hn
  intro H locs LS h1 h2 h3
  have hf : kc + rm2.cells ≤ K.1.R.cells ∧ ks + rm2.slots ≤ K.1.R.slots := by rw [K.hR]; exact ⟨hcc, hss⟩
  rcases hl with hl | ⟨host, hl⟩
  · exact z_cont (va_runI K.fix (hC K.1.l) ⟨K.callB hy hl hfr hlo, hnm, K.wd hin rfl⟩ ⟨zblind, K.pre h1 h2⟩ rfl hnp h3.1 hst (lv_room hcat) d hf) h2 (fun v T N P I R hq H1 locs1 g1 g2 => kk v T N P I R hq H1 locs1 LS g1 g2 h3)
  · exact z_cont (va_runIN K.fix (hC K.1.l) ⟨K.callN hy hl hfr hlo, hnm, K.wd hin rfl⟩ ⟨zblind, K.pre h1 h2⟩ rfl hnp h3.1 hst (lv_room hcat) d hf) h2 (fun v T N P I R hq H1 locs1 g1 g2 => kk v T N P I R hq H1 locs1 LS g1 g2 h3)
theorem v_objInit {a : Nat} (hl : Cond.methodLink y.cls idx objectInit ∈ lw_tbl) (hin : Cond.instanceMethod objectInit ∈ lw_tbl) (hc : Cond.code objectInit ⟨#[0xb1]⟩ 1 none ∈ lw_tbl) (hfr : 1 ≤ rm.frames) (hlo : (st.map fun v => v.category).sum + 12 ≤ rm.locals) (d : decode cc pc = .ok (.invokespecial idx, 3)) (hn : pc + 3 = n) (kk : V K Qf T N P I R kc ks n ls st) : V K Qf T N P I R kc ks pc ls (.ref a :: st) := by
  subst hn
  intro H locs LS h1 h2 h3
  exact W.objInit K.x K.hb K.ho (K.wd hl rfl) (K.wd hin rfl) (K.wd hc rfl) rfl (h3.1.trans K.hm.symm) rfl d (by rw [K.hR]; exact hfr) (by rw [K.hR]; show 2 * 0 + _ + 12 ≤ _; omega) (kk H locs LS h1 h2 h3)
theorem v_min {a b : Int32} (hl : Cond.methodLink y.cls idx Lib.Math.min.name ∈ lw_tbl) (hst : Cond.static Lib.Math.min.name ∈ lw_tbl) (hini : Cond.initialized "java/lang/Math" ∈ lw_tbl) (hc : Cond.code Lib.Math.min.name Lib.Math.min.code 2 (some .int) ∈ lw_tbl) (hfr : 1 ≤ rm.frames) (hlo : (st.map fun v => v.category).sum + 13 ≤ rm.locals) (hkc : kc ≤ rm.cells) (hks : ks ≤ rm.slots) (d : decode cc pc = .ok (.invokestatic idx, 3)) (hn : pc + 3 = n)
    (kk : V K Qf T N P I R kc ks n ls (.int (if b < a then b else a) :: st)) : V K Qf T N P I R kc ks pc ls (.int b :: .int a :: st) := by
  subst hn
  intro H locs LS h1 h2 h3
  exact va_mmin K.x K.hb (K.hm.trans h3.1.symm) K.ho (K.wd hl rfl) (K.wd hst rfl) (K.wd hini rfl) (K.wd hc rfl) (by rw [K.hR]; exact hfr) (by rw [K.hR]; exact hlo) (by rw [K.hR]; exact hkc) (by rw [K.hR]; exact hks) d (kk H locs LS h1 h2 h3)
theorem v_max {a b : Int32} (hl : Cond.methodLink y.cls idx Lib.Math.max.name ∈ lw_tbl) (hst : Cond.static Lib.Math.max.name ∈ lw_tbl) (hini : Cond.initialized "java/lang/Math" ∈ lw_tbl) (hc : Cond.code Lib.Math.max.name Lib.Math.max.code 2 (some .int) ∈ lw_tbl) (hfr : 1 ≤ rm.frames) (hlo : (st.map fun v => v.category).sum + 13 ≤ rm.locals) (hkc : kc ≤ rm.cells) (hks : ks ≤ rm.slots) (d : decode cc pc = .ok (.invokestatic idx, 3)) (hn : pc + 3 = n)
    (kk : V K Qf T N P I R kc ks n ls (.int (if a < b then b else a) :: st)) : V K Qf T N P I R kc ks pc ls (.int b :: .int a :: st) := by
  subst hn
  intro H locs LS h1 h2 h3
  exact va_mmax K.x K.hb (K.hm.trans h3.1.symm) K.ho (K.wd hl rfl) (K.wd hst rfl) (K.wd hini rfl) (K.wd hc rfl) (by rw [K.hR]; exact hfr) (by rw [K.hR]; exact hlo) (by rw [K.hR]; exact hkc) (by rw [K.hR]; exact hks) d (kk H locs LS h1 h2 h3)
/-- a contract of a method that only answers -/
def zp (r : Int32) (T : zT) (N : zN) (P : zP) (I : zI) (R : zR) : Option Value → zT → zN → zP → zI → zR → Prop := fun v T' N' P' I' R' => v = some (.int r) ∧ T' = T ∧ N' = N ∧ P' = P ∧ I' = I ∧ R' = R
theorem zp.use {r : Int32} {T : zT} {N : zN} {P : zP} {I : zI} {R : zR} {X : Option Value → zT → zN → zP → zI → zR → Prop} (h : X (some (.int r)) T N P I R) : ∀ (v : Option Value) (T' : zT) (N' : zN) (P' : zP) (I' : zI) (R' : zR), zp r T N P I R v T' N' P' I' R' → X v T' N' P' I' R' := by
  rintro v T' N' P' I' R' ⟨rfl, rfl, rfl, rfl, rfl, rfl⟩
  exact h
theorem zp.rf {r : Int32} {T : zT} {N : zN} {P : zP} {I : zI} {R : zR} : zp r T N P I R (some (.int r)) T N P I R := ⟨rfl, rfl, rfl, rfl, rfl, rfl⟩
end zcall
