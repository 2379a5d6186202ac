/-! THE LAYER OVER THE KIT: a heap by kinds of cells, a judgement V that carries its context, contracts zC. -/
theorem in_t1 {w : Cond} (j : Nat) (h : tables_1_1[j]? = some w) : w ∈ lw_tbl := List.mem_append_right _ (List.mem_append_left _ (List.mem_of_getElem? h))
theorem in_t2 {w : Cond} (j : Nat) (h : tables_1_2[j]? = some w) : w ∈ lw_tbl := List.mem_append_right _ (List.mem_append_right _ (List.mem_append_left _ (List.mem_of_getElem? h)))
theorem in_t3 {w : Cond} (j : Nat) (h : tables_1_3[j]? = some w) : w ∈ lw_tbl := List.mem_append_right _ (List.mem_append_right _ (List.mem_append_right _ (List.mem_append_left _ (List.mem_of_getElem? h))))
theorem in_t4 {w : Cond} (j : Nat) (h : tables_1_4[j]? = some w) : w ∈ lw_tbl := List.mem_append_right _ (List.mem_append_right _ (List.mem_append_right _ (List.mem_append_right _ (List.mem_append_left _ (List.mem_of_getElem? h)))))
theorem in_t5 {w : Cond} (j : Nat) (h : tables_1_5[j]? = some w) : w ∈ lw_tbl := List.mem_append_right _ (List.mem_append_right _ (List.mem_append_right _ (List.mem_append_right _ (List.mem_append_right _ (List.mem_of_getElem? h)))))
theorem in_s {w : Cond} (j : Nat) (h : (k2_sels lw_privs)[j]? = some w) : w ∈ lw_tbl := List.mem_append_left _ (List.mem_of_getElem? h)
/-- the words that every state of the run keeps -/
def zOk : Cond → Bool
  | .fieldLinkNest _ _ _ _ _ _ => true
  | .methodLinkNest _ _ _ _ => true
  | .arrayOver (.object _) => true
  | .stringRef _ _ _ => false
  | w => goodWord w
abbrev zT : Type := Nat → Nat × Nat
abbrev zN : Type := Nat → Nat → Nat → Int32
abbrev zP : Type := Nat → Nat → Nat → Option Nat
abbrev zI : Type := Nat → Nat → Int32
abbrev zR : Type := Nat → Nat → Option Nat
def u1 {α : Type} (f : Nat → α) (a : Nat) (v : α) : Nat → α := fun b => if b = a then v else f b
def u2 {α : Type} (f : Nat → Nat → α) (a i : Nat) (v : α) : Nat → Nat → α := fun b j => if b = a ∧ j = i then v else f b j
def u3 {α : Type} (f : Nat → Nat → Nat → α) (c k a : Nat) (v : α) : Nat → Nat → Nat → α := fun c' k' b => if c' = c ∧ k' = k ∧ b = a then v else f c' k' b
def uo {α : Type} (f : Nat → Nat → Nat → α) (c a : Nat) (v : α) : Nat → Nat → Nat → α := fun c' k' b => if c' = c ∧ b = a then v else f c' k' b
/-- which fields are references -/
def zr : Nat → Nat → Bool
  | 0, 0 => true
  | 1, 0 => true
  | 1, 1 => true
  | 3, 0 => true
  | 4, 0 => true
  | 4, 1 => true
  | 4, 2 => true
  | 4, 3 => true
  | 4, 4 => true
  | 5, 1 => true
  | 6, 0 => true
  | 7, 0 => true
  | 7, 1 => true
  | 7, 2 => true
  | 8, 0 => true
  | 10, 0 => true
  | 10, 1 => true
  | 10, 2 => true
  | 10, 3 => true
  | 10, 4 => true
  | 10, 5 => true
  | 11, 0 => false
  | 11, 3 => false
  | 11, 9 => false
  | 11, 17 => false
  | 11, 18 => false
  | 11, 27 => false
  | 11, 31 => false
  | 11, 32 => false
  | 11, 33 => false
  | 11, 42 => false
  | 11, _ => true
  | _, _ => false
/-- how many fields -/
def zn : Nat → Nat
  | 0 => 3
  | 1 => 2
  | 2 => 5
  | 3 => 3
  | 4 => 8
  | 5 => 2
  | 6 => 2
  | 7 => 5
  | 8 => 9
  | 9 => 5
  | 10 => 10
  | 11 => 44
  | _ => 0
def zF (N : zN) (P : zP) (ci a : Nat) : List Value := (List.range (zn ci)).map fun k => if zr ci k = true then va_rf (P ci k a) else Value.int (N ci k a)
theorem zF_get {N : zN} {P : zP} {ci a k : Nat} (hk : k < zn ci) : (zF N P ci a)[k]? = some (if zr ci k = true then va_rf (P ci k a) else Value.int (N ci k a)) := by
  simp [zF, List.getElem?_map, List.getElem?_range hk]
theorem zF_len {N : zN} {P : zP} {ci a : Nat} : (zF N P ci a).length = zn ci := by simp [zF]
theorem zF_ext {N N' : zN} {P P' : zP} {ci a : Nat} (h : ∀ k, k < zn ci → (if zr ci k = true then va_rf (P ci k a) else Value.int (N ci k a)) = (if zr ci k = true then va_rf (P' ci k a) else Value.int (N' ci k a))) : zF N P ci a = zF N' P' ci a := by
  apply List.map_congr_left
  intro k hk
  exact h k (List.mem_range.mp hk)
theorem zF_setN {N : zN} {P : zP} {ci a k : Nat} {x : Int32} (hr : zr ci k = false) : (zF N P ci a).set k (.int x) = zF (u3 N ci k a x) P ci a := by
  apply List.ext_getElem?
  intro j
  by_cases hj : j < zn ci
  · by_cases hjk : j = k
    · subst hjk
      rw [List.getElem?_set_self (by rw [zF_len]; exact hj), zF_get hj]
      simp [hr, u3]
    · rw [List.getElem?_set_ne (Ne.symm hjk), zF_get hj, zF_get hj]
      simp [u3, hjk]
  · rw [List.getElem?_eq_none (by rw [List.length_set, zF_len]; omega), List.getElem?_eq_none (by rw [zF_len]; omega)]
theorem zF_setP {N : zN} {P : zP} {ci a k : Nat} {x : Option Nat} (hr : zr ci k = true) : (zF N P ci a).set k (va_rf x) = zF N (u3 P ci k a x) ci a := by
  apply List.ext_getElem?
  intro j
  by_cases hj : j < zn ci
  · by_cases hjk : j = k
    · subst hjk
      rw [List.getElem?_set_self (by rw [zF_len]; exact hj), zF_get hj]
      simp [hr, u3]
    · rw [List.getElem?_set_ne (Ne.symm hjk), zF_get hj, zF_get hj]
      simp [u3, hjk]
  · rw [List.getElem?_eq_none (by rw [List.length_set, zF_len]; omega), List.getElem?_eq_none (by rw [zF_len]; omega)]
theorem zF_neN {N : zN} {P : zP} {ci a k c b : Nat} {x : Int32} (h : b ≠ a) : zF (u3 N ci k a x) P c b = zF N P c b := zF_ext fun j _ => by simp [u3, h]
theorem zF_neP {N : zN} {P : zP} {ci a k c b : Nat} {x : Option Nat} (h : b ≠ a) : zF N (u3 P ci k a x) c b = zF N P c b := zF_ext fun j _ => by simp [u3, h]
theorem zF_new {N : zN} {P : zP} {ci a c b : Nat} (h : b ≠ a) : zF (uo N ci a 0) (uo P ci a none) c b = zF N P c b := zF_ext fun j _ => by simp [uo, h]
/-- tags: 0 no cell of ours; 1 int[], 2 boolean[], 3 byte[] (with its length); 10 + ci an object; 30 + ci an array of such -/
def zcell (kA : Nat → ClassId) (T : zT) (N : zN) (P : zP) (I : zI) (R : zR) (a : Nat) : Option va_E :=
  if (T a).1 = 0 then none
  else if (T a).1 < 10 then some (.inl (kA (T a).1, (T a).2, .inl (I a)))
  else if (T a).1 < 30 then some (.inr ((T a).1 - 10, zF N P ((T a).1 - 10) a))
  else some (.inl (kA (T a).1, (T a).2, .inr (.inr (.inr (.inr (R a))))))
/-- the run's constants: the tables' numbers, the arrays' classes, where our cells begin, the text constant and its bytes -/
abbrev zE : Type := va_G × (Nat → ClassId) × Nat × Nat × Nat
def zA (E : zE) : Nat → Prop := fun q => E.2.2.1 ≤ q
def zCov (E : zE) (T : zT) (N : zN) (P : zP) (I : zI) (R : zR) (ws : va_W) : Prop := ∀ (a : Nat) (e : va_E), zcell E.2.1 T N P I R a = some e → ∃ k : Nat, ws[k]? = some (a, e)
def zH (E : zE) (T : zT) (N : zN) (P : zP) (I : zI) (R : zR) (H : Heap) : Prop := ∃ ws : va_W, va_P E.1 vwCl ws H ∧ va_D (zA E) ws ∧ zCov E T N P I R ws
theorem zCov.set {E : zE} {T T' : zT} {N N' : zN} {P P' : zP} {I I' : zI} {R R' : zR} {ws : va_W} {k a : Nat} {e0 e : va_E} (h : zCov E T N P I R ws) (hk : ws[k]? = some (a, e0))
    (h1 : zcell E.2.1 T' N' P' I' R' a = some e) (h2 : ∀ b, b ≠ a → zcell E.2.1 T' N' P' I' R' b = zcell E.2.1 T N P I R b) : zCov E T' N' P' I' R' (ws.set k (a, e)) := by
  intro b e1 hb
  by_cases hba : b = a
  · subst hba
    rw [h1] at hb
    cases hb
    exact ⟨k, List.getElem?_set_self (List.getElem?_eq_some_iff.mp hk).1⟩
  · rw [h2 b hba] at hb
    obtain ⟨j, hj⟩ := h b e1 hb
    refine ⟨j, ?_⟩
    rw [List.getElem?_set_ne]
    · exact hj
    · intro e
      subst e
      rw [hk] at hj
      cases hj
      exact hba rfl
theorem zCov.push {E : zE} {T T' : zT} {N N' : zN} {P P' : zP} {I I' : zI} {R R' : zR} {ws : va_W} {q : Nat} {e : va_E} (h : zCov E T N P I R ws)
    (h1 : zcell E.2.1 T' N' P' I' R' q = some e) (h2 : ∀ b, b ≠ q → zcell E.2.1 T' N' P' I' R' b = zcell E.2.1 T N P I R b) : zCov E T' N' P' I' R' (ws ++ [(q, e)]) := by
  intro b e1 hb
  by_cases hba : b = q
  · subst hba
    rw [h1] at hb
    cases hb
    exact ⟨ws.length, by simp⟩
  · rw [h2 b hba] at hb
    obtain ⟨j, hj⟩ := h b e1 hb
    exact ⟨j, by rw [List.getElem?_append_left (List.getElem?_eq_some_iff.mp hj).1]; exact hj⟩
theorem zCov.fresh {E : zE} {T : zT} {N : zN} {P : zP} {I : zI} {R : zR} {ws : va_W} {A : Nat → Prop} {q : Nat} {e : va_E} (h : zCov E T N P I R ws) (hD : va_D A (ws ++ [(q, e)])) : (T q).1 = 0 := by
  by_cases h0 : (T q).1 = 0
  · exact h0
  · exfalso
    have : ∃ e', zcell E.2.1 T N P I R q = some e' := by
      unfold zcell
      rw [if_neg h0]
      split
      · exact ⟨_, rfl⟩
      · split <;> exact ⟨_, rfl⟩
    obtain ⟨e', he⟩ := this
    obtain ⟨j, hj⟩ := h q e' he
    have hl := (List.getElem?_eq_some_iff.mp hj).1
    have hij := hD.1 j ws.length (q, e') (q, e) (by rw [List.getElem?_append_left hl]; exact hj) (by simp) rfl
    omega
abbrev ztys (kA : Nat → ClassId) : List (ClassId × FieldType) := [(kA 1, .int), (kA 2, .boolean), (kA 3, .byte), (kA 30, .object RX0), (kA 32, .object RX2), (kA 35, .object RX5), (kA 38, .object RX8), (kA 39, .object RX9)]
/-- the text constant "pste", String's COMPACT_STRINGS -/
def zX (E : zE) (U : State) : Prop := vk_R RX3 62 "pste" E.2.2.2.1 U ∧ vk_S 1 [4] [[112, 115, 116, 101]] (fun _ => E.2.2.2.1) (fun _ => E.2.2.2.2) (zA E) U U.heap ∧ va_Z "java/lang/String" "COMPACT_STRINGS" "Z" (.int 1) (zA E) U U.heap ∧ va_Zq "jdk/internal/util/Preconditions" "SIOOBE_FORMATTER" "Ljava/util/function/BiFunction;" (zA E) U U.heap
def zW (E : zE) (U : State) : Prop := va_K E.1 vwCl (ztys E.2.1) U ∧ (∀ (A : Array Value) (w : Cond), w ∈ lw_tbl → zOk w = true → w.before A U = true) ∧ E.2.2.1 ≤ U.heap.size ∧ zX E U
theorem zword {w : Cond} (hg : zOk w = true) {s U : State} (hW : s.WarmedH U.vm) (h : ∀ A : Array Value, w.before A s = true) (A : Array Value) : w.before A U = true := by
  cases w with
  | fieldLinkNest a i b n d h9 => exact va_Nw.use rfl (va_Nw.warmF hW (va_Nw.of rfl (h #[])))
  | methodLinkNest a i x h9 => exact va_Nw.use rfl (va_Nw.warmM hW (va_Nw.of rfl (h #[])))
  | stringRef a b c => cases hg
  | arrayOver t =>
    cases t with
    | object C => exact va_AO.use (va_AO.moved hW.alike (va_AO.of (h #[])))
    | _ => exact word_at hW (good_of_word hg) (h #[])
  | _ => exact word_at hW (good_of_word hg) (h #[])
/-- a word of the tables says the same at every state of the same tables -/
theorem zsameG {w : Cond} (hg : goodWord w = true) {u U : State} (hv : u.vm = U.vm) {A A' : Array Value} (h : w.before A u = true) : w.before A' U = true := by
  rcases good_of_word hg with h1 | ⟨ty, rfl⟩
  · exact va_tabs (Bool.and_eq_true_iff.mp h1).1 hv h
  · simp only [Cond.before, Cond.holds, Cond.value, hv] at h ⊢
    exact h
theorem zsame {w : Cond} (hg : zOk w = true) {u U : State} (hv : u.vm = U.vm) {A A' : Array Value} (h : w.before A u = true) : w.before A' U = true := by
  cases w with
  | fieldLinkNest a i b n d h9 => exact va_tabs rfl hv h
  | methodLinkNest a i x h9 => exact va_tabs rfl hv h
  | stringRef a b c => cases hg
  | arrayOver t =>
    cases t with
    | object C => exact va_AO.use (va_AO.moved (hv ▸ Vm.Alike.refl _) (va_AO.of h))
    | _ => refine zsameG ?_ hv h; exact hg
  | _ => refine zsameG ?_ hv h; exact hg
theorem zW.move {E : zE} {s U : State} {locs : List Loc} (h : zW E s) (hW : s.WarmedH U.vm) (hS : va_S (zA E) s.heap U.heap locs) : zW E U :=
  ⟨va_K.moved hW.alike h.1, fun A w hw ho => zword ho hW (fun A => h.2.1 A w hw ho) A, Nat.le_trans h.2.2.1 hS.1, h.2.2.2.1.warm hW, (vk_S.moved hW.alike h.2.2.2.2.1).kept hS.2.1, (va_Z.moved hW.alike h.2.2.2.2.2.1).kept hS.2.1, (va_Zq.moved hW.alike h.2.2.2.2.2.2).kept hS.2.1⟩
/-- the machine at a method's body -/
abbrev zM : Type := Program × Launch × Env × Room × State × MethodId × Array Value × List Frame × Method × Code
abbrev zM.p (z : zM) : Program := z.1
abbrev zM.l (z : zM) : Launch := z.2.1
abbrev zM.e (z : zM) : Env := z.2.2.1
abbrev zM.R (z : zM) : Room := z.2.2.2.1
abbrev zM.s (z : zM) : State := z.2.2.2.2.1
abbrev zM.m (z : zM) : MethodId := z.2.2.2.2.2.1
abbrev zM.a (z : zM) : Array Value := z.2.2.2.2.2.2.1
abbrev zM.b (z : zM) : List Frame := z.2.2.2.2.2.2.2.1
abbrev zM.t (z : zM) : Method := z.2.2.2.2.2.2.2.2.1
abbrev zM.c (z : zM) : Code := z.2.2.2.2.2.2.2.2.2
def zK (E : zE) (y : MethodName) (cc : ByteArray) (nL : Nat) (ret : Option FieldType) (rm : Room) : Type :=
  { z : zM // z.p.tables.exec = Jvm.exec ∧ z.c.code = cc ∧ z.c.maxLocals = nL ∧ z.s.vm.findClass y.cls = some z.m.cls ∧ z.t.sig.returnType = ret ∧ z.t.locks = false ∧ z.t.name = y.name ∧ z.R = rm ∧ zW E z.s }
section zsec
variable {E : zE} {y : MethodName} {cc : ByteArray} {nL : Nat} {ret : Option FieldType} {rm : Room}
theorem zK.x (K : zK E y cc nL ret rm) : K.1.p.tables.exec = Jvm.exec := K.2.1
theorem zK.hb (K : zK E y cc nL ret rm) : K.1.c.code = cc := K.2.2.1
theorem zK.hm (K : zK E y cc nL ret rm) : K.1.c.maxLocals = nL := K.2.2.2.1
theorem zK.ho (K : zK E y cc nL ret rm) : K.1.s.vm.findClass y.cls = some K.1.m.cls := K.2.2.2.2.1
theorem zK.hr (K : zK E y cc nL ret rm) : K.1.t.sig.returnType = ret := K.2.2.2.2.2.1
theorem zK.hk (K : zK E y cc nL ret rm) : K.1.t.locks = false := K.2.2.2.2.2.2.1
theorem zK.hn (K : zK E y cc nL ret rm) : K.1.t.name = y.name := K.2.2.2.2.2.2.2.1
theorem zK.hR (K : zK E y cc nL ret rm) : K.1.R = rm := K.2.2.2.2.2.2.2.2.1
theorem zK.hw (K : zK E y cc nL ret rm) : zW E K.1.s := K.2.2.2.2.2.2.2.2.2
theorem zK.wd (K : zK E y cc nL ret rm) {w : Cond} (h : w ∈ lw_tbl) (ho : zOk w = true) : w.before K.1.a K.1.s = true := K.hw.2.1 _ w h ho
theorem zK.kk (K : zK E y cc nL ret rm) : va_K E.1 vwCl (ztys E.2.1) K.1.s := K.hw.1
theorem zK.aa (K : zK E y cc nL ret rm) : ∀ q, K.1.s.heap.size ≤ q → zA E q := fun _ h => Nat.le_trans K.hw.2.2.1 h
def zL (LS : Array Slot) (nL : Nat) (ls : List (Option Value)) : Prop := LS.size = nL ∧ lv_wf LS ∧ ∀ (k : Nat) (v : Value), ls[k]? = some (some v) → LS[k]? = some (.val v)
/-- the judgement: from here, over the heap (T, N, P, I, R), with kc cells of ks slots made, the machine comes to Qf -/
def V (K : zK E y cc nL ret rm) (Qf : State → Prop) (T : zT) (N : zN) (P : zP) (I : zI) (R : zR) (kc ks pc : Nat) (ls : List (Option Value)) (st : List Value) : Prop :=
  ∀ (H : Heap) (locs : List Loc) (LS : Array Slot), zH E T N P I R H → va_S (zA E) K.1.s.heap H locs → zL LS nL ls →
    W K.1.p K.1.l K.1.e K.1.R K.1.s K.1.m K.1.a K.1.b K.1.t K.1.c H locs kc ks Qf (F0 K.1.m pc LS st)
/-- a contract's end -/
def zQ (E : zE) (Q : Option Value → zT → zN → zP → zI → zR → Prop) : Array Value → State → Outcome → State → Prop := fun _ st oc t =>
  (∃ (v : Option Value) (T : zT) (N : zN) (P : zP) (I : zI) (R : zR), oc = .returned v ∧ Q v T N P I R ∧ zH E T N P I R t.heap) ∧ va_F (zA E) st t
/-- a contract -/
def zC (E : zE) (y : MethodName) (cc : ByteArray) (nL : Nat) (ret : Option FieldType) (rm : Room) (As : List Value) (T : zT) (N : zN) (P : zP) (I : zI) (R : zR) (Q : Option Value → zT → zN → zP → zI → zR → Prop) : Prop :=
  ∀ l : Launch, Met l y [Cond.code y cc nL ret] rm (va_Pc As (fun U => zH E T N P I R U.heap ∧ zW E U)) (zQ E Q) rm.cells rm.slots (zA E)
def zQf (K : zK E y cc nL ret rm) (Q : Option Value → zT → zN → zP → zI → zR → Prop) : State → Prop := MQ K.1.b (zQ E Q) K.1.a K.1.s rm.cells rm.slots (zA E)
/-- the locals at a method's entry -/
def zarg : List Value → List (Option Value)
  | [] => []
  | v :: vs => if v.category = 2 then some v :: none :: zarg vs else some v :: zarg vs
theorem zarg_in : ∀ (vs : List Value) (i k : Nat) (v : Value), (zarg vs)[k]? = some (some v) → (i + k, v) ∈ lv_args i vs
  | [], i, k, v, h => by simp [zarg] at h
  | w :: vs, i, k, v, h => by
    unfold zarg at h
    unfold lv_args
    by_cases hc : w.category = 2
    · rw [if_pos hc] at h
      rw [if_pos hc]
      match k, h with
      | 0, h => cases h; exact List.mem_cons_self
      | 1, h => simp at h
      | k + 2, h =>
        have := zarg_in vs (i + 2) k v (by simpa using h)
        exact List.mem_cons_of_mem _ (by rw [show i + (k + 2) = i + 2 + k by omega]; exact this)
    · rw [if_neg hc] at h
      rw [if_neg hc]
      match k, h with
      | 0, h => cases h; exact List.mem_cons_self
      | k + 1, h =>
        have := zarg_in vs (i + 1) k v (by simpa using h)
        exact List.mem_cons_of_mem _ (by rw [show i + (k + 1) = i + 1 + k by omega]; exact this)
theorem zL_entry {vs : List Value} {n j : Nat} {LS : Array Slot} (h : lv_has LS n (lv_args 0 vs)) : zL LS n (zarg vs ++ List.replicate j none) := by
  refine ⟨h.1, h.2.1, fun k v hk => ?_⟩
  by_cases hl : k < (zarg vs).length
  · rw [List.getElem?_append_left hl] at hk
    have := zarg_in vs 0 k v hk
    rw [Nat.zero_add] at this
    exact h.2.2 _ this
  · rw [List.getElem?_append_right (by omega)] at hk
    simp [List.getElem?_replicate] at hk
theorem zC.intro {As : List Value} {T : zT} {N : zN} {P : zP} {I : zI} {R : zR} {Q : Option Value → zT → zN → zP → zI → zR → Prop} (hy : plainName y.cls = true) (hle : (lg_sl As).length ≤ nL) (j : Nat) {ls : List (Option Value)} (hls : zarg As ++ List.replicate j none = ls)
    (h : ∀ K : zK E y cc nL ret rm, V K (zQf K Q) T N P I R 0 0 0 ls []) : zC E y cc nL ret rm As T N P I R Q := by
  intro l
  refine Met.ofW (cc := cc) (maxL := nL) (ret := ret) hy rfl ?_
  intro p e s m args below meth c s₁ B hml hv
  obtain ⟨rfl, hH, hZ⟩ := hv
  have hown : s.vm.findClass y.cls = some m.cls := findClass_of_methodNamed B.named
  have hin := (name_of_methodNamed B.named B.method).1
  rw [lg_entry_eq]
  exact h ⟨(p, l, e, rm, s, m, As.toArray, below, meth, c), B.exec, B.bytes, hml, hown, B.returns, B.notSynchronized, hin, rfl, hZ⟩ s.heap [] _ hH va_S.rf (hls ▸ zL_entry (lv_entry As hle))
end zsec
