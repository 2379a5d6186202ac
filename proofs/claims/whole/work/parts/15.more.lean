/-! more rules: truth values, decided branches, short forms -/
theorem zle {a b : Nat} (h : Nat.ble a b = true) : a ≤ b := Nat.le_of_ble_eq_true h
abbrev zr0 (f lo : Nat) : Room := { frames := f, cells := 0, slots := 0, locals := lo }
abbrev zrm (f lo c s : Nat) : Room := { frames := f, cells := c, slots := s, locals := lo }
/-- a truth value as the machine has it -/
noncomputable def zb (p : Prop) : Int32 := @ite Int32 p (Classical.propDecidable p) 1 0
theorem zb_t {p : Prop} (h : p) : zb p = 1 := by unfold zb; rw [if_pos h]
theorem zb_f {p : Prop} (h : ¬ p) : zb p = 0 := by unfold zb; rw [if_neg h]
theorem zb_0 {p : Prop} : zb p = 0 ↔ ¬ p := by
  by_cases h : p
  · rw [zb_t h]; exact ⟨fun e => absurd e (by decide), fun e => absurd h e⟩
  · rw [zb_f h]; exact ⟨fun _ => h, fun _ => rfl⟩
theorem zb_n0 {p : Prop} : ¬ zb p = 0 ↔ p := by rw [zb_0]; exact Classical.not_not
theorem zb_1 {p : Prop} : zb p = 1 ↔ p := by
  by_cases h : p
  · rw [zb_t h]; exact ⟨fun _ => h, fun _ => rfl⟩
  · rw [zb_f h]; exact ⟨fun e => absurd e (by decide), fun e => absurd e h⟩
theorem zb_iff {p q : Prop} (h : p ↔ q) : zb p = zb q := by rw [propext h]
theorem zb_nar (p : Prop) : narrow .boolean (.int (zb p)) = .int (zb p) := by
  by_cases h : p
  · rw [zb_t h]; rfl
  · rw [zb_f h]; rfl
theorem zb_fit (p : Prop) : fits .boolean (.int (zb p)) = true := by
  by_cases h : p
  · rw [zb_t h]; rfl
  · rw [zb_f h]; rfl
theorem zb_vp (p : Prop) : vp_nar .boolean (zb p) = zb p := by
  by_cases h : p
  · rw [zb_t h]; rfl
  · rw [zb_f h]; rfl
theorem zb_of {x : Int32} (h : x = 0 ∨ x = 1) : x = zb (x = 1) := by
  rcases h with rfl | rfl
  · rw [zb_f (by decide)]
  · rw [zb_t rfl]
section zmore
variable {E : zE} {y : MethodName} {cc : ByteArray} {nL : Nat} {ret : Option FieldType} {rm : Room} {K : zK E y cc nL ret rm} {Qf : State → Prop} {T : zT} {N : zN} {P : zP} {I : zI} {R : zR} {kc ks pc n : Nat} {ls : List (Option Value)} {st : List Value}
/-- branches over a truth value -/
theorem v_ifz_eq {p : Prop} {off : Int} {tgt : Nat} (d : decode cc pc = .ok (.ifCond .eq off, 3)) (ht : (pc : Int) + off = (tgt : Int)) (hn : pc + 3 = n) (kt : ¬ p → V K Qf T N P I R kc ks tgt ls st) (kf : p → V K Qf T N P I R kc ks n ls st) : V K Qf T N P I R kc ks pc ls (.int (zb p) :: st) :=
  v_if_eq d ht hn (fun h => kt (zb_0.mp h)) (fun h => kf (zb_n0.mp h))
theorem v_ifz_ne {p : Prop} {off : Int} {tgt : Nat} (d : decode cc pc = .ok (.ifCond .ne off, 3)) (ht : (pc : Int) + off = (tgt : Int)) (hn : pc + 3 = n) (kt : p → V K Qf T N P I R kc ks tgt ls st) (kf : ¬ p → V K Qf T N P I R kc ks n ls st) : V K Qf T N P I R kc ks pc ls (.int (zb p) :: st) :=
  v_if_ne d ht hn (fun h => kt (zb_n0.mp h)) (fun h => kf (zb_0.mp h))
/-- the top of the stack under another name -/
theorem v_top {a b : Int32} (h : a = b) (k : V K Qf T N P I R kc ks pc ls (.int b :: st)) : V K Qf T N P I R kc ks pc ls (.int a :: st) := h ▸ k
theorem v_top2 {a b : Int32} {v : Value} (h : a = b) (k : V K Qf T N P I R kc ks pc ls (v :: .int b :: st)) : V K Qf T N P I R kc ks pc ls (v :: .int a :: st) := h ▸ k
theorem v_heap {T' : zT} {N' : zN} {P' : zP} {I' : zI} {R' : zR} (hT : T = T') (hN : N = N') (hP : P = P') (hI : I = I') (hR : R = R') (k : V K Qf T' N' P' I' R' kc ks pc ls st) : V K Qf T N P I R kc ks pc ls st := by
  subst hT; subst hN; subst hP; subst hI; subst hR; exact k
/-- a truth value comes back -/
theorem v_zret0 {Q : Option Value → zT → zN → zP → zI → zR → Prop} {x : Int32} (hr : ret = some .boolean) (hx : x = 0 ∨ x = 1) (hq : Q (some (.int x)) T N P I R) (hc : kc ≤ rm.cells) (hs : ks ≤ rm.slots) (d : decode cc pc = .ok (.ireturn, 1)) : V K (zQf K Q) T N P I R kc ks pc ls [.int x] :=
  v_zreturn hr (by rcases hx with rfl | rfl <;> rfl) hq hc hs d
/-- two ways into one -/
theorem v_both {A B : Prop} (h : A ∨ B) (f : A ∨ B → V K Qf T N P I R kc ks pc ls st) : V K Qf T N P I R kc ks pc ls st := f h
end zmore
section zdec
variable {E : zE} {y : MethodName} {cc : ByteArray} {nL : Nat} {ret : Option FieldType} {rm : Room} {K : zK E y cc nL ret rm} {Qf : State → Prop} {T : zT} {N : zN} {P : zP} {I : zI} {R : zR} {kc ks pc n : Nat} {ls : List (Option Value)} {st : List Value}
theorem v_if_eq_t {a : Int32} {off : Int} (h : a = 0) (d : decode cc pc = .ok (.ifCond .eq off, 3)) (ht : (pc : Int) + off = (n : Int)) (k : V K Qf T N P I R kc ks n ls st) : V K Qf T N P I R kc ks pc ls (.int a :: st) :=
  v_if_eq d ht rfl (fun _ => k) (fun g => absurd h g)
theorem v_if_eq_f {a : Int32} {off : Int} {tgt : Nat} (h : ¬ a = 0) (d : decode cc pc = .ok (.ifCond .eq off, 3)) (ht : (pc : Int) + off = (tgt : Int)) (hn : pc + 3 = n) (k : V K Qf T N P I R kc ks n ls st) : V K Qf T N P I R kc ks pc ls (.int a :: st) :=
  v_if_eq d ht hn (fun g => absurd g h) (fun _ => k)
theorem v_if_ne_t {a : Int32} {off : Int} (h : ¬ a = 0) (d : decode cc pc = .ok (.ifCond .ne off, 3)) (ht : (pc : Int) + off = (n : Int)) (k : V K Qf T N P I R kc ks n ls st) : V K Qf T N P I R kc ks pc ls (.int a :: st) :=
  v_if_ne d ht rfl (fun _ => k) (fun g => absurd g h)
theorem v_if_ne_f {a : Int32} {off : Int} {tgt : Nat} (h : a = 0) (d : decode cc pc = .ok (.ifCond .ne off, 3)) (ht : (pc : Int) + off = (tgt : Int)) (hn : pc + 3 = n) (k : V K Qf T N P I R kc ks n ls st) : V K Qf T N P I R kc ks pc ls (.int a :: st) :=
  v_if_ne d ht hn (fun g => absurd h g) (fun _ => k)
theorem v_if_lt_t {a : Int32} {off : Int} (h : a < 0) (d : decode cc pc = .ok (.ifCond .lt off, 3)) (ht : (pc : Int) + off = (n : Int)) (k : V K Qf T N P I R kc ks n ls st) : V K Qf T N P I R kc ks pc ls (.int a :: st) :=
  v_if_lt d ht rfl (fun _ => k) (fun g => absurd h g)
theorem v_if_lt_f {a : Int32} {off : Int} {tgt : Nat} (h : ¬ a < 0) (d : decode cc pc = .ok (.ifCond .lt off, 3)) (ht : (pc : Int) + off = (tgt : Int)) (hn : pc + 3 = n) (k : V K Qf T N P I R kc ks n ls st) : V K Qf T N P I R kc ks pc ls (.int a :: st) :=
  v_if_lt d ht hn (fun g => absurd g h) (fun _ => k)
theorem v_if_ge_t {a : Int32} {off : Int} (h : 0 ≤ a) (d : decode cc pc = .ok (.ifCond .ge off, 3)) (ht : (pc : Int) + off = (n : Int)) (k : V K Qf T N P I R kc ks n ls st) : V K Qf T N P I R kc ks pc ls (.int a :: st) :=
  v_if_ge d ht rfl (fun _ => k) (fun g => absurd h g)
theorem v_if_ge_f {a : Int32} {off : Int} {tgt : Nat} (h : ¬ 0 ≤ a) (d : decode cc pc = .ok (.ifCond .ge off, 3)) (ht : (pc : Int) + off = (tgt : Int)) (hn : pc + 3 = n) (k : V K Qf T N P I R kc ks n ls st) : V K Qf T N P I R kc ks pc ls (.int a :: st) :=
  v_if_ge d ht hn (fun g => absurd g h) (fun _ => k)
theorem v_if_gt_t {a : Int32} {off : Int} (h : 0 < a) (d : decode cc pc = .ok (.ifCond .gt off, 3)) (ht : (pc : Int) + off = (n : Int)) (k : V K Qf T N P I R kc ks n ls st) : V K Qf T N P I R kc ks pc ls (.int a :: st) :=
  v_if_gt d ht rfl (fun _ => k) (fun g => absurd h g)
theorem v_if_gt_f {a : Int32} {off : Int} {tgt : Nat} (h : ¬ 0 < a) (d : decode cc pc = .ok (.ifCond .gt off, 3)) (ht : (pc : Int) + off = (tgt : Int)) (hn : pc + 3 = n) (k : V K Qf T N P I R kc ks n ls st) : V K Qf T N P I R kc ks pc ls (.int a :: st) :=
  v_if_gt d ht hn (fun g => absurd g h) (fun _ => k)
theorem v_if_le_t {a : Int32} {off : Int} (h : a ≤ 0) (d : decode cc pc = .ok (.ifCond .le off, 3)) (ht : (pc : Int) + off = (n : Int)) (k : V K Qf T N P I R kc ks n ls st) : V K Qf T N P I R kc ks pc ls (.int a :: st) :=
  v_if_le d ht rfl (fun _ => k) (fun g => absurd h g)
theorem v_if_le_f {a : Int32} {off : Int} {tgt : Nat} (h : ¬ a ≤ 0) (d : decode cc pc = .ok (.ifCond .le off, 3)) (ht : (pc : Int) + off = (tgt : Int)) (hn : pc + 3 = n) (k : V K Qf T N P I R kc ks n ls st) : V K Qf T N P I R kc ks pc ls (.int a :: st) :=
  v_if_le d ht hn (fun g => absurd g h) (fun _ => k)
theorem v_icmp_eq_t {a b : Int32} {off : Int} (h : a = b) (d : decode cc pc = .ok (.if_icmp .eq off, 3)) (ht : (pc : Int) + off = (n : Int)) (k : V K Qf T N P I R kc ks n ls st) : V K Qf T N P I R kc ks pc ls (.int b :: .int a :: st) :=
  v_icmp_eq d ht rfl (fun _ => k) (fun g => absurd h g)
theorem v_icmp_eq_f {a b : Int32} {off : Int} {tgt : Nat} (h : ¬ a = b) (d : decode cc pc = .ok (.if_icmp .eq off, 3)) (ht : (pc : Int) + off = (tgt : Int)) (hn : pc + 3 = n) (k : V K Qf T N P I R kc ks n ls st) : V K Qf T N P I R kc ks pc ls (.int b :: .int a :: st) :=
  v_icmp_eq d ht hn (fun g => absurd g h) (fun _ => k)
theorem v_icmp_ne_t {a b : Int32} {off : Int} (h : ¬ a = b) (d : decode cc pc = .ok (.if_icmp .ne off, 3)) (ht : (pc : Int) + off = (n : Int)) (k : V K Qf T N P I R kc ks n ls st) : V K Qf T N P I R kc ks pc ls (.int b :: .int a :: st) :=
  v_icmp_ne d ht rfl (fun _ => k) (fun g => absurd g h)
theorem v_icmp_ne_f {a b : Int32} {off : Int} {tgt : Nat} (h : a = b) (d : decode cc pc = .ok (.if_icmp .ne off, 3)) (ht : (pc : Int) + off = (tgt : Int)) (hn : pc + 3 = n) (k : V K Qf T N P I R kc ks n ls st) : V K Qf T N P I R kc ks pc ls (.int b :: .int a :: st) :=
  v_icmp_ne d ht hn (fun g => absurd h g) (fun _ => k)
theorem v_icmp_lt_t {a b : Int32} {off : Int} (h : a < b) (d : decode cc pc = .ok (.if_icmp .lt off, 3)) (ht : (pc : Int) + off = (n : Int)) (k : V K Qf T N P I R kc ks n ls st) : V K Qf T N P I R kc ks pc ls (.int b :: .int a :: st) :=
  v_icmp_lt d ht rfl (fun _ => k) (fun g => absurd h g)
theorem v_icmp_lt_f {a b : Int32} {off : Int} {tgt : Nat} (h : ¬ a < b) (d : decode cc pc = .ok (.if_icmp .lt off, 3)) (ht : (pc : Int) + off = (tgt : Int)) (hn : pc + 3 = n) (k : V K Qf T N P I R kc ks n ls st) : V K Qf T N P I R kc ks pc ls (.int b :: .int a :: st) :=
  v_icmp_lt d ht hn (fun g => absurd g h) (fun _ => k)
theorem v_icmp_ge_t {a b : Int32} {off : Int} (h : b ≤ a) (d : decode cc pc = .ok (.if_icmp .ge off, 3)) (ht : (pc : Int) + off = (n : Int)) (k : V K Qf T N P I R kc ks n ls st) : V K Qf T N P I R kc ks pc ls (.int b :: .int a :: st) :=
  v_icmp_ge d ht rfl (fun _ => k) (fun g => absurd h g)
theorem v_icmp_ge_f {a b : Int32} {off : Int} {tgt : Nat} (h : ¬ b ≤ a) (d : decode cc pc = .ok (.if_icmp .ge off, 3)) (ht : (pc : Int) + off = (tgt : Int)) (hn : pc + 3 = n) (k : V K Qf T N P I R kc ks n ls st) : V K Qf T N P I R kc ks pc ls (.int b :: .int a :: st) :=
  v_icmp_ge d ht hn (fun g => absurd g h) (fun _ => k)
theorem v_icmp_gt_t {a b : Int32} {off : Int} (h : b < a) (d : decode cc pc = .ok (.if_icmp .gt off, 3)) (ht : (pc : Int) + off = (n : Int)) (k : V K Qf T N P I R kc ks n ls st) : V K Qf T N P I R kc ks pc ls (.int b :: .int a :: st) :=
  v_icmp_gt d ht rfl (fun _ => k) (fun g => absurd h g)
theorem v_icmp_gt_f {a b : Int32} {off : Int} {tgt : Nat} (h : ¬ b < a) (d : decode cc pc = .ok (.if_icmp .gt off, 3)) (ht : (pc : Int) + off = (tgt : Int)) (hn : pc + 3 = n) (k : V K Qf T N P I R kc ks n ls st) : V K Qf T N P I R kc ks pc ls (.int b :: .int a :: st) :=
  v_icmp_gt d ht hn (fun g => absurd g h) (fun _ => k)
theorem v_icmp_le_t {a b : Int32} {off : Int} (h : a ≤ b) (d : decode cc pc = .ok (.if_icmp .le off, 3)) (ht : (pc : Int) + off = (n : Int)) (k : V K Qf T N P I R kc ks n ls st) : V K Qf T N P I R kc ks pc ls (.int b :: .int a :: st) :=
  v_icmp_le d ht rfl (fun _ => k) (fun g => absurd h g)
theorem v_icmp_le_f {a b : Int32} {off : Int} {tgt : Nat} (h : ¬ a ≤ b) (d : decode cc pc = .ok (.if_icmp .le off, 3)) (ht : (pc : Int) + off = (tgt : Int)) (hn : pc + 3 = n) (k : V K Qf T N P I R kc ks n ls st) : V K Qf T N P I R kc ks pc ls (.int b :: .int a :: st) :=
  v_icmp_le d ht hn (fun g => absurd g h) (fun _ => k)
end zdec
