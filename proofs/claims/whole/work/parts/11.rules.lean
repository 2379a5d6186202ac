section zrule
variable {E : zE} {y : MethodName} {cc : ByteArray} {nL : Nat} {ret : Option FieldType} {rm : Room} {K : zK E y cc nL ret rm} {Qf : State → Prop} {T : zT} {N : zN} {P : zP} {I : zI} {R : zR} {kc ks pc n : Nat} {ls : List (Option Value)} {st : List Value}
theorem v_iconst {m : Int} {v : Int32} (d : decode cc pc = .ok (.iconst m, 1)) (hv : Int32.ofInt m = v) (hn : pc + 1 = n) (k : V K Qf T N P I R kc ks n ls (.int v :: st)) : V K Qf T N P I R kc ks pc ls (st) := by
  subst hn
  exact fun H locs LS h1 h2 h3 => lv_iconst K.x K.hb d hv (k H locs LS h1 h2 h3)
theorem v_bipush {m : Int} {v : Int32} (d : decode cc pc = .ok (.bipush m, 2)) (hv : (Int8.ofInt m).toInt32 = v) (hn : pc + 2 = n) (k : V K Qf T N P I R kc ks n ls (.int v :: st)) : V K Qf T N P I R kc ks pc ls (st) := by
  subst hn
  exact fun H locs LS h1 h2 h3 => lv_bipush K.x K.hb d hv (k H locs LS h1 h2 h3)
theorem v_sipush {m : Int} {v : Int32} (d : decode cc pc = .ok (.sipush m, 3)) (hv : (Int16.ofInt m).toInt32 = v) (hn : pc + 3 = n) (k : V K Qf T N P I R kc ks n ls (.int v :: st)) : V K Qf T N P I R kc ks pc ls (st) := by
  subst hn
  exact fun H locs LS h1 h2 h3 => lv_sipush K.x K.hb d hv (k H locs LS h1 h2 h3)
theorem v_null  (d : decode cc pc = .ok (.aconst_null, 1))  (hn : pc + 1 = n) (k : V K Qf T N P I R kc ks n ls (.null :: st)) : V K Qf T N P I R kc ks pc ls (st) := by
  subst hn
  exact fun H locs LS h1 h2 h3 => lv_null K.x K.hb d  (k H locs LS h1 h2 h3)
theorem v_ldc {idx : Nat} {v : Int32} (d : decode cc pc = .ok (.ldc idx, 2)) (hc : Cond.constant y.cls idx v ∈ lw_tbl) (hn : pc + 2 = n) (k : V K Qf T N P I R kc ks n ls (.int v :: st)) : V K Qf T N P I R kc ks pc ls st := by
  subst hn
  exact fun H locs LS h1 h2 h3 => lv_ldc K.x K.hb K.ho (K.wd hc rfl) d (k H locs LS h1 h2 h3)
theorem v_ldcw {idx : Nat} {v : Int32} (d : decode cc pc = .ok (.ldc_w idx, 3)) (hc : Cond.constant y.cls idx v ∈ lw_tbl) (hn : pc + 3 = n) (k : V K Qf T N P I R kc ks n ls (.int v :: st)) : V K Qf T N P I R kc ks pc ls st := by
  subst hn
  exact fun H locs LS h1 h2 h3 => lv_ldcw K.x K.hb K.ho (K.wd hc rfl) d (k H locs LS h1 h2 h3)
theorem v_ldc2 {idx : Nat} {v : Int64} (d : decode cc pc = .ok (.ldc2_w idx, 3)) (hc : Cond.constantLong y.cls idx v ∈ lw_tbl) (hn : pc + 3 = n) (k : V K Qf T N P I R kc ks n ls (.long v :: st)) : V K Qf T N P I R kc ks pc ls st := by
  subst hn
  exact fun H locs LS h1 h2 h3 => lv_ldc2 K.x K.hb K.ho (K.wd hc rfl) d (k H locs LS h1 h2 h3)
theorem v_iadd {a b : Int32} (d : decode cc pc = .ok (.iadd, 1))  (hn : pc + 1 = n) (k : V K Qf T N P I R kc ks n ls (.int (a + b) :: st)) : V K Qf T N P I R kc ks pc ls (.int b :: .int a :: st) := by
  subst hn
  exact fun H locs LS h1 h2 h3 => lv_iadd K.x K.hb d  (k H locs LS h1 h2 h3)
theorem v_isub {a b : Int32} (d : decode cc pc = .ok (.isub, 1))  (hn : pc + 1 = n) (k : V K Qf T N P I R kc ks n ls (.int (a - b) :: st)) : V K Qf T N P I R kc ks pc ls (.int b :: .int a :: st) := by
  subst hn
  exact fun H locs LS h1 h2 h3 => lv_isub K.x K.hb d  (k H locs LS h1 h2 h3)
theorem v_imul {a b : Int32} (d : decode cc pc = .ok (.imul, 1))  (hn : pc + 1 = n) (k : V K Qf T N P I R kc ks n ls (.int (a * b) :: st)) : V K Qf T N P I R kc ks pc ls (.int b :: .int a :: st) := by
  subst hn
  exact fun H locs LS h1 h2 h3 => lv_imul K.x K.hb d  (k H locs LS h1 h2 h3)
theorem v_iand {a b : Int32} (d : decode cc pc = .ok (.iand, 1))  (hn : pc + 1 = n) (k : V K Qf T N P I R kc ks n ls (.int (a &&& b) :: st)) : V K Qf T N P I R kc ks pc ls (.int b :: .int a :: st) := by
  subst hn
  exact fun H locs LS h1 h2 h3 => lv_iand K.x K.hb d  (k H locs LS h1 h2 h3)
theorem v_ior {a b : Int32} (d : decode cc pc = .ok (.ior, 1))  (hn : pc + 1 = n) (k : V K Qf T N P I R kc ks n ls (.int (a ||| b) :: st)) : V K Qf T N P I R kc ks pc ls (.int b :: .int a :: st) := by
  subst hn
  exact fun H locs LS h1 h2 h3 => lv_ior K.x K.hb d  (k H locs LS h1 h2 h3)
theorem v_ixor {a b : Int32} (d : decode cc pc = .ok (.ixor, 1))  (hn : pc + 1 = n) (k : V K Qf T N P I R kc ks n ls (.int (a ^^^ b) :: st)) : V K Qf T N P I R kc ks pc ls (.int b :: .int a :: st) := by
  subst hn
  exact fun H locs LS h1 h2 h3 => lv_ixor K.x K.hb d  (k H locs LS h1 h2 h3)
theorem v_ishl {a b : Int32} (d : decode cc pc = .ok (.ishl, 1))  (hn : pc + 1 = n) (k : V K Qf T N P I R kc ks n ls (.int (a <<< (b &&& 31)) :: st)) : V K Qf T N P I R kc ks pc ls (.int b :: .int a :: st) := by
  subst hn
  exact fun H locs LS h1 h2 h3 => lv_ishl K.x K.hb d  (k H locs LS h1 h2 h3)
theorem v_ishr {a b : Int32} (d : decode cc pc = .ok (.ishr, 1))  (hn : pc + 1 = n) (k : V K Qf T N P I R kc ks n ls (.int (a >>> (b &&& 31)) :: st)) : V K Qf T N P I R kc ks pc ls (.int b :: .int a :: st) := by
  subst hn
  exact fun H locs LS h1 h2 h3 => lv_ishr K.x K.hb d  (k H locs LS h1 h2 h3)
theorem v_iushr {a b : Int32} (d : decode cc pc = .ok (.iushr, 1))  (hn : pc + 1 = n) (k : V K Qf T N P I R kc ks n ls (.int (a.toUInt32 >>> (b.toUInt32 &&& Int32.toUInt32 31)).toInt32 :: st)) : V K Qf T N P I R kc ks pc ls (.int b :: .int a :: st) := by
  subst hn
  exact fun H locs LS h1 h2 h3 => lv_iushr K.x K.hb d rfl (k H locs LS h1 h2 h3)
theorem v_idiv {a b : Int32} (d : decode cc pc = .ok (.idiv, 1)) (h0 : ¬ b = 0) (hn : pc + 1 = n) (k : V K Qf T N P I R kc ks n ls (.int (a / b) :: st)) : V K Qf T N P I R kc ks pc ls (.int b :: .int a :: st) := by
  subst hn
  exact fun H locs LS h1 h2 h3 => lv_idiv K.x K.hb d h0 (k H locs LS h1 h2 h3)
theorem v_irem {a b : Int32} (d : decode cc pc = .ok (.irem, 1)) (h0 : ¬ b = 0) (hn : pc + 1 = n) (k : V K Qf T N P I R kc ks n ls (.int (a - a / b * b) :: st)) : V K Qf T N P I R kc ks pc ls (.int b :: .int a :: st) := by
  subst hn
  exact fun H locs LS h1 h2 h3 => lv_irem K.x K.hb d h0 (k H locs LS h1 h2 h3)
theorem v_ladd {a b : Int64} (d : decode cc pc = .ok (.ladd, 1))  (hn : pc + 1 = n) (k : V K Qf T N P I R kc ks n ls (.long (a + b) :: st)) : V K Qf T N P I R kc ks pc ls (.long b :: .long a :: st) := by
  subst hn
  exact fun H locs LS h1 h2 h3 => lv_ladd K.x K.hb d  (k H locs LS h1 h2 h3)
theorem v_lsub {a b : Int64} (d : decode cc pc = .ok (.lsub, 1))  (hn : pc + 1 = n) (k : V K Qf T N P I R kc ks n ls (.long (a - b) :: st)) : V K Qf T N P I R kc ks pc ls (.long b :: .long a :: st) := by
  subst hn
  exact fun H locs LS h1 h2 h3 => lv_lsub K.x K.hb d  (k H locs LS h1 h2 h3)
theorem v_land {a b : Int64} (d : decode cc pc = .ok (.land, 1))  (hn : pc + 1 = n) (k : V K Qf T N P I R kc ks n ls (.long (a &&& b) :: st)) : V K Qf T N P I R kc ks pc ls (.long b :: .long a :: st) := by
  subst hn
  exact fun H locs LS h1 h2 h3 => lv_land K.x K.hb d  (k H locs LS h1 h2 h3)
theorem v_lor {a b : Int64} (d : decode cc pc = .ok (.lor, 1))  (hn : pc + 1 = n) (k : V K Qf T N P I R kc ks n ls (.long (a ||| b) :: st)) : V K Qf T N P I R kc ks pc ls (.long b :: .long a :: st) := by
  subst hn
  exact fun H locs LS h1 h2 h3 => lv_lor K.x K.hb d  (k H locs LS h1 h2 h3)
theorem v_lcmp {a b : Int64} (d : decode cc pc = .ok (.lcmp, 1))  (hn : pc + 1 = n) (k : V K Qf T N P I R kc ks n ls (.int (lg_cmp a b) :: st)) : V K Qf T N P I R kc ks pc ls (.long b :: .long a :: st) := by
  subst hn
  exact fun H locs LS h1 h2 h3 => W.lcmp K.x K.hb d  (k H locs LS h1 h2 h3)
theorem v_lshl {a : Int64} {b : Int32} (d : decode cc pc = .ok (.lshl, 1))  (hn : pc + 1 = n) (k : V K Qf T N P I R kc ks n ls (.long (a <<< (b.toInt64 &&& 63)) :: st)) : V K Qf T N P I R kc ks pc ls (.int b :: .long a :: st) := by
  subst hn
  exact fun H locs LS h1 h2 h3 => lv_lshl K.x K.hb d rfl (k H locs LS h1 h2 h3)
theorem v_lshr {a : Int64} {b : Int32} (d : decode cc pc = .ok (.lshr, 1))  (hn : pc + 1 = n) (k : V K Qf T N P I R kc ks n ls (.long (a >>> (b.toInt64 &&& 63)) :: st)) : V K Qf T N P I R kc ks pc ls (.int b :: .long a :: st) := by
  subst hn
  exact fun H locs LS h1 h2 h3 => lv_lshr K.x K.hb d rfl (k H locs LS h1 h2 h3)
theorem v_i2l {a : Int32} (d : decode cc pc = .ok (.i2l, 1))  (hn : pc + 1 = n) (k : V K Qf T N P I R kc ks n ls (.long a.toInt64 :: st)) : V K Qf T N P I R kc ks pc ls (.int a :: st) := by
  subst hn
  exact fun H locs LS h1 h2 h3 => lv_i2l K.x K.hb d rfl (k H locs LS h1 h2 h3)
theorem v_l2i {a : Int64} (d : decode cc pc = .ok (.l2i, 1))  (hn : pc + 1 = n) (k : V K Qf T N P I R kc ks n ls (.int a.toInt32 :: st)) : V K Qf T N P I R kc ks pc ls (.long a :: st) := by
  subst hn
  exact fun H locs LS h1 h2 h3 => lv_l2i K.x K.hb d rfl (k H locs LS h1 h2 h3)
theorem v_i2b {a : Int32} (d : decode cc pc = .ok (.i2b, 1))  (hn : pc + 1 = n) (k : V K Qf T N P I R kc ks n ls (.int a.toInt8.toInt32 :: st)) : V K Qf T N P I R kc ks pc ls (.int a :: st) := by
  subst hn
  exact fun H locs LS h1 h2 h3 => lv_i2b K.x K.hb d rfl (k H locs LS h1 h2 h3)
theorem v_i2c {a : Int32} (d : decode cc pc = .ok (.i2c, 1))  (hn : pc + 1 = n) (k : V K Qf T N P I R kc ks n ls (.int (a.toUInt32 % 65536).toInt32 :: st)) : V K Qf T N P I R kc ks pc ls (.int a :: st) := by
  subst hn
  exact fun H locs LS h1 h2 h3 => lv_i2c K.x K.hb d rfl (k H locs LS h1 h2 h3)
theorem v_dup {v : Value} (d : decode cc pc = .ok (.dup, 1)) (h0 : v.category = 1) (hn : pc + 1 = n) (k : V K Qf T N P I R kc ks n ls (v :: v :: st)) : V K Qf T N P I R kc ks pc ls (v :: st) := by
  subst hn
  exact fun H locs LS h1 h2 h3 => lv_dup K.x K.hb d h0 (k H locs LS h1 h2 h3)
theorem v_pop {v : Value} (d : decode cc pc = .ok (.pop, 1)) (h0 : v.category = 1) (hn : pc + 1 = n) (k : V K Qf T N P I R kc ks n ls (st)) : V K Qf T N P I R kc ks pc ls (v :: st) := by
  subst hn
  exact fun H locs LS h1 h2 h3 => lv_pop K.x K.hb d h0 (k H locs LS h1 h2 h3)
theorem v_dup2 {v u : Value} (d : decode cc pc = .ok (.dup2, 1)) (h0 : v.category = 1) (h9 : u.category = 1) (hn : pc + 1 = n) (k : V K Qf T N P I R kc ks n ls (v :: u :: v :: u :: st)) : V K Qf T N P I R kc ks pc ls (v :: u :: st) := by
  subst hn
  exact fun H locs LS h1 h2 h3 => lv_dup2_11 K.x K.hb d h0 h9 (k H locs LS h1 h2 h3)
theorem v_dup_x1 {v u : Value} (d : decode cc pc = .ok (.dup_x1, 1)) (h0 : v.category = 1) (h9 : u.category = 1) (hn : pc + 1 = n) (k : V K Qf T N P I R kc ks n ls (v :: u :: v :: st)) : V K Qf T N P I R kc ks pc ls (v :: u :: st) := by
  subst hn
  exact fun H locs LS h1 h2 h3 => lv_dup_x1 K.x K.hb d h0 h9 (k H locs LS h1 h2 h3)
theorem v_if_eq {a : Int32} {off : Int} {tgt : Nat} (d : decode cc pc = .ok (.ifCond .eq off, 3)) (ht : (pc : Int) + off = (tgt : Int)) (hn : pc + 3 = n) (kt : a = 0 → V K Qf T N P I R kc ks tgt ls st) (kf : ¬ a = 0 → V K Qf T N P I R kc ks n ls st) : V K Qf T N P I R kc ks pc ls (.int a :: st) := by
  subst hn
  exact fun H locs LS h1 h2 h3 => lv_if_eq K.x K.hb d ht (fun h => kt h H locs LS h1 h2 h3) (fun h => kf h H locs LS h1 h2 h3)
theorem v_if_ne {a : Int32} {off : Int} {tgt : Nat} (d : decode cc pc = .ok (.ifCond .ne off, 3)) (ht : (pc : Int) + off = (tgt : Int)) (hn : pc + 3 = n) (kt : ¬ a = 0 → V K Qf T N P I R kc ks tgt ls st) (kf : a = 0 → V K Qf T N P I R kc ks n ls st) : V K Qf T N P I R kc ks pc ls (.int a :: st) := by
  subst hn
  exact fun H locs LS h1 h2 h3 => lv_if_ne K.x K.hb d ht (fun h => kt h H locs LS h1 h2 h3) (fun h => kf h H locs LS h1 h2 h3)
theorem v_if_lt {a : Int32} {off : Int} {tgt : Nat} (d : decode cc pc = .ok (.ifCond .lt off, 3)) (ht : (pc : Int) + off = (tgt : Int)) (hn : pc + 3 = n) (kt : a < 0 → V K Qf T N P I R kc ks tgt ls st) (kf : ¬ a < 0 → V K Qf T N P I R kc ks n ls st) : V K Qf T N P I R kc ks pc ls (.int a :: st) := by
  subst hn
  exact fun H locs LS h1 h2 h3 => lv_if_lt K.x K.hb d ht (fun h => kt h H locs LS h1 h2 h3) (fun h => kf h H locs LS h1 h2 h3)
theorem v_if_ge {a : Int32} {off : Int} {tgt : Nat} (d : decode cc pc = .ok (.ifCond .ge off, 3)) (ht : (pc : Int) + off = (tgt : Int)) (hn : pc + 3 = n) (kt : 0 ≤ a → V K Qf T N P I R kc ks tgt ls st) (kf : ¬ 0 ≤ a → V K Qf T N P I R kc ks n ls st) : V K Qf T N P I R kc ks pc ls (.int a :: st) := by
  subst hn
  exact fun H locs LS h1 h2 h3 => lv_if_ge K.x K.hb d ht (fun h => kt h H locs LS h1 h2 h3) (fun h => kf h H locs LS h1 h2 h3)
theorem v_if_gt {a : Int32} {off : Int} {tgt : Nat} (d : decode cc pc = .ok (.ifCond .gt off, 3)) (ht : (pc : Int) + off = (tgt : Int)) (hn : pc + 3 = n) (kt : 0 < a → V K Qf T N P I R kc ks tgt ls st) (kf : ¬ 0 < a → V K Qf T N P I R kc ks n ls st) : V K Qf T N P I R kc ks pc ls (.int a :: st) := by
  subst hn
  exact fun H locs LS h1 h2 h3 => lv_if_gt K.x K.hb d ht (fun h => kt h H locs LS h1 h2 h3) (fun h => kf h H locs LS h1 h2 h3)
theorem v_if_le {a : Int32} {off : Int} {tgt : Nat} (d : decode cc pc = .ok (.ifCond .le off, 3)) (ht : (pc : Int) + off = (tgt : Int)) (hn : pc + 3 = n) (kt : a ≤ 0 → V K Qf T N P I R kc ks tgt ls st) (kf : ¬ a ≤ 0 → V K Qf T N P I R kc ks n ls st) : V K Qf T N P I R kc ks pc ls (.int a :: st) := by
  subst hn
  exact fun H locs LS h1 h2 h3 => lv_if_le K.x K.hb d ht (fun h => kt h H locs LS h1 h2 h3) (fun h => kf h H locs LS h1 h2 h3)
theorem v_icmp_eq {a b : Int32} {off : Int} {tgt : Nat} (d : decode cc pc = .ok (.if_icmp .eq off, 3)) (ht : (pc : Int) + off = (tgt : Int)) (hn : pc + 3 = n) (kt : a = b → V K Qf T N P I R kc ks tgt ls st) (kf : ¬ a = b → V K Qf T N P I R kc ks n ls st) : V K Qf T N P I R kc ks pc ls (.int b :: .int a :: st) := by
  subst hn
  exact fun H locs LS h1 h2 h3 => lv_icmp_eq K.x K.hb d ht (fun h => kt h H locs LS h1 h2 h3) (fun h => kf h H locs LS h1 h2 h3)
theorem v_icmp_ne {a b : Int32} {off : Int} {tgt : Nat} (d : decode cc pc = .ok (.if_icmp .ne off, 3)) (ht : (pc : Int) + off = (tgt : Int)) (hn : pc + 3 = n) (kt : ¬ a = b → V K Qf T N P I R kc ks tgt ls st) (kf : a = b → V K Qf T N P I R kc ks n ls st) : V K Qf T N P I R kc ks pc ls (.int b :: .int a :: st) := by
  subst hn
  exact fun H locs LS h1 h2 h3 => lv_icmp_ne K.x K.hb d ht (fun h => kt h H locs LS h1 h2 h3) (fun h => kf h H locs LS h1 h2 h3)
theorem v_icmp_lt {a b : Int32} {off : Int} {tgt : Nat} (d : decode cc pc = .ok (.if_icmp .lt off, 3)) (ht : (pc : Int) + off = (tgt : Int)) (hn : pc + 3 = n) (kt : a < b → V K Qf T N P I R kc ks tgt ls st) (kf : ¬ a < b → V K Qf T N P I R kc ks n ls st) : V K Qf T N P I R kc ks pc ls (.int b :: .int a :: st) := by
  subst hn
  exact fun H locs LS h1 h2 h3 => lv_icmp_lt K.x K.hb d ht (fun h => kt h H locs LS h1 h2 h3) (fun h => kf h H locs LS h1 h2 h3)
theorem v_icmp_ge {a b : Int32} {off : Int} {tgt : Nat} (d : decode cc pc = .ok (.if_icmp .ge off, 3)) (ht : (pc : Int) + off = (tgt : Int)) (hn : pc + 3 = n) (kt : b ≤ a → V K Qf T N P I R kc ks tgt ls st) (kf : ¬ b ≤ a → V K Qf T N P I R kc ks n ls st) : V K Qf T N P I R kc ks pc ls (.int b :: .int a :: st) := by
  subst hn
  exact fun H locs LS h1 h2 h3 => lv_icmp_ge K.x K.hb d ht (fun h => kt h H locs LS h1 h2 h3) (fun h => kf h H locs LS h1 h2 h3)
theorem v_icmp_gt {a b : Int32} {off : Int} {tgt : Nat} (d : decode cc pc = .ok (.if_icmp .gt off, 3)) (ht : (pc : Int) + off = (tgt : Int)) (hn : pc + 3 = n) (kt : b < a → V K Qf T N P I R kc ks tgt ls st) (kf : ¬ b < a → V K Qf T N P I R kc ks n ls st) : V K Qf T N P I R kc ks pc ls (.int b :: .int a :: st) := by
  subst hn
  exact fun H locs LS h1 h2 h3 => lv_icmp_gt K.x K.hb d ht (fun h => kt h H locs LS h1 h2 h3) (fun h => kf h H locs LS h1 h2 h3)
theorem v_icmp_le {a b : Int32} {off : Int} {tgt : Nat} (d : decode cc pc = .ok (.if_icmp .le off, 3)) (ht : (pc : Int) + off = (tgt : Int)) (hn : pc + 3 = n) (kt : a ≤ b → V K Qf T N P I R kc ks tgt ls st) (kf : ¬ a ≤ b → V K Qf T N P I R kc ks n ls st) : V K Qf T N P I R kc ks pc ls (.int b :: .int a :: st) := by
  subst hn
  exact fun H locs LS h1 h2 h3 => lv_icmp_le K.x K.hb d ht (fun h => kt h H locs LS h1 h2 h3) (fun h => kf h H locs LS h1 h2 h3)
theorem v_goto {off : Int} (d : decode cc pc = .ok (.goto off, 3)) (ht : (pc : Int) + off = (n : Int)) (k : V K Qf T N P I R kc ks n ls st) : V K Qf T N P I R kc ks pc ls st :=
  fun H locs LS h1 h2 h3 => lv_goto K.x K.hb d ht (k H locs LS h1 h2 h3)
theorem v_ifnonnull {a : Nat} {off : Int} (d : decode cc pc = .ok (.ifnonnull off, 3)) (ht : (pc : Int) + off = (n : Int)) (k : V K Qf T N P I R kc ks n ls st) : V K Qf T N P I R kc ks pc ls (.ref a :: st) :=
  fun H locs LS h1 h2 h3 => lv_ifnonnull K.x K.hb d ht (k H locs LS h1 h2 h3)
theorem v_ifnonnullN {off : Int} (d : decode cc pc = .ok (.ifnonnull off, 3)) (hn : pc + 3 = n) (k : V K Qf T N P I R kc ks n ls st) : V K Qf T N P I R kc ks pc ls (.null :: st) := by
  subst hn
  exact fun H locs LS h1 h2 h3 => lv_ifnonnullN K.x K.hb d (k H locs LS h1 h2 h3)
theorem v_ifnull {a : Nat} {off : Int} (d : decode cc pc = .ok (.ifnull off, 3)) (hn : pc + 3 = n) (k : V K Qf T N P I R kc ks n ls st) : V K Qf T N P I R kc ks pc ls (.ref a :: st) := by
  subst hn
  exact fun H locs LS h1 h2 h3 => lv_ifnull K.x K.hb d (k H locs LS h1 h2 h3)
theorem v_ifnullN {off : Int} (d : decode cc pc = .ok (.ifnull off, 3)) (ht : (pc : Int) + off = (n : Int)) (k : V K Qf T N P I R kc ks n ls st) : V K Qf T N P I R kc ks pc ls (.null :: st) :=
  fun H locs LS h1 h2 h3 => lv_ifnullN K.x K.hb d ht (k H locs LS h1 h2 h3)
theorem v_tableOut {dflt lo hi : Int} {offs : Array Int} {len : Nat} {a : Int32} (d : decode cc pc = .ok (.tableswitch dflt lo hi offs, len)) (h : a.toInt < lo ∨ hi < a.toInt) (ht : (pc : Int) + dflt = (n : Int)) (k : V K Qf T N P I R kc ks n ls st) : V K Qf T N P I R kc ks pc ls (.int a :: st) :=
  fun H locs LS h1 h2 h3 => lv_tableOut K.x K.hb d h ht (k H locs LS h1 h2 h3)
theorem v_tableIn {dflt lo hi off : Int} {offs : Array Int} {len : Nat} {a : Int32} (d : decode cc pc = .ok (.tableswitch dflt lo hi offs, len)) (g1 : ¬ a.toInt < lo) (g2 : ¬ hi < a.toInt) (ho : offs[(a.toInt - lo).toNat]? = some off) (ht : (pc : Int) + off = (n : Int)) (k : V K Qf T N P I R kc ks n ls st) : V K Qf T N P I R kc ks pc ls (.int a :: st) :=
  fun H locs LS h1 h2 h3 => lv_tableIn K.x K.hb d g1 g2 ho ht (k H locs LS h1 h2 h3)
/-- the listed locals as pairs -/
def zpr : Nat → List (Option Value) → List (Nat × Value)
  | _, [] => []
  | i, none :: l => zpr (i + 1) l
  | i, some v :: l => (i, v) :: zpr (i + 1) l
theorem zpr_mem : ∀ (l : List (Option Value)) (i j : Nat) (v : Value), (j, v) ∈ zpr i l ↔ ∃ k, j = i + k ∧ l[k]? = some (some v)
  | [], i, j, v => by simp [zpr]
  | none :: l, i, j, v => by
    rw [zpr, zpr_mem l (i + 1) j v]
    constructor
    · rintro ⟨k, h1, h2⟩
      exact ⟨k + 1, by omega, by simpa using h2⟩
    · rintro ⟨k, h1, h2⟩
      match k, h2 with
      | 0, h2 => simp at h2
      | k + 1, h2 => exact ⟨k, by omega, by simpa using h2⟩
  | some u :: l, i, j, v => by
    rw [zpr, List.mem_cons, zpr_mem l (i + 1) j v]
    constructor
    · rintro (h | ⟨k, h1, h2⟩)
      · cases h
        exact ⟨0, by omega, rfl⟩
      · exact ⟨k + 1, by omega, by simpa using h2⟩
    · rintro ⟨k, h1, h2⟩
      match k, h2 with
      | 0, h2 =>
        left
        simp at h2
        rw [h1, h2]
        rfl
      | k + 1, h2 => exact Or.inr ⟨k, by omega, by simpa using h2⟩
theorem zL.has {LS : Array Slot} {nL : Nat} {ls : List (Option Value)} (h : zL LS nL ls) : lv_has LS nL (zpr 0 ls) := ⟨h.1, h.2.1, fun q hq => by
  obtain ⟨k, h1, h2⟩ := (zpr_mem ls 0 q.1 q.2).mp hq
  rw [h1, Nat.zero_add]
  exact h.2.2 k q.2 h2⟩
def zpv : Option Value → Bool
  | some v => !(v.category == 2)
  | none => true
theorem zL.stored {LS : Array Slot} {nL i : Nat} {ls ls' : List (Option Value)} {v : Value} (hs : ls.set i (some v) = ls') (hp : i = 0 ∨ ∀ q, ls[i - 1]? = some q → zpv q = true)
    (h : lv_has LS nL ((i, v) :: (zpr 0 ls).filter (fun q => !(q.1 == i) && !(q.1 + 1 == i && q.2.category == 2)))) : zL LS nL ls' := by
  subst hs
  refine ⟨h.1, h.2.1, fun k w hk => ?_⟩
  by_cases hki : k = i
  · subst hki
    by_cases hl : k < ls.length
    · rw [List.getElem?_set_self hl] at hk
      cases hk
      exact h.2.2 (k, v) List.mem_cons_self
    · rw [List.getElem?_eq_none (by rw [List.length_set]; omega)] at hk
      cases hk
  · rw [List.getElem?_set_ne (Ne.symm hki)] at hk
    refine h.2.2 (k, w) (List.mem_cons_of_mem _ (List.mem_filter.mpr ⟨(zpr_mem ls 0 k w).mpr ⟨k, by omega, hk⟩, ?_⟩))
    have h1 : ¬ (k + 1 = i ∧ w.category = 2) := by
      rintro ⟨e1, e2⟩
      rcases hp with hp | hp
      · omega
      · have := hp (some w) (by rw [show i - 1 = k by omega]; exact hk)
        simp [zpv, e2] at this
    by_cases h2 : k + 1 = i
    · have h3 : ¬ w.category = 2 := fun e => h1 ⟨h2, e⟩
      simp [hki, h2, h3]
    · simp [hki, h2]
theorem v_iload_0  {tl : List (Option Value)} {a : Int32} (d : decode cc pc = .ok (.iload_n 0, 1)) (hn : pc + 1 = n) (k : V K Qf T N P I R kc ks n (some (.int a) :: tl) (.int a :: st)) : V K Qf T N P I R kc ks pc (some (.int a) :: tl) st := by
  subst hn
  exact fun H locs LS h1 h2 h3 => lv_iload_n K.x K.hb d rfl (h3.2.2 0 (.int a) rfl) (k H locs LS h1 h2 h3)
theorem v_aload_0  {tl : List (Option Value)} {a : Nat} (d : decode cc pc = .ok (.aload_n 0, 1)) (hn : pc + 1 = n) (k : V K Qf T N P I R kc ks n (some (.ref a) :: tl) (.ref a :: st)) : V K Qf T N P I R kc ks pc (some (.ref a) :: tl) st := by
  subst hn
  exact fun H locs LS h1 h2 h3 => lv_aload_n K.x K.hb d rfl (h3.2.2 0 (.ref a) rfl) (k H locs LS h1 h2 h3)
theorem v_aloadN_0  {tl : List (Option Value)} (d : decode cc pc = .ok (.aload_n 0, 1)) (hn : pc + 1 = n) (k : V K Qf T N P I R kc ks n (some .null :: tl) (.null :: st)) : V K Qf T N P I R kc ks pc (some .null :: tl) st := by
  subst hn
  exact fun H locs LS h1 h2 h3 => lv_aload_nN K.x K.hb d rfl (h3.2.2 0 .null rfl) (k H locs LS h1 h2 h3)
theorem v_istore_0  {o : Option Value} {tl : List (Option Value)} {a : Int32} (d : decode cc pc = .ok (.istore_n 0, 1)) (hl : 0 < nL) (hn : pc + 1 = n) (k : V K Qf T N P I R kc ks n (some (.int a) :: tl) st) : V K Qf T N P I R kc ks pc (o :: tl) (.int a :: st) := by
  subst hn
  exact fun H locs LS h1 h2 h3 => lv_istore_n K.x K.hb d rfl h3.has hl rfl (fun LS' h4 => k H locs LS' h1 h2 (zL.stored rfl (Or.inl rfl) h4))
theorem v_astore_0  {o : Option Value} {tl : List (Option Value)} {a : Nat} (d : decode cc pc = .ok (.astore_n 0, 1)) (hl : 0 < nL) (hn : pc + 1 = n) (k : V K Qf T N P I R kc ks n (some (.ref a) :: tl) st) : V K Qf T N P I R kc ks pc (o :: tl) (.ref a :: st) := by
  subst hn
  exact fun H locs LS h1 h2 h3 => lv_astore_n K.x K.hb d rfl h3.has hl rfl (fun LS' h4 => k H locs LS' h1 h2 (zL.stored rfl (Or.inl rfl) h4))
theorem v_astoreN_0  {o : Option Value} {tl : List (Option Value)}  (d : decode cc pc = .ok (.astore_n 0, 1)) (hl : 0 < nL) (hn : pc + 1 = n) (k : V K Qf T N P I R kc ks n (some (.null) :: tl) st) : V K Qf T N P I R kc ks pc (o :: tl) (.null :: st) := by
  subst hn
  exact fun H locs LS h1 h2 h3 => lv_astore_nN K.x K.hb d rfl h3.has hl rfl (fun LS' h4 => k H locs LS' h1 h2 (zL.stored rfl (Or.inl rfl) h4))
theorem v_iinc_0  {tl : List (Option Value)} {a b : Int32} {m : Int} (d : decode cc pc = .ok (.iinc 0 m, 3)) (hv : a + Int32.ofInt m = b) (hl : 0 < nL) (hn : pc + 3 = n) (k : V K Qf T N P I R kc ks n (some (.int b) :: tl) st) : V K Qf T N P I R kc ks pc (some (.int a) :: tl) st := by
  subst hn
  intro H locs LS h1 h2 h3
  obtain ⟨j, hj⟩ := List.getElem?_of_mem ((zpr_mem (some (.int a) :: tl) 0 0 (.int a)).mpr ⟨0, rfl, rfl⟩)
  exact lv_iinc K.x K.hb d h3.has hj hv hl rfl (fun LS' h4 => k H locs LS' h1 h2 (zL.stored rfl (Or.inl rfl) h4))
theorem v_iload_1 {x0 : Option Value} {tl : List (Option Value)} {a : Int32} (d : decode cc pc = .ok (.iload_n 1, 1)) (hn : pc + 1 = n) (k : V K Qf T N P I R kc ks n (x0 :: some (.int a) :: tl) (.int a :: st)) : V K Qf T N P I R kc ks pc (x0 :: some (.int a) :: tl) st := by
  subst hn
  exact fun H locs LS h1 h2 h3 => lv_iload_n K.x K.hb d rfl (h3.2.2 1 (.int a) rfl) (k H locs LS h1 h2 h3)
theorem v_aload_1 {x0 : Option Value} {tl : List (Option Value)} {a : Nat} (d : decode cc pc = .ok (.aload_n 1, 1)) (hn : pc + 1 = n) (k : V K Qf T N P I R kc ks n (x0 :: some (.ref a) :: tl) (.ref a :: st)) : V K Qf T N P I R kc ks pc (x0 :: some (.ref a) :: tl) st := by
  subst hn
  exact fun H locs LS h1 h2 h3 => lv_aload_n K.x K.hb d rfl (h3.2.2 1 (.ref a) rfl) (k H locs LS h1 h2 h3)
theorem v_aloadN_1 {x0 : Option Value} {tl : List (Option Value)} (d : decode cc pc = .ok (.aload_n 1, 1)) (hn : pc + 1 = n) (k : V K Qf T N P I R kc ks n (x0 :: some .null :: tl) (.null :: st)) : V K Qf T N P I R kc ks pc (x0 :: some .null :: tl) st := by
  subst hn
  exact fun H locs LS h1 h2 h3 => lv_aload_nN K.x K.hb d rfl (h3.2.2 1 .null rfl) (k H locs LS h1 h2 h3)
theorem v_istore_1 {x0 : Option Value} {o : Option Value} {tl : List (Option Value)} {a : Int32} (d : decode cc pc = .ok (.istore_n 1, 1)) (hp : zpv x0 = true) (hl : 1 < nL) (hn : pc + 1 = n) (k : V K Qf T N P I R kc ks n (x0 :: some (.int a) :: tl) st) : V K Qf T N P I R kc ks pc (x0 :: o :: tl) (.int a :: st) := by
  subst hn
  exact fun H locs LS h1 h2 h3 => lv_istore_n K.x K.hb d rfl h3.has hl rfl (fun LS' h4 => k H locs LS' h1 h2 (zL.stored rfl (Or.inr (fun q h => by cases h; exact hp)) h4))
theorem v_astore_1 {x0 : Option Value} {o : Option Value} {tl : List (Option Value)} {a : Nat} (d : decode cc pc = .ok (.astore_n 1, 1)) (hp : zpv x0 = true) (hl : 1 < nL) (hn : pc + 1 = n) (k : V K Qf T N P I R kc ks n (x0 :: some (.ref a) :: tl) st) : V K Qf T N P I R kc ks pc (x0 :: o :: tl) (.ref a :: st) := by
  subst hn
  exact fun H locs LS h1 h2 h3 => lv_astore_n K.x K.hb d rfl h3.has hl rfl (fun LS' h4 => k H locs LS' h1 h2 (zL.stored rfl (Or.inr (fun q h => by cases h; exact hp)) h4))
theorem v_astoreN_1 {x0 : Option Value} {o : Option Value} {tl : List (Option Value)}  (d : decode cc pc = .ok (.astore_n 1, 1)) (hp : zpv x0 = true) (hl : 1 < nL) (hn : pc + 1 = n) (k : V K Qf T N P I R kc ks n (x0 :: some (.null) :: tl) st) : V K Qf T N P I R kc ks pc (x0 :: o :: tl) (.null :: st) := by
  subst hn
  exact fun H locs LS h1 h2 h3 => lv_astore_nN K.x K.hb d rfl h3.has hl rfl (fun LS' h4 => k H locs LS' h1 h2 (zL.stored rfl (Or.inr (fun q h => by cases h; exact hp)) h4))
theorem v_iinc_1 {x0 : Option Value} {tl : List (Option Value)} {a b : Int32} {m : Int} (d : decode cc pc = .ok (.iinc 1 m, 3)) (hv : a + Int32.ofInt m = b) (hp : zpv x0 = true) (hl : 1 < nL) (hn : pc + 3 = n) (k : V K Qf T N P I R kc ks n (x0 :: some (.int b) :: tl) st) : V K Qf T N P I R kc ks pc (x0 :: some (.int a) :: tl) st := by
  subst hn
  intro H locs LS h1 h2 h3
  obtain ⟨j, hj⟩ := List.getElem?_of_mem ((zpr_mem (x0 :: some (.int a) :: tl) 0 1 (.int a)).mpr ⟨1, rfl, rfl⟩)
  exact lv_iinc K.x K.hb d h3.has hj hv hl rfl (fun LS' h4 => k H locs LS' h1 h2 (zL.stored rfl (Or.inr (fun q h => by cases h; exact hp)) h4))
theorem v_iload_2 {x0 x1 : Option Value} {tl : List (Option Value)} {a : Int32} (d : decode cc pc = .ok (.iload_n 2, 1)) (hn : pc + 1 = n) (k : V K Qf T N P I R kc ks n (x0 :: x1 :: some (.int a) :: tl) (.int a :: st)) : V K Qf T N P I R kc ks pc (x0 :: x1 :: some (.int a) :: tl) st := by
  subst hn
  exact fun H locs LS h1 h2 h3 => lv_iload_n K.x K.hb d rfl (h3.2.2 2 (.int a) rfl) (k H locs LS h1 h2 h3)
theorem v_aload_2 {x0 x1 : Option Value} {tl : List (Option Value)} {a : Nat} (d : decode cc pc = .ok (.aload_n 2, 1)) (hn : pc + 1 = n) (k : V K Qf T N P I R kc ks n (x0 :: x1 :: some (.ref a) :: tl) (.ref a :: st)) : V K Qf T N P I R kc ks pc (x0 :: x1 :: some (.ref a) :: tl) st := by
  subst hn
  exact fun H locs LS h1 h2 h3 => lv_aload_n K.x K.hb d rfl (h3.2.2 2 (.ref a) rfl) (k H locs LS h1 h2 h3)
theorem v_aloadN_2 {x0 x1 : Option Value} {tl : List (Option Value)} (d : decode cc pc = .ok (.aload_n 2, 1)) (hn : pc + 1 = n) (k : V K Qf T N P I R kc ks n (x0 :: x1 :: some .null :: tl) (.null :: st)) : V K Qf T N P I R kc ks pc (x0 :: x1 :: some .null :: tl) st := by
  subst hn
  exact fun H locs LS h1 h2 h3 => lv_aload_nN K.x K.hb d rfl (h3.2.2 2 .null rfl) (k H locs LS h1 h2 h3)
theorem v_istore_2 {x0 x1 : Option Value} {o : Option Value} {tl : List (Option Value)} {a : Int32} (d : decode cc pc = .ok (.istore_n 2, 1)) (hp : zpv x1 = true) (hl : 2 < nL) (hn : pc + 1 = n) (k : V K Qf T N P I R kc ks n (x0 :: x1 :: some (.int a) :: tl) st) : V K Qf T N P I R kc ks pc (x0 :: x1 :: o :: tl) (.int a :: st) := by
  subst hn
  exact fun H locs LS h1 h2 h3 => lv_istore_n K.x K.hb d rfl h3.has hl rfl (fun LS' h4 => k H locs LS' h1 h2 (zL.stored rfl (Or.inr (fun q h => by cases h; exact hp)) h4))
theorem v_astore_2 {x0 x1 : Option Value} {o : Option Value} {tl : List (Option Value)} {a : Nat} (d : decode cc pc = .ok (.astore_n 2, 1)) (hp : zpv x1 = true) (hl : 2 < nL) (hn : pc + 1 = n) (k : V K Qf T N P I R kc ks n (x0 :: x1 :: some (.ref a) :: tl) st) : V K Qf T N P I R kc ks pc (x0 :: x1 :: o :: tl) (.ref a :: st) := by
  subst hn
  exact fun H locs LS h1 h2 h3 => lv_astore_n K.x K.hb d rfl h3.has hl rfl (fun LS' h4 => k H locs LS' h1 h2 (zL.stored rfl (Or.inr (fun q h => by cases h; exact hp)) h4))
theorem v_astoreN_2 {x0 x1 : Option Value} {o : Option Value} {tl : List (Option Value)}  (d : decode cc pc = .ok (.astore_n 2, 1)) (hp : zpv x1 = true) (hl : 2 < nL) (hn : pc + 1 = n) (k : V K Qf T N P I R kc ks n (x0 :: x1 :: some (.null) :: tl) st) : V K Qf T N P I R kc ks pc (x0 :: x1 :: o :: tl) (.null :: st) := by
  subst hn
  exact fun H locs LS h1 h2 h3 => lv_astore_nN K.x K.hb d rfl h3.has hl rfl (fun LS' h4 => k H locs LS' h1 h2 (zL.stored rfl (Or.inr (fun q h => by cases h; exact hp)) h4))
theorem v_iinc_2 {x0 x1 : Option Value} {tl : List (Option Value)} {a b : Int32} {m : Int} (d : decode cc pc = .ok (.iinc 2 m, 3)) (hv : a + Int32.ofInt m = b) (hp : zpv x1 = true) (hl : 2 < nL) (hn : pc + 3 = n) (k : V K Qf T N P I R kc ks n (x0 :: x1 :: some (.int b) :: tl) st) : V K Qf T N P I R kc ks pc (x0 :: x1 :: some (.int a) :: tl) st := by
  subst hn
  intro H locs LS h1 h2 h3
  obtain ⟨j, hj⟩ := List.getElem?_of_mem ((zpr_mem (x0 :: x1 :: some (.int a) :: tl) 0 2 (.int a)).mpr ⟨2, rfl, rfl⟩)
  exact lv_iinc K.x K.hb d h3.has hj hv hl rfl (fun LS' h4 => k H locs LS' h1 h2 (zL.stored rfl (Or.inr (fun q h => by cases h; exact hp)) h4))
theorem v_iload_3 {x0 x1 x2 : Option Value} {tl : List (Option Value)} {a : Int32} (d : decode cc pc = .ok (.iload_n 3, 1)) (hn : pc + 1 = n) (k : V K Qf T N P I R kc ks n (x0 :: x1 :: x2 :: some (.int a) :: tl) (.int a :: st)) : V K Qf T N P I R kc ks pc (x0 :: x1 :: x2 :: some (.int a) :: tl) st := by
  subst hn
  exact fun H locs LS h1 h2 h3 => lv_iload_n K.x K.hb d rfl (h3.2.2 3 (.int a) rfl) (k H locs LS h1 h2 h3)
theorem v_aload_3 {x0 x1 x2 : Option Value} {tl : List (Option Value)} {a : Nat} (d : decode cc pc = .ok (.aload_n 3, 1)) (hn : pc + 1 = n) (k : V K Qf T N P I R kc ks n (x0 :: x1 :: x2 :: some (.ref a) :: tl) (.ref a :: st)) : V K Qf T N P I R kc ks pc (x0 :: x1 :: x2 :: some (.ref a) :: tl) st := by
  subst hn
  exact fun H locs LS h1 h2 h3 => lv_aload_n K.x K.hb d rfl (h3.2.2 3 (.ref a) rfl) (k H locs LS h1 h2 h3)
theorem v_aloadN_3 {x0 x1 x2 : Option Value} {tl : List (Option Value)} (d : decode cc pc = .ok (.aload_n 3, 1)) (hn : pc + 1 = n) (k : V K Qf T N P I R kc ks n (x0 :: x1 :: x2 :: some .null :: tl) (.null :: st)) : V K Qf T N P I R kc ks pc (x0 :: x1 :: x2 :: some .null :: tl) st := by
  subst hn
  exact fun H locs LS h1 h2 h3 => lv_aload_nN K.x K.hb d rfl (h3.2.2 3 .null rfl) (k H locs LS h1 h2 h3)
theorem v_istore_3 {x0 x1 x2 : Option Value} {o : Option Value} {tl : List (Option Value)} {a : Int32} (d : decode cc pc = .ok (.istore_n 3, 1)) (hp : zpv x2 = true) (hl : 3 < nL) (hn : pc + 1 = n) (k : V K Qf T N P I R kc ks n (x0 :: x1 :: x2 :: some (.int a) :: tl) st) : V K Qf T N P I R kc ks pc (x0 :: x1 :: x2 :: o :: tl) (.int a :: st) := by
  subst hn
  exact fun H locs LS h1 h2 h3 => lv_istore_n K.x K.hb d rfl h3.has hl rfl (fun LS' h4 => k H locs LS' h1 h2 (zL.stored rfl (Or.inr (fun q h => by cases h; exact hp)) h4))
theorem v_astore_3 {x0 x1 x2 : Option Value} {o : Option Value} {tl : List (Option Value)} {a : Nat} (d : decode cc pc = .ok (.astore_n 3, 1)) (hp : zpv x2 = true) (hl : 3 < nL) (hn : pc + 1 = n) (k : V K Qf T N P I R kc ks n (x0 :: x1 :: x2 :: some (.ref a) :: tl) st) : V K Qf T N P I R kc ks pc (x0 :: x1 :: x2 :: o :: tl) (.ref a :: st) := by
  subst hn
  exact fun H locs LS h1 h2 h3 => lv_astore_n K.x K.hb d rfl h3.has hl rfl (fun LS' h4 => k H locs LS' h1 h2 (zL.stored rfl (Or.inr (fun q h => by cases h; exact hp)) h4))
theorem v_astoreN_3 {x0 x1 x2 : Option Value} {o : Option Value} {tl : List (Option Value)}  (d : decode cc pc = .ok (.astore_n 3, 1)) (hp : zpv x2 = true) (hl : 3 < nL) (hn : pc + 1 = n) (k : V K Qf T N P I R kc ks n (x0 :: x1 :: x2 :: some (.null) :: tl) st) : V K Qf T N P I R kc ks pc (x0 :: x1 :: x2 :: o :: tl) (.null :: st) := by
  subst hn
  exact fun H locs LS h1 h2 h3 => lv_astore_nN K.x K.hb d rfl h3.has hl rfl (fun LS' h4 => k H locs LS' h1 h2 (zL.stored rfl (Or.inr (fun q h => by cases h; exact hp)) h4))
theorem v_iinc_3 {x0 x1 x2 : Option Value} {tl : List (Option Value)} {a b : Int32} {m : Int} (d : decode cc pc = .ok (.iinc 3 m, 3)) (hv : a + Int32.ofInt m = b) (hp : zpv x2 = true) (hl : 3 < nL) (hn : pc + 3 = n) (k : V K Qf T N P I R kc ks n (x0 :: x1 :: x2 :: some (.int b) :: tl) st) : V K Qf T N P I R kc ks pc (x0 :: x1 :: x2 :: some (.int a) :: tl) st := by
  subst hn
  intro H locs LS h1 h2 h3
  obtain ⟨j, hj⟩ := List.getElem?_of_mem ((zpr_mem (x0 :: x1 :: x2 :: some (.int a) :: tl) 0 3 (.int a)).mpr ⟨3, rfl, rfl⟩)
  exact lv_iinc K.x K.hb d h3.has hj hv hl rfl (fun LS' h4 => k H locs LS' h1 h2 (zL.stored rfl (Or.inr (fun q h => by cases h; exact hp)) h4))
theorem v_iload_4 {x0 x1 x2 x3 : Option Value} {tl : List (Option Value)} {a : Int32} (d : decode cc pc = .ok (.iload 4, 2)) (hn : pc + 2 = n) (k : V K Qf T N P I R kc ks n (x0 :: x1 :: x2 :: x3 :: some (.int a) :: tl) (.int a :: st)) : V K Qf T N P I R kc ks pc (x0 :: x1 :: x2 :: x3 :: some (.int a) :: tl) st := by
  subst hn
  exact fun H locs LS h1 h2 h3 => lv_iload K.x K.hb d (h3.2.2 4 (.int a) rfl) (k H locs LS h1 h2 h3)
theorem v_aload_4 {x0 x1 x2 x3 : Option Value} {tl : List (Option Value)} {a : Nat} (d : decode cc pc = .ok (.aload 4, 2)) (hn : pc + 2 = n) (k : V K Qf T N P I R kc ks n (x0 :: x1 :: x2 :: x3 :: some (.ref a) :: tl) (.ref a :: st)) : V K Qf T N P I R kc ks pc (x0 :: x1 :: x2 :: x3 :: some (.ref a) :: tl) st := by
  subst hn
  exact fun H locs LS h1 h2 h3 => lv_aload K.x K.hb d (h3.2.2 4 (.ref a) rfl) (k H locs LS h1 h2 h3)
theorem v_aloadN_4 {x0 x1 x2 x3 : Option Value} {tl : List (Option Value)} (d : decode cc pc = .ok (.aload 4, 2)) (hn : pc + 2 = n) (k : V K Qf T N P I R kc ks n (x0 :: x1 :: x2 :: x3 :: some .null :: tl) (.null :: st)) : V K Qf T N P I R kc ks pc (x0 :: x1 :: x2 :: x3 :: some .null :: tl) st := by
  subst hn
  exact fun H locs LS h1 h2 h3 => lv_aloadN K.x K.hb d (h3.2.2 4 .null rfl) (k H locs LS h1 h2 h3)
theorem v_istore_4 {x0 x1 x2 x3 : Option Value} {o : Option Value} {tl : List (Option Value)} {a : Int32} (d : decode cc pc = .ok (.istore 4, 2)) (hp : zpv x3 = true) (hl : 4 < nL) (hn : pc + 2 = n) (k : V K Qf T N P I R kc ks n (x0 :: x1 :: x2 :: x3 :: some (.int a) :: tl) st) : V K Qf T N P I R kc ks pc (x0 :: x1 :: x2 :: x3 :: o :: tl) (.int a :: st) := by
  subst hn
  exact fun H locs LS h1 h2 h3 => lv_istore K.x K.hb d h3.has hl rfl (fun LS' h4 => k H locs LS' h1 h2 (zL.stored rfl (Or.inr (fun q h => by cases h; exact hp)) h4))
theorem v_astore_4 {x0 x1 x2 x3 : Option Value} {o : Option Value} {tl : List (Option Value)} {a : Nat} (d : decode cc pc = .ok (.astore 4, 2)) (hp : zpv x3 = true) (hl : 4 < nL) (hn : pc + 2 = n) (k : V K Qf T N P I R kc ks n (x0 :: x1 :: x2 :: x3 :: some (.ref a) :: tl) st) : V K Qf T N P I R kc ks pc (x0 :: x1 :: x2 :: x3 :: o :: tl) (.ref a :: st) := by
  subst hn
  exact fun H locs LS h1 h2 h3 => lv_astore K.x K.hb d h3.has hl rfl (fun LS' h4 => k H locs LS' h1 h2 (zL.stored rfl (Or.inr (fun q h => by cases h; exact hp)) h4))
theorem v_astoreN_4 {x0 x1 x2 x3 : Option Value} {o : Option Value} {tl : List (Option Value)}  (d : decode cc pc = .ok (.astore 4, 2)) (hp : zpv x3 = true) (hl : 4 < nL) (hn : pc + 2 = n) (k : V K Qf T N P I R kc ks n (x0 :: x1 :: x2 :: x3 :: some (.null) :: tl) st) : V K Qf T N P I R kc ks pc (x0 :: x1 :: x2 :: x3 :: o :: tl) (.null :: st) := by
  subst hn
  exact fun H locs LS h1 h2 h3 => lv_astoreN K.x K.hb d h3.has hl rfl (fun LS' h4 => k H locs LS' h1 h2 (zL.stored rfl (Or.inr (fun q h => by cases h; exact hp)) h4))
theorem v_iinc_4 {x0 x1 x2 x3 : Option Value} {tl : List (Option Value)} {a b : Int32} {m : Int} (d : decode cc pc = .ok (.iinc 4 m, 3)) (hv : a + Int32.ofInt m = b) (hp : zpv x3 = true) (hl : 4 < nL) (hn : pc + 3 = n) (k : V K Qf T N P I R kc ks n (x0 :: x1 :: x2 :: x3 :: some (.int b) :: tl) st) : V K Qf T N P I R kc ks pc (x0 :: x1 :: x2 :: x3 :: some (.int a) :: tl) st := by
  subst hn
  intro H locs LS h1 h2 h3
  obtain ⟨j, hj⟩ := List.getElem?_of_mem ((zpr_mem (x0 :: x1 :: x2 :: x3 :: some (.int a) :: tl) 0 4 (.int a)).mpr ⟨4, rfl, rfl⟩)
  exact lv_iinc K.x K.hb d h3.has hj hv hl rfl (fun LS' h4 => k H locs LS' h1 h2 (zL.stored rfl (Or.inr (fun q h => by cases h; exact hp)) h4))
theorem v_iload_5 {x0 x1 x2 x3 x4 : Option Value} {tl : List (Option Value)} {a : Int32} (d : decode cc pc = .ok (.iload 5, 2)) (hn : pc + 2 = n) (k : V K Qf T N P I R kc ks n (x0 :: x1 :: x2 :: x3 :: x4 :: some (.int a) :: tl) (.int a :: st)) : V K Qf T N P I R kc ks pc (x0 :: x1 :: x2 :: x3 :: x4 :: some (.int a) :: tl) st := by
  subst hn
  exact fun H locs LS h1 h2 h3 => lv_iload K.x K.hb d (h3.2.2 5 (.int a) rfl) (k H locs LS h1 h2 h3)
theorem v_aload_5 {x0 x1 x2 x3 x4 : Option Value} {tl : List (Option Value)} {a : Nat} (d : decode cc pc = .ok (.aload 5, 2)) (hn : pc + 2 = n) (k : V K Qf T N P I R kc ks n (x0 :: x1 :: x2 :: x3 :: x4 :: some (.ref a) :: tl) (.ref a :: st)) : V K Qf T N P I R kc ks pc (x0 :: x1 :: x2 :: x3 :: x4 :: some (.ref a) :: tl) st := by
  subst hn
  exact fun H locs LS h1 h2 h3 => lv_aload K.x K.hb d (h3.2.2 5 (.ref a) rfl) (k H locs LS h1 h2 h3)
theorem v_aloadN_5 {x0 x1 x2 x3 x4 : Option Value} {tl : List (Option Value)} (d : decode cc pc = .ok (.aload 5, 2)) (hn : pc + 2 = n) (k : V K Qf T N P I R kc ks n (x0 :: x1 :: x2 :: x3 :: x4 :: some .null :: tl) (.null :: st)) : V K Qf T N P I R kc ks pc (x0 :: x1 :: x2 :: x3 :: x4 :: some .null :: tl) st := by
  subst hn
  exact fun H locs LS h1 h2 h3 => lv_aloadN K.x K.hb d (h3.2.2 5 .null rfl) (k H locs LS h1 h2 h3)
theorem v_istore_5 {x0 x1 x2 x3 x4 : Option Value} {o : Option Value} {tl : List (Option Value)} {a : Int32} (d : decode cc pc = .ok (.istore 5, 2)) (hp : zpv x4 = true) (hl : 5 < nL) (hn : pc + 2 = n) (k : V K Qf T N P I R kc ks n (x0 :: x1 :: x2 :: x3 :: x4 :: some (.int a) :: tl) st) : V K Qf T N P I R kc ks pc (x0 :: x1 :: x2 :: x3 :: x4 :: o :: tl) (.int a :: st) := by
  subst hn
  exact fun H locs LS h1 h2 h3 => lv_istore K.x K.hb d h3.has hl rfl (fun LS' h4 => k H locs LS' h1 h2 (zL.stored rfl (Or.inr (fun q h => by cases h; exact hp)) h4))
theorem v_astore_5 {x0 x1 x2 x3 x4 : Option Value} {o : Option Value} {tl : List (Option Value)} {a : Nat} (d : decode cc pc = .ok (.astore 5, 2)) (hp : zpv x4 = true) (hl : 5 < nL) (hn : pc + 2 = n) (k : V K Qf T N P I R kc ks n (x0 :: x1 :: x2 :: x3 :: x4 :: some (.ref a) :: tl) st) : V K Qf T N P I R kc ks pc (x0 :: x1 :: x2 :: x3 :: x4 :: o :: tl) (.ref a :: st) := by
  subst hn
  exact fun H locs LS h1 h2 h3 => lv_astore K.x K.hb d h3.has hl rfl (fun LS' h4 => k H locs LS' h1 h2 (zL.stored rfl (Or.inr (fun q h => by cases h; exact hp)) h4))
theorem v_astoreN_5 {x0 x1 x2 x3 x4 : Option Value} {o : Option Value} {tl : List (Option Value)}  (d : decode cc pc = .ok (.astore 5, 2)) (hp : zpv x4 = true) (hl : 5 < nL) (hn : pc + 2 = n) (k : V K Qf T N P I R kc ks n (x0 :: x1 :: x2 :: x3 :: x4 :: some (.null) :: tl) st) : V K Qf T N P I R kc ks pc (x0 :: x1 :: x2 :: x3 :: x4 :: o :: tl) (.null :: st) := by
  subst hn
  exact fun H locs LS h1 h2 h3 => lv_astoreN K.x K.hb d h3.has hl rfl (fun LS' h4 => k H locs LS' h1 h2 (zL.stored rfl (Or.inr (fun q h => by cases h; exact hp)) h4))
theorem v_iinc_5 {x0 x1 x2 x3 x4 : Option Value} {tl : List (Option Value)} {a b : Int32} {m : Int} (d : decode cc pc = .ok (.iinc 5 m, 3)) (hv : a + Int32.ofInt m = b) (hp : zpv x4 = true) (hl : 5 < nL) (hn : pc + 3 = n) (k : V K Qf T N P I R kc ks n (x0 :: x1 :: x2 :: x3 :: x4 :: some (.int b) :: tl) st) : V K Qf T N P I R kc ks pc (x0 :: x1 :: x2 :: x3 :: x4 :: some (.int a) :: tl) st := by
  subst hn
  intro H locs LS h1 h2 h3
  obtain ⟨j, hj⟩ := List.getElem?_of_mem ((zpr_mem (x0 :: x1 :: x2 :: x3 :: x4 :: some (.int a) :: tl) 0 5 (.int a)).mpr ⟨5, rfl, rfl⟩)
  exact lv_iinc K.x K.hb d h3.has hj hv hl rfl (fun LS' h4 => k H locs LS' h1 h2 (zL.stored rfl (Or.inr (fun q h => by cases h; exact hp)) h4))
theorem v_iload_6 {x0 x1 x2 x3 x4 x5 : Option Value} {tl : List (Option Value)} {a : Int32} (d : decode cc pc = .ok (.iload 6, 2)) (hn : pc + 2 = n) (k : V K Qf T N P I R kc ks n (x0 :: x1 :: x2 :: x3 :: x4 :: x5 :: some (.int a) :: tl) (.int a :: st)) : V K Qf T N P I R kc ks pc (x0 :: x1 :: x2 :: x3 :: x4 :: x5 :: some (.int a) :: tl) st := by
  subst hn
  exact fun H locs LS h1 h2 h3 => lv_iload K.x K.hb d (h3.2.2 6 (.int a) rfl) (k H locs LS h1 h2 h3)
theorem v_aload_6 {x0 x1 x2 x3 x4 x5 : Option Value} {tl : List (Option Value)} {a : Nat} (d : decode cc pc = .ok (.aload 6, 2)) (hn : pc + 2 = n) (k : V K Qf T N P I R kc ks n (x0 :: x1 :: x2 :: x3 :: x4 :: x5 :: some (.ref a) :: tl) (.ref a :: st)) : V K Qf T N P I R kc ks pc (x0 :: x1 :: x2 :: x3 :: x4 :: x5 :: some (.ref a) :: tl) st := by
  subst hn
  exact fun H locs LS h1 h2 h3 => lv_aload K.x K.hb d (h3.2.2 6 (.ref a) rfl) (k H locs LS h1 h2 h3)
theorem v_aloadN_6 {x0 x1 x2 x3 x4 x5 : Option Value} {tl : List (Option Value)} (d : decode cc pc = .ok (.aload 6, 2)) (hn : pc + 2 = n) (k : V K Qf T N P I R kc ks n (x0 :: x1 :: x2 :: x3 :: x4 :: x5 :: some .null :: tl) (.null :: st)) : V K Qf T N P I R kc ks pc (x0 :: x1 :: x2 :: x3 :: x4 :: x5 :: some .null :: tl) st := by
  subst hn
  exact fun H locs LS h1 h2 h3 => lv_aloadN K.x K.hb d (h3.2.2 6 .null rfl) (k H locs LS h1 h2 h3)
theorem v_istore_6 {x0 x1 x2 x3 x4 x5 : Option Value} {o : Option Value} {tl : List (Option Value)} {a : Int32} (d : decode cc pc = .ok (.istore 6, 2)) (hp : zpv x5 = true) (hl : 6 < nL) (hn : pc + 2 = n) (k : V K Qf T N P I R kc ks n (x0 :: x1 :: x2 :: x3 :: x4 :: x5 :: some (.int a) :: tl) st) : V K Qf T N P I R kc ks pc (x0 :: x1 :: x2 :: x3 :: x4 :: x5 :: o :: tl) (.int a :: st) := by
  subst hn
  exact fun H locs LS h1 h2 h3 => lv_istore K.x K.hb d h3.has hl rfl (fun LS' h4 => k H locs LS' h1 h2 (zL.stored rfl (Or.inr (fun q h => by cases h; exact hp)) h4))
theorem v_astore_6 {x0 x1 x2 x3 x4 x5 : Option Value} {o : Option Value} {tl : List (Option Value)} {a : Nat} (d : decode cc pc = .ok (.astore 6, 2)) (hp : zpv x5 = true) (hl : 6 < nL) (hn : pc + 2 = n) (k : V K Qf T N P I R kc ks n (x0 :: x1 :: x2 :: x3 :: x4 :: x5 :: some (.ref a) :: tl) st) : V K Qf T N P I R kc ks pc (x0 :: x1 :: x2 :: x3 :: x4 :: x5 :: o :: tl) (.ref a :: st) := by
  subst hn
  exact fun H locs LS h1 h2 h3 => lv_astore K.x K.hb d h3.has hl rfl (fun LS' h4 => k H locs LS' h1 h2 (zL.stored rfl (Or.inr (fun q h => by cases h; exact hp)) h4))
theorem v_astoreN_6 {x0 x1 x2 x3 x4 x5 : Option Value} {o : Option Value} {tl : List (Option Value)}  (d : decode cc pc = .ok (.astore 6, 2)) (hp : zpv x5 = true) (hl : 6 < nL) (hn : pc + 2 = n) (k : V K Qf T N P I R kc ks n (x0 :: x1 :: x2 :: x3 :: x4 :: x5 :: some (.null) :: tl) st) : V K Qf T N P I R kc ks pc (x0 :: x1 :: x2 :: x3 :: x4 :: x5 :: o :: tl) (.null :: st) := by
  subst hn
  exact fun H locs LS h1 h2 h3 => lv_astoreN K.x K.hb d h3.has hl rfl (fun LS' h4 => k H locs LS' h1 h2 (zL.stored rfl (Or.inr (fun q h => by cases h; exact hp)) h4))
theorem v_iinc_6 {x0 x1 x2 x3 x4 x5 : Option Value} {tl : List (Option Value)} {a b : Int32} {m : Int} (d : decode cc pc = .ok (.iinc 6 m, 3)) (hv : a + Int32.ofInt m = b) (hp : zpv x5 = true) (hl : 6 < nL) (hn : pc + 3 = n) (k : V K Qf T N P I R kc ks n (x0 :: x1 :: x2 :: x3 :: x4 :: x5 :: some (.int b) :: tl) st) : V K Qf T N P I R kc ks pc (x0 :: x1 :: x2 :: x3 :: x4 :: x5 :: some (.int a) :: tl) st := by
  subst hn
  intro H locs LS h1 h2 h3
  obtain ⟨j, hj⟩ := List.getElem?_of_mem ((zpr_mem (x0 :: x1 :: x2 :: x3 :: x4 :: x5 :: some (.int a) :: tl) 0 6 (.int a)).mpr ⟨6, rfl, rfl⟩)
  exact lv_iinc K.x K.hb d h3.has hj hv hl rfl (fun LS' h4 => k H locs LS' h1 h2 (zL.stored rfl (Or.inr (fun q h => by cases h; exact hp)) h4))
theorem v_iload_7 {x0 x1 x2 x3 x4 x5 x6 : Option Value} {tl : List (Option Value)} {a : Int32} (d : decode cc pc = .ok (.iload 7, 2)) (hn : pc + 2 = n) (k : V K Qf T N P I R kc ks n (x0 :: x1 :: x2 :: x3 :: x4 :: x5 :: x6 :: some (.int a) :: tl) (.int a :: st)) : V K Qf T N P I R kc ks pc (x0 :: x1 :: x2 :: x3 :: x4 :: x5 :: x6 :: some (.int a) :: tl) st := by
  subst hn
  exact fun H locs LS h1 h2 h3 => lv_iload K.x K.hb d (h3.2.2 7 (.int a) rfl) (k H locs LS h1 h2 h3)
theorem v_aload_7 {x0 x1 x2 x3 x4 x5 x6 : Option Value} {tl : List (Option Value)} {a : Nat} (d : decode cc pc = .ok (.aload 7, 2)) (hn : pc + 2 = n) (k : V K Qf T N P I R kc ks n (x0 :: x1 :: x2 :: x3 :: x4 :: x5 :: x6 :: some (.ref a) :: tl) (.ref a :: st)) : V K Qf T N P I R kc ks pc (x0 :: x1 :: x2 :: x3 :: x4 :: x5 :: x6 :: some (.ref a) :: tl) st := by
  subst hn
  exact fun H locs LS h1 h2 h3 => lv_aload K.x K.hb d (h3.2.2 7 (.ref a) rfl) (k H locs LS h1 h2 h3)
theorem v_aloadN_7 {x0 x1 x2 x3 x4 x5 x6 : Option Value} {tl : List (Option Value)} (d : decode cc pc = .ok (.aload 7, 2)) (hn : pc + 2 = n) (k : V K Qf T N P I R kc ks n (x0 :: x1 :: x2 :: x3 :: x4 :: x5 :: x6 :: some .null :: tl) (.null :: st)) : V K Qf T N P I R kc ks pc (x0 :: x1 :: x2 :: x3 :: x4 :: x5 :: x6 :: some .null :: tl) st := by
  subst hn
  exact fun H locs LS h1 h2 h3 => lv_aloadN K.x K.hb d (h3.2.2 7 .null rfl) (k H locs LS h1 h2 h3)
theorem v_istore_7 {x0 x1 x2 x3 x4 x5 x6 : Option Value} {o : Option Value} {tl : List (Option Value)} {a : Int32} (d : decode cc pc = .ok (.istore 7, 2)) (hp : zpv x6 = true) (hl : 7 < nL) (hn : pc + 2 = n) (k : V K Qf T N P I R kc ks n (x0 :: x1 :: x2 :: x3 :: x4 :: x5 :: x6 :: some (.int a) :: tl) st) : V K Qf T N P I R kc ks pc (x0 :: x1 :: x2 :: x3 :: x4 :: x5 :: x6 :: o :: tl) (.int a :: st) := by
  subst hn
  exact fun H locs LS h1 h2 h3 => lv_istore K.x K.hb d h3.has hl rfl (fun LS' h4 => k H locs LS' h1 h2 (zL.stored rfl (Or.inr (fun q h => by cases h; exact hp)) h4))
theorem v_astore_7 {x0 x1 x2 x3 x4 x5 x6 : Option Value} {o : Option Value} {tl : List (Option Value)} {a : Nat} (d : decode cc pc = .ok (.astore 7, 2)) (hp : zpv x6 = true) (hl : 7 < nL) (hn : pc + 2 = n) (k : V K Qf T N P I R kc ks n (x0 :: x1 :: x2 :: x3 :: x4 :: x5 :: x6 :: some (.ref a) :: tl) st) : V K Qf T N P I R kc ks pc (x0 :: x1 :: x2 :: x3 :: x4 :: x5 :: x6 :: o :: tl) (.ref a :: st) := by
  subst hn
  exact fun H locs LS h1 h2 h3 => lv_astore K.x K.hb d h3.has hl rfl (fun LS' h4 => k H locs LS' h1 h2 (zL.stored rfl (Or.inr (fun q h => by cases h; exact hp)) h4))
theorem v_astoreN_7 {x0 x1 x2 x3 x4 x5 x6 : Option Value} {o : Option Value} {tl : List (Option Value)}  (d : decode cc pc = .ok (.astore 7, 2)) (hp : zpv x6 = true) (hl : 7 < nL) (hn : pc + 2 = n) (k : V K Qf T N P I R kc ks n (x0 :: x1 :: x2 :: x3 :: x4 :: x5 :: x6 :: some (.null) :: tl) st) : V K Qf T N P I R kc ks pc (x0 :: x1 :: x2 :: x3 :: x4 :: x5 :: x6 :: o :: tl) (.null :: st) := by
  subst hn
  exact fun H locs LS h1 h2 h3 => lv_astoreN K.x K.hb d h3.has hl rfl (fun LS' h4 => k H locs LS' h1 h2 (zL.stored rfl (Or.inr (fun q h => by cases h; exact hp)) h4))
theorem v_iinc_7 {x0 x1 x2 x3 x4 x5 x6 : Option Value} {tl : List (Option Value)} {a b : Int32} {m : Int} (d : decode cc pc = .ok (.iinc 7 m, 3)) (hv : a + Int32.ofInt m = b) (hp : zpv x6 = true) (hl : 7 < nL) (hn : pc + 3 = n) (k : V K Qf T N P I R kc ks n (x0 :: x1 :: x2 :: x3 :: x4 :: x5 :: x6 :: some (.int b) :: tl) st) : V K Qf T N P I R kc ks pc (x0 :: x1 :: x2 :: x3 :: x4 :: x5 :: x6 :: some (.int a) :: tl) st := by
  subst hn
  intro H locs LS h1 h2 h3
  obtain ⟨j, hj⟩ := List.getElem?_of_mem ((zpr_mem (x0 :: x1 :: x2 :: x3 :: x4 :: x5 :: x6 :: some (.int a) :: tl) 0 7 (.int a)).mpr ⟨7, rfl, rfl⟩)
  exact lv_iinc K.x K.hb d h3.has hj hv hl rfl (fun LS' h4 => k H locs LS' h1 h2 (zL.stored rfl (Or.inr (fun q h => by cases h; exact hp)) h4))
theorem v_iload_8 {x0 x1 x2 x3 x4 x5 x6 x7 : Option Value} {tl : List (Option Value)} {a : Int32} (d : decode cc pc = .ok (.iload 8, 2)) (hn : pc + 2 = n) (k : V K Qf T N P I R kc ks n (x0 :: x1 :: x2 :: x3 :: x4 :: x5 :: x6 :: x7 :: some (.int a) :: tl) (.int a :: st)) : V K Qf T N P I R kc ks pc (x0 :: x1 :: x2 :: x3 :: x4 :: x5 :: x6 :: x7 :: some (.int a) :: tl) st := by
  subst hn
  exact fun H locs LS h1 h2 h3 => lv_iload K.x K.hb d (h3.2.2 8 (.int a) rfl) (k H locs LS h1 h2 h3)
theorem v_aload_8 {x0 x1 x2 x3 x4 x5 x6 x7 : Option Value} {tl : List (Option Value)} {a : Nat} (d : decode cc pc = .ok (.aload 8, 2)) (hn : pc + 2 = n) (k : V K Qf T N P I R kc ks n (x0 :: x1 :: x2 :: x3 :: x4 :: x5 :: x6 :: x7 :: some (.ref a) :: tl) (.ref a :: st)) : V K Qf T N P I R kc ks pc (x0 :: x1 :: x2 :: x3 :: x4 :: x5 :: x6 :: x7 :: some (.ref a) :: tl) st := by
  subst hn
  exact fun H locs LS h1 h2 h3 => lv_aload K.x K.hb d (h3.2.2 8 (.ref a) rfl) (k H locs LS h1 h2 h3)
theorem v_aloadN_8 {x0 x1 x2 x3 x4 x5 x6 x7 : Option Value} {tl : List (Option Value)} (d : decode cc pc = .ok (.aload 8, 2)) (hn : pc + 2 = n) (k : V K Qf T N P I R kc ks n (x0 :: x1 :: x2 :: x3 :: x4 :: x5 :: x6 :: x7 :: some .null :: tl) (.null :: st)) : V K Qf T N P I R kc ks pc (x0 :: x1 :: x2 :: x3 :: x4 :: x5 :: x6 :: x7 :: some .null :: tl) st := by
  subst hn
  exact fun H locs LS h1 h2 h3 => lv_aloadN K.x K.hb d (h3.2.2 8 .null rfl) (k H locs LS h1 h2 h3)
theorem v_istore_8 {x0 x1 x2 x3 x4 x5 x6 x7 : Option Value} {o : Option Value} {tl : List (Option Value)} {a : Int32} (d : decode cc pc = .ok (.istore 8, 2)) (hp : zpv x7 = true) (hl : 8 < nL) (hn : pc + 2 = n) (k : V K Qf T N P I R kc ks n (x0 :: x1 :: x2 :: x3 :: x4 :: x5 :: x6 :: x7 :: some (.int a) :: tl) st) : V K Qf T N P I R kc ks pc (x0 :: x1 :: x2 :: x3 :: x4 :: x5 :: x6 :: x7 :: o :: tl) (.int a :: st) := by
  subst hn
  exact fun H locs LS h1 h2 h3 => lv_istore K.x K.hb d h3.has hl rfl (fun LS' h4 => k H locs LS' h1 h2 (zL.stored rfl (Or.inr (fun q h => by cases h; exact hp)) h4))
theorem v_astore_8 {x0 x1 x2 x3 x4 x5 x6 x7 : Option Value} {o : Option Value} {tl : List (Option Value)} {a : Nat} (d : decode cc pc = .ok (.astore 8, 2)) (hp : zpv x7 = true) (hl : 8 < nL) (hn : pc + 2 = n) (k : V K Qf T N P I R kc ks n (x0 :: x1 :: x2 :: x3 :: x4 :: x5 :: x6 :: x7 :: some (.ref a) :: tl) st) : V K Qf T N P I R kc ks pc (x0 :: x1 :: x2 :: x3 :: x4 :: x5 :: x6 :: x7 :: o :: tl) (.ref a :: st) := by
  subst hn
  exact fun H locs LS h1 h2 h3 => lv_astore K.x K.hb d h3.has hl rfl (fun LS' h4 => k H locs LS' h1 h2 (zL.stored rfl (Or.inr (fun q h => by cases h; exact hp)) h4))
theorem v_astoreN_8 {x0 x1 x2 x3 x4 x5 x6 x7 : Option Value} {o : Option Value} {tl : List (Option Value)}  (d : decode cc pc = .ok (.astore 8, 2)) (hp : zpv x7 = true) (hl : 8 < nL) (hn : pc + 2 = n) (k : V K Qf T N P I R kc ks n (x0 :: x1 :: x2 :: x3 :: x4 :: x5 :: x6 :: x7 :: some (.null) :: tl) st) : V K Qf T N P I R kc ks pc (x0 :: x1 :: x2 :: x3 :: x4 :: x5 :: x6 :: x7 :: o :: tl) (.null :: st) := by
  subst hn
  exact fun H locs LS h1 h2 h3 => lv_astoreN K.x K.hb d h3.has hl rfl (fun LS' h4 => k H locs LS' h1 h2 (zL.stored rfl (Or.inr (fun q h => by cases h; exact hp)) h4))
theorem v_iinc_8 {x0 x1 x2 x3 x4 x5 x6 x7 : Option Value} {tl : List (Option Value)} {a b : Int32} {m : Int} (d : decode cc pc = .ok (.iinc 8 m, 3)) (hv : a + Int32.ofInt m = b) (hp : zpv x7 = true) (hl : 8 < nL) (hn : pc + 3 = n) (k : V K Qf T N P I R kc ks n (x0 :: x1 :: x2 :: x3 :: x4 :: x5 :: x6 :: x7 :: some (.int b) :: tl) st) : V K Qf T N P I R kc ks pc (x0 :: x1 :: x2 :: x3 :: x4 :: x5 :: x6 :: x7 :: some (.int a) :: tl) st := by
  subst hn
  intro H locs LS h1 h2 h3
  obtain ⟨j, hj⟩ := List.getElem?_of_mem ((zpr_mem (x0 :: x1 :: x2 :: x3 :: x4 :: x5 :: x6 :: x7 :: some (.int a) :: tl) 0 8 (.int a)).mpr ⟨8, rfl, rfl⟩)
  exact lv_iinc K.x K.hb d h3.has hj hv hl rfl (fun LS' h4 => k H locs LS' h1 h2 (zL.stored rfl (Or.inr (fun q h => by cases h; exact hp)) h4))
theorem v_iload_9 {x0 x1 x2 x3 x4 x5 x6 x7 x8 : Option Value} {tl : List (Option Value)} {a : Int32} (d : decode cc pc = .ok (.iload 9, 2)) (hn : pc + 2 = n) (k : V K Qf T N P I R kc ks n (x0 :: x1 :: x2 :: x3 :: x4 :: x5 :: x6 :: x7 :: x8 :: some (.int a) :: tl) (.int a :: st)) : V K Qf T N P I R kc ks pc (x0 :: x1 :: x2 :: x3 :: x4 :: x5 :: x6 :: x7 :: x8 :: some (.int a) :: tl) st := by
  subst hn
  exact fun H locs LS h1 h2 h3 => lv_iload K.x K.hb d (h3.2.2 9 (.int a) rfl) (k H locs LS h1 h2 h3)
theorem v_aload_9 {x0 x1 x2 x3 x4 x5 x6 x7 x8 : Option Value} {tl : List (Option Value)} {a : Nat} (d : decode cc pc = .ok (.aload 9, 2)) (hn : pc + 2 = n) (k : V K Qf T N P I R kc ks n (x0 :: x1 :: x2 :: x3 :: x4 :: x5 :: x6 :: x7 :: x8 :: some (.ref a) :: tl) (.ref a :: st)) : V K Qf T N P I R kc ks pc (x0 :: x1 :: x2 :: x3 :: x4 :: x5 :: x6 :: x7 :: x8 :: some (.ref a) :: tl) st := by
  subst hn
  exact fun H locs LS h1 h2 h3 => lv_aload K.x K.hb d (h3.2.2 9 (.ref a) rfl) (k H locs LS h1 h2 h3)
theorem v_aloadN_9 {x0 x1 x2 x3 x4 x5 x6 x7 x8 : Option Value} {tl : List (Option Value)} (d : decode cc pc = .ok (.aload 9, 2)) (hn : pc + 2 = n) (k : V K Qf T N P I R kc ks n (x0 :: x1 :: x2 :: x3 :: x4 :: x5 :: x6 :: x7 :: x8 :: some .null :: tl) (.null :: st)) : V K Qf T N P I R kc ks pc (x0 :: x1 :: x2 :: x3 :: x4 :: x5 :: x6 :: x7 :: x8 :: some .null :: tl) st := by
  subst hn
  exact fun H locs LS h1 h2 h3 => lv_aloadN K.x K.hb d (h3.2.2 9 .null rfl) (k H locs LS h1 h2 h3)
theorem v_istore_9 {x0 x1 x2 x3 x4 x5 x6 x7 x8 : Option Value} {o : Option Value} {tl : List (Option Value)} {a : Int32} (d : decode cc pc = .ok (.istore 9, 2)) (hp : zpv x8 = true) (hl : 9 < nL) (hn : pc + 2 = n) (k : V K Qf T N P I R kc ks n (x0 :: x1 :: x2 :: x3 :: x4 :: x5 :: x6 :: x7 :: x8 :: some (.int a) :: tl) st) : V K Qf T N P I R kc ks pc (x0 :: x1 :: x2 :: x3 :: x4 :: x5 :: x6 :: x7 :: x8 :: o :: tl) (.int a :: st) := by
  subst hn
  exact fun H locs LS h1 h2 h3 => lv_istore K.x K.hb d h3.has hl rfl (fun LS' h4 => k H locs LS' h1 h2 (zL.stored rfl (Or.inr (fun q h => by cases h; exact hp)) h4))
theorem v_astore_9 {x0 x1 x2 x3 x4 x5 x6 x7 x8 : Option Value} {o : Option Value} {tl : List (Option Value)} {a : Nat} (d : decode cc pc = .ok (.astore 9, 2)) (hp : zpv x8 = true) (hl : 9 < nL) (hn : pc + 2 = n) (k : V K Qf T N P I R kc ks n (x0 :: x1 :: x2 :: x3 :: x4 :: x5 :: x6 :: x7 :: x8 :: some (.ref a) :: tl) st) : V K Qf T N P I R kc ks pc (x0 :: x1 :: x2 :: x3 :: x4 :: x5 :: x6 :: x7 :: x8 :: o :: tl) (.ref a :: st) := by
  subst hn
  exact fun H locs LS h1 h2 h3 => lv_astore K.x K.hb d h3.has hl rfl (fun LS' h4 => k H locs LS' h1 h2 (zL.stored rfl (Or.inr (fun q h => by cases h; exact hp)) h4))
theorem v_astoreN_9 {x0 x1 x2 x3 x4 x5 x6 x7 x8 : Option Value} {o : Option Value} {tl : List (Option Value)}  (d : decode cc pc = .ok (.astore 9, 2)) (hp : zpv x8 = true) (hl : 9 < nL) (hn : pc + 2 = n) (k : V K Qf T N P I R kc ks n (x0 :: x1 :: x2 :: x3 :: x4 :: x5 :: x6 :: x7 :: x8 :: some (.null) :: tl) st) : V K Qf T N P I R kc ks pc (x0 :: x1 :: x2 :: x3 :: x4 :: x5 :: x6 :: x7 :: x8 :: o :: tl) (.null :: st) := by
  subst hn
  exact fun H locs LS h1 h2 h3 => lv_astoreN K.x K.hb d h3.has hl rfl (fun LS' h4 => k H locs LS' h1 h2 (zL.stored rfl (Or.inr (fun q h => by cases h; exact hp)) h4))
theorem v_iinc_9 {x0 x1 x2 x3 x4 x5 x6 x7 x8 : Option Value} {tl : List (Option Value)} {a b : Int32} {m : Int} (d : decode cc pc = .ok (.iinc 9 m, 3)) (hv : a + Int32.ofInt m = b) (hp : zpv x8 = true) (hl : 9 < nL) (hn : pc + 3 = n) (k : V K Qf T N P I R kc ks n (x0 :: x1 :: x2 :: x3 :: x4 :: x5 :: x6 :: x7 :: x8 :: some (.int b) :: tl) st) : V K Qf T N P I R kc ks pc (x0 :: x1 :: x2 :: x3 :: x4 :: x5 :: x6 :: x7 :: x8 :: some (.int a) :: tl) st := by
  subst hn
  intro H locs LS h1 h2 h3
  obtain ⟨j, hj⟩ := List.getElem?_of_mem ((zpr_mem (x0 :: x1 :: x2 :: x3 :: x4 :: x5 :: x6 :: x7 :: x8 :: some (.int a) :: tl) 0 9 (.int a)).mpr ⟨9, rfl, rfl⟩)
  exact lv_iinc K.x K.hb d h3.has hj hv hl rfl (fun LS' h4 => k H locs LS' h1 h2 (zL.stored rfl (Or.inr (fun q h => by cases h; exact hp)) h4))
theorem v_iload_10 {x0 x1 x2 x3 x4 x5 x6 x7 x8 x9 : Option Value} {tl : List (Option Value)} {a : Int32} (d : decode cc pc = .ok (.iload 10, 2)) (hn : pc + 2 = n) (k : V K Qf T N P I R kc ks n (x0 :: x1 :: x2 :: x3 :: x4 :: x5 :: x6 :: x7 :: x8 :: x9 :: some (.int a) :: tl) (.int a :: st)) : V K Qf T N P I R kc ks pc (x0 :: x1 :: x2 :: x3 :: x4 :: x5 :: x6 :: x7 :: x8 :: x9 :: some (.int a) :: tl) st := by
  subst hn
  exact fun H locs LS h1 h2 h3 => lv_iload K.x K.hb d (h3.2.2 10 (.int a) rfl) (k H locs LS h1 h2 h3)
theorem v_aload_10 {x0 x1 x2 x3 x4 x5 x6 x7 x8 x9 : Option Value} {tl : List (Option Value)} {a : Nat} (d : decode cc pc = .ok (.aload 10, 2)) (hn : pc + 2 = n) (k : V K Qf T N P I R kc ks n (x0 :: x1 :: x2 :: x3 :: x4 :: x5 :: x6 :: x7 :: x8 :: x9 :: some (.ref a) :: tl) (.ref a :: st)) : V K Qf T N P I R kc ks pc (x0 :: x1 :: x2 :: x3 :: x4 :: x5 :: x6 :: x7 :: x8 :: x9 :: some (.ref a) :: tl) st := by
  subst hn
  exact fun H locs LS h1 h2 h3 => lv_aload K.x K.hb d (h3.2.2 10 (.ref a) rfl) (k H locs LS h1 h2 h3)
theorem v_aloadN_10 {x0 x1 x2 x3 x4 x5 x6 x7 x8 x9 : Option Value} {tl : List (Option Value)} (d : decode cc pc = .ok (.aload 10, 2)) (hn : pc + 2 = n) (k : V K Qf T N P I R kc ks n (x0 :: x1 :: x2 :: x3 :: x4 :: x5 :: x6 :: x7 :: x8 :: x9 :: some .null :: tl) (.null :: st)) : V K Qf T N P I R kc ks pc (x0 :: x1 :: x2 :: x3 :: x4 :: x5 :: x6 :: x7 :: x8 :: x9 :: some .null :: tl) st := by
  subst hn
  exact fun H locs LS h1 h2 h3 => lv_aloadN K.x K.hb d (h3.2.2 10 .null rfl) (k H locs LS h1 h2 h3)
theorem v_istore_10 {x0 x1 x2 x3 x4 x5 x6 x7 x8 x9 : Option Value} {o : Option Value} {tl : List (Option Value)} {a : Int32} (d : decode cc pc = .ok (.istore 10, 2)) (hp : zpv x9 = true) (hl : 10 < nL) (hn : pc + 2 = n) (k : V K Qf T N P I R kc ks n (x0 :: x1 :: x2 :: x3 :: x4 :: x5 :: x6 :: x7 :: x8 :: x9 :: some (.int a) :: tl) st) : V K Qf T N P I R kc ks pc (x0 :: x1 :: x2 :: x3 :: x4 :: x5 :: x6 :: x7 :: x8 :: x9 :: o :: tl) (.int a :: st) := by
  subst hn
  exact fun H locs LS h1 h2 h3 => lv_istore K.x K.hb d h3.has hl rfl (fun LS' h4 => k H locs LS' h1 h2 (zL.stored rfl (Or.inr (fun q h => by cases h; exact hp)) h4))
theorem v_astore_10 {x0 x1 x2 x3 x4 x5 x6 x7 x8 x9 : Option Value} {o : Option Value} {tl : List (Option Value)} {a : Nat} (d : decode cc pc = .ok (.astore 10, 2)) (hp : zpv x9 = true) (hl : 10 < nL) (hn : pc + 2 = n) (k : V K Qf T N P I R kc ks n (x0 :: x1 :: x2 :: x3 :: x4 :: x5 :: x6 :: x7 :: x8 :: x9 :: some (.ref a) :: tl) st) : V K Qf T N P I R kc ks pc (x0 :: x1 :: x2 :: x3 :: x4 :: x5 :: x6 :: x7 :: x8 :: x9 :: o :: tl) (.ref a :: st) := by
  subst hn
  exact fun H locs LS h1 h2 h3 => lv_astore K.x K.hb d h3.has hl rfl (fun LS' h4 => k H locs LS' h1 h2 (zL.stored rfl (Or.inr (fun q h => by cases h; exact hp)) h4))
theorem v_astoreN_10 {x0 x1 x2 x3 x4 x5 x6 x7 x8 x9 : Option Value} {o : Option Value} {tl : List (Option Value)}  (d : decode cc pc = .ok (.astore 10, 2)) (hp : zpv x9 = true) (hl : 10 < nL) (hn : pc + 2 = n) (k : V K Qf T N P I R kc ks n (x0 :: x1 :: x2 :: x3 :: x4 :: x5 :: x6 :: x7 :: x8 :: x9 :: some (.null) :: tl) st) : V K Qf T N P I R kc ks pc (x0 :: x1 :: x2 :: x3 :: x4 :: x5 :: x6 :: x7 :: x8 :: x9 :: o :: tl) (.null :: st) := by
  subst hn
  exact fun H locs LS h1 h2 h3 => lv_astoreN K.x K.hb d h3.has hl rfl (fun LS' h4 => k H locs LS' h1 h2 (zL.stored rfl (Or.inr (fun q h => by cases h; exact hp)) h4))
theorem v_iinc_10 {x0 x1 x2 x3 x4 x5 x6 x7 x8 x9 : Option Value} {tl : List (Option Value)} {a b : Int32} {m : Int} (d : decode cc pc = .ok (.iinc 10 m, 3)) (hv : a + Int32.ofInt m = b) (hp : zpv x9 = true) (hl : 10 < nL) (hn : pc + 3 = n) (k : V K Qf T N P I R kc ks n (x0 :: x1 :: x2 :: x3 :: x4 :: x5 :: x6 :: x7 :: x8 :: x9 :: some (.int b) :: tl) st) : V K Qf T N P I R kc ks pc (x0 :: x1 :: x2 :: x3 :: x4 :: x5 :: x6 :: x7 :: x8 :: x9 :: some (.int a) :: tl) st := by
  subst hn
  intro H locs LS h1 h2 h3
  obtain ⟨j, hj⟩ := List.getElem?_of_mem ((zpr_mem (x0 :: x1 :: x2 :: x3 :: x4 :: x5 :: x6 :: x7 :: x8 :: x9 :: some (.int a) :: tl) 0 10 (.int a)).mpr ⟨10, rfl, rfl⟩)
  exact lv_iinc K.x K.hb d h3.has hj hv hl rfl (fun LS' h4 => k H locs LS' h1 h2 (zL.stored rfl (Or.inr (fun q h => by cases h; exact hp)) h4))
theorem v_iload_11 {x0 x1 x2 x3 x4 x5 x6 x7 x8 x9 x10 : Option Value} {tl : List (Option Value)} {a : Int32} (d : decode cc pc = .ok (.iload 11, 2)) (hn : pc + 2 = n) (k : V K Qf T N P I R kc ks n (x0 :: x1 :: x2 :: x3 :: x4 :: x5 :: x6 :: x7 :: x8 :: x9 :: x10 :: some (.int a) :: tl) (.int a :: st)) : V K Qf T N P I R kc ks pc (x0 :: x1 :: x2 :: x3 :: x4 :: x5 :: x6 :: x7 :: x8 :: x9 :: x10 :: some (.int a) :: tl) st := by
  subst hn
  exact fun H locs LS h1 h2 h3 => lv_iload K.x K.hb d (h3.2.2 11 (.int a) rfl) (k H locs LS h1 h2 h3)
theorem v_aload_11 {x0 x1 x2 x3 x4 x5 x6 x7 x8 x9 x10 : Option Value} {tl : List (Option Value)} {a : Nat} (d : decode cc pc = .ok (.aload 11, 2)) (hn : pc + 2 = n) (k : V K Qf T N P I R kc ks n (x0 :: x1 :: x2 :: x3 :: x4 :: x5 :: x6 :: x7 :: x8 :: x9 :: x10 :: some (.ref a) :: tl) (.ref a :: st)) : V K Qf T N P I R kc ks pc (x0 :: x1 :: x2 :: x3 :: x4 :: x5 :: x6 :: x7 :: x8 :: x9 :: x10 :: some (.ref a) :: tl) st := by
  subst hn
  exact fun H locs LS h1 h2 h3 => lv_aload K.x K.hb d (h3.2.2 11 (.ref a) rfl) (k H locs LS h1 h2 h3)
theorem v_aloadN_11 {x0 x1 x2 x3 x4 x5 x6 x7 x8 x9 x10 : Option Value} {tl : List (Option Value)} (d : decode cc pc = .ok (.aload 11, 2)) (hn : pc + 2 = n) (k : V K Qf T N P I R kc ks n (x0 :: x1 :: x2 :: x3 :: x4 :: x5 :: x6 :: x7 :: x8 :: x9 :: x10 :: some .null :: tl) (.null :: st)) : V K Qf T N P I R kc ks pc (x0 :: x1 :: x2 :: x3 :: x4 :: x5 :: x6 :: x7 :: x8 :: x9 :: x10 :: some .null :: tl) st := by
  subst hn
  exact fun H locs LS h1 h2 h3 => lv_aloadN K.x K.hb d (h3.2.2 11 .null rfl) (k H locs LS h1 h2 h3)
theorem v_istore_11 {x0 x1 x2 x3 x4 x5 x6 x7 x8 x9 x10 : Option Value} {o : Option Value} {tl : List (Option Value)} {a : Int32} (d : decode cc pc = .ok (.istore 11, 2)) (hp : zpv x10 = true) (hl : 11 < nL) (hn : pc + 2 = n) (k : V K Qf T N P I R kc ks n (x0 :: x1 :: x2 :: x3 :: x4 :: x5 :: x6 :: x7 :: x8 :: x9 :: x10 :: some (.int a) :: tl) st) : V K Qf T N P I R kc ks pc (x0 :: x1 :: x2 :: x3 :: x4 :: x5 :: x6 :: x7 :: x8 :: x9 :: x10 :: o :: tl) (.int a :: st) := by
  subst hn
  exact fun H locs LS h1 h2 h3 => lv_istore K.x K.hb d h3.has hl rfl (fun LS' h4 => k H locs LS' h1 h2 (zL.stored rfl (Or.inr (fun q h => by cases h; exact hp)) h4))
theorem v_astore_11 {x0 x1 x2 x3 x4 x5 x6 x7 x8 x9 x10 : Option Value} {o : Option Value} {tl : List (Option Value)} {a : Nat} (d : decode cc pc = .ok (.astore 11, 2)) (hp : zpv x10 = true) (hl : 11 < nL) (hn : pc + 2 = n) (k : V K Qf T N P I R kc ks n (x0 :: x1 :: x2 :: x3 :: x4 :: x5 :: x6 :: x7 :: x8 :: x9 :: x10 :: some (.ref a) :: tl) st) : V K Qf T N P I R kc ks pc (x0 :: x1 :: x2 :: x3 :: x4 :: x5 :: x6 :: x7 :: x8 :: x9 :: x10 :: o :: tl) (.ref a :: st) := by
  subst hn
  exact fun H locs LS h1 h2 h3 => lv_astore K.x K.hb d h3.has hl rfl (fun LS' h4 => k H locs LS' h1 h2 (zL.stored rfl (Or.inr (fun q h => by cases h; exact hp)) h4))
theorem v_astoreN_11 {x0 x1 x2 x3 x4 x5 x6 x7 x8 x9 x10 : Option Value} {o : Option Value} {tl : List (Option Value)}  (d : decode cc pc = .ok (.astore 11, 2)) (hp : zpv x10 = true) (hl : 11 < nL) (hn : pc + 2 = n) (k : V K Qf T N P I R kc ks n (x0 :: x1 :: x2 :: x3 :: x4 :: x5 :: x6 :: x7 :: x8 :: x9 :: x10 :: some (.null) :: tl) st) : V K Qf T N P I R kc ks pc (x0 :: x1 :: x2 :: x3 :: x4 :: x5 :: x6 :: x7 :: x8 :: x9 :: x10 :: o :: tl) (.null :: st) := by
  subst hn
  exact fun H locs LS h1 h2 h3 => lv_astoreN K.x K.hb d h3.has hl rfl (fun LS' h4 => k H locs LS' h1 h2 (zL.stored rfl (Or.inr (fun q h => by cases h; exact hp)) h4))
theorem v_iinc_11 {x0 x1 x2 x3 x4 x5 x6 x7 x8 x9 x10 : Option Value} {tl : List (Option Value)} {a b : Int32} {m : Int} (d : decode cc pc = .ok (.iinc 11 m, 3)) (hv : a + Int32.ofInt m = b) (hp : zpv x10 = true) (hl : 11 < nL) (hn : pc + 3 = n) (k : V K Qf T N P I R kc ks n (x0 :: x1 :: x2 :: x3 :: x4 :: x5 :: x6 :: x7 :: x8 :: x9 :: x10 :: some (.int b) :: tl) st) : V K Qf T N P I R kc ks pc (x0 :: x1 :: x2 :: x3 :: x4 :: x5 :: x6 :: x7 :: x8 :: x9 :: x10 :: some (.int a) :: tl) st := by
  subst hn
  intro H locs LS h1 h2 h3
  obtain ⟨j, hj⟩ := List.getElem?_of_mem ((zpr_mem (x0 :: x1 :: x2 :: x3 :: x4 :: x5 :: x6 :: x7 :: x8 :: x9 :: x10 :: some (.int a) :: tl) 0 11 (.int a)).mpr ⟨11, rfl, rfl⟩)
  exact lv_iinc K.x K.hb d h3.has hj hv hl rfl (fun LS' h4 => k H locs LS' h1 h2 (zL.stored rfl (Or.inr (fun q h => by cases h; exact hp)) h4))
theorem v_iload_12 {x0 x1 x2 x3 x4 x5 x6 x7 x8 x9 x10 x11 : Option Value} {tl : List (Option Value)} {a : Int32} (d : decode cc pc = .ok (.iload 12, 2)) (hn : pc + 2 = n) (k : V K Qf T N P I R kc ks n (x0 :: x1 :: x2 :: x3 :: x4 :: x5 :: x6 :: x7 :: x8 :: x9 :: x10 :: x11 :: some (.int a) :: tl) (.int a :: st)) : V K Qf T N P I R kc ks pc (x0 :: x1 :: x2 :: x3 :: x4 :: x5 :: x6 :: x7 :: x8 :: x9 :: x10 :: x11 :: some (.int a) :: tl) st := by
  subst hn
  exact fun H locs LS h1 h2 h3 => lv_iload K.x K.hb d (h3.2.2 12 (.int a) rfl) (k H locs LS h1 h2 h3)
theorem v_aload_12 {x0 x1 x2 x3 x4 x5 x6 x7 x8 x9 x10 x11 : Option Value} {tl : List (Option Value)} {a : Nat} (d : decode cc pc = .ok (.aload 12, 2)) (hn : pc + 2 = n) (k : V K Qf T N P I R kc ks n (x0 :: x1 :: x2 :: x3 :: x4 :: x5 :: x6 :: x7 :: x8 :: x9 :: x10 :: x11 :: some (.ref a) :: tl) (.ref a :: st)) : V K Qf T N P I R kc ks pc (x0 :: x1 :: x2 :: x3 :: x4 :: x5 :: x6 :: x7 :: x8 :: x9 :: x10 :: x11 :: some (.ref a) :: tl) st := by
  subst hn
  exact fun H locs LS h1 h2 h3 => lv_aload K.x K.hb d (h3.2.2 12 (.ref a) rfl) (k H locs LS h1 h2 h3)
theorem v_aloadN_12 {x0 x1 x2 x3 x4 x5 x6 x7 x8 x9 x10 x11 : Option Value} {tl : List (Option Value)} (d : decode cc pc = .ok (.aload 12, 2)) (hn : pc + 2 = n) (k : V K Qf T N P I R kc ks n (x0 :: x1 :: x2 :: x3 :: x4 :: x5 :: x6 :: x7 :: x8 :: x9 :: x10 :: x11 :: some .null :: tl) (.null :: st)) : V K Qf T N P I R kc ks pc (x0 :: x1 :: x2 :: x3 :: x4 :: x5 :: x6 :: x7 :: x8 :: x9 :: x10 :: x11 :: some .null :: tl) st := by
  subst hn
  exact fun H locs LS h1 h2 h3 => lv_aloadN K.x K.hb d (h3.2.2 12 .null rfl) (k H locs LS h1 h2 h3)
theorem v_istore_12 {x0 x1 x2 x3 x4 x5 x6 x7 x8 x9 x10 x11 : Option Value} {o : Option Value} {tl : List (Option Value)} {a : Int32} (d : decode cc pc = .ok (.istore 12, 2)) (hp : zpv x11 = true) (hl : 12 < nL) (hn : pc + 2 = n) (k : V K Qf T N P I R kc ks n (x0 :: x1 :: x2 :: x3 :: x4 :: x5 :: x6 :: x7 :: x8 :: x9 :: x10 :: x11 :: some (.int a) :: tl) st) : V K Qf T N P I R kc ks pc (x0 :: x1 :: x2 :: x3 :: x4 :: x5 :: x6 :: x7 :: x8 :: x9 :: x10 :: x11 :: o :: tl) (.int a :: st) := by
  subst hn
  exact fun H locs LS h1 h2 h3 => lv_istore K.x K.hb d h3.has hl rfl (fun LS' h4 => k H locs LS' h1 h2 (zL.stored rfl (Or.inr (fun q h => by cases h; exact hp)) h4))
theorem v_astore_12 {x0 x1 x2 x3 x4 x5 x6 x7 x8 x9 x10 x11 : Option Value} {o : Option Value} {tl : List (Option Value)} {a : Nat} (d : decode cc pc = .ok (.astore 12, 2)) (hp : zpv x11 = true) (hl : 12 < nL) (hn : pc + 2 = n) (k : V K Qf T N P I R kc ks n (x0 :: x1 :: x2 :: x3 :: x4 :: x5 :: x6 :: x7 :: x8 :: x9 :: x10 :: x11 :: some (.ref a) :: tl) st) : V K Qf T N P I R kc ks pc (x0 :: x1 :: x2 :: x3 :: x4 :: x5 :: x6 :: x7 :: x8 :: x9 :: x10 :: x11 :: o :: tl) (.ref a :: st) := by
  subst hn
  exact fun H locs LS h1 h2 h3 => lv_astore K.x K.hb d h3.has hl rfl (fun LS' h4 => k H locs LS' h1 h2 (zL.stored rfl (Or.inr (fun q h => by cases h; exact hp)) h4))
theorem v_astoreN_12 {x0 x1 x2 x3 x4 x5 x6 x7 x8 x9 x10 x11 : Option Value} {o : Option Value} {tl : List (Option Value)}  (d : decode cc pc = .ok (.astore 12, 2)) (hp : zpv x11 = true) (hl : 12 < nL) (hn : pc + 2 = n) (k : V K Qf T N P I R kc ks n (x0 :: x1 :: x2 :: x3 :: x4 :: x5 :: x6 :: x7 :: x8 :: x9 :: x10 :: x11 :: some (.null) :: tl) st) : V K Qf T N P I R kc ks pc (x0 :: x1 :: x2 :: x3 :: x4 :: x5 :: x6 :: x7 :: x8 :: x9 :: x10 :: x11 :: o :: tl) (.null :: st) := by
  subst hn
  exact fun H locs LS h1 h2 h3 => lv_astoreN K.x K.hb d h3.has hl rfl (fun LS' h4 => k H locs LS' h1 h2 (zL.stored rfl (Or.inr (fun q h => by cases h; exact hp)) h4))
theorem v_iinc_12 {x0 x1 x2 x3 x4 x5 x6 x7 x8 x9 x10 x11 : Option Value} {tl : List (Option Value)} {a b : Int32} {m : Int} (d : decode cc pc = .ok (.iinc 12 m, 3)) (hv : a + Int32.ofInt m = b) (hp : zpv x11 = true) (hl : 12 < nL) (hn : pc + 3 = n) (k : V K Qf T N P I R kc ks n (x0 :: x1 :: x2 :: x3 :: x4 :: x5 :: x6 :: x7 :: x8 :: x9 :: x10 :: x11 :: some (.int b) :: tl) st) : V K Qf T N P I R kc ks pc (x0 :: x1 :: x2 :: x3 :: x4 :: x5 :: x6 :: x7 :: x8 :: x9 :: x10 :: x11 :: some (.int a) :: tl) st := by
  subst hn
  intro H locs LS h1 h2 h3
  obtain ⟨j, hj⟩ := List.getElem?_of_mem ((zpr_mem (x0 :: x1 :: x2 :: x3 :: x4 :: x5 :: x6 :: x7 :: x8 :: x9 :: x10 :: x11 :: some (.int a) :: tl) 0 12 (.int a)).mpr ⟨12, rfl, rfl⟩)
  exact lv_iinc K.x K.hb d h3.has hj hv hl rfl (fun LS' h4 => k H locs LS' h1 h2 (zL.stored rfl (Or.inr (fun q h => by cases h; exact hp)) h4))
theorem v_iload_13 {x0 x1 x2 x3 x4 x5 x6 x7 x8 x9 x10 x11 x12 : Option Value} {tl : List (Option Value)} {a : Int32} (d : decode cc pc = .ok (.iload 13, 2)) (hn : pc + 2 = n) (k : V K Qf T N P I R kc ks n (x0 :: x1 :: x2 :: x3 :: x4 :: x5 :: x6 :: x7 :: x8 :: x9 :: x10 :: x11 :: x12 :: some (.int a) :: tl) (.int a :: st)) : V K Qf T N P I R kc ks pc (x0 :: x1 :: x2 :: x3 :: x4 :: x5 :: x6 :: x7 :: x8 :: x9 :: x10 :: x11 :: x12 :: some (.int a) :: tl) st := by
  subst hn
  exact fun H locs LS h1 h2 h3 => lv_iload K.x K.hb d (h3.2.2 13 (.int a) rfl) (k H locs LS h1 h2 h3)
theorem v_aload_13 {x0 x1 x2 x3 x4 x5 x6 x7 x8 x9 x10 x11 x12 : Option Value} {tl : List (Option Value)} {a : Nat} (d : decode cc pc = .ok (.aload 13, 2)) (hn : pc + 2 = n) (k : V K Qf T N P I R kc ks n (x0 :: x1 :: x2 :: x3 :: x4 :: x5 :: x6 :: x7 :: x8 :: x9 :: x10 :: x11 :: x12 :: some (.ref a) :: tl) (.ref a :: st)) : V K Qf T N P I R kc ks pc (x0 :: x1 :: x2 :: x3 :: x4 :: x5 :: x6 :: x7 :: x8 :: x9 :: x10 :: x11 :: x12 :: some (.ref a) :: tl) st := by
  subst hn
  exact fun H locs LS h1 h2 h3 => lv_aload K.x K.hb d (h3.2.2 13 (.ref a) rfl) (k H locs LS h1 h2 h3)
theorem v_aloadN_13 {x0 x1 x2 x3 x4 x5 x6 x7 x8 x9 x10 x11 x12 : Option Value} {tl : List (Option Value)} (d : decode cc pc = .ok (.aload 13, 2)) (hn : pc + 2 = n) (k : V K Qf T N P I R kc ks n (x0 :: x1 :: x2 :: x3 :: x4 :: x5 :: x6 :: x7 :: x8 :: x9 :: x10 :: x11 :: x12 :: some .null :: tl) (.null :: st)) : V K Qf T N P I R kc ks pc (x0 :: x1 :: x2 :: x3 :: x4 :: x5 :: x6 :: x7 :: x8 :: x9 :: x10 :: x11 :: x12 :: some .null :: tl) st := by
  subst hn
  exact fun H locs LS h1 h2 h3 => lv_aloadN K.x K.hb d (h3.2.2 13 .null rfl) (k H locs LS h1 h2 h3)
theorem v_istore_13 {x0 x1 x2 x3 x4 x5 x6 x7 x8 x9 x10 x11 x12 : Option Value} {o : Option Value} {tl : List (Option Value)} {a : Int32} (d : decode cc pc = .ok (.istore 13, 2)) (hp : zpv x12 = true) (hl : 13 < nL) (hn : pc + 2 = n) (k : V K Qf T N P I R kc ks n (x0 :: x1 :: x2 :: x3 :: x4 :: x5 :: x6 :: x7 :: x8 :: x9 :: x10 :: x11 :: x12 :: some (.int a) :: tl) st) : V K Qf T N P I R kc ks pc (x0 :: x1 :: x2 :: x3 :: x4 :: x5 :: x6 :: x7 :: x8 :: x9 :: x10 :: x11 :: x12 :: o :: tl) (.int a :: st) := by
  subst hn
  exact fun H locs LS h1 h2 h3 => lv_istore K.x K.hb d h3.has hl rfl (fun LS' h4 => k H locs LS' h1 h2 (zL.stored rfl (Or.inr (fun q h => by cases h; exact hp)) h4))
theorem v_astore_13 {x0 x1 x2 x3 x4 x5 x6 x7 x8 x9 x10 x11 x12 : Option Value} {o : Option Value} {tl : List (Option Value)} {a : Nat} (d : decode cc pc = .ok (.astore 13, 2)) (hp : zpv x12 = true) (hl : 13 < nL) (hn : pc + 2 = n) (k : V K Qf T N P I R kc ks n (x0 :: x1 :: x2 :: x3 :: x4 :: x5 :: x6 :: x7 :: x8 :: x9 :: x10 :: x11 :: x12 :: some (.ref a) :: tl) st) : V K Qf T N P I R kc ks pc (x0 :: x1 :: x2 :: x3 :: x4 :: x5 :: x6 :: x7 :: x8 :: x9 :: x10 :: x11 :: x12 :: o :: tl) (.ref a :: st) := by
  subst hn
  exact fun H locs LS h1 h2 h3 => lv_astore K.x K.hb d h3.has hl rfl (fun LS' h4 => k H locs LS' h1 h2 (zL.stored rfl (Or.inr (fun q h => by cases h; exact hp)) h4))
theorem v_astoreN_13 {x0 x1 x2 x3 x4 x5 x6 x7 x8 x9 x10 x11 x12 : Option Value} {o : Option Value} {tl : List (Option Value)}  (d : decode cc pc = .ok (.astore 13, 2)) (hp : zpv x12 = true) (hl : 13 < nL) (hn : pc + 2 = n) (k : V K Qf T N P I R kc ks n (x0 :: x1 :: x2 :: x3 :: x4 :: x5 :: x6 :: x7 :: x8 :: x9 :: x10 :: x11 :: x12 :: some (.null) :: tl) st) : V K Qf T N P I R kc ks pc (x0 :: x1 :: x2 :: x3 :: x4 :: x5 :: x6 :: x7 :: x8 :: x9 :: x10 :: x11 :: x12 :: o :: tl) (.null :: st) := by
  subst hn
  exact fun H locs LS h1 h2 h3 => lv_astoreN K.x K.hb d h3.has hl rfl (fun LS' h4 => k H locs LS' h1 h2 (zL.stored rfl (Or.inr (fun q h => by cases h; exact hp)) h4))
theorem v_iinc_13 {x0 x1 x2 x3 x4 x5 x6 x7 x8 x9 x10 x11 x12 : Option Value} {tl : List (Option Value)} {a b : Int32} {m : Int} (d : decode cc pc = .ok (.iinc 13 m, 3)) (hv : a + Int32.ofInt m = b) (hp : zpv x12 = true) (hl : 13 < nL) (hn : pc + 3 = n) (k : V K Qf T N P I R kc ks n (x0 :: x1 :: x2 :: x3 :: x4 :: x5 :: x6 :: x7 :: x8 :: x9 :: x10 :: x11 :: x12 :: some (.int b) :: tl) st) : V K Qf T N P I R kc ks pc (x0 :: x1 :: x2 :: x3 :: x4 :: x5 :: x6 :: x7 :: x8 :: x9 :: x10 :: x11 :: x12 :: some (.int a) :: tl) st := by
  subst hn
  intro H locs LS h1 h2 h3
  obtain ⟨j, hj⟩ := List.getElem?_of_mem ((zpr_mem (x0 :: x1 :: x2 :: x3 :: x4 :: x5 :: x6 :: x7 :: x8 :: x9 :: x10 :: x11 :: x12 :: some (.int a) :: tl) 0 13 (.int a)).mpr ⟨13, rfl, rfl⟩)
  exact lv_iinc K.x K.hb d h3.has hj hv hl rfl (fun LS' h4 => k H locs LS' h1 h2 (zL.stored rfl (Or.inr (fun q h => by cases h; exact hp)) h4))
theorem v_iload_14 {x0 x1 x2 x3 x4 x5 x6 x7 x8 x9 x10 x11 x12 x13 : Option Value} {tl : List (Option Value)} {a : Int32} (d : decode cc pc = .ok (.iload 14, 2)) (hn : pc + 2 = n) (k : V K Qf T N P I R kc ks n (x0 :: x1 :: x2 :: x3 :: x4 :: x5 :: x6 :: x7 :: x8 :: x9 :: x10 :: x11 :: x12 :: x13 :: some (.int a) :: tl) (.int a :: st)) : V K Qf T N P I R kc ks pc (x0 :: x1 :: x2 :: x3 :: x4 :: x5 :: x6 :: x7 :: x8 :: x9 :: x10 :: x11 :: x12 :: x13 :: some (.int a) :: tl) st := by
  subst hn
  exact fun H locs LS h1 h2 h3 => lv_iload K.x K.hb d (h3.2.2 14 (.int a) rfl) (k H locs LS h1 h2 h3)
theorem v_aload_14 {x0 x1 x2 x3 x4 x5 x6 x7 x8 x9 x10 x11 x12 x13 : Option Value} {tl : List (Option Value)} {a : Nat} (d : decode cc pc = .ok (.aload 14, 2)) (hn : pc + 2 = n) (k : V K Qf T N P I R kc ks n (x0 :: x1 :: x2 :: x3 :: x4 :: x5 :: x6 :: x7 :: x8 :: x9 :: x10 :: x11 :: x12 :: x13 :: some (.ref a) :: tl) (.ref a :: st)) : V K Qf T N P I R kc ks pc (x0 :: x1 :: x2 :: x3 :: x4 :: x5 :: x6 :: x7 :: x8 :: x9 :: x10 :: x11 :: x12 :: x13 :: some (.ref a) :: tl) st := by
  subst hn
  exact fun H locs LS h1 h2 h3 => lv_aload K.x K.hb d (h3.2.2 14 (.ref a) rfl) (k H locs LS h1 h2 h3)
theorem v_aloadN_14 {x0 x1 x2 x3 x4 x5 x6 x7 x8 x9 x10 x11 x12 x13 : Option Value} {tl : List (Option Value)} (d : decode cc pc = .ok (.aload 14, 2)) (hn : pc + 2 = n) (k : V K Qf T N P I R kc ks n (x0 :: x1 :: x2 :: x3 :: x4 :: x5 :: x6 :: x7 :: x8 :: x9 :: x10 :: x11 :: x12 :: x13 :: some .null :: tl) (.null :: st)) : V K Qf T N P I R kc ks pc (x0 :: x1 :: x2 :: x3 :: x4 :: x5 :: x6 :: x7 :: x8 :: x9 :: x10 :: x11 :: x12 :: x13 :: some .null :: tl) st := by
  subst hn
  exact fun H locs LS h1 h2 h3 => lv_aloadN K.x K.hb d (h3.2.2 14 .null rfl) (k H locs LS h1 h2 h3)
theorem v_istore_14 {x0 x1 x2 x3 x4 x5 x6 x7 x8 x9 x10 x11 x12 x13 : Option Value} {o : Option Value} {tl : List (Option Value)} {a : Int32} (d : decode cc pc = .ok (.istore 14, 2)) (hp : zpv x13 = true) (hl : 14 < nL) (hn : pc + 2 = n) (k : V K Qf T N P I R kc ks n (x0 :: x1 :: x2 :: x3 :: x4 :: x5 :: x6 :: x7 :: x8 :: x9 :: x10 :: x11 :: x12 :: x13 :: some (.int a) :: tl) st) : V K Qf T N P I R kc ks pc (x0 :: x1 :: x2 :: x3 :: x4 :: x5 :: x6 :: x7 :: x8 :: x9 :: x10 :: x11 :: x12 :: x13 :: o :: tl) (.int a :: st) := by
  subst hn
  exact fun H locs LS h1 h2 h3 => lv_istore K.x K.hb d h3.has hl rfl (fun LS' h4 => k H locs LS' h1 h2 (zL.stored rfl (Or.inr (fun q h => by cases h; exact hp)) h4))
theorem v_astore_14 {x0 x1 x2 x3 x4 x5 x6 x7 x8 x9 x10 x11 x12 x13 : Option Value} {o : Option Value} {tl : List (Option Value)} {a : Nat} (d : decode cc pc = .ok (.astore 14, 2)) (hp : zpv x13 = true) (hl : 14 < nL) (hn : pc + 2 = n) (k : V K Qf T N P I R kc ks n (x0 :: x1 :: x2 :: x3 :: x4 :: x5 :: x6 :: x7 :: x8 :: x9 :: x10 :: x11 :: x12 :: x13 :: some (.ref a) :: tl) st) : V K Qf T N P I R kc ks pc (x0 :: x1 :: x2 :: x3 :: x4 :: x5 :: x6 :: x7 :: x8 :: x9 :: x10 :: x11 :: x12 :: x13 :: o :: tl) (.ref a :: st) := by
  subst hn
  exact fun H locs LS h1 h2 h3 => lv_astore K.x K.hb d h3.has hl rfl (fun LS' h4 => k H locs LS' h1 h2 (zL.stored rfl (Or.inr (fun q h => by cases h; exact hp)) h4))
theorem v_astoreN_14 {x0 x1 x2 x3 x4 x5 x6 x7 x8 x9 x10 x11 x12 x13 : Option Value} {o : Option Value} {tl : List (Option Value)}  (d : decode cc pc = .ok (.astore 14, 2)) (hp : zpv x13 = true) (hl : 14 < nL) (hn : pc + 2 = n) (k : V K Qf T N P I R kc ks n (x0 :: x1 :: x2 :: x3 :: x4 :: x5 :: x6 :: x7 :: x8 :: x9 :: x10 :: x11 :: x12 :: x13 :: some (.null) :: tl) st) : V K Qf T N P I R kc ks pc (x0 :: x1 :: x2 :: x3 :: x4 :: x5 :: x6 :: x7 :: x8 :: x9 :: x10 :: x11 :: x12 :: x13 :: o :: tl) (.null :: st) := by
  subst hn
  exact fun H locs LS h1 h2 h3 => lv_astoreN K.x K.hb d h3.has hl rfl (fun LS' h4 => k H locs LS' h1 h2 (zL.stored rfl (Or.inr (fun q h => by cases h; exact hp)) h4))
theorem v_iinc_14 {x0 x1 x2 x3 x4 x5 x6 x7 x8 x9 x10 x11 x12 x13 : Option Value} {tl : List (Option Value)} {a b : Int32} {m : Int} (d : decode cc pc = .ok (.iinc 14 m, 3)) (hv : a + Int32.ofInt m = b) (hp : zpv x13 = true) (hl : 14 < nL) (hn : pc + 3 = n) (k : V K Qf T N P I R kc ks n (x0 :: x1 :: x2 :: x3 :: x4 :: x5 :: x6 :: x7 :: x8 :: x9 :: x10 :: x11 :: x12 :: x13 :: some (.int b) :: tl) st) : V K Qf T N P I R kc ks pc (x0 :: x1 :: x2 :: x3 :: x4 :: x5 :: x6 :: x7 :: x8 :: x9 :: x10 :: x11 :: x12 :: x13 :: some (.int a) :: tl) st := by
  subst hn
  intro H locs LS h1 h2 h3
  obtain ⟨j, hj⟩ := List.getElem?_of_mem ((zpr_mem (x0 :: x1 :: x2 :: x3 :: x4 :: x5 :: x6 :: x7 :: x8 :: x9 :: x10 :: x11 :: x12 :: x13 :: some (.int a) :: tl) 0 14 (.int a)).mpr ⟨14, rfl, rfl⟩)
  exact lv_iinc K.x K.hb d h3.has hj hv hl rfl (fun LS' h4 => k H locs LS' h1 h2 (zL.stored rfl (Or.inr (fun q h => by cases h; exact hp)) h4))
theorem v_iload_15 {x0 x1 x2 x3 x4 x5 x6 x7 x8 x9 x10 x11 x12 x13 x14 : Option Value} {tl : List (Option Value)} {a : Int32} (d : decode cc pc = .ok (.iload 15, 2)) (hn : pc + 2 = n) (k : V K Qf T N P I R kc ks n (x0 :: x1 :: x2 :: x3 :: x4 :: x5 :: x6 :: x7 :: x8 :: x9 :: x10 :: x11 :: x12 :: x13 :: x14 :: some (.int a) :: tl) (.int a :: st)) : V K Qf T N P I R kc ks pc (x0 :: x1 :: x2 :: x3 :: x4 :: x5 :: x6 :: x7 :: x8 :: x9 :: x10 :: x11 :: x12 :: x13 :: x14 :: some (.int a) :: tl) st := by
  subst hn
  exact fun H locs LS h1 h2 h3 => lv_iload K.x K.hb d (h3.2.2 15 (.int a) rfl) (k H locs LS h1 h2 h3)
theorem v_aload_15 {x0 x1 x2 x3 x4 x5 x6 x7 x8 x9 x10 x11 x12 x13 x14 : Option Value} {tl : List (Option Value)} {a : Nat} (d : decode cc pc = .ok (.aload 15, 2)) (hn : pc + 2 = n) (k : V K Qf T N P I R kc ks n (x0 :: x1 :: x2 :: x3 :: x4 :: x5 :: x6 :: x7 :: x8 :: x9 :: x10 :: x11 :: x12 :: x13 :: x14 :: some (.ref a) :: tl) (.ref a :: st)) : V K Qf T N P I R kc ks pc (x0 :: x1 :: x2 :: x3 :: x4 :: x5 :: x6 :: x7 :: x8 :: x9 :: x10 :: x11 :: x12 :: x13 :: x14 :: some (.ref a) :: tl) st := by
  subst hn
  exact fun H locs LS h1 h2 h3 => lv_aload K.x K.hb d (h3.2.2 15 (.ref a) rfl) (k H locs LS h1 h2 h3)
theorem v_aloadN_15 {x0 x1 x2 x3 x4 x5 x6 x7 x8 x9 x10 x11 x12 x13 x14 : Option Value} {tl : List (Option Value)} (d : decode cc pc = .ok (.aload 15, 2)) (hn : pc + 2 = n) (k : V K Qf T N P I R kc ks n (x0 :: x1 :: x2 :: x3 :: x4 :: x5 :: x6 :: x7 :: x8 :: x9 :: x10 :: x11 :: x12 :: x13 :: x14 :: some .null :: tl) (.null :: st)) : V K Qf T N P I R kc ks pc (x0 :: x1 :: x2 :: x3 :: x4 :: x5 :: x6 :: x7 :: x8 :: x9 :: x10 :: x11 :: x12 :: x13 :: x14 :: some .null :: tl) st := by
  subst hn
  exact fun H locs LS h1 h2 h3 => lv_aloadN K.x K.hb d (h3.2.2 15 .null rfl) (k H locs LS h1 h2 h3)
theorem v_istore_15 {x0 x1 x2 x3 x4 x5 x6 x7 x8 x9 x10 x11 x12 x13 x14 : Option Value} {o : Option Value} {tl : List (Option Value)} {a : Int32} (d : decode cc pc = .ok (.istore 15, 2)) (hp : zpv x14 = true) (hl : 15 < nL) (hn : pc + 2 = n) (k : V K Qf T N P I R kc ks n (x0 :: x1 :: x2 :: x3 :: x4 :: x5 :: x6 :: x7 :: x8 :: x9 :: x10 :: x11 :: x12 :: x13 :: x14 :: some (.int a) :: tl) st) : V K Qf T N P I R kc ks pc (x0 :: x1 :: x2 :: x3 :: x4 :: x5 :: x6 :: x7 :: x8 :: x9 :: x10 :: x11 :: x12 :: x13 :: x14 :: o :: tl) (.int a :: st) := by
  subst hn
  exact fun H locs LS h1 h2 h3 => lv_istore K.x K.hb d h3.has hl rfl (fun LS' h4 => k H locs LS' h1 h2 (zL.stored rfl (Or.inr (fun q h => by cases h; exact hp)) h4))
theorem v_astore_15 {x0 x1 x2 x3 x4 x5 x6 x7 x8 x9 x10 x11 x12 x13 x14 : Option Value} {o : Option Value} {tl : List (Option Value)} {a : Nat} (d : decode cc pc = .ok (.astore 15, 2)) (hp : zpv x14 = true) (hl : 15 < nL) (hn : pc + 2 = n) (k : V K Qf T N P I R kc ks n (x0 :: x1 :: x2 :: x3 :: x4 :: x5 :: x6 :: x7 :: x8 :: x9 :: x10 :: x11 :: x12 :: x13 :: x14 :: some (.ref a) :: tl) st) : V K Qf T N P I R kc ks pc (x0 :: x1 :: x2 :: x3 :: x4 :: x5 :: x6 :: x7 :: x8 :: x9 :: x10 :: x11 :: x12 :: x13 :: x14 :: o :: tl) (.ref a :: st) := by
  subst hn
  exact fun H locs LS h1 h2 h3 => lv_astore K.x K.hb d h3.has hl rfl (fun LS' h4 => k H locs LS' h1 h2 (zL.stored rfl (Or.inr (fun q h => by cases h; exact hp)) h4))
theorem v_astoreN_15 {x0 x1 x2 x3 x4 x5 x6 x7 x8 x9 x10 x11 x12 x13 x14 : Option Value} {o : Option Value} {tl : List (Option Value)}  (d : decode cc pc = .ok (.astore 15, 2)) (hp : zpv x14 = true) (hl : 15 < nL) (hn : pc + 2 = n) (k : V K Qf T N P I R kc ks n (x0 :: x1 :: x2 :: x3 :: x4 :: x5 :: x6 :: x7 :: x8 :: x9 :: x10 :: x11 :: x12 :: x13 :: x14 :: some (.null) :: tl) st) : V K Qf T N P I R kc ks pc (x0 :: x1 :: x2 :: x3 :: x4 :: x5 :: x6 :: x7 :: x8 :: x9 :: x10 :: x11 :: x12 :: x13 :: x14 :: o :: tl) (.null :: st) := by
  subst hn
  exact fun H locs LS h1 h2 h3 => lv_astoreN K.x K.hb d h3.has hl rfl (fun LS' h4 => k H locs LS' h1 h2 (zL.stored rfl (Or.inr (fun q h => by cases h; exact hp)) h4))
theorem v_iinc_15 {x0 x1 x2 x3 x4 x5 x6 x7 x8 x9 x10 x11 x12 x13 x14 : Option Value} {tl : List (Option Value)} {a b : Int32} {m : Int} (d : decode cc pc = .ok (.iinc 15 m, 3)) (hv : a + Int32.ofInt m = b) (hp : zpv x14 = true) (hl : 15 < nL) (hn : pc + 3 = n) (k : V K Qf T N P I R kc ks n (x0 :: x1 :: x2 :: x3 :: x4 :: x5 :: x6 :: x7 :: x8 :: x9 :: x10 :: x11 :: x12 :: x13 :: x14 :: some (.int b) :: tl) st) : V K Qf T N P I R kc ks pc (x0 :: x1 :: x2 :: x3 :: x4 :: x5 :: x6 :: x7 :: x8 :: x9 :: x10 :: x11 :: x12 :: x13 :: x14 :: some (.int a) :: tl) st := by
  subst hn
  intro H locs LS h1 h2 h3
  obtain ⟨j, hj⟩ := List.getElem?_of_mem ((zpr_mem (x0 :: x1 :: x2 :: x3 :: x4 :: x5 :: x6 :: x7 :: x8 :: x9 :: x10 :: x11 :: x12 :: x13 :: x14 :: some (.int a) :: tl) 0 15 (.int a)).mpr ⟨15, rfl, rfl⟩)
  exact lv_iinc K.x K.hb d h3.has hj hv hl rfl (fun LS' h4 => k H locs LS' h1 h2 (zL.stored rfl (Or.inr (fun q h => by cases h; exact hp)) h4))
theorem v_iload_16 {x0 x1 x2 x3 x4 x5 x6 x7 x8 x9 x10 x11 x12 x13 x14 x15 : Option Value} {tl : List (Option Value)} {a : Int32} (d : decode cc pc = .ok (.iload 16, 2)) (hn : pc + 2 = n) (k : V K Qf T N P I R kc ks n (x0 :: x1 :: x2 :: x3 :: x4 :: x5 :: x6 :: x7 :: x8 :: x9 :: x10 :: x11 :: x12 :: x13 :: x14 :: x15 :: some (.int a) :: tl) (.int a :: st)) : V K Qf T N P I R kc ks pc (x0 :: x1 :: x2 :: x3 :: x4 :: x5 :: x6 :: x7 :: x8 :: x9 :: x10 :: x11 :: x12 :: x13 :: x14 :: x15 :: some (.int a) :: tl) st := by
  subst hn
  exact fun H locs LS h1 h2 h3 => lv_iload K.x K.hb d (h3.2.2 16 (.int a) rfl) (k H locs LS h1 h2 h3)
theorem v_aload_16 {x0 x1 x2 x3 x4 x5 x6 x7 x8 x9 x10 x11 x12 x13 x14 x15 : Option Value} {tl : List (Option Value)} {a : Nat} (d : decode cc pc = .ok (.aload 16, 2)) (hn : pc + 2 = n) (k : V K Qf T N P I R kc ks n (x0 :: x1 :: x2 :: x3 :: x4 :: x5 :: x6 :: x7 :: x8 :: x9 :: x10 :: x11 :: x12 :: x13 :: x14 :: x15 :: some (.ref a) :: tl) (.ref a :: st)) : V K Qf T N P I R kc ks pc (x0 :: x1 :: x2 :: x3 :: x4 :: x5 :: x6 :: x7 :: x8 :: x9 :: x10 :: x11 :: x12 :: x13 :: x14 :: x15 :: some (.ref a) :: tl) st := by
  subst hn
  exact fun H locs LS h1 h2 h3 => lv_aload K.x K.hb d (h3.2.2 16 (.ref a) rfl) (k H locs LS h1 h2 h3)
theorem v_aloadN_16 {x0 x1 x2 x3 x4 x5 x6 x7 x8 x9 x10 x11 x12 x13 x14 x15 : Option Value} {tl : List (Option Value)} (d : decode cc pc = .ok (.aload 16, 2)) (hn : pc + 2 = n) (k : V K Qf T N P I R kc ks n (x0 :: x1 :: x2 :: x3 :: x4 :: x5 :: x6 :: x7 :: x8 :: x9 :: x10 :: x11 :: x12 :: x13 :: x14 :: x15 :: some .null :: tl) (.null :: st)) : V K Qf T N P I R kc ks pc (x0 :: x1 :: x2 :: x3 :: x4 :: x5 :: x6 :: x7 :: x8 :: x9 :: x10 :: x11 :: x12 :: x13 :: x14 :: x15 :: some .null :: tl) st := by
  subst hn
  exact fun H locs LS h1 h2 h3 => lv_aloadN K.x K.hb d (h3.2.2 16 .null rfl) (k H locs LS h1 h2 h3)
theorem v_istore_16 {x0 x1 x2 x3 x4 x5 x6 x7 x8 x9 x10 x11 x12 x13 x14 x15 : Option Value} {o : Option Value} {tl : List (Option Value)} {a : Int32} (d : decode cc pc = .ok (.istore 16, 2)) (hp : zpv x15 = true) (hl : 16 < nL) (hn : pc + 2 = n) (k : V K Qf T N P I R kc ks n (x0 :: x1 :: x2 :: x3 :: x4 :: x5 :: x6 :: x7 :: x8 :: x9 :: x10 :: x11 :: x12 :: x13 :: x14 :: x15 :: some (.int a) :: tl) st) : V K Qf T N P I R kc ks pc (x0 :: x1 :: x2 :: x3 :: x4 :: x5 :: x6 :: x7 :: x8 :: x9 :: x10 :: x11 :: x12 :: x13 :: x14 :: x15 :: o :: tl) (.int a :: st) := by
  subst hn
  exact fun H locs LS h1 h2 h3 => lv_istore K.x K.hb d h3.has hl rfl (fun LS' h4 => k H locs LS' h1 h2 (zL.stored rfl (Or.inr (fun q h => by cases h; exact hp)) h4))
theorem v_astore_16 {x0 x1 x2 x3 x4 x5 x6 x7 x8 x9 x10 x11 x12 x13 x14 x15 : Option Value} {o : Option Value} {tl : List (Option Value)} {a : Nat} (d : decode cc pc = .ok (.astore 16, 2)) (hp : zpv x15 = true) (hl : 16 < nL) (hn : pc + 2 = n) (k : V K Qf T N P I R kc ks n (x0 :: x1 :: x2 :: x3 :: x4 :: x5 :: x6 :: x7 :: x8 :: x9 :: x10 :: x11 :: x12 :: x13 :: x14 :: x15 :: some (.ref a) :: tl) st) : V K Qf T N P I R kc ks pc (x0 :: x1 :: x2 :: x3 :: x4 :: x5 :: x6 :: x7 :: x8 :: x9 :: x10 :: x11 :: x12 :: x13 :: x14 :: x15 :: o :: tl) (.ref a :: st) := by
  subst hn
  exact fun H locs LS h1 h2 h3 => lv_astore K.x K.hb d h3.has hl rfl (fun LS' h4 => k H locs LS' h1 h2 (zL.stored rfl (Or.inr (fun q h => by cases h; exact hp)) h4))
theorem v_astoreN_16 {x0 x1 x2 x3 x4 x5 x6 x7 x8 x9 x10 x11 x12 x13 x14 x15 : Option Value} {o : Option Value} {tl : List (Option Value)}  (d : decode cc pc = .ok (.astore 16, 2)) (hp : zpv x15 = true) (hl : 16 < nL) (hn : pc + 2 = n) (k : V K Qf T N P I R kc ks n (x0 :: x1 :: x2 :: x3 :: x4 :: x5 :: x6 :: x7 :: x8 :: x9 :: x10 :: x11 :: x12 :: x13 :: x14 :: x15 :: some (.null) :: tl) st) : V K Qf T N P I R kc ks pc (x0 :: x1 :: x2 :: x3 :: x4 :: x5 :: x6 :: x7 :: x8 :: x9 :: x10 :: x11 :: x12 :: x13 :: x14 :: x15 :: o :: tl) (.null :: st) := by
  subst hn
  exact fun H locs LS h1 h2 h3 => lv_astoreN K.x K.hb d h3.has hl rfl (fun LS' h4 => k H locs LS' h1 h2 (zL.stored rfl (Or.inr (fun q h => by cases h; exact hp)) h4))
theorem v_iinc_16 {x0 x1 x2 x3 x4 x5 x6 x7 x8 x9 x10 x11 x12 x13 x14 x15 : Option Value} {tl : List (Option Value)} {a b : Int32} {m : Int} (d : decode cc pc = .ok (.iinc 16 m, 3)) (hv : a + Int32.ofInt m = b) (hp : zpv x15 = true) (hl : 16 < nL) (hn : pc + 3 = n) (k : V K Qf T N P I R kc ks n (x0 :: x1 :: x2 :: x3 :: x4 :: x5 :: x6 :: x7 :: x8 :: x9 :: x10 :: x11 :: x12 :: x13 :: x14 :: x15 :: some (.int b) :: tl) st) : V K Qf T N P I R kc ks pc (x0 :: x1 :: x2 :: x3 :: x4 :: x5 :: x6 :: x7 :: x8 :: x9 :: x10 :: x11 :: x12 :: x13 :: x14 :: x15 :: some (.int a) :: tl) st := by
  subst hn
  intro H locs LS h1 h2 h3
  obtain ⟨j, hj⟩ := List.getElem?_of_mem ((zpr_mem (x0 :: x1 :: x2 :: x3 :: x4 :: x5 :: x6 :: x7 :: x8 :: x9 :: x10 :: x11 :: x12 :: x13 :: x14 :: x15 :: some (.int a) :: tl) 0 16 (.int a)).mpr ⟨16, rfl, rfl⟩)
  exact lv_iinc K.x K.hb d h3.has hj hv hl rfl (fun LS' h4 => k H locs LS' h1 h2 (zL.stored rfl (Or.inr (fun q h => by cases h; exact hp)) h4))
theorem v_iload_17 {x0 x1 x2 x3 x4 x5 x6 x7 x8 x9 x10 x11 x12 x13 x14 x15 x16 : Option Value} {tl : List (Option Value)} {a : Int32} (d : decode cc pc = .ok (.iload 17, 2)) (hn : pc + 2 = n) (k : V K Qf T N P I R kc ks n (x0 :: x1 :: x2 :: x3 :: x4 :: x5 :: x6 :: x7 :: x8 :: x9 :: x10 :: x11 :: x12 :: x13 :: x14 :: x15 :: x16 :: some (.int a) :: tl) (.int a :: st)) : V K Qf T N P I R kc ks pc (x0 :: x1 :: x2 :: x3 :: x4 :: x5 :: x6 :: x7 :: x8 :: x9 :: x10 :: x11 :: x12 :: x13 :: x14 :: x15 :: x16 :: some (.int a) :: tl) st := by
  subst hn
  exact fun H locs LS h1 h2 h3 => lv_iload K.x K.hb d (h3.2.2 17 (.int a) rfl) (k H locs LS h1 h2 h3)
theorem v_aload_17 {x0 x1 x2 x3 x4 x5 x6 x7 x8 x9 x10 x11 x12 x13 x14 x15 x16 : Option Value} {tl : List (Option Value)} {a : Nat} (d : decode cc pc = .ok (.aload 17, 2)) (hn : pc + 2 = n) (k : V K Qf T N P I R kc ks n (x0 :: x1 :: x2 :: x3 :: x4 :: x5 :: x6 :: x7 :: x8 :: x9 :: x10 :: x11 :: x12 :: x13 :: x14 :: x15 :: x16 :: some (.ref a) :: tl) (.ref a :: st)) : V K Qf T N P I R kc ks pc (x0 :: x1 :: x2 :: x3 :: x4 :: x5 :: x6 :: x7 :: x8 :: x9 :: x10 :: x11 :: x12 :: x13 :: x14 :: x15 :: x16 :: some (.ref a) :: tl) st := by
  subst hn
  exact fun H locs LS h1 h2 h3 => lv_aload K.x K.hb d (h3.2.2 17 (.ref a) rfl) (k H locs LS h1 h2 h3)
theorem v_aloadN_17 {x0 x1 x2 x3 x4 x5 x6 x7 x8 x9 x10 x11 x12 x13 x14 x15 x16 : Option Value} {tl : List (Option Value)} (d : decode cc pc = .ok (.aload 17, 2)) (hn : pc + 2 = n) (k : V K Qf T N P I R kc ks n (x0 :: x1 :: x2 :: x3 :: x4 :: x5 :: x6 :: x7 :: x8 :: x9 :: x10 :: x11 :: x12 :: x13 :: x14 :: x15 :: x16 :: some .null :: tl) (.null :: st)) : V K Qf T N P I R kc ks pc (x0 :: x1 :: x2 :: x3 :: x4 :: x5 :: x6 :: x7 :: x8 :: x9 :: x10 :: x11 :: x12 :: x13 :: x14 :: x15 :: x16 :: some .null :: tl) st := by
  subst hn
  exact fun H locs LS h1 h2 h3 => lv_aloadN K.x K.hb d (h3.2.2 17 .null rfl) (k H locs LS h1 h2 h3)
theorem v_istore_17 {x0 x1 x2 x3 x4 x5 x6 x7 x8 x9 x10 x11 x12 x13 x14 x15 x16 : Option Value} {o : Option Value} {tl : List (Option Value)} {a : Int32} (d : decode cc pc = .ok (.istore 17, 2)) (hp : zpv x16 = true) (hl : 17 < nL) (hn : pc + 2 = n) (k : V K Qf T N P I R kc ks n (x0 :: x1 :: x2 :: x3 :: x4 :: x5 :: x6 :: x7 :: x8 :: x9 :: x10 :: x11 :: x12 :: x13 :: x14 :: x15 :: x16 :: some (.int a) :: tl) st) : V K Qf T N P I R kc ks pc (x0 :: x1 :: x2 :: x3 :: x4 :: x5 :: x6 :: x7 :: x8 :: x9 :: x10 :: x11 :: x12 :: x13 :: x14 :: x15 :: x16 :: o :: tl) (.int a :: st) := by
  subst hn
  exact fun H locs LS h1 h2 h3 => lv_istore K.x K.hb d h3.has hl rfl (fun LS' h4 => k H locs LS' h1 h2 (zL.stored rfl (Or.inr (fun q h => by cases h; exact hp)) h4))
theorem v_astore_17 {x0 x1 x2 x3 x4 x5 x6 x7 x8 x9 x10 x11 x12 x13 x14 x15 x16 : Option Value} {o : Option Value} {tl : List (Option Value)} {a : Nat} (d : decode cc pc = .ok (.astore 17, 2)) (hp : zpv x16 = true) (hl : 17 < nL) (hn : pc + 2 = n) (k : V K Qf T N P I R kc ks n (x0 :: x1 :: x2 :: x3 :: x4 :: x5 :: x6 :: x7 :: x8 :: x9 :: x10 :: x11 :: x12 :: x13 :: x14 :: x15 :: x16 :: some (.ref a) :: tl) st) : V K Qf T N P I R kc ks pc (x0 :: x1 :: x2 :: x3 :: x4 :: x5 :: x6 :: x7 :: x8 :: x9 :: x10 :: x11 :: x12 :: x13 :: x14 :: x15 :: x16 :: o :: tl) (.ref a :: st) := by
  subst hn
  exact fun H locs LS h1 h2 h3 => lv_astore K.x K.hb d h3.has hl rfl (fun LS' h4 => k H locs LS' h1 h2 (zL.stored rfl (Or.inr (fun q h => by cases h; exact hp)) h4))
theorem v_astoreN_17 {x0 x1 x2 x3 x4 x5 x6 x7 x8 x9 x10 x11 x12 x13 x14 x15 x16 : Option Value} {o : Option Value} {tl : List (Option Value)}  (d : decode cc pc = .ok (.astore 17, 2)) (hp : zpv x16 = true) (hl : 17 < nL) (hn : pc + 2 = n) (k : V K Qf T N P I R kc ks n (x0 :: x1 :: x2 :: x3 :: x4 :: x5 :: x6 :: x7 :: x8 :: x9 :: x10 :: x11 :: x12 :: x13 :: x14 :: x15 :: x16 :: some (.null) :: tl) st) : V K Qf T N P I R kc ks pc (x0 :: x1 :: x2 :: x3 :: x4 :: x5 :: x6 :: x7 :: x8 :: x9 :: x10 :: x11 :: x12 :: x13 :: x14 :: x15 :: x16 :: o :: tl) (.null :: st) := by
  subst hn
  exact fun H locs LS h1 h2 h3 => lv_astoreN K.x K.hb d h3.has hl rfl (fun LS' h4 => k H locs LS' h1 h2 (zL.stored rfl (Or.inr (fun q h => by cases h; exact hp)) h4))
theorem v_iinc_17 {x0 x1 x2 x3 x4 x5 x6 x7 x8 x9 x10 x11 x12 x13 x14 x15 x16 : Option Value} {tl : List (Option Value)} {a b : Int32} {m : Int} (d : decode cc pc = .ok (.iinc 17 m, 3)) (hv : a + Int32.ofInt m = b) (hp : zpv x16 = true) (hl : 17 < nL) (hn : pc + 3 = n) (k : V K Qf T N P I R kc ks n (x0 :: x1 :: x2 :: x3 :: x4 :: x5 :: x6 :: x7 :: x8 :: x9 :: x10 :: x11 :: x12 :: x13 :: x14 :: x15 :: x16 :: some (.int b) :: tl) st) : V K Qf T N P I R kc ks pc (x0 :: x1 :: x2 :: x3 :: x4 :: x5 :: x6 :: x7 :: x8 :: x9 :: x10 :: x11 :: x12 :: x13 :: x14 :: x15 :: x16 :: some (.int a) :: tl) st := by
  subst hn
  intro H locs LS h1 h2 h3
  obtain ⟨j, hj⟩ := List.getElem?_of_mem ((zpr_mem (x0 :: x1 :: x2 :: x3 :: x4 :: x5 :: x6 :: x7 :: x8 :: x9 :: x10 :: x11 :: x12 :: x13 :: x14 :: x15 :: x16 :: some (.int a) :: tl) 0 17 (.int a)).mpr ⟨17, rfl, rfl⟩)
  exact lv_iinc K.x K.hb d h3.has hj hv hl rfl (fun LS' h4 => k H locs LS' h1 h2 (zL.stored rfl (Or.inr (fun q h => by cases h; exact hp)) h4))
theorem v_lload_1 {x0 : Option Value} {tl : List (Option Value)} {a : Int64} (d : decode cc pc = .ok (.lload_n 1, 1)) (hn : pc + 1 = n) (k : V K Qf T N P I R kc ks n (x0 :: some (.long a) :: tl) (.long a :: st)) : V K Qf T N P I R kc ks pc (x0 :: some (.long a) :: tl) st := by
  subst hn
  exact fun H locs LS h1 h2 h3 => lv_lload_n K.x K.hb d rfl (h3.2.2 1 (.long a) rfl) (k H locs LS h1 h2 h3)
end zrule
