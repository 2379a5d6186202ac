/-- how often a corner was seen alone, with this time -/
noncomputable def sgt (N : zN) (w : Nat) (a : Int32) : Int32 := zi (a = N 8 7 w) (N 8 8 w) 0 + 1
/-- whether it is sure now -/
def sur (r : zg) (nw d : Nat) (s : Prop) (c a n : Int32) : Prop := ((∃ q, q < nw ∧ jnd r d s c a q) ∧ 2 ≤ n) ∨ (¬ (∃ q, q < nw ∧ jnd r d s c a q) ∧ 4 ≤ n)
theorem c_X8_sight {E : zE} {T : zT} {N : zN} {P : zP} {I : zI} {R : zR} (e ea pa d w : Nat) (pp : Nat → Nat) (b : Nat → Nat → Nat) (f : zf) (r : zg) (s : Prop) (a : Int32) (hE : REe T N P R ea pa pp r e) (hn : Nt (r 10 e) 13) (hk : ∀ p, p < tn (r 10 e) → Nt (r 11 (12 * e + p)) 4) (hd : d < 7) (hw : (T w).1 = 18) (hp : P 8 0 w = some ea) (hT : RT T N P I R b f r) (h3 : Nt (f 3) 15) (hs : N 8 2 w = zb s) : zC E yX8_sight cX8_sight 5 none (zr0 4 95) [.ref w, .ref (b 0 0), .int (nI d), .int a] T N P I R (zv T (zi (sur r (tn (f 3)) d s (N 8 3 w) a (sgt N w a)) (NZ (u3 (u3 (u3 (u3 (u3 N 8 7 w a) 8 8 w (sgt N w a)) 8 3 w a) 8 7 w (-1)) 8 8 w 0) w (lsn r e (tn (r 10 e)) a d 12 (N 8 4 w, N 8 5 w, N 8 6 w, 0))) (u3 (u3 N 8 7 w a) 8 8 w (sgt N w a))) P I R) := by
  refine zC.intro (ls := [some (.ref w), some (.ref (b 0 0)), some (.int (nI d)), some (.int a), none]) pl_RX8 (zle rfl) 1 rfl (fun K => ?_)
  have key : ∀ n0, sgt N w a = n0 + 1 → V K (zQf K (zv T (zi (sur r (tn (f 3)) d s (N 8 3 w) a (sgt N w a)) (NZ (u3 (u3 (u3 (u3 (u3 N 8 7 w a) 8 8 w (sgt N w a)) 8 3 w a) 8 7 w (-1)) 8 8 w 0) w (lsn r e (tn (r 10 e)) a d 12 (N 8 4 w, N 8 5 w, N 8 6 w, 0))) (u3 (u3 N 8 7 w a) 8 8 w (sgt N w a))) P I R)) T (u3 (u3 N 8 7 w a) 8 8 w n0) P I R 0 0 18 [some (.ref w), some (.ref (b 0 0)), some (.int (nI d)), some (.int a), none] [] := by
    intro n0 h0
    have t1 := hT.1
    refine v_aload_0 dX8_sight_18 rfl ?_
    refine v_dup dX8_sight_19 rfl rfl ?_
    refine v_getN fl_8_27 hw rfl (zle rfl) rfl dX8_sight_20 rfl ?_
    refine v_top u3_self ?_
    refine v_iconst (v := 1) dX8_sight_23 rfl rfl ?_
    refine v_iadd dX8_sight_24 rfl ?_
    refine v_putN fw_8_27 hw rfl (zle rfl) rfl (fun h => by cases h) rfl rfl dX8_sight_25 rfl ?_
    rw [u3_u3]
    refine v_aload_1 dX8_sight_28 rfl ?_
    refine v_aload_0 dX8_sight_29 rfl ?_
    refine v_getN fl_8_9 hw rfl (zle rfl) rfl dX8_sight_30 rfl ?_
    refine v_top (show (u3 (u3 N 8 7 w a) 8 8 w (n0 + 1)) 8 3 w = N 8 3 w from rfl) ?_
    refine v_iload_3 dX8_sight_33 rfl ?_
    refine v_iload_2 dX8_sight_34 rfl ?_
    refine v_aload_0 dX8_sight_35 rfl ?_
    refine v_getN fl_8_37 hw rfl (zle rfl) rfl dX8_sight_36 rfl ?_
    refine v_top (show (u3 (u3 N 8 7 w a) 8 8 w (n0 + 1)) 8 2 w = zb s from hs) ?_
    refine v_callV (ci := 7) (F := TX7) (c_X7_isJoined (N := (u3 (u3 N 8 7 w a) 8 8 w (n0 + 1))) b f r d s (N 8 3 w) a hT h3 hd) yy_X7_isJoined im_X7_isJoined se_X7_isJoined lk_8_92 t1 (zle rfl) rfl (zle rfl) (zle rfl) (zle rfl) (zle rfl) rfl rfl (zle rfl) dX8_sight_39 rfl (zp.use ?_)
    refine v_ifz_eq (tgt := 49) dX8_sight_42 (by decide) rfl (fun c42 => ?_) (fun c42 => ?_)
    · refine v_iconst (v := 4) dX8_sight_49 rfl rfl ?_
      refine v_istore_4 dX8_sight_50 rfl (zle rfl) rfl ?_
      refine v_aload_0 dX8_sight_52 rfl ?_
      refine v_getN fl_8_27 hw rfl (zle rfl) rfl dX8_sight_53 rfl ?_
      refine v_top u3_self ?_
      refine v_iload_4 dX8_sight_56 rfl ?_
      refine v_icmp_lt (tgt := 68) dX8_sight_58 (by decide) rfl (fun c58 => ?_) (fun c58 => ?_)
      · exact v_return rfl (by
      rw [zi_f (by rw [h0]; exact fun h => h.elim (fun h => c42 h.1) (fun h => absurd h.2 (by simp only [Int32.lt_iff_toInt_lt, Int32.le_iff_toInt_le] at *; omega))), h0]
      exact zv.rf) (zle rfl) (zle rfl) dX8_sight_68
      · refine v_aload_0 dX8_sight_61 rfl ?_
        refine v_iload_3 dX8_sight_62 rfl ?_
        refine v_iload_2 dX8_sight_63 rfl ?_
        refine v_callV (ci := 8) (F := TX8) (c_X8_arrive (N := (u3 (u3 N 8 7 w a) 8 8 w (n0 + 1))) e ea pa d w pp r a hE hn hk hd hw hp) yy_X8_arrive im_X8_arrive se_X8_arrive lk_8_96 hw (zle rfl) rfl (zle rfl) (zle rfl) (zle rfl) (zle rfl) rfl rfl (zle rfl) dX8_sight_64 rfl (zp.use ?_)
        refine v_pop dX8_sight_67 rfl rfl ?_
        exact v_return rfl (by
      rw [zi_t (by rw [h0]; exact Or.inr ⟨c42, (by simp only [Int32.lt_iff_toInt_lt, Int32.le_iff_toInt_le] at *; omega)⟩), h0]
      exact zv.rf) (zle rfl) (zle rfl) dX8_sight_68
    · refine v_iconst (v := 2) dX8_sight_45 rfl rfl ?_
      refine v_goto (n := 50) dX8_sight_46 (by decide) ?_
      refine v_istore_4 dX8_sight_50 rfl (zle rfl) rfl ?_
      refine v_aload_0 dX8_sight_52 rfl ?_
      refine v_getN fl_8_27 hw rfl (zle rfl) rfl dX8_sight_53 rfl ?_
      refine v_top u3_self ?_
      refine v_iload_4 dX8_sight_56 rfl ?_
      refine v_icmp_lt (tgt := 68) dX8_sight_58 (by decide) rfl (fun c58 => ?_) (fun c58 => ?_)
      · exact v_return rfl (by
      rw [zi_f (by rw [h0]; exact fun h => h.elim (fun h => absurd h.2 (by simp only [Int32.lt_iff_toInt_lt, Int32.le_iff_toInt_le] at *; omega)) (fun h => h.1 c42)), h0]
      exact zv.rf) (zle rfl) (zle rfl) dX8_sight_68
      · refine v_aload_0 dX8_sight_61 rfl ?_
        refine v_iload_3 dX8_sight_62 rfl ?_
        refine v_iload_2 dX8_sight_63 rfl ?_
        refine v_callV (ci := 8) (F := TX8) (c_X8_arrive (N := (u3 (u3 N 8 7 w a) 8 8 w (n0 + 1))) e ea pa d w pp r a hE hn hk hd hw hp) yy_X8_arrive im_X8_arrive se_X8_arrive lk_8_96 hw (zle rfl) rfl (zle rfl) (zle rfl) (zle rfl) (zle rfl) rfl rfl (zle rfl) dX8_sight_64 rfl (zp.use ?_)
        refine v_pop dX8_sight_67 rfl rfl ?_
        exact v_return rfl (by
      rw [zi_t (by rw [h0]; exact Or.inl ⟨c42, (by simp only [Int32.lt_iff_toInt_lt, Int32.le_iff_toInt_le] at *; omega)⟩), h0]
      exact zv.rf) (zle rfl) (zle rfl) dX8_sight_68
  refine v_iload_3 dX8_sight_0 rfl ?_
  refine v_aload_0 dX8_sight_1 rfl ?_
  refine v_getN fl_8_24 hw rfl (zle rfl) rfl dX8_sight_2 rfl ?_
  refine v_icmp_eq (tgt := 18) dX8_sight_5 (by decide) rfl (fun c5 => ?_) (fun c5 => ?_)
  · refine v_heap rfl (show N = u3 (u3 N 8 7 w a) 8 8 w (N 8 8 w) by
      have e7 : u3 N 8 7 w a = N := by rw [show a = N 8 7 w from c5, u3_id]
      rw [e7, u3_id]) rfl rfl rfl ?_
    exact key (N 8 8 w) (by unfold sgt; rw [zi_t c5])
  · refine v_aload_0 dX8_sight_8 rfl ?_
    refine v_iload_3 dX8_sight_9 rfl ?_
    refine v_putN fw_8_24 hw rfl (zle rfl) rfl (fun h => by cases h) rfl rfl dX8_sight_10 rfl ?_
    refine v_aload_0 dX8_sight_13 rfl ?_
    refine v_iconst (v := 0) dX8_sight_14 rfl rfl ?_
    refine v_putN fw_8_27 hw rfl (zle rfl) rfl (fun h => by cases h) rfl rfl dX8_sight_15 rfl ?_
    exact key 0 (by unfold sgt; rw [zi_f c5])
