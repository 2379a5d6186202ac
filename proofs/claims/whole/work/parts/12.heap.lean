/-! rules of V for the heap's instructions -/
/-- what is known of a field as its instruction names it: its class's number, its place, final, its type -/
def zFl (own : String) (idx ci k : Nat) (fin : Bool) (ty : FieldType) : Prop := ∃ (C : String) (F : u_T) (ty0 : Nat → FieldType), vwCl[ci]? = some (C, F, zn ci) ∧ (∀ w ∈ u_ws C F (zn ci), w ∈ lw_tbl) ∧ (∀ j, j < zn ci → parseFieldDescriptor (F j).2.2.1 = some (ty0 j)) ∧ (∀ a, a < zn ci → ∀ b, b < zn ci → a ≠ b → (F a).2.1 ≠ (F b).2.1) ∧ k < zn ci ∧
  (Cond.fieldLink own idx (F k).1 (F k).2.1 (F k).2.2.1 ∈ lw_tbl ∨ ∃ host : String, Cond.fieldLinkNest own idx (F k).1 (F k).2.1 (F k).2.2.1 host ∈ lw_tbl) ∧ (F k).2.2.2 = fin ∧ parseFieldDescriptor (F k).2.2.1 = some ty ∧ (fin = true → (F k).1 = own ∧ Cond.fieldLink own idx (F k).1 (F k).2.1 (F k).2.2.1 ∈ lw_tbl)
def zFg (own : String) (idx ci k : Nat) : Prop := ∃ (C : String) (F : u_T), vwCl[ci]? = some (C, F, zn ci) ∧ (∀ w ∈ u_ws C F (zn ci), w ∈ lw_tbl) ∧ k < zn ci ∧ (Cond.fieldLink own idx (F k).1 (F k).2.1 (F k).2.2.1 ∈ lw_tbl ∨ ∃ host : String, Cond.fieldLinkNest own idx (F k).1 (F k).2.1 (F k).2.2.1 host ∈ lw_tbl)
theorem zlay_ok {C : String} {F : u_T} {n : Nat} {w : Cond} (h : w ∈ u_ws C F n) : zOk w = true := by
  obtain ⟨k, -, rfl⟩ := List.mem_map.mp h
  unfold u_lay
  split <;> rfl
section zheap
variable {E : zE} {y : MethodName} {cc : ByteArray} {nL : Nat} {ret : Option FieldType} {rm : Room} {K : zK E y cc nL ret rm} {Qf : State → Prop} {T : zT} {N : zN} {P : zP} {I : zI} {R : zR} {kc ks pc n : Nat} {ls : List (Option Value)} {st : List Value}
variable {a ci k idx : Nat} {fin : Bool} {ty : FieldType}
theorem zK.lays (K : zK E y cc nL ret rm) {C : String} {F : u_T} {n : Nat} (h : ∀ w ∈ u_ws C F n, w ∈ lw_tbl) : ∀ w ∈ u_ws C F n, w.before K.1.a K.1.s = true := fun w hw => K.wd (h w hw) (zlay_ok hw)
theorem zcell_obj {kA : Nat → ClassId} (hT : (T a).1 = 10 + ci) (hci : ci < 20) : zcell kA T N P I R a = some (.inr (ci, zF N P ci a)) := by
  unfold zcell
  rw [hT, if_neg (by omega), if_neg (by omega), if_pos (by omega), show 10 + ci - 10 = ci by omega]
theorem zcell_num {kA : Nat → ClassId} {t len : Nat} (hT : T a = (t, len)) (h0 : t ≠ 0) (h1 : t < 10) : zcell kA T N P I R a = some (.inl (kA t, len, .inl (I a))) := by
  unfold zcell
  rw [hT, if_neg h0, if_pos h1]
theorem zcell_ref {kA : Nat → ClassId} {t len : Nat} (hT : T a = (t, len)) (h1 : 30 ≤ t) : zcell kA T N P I R a = some (.inl (kA t, len, .inr (.inr (.inr (.inr (R a)))))) := by
  unfold zcell
  rw [hT]
  show (if t = 0 then none else if t < 10 then _ else if t < 30 then _ else _) = _
  rw [if_neg (by omega), if_neg (by omega), if_neg (by omega)]
theorem zcell_congr {kA : Nat → ClassId} {T' : zT} {N' : zN} {P' : zP} {I' : zI} {R' : zR} {b : Nat} (h1 : T' b = T b) (h2 : ∀ c, zF N' P' c b = zF N P c b) (h3 : I' b = I b) (h4 : R' b = R b) : zcell kA T' N' P' I' R' b = zcell kA T N P I R b := by
  unfold zcell
  rw [h1, h2, h3, h4]
theorem v_get {t : Nat} (hf : zFg y.cls idx ci k) (hci : ci < 20) (hT : (T a).1 = t) (ht : t = 10 + ci) {v : Value} (hv : (if zr ci k = true then va_rf (P ci k a) else Value.int (N ci k a)) = v) (d : decode cc pc = .ok (.getfield idx, 3)) (hn : pc + 3 = n)
    (kk : V K Qf T N P I R kc ks n ls (v :: st)) : V K Qf T N P I R kc ks pc ls (.ref a :: st) := by
  subst hn; subst ht
  intro H locs LS h1 h2 h3
  obtain ⟨ws, g1, g2, g3⟩ := id h1
  obtain ⟨C, F, f1, f2, f5, f6⟩ := hf
  obtain ⟨q, hq⟩ := g3 a _ (zcell_obj hT hci)
  have hv' : (zF N P ci a)[k]? = some v := by rw [zF_get f5, hv]
  rcases f6 with f6 | ⟨host, f6⟩
  · exact va_get K.x K.hb (K.lays f2) (fun _ h => h) K.ho K.kk g1 q hq f1 k f5 (K.wd f6 rfl) (fun _ h => h) hv' d (kk H locs LS h1 h2 h3)
  · exact va_getN K.x K.hb (K.lays f2) (fun _ h => h) K.ho K.kk g1 q hq f1 k f5 (K.wd f6 rfl) (fun _ h => h) hv' d (kk H locs LS h1 h2 h3)
theorem v_getN {t : Nat} (hf : zFg y.cls idx ci k) (hT : (T a).1 = t) (ht : t = 10 + ci) (hci : ci < 20) (hz : zr ci k = false) (d : decode cc pc = .ok (.getfield idx, 3)) (hn : pc + 3 = n)
    (kk : V K Qf T N P I R kc ks n ls (.int (N ci k a) :: st)) : V K Qf T N P I R kc ks pc ls (.ref a :: st) := v_get hf hci hT ht (by rw [hz]; rfl) d hn kk
theorem v_getP {t b : Nat} (hf : zFg y.cls idx ci k) (hb : P ci k a = some b) (hT : (T a).1 = t) (ht : t = 10 + ci) (hci : ci < 20) (hz : zr ci k = true) (d : decode cc pc = .ok (.getfield idx, 3)) (hn : pc + 3 = n)
    (kk : V K Qf T N P I R kc ks n ls (.ref b :: st)) : V K Qf T N P I R kc ks pc ls (.ref a :: st) := v_get hf hci hT ht (by rw [hz, hb]; rfl) d hn kk
theorem v_getP0 {t : Nat} (hf : zFg y.cls idx ci k) (hb : P ci k a = none) (hT : (T a).1 = t) (ht : t = 10 + ci) (hci : ci < 20) (hz : zr ci k = true) (d : decode cc pc = .ok (.getfield idx, 3)) (hn : pc + 3 = n)
    (kk : V K Qf T N P I R kc ks n ls (.null :: st)) : V K Qf T N P I R kc ks pc ls (.ref a :: st) := v_get hf hci hT ht (by rw [hz, hb]; rfl) d hn kk
theorem v_put_core (hf : zFl y.cls idx ci k fin ty) (hci : ci < 20) (hT : (T a).1 = 10 + ci) (hi : fin = true → y.name = "<init>") {v : Value} (hn1 : narrow ty v = v) (hn2 : fits ty v = true) (d : decode cc pc = .ok (.putfield idx, 3)) (hn : pc + 3 = n) {N' : zN} {P' : zP} (hs : (zF N P ci a).set k v = zF N' P' ci a) (ho : ∀ b, b ≠ a → ∀ c, zF N' P' c b = zF N P c b)
    (kk : V K Qf T N' P' I R kc ks n ls st) : V K Qf T N P I R kc ks pc ls (v :: .ref a :: st) := by
  subst hn
  intro H locs LS h1 h2 h3
  obtain ⟨ws, g1, g2, g3⟩ := id h1
  obtain ⟨C, F, ty0, f1, f2, f3, f4, f5, f6, f7, f8, f9⟩ := hf
  obtain ⟨q, hq⟩ := g3 a _ (zcell_obj hT hci)
  have fin' : ∀ (H1 : Heap) (locs1 : List Loc), va_P E.1 vwCl (ws.set q (a, .inr (ci, (zF N P ci a).set k v))) H1 → va_D (zA E) (ws.set q (a, .inr (ci, (zF N P ci a).set k v))) → va_S (zA E) K.1.s.heap H1 locs1 → W K.1.p K.1.l K.1.e K.1.R K.1.s K.1.m K.1.a K.1.b K.1.t K.1.c H1 locs1 kc ks Qf (F0 K.1.m (pc + 3) LS st) := by
    intro H1 locs1 p1 p2 p3
    rw [hs] at p1 p2
    exact kk H1 locs1 LS ⟨_, p1, p2, g3.set hq (zcell_obj hT hci) (fun b hb => zcell_congr rfl (ho b hb) rfl rfl)⟩ p3 h3
  cases hfi : fin with
  | false =>
    rcases f6 with f6 | ⟨host, f6⟩
    · exact va_put K.x K.hb (K.lays f2) (fun _ h => h) ty0 f3 f4 K.ho K.kk g1 g2 h2 q hq f1 k f5 (K.wd f6 rfl) (fun _ h => h) (f7.trans hfi) f8 hn1 hn2 (by rw [zF_len]; exact f5) d fin'
    · exact va_putN K.x K.hb (K.lays f2) (fun _ h => h) ty0 f3 f4 K.ho K.kk g1 g2 h2 q hq f1 k f5 (K.wd f6 rfl) (fun _ h => h) (f7.trans hfi) f8 hn1 hn2 (by rw [zF_len]; exact f5) d fin'
  | true => exact va_putF K.x K.hb (K.lays f2) (fun _ h => h) ty0 f3 f4 K.ho K.kk g1 g2 h2 q hq f1 k f5 (K.wd (f9 hfi).2 rfl) (fun _ h => h) (f7.trans hfi) (K.hn.trans (hi hfi)) (f9 hfi).1 f8 hn1 hn2 (by rw [zF_len]; exact f5) d fin'
theorem v_putN {t : Nat} {x : Int32} (hf : zFl y.cls idx ci k fin ty) (hT : (T a).1 = t) (ht : t = 10 + ci) (hci : ci < 20) (hz : zr ci k = false) (hi : fin = true → y.name = "<init>") (hn1 : narrow ty (.int x) = .int x) (hn2 : fits ty (.int x) = true) (d : decode cc pc = .ok (.putfield idx, 3)) (hn : pc + 3 = n)
    (kk : V K Qf T (u3 N ci k a x) P I R kc ks n ls st) : V K Qf T N P I R kc ks pc ls (.int x :: .ref a :: st) := by
  subst ht
  exact v_put_core hf hci hT hi hn1 hn2 d hn (zF_setN hz) (fun _ hb _ => zF_neN hb) kk
theorem v_putP {t b : Nat} (hf : zFl y.cls idx ci k fin ty) (hT : (T a).1 = t) (ht : t = 10 + ci) (hci : ci < 20) (hz : zr ci k = true) (hi : fin = true → y.name = "<init>") (hn1 : narrow ty (.ref b) = .ref b) (hn2 : fits ty (.ref b) = true) (d : decode cc pc = .ok (.putfield idx, 3)) (hn : pc + 3 = n)
    (kk : V K Qf T N (u3 P ci k a (some b)) I R kc ks n ls st) : V K Qf T N P I R kc ks pc ls (.ref b :: .ref a :: st) := by
  subst ht
  exact v_put_core hf hci hT hi hn1 hn2 d hn (zF_setP (x := some b) hz) (fun _ hb _ => zF_neP hb) kk
-- arrays
variable {len j : Nat} {i x : Int32}
theorem v_iald (hT : T a = (1, len)) (hi : i = nI j) (hj : j < len) (hl : len < 2 ^ 31) (d : decode cc pc = .ok (.iaload, 1)) (hn : pc + 1 = n) (kk : V K Qf T N P I R kc ks n ls (.int (I a j) :: st)) : V K Qf T N P I R kc ks pc ls (.int i :: .ref a :: st) := by
  subst hn
  intro H locs LS h1 h2 h3
  obtain ⟨ws, g1, g2, g3⟩ := id h1
  obtain ⟨q, hq⟩ := g3 a _ (zcell_num hT (by decide) (by decide))
  subst hi
  refine va_iald K.x K.hb K.kk g1 q 0 hq rfl (vp_in_nI hj hl) d ?_
  rw [nI_clamp (by omega)]
  exact kk H locs LS h1 h2 h3
theorem v_zald (hT : T a = (2, len)) (hi : i = nI j) (hj : j < len) (hl : len < 2 ^ 31) (d : decode cc pc = .ok (.baload, 1)) (hn : pc + 1 = n) (kk : V K Qf T N P I R kc ks n ls (.int (I a j) :: st)) : V K Qf T N P I R kc ks pc ls (.int i :: .ref a :: st) := by
  subst hn
  intro H locs LS h1 h2 h3
  obtain ⟨ws, g1, g2, g3⟩ := id h1
  obtain ⟨q, hq⟩ := g3 a _ (zcell_num hT (by decide) (by decide))
  subst hi
  refine va_zald K.x K.hb K.kk g1 q 1 hq rfl (vp_in_nI hj hl) d ?_
  rw [nI_clamp (by omega)]
  exact kk H locs LS h1 h2 h3
theorem v_bald (hT : T a = (3, len)) (hi : i = nI j) (hj : j < len) (hl : len < 2 ^ 31) (d : decode cc pc = .ok (.baload, 1)) (hn : pc + 1 = n) (kk : V K Qf T N P I R kc ks n ls (.int (I a j) :: st)) : V K Qf T N P I R kc ks pc ls (.int i :: .ref a :: st) := by
  subst hn
  intro H locs LS h1 h2 h3
  obtain ⟨ws, g1, g2, g3⟩ := id h1
  obtain ⟨q, hq⟩ := g3 a _ (zcell_num hT (by decide) (by decide))
  subst hi
  refine va_bald K.x K.hb K.kk g1 q 2 hq rfl (vp_in_nI hj hl) d ?_
  rw [nI_clamp (by omega)]
  exact kk H locs LS h1 h2 h3
theorem zI_set {t : Nat} {f : Nat → Int32} {ws : va_W} {q : Nat} {e0 : va_E} (g3 : zCov E T N P I R ws) (hT : T a = (t, len)) (h0 : t ≠ 0) (h1 : t < 10) (hq : ws[q]? = some (a, e0)) (I' : zI) (ha : I' a = f) (ho : ∀ b, b ≠ a → I' b = I b) : zCov E T N P I' R (ws.set q (a, .inl (E.2.1 t, len, .inl f))) :=
  g3.set hq (by rw [zcell_num hT h0 h1, ha]) (fun b hb => zcell_congr rfl (fun _ => rfl) (ho b hb) rfl)
theorem u2_at (f : Nat → Nat → Int32) (v : Int32) : u2 f a j v a = upd (f a) j v := by
  funext q
  simp [u2, upd]
theorem u2_off {α : Type} (f : Nat → Nat → α) (v : α) {b : Nat} (h : b ≠ a) : u2 f a j v b = f b := by
  funext q
  simp [u2, h]
theorem v_iast (hT : T a = (1, len)) (hi : i = nI j) (hj : j < len) (hl : len < 2 ^ 31) (d : decode cc pc = .ok (.iastore, 1)) (hn : pc + 1 = n) (kk : V K Qf T N P (u2 I a j x) R kc ks n ls st) : V K Qf T N P I R kc ks pc ls (.int x :: .int i :: .ref a :: st) := by
  subst hn
  intro H locs LS h1 h2 h3
  obtain ⟨ws, g1, g2, g3⟩ := id h1
  obtain ⟨q, hq⟩ := g3 a _ (zcell_num hT (by decide) (by decide))
  subst hi
  refine va_iast K.x K.hb K.kk g1 g2 h2 q 0 hq rfl (vp_in_nI hj hl) d fun H1 locs1 p1 p2 p3 => ?_
  rw [nI_clamp (by omega)] at p1 p2
  exact kk H1 locs1 LS ⟨_, p1, p2, zI_set g3 hT (by decide) (by decide) hq _ (u2_at I x) (fun b hb => u2_off I x hb)⟩ p3 h3
theorem v_zast {x' : Int32} (hT : T a = (2, len)) (hi : i = nI j) (hj : j < len) (hl : len < 2 ^ 31) (hx : vp_nar .boolean x = x') (d : decode cc pc = .ok (.bastore, 1)) (hn : pc + 1 = n) (kk : V K Qf T N P (u2 I a j x') R kc ks n ls st) : V K Qf T N P I R kc ks pc ls (.int x :: .int i :: .ref a :: st) := by
  subst hn
  intro H locs LS h1 h2 h3
  obtain ⟨ws, g1, g2, g3⟩ := id h1
  obtain ⟨q, hq⟩ := g3 a _ (zcell_num hT (by decide) (by decide))
  subst hi; subst hx
  refine va_zast K.x K.hb K.kk g1 g2 h2 q 1 hq rfl (vp_in_nI hj hl) d fun H1 locs1 p1 p2 p3 => ?_
  rw [nI_clamp (by omega)] at p1 p2
  exact kk H1 locs1 LS ⟨_, p1, p2, zI_set g3 hT (by decide) (by decide) hq _ (u2_at I _) (fun b hb => u2_off I _ hb)⟩ p3 h3
theorem v_bast {x' : Int32} (hT : T a = (3, len)) (hi : i = nI j) (hj : j < len) (hl : len < 2 ^ 31) (hx : vp_nar .byte x = x') (d : decode cc pc = .ok (.bastore, 1)) (hn : pc + 1 = n) (kk : V K Qf T N P (u2 I a j x') R kc ks n ls st) : V K Qf T N P I R kc ks pc ls (.int x :: .int i :: .ref a :: st) := by
  subst hn
  intro H locs LS h1 h2 h3
  obtain ⟨ws, g1, g2, g3⟩ := id h1
  obtain ⟨q, hq⟩ := g3 a _ (zcell_num hT (by decide) (by decide))
  subst hi; subst hx
  refine va_bast K.x K.hb K.kk g1 g2 h2 q 2 hq rfl (vp_in_nI hj hl) d fun H1 locs1 p1 p2 p3 => ?_
  rw [nI_clamp (by omega)] at p1 p2
  exact kk H1 locs1 LS ⟨_, p1, p2, zI_set g3 hT (by decide) (by decide) hq _ (u2_at I _) (fun b hb => u2_off I _ hb)⟩ p3 h3
/-- where an array of objects of class ci stands among the arrays' types -/
def zti (ci t0 : Nat) (C : String) : Prop := ∀ kA : Nat → ClassId, (ztys kA)[t0]? = some (kA (30 + ci), .object C)
theorem v_aald {t0 : Nat} {C : String} (ht : zti ci t0 C) (hT : T a = (30 + ci, len)) (hi : i = nI j) (hj : j < len) (hl : len < 2 ^ 31) {b : Nat} (hb : R a j = some b) (d : decode cc pc = .ok (.aaload, 1)) (hn : pc + 1 = n) (kk : V K Qf T N P I R kc ks n ls (.ref b :: st)) : V K Qf T N P I R kc ks pc ls (.int i :: .ref a :: st) := by
  subst hn
  intro H locs LS h1 h2 h3
  obtain ⟨ws, g1, g2, g3⟩ := id h1
  obtain ⟨q, hq⟩ := g3 a _ (zcell_ref hT (by omega))
  subst hi
  refine va_aldq K.x K.hb K.kk g1 q t0 hq (ht _) (vp_in_nI hj hl) d ?_
  rw [nI_clamp (by omega), hb]
  exact kk H locs LS h1 h2 h3
theorem v_aaldN {t0 : Nat} {C : String} (ht : zti ci t0 C) (hT : T a = (30 + ci, len)) (hi : i = nI j) (hj : j < len) (hl : len < 2 ^ 31) (hb : R a j = none) (d : decode cc pc = .ok (.aaload, 1)) (hn : pc + 1 = n) (kk : V K Qf T N P I R kc ks n ls (.null :: st)) : V K Qf T N P I R kc ks pc ls (.int i :: .ref a :: st) := by
  subst hn
  intro H locs LS h1 h2 h3
  obtain ⟨ws, g1, g2, g3⟩ := id h1
  obtain ⟨q, hq⟩ := g3 a _ (zcell_ref hT (by omega))
  subst hi
  refine va_aldq K.x K.hb K.kk g1 q t0 hq (ht _) (vp_in_nI hj hl) d ?_
  rw [nI_clamp (by omega), hb]
  exact kk H locs LS h1 h2 h3
theorem u2_atR (f : Nat → Nat → Option Nat) (v : Option Nat) : u2 f a j v a = va_up (f a) j v := by
  funext q
  simp [u2, va_up]
theorem v_aast {t0 : Nat} {C : String} {F : u_T} {m : Nat} (ht : zti ci t0 C) (hc : vwCl[ci]? = some (C, F, m)) (hci : ci < 20) (hT : T a = (30 + ci, len)) (hi : i = nI j) (hj : j < len) (hl : len < 2 ^ 31) {b : Nat} (hb : (T b).1 = 10 + ci) (d : decode cc pc = .ok (.aastore, 1)) (hn : pc + 1 = n) (kk : V K Qf T N P I (u2 R a j (some b)) kc ks n ls st) : V K Qf T N P I R kc ks pc ls (.ref b :: .int i :: .ref a :: st) := by
  subst hn
  intro H locs LS h1 h2 h3
  obtain ⟨ws, g1, g2, g3⟩ := id h1
  obtain ⟨q, hq⟩ := g3 a _ (zcell_ref hT (by omega))
  obtain ⟨q2, hq2⟩ := g3 b _ (zcell_obj hb hci)
  subst hi
  refine va_astq (r := (C, F, m)) K.x K.hb K.kk g1 g2 h2 q t0 q2 ci hq (ht _) hq2 hc (vp_in_nI hj hl) d fun H1 locs1 p1 p2 p3 => ?_
  rw [nI_clamp (by omega)] at p1 p2
  exact kk H1 locs1 LS ⟨_, p1, p2, g3.set hq (by rw [zcell_ref hT (by omega), u2_atR]) (fun b hb => zcell_congr rfl (fun _ => rfl) rfl (u2_off R _ hb))⟩ p3 h3
theorem v_aastN {t0 : Nat} {C : String} (ht : zti ci t0 C) (hT : T a = (30 + ci, len)) (hi : i = nI j) (hj : j < len) (hl : len < 2 ^ 31) (d : decode cc pc = .ok (.aastore, 1)) (hn : pc + 1 = n) (kk : V K Qf T N P I (u2 R a j none) kc ks n ls st) : V K Qf T N P I R kc ks pc ls (.null :: .int i :: .ref a :: st) := by
  subst hn
  intro H locs LS h1 h2 h3
  obtain ⟨ws, g1, g2, g3⟩ := id h1
  obtain ⟨q, hq⟩ := g3 a _ (zcell_ref hT (by omega))
  subst hi
  refine va_astqN K.x K.hb K.kk g1 g2 h2 q t0 hq (ht _) (vp_in_nI hj hl) d fun H1 locs1 p1 p2 p3 => ?_
  rw [nI_clamp (by omega)] at p1 p2
  exact kk H1 locs1 LS ⟨_, p1, p2, g3.set hq (by rw [zcell_ref hT (by omega), u2_atR]) (fun b hb => zcell_congr rfl (fun _ => rfl) rfl (u2_off R _ hb))⟩ p3 h3
theorem v_alenN {t : Nat} (hT : T a = (t, len)) (ht : t = 1 ∨ t = 2 ∨ t = 3) (d : decode cc pc = .ok (.arraylength, 1)) (hn : pc + 1 = n) (kk : V K Qf T N P I R kc ks n ls (.int (nI len) :: st)) : V K Qf T N P I R kc ks pc ls (.ref a :: st) := by
  subst hn
  intro H locs LS h1 h2 h3
  obtain ⟨ws, g1, g2, g3⟩ := id h1
  obtain ⟨q, hq⟩ := g3 a _ (zcell_num hT (by omega) (by omega))
  rcases ht with rfl | rfl | rfl
  · exact va_alen K.x K.hb K.kk g1 q 0 hq rfl rfl d (kk H locs LS h1 h2 h3)
  · exact va_alen K.x K.hb K.kk g1 q 1 hq rfl rfl d (kk H locs LS h1 h2 h3)
  · exact va_alen K.x K.hb K.kk g1 q 2 hq rfl rfl d (kk H locs LS h1 h2 h3)
theorem v_new {C : String} {F : u_T} {t0 : Nat → FieldType} (hc : vwCl[ci]? = some (C, F, zn ci)) (hci : ci < 20) (hws : ∀ w ∈ u_ws C F (zn ci), w ∈ lw_tbl) (hty : ∀ j, j < zn ci → parseFieldDescriptor (F j).2.2.1 = some (t0 j)) (hdv : ∀ j, j < zn ci → defaultValue (t0 j) = if zr ci j = true then .null else .int 0)
    (hl : Cond.classLink y.cls idx C ∈ lw_tbl) (hin : Cond.instantiable C (zn ci) ∈ lw_tbl) (hini : Cond.initialized C ∈ lw_tbl) (hcc : kc + 1 ≤ rm.cells) (hss : ks + zn ci ≤ rm.slots) (d : decode cc pc = .ok (.new idx, 3)) (hn : pc + 3 = n)
    (kk : ∀ q : Nat, (T q).1 = 0 → V K Qf (u1 T q (10 + ci, 0)) (uo N ci q 0) (uo P ci q none) I R (kc + 1) (ks + zn ci) n ls (.ref q :: st)) : V K Qf T N P I R kc ks pc ls st := by
  subst hn
  intro H locs LS h1 h2 h3
  obtain ⟨ws, g1, g2, g3⟩ := id h1
  refine va_new (fs := (List.range (zn ci)).map fun j => if zr ci j = true then .null else .int 0) K.x K.hb (K.lays hws) (fun _ h => h) t0 hty K.ho (K.wd hl rfl) (K.wd hin rfl) (K.wd hini rfl) K.kk g1 g2 h2 K.aa hc (fun j hj => ?_) (by rw [K.hR]; exact hcc) (by rw [K.hR]; exact hss) d fun q H1 p1 p2 p3 => ?_
  · rw [hdv j hj]
    simp [vp_V, List.getD, List.getElem?_map, List.getElem?_range hj]
  · have hq := g3.fresh p2
    refine kk q hq H1 locs LS ⟨_, p1, p2, ?_⟩ p3 h3
    have e1 : zF (uo N ci q 0) (uo P ci q none) ci q = (List.range (zn ci)).map fun j => if zr ci j = true then Value.null else .int 0 := by
      apply List.map_congr_left
      intro k _
      simp [uo, va_rf]
    exact g3.push (by rw [zcell_obj (ci := ci) (by simp [u1]) hci, e1]) (fun b hb => zcell_congr (by simp [u1, hb]) (fun c => zF_new hb) rfl rfl)
theorem v_newa {atype : ArrayType} {t : Nat} {ft : FieldType} (hat : newarray.typeOf atype = ft) (htt : (t = 1 ∧ ft = .int) ∨ (t = 2 ∧ ft = .boolean) ∨ (t = 3 ∧ ft = .byte)) (hac : Cond.arrayClass ft ∈ lw_tbl) (hi : i = nI j) (hj : j < 2 ^ 20) (hcc : kc + 1 ≤ rm.cells) (hss : ks + j ≤ rm.slots) (d : decode cc pc = .ok (.newarray atype, 2)) (hn : pc + 2 = n)
    (kk : ∀ q : Nat, (T q).1 = 0 → V K Qf (u1 T q (t, j)) N P (u1 I q (fun _ => 0)) R (kc + 1) (ks + j) n ls (.ref q :: st)) : V K Qf T N P I R kc ks pc ls (.int i :: st) := by
  subst hn; subst hi
  intro H locs LS h1 h2 h3
  obtain ⟨ws, g1, g2, g3⟩ := id h1
  have hcb : componentBytes ft ≤ 8 := by rcases htt with ⟨-, rfl⟩ | ⟨-, rfl⟩ | ⟨-, rfl⟩ <;> decide
  have hdv : defaultValue ft = .int 0 := by rcases htt with ⟨-, rfl⟩ | ⟨-, rfl⟩ | ⟨-, rfl⟩ <;> rfl
  refine va_newa (a0 := (j, .inl (fun _ => 0))) (N' := j) K.x K.hb (by rw [hat]; exact K.wd hac rfl) hat K.kk g1 g2 h2 K.aa (fun cA => by rw [hdv]; rfl) (nI_pos (by omega)) (nI_clamp (by omega)) (by
    have : j * componentBytes ft ≤ 1048576 * 8 := Nat.mul_le_mul (by omega) hcb
    omega) (by rw [K.hR]; exact hcc) (by rw [K.hR]; exact hss) d fun q cA H1 pk p1 p2 p3 => ?_
  have hq := g3.fresh p2
  have hcA : cA = E.2.1 t := by
    have e1 := (pk.2 8 (cA, ft) rfl).2
    rcases htt with ⟨rfl, rfl⟩ | ⟨rfl, rfl⟩ | ⟨rfl, rfl⟩
    · exact Option.some.inj (e1.symm.trans (K.kk.2 0 _ rfl).2)
    · exact Option.some.inj (e1.symm.trans (K.kk.2 1 _ rfl).2)
    · exact Option.some.inj (e1.symm.trans (K.kk.2 2 _ rfl).2)
  subst hcA
  have ht0 : t ≠ 0 ∧ t < 10 := by rcases htt with ⟨rfl, -⟩ | ⟨rfl, -⟩ | ⟨rfl, -⟩ <;> decide
  exact kk q hq H1 locs LS ⟨_, p1, p2, g3.push (by rw [zcell_num (t := t) (len := j) (by simp [u1]) ht0.1 ht0.2]; simp [u1]) (fun b hb => zcell_congr (by simp [u1, hb]) (fun _ => rfl) (by simp [u1, hb]) rfl)⟩ p3 h3
theorem v_newq {t0 : Nat} {C : String} (ht : zti ci t0 C) (hl : Cond.classLink y.cls idx C ∈ lw_tbl) (hao : Cond.arrayOver (.object C) ∈ lw_tbl) (hi : i = nI j) (hj : j < 2 ^ 20) (hcc : kc + 1 ≤ rm.cells) (hss : ks + j ≤ rm.slots) (d : decode cc pc = .ok (.anewarray idx, 3)) (hn : pc + 3 = n)
    (kk : ∀ q : Nat, (T q).1 = 0 → V K Qf (u1 T q (30 + ci, j)) N P I (u1 R q (fun _ => none)) (kc + 1) (ks + j) n ls (.ref q :: st)) : V K Qf T N P I R kc ks pc ls (.int i :: st) := by
  subst hn; subst hi
  intro H locs LS h1 h2 h3
  obtain ⟨ws, g1, g2, g3⟩ := id h1
  refine va_newq (N' := j) K.x K.hb K.ho (K.wd hl rfl) (va_AO.of (K.wd hao rfl)) K.kk g1 g2 h2 K.aa (nI_pos (by omega)) (nI_clamp (by omega)) (by omega) (by rw [K.hR]; exact hcc) (by rw [K.hR]; exact hss) d fun q cA H1 pk p1 p2 p3 => ?_
  have hq := g3.fresh p2
  have hcA : cA = E.2.1 (30 + ci) := by
    obtain ⟨k1, c1, -, -, -, e1⟩ := (pk.2 8 (cA, .object C) rfl).2
    obtain ⟨k2, c2, -, -, -, e2⟩ := (K.kk.2 t0 _ (ht _)).2
    exact Option.some.inj (e1.symm.trans e2)
  subst hcA
  exact kk q hq H1 locs LS ⟨_, p1, p2, g3.push (by rw [zcell_ref (t := 30 + ci) (len := j) (by simp [u1]) (by omega)]; simp [u1]) (fun b hb => zcell_congr (by simp [u1, hb]) (fun _ => rfl) rfl (by simp [u1, hb]))⟩ p3 h3
end zheap
