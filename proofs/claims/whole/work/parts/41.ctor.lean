set_option maxHeartbeats 4000000 in
set_option maxRecDepth 100000 in
theorem ct_M_init {l : Launch} {D : va_G} {cI cB cZ cJ : ClassId} (b : Nat) : GCv l y_M_init (Cond.code y_M_init c_M_init 1 none :: tbW) ({ frames := 1, cells := 6, slots := 1160, locals := 12 }) 6 1160 D vCl (TY cI cB cZ cJ) [.ref b] [(b, .inr (kM, dM))] (fun u => ∃ a : Nat → Nat, a 0 = b ∧ u = mw a cI cZ (fun _ => z0)) := by
  refine gc_body (Qc := gc_Qv D vCl (TY cI cB cZ cJ) [(b, .inr (kM, dM))] (fun u => ∃ a : Nat → Nat, a 0 = b ∧ u = mw a cI cZ (fun _ => z0))) (cc := c_M_init) (maxL := 1) (ret := none) (by decide) rfl (by simp [Value.category]) (Nat.le_of_ble_eq_true rfl) ?_
  intro p e s m args below meth c F
  have hx := F.1
  have hb := F.2.1
  refine gj_ld (i := 0) (pc2 := 1) rfl (fun _ _ _ h9 => lv_aload_n hx hb d_M_init_0 rfl h9) ?_
  refine gj_obj F q_329 (Nat.le_of_ble_eq_true rfl) (Nat.le_of_ble_eq_true rfl) rfl d_M_init_1 rfl ?_
  refine gj_ld (i := 0) (pc2 := 5) rfl (fun _ _ _ h9 => lv_aload_n hx hb d_M_init_4 rfl h9) ?_
  refine gj_l (pc2 := 8) (fun _ _ _ => lv_sipush (v := (1024)) hx hb d_M_init_5 (by decide)) ?_
  refine gj_newa F (t := .int) 0 rfl ra_int q_42 rfl (N := 1024) (z0_a 1024) (by decide) (by decide) (Nat.le_of_ble_eq_true rfl) (Nat.le_of_ble_eq_true rfl) ga_A d_M_init_8 rfl (fun q1 => ?_)
  refine gj_putF F tM tM_ok nM iM 0 (ci := kM) (fs := dM) rfl rfl 1 (by decide) rfl q_331 rfl rfl rfl (ty := .array .int) (by decide +kernel) rfl rfl (Nat.le_of_ble_eq_true rfl) d_M_init_10 rfl ?_
  refine gj_ld (i := 0) (pc2 := 14) rfl (fun _ _ _ h9 => lv_aload_n hx hb d_M_init_13 rfl h9) ?_
  refine gj_l (pc2 := 16) (fun _ _ _ => lv_bipush (v := (8)) hx hb d_M_init_14 (by decide)) ?_
  refine gj_newa F (t := .int) 0 rfl ra_int q_42 rfl (N := 8) (z0_a 8) (by decide) (by decide) (Nat.le_of_ble_eq_true rfl) (Nat.le_of_ble_eq_true rfl) ga_A d_M_init_16 rfl (fun q2 => ?_)
  refine gj_putF F tM tM_ok nM iM 0 (ci := kM) (fs := dM.set 1 (.ref q1)) rfl rfl 2 (by decide) rfl q_332 rfl rfl rfl (ty := .array .int) (by decide +kernel) rfl rfl (Nat.le_of_ble_eq_true rfl) d_M_init_18 rfl ?_
  refine gj_ld (i := 0) (pc2 := 22) rfl (fun _ _ _ h9 => lv_aload_n hx hb d_M_init_21 rfl h9) ?_
  refine gj_l (pc2 := 24) (fun _ _ _ => lv_bipush (v := (32)) hx hb d_M_init_22 (by decide)) ?_
  refine gj_newa F (t := .boolean) 2 rfl ra_boo q_388 rfl (N := 32) (z0_z 32) (by decide) (by decide) (Nat.le_of_ble_eq_true rfl) (Nat.le_of_ble_eq_true rfl) ga_A d_M_init_24 rfl (fun q3 => ?_)
  refine gj_putF F tM tM_ok nM iM 0 (ci := kM) (fs := (dM.set 1 (.ref q1)).set 2 (.ref q2)) rfl rfl 7 (by decide) rfl q_337 rfl rfl rfl (ty := .array .boolean) (by decide +kernel) rfl rfl (Nat.le_of_ble_eq_true rfl) d_M_init_26 rfl ?_
  refine gj_ld (i := 0) (pc2 := 30) rfl (fun _ _ _ h9 => lv_aload_n hx hb d_M_init_29 rfl h9) ?_
  refine gj_l (pc2 := 32) (fun _ _ _ => lv_bipush (v := (32)) hx hb d_M_init_30 (by decide)) ?_
  refine gj_newa F (t := .int) 0 rfl ra_int q_42 rfl (N := 32) (z0_a 32) (by decide) (by decide) (Nat.le_of_ble_eq_true rfl) (Nat.le_of_ble_eq_true rfl) ga_A d_M_init_32 rfl (fun q4 => ?_)
  refine gj_putF F tM tM_ok nM iM 0 (ci := kM) (fs := ((dM.set 1 (.ref q1)).set 2 (.ref q2)).set 7 (.ref q3)) rfl rfl 8 (by decide) rfl q_338 rfl rfl rfl (ty := .array .int) (by decide +kernel) rfl rfl (Nat.le_of_ble_eq_true rfl) d_M_init_34 rfl ?_
  refine gj_ld (i := 0) (pc2 := 38) rfl (fun _ _ _ h9 => lv_aload_n hx hb d_M_init_37 rfl h9) ?_
  refine gj_l (pc2 := 40) (fun _ _ _ => lv_bipush (v := (32)) hx hb d_M_init_38 (by decide)) ?_
  refine gj_newa F (t := .int) 0 rfl ra_int q_42 rfl (N := 32) (z0_a 32) (by decide) (by decide) (Nat.le_of_ble_eq_true rfl) (Nat.le_of_ble_eq_true rfl) ga_A d_M_init_40 rfl (fun q5 => ?_)
  refine gj_putF F tM tM_ok nM iM 0 (ci := kM) (fs := (((dM.set 1 (.ref q1)).set 2 (.ref q2)).set 7 (.ref q3)).set 8 (.ref q4)) rfl rfl 9 (by decide) rfl q_339 rfl rfl rfl (ty := .array .int) (by decide +kernel) rfl rfl (Nat.le_of_ble_eq_true rfl) d_M_init_42 rfl ?_
  refine gj_ld (i := 0) (pc2 := 46) rfl (fun _ _ _ h9 => lv_aload_n hx hb d_M_init_45 rfl h9) ?_
  refine gj_l (pc2 := 48) (fun _ _ _ => lv_bipush (v := (32)) hx hb d_M_init_46 (by decide)) ?_
  refine gj_newa F (t := .int) 0 rfl ra_int q_42 rfl (N := 32) (z0_a 32) (by decide) (by decide) (Nat.le_of_ble_eq_true rfl) (Nat.le_of_ble_eq_true rfl) ga_A d_M_init_48 rfl (fun q6 => ?_)
  refine gj_putF F tM tM_ok nM iM 0 (ci := kM) (fs := ((((dM.set 1 (.ref q1)).set 2 (.ref q2)).set 7 (.ref q3)).set 8 (.ref q4)).set 9 (.ref q5)) rfl rfl 10 (by decide) rfl q_340 rfl rfl rfl (ty := .array .int) (by decide +kernel) rfl rfl (Nat.le_of_ble_eq_true rfl) d_M_init_50 rfl ?_
  exact gj_vret F d_M_init_53 (Nat.le_refl _) (Nat.le_refl _) ⟨fun i => match i with | 0 => b | 1 => q1 | 2 => q2 | 3 => q3 | 4 => q4 | 5 => q5 | _ => q6, rfl, rfl⟩
def aX (b q1 q2 q3 : Nat) : Nat → Nat := fun i => match i with | 0 => b | 1 => q1 | 2 => q2 | _ => q3
theorem bw_0 (b q1 q2 q3 : Nat) (cI cB : ClassId) : [(b, .inr (kX, [.ref q1, .ref q2, .ref q3, .int 0, .int 0, .int 0, .int 0, .int 0, .int 0, .int 0, .int 0, .int 0])), (q1, .inl (cI, 1024, .inl z0)), (q2, .inl (cI, 8, .inl z0)), (q3, .inl (cB, 32, .inr (.inr (.inr (.inr (fun _ => none))))))] = bw (aX b q1 q2 q3) cI cB 0 (fun _ => z0) := by
  have h : (fun _ : Nat => (none : Option Nat)) = (fun k => if k < 0 then some (aX b q1 q2 q3 (4 + 2 * k)) else none) := by
    funext k
    rw [if_neg (Nat.not_lt_zero k)]
  rw [h]
  rfl
def aP (a : Nat → Nat) (k q q' : Nat) : Nat → Nat := fun i => if i = 4 + 2 * k then q else if i = 5 + 2 * k then q' else a i
theorem aP_lo (a : Nat → Nat) {k i : Nat} (q q' : Nat) (h : i < 4 + 2 * k) : aP a k q q' i = a i := by
  unfold aP
  rw [if_neg (by omega), if_neg (by omega)]
theorem aP_4 (a : Nat → Nat) (k q q' : Nat) : aP a k q q' (4 + 2 * k) = q := by unfold aP; rw [if_pos rfl]
theorem aP_5 (a : Nat → Nat) (k q q' : Nat) : aP a k q q' (5 + 2 * k) = q' := by unfold aP; rw [if_neg (by omega), if_pos rfl]
theorem bw_len (a : Nat → Nat) (cI cB : ClassId) (j : Nat) (σ : St) : (bw a cI cB j σ).length = 4 + 2 * j := by simp [bw]
theorem bw_push {a : Nat → Nat} {cI cB : ClassId} {k : Nat} {σ : St} {q q' : Nat} (h4 : σ (4 + 2 * k) = z0) (h5 : σ (5 + 2 * k) = z0) : (bw a cI cB k σ ++ wB q q' cI).set 3 (a 3, .inl (cB, 32, .inr (.inr (.inr (.inr (va_up (fun t => if t < k then some (a (4 + 2 * t)) else none) k (some q))))))) = bw (aP a k q q') cI cB (k + 1) σ := by
  have hlen := bw_len a cI cB k σ
  have hlw : (wB q q' cI).length = 2 := rfl
  apply List.ext_getElem?
  intro i
  by_cases h3 : i = 3
  · subst h3
    rw [List.getElem?_set_self (by rw [List.length_append]; omega), bw_at (by omega), aP_lo a q q' (by omega)]
    have hf : (va_up (fun t => if t < k then some (a (4 + 2 * t)) else none) k (some q)) = (fun t => if t < k + 1 then some (aP a k q q' (4 + 2 * t)) else none) := by
      funext t
      by_cases ht : t = k
      · subst ht
        rw [va_up_self, if_pos (by omega), aP_4]
      · rw [va_up_ne _ _ ht]
        rcases Nat.lt_or_ge t k with z | z
        · rw [if_pos z, if_pos (by omega), aP_lo a q q' (by omega)]
        · rw [if_neg (by omega), if_neg (by omega)]
    rw [hf]
    rfl
  · rw [List.getElem?_set_ne (Ne.symm h3)]
    rcases Nat.lt_or_ge i (4 + 2 * k) with z | z
    · rw [List.getElem?_append_left (by omega), bw_at z, bw_at (by omega), aP_lo a q q' z]
      congr 2
      match i, z, h3 with
      | 0, z, _ =>
        show Sum.inr (kX, bw_f a (σ 0)) = Sum.inr (kX, bw_f (aP a k q q') (σ 0))
        unfold bw_f
        rw [aP_lo a q q' (show 1 < 4 + 2 * k by omega), aP_lo a q q' (show 2 < 4 + 2 * k by omega), aP_lo a q q' (show 3 < 4 + 2 * k by omega)]
      | 1, _, _ => rfl
      | 2, _, _ => rfl
      | 3, _, h => exact absurd rfl h
      | t + 4, z, _ =>
        show (if t % 2 = 0 then _ else _) = (if t % 2 = 0 then _ else _)
        by_cases ht : t % 2 = 0
        · rw [if_pos ht, if_pos ht, aP_lo a q q' (show t + 5 < 4 + 2 * k by omega)]
        · rw [if_neg ht, if_neg ht]
    · rw [List.getElem?_append_right (by omega), hlen]
      rcases (show i = 4 + 2 * k ∨ i = 5 + 2 * k ∨ 6 + 2 * k ≤ i by omega) with e | e | e
      · subst e
        rw [bw_at (by omega), bw_e_blk, aP_4, aP_5, h4, show 4 + 2 * k - (4 + 2 * k) = 0 by omega]
        rfl
      · subst e
        rw [bw_at (by omega), bw_e_wrd, aP_5, h5, show 5 + 2 * k - (4 + 2 * k) = 1 by omega]
        rfl
      · rw [List.getElem?_eq_none (by omega), List.getElem?_eq_none (by rw [bw_len]; omega)]
/-- the class's numbers at its start -/
def sX : St := s2 (s2 (s2 (fun _ => z0) 0 3 0) 0 4 0) 0 5 1
theorem sX_hi {i : Nat} (h : 0 < i) : sX i = z0 := by
  unfold sX
  rw [s2_row _ _ _ (by omega), s2_row _ _ _ (by omega), s2_row _ _ _ (by omega)]
section XI
variable {p : Program} {l : Launch} {e : Env} {R : Room} {s : State} {m : MethodId} {args : Array Value} {below : List Frame} {meth : Method} {c : Code} {cells slots : Nat} {Q : State → Prop}
variable {D : va_G} {n : Nat} {w w0 wr : va_W} {pc pc2 : Nat} {L st rest : List Value} {cc : ByteArray} {ret : Option FieldType} {y : MethodName} {c0 : Cond} {cI cB cZ cJ : ClassId}
/-- a block's constructor, called by its nest mate -/
theorem gj_Binit (F : GF p s m args meth c cc n ret y (c0 :: tbW) D vCl (TY cI cB cZ cJ) w0) (hy : y.cls = rX) {b : Nat} (hd : decode cc pc = .ok (.invokespecial 32, 3)) (hrs : (rest.map fun v => v.category).sum ≤ 8) (hfr : 2 ≤ R.frames) (hlo : 32 ≤ R.locals) (hc : cells + 1 ≤ R.cells) (hs : slots + 12 ≤ R.slots) (hp : pc + 3 = pc2)
    (k : ∀ q : Nat, GJ p l e R s m args below meth c D vCl (va_A w0 s.heap.size) s.heap n Q (cells + 1) (slots + 12) (w ++ wB b q cI) pc2 L rest) : GJ p l e R s m args below meth c D vCl (va_A w0 s.heap.size) s.heap n Q cells slots (w ++ [(b, .inr (kB, dB))]) pc L (.ref b :: rest) := by
  subst hp
  refine gj_swap ?_
  refine gj_callv (wc := [(b, .inr (kB, dB))]) (wr := w) (av := [.ref b]) (post := fun u => ∃ q : Nat, u = wB b q cI) (mc := 1) (ms := 12) (rest := rest) F.K F.E ga_A (fun ls H locs hsz hpre hP => ?_) (fun u h9 => ?_)
  · refine va_runIN (As := []) (rest := rest) ⟨F.1, F.2.1, F.2.2.1, F.2.2.2.1, F.2.2.2.2.1⟩ (ct_B_init b H.size) ⟨va_cnB (host := rX) 0 F.2.2.2.2.1 (tb_gi q_23) rfl rfl rfl (F.N (w := .methodLinkNest y.cls 32 y_B_init rX) (by rw [hy]; decide +kernel)) (F.w q_2) ⟨by decide +kernel, by decide +kernel, by decide +kernel⟩ ⟨hfr, hlo⟩, rfl, F.w q_22⟩ hpre rfl rfl hsz rfl (lv_room hrs) hd ⟨hc, hs⟩
  · obtain ⟨q, rfl⟩ := h9
    exact gj_swap (k q)
end XI
set_option maxHeartbeats 4000000 in
set_option maxRecDepth 100000 in
theorem ct_X_init {l : Launch} {D : va_G} {cI cB cZ cJ : ClassId} (b : Nat) : GCv l y_X_init (Cond.code y_X_init c_X_init 2 none :: tbW) ({ frames := 2, cells := 67, slots := 1576, locals := 32 }) 67 1576 D vCl (TY cI cB cZ cJ) [.ref b] [(b, .inr (kX, dX))] (fun u => ∃ a : Nat → Nat, a 0 = b ∧ u = bw a cI cB 32 sX) := by
  refine gc_body (Qc := gc_Qv D vCl (TY cI cB cZ cJ) [(b, .inr (kX, dX))] (fun u => ∃ a : Nat → Nat, a 0 = b ∧ u = bw a cI cB 32 sX)) (cc := c_X_init) (maxL := 2) (ret := none) (by decide) rfl (by simp [Value.category]) (Nat.le_of_ble_eq_true rfl) ?_
  intro p e s m args below meth c F
  have hx := F.1
  have hb := F.2.1
  refine gj_ld (i := 0) (pc2 := 1) rfl (fun _ _ _ h9 => lv_aload_n hx hb d_X_init_0 rfl h9) ?_
  refine gj_obj F q_15 (Nat.le_of_ble_eq_true rfl) (Nat.le_of_ble_eq_true rfl) rfl d_X_init_1 rfl ?_
  refine gj_ld (i := 0) (pc2 := 5) rfl (fun _ _ _ h9 => lv_aload_n hx hb d_X_init_4 rfl h9) ?_
  refine gj_l (pc2 := 8) (fun _ _ _ => lv_sipush (v := (1024)) hx hb d_X_init_5 (by decide)) ?_
  refine gj_newa F (t := .int) 0 rfl ra_int q_42 rfl (N := 1024) (z0_a 1024) (by decide) (by decide) (Nat.le_of_ble_eq_true rfl) (Nat.le_of_ble_eq_true rfl) ga_A d_X_init_8 rfl (fun q1 => ?_)
  refine gj_putF F tX tX_ok nX iX 0 (ci := kX) (fs := dX) rfl rfl 0 (by decide) rfl q_43 rfl rfl rfl (ty := .array .int) (by decide +kernel) rfl rfl (by decide) d_X_init_10 rfl ?_
  refine gj_ld (i := 0) (pc2 := 14) rfl (fun _ _ _ h9 => lv_aload_n hx hb d_X_init_13 rfl h9) ?_
  refine gj_l (pc2 := 16) (fun _ _ _ => lv_bipush (v := (8)) hx hb d_X_init_14 (by decide)) ?_
  refine gj_newa F (t := .int) 0 rfl ra_int q_42 rfl (N := 8) (z0_a 8) (by decide) (by decide) (Nat.le_of_ble_eq_true rfl) (Nat.le_of_ble_eq_true rfl) ga_A d_X_init_16 rfl (fun q2 => ?_)
  refine gj_putF F tX tX_ok nX iX 0 (ci := kX) (fs := dX.set 0 (.ref q1)) rfl rfl 1 (by decide) rfl q_44 rfl rfl rfl (ty := .array .int) (by decide +kernel) rfl rfl (Nat.le_of_ble_eq_true rfl) d_X_init_18 rfl ?_
  refine gj_ld (i := 0) (pc2 := 22) rfl (fun _ _ _ h9 => lv_aload_n hx hb d_X_init_21 rfl h9) ?_
  refine gj_l (pc2 := 24) (fun _ _ _ => lv_bipush (v := (32)) hx hb d_X_init_22 (by decide)) ?_
  refine gj_newq F q_18 (N := 32) (by decide) (by decide) (Nat.le_of_ble_eq_true rfl) (Nat.le_of_ble_eq_true rfl) ga_A d_X_init_24 rfl (fun q3 => ?_)
  refine gj_putF F tX tX_ok nX iX 0 (ci := kX) (fs := (dX.set 0 (.ref q1)).set 1 (.ref q2)) rfl rfl 2 (by decide) rfl q_45 rfl rfl rfl (ty := .array (.object rB)) (by decide +kernel) rfl rfl (Nat.le_of_ble_eq_true rfl) d_X_init_27 rfl ?_
  refine gj_eq (w2 := bw (aX b q1 q2 q3) cI cB 0 (fun _ => z0)) (bw_0 b q1 q2 q3 cI cB) rfl rfl ?_
  refine gj_ld (i := 0) (pc2 := 31) rfl (fun _ _ _ h9 => lv_aload_n hx hb d_X_init_30 rfl h9) ?_
  refine gj_l (pc2 := 32) (fun _ _ _ => lv_iconst (v := 0) hx hb d_X_init_31 (by decide)) ?_
  refine bj_pi (a := aX b q1 q2 q3) F 3 (by decide) (by decide) d_X_init_32 q_46 rfl ?_
  refine gj_ld (i := 0) (pc2 := 36) rfl (fun _ _ _ h9 => lv_aload_n hx hb d_X_init_35 rfl h9) ?_
  refine gj_l (pc2 := 37) (fun _ _ _ => lv_iconst (v := 0) hx hb d_X_init_36 (by decide)) ?_
  refine bj_pi (a := aX b q1 q2 q3) F 4 (by decide) (by decide) d_X_init_37 q_47 rfl ?_
  refine gj_ld (i := 0) (pc2 := 41) rfl (fun _ _ _ h9 => lv_aload_n hx hb d_X_init_40 rfl h9) ?_
  refine gj_l (pc2 := 42) (fun _ _ _ => lv_iconst (v := 1) hx hb d_X_init_41 (by decide)) ?_
  refine bj_pi (a := aX b q1 q2 q3) F 5 (by decide) (by decide) d_X_init_42 q_48 rfl ?_
  refine gj_l (pc2 := 46) (fun _ _ _ => lv_iconst (v := 0) hx hb d_X_init_45 (by decide)) ?_
  refine gj_st (i := 1) (pc2 := 47) (Nat.le_of_ble_eq_true rfl) rfl (fun _ _ _ _ _ h9 l9 => lv_istore_n hx hb d_X_init_46 rfl h9 (Nat.le_of_ble_eq_true rfl) l9) ?_
  have hR : ((headSpec (Cond.code y_X_init c_X_init 2 none :: tbW) { frames := 2, cells := 67, slots := 1576, locals := 32 }).room) = { frames := 2, cells := 67, slots := 1576, locals := 32 } := rfl
  rw [hR]
  have loop : ∀ (f k : Nat) (a : Nat → Nat), k + f = 32 → a 0 = b → GJ p l e { frames := 2, cells := 67, slots := 1576, locals := 32 } s m args below meth c D vCl (va_A [(b, .inr (kX, dX))] s.heap.size) s.heap 2 (MQ below (gc_Qv D vCl (TY cI cB cZ cJ) [(b, .inr (kX, dX))] (fun u => ∃ a : Nat → Nat, a 0 = b ∧ u = bw a cI cB 32 sX) s.heap.size) args s 67 1576 (va_A [(b, .inr (kX, dX))] s.heap.size)) (3 + 2 * k) (1064 + 16 * k) (bw a cI cB k sX) 47 [.ref b, .int (nI k)] [] := by
    intro f
    induction f with
    | zero =>
      intro k a hk ha
      have : k = 32 := by omega
      subst this
      refine gj_ld (i := 1) (pc2 := 48) rfl (fun _ _ _ h9 => lv_iload_n hx hb d_X_init_47 rfl h9) ?_
      refine gj_l (pc2 := 50) (fun _ _ _ => lv_bipush (v := (32)) hx hb d_X_init_48 (by decide)) ?_
      refine gj_if (pc2 := 72) (pc3 := 53) (fun _ _ _ => lv_icmp_ge (tgt := 72) hx hb d_X_init_50 (by decide)) (fun h7 => ?_) (fun h7 => ?_)
      · exact gj_vret F d_X_init_72 (by decide) (by decide) ⟨a, ha, rfl⟩
      · exact absurd (by decide) h7
    | succ f ih =>
      intro k a hk ha
      refine gj_ld (i := 1) (pc2 := 48) rfl (fun _ _ _ h9 => lv_iload_n hx hb d_X_init_47 rfl h9) ?_
      refine gj_l (pc2 := 50) (fun _ _ _ => lv_bipush (v := (32)) hx hb d_X_init_48 (by decide)) ?_
      refine gj_if (pc2 := 72) (pc3 := 53) (fun _ _ _ => lv_icmp_ge (tgt := 72) hx hb d_X_init_50 (by decide)) (fun h7 => ?_) (fun h7 => ?_)
      · have hk9 : 32 ≤ k := nI_ge_of h7 (by omega) (by omega)
        omega
      · refine gj_ld (i := 0) (v := .ref (a 0)) (pc2 := 54) (by rw [ha]; rfl) (fun _ _ _ h9 => lv_aload_n hx hb d_X_init_53 rfl h9) ?_
        refine bj_gr F 2 (by decide) d_X_init_54 q_45 rfl ?_
        refine gj_ld (i := 1) (pc2 := 58) rfl (fun _ _ _ h9 => lv_iload_n hx hb d_X_init_57 rfl h9) ?_
        refine gj_new F tB tB_ok iB q_18 q_20 q_2 (ci := kB) rfl (fs := dB) (by decide +kernel) (by show 3 + 2 * k + 1 ≤ 67; omega) (by show 1064 + 16 * k + 4 ≤ 1576; omega) ga_A d_X_init_58 rfl (fun q => ?_)
        refine gj_l (pc2 := 62) (fun _ _ _ => lv_dup hx hb d_X_init_61 rfl) ?_
        refine gj_Binit F rfl d_X_init_62 (Nat.le_of_ble_eq_true rfl) (by decide) (by decide) (by show 3 + 2 * k + 1 + 1 ≤ 67; omega) (by show 1064 + 16 * k + 4 + 12 ≤ 1576; omega) rfl (fun q' => ?_)
        intro ls H locs g1 g2 g3 g4
        have hlen := bw_len a cI cB k sX
        refine va_astq (D := D) (r := (rB, fB, 4)) (f := fun t => if t < k then some (a (4 + 2 * t)) else none) (vs := bw_b q' z0) F.1 F.2.1 F.K g2 g3 g4 3 1 (4 + 2 * k) kB ?_ rfl ?_ rfl (nI_in (show k < 32 by omega) (by decide)) d_X_init_65 (fun H1 locs1 k1 k2 k3 => ?_)
        · rw [List.getElem?_append_left (by omega), bw_at (by omega)]
          rfl
        · rw [List.getElem?_append_right (by omega), hlen, Nat.sub_self]
          rfl
        · rw [nI_clamp (by omega), bw_push (sX_hi (by omega)) (sX_hi (by omega))] at k1 k2
          refine (gj_iinc (D := D) (A := va_A [(b, .inr (kX, dX))] s.heap.size) (H0 := s.heap) (n := 2) (L := [.ref b, .int (nI k)]) (cl := vCl) (w := bw (aP a k q q') cI cB (k + 1) sX) (st := []) (pc2 := 69) hx hb d_X_init_66 (Nat.le_of_ble_eq_true rfl) rfl (nI_1 k) rfl ?_) ls H1 locs1 g1 k1 k2 k3
          refine gj_l (pc2 := 47) (fun _ _ _ => lv_goto (tgt := 47) hx hb d_X_init_69 (by decide)) ?_
          have h := ih (k + 1) (aP a k q q') (by omega) ((aP_lo a q q' (by omega)).trans ha)
          rw [show 3 + 2 * (k + 1) = 3 + 2 * k + 1 + 1 by omega, show 1064 + 16 * (k + 1) = 1064 + 16 * k + 4 + 12 by omega] at h
          exact h
  exact loop 32 0 (aX b q1 q2 q3) rfl rfl
