/-! the law's loop -/
theorem lw_sw (x : Int32) : ∃ j : Nat, j < 16 ∧ x &&& 15 = nI j := by
  obtain ⟨j, h1, h2⟩ := pk_andE x (m := 15) 4 (by decide)
  exact ⟨j, h1, h2⟩
theorem lw_more {Ls t : Nat} (hL : Ls ≤ 1536) (ht : 3 * t ≤ Ls) (h : ¬ nI Ls - 3 < nI (3 * t)) : 3 * t + 3 ≤ Ls := by
  rcases Nat.lt_or_ge Ls 3 with z | z
  · exfalso
    apply h
    have h0 : nI Ls - 3 < 0 := by
      rcases (show Ls = 0 ∨ Ls = 1 ∨ Ls = 2 by omega) with rfl | rfl | rfl <;> decide
    exact Int32.lt_of_lt_of_le h0 (nI_pos' (by omega))
  · rw [show nI Ls - 3 = nI (Ls - 3) from pk_sub (b := 3) z] at h
    rcases Nat.lt_or_ge (Ls - 3) (3 * t) with z2 | z2
    · exact absurd (nI_lt z2 (by omega)) h
    · omega
set_option maxHeartbeats 4000000 in
set_option maxRecDepth 100000 in
theorem law_loop {p : Program} {l : Launch} {e : Env} {s : State} {m : MethodId} {below : List Frame} {meth : Method} {c : Code} {Q : State → Prop} {D : va_G} {rt : Option FieldType} {nm : String} {c0 : Cond} {cI cB cZ cJ : ClassId} {b Ls : Nat} {xs : Nat → Int32} {a am : Nat → Nat} {o : Nat} (F : GF p s m #[Value.ref b] meth c c_L_law 7 rt ⟨rL, nm, "([I)Z"⟩ (c0 :: tbW) D vCl (TY cI cB cZ cJ) []) (hl : l.stackTraces = false) (hX : va_X b Ls xs s s.heap) (hbl : b < s.heap.size) (hL : Ls ≤ 1536)
    (fin : ∀ (cells slots : Nat) (w : va_W) (L : List Value), cells ≤ 601024 → slots ≤ 7293034 → GJ p l e room_1 s m #[Value.ref b] below meth c D vCl (va_A [] s.heap.size) s.heap 7 Q cells slots w 632 L []) :
    ∀ (f t : Nat) (σ τ : St) (fo : Nat → Int64), Ls ≤ 3 * t + f → 3 * t ≤ Ls → RR σ τ → GJ p l e room_1 s m #[Value.ref b] below meth c D vCl (va_A [] s.heap.size) s.heap 7 Q (76 + t) (2768 + 6 * t) ((bw a cI cB 32 σ ++ [oC o cJ fo]) ++ mw am cI cZ τ) 23 [.ref b, .ref (a 0), .ref (am 0), .ref o, .int (nI (3 * t))] [] := by
  have hx := F.1
  have hb := F.2.1
  intro f
  induction f with
  | zero =>
    intro t σ τ fo hf ht R
    refine gj_ld (i := 4) (pc2 := 25) rfl (fun _ _ _ h9 => lv_iload hx hb d_L_law_23 h9) ?_
    refine gj_ld (i := 0) (pc2 := 26) rfl (fun _ _ _ h9 => lv_aload_n hx hb d_L_law_25 rfl h9) ?_
    refine gj_slen F hX hbl d_L_law_26 rfl ?_
    refine gj_l (pc2 := 28) (fun _ _ _ => lv_iconst (v := 3) hx hb d_L_law_27 (by decide)) ?_
    refine gj_l (pc2 := 29) (fun _ _ _ => lv_isub hx hb d_L_law_28) ?_
    refine gj_if (pc2 := 632) (pc3 := 32) (fun _ _ _ => lv_icmp_gt (tgt := 632) hx hb d_L_law_29 (by decide)) (fun h7 => fin _ _ _ _ (by omega) (by omega)) (fun h7 => ?_)
    have := lw_more hL ht h7
    omega
  | succ f ih =>
    intro t σ τ fo hf ht R
    refine gj_ld (i := 4) (pc2 := 25) rfl (fun _ _ _ h9 => lv_iload hx hb d_L_law_23 h9) ?_
    refine gj_ld (i := 0) (pc2 := 26) rfl (fun _ _ _ h9 => lv_aload_n hx hb d_L_law_25 rfl h9) ?_
    refine gj_slen F hX hbl d_L_law_26 rfl ?_
    refine gj_l (pc2 := 28) (fun _ _ _ => lv_iconst (v := 3) hx hb d_L_law_27 (by decide)) ?_
    refine gj_l (pc2 := 29) (fun _ _ _ => lv_isub hx hb d_L_law_28) ?_
    refine gj_if (pc2 := 632) (pc3 := 32) (fun _ _ _ => lv_icmp_gt (tgt := 632) hx hb d_L_law_29 (by decide)) (fun h7 => fin _ _ _ _ (by omega) (by omega)) (fun h7 => ?_)
    have hm := lw_more hL ht h7
    have next : ∀ (σ' τ' : St) (f' : Nat → Int64), RR σ' τ' → GJ p l e room_1 s m #[Value.ref b] below meth c D vCl (va_A [] s.heap.size) s.heap 7 Q (76 + t + 1) (2768 + 6 * t + 6) ((bw a cI cB 32 σ' ++ [oC o cJ f']) ++ mw am cI cZ τ') 626 [.ref b, .ref (a 0), .ref (am 0), .ref o, .int (nI (3 * t))] [] := by
      intro σ' τ' f' R'
      refine gj_iinc (pc2 := 629) (v := nI (3 * (t + 1))) hx hb d_L_law_626 (Nat.le_of_ble_eq_true rfl) rfl (nI_add (3 * t) 3) rfl ?_
      refine gj_l (pc2 := 23) (fun _ _ _ => lv_goto (tgt := 23) hx hb d_L_law_629 (by decide)) ?_
      have h := ih (t + 1) σ' τ' f' (by omega) (by omega) R'
      rw [show 76 + (t + 1) = 76 + t + 1 by omega, show 2768 + 6 * (t + 1) = 2768 + 6 * t + 6 by omega] at h
      exact h
    have next0 : ∀ (σ' τ' : St) (f' : Nat → Int64), RR σ' τ' → GJ p l e room_1 s m #[Value.ref b] below meth c D vCl (va_A [] s.heap.size) s.heap 7 Q (76 + t) (2768 + 6 * t) ((bw a cI cB 32 σ' ++ [oC o cJ f']) ++ mw am cI cZ τ') 626 [.ref b, .ref (a 0), .ref (am 0), .ref o, .int (nI (3 * t))] [] := fun σ' τ' f' R' => gj_wide (by omega) (by omega) (next σ' τ' f' R')
    refine gj_ld (i := 0) (pc2 := 33) rfl (fun _ _ _ h9 => lv_aload_n hx hb d_L_law_32 rfl h9) ?_
    refine gj_ld (i := 4) (pc2 := 35) rfl (fun _ _ _ h9 => lv_iload hx hb d_L_law_33 h9) ?_
    refine gj_sld F hX hbl (by omega) (i := 3 * t) rfl (by omega) d_L_law_35 rfl ?_
    refine gj_l (pc2 := 38) (fun _ _ _ => lv_bipush (v := (15)) hx hb d_L_law_36 (by decide)) ?_
    refine gj_l (pc2 := 39) (fun _ _ _ => lv_iand hx hb d_L_law_38) ?_
    obtain ⟨j, hj, ej⟩ := lw_sw (xs (3 * t))
    rw [ej]
    have hc : 76 + t + 1 ≤ 601024 := by omega
    have hs : 2768 + 6 * t + 6 ≤ 7293034 := by omega
    have hc0 : 76 + t ≤ 601024 := by omega
    have hs0 : 2768 + 6 * t ≤ 7293034 := by omega
    rcases (show j = 0 ∨ j = 1 ∨ j = 2 ∨ j = 3 ∨ j = 4 ∨ j = 5 ∨ j = 6 ∨ j = 7 ∨ j = 8 ∨ j = 9 ∨ j = 10 ∨ j = 11 ∨ j = 12 ∨ j = 13 ∨ j = 14 ∨ j = 15 by omega) with rfl | rfl | rfl | rfl | rfl | rfl | rfl | rfl | rfl | rfl | rfl | rfl | rfl | rfl | rfl | rfl
    · exact gj_l (pc2 := 92) (fun _ _ _ => lv_tableIn (tgt := 92) hx hb d_L_law_39 (by decide) (by decide) rfl (by decide)) (law_poke F hl hX hbl hL hm R hc hs next)
    · exact gj_l (pc2 := 160) (fun _ _ _ => lv_tableIn (tgt := 160) hx hb d_L_law_39 (by decide) (by decide) rfl (by decide)) (law_pokeFour F hl hX hbl hL hm R hc hs next)
    · exact gj_l (pc2 := 228) (fun _ _ _ => lv_tableIn (tgt := 228) hx hb d_L_law_39 (by decide) (by decide) rfl (by decide)) (law_set F hl hX hbl hL hm R hc hs next)
    · exact gj_l (pc2 := 296) (fun _ _ _ => lv_tableIn (tgt := 296) hx hb d_L_law_39 (by decide) (by decide) rfl (by decide)) (law_go F hl hX hbl hL hm R hc hs next)
    · exact gj_l (pc2 := 352) (fun _ _ _ => lv_tableIn (tgt := 352) hx hb d_L_law_39 (by decide) (by decide) rfl (by decide)) (law_run F hl hX hbl hL hm R hc hs next)
    · exact gj_l (pc2 := 408) (fun _ _ _ => lv_tableIn (tgt := 408) hx hb d_L_law_39 (by decide) (by decide) rfl (by decide)) (law_memory F hl hX hbl hL hm R hc hs next)
    · exact gj_l (pc2 := 464) (fun _ _ _ => lv_tableIn (tgt := 464) hx hb d_L_law_39 (by decide) (by decide) rfl (by decide)) (law_register F hl hX hbl hL hm R hc hs next)
    · exact gj_l (pc2 := 520) (fun _ _ _ => lv_tableIn (tgt := 520) hx hb d_L_law_39 (by decide) (by decide) rfl (by decide)) (law_row F hl hX hbl hL hm R hc hs next)
    · exact gj_l (pc2 := 588) (fun _ _ _ => lv_tableIn (tgt := 588) hx hb d_L_law_39 (by decide) (by decide) rfl (by decide)) (law_forget F hX hbl hL hm R hc0 hs0 next0)
    · exact gj_l (pc2 := 601) (fun _ _ _ => lv_tableIn (tgt := 601) hx hb d_L_law_39 (by decide) (by decide) rfl (by decide)) (law_count F hX hbl hL hm R hc0 hs0 next0)
    · exact gj_l (pc2 := 626) (fun _ _ _ => lv_tableOut (tgt := 626) hx hb d_L_law_39 (by decide) (by decide)) (next0 σ τ fo R)
    · exact gj_l (pc2 := 626) (fun _ _ _ => lv_tableOut (tgt := 626) hx hb d_L_law_39 (by decide) (by decide)) (next0 σ τ fo R)
    · exact gj_l (pc2 := 626) (fun _ _ _ => lv_tableOut (tgt := 626) hx hb d_L_law_39 (by decide) (by decide)) (next0 σ τ fo R)
    · exact gj_l (pc2 := 626) (fun _ _ _ => lv_tableOut (tgt := 626) hx hb d_L_law_39 (by decide) (by decide)) (next0 σ τ fo R)
    · exact gj_l (pc2 := 626) (fun _ _ _ => lv_tableOut (tgt := 626) hx hb d_L_law_39 (by decide) (by decide)) (next0 σ τ fo R)
    · exact gj_l (pc2 := 626) (fun _ _ _ => lv_tableOut (tgt := 626) hx hb d_L_law_39 (by decide) (by decide)) (next0 σ τ fo R)
/-! the law's beginning: two objects and the cell of the answer -/
section LI
variable {p : Program} {l : Launch} {e : Env} {R : Room} {s : State} {m : MethodId} {args : Array Value} {below : List Frame} {meth : Method} {c : Code} {cells slots mc ms : Nat} {Q : State → Prop}
variable {D : va_G} {n pc pc2 : Nat} {w w0 wr : va_W} {L rest : List Value} {cc : ByteArray} {ret : Option FieldType} {y : MethodName} {c0 : Cond} {cI cB cZ cJ : ClassId}
variable {y2 : MethodName} {b2 : ByteArray} {maxL idx b : Nat} {rm : Room} {x : va_E}
/-- a constructor without arguments, on the last cell of the world -/
theorem gj_init {post : va_W → Prop} (F : GF p s m args meth c cc n ret y (c0 :: tbW) D vCl (TY cI cB cZ cJ) w0) (k1 : Cond.code y2 b2 maxL none ∈ tbW) (k2 : Cond.initialized y2.cls ∈ tbW) (k3 : Cond.instanceMethod y2 ∈ tbW) (hy : y2.name = "<init>") (k5 : CKd y2 0) (hd : decode cc pc = .ok (.invokespecial idx, 3)) (hl : Cond.methodLink y.cls idx y2 ∈ tbW)
    (hM : GCv l y2 (Cond.code y2 b2 maxL none :: tbW) rm mc ms D vCl (TY cI cB cZ cJ) [.ref b] [(b, x)] post) (hrc : rm.cells = mc) (hrs0 : rm.slots = ms) (hR : rm.frames + 1 ≤ R.frames ∧ 8 + (maxL + 11) + rm.locals ≤ R.locals) (hrs : (rest.map fun v => v.category).sum ≤ 8) (hc : cells + mc ≤ R.cells) (hs : slots + ms ≤ R.slots) (hp : pc + 3 = pc2)
    (k : ∀ u : va_W, post u → GJ p l e R s m args below meth c D vCl (va_A w0 s.heap.size) s.heap n Q (cells + mc) (slots + ms) (w ++ u) pc2 L rest) : GJ p l e R s m args below meth c D vCl (va_A w0 s.heap.size) s.heap n Q cells slots (w ++ [(b, x)]) pc L (.ref b :: rest) := by
  subst hp
  refine gj_swap ?_
  refine gj_callv (wc := [(b, x)]) (wr := w) (av := [.ref b]) (post := post) (mc := mc) (ms := ms) (rest := rest) F.K F.E ga_A (fun ls H locs hsz hpre hP => ?_) (fun u h9 => gj_swap (k u h9))
  exact va_runI (As := []) (rest := rest) ⟨F.1, F.2.1, F.2.2.1, F.2.2.2.1, F.2.2.2.2.1⟩ (hM H.size) (cwI 0 F.2.2.2.2.1 (tb_gi k1) rfl hrc hrs0 (F.w k2) (F.w hl) (F.w k3) hy k5 hR) hpre rfl rfl hsz rfl (lv_room hrs) hd ⟨hc, hs⟩
end LI
theorem oz (c : ClassId) : vp_cell c (1, .inr (.inl (fun _ => (0 : Int64)))) = arrV c 1 (fun _ => defaultValue .long) := rfl
theorem gj_nil {p : Program} {l : Launch} {e : Env} {R : Room} {s : State} {m : MethodId} {args : Array Value} {below : List Frame} {meth : Method} {c : Code} {cells slots : Nat} {Q : State → Prop} {D : va_G} {cl : List vw_C} {A : Nat → Prop} {H0 : Heap} {n : Nat} {w : va_W} {pc : Nat} {L st : List Value} (k : GJ p l e R s m args below meth c D cl A H0 n Q cells slots ([] ++ w) pc L st) : GJ p l e R s m args below meth c D cl A H0 n Q cells slots w pc L st := k
set_option maxHeartbeats 4000000 in
set_option maxRecDepth 100000 in
theorem law_begin {p : Program} {l : Launch} {e : Env} {s : State} {m : MethodId} {below : List Frame} {meth : Method} {c : Code} {Q : State → Prop} {D : va_G} {rt : Option FieldType} {nm : String} {c0 : Cond} {cI cB cZ cJ : ClassId} {b Ls : Nat} {xs : Nat → Int32} (F : GF p s m #[Value.ref b] meth c c_L_law 7 rt ⟨rL, nm, "([I)Z"⟩ (c0 :: tbW) D vCl (TY cI cB cZ cJ) []) (hl : l.stackTraces = false) (hX : va_X b Ls xs s s.heap) (hbl : b < s.heap.size) (hL : Ls ≤ 1536)
    (fin : ∀ (cells slots : Nat) (w : va_W) (L : List Value), cells ≤ 601024 → slots ≤ 7293034 → GJ p l e room_1 s m #[Value.ref b] below meth c D vCl (va_A [] s.heap.size) s.heap 7 Q cells slots w 632 L []) :
    GJ p l e room_1 s m #[Value.ref b] below meth c D vCl (va_A [] s.heap.size) s.heap 7 Q 0 0 [] 0 [.ref b] [] := by
  have hx := F.1
  have hb := F.2.1
  refine gj_new F tX tX_ok iX q_10 q_11 q_1 (ci := kX) rfl (fs := dX) (by decide +kernel) (Nat.le_of_ble_eq_true rfl) (Nat.le_of_ble_eq_true rfl) ga_A d_L_law_0 rfl (fun qx => ?_)
  refine gj_l (pc2 := 4) (fun _ _ _ => lv_dup hx hb d_L_law_3 rfl) ?_
  refine gj_init F (w := []) q_14 q_1 q_13 rfl ⟨by decide +kernel, by decide +kernel, by decide +kernel⟩ d_L_law_4 q_12 (ct_X_init qx) rfl rfl ⟨Nat.le_of_ble_eq_true rfl, Nat.le_of_ble_eq_true rfl⟩ (Nat.le_of_ble_eq_true rfl) (Nat.le_of_ble_eq_true rfl) (Nat.le_of_ble_eq_true rfl) rfl (fun u hu => ?_)
  obtain ⟨a, ha, rfl⟩ := hu
  subst ha
  refine gj_st (i := 1) (x := .ref (a 0)) (pc2 := 8) (Nat.le_of_ble_eq_true rfl) rfl (fun _ _ _ _ _ h9 l9 => lv_astore_n hx hb d_L_law_7 rfl h9 (Nat.le_of_ble_eq_true rfl) l9) ?_
  refine gj_new F tM tM_ok iM q_324 q_325 q_3 (ci := kM) rfl (fs := dM) (by decide +kernel) (Nat.le_of_ble_eq_true rfl) (Nat.le_of_ble_eq_true rfl) ga_A d_L_law_8 rfl (fun qm => ?_)
  refine gj_l (pc2 := 12) (fun _ _ _ => lv_dup hx hb d_L_law_11 rfl) ?_
  refine gj_init F q_328 q_3 q_327 rfl ⟨by decide +kernel, by decide +kernel, by decide +kernel⟩ d_L_law_12 q_326 (ct_M_init qm) rfl rfl ⟨Nat.le_of_ble_eq_true rfl, Nat.le_of_ble_eq_true rfl⟩ (Nat.le_of_ble_eq_true rfl) (Nat.le_of_ble_eq_true rfl) (Nat.le_of_ble_eq_true rfl) rfl (fun u hu => ?_)
  obtain ⟨am, ha, rfl⟩ := hu
  subst ha
  refine gj_st (i := 2) (x := .ref (am 0)) (pc2 := 16) (Nat.le_of_ble_eq_true rfl) rfl (fun _ _ _ _ _ h9 l9 => lv_astore_n hx hb d_L_law_15 rfl h9 (Nat.le_of_ble_eq_true rfl) l9) ?_
  refine gj_l (pc2 := 17) (fun _ _ _ => lv_iconst (v := 1) hx hb d_L_law_16 (by decide)) ?_
  refine gj_newa F (t := .long) 3 rfl ra_lon q_490 rfl (N := 1) oz (by decide) (by decide) (Nat.le_of_ble_eq_true rfl) (Nat.le_of_ble_eq_true rfl) ga_A d_L_law_17 rfl (fun o => ?_)
  refine gj_st (i := 3) (x := .ref o) (pc2 := 20) (Nat.le_of_ble_eq_true rfl) rfl (fun _ _ _ _ _ h9 l9 => lv_astore_n hx hb d_L_law_19 rfl h9 (Nat.le_of_ble_eq_true rfl) l9) ?_
  refine gj_l (pc2 := 21) (fun _ _ _ => lv_iconst (v := 0) hx hb d_L_law_20 (by decide)) ?_
  refine gj_st (i := 4) (x := .int 0) (pc2 := 23) (Nat.le_of_ble_eq_true rfl) rfl (fun _ _ _ _ _ h9 l9 => lv_istore hx hb d_L_law_21 h9 (Nat.le_of_ble_eq_true rfl) l9) ?_
  have h := law_loop (a := a) (am := am) (o := o) F hl hX hbl hL fin Ls 0 sX (fun _ => z0) (fun _ => 0) (by omega) (by omega) RR_0
  intro ls H locs g1 g2 g3 g4
  have e2 : va_P D vCl ((bw a cI cB 32 sX ++ mw am cI cZ (fun _ => z0)) ++ [oC o cJ (fun _ => 0)]) H := g2
  have e3 : va_D (va_A [] s.heap.size) ((bw a cI cB 32 sX ++ mw am cI cZ (fun _ => z0)) ++ [oC o cJ (fun _ => 0)]) := g3
  exact h ls H locs g1 e2.swap e3.swap g4
