/-! the law's own instructions -/
section LR
variable {p : Program} {l : Launch} {e : Env} {R : Room} {s : State} {m : MethodId} {args : Array Value} {below : List Frame} {meth : Method} {c : Code} {cells slots mc ms : Nat} {Q : State → Prop}
variable {D : va_G} {n pc pc2 : Nat} {w w0 wc wr : va_W} {L st rest av As : List Value} {cc : ByteArray} {ret : Option FieldType} {y : MethodName} {c0 : Cond} {cI cB cZ cJ : ClassId}
variable {y2 : MethodName} {b2 : ByteArray} {maxL n2 idx b r ci : Nat} {ret2 : Option FieldType} {rm : Room} {fs : List Value} {T : u_T} {N : Nat} {hh : List (Nat × Nat × Nat × Nat)}
theorem gj_sld (F : GF p s m args meth c cc n ret y (c0 :: tbW) D vCl (TY cI cB cZ cJ) []) {Ls : Nat} {xs : Nat → Int32} (hX : va_X b Ls xs s s.heap) (hbl : b < s.heap.size) (hL : Ls < 2 ^ 31) {x : Int32} {i : Nat} (hx : x = nI i) (hi : i < Ls) (hd : decode cc pc = .ok (.iaload, 1)) (hp : pc + 1 = pc2)
    (k : GJ p l e R s m args below meth c D vCl (va_A [] s.heap.size) s.heap n Q cells slots w pc2 L (.int (xs i) :: rest)) : GJ p l e R s m args below meth c D vCl (va_A [] s.heap.size) s.heap n Q cells slots w pc L (.int x :: .ref b :: rest) := by
  subst hp
  subst hx
  intro ls H locs g1 g2 g3 g4
  refine va_sld F.1 F.2.1 hX hbl ?_ g4 (nI_in hi hL) hd ?_
  · rintro (⟨k9, e9, h9⟩ | h9)
    · simp at h9
    · omega
  · rw [nI_clamp (by omega)]
    exact k ls H locs g1 g2 g3 g4
theorem gj_slen (F : GF p s m args meth c cc n ret y (c0 :: tbW) D vCl (TY cI cB cZ cJ) []) {Ls : Nat} {xs : Nat → Int32} (hX : va_X b Ls xs s s.heap) (hbl : b < s.heap.size) (hd : decode cc pc = .ok (.arraylength, 1)) (hp : pc + 1 = pc2)
    (k : GJ p l e R s m args below meth c D vCl (va_A [] s.heap.size) s.heap n Q cells slots w pc2 L (.int (nI Ls) :: rest)) : GJ p l e R s m args below meth c D vCl (va_A [] s.heap.size) s.heap n Q cells slots w pc L (.ref b :: rest) := by
  subst hp
  intro ls H locs g1 g2 g3 g4
  refine va_slen F.1 F.2.1 hX hbl ?_ g4 hd (k ls H locs g1 g2 g3 g4)
  rintro (⟨k9, e9, h9⟩ | h9)
  · simp at h9
  · omega
/-- a call of a helper -/
theorem gj_sw {post : Int32 → va_W → Prop} (F : GF p s m args meth c cc n ret y (c0 :: tbW) D vCl (TY cI cB cZ cJ) w0) (k1 : Cond.codeWith y2 b2 maxL ret2 hh ∈ tbW) (k2 : Cond.initialized y2.cls ∈ tbW) (k3 : Cond.static y2 ∈ tbW) (k5 : CKd y2 n2) (hd : decode cc pc = .ok (.invokestatic idx, 3)) (hl : Cond.methodLink y.cls idx y2 ∈ tbW)
    (hM : GCi l y2 (Cond.codeWith y2 b2 maxL ret2 hh :: tbW) rm mc ms D vCl (TY cI cB cZ cJ) As wc post) (hrc : rm.cells = mc) (hrs0 : rm.slots = ms) (hR : rm.frames + 1 ≤ R.frames ∧ 8 + (maxL + 11) + rm.locals ≤ R.locals) (hn : As.length = n2) (hst : st = As.reverse ++ rest) (hrs : (rest.map fun v => v.category).sum ≤ 8) (hc : cells + mc ≤ R.cells) (hs : slots + ms ≤ R.slots) (hp : pc + 3 = pc2)
    (k : ∀ (r9 : Int32) (u : va_W), post r9 u → GJ p l e R s m args below meth c D vCl (va_A w0 s.heap.size) s.heap n Q (cells + mc) (slots + ms) (u ++ wr) pc2 L (.int r9 :: rest)) : GJ p l e R s m args below meth c D vCl (va_A w0 s.heap.size) s.heap n Q cells slots (wc ++ wr) pc L st := by
  subst hp
  refine gj_calli (wc := wc) (wr := wr) (av := As) (post := post) (mc := mc) (ms := ms) (rest := rest) F.K F.E ga_A (fun ls H locs hsz hpre hP => ?_) k
  refine vx_runSW (As := As) (rest := rest) ⟨F.1, F.2.1, F.2.2.1, F.2.2.2.1, F.2.2.2.2.1⟩ (hM H.size) (vx_cwSW n2 F.2.2.2.2.1 (tb_gl (c1 := Cond.codeWith y2 b2 maxL ret2 hh) ?_ k1) rfl hrc hrs0 k5 hR) ⟨hpre.1, hpre.2⟩ rfl hn hsz hst (lv_room hrs) hd ⟨hc, hs⟩
  intro w9 h9
  simp only [List.mem_cons, List.not_mem_nil, or_false] at h9
  rcases h9 with rfl | rfl | rfl
  · exact hl
  · exact k3
  · exact k2
/-- a call on an object whose world stands first -/
theorem gj_vi {post : Int32 → va_W → Prop} (F : GF p s m args meth c cc n ret y (c0 :: tbW) D vCl (TY cI cB cZ cJ) w0) (K : CKV y2 b2 maxL ret2 n2) (hd : decode cc pc = .ok (.invokevirtual idx, 3)) (hl : Cond.methodLink y.cls idx y2 ∈ tbW) (hr : wc[r]? = some (b, .inr (ci, fs))) (hci : vCl[ci]? = some (y2.cls, T, N))
    (hM : GCi l y2 (Cond.code y2 b2 maxL ret2 :: tbW) rm 0 0 D vCl (TY cI cB cZ cJ) (.ref b :: As) wc post) (hR : RMo rm R maxL) (hn : As.length = n2) (hst : st = As.reverse ++ .ref b :: rest) (hrs : (rest.map fun v => v.category).sum ≤ 8) (hc : cells ≤ R.cells) (hs : slots ≤ R.slots) (hp : pc + 3 = pc2)
    (k : ∀ (r9 : Int32) (u : va_W), post r9 u → GJ p l e R s m args below meth c D vCl (va_A w0 s.heap.size) s.heap n Q cells slots (u ++ wr) pc2 L (.int r9 :: rest)) : GJ p l e R s m args below meth c D vCl (va_A w0 s.heap.size) s.heap n Q cells slots (wc ++ wr) pc L st := by
  subst hp
  exact gj_calli (wc := wc) (wr := wr) (L := L) (av := .ref b :: As) (post := post) (mc := 0) (ms := 0) (rest := rest) (st := st) (pc := pc) (Q := Q) F.K F.E ga_A (fun ls H locs hsz hpre hP => gr_V (locs := locs) F K hd hl hr hci (hM H.size) hR hn hst hrs hc hs hsz hpre (gc_left hP)) k
theorem gj_lald (F : GF p s m args meth c cc n ret y (c0 :: tbW) D vCl (TY cI cB cZ cJ) w0) {H0 : Heap} {A : Nat → Prop} {o : Nat} {f : Nat → Int64} (q0 : Nat) (hw : w[q0]? = some (oC o cJ f)) (hd : decode cc pc = .ok (.laload, 1)) (hp : pc + 1 = pc2)
    (k : GJ p l e R s m args below meth c D vCl A H0 n Q cells slots w pc2 L (.long (f 0) :: rest)) : GJ p l e R s m args below meth c D vCl A H0 n Q cells slots w pc L (.int 0 :: .ref o :: rest) := by
  subst hp
  intro ls H locs g1 g2 g3 g4
  exact va_lald (D := D) (n := 1) (f := f) F.1 F.2.1 F.K g2 q0 3 hw rfl (nI_in (c := 0) (N := 1) (by decide) (by decide)) hd (k ls H locs g1 g2 g3 g4)
end LR
theorem oc_at {a : Nat → Nat} {cI cB cJ : ClassId} {σ : St} {o : Nat} {f : Nat → Int64} {w : va_W} : ((bw a cI cB 32 σ ++ [oC o cJ f]) ++ w)[68]? = some (oC o cJ f) := by
  have h := bw_len a cI cB 32 σ
  rw [List.getElem?_append_left (by rw [List.length_append]; simp; omega), List.getElem?_append_right (by omega), h]
  rfl
theorem mw_h {am : Nat → Nat} {cI cZ : ClassId} {τ : St} : (mw am cI cZ τ)[0]? = some (am 0, .inr (kM, mw_f am (τ 0))) := mw_at (by omega)
theorem lg_0 (x : Int64) : lg_cmp x x = 0 := by simp [lg_cmp]

set_option maxHeartbeats 4000000 in
set_option maxRecDepth 100000 in
theorem law_poke {p : Program} {l : Launch} {e : Env} {s : State} {m : MethodId} {below : List Frame} {meth : Method} {c : Code} {cells slots : Nat} {Q : State → Prop} {D : va_G} {rt : Option FieldType} {nm : String} {c0 : Cond} {cI cB cZ cJ : ClassId} {b Ls : Nat} {xs : Nat → Int32} {a am : Nat → Nat} {o t : Nat} {σ τ : St} {fo : Nat → Int64} (F : GF p s m #[Value.ref b] meth c c_L_law 7 rt ⟨rL, nm, "([I)Z"⟩ (c0 :: tbW) D vCl (TY cI cB cZ cJ) []) (hl : l.stackTraces = false) (hX : va_X b Ls xs s s.heap) (hbl : b < s.heap.size) (hL : Ls ≤ 1536) (ht : 3 * t + 3 ≤ Ls) (R : RR σ τ) (hc : cells + 1 ≤ 601024) (hs : slots + 6 ≤ 7293034)
    (k : ∀ (σ' τ' : St) (f' : Nat → Int64), RR σ' τ' → GJ p l e room_1 s m #[Value.ref b] below meth c D vCl (va_A [] s.heap.size) s.heap 7 Q (cells + 1) (slots + 6) ((bw a cI cB 32 σ' ++ [oC o cJ f']) ++ mw am cI cZ τ') 626 [.ref b, .ref (a 0), .ref (am 0), .ref o, .int (nI (3 * t))] []) : GJ p l e room_1 s m #[Value.ref b] below meth c D vCl (va_A [] s.heap.size) s.heap 7 Q cells slots ((bw a cI cB 32 σ ++ [oC o cJ fo]) ++ mw am cI cZ τ) 92 [.ref b, .ref (a 0), .ref (am 0), .ref o, .int (nI (3 * t))] [] := by
  have hx := F.1
  have hb := F.2.1
  refine gj_ld (i := 1) (pc2 := 93) rfl (fun _ _ _ h9 => lv_aload_n hx hb d_L_law_92 rfl h9) ?_
  refine gj_ld (i := 0) (pc2 := 94) rfl (fun _ _ _ h9 => lv_aload_n hx hb d_L_law_93 rfl h9) ?_
  refine gj_ld (i := 4) (pc2 := 96) rfl (fun _ _ _ h9 => lv_iload hx hb d_L_law_94 h9) ?_
  refine gj_l (pc2 := 97) (fun _ _ _ => lv_iconst (v := 1) hx hb d_L_law_96 (by decide)) ?_
  refine gj_l (pc2 := 98) (fun _ _ _ => lv_iadd hx hb d_L_law_97) ?_
  refine gj_sld F hX hbl (by omega) (i := 3 * t + 1) (nI_add _ 1) (by omega) d_L_law_98 rfl ?_
  refine gj_ld (i := 0) (pc2 := 100) rfl (fun _ _ _ h9 => lv_aload_n hx hb d_L_law_99 rfl h9) ?_
  refine gj_ld (i := 4) (pc2 := 102) rfl (fun _ _ _ h9 => lv_iload hx hb d_L_law_100 h9) ?_
  refine gj_l (pc2 := 103) (fun _ _ _ => lv_iconst (v := 2) hx hb d_L_law_102 (by decide)) ?_
  refine gj_l (pc2 := 104) (fun _ _ _ => lv_iadd hx hb d_L_law_103) ?_
  refine gj_sld F hX hbl (by omega) (i := 3 * t + 2) (nI_add _ 2) (by omega) d_L_law_104 rfl ?_
  refine gj_ld (i := 3) (pc2 := 106) rfl (fun _ _ _ h9 => lv_aload_n hx hb d_L_law_105 rfl h9) ?_
  refine gj_sw F (n2 := 4) q_106 q_0 q_105 ⟨by decide +kernel, by decide +kernel, by decide +kernel⟩ d_L_law_106 q_104 (ct_L_poke (xs (3 * t + 1)) (xs (3 * t + 2)) o fo (ct_X_poke (a := a) hl (xs (3 * t + 1)) (xs (3 * t + 2))) (fun E u h => h.2.elim (fun h => Or.inl h.1) (fun h => Or.inr h.1))) rfl rfl ⟨Nat.le_of_ble_eq_true rfl, Nat.le_of_ble_eq_true rfl⟩ rfl rfl (Nat.le_of_ble_eq_true rfl) hc hs rfl (fun r1 u1 e1 => ?_)
  refine gj_st (i := 5) (pc2 := 111) (Nat.le_of_ble_eq_true rfl) rfl (fun _ _ _ _ _ h9 l9 => lv_istore hx hb d_L_law_109 h9 (Nat.le_of_ble_eq_true rfl) l9) ?_
  refine gj_ld (i := 2) (pc2 := 112) rfl (fun _ _ _ h9 => lv_aload_n hx hb d_L_law_111 rfl h9) ?_
  refine gj_ld (i := 0) (pc2 := 113) rfl (fun _ _ _ h9 => lv_aload_n hx hb d_L_law_112 rfl h9) ?_
  refine gj_ld (i := 4) (pc2 := 115) rfl (fun _ _ _ h9 => lv_iload hx hb d_L_law_113 h9) ?_
  refine gj_l (pc2 := 116) (fun _ _ _ => lv_iconst (v := 1) hx hb d_L_law_115 (by decide)) ?_
  refine gj_l (pc2 := 117) (fun _ _ _ => lv_iadd hx hb d_L_law_116) ?_
  refine gj_sld F hX hbl (by omega) (i := 3 * t + 1) (nI_add _ 1) (by omega) d_L_law_117 rfl ?_
  refine gj_ld (i := 0) (pc2 := 119) rfl (fun _ _ _ h9 => lv_aload_n hx hb d_L_law_118 rfl h9) ?_
  refine gj_ld (i := 4) (pc2 := 121) rfl (fun _ _ _ h9 => lv_iload hx hb d_L_law_119 h9) ?_
  refine gj_l (pc2 := 122) (fun _ _ _ => lv_iconst (v := 2) hx hb d_L_law_121 (by decide)) ?_
  refine gj_l (pc2 := 123) (fun _ _ _ => lv_iadd hx hb d_L_law_122) ?_
  refine gj_sld F hX hbl (by omega) (i := 3 * t + 2) (nI_add _ 2) (by omega) d_L_law_123 rfl ?_
  refine gj_swap ?_
  refine gj_vi F (As := [.int (xs (3 * t + 1)), .int (xs (3 * t + 2))]) k_M_poke d_L_law_124 q_393 mw_h rfl (ct_M_poke (a := am) (xs (3 * t + 1)) (xs (3 * t + 2))) (rmo rfl) rfl rfl (Nat.le_of_ble_eq_true rfl) hc hs rfl (fun r2 u2 e2 => ?_)
  obtain ⟨σ', τ', f', rfl, rfl, c1, c2, c3⟩ := cm_poke R e1 e2
  refine gj_st (i := 6) (pc2 := 129) (Nat.le_of_ble_eq_true rfl) rfl (fun _ _ _ _ _ h9 l9 => lv_istore hx hb d_L_law_127 h9 (Nat.le_of_ble_eq_true rfl) l9) ?_
  refine gj_ld (i := 2) (pc2 := 130) rfl (fun _ _ _ h9 => lv_aload_n hx hb d_L_law_129 rfl h9) ?_
  refine gj_vi F (As := []) k_M_thrown d_L_law_130 q_389 mw_h rfl (ct_M_thrown (a := am)) (rmo rfl) rfl rfl (Nat.le_of_ble_eq_true rfl) hc hs rfl (fun r3 u3 e3 => ?_)
  obtain ⟨rfl, rfl⟩ := e3
  refine gj_swap ?_
  refine gj_ld (i := 5) (pc2 := 135) rfl (fun _ _ _ h9 => lv_iload hx hb d_L_law_133 h9) ?_
  refine gj_if (pc2 := 140) (pc3 := 138) (fun _ _ _ => lv_icmp_eq (tgt := 140) hx hb d_L_law_135 (by decide)) (fun h7 => ?_) (fun h7 => absurd c1 h7)
  refine gj_ld (i := 5) (pc2 := 142) rfl (fun _ _ _ h9 => lv_iload hx hb d_L_law_140 h9) ?_
  have fin := gj_l (pc2 := 626) (pc := 157) (p := p) (l := l) (e := e) (R := room_1) (s := s) (m := m) (args := #[Value.ref b]) (below := below) (meth := meth) (c := c) (D := D) (cl := vCl) (A := va_A [] s.heap.size) (H0 := s.heap) (n := 7) (Q := Q) (fun _ _ _ => lv_goto (tgt := 626) hx hb d_L_law_157 (by decide)) (gj_drop (L0 := [.int r1, .int r2]) (k σ' τ' f' c3))
  refine gj_if (pc2 := 157) (pc3 := 145) (fun _ _ _ => lv_if_ne (tgt := 157) hx hb d_L_law_142 (by decide)) (fun h8 => fin) (fun h8 => ?_)
  refine gj_ld (i := 3) (pc2 := 146) rfl (fun _ _ _ h9 => lv_aload_n hx hb d_L_law_145 rfl h9) ?_
  refine gj_l (pc2 := 147) (fun _ _ _ => lv_iconst (v := 0) hx hb d_L_law_146 (by decide)) ?_
  refine gj_lald F 68 oc_at d_L_law_147 rfl ?_
  refine gj_ld (i := 6) (pc2 := 150) rfl (fun _ _ _ h9 => lv_iload hx hb d_L_law_148 h9) ?_
  refine gj_l (pc2 := 151) (fun _ _ _ => lv_i2l hx hb d_L_law_150 rfl) ?_
  refine gj_l (pc2 := 152) (fun _ _ _ => W.lcmp hx hb d_L_law_151) ?_
  refine gj_if (pc2 := 157) (pc3 := 155) (fun _ _ _ => lv_if_eq (tgt := 157) hx hb d_L_law_152 (by decide)) (fun h9 => fin) (fun h9 => ?_)
  exact absurd (by rw [c2 h8]; exact lg_0 _) h9
set_option maxHeartbeats 4000000 in
set_option maxRecDepth 100000 in
theorem law_pokeFour {p : Program} {l : Launch} {e : Env} {s : State} {m : MethodId} {below : List Frame} {meth : Method} {c : Code} {cells slots : Nat} {Q : State → Prop} {D : va_G} {rt : Option FieldType} {nm : String} {c0 : Cond} {cI cB cZ cJ : ClassId} {b Ls : Nat} {xs : Nat → Int32} {a am : Nat → Nat} {o t : Nat} {σ τ : St} {fo : Nat → Int64} (F : GF p s m #[Value.ref b] meth c c_L_law 7 rt ⟨rL, nm, "([I)Z"⟩ (c0 :: tbW) D vCl (TY cI cB cZ cJ) []) (hl : l.stackTraces = false) (hX : va_X b Ls xs s s.heap) (hbl : b < s.heap.size) (hL : Ls ≤ 1536) (ht : 3 * t + 3 ≤ Ls) (R : RR σ τ) (hc : cells + 1 ≤ 601024) (hs : slots + 6 ≤ 7293034)
    (k : ∀ (σ' τ' : St) (f' : Nat → Int64), RR σ' τ' → GJ p l e room_1 s m #[Value.ref b] below meth c D vCl (va_A [] s.heap.size) s.heap 7 Q (cells + 1) (slots + 6) ((bw a cI cB 32 σ' ++ [oC o cJ f']) ++ mw am cI cZ τ') 626 [.ref b, .ref (a 0), .ref (am 0), .ref o, .int (nI (3 * t))] []) : GJ p l e room_1 s m #[Value.ref b] below meth c D vCl (va_A [] s.heap.size) s.heap 7 Q cells slots ((bw a cI cB 32 σ ++ [oC o cJ fo]) ++ mw am cI cZ τ) 160 [.ref b, .ref (a 0), .ref (am 0), .ref o, .int (nI (3 * t))] [] := by
  have hx := F.1
  have hb := F.2.1
  refine gj_ld (i := 1) (pc2 := 161) rfl (fun _ _ _ h9 => lv_aload_n hx hb d_L_law_160 rfl h9) ?_
  refine gj_ld (i := 0) (pc2 := 162) rfl (fun _ _ _ h9 => lv_aload_n hx hb d_L_law_161 rfl h9) ?_
  refine gj_ld (i := 4) (pc2 := 164) rfl (fun _ _ _ h9 => lv_iload hx hb d_L_law_162 h9) ?_
  refine gj_l (pc2 := 165) (fun _ _ _ => lv_iconst (v := 1) hx hb d_L_law_164 (by decide)) ?_
  refine gj_l (pc2 := 166) (fun _ _ _ => lv_iadd hx hb d_L_law_165) ?_
  refine gj_sld F hX hbl (by omega) (i := 3 * t + 1) (nI_add _ 1) (by omega) d_L_law_166 rfl ?_
  refine gj_ld (i := 0) (pc2 := 168) rfl (fun _ _ _ h9 => lv_aload_n hx hb d_L_law_167 rfl h9) ?_
  refine gj_ld (i := 4) (pc2 := 170) rfl (fun _ _ _ h9 => lv_iload hx hb d_L_law_168 h9) ?_
  refine gj_l (pc2 := 171) (fun _ _ _ => lv_iconst (v := 2) hx hb d_L_law_170 (by decide)) ?_
  refine gj_l (pc2 := 172) (fun _ _ _ => lv_iadd hx hb d_L_law_171) ?_
  refine gj_sld F hX hbl (by omega) (i := 3 * t + 2) (nI_add _ 2) (by omega) d_L_law_172 rfl ?_
  refine gj_ld (i := 3) (pc2 := 174) rfl (fun _ _ _ h9 => lv_aload_n hx hb d_L_law_173 rfl h9) ?_
  refine gj_sw F (n2 := 4) q_210 q_0 q_209 ⟨by decide +kernel, by decide +kernel, by decide +kernel⟩ d_L_law_174 q_208 (ct_L_pokeFour (xs (3 * t + 1)) (xs (3 * t + 2)) o fo (ct_X_pokeFour (a := a) hl (xs (3 * t + 1)) (xs (3 * t + 2))) (fun E u h => h.1)) rfl rfl ⟨Nat.le_of_ble_eq_true rfl, Nat.le_of_ble_eq_true rfl⟩ rfl rfl (Nat.le_of_ble_eq_true rfl) hc hs rfl (fun r1 u1 e1 => ?_)
  refine gj_st (i := 5) (pc2 := 179) (Nat.le_of_ble_eq_true rfl) rfl (fun _ _ _ _ _ h9 l9 => lv_istore hx hb d_L_law_177 h9 (Nat.le_of_ble_eq_true rfl) l9) ?_
  refine gj_ld (i := 2) (pc2 := 180) rfl (fun _ _ _ h9 => lv_aload_n hx hb d_L_law_179 rfl h9) ?_
  refine gj_ld (i := 0) (pc2 := 181) rfl (fun _ _ _ h9 => lv_aload_n hx hb d_L_law_180 rfl h9) ?_
  refine gj_ld (i := 4) (pc2 := 183) rfl (fun _ _ _ h9 => lv_iload hx hb d_L_law_181 h9) ?_
  refine gj_l (pc2 := 184) (fun _ _ _ => lv_iconst (v := 1) hx hb d_L_law_183 (by decide)) ?_
  refine gj_l (pc2 := 185) (fun _ _ _ => lv_iadd hx hb d_L_law_184) ?_
  refine gj_sld F hX hbl (by omega) (i := 3 * t + 1) (nI_add _ 1) (by omega) d_L_law_185 rfl ?_
  refine gj_ld (i := 0) (pc2 := 187) rfl (fun _ _ _ h9 => lv_aload_n hx hb d_L_law_186 rfl h9) ?_
  refine gj_ld (i := 4) (pc2 := 189) rfl (fun _ _ _ h9 => lv_iload hx hb d_L_law_187 h9) ?_
  refine gj_l (pc2 := 190) (fun _ _ _ => lv_iconst (v := 2) hx hb d_L_law_189 (by decide)) ?_
  refine gj_l (pc2 := 191) (fun _ _ _ => lv_iadd hx hb d_L_law_190) ?_
  refine gj_sld F hX hbl (by omega) (i := 3 * t + 2) (nI_add _ 2) (by omega) d_L_law_191 rfl ?_
  refine gj_swap ?_
  refine gj_vi F (As := [.int (xs (3 * t + 1)), .int (xs (3 * t + 2))]) k_M_pokeFour d_L_law_192 q_415 mw_h rfl (ct_M_pokeFour (a := am) (xs (3 * t + 1)) (xs (3 * t + 2))) (rmo rfl) rfl rfl (Nat.le_of_ble_eq_true rfl) hc hs rfl (fun r2 u2 e2 => ?_)
  obtain ⟨σ', τ', f', rfl, rfl, c1, c2, c3⟩ := cm_pokeFour R e1 e2
  refine gj_st (i := 6) (pc2 := 197) (Nat.le_of_ble_eq_true rfl) rfl (fun _ _ _ _ _ h9 l9 => lv_istore hx hb d_L_law_195 h9 (Nat.le_of_ble_eq_true rfl) l9) ?_
  refine gj_ld (i := 2) (pc2 := 198) rfl (fun _ _ _ h9 => lv_aload_n hx hb d_L_law_197 rfl h9) ?_
  refine gj_vi F (As := []) k_M_thrown d_L_law_198 q_389 mw_h rfl (ct_M_thrown (a := am)) (rmo rfl) rfl rfl (Nat.le_of_ble_eq_true rfl) hc hs rfl (fun r3 u3 e3 => ?_)
  obtain ⟨rfl, rfl⟩ := e3
  refine gj_swap ?_
  refine gj_ld (i := 5) (pc2 := 203) rfl (fun _ _ _ h9 => lv_iload hx hb d_L_law_201 h9) ?_
  refine gj_if (pc2 := 208) (pc3 := 206) (fun _ _ _ => lv_icmp_eq (tgt := 208) hx hb d_L_law_203 (by decide)) (fun h7 => ?_) (fun h7 => absurd c1 h7)
  refine gj_ld (i := 5) (pc2 := 210) rfl (fun _ _ _ h9 => lv_iload hx hb d_L_law_208 h9) ?_
  have fin := gj_l (pc2 := 626) (pc := 225) (p := p) (l := l) (e := e) (R := room_1) (s := s) (m := m) (args := #[Value.ref b]) (below := below) (meth := meth) (c := c) (D := D) (cl := vCl) (A := va_A [] s.heap.size) (H0 := s.heap) (n := 7) (Q := Q) (fun _ _ _ => lv_goto (tgt := 626) hx hb d_L_law_225 (by decide)) (gj_drop (L0 := [.int r1, .int r2]) (k σ' τ' f' c3))
  refine gj_if (pc2 := 225) (pc3 := 213) (fun _ _ _ => lv_if_ne (tgt := 225) hx hb d_L_law_210 (by decide)) (fun h8 => fin) (fun h8 => ?_)
  refine gj_ld (i := 3) (pc2 := 214) rfl (fun _ _ _ h9 => lv_aload_n hx hb d_L_law_213 rfl h9) ?_
  refine gj_l (pc2 := 215) (fun _ _ _ => lv_iconst (v := 0) hx hb d_L_law_214 (by decide)) ?_
  refine gj_lald F 68 oc_at d_L_law_215 rfl ?_
  refine gj_ld (i := 6) (pc2 := 218) rfl (fun _ _ _ h9 => lv_iload hx hb d_L_law_216 h9) ?_
  refine gj_l (pc2 := 219) (fun _ _ _ => lv_i2l hx hb d_L_law_218 rfl) ?_
  refine gj_l (pc2 := 220) (fun _ _ _ => W.lcmp hx hb d_L_law_219) ?_
  refine gj_if (pc2 := 225) (pc3 := 223) (fun _ _ _ => lv_if_eq (tgt := 225) hx hb d_L_law_220 (by decide)) (fun h9 => fin) (fun h9 => ?_)
  exact absurd (by rw [c2 h8]; exact lg_0 _) h9
set_option maxHeartbeats 4000000 in
set_option maxRecDepth 100000 in
theorem law_set {p : Program} {l : Launch} {e : Env} {s : State} {m : MethodId} {below : List Frame} {meth : Method} {c : Code} {cells slots : Nat} {Q : State → Prop} {D : va_G} {rt : Option FieldType} {nm : String} {c0 : Cond} {cI cB cZ cJ : ClassId} {b Ls : Nat} {xs : Nat → Int32} {a am : Nat → Nat} {o t : Nat} {σ τ : St} {fo : Nat → Int64} (F : GF p s m #[Value.ref b] meth c c_L_law 7 rt ⟨rL, nm, "([I)Z"⟩ (c0 :: tbW) D vCl (TY cI cB cZ cJ) []) (hl : l.stackTraces = false) (hX : va_X b Ls xs s s.heap) (hbl : b < s.heap.size) (hL : Ls ≤ 1536) (ht : 3 * t + 3 ≤ Ls) (R : RR σ τ) (hc : cells + 1 ≤ 601024) (hs : slots + 6 ≤ 7293034)
    (k : ∀ (σ' τ' : St) (f' : Nat → Int64), RR σ' τ' → GJ p l e room_1 s m #[Value.ref b] below meth c D vCl (va_A [] s.heap.size) s.heap 7 Q (cells + 1) (slots + 6) ((bw a cI cB 32 σ' ++ [oC o cJ f']) ++ mw am cI cZ τ') 626 [.ref b, .ref (a 0), .ref (am 0), .ref o, .int (nI (3 * t))] []) : GJ p l e room_1 s m #[Value.ref b] below meth c D vCl (va_A [] s.heap.size) s.heap 7 Q cells slots ((bw a cI cB 32 σ ++ [oC o cJ fo]) ++ mw am cI cZ τ) 228 [.ref b, .ref (a 0), .ref (am 0), .ref o, .int (nI (3 * t))] [] := by
  have hx := F.1
  have hb := F.2.1
  refine gj_ld (i := 1) (pc2 := 229) rfl (fun _ _ _ h9 => lv_aload_n hx hb d_L_law_228 rfl h9) ?_
  refine gj_ld (i := 0) (pc2 := 230) rfl (fun _ _ _ h9 => lv_aload_n hx hb d_L_law_229 rfl h9) ?_
  refine gj_ld (i := 4) (pc2 := 232) rfl (fun _ _ _ h9 => lv_iload hx hb d_L_law_230 h9) ?_
  refine gj_l (pc2 := 233) (fun _ _ _ => lv_iconst (v := 1) hx hb d_L_law_232 (by decide)) ?_
  refine gj_l (pc2 := 234) (fun _ _ _ => lv_iadd hx hb d_L_law_233) ?_
  refine gj_sld F hX hbl (by omega) (i := 3 * t + 1) (nI_add _ 1) (by omega) d_L_law_234 rfl ?_
  refine gj_ld (i := 0) (pc2 := 236) rfl (fun _ _ _ h9 => lv_aload_n hx hb d_L_law_235 rfl h9) ?_
  refine gj_ld (i := 4) (pc2 := 238) rfl (fun _ _ _ h9 => lv_iload hx hb d_L_law_236 h9) ?_
  refine gj_l (pc2 := 239) (fun _ _ _ => lv_iconst (v := 2) hx hb d_L_law_238 (by decide)) ?_
  refine gj_l (pc2 := 240) (fun _ _ _ => lv_iadd hx hb d_L_law_239) ?_
  refine gj_sld F hX hbl (by omega) (i := 3 * t + 2) (nI_add _ 2) (by omega) d_L_law_240 rfl ?_
  refine gj_ld (i := 3) (pc2 := 242) rfl (fun _ _ _ h9 => lv_aload_n hx hb d_L_law_241 rfl h9) ?_
  refine gj_sw F (n2 := 4) q_221 q_0 q_220 ⟨by decide +kernel, by decide +kernel, by decide +kernel⟩ d_L_law_242 q_219 (ct_L_set (xs (3 * t + 1)) (xs (3 * t + 2)) o fo (ct_X_set (a := a) hl (xs (3 * t + 1)) (xs (3 * t + 2))) (fun E u h => h.1)) rfl rfl ⟨Nat.le_of_ble_eq_true rfl, Nat.le_of_ble_eq_true rfl⟩ rfl rfl (Nat.le_of_ble_eq_true rfl) hc hs rfl (fun r1 u1 e1 => ?_)
  refine gj_st (i := 5) (pc2 := 247) (Nat.le_of_ble_eq_true rfl) rfl (fun _ _ _ _ _ h9 l9 => lv_istore hx hb d_L_law_245 h9 (Nat.le_of_ble_eq_true rfl) l9) ?_
  refine gj_ld (i := 2) (pc2 := 248) rfl (fun _ _ _ h9 => lv_aload_n hx hb d_L_law_247 rfl h9) ?_
  refine gj_ld (i := 0) (pc2 := 249) rfl (fun _ _ _ h9 => lv_aload_n hx hb d_L_law_248 rfl h9) ?_
  refine gj_ld (i := 4) (pc2 := 251) rfl (fun _ _ _ h9 => lv_iload hx hb d_L_law_249 h9) ?_
  refine gj_l (pc2 := 252) (fun _ _ _ => lv_iconst (v := 1) hx hb d_L_law_251 (by decide)) ?_
  refine gj_l (pc2 := 253) (fun _ _ _ => lv_iadd hx hb d_L_law_252) ?_
  refine gj_sld F hX hbl (by omega) (i := 3 * t + 1) (nI_add _ 1) (by omega) d_L_law_253 rfl ?_
  refine gj_ld (i := 0) (pc2 := 255) rfl (fun _ _ _ h9 => lv_aload_n hx hb d_L_law_254 rfl h9) ?_
  refine gj_ld (i := 4) (pc2 := 257) rfl (fun _ _ _ h9 => lv_iload hx hb d_L_law_255 h9) ?_
  refine gj_l (pc2 := 258) (fun _ _ _ => lv_iconst (v := 2) hx hb d_L_law_257 (by decide)) ?_
  refine gj_l (pc2 := 259) (fun _ _ _ => lv_iadd hx hb d_L_law_258) ?_
  refine gj_sld F hX hbl (by omega) (i := 3 * t + 2) (nI_add _ 2) (by omega) d_L_law_259 rfl ?_
  refine gj_swap ?_
  refine gj_vi F (As := [.int (xs (3 * t + 1)), .int (xs (3 * t + 2))]) k_M_set d_L_law_260 q_419 mw_h rfl (ct_M_set (a := am) (xs (3 * t + 1)) (xs (3 * t + 2))) (rmo rfl) rfl rfl (Nat.le_of_ble_eq_true rfl) hc hs rfl (fun r2 u2 e2 => ?_)
  obtain ⟨σ', τ', f', rfl, rfl, c1, c2, c3⟩ := cm_set R e1 e2
  refine gj_st (i := 6) (pc2 := 265) (Nat.le_of_ble_eq_true rfl) rfl (fun _ _ _ _ _ h9 l9 => lv_istore hx hb d_L_law_263 h9 (Nat.le_of_ble_eq_true rfl) l9) ?_
  refine gj_ld (i := 2) (pc2 := 266) rfl (fun _ _ _ h9 => lv_aload_n hx hb d_L_law_265 rfl h9) ?_
  refine gj_vi F (As := []) k_M_thrown d_L_law_266 q_389 mw_h rfl (ct_M_thrown (a := am)) (rmo rfl) rfl rfl (Nat.le_of_ble_eq_true rfl) hc hs rfl (fun r3 u3 e3 => ?_)
  obtain ⟨rfl, rfl⟩ := e3
  refine gj_swap ?_
  refine gj_ld (i := 5) (pc2 := 271) rfl (fun _ _ _ h9 => lv_iload hx hb d_L_law_269 h9) ?_
  refine gj_if (pc2 := 276) (pc3 := 274) (fun _ _ _ => lv_icmp_eq (tgt := 276) hx hb d_L_law_271 (by decide)) (fun h7 => ?_) (fun h7 => absurd c1 h7)
  refine gj_ld (i := 5) (pc2 := 278) rfl (fun _ _ _ h9 => lv_iload hx hb d_L_law_276 h9) ?_
  have fin := gj_l (pc2 := 626) (pc := 293) (p := p) (l := l) (e := e) (R := room_1) (s := s) (m := m) (args := #[Value.ref b]) (below := below) (meth := meth) (c := c) (D := D) (cl := vCl) (A := va_A [] s.heap.size) (H0 := s.heap) (n := 7) (Q := Q) (fun _ _ _ => lv_goto (tgt := 626) hx hb d_L_law_293 (by decide)) (gj_drop (L0 := [.int r1, .int r2]) (k σ' τ' f' c3))
  refine gj_if (pc2 := 293) (pc3 := 281) (fun _ _ _ => lv_if_ne (tgt := 293) hx hb d_L_law_278 (by decide)) (fun h8 => fin) (fun h8 => ?_)
  refine gj_ld (i := 3) (pc2 := 282) rfl (fun _ _ _ h9 => lv_aload_n hx hb d_L_law_281 rfl h9) ?_
  refine gj_l (pc2 := 283) (fun _ _ _ => lv_iconst (v := 0) hx hb d_L_law_282 (by decide)) ?_
  refine gj_lald F 68 oc_at d_L_law_283 rfl ?_
  refine gj_ld (i := 6) (pc2 := 286) rfl (fun _ _ _ h9 => lv_iload hx hb d_L_law_284 h9) ?_
  refine gj_l (pc2 := 287) (fun _ _ _ => lv_i2l hx hb d_L_law_286 rfl) ?_
  refine gj_l (pc2 := 288) (fun _ _ _ => W.lcmp hx hb d_L_law_287) ?_
  refine gj_if (pc2 := 293) (pc3 := 291) (fun _ _ _ => lv_if_eq (tgt := 293) hx hb d_L_law_288 (by decide)) (fun h9 => fin) (fun h9 => ?_)
  exact absurd (by rw [c2 h8]; exact lg_0 _) h9
set_option maxHeartbeats 4000000 in
set_option maxRecDepth 100000 in
theorem law_go {p : Program} {l : Launch} {e : Env} {s : State} {m : MethodId} {below : List Frame} {meth : Method} {c : Code} {cells slots : Nat} {Q : State → Prop} {D : va_G} {rt : Option FieldType} {nm : String} {c0 : Cond} {cI cB cZ cJ : ClassId} {b Ls : Nat} {xs : Nat → Int32} {a am : Nat → Nat} {o t : Nat} {σ τ : St} {fo : Nat → Int64} (F : GF p s m #[Value.ref b] meth c c_L_law 7 rt ⟨rL, nm, "([I)Z"⟩ (c0 :: tbW) D vCl (TY cI cB cZ cJ) []) (hl : l.stackTraces = false) (hX : va_X b Ls xs s s.heap) (hbl : b < s.heap.size) (hL : Ls ≤ 1536) (ht : 3 * t + 3 ≤ Ls) (R : RR σ τ) (hc : cells + 1 ≤ 601024) (hs : slots + 6 ≤ 7293034)
    (k : ∀ (σ' τ' : St) (f' : Nat → Int64), RR σ' τ' → GJ p l e room_1 s m #[Value.ref b] below meth c D vCl (va_A [] s.heap.size) s.heap 7 Q (cells + 1) (slots + 6) ((bw a cI cB 32 σ' ++ [oC o cJ f']) ++ mw am cI cZ τ') 626 [.ref b, .ref (a 0), .ref (am 0), .ref o, .int (nI (3 * t))] []) : GJ p l e room_1 s m #[Value.ref b] below meth c D vCl (va_A [] s.heap.size) s.heap 7 Q cells slots ((bw a cI cB 32 σ ++ [oC o cJ fo]) ++ mw am cI cZ τ) 296 [.ref b, .ref (a 0), .ref (am 0), .ref o, .int (nI (3 * t))] [] := by
  have hx := F.1
  have hb := F.2.1
  refine gj_ld (i := 1) (pc2 := 297) rfl (fun _ _ _ h9 => lv_aload_n hx hb d_L_law_296 rfl h9) ?_
  refine gj_ld (i := 0) (pc2 := 298) rfl (fun _ _ _ h9 => lv_aload_n hx hb d_L_law_297 rfl h9) ?_
  refine gj_ld (i := 4) (pc2 := 300) rfl (fun _ _ _ h9 => lv_iload hx hb d_L_law_298 h9) ?_
  refine gj_l (pc2 := 301) (fun _ _ _ => lv_iconst (v := 1) hx hb d_L_law_300 (by decide)) ?_
  refine gj_l (pc2 := 302) (fun _ _ _ => lv_iadd hx hb d_L_law_301) ?_
  refine gj_sld F hX hbl (by omega) (i := 3 * t + 1) (nI_add _ 1) (by omega) d_L_law_302 rfl ?_
  refine gj_ld (i := 3) (pc2 := 304) rfl (fun _ _ _ h9 => lv_aload_n hx hb d_L_law_303 rfl h9) ?_
  refine gj_sw F (n2 := 3) q_229 q_0 q_228 ⟨by decide +kernel, by decide +kernel, by decide +kernel⟩ d_L_law_304 q_227 (ct_L_go (xs (3 * t + 1)) o fo (ct_X_go (a := a) hl (xs (3 * t + 1))) (fun E u h => h.1)) rfl rfl ⟨Nat.le_of_ble_eq_true rfl, Nat.le_of_ble_eq_true rfl⟩ rfl rfl (Nat.le_of_ble_eq_true rfl) hc hs rfl (fun r1 u1 e1 => ?_)
  refine gj_st (i := 5) (pc2 := 309) (Nat.le_of_ble_eq_true rfl) rfl (fun _ _ _ _ _ h9 l9 => lv_istore hx hb d_L_law_307 h9 (Nat.le_of_ble_eq_true rfl) l9) ?_
  refine gj_ld (i := 2) (pc2 := 310) rfl (fun _ _ _ h9 => lv_aload_n hx hb d_L_law_309 rfl h9) ?_
  refine gj_ld (i := 0) (pc2 := 311) rfl (fun _ _ _ h9 => lv_aload_n hx hb d_L_law_310 rfl h9) ?_
  refine gj_ld (i := 4) (pc2 := 313) rfl (fun _ _ _ h9 => lv_iload hx hb d_L_law_311 h9) ?_
  refine gj_l (pc2 := 314) (fun _ _ _ => lv_iconst (v := 1) hx hb d_L_law_313 (by decide)) ?_
  refine gj_l (pc2 := 315) (fun _ _ _ => lv_iadd hx hb d_L_law_314) ?_
  refine gj_sld F hX hbl (by omega) (i := 3 * t + 1) (nI_add _ 1) (by omega) d_L_law_315 rfl ?_
  refine gj_swap ?_
  refine gj_vi F (As := [.int (xs (3 * t + 1))]) k_M_go d_L_law_316 q_423 mw_h rfl (ct_M_go (a := am) (xs (3 * t + 1))) (rmo rfl) rfl rfl (Nat.le_of_ble_eq_true rfl) hc hs rfl (fun r2 u2 e2 => ?_)
  obtain ⟨σ', τ', f', rfl, rfl, c1, c2, c3⟩ := cm_go R e1 e2
  refine gj_st (i := 6) (pc2 := 321) (Nat.le_of_ble_eq_true rfl) rfl (fun _ _ _ _ _ h9 l9 => lv_istore hx hb d_L_law_319 h9 (Nat.le_of_ble_eq_true rfl) l9) ?_
  refine gj_ld (i := 2) (pc2 := 322) rfl (fun _ _ _ h9 => lv_aload_n hx hb d_L_law_321 rfl h9) ?_
  refine gj_vi F (As := []) k_M_thrown d_L_law_322 q_389 mw_h rfl (ct_M_thrown (a := am)) (rmo rfl) rfl rfl (Nat.le_of_ble_eq_true rfl) hc hs rfl (fun r3 u3 e3 => ?_)
  obtain ⟨rfl, rfl⟩ := e3
  refine gj_swap ?_
  refine gj_ld (i := 5) (pc2 := 327) rfl (fun _ _ _ h9 => lv_iload hx hb d_L_law_325 h9) ?_
  refine gj_if (pc2 := 332) (pc3 := 330) (fun _ _ _ => lv_icmp_eq (tgt := 332) hx hb d_L_law_327 (by decide)) (fun h7 => ?_) (fun h7 => absurd c1 h7)
  refine gj_ld (i := 5) (pc2 := 334) rfl (fun _ _ _ h9 => lv_iload hx hb d_L_law_332 h9) ?_
  have fin := gj_l (pc2 := 626) (pc := 349) (p := p) (l := l) (e := e) (R := room_1) (s := s) (m := m) (args := #[Value.ref b]) (below := below) (meth := meth) (c := c) (D := D) (cl := vCl) (A := va_A [] s.heap.size) (H0 := s.heap) (n := 7) (Q := Q) (fun _ _ _ => lv_goto (tgt := 626) hx hb d_L_law_349 (by decide)) (gj_drop (L0 := [.int r1, .int r2]) (k σ' τ' f' c3))
  refine gj_if (pc2 := 349) (pc3 := 337) (fun _ _ _ => lv_if_ne (tgt := 349) hx hb d_L_law_334 (by decide)) (fun h8 => fin) (fun h8 => ?_)
  refine gj_ld (i := 3) (pc2 := 338) rfl (fun _ _ _ h9 => lv_aload_n hx hb d_L_law_337 rfl h9) ?_
  refine gj_l (pc2 := 339) (fun _ _ _ => lv_iconst (v := 0) hx hb d_L_law_338 (by decide)) ?_
  refine gj_lald F 68 oc_at d_L_law_339 rfl ?_
  refine gj_ld (i := 6) (pc2 := 342) rfl (fun _ _ _ h9 => lv_iload hx hb d_L_law_340 h9) ?_
  refine gj_l (pc2 := 343) (fun _ _ _ => lv_i2l hx hb d_L_law_342 rfl) ?_
  refine gj_l (pc2 := 344) (fun _ _ _ => W.lcmp hx hb d_L_law_343) ?_
  refine gj_if (pc2 := 349) (pc3 := 347) (fun _ _ _ => lv_if_eq (tgt := 349) hx hb d_L_law_344 (by decide)) (fun h9 => fin) (fun h9 => ?_)
  exact absurd (by rw [c2 h8]; exact lg_0 _) h9
set_option maxHeartbeats 4000000 in
set_option maxRecDepth 100000 in
theorem law_run {p : Program} {l : Launch} {e : Env} {s : State} {m : MethodId} {below : List Frame} {meth : Method} {c : Code} {cells slots : Nat} {Q : State → Prop} {D : va_G} {rt : Option FieldType} {nm : String} {c0 : Cond} {cI cB cZ cJ : ClassId} {b Ls : Nat} {xs : Nat → Int32} {a am : Nat → Nat} {o t : Nat} {σ τ : St} {fo : Nat → Int64} (F : GF p s m #[Value.ref b] meth c c_L_law 7 rt ⟨rL, nm, "([I)Z"⟩ (c0 :: tbW) D vCl (TY cI cB cZ cJ) []) (hl : l.stackTraces = false) (hX : va_X b Ls xs s s.heap) (hbl : b < s.heap.size) (hL : Ls ≤ 1536) (ht : 3 * t + 3 ≤ Ls) (R : RR σ τ) (hc : cells + 1 ≤ 601024) (hs : slots + 6 ≤ 7293034)
    (k : ∀ (σ' τ' : St) (f' : Nat → Int64), RR σ' τ' → GJ p l e room_1 s m #[Value.ref b] below meth c D vCl (va_A [] s.heap.size) s.heap 7 Q (cells + 1) (slots + 6) ((bw a cI cB 32 σ' ++ [oC o cJ f']) ++ mw am cI cZ τ') 626 [.ref b, .ref (a 0), .ref (am 0), .ref o, .int (nI (3 * t))] []) : GJ p l e room_1 s m #[Value.ref b] below meth c D vCl (va_A [] s.heap.size) s.heap 7 Q cells slots ((bw a cI cB 32 σ ++ [oC o cJ fo]) ++ mw am cI cZ τ) 352 [.ref b, .ref (a 0), .ref (am 0), .ref o, .int (nI (3 * t))] [] := by
  have hx := F.1
  have hb := F.2.1
  refine gj_ld (i := 1) (pc2 := 353) rfl (fun _ _ _ h9 => lv_aload_n hx hb d_L_law_352 rfl h9) ?_
  refine gj_ld (i := 0) (pc2 := 354) rfl (fun _ _ _ h9 => lv_aload_n hx hb d_L_law_353 rfl h9) ?_
  refine gj_ld (i := 4) (pc2 := 356) rfl (fun _ _ _ h9 => lv_iload hx hb d_L_law_354 h9) ?_
  refine gj_l (pc2 := 357) (fun _ _ _ => lv_iconst (v := 1) hx hb d_L_law_356 (by decide)) ?_
  refine gj_l (pc2 := 358) (fun _ _ _ => lv_iadd hx hb d_L_law_357) ?_
  refine gj_sld F hX hbl (by omega) (i := 3 * t + 1) (nI_add _ 1) (by omega) d_L_law_358 rfl ?_
  refine gj_ld (i := 3) (pc2 := 360) rfl (fun _ _ _ h9 => lv_aload_n hx hb d_L_law_359 rfl h9) ?_
  refine gj_sw F (n2 := 3) q_236 q_0 q_235 ⟨by decide +kernel, by decide +kernel, by decide +kernel⟩ d_L_law_360 q_234 (ct_L_run (xs (3 * t + 1)) o fo (ct_X_run (a := a) hl (xs (3 * t + 1))) (fun E u h => h.1)) rfl rfl ⟨Nat.le_of_ble_eq_true rfl, Nat.le_of_ble_eq_true rfl⟩ rfl rfl (Nat.le_of_ble_eq_true rfl) hc hs rfl (fun r1 u1 e1 => ?_)
  refine gj_st (i := 5) (pc2 := 365) (Nat.le_of_ble_eq_true rfl) rfl (fun _ _ _ _ _ h9 l9 => lv_istore hx hb d_L_law_363 h9 (Nat.le_of_ble_eq_true rfl) l9) ?_
  refine gj_ld (i := 2) (pc2 := 366) rfl (fun _ _ _ h9 => lv_aload_n hx hb d_L_law_365 rfl h9) ?_
  refine gj_ld (i := 0) (pc2 := 367) rfl (fun _ _ _ h9 => lv_aload_n hx hb d_L_law_366 rfl h9) ?_
  refine gj_ld (i := 4) (pc2 := 369) rfl (fun _ _ _ h9 => lv_iload hx hb d_L_law_367 h9) ?_
  refine gj_l (pc2 := 370) (fun _ _ _ => lv_iconst (v := 1) hx hb d_L_law_369 (by decide)) ?_
  refine gj_l (pc2 := 371) (fun _ _ _ => lv_iadd hx hb d_L_law_370) ?_
  refine gj_sld F hX hbl (by omega) (i := 3 * t + 1) (nI_add _ 1) (by omega) d_L_law_371 rfl ?_
  refine gj_swap ?_
  refine gj_vi F (As := [.int (xs (3 * t + 1))]) k_M_run d_L_law_372 q_427 mw_h rfl (ct_M_run (a := am) R.zb R.mi (xs (3 * t + 1))) (rmo rfl) rfl rfl (Nat.le_of_ble_eq_true rfl) hc hs rfl (fun r2 u2 e2 => ?_)
  obtain ⟨σ', τ', f', rfl, rfl, c1, c2, c3⟩ := cm_run R e1 e2
  refine gj_st (i := 6) (pc2 := 377) (Nat.le_of_ble_eq_true rfl) rfl (fun _ _ _ _ _ h9 l9 => lv_istore hx hb d_L_law_375 h9 (Nat.le_of_ble_eq_true rfl) l9) ?_
  refine gj_ld (i := 2) (pc2 := 378) rfl (fun _ _ _ h9 => lv_aload_n hx hb d_L_law_377 rfl h9) ?_
  refine gj_vi F (As := []) k_M_thrown d_L_law_378 q_389 mw_h rfl (ct_M_thrown (a := am)) (rmo rfl) rfl rfl (Nat.le_of_ble_eq_true rfl) hc hs rfl (fun r3 u3 e3 => ?_)
  obtain ⟨rfl, rfl⟩ := e3
  refine gj_swap ?_
  refine gj_ld (i := 5) (pc2 := 383) rfl (fun _ _ _ h9 => lv_iload hx hb d_L_law_381 h9) ?_
  refine gj_if (pc2 := 388) (pc3 := 386) (fun _ _ _ => lv_icmp_eq (tgt := 388) hx hb d_L_law_383 (by decide)) (fun h7 => ?_) (fun h7 => absurd c1 h7)
  refine gj_ld (i := 5) (pc2 := 390) rfl (fun _ _ _ h9 => lv_iload hx hb d_L_law_388 h9) ?_
  have fin := gj_l (pc2 := 626) (pc := 405) (p := p) (l := l) (e := e) (R := room_1) (s := s) (m := m) (args := #[Value.ref b]) (below := below) (meth := meth) (c := c) (D := D) (cl := vCl) (A := va_A [] s.heap.size) (H0 := s.heap) (n := 7) (Q := Q) (fun _ _ _ => lv_goto (tgt := 626) hx hb d_L_law_405 (by decide)) (gj_drop (L0 := [.int r1, .int r2]) (k σ' τ' f' c3))
  refine gj_if (pc2 := 405) (pc3 := 393) (fun _ _ _ => lv_if_ne (tgt := 405) hx hb d_L_law_390 (by decide)) (fun h8 => fin) (fun h8 => ?_)
  refine gj_ld (i := 3) (pc2 := 394) rfl (fun _ _ _ h9 => lv_aload_n hx hb d_L_law_393 rfl h9) ?_
  refine gj_l (pc2 := 395) (fun _ _ _ => lv_iconst (v := 0) hx hb d_L_law_394 (by decide)) ?_
  refine gj_lald F 68 oc_at d_L_law_395 rfl ?_
  refine gj_ld (i := 6) (pc2 := 398) rfl (fun _ _ _ h9 => lv_iload hx hb d_L_law_396 h9) ?_
  refine gj_l (pc2 := 399) (fun _ _ _ => lv_i2l hx hb d_L_law_398 rfl) ?_
  refine gj_l (pc2 := 400) (fun _ _ _ => W.lcmp hx hb d_L_law_399) ?_
  refine gj_if (pc2 := 405) (pc3 := 403) (fun _ _ _ => lv_if_eq (tgt := 405) hx hb d_L_law_400 (by decide)) (fun h9 => fin) (fun h9 => ?_)
  exact absurd (by rw [c2 h8]; exact lg_0 _) h9
set_option maxHeartbeats 4000000 in
set_option maxRecDepth 100000 in
theorem law_memory {p : Program} {l : Launch} {e : Env} {s : State} {m : MethodId} {below : List Frame} {meth : Method} {c : Code} {cells slots : Nat} {Q : State → Prop} {D : va_G} {rt : Option FieldType} {nm : String} {c0 : Cond} {cI cB cZ cJ : ClassId} {b Ls : Nat} {xs : Nat → Int32} {a am : Nat → Nat} {o t : Nat} {σ τ : St} {fo : Nat → Int64} (F : GF p s m #[Value.ref b] meth c c_L_law 7 rt ⟨rL, nm, "([I)Z"⟩ (c0 :: tbW) D vCl (TY cI cB cZ cJ) []) (hl : l.stackTraces = false) (hX : va_X b Ls xs s s.heap) (hbl : b < s.heap.size) (hL : Ls ≤ 1536) (ht : 3 * t + 3 ≤ Ls) (R : RR σ τ) (hc : cells + 1 ≤ 601024) (hs : slots + 6 ≤ 7293034)
    (k : ∀ (σ' τ' : St) (f' : Nat → Int64), RR σ' τ' → GJ p l e room_1 s m #[Value.ref b] below meth c D vCl (va_A [] s.heap.size) s.heap 7 Q (cells + 1) (slots + 6) ((bw a cI cB 32 σ' ++ [oC o cJ f']) ++ mw am cI cZ τ') 626 [.ref b, .ref (a 0), .ref (am 0), .ref o, .int (nI (3 * t))] []) : GJ p l e room_1 s m #[Value.ref b] below meth c D vCl (va_A [] s.heap.size) s.heap 7 Q cells slots ((bw a cI cB 32 σ ++ [oC o cJ fo]) ++ mw am cI cZ τ) 408 [.ref b, .ref (a 0), .ref (am 0), .ref o, .int (nI (3 * t))] [] := by
  have hx := F.1
  have hb := F.2.1
  refine gj_ld (i := 1) (pc2 := 409) rfl (fun _ _ _ h9 => lv_aload_n hx hb d_L_law_408 rfl h9) ?_
  refine gj_ld (i := 0) (pc2 := 410) rfl (fun _ _ _ h9 => lv_aload_n hx hb d_L_law_409 rfl h9) ?_
  refine gj_ld (i := 4) (pc2 := 412) rfl (fun _ _ _ h9 => lv_iload hx hb d_L_law_410 h9) ?_
  refine gj_l (pc2 := 413) (fun _ _ _ => lv_iconst (v := 1) hx hb d_L_law_412 (by decide)) ?_
  refine gj_l (pc2 := 414) (fun _ _ _ => lv_iadd hx hb d_L_law_413) ?_
  refine gj_sld F hX hbl (by omega) (i := 3 * t + 1) (nI_add _ 1) (by omega) d_L_law_414 rfl ?_
  refine gj_ld (i := 3) (pc2 := 416) rfl (fun _ _ _ h9 => lv_aload_n hx hb d_L_law_415 rfl h9) ?_
  refine gj_sw F (n2 := 3) q_304 q_0 q_303 ⟨by decide +kernel, by decide +kernel, by decide +kernel⟩ d_L_law_416 q_302 (ct_L_memory (xs (3 * t + 1)) o fo (ct_X_memory (a := a) hl (xs (3 * t + 1))) (fun E u h => h.1)) rfl rfl ⟨Nat.le_of_ble_eq_true rfl, Nat.le_of_ble_eq_true rfl⟩ rfl rfl (Nat.le_of_ble_eq_true rfl) hc hs rfl (fun r1 u1 e1 => ?_)
  refine gj_st (i := 5) (pc2 := 421) (Nat.le_of_ble_eq_true rfl) rfl (fun _ _ _ _ _ h9 l9 => lv_istore hx hb d_L_law_419 h9 (Nat.le_of_ble_eq_true rfl) l9) ?_
  refine gj_ld (i := 2) (pc2 := 422) rfl (fun _ _ _ h9 => lv_aload_n hx hb d_L_law_421 rfl h9) ?_
  refine gj_ld (i := 0) (pc2 := 423) rfl (fun _ _ _ h9 => lv_aload_n hx hb d_L_law_422 rfl h9) ?_
  refine gj_ld (i := 4) (pc2 := 425) rfl (fun _ _ _ h9 => lv_iload hx hb d_L_law_423 h9) ?_
  refine gj_l (pc2 := 426) (fun _ _ _ => lv_iconst (v := 1) hx hb d_L_law_425 (by decide)) ?_
  refine gj_l (pc2 := 427) (fun _ _ _ => lv_iadd hx hb d_L_law_426) ?_
  refine gj_sld F hX hbl (by omega) (i := 3 * t + 1) (nI_add _ 1) (by omega) d_L_law_427 rfl ?_
  refine gj_swap ?_
  refine gj_vi F (As := [.int (xs (3 * t + 1))]) k_M_memory d_L_law_428 q_470 mw_h rfl (ct_M_memory (a := am) (xs (3 * t + 1))) (rmo rfl) rfl rfl (Nat.le_of_ble_eq_true rfl) hc hs rfl (fun r2 u2 e2 => ?_)
  obtain ⟨σ', τ', f', rfl, rfl, c1, c2, c3⟩ := cm_memory R e1 e2
  refine gj_st (i := 6) (pc2 := 433) (Nat.le_of_ble_eq_true rfl) rfl (fun _ _ _ _ _ h9 l9 => lv_istore hx hb d_L_law_431 h9 (Nat.le_of_ble_eq_true rfl) l9) ?_
  refine gj_ld (i := 2) (pc2 := 434) rfl (fun _ _ _ h9 => lv_aload_n hx hb d_L_law_433 rfl h9) ?_
  refine gj_vi F (As := []) k_M_thrown d_L_law_434 q_389 mw_h rfl (ct_M_thrown (a := am)) (rmo rfl) rfl rfl (Nat.le_of_ble_eq_true rfl) hc hs rfl (fun r3 u3 e3 => ?_)
  obtain ⟨rfl, rfl⟩ := e3
  refine gj_swap ?_
  refine gj_ld (i := 5) (pc2 := 439) rfl (fun _ _ _ h9 => lv_iload hx hb d_L_law_437 h9) ?_
  refine gj_if (pc2 := 444) (pc3 := 442) (fun _ _ _ => lv_icmp_eq (tgt := 444) hx hb d_L_law_439 (by decide)) (fun h7 => ?_) (fun h7 => absurd c1 h7)
  refine gj_ld (i := 5) (pc2 := 446) rfl (fun _ _ _ h9 => lv_iload hx hb d_L_law_444 h9) ?_
  have fin := gj_l (pc2 := 626) (pc := 461) (p := p) (l := l) (e := e) (R := room_1) (s := s) (m := m) (args := #[Value.ref b]) (below := below) (meth := meth) (c := c) (D := D) (cl := vCl) (A := va_A [] s.heap.size) (H0 := s.heap) (n := 7) (Q := Q) (fun _ _ _ => lv_goto (tgt := 626) hx hb d_L_law_461 (by decide)) (gj_drop (L0 := [.int r1, .int r2]) (k σ' τ' f' c3))
  refine gj_if (pc2 := 461) (pc3 := 449) (fun _ _ _ => lv_if_ne (tgt := 461) hx hb d_L_law_446 (by decide)) (fun h8 => fin) (fun h8 => ?_)
  refine gj_ld (i := 3) (pc2 := 450) rfl (fun _ _ _ h9 => lv_aload_n hx hb d_L_law_449 rfl h9) ?_
  refine gj_l (pc2 := 451) (fun _ _ _ => lv_iconst (v := 0) hx hb d_L_law_450 (by decide)) ?_
  refine gj_lald F 68 oc_at d_L_law_451 rfl ?_
  refine gj_ld (i := 6) (pc2 := 454) rfl (fun _ _ _ h9 => lv_iload hx hb d_L_law_452 h9) ?_
  refine gj_l (pc2 := 455) (fun _ _ _ => lv_i2l hx hb d_L_law_454 rfl) ?_
  refine gj_l (pc2 := 456) (fun _ _ _ => W.lcmp hx hb d_L_law_455) ?_
  refine gj_if (pc2 := 461) (pc3 := 459) (fun _ _ _ => lv_if_eq (tgt := 461) hx hb d_L_law_456 (by decide)) (fun h9 => fin) (fun h9 => ?_)
  exact absurd (by rw [c2 h8]; exact lg_0 _) h9
set_option maxHeartbeats 4000000 in
set_option maxRecDepth 100000 in
theorem law_register {p : Program} {l : Launch} {e : Env} {s : State} {m : MethodId} {below : List Frame} {meth : Method} {c : Code} {cells slots : Nat} {Q : State → Prop} {D : va_G} {rt : Option FieldType} {nm : String} {c0 : Cond} {cI cB cZ cJ : ClassId} {b Ls : Nat} {xs : Nat → Int32} {a am : Nat → Nat} {o t : Nat} {σ τ : St} {fo : Nat → Int64} (F : GF p s m #[Value.ref b] meth c c_L_law 7 rt ⟨rL, nm, "([I)Z"⟩ (c0 :: tbW) D vCl (TY cI cB cZ cJ) []) (hl : l.stackTraces = false) (hX : va_X b Ls xs s s.heap) (hbl : b < s.heap.size) (hL : Ls ≤ 1536) (ht : 3 * t + 3 ≤ Ls) (R : RR σ τ) (hc : cells + 1 ≤ 601024) (hs : slots + 6 ≤ 7293034)
    (k : ∀ (σ' τ' : St) (f' : Nat → Int64), RR σ' τ' → GJ p l e room_1 s m #[Value.ref b] below meth c D vCl (va_A [] s.heap.size) s.heap 7 Q (cells + 1) (slots + 6) ((bw a cI cB 32 σ' ++ [oC o cJ f']) ++ mw am cI cZ τ') 626 [.ref b, .ref (a 0), .ref (am 0), .ref o, .int (nI (3 * t))] []) : GJ p l e room_1 s m #[Value.ref b] below meth c D vCl (va_A [] s.heap.size) s.heap 7 Q cells slots ((bw a cI cB 32 σ ++ [oC o cJ fo]) ++ mw am cI cZ τ) 464 [.ref b, .ref (a 0), .ref (am 0), .ref o, .int (nI (3 * t))] [] := by
  have hx := F.1
  have hb := F.2.1
  refine gj_ld (i := 1) (pc2 := 465) rfl (fun _ _ _ h9 => lv_aload_n hx hb d_L_law_464 rfl h9) ?_
  refine gj_ld (i := 0) (pc2 := 466) rfl (fun _ _ _ h9 => lv_aload_n hx hb d_L_law_465 rfl h9) ?_
  refine gj_ld (i := 4) (pc2 := 468) rfl (fun _ _ _ h9 => lv_iload hx hb d_L_law_466 h9) ?_
  refine gj_l (pc2 := 469) (fun _ _ _ => lv_iconst (v := 1) hx hb d_L_law_468 (by decide)) ?_
  refine gj_l (pc2 := 470) (fun _ _ _ => lv_iadd hx hb d_L_law_469) ?_
  refine gj_sld F hX hbl (by omega) (i := 3 * t + 1) (nI_add _ 1) (by omega) d_L_law_470 rfl ?_
  refine gj_ld (i := 3) (pc2 := 472) rfl (fun _ _ _ h9 => lv_aload_n hx hb d_L_law_471 rfl h9) ?_
  refine gj_sw F (n2 := 3) q_311 q_0 q_310 ⟨by decide +kernel, by decide +kernel, by decide +kernel⟩ d_L_law_472 q_309 (ct_L_register (xs (3 * t + 1)) o fo (ct_X_register (a := a) hl (xs (3 * t + 1))) (fun E u h => h.1)) rfl rfl ⟨Nat.le_of_ble_eq_true rfl, Nat.le_of_ble_eq_true rfl⟩ rfl rfl (Nat.le_of_ble_eq_true rfl) hc hs rfl (fun r1 u1 e1 => ?_)
  refine gj_st (i := 5) (pc2 := 477) (Nat.le_of_ble_eq_true rfl) rfl (fun _ _ _ _ _ h9 l9 => lv_istore hx hb d_L_law_475 h9 (Nat.le_of_ble_eq_true rfl) l9) ?_
  refine gj_ld (i := 2) (pc2 := 478) rfl (fun _ _ _ h9 => lv_aload_n hx hb d_L_law_477 rfl h9) ?_
  refine gj_ld (i := 0) (pc2 := 479) rfl (fun _ _ _ h9 => lv_aload_n hx hb d_L_law_478 rfl h9) ?_
  refine gj_ld (i := 4) (pc2 := 481) rfl (fun _ _ _ h9 => lv_iload hx hb d_L_law_479 h9) ?_
  refine gj_l (pc2 := 482) (fun _ _ _ => lv_iconst (v := 1) hx hb d_L_law_481 (by decide)) ?_
  refine gj_l (pc2 := 483) (fun _ _ _ => lv_iadd hx hb d_L_law_482) ?_
  refine gj_sld F hX hbl (by omega) (i := 3 * t + 1) (nI_add _ 1) (by omega) d_L_law_483 rfl ?_
  refine gj_swap ?_
  refine gj_vi F (As := [.int (xs (3 * t + 1))]) k_M_register d_L_law_484 q_474 mw_h rfl (ct_M_register (a := am) (xs (3 * t + 1))) (rmo rfl) rfl rfl (Nat.le_of_ble_eq_true rfl) hc hs rfl (fun r2 u2 e2 => ?_)
  obtain ⟨σ', τ', f', rfl, rfl, c1, c2, c3⟩ := cm_register R e1 e2
  refine gj_st (i := 6) (pc2 := 489) (Nat.le_of_ble_eq_true rfl) rfl (fun _ _ _ _ _ h9 l9 => lv_istore hx hb d_L_law_487 h9 (Nat.le_of_ble_eq_true rfl) l9) ?_
  refine gj_ld (i := 2) (pc2 := 490) rfl (fun _ _ _ h9 => lv_aload_n hx hb d_L_law_489 rfl h9) ?_
  refine gj_vi F (As := []) k_M_thrown d_L_law_490 q_389 mw_h rfl (ct_M_thrown (a := am)) (rmo rfl) rfl rfl (Nat.le_of_ble_eq_true rfl) hc hs rfl (fun r3 u3 e3 => ?_)
  obtain ⟨rfl, rfl⟩ := e3
  refine gj_swap ?_
  refine gj_ld (i := 5) (pc2 := 495) rfl (fun _ _ _ h9 => lv_iload hx hb d_L_law_493 h9) ?_
  refine gj_if (pc2 := 500) (pc3 := 498) (fun _ _ _ => lv_icmp_eq (tgt := 500) hx hb d_L_law_495 (by decide)) (fun h7 => ?_) (fun h7 => absurd c1 h7)
  refine gj_ld (i := 5) (pc2 := 502) rfl (fun _ _ _ h9 => lv_iload hx hb d_L_law_500 h9) ?_
  have fin := gj_l (pc2 := 626) (pc := 517) (p := p) (l := l) (e := e) (R := room_1) (s := s) (m := m) (args := #[Value.ref b]) (below := below) (meth := meth) (c := c) (D := D) (cl := vCl) (A := va_A [] s.heap.size) (H0 := s.heap) (n := 7) (Q := Q) (fun _ _ _ => lv_goto (tgt := 626) hx hb d_L_law_517 (by decide)) (gj_drop (L0 := [.int r1, .int r2]) (k σ' τ' f' c3))
  refine gj_if (pc2 := 517) (pc3 := 505) (fun _ _ _ => lv_if_ne (tgt := 517) hx hb d_L_law_502 (by decide)) (fun h8 => fin) (fun h8 => ?_)
  refine gj_ld (i := 3) (pc2 := 506) rfl (fun _ _ _ h9 => lv_aload_n hx hb d_L_law_505 rfl h9) ?_
  refine gj_l (pc2 := 507) (fun _ _ _ => lv_iconst (v := 0) hx hb d_L_law_506 (by decide)) ?_
  refine gj_lald F 68 oc_at d_L_law_507 rfl ?_
  refine gj_ld (i := 6) (pc2 := 510) rfl (fun _ _ _ h9 => lv_iload hx hb d_L_law_508 h9) ?_
  refine gj_l (pc2 := 511) (fun _ _ _ => lv_i2l hx hb d_L_law_510 rfl) ?_
  refine gj_l (pc2 := 512) (fun _ _ _ => W.lcmp hx hb d_L_law_511) ?_
  refine gj_if (pc2 := 517) (pc3 := 515) (fun _ _ _ => lv_if_eq (tgt := 517) hx hb d_L_law_512 (by decide)) (fun h9 => fin) (fun h9 => ?_)
  exact absurd (by rw [c2 h8]; exact lg_0 _) h9
set_option maxHeartbeats 4000000 in
set_option maxRecDepth 100000 in
theorem law_row {p : Program} {l : Launch} {e : Env} {s : State} {m : MethodId} {below : List Frame} {meth : Method} {c : Code} {cells slots : Nat} {Q : State → Prop} {D : va_G} {rt : Option FieldType} {nm : String} {c0 : Cond} {cI cB cZ cJ : ClassId} {b Ls : Nat} {xs : Nat → Int32} {a am : Nat → Nat} {o t : Nat} {σ τ : St} {fo : Nat → Int64} (F : GF p s m #[Value.ref b] meth c c_L_law 7 rt ⟨rL, nm, "([I)Z"⟩ (c0 :: tbW) D vCl (TY cI cB cZ cJ) []) (hl : l.stackTraces = false) (hX : va_X b Ls xs s s.heap) (hbl : b < s.heap.size) (hL : Ls ≤ 1536) (ht : 3 * t + 3 ≤ Ls) (R : RR σ τ) (hc : cells + 1 ≤ 601024) (hs : slots + 6 ≤ 7293034)
    (k : ∀ (σ' τ' : St) (f' : Nat → Int64), RR σ' τ' → GJ p l e room_1 s m #[Value.ref b] below meth c D vCl (va_A [] s.heap.size) s.heap 7 Q (cells + 1) (slots + 6) ((bw a cI cB 32 σ' ++ [oC o cJ f']) ++ mw am cI cZ τ') 626 [.ref b, .ref (a 0), .ref (am 0), .ref o, .int (nI (3 * t))] []) : GJ p l e room_1 s m #[Value.ref b] below meth c D vCl (va_A [] s.heap.size) s.heap 7 Q cells slots ((bw a cI cB 32 σ ++ [oC o cJ fo]) ++ mw am cI cZ τ) 520 [.ref b, .ref (a 0), .ref (am 0), .ref o, .int (nI (3 * t))] [] := by
  have hx := F.1
  have hb := F.2.1
  refine gj_ld (i := 1) (pc2 := 521) rfl (fun _ _ _ h9 => lv_aload_n hx hb d_L_law_520 rfl h9) ?_
  refine gj_ld (i := 0) (pc2 := 522) rfl (fun _ _ _ h9 => lv_aload_n hx hb d_L_law_521 rfl h9) ?_
  refine gj_ld (i := 4) (pc2 := 524) rfl (fun _ _ _ h9 => lv_iload hx hb d_L_law_522 h9) ?_
  refine gj_l (pc2 := 525) (fun _ _ _ => lv_iconst (v := 1) hx hb d_L_law_524 (by decide)) ?_
  refine gj_l (pc2 := 526) (fun _ _ _ => lv_iadd hx hb d_L_law_525) ?_
  refine gj_sld F hX hbl (by omega) (i := 3 * t + 1) (nI_add _ 1) (by omega) d_L_law_526 rfl ?_
  refine gj_ld (i := 0) (pc2 := 528) rfl (fun _ _ _ h9 => lv_aload_n hx hb d_L_law_527 rfl h9) ?_
  refine gj_ld (i := 4) (pc2 := 530) rfl (fun _ _ _ h9 => lv_iload hx hb d_L_law_528 h9) ?_
  refine gj_l (pc2 := 531) (fun _ _ _ => lv_iconst (v := 2) hx hb d_L_law_530 (by decide)) ?_
  refine gj_l (pc2 := 532) (fun _ _ _ => lv_iadd hx hb d_L_law_531) ?_
  refine gj_sld F hX hbl (by omega) (i := 3 * t + 2) (nI_add _ 2) (by omega) d_L_law_532 rfl ?_
  refine gj_ld (i := 3) (pc2 := 534) rfl (fun _ _ _ h9 => lv_aload_n hx hb d_L_law_533 rfl h9) ?_
  refine gj_sw F (n2 := 4) q_318 q_0 q_317 ⟨by decide +kernel, by decide +kernel, by decide +kernel⟩ d_L_law_534 q_316 (ct_L_row (xs (3 * t + 1)) (xs (3 * t + 2)) o fo (ct_X_row (a := a) hl (xs (3 * t + 1)) (xs (3 * t + 2))) (fun E u h => h.1)) rfl rfl ⟨Nat.le_of_ble_eq_true rfl, Nat.le_of_ble_eq_true rfl⟩ rfl rfl (Nat.le_of_ble_eq_true rfl) hc hs rfl (fun r1 u1 e1 => ?_)
  refine gj_st (i := 5) (pc2 := 539) (Nat.le_of_ble_eq_true rfl) rfl (fun _ _ _ _ _ h9 l9 => lv_istore hx hb d_L_law_537 h9 (Nat.le_of_ble_eq_true rfl) l9) ?_
  refine gj_ld (i := 2) (pc2 := 540) rfl (fun _ _ _ h9 => lv_aload_n hx hb d_L_law_539 rfl h9) ?_
  refine gj_ld (i := 0) (pc2 := 541) rfl (fun _ _ _ h9 => lv_aload_n hx hb d_L_law_540 rfl h9) ?_
  refine gj_ld (i := 4) (pc2 := 543) rfl (fun _ _ _ h9 => lv_iload hx hb d_L_law_541 h9) ?_
  refine gj_l (pc2 := 544) (fun _ _ _ => lv_iconst (v := 1) hx hb d_L_law_543 (by decide)) ?_
  refine gj_l (pc2 := 545) (fun _ _ _ => lv_iadd hx hb d_L_law_544) ?_
  refine gj_sld F hX hbl (by omega) (i := 3 * t + 1) (nI_add _ 1) (by omega) d_L_law_545 rfl ?_
  refine gj_ld (i := 0) (pc2 := 547) rfl (fun _ _ _ h9 => lv_aload_n hx hb d_L_law_546 rfl h9) ?_
  refine gj_ld (i := 4) (pc2 := 549) rfl (fun _ _ _ h9 => lv_iload hx hb d_L_law_547 h9) ?_
  refine gj_l (pc2 := 550) (fun _ _ _ => lv_iconst (v := 2) hx hb d_L_law_549 (by decide)) ?_
  refine gj_l (pc2 := 551) (fun _ _ _ => lv_iadd hx hb d_L_law_550) ?_
  refine gj_sld F hX hbl (by omega) (i := 3 * t + 2) (nI_add _ 2) (by omega) d_L_law_551 rfl ?_
  refine gj_swap ?_
  refine gj_vi F (As := [.int (xs (3 * t + 1)), .int (xs (3 * t + 2))]) k_M_row d_L_law_552 q_478 mw_h rfl (ct_M_row (a := am) (xs (3 * t + 1)) (xs (3 * t + 2))) (rmo rfl) rfl rfl (Nat.le_of_ble_eq_true rfl) hc hs rfl (fun r2 u2 e2 => ?_)
  obtain ⟨σ', τ', f', rfl, rfl, c1, c2, c3⟩ := cm_row R e1 e2
  refine gj_st (i := 6) (pc2 := 557) (Nat.le_of_ble_eq_true rfl) rfl (fun _ _ _ _ _ h9 l9 => lv_istore hx hb d_L_law_555 h9 (Nat.le_of_ble_eq_true rfl) l9) ?_
  refine gj_ld (i := 2) (pc2 := 558) rfl (fun _ _ _ h9 => lv_aload_n hx hb d_L_law_557 rfl h9) ?_
  refine gj_vi F (As := []) k_M_thrown d_L_law_558 q_389 mw_h rfl (ct_M_thrown (a := am)) (rmo rfl) rfl rfl (Nat.le_of_ble_eq_true rfl) hc hs rfl (fun r3 u3 e3 => ?_)
  obtain ⟨rfl, rfl⟩ := e3
  refine gj_swap ?_
  refine gj_ld (i := 5) (pc2 := 563) rfl (fun _ _ _ h9 => lv_iload hx hb d_L_law_561 h9) ?_
  refine gj_if (pc2 := 568) (pc3 := 566) (fun _ _ _ => lv_icmp_eq (tgt := 568) hx hb d_L_law_563 (by decide)) (fun h7 => ?_) (fun h7 => absurd c1 h7)
  refine gj_ld (i := 5) (pc2 := 570) rfl (fun _ _ _ h9 => lv_iload hx hb d_L_law_568 h9) ?_
  have fin := gj_l (pc2 := 626) (pc := 585) (p := p) (l := l) (e := e) (R := room_1) (s := s) (m := m) (args := #[Value.ref b]) (below := below) (meth := meth) (c := c) (D := D) (cl := vCl) (A := va_A [] s.heap.size) (H0 := s.heap) (n := 7) (Q := Q) (fun _ _ _ => lv_goto (tgt := 626) hx hb d_L_law_585 (by decide)) (gj_drop (L0 := [.int r1, .int r2]) (k σ' τ' f' c3))
  refine gj_if (pc2 := 585) (pc3 := 573) (fun _ _ _ => lv_if_ne (tgt := 585) hx hb d_L_law_570 (by decide)) (fun h8 => fin) (fun h8 => ?_)
  refine gj_ld (i := 3) (pc2 := 574) rfl (fun _ _ _ h9 => lv_aload_n hx hb d_L_law_573 rfl h9) ?_
  refine gj_l (pc2 := 575) (fun _ _ _ => lv_iconst (v := 0) hx hb d_L_law_574 (by decide)) ?_
  refine gj_lald F 68 oc_at d_L_law_575 rfl ?_
  refine gj_ld (i := 6) (pc2 := 578) rfl (fun _ _ _ h9 => lv_iload hx hb d_L_law_576 h9) ?_
  refine gj_l (pc2 := 579) (fun _ _ _ => lv_i2l hx hb d_L_law_578 rfl) ?_
  refine gj_l (pc2 := 580) (fun _ _ _ => W.lcmp hx hb d_L_law_579) ?_
  refine gj_if (pc2 := 585) (pc3 := 583) (fun _ _ _ => lv_if_eq (tgt := 585) hx hb d_L_law_580 (by decide)) (fun h9 => fin) (fun h9 => ?_)
  exact absurd (by rw [c2 h8]; exact lg_0 _) h9
set_option maxHeartbeats 4000000 in
set_option maxRecDepth 100000 in
theorem law_forget {p : Program} {l : Launch} {e : Env} {s : State} {m : MethodId} {below : List Frame} {meth : Method} {c : Code} {cells slots : Nat} {Q : State → Prop} {D : va_G} {rt : Option FieldType} {nm : String} {c0 : Cond} {cI cB cZ cJ : ClassId} {b Ls : Nat} {xs : Nat → Int32} {a am : Nat → Nat} {o t : Nat} {σ τ : St} {fo : Nat → Int64} (F : GF p s m #[Value.ref b] meth c c_L_law 7 rt ⟨rL, nm, "([I)Z"⟩ (c0 :: tbW) D vCl (TY cI cB cZ cJ) []) (hX : va_X b Ls xs s s.heap) (hbl : b < s.heap.size) (hL : Ls ≤ 1536) (ht : 3 * t + 3 ≤ Ls) (R : RR σ τ) (hc : cells ≤ 601024) (hs : slots ≤ 7293034)
    (k : ∀ (σ' τ' : St) (f' : Nat → Int64), RR σ' τ' → GJ p l e room_1 s m #[Value.ref b] below meth c D vCl (va_A [] s.heap.size) s.heap 7 Q cells slots ((bw a cI cB 32 σ' ++ [oC o cJ f']) ++ mw am cI cZ τ') 626 [.ref b, .ref (a 0), .ref (am 0), .ref o, .int (nI (3 * t))] []) : GJ p l e room_1 s m #[Value.ref b] below meth c D vCl (va_A [] s.heap.size) s.heap 7 Q cells slots ((bw a cI cB 32 σ ++ [oC o cJ fo]) ++ mw am cI cZ τ) 588 [.ref b, .ref (a 0), .ref (am 0), .ref o, .int (nI (3 * t))] [] := by
  have hx := F.1
  have hb := F.2.1
  refine gj_ld (i := 1) (pc2 := 589) rfl (fun _ _ _ h9 => lv_aload_n hx hb d_L_law_588 rfl h9) ?_
  rw [List.append_assoc]
  refine gj_vi F (As := []) k_X_forget d_L_law_589 q_80 bw_h rfl (ct_X_forget (a := a)) (rmo rfl) rfl rfl (Nat.le_of_ble_eq_true rfl) hc hs rfl (fun r1 u1 e1 => ?_)
  obtain ⟨h1, rfl⟩ := e1
  refine gj_ld (i := 2) (pc2 := 593) rfl (fun _ _ _ h9 => lv_aload_n hx hb d_L_law_592 rfl h9) ?_
  rw [← List.append_assoc]
  refine gj_swap ?_
  refine gj_vi F (As := []) k_M_forget d_L_law_593 q_482 mw_h rfl (ct_M_forget (a := am)) (rmo rfl) rfl rfl (Nat.le_of_ble_eq_true rfl) hc hs rfl (fun r2 u2 e2 => ?_)
  obtain ⟨h2, rfl⟩ := e2
  refine gj_swap ?_
  obtain ⟨g1, g2⟩ := fg_sim (R.z 0) 32 (Nat.le_refl 32)
  exact gj_if (pc2 := 626) (pc3 := 599) (fun _ _ _ => lv_icmp_eq (tgt := 626) hx hb d_L_law_596 (by decide)) (fun h7 => k _ _ _ g1) (fun h7 => absurd (h1.trans (g2.trans h2.symm)) h7)
set_option maxHeartbeats 4000000 in
set_option maxRecDepth 100000 in
theorem law_count {p : Program} {l : Launch} {e : Env} {s : State} {m : MethodId} {below : List Frame} {meth : Method} {c : Code} {cells slots : Nat} {Q : State → Prop} {D : va_G} {rt : Option FieldType} {nm : String} {c0 : Cond} {cI cB cZ cJ : ClassId} {b Ls : Nat} {xs : Nat → Int32} {a am : Nat → Nat} {o t : Nat} {σ τ : St} {fo : Nat → Int64} (F : GF p s m #[Value.ref b] meth c c_L_law 7 rt ⟨rL, nm, "([I)Z"⟩ (c0 :: tbW) D vCl (TY cI cB cZ cJ) []) (hX : va_X b Ls xs s s.heap) (hbl : b < s.heap.size) (hL : Ls ≤ 1536) (ht : 3 * t + 3 ≤ Ls) (R : RR σ τ) (hc : cells ≤ 601024) (hs : slots ≤ 7293034)
    (k : ∀ (σ' τ' : St) (f' : Nat → Int64), RR σ' τ' → GJ p l e room_1 s m #[Value.ref b] below meth c D vCl (va_A [] s.heap.size) s.heap 7 Q cells slots ((bw a cI cB 32 σ' ++ [oC o cJ f']) ++ mw am cI cZ τ') 626 [.ref b, .ref (a 0), .ref (am 0), .ref o, .int (nI (3 * t))] []) : GJ p l e room_1 s m #[Value.ref b] below meth c D vCl (va_A [] s.heap.size) s.heap 7 Q cells slots ((bw a cI cB 32 σ ++ [oC o cJ fo]) ++ mw am cI cZ τ) 601 [.ref b, .ref (a 0), .ref (am 0), .ref o, .int (nI (3 * t))] [] := by
  have hx := F.1
  have hb := F.2.1
  refine gj_ld (i := 1) (pc2 := 602) rfl (fun _ _ _ h9 => lv_aload_n hx hb d_L_law_601 rfl h9) ?_
  refine gj_ld (i := 0) (pc2 := 603) rfl (fun _ _ _ h9 => lv_aload_n hx hb d_L_law_602 rfl h9) ?_
  refine gj_ld (i := 4) (pc2 := 605) rfl (fun _ _ _ h9 => lv_iload hx hb d_L_law_603 h9) ?_
  refine gj_l (pc2 := 606) (fun _ _ _ => lv_iconst (v := 1) hx hb d_L_law_605 (by decide)) ?_
  refine gj_l (pc2 := 607) (fun _ _ _ => lv_iadd hx hb d_L_law_606) ?_
  refine gj_sld F hX hbl (by omega) (i := 3 * t + 1) (nI_add _ 1) (by omega) d_L_law_607 rfl ?_
  rw [List.append_assoc]
  refine gj_vi F (As := [.int (xs (3 * t + 1))]) k_X_count d_L_law_608 q_96 bw_h rfl (ct_X_count (a := a) (xs (3 * t + 1))) (rmo rfl) rfl rfl (Nat.le_of_ble_eq_true rfl) hc hs rfl (fun r1 u1 e1 => ?_)
  obtain ⟨h1, rfl⟩ := e1
  refine gj_ld (i := 2) (pc2 := 612) rfl (fun _ _ _ h9 => lv_aload_n hx hb d_L_law_611 rfl h9) ?_
  refine gj_ld (i := 0) (pc2 := 613) rfl (fun _ _ _ h9 => lv_aload_n hx hb d_L_law_612 rfl h9) ?_
  refine gj_ld (i := 4) (pc2 := 615) rfl (fun _ _ _ h9 => lv_iload hx hb d_L_law_613 h9) ?_
  refine gj_l (pc2 := 616) (fun _ _ _ => lv_iconst (v := 1) hx hb d_L_law_615 (by decide)) ?_
  refine gj_l (pc2 := 617) (fun _ _ _ => lv_iadd hx hb d_L_law_616) ?_
  refine gj_sld F hX hbl (by omega) (i := 3 * t + 1) (nI_add _ 1) (by omega) d_L_law_617 rfl ?_
  rw [← List.append_assoc]
  refine gj_swap ?_
  refine gj_vi F (As := [.int (xs (3 * t + 1))]) k_M_count d_L_law_618 q_486 mw_h rfl (ct_M_count (a := am) (xs (3 * t + 1))) (rmo rfl) rfl rfl (Nat.le_of_ble_eq_true rfl) hc hs rfl (fun r2 u2 e2 => ?_)
  obtain ⟨h2, rfl⟩ := e2
  refine gj_swap ?_
  exact gj_if (pc2 := 626) (pc3 := 624) (fun _ _ _ => lv_icmp_eq (tgt := 626) hx hb d_L_law_621 (by decide)) (fun h7 => k _ _ _ (R.z 0)) (fun h7 => absurd (h1.trans ((R.count _).trans h2.symm)) h7)
