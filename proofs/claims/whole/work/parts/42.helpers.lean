/-! the law's helpers: a call that may throw, its answer in out[0], 0, or the number of the row that caught -/
def oC (o : Nat) (cJ : ClassId) (f : Nat → Int64) : Nat × va_E := (o, .inl (cJ, 1, .inr (.inl f)))
def hpR (o : Nat) (cJ : ClassId) (f : Nat → Int64) (post : Int32 → va_W → Prop) (px : String → va_W → Prop) (code : String → Int32) : Int32 → va_W → Prop := fun r u => (∃ (r1 : Int32) (u1 : va_W), post r1 u1 ∧ r = 0 ∧ u = u1 ++ [oC o cJ (vp_updL f 0 r1.toInt64)]) ∨ ∃ (E : String) (u1 : va_W), px E u1 ∧ r = code E ∧ u = u1 ++ [oC o cJ f]
section GWB
variable {l : Launch} {y : MethodName} {ws ws' : List Cond} {rm : Room} {mc ms : Nat} {D : va_G} {cl : List vw_C} {tys : List (ClassId × FieldType)} {av : List Value} {w0 : va_W} {cc : ByteArray} {maxL : Nat} {ret : Option FieldType} {hh : List (Nat × Nat × Nat × Nat)}
theorem gcw_body {Qc : Nat → Array Value → State → Outcome → State → Prop} (hy : plainName y.cls = true) (hw : ws = Cond.codeWith y cc maxL ret hh :: ws') (hv : ∀ v ∈ av, v.category = 1) (hl : (lg_sl av).length ≤ maxL)
    (body : ∀ (p : Program) (e : Env) (s : State) (m : MethodId) (args : Array Value) (below : List Frame) (meth : Method) (c : Code), GF p s m args meth c cc maxL ret y ws D cl tys w0 → c.exceptionTable.toList = tableOf hh →
      GJ p l e (headSpec ws rm).room s m args below meth c D cl (va_A w0 s.heap.size) s.heap maxL (MQ below (Qc s.heap.size) args s mc ms (va_A w0 s.heap.size)) 0 0 w0 0 av []) (sz : Nat) :
    Met l y ws rm (gc_Pc D cl tys av w0 sz) (Qc sz) mc ms (va_A w0 sz) := by
  refine va_MetW (cc := cc) (maxL := maxL) (ret := ret) (hh := hh) hy hw ?_
  intro p e s m args below meth c s₁ B hml hv9
  obtain ⟨rfl, hsz, hP, hK, hD0, hE⟩ := hv9
  subst hsz
  have hts := atoms_spec (ws := ws) B.pre
  have ht : c.exceptionTable.toList = tableOf hh := vx_table (x := y) B (hts _ (by rw [hw]; exact List.mem_cons_self))
  rw [lg_entry_eq]
  exact body p e s m _ below meth c ⟨B.exec, B.bytes, hml, findClass_of_methodNamed B.named, hts, B.returns, B.notSynchronized, hK, (name_of_methodNamed B.named B.method).1, hE⟩ ht _ _ _ (gl_entry av hv hl) hP (hD0.self (sz := s.heap.size)) va_S.rf
end GWB
section GXC
variable {p : Program} {l : Launch} {e : Env} {R : Room} {s : State} {m : MethodId} {args : Array Value} {below : List Frame} {meth : Method} {c : Code} {cells slots mc ms : Nat} {Q : State → Prop}
variable {D : va_G} {cl : List vw_C} {tys : List (ClassId × FieldType)} {A : Nat → Prop} {n pc : Nat} {w0 wc wr : va_W} {L st rest av As : List Value}
theorem gj_xcalli {post : Int32 → va_W → Prop} {px : String → va_W → Prop} (hK : va_K D cl tys s) (hE : EV A s) (hA : ∀ q, s.heap.size ≤ q → A q)
    (run : ∀ (ls : Array Slot) (H : Heap) (locs : List Loc), ls.size = n → gc_pre s D cl tys av wc H → va_P D cl (wc ++ wr) H → vx_Run p l e R s m args below meth c H locs cells slots mc ms (F0 m pc ls st) rest (gc_Qi D cl tys wc post H.size av.toArray) (gc_X D cl tys wc px H.size) (va_A wc H.size))
    (kx : ∀ (E : String) (u : va_W) (ls : Array Slot) (H1 : Heap) (locs1 : List Loc) (ce : Cell) (q9 : Addr), px E u → gl_h ls n L → va_P D cl (u ++ wr) H1 → va_D A (u ++ wr) → va_S A s.heap H1 locs1 → H1[q9]? = some ce → ce.vm = .none → s.vm.findClass E = some ce.cls → vx_W p l e R s m args below meth c H1 locs1 (cells + mc) (slots + ms) Q (F0 m pc ls rest) q9)
    (k : ∀ (r : Int32) (u : va_W), post r u → GJ p l e R s m args below meth c D cl A s.heap n Q (cells + mc) (slots + ms) (u ++ wr) (pc + 3) L (.int r :: rest)) :
    GJ p l e R s m args below meth c D cl A s.heap n Q cells slots (wc ++ wr) pc L st := by
  intro ls H locs h1 h2 h3 h4
  have hF := gc_fr h3 h4 hA
  refine vx_calli (run ls H locs h1.1 (gc_pre_of hK hE hA h2 h3 h4) h2) h4 (fun q _ h => hF q h) hF (fun q _ h => hF q h) (fun E ce q9 u t H1 locs1 ht hvm hp hB hz hk hS hc9 hv9 hcl9 => ?_) (fun r u t H1 locs1 ht hvm hp hB hz hk hS => ?_)
  · obtain ⟨u1, u2⟩ := u
    obtain ⟨hEu, hP1, -, hD1⟩ := hB
    subst hEu
    rw [ht] at hP1
    obtain ⟨g1, g2⟩ := gc_join h2 h3 hk hF hP1 hD1
    exact kx _ u2 ls H1 locs1 ce q9 hp h1 g1 g2 hS hc9 hv9 hcl9
  · obtain ⟨hP1, -, hD1⟩ := hB
    rw [ht] at hP1
    obtain ⟨g1, g2⟩ := gc_join h2 h3 hk hF hP1 hD1
    exact k r u hp ls H1 locs1 h1 g1 g2 hS
variable {cc : ByteArray} {ret : Option FieldType} {y : MethodName} {c0 : Cond} {cI cB cZ cJ : ClassId} {w : va_W}
variable {y2 : MethodName} {b2 : ByteArray} {maxL n2 idx b r ci : Nat} {ret2 : Option FieldType} {rm : Room} {fs : List Value} {T : u_T} {N : Nat}
theorem gr_VX {Qc : Array Value → State → Outcome → State → Prop} {XC : String → State → State → Prop} {H : Heap} {locs : List Loc} {ls : Array Slot} (F : GF p s m args meth c cc n ret y (c0 :: tbW) D vCl (TY cI cB cZ cJ) w0) (K : CKV y2 b2 maxL ret2 n2) (hd : decode cc pc = .ok (.invokevirtual idx, 3)) (hl : Cond.methodLink y.cls idx y2 ∈ tbW) (hr : w[r]? = some (b, .inr (ci, fs))) (hci : vCl[ci]? = some (y2.cls, T, N))
    (hM : vx_Met l y2 (Cond.code y2 b2 maxL ret2 :: tbW) rm (gc_Pc D vCl (TY cI cB cZ cJ) (.ref b :: As) w H.size) Qc XC mc ms (va_A w H.size)) (hrc : rm.cells = mc) (hrs0 : rm.slots = ms) (hR : rm.frames + 1 ≤ R.frames ∧ 8 + (maxL + 11) + rm.locals ≤ R.locals) (hn : As.length = n2) (hst : st = As.reverse ++ .ref b :: rest) (hrs : (rest.map fun v => v.category).sum ≤ 8) (hc : cells + mc ≤ R.cells) (hs : slots + ms ≤ R.slots)
    (hsz : ls.size = n) (hp : gc_pre s D vCl (TY cI cB cZ cJ) (.ref b :: As) w H) (hP : va_P D vCl w H) :
    vx_Run p l e R s m args below meth c H locs cells slots mc ms (F0 m pc ls st) rest (Qc (Value.ref b :: As).toArray) XC (va_A w H.size) := by
  obtain ⟨k1, k2, k3, k4, k5⟩ := K
  refine vx_runV (As := As) (rest := rest) (C := y2.cls) ⟨F.1, F.2.1, F.2.2.1, F.2.2.2.1, F.2.2.2.2.1⟩ hM (cwV n2 F.2.2.2.2.1 (tb_gl (c1 := Cond.code y2 b2 maxL ret2) ?_ k1) rfl hrc hrs0 ⟨rfl, k5⟩ hR) ⟨hp.1, va_recv F.K hP hci hr, hp.2⟩ rfl hn hsz hst (lv_room hrs) hd ⟨hc, hs⟩
  intro w9 h9
  simp only [List.mem_cons, List.not_mem_nil, or_false] at h9
  rcases h9 with rfl | rfl | rfl | rfl
  · exact hl
  · exact k3
  · exact k4
  · exact k2
/-- the answer goes into the long's cell -/
theorem gj_last (F : GF p s m args meth c cc n ret y (c0 :: tbW) D vCl (TY cI cB cZ cJ) w0) {H0 : Heap} {o pc2 : Nat} {f : Nat → Int64} {v : Int64} {A : Nat → Prop} (hd : decode cc pc = .ok (.lastore, 1)) (hp : pc + 1 = pc2)
    (k : GJ p l e R s m args below meth c D vCl A H0 n Q cells slots (w ++ [oC o cJ (vp_updL f 0 v)]) pc2 L rest) : GJ p l e R s m args below meth c D vCl A H0 n Q cells slots (w ++ [oC o cJ f]) pc L (.long v :: .int 0 :: .ref o :: rest) := by
  subst hp
  intro ls H locs g1 g2 g3 g4
  have e : ∀ x : Nat × va_E, (w ++ [oC o cJ f]).set w.length x = w ++ [x] := fun x => by rw [List.set_append_right _ _ (Nat.le_refl _), Nat.sub_self]; rfl
  refine va_last (D := D) (n := 1) (f := f) F.1 F.2.1 F.K g2 g3 g4 w.length 3 ?_ rfl (nI_in (c := 0) (N := 1) (by decide) (by decide)) hd (fun H1 locs1 k1 k2 k3 => ?_)
  · rw [List.getElem?_append_right (Nat.le_refl _), Nat.sub_self]; rfl
  · rw [e] at k1 k2
    exact k ls H1 locs1 g1 k1 k2 k3
end GXC
theorem bw_h {a : Nat → Nat} {cI cB : ClassId} {j : Nat} {σ : St} : (bw a cI cB j σ)[0]? = some (a 0, .inr (kX, bw_f a (σ 0))) := bw_at (by omega)

set_option maxHeartbeats 4000000 in
set_option maxRecDepth 100000 in
theorem ct_L_poke {l : Launch} {D : va_G} {cI cB cZ cJ : ClassId} {a : Nat → Nat} {σ : St} {post : Int32 → va_W → Prop} {px : String → va_W → Prop} (x v : Int32) (o : Nat) (f : Nat → Int64) (hM : GXi l y_X_poke (Cond.code y_X_poke c_X_poke 4 (some .int) :: tbW) ({ frames := 6, cells := 1, slots := 6, locals := 90 }) 1 6 D vCl (TY cI cB cZ cJ) [.ref (a 0), .int x, .int v] (bw a cI cB 32 σ) post px) (hE : ∀ (E : String) (u : va_W), px E u → E = xIo ∨ E = xIa) :
    GCi l y_L_poke (Cond.codeWith y_L_poke c_L_poke 5 (some .int) [(0, 10, 13, 13), (0, 10, 17, 15)] :: tbW) ({ frames := 7, cells := 1, slots := 6, locals := 113 }) 1 6 D vCl (TY cI cB cZ cJ) [.ref (a 0), .int x, .int v, .ref o] (bw a cI cB 32 σ ++ [oC o cJ f]) (hpR o cJ f post px (fun E => if E = xIo then 1 else 2)) := by
  refine gcw_body (Qc := gc_Qi D vCl (TY cI cB cZ cJ) (bw a cI cB 32 σ ++ [oC o cJ f]) (hpR o cJ f post px (fun E => if E = xIo then 1 else 2))) (cc := c_L_poke) (maxL := 5) (ret := (some .int)) (hh := [(0, 10, 13, 13), (0, 10, 17, 15)]) (by decide) rfl (by simp [Value.category]) (Nat.le_of_ble_eq_true rfl) ?_
  intro p e s m args below meth c F ht
  have hx := F.1
  have hb := F.2.1
  refine gj_ld (i := 3) (pc2 := 1) rfl (fun _ _ _ h9 => lv_aload_n hx hb d_L_poke_0 rfl h9) ?_
  refine gj_l (pc2 := 2) (fun _ _ _ => lv_iconst (v := 0) hx hb d_L_poke_1 (by decide)) ?_
  refine gj_ld (i := 0) (pc2 := 3) rfl (fun _ _ _ h9 => lv_aload_n hx hb d_L_poke_2 rfl h9) ?_
  refine gj_ld (i := 1) (pc2 := 4) rfl (fun _ _ _ h9 => lv_iload_n hx hb d_L_poke_3 rfl h9) ?_
  refine gj_ld (i := 2) (pc2 := 5) rfl (fun _ _ _ h9 => lv_iload_n hx hb d_L_poke_4 rfl h9) ?_
  refine gj_xcalli (wc := bw a cI cB 32 σ) (wr := [oC o cJ f]) (av := [.ref (a 0), .int x, .int v]) (post := post) (px := px) (mc := 1) (ms := 6) (rest := [.int 0, .ref o]) F.K F.E ga_A (fun ls H locs hsz hpre hP => gr_VX (As := [.int x, .int v]) F k_X_poke d_L_poke_5 q_109 bw_h rfl (hM H.size) rfl rfl ⟨Nat.le_of_ble_eq_true rfl, Nat.le_of_ble_eq_true rfl⟩ rfl rfl (Nat.le_of_ble_eq_true rfl) (Nat.le_of_ble_eq_true rfl) (Nat.le_of_ble_eq_true rfl) hsz hpre (gc_left hP)) (fun E u ls H1 locs1 ce q9 hpx h1 h2 h3 h4 h5 h6 h7 => ?_) (fun r u hpo => ?_)
  · rcases hE E u hpx with rfl | rfl
    · refine vx_catch (own := rL) (E := xIo) (name := xIo) F.2.2.2.1 [] ⟨0, 10, 13, 13⟩ [⟨0, 10, 17, 15⟩] ht ?_ (by decide) (by decide) (F.w q_107) (ev_use rfl (F.N (w := .castable xIo xIo) (by decide +kernel))) h5 h6 h7 ?_
      · exact fun z hz => absurd hz List.not_mem_nil
      · refine (show GJ p l e _ s m args below meth c D vCl (va_A (bw a cI cB 32 σ ++ [oC o cJ f]) s.heap.size) s.heap 5 (MQ below (gc_Qi D vCl (TY cI cB cZ cJ) (bw a cI cB 32 σ ++ [oC o cJ f]) (hpR o cJ f post px (fun E => if E = xIo then 1 else 2)) s.heap.size) args s 1 6 (va_A (bw a cI cB 32 σ ++ [oC o cJ f]) s.heap.size)) 1 6 (u ++ [oC o cJ f]) 13 [.ref (a 0), .int x, .int v, .ref o] [.ref q9] from ?_) ls H1 locs1 h1 h2 h3 h4
        refine gj_st (i := 4) (x := .ref q9) (pc2 := 15) (Nat.le_of_ble_eq_true rfl) rfl (fun _ _ _ _ _ h9 l9 => lv_astore hx hb d_L_poke_13 h9 (Nat.le_of_ble_eq_true rfl) l9) ?_
        refine gj_l (pc2 := 16) (fun _ _ _ => lv_iconst (v := 1) hx hb d_L_poke_15 (by decide)) ?_
        exact gj_iret F d_L_poke_16 (Nat.le_refl _) (Nat.le_refl _) (Or.inr ⟨_, u, hpx, rfl, rfl⟩)
    · refine vx_catch (own := rL) (E := xIa) (name := xIa) F.2.2.2.1 [⟨0, 10, 13, 13⟩] ⟨0, 10, 17, 15⟩ [] ht ?_ (by decide) (by decide) (F.w q_108) (ev_use rfl (F.N (w := .castable xIa xIa) (by decide +kernel))) h5 h6 h7 ?_
      · intro z hz
        rw [List.mem_singleton.mp hz]
        exact Or.inr ⟨by decide, xIo, F.w q_107, F.E.2.2.2.2⟩
      · refine (show GJ p l e _ s m args below meth c D vCl (va_A (bw a cI cB 32 σ ++ [oC o cJ f]) s.heap.size) s.heap 5 (MQ below (gc_Qi D vCl (TY cI cB cZ cJ) (bw a cI cB 32 σ ++ [oC o cJ f]) (hpR o cJ f post px (fun E => if E = xIo then 1 else 2)) s.heap.size) args s 1 6 (va_A (bw a cI cB 32 σ ++ [oC o cJ f]) s.heap.size)) 1 6 (u ++ [oC o cJ f]) 17 [.ref (a 0), .int x, .int v, .ref o] [.ref q9] from ?_) ls H1 locs1 h1 h2 h3 h4
        refine gj_st (i := 4) (x := .ref q9) (pc2 := 19) (Nat.le_of_ble_eq_true rfl) rfl (fun _ _ _ _ _ h9 l9 => lv_astore hx hb d_L_poke_17 h9 (Nat.le_of_ble_eq_true rfl) l9) ?_
        refine gj_l (pc2 := 20) (fun _ _ _ => lv_iconst (v := 2) hx hb d_L_poke_19 (by decide)) ?_
        exact gj_iret F d_L_poke_20 (Nat.le_refl _) (Nat.le_refl _) (Or.inr ⟨_, u, hpx, rfl, rfl⟩)
  · refine gj_l (pc2 := 9) (fun _ _ _ => lv_i2l hx hb d_L_poke_8 rfl) ?_
    refine gj_last F d_L_poke_9 rfl ?_
    refine gj_l (pc2 := 21) (fun _ _ _ => lv_goto (tgt := 21) hx hb d_L_poke_10 (by decide)) ?_
    refine gj_l (pc2 := 22) (fun _ _ _ => lv_iconst (v := 0) hx hb d_L_poke_21 (by decide)) ?_
    exact gj_iret F d_L_poke_22 (Nat.le_refl _) (Nat.le_refl _) (Or.inl ⟨r, u, hpo, rfl, rfl⟩)
set_option maxHeartbeats 4000000 in
set_option maxRecDepth 100000 in
theorem ct_L_pokeFour {l : Launch} {D : va_G} {cI cB cZ cJ : ClassId} {a : Nat → Nat} {σ : St} {post : Int32 → va_W → Prop} {px : String → va_W → Prop} (x v : Int32) (o : Nat) (f : Nat → Int64) (hM : GXi l y_X_pokeFour (Cond.code y_X_pokeFour c_X_pokeFour 5 (some .int) :: tbW) ({ frames := 6, cells := 1, slots := 6, locals := 90 }) 1 6 D vCl (TY cI cB cZ cJ) [.ref (a 0), .int x, .int v] (bw a cI cB 32 σ) post px) (hE : ∀ (E : String) (u : va_W), px E u → E = xIo) :
    GCi l y_L_pokeFour (Cond.codeWith y_L_pokeFour c_L_pokeFour 5 (some .int) [(0, 10, 13, 13)] :: tbW) ({ frames := 7, cells := 1, slots := 6, locals := 114 }) 1 6 D vCl (TY cI cB cZ cJ) [.ref (a 0), .int x, .int v, .ref o] (bw a cI cB 32 σ ++ [oC o cJ f]) (hpR o cJ f post px (fun _ => 1)) := by
  refine gcw_body (Qc := gc_Qi D vCl (TY cI cB cZ cJ) (bw a cI cB 32 σ ++ [oC o cJ f]) (hpR o cJ f post px (fun _ => 1))) (cc := c_L_pokeFour) (maxL := 5) (ret := (some .int)) (hh := [(0, 10, 13, 13)]) (by decide) rfl (by simp [Value.category]) (Nat.le_of_ble_eq_true rfl) ?_
  intro p e s m args below meth c F ht
  have hx := F.1
  have hb := F.2.1
  refine gj_ld (i := 3) (pc2 := 1) rfl (fun _ _ _ h9 => lv_aload_n hx hb d_L_pokeFour_0 rfl h9) ?_
  refine gj_l (pc2 := 2) (fun _ _ _ => lv_iconst (v := 0) hx hb d_L_pokeFour_1 (by decide)) ?_
  refine gj_ld (i := 0) (pc2 := 3) rfl (fun _ _ _ h9 => lv_aload_n hx hb d_L_pokeFour_2 rfl h9) ?_
  refine gj_ld (i := 1) (pc2 := 4) rfl (fun _ _ _ h9 => lv_iload_n hx hb d_L_pokeFour_3 rfl h9) ?_
  refine gj_ld (i := 2) (pc2 := 5) rfl (fun _ _ _ h9 => lv_iload_n hx hb d_L_pokeFour_4 rfl h9) ?_
  refine gj_xcalli (wc := bw a cI cB 32 σ) (wr := [oC o cJ f]) (av := [.ref (a 0), .int x, .int v]) (post := post) (px := px) (mc := 1) (ms := 6) (rest := [.int 0, .ref o]) F.K F.E ga_A (fun ls H locs hsz hpre hP => gr_VX (As := [.int x, .int v]) F k_X_pokeFour d_L_pokeFour_5 q_211 bw_h rfl (hM H.size) rfl rfl ⟨Nat.le_of_ble_eq_true rfl, Nat.le_of_ble_eq_true rfl⟩ rfl rfl (Nat.le_of_ble_eq_true rfl) (Nat.le_of_ble_eq_true rfl) (Nat.le_of_ble_eq_true rfl) hsz hpre (gc_left hP)) (fun E u ls H1 locs1 ce q9 hpx h1 h2 h3 h4 h5 h6 h7 => ?_) (fun r u hpo => ?_)
  · have hEE := hE E u hpx
    subst hEE
    refine vx_catch (own := rL) (E := xIo) (name := xIo) F.2.2.2.1 [] ⟨0, 10, 13, 13⟩ [] ht ?_ (by decide) (by decide) (F.w q_107) (ev_use rfl (F.N (w := .castable xIo xIo) (by decide +kernel))) h5 h6 h7 ?_
    · exact fun z hz => absurd hz List.not_mem_nil
    · refine (show GJ p l e _ s m args below meth c D vCl (va_A (bw a cI cB 32 σ ++ [oC o cJ f]) s.heap.size) s.heap 5 (MQ below (gc_Qi D vCl (TY cI cB cZ cJ) (bw a cI cB 32 σ ++ [oC o cJ f]) (hpR o cJ f post px (fun _ => 1)) s.heap.size) args s 1 6 (va_A (bw a cI cB 32 σ ++ [oC o cJ f]) s.heap.size)) 1 6 (u ++ [oC o cJ f]) 13 [.ref (a 0), .int x, .int v, .ref o] [.ref q9] from ?_) ls H1 locs1 h1 h2 h3 h4
      refine gj_st (i := 4) (x := .ref q9) (pc2 := 15) (Nat.le_of_ble_eq_true rfl) rfl (fun _ _ _ _ _ h9 l9 => lv_astore hx hb d_L_pokeFour_13 h9 (Nat.le_of_ble_eq_true rfl) l9) ?_
      refine gj_l (pc2 := 16) (fun _ _ _ => lv_iconst (v := 1) hx hb d_L_pokeFour_15 (by decide)) ?_
      exact gj_iret F d_L_pokeFour_16 (Nat.le_refl _) (Nat.le_refl _) (Or.inr ⟨_, u, hpx, rfl, rfl⟩)
  · refine gj_l (pc2 := 9) (fun _ _ _ => lv_i2l hx hb d_L_pokeFour_8 rfl) ?_
    refine gj_last F d_L_pokeFour_9 rfl ?_
    refine gj_l (pc2 := 17) (fun _ _ _ => lv_goto (tgt := 17) hx hb d_L_pokeFour_10 (by decide)) ?_
    refine gj_l (pc2 := 18) (fun _ _ _ => lv_iconst (v := 0) hx hb d_L_pokeFour_17 (by decide)) ?_
    exact gj_iret F d_L_pokeFour_18 (Nat.le_refl _) (Nat.le_refl _) (Or.inl ⟨r, u, hpo, rfl, rfl⟩)
set_option maxHeartbeats 4000000 in
set_option maxRecDepth 100000 in
theorem ct_L_set {l : Launch} {D : va_G} {cI cB cZ cJ : ClassId} {a : Nat → Nat} {σ : St} {post : Int32 → va_W → Prop} {px : String → va_W → Prop} (x v : Int32) (o : Nat) (f : Nat → Int64) (hM : GXi l y_X_set (Cond.code y_X_set c_X_set 4 (some .int) :: tbW) ({ frames := 6, cells := 1, slots := 6, locals := 90 }) 1 6 D vCl (TY cI cB cZ cJ) [.ref (a 0), .int x, .int v] (bw a cI cB 32 σ) post px) (hE : ∀ (E : String) (u : va_W), px E u → E = xIo) :
    GCi l y_L_set (Cond.codeWith y_L_set c_L_set 5 (some .int) [(0, 10, 13, 13)] :: tbW) ({ frames := 7, cells := 1, slots := 6, locals := 113 }) 1 6 D vCl (TY cI cB cZ cJ) [.ref (a 0), .int x, .int v, .ref o] (bw a cI cB 32 σ ++ [oC o cJ f]) (hpR o cJ f post px (fun _ => 1)) := by
  refine gcw_body (Qc := gc_Qi D vCl (TY cI cB cZ cJ) (bw a cI cB 32 σ ++ [oC o cJ f]) (hpR o cJ f post px (fun _ => 1))) (cc := c_L_set) (maxL := 5) (ret := (some .int)) (hh := [(0, 10, 13, 13)]) (by decide) rfl (by simp [Value.category]) (Nat.le_of_ble_eq_true rfl) ?_
  intro p e s m args below meth c F ht
  have hx := F.1
  have hb := F.2.1
  refine gj_ld (i := 3) (pc2 := 1) rfl (fun _ _ _ h9 => lv_aload_n hx hb d_L_set_0 rfl h9) ?_
  refine gj_l (pc2 := 2) (fun _ _ _ => lv_iconst (v := 0) hx hb d_L_set_1 (by decide)) ?_
  refine gj_ld (i := 0) (pc2 := 3) rfl (fun _ _ _ h9 => lv_aload_n hx hb d_L_set_2 rfl h9) ?_
  refine gj_ld (i := 1) (pc2 := 4) rfl (fun _ _ _ h9 => lv_iload_n hx hb d_L_set_3 rfl h9) ?_
  refine gj_ld (i := 2) (pc2 := 5) rfl (fun _ _ _ h9 => lv_iload_n hx hb d_L_set_4 rfl h9) ?_
  refine gj_xcalli (wc := bw a cI cB 32 σ) (wr := [oC o cJ f]) (av := [.ref (a 0), .int x, .int v]) (post := post) (px := px) (mc := 1) (ms := 6) (rest := [.int 0, .ref o]) F.K F.E ga_A (fun ls H locs hsz hpre hP => gr_VX (As := [.int x, .int v]) F k_X_set d_L_set_5 q_222 bw_h rfl (hM H.size) rfl rfl ⟨Nat.le_of_ble_eq_true rfl, Nat.le_of_ble_eq_true rfl⟩ rfl rfl (Nat.le_of_ble_eq_true rfl) (Nat.le_of_ble_eq_true rfl) (Nat.le_of_ble_eq_true rfl) hsz hpre (gc_left hP)) (fun E u ls H1 locs1 ce q9 hpx h1 h2 h3 h4 h5 h6 h7 => ?_) (fun r u hpo => ?_)
  · have hEE := hE E u hpx
    subst hEE
    refine vx_catch (own := rL) (E := xIo) (name := xIo) F.2.2.2.1 [] ⟨0, 10, 13, 13⟩ [] ht ?_ (by decide) (by decide) (F.w q_107) (ev_use rfl (F.N (w := .castable xIo xIo) (by decide +kernel))) h5 h6 h7 ?_
    · exact fun z hz => absurd hz List.not_mem_nil
    · refine (show GJ p l e _ s m args below meth c D vCl (va_A (bw a cI cB 32 σ ++ [oC o cJ f]) s.heap.size) s.heap 5 (MQ below (gc_Qi D vCl (TY cI cB cZ cJ) (bw a cI cB 32 σ ++ [oC o cJ f]) (hpR o cJ f post px (fun _ => 1)) s.heap.size) args s 1 6 (va_A (bw a cI cB 32 σ ++ [oC o cJ f]) s.heap.size)) 1 6 (u ++ [oC o cJ f]) 13 [.ref (a 0), .int x, .int v, .ref o] [.ref q9] from ?_) ls H1 locs1 h1 h2 h3 h4
      refine gj_st (i := 4) (x := .ref q9) (pc2 := 15) (Nat.le_of_ble_eq_true rfl) rfl (fun _ _ _ _ _ h9 l9 => lv_astore hx hb d_L_set_13 h9 (Nat.le_of_ble_eq_true rfl) l9) ?_
      refine gj_l (pc2 := 16) (fun _ _ _ => lv_iconst (v := 1) hx hb d_L_set_15 (by decide)) ?_
      exact gj_iret F d_L_set_16 (Nat.le_refl _) (Nat.le_refl _) (Or.inr ⟨_, u, hpx, rfl, rfl⟩)
  · refine gj_l (pc2 := 9) (fun _ _ _ => lv_i2l hx hb d_L_set_8 rfl) ?_
    refine gj_last F d_L_set_9 rfl ?_
    refine gj_l (pc2 := 17) (fun _ _ _ => lv_goto (tgt := 17) hx hb d_L_set_10 (by decide)) ?_
    refine gj_l (pc2 := 18) (fun _ _ _ => lv_iconst (v := 0) hx hb d_L_set_17 (by decide)) ?_
    exact gj_iret F d_L_set_18 (Nat.le_refl _) (Nat.le_refl _) (Or.inl ⟨r, u, hpo, rfl, rfl⟩)
set_option maxHeartbeats 4000000 in
set_option maxRecDepth 100000 in
theorem ct_L_row {l : Launch} {D : va_G} {cI cB cZ cJ : ClassId} {a : Nat → Nat} {σ : St} {post : Int32 → va_W → Prop} {px : String → va_W → Prop} (x v : Int32) (o : Nat) (f : Nat → Int64) (hM : GXi l y_X_row (Cond.code y_X_row c_X_row 4 (some .int) :: tbW) ({ frames := 6, cells := 1, slots := 6, locals := 90 }) 1 6 D vCl (TY cI cB cZ cJ) [.ref (a 0), .int x, .int v] (bw a cI cB 32 σ) post px) (hE : ∀ (E : String) (u : va_W), px E u → E = xIo) :
    GCi l y_L_row (Cond.codeWith y_L_row c_L_row 5 (some .int) [(0, 10, 13, 13)] :: tbW) ({ frames := 7, cells := 1, slots := 6, locals := 113 }) 1 6 D vCl (TY cI cB cZ cJ) [.ref (a 0), .int x, .int v, .ref o] (bw a cI cB 32 σ ++ [oC o cJ f]) (hpR o cJ f post px (fun _ => 1)) := by
  refine gcw_body (Qc := gc_Qi D vCl (TY cI cB cZ cJ) (bw a cI cB 32 σ ++ [oC o cJ f]) (hpR o cJ f post px (fun _ => 1))) (cc := c_L_row) (maxL := 5) (ret := (some .int)) (hh := [(0, 10, 13, 13)]) (by decide) rfl (by simp [Value.category]) (Nat.le_of_ble_eq_true rfl) ?_
  intro p e s m args below meth c F ht
  have hx := F.1
  have hb := F.2.1
  refine gj_ld (i := 3) (pc2 := 1) rfl (fun _ _ _ h9 => lv_aload_n hx hb d_L_row_0 rfl h9) ?_
  refine gj_l (pc2 := 2) (fun _ _ _ => lv_iconst (v := 0) hx hb d_L_row_1 (by decide)) ?_
  refine gj_ld (i := 0) (pc2 := 3) rfl (fun _ _ _ h9 => lv_aload_n hx hb d_L_row_2 rfl h9) ?_
  refine gj_ld (i := 1) (pc2 := 4) rfl (fun _ _ _ h9 => lv_iload_n hx hb d_L_row_3 rfl h9) ?_
  refine gj_ld (i := 2) (pc2 := 5) rfl (fun _ _ _ h9 => lv_iload_n hx hb d_L_row_4 rfl h9) ?_
  refine gj_xcalli (wc := bw a cI cB 32 σ) (wr := [oC o cJ f]) (av := [.ref (a 0), .int x, .int v]) (post := post) (px := px) (mc := 1) (ms := 6) (rest := [.int 0, .ref o]) F.K F.E ga_A (fun ls H locs hsz hpre hP => gr_VX (As := [.int x, .int v]) F k_X_row d_L_row_5 q_319 bw_h rfl (hM H.size) rfl rfl ⟨Nat.le_of_ble_eq_true rfl, Nat.le_of_ble_eq_true rfl⟩ rfl rfl (Nat.le_of_ble_eq_true rfl) (Nat.le_of_ble_eq_true rfl) (Nat.le_of_ble_eq_true rfl) hsz hpre (gc_left hP)) (fun E u ls H1 locs1 ce q9 hpx h1 h2 h3 h4 h5 h6 h7 => ?_) (fun r u hpo => ?_)
  · have hEE := hE E u hpx
    subst hEE
    refine vx_catch (own := rL) (E := xIo) (name := xIo) F.2.2.2.1 [] ⟨0, 10, 13, 13⟩ [] ht ?_ (by decide) (by decide) (F.w q_107) (ev_use rfl (F.N (w := .castable xIo xIo) (by decide +kernel))) h5 h6 h7 ?_
    · exact fun z hz => absurd hz List.not_mem_nil
    · refine (show GJ p l e _ s m args below meth c D vCl (va_A (bw a cI cB 32 σ ++ [oC o cJ f]) s.heap.size) s.heap 5 (MQ below (gc_Qi D vCl (TY cI cB cZ cJ) (bw a cI cB 32 σ ++ [oC o cJ f]) (hpR o cJ f post px (fun _ => 1)) s.heap.size) args s 1 6 (va_A (bw a cI cB 32 σ ++ [oC o cJ f]) s.heap.size)) 1 6 (u ++ [oC o cJ f]) 13 [.ref (a 0), .int x, .int v, .ref o] [.ref q9] from ?_) ls H1 locs1 h1 h2 h3 h4
      refine gj_st (i := 4) (x := .ref q9) (pc2 := 15) (Nat.le_of_ble_eq_true rfl) rfl (fun _ _ _ _ _ h9 l9 => lv_astore hx hb d_L_row_13 h9 (Nat.le_of_ble_eq_true rfl) l9) ?_
      refine gj_l (pc2 := 16) (fun _ _ _ => lv_iconst (v := 1) hx hb d_L_row_15 (by decide)) ?_
      exact gj_iret F d_L_row_16 (Nat.le_refl _) (Nat.le_refl _) (Or.inr ⟨_, u, hpx, rfl, rfl⟩)
  · refine gj_l (pc2 := 9) (fun _ _ _ => lv_i2l hx hb d_L_row_8 rfl) ?_
    refine gj_last F d_L_row_9 rfl ?_
    refine gj_l (pc2 := 17) (fun _ _ _ => lv_goto (tgt := 17) hx hb d_L_row_10 (by decide)) ?_
    refine gj_l (pc2 := 18) (fun _ _ _ => lv_iconst (v := 0) hx hb d_L_row_17 (by decide)) ?_
    exact gj_iret F d_L_row_18 (Nat.le_refl _) (Nat.le_refl _) (Or.inl ⟨r, u, hpo, rfl, rfl⟩)
set_option maxHeartbeats 4000000 in
set_option maxRecDepth 100000 in
theorem ct_L_go {l : Launch} {D : va_G} {cI cB cZ cJ : ClassId} {a : Nat → Nat} {σ : St} {post : Int32 → va_W → Prop} {px : String → va_W → Prop} (x : Int32) (o : Nat) (f : Nat → Int64) (hM : GXi l y_X_go (Cond.code y_X_go c_X_go 3 (some .int) :: tbW) ({ frames := 6, cells := 1, slots := 6, locals := 90 }) 1 6 D vCl (TY cI cB cZ cJ) [.ref (a 0), .int x] (bw a cI cB 32 σ) post px) (hE : ∀ (E : String) (u : va_W), px E u → E = xIo) :
    GCi l y_L_go (Cond.codeWith y_L_go c_L_go 4 (some .int) [(0, 9, 12, 13)] :: tbW) ({ frames := 7, cells := 1, slots := 6, locals := 112 }) 1 6 D vCl (TY cI cB cZ cJ) [.ref (a 0), .int x, .ref o] (bw a cI cB 32 σ ++ [oC o cJ f]) (hpR o cJ f post px (fun _ => 1)) := by
  refine gcw_body (Qc := gc_Qi D vCl (TY cI cB cZ cJ) (bw a cI cB 32 σ ++ [oC o cJ f]) (hpR o cJ f post px (fun _ => 1))) (cc := c_L_go) (maxL := 4) (ret := (some .int)) (hh := [(0, 9, 12, 13)]) (by decide) rfl (by simp [Value.category]) (Nat.le_of_ble_eq_true rfl) ?_
  intro p e s m args below meth c F ht
  have hx := F.1
  have hb := F.2.1
  refine gj_ld (i := 2) (pc2 := 1) rfl (fun _ _ _ h9 => lv_aload_n hx hb d_L_go_0 rfl h9) ?_
  refine gj_l (pc2 := 2) (fun _ _ _ => lv_iconst (v := 0) hx hb d_L_go_1 (by decide)) ?_
  refine gj_ld (i := 0) (pc2 := 3) rfl (fun _ _ _ h9 => lv_aload_n hx hb d_L_go_2 rfl h9) ?_
  refine gj_ld (i := 1) (pc2 := 4) rfl (fun _ _ _ h9 => lv_iload_n hx hb d_L_go_3 rfl h9) ?_
  refine gj_xcalli (wc := bw a cI cB 32 σ) (wr := [oC o cJ f]) (av := [.ref (a 0), .int x]) (post := post) (px := px) (mc := 1) (ms := 6) (rest := [.int 0, .ref o]) F.K F.E ga_A (fun ls H locs hsz hpre hP => gr_VX (As := [.int x]) F k_X_go d_L_go_4 q_230 bw_h rfl (hM H.size) rfl rfl ⟨Nat.le_of_ble_eq_true rfl, Nat.le_of_ble_eq_true rfl⟩ rfl rfl (Nat.le_of_ble_eq_true rfl) (Nat.le_of_ble_eq_true rfl) (Nat.le_of_ble_eq_true rfl) hsz hpre (gc_left hP)) (fun E u ls H1 locs1 ce q9 hpx h1 h2 h3 h4 h5 h6 h7 => ?_) (fun r u hpo => ?_)
  · have hEE := hE E u hpx
    subst hEE
    refine vx_catch (own := rL) (E := xIo) (name := xIo) F.2.2.2.1 [] ⟨0, 9, 12, 13⟩ [] ht ?_ (by decide) (by decide) (F.w q_107) (ev_use rfl (F.N (w := .castable xIo xIo) (by decide +kernel))) h5 h6 h7 ?_
    · exact fun z hz => absurd hz List.not_mem_nil
    · refine (show GJ p l e _ s m args below meth c D vCl (va_A (bw a cI cB 32 σ ++ [oC o cJ f]) s.heap.size) s.heap 4 (MQ below (gc_Qi D vCl (TY cI cB cZ cJ) (bw a cI cB 32 σ ++ [oC o cJ f]) (hpR o cJ f post px (fun _ => 1)) s.heap.size) args s 1 6 (va_A (bw a cI cB 32 σ ++ [oC o cJ f]) s.heap.size)) 1 6 (u ++ [oC o cJ f]) 12 [.ref (a 0), .int x, .ref o] [.ref q9] from ?_) ls H1 locs1 h1 h2 h3 h4
      refine gj_st (i := 3) (x := .ref q9) (pc2 := 13) (Nat.le_of_ble_eq_true rfl) rfl (fun _ _ _ _ _ h9 l9 => lv_astore_n hx hb d_L_go_12 rfl h9 (Nat.le_of_ble_eq_true rfl) l9) ?_
      refine gj_l (pc2 := 14) (fun _ _ _ => lv_iconst (v := 1) hx hb d_L_go_13 (by decide)) ?_
      exact gj_iret F d_L_go_14 (Nat.le_refl _) (Nat.le_refl _) (Or.inr ⟨_, u, hpx, rfl, rfl⟩)
  · refine gj_l (pc2 := 8) (fun _ _ _ => lv_i2l hx hb d_L_go_7 rfl) ?_
    refine gj_last F d_L_go_8 rfl ?_
    refine gj_l (pc2 := 15) (fun _ _ _ => lv_goto (tgt := 15) hx hb d_L_go_9 (by decide)) ?_
    refine gj_l (pc2 := 16) (fun _ _ _ => lv_iconst (v := 0) hx hb d_L_go_15 (by decide)) ?_
    exact gj_iret F d_L_go_16 (Nat.le_refl _) (Nat.le_refl _) (Or.inl ⟨r, u, hpo, rfl, rfl⟩)
set_option maxHeartbeats 4000000 in
set_option maxRecDepth 100000 in
theorem ct_L_run {l : Launch} {D : va_G} {cI cB cZ cJ : ClassId} {a : Nat → Nat} {σ : St} {post : Int32 → va_W → Prop} {px : String → va_W → Prop} (x : Int32) (o : Nat) (f : Nat → Int64) (hM : GXi l y_X_run (Cond.code y_X_run c_X_run 4 (some .int) :: tbW) ({ frames := 6, cells := 1, slots := 6, locals := 138 }) 1 6 D vCl (TY cI cB cZ cJ) [.ref (a 0), .int x] (bw a cI cB 32 σ) post px) (hE : ∀ (E : String) (u : va_W), px E u → E = xIa) :
    GCi l y_L_run (Cond.codeWith y_L_run c_L_run 4 (some .int) [(0, 9, 12, 15)] :: tbW) ({ frames := 7, cells := 1, slots := 6, locals := 161 }) 1 6 D vCl (TY cI cB cZ cJ) [.ref (a 0), .int x, .ref o] (bw a cI cB 32 σ ++ [oC o cJ f]) (hpR o cJ f post px (fun _ => 1)) := by
  refine gcw_body (Qc := gc_Qi D vCl (TY cI cB cZ cJ) (bw a cI cB 32 σ ++ [oC o cJ f]) (hpR o cJ f post px (fun _ => 1))) (cc := c_L_run) (maxL := 4) (ret := (some .int)) (hh := [(0, 9, 12, 15)]) (by decide) rfl (by simp [Value.category]) (Nat.le_of_ble_eq_true rfl) ?_
  intro p e s m args below meth c F ht
  have hx := F.1
  have hb := F.2.1
  refine gj_ld (i := 2) (pc2 := 1) rfl (fun _ _ _ h9 => lv_aload_n hx hb d_L_run_0 rfl h9) ?_
  refine gj_l (pc2 := 2) (fun _ _ _ => lv_iconst (v := 0) hx hb d_L_run_1 (by decide)) ?_
  refine gj_ld (i := 0) (pc2 := 3) rfl (fun _ _ _ h9 => lv_aload_n hx hb d_L_run_2 rfl h9) ?_
  refine gj_ld (i := 1) (pc2 := 4) rfl (fun _ _ _ h9 => lv_iload_n hx hb d_L_run_3 rfl h9) ?_
  refine gj_xcalli (wc := bw a cI cB 32 σ) (wr := [oC o cJ f]) (av := [.ref (a 0), .int x]) (post := post) (px := px) (mc := 1) (ms := 6) (rest := [.int 0, .ref o]) F.K F.E ga_A (fun ls H locs hsz hpre hP => gr_VX (As := [.int x]) F k_X_run d_L_run_4 q_237 bw_h rfl (hM H.size) rfl rfl ⟨Nat.le_of_ble_eq_true rfl, Nat.le_of_ble_eq_true rfl⟩ rfl rfl (Nat.le_of_ble_eq_true rfl) (Nat.le_of_ble_eq_true rfl) (Nat.le_of_ble_eq_true rfl) hsz hpre (gc_left hP)) (fun E u ls H1 locs1 ce q9 hpx h1 h2 h3 h4 h5 h6 h7 => ?_) (fun r u hpo => ?_)
  · have hEE := hE E u hpx
    subst hEE
    refine vx_catch (own := rL) (E := xIa) (name := xIa) F.2.2.2.1 [] ⟨0, 9, 12, 15⟩ [] ht ?_ (by decide) (by decide) (F.w q_108) (ev_use rfl (F.N (w := .castable xIa xIa) (by decide +kernel))) h5 h6 h7 ?_
    · exact fun z hz => absurd hz List.not_mem_nil
    · refine (show GJ p l e _ s m args below meth c D vCl (va_A (bw a cI cB 32 σ ++ [oC o cJ f]) s.heap.size) s.heap 4 (MQ below (gc_Qi D vCl (TY cI cB cZ cJ) (bw a cI cB 32 σ ++ [oC o cJ f]) (hpR o cJ f post px (fun _ => 1)) s.heap.size) args s 1 6 (va_A (bw a cI cB 32 σ ++ [oC o cJ f]) s.heap.size)) 1 6 (u ++ [oC o cJ f]) 12 [.ref (a 0), .int x, .ref o] [.ref q9] from ?_) ls H1 locs1 h1 h2 h3 h4
      refine gj_st (i := 3) (x := .ref q9) (pc2 := 13) (Nat.le_of_ble_eq_true rfl) rfl (fun _ _ _ _ _ h9 l9 => lv_astore_n hx hb d_L_run_12 rfl h9 (Nat.le_of_ble_eq_true rfl) l9) ?_
      refine gj_l (pc2 := 14) (fun _ _ _ => lv_iconst (v := 1) hx hb d_L_run_13 (by decide)) ?_
      exact gj_iret F d_L_run_14 (Nat.le_refl _) (Nat.le_refl _) (Or.inr ⟨_, u, hpx, rfl, rfl⟩)
  · refine gj_l (pc2 := 8) (fun _ _ _ => lv_i2l hx hb d_L_run_7 rfl) ?_
    refine gj_last F d_L_run_8 rfl ?_
    refine gj_l (pc2 := 15) (fun _ _ _ => lv_goto (tgt := 15) hx hb d_L_run_9 (by decide)) ?_
    refine gj_l (pc2 := 16) (fun _ _ _ => lv_iconst (v := 0) hx hb d_L_run_15 (by decide)) ?_
    exact gj_iret F d_L_run_16 (Nat.le_refl _) (Nat.le_refl _) (Or.inl ⟨r, u, hpo, rfl, rfl⟩)
set_option maxHeartbeats 4000000 in
set_option maxRecDepth 100000 in
theorem ct_L_memory {l : Launch} {D : va_G} {cI cB cZ cJ : ClassId} {a : Nat → Nat} {σ : St} {post : Int32 → va_W → Prop} {px : String → va_W → Prop} (x : Int32) (o : Nat) (f : Nat → Int64) (hM : GXi l y_X_memory (Cond.code y_X_memory c_X_memory 2 (some .int) :: tbW) ({ frames := 6, cells := 1, slots := 6, locals := 90 }) 1 6 D vCl (TY cI cB cZ cJ) [.ref (a 0), .int x] (bw a cI cB 32 σ) post px) (hE : ∀ (E : String) (u : va_W), px E u → E = xIo) :
    GCi l y_L_memory (Cond.codeWith y_L_memory c_L_memory 4 (some .int) [(0, 9, 12, 13)] :: tbW) ({ frames := 7, cells := 1, slots := 6, locals := 111 }) 1 6 D vCl (TY cI cB cZ cJ) [.ref (a 0), .int x, .ref o] (bw a cI cB 32 σ ++ [oC o cJ f]) (hpR o cJ f post px (fun _ => 1)) := by
  refine gcw_body (Qc := gc_Qi D vCl (TY cI cB cZ cJ) (bw a cI cB 32 σ ++ [oC o cJ f]) (hpR o cJ f post px (fun _ => 1))) (cc := c_L_memory) (maxL := 4) (ret := (some .int)) (hh := [(0, 9, 12, 13)]) (by decide) rfl (by simp [Value.category]) (Nat.le_of_ble_eq_true rfl) ?_
  intro p e s m args below meth c F ht
  have hx := F.1
  have hb := F.2.1
  refine gj_ld (i := 2) (pc2 := 1) rfl (fun _ _ _ h9 => lv_aload_n hx hb d_L_memory_0 rfl h9) ?_
  refine gj_l (pc2 := 2) (fun _ _ _ => lv_iconst (v := 0) hx hb d_L_memory_1 (by decide)) ?_
  refine gj_ld (i := 0) (pc2 := 3) rfl (fun _ _ _ h9 => lv_aload_n hx hb d_L_memory_2 rfl h9) ?_
  refine gj_ld (i := 1) (pc2 := 4) rfl (fun _ _ _ h9 => lv_iload_n hx hb d_L_memory_3 rfl h9) ?_
  refine gj_xcalli (wc := bw a cI cB 32 σ) (wr := [oC o cJ f]) (av := [.ref (a 0), .int x]) (post := post) (px := px) (mc := 1) (ms := 6) (rest := [.int 0, .ref o]) F.K F.E ga_A (fun ls H locs hsz hpre hP => gr_VX (As := [.int x]) F k_X_memory d_L_memory_4 q_305 bw_h rfl (hM H.size) rfl rfl ⟨Nat.le_of_ble_eq_true rfl, Nat.le_of_ble_eq_true rfl⟩ rfl rfl (Nat.le_of_ble_eq_true rfl) (Nat.le_of_ble_eq_true rfl) (Nat.le_of_ble_eq_true rfl) hsz hpre (gc_left hP)) (fun E u ls H1 locs1 ce q9 hpx h1 h2 h3 h4 h5 h6 h7 => ?_) (fun r u hpo => ?_)
  · have hEE := hE E u hpx
    subst hEE
    refine vx_catch (own := rL) (E := xIo) (name := xIo) F.2.2.2.1 [] ⟨0, 9, 12, 13⟩ [] ht ?_ (by decide) (by decide) (F.w q_107) (ev_use rfl (F.N (w := .castable xIo xIo) (by decide +kernel))) h5 h6 h7 ?_
    · exact fun z hz => absurd hz List.not_mem_nil
    · refine (show GJ p l e _ s m args below meth c D vCl (va_A (bw a cI cB 32 σ ++ [oC o cJ f]) s.heap.size) s.heap 4 (MQ below (gc_Qi D vCl (TY cI cB cZ cJ) (bw a cI cB 32 σ ++ [oC o cJ f]) (hpR o cJ f post px (fun _ => 1)) s.heap.size) args s 1 6 (va_A (bw a cI cB 32 σ ++ [oC o cJ f]) s.heap.size)) 1 6 (u ++ [oC o cJ f]) 12 [.ref (a 0), .int x, .ref o] [.ref q9] from ?_) ls H1 locs1 h1 h2 h3 h4
      refine gj_st (i := 3) (x := .ref q9) (pc2 := 13) (Nat.le_of_ble_eq_true rfl) rfl (fun _ _ _ _ _ h9 l9 => lv_astore_n hx hb d_L_memory_12 rfl h9 (Nat.le_of_ble_eq_true rfl) l9) ?_
      refine gj_l (pc2 := 14) (fun _ _ _ => lv_iconst (v := 1) hx hb d_L_memory_13 (by decide)) ?_
      exact gj_iret F d_L_memory_14 (Nat.le_refl _) (Nat.le_refl _) (Or.inr ⟨_, u, hpx, rfl, rfl⟩)
  · refine gj_l (pc2 := 8) (fun _ _ _ => lv_i2l hx hb d_L_memory_7 rfl) ?_
    refine gj_last F d_L_memory_8 rfl ?_
    refine gj_l (pc2 := 15) (fun _ _ _ => lv_goto (tgt := 15) hx hb d_L_memory_9 (by decide)) ?_
    refine gj_l (pc2 := 16) (fun _ _ _ => lv_iconst (v := 0) hx hb d_L_memory_15 (by decide)) ?_
    exact gj_iret F d_L_memory_16 (Nat.le_refl _) (Nat.le_refl _) (Or.inl ⟨r, u, hpo, rfl, rfl⟩)
set_option maxHeartbeats 4000000 in
set_option maxRecDepth 100000 in
theorem ct_L_register {l : Launch} {D : va_G} {cI cB cZ cJ : ClassId} {a : Nat → Nat} {σ : St} {post : Int32 → va_W → Prop} {px : String → va_W → Prop} (x : Int32) (o : Nat) (f : Nat → Int64) (hM : GXi l y_X_register (Cond.code y_X_register c_X_register 2 (some .int) :: tbW) ({ frames := 6, cells := 1, slots := 6, locals := 90 }) 1 6 D vCl (TY cI cB cZ cJ) [.ref (a 0), .int x] (bw a cI cB 32 σ) post px) (hE : ∀ (E : String) (u : va_W), px E u → E = xIo) :
    GCi l y_L_register (Cond.codeWith y_L_register c_L_register 4 (some .int) [(0, 9, 12, 13)] :: tbW) ({ frames := 7, cells := 1, slots := 6, locals := 111 }) 1 6 D vCl (TY cI cB cZ cJ) [.ref (a 0), .int x, .ref o] (bw a cI cB 32 σ ++ [oC o cJ f]) (hpR o cJ f post px (fun _ => 1)) := by
  refine gcw_body (Qc := gc_Qi D vCl (TY cI cB cZ cJ) (bw a cI cB 32 σ ++ [oC o cJ f]) (hpR o cJ f post px (fun _ => 1))) (cc := c_L_register) (maxL := 4) (ret := (some .int)) (hh := [(0, 9, 12, 13)]) (by decide) rfl (by simp [Value.category]) (Nat.le_of_ble_eq_true rfl) ?_
  intro p e s m args below meth c F ht
  have hx := F.1
  have hb := F.2.1
  refine gj_ld (i := 2) (pc2 := 1) rfl (fun _ _ _ h9 => lv_aload_n hx hb d_L_register_0 rfl h9) ?_
  refine gj_l (pc2 := 2) (fun _ _ _ => lv_iconst (v := 0) hx hb d_L_register_1 (by decide)) ?_
  refine gj_ld (i := 0) (pc2 := 3) rfl (fun _ _ _ h9 => lv_aload_n hx hb d_L_register_2 rfl h9) ?_
  refine gj_ld (i := 1) (pc2 := 4) rfl (fun _ _ _ h9 => lv_iload_n hx hb d_L_register_3 rfl h9) ?_
  refine gj_xcalli (wc := bw a cI cB 32 σ) (wr := [oC o cJ f]) (av := [.ref (a 0), .int x]) (post := post) (px := px) (mc := 1) (ms := 6) (rest := [.int 0, .ref o]) F.K F.E ga_A (fun ls H locs hsz hpre hP => gr_VX (As := [.int x]) F k_X_register d_L_register_4 q_312 bw_h rfl (hM H.size) rfl rfl ⟨Nat.le_of_ble_eq_true rfl, Nat.le_of_ble_eq_true rfl⟩ rfl rfl (Nat.le_of_ble_eq_true rfl) (Nat.le_of_ble_eq_true rfl) (Nat.le_of_ble_eq_true rfl) hsz hpre (gc_left hP)) (fun E u ls H1 locs1 ce q9 hpx h1 h2 h3 h4 h5 h6 h7 => ?_) (fun r u hpo => ?_)
  · have hEE := hE E u hpx
    subst hEE
    refine vx_catch (own := rL) (E := xIo) (name := xIo) F.2.2.2.1 [] ⟨0, 9, 12, 13⟩ [] ht ?_ (by decide) (by decide) (F.w q_107) (ev_use rfl (F.N (w := .castable xIo xIo) (by decide +kernel))) h5 h6 h7 ?_
    · exact fun z hz => absurd hz List.not_mem_nil
    · refine (show GJ p l e _ s m args below meth c D vCl (va_A (bw a cI cB 32 σ ++ [oC o cJ f]) s.heap.size) s.heap 4 (MQ below (gc_Qi D vCl (TY cI cB cZ cJ) (bw a cI cB 32 σ ++ [oC o cJ f]) (hpR o cJ f post px (fun _ => 1)) s.heap.size) args s 1 6 (va_A (bw a cI cB 32 σ ++ [oC o cJ f]) s.heap.size)) 1 6 (u ++ [oC o cJ f]) 12 [.ref (a 0), .int x, .ref o] [.ref q9] from ?_) ls H1 locs1 h1 h2 h3 h4
      refine gj_st (i := 3) (x := .ref q9) (pc2 := 13) (Nat.le_of_ble_eq_true rfl) rfl (fun _ _ _ _ _ h9 l9 => lv_astore_n hx hb d_L_register_12 rfl h9 (Nat.le_of_ble_eq_true rfl) l9) ?_
      refine gj_l (pc2 := 14) (fun _ _ _ => lv_iconst (v := 1) hx hb d_L_register_13 (by decide)) ?_
      exact gj_iret F d_L_register_14 (Nat.le_refl _) (Nat.le_refl _) (Or.inr ⟨_, u, hpx, rfl, rfl⟩)
  · refine gj_l (pc2 := 8) (fun _ _ _ => lv_i2l hx hb d_L_register_7 rfl) ?_
    refine gj_last F d_L_register_8 rfl ?_
    refine gj_l (pc2 := 15) (fun _ _ _ => lv_goto (tgt := 15) hx hb d_L_register_9 (by decide)) ?_
    refine gj_l (pc2 := 16) (fun _ _ _ => lv_iconst (v := 0) hx hb d_L_register_15 (by decide)) ?_
    exact gj_iret F d_L_register_16 (Nat.le_refl _) (Nat.le_refl _) (Or.inl ⟨r, u, hpo, rfl, rfl⟩)
