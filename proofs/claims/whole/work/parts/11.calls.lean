/-! calls, by contract: V of a method of the receiver's own class, N of a nest mate's, S static -/
theorem tb_gi {c0 c1 : Cond} (h : c1 ∈ tbW) : GoodIn (c0 :: tbW) (c1 :: tbW) := fun w hw => by
  have h1 : w ∈ tbW := (List.mem_cons.mp hw).elim (fun e => by rw [e]; exact h) id
  exact ⟨List.mem_cons_of_mem _ h1, good_of_word (List.mem_filter.mp h1).2⟩
theorem tb_gl {c0 c1 : Cond} {ws : List Cond} (hs : ∀ w ∈ ws, w ∈ tbW) (h : c1 ∈ tbW) : GoodIn (c0 :: tbW) (ws ++ (c1 :: tbW)) := fun w hw => by
  have h1 : w ∈ tbW := (List.mem_append.mp hw).elim (hs w) (fun h2 => (List.mem_cons.mp h2).elim (fun e => by rw [e]; exact h) id)
  exact ⟨List.mem_cons_of_mem _ h1, good_of_word (List.mem_filter.mp h1).2⟩
def CKd (y : MethodName) (n : Nat) : Prop := y.cls ≠ "java/lang/invoke/MethodHandle" ∧ y.cls ≠ "java/lang/invoke/VarHandle" ∧ (parseMethodDescriptor y.desc).map (fun d => d.parameters.length) = some n
def CKV (y : MethodName) (bytes : ByteArray) (maxL : Nat) (ret : Option FieldType) (n : Nat) : Prop := Cond.code y bytes maxL ret ∈ tbW ∧ Cond.initialized y.cls ∈ tbW ∧ Cond.instanceMethod y ∈ tbW ∧ Cond.selects y.cls y y ∈ tbW ∧ CKd y n
def CKS (y : MethodName) (bytes : ByteArray) (maxL : Nat) (ret : Option FieldType) (n : Nat) : Prop := Cond.code y bytes maxL ret ∈ tbW ∧ Cond.initialized y.cls ∈ tbW ∧ Cond.static y ∈ tbW ∧ CKd y n
/-- the room of a callee that makes nothing, in the caller's -/
def RMo (rm R : Room) (maxL : Nat) : Prop := rm.cells = 0 ∧ rm.slots = 0 ∧ rm.frames + 1 ≤ R.frames ∧ 8 + (maxL + 11) + rm.locals ≤ R.locals
theorem rmo {rm R : Room} {maxL : Nat} (h : (Nat.beq rm.cells 0 && Nat.beq rm.slots 0 && Nat.ble (rm.frames + 1) R.frames && Nat.ble (8 + (maxL + 11) + rm.locals) R.locals) = true) : RMo rm R maxL := by
  simp only [Bool.and_eq_true] at h
  exact ⟨Nat.eq_of_beq_eq_true h.1.1.1, Nat.eq_of_beq_eq_true h.1.1.2, Nat.le_of_ble_eq_true h.1.2, Nat.le_of_ble_eq_true h.2⟩
section CJ
variable {p : Program} {l : Launch} {e : Env} {R : Room} {s : State} {m : MethodId} {args : Array Value} {below : List Frame} {meth : Method} {c : Code} {cells slots : Nat} {Q : State → Prop}
variable {D : va_G} {n : Nat} {w0 w : va_W} {pc pc2 : Nat} {L st rest As : List Value} {cc : ByteArray} {ret : Option FieldType} {y : MethodName} {c0 : Cond} {cI cB cZ cJ : ClassId}
variable {y2 : MethodName} {b2 : ByteArray} {maxL n2 idx b r ci : Nat} {ret2 : Option FieldType} {rm : Room} {fs : List Value} {T : u_T} {N : Nat}
theorem gr_V {Qc : Array Value → State → Outcome → State → Prop} {H : Heap} {locs : List Loc} {ls : Array Slot} (F : GF p s m args meth c cc n ret y (c0 :: tbW) D vCl (TY cI cB cZ cJ) w0) (K : CKV y2 b2 maxL ret2 n2) (hd : decode cc pc = .ok (.invokevirtual idx, 3)) (hl : Cond.methodLink y.cls idx y2 ∈ tbW) (hr : w[r]? = some (b, .inr (ci, fs))) (hci : vCl[ci]? = some (y2.cls, T, N))
    (hM : Met l y2 (Cond.code y2 b2 maxL ret2 :: tbW) rm (gc_Pc D vCl (TY cI cB cZ cJ) (.ref b :: As) w H.size) Qc 0 0 (va_A w H.size)) (hR : RMo rm R maxL) (hn : As.length = n2) (hst : st = As.reverse ++ .ref b :: rest) (hrs : (rest.map fun v => v.category).sum ≤ 8) (hc : cells ≤ R.cells) (hs : slots ≤ R.slots)
    (hsz : ls.size = n) (hp : gc_pre s D vCl (TY cI cB cZ cJ) (.ref b :: As) w H) (hP : va_P D vCl w H) :
    va_Run p l e R s m args below meth c H locs cells slots 0 0 (F0 m pc ls st) rest (Qc (Value.ref b :: As).toArray) (va_A w H.size) := by
  obtain ⟨k1, k2, k3, k4, k5⟩ := K
  refine va_runV (As := As) (rest := rest) (C := y2.cls) ⟨F.1, F.2.1, F.2.2.1, F.2.2.2.1, F.2.2.2.2.1⟩ hM (cwV n2 F.2.2.2.2.1 (tb_gl (c1 := Cond.code y2 b2 maxL ret2) ?_ k1) rfl hR.1 hR.2.1 ⟨rfl, k5⟩ ⟨hR.2.2.1, hR.2.2.2⟩) ⟨hp.1, va_recv F.K hP hci hr, hp.2⟩ rfl hn hsz hst (lv_room hrs) hd ⟨hc, hs⟩
  intro w9 h9
  simp only [List.mem_cons, List.not_mem_nil, or_false] at h9
  rcases h9 with rfl | rfl | rfl | rfl
  · exact hl
  · exact k3
  · exact k4
  · exact k2
theorem gr_N {Qc : Array Value → State → Outcome → State → Prop} {H : Heap} {locs : List Loc} {ls : Array Slot} (F : GF p s m args meth c cc n ret y (c0 :: tbW) D vCl (TY cI cB cZ cJ) w0) (K : CKV y2 b2 maxL ret2 n2) (hd : decode cc pc = .ok (.invokevirtual idx, 3)) (hl : Cond.methodLinkNest y.cls idx y2 rX ∈ ev_N) (hr : w[r]? = some (b, .inr (ci, fs))) (hci : vCl[ci]? = some (y2.cls, T, N))
    (hM : Met l y2 (Cond.code y2 b2 maxL ret2 :: tbW) rm (gc_Pc D vCl (TY cI cB cZ cJ) (.ref b :: As) w H.size) Qc 0 0 (va_A w H.size)) (hR : RMo rm R maxL) (hn : As.length = n2) (hst : st = As.reverse ++ .ref b :: rest) (hrs : (rest.map fun v => v.category).sum ≤ 8) (hc : cells ≤ R.cells) (hs : slots ≤ R.slots)
    (hsz : ls.size = n) (hp : gc_pre s D vCl (TY cI cB cZ cJ) (.ref b :: As) w H) (hP : va_P D vCl w H) :
    va_Run p l e R s m args below meth c H locs cells slots 0 0 (F0 m pc ls st) rest (Qc (Value.ref b :: As).toArray) (va_A w H.size) := by
  obtain ⟨k1, k2, k3, k4, k5⟩ := K
  exact va_runVN (As := As) (rest := rest) (C := y2.cls) ⟨F.1, F.2.1, F.2.2.1, F.2.2.2.1, F.2.2.2.2.1⟩ hM ⟨va_cnB n2 F.2.2.2.2.1 (tb_gi k1) rfl hR.1 hR.2.1 (F.N hl) (F.w k2) k5 ⟨hR.2.2.1, hR.2.2.2⟩, F.w k3, F.w k4⟩ ⟨hp.1, va_recv F.K hP hci hr, hp.2⟩ rfl hn hsz hst (lv_room hrs) hd ⟨hc, hs⟩
theorem gr_S {Qc : Array Value → State → Outcome → State → Prop} {H : Heap} {locs : List Loc} {ls : Array Slot} (F : GF p s m args meth c cc n ret y (c0 :: tbW) D vCl (TY cI cB cZ cJ) w0) (K : CKS y2 b2 maxL ret2 n2) (hd : decode cc pc = .ok (.invokestatic idx, 3)) (hl : Cond.methodLink y.cls idx y2 ∈ tbW)
    (hM : Met l y2 (Cond.code y2 b2 maxL ret2 :: tbW) rm (gc_Pc D vCl (TY cI cB cZ cJ) As w H.size) Qc 0 0 (va_A w H.size)) (hR : RMo rm R maxL) (hn : As.length = n2) (hst : st = As.reverse ++ rest) (hrs : (rest.map fun v => v.category).sum ≤ 8) (hc : cells ≤ R.cells) (hs : slots ≤ R.slots)
    (hsz : ls.size = n) (hp : gc_pre s D vCl (TY cI cB cZ cJ) As w H) :
    va_Run p l e R s m args below meth c H locs cells slots 0 0 (F0 m pc ls st) rest (Qc As.toArray) (va_A w H.size) := by
  obtain ⟨k1, k2, k3, k5⟩ := K
  refine va_runS (As := As) (rest := rest) ⟨F.1, F.2.1, F.2.2.1, F.2.2.2.1, F.2.2.2.2.1⟩ hM (va_cwS n2 F.2.2.2.2.1 (tb_gl (c1 := Cond.code y2 b2 maxL ret2) ?_ k1) rfl hR.1 hR.2.1 k5 ⟨hR.2.2.1, hR.2.2.2⟩) ⟨hp.1, hp.2⟩ rfl hn hsz hst (lv_room hrs) hd ⟨hc, hs⟩
  intro w9 h9
  simp only [List.mem_cons, List.not_mem_nil, or_false] at h9
  rcases h9 with rfl | rfl | rfl
  · exact hl
  · exact k3
  · exact k2
theorem ga_A {w9 : va_W} {sz : Nat} : ∀ q : Nat, sz ≤ q → va_A w9 sz q := fun q h => Or.inr h
theorem bj_vi {post : Int32 → va_W → Prop} (F : GF p s m args meth c cc n ret y (c0 :: tbW) D vCl (TY cI cB cZ cJ) w0) (K : CKV y2 b2 maxL ret2 n2) (hd : decode cc pc = .ok (.invokevirtual idx, 3)) (hl : Cond.methodLink y.cls idx y2 ∈ tbW) (hr : w[r]? = some (b, .inr (ci, fs))) (hci : vCl[ci]? = some (y2.cls, T, N))
    (hM : GCi l y2 (Cond.code y2 b2 maxL ret2 :: tbW) rm 0 0 D vCl (TY cI cB cZ cJ) (.ref b :: As) w post) (hR : RMo rm R maxL) (hn : As.length = n2) (hst : st = As.reverse ++ .ref b :: rest) (hrs : (rest.map fun v => v.category).sum ≤ 8) (hc : cells ≤ R.cells) (hs : slots ≤ R.slots) (hp : pc + 3 = pc2)
    (k : ∀ (r9 : Int32) (u : va_W), post r9 u → GJ p l e R s m args below meth c D vCl (va_A w0 s.heap.size) s.heap n Q cells slots u pc2 L (.int r9 :: rest)) : GJ p l e R s m args below meth c D vCl (va_A w0 s.heap.size) s.heap n Q cells slots w pc L st := by
  subst hp
  have h := gj_calli (wc := w) (wr := []) (L := L) (av := .ref b :: As) (post := post) (mc := 0) (ms := 0) (rest := rest) (st := st) (pc := pc) (Q := Q) F.K F.E ga_A (fun ls H locs hsz hpre hP => gr_V (locs := locs) F K hd hl hr hci (hM H.size) hR hn hst hrs hc hs hsz hpre (by rw [List.append_nil] at hP; exact hP)) (fun r9 u h9 => by rw [List.append_nil]; exact k r9 u h9)
  rw [List.append_nil] at h
  exact h
theorem bj_vv {post : va_W → Prop} (F : GF p s m args meth c cc n ret y (c0 :: tbW) D vCl (TY cI cB cZ cJ) w0) (K : CKV y2 b2 maxL ret2 n2) (hd : decode cc pc = .ok (.invokevirtual idx, 3)) (hl : Cond.methodLink y.cls idx y2 ∈ tbW) (hr : w[r]? = some (b, .inr (ci, fs))) (hci : vCl[ci]? = some (y2.cls, T, N))
    (hM : GCv l y2 (Cond.code y2 b2 maxL ret2 :: tbW) rm 0 0 D vCl (TY cI cB cZ cJ) (.ref b :: As) w post) (hR : RMo rm R maxL) (hn : As.length = n2) (hst : st = As.reverse ++ .ref b :: rest) (hrs : (rest.map fun v => v.category).sum ≤ 8) (hc : cells ≤ R.cells) (hs : slots ≤ R.slots) (hp : pc + 3 = pc2)
    (k : ∀ u : va_W, post u → GJ p l e R s m args below meth c D vCl (va_A w0 s.heap.size) s.heap n Q cells slots u pc2 L (rest)) : GJ p l e R s m args below meth c D vCl (va_A w0 s.heap.size) s.heap n Q cells slots w pc L st := by
  subst hp
  have h := gj_callv (wc := w) (wr := []) (L := L) (av := .ref b :: As) (post := post) (mc := 0) (ms := 0) (rest := rest) (st := st) (pc := pc) (Q := Q) F.K F.E ga_A (fun ls H locs hsz hpre hP => gr_V (locs := locs) F K hd hl hr hci (hM H.size) hR hn hst hrs hc hs hsz hpre (by rw [List.append_nil] at hP; exact hP)) (fun u h9 => by rw [List.append_nil]; exact k u h9)
  rw [List.append_nil] at h
  exact h
theorem bj_vr {post : Nat → va_W → Prop} (F : GF p s m args meth c cc n ret y (c0 :: tbW) D vCl (TY cI cB cZ cJ) w0) (K : CKV y2 b2 maxL ret2 n2) (hd : decode cc pc = .ok (.invokevirtual idx, 3)) (hl : Cond.methodLink y.cls idx y2 ∈ tbW) (hr : w[r]? = some (b, .inr (ci, fs))) (hci : vCl[ci]? = some (y2.cls, T, N))
    (hM : GCr l y2 (Cond.code y2 b2 maxL ret2 :: tbW) rm 0 0 D vCl (TY cI cB cZ cJ) (.ref b :: As) w post) (hR : RMo rm R maxL) (hn : As.length = n2) (hst : st = As.reverse ++ .ref b :: rest) (hrs : (rest.map fun v => v.category).sum ≤ 8) (hc : cells ≤ R.cells) (hs : slots ≤ R.slots) (hp : pc + 3 = pc2)
    (k : ∀ (r9 : Nat) (u : va_W), post r9 u → GJ p l e R s m args below meth c D vCl (va_A w0 s.heap.size) s.heap n Q cells slots u pc2 L (.ref r9 :: rest)) : GJ p l e R s m args below meth c D vCl (va_A w0 s.heap.size) s.heap n Q cells slots w pc L st := by
  subst hp
  have h := gj_callr (wc := w) (wr := []) (L := L) (av := .ref b :: As) (post := post) (mc := 0) (ms := 0) (rest := rest) (st := st) (pc := pc) (Q := Q) F.K F.E ga_A (fun ls H locs hsz hpre hP => gr_V (locs := locs) F K hd hl hr hci (hM H.size) hR hn hst hrs hc hs hsz hpre (by rw [List.append_nil] at hP; exact hP)) (fun r9 u h9 => by rw [List.append_nil]; exact k r9 u h9)
  rw [List.append_nil] at h
  exact h
theorem bj_ni {post : Int32 → va_W → Prop} (F : GF p s m args meth c cc n ret y (c0 :: tbW) D vCl (TY cI cB cZ cJ) w0) (K : CKV y2 b2 maxL ret2 n2) (hd : decode cc pc = .ok (.invokevirtual idx, 3)) (hl : Cond.methodLinkNest y.cls idx y2 rX ∈ ev_N) (hr : w[r]? = some (b, .inr (ci, fs))) (hci : vCl[ci]? = some (y2.cls, T, N))
    (hM : GCi l y2 (Cond.code y2 b2 maxL ret2 :: tbW) rm 0 0 D vCl (TY cI cB cZ cJ) (.ref b :: As) w post) (hR : RMo rm R maxL) (hn : As.length = n2) (hst : st = As.reverse ++ .ref b :: rest) (hrs : (rest.map fun v => v.category).sum ≤ 8) (hc : cells ≤ R.cells) (hs : slots ≤ R.slots) (hp : pc + 3 = pc2)
    (k : ∀ (r9 : Int32) (u : va_W), post r9 u → GJ p l e R s m args below meth c D vCl (va_A w0 s.heap.size) s.heap n Q cells slots u pc2 L (.int r9 :: rest)) : GJ p l e R s m args below meth c D vCl (va_A w0 s.heap.size) s.heap n Q cells slots w pc L st := by
  subst hp
  have h := gj_calli (wc := w) (wr := []) (L := L) (av := .ref b :: As) (post := post) (mc := 0) (ms := 0) (rest := rest) (st := st) (pc := pc) (Q := Q) F.K F.E ga_A (fun ls H locs hsz hpre hP => gr_N (locs := locs) F K hd hl hr hci (hM H.size) hR hn hst hrs hc hs hsz hpre (by rw [List.append_nil] at hP; exact hP)) (fun r9 u h9 => by rw [List.append_nil]; exact k r9 u h9)
  rw [List.append_nil] at h
  exact h
theorem bj_nv {post : va_W → Prop} (F : GF p s m args meth c cc n ret y (c0 :: tbW) D vCl (TY cI cB cZ cJ) w0) (K : CKV y2 b2 maxL ret2 n2) (hd : decode cc pc = .ok (.invokevirtual idx, 3)) (hl : Cond.methodLinkNest y.cls idx y2 rX ∈ ev_N) (hr : w[r]? = some (b, .inr (ci, fs))) (hci : vCl[ci]? = some (y2.cls, T, N))
    (hM : GCv l y2 (Cond.code y2 b2 maxL ret2 :: tbW) rm 0 0 D vCl (TY cI cB cZ cJ) (.ref b :: As) w post) (hR : RMo rm R maxL) (hn : As.length = n2) (hst : st = As.reverse ++ .ref b :: rest) (hrs : (rest.map fun v => v.category).sum ≤ 8) (hc : cells ≤ R.cells) (hs : slots ≤ R.slots) (hp : pc + 3 = pc2)
    (k : ∀ u : va_W, post u → GJ p l e R s m args below meth c D vCl (va_A w0 s.heap.size) s.heap n Q cells slots u pc2 L (rest)) : GJ p l e R s m args below meth c D vCl (va_A w0 s.heap.size) s.heap n Q cells slots w pc L st := by
  subst hp
  have h := gj_callv (wc := w) (wr := []) (L := L) (av := .ref b :: As) (post := post) (mc := 0) (ms := 0) (rest := rest) (st := st) (pc := pc) (Q := Q) F.K F.E ga_A (fun ls H locs hsz hpre hP => gr_N (locs := locs) F K hd hl hr hci (hM H.size) hR hn hst hrs hc hs hsz hpre (by rw [List.append_nil] at hP; exact hP)) (fun u h9 => by rw [List.append_nil]; exact k u h9)
  rw [List.append_nil] at h
  exact h
theorem bj_nr {post : Nat → va_W → Prop} (F : GF p s m args meth c cc n ret y (c0 :: tbW) D vCl (TY cI cB cZ cJ) w0) (K : CKV y2 b2 maxL ret2 n2) (hd : decode cc pc = .ok (.invokevirtual idx, 3)) (hl : Cond.methodLinkNest y.cls idx y2 rX ∈ ev_N) (hr : w[r]? = some (b, .inr (ci, fs))) (hci : vCl[ci]? = some (y2.cls, T, N))
    (hM : GCr l y2 (Cond.code y2 b2 maxL ret2 :: tbW) rm 0 0 D vCl (TY cI cB cZ cJ) (.ref b :: As) w post) (hR : RMo rm R maxL) (hn : As.length = n2) (hst : st = As.reverse ++ .ref b :: rest) (hrs : (rest.map fun v => v.category).sum ≤ 8) (hc : cells ≤ R.cells) (hs : slots ≤ R.slots) (hp : pc + 3 = pc2)
    (k : ∀ (r9 : Nat) (u : va_W), post r9 u → GJ p l e R s m args below meth c D vCl (va_A w0 s.heap.size) s.heap n Q cells slots u pc2 L (.ref r9 :: rest)) : GJ p l e R s m args below meth c D vCl (va_A w0 s.heap.size) s.heap n Q cells slots w pc L st := by
  subst hp
  have h := gj_callr (wc := w) (wr := []) (L := L) (av := .ref b :: As) (post := post) (mc := 0) (ms := 0) (rest := rest) (st := st) (pc := pc) (Q := Q) F.K F.E ga_A (fun ls H locs hsz hpre hP => gr_N (locs := locs) F K hd hl hr hci (hM H.size) hR hn hst hrs hc hs hsz hpre (by rw [List.append_nil] at hP; exact hP)) (fun r9 u h9 => by rw [List.append_nil]; exact k r9 u h9)
  rw [List.append_nil] at h
  exact h
/-- a static method of numbers -/
theorem bj_s {post : Int32 → Prop} (F : GF p s m args meth c cc n ret y (c0 :: tbW) D vCl (TY cI cB cZ cJ) w0) (K : CKS y2 b2 maxL ret2 n2) (hd : decode cc pc = .ok (.invokestatic idx, 3)) (hl : Cond.methodLink y.cls idx y2 ∈ tbW)
    (hM : GCi l y2 (Cond.code y2 b2 maxL ret2 :: tbW) rm 0 0 D vCl (TY cI cB cZ cJ) As [] (fun r u => post r ∧ u = [])) (hR : RMo rm R maxL) (hn : As.length = n2) (hst : st = As.reverse ++ rest) (hrs : (rest.map fun v => v.category).sum ≤ 8) (hc : cells ≤ R.cells) (hs : slots ≤ R.slots) (hp : pc + 3 = pc2)
    (k : ∀ r9 : Int32, post r9 → GJ p l e R s m args below meth c D vCl (va_A w0 s.heap.size) s.heap n Q cells slots w pc2 L (.int r9 :: rest)) : GJ p l e R s m args below meth c D vCl (va_A w0 s.heap.size) s.heap n Q cells slots w pc L st := by
  subst hp
  exact gj_calli (wc := []) (wr := w) (av := As) (mc := 0) (ms := 0) (rest := rest) F.K F.E ga_A (fun ls H locs hsz hpre hP => gr_S (locs := locs) F K hd hl (hM H.size) hR hn hst hrs hc hs hsz hpre) (fun r9 u h9 => by rw [h9.2]; exact k r9 h9.1)
end CJ
