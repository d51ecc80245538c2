/-! contracts over worlds: the state behind a method is its new world itself -/
def gc_B (D : va_G) (cl : List vw_C) (tys : List (ClassId × FieldType)) (w0 : va_W) (sz : Nat) (u : va_W) (t : State) : Prop := va_P D cl u t.heap ∧ va_K D cl tys t ∧ va_D (va_A w0 sz) u
def gc_P (D : va_G) (cl : List vw_C) (tys : List (ClassId × FieldType)) (w0 : va_W) (sz : Nat) (U : State) : Prop := U.heap.size = sz ∧ va_P D cl w0 U.heap ∧ va_K D cl tys U ∧ va_D (fun _ => True) w0 ∧ EV (va_A w0 sz) U
abbrev gc_Pc (D : va_G) (cl : List vw_C) (tys : List (ClassId × FieldType)) (av : List Value) (w0 : va_W) (sz : Nat) : Array Value → State → Prop := va_Pc av (gc_P D cl tys w0 sz)
abbrev gc_Qi (D : va_G) (cl : List vw_C) (tys : List (ClassId × FieldType)) (w0 : va_W) (post : Int32 → va_W → Prop) (sz : Nat) : Array Value → State → Outcome → State → Prop := va_Qi post (gc_B D cl tys w0 sz) (va_A w0 sz)
abbrev gc_Qv (D : va_G) (cl : List vw_C) (tys : List (ClassId × FieldType)) (w0 : va_W) (post : va_W → Prop) (sz : Nat) : Array Value → State → Outcome → State → Prop := va_Qv post (gc_B D cl tys w0 sz) (va_A w0 sz)
abbrev gc_Qr (D : va_G) (cl : List vw_C) (tys : List (ClassId × FieldType)) (w0 : va_W) (post : Nat → va_W → Prop) (sz : Nat) : Array Value → State → Outcome → State → Prop := va_Qr (fun u : Nat × va_W => post u.1 u.2) (fun u a t => a = u.1 ∧ gc_B D cl tys w0 sz u.2 t) (va_A w0 sz)
def GCi (l : Launch) (y : MethodName) (ws : List Cond) (rm : Room) (mc ms : Nat) (D : va_G) (cl : List vw_C) (tys : List (ClassId × FieldType)) (av : List Value) (w0 : va_W) (post : Int32 → va_W → Prop) : Prop :=
  ∀ sz : Nat, Met l y ws rm (gc_Pc D cl tys av w0 sz) (gc_Qi D cl tys w0 post sz) mc ms (va_A w0 sz)
def GCv (l : Launch) (y : MethodName) (ws : List Cond) (rm : Room) (mc ms : Nat) (D : va_G) (cl : List vw_C) (tys : List (ClassId × FieldType)) (av : List Value) (w0 : va_W) (post : va_W → Prop) : Prop :=
  ∀ sz : Nat, Met l y ws rm (gc_Pc D cl tys av w0 sz) (gc_Qv D cl tys w0 post sz) mc ms (va_A w0 sz)
def GCr (l : Launch) (y : MethodName) (ws : List Cond) (rm : Room) (mc ms : Nat) (D : va_G) (cl : List vw_C) (tys : List (ClassId × FieldType)) (av : List Value) (w0 : va_W) (post : Nat → va_W → Prop) : Prop :=
  ∀ sz : Nat, Met l y ws rm (gc_Pc D cl tys av w0 sz) (gc_Qr D cl tys w0 post sz) mc ms (va_A w0 sz)
/-- what a body has: the machine, its code, its words, its class, its tables -/
def GF (p : Program) (s : State) (m : MethodId) (args : Array Value) (meth : Method) (c : Code) (cc : ByteArray) (n : Nat) (ret : Option FieldType) (y : MethodName) (Ts : List Cond) (D : va_G) (cl : List vw_C) (tys : List (ClassId × FieldType)) (w0 : va_W) : Prop :=
  p.tables.exec = Jvm.exec ∧ c.code = cc ∧ c.maxLocals = n ∧ s.vm.findClass y.cls = some m.cls ∧ (∀ w ∈ Ts, w.before args s = true) ∧ meth.sig.returnType = ret ∧ meth.locks = false ∧ va_K D cl tys s ∧ meth.name = y.name ∧ EV (va_A w0 s.heap.size) s
theorem gc_blind {D : va_G} {cl : List vw_C} {tys : List (ClassId × FieldType)} {av : List Value} {w0 : va_W} {sz : Nat} : FrameBlind (gc_Pc D cl tys av w0 sz) := by
  intro a U g mk q
  obtain ⟨q0, q1, qP, qK, qD, qE⟩ := q
  exact ⟨q0, q1, qP, va_K.moved (u := U) (U := U.calling g mk a) (Vm.Alike.refl U.vm) qK, qD, EV.same (u := U) (U := U.calling g mk a) rfl rfl qE⟩
section GCB
variable {l : Launch} {y : MethodName} {ws ws' : List Cond} {rm : Room} {mc ms : Nat} {D : va_G} {cl : List vw_C} {tys : List (ClassId × FieldType)} {av : List Value} {w0 : va_W} {cc : ByteArray} {maxL : Nat} {ret : Option FieldType}
/-- the head of every body: from the entry to GJ -/
theorem gc_body {Qc : Nat → Array Value → State → Outcome → State → Prop} (hy : plainName y.cls = true) (hw : ws = Cond.code y cc maxL ret :: ws') (hv : ∀ v ∈ av, v.category = 1) (hl : (lg_sl av).length ≤ maxL)
    (body : ∀ (p : Program) (e : Env) (s : State) (m : MethodId) (args : Array Value) (below : List Frame) (meth : Method) (c : Code), GF p s m args meth c cc maxL ret y ws D cl tys w0 →
      GJ p l e (headSpec ws rm).room s m args below meth c D cl (va_A w0 s.heap.size) s.heap maxL (MQ below (Qc s.heap.size) args s mc ms (va_A w0 s.heap.size)) 0 0 w0 0 av []) (sz : Nat) :
    Met l y ws rm (gc_Pc D cl tys av w0 sz) (Qc sz) mc ms (va_A w0 sz) := by
  refine Met.ofW (cc := cc) (maxL := maxL) (ret := ret) hy hw ?_
  intro p e s m args below meth c s₁ B hml hv9
  obtain ⟨rfl, hsz, hP, hK, hD0, hE⟩ := hv9
  subst hsz
  rw [lg_entry_eq]
  exact body p e s m _ below meth c ⟨B.exec, B.bytes, hml, findClass_of_methodNamed B.named, atoms_spec (ws := ws) B.pre, B.returns, B.notSynchronized, hK, (name_of_methodNamed B.named B.method).1, hE⟩ _ _ _ (gl_entry av hv hl) hP (hD0.self (sz := s.heap.size)) va_S.rf
end GCB
section GCE
variable {p : Program} {l : Launch} {e : Env} {R : Room} {s : State} {m : MethodId} {args : Array Value} {below : List Frame} {meth : Method} {c : Code} {cells slots mc ms : Nat}
variable {D : va_G} {cl : List vw_C} {tys : List (ClassId × FieldType)} {n pc : Nat} {w w0 : va_W} {L : List Value} {cc : ByteArray} {y : MethodName} {Ts : List Cond} {ret : Option FieldType}
theorem gj_iret {post : Int32 → va_W → Prop} {v : Int32} (F : GF p s m args meth c cc n (some .int) y Ts D cl tys w0) (hd : decode cc pc = .ok (.ireturn, 1)) (hc : cells ≤ mc) (hs : slots ≤ ms) (hp : post v w) :
    GJ p l e R s m args below meth c D cl (va_A w0 s.heap.size) s.heap n (MQ below (gc_Qi D cl tys w0 post s.heap.size) args s mc ms (va_A w0 s.heap.size)) cells slots w pc L [.int v] := by
  intro ls H locs h1 h2 h3 h4
  obtain ⟨hx, hb, hml, hown, hts, hr, hlk, hK, hnm, hE⟩ := F
  refine W.widen hc hs ?_
  exact W.iret (v := v) hx hb hr (fun t ht hW => ⟨⟨v, w, rfl, hp, by rw [ht]; exact h2, va_K.moved hW.alike hK, h3⟩, h4.F ht⟩) h4.2.2 hd hlk
theorem gj_zret {post : Int32 → va_W → Prop} {v : Int32} (F : GF p s m args meth c cc n (some .boolean) y Ts D cl tys w0) (hd : decode cc pc = .ok (.ireturn, 1)) (hn : narrow .boolean (.int v) = .int v) (hc : cells ≤ mc) (hs : slots ≤ ms) (hp : post v w) :
    GJ p l e R s m args below meth c D cl (va_A w0 s.heap.size) s.heap n (MQ below (gc_Qi D cl tys w0 post s.heap.size) args s mc ms (va_A w0 s.heap.size)) cells slots w pc L [.int v] := by
  intro ls H locs h1 h2 h3 h4
  obtain ⟨hx, hb, hml, hown, hts, hr, hlk, hK, hnm, hE⟩ := F
  refine W.widen hc hs ?_
  exact W.zret (v := v) hx hb hr hn (fun t ht hW => ⟨⟨v, w, rfl, hp, by rw [ht]; exact h2, va_K.moved hW.alike hK, h3⟩, h4.F ht⟩) h4.2.2 hd hlk
theorem gj_vret {post : va_W → Prop} (F : GF p s m args meth c cc n none y Ts D cl tys w0) (hd : decode cc pc = .ok (.return_, 1)) (hc : cells ≤ mc) (hs : slots ≤ ms) (hp : post w) :
    GJ p l e R s m args below meth c D cl (va_A w0 s.heap.size) s.heap n (MQ below (gc_Qv D cl tys w0 post s.heap.size) args s mc ms (va_A w0 s.heap.size)) cells slots w pc L [] := by
  intro ls H locs h1 h2 h3 h4
  obtain ⟨hx, hb, hml, hown, hts, hr, hlk, hK, hnm, hE⟩ := F
  refine W.widen hc hs ?_
  exact W.vret hx hb hr (fun t ht hW => ⟨⟨w, rfl, hp, by rw [ht]; exact h2, va_K.moved hW.alike hK, h3⟩, h4.F ht⟩) h4.2.2 hd hlk
/-- behind a call: the callee's new world beside the rest -/
theorem gc_join {A0 : Nat → Prop} {wc wr w1 : va_W} {H H1 : Heap} (hP : va_P D cl (wc ++ wr) H) (hD : va_D A0 (wc ++ wr)) (hk : ∀ q : Nat, q < H.size → ¬ va_A wc H.size q → H1[q]? = H[q]?) (hF : ∀ q, va_A wc H.size q → A0 q) (hP1 : va_P D cl w1 H1) (hD1 : va_D (va_A wc H.size) w1) : va_P D cl (w1 ++ wr) H1 ∧ va_D A0 (w1 ++ wr) := by
  have inr : ∀ (k : Nat) (q : Nat × va_E), wr[k]? = some q → (wc ++ wr)[wc.length + k]? = some q := fun k q h => by
    rw [List.getElem?_append_right (by omega), Nat.add_sub_cancel_left]; exact h
  have inl : ∀ (k : Nat) (q : Nat × va_E), wc[k]? = some q → (wc ++ wr)[k]? = some q := fun k q h => by
    rw [List.getElem?_append_left (List.getElem?_eq_some_iff.mp h).1]; exact h
  have apart : ∀ (k : Nat) (q : Nat × va_E), wr[k]? = some q → q.1 < H.size ∧ ¬ va_A wc H.size q.1 := by
    intro k q hq
    have hl := (hP _ q (inr k q hq)).lt
    refine ⟨hl, fun h => ?_⟩
    rcases h with ⟨k2, e2, h⟩ | h
    · have hi := hD.1 _ _ q (q.1, e2) (inr k q hq) (inl k2 _ h) rfl
      have hk2 := (List.getElem?_eq_some_iff.mp h).1
      omega
    · omega
  have hDr : va_D A0 wr := ⟨fun i j x z hi hj hxz => by
    have := hD.1 _ _ x z (inr i x hi) (inr j z hj) hxz
    omega, fun k q hk9 => hD.2 _ q (inr k q hk9)⟩
  refine ⟨va_P.app hP1 (fun k q hq => ?_), va_D.app (hD1.weaken (fun k q _ h => hF q.1 h)) hDr (fun i j x z hx hz hxz => ?_)⟩
  · obtain ⟨g1, g2⟩ := apart k q hq
    exact (hP _ q (inr k q hq)).kept (hk q.1 g1 g2)
  · exact (apart j z hz).2 (by rw [← hxz]; exact hD1.2 i x hx)
theorem gc_fr {A0 : Nat → Prop} {wc wr : va_W} {H0 H : Heap} {locs : List Loc} (hD : va_D A0 (wc ++ wr)) (hS : va_S A0 H0 H locs) (hA : ∀ q, H0.size ≤ q → A0 q) : ∀ q, va_A wc H.size q → A0 q := by
  intro q h
  rcases h with ⟨k, e9, h⟩ | h
  · exact hD.2 k (q, e9) (by rw [List.getElem?_append_left (List.getElem?_eq_some_iff.mp h).1]; exact h)
  · exact hA q (Nat.le_trans hS.1 h)
theorem gc_left {wc wr : va_W} {H : Heap} (hP : va_P D cl (wc ++ wr) H) : va_P D cl wc H := fun k q h => hP k q (by rw [List.getElem?_append_left (List.getElem?_eq_some_iff.mp h).1]; exact h)
theorem gc_leftD {A0 : Nat → Prop} {wc wr : va_W} (hD : va_D A0 (wc ++ wr)) : va_D A0 wc := by
  have inl : ∀ (k : Nat) (q : Nat × va_E), wc[k]? = some q → (wc ++ wr)[k]? = some q := fun k q h => by
    rw [List.getElem?_append_left (List.getElem?_eq_some_iff.mp h).1]; exact h
  exact ⟨fun i j x z hi hj hxz => hD.1 i j x z (inl i x hi) (inl j z hj) hxz, fun k q h => hD.2 k q (inl k q h)⟩
/-- what a call asks: the callee's start, at any heap that holds its world -/
def gc_pre (s : State) (D : va_G) (cl : List vw_C) (tys : List (ClassId × FieldType)) (av : List Value) (wc : va_W) (H : Heap) : Prop := FrameBlind (gc_Pc D cl tys av wc H.size) ∧ ∀ U : State, U.heap = H → s.WarmedH U.vm → gc_Pc D cl tys av wc H.size av.toArray U
theorem gc_pre_of {A0 : Nat → Prop} {av : List Value} {wc wr : va_W} {H : Heap} {locs : List Loc} (hK : va_K D cl tys s) (hE : EV A0 s) (hA : ∀ q, s.heap.size ≤ q → A0 q) (hP : va_P D cl (wc ++ wr) H) (hD : va_D A0 (wc ++ wr)) (hS : va_S A0 s.heap H locs) : gc_pre s D cl tys av wc H :=
  ⟨gc_blind, fun U hU hW => ⟨rfl, by rw [hU], by rw [hU]; exact gc_left hP, va_K.moved hW.alike hK, (gc_leftD hD).weaken (fun _ _ _ _ => trivial), hE.go hS (gc_fr hD hS hA) hU hW⟩⟩
variable {A : Nat → Prop} {Q : State → Prop} {st rest av : List Value} {wc wr : va_W}
theorem gj_calli {post : Int32 → va_W → Prop} (hK : va_K D cl tys s) (hE : EV A s) (hA : ∀ q, s.heap.size ≤ q → A q)
    (run : ∀ (ls : Array Slot) (H : Heap) (locs : List Loc), ls.size = n → gc_pre s D cl tys av wc H → va_P D cl (wc ++ wr) H → va_Run p l e R s m args below meth c H locs cells slots mc ms (F0 m pc ls st) rest (gc_Qi D cl tys wc post H.size av.toArray) (va_A wc H.size))
    (k : ∀ (r : Int32) (u : va_W), post r u → GJ p l e R s m args below meth c D cl A s.heap n Q (cells + mc) (slots + ms) (u ++ wr) (pc + 3) L (.int r :: rest)) :
    GJ p l e R s m args below meth c D cl A s.heap n Q cells slots (wc ++ wr) pc L st := by
  intro ls H locs h1 h2 h3 h4
  have hF := gc_fr h3 h4 hA
  refine va_calli (run ls H locs h1.1 (gc_pre_of hK hE hA h2 h3 h4) h2) h4 (fun q _ h => hF q h) hF (fun r u t H1 locs1 ht hvm hp hB hz hk hS => ?_)
  obtain ⟨hP1, -, hD1⟩ := hB
  rw [ht] at hP1
  obtain ⟨g1, g2⟩ := gc_join h2 h3 hk hF hP1 hD1
  exact k r u hp ls H1 locs1 h1 g1 g2 hS
theorem gj_callv {post : va_W → Prop} (hK : va_K D cl tys s) (hE : EV A s) (hA : ∀ q, s.heap.size ≤ q → A q)
    (run : ∀ (ls : Array Slot) (H : Heap) (locs : List Loc), ls.size = n → gc_pre s D cl tys av wc H → va_P D cl (wc ++ wr) H → va_Run p l e R s m args below meth c H locs cells slots mc ms (F0 m pc ls st) rest (gc_Qv D cl tys wc post H.size av.toArray) (va_A wc H.size))
    (k : ∀ (u : va_W), post u → GJ p l e R s m args below meth c D cl A s.heap n Q (cells + mc) (slots + ms) (u ++ wr) (pc + 3) L rest) :
    GJ p l e R s m args below meth c D cl A s.heap n Q cells slots (wc ++ wr) pc L st := by
  intro ls H locs h1 h2 h3 h4
  have hF := gc_fr h3 h4 hA
  refine va_callv (run ls H locs h1.1 (gc_pre_of hK hE hA h2 h3 h4) h2) h4 (fun q _ h => hF q h) hF (fun u t H1 locs1 ht hvm hp hB hz hk hS => ?_)
  obtain ⟨hP1, -, hD1⟩ := hB
  rw [ht] at hP1
  obtain ⟨g1, g2⟩ := gc_join h2 h3 hk hF hP1 hD1
  exact k u hp ls H1 locs1 h1 g1 g2 hS
theorem gj_callr {post : Nat → va_W → Prop} (hK : va_K D cl tys s) (hE : EV A s) (hA : ∀ q, s.heap.size ≤ q → A q)
    (run : ∀ (ls : Array Slot) (H : Heap) (locs : List Loc), ls.size = n → gc_pre s D cl tys av wc H → va_P D cl (wc ++ wr) H → va_Run p l e R s m args below meth c H locs cells slots mc ms (F0 m pc ls st) rest (gc_Qr D cl tys wc post H.size av.toArray) (va_A wc H.size))
    (k : ∀ (r : Nat) (u : va_W), post r u → GJ p l e R s m args below meth c D cl A s.heap n Q (cells + mc) (slots + ms) (u ++ wr) (pc + 3) L (.ref r :: rest)) :
    GJ p l e R s m args below meth c D cl A s.heap n Q cells slots (wc ++ wr) pc L st := by
  intro ls H locs h1 h2 h3 h4
  have hF := gc_fr h3 h4 hA
  refine va_callr (run ls H locs h1.1 (gc_pre_of hK hE hA h2 h3 h4) h2) h4 (fun q _ h => hF q h) hF (fun u ra t H1 locs1 ht hvm hp hB hz hk hS => ?_)
  obtain ⟨u1, u2⟩ := u
  obtain ⟨rfl, hP1, -, hD1⟩ := hB
  rw [ht] at hP1
  obtain ⟨g1, g2⟩ := gc_join h2 h3 hk hF hP1 hD1
  exact k _ u2 hp ls H1 locs1 h1 g1 g2 hS
/-- two parts of a world change places -/
theorem gj_swap {w1 w2 : va_W} (k : GJ p l e R s m args below meth c D cl A s.heap n Q cells slots (w2 ++ w1) pc L st) : GJ p l e R s m args below meth c D cl A s.heap n Q cells slots (w1 ++ w2) pc L st := by
  intro ls H locs h1 h2 h3 h4
  have e1 : va_P D cl (([] ++ w1) ++ w2) H := h2
  have e2 : va_D A (([] ++ w1) ++ w2) := h3
  exact k ls H locs h1 e1.swap e2.swap h4
end GCE
