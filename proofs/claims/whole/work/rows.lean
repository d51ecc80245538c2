section
-- ===== PART A: goes FIRST, ahead of the names: the tables' words, and 'selects' of the private methods out of them =====
/-- a private method of a class that the tables say can be made, by its rows of tables_1 -/
def lw_okq (q : MethodName × Nat) : Prop := (q.1.cls ≠ "java/lang/invoke/MethodHandle" ∧ q.1.cls ≠ "java/lang/invoke/VarHandle") ∧ Cond.instantiable q.1.cls q.2 ∈ tables_1 ∧ Cond.privateMethod q.1 ∈ tables_1 ∧ Cond.instanceMethod q.1 ∈ tables_1
theorem lw_p0 : lw_okq (⟨"BlockRows$Block", "isKept", "()Z"⟩, 4) := ⟨⟨by decide +kernel, by decide +kernel⟩, List.mem_of_getElem? (i := 20) (by decide +kernel), List.mem_of_getElem? (i := 85) (by decide +kernel), List.mem_of_getElem? (i := 86) (by decide +kernel)⟩
theorem lw_p1 : lw_okq (⟨"BlockRows", "throwOut", "(LBlockRows$Block;)V"⟩, 12) := ⟨⟨by decide +kernel, by decide +kernel⟩, List.mem_of_getElem? (i := 11) (by decide +kernel), List.mem_of_getElem? (i := 89) (by decide +kernel), List.mem_of_getElem? (i := 90) (by decide +kernel)⟩
theorem lw_p2 : lw_okq (⟨"BlockRows$Block", "empty", "(I)V"⟩, 4) := ⟨⟨by decide +kernel, by decide +kernel⟩, List.mem_of_getElem? (i := 20) (by decide +kernel), List.mem_of_getElem? (i := 93) (by decide +kernel), List.mem_of_getElem? (i := 94) (by decide +kernel)⟩
theorem lw_p3 : lw_okq (⟨"BlockRows", "keptNow", "()I"⟩, 12) := ⟨⟨by decide +kernel, by decide +kernel⟩, List.mem_of_getElem? (i := 11) (by decide +kernel), List.mem_of_getElem? (i := 101) (by decide +kernel), List.mem_of_getElem? (i := 102) (by decide +kernel)⟩
theorem lw_p4 : lw_okq (⟨"java/lang/Throwable", "fillInStackTrace", "(I)Ljava/lang/Throwable;"⟩, 6) := ⟨⟨by decide +kernel, by decide +kernel⟩, List.mem_of_getElem? (i := 154) (by decide +kernel), List.mem_of_getElem? (i := 152) (by decide +kernel), List.mem_of_getElem? (i := 153) (by decide +kernel)⟩
theorem lw_p5 : lw_okq (⟨"BlockRows", "write", "(II)V"⟩, 12) := ⟨⟨by decide +kernel, by decide +kernel⟩, List.mem_of_getElem? (i := 11) (by decide +kernel), List.mem_of_getElem? (i := 200) (by decide +kernel), List.mem_of_getElem? (i := 201) (by decide +kernel)⟩
theorem lw_p6 : lw_okq (⟨"BlockRows$Block", "hasByte", "(I)Z"⟩, 4) := ⟨⟨by decide +kernel, by decide +kernel⟩, List.mem_of_getElem? (i := 20) (by decide +kernel), List.mem_of_getElem? (i := 204) (by decide +kernel), List.mem_of_getElem? (i := 205) (by decide +kernel)⟩
theorem lw_p7 : lw_okq (⟨"BlockRows", "doBlock", "(I)I"⟩, 12) := ⟨⟨by decide +kernel, by decide +kernel⟩, List.mem_of_getElem? (i := 11) (by decide +kernel), List.mem_of_getElem? (i := 243) (by decide +kernel), List.mem_of_getElem? (i := 244) (by decide +kernel)⟩
theorem lw_p8 : lw_okq (⟨"BlockRows", "blockAt", "(I)LBlockRows$Block;"⟩, 12) := ⟨⟨by decide +kernel, by decide +kernel⟩, List.mem_of_getElem? (i := 11) (by decide +kernel), List.mem_of_getElem? (i := 247) (by decide +kernel), List.mem_of_getElem? (i := 248) (by decide +kernel)⟩
theorem lw_p9 : lw_okq (⟨"BlockRows$Block", "beginsAt", "(I)Z"⟩, 4) := ⟨⟨by decide +kernel, by decide +kernel⟩, List.mem_of_getElem? (i := 20) (by decide +kernel), List.mem_of_getElem? (i := 251) (by decide +kernel), List.mem_of_getElem? (i := 252) (by decide +kernel)⟩
theorem lw_p10 : lw_okq (⟨"BlockRows", "decode", "(LBlockRows$Block;I)V"⟩, 12) := ⟨⟨by decide +kernel, by decide +kernel⟩, List.mem_of_getElem? (i := 11) (by decide +kernel), List.mem_of_getElem? (i := 255) (by decide +kernel), List.mem_of_getElem? (i := 256) (by decide +kernel)⟩
theorem lw_p11 : lw_okq (⟨"BlockRows", "wordAt", "(I)I"⟩, 12) := ⟨⟨by decide +kernel, by decide +kernel⟩, List.mem_of_getElem? (i := 11) (by decide +kernel), List.mem_of_getElem? (i := 259) (by decide +kernel), List.mem_of_getElem? (i := 260) (by decide +kernel)⟩
theorem lw_p12 : lw_okq (⟨"BlockRows", "doWord", "(I)Z"⟩, 12) := ⟨⟨by decide +kernel, by decide +kernel⟩, List.mem_of_getElem? (i := 11) (by decide +kernel), List.mem_of_getElem? (i := 273) (by decide +kernel), List.mem_of_getElem? (i := 274) (by decide +kernel)⟩
theorem lw_p13 : lw_okq (⟨"BlockRows", "stateBefore", "(II)I"⟩, 12) := ⟨⟨by decide +kernel, by decide +kernel⟩, List.mem_of_getElem? (i := 11) (by decide +kernel), List.mem_of_getElem? (i := 277) (by decide +kernel), List.mem_of_getElem? (i := 278) (by decide +kernel)⟩
theorem lw_p14 : lw_okq (⟨"BlockRows", "perform", "(III)V"⟩, 12) := ⟨⟨by decide +kernel, by decide +kernel⟩, List.mem_of_getElem? (i := 11) (by decide +kernel), List.mem_of_getElem? (i := 281) (by decide +kernel), List.mem_of_getElem? (i := 282) (by decide +kernel)⟩
theorem lw_p15 : lw_okq (⟨"BlockRows", "holds", "(I)Z"⟩, 12) := ⟨⟨by decide +kernel, by decide +kernel⟩, List.mem_of_getElem? (i := 11) (by decide +kernel), List.mem_of_getElem? (i := 288) (by decide +kernel), List.mem_of_getElem? (i := 289) (by decide +kernel)⟩
def lw_privs_1 : List (MethodName × Nat) := [(⟨"BlockRows$Block", "isKept", "()Z"⟩, 4), (⟨"BlockRows", "throwOut", "(LBlockRows$Block;)V"⟩, 12), (⟨"BlockRows$Block", "empty", "(I)V"⟩, 4), (⟨"BlockRows", "keptNow", "()I"⟩, 12), (⟨"java/lang/Throwable", "fillInStackTrace", "(I)Ljava/lang/Throwable;"⟩, 6), (⟨"BlockRows", "write", "(II)V"⟩, 12), (⟨"BlockRows$Block", "hasByte", "(I)Z"⟩, 4), (⟨"BlockRows", "doBlock", "(I)I"⟩, 12), (⟨"BlockRows", "blockAt", "(I)LBlockRows$Block;"⟩, 12), (⟨"BlockRows$Block", "beginsAt", "(I)Z"⟩, 4), (⟨"BlockRows", "decode", "(LBlockRows$Block;I)V"⟩, 12), (⟨"BlockRows", "wordAt", "(I)I"⟩, 12), (⟨"BlockRows", "doWord", "(I)Z"⟩, 12), (⟨"BlockRows", "stateBefore", "(II)I"⟩, 12), (⟨"BlockRows", "perform", "(III)V"⟩, 12), (⟨"BlockRows", "holds", "(I)Z"⟩, 12)]
theorem lw_r1 : ∀ q ∈ lw_privs_1, lw_okq q := List.forall_mem_cons.mpr ⟨lw_p0, List.forall_mem_cons.mpr ⟨lw_p1, List.forall_mem_cons.mpr ⟨lw_p2, List.forall_mem_cons.mpr ⟨lw_p3, List.forall_mem_cons.mpr ⟨lw_p4, List.forall_mem_cons.mpr ⟨lw_p5, List.forall_mem_cons.mpr ⟨lw_p6, List.forall_mem_cons.mpr ⟨lw_p7, List.forall_mem_cons.mpr ⟨lw_p8, List.forall_mem_cons.mpr ⟨lw_p9, List.forall_mem_cons.mpr ⟨lw_p10, List.forall_mem_cons.mpr ⟨lw_p11, List.forall_mem_cons.mpr ⟨lw_p12, List.forall_mem_cons.mpr ⟨lw_p13, List.forall_mem_cons.mpr ⟨lw_p14, List.forall_mem_cons.mpr ⟨lw_p15, fun _ h => absurd h List.not_mem_nil⟩⟩⟩⟩⟩⟩⟩⟩⟩⟩⟩⟩⟩⟩⟩⟩
theorem lw_p16 : lw_okq (⟨"BlockRows", "isZero", "()Z"⟩, 12) := ⟨⟨by decide +kernel, by decide +kernel⟩, List.mem_of_getElem? (i := 11) (by decide +kernel), List.mem_of_getElem? (i := 292) (by decide +kernel), List.mem_of_getElem? (i := 293) (by decide +kernel)⟩
theorem lw_p17 : lw_okq (⟨"BlockRows", "isBelow", "()Z"⟩, 12) := ⟨⟨by decide +kernel, by decide +kernel⟩, List.mem_of_getElem? (i := 11) (by decide +kernel), List.mem_of_getElem? (i := 296) (by decide +kernel), List.mem_of_getElem? (i := 297) (by decide +kernel)⟩
theorem lw_p18 : lw_okq (⟨"BlockRowsModel", "throwing", "(ZZ)Z"⟩, 19) := ⟨⟨by decide +kernel, by decide +kernel⟩, List.mem_of_getElem? (i := 325) (by decide +kernel), List.mem_of_getElem? (i := 404) (by decide +kernel), List.mem_of_getElem? (i := 405) (by decide +kernel)⟩
theorem lw_p19 : lw_okq (⟨"BlockRowsModel", "write", "(II)V"⟩, 19) := ⟨⟨by decide +kernel, by decide +kernel⟩, List.mem_of_getElem? (i := 325) (by decide +kernel), List.mem_of_getElem? (i := 408) (by decide +kernel), List.mem_of_getElem? (i := 409) (by decide +kernel)⟩
theorem lw_p20 : lw_okq (⟨"BlockRowsModel", "throwOut", "(I)V"⟩, 19) := ⟨⟨by decide +kernel, by decide +kernel⟩, List.mem_of_getElem? (i := 325) (by decide +kernel), List.mem_of_getElem? (i := 412) (by decide +kernel), List.mem_of_getElem? (i := 413) (by decide +kernel)⟩
theorem lw_p21 : lw_okq (⟨"BlockRowsModel", "find", "()V"⟩, 19) := ⟨⟨by decide +kernel, by decide +kernel⟩, List.mem_of_getElem? (i := 325) (by decide +kernel), List.mem_of_getElem? (i := 432) (by decide +kernel), List.mem_of_getElem? (i := 433) (by decide +kernel)⟩
theorem lw_p22 : lw_okq (⟨"BlockRowsModel", "make", "(I)V"⟩, 19) := ⟨⟨by decide +kernel, by decide +kernel⟩, List.mem_of_getElem? (i := 325) (by decide +kernel), List.mem_of_getElem? (i := 436) (by decide +kernel), List.mem_of_getElem? (i := 437) (by decide +kernel)⟩
theorem lw_p23 : lw_okq (⟨"BlockRowsModel", "kindAt", "(I)I"⟩, 19) := ⟨⟨by decide +kernel, by decide +kernel⟩, List.mem_of_getElem? (i := 325) (by decide +kernel), List.mem_of_getElem? (i := 440) (by decide +kernel), List.mem_of_getElem? (i := 441) (by decide +kernel)⟩
theorem lw_p24 : lw_okq (⟨"BlockRowsModel", "faultAt", "(I)I"⟩, 19) := ⟨⟨by decide +kernel, by decide +kernel⟩, List.mem_of_getElem? (i := 325) (by decide +kernel), List.mem_of_getElem? (i := 444) (by decide +kernel), List.mem_of_getElem? (i := 445) (by decide +kernel)⟩
theorem lw_p25 : lw_okq (⟨"BlockRowsModel", "does", "()Z"⟩, 19) := ⟨⟨by decide +kernel, by decide +kernel⟩, List.mem_of_getElem? (i := 325) (by decide +kernel), List.mem_of_getElem? (i := 451) (by decide +kernel), List.mem_of_getElem? (i := 452) (by decide +kernel)⟩
theorem lw_p26 : lw_okq (⟨"BlockRowsModel", "fault", "(I)V"⟩, 19) := ⟨⟨by decide +kernel, by decide +kernel⟩, List.mem_of_getElem? (i := 325) (by decide +kernel), List.mem_of_getElem? (i := 455) (by decide +kernel), List.mem_of_getElem? (i := 456) (by decide +kernel)⟩
theorem lw_p27 : lw_okq (⟨"BlockRowsModel", "holds", "(I)Z"⟩, 19) := ⟨⟨by decide +kernel, by decide +kernel⟩, List.mem_of_getElem? (i := 325) (by decide +kernel), List.mem_of_getElem? (i := 459) (by decide +kernel), List.mem_of_getElem? (i := 460) (by decide +kernel)⟩
theorem lw_p28 : lw_okq (⟨"BlockRowsModel", "work", "(IIII)V"⟩, 19) := ⟨⟨by decide +kernel, by decide +kernel⟩, List.mem_of_getElem? (i := 325) (by decide +kernel), List.mem_of_getElem? (i := 463) (by decide +kernel), List.mem_of_getElem? (i := 464) (by decide +kernel)⟩
theorem lw_p29 : lw_okq (⟨"BlockRowsModel", "become", "(II)V"⟩, 19) := ⟨⟨by decide +kernel, by decide +kernel⟩, List.mem_of_getElem? (i := 325) (by decide +kernel), List.mem_of_getElem? (i := 467) (by decide +kernel), List.mem_of_getElem? (i := 468) (by decide +kernel)⟩
def lw_privs_2 : List (MethodName × Nat) := [(⟨"BlockRows", "isZero", "()Z"⟩, 12), (⟨"BlockRows", "isBelow", "()Z"⟩, 12), (⟨"BlockRowsModel", "throwing", "(ZZ)Z"⟩, 19), (⟨"BlockRowsModel", "write", "(II)V"⟩, 19), (⟨"BlockRowsModel", "throwOut", "(I)V"⟩, 19), (⟨"BlockRowsModel", "find", "()V"⟩, 19), (⟨"BlockRowsModel", "make", "(I)V"⟩, 19), (⟨"BlockRowsModel", "kindAt", "(I)I"⟩, 19), (⟨"BlockRowsModel", "faultAt", "(I)I"⟩, 19), (⟨"BlockRowsModel", "does", "()Z"⟩, 19), (⟨"BlockRowsModel", "fault", "(I)V"⟩, 19), (⟨"BlockRowsModel", "holds", "(I)Z"⟩, 19), (⟨"BlockRowsModel", "work", "(IIII)V"⟩, 19), (⟨"BlockRowsModel", "become", "(II)V"⟩, 19)]
theorem lw_r2 : ∀ q ∈ lw_privs_2, lw_okq q := List.forall_mem_cons.mpr ⟨lw_p16, List.forall_mem_cons.mpr ⟨lw_p17, List.forall_mem_cons.mpr ⟨lw_p18, List.forall_mem_cons.mpr ⟨lw_p19, List.forall_mem_cons.mpr ⟨lw_p20, List.forall_mem_cons.mpr ⟨lw_p21, List.forall_mem_cons.mpr ⟨lw_p22, List.forall_mem_cons.mpr ⟨lw_p23, List.forall_mem_cons.mpr ⟨lw_p24, List.forall_mem_cons.mpr ⟨lw_p25, List.forall_mem_cons.mpr ⟨lw_p26, List.forall_mem_cons.mpr ⟨lw_p27, List.forall_mem_cons.mpr ⟨lw_p28, List.forall_mem_cons.mpr ⟨lw_p29, fun _ h => absurd h List.not_mem_nil⟩⟩⟩⟩⟩⟩⟩⟩⟩⟩⟩⟩⟩⟩
def lw_privs : List (MethodName × Nat) := lw_privs_1 ++ (lw_privs_2)
def lw_tbl : List Cond := k2_sels lw_privs ++ tables_1
theorem lw_privs_ok : ∀ q ∈ lw_privs, lw_okq q := by
  show ∀ q ∈ lw_privs_1 ++ (lw_privs_2), lw_okq q
  exact List.forall_mem_append.mpr ⟨lw_r1, lw_r2⟩
-- ===== end of PART A; then your names; then what follows =====
end
section
/-! ===== BEGIN words of one list among another's, by their places ===== -/
theorem goodIn_r {big : List Cond} (ws : List Cond) (ps : List Nat) (hp : ws = ps.filterMap (fun i => big[i]?)) (h : ws.all goodWord = true) : GoodIn big ws := by
  intro w hw
  have h1 := List.all_eq_true.mp h w hw
  rw [hp] at hw
  obtain ⟨i, -, hi⟩ := List.mem_filterMap.mp hw
  have hm : w ∈ big := by first | exact List.mem_of_getElem? hi | exact List.getElem?_mem hi
  exact ⟨hm, good_of_word h1⟩
theorem goodIn_app {big a b : List Cond} (ha : GoodIn big a) (hb : GoodIn big b) : GoodIn big (a ++ b) := fun w h => (List.mem_append.mp h).elim (ha w) (hb w)
theorem goodIn_ca {big a b : List Cond} {c : Cond} (ha : GoodIn big (c :: a)) (hb : GoodIn big b) : GoodIn big (c :: (a ++ b)) := fun w h => (List.mem_cons.mp h).elim (fun e => ha w (List.mem_cons.mpr (Or.inl e))) (fun h => (List.mem_append.mp h).elim (fun h => ha w (List.mem_cons.mpr (Or.inr h))) (hb w))
theorem goodIn_sub {big ws : List Cond} (hm : ∀ w ∈ ws, w ∈ big) (h : ws.all goodWord = true) : GoodIn big ws := fun w hw => ⟨hm w hw, good_of_word (List.all_eq_true.mp h w hw)⟩
/-! ===== END ===== -/

/-! ===== BEGIN exceptions that leave a method, and their catching by the caller (launches without stack traces) ===== -/
section VXA
/-! The laws vx_back, vx_callV, vx_callS, vx_callSW, vx_throw0, vx_throwS follow proofs of the library, with one case more: JvmDerived/Free/Laws.lean (Back.of_free), Shelf42/LK1.lean (callV, callS), Shelf/KitTraced.lean (throwNew0V, throwNewS). -/
/-- where a method has thrown q: the class by its name, the cell, what was written, the world -/
def vx_T (XC : String → State → State → Prop) (st : State) (q : Addr) (t : State) (mc ms : Nat) (free : Addr → Prop) : Prop :=
  ∃ (E : String) (ce : Cell) (L : List Loc), XC E st t ∧ t.heap[q]? = some ce ∧ ce.vm = .none ∧ st.vm.findClass E = some ce.cls ∧ st.WarmedH t.vm ∧ st.sameButNew ({ t with vm := st.vm } : State) L mc ms ∧ ∀ z ∈ L, free z.base
def vx_Q (Qc : Array Value → State → Outcome → State → Prop) (XC : String → State → State → Prop) (mc ms : Nat) (free : Addr → Prop) : Array Value → State → Outcome → State → Prop := fun a st o t =>
  (Qc a st o t ∧ ∃ L, FrameEnd st o t L mc ms ∧ ∀ q ∈ L, free q.base) ∨ ∃ q, o = .threw q ∧ vx_T XC st q t mc ms free
/-- a callee that returns or throws -/
def vx_Met (l : Launch) (y : MethodName) (ws : List Cond) (rm : Room) (Pc : Array Value → State → Prop) (Qc : Array Value → State → Outcome → State → Prop) (XC : String → State → State → Prop) (mc ms : Nat) (free : Addr → Prop) : Prop :=
  MetFree l y (headSpec ws rm) Pc (fun _ _ _ _ _ => True) (vx_Q Qc XC mc ms free)
def vx_Post (XC : String → State → State → Prop) (mc ms : Nat) (free : Addr → Prop) : Pt → Array Value → Addr → Pt → Prop := fun A a q B =>
  ∃ (g : JFrame) (mk : MethodId) (t : State) (L : List Loc) (E : String) (ce : Cell), B.U.heap = t.heap ∧ B.U.vm = t.vm ∧ XC E (A.U.calling g mk a) t ∧ t.heap[q]? = some ce ∧ ce.vm = .none ∧ A.U.vm.findClass E = some ce.cls ∧ B.locs = A.locs ++ L ∧ (∀ z ∈ L, free z.base) ∧ B.cells = A.cells + mc ∧ B.slots = A.slots + ms
def vx_Back (l : Launch) (R : Room) (p : Program) (e : Env) (below : List Frame) (s : State) (sargs : Array Value) (y : MethodName) (len W9 : Nat)
    (Pre : Pt → Array Value → Prop) (Post : Pt → Array Value → Option Value → Pt → Prop) (PostX : Pt → Array Value → Addr → Pt → Prop) : Prop :=
  ∀ (m : MethodId) (meth : Method) (c : Code) (A : Pt) (g : JFrame) (ig : Instr) (mk : MethodId) (a : Array Value),
    Stand p l e R s m sargs below meth c A.U A.locs A.cells A.slots → g.method = m → g.locals.size = c.maxLocals → decode c.code g.pc = .ok (ig, len) →
    2 * g.monitorRoom + (g.stack.map fun v => v.category).sum ≤ W9 → A.U.methodNamed? y = some mk → Pre A a →
    (∃ (v : Option Value) (B : Pt), Stand p l e R s m sargs below meth c B.U B.locs B.cells B.slots ∧ Post A a v B ∧
      Steps p.tables e below (doInvoke e (A.U.setTop g) [] mk a).1 (B.U.setTop { g with pc := g.pc + len, stack := v.toList ++ g.stack })) ∨
    (∃ (q : Addr) (B : Pt), Stand p l e R s m sargs below meth c B.U B.locs B.cells B.slots ∧ PostX A a q B ∧
      Steps p.tables e below (doInvoke e (A.U.setTop g) [] mk a).1 ((B.U.setTop g).pushFrame (.throwing q)))
section Payer
variable {l : Launch} {R : Room} {p : Program} {e : Env} {below : List Frame} {s : State} {sargs : Array Value} {y : MethodName} {len W9 : Nat}
theorem vx_back {ws : List Cond} {rm : Room} {Pc : Array Value → State → Prop} {Qc : Array Value → State → Outcome → State → Prop} {XC : String → State → State → Prop} {mc ms : Nat} {free : Addr → Prop} {bytes : ByteArray} {maxL : Nat} {ret : Option FieldType}
    (hM : vx_Met l y ws rm Pc Qc XC mc ms free) (hblind : FrameBlind Pc) (hrc : rm.cells = mc) (hrs : rm.slots = ms)
    (hframes : rm.frames + 1 ≤ R.frames) (hlocals : W9 + (maxL + 11) + rm.locals ≤ R.locals)
    (hws : ∀ w ∈ ws, ∀ a' U, s.WarmedH U.vm → w.before a' U = true) (hcode : Cond.code y bytes maxL ret ∈ ws) (hinit : ∀ a' U, s.WarmedH U.vm → (Cond.initialized y.cls).before a' U = true) :
    vx_Back l R p e below s sargs y len W9 (PreOf R mc ms Pc) (PostOf Qc mc ms free) (vx_Post XC mc ms free) := by
  intro m meth c A g ig mk a X hg hsize hdg hW hn hp
  have h1 : (headSpec ws rm).pre.before a A.U = true := atoms_intro fun w hw => hws w hw _ _ X.warmed
  have h2 : (Cond.code y bytes maxL ret).before a A.U = true := hws _ hcode _ _ X.warmed
  have h3 : (Cond.initialized y.cls).before a A.U = true := hinit _ _ X.warmed
  have h4 : A.cells + (headSpec ws rm).room.cells ≤ R.cells := by rw [show (headSpec ws rm).room.cells = mc from hrc]; exact hp.1
  have h5 : A.slots + (headSpec ws rm).room.slots ≤ R.slots := by rw [show (headSpec ws rm).room.slots = ms from hrs]; exact hp.2.1
  have hPc : Pc a (A.U.calling g mk a) := hblind _ _ _ _ hp.2.2
  obtain ⟨U, Ls, c0, s0⟩ := A
  dsimp only [Pt.U, Pt.locs, Pt.cells, Pt.slots] at h1 h2 h3 h4 h5 X hn hPc ⊢
  obtain ⟨methY, cY, hmY, hcY, -, hlY, -, -, -, -⟩ := Cond.code_spec hn h2
  obtain ⟨kY, hkY, -⟩ := className_of_methodNamed hn
  have hinitY : kY.init = .initialized := Cond.initialized_spec (findClass_of_methodNamed hn) hkY h3
  have h : At U g.method c below := by rw [hg]; exact X.here
  have hlocals9 : W9 + (maxL + 11) + (headSpec ws rm).room.locals ≤ R.locals := hlocals
  have happ : (headSpec ws rm).appliesLoose y e.platform (U.calling g mk a) = true :=
    Spec.appliesLoose_calling (g := g) h hdg hn hkY hinitY
      (X.room_calling (g := g) (R' := (headSpec ws rm).room) hsize hmY hcY hframes (by rw [hlY]; omega) h4 h5) h1
  obtain ⟨mid, hmid⟩ := h.above
  have hfr : (U.setTop g).frames = (.java g :: mid) ++ below := by rw [State.frames_setTop' g h.top, hmid]; rfl
  obtain ⟨o, s₂, hsteps, -, hend, hq⟩ := Steps.callFree hM p X.admits X.cas X.clock (acts := []) hfr happ hPc trivial
  have hq' : vx_Q Qc XC mc ms free a (U.calling g mk a) o s₂ := hq
  rw [State.frames_setTop' g h.top] at hend
  obtain ⟨g₀, hg0⟩ := Option.isSome_iff_exists.mp h.top
  obtain ⟨r, hr⟩ := State.topJava?_eq_some.mp hg0
  have hr' : (({ U with heap := s₂.heap, slotsUsed := s₂.slotsUsed } : State).setVm s₂.vm).frames = .java g₀ :: r := hr
  rcases hq' with ⟨hqc, L, hfe, hL⟩ | ⟨q, rfl, E, ce, L, hx, hce, hcv, hcl, hW₂, hsm, hL⟩
  · obtain ⟨⟨v, rfl⟩, hW₂, e2, q2, q3, q4, q5, q6⟩ := id hfe
    have e3 : s₂ = ({ (U.calling g mk a).setFrames s₂.frames with heap := s₂.heap, slotsUsed := s₂.slotsUsed } : State).setVm s₂.vm := by
      have : s₂ = ({ s₂ with vm := (U.calling g mk a).vm } : State).setVm s₂.vm := rfl
      rw [e2] at this
      exact this
    obtain ⟨c₂, i₂, len₂, hc₂, hd₂, hf₂⟩ := hend
    have hW' : U.WarmedH s₂.vm := hW₂
    have hcc : c₂ = c := by
      have h1 : s₂.code? g.method = U.code? g.method := by
        rw [State.code?_eq, State.code?_eq, hW'.alike.method?]
      exact Option.some.inj (hc₂.symm.trans (h1.trans h.code))
    subst hcc
    have hlen : len₂ = len := by rw [hdg] at hd₂; cases hd₂; rfl
    subst hlen
    have hs₂ : s₂ = (({ U with heap := s₂.heap, slotsUsed := s₂.slotsUsed } : State).setVm s₂.vm).setTop { g with pc := g.pc + len₂, stack := v.toList ++ g.stack } := by
      refine e3.trans ?_
      rw [hf₂, State.calling_eq h.top, State.setFrames_setFrames, State.setTop_of_frames _ hr', hr]
      rfl
    have hsame : U.sameButNew ({ U with heap := s₂.heap, slotsUsed := s₂.slotsUsed } : State) L mc ms := by
      refine ⟨?_, q2, q3, q4, q5, q6⟩
      obtain ⟨t, ht, -⟩ := State.frames_cons hr
      show ({ U with heap := s₂.heap, slotsUsed := s₂.slotsUsed } : State) = { U.setFrames U.frames with heap := s₂.heap, slotsUsed := s₂.slotsUsed }
      rw [State.setFrames_self ht]
    subst hg
    refine Or.inl ⟨v, ⟨(({ U with heap := s₂.heap, slotsUsed := s₂.slotsUsed } : State).setVm s₂.vm), Ls ++ L, c0 + mc, s0 + ms⟩,
      ⟨X.admits, X.cas, X.clock, X.frames, X.room, X.hears, X.method, X.code, (X.here.setHeapUsed s₂.heap s₂.slotsUsed).setVm hW'.alike, X.tail, State.WarmedH.trans X.warmed hW', X.limits, X.bytes, X.same.trans (hsame.setVm s.vm)⟩,
      ⟨g, mk, s₂, L, rfl, rfl, hqc, rfl, hL, rfl, rfl⟩, ?_⟩
    show Steps p.tables e below _ ((({ U with heap := s₂.heap, slotsUsed := s₂.slotsUsed } : State).setVm s₂.vm).setTop { g with pc := g.pc + len₂, stack := v.toList ++ g.stack })
    rw [← hs₂]
    exact hsteps
  · obtain ⟨e2, q2, q3, q4, q5, q6⟩ := id hsm
    have e3 : s₂ = ({ (U.calling g mk a).setFrames s₂.frames with heap := s₂.heap, slotsUsed := s₂.slotsUsed } : State).setVm s₂.vm := by
      have : s₂ = ({ s₂ with vm := (U.calling g mk a).vm } : State).setVm s₂.vm := rfl
      rw [e2] at this
      exact this
    have hf₂ : s₂.frames = .throwing q :: .java g :: U.frames.tail := hend
    have hW' : U.WarmedH s₂.vm := hW₂
    have hs₂ : s₂ = ((({ U with heap := s₂.heap, slotsUsed := s₂.slotsUsed } : State).setVm s₂.vm).setTop g).pushFrame (.throwing q) := by
      refine e3.trans ?_
      rw [hf₂, State.calling_eq h.top, State.setFrames_setFrames, State.pushFrame, State.frames_setTop _ hr', State.setTop_of_frames _ hr', State.setFrames_setFrames, hr]
      rfl
    have hsame : U.sameButNew ({ U with heap := s₂.heap, slotsUsed := s₂.slotsUsed } : State) L mc ms := by
      refine ⟨?_, q2, q3, q4, q5, q6⟩
      obtain ⟨t, ht, -⟩ := State.frames_cons hr
      show ({ U with heap := s₂.heap, slotsUsed := s₂.slotsUsed } : State) = { U.setFrames U.frames with heap := s₂.heap, slotsUsed := s₂.slotsUsed }
      rw [State.setFrames_self ht]
    subst hg
    refine Or.inr ⟨q, ⟨(({ U with heap := s₂.heap, slotsUsed := s₂.slotsUsed } : State).setVm s₂.vm), Ls ++ L, c0 + mc, s0 + ms⟩,
      ⟨X.admits, X.cas, X.clock, X.frames, X.room, X.hears, X.method, X.code, (X.here.setHeapUsed s₂.heap s₂.slotsUsed).setVm hW'.alike, X.tail, State.WarmedH.trans X.warmed hW', X.limits, X.bytes, X.same.trans (hsame.setVm s.vm)⟩,
      ⟨g, mk, s₂, L, E, ce, rfl, rfl, hx, hce, hcv, hcl, rfl, hL, rfl, rfl⟩, ?_⟩
    show Steps p.tables e below _ (((({ U with heap := s₂.heap, slotsUsed := s₂.slotsUsed } : State).setVm s₂.vm).setTop g).pushFrame (.throwing q))
    rw [← hs₂]
    exact hsteps
end Payer
section Calls
variable {p : Program} {l : Launch} {e : Env} {R : Room} {s : State} {m : MethodId} {args : Array Value} {below : List Frame} {meth : Method} {c : Code} {T : State} {locs : List Loc} {cells slots : Nat}
theorem vx_callV (X : Stand p l e R s m args below meth c T locs cells slots) (hexec : p.tables.exec = Jvm.exec) {own C : String} {index : Nat} {y : MethodName} {bytes : ByteArray} {maxL : Nat} {ret : Option FieldType}
    (hown : s.vm.findClass own = some m.cls) (hlink : (Cond.methodLink own index y).before args s = true) (hinst : (Cond.instanceMethod y).before args s = true) (hsel : (Cond.selects C y y).before args s = true)
    (hcode : (Cond.code y bytes maxL ret).before args s = true) (hy : y.cls ≠ "java/lang/invoke/MethodHandle" ∧ y.cls ≠ "java/lang/invoke/VarHandle")
    {W9 : Nat} {Pre : Pt → Array Value → Prop} {Post : Pt → Array Value → Option Value → Pt → Prop} {PostX : Pt → Array Value → Addr → Pt → Prop} (hK : vx_Back l R p e below s args y 3 W9 Pre Post PostX)
    {b : Addr} {cellB : Cell} (hcell : T.heap[b]? = some cellB) (hobj : cellB.vm.isStatics = false) (hcls : s.vm.findClass C = some cellB.cls)
    {g : JFrame} (hg : g.method = m) (hsize : g.locals.size = c.maxLocals) {argsL rest : List Value} (hlen : ∀ sig, parseMethodDescriptor y.desc = some sig → argsL.length = sig.parameters.length)
    (hstack : g.stack = argsL.reverse ++ .ref b :: rest) (hW : 2 * g.monitorRoom + (rest.map fun v => v.category).sum ≤ W9) (hdg : decode c.code g.pc = .ok (.invokevirtual index, 3))
    (hpre : ∀ vm₁, s.WarmedH vm₁ → Pre ⟨T.setVm vm₁, locs, cells, slots⟩ (Value.ref b :: argsL).toArray) :
    (∃ (v : Option Value) (vm₁ : Vm) (B : Pt), s.WarmedH vm₁ ∧ Stand p l e R s m args below meth c B.U B.locs B.cells B.slots ∧ Post ⟨T.setVm vm₁, locs, cells, slots⟩ (Value.ref b :: argsL).toArray v B ∧
      ∀ target, Steps p.tables e below (B.U.setTop { g with pc := g.pc + 3, stack := v.toList ++ rest }) target → Steps p.tables e below (T.setTop g) target) ∨
    (∃ (q : Addr) (vm₁ : Vm) (B : Pt), s.WarmedH vm₁ ∧ Stand p l e R s m args below meth c B.U B.locs B.cells B.slots ∧ PostX ⟨T.setVm vm₁, locs, cells, slots⟩ (Value.ref b :: argsL).toArray q B ∧
      Steps p.tables e below (T.setTop g) ((B.U.setTop { g with stack := rest }).pushFrame (.throwing q))) := by
  obtain ⟨mk, methM, hnamed, hmethM, hstM, habM⟩ := Cond.instanceMethod_spec hinst
  obtain ⟨methM', cM, hmethM', -, -, -, -, -, -, hsigM⟩ := Cond.code_spec hnamed hcode
  cases hmethM.symm.trans hmethM'
  obtain ⟨c2, r2, m2, q1, q2, q3, q4, kP, hkP, hkPi⟩ := Cond.selects_spec hsel
  cases hcls.symm.trans q1
  cases (State.methodFound?_of_named hnamed hy).symm.trans q2
  cases hnamed.symm.trans q3
  have hselP : selectMethod e.platform s.vm cellB.cls mk = .method mk := by rw [Launch.admits_selectMethod X.admits]; exact q4
  obtain ⟨vm₁, X₁, hstep₁⟩ := X.invokevirtual hexec hown hlink hnamed hmethM hstM hkP hkPi hy (a := b) (cell := cellB) hcell
    (fun z h => by rw [h] at hobj; cases hobj) hselP hmethM habM hkP hkPi (g := g) hg (argsL := argsL) (rest := rest) (hlen _ hsigM) hstack hdg
  rcases hK m meth c ⟨T.setVm vm₁, locs, cells, slots⟩ { g with stack := rest } (.invokevirtual index) mk (Value.ref b :: argsL).toArray X₁ hg hsize hdg hW (X₁.named hnamed) (hpre vm₁ X₁.warmed) with ⟨v, B, X', hpost, hsteps⟩ | ⟨q, B, X', hpost, hsteps⟩
  · exact Or.inl ⟨v, vm₁, B, X₁.warmed, X', hpost, fun target h => hstep₁ _ fun acts => by rw [doInvoke_state]; exact hsteps.trans h⟩
  · exact Or.inr ⟨q, vm₁, B, X₁.warmed, X', hpost, hstep₁ _ fun acts => by rw [doInvoke_state]; exact hsteps⟩
theorem vx_callS (X : Stand p l e R s m args below meth c T locs cells slots) (hexec : p.tables.exec = Jvm.exec) {own : String} {index : Nat} {y : MethodName} {bytes : ByteArray} {maxL : Nat} {ret : Option FieldType}
    (hown : s.vm.findClass own = some m.cls) (hlink : (Cond.methodLink own index y).before args s = true) (hstat : (Cond.static y).before args s = true) (hinit : (Cond.initialized y.cls).before args s = true)
    (hcode : (Cond.code y bytes maxL ret).before args s = true) (hy : y.cls ≠ "java/lang/invoke/MethodHandle" ∧ y.cls ≠ "java/lang/invoke/VarHandle")
    {W9 : Nat} {Pre : Pt → Array Value → Prop} {Post : Pt → Array Value → Option Value → Pt → Prop} {PostX : Pt → Array Value → Addr → Pt → Prop} (hK : vx_Back l R p e below s args y 3 W9 Pre Post PostX)
    {g : JFrame} (hg : g.method = m) (hsize : g.locals.size = c.maxLocals) {argsL rest : List Value} (hlen : ∀ sig, parseMethodDescriptor y.desc = some sig → argsL.length = sig.parameters.length)
    (hstack : g.stack = argsL.reverse ++ rest) (hW : 2 * g.monitorRoom + (rest.map fun v => v.category).sum ≤ W9) (hdg : decode c.code g.pc = .ok (.invokestatic index, 3))
    (hpre : ∀ vm₁, s.WarmedH vm₁ → Pre ⟨T.setVm vm₁, locs, cells, slots⟩ argsL.toArray) :
    (∃ (v : Option Value) (vm₁ : Vm) (B : Pt), s.WarmedH vm₁ ∧ Stand p l e R s m args below meth c B.U B.locs B.cells B.slots ∧ Post ⟨T.setVm vm₁, locs, cells, slots⟩ argsL.toArray v B ∧
      ∀ target, Steps p.tables e below (B.U.setTop { g with pc := g.pc + 3, stack := v.toList ++ rest }) target → Steps p.tables e below (T.setTop g) target) ∨
    (∃ (q : Addr) (vm₁ : Vm) (B : Pt), s.WarmedH vm₁ ∧ Stand p l e R s m args below meth c B.U B.locs B.cells B.slots ∧ PostX ⟨T.setVm vm₁, locs, cells, slots⟩ argsL.toArray q B ∧
      Steps p.tables e below (T.setTop g) ((B.U.setTop { g with stack := rest }).pushFrame (.throwing q))) := by
  obtain ⟨mk, hnamed⟩ := Cond.code_named hcode
  obtain ⟨methM, cM, hmethM, -, -, -, -, -, -, hsigM⟩ := Cond.code_spec hnamed hcode
  have hstatic : methM.isStatic = true := Cond.static_spec hnamed hmethM hstat
  obtain ⟨kP, hkP, -⟩ := className_of_methodNamed hnamed
  have hinitP : kP.init = .initialized := Cond.initialized_spec (findClass_of_methodNamed hnamed) hkP hinit
  obtain ⟨vm₁, X₁, hstep₁⟩ := X.invokestatic hexec hown hlink hnamed hmethM hstatic hkP hinitP hy (g := g) hg (argsL := argsL) (rest := rest) (hlen _ hsigM) hstack hdg
  rcases hK m meth c ⟨T.setVm vm₁, locs, cells, slots⟩ { g with stack := rest } (.invokestatic index) mk argsL.toArray X₁ hg hsize hdg hW (X₁.named hnamed) (hpre vm₁ X₁.warmed) with ⟨v, B, X', hpost, hsteps⟩ | ⟨q, B, X', hpost, hsteps⟩
  · exact Or.inl ⟨v, vm₁, B, X₁.warmed, X', hpost, fun target h => hstep₁ _ fun acts => by rw [doInvoke_state]; exact hsteps.trans h⟩
  · exact Or.inr ⟨q, vm₁, B, X₁.warmed, X', hpost, hstep₁ _ fun acts => by rw [doInvoke_state]; exact hsteps⟩
end Calls
theorem vx_cls {s : State} {T : State} {vm₁ : Vm} {E : String} {k : ClassId} (hW : s.WarmedH vm₁) (h : (T.setVm vm₁).vm.findClass E = some k) : s.vm.findClass E = some k := by
  have h1 : vm₁.findClass E = some k := h
  rw [hW.alike.findClass] at h1
  exact h1
/-- the method's frame g, with q thrown over it -/
def vx_W (p : Program) (l : Launch) (e : Env) (R : Room) (s : State) (m : MethodId) (args : Array Value) (below : List Frame) (meth : Method) (c : Code) (H : Heap) (locs : List Loc) (cells slots : Nat) (Q : State → Prop) (g : JFrame) (q : Addr) : Prop :=
  ∀ T : State, T.heap = H → Stand p l e R s m args below meth c T locs cells slots → ∃ t, Steps p.tables e below ((T.setTop g).pushFrame (.throwing q)) t ∧ Q t
def vx_Run (p : Program) (l : Launch) (e : Env) (R : Room) (s : State) (m : MethodId) (args : Array Value) (below : List Frame) (meth : Method) (c : Code) (H : Heap) (locs : List Loc) (cells slots mc ms : Nat) (g : JFrame) (rest : List Value) (Qa : State → Outcome → State → Prop) (XC : String → State → State → Prop) (free : Addr → Prop) : Prop :=
  ∀ T : State, T.heap = H → Stand p l e R s m args below meth c T locs cells slots →
    (∃ (v : Option Value) (st₀ t T' : State) (L : List Loc), st₀.heap = H ∧ Stand p l e R s m args below meth c T' (locs ++ L) (cells + mc) (slots + ms) ∧ (∀ q ∈ L, free q.base) ∧ T'.heap = t.heap ∧ T'.vm = t.vm ∧ Qa st₀ (.returned v) t ∧
      Goes p e below T g T' { g with pc := g.pc + 3, stack := v.toList ++ rest }) ∨
    (∃ (q : Addr) (st₀ t T' : State) (L : List Loc) (E : String) (ce : Cell), st₀.heap = H ∧ Stand p l e R s m args below meth c T' (locs ++ L) (cells + mc) (slots + ms) ∧ (∀ z ∈ L, free z.base) ∧ T'.heap = t.heap ∧ T'.vm = t.vm ∧ XC E st₀ t ∧ t.heap[q]? = some ce ∧ ce.vm = .none ∧ s.vm.findClass E = some ce.cls ∧
      Steps p.tables e below (T.setTop g) ((T'.setTop { g with stack := rest }).pushFrame (.throwing q)))
def vx_X {S : Type} (px : S → Prop) (B : String → S → State → Prop) (A : Nat → Prop) : String → State → State → Prop := fun E st t => ∃ u : S, px u ∧ B E u t ∧ va_F A st t
section Runs
variable {p : Program} {l : Launch} {e : Env} {R : Room} {s : State} {m : MethodId} {args : Array Value} {below : List Frame} {meth : Method} {c : Code} {H : Heap} {locs : List Loc} {cells slots : Nat}
variable {y : MethodName} {bytes cc : ByteArray} {maxL nL mc ms n index : Nat} {ret : Option FieldType} {ws : List Cond} {rm : Room} {Pc : Array Value → State → Prop} {Qc : Array Value → State → Outcome → State → Prop} {XC : String → State → State → Prop} {free : Addr → Prop} {Ts : List Cond} {own C : String} {b : Addr} {As rest : List Value} {g : JFrame}
theorem vx_callBack (cb : CallB R s args own index y bytes maxL ret ws rm mc ms n) (hM : vx_Met l y ws rm Pc Qc XC mc ms free) (hbl : FrameBlind Pc) : vx_Back l R p e below s args y 3 8 (PreOf R mc ms Pc) (PostOf Qc mc ms free) (vx_Post XC mc ms free) := by
  obtain ⟨hrc, hrs, hfr, hlo, hws, hcw, -, hini, -⟩ := cb
  exact vx_back (bytes := bytes) (maxL := maxL) (ret := ret) hM hbl hrc hrs hfr hlo hws hcw (fun a' U hW => word_at hW (Or.inl (by first | rfl | simp [Cond.onTables, Cond.keeps, Cond.steady])) hini)
theorem vx_runV (S : CallFix p m c cc nL s args Ts own) (hM : vx_Met l y ws rm Pc Qc XC mc ms free) (cw : CallW R s args own C index y bytes maxL ret ws rm mc ms n) (hp : PreV s H C b Pc As)
    (hg : g.method = m) (hn : As.length = n) (hsize : g.locals.size = nL) (hstack : g.stack = As.reverse ++ .ref b :: rest) (hW : 2 * g.monitorRoom + (rest.map fun v => v.category).sum ≤ 8) (hdg : decode cc g.pc = .ok (.invokevirtual index, 3)) (hf : cells + mc ≤ R.cells ∧ slots + ms ≤ R.slots) :
    vx_Run p l e R s m args below meth c H locs cells slots mc ms g rest (Qc (Value.ref b :: As).toArray) XC free := by
  have hK : vx_Back l R p e below s args y 3 8 (PreOf R mc ms Pc) (PostOf Qc mc ms free) (vx_Post XC mc ms free) := vx_callBack cw.1 hM hp.1
  obtain ⟨⟨-, -, -, -, -, -, hcode, -, hy, hlen, hl⟩, hin, hse⟩ := cw
  obtain ⟨hx, hb, hml, ho, -⟩ := S
  obtain ⟨-, ⟨cellB, hcB, hoB, hclB⟩, hPc⟩ := hp
  intro T hT X
  rcases vx_callV X hx (C := C) (bytes := bytes) (maxL := maxL) (ret := ret) ho hl hin hse hcode hy hK (by rw [hT]; exact hcB) hoB hclB hg (hsize.trans hml.symm) (argsL := As) (rest := rest) (fun sig h => hn.trans (hlen sig h)) hstack hW (by rw [hb]; exact hdg)
    (fun vm₁ hW₁ => ⟨hf.1, hf.2, hPc (T.setVm vm₁) hT hW₁⟩) with ⟨v, vm₁, ⟨U', l2, c2, s2⟩, hW₁, X', ⟨g', mk, t, L, e1, e2, hq, h1, hL, h2, h3⟩, st⟩ | ⟨q, vm₁, ⟨U', l2, c2, s2⟩, hW₁, X', ⟨g', mk, t, L, E, ce, e1, e2, hq, hce, hcv, hcl, h1, hL, h2, h3⟩, st⟩
  · dsimp only [Pt.U, Pt.locs, Pt.cells, Pt.slots] at X' e1 e2 h1 h2 h3 st
    subst h1; subst h2; subst h3
    exact Or.inl ⟨v, (T.setVm vm₁).calling g' mk (Value.ref b :: As).toArray, t, U', L, hT, X', hL, e1, e2, hq, st⟩
  · dsimp only [Pt.U, Pt.locs, Pt.cells, Pt.slots] at X' e1 e2 h1 h2 h3 st hcl
    subst h1; subst h2; subst h3
    exact Or.inr ⟨q, (T.setVm vm₁).calling g' mk (Value.ref b :: As).toArray, t, U', L, E, ce, hT, X', hL, e1, e2, hq, hce, hcv, vx_cls hW₁ hcl, st⟩
theorem vx_runS (S : CallFix p m c cc nL s args Ts own) (hM : vx_Met l y ws rm Pc Qc XC mc ms free) (cw : CallB R s args own index y bytes maxL ret ws rm mc ms n ∧ (Cond.static y).before args s = true) (hp : PreS s H Pc As)
    (hg : g.method = m) (hn : As.length = n) (hsize : g.locals.size = nL) (hstack : g.stack = As.reverse ++ rest) (hW : 2 * g.monitorRoom + (rest.map fun v => v.category).sum ≤ 8) (hdg : decode cc g.pc = .ok (.invokestatic index, 3)) (hf : cells + mc ≤ R.cells ∧ slots + ms ≤ R.slots) :
    vx_Run p l e R s m args below meth c H locs cells slots mc ms g rest (Qc As.toArray) XC free := by
  have hK : vx_Back l R p e below s args y 3 8 (PreOf R mc ms Pc) (PostOf Qc mc ms free) (vx_Post XC mc ms free) := vx_callBack cw.1 hM hp.1
  obtain ⟨⟨-, -, -, -, -, -, hcode, hini, hy, hlen, hl⟩, hstt⟩ := cw
  obtain ⟨hx, hb, hml, ho, -⟩ := S
  intro T hT X
  rcases vx_callS X hx (bytes := bytes) (maxL := maxL) (ret := ret) ho hl hstt hini hcode hy hK hg (hsize.trans hml.symm) (argsL := As) (rest := rest) (fun sig h => hn.trans (hlen sig h)) hstack hW (by rw [hb]; exact hdg)
    (fun vm₁ hW₁ => ⟨hf.1, hf.2, hp.2 (T.setVm vm₁) hT hW₁⟩) with ⟨v, vm₁, ⟨U', l2, c2, s2⟩, hW₁, X', ⟨g', mk, t, L, e1, e2, hq, h1, hL, h2, h3⟩, st⟩ | ⟨q, vm₁, ⟨U', l2, c2, s2⟩, hW₁, X', ⟨g', mk, t, L, E, ce, e1, e2, hq, hce, hcv, hcl, h1, hL, h2, h3⟩, st⟩
  · dsimp only [Pt.U, Pt.locs, Pt.cells, Pt.slots] at X' e1 e2 h1 h2 h3 st
    subst h1; subst h2; subst h3
    exact Or.inl ⟨v, (T.setVm vm₁).calling g' mk As.toArray, t, U', L, hT, X', hL, e1, e2, hq, st⟩
  · dsimp only [Pt.U, Pt.locs, Pt.cells, Pt.slots] at X' e1 e2 h1 h2 h3 st hcl
    subst h1; subst h2; subst h3
    exact Or.inr ⟨q, (T.setVm vm₁).calling g' mk As.toArray, t, U', L, E, ce, hT, X', hL, e1, e2, hq, hce, hcv, vx_cls hW₁ hcl, st⟩
end Runs
section Rows
variable {p : Program} {l : Launch} {e : Env} {R : Room} {s : State} {m : MethodId} {args : Array Value} {below : List Frame} {meth : Method} {c : Code} {H : Heap} {locs : List Loc} {cells slots : Nat} {Q : State → Prop}
variable {mc ms : Nat} {free : Addr → Prop} {A0 A1 : Nat → Prop} {H0 : Heap} {a : Array Value} {pc : Nat} {ls : Array Slot} {st0 rest : List Value}
theorem vx_keep {st₀ t T' : State} {L : List Loc} (h0 : st₀.heap = H) (e1 : T'.heap = t.heap) (hS : va_S A0 H0 H locs) (hA : ∀ q, q < H.size → A1 q → A0 q) (hf : ∀ q, free q → A0 q) (hL : ∀ q ∈ L, free q.base) (hF : va_F A1 st₀ t) :
    H.size ≤ T'.heap.size ∧ (∀ q : Nat, q < H.size → ¬ A1 q → T'.heap[q]? = H[q]?) ∧ va_S A0 H0 T'.heap (locs ++ L) := by
  obtain ⟨hz, hk⟩ := hF
  rw [h0] at hz hk
  exact ⟨by rw [e1]; exact hz, fun q h1 h2 => by rw [e1]; exact hk q h1 h2,
    ⟨Nat.le_trans hS.1 (by rw [e1]; exact hz), fun q h1 h2 => by rw [e1, hk q (Nat.lt_of_lt_of_le h1 hS.1) (fun z => h2 (hA q (Nat.lt_of_lt_of_le h1 hS.1) z))]; exact hS.2.1 q h1 h2, fun q hq => by
      rcases List.mem_append.mp hq with h | h
      · exact hS.2.2 q h
      · exact hf _ (hL q h)⟩⟩
theorem vx_calli {S SX : Type} {post : Int32 → S → Prop} {px : SX → Prop} {B : S → State → Prop} {BX : String → SX → State → Prop} {AX : Nat → Prop} (hr : vx_Run p l e R s m args below meth c H locs cells slots mc ms (F0 m pc ls st0) rest (va_Qi post B A1 a) (vx_X px BX AX) free) (hS : va_S A0 H0 H locs) (hA : ∀ q, q < H.size → A1 q → A0 q) (hf : ∀ q, free q → A0 q) (hAX : ∀ q, q < H.size → AX q → A0 q)
    (kx : ∀ (E : String) (ce : Cell) (q9 : Addr) (u : SX) (t : State) (H1 : Heap) (locs1 : List Loc), t.heap = H1 → s.vm.Alike t.vm → px u → BX E u t → H.size ≤ H1.size → (∀ q : Nat, q < H.size → ¬ AX q → H1[q]? = H[q]?) → va_S A0 H0 H1 locs1 → H1[q9]? = some ce → ce.vm = .none → s.vm.findClass E = some ce.cls → vx_W p l e R s m args below meth c H1 locs1 (cells + mc) (slots + ms) Q (F0 m pc ls rest) q9)
    (kk : ∀ (r : Int32) (u : S) (t : State) (H1 : Heap) (locs1 : List Loc), t.heap = H1 → s.vm.Alike t.vm → post r u → B u t → H.size ≤ H1.size → (∀ q : Nat, q < H.size → ¬ A1 q → H1[q]? = H[q]?) → va_S A0 H0 H1 locs1 → W p l e R s m args below meth c H1 locs1 (cells + mc) (slots + ms) Q (F0 m (pc + 3) ls (.int r :: rest))) : W p l e R s m args below meth c H locs cells slots Q (F0 m pc ls st0) := by
  intro T hT X
  rcases hr T hT X with ⟨v, st₀, t, T', L, h0, X', hL, e1, e2, ⟨⟨r, u, hv, hp, hb⟩, hF⟩, st⟩ | ⟨q, st₀, t, T', L, E, ce, h0, X', hL, e1, e2, ⟨u, hp, hb, hF⟩, hce, hcv, hcl, st⟩
  · cases hv
    obtain ⟨k1, k2, k3⟩ := vx_keep h0 e1 hS hA hf hL hF
    obtain ⟨t2, a1, b1⟩ := kk r u t T'.heap (locs ++ L) e1.symm (by rw [← e2]; exact X'.warmed.alike) hp hb k1 k2 k3 T' rfl X'
    exact ⟨t2, st t2 a1, b1⟩
  · obtain ⟨k1, k2, k3⟩ := vx_keep h0 e1 hS hAX hf hL hF
    obtain ⟨t2, a1, b1⟩ := kx E ce q u t T'.heap (locs ++ L) e1.symm (by rw [← e2]; exact X'.warmed.alike) hp hb k1 k2 k3 (by rw [e1]; exact hce) hcv hcl T' rfl X'
    exact ⟨t2, st.trans a1, b1⟩
theorem vx_calll {S SX : Type} {post : Int64 → S → Prop} {px : SX → Prop} {B : S → State → Prop} {BX : String → SX → State → Prop} {AX : Nat → Prop} (hr : vx_Run p l e R s m args below meth c H locs cells slots mc ms (F0 m pc ls st0) rest (va_Ql post B A1 a) (vx_X px BX AX) free) (hS : va_S A0 H0 H locs) (hA : ∀ q, q < H.size → A1 q → A0 q) (hf : ∀ q, free q → A0 q) (hAX : ∀ q, q < H.size → AX q → A0 q)
    (kx : ∀ (E : String) (ce : Cell) (q9 : Addr) (u : SX) (t : State) (H1 : Heap) (locs1 : List Loc), t.heap = H1 → s.vm.Alike t.vm → px u → BX E u t → H.size ≤ H1.size → (∀ q : Nat, q < H.size → ¬ AX q → H1[q]? = H[q]?) → va_S A0 H0 H1 locs1 → H1[q9]? = some ce → ce.vm = .none → s.vm.findClass E = some ce.cls → vx_W p l e R s m args below meth c H1 locs1 (cells + mc) (slots + ms) Q (F0 m pc ls rest) q9)
    (kk : ∀ (r : Int64) (u : S) (t : State) (H1 : Heap) (locs1 : List Loc), t.heap = H1 → s.vm.Alike t.vm → post r u → B u t → H.size ≤ H1.size → (∀ q : Nat, q < H.size → ¬ A1 q → H1[q]? = H[q]?) → va_S A0 H0 H1 locs1 → W p l e R s m args below meth c H1 locs1 (cells + mc) (slots + ms) Q (F0 m (pc + 3) ls (.long r :: rest))) : W p l e R s m args below meth c H locs cells slots Q (F0 m pc ls st0) := by
  intro T hT X
  rcases hr T hT X with ⟨v, st₀, t, T', L, h0, X', hL, e1, e2, ⟨⟨r, u, hv, hp, hb⟩, hF⟩, st⟩ | ⟨q, st₀, t, T', L, E, ce, h0, X', hL, e1, e2, ⟨u, hp, hb, hF⟩, hce, hcv, hcl, st⟩
  · cases hv
    obtain ⟨k1, k2, k3⟩ := vx_keep h0 e1 hS hA hf hL hF
    obtain ⟨t2, a1, b1⟩ := kk r u t T'.heap (locs ++ L) e1.symm (by rw [← e2]; exact X'.warmed.alike) hp hb k1 k2 k3 T' rfl X'
    exact ⟨t2, st t2 a1, b1⟩
  · obtain ⟨k1, k2, k3⟩ := vx_keep h0 e1 hS hAX hf hL hF
    obtain ⟨t2, a1, b1⟩ := kx E ce q u t T'.heap (locs ++ L) e1.symm (by rw [← e2]; exact X'.warmed.alike) hp hb k1 k2 k3 (by rw [e1]; exact hce) hcv hcl T' rfl X'
    exact ⟨t2, st.trans a1, b1⟩
theorem vx_callf {S SX : Type} {post : UInt32 → S → Prop} {px : SX → Prop} {B : S → State → Prop} {BX : String → SX → State → Prop} {AX : Nat → Prop} (hr : vx_Run p l e R s m args below meth c H locs cells slots mc ms (F0 m pc ls st0) rest (va_Qf post B A1 a) (vx_X px BX AX) free) (hS : va_S A0 H0 H locs) (hA : ∀ q, q < H.size → A1 q → A0 q) (hf : ∀ q, free q → A0 q) (hAX : ∀ q, q < H.size → AX q → A0 q)
    (kx : ∀ (E : String) (ce : Cell) (q9 : Addr) (u : SX) (t : State) (H1 : Heap) (locs1 : List Loc), t.heap = H1 → s.vm.Alike t.vm → px u → BX E u t → H.size ≤ H1.size → (∀ q : Nat, q < H.size → ¬ AX q → H1[q]? = H[q]?) → va_S A0 H0 H1 locs1 → H1[q9]? = some ce → ce.vm = .none → s.vm.findClass E = some ce.cls → vx_W p l e R s m args below meth c H1 locs1 (cells + mc) (slots + ms) Q (F0 m pc ls rest) q9)
    (kk : ∀ (r : UInt32) (u : S) (t : State) (H1 : Heap) (locs1 : List Loc), t.heap = H1 → s.vm.Alike t.vm → post r u → B u t → H.size ≤ H1.size → (∀ q : Nat, q < H.size → ¬ A1 q → H1[q]? = H[q]?) → va_S A0 H0 H1 locs1 → W p l e R s m args below meth c H1 locs1 (cells + mc) (slots + ms) Q (F0 m (pc + 3) ls (.float r :: rest))) : W p l e R s m args below meth c H locs cells slots Q (F0 m pc ls st0) := by
  intro T hT X
  rcases hr T hT X with ⟨v, st₀, t, T', L, h0, X', hL, e1, e2, ⟨⟨r, u, hv, hp, hb⟩, hF⟩, st⟩ | ⟨q, st₀, t, T', L, E, ce, h0, X', hL, e1, e2, ⟨u, hp, hb, hF⟩, hce, hcv, hcl, st⟩
  · cases hv
    obtain ⟨k1, k2, k3⟩ := vx_keep h0 e1 hS hA hf hL hF
    obtain ⟨t2, a1, b1⟩ := kk r u t T'.heap (locs ++ L) e1.symm (by rw [← e2]; exact X'.warmed.alike) hp hb k1 k2 k3 T' rfl X'
    exact ⟨t2, st t2 a1, b1⟩
  · obtain ⟨k1, k2, k3⟩ := vx_keep h0 e1 hS hAX hf hL hF
    obtain ⟨t2, a1, b1⟩ := kx E ce q u t T'.heap (locs ++ L) e1.symm (by rw [← e2]; exact X'.warmed.alike) hp hb k1 k2 k3 (by rw [e1]; exact hce) hcv hcl T' rfl X'
    exact ⟨t2, st.trans a1, b1⟩
theorem vx_calld {S SX : Type} {post : UInt64 → S → Prop} {px : SX → Prop} {B : S → State → Prop} {BX : String → SX → State → Prop} {AX : Nat → Prop} (hr : vx_Run p l e R s m args below meth c H locs cells slots mc ms (F0 m pc ls st0) rest (va_Qd post B A1 a) (vx_X px BX AX) free) (hS : va_S A0 H0 H locs) (hA : ∀ q, q < H.size → A1 q → A0 q) (hf : ∀ q, free q → A0 q) (hAX : ∀ q, q < H.size → AX q → A0 q)
    (kx : ∀ (E : String) (ce : Cell) (q9 : Addr) (u : SX) (t : State) (H1 : Heap) (locs1 : List Loc), t.heap = H1 → s.vm.Alike t.vm → px u → BX E u t → H.size ≤ H1.size → (∀ q : Nat, q < H.size → ¬ AX q → H1[q]? = H[q]?) → va_S A0 H0 H1 locs1 → H1[q9]? = some ce → ce.vm = .none → s.vm.findClass E = some ce.cls → vx_W p l e R s m args below meth c H1 locs1 (cells + mc) (slots + ms) Q (F0 m pc ls rest) q9)
    (kk : ∀ (r : UInt64) (u : S) (t : State) (H1 : Heap) (locs1 : List Loc), t.heap = H1 → s.vm.Alike t.vm → post r u → B u t → H.size ≤ H1.size → (∀ q : Nat, q < H.size → ¬ A1 q → H1[q]? = H[q]?) → va_S A0 H0 H1 locs1 → W p l e R s m args below meth c H1 locs1 (cells + mc) (slots + ms) Q (F0 m (pc + 3) ls (.double r :: rest))) : W p l e R s m args below meth c H locs cells slots Q (F0 m pc ls st0) := by
  intro T hT X
  rcases hr T hT X with ⟨v, st₀, t, T', L, h0, X', hL, e1, e2, ⟨⟨r, u, hv, hp, hb⟩, hF⟩, st⟩ | ⟨q, st₀, t, T', L, E, ce, h0, X', hL, e1, e2, ⟨u, hp, hb, hF⟩, hce, hcv, hcl, st⟩
  · cases hv
    obtain ⟨k1, k2, k3⟩ := vx_keep h0 e1 hS hA hf hL hF
    obtain ⟨t2, a1, b1⟩ := kk r u t T'.heap (locs ++ L) e1.symm (by rw [← e2]; exact X'.warmed.alike) hp hb k1 k2 k3 T' rfl X'
    exact ⟨t2, st t2 a1, b1⟩
  · obtain ⟨k1, k2, k3⟩ := vx_keep h0 e1 hS hAX hf hL hF
    obtain ⟨t2, a1, b1⟩ := kx E ce q u t T'.heap (locs ++ L) e1.symm (by rw [← e2]; exact X'.warmed.alike) hp hb k1 k2 k3 (by rw [e1]; exact hce) hcv hcl T' rfl X'
    exact ⟨t2, st.trans a1, b1⟩
theorem vx_callv {S SX : Type} {post : S → Prop} {px : SX → Prop} {B : S → State → Prop} {BX : String → SX → State → Prop} {AX : Nat → Prop} (hr : vx_Run p l e R s m args below meth c H locs cells slots mc ms (F0 m pc ls st0) rest (va_Qv post B A1 a) (vx_X px BX AX) free) (hS : va_S A0 H0 H locs) (hA : ∀ q, q < H.size → A1 q → A0 q) (hf : ∀ q, free q → A0 q) (hAX : ∀ q, q < H.size → AX q → A0 q)
    (kx : ∀ (E : String) (ce : Cell) (q9 : Addr) (u : SX) (t : State) (H1 : Heap) (locs1 : List Loc), t.heap = H1 → s.vm.Alike t.vm → px u → BX E u t → H.size ≤ H1.size → (∀ q : Nat, q < H.size → ¬ AX q → H1[q]? = H[q]?) → va_S A0 H0 H1 locs1 → H1[q9]? = some ce → ce.vm = .none → s.vm.findClass E = some ce.cls → vx_W p l e R s m args below meth c H1 locs1 (cells + mc) (slots + ms) Q (F0 m pc ls rest) q9)
    (kk : ∀ (u : S) (t : State) (H1 : Heap) (locs1 : List Loc), t.heap = H1 → s.vm.Alike t.vm → post u → B u t → H.size ≤ H1.size → (∀ q : Nat, q < H.size → ¬ A1 q → H1[q]? = H[q]?) → va_S A0 H0 H1 locs1 → W p l e R s m args below meth c H1 locs1 (cells + mc) (slots + ms) Q (F0 m (pc + 3) ls (rest))) : W p l e R s m args below meth c H locs cells slots Q (F0 m pc ls st0) := by
  intro T hT X
  rcases hr T hT X with ⟨v, st₀, t, T', L, h0, X', hL, e1, e2, ⟨⟨u, hv, hp, hb⟩, hF⟩, st⟩ | ⟨q, st₀, t, T', L, E, ce, h0, X', hL, e1, e2, ⟨u, hp, hb, hF⟩, hce, hcv, hcl, st⟩
  · cases hv
    obtain ⟨k1, k2, k3⟩ := vx_keep h0 e1 hS hA hf hL hF
    obtain ⟨t2, a1, b1⟩ := kk u t T'.heap (locs ++ L) e1.symm (by rw [← e2]; exact X'.warmed.alike) hp hb k1 k2 k3 T' rfl X'
    exact ⟨t2, st t2 a1, b1⟩
  · obtain ⟨k1, k2, k3⟩ := vx_keep h0 e1 hS hAX hf hL hF
    obtain ⟨t2, a1, b1⟩ := kx E ce q u t T'.heap (locs ++ L) e1.symm (by rw [← e2]; exact X'.warmed.alike) hp hb k1 k2 k3 (by rw [e1]; exact hce) hcv hcl T' rfl X'
    exact ⟨t2, st.trans a1, b1⟩
/-- caught by the row x of this method's table; the rows ahead don't take it -/
theorem vx_catch {own name : String} {E : String} {ce : Cell} {q : Addr} (hown : s.vm.findClass own = some m.cls) (pre : List ExceptionTableEntry) (x : ExceptionTableEntry) (suf : List ExceptionTableEntry) (hsplit : c.exceptionTable.toList = pre ++ x :: suf)
    (hpass : ∀ z ∈ pre, covers z pc = false ∨ (z.catchType ≠ 0 ∧ ∃ nm : String, (Cond.classLink own z.catchType nm).before args s = true ∧ va_Nc E nm s)) (hx : covers x pc = true) (h0 : x.catchType ≠ 0)
    (hlink : (Cond.classLink own x.catchType name).before args s = true) (hcast : (Cond.castable E name).before args s = true) (hcell : H[q]? = some ce) (hv : ce.vm = .none) (hcl : s.vm.findClass E = some ce.cls)
    (kk : W p l e R s m args below meth c H locs cells slots Q (F0 m x.handlerPc ls [.ref q])) : vx_W p l e R s m args below meth c H locs cells slots Q (F0 m pc ls rest) q := by
  intro T hT X
  have hpl : e.platform.magicAccessors = ({} : Platform).magicAccessors := by rw [X.admits.platform]
  obtain ⟨c3, c4, hc3, hc4, hasg⟩ := Cond.castable_spec hcast
  cases Option.some.inj (hc3.symm.trans hcl)
  obtain ⟨c5, hc5, hcl5⟩ := Cond.classLink_spec hown hlink e.platform hpl
  cases Option.some.inj (hc4.symm.trans hc5)
  obtain ⟨vm', X', st⟩ := X.thenCaughtThrough q (g := F0 m pc ls rest) rfl (Steps.refl _) (by rw [hT]; exact hcell) (by rw [hv]; rfl) (by obtain ⟨k9, h9, -⟩ := Vm.findClass_spec hcl; exact ⟨k9, h9⟩) pre x suf hsplit
    (fun z hz => by
      rcases hpass z hz with h | ⟨hz0, nm, hl1, hn1⟩
      · exact Or.inl h
      · obtain ⟨c6, hc6, hcl6⟩ := Cond.classLink_spec hown hl1 e.platform hpl
        obtain ⟨a8, b8, h1, h2, h3⟩ := hn1
        cases Option.some.inj (h1.symm.trans hcl)
        cases Option.some.inj (h2.symm.trans hc6)
        exact Or.inr ⟨hz0, _, hcl6, h3⟩) hx (Or.inr ⟨h0, c4, hcl5, hasg⟩)
  obtain ⟨t, a1, b1⟩ := kk (T.setVm vm') hT X'
  exact ⟨t, st.trans a1, b1⟩
end Rows
section Ends
variable {p : Program} {l : Launch} {e : Env} {R : Room} {s : State} {m : MethodId} {args : Array Value} {below : List Frame} {meth : Method} {c : Code} {H : Heap} {locs : List Loc} {cells slots : Nat} {Q : State → Prop}
variable {mc ms : Nat} {free : Addr → Prop} {A0 A1 : Nat → Prop} {H0 : Heap} {a : Array Value} {ls : Array Slot} {st0 rest : List Value}
variable {Qc : Array Value → State → Outcome → State → Prop} {XC : String → State → State → Prop}
/-- what a body that may throw owes at its end -/
def vx_MQ (below : List Frame) (Qc : Array Value → State → Outcome → State → Prop) (XC : String → State → State → Prop) (a : Array Value) (s : State) (mc ms : Nat) (free : Addr → Prop) : State → Prop := fun t =>
  ∃ o, t.status = .running ∧ Ended t below o ∧ vx_Q Qc XC mc ms free a s o t
theorem vx_ret {g : JFrame} {mc ms : Nat} (k : W p l e R s m args below meth c H locs cells slots (MQ below Qc args s mc ms free) g) : W p l e R s m args below meth c H locs cells slots (vx_MQ below Qc XC args s mc ms free) g := by
  intro T hT X
  obtain ⟨t, a1, o, b1, b2, b3, b4⟩ := k T hT X
  exact ⟨t, a1, o, b1, b2, Or.inl ⟨b3, b4⟩⟩
/-- not caught here: it goes on to the caller -/
theorem vx_widen {g : JFrame} {q : Addr} {k n : Nat} (h1 : cells ≤ k) (h2 : slots ≤ n) (kk : vx_W p l e R s m args below meth c H locs k n Q g q) : vx_W p l e R s m args below meth c H locs cells slots Q g q := fun T hT X => kk T hT (stand_widen X h1 h2)
theorem vx_out {pc : Nat} {E : String} {ce : Cell} {q : Addr} {mc ms : Nat} (hout : ∀ x ∈ c.exceptionTable.toList, covers x pc = false) (hlocks : meth.locks = false) (hcell : H[q]? = some ce) (hv : ce.vm = .none) (hcl : s.vm.findClass E = some ce.cls)
    (hx : ∀ t : State, t.heap = H → s.vm.Alike t.vm → XC E s t) (hf : ∀ z ∈ locs, free z.base) (hc : cells ≤ mc) (hs : slots ≤ ms) :
    vx_W p l e R s m args below meth c H locs cells slots (vx_MQ below Qc XC args s mc ms free) (F0 m pc ls rest) q := by
  intro T hT X
  obtain ⟨st1, hrun, hend, hW, hsm⟩ := X.leaveThrown q (g := F0 m pc ls rest) rfl rfl rfl hout hlocks
  have hcell9 : (T.setFrames (.throwing q :: below)).heap[q]? = some ce := by
    show T.heap[q]? = some ce
    rw [hT]; exact hcell
  exact ⟨_, st1, .threw q, hrun, hend, Or.inr ⟨q, rfl, E, ce, locs, hx _ hT hW.alike, hcell9, hv, hcl, hW, hsm.mono hc hs, hf⟩⟩
theorem vx_frame {U : State} {k n : Nat} (h : s.sameButNew ({ U with vm := s.vm } : State) locs k n) : s.heap.size ≤ U.heap.size ∧ ∀ q : Nat, q < s.heap.size → (∀ z ∈ locs, z.base ≠ q) → U.heap[q]? = s.heap[q]? := by
  obtain ⟨-, h2, -, -, -, h6⟩ := h
  refine ⟨h2, fun q hq hz => ?_⟩
  obtain ⟨c9, e1, e2, e3, e4⟩ := h6 q _ (Array.getElem?_eq_getElem hq)
  have hs : c9.slots = (s.heap[q]).slots := Array.ext_getElem? fun i => e4 i fun hm => hz _ hm rfl
  have h9 : c9 = s.heap[q] := by
    rw [hs] at e2
    exact e2
  have e5 : U.heap[q]? = some c9 := e1
  rw [e5, h9, Array.getElem?_eq_getElem hq]
/-- the words of a throw but the four that speak of the heap -/
def vx_no (w : Cond) : Bool := decide (w ≠ .isRef (.static Bundle.tN "UNASSIGNED_STACK" Bundle.steD)) && decide (w ≠ .isRef (.static Bundle.tN "SUPPRESSED_SENTINEL" Bundle.listD)) && decide (w ≠ .laysStatic Bundle.tN "UNASSIGNED_STACK" Bundle.steD) && decide (w ≠ .laysStatic Bundle.tN "SUPPRESSED_SENTINEL" Bundle.listD)
def vx_at0 (own : String) (ic : Nat) (X : String) (names : List String) : List Cond := (Bundle.ownAtoms0 own ic X names).filter vx_no
def vx_atS (own : String) (ic : Nat) (X : String) (names : List String) : List Cond := (Bundle.ownAtoms own ic X names).filter vx_no
/-- a word that the tables alone decide, or a good one -/
def vx_ot (w : Cond) : Bool := w.onTables || goodWord w
theorem vx_ot_at {args a' : Array Value} {s U : State} {w : Cond} (hW : s.WarmedH U.vm) (hvm : s.vm = U.vm) (hg : vx_ot w = true) (h : w.before args s = true) : w.before a' U = true := by
  simp only [vx_ot, Bool.or_eq_true] at hg
  rcases hg with hg | hg
  · exact va_tabs hg hvm h
  · exact word_at hW (good_of_word hg) h
/-- a list's words: the good ones out of the method's own list, the others by premises of their own -/
theorem vx_hat {args : Array Value} {s : State} {L B : List Cond} (h1 : ∀ w ∈ L.filter goodWord, w.before args s = true) (h2 : ∀ w ∈ L.filter (fun w => !goodWord w), w ∈ B) (h3 : ∀ w ∈ B, w.before args s = true) : ∀ w ∈ L, w.before args s = true := by
  intro w hw
  by_cases g : goodWord w = true
  · exact h1 w (List.mem_filter.mpr ⟨hw, g⟩)
  · refine h3 w (h2 w (List.mem_filter.mpr ⟨hw, ?_⟩))
    show (!goodWord w) = true
    cases hgw : goodWord w
    · rfl
    · exact absurd hgw g
theorem vx_c {args : Array Value} {s : State} {w : Cond} {B : List Cond} (h : w.before args s = true) (t : ∀ w ∈ B, w.before args s = true) : ∀ w' ∈ w :: B, w'.before args s = true := fun w' h' => (List.mem_cons.mp h').elim (fun e => by rw [e]; exact h) (t w')
theorem vx_n {args : Array Value} {s : State} : ∀ w ∈ ([] : List Cond), w.before args s = true := fun _ h => nomatch h
theorem vx_own {args : Array Value} {s : State} {L : List Cond} (h1 : ∀ w ∈ L.filter vx_no, w.before args s = true)
    (hU : (Cond.isRef (.static Bundle.tN "UNASSIGNED_STACK" Bundle.steD)).before args s = true) (hN : (Cond.isRef (.static Bundle.tN "SUPPRESSED_SENTINEL" Bundle.listD)).before args s = true)
    (lU : (Cond.laysStatic Bundle.tN "UNASSIGNED_STACK" Bundle.steD).before args s = true) (lN : (Cond.laysStatic Bundle.tN "SUPPRESSED_SENTINEL" Bundle.listD).before args s = true) : ∀ w ∈ L, w.before args s = true := by
  intro w hw
  by_cases e1 : w = .isRef (.static Bundle.tN "UNASSIGNED_STACK" Bundle.steD)
  · rw [e1]; exact hU
  · by_cases e2 : w = .isRef (.static Bundle.tN "SUPPRESSED_SENTINEL" Bundle.listD)
    · rw [e2]; exact hN
    · by_cases e3 : w = .laysStatic Bundle.tN "UNASSIGNED_STACK" Bundle.steD
      · rw [e3]; exact lU
      · by_cases e4 : w = .laysStatic Bundle.tN "SUPPRESSED_SENTINEL" Bundle.listD
        · rw [e4]; exact lN
        · exact h1 w (List.mem_filter.mpr ⟨hw, by unfold vx_no; rw [decide_eq_true e1, decide_eq_true e2, decide_eq_true e3, decide_eq_true e4]; rfl⟩)
/-- where a static field lies, its class's statics cell in H -/
def vx_L (C n d : String) (A : Nat → Prop) (U : State) (H : Heap) : Prop := ∃ (c : ClassId) (k : Class) (i : Nat) (f : Field) (a : Nat) (cell : Cell), U.vm.findClass C = some c ∧ U.fieldFound? C n d = some (c, k, i, f) ∧ f.isStatic = true ∧ k.statics = some a ∧ H[a]? = some cell ∧ cell.vm.isStatics = true ∧ cell.cls = c ∧ f.slot < cell.slots.size ∧ k.staticTypes[f.slot]? = some f.type ∧ ¬ A a
theorem vx_L.moved {C n d : String} {A : Nat → Prop} {u U : State} {H : Heap} (hvm : u.vm.Alike U.vm) (h : vx_L C n d A u H) : vx_L C n d A U H := by
  obtain ⟨c, k, i, f, a, cell, h1, h2, h3, h4, h5, h6, h7, h8, h9, h10⟩ := h
  obtain ⟨k', hi', he⟩ := State.fieldFound?_setVm hvm h2
  exact ⟨c, k', i, f, a, cell, by rw [hvm.findClass]; exact h1, hi', h3, by rw [he]; exact h4, h5, h6, h7, h8, by rw [he]; exact h9, h10⟩
theorem vx_L.kept {C n d : String} {A : Nat → Prop} {U : State} {H H1 : Heap} (h : vx_L C n d A U H) (hq : ∀ a : Nat, a < H.size → ¬ A a → H1[a]? = H[a]?) : vx_L C n d A U H1 := by
  obtain ⟨c, k, i, f, a, cell, h1, h2, h3, h4, h5, h6, h7, h8, h9, h10⟩ := h
  exact ⟨c, k, i, f, a, cell, h1, h2, h3, h4, by rw [hq a (Array.getElem?_eq_some_iff.mp h5).1 h10]; exact h5, h6, h7, h8, h9, h10⟩
theorem vx_L.narrow {C n d : String} {A B : Nat → Prop} {U : State} {H : Heap} (h : vx_L C n d A U H) (hAB : ∀ q, B q → A q) : vx_L C n d B U H := by
  obtain ⟨c, k, i, f, a, cell, h1, h2, h3, h4, h5, h6, h7, h8, h9, h10⟩ := h
  exact ⟨c, k, i, f, a, cell, h1, h2, h3, h4, h5, h6, h7, h8, h9, fun z => h10 (hAB _ z)⟩
theorem vx_L.word {C n d : String} {A : Nat → Prop} {s : State} {args : Array Value} (h : vx_L C n d A s s.heap) : (Cond.laysStatic C n d).before args s = true := by
  obtain ⟨c, k, i, f, a, cell, h1, h2, h3, h4, h5, h6, h7, h8, h9, -⟩ := h
  show (Cond.laysStatic C n d).holds args s none s [] = true
  exact Cond.laysStatic_of h1 h2 h3 h4 h5 h6 h7 h8 h9
/-- .. and what it holds: null or some reference -/
def vx_Zq (C n d : String) (A : Nat → Prop) (U : State) (H : Heap) : Prop := va_Zq C n d A U H ∧ vx_L C n d A U H
theorem vx_Zq.moved {C n d : String} {A : Nat → Prop} {u U : State} {H : Heap} (hvm : u.vm.Alike U.vm) (h : vx_Zq C n d A u H) : vx_Zq C n d A U H := ⟨va_Zq.moved hvm h.1, vx_L.moved hvm h.2⟩
theorem vx_Zq.kept {C n d : String} {A : Nat → Prop} {U : State} {H H1 : Heap} (h : vx_Zq C n d A U H) (hq : ∀ a : Nat, a < H.size → ¬ A a → H1[a]? = H[a]?) : vx_Zq C n d A U H1 := ⟨va_Zq.kept h.1 hq, vx_L.kept h.2 hq⟩
theorem vx_Zq.narrow {C n d : String} {A B : Nat → Prop} {U : State} {H : Heap} (h : vx_Zq C n d A U H) (hAB : ∀ q, B q → A q) : vx_Zq C n d B U H := ⟨va_Zq.narrow h.1 hAB, vx_L.narrow h.2 hAB⟩
theorem vx_Zqof {args : Array Value} {s : State} {C n d : String} {A : Nat → Prop} (hl : (Cond.laysStatic C n d).before args s = true) (hini : (Cond.initialized C).before args s = true) (h : (Cond.isRef (.static C n d)).before args s = true) (hA : ∀ a : Nat, a < s.heap.size → ¬ A a) : vx_Zq C n d A s s.heap := by
  refine ⟨va_Zqof hl hini h hA, ?_⟩
  obtain ⟨c, k, i, f, a, cell, h1, h2, h3, h4, h5, h6, h7, h8, h9⟩ := Cond.laysStatic_spec hl
  exact ⟨c, k, i, f, a, cell, h1, h2, h3, h4, h5, h6, h7, h8, h9, hA a (Array.getElem?_eq_some_iff.mp h5).1⟩
theorem vx_isRef {C n d : String} {v : Value} {A : Nat → Prop} {s : State} {args : Array Value} (h : va_Z C n d v A s s.heap) (hv : v.isRef = true) : (Cond.isRef (.static C n d)).before args s = true := by
  obtain ⟨cf, kf, fi, f, a, cell, h1, h2, h3, h4, h5, h6, h7, -⟩ := h
  have he : (Term.static C n d).eval args s none [] s = some v := by
    simp [Term.eval, State.fieldNamed?, h1, h2, h4, h5, h6, h7]
  simp only [Cond.before, Cond.holds, Cond.value, he]
  cases v <;> simp_all [Value.isRef]
theorem vx_isRefq {C n d : String} {A : Nat → Prop} {s : State} {args : Array Value} (h : va_Zq C n d A s s.heap) : (Cond.isRef (.static C n d)).before args s = true := by
  rcases h with h | ⟨t, h⟩
  · exact vx_isRef h rfl
  · exact vx_isRef h rfl
/-- the same frame, seen from here: as if the method were called anew in this heap -/
theorem vx_rebase {T : State} (X : Stand p l e R s m args below meth c T locs cells slots) {R' : Room} (hf : R'.frames ≤ R.frames) (hl : R'.locals ≤ R.locals) (hc : cells + R'.cells ≤ R.cells) (hs : slots + R'.slots ≤ R.slots) :
    Stand p l e R' ((T.setVm s.vm).setFrames (.invoking m args :: below)) m args below meth c T [] 0 0 := by
  have htop : (T.setVm s.vm).topJava?.isSome := X.here.top
  have hF : ((T.setVm s.vm).setFrames (.invoking m args :: below)).frames = .invoking m args :: below := State.frames_setFrames _ (State.cur_lt_of_top htop)
  obtain ⟨g₀, hg0⟩ := Option.isSome_iff_exists.mp htop
  obtain ⟨r, hr⟩ := State.topJava?_eq_some.mp hg0
  have hl9 : e.platform.stackLimits (T.setVm s.vm).me = e.platform.stackLimits s.me := X.limits
  have hb9 : (T.setVm s.vm).me.stackBytes = s.me.stackBytes := X.bytes
  refine ⟨X.admits, X.cas, X.clock, hF, ?_, X.hears, X.method, X.code, X.here, X.tail, X.warmed, ?_, ?_, ?_⟩
  · have h := X.room
    have hU : ((T.setVm s.vm).setFrames (.invoking m args :: below)).localsInUse = s.localsInUse := by
      rw [State.localsInUse_invoking hF (meth := meth) (c := c) X.method X.code, State.localsInUse_invoking X.frames X.method X.code]
    simp only [State.hasRoom, Bool.and_eq_true, decide_eq_true_eq] at h ⊢
    obtain ⟨⟨⟨⟨h1, h2, h3, h4, h5, h6⟩, h7⟩, h8⟩, h9⟩ := h
    rw [X.frames, List.length_cons] at h2 h3
    have q1 := X.heapSize
    have q2 := X.used
    simp only [hF, hU, List.length_cons, State.stackLimits_setFrames, State.stackBytes_setFrames, hl9, hb9]
    refine ⟨⟨⟨⟨by omega, by omega, by omega, by omega, by omega, h6⟩, ?_⟩, ?_⟩, X.book⟩
    · show T.heap.size + R'.cells ≤ e.platform.maxCells
      omega
    · show T.slotsUsed + R'.slots ≤ e.platform.maxSlots
      omega
  · rw [State.stackLimits_setFrames]; rfl
  · rw [State.stackBytes_setFrames]; rfl
  · refine ⟨?_, Nat.le_refl _, Nat.le_refl _, ?_, ?_, fun a c9 h9 => ⟨c9, h9, rfl, rfl, fun _ _ => rfl⟩⟩
    · obtain ⟨t, ht, -⟩ := State.frames_cons hr
      show T.setVm s.vm = { ((T.setVm s.vm).setFrames (.invoking m args :: below)).setFrames (T.setVm s.vm).frames with heap := T.heap, slotsUsed := T.slotsUsed }
      rw [State.setFrames_setFrames, State.setFrames_self ht]
      rfl
    · show T.slotsUsed = T.slotsUsed + ((T.heap.toList.drop T.heap.size).map (·.slots.size)).sum
      rw [List.drop_eq_nil_of_le (Nat.le_of_eq Array.length_toList)]
      rfl
    · show ((T.heap.toList.drop T.heap.size).map (·.slots.size)).sum ≤ 0
      rw [List.drop_eq_nil_of_le (Nat.le_of_eq Array.length_toList)]
      exact Nat.le_refl _
/-- 'throw new E()': new; dup; invokespecial; athrow -/
theorem vx_throw0 {cc : ByteArray} {pc : Nat} (hexec : p.tables.exec = Jvm.exec) (hb : c.code = cc) (hl : l.stackTraces = false) {own cls : String} {names : List String} {ik ic mc ms : Nat} {A : Nat → Prop}
    (hown : s.vm.findClass own = some m.cls) (hcls : Bundle.fit cls = true) (hnames : ∀ n ∈ names, Bundle.fit n = true)
    (hk : (Cond.classLink own ik cls).before args s = true) (hini : (Cond.initialized cls).before args s = true) (hat : ∀ w ∈ vx_at0 own ic cls names, w.before args s = true)
    (hgood : ∀ w ∈ Cond.classLink own ik cls :: Cond.initialized cls :: vx_at0 own ic cls names, vx_ot w = true)
    (hU : vx_Zq Bundle.tN "UNASSIGNED_STACK" Bundle.steD A s s.heap) (hN : vx_Zq Bundle.tN "SUPPRESSED_SENTINEL" Bundle.listD A s s.heap) (hS : va_S A s.heap H locs) (hsize : ls.size = c.maxLocals)
    (d0 : decode cc pc = .ok (.new ik, 3)) (d3 : decode cc (pc + 3) = .ok (.dup, 1)) (d4 : decode cc (pc + 4) = .ok (.invokespecial ic, 3)) (d7 : decode cc (pc + 7) = .ok (.athrow, 1))
    (hout : ∀ x ∈ c.exceptionTable.toList, covers x (pc + 7) = false)
    (hRframes : names.length + 3 < R.frames) (hRlocals : (rest.map fun v => v.category).sum + (13 * (names.length + 1) + 42) ≤ R.locals) (hRcells : cells + 1 ≤ R.cells) (hRslots : slots + 6 ≤ R.slots) (hlocks : meth.locks = false)
    (hx : ∀ t : State, s.vm.Alike t.vm → H.size ≤ t.heap.size → (∀ q : Nat, q < H.size → t.heap[q]? = H[q]?) → XC cls s t)
    (hf : ∀ z ∈ locs, free z.base) (hc : cells + 1 ≤ mc) (hs : slots + 6 ≤ ms) :
    W p l e R s m args below meth c H locs cells slots (vx_MQ below Qc XC args s mc ms free) (F0 m pc ls rest) := by
  intro T hT X
  have htr : e.platform.stackTraces = false := (show e.platform.stackTraces = l.stackTraces by rw [X.admits.platform]).trans hl
  have Y := vx_rebase X (R' := { frames := R.frames, locals := R.locals, cells := 1, slots := 6 }) (Nat.le_refl _) (Nat.le_refl _) hRcells hRslots
  obtain ⟨s', hA⟩ : ∃ z, z = (T.setVm s.vm).setFrames (.invoking m args :: below) := ⟨_, rfl⟩
  rw [← hA] at Y
  have hvm : s'.vm = s.vm := by rw [hA]; rfl
  have hhp : s'.heap = H := by rw [hA]; exact hT
  have hW0 : s.WarmedH s'.vm := by rw [hvm]; exact State.WarmedH.refl s
  have hat' : ∀ w ∈ vx_at0 own ic cls names, w.before args s' = true := fun w hw => vx_ot_at hW0 hvm.symm (hgood w (List.mem_cons_of_mem _ (List.mem_cons_of_mem _ hw))) (hat w hw)
  have hk' : (Cond.classLink own ik cls).before args s' = true := vx_ot_at hW0 hvm.symm (hgood _ List.mem_cons_self) hk
  have hini' : (Cond.initialized cls).before args s' = true := vx_ot_at hW0 hvm.symm (hgood _ (List.mem_cons_of_mem _ List.mem_cons_self)) hini
  have hU' : vx_Zq Bundle.tN "UNASSIGNED_STACK" Bundle.steD A s' s'.heap := by rw [hhp]; exact vx_Zq.moved hW0.alike (hU.kept hS.2.1)
  have hN' : vx_Zq Bundle.tN "SUPPRESSED_SENTINEL" Bundle.listD A s' s'.heap := by rw [hhp]; exact vx_Zq.moved hW0.alike (hN.kept hS.2.1)
  have h : ∀ w ∈ Bundle.ownAtoms0 own ic cls names, w.before args s' = true := vx_own hat' (vx_isRefq hU'.1) (vx_isRefq hN'.1) hU'.2.word hN'.2.word
  have hown' : s'.vm.findClass own = some m.cls := by rw [hvm]; exact hown
  have hins : (Cond.instantiable cls 6).before args s' = true := h _ (by simp [Bundle.ownAtoms0])
  obtain ⟨vm₁, cX, kX, hfX, hkX, -, -, X₁, st1⟩ := Y.newCold hexec (own := own) (C := cls) (index := ik) (n := 6) hown' hk' hins hini'
    (g := F0 m pc ls rest) rfl (by rw [hb]; exact d0) (Nat.le_refl _) (Nat.le_refl _)
  generalize hT1 : (T.setVm vm₁).pushCell { cls := cX, slots := kX.instanceTypes.map defaultValue, vm := .none } = T1 at X₁ st1
  have hcat : (Value.ref T.heap.size).category = 1 := rfl
  have hcellA : T1.heap[T.heap.size]? = some (freshCell cX kX) := by rw [← hT1]; exact State.heap_pushCell_size _ _
  have d3' : decode c.code (pc + 3) = .ok (.dup, 1) := by rw [hb]; exact d3
  obtain ⟨U, hsteps, hrun, hend, hW, hsame, ce, hce, hO⟩ := X₁.ctorThrow0 hexec htr (own := own) (cls := cls) (names := names) (ic := ic) hown' hcls hnames h (fun x hx => nomatch hx) hfX hkX hcellA (by rw [hhp, hT]; exact Nat.le_refl _)
    (g := { method := m, pc := pc + 4, locals := ls, stack := .ref T.heap.size :: .ref T.heap.size :: rest, locked := none }) rfl hsize rfl rfl (rest := rest) rfl
    (by rw [hb]; exact d4) (by rw [hb]; exact d7) hout hRframes (by simp only [List.map_cons, List.sum_cons, hcat]; omega) hlocks
  obtain ⟨f1, f2⟩ := vx_frame hsame
  rw [hhp] at f1 f2
  have hWs : s.WarmedH U.vm := State.WarmedH.trans hW0 hW
  have hcl : s.vm.findClass cls = some ce.cls := by
    have h9 := hO.cls
    rw [hvm] at h9
    exact h9
  have hall : s.sameButNew ({ U with vm := s.vm } : State) locs mc ms := by
    subst hA
    obtain ⟨e1, e2⟩ := hsame
    rw [State.setFrames_setFrames] at e1
    have h2 : (T.setVm s.vm).sameButNew ({ U with vm := s.vm } : State) [] (0 + 1) (0 + 6) := ⟨e1, e2⟩
    have h3 := X.same.trans h2
    rw [List.append_nil] at h3
    exact h3.mono hc hs
  refine ⟨U, ?_, .threw T.heap.size, hrun, hend, Or.inr ⟨T.heap.size, rfl, cls, ce, locs, hx U hWs.alike f1 (fun q hq => f2 q hq (fun z hz => nomatch hz)), hce, hO.vm, hcl, hWs, hall, hf⟩⟩
  refine st1 _ ?_
  show Steps p.tables e below (T1.setTop { method := m, pc := pc + 3, locals := ls, stack := .ref T.heap.size :: rest, locked := none }) _
  jvm_step X₁.here [X₁.here.top, hexec, d3', Value.category]
  exact hsteps
/-- 'throw new E("text")': new; dup; ldc; invokespecial; athrow -/
theorem vx_throwS {cc : ByteArray} {pc : Nat} (hexec : p.tables.exec = Jvm.exec) (hb : c.code = cc) (hl : l.stackTraces = false) {own cls text : String} {names : List String} {ik is ic mc ms sa : Nat} {A : Nat → Prop}
    (hown : s.vm.findClass own = some m.cls) (hcls : Bundle.fit cls = true) (hnames : ∀ n ∈ names, Bundle.fit n = true)
    (hk : (Cond.classLink own ik cls).before args s = true) (hini : (Cond.initialized cls).before args s = true) (hstr : vk_R own is text sa s) (hat : ∀ w ∈ vx_atS own ic cls names, w.before args s = true)
    (hgood : ∀ w ∈ Cond.classLink own ik cls :: Cond.initialized cls :: vx_atS own ic cls names, vx_ot w = true)
    (hU : vx_Zq Bundle.tN "UNASSIGNED_STACK" Bundle.steD A s s.heap) (hN : vx_Zq Bundle.tN "SUPPRESSED_SENTINEL" Bundle.listD A s s.heap) (hS : va_S A s.heap H locs) (hsize : ls.size = c.maxLocals)
    (d0 : decode cc pc = .ok (.new ik, 3)) (d3 : decode cc (pc + 3) = .ok (.dup, 1)) (d4 : decode cc (pc + 4) = .ok (.ldc is, 2)) (d6 : decode cc (pc + 6) = .ok (.invokespecial ic, 3)) (d9 : decode cc (pc + 9) = .ok (.athrow, 1))
    (hout : ∀ x ∈ c.exceptionTable.toList, covers x (pc + 9) = false)
    (hRframes : names.length + 3 < R.frames) (hRlocals : (rest.map fun v => v.category).sum + (13 * (names.length + 1) + 43) ≤ R.locals) (hRcells : cells + 1 ≤ R.cells) (hRslots : slots + 6 ≤ R.slots) (hlocks : meth.locks = false)
    (hx : ∀ t : State, s.vm.Alike t.vm → H.size ≤ t.heap.size → (∀ q : Nat, q < H.size → t.heap[q]? = H[q]?) → XC cls s t)
    (hf : ∀ z ∈ locs, free z.base) (hc : cells + 1 ≤ mc) (hs : slots + 6 ≤ ms) :
    W p l e R s m args below meth c H locs cells slots (vx_MQ below Qc XC args s mc ms free) (F0 m pc ls rest) := by
  intro T hT X
  have htr : e.platform.stackTraces = false := (show e.platform.stackTraces = l.stackTraces by rw [X.admits.platform]).trans hl
  have Y := vx_rebase X (R' := { frames := R.frames, locals := R.locals, cells := 1, slots := 6 }) (Nat.le_refl _) (Nat.le_refl _) hRcells hRslots
  obtain ⟨s', hA⟩ : ∃ z, z = (T.setVm s.vm).setFrames (.invoking m args :: below) := ⟨_, rfl⟩
  rw [← hA] at Y
  have hvm : s'.vm = s.vm := by rw [hA]; rfl
  have hhp : s'.heap = H := by rw [hA]; exact hT
  have hW0 : s.WarmedH s'.vm := by rw [hvm]; exact State.WarmedH.refl s
  have hat' : ∀ w ∈ vx_atS own ic cls names, w.before args s' = true := fun w hw => vx_ot_at hW0 hvm.symm (hgood w (List.mem_cons_of_mem _ (List.mem_cons_of_mem _ hw))) (hat w hw)
  have hk' : (Cond.classLink own ik cls).before args s' = true := vx_ot_at hW0 hvm.symm (hgood _ List.mem_cons_self) hk
  have hini' : (Cond.initialized cls).before args s' = true := vx_ot_at hW0 hvm.symm (hgood _ (List.mem_cons_of_mem _ List.mem_cons_self)) hini
  have hU' : vx_Zq Bundle.tN "UNASSIGNED_STACK" Bundle.steD A s' s'.heap := by rw [hhp]; exact vx_Zq.moved hW0.alike (hU.kept hS.2.1)
  have hN' : vx_Zq Bundle.tN "SUPPRESSED_SENTINEL" Bundle.listD A s' s'.heap := by rw [hhp]; exact vx_Zq.moved hW0.alike (hN.kept hS.2.1)
  have h : ∀ w ∈ Bundle.ownAtoms own ic cls names, w.before args s' = true := vx_own hat' (vx_isRefq hU'.1) (vx_isRefq hN'.1) hU'.2.word hN'.2.word
  have hown' : s'.vm.findClass own = some m.cls := by rw [hvm]; exact hown
  have hins : (Cond.instantiable cls 6).before args s' = true := h _ (by simp [Bundle.ownAtoms])
  obtain ⟨vm₁, cX, kX, hfX, hkX, -, -, X₁, st1⟩ := Y.newCold hexec (own := own) (C := cls) (index := ik) (n := 6) hown' hk' hins hini'
    (g := F0 m pc ls rest) rfl (by rw [hb]; exact d0) (Nat.le_refl _) (Nat.le_refl _)
  generalize hT1 : (T.setVm vm₁).pushCell { cls := cX, slots := kX.instanceTypes.map defaultValue, vm := .none } = T1 at X₁ st1
  have hcat : (Value.ref T.heap.size).category = 1 := rfl
  have hcellA : T1.heap[T.heap.size]? = some (freshCell cX kX) := by rw [← hT1]; exact State.heap_pushCell_size _ _
  have d3' : decode c.code (pc + 3) = .ok (.dup, 1) := by rw [hb]; exact d3
  have d4' : decode c.code (pc + 4) = .ok (.ldc is, 2) := by rw [hb]; exact d4
  have hstr' : vk_R own is text sa s' := vk_R.warm hW0 hstr
  obtain ⟨U, hsteps, hrun, hend, hW, hsame, ce, hce, hO⟩ := X₁.ctorThrowS hexec htr (own := own) (cls := cls) (names := names) (ic := ic) hown' hcls hnames h (fun x hx => nomatch hx) hfX hkX hcellA (by rw [hhp, hT]; exact Nat.le_refl _) (msg := .ref sa) rfl
    (g := { method := m, pc := pc + 6, locals := ls, stack := .ref sa :: .ref T.heap.size :: .ref T.heap.size :: rest, locked := none }) rfl hsize rfl rfl (rest := rest) rfl
    (by rw [hb]; exact d6) (by rw [hb]; exact d9) hout hRframes (by simp only [List.map_cons, List.sum_cons, hcat]; omega) hlocks
  obtain ⟨f1, f2⟩ := vx_frame hsame
  rw [hhp] at f1 f2
  have hWs : s.WarmedH U.vm := State.WarmedH.trans hW0 hW
  have hcl : s.vm.findClass cls = some ce.cls := by
    have h9 := hO.cls
    rw [hvm] at h9
    exact h9
  have hall : s.sameButNew ({ U with vm := s.vm } : State) locs mc ms := by
    subst hA
    obtain ⟨e1, e2⟩ := hsame
    rw [State.setFrames_setFrames] at e1
    have h2 : (T.setVm s.vm).sameButNew ({ U with vm := s.vm } : State) [] (0 + 1) (0 + 6) := ⟨e1, e2⟩
    have h3 := X.same.trans h2
    rw [List.append_nil] at h3
    exact h3.mono hc hs
  refine ⟨U, ?_, .threw T.heap.size, hrun, hend, Or.inr ⟨T.heap.size, rfl, cls, ce, locs, hx U hWs.alike f1 (fun q hq => f2 q hq (fun z hz => nomatch hz)), hce, hO.vm, hcl, hWs, hall, hf⟩⟩
  refine st1 _ ?_
  show Steps p.tables e below (T1.setTop { method := m, pc := pc + 3, locals := ls, stack := .ref T.heap.size :: rest, locked := none }) _
  jvm_step X₁.here [X₁.here.top, hexec, d3', Value.category]
  exact X₁.ldcString hexec (own := own) (text := text) (index := is) (a := sa) hown' hstr'.1 hstr'.2
    (g := { method := m, pc := pc + 4, locals := ls, stack := .ref T.heap.size :: .ref T.heap.size :: rest, locked := none }) rfl d4' _ hsteps
/-- 'throw new E("text")', the text by a wide index -/
theorem vx_throwSW {cc : ByteArray} {pc : Nat} (hexec : p.tables.exec = Jvm.exec) (hb : c.code = cc) (hl : l.stackTraces = false) {own cls text : String} {names : List String} {ik is ic mc ms sa : Nat} {A : Nat → Prop}
    (hown : s.vm.findClass own = some m.cls) (hcls : Bundle.fit cls = true) (hnames : ∀ n ∈ names, Bundle.fit n = true)
    (hk : (Cond.classLink own ik cls).before args s = true) (hini : (Cond.initialized cls).before args s = true) (hstr : vk_R own is text sa s) (hat : ∀ w ∈ vx_atS own ic cls names, w.before args s = true)
    (hgood : ∀ w ∈ Cond.classLink own ik cls :: Cond.initialized cls :: vx_atS own ic cls names, vx_ot w = true)
    (hU : vx_Zq Bundle.tN "UNASSIGNED_STACK" Bundle.steD A s s.heap) (hN : vx_Zq Bundle.tN "SUPPRESSED_SENTINEL" Bundle.listD A s s.heap) (hS : va_S A s.heap H locs) (hsize : ls.size = c.maxLocals)
    (d0 : decode cc pc = .ok (.new ik, 3)) (d3 : decode cc (pc + 3) = .ok (.dup, 1)) (d4 : decode cc (pc + 4) = .ok (.ldc_w is, 3)) (d7 : decode cc (pc + 7) = .ok (.invokespecial ic, 3)) (d10 : decode cc (pc + 10) = .ok (.athrow, 1))
    (hout : ∀ x ∈ c.exceptionTable.toList, covers x (pc + 10) = false)
    (hRframes : names.length + 3 < R.frames) (hRlocals : (rest.map fun v => v.category).sum + (13 * (names.length + 1) + 43) ≤ R.locals) (hRcells : cells + 1 ≤ R.cells) (hRslots : slots + 6 ≤ R.slots) (hlocks : meth.locks = false)
    (hx : ∀ t : State, s.vm.Alike t.vm → H.size ≤ t.heap.size → (∀ q : Nat, q < H.size → t.heap[q]? = H[q]?) → XC cls s t)
    (hf : ∀ z ∈ locs, free z.base) (hc : cells + 1 ≤ mc) (hs : slots + 6 ≤ ms) :
    W p l e R s m args below meth c H locs cells slots (vx_MQ below Qc XC args s mc ms free) (F0 m pc ls rest) := by
  intro T hT X
  have htr : e.platform.stackTraces = false := (show e.platform.stackTraces = l.stackTraces by rw [X.admits.platform]).trans hl
  have Y := vx_rebase X (R' := { frames := R.frames, locals := R.locals, cells := 1, slots := 6 }) (Nat.le_refl _) (Nat.le_refl _) hRcells hRslots
  obtain ⟨s', hA⟩ : ∃ z, z = (T.setVm s.vm).setFrames (.invoking m args :: below) := ⟨_, rfl⟩
  rw [← hA] at Y
  have hvm : s'.vm = s.vm := by rw [hA]; rfl
  have hhp : s'.heap = H := by rw [hA]; exact hT
  have hW0 : s.WarmedH s'.vm := by rw [hvm]; exact State.WarmedH.refl s
  have hat' : ∀ w ∈ vx_atS own ic cls names, w.before args s' = true := fun w hw => vx_ot_at hW0 hvm.symm (hgood w (List.mem_cons_of_mem _ (List.mem_cons_of_mem _ hw))) (hat w hw)
  have hk' : (Cond.classLink own ik cls).before args s' = true := vx_ot_at hW0 hvm.symm (hgood _ List.mem_cons_self) hk
  have hini' : (Cond.initialized cls).before args s' = true := vx_ot_at hW0 hvm.symm (hgood _ (List.mem_cons_of_mem _ List.mem_cons_self)) hini
  have hU' : vx_Zq Bundle.tN "UNASSIGNED_STACK" Bundle.steD A s' s'.heap := by rw [hhp]; exact vx_Zq.moved hW0.alike (hU.kept hS.2.1)
  have hN' : vx_Zq Bundle.tN "SUPPRESSED_SENTINEL" Bundle.listD A s' s'.heap := by rw [hhp]; exact vx_Zq.moved hW0.alike (hN.kept hS.2.1)
  have h : ∀ w ∈ Bundle.ownAtoms own ic cls names, w.before args s' = true := vx_own hat' (vx_isRefq hU'.1) (vx_isRefq hN'.1) hU'.2.word hN'.2.word
  have hown' : s'.vm.findClass own = some m.cls := by rw [hvm]; exact hown
  have hins : (Cond.instantiable cls 6).before args s' = true := h _ (by simp [Bundle.ownAtoms])
  obtain ⟨vm₁, cX, kX, hfX, hkX, -, -, X₁, st1⟩ := Y.newCold hexec (own := own) (C := cls) (index := ik) (n := 6) hown' hk' hins hini'
    (g := F0 m pc ls rest) rfl (by rw [hb]; exact d0) (Nat.le_refl _) (Nat.le_refl _)
  generalize hT1 : (T.setVm vm₁).pushCell { cls := cX, slots := kX.instanceTypes.map defaultValue, vm := .none } = T1 at X₁ st1
  have hcat : (Value.ref T.heap.size).category = 1 := rfl
  have hcellA : T1.heap[T.heap.size]? = some (freshCell cX kX) := by rw [← hT1]; exact State.heap_pushCell_size _ _
  have d3' : decode c.code (pc + 3) = .ok (.dup, 1) := by rw [hb]; exact d3
  have d4' : decode c.code (pc + 4) = .ok (.ldc_w is, 3) := by rw [hb]; exact d4
  have hstr' : vk_R own is text sa s' := vk_R.warm hW0 hstr
  obtain ⟨U, hsteps, hrun, hend, hW, hsame, ce, hce, hO⟩ := X₁.ctorThrowS hexec htr (own := own) (cls := cls) (names := names) (ic := ic) hown' hcls hnames h (fun x hx => nomatch hx) hfX hkX hcellA (by rw [hhp, hT]; exact Nat.le_refl _) (msg := .ref sa) rfl
    (g := { method := m, pc := pc + 7, locals := ls, stack := .ref sa :: .ref T.heap.size :: .ref T.heap.size :: rest, locked := none }) rfl hsize rfl rfl (rest := rest) rfl
    (by rw [hb]; exact d7) (by rw [hb]; exact d10) hout hRframes (by simp only [List.map_cons, List.sum_cons, hcat]; omega) hlocks
  obtain ⟨f1, f2⟩ := vx_frame hsame
  rw [hhp] at f1 f2
  have hWs : s.WarmedH U.vm := State.WarmedH.trans hW0 hW
  have hcl : s.vm.findClass cls = some ce.cls := by
    have h9 := hO.cls
    rw [hvm] at h9
    exact h9
  have hall : s.sameButNew ({ U with vm := s.vm } : State) locs mc ms := by
    subst hA
    obtain ⟨e1, e2⟩ := hsame
    rw [State.setFrames_setFrames] at e1
    have h2 : (T.setVm s.vm).sameButNew ({ U with vm := s.vm } : State) [] (0 + 1) (0 + 6) := ⟨e1, e2⟩
    have h3 := X.same.trans h2
    rw [List.append_nil] at h3
    exact h3.mono hc hs
  refine ⟨U, ?_, .threw T.heap.size, hrun, hend, Or.inr ⟨T.heap.size, rfl, cls, ce, locs, hx U hWs.alike f1 (fun q hq => f2 q hq (fun z hz => nomatch hz)), hce, hO.vm, hcl, hWs, hall, hf⟩⟩
  refine st1 _ ?_
  show Steps p.tables e below (T1.setTop { method := m, pc := pc + 3, locals := ls, stack := .ref T.heap.size :: rest, locked := none }) _
  jvm_step X₁.here [X₁.here.top, hexec, d3', Value.category]
  exact X₁.ldcStringW hexec (own := own) (text := text) (index := is) (a := sa) hown' hstr'.1 hstr'.2
    (g := { method := m, pc := pc + 4, locals := ls, stack := .ref T.heap.size :: .ref T.heap.size :: rest, locked := none }) rfl d4' _ hsteps
end Ends
section Bodies
variable {l : Launch}
theorem vx_ofW {y : MethodName} {ws ws' : List Cond} {rm : Room} {Pc : Array Value → State → Prop} {Qc : Array Value → State → Outcome → State → Prop} {XC : String → State → State → Prop} {mc ms : Nat} {free : Addr → Prop} {cc : ByteArray} {maxL : Nat} {ret : Option FieldType}
    (hy : plainName y.cls = true) (hw : ws = Cond.code y cc maxL ret :: ws')
    (body : ∀ p e s m args below meth c s₁, BodyLoose p l y (headSpec ws rm) cc maxL ret e s m args below meth c s₁ → c.maxLocals = maxL → (∀ x ∈ c.exceptionTable.toList, False) → Pc args s →
      W p l e (headSpec ws rm).room s m args below meth c s.heap [] 0 0 (vx_MQ below Qc XC args s mc ms free) (entryFrame m args maxL)) : vx_Met l y ws rm Pc Qc XC mc ms free := by
  refine MetFree.of_bodyS (code := cc) (maxLocals := maxL) (ret := ret) hy ?_ ?_
  · intro args s m h hn
    obtain ⟨meth, c, h1, h2, h3, h4, h5, h6, -, -⟩ := Cond.code_spec hn (atoms_spec (ws := ws) h _ (by rw [hw]; exact List.mem_cons_self))
    exact ⟨meth, c, h1, h2, h3, h4, h5, h6⟩
  · intro p e s m args below meth c s₁ B hml hP _
    have hh0 : s₁.heap = s.heap := by rw [B.state]; rfl
    have ht : ∀ x ∈ c.exceptionTable.toList, False := by
      obtain ⟨meth9, c9, h1, h2, -, -, -, -, h7, -⟩ := Cond.code_spec B.named (atoms_spec (ws := ws) B.pre _ (by rw [hw]; exact List.mem_cons_self))
      cases Option.some.inj (h1.symm.trans B.method)
      cases Option.some.inj (h2.symm.trans (Stand.of_body B).code)
      intro x hx
      rw [Array.isEmpty_iff.mp h7] at hx
      cases hx
    obtain ⟨t, a1, o, b1, b2, b3⟩ := body p e s m args below meth c s₁ B hml ht hP s₁ hh0 (Stand.of_body B)
    exact ⟨t, o, a1, b1, b2, b3⟩
/-- the table of a body with handlers -/
theorem vx_table {p : Program} {x y : MethodName} {S : Spec} {cc bytes : ByteArray} {maxL maxL' : Nat} {ret ret' : Option FieldType} {e : Env} {s s₁ : State} {m : MethodId} {args : Array Value} {below : List Frame} {meth : Method} {c : Code} {hh : List (Nat × Nat × Nat × Nat)}
    (B : BodyLoose p l y S cc maxL ret e s m args below meth c s₁) (h : (Cond.codeWith y bytes maxL' ret' hh).before args s = true) : c.exceptionTable.toList = tableOf hh := by
  obtain ⟨m9, meth9, c9, hn9, h1, h2, -, -, h6, -⟩ := Cond.codeWith_spec h
  cases Option.some.inj (hn9.symm.trans B.named)
  cases Option.some.inj (h1.symm.trans B.method)
  cases Option.some.inj (h2.symm.trans (Stand.of_body B).code)
  rw [← h6, table_eq]
end Bodies
end VXA
/-! ===== END ===== -/
/-! ===== BEGIN a static call of a method with an exception table ===== -/
section VXS
variable {p : Program} {l : Launch} {e : Env} {R : Room} {s : State} {m : MethodId} {args : Array Value} {below : List Frame} {meth : Method} {c : Code} {T : State} {H : Heap} {locs : List Loc} {cells slots : Nat}
abbrev vx_CSW (R : Room) (s : State) (args : Array Value) (own : String) (index : Nat) (y : MethodName) (bytes : ByteArray) (maxL : Nat) (ret : Option FieldType) (hh : List (Nat × Nat × Nat × Nat)) (ws : List Cond) (rm : Room) (mc ms n : Nat) : Prop :=
  (rm.cells = mc ∧ rm.slots = ms ∧ rm.frames + 1 ≤ R.frames ∧ 8 + (maxL + 11) + rm.locals ≤ R.locals ∧ (∀ w ∈ ws, ∀ (a' : Array Value) (U : State), s.WarmedH U.vm → w.before a' U = true) ∧ Cond.codeWith y bytes maxL ret hh ∈ ws) ∧
  (Cond.codeWith y bytes maxL ret hh).before args s = true ∧ (Cond.initialized y.cls).before args s = true ∧ (y.cls ≠ "java/lang/invoke/MethodHandle" ∧ y.cls ≠ "java/lang/invoke/VarHandle") ∧
  (∀ sig, parseMethodDescriptor y.desc = some sig → n = sig.parameters.length) ∧ (Cond.methodLink own index y).before args s = true ∧ (Cond.static y).before args s = true
theorem vx_cwSW {own : String} {index maxL mc ms : Nat} {y : MethodName} {bytes : ByteArray} {ret : Option FieldType} {hh : List (Nat × Nat × Nat × Nat)} {Ts ws ws' : List Cond} {rm : Room} (n : Nat) (ht : ∀ w ∈ Ts, w.before args s = true) (hT : GoodIn Ts (va_wsS own index y ws)) (hw : ws = Cond.codeWith y bytes maxL ret hh :: ws') (hrc : rm.cells = mc) (hrs : rm.slots = ms)
    (hd : y.cls ≠ "java/lang/invoke/MethodHandle" ∧ y.cls ≠ "java/lang/invoke/VarHandle" ∧ (parseMethodDescriptor y.desc).map (fun d => d.parameters.length) = some n) (hR : rm.frames + 1 ≤ R.frames ∧ 8 + (maxL + 11) + rm.locals ≤ R.locals) :
    vx_CSW R s args own index y bytes maxL ret hh ws rm mc ms n := by
  have ok : ∀ w ∈ va_wsS own index y ws, w.before args s = true := fun w h => ht w (hT w h).1
  have hG : GoodIn Ts ws := fun w h => hT w (by unfold va_wsS; exact List.mem_append_right _ h)
  have hc : Cond.codeWith y bytes maxL ret hh ∈ ws := by rw [hw]; exact List.mem_cons_self
  refine ⟨⟨hrc, hrs, hR.1, hR.2, pay_in ht hG, hc⟩, ht _ (hG _ hc).1, ok _ (by simp [va_wsS]), ⟨hd.1, hd.2.1⟩, fun sig h => ?_, ok _ (by simp [va_wsS]), ok _ (by simp [va_wsS])⟩
  have h2 := hd.2.2
  rw [h] at h2
  exact (Option.some.inj h2).symm
theorem vx_callSW (X : Stand p l e R s m args below meth c T locs cells slots) (hexec : p.tables.exec = Jvm.exec) {own : String} {index : Nat} {y : MethodName} {bytes : ByteArray} {maxL : Nat} {ret : Option FieldType} {hh : List (Nat × Nat × Nat × Nat)}
    (hown : s.vm.findClass own = some m.cls) (hlink : (Cond.methodLink own index y).before args s = true) (hstat : (Cond.static y).before args s = true) (hinit : (Cond.initialized y.cls).before args s = true)
    (hcode : (Cond.codeWith y bytes maxL ret hh).before args s = true) (hy : y.cls ≠ "java/lang/invoke/MethodHandle" ∧ y.cls ≠ "java/lang/invoke/VarHandle")
    {W9 : Nat} {Pre : Pt → Array Value → Prop} {Post : Pt → Array Value → Option Value → Pt → Prop} (hK : Back l R p e below s args y 3 W9 Pre Post)
    {g : JFrame} (hg : g.method = m) (hsize : g.locals.size = c.maxLocals) {argsL rest : List Value} (hlen : ∀ sig, parseMethodDescriptor y.desc = some sig → argsL.length = sig.parameters.length)
    (hstack : g.stack = argsL.reverse ++ rest) (hW : 2 * g.monitorRoom + (rest.map fun v => v.category).sum ≤ W9) (hdg : decode c.code g.pc = .ok (.invokestatic index, 3))
    (hpre : ∀ vm₁, s.WarmedH vm₁ → Pre ⟨T.setVm vm₁, locs, cells, slots⟩ argsL.toArray) :
    ∃ (v : Option Value) (vm₁ : Vm) (B : Pt), s.WarmedH vm₁ ∧ Stand p l e R s m args below meth c B.U B.locs B.cells B.slots ∧ Post ⟨T.setVm vm₁, locs, cells, slots⟩ argsL.toArray v B ∧
      ∀ target, Steps p.tables e below (B.U.setTop { g with pc := g.pc + 3, stack := v.toList ++ rest }) target → Steps p.tables e below (T.setTop g) target := by
  obtain ⟨mk, methM, cM, hnamed, hmethM, -, -, -, -, -, -, hsigM⟩ := Cond.codeWith_spec hcode
  have hstatic : methM.isStatic = true := Cond.static_spec hnamed hmethM hstat
  obtain ⟨kP, hkP, -⟩ := className_of_methodNamed hnamed
  have hinitP : kP.init = .initialized := Cond.initialized_spec (findClass_of_methodNamed hnamed) hkP hinit
  obtain ⟨vm₁, X₁, hstep₁⟩ := X.invokestatic hexec hown hlink hnamed hmethM hstatic hkP hinitP hy (g := g) hg (argsL := argsL) (rest := rest) (hlen _ hsigM) hstack hdg
  obtain ⟨v, B, X', hpost, hsteps⟩ := hK m meth c ⟨T.setVm vm₁, locs, cells, slots⟩ { g with stack := rest } (.invokestatic index) mk argsL.toArray X₁ hg hsize hdg hW (X₁.named hnamed) (hpre vm₁ X₁.warmed)
  exact ⟨v, vm₁, B, X₁.warmed, X', hpost, fun target h => hstep₁ _ fun acts => by rw [doInvoke_state]; exact hsteps.trans h⟩
theorem vx_runSW {y : MethodName} {bytes cc : ByteArray} {maxL nL mc ms n index : Nat} {ret : Option FieldType} {hh : List (Nat × Nat × Nat × Nat)} {ws : List Cond} {rm : Room} {Pc : Array Value → State → Prop} {Qc : Array Value → State → Outcome → State → Prop} {free : Addr → Prop} {Ts : List Cond} {own : String} {As rest : List Value} {g : JFrame}
    (S : CallFix p m c cc nL s args Ts own) (hM : Met l y ws rm Pc Qc mc ms free) (cw : vx_CSW R s args own index y bytes maxL ret hh ws rm mc ms n) (hp : PreS s H Pc As)
    (hg : g.method = m) (hn : As.length = n) (hsize : g.locals.size = nL) (hstack : g.stack = As.reverse ++ rest) (hW : 2 * g.monitorRoom + (rest.map fun v => v.category).sum ≤ 8) (hdg : decode cc g.pc = .ok (.invokestatic index, 3)) (hf : cells + mc ≤ R.cells ∧ slots + ms ≤ R.slots) :
    va_Run p l e R s m args below meth c H locs cells slots mc ms g rest (Qc As.toArray) (free) := by
  obtain ⟨⟨hrc, hrs, hfr, hlo, hws, hcw⟩, hcode, hini, hy, hlen, hl, hstt⟩ := cw
  have hK : Back l R p e below s args y 3 8 (PreOf R mc ms Pc) (PostOf Qc mc ms free) := va_backW (hh := hh) (bytes := bytes) (maxL := maxL) (ret := ret) hM hp.1 hrc hrs hfr hlo hws hcw (fun a' U hW => word_at hW (Or.inl (by first | rfl | simp [Cond.onTables, Cond.keeps, Cond.steady])) hini)
  obtain ⟨hx, hb, hml, ho, -⟩ := S
  intro T hT X
  obtain ⟨v, vm₁, ⟨U', l2, c2, s2⟩, hW₁, X', ⟨g', mk, t, L, e1, e2, hq, h1, hL, h2, h3⟩, st⟩ := vx_callSW X hx (hh := hh) (bytes := bytes) (maxL := maxL) (ret := ret) ho hl hstt hini hcode hy hK hg (hsize.trans hml.symm) (argsL := As) (rest := rest) (fun sig h => hn.trans (hlen sig h)) hstack hW (by rw [hb]; exact hdg)
    (fun vm₁ hW₁ => ⟨hf.1, hf.2, hp.2 (T.setVm vm₁) hT hW₁⟩)
  dsimp only [Pt.U, Pt.locs, Pt.cells, Pt.slots] at X' e1 e2 h1 h2 h3 st
  subst h1; subst h2; subst h3
  exact ⟨v, (T.setVm vm₁).calling g' mk As.toArray, t, U', L, hT, X', hL, e1, e2, hq, st⟩
/-- not caught here, past rows that name other classes: it goes on to the caller -/
theorem vx_outP {p : Program} {l : Launch} {e : Env} {R : Room} {s : State} {m : MethodId} {args : Array Value} {below : List Frame} {meth : Method} {c : Code} {H : Heap} {locs : List Loc} {cells slots : Nat} {free : Addr → Prop} {ls : Array Slot} {rest : List Value} {Qc : Array Value → State → Outcome → State → Prop} {XC : String → State → State → Prop}
    {pc : Nat} {own E : String} {ce : Cell} {q : Addr} {mc ms : Nat} (hown : s.vm.findClass own = some m.cls) (hlocks : meth.locks = false)
    (hpass : ∀ z ∈ c.exceptionTable.toList, covers z pc = false ∨ (z.catchType ≠ 0 ∧ ∃ nm : String, (Cond.classLink own z.catchType nm).before args s = true ∧ va_Nc E nm s)) (hcell : H[q]? = some ce) (hv : ce.vm = .none) (hcl : s.vm.findClass E = some ce.cls)
    (hx : ∀ t : State, t.heap = H → s.vm.Alike t.vm → XC E s t) (hf : ∀ z ∈ locs, free z.base) (hc : cells ≤ mc) (hs : slots ≤ ms) :
    vx_W p l e R s m args below meth c H locs cells slots (vx_MQ below Qc XC args s mc ms free) (F0 m pc ls rest) q := by
  intro T hT X
  have hpl : e.platform.magicAccessors = ({} : Platform).magicAccessors := by rw [X.admits.platform]
  obtain ⟨vm', hW', X', st⟩ := X.outThrough hlocks q (g := F0 m pc ls rest) rfl rfl rfl (cell := ce) (by rw [hT]; exact hcell) (by rw [hv]; rfl)
    (by obtain ⟨k9, h9, -⟩ := Vm.findClass_spec hcl; exact ⟨k9, h9⟩) (fun z hz => by
      rcases hpass z hz with h | ⟨hz0, nm, hl1, hn1⟩
      · exact Or.inl h
      · obtain ⟨c6, hc6, hcl6⟩ := Cond.classLink_spec hown hl1 e.platform hpl
        obtain ⟨a8, b8, h1, h2, h3⟩ := hn1
        cases Option.some.inj (h1.symm.trans hcl)
        cases Option.some.inj (h2.symm.trans hc6)
        exact Or.inr ⟨hz0, _, hcl6, h3⟩)
  obtain ⟨g₀, hfr⟩ := X'.frames_eq
  have hcell9 : ((T.setVm vm').setFrames (.throwing q :: below)).heap[q]? = some ce := by
    show T.heap[q]? = some ce
    rw [hT]; exact hcell
  have hend : Ended ((T.setVm vm').setFrames (.throwing q :: below)) below (.threw q) := State.frames_setFrames _ (State.cur_lt_of_frames hfr)
  refine ⟨(T.setVm vm').setFrames (.throwing q :: below), ?_, .threw q, X'.here.running, hend, Or.inr ⟨q, rfl, E, ce, locs, hx _ hT (X'.ends _).1.alike, hcell9, hv, hcl, (X'.ends _).1, (X'.ends _).2.mono hc hs, hf⟩⟩
  rw [X.pushThrowing_eq]
  exact st
/-- a thing of a world lies in the heap -/
theorem vx_lt {D : va_G} {cl : List vw_C} {ws : va_W} {H1 : Heap} (h : va_P D cl ws H1) {k : Nat} {q : Nat × va_E} (hk : ws[k]? = some q) : q.1 < H1.size := (h k q hk).lt
end VXS
/-! ===== END ===== -/
/-! ===== BEGIN methods with a table of their own: called by a name, returning or throwing ===== -/
section VXH
/-! vx_backW, vx_callVX, vx_callSX, vx_callVW, vx_runVW, vx_runVX, vx_runSX, vx_ofWH follow the same proofs as their sisters above (Free/Laws.lean, Shelf42/LK1.lean); vx_outP calls Shelf42/NT130.lean (outThrough). -/
section
variable {l : Launch} {R : Room} {p : Program} {e : Env} {below : List Frame} {s : State} {sargs : Array Value} {y : MethodName} {len W9 : Nat}
theorem vx_backW {ws : List Cond} {rm : Room} {Pc : Array Value → State → Prop} {Qc : Array Value → State → Outcome → State → Prop} {XC : String → State → State → Prop} {mc ms : Nat} {free : Addr → Prop} {bytes : ByteArray} {maxL : Nat} {ret : Option FieldType} {hh : List (Nat × Nat × Nat × Nat)}
    (hM : vx_Met l y ws rm Pc Qc XC mc ms free) (hblind : FrameBlind Pc) (hrc : rm.cells = mc) (hrs : rm.slots = ms)
    (hframes : rm.frames + 1 ≤ R.frames) (hlocals : W9 + (maxL + 11) + rm.locals ≤ R.locals)
    (hws : ∀ w ∈ ws, ∀ a' U, s.WarmedH U.vm → w.before a' U = true) (hcode : Cond.codeWith y bytes maxL ret hh ∈ ws) (hinit : ∀ a' U, s.WarmedH U.vm → (Cond.initialized y.cls).before a' U = true) :
    vx_Back l R p e below s sargs y len W9 (PreOf R mc ms Pc) (PostOf Qc mc ms free) (vx_Post XC mc ms free) := by
  intro m meth c A g ig mk a X hg hsize hdg hW hn hp
  have h1 : (headSpec ws rm).pre.before a A.U = true := atoms_intro fun w hw => hws w hw _ _ X.warmed
  have h2 : (Cond.codeWith y bytes maxL ret hh).before a A.U = true := hws _ hcode _ _ X.warmed
  have h3 : (Cond.initialized y.cls).before a A.U = true := hinit _ _ X.warmed
  have h4 : A.cells + (headSpec ws rm).room.cells ≤ R.cells := by rw [show (headSpec ws rm).room.cells = mc from hrc]; exact hp.1
  have h5 : A.slots + (headSpec ws rm).room.slots ≤ R.slots := by rw [show (headSpec ws rm).room.slots = ms from hrs]; exact hp.2.1
  have hPc : Pc a (A.U.calling g mk a) := hblind _ _ _ _ hp.2.2
  obtain ⟨U, Ls, c0, s0⟩ := A
  dsimp only [Pt.U, Pt.locs, Pt.cells, Pt.slots] at h1 h2 h3 h4 h5 X hn hPc ⊢
  obtain ⟨m9, methY, cY, hn9, hmY, hcY, -, hlY, -⟩ := Cond.codeWith_spec h2
  cases Option.some.inj (hn9.symm.trans hn)
  obtain ⟨kY, hkY, -⟩ := className_of_methodNamed hn
  have hinitY : kY.init = .initialized := Cond.initialized_spec (findClass_of_methodNamed hn) hkY h3
  have h : At U g.method c below := by rw [hg]; exact X.here
  have hlocals9 : W9 + (maxL + 11) + (headSpec ws rm).room.locals ≤ R.locals := hlocals
  have happ : (headSpec ws rm).appliesLoose y e.platform (U.calling g mk a) = true :=
    Spec.appliesLoose_calling (g := g) h hdg hn hkY hinitY
      (X.room_calling (g := g) (R' := (headSpec ws rm).room) hsize hmY hcY hframes (by rw [hlY]; omega) h4 h5) h1
  obtain ⟨mid, hmid⟩ := h.above
  have hfr : (U.setTop g).frames = (.java g :: mid) ++ below := by rw [State.frames_setTop' g h.top, hmid]; rfl
  obtain ⟨o, s₂, hsteps, -, hend, hq⟩ := Steps.callFree hM p X.admits X.cas X.clock (acts := []) hfr happ hPc trivial
  have hq' : vx_Q Qc XC mc ms free a (U.calling g mk a) o s₂ := hq
  rw [State.frames_setTop' g h.top] at hend
  obtain ⟨g₀, hg0⟩ := Option.isSome_iff_exists.mp h.top
  obtain ⟨r, hr⟩ := State.topJava?_eq_some.mp hg0
  have hr' : (({ U with heap := s₂.heap, slotsUsed := s₂.slotsUsed } : State).setVm s₂.vm).frames = .java g₀ :: r := hr
  rcases hq' with ⟨hqc, L, hfe, hL⟩ | ⟨q, rfl, E, ce, L, hx, hce, hcv, hcl, hW₂, hsm, hL⟩
  · obtain ⟨⟨v, rfl⟩, hW₂, e2, q2, q3, q4, q5, q6⟩ := id hfe
    have e3 : s₂ = ({ (U.calling g mk a).setFrames s₂.frames with heap := s₂.heap, slotsUsed := s₂.slotsUsed } : State).setVm s₂.vm := by
      have : s₂ = ({ s₂ with vm := (U.calling g mk a).vm } : State).setVm s₂.vm := rfl
      rw [e2] at this
      exact this
    obtain ⟨c₂, i₂, len₂, hc₂, hd₂, hf₂⟩ := hend
    have hW' : U.WarmedH s₂.vm := hW₂
    have hcc : c₂ = c := by
      have h1 : s₂.code? g.method = U.code? g.method := by
        rw [State.code?_eq, State.code?_eq, hW'.alike.method?]
      exact Option.some.inj (hc₂.symm.trans (h1.trans h.code))
    subst hcc
    have hlen : len₂ = len := by rw [hdg] at hd₂; cases hd₂; rfl
    subst hlen
    have hs₂ : s₂ = (({ U with heap := s₂.heap, slotsUsed := s₂.slotsUsed } : State).setVm s₂.vm).setTop { g with pc := g.pc + len₂, stack := v.toList ++ g.stack } := by
      refine e3.trans ?_
      rw [hf₂, State.calling_eq h.top, State.setFrames_setFrames, State.setTop_of_frames _ hr', hr]
      rfl
    have hsame : U.sameButNew ({ U with heap := s₂.heap, slotsUsed := s₂.slotsUsed } : State) L mc ms := by
      refine ⟨?_, q2, q3, q4, q5, q6⟩
      obtain ⟨t, ht, -⟩ := State.frames_cons hr
      show ({ U with heap := s₂.heap, slotsUsed := s₂.slotsUsed } : State) = { U.setFrames U.frames with heap := s₂.heap, slotsUsed := s₂.slotsUsed }
      rw [State.setFrames_self ht]
    subst hg
    refine Or.inl ⟨v, ⟨(({ U with heap := s₂.heap, slotsUsed := s₂.slotsUsed } : State).setVm s₂.vm), Ls ++ L, c0 + mc, s0 + ms⟩,
      ⟨X.admits, X.cas, X.clock, X.frames, X.room, X.hears, X.method, X.code, (X.here.setHeapUsed s₂.heap s₂.slotsUsed).setVm hW'.alike, X.tail, State.WarmedH.trans X.warmed hW', X.limits, X.bytes, X.same.trans (hsame.setVm s.vm)⟩,
      ⟨g, mk, s₂, L, rfl, rfl, hqc, rfl, hL, rfl, rfl⟩, ?_⟩
    show Steps p.tables e below _ ((({ U with heap := s₂.heap, slotsUsed := s₂.slotsUsed } : State).setVm s₂.vm).setTop { g with pc := g.pc + len₂, stack := v.toList ++ g.stack })
    rw [← hs₂]
    exact hsteps
  · obtain ⟨e2, q2, q3, q4, q5, q6⟩ := id hsm
    have e3 : s₂ = ({ (U.calling g mk a).setFrames s₂.frames with heap := s₂.heap, slotsUsed := s₂.slotsUsed } : State).setVm s₂.vm := by
      have : s₂ = ({ s₂ with vm := (U.calling g mk a).vm } : State).setVm s₂.vm := rfl
      rw [e2] at this
      exact this
    have hf₂ : s₂.frames = .throwing q :: .java g :: U.frames.tail := hend
    have hW' : U.WarmedH s₂.vm := hW₂
    have hs₂ : s₂ = ((({ U with heap := s₂.heap, slotsUsed := s₂.slotsUsed } : State).setVm s₂.vm).setTop g).pushFrame (.throwing q) := by
      refine e3.trans ?_
      rw [hf₂, State.calling_eq h.top, State.setFrames_setFrames, State.pushFrame, State.frames_setTop _ hr', State.setTop_of_frames _ hr', State.setFrames_setFrames, hr]
      rfl
    have hsame : U.sameButNew ({ U with heap := s₂.heap, slotsUsed := s₂.slotsUsed } : State) L mc ms := by
      refine ⟨?_, q2, q3, q4, q5, q6⟩
      obtain ⟨t, ht, -⟩ := State.frames_cons hr
      show ({ U with heap := s₂.heap, slotsUsed := s₂.slotsUsed } : State) = { U.setFrames U.frames with heap := s₂.heap, slotsUsed := s₂.slotsUsed }
      rw [State.setFrames_self ht]
    subst hg
    refine Or.inr ⟨q, ⟨(({ U with heap := s₂.heap, slotsUsed := s₂.slotsUsed } : State).setVm s₂.vm), Ls ++ L, c0 + mc, s0 + ms⟩,
      ⟨X.admits, X.cas, X.clock, X.frames, X.room, X.hears, X.method, X.code, (X.here.setHeapUsed s₂.heap s₂.slotsUsed).setVm hW'.alike, X.tail, State.WarmedH.trans X.warmed hW', X.limits, X.bytes, X.same.trans (hsame.setVm s.vm)⟩,
      ⟨g, mk, s₂, L, E, ce, rfl, rfl, hx, hce, hcv, hcl, rfl, hL, rfl, rfl⟩, ?_⟩
    show Steps p.tables e below _ (((({ U with heap := s₂.heap, slotsUsed := s₂.slotsUsed } : State).setVm s₂.vm).setTop g).pushFrame (.throwing q))
    rw [← hs₂]
    exact hsteps
end
variable {p : Program} {l : Launch} {e : Env} {R : Room} {s : State} {m : MethodId} {args : Array Value} {below : List Frame} {meth : Method} {c : Code} {T : State} {H : Heap} {locs : List Loc} {cells slots : Nat}
theorem vx_callVX (X : Stand p l e R s m args below meth c T locs cells slots) (hexec : p.tables.exec = Jvm.exec) {own C : String} {index : Nat} {y : MethodName} {bytes : ByteArray} {maxL : Nat} {ret : Option FieldType} {hh : List (Nat × Nat × Nat × Nat)}
    (hown : s.vm.findClass own = some m.cls) (hlink : (Cond.methodLink own index y).before args s = true) (hinst : (Cond.instanceMethod y).before args s = true) (hsel : (Cond.selects C y y).before args s = true)
    (hcode : (Cond.codeWith y bytes maxL ret hh).before args s = true) (hy : y.cls ≠ "java/lang/invoke/MethodHandle" ∧ y.cls ≠ "java/lang/invoke/VarHandle")
    {W9 : Nat} {Pre : Pt → Array Value → Prop} {Post : Pt → Array Value → Option Value → Pt → Prop} {PostX : Pt → Array Value → Addr → Pt → Prop} (hK : vx_Back l R p e below s args y 3 W9 Pre Post PostX)
    {b : Addr} {cellB : Cell} (hcell : T.heap[b]? = some cellB) (hobj : cellB.vm.isStatics = false) (hcls : s.vm.findClass C = some cellB.cls)
    {g : JFrame} (hg : g.method = m) (hsize : g.locals.size = c.maxLocals) {argsL rest : List Value} (hlen : ∀ sig, parseMethodDescriptor y.desc = some sig → argsL.length = sig.parameters.length)
    (hstack : g.stack = argsL.reverse ++ .ref b :: rest) (hW : 2 * g.monitorRoom + (rest.map fun v => v.category).sum ≤ W9) (hdg : decode c.code g.pc = .ok (.invokevirtual index, 3))
    (hpre : ∀ vm₁, s.WarmedH vm₁ → Pre ⟨T.setVm vm₁, locs, cells, slots⟩ (Value.ref b :: argsL).toArray) :
    (∃ (v : Option Value) (vm₁ : Vm) (B : Pt), s.WarmedH vm₁ ∧ Stand p l e R s m args below meth c B.U B.locs B.cells B.slots ∧ Post ⟨T.setVm vm₁, locs, cells, slots⟩ (Value.ref b :: argsL).toArray v B ∧
      ∀ target, Steps p.tables e below (B.U.setTop { g with pc := g.pc + 3, stack := v.toList ++ rest }) target → Steps p.tables e below (T.setTop g) target) ∨
    (∃ (q : Addr) (vm₁ : Vm) (B : Pt), s.WarmedH vm₁ ∧ Stand p l e R s m args below meth c B.U B.locs B.cells B.slots ∧ PostX ⟨T.setVm vm₁, locs, cells, slots⟩ (Value.ref b :: argsL).toArray q B ∧
      Steps p.tables e below (T.setTop g) ((B.U.setTop { g with stack := rest }).pushFrame (.throwing q))) := by
  obtain ⟨mk, methM, hnamed, hmethM, hstM, habM⟩ := Cond.instanceMethod_spec hinst
  obtain ⟨m8, methM', cM, hn8, hmethM', -, -, -, -, -, -, hsigM⟩ := Cond.codeWith_spec hcode
  cases Option.some.inj (hn8.symm.trans hnamed)
  cases hmethM.symm.trans hmethM'
  obtain ⟨c2, r2, m2, q1, q2, q3, q4, kP, hkP, hkPi⟩ := Cond.selects_spec hsel
  cases hcls.symm.trans q1
  cases (State.methodFound?_of_named hnamed hy).symm.trans q2
  cases hnamed.symm.trans q3
  have hselP : selectMethod e.platform s.vm cellB.cls mk = .method mk := by rw [Launch.admits_selectMethod X.admits]; exact q4
  obtain ⟨vm₁, X₁, hstep₁⟩ := X.invokevirtual hexec hown hlink hnamed hmethM hstM hkP hkPi hy (a := b) (cell := cellB) hcell
    (fun z h => by rw [h] at hobj; cases hobj) hselP hmethM habM hkP hkPi (g := g) hg (argsL := argsL) (rest := rest) (hlen _ hsigM) hstack hdg
  rcases hK m meth c ⟨T.setVm vm₁, locs, cells, slots⟩ { g with stack := rest } (.invokevirtual index) mk (Value.ref b :: argsL).toArray X₁ hg hsize hdg hW (X₁.named hnamed) (hpre vm₁ X₁.warmed) with ⟨v, B, X', hpost, hsteps⟩ | ⟨q, B, X', hpost, hsteps⟩
  · exact Or.inl ⟨v, vm₁, B, X₁.warmed, X', hpost, fun target h => hstep₁ _ fun acts => by rw [doInvoke_state]; exact hsteps.trans h⟩
  · exact Or.inr ⟨q, vm₁, B, X₁.warmed, X', hpost, hstep₁ _ fun acts => by rw [doInvoke_state]; exact hsteps⟩
theorem vx_callSX (X : Stand p l e R s m args below meth c T locs cells slots) (hexec : p.tables.exec = Jvm.exec) {own : String} {index : Nat} {y : MethodName} {bytes : ByteArray} {maxL : Nat} {ret : Option FieldType} {hh : List (Nat × Nat × Nat × Nat)}
    (hown : s.vm.findClass own = some m.cls) (hlink : (Cond.methodLink own index y).before args s = true) (hstat : (Cond.static y).before args s = true) (hinit : (Cond.initialized y.cls).before args s = true)
    (hcode : (Cond.codeWith y bytes maxL ret hh).before args s = true) (hy : y.cls ≠ "java/lang/invoke/MethodHandle" ∧ y.cls ≠ "java/lang/invoke/VarHandle")
    {W9 : Nat} {Pre : Pt → Array Value → Prop} {Post : Pt → Array Value → Option Value → Pt → Prop} {PostX : Pt → Array Value → Addr → Pt → Prop} (hK : vx_Back l R p e below s args y 3 W9 Pre Post PostX)
    {g : JFrame} (hg : g.method = m) (hsize : g.locals.size = c.maxLocals) {argsL rest : List Value} (hlen : ∀ sig, parseMethodDescriptor y.desc = some sig → argsL.length = sig.parameters.length)
    (hstack : g.stack = argsL.reverse ++ rest) (hW : 2 * g.monitorRoom + (rest.map fun v => v.category).sum ≤ W9) (hdg : decode c.code g.pc = .ok (.invokestatic index, 3))
    (hpre : ∀ vm₁, s.WarmedH vm₁ → Pre ⟨T.setVm vm₁, locs, cells, slots⟩ argsL.toArray) :
    (∃ (v : Option Value) (vm₁ : Vm) (B : Pt), s.WarmedH vm₁ ∧ Stand p l e R s m args below meth c B.U B.locs B.cells B.slots ∧ Post ⟨T.setVm vm₁, locs, cells, slots⟩ argsL.toArray v B ∧
      ∀ target, Steps p.tables e below (B.U.setTop { g with pc := g.pc + 3, stack := v.toList ++ rest }) target → Steps p.tables e below (T.setTop g) target) ∨
    (∃ (q : Addr) (vm₁ : Vm) (B : Pt), s.WarmedH vm₁ ∧ Stand p l e R s m args below meth c B.U B.locs B.cells B.slots ∧ PostX ⟨T.setVm vm₁, locs, cells, slots⟩ argsL.toArray q B ∧
      Steps p.tables e below (T.setTop g) ((B.U.setTop { g with stack := rest }).pushFrame (.throwing q))) := by
  obtain ⟨mk, methM, cM, hnamed, hmethM, -, -, -, -, -, -, hsigM⟩ := Cond.codeWith_spec hcode
  have hstatic : methM.isStatic = true := Cond.static_spec hnamed hmethM hstat
  obtain ⟨kP, hkP, -⟩ := className_of_methodNamed hnamed
  have hinitP : kP.init = .initialized := Cond.initialized_spec (findClass_of_methodNamed hnamed) hkP hinit
  obtain ⟨vm₁, X₁, hstep₁⟩ := X.invokestatic hexec hown hlink hnamed hmethM hstatic hkP hinitP hy (g := g) hg (argsL := argsL) (rest := rest) (hlen _ hsigM) hstack hdg
  rcases hK m meth c ⟨T.setVm vm₁, locs, cells, slots⟩ { g with stack := rest } (.invokestatic index) mk argsL.toArray X₁ hg hsize hdg hW (X₁.named hnamed) (hpre vm₁ X₁.warmed) with ⟨v, B, X', hpost, hsteps⟩ | ⟨q, B, X', hpost, hsteps⟩
  · exact Or.inl ⟨v, vm₁, B, X₁.warmed, X', hpost, fun target h => hstep₁ _ fun acts => by rw [doInvoke_state]; exact hsteps.trans h⟩
  · exact Or.inr ⟨q, vm₁, B, X₁.warmed, X', hpost, hstep₁ _ fun acts => by rw [doInvoke_state]; exact hsteps⟩
theorem vx_callVW (X : Stand p l e R s m args below meth c T locs cells slots) (hexec : p.tables.exec = Jvm.exec) {own C : String} {index : Nat} {y : MethodName} {bytes : ByteArray} {maxL : Nat} {ret : Option FieldType} {hh : List (Nat × Nat × Nat × Nat)}
    (hown : s.vm.findClass own = some m.cls) (hlink : (Cond.methodLink own index y).before args s = true) (hinst : (Cond.instanceMethod y).before args s = true) (hsel : (Cond.selects C y y).before args s = true)
    (hcode : (Cond.codeWith y bytes maxL ret hh).before args s = true) (hy : y.cls ≠ "java/lang/invoke/MethodHandle" ∧ y.cls ≠ "java/lang/invoke/VarHandle")
    {W9 : Nat} {Pre : Pt → Array Value → Prop} {Post : Pt → Array Value → Option Value → Pt → Prop} (hK : Back l R p e below s args y 3 W9 Pre Post)
    {b : Addr} {cellB : Cell} (hcell : T.heap[b]? = some cellB) (hobj : cellB.vm.isStatics = false) (hcls : s.vm.findClass C = some cellB.cls)
    {g : JFrame} (hg : g.method = m) (hsize : g.locals.size = c.maxLocals) {argsL rest : List Value} (hlen : ∀ sig, parseMethodDescriptor y.desc = some sig → argsL.length = sig.parameters.length)
    (hstack : g.stack = argsL.reverse ++ .ref b :: rest) (hW : 2 * g.monitorRoom + (rest.map fun v => v.category).sum ≤ W9) (hdg : decode c.code g.pc = .ok (.invokevirtual index, 3))
    (hpre : ∀ vm₁, s.WarmedH vm₁ → Pre ⟨T.setVm vm₁, locs, cells, slots⟩ (Value.ref b :: argsL).toArray) :
    ∃ (v : Option Value) (vm₁ : Vm) (B : Pt), s.WarmedH vm₁ ∧ Stand p l e R s m args below meth c B.U B.locs B.cells B.slots ∧ Post ⟨T.setVm vm₁, locs, cells, slots⟩ (Value.ref b :: argsL).toArray v B ∧
      ∀ target, Steps p.tables e below (B.U.setTop { g with pc := g.pc + 3, stack := v.toList ++ rest }) target → Steps p.tables e below (T.setTop g) target := by
  obtain ⟨mk, methM, hnamed, hmethM, hstM, habM⟩ := Cond.instanceMethod_spec hinst
  obtain ⟨m8, methM', cM, hn8, hmethM', -, -, -, -, -, -, hsigM⟩ := Cond.codeWith_spec hcode
  cases Option.some.inj (hn8.symm.trans hnamed)
  cases hmethM.symm.trans hmethM'
  obtain ⟨c2, r2, m2, q1, q2, q3, q4, kP, hkP, hkPi⟩ := Cond.selects_spec hsel
  cases hcls.symm.trans q1
  cases (State.methodFound?_of_named hnamed hy).symm.trans q2
  cases hnamed.symm.trans q3
  have hselP : selectMethod e.platform s.vm cellB.cls mk = .method mk := by rw [Launch.admits_selectMethod X.admits]; exact q4
  obtain ⟨vm₁, X₁, hstep₁⟩ := X.invokevirtual hexec hown hlink hnamed hmethM hstM hkP hkPi hy (a := b) (cell := cellB) hcell
    (fun z h => by rw [h] at hobj; cases hobj) hselP hmethM habM hkP hkPi (g := g) hg (argsL := argsL) (rest := rest) (hlen _ hsigM) hstack hdg
  obtain ⟨v, B, X', hpost, hsteps⟩ := hK m meth c ⟨T.setVm vm₁, locs, cells, slots⟩ { g with stack := rest } (.invokevirtual index) mk (Value.ref b :: argsL).toArray X₁ hg hsize hdg hW (X₁.named hnamed) (hpre vm₁ X₁.warmed)
  exact ⟨v, vm₁, B, X₁.warmed, X', hpost, fun target h => hstep₁ _ fun acts => by rw [doInvoke_state]; exact hsteps.trans h⟩
abbrev vx_CVW (R : Room) (s : State) (args : Array Value) (own C : String) (index : Nat) (y : MethodName) (bytes : ByteArray) (maxL : Nat) (ret : Option FieldType) (hh : List (Nat × Nat × Nat × Nat)) (ws : List Cond) (rm : Room) (mc ms n : Nat) : Prop :=
  (rm.cells = mc ∧ rm.slots = ms ∧ rm.frames + 1 ≤ R.frames ∧ 8 + (maxL + 11) + rm.locals ≤ R.locals ∧ (∀ w ∈ ws, ∀ (a' : Array Value) (U : State), s.WarmedH U.vm → w.before a' U = true) ∧ Cond.codeWith y bytes maxL ret hh ∈ ws) ∧
  (Cond.codeWith y bytes maxL ret hh).before args s = true ∧ (Cond.initialized y.cls).before args s = true ∧ (y.cls ≠ "java/lang/invoke/MethodHandle" ∧ y.cls ≠ "java/lang/invoke/VarHandle") ∧
  (∀ sig, parseMethodDescriptor y.desc = some sig → n = sig.parameters.length) ∧ (Cond.methodLink own index y).before args s = true ∧ (Cond.instanceMethod y).before args s = true ∧ (Cond.selects C y y).before args s = true
theorem vx_cwVW {own C : String} {index maxL mc ms : Nat} {y : MethodName} {bytes : ByteArray} {ret : Option FieldType} {hh : List (Nat × Nat × Nat × Nat)} {Ts ws ws' : List Cond} {rm : Room} (n : Nat) (ht : ∀ w ∈ Ts, w.before args s = true) (hT : GoodIn Ts (wsV own index C y ws)) (hw : ws = Cond.codeWith y bytes maxL ret hh :: ws') (hrc : rm.cells = mc) (hrs : rm.slots = ms)
    (hd : y.cls = C ∧ y.cls ≠ "java/lang/invoke/MethodHandle" ∧ y.cls ≠ "java/lang/invoke/VarHandle" ∧ (parseMethodDescriptor y.desc).map (fun d => d.parameters.length) = some n) (hR : rm.frames + 1 ≤ R.frames ∧ 8 + (maxL + 11) + rm.locals ≤ R.locals) :
    vx_CVW R s args own C index y bytes maxL ret hh ws rm mc ms n := by
  obtain ⟨hC, hd⟩ := hd
  subst hC
  have ok : ∀ w ∈ wsV own index y.cls y ws, w.before args s = true := fun w h => ht w (hT w h).1
  have hG : GoodIn Ts ws := fun w h => hT w (by unfold wsV; exact List.mem_append_right _ h)
  have hc : Cond.codeWith y bytes maxL ret hh ∈ ws := by rw [hw]; exact List.mem_cons_self
  refine ⟨⟨hrc, hrs, hR.1, hR.2, pay_in ht hG, hc⟩, ht _ (hG _ hc).1, ok _ (by simp [wsV]), ⟨hd.1, hd.2.1⟩, fun sig h => ?_, ok _ (by simp [wsV]), ok _ (by simp [wsV]), ok _ (by simp [wsV])⟩
  have h2 := hd.2.2
  rw [h] at h2
  exact (Option.some.inj h2).symm
theorem vx_runVW {y : MethodName} {bytes cc : ByteArray} {maxL nL mc ms n index : Nat} {ret : Option FieldType} {hh : List (Nat × Nat × Nat × Nat)} {ws : List Cond} {rm : Room} {Pc : Array Value → State → Prop} {Qc : Array Value → State → Outcome → State → Prop} {free : Addr → Prop} {Ts : List Cond} {own C : String} {b : Addr} {As rest : List Value} {g : JFrame}
    (S : CallFix p m c cc nL s args Ts own) (hM : Met l y ws rm Pc Qc mc ms free) (cw : vx_CVW R s args own C index y bytes maxL ret hh ws rm mc ms n) (hp : PreV s H C b Pc As)
    (hg : g.method = m) (hn : As.length = n) (hsize : g.locals.size = nL) (hstack : g.stack = As.reverse ++ .ref b :: rest) (hW : 2 * g.monitorRoom + (rest.map fun v => v.category).sum ≤ 8) (hdg : decode cc g.pc = .ok (.invokevirtual index, 3)) (hf : cells + mc ≤ R.cells ∧ slots + ms ≤ R.slots) :
    va_Run p l e R s m args below meth c H locs cells slots mc ms g rest (Qc (Value.ref b :: As).toArray) free := by
  obtain ⟨⟨hrc, hrs, hfr, hlo, hws, hcw⟩, hcode, hini, hy, hlen, hl, hin, hse⟩ := cw
  have hK : Back l R p e below s args y 3 8 (PreOf R mc ms Pc) (PostOf Qc mc ms free) := va_backW (hh := hh) (bytes := bytes) (maxL := maxL) (ret := ret) hM hp.1 hrc hrs hfr hlo hws hcw (fun a' U hW => word_at hW (Or.inl (by first | rfl | simp [Cond.onTables, Cond.keeps, Cond.steady])) hini)
  obtain ⟨hx, hb, hml, ho, -⟩ := S
  obtain ⟨-, ⟨cellB, hcB, hoB, hclB⟩, hPc⟩ := hp
  intro T hT X
  obtain ⟨v, vm₁, ⟨U', l2, c2, s2⟩, hW₁, X', ⟨g', mk, t, L, e1, e2, hq, h1, hL, h2, h3⟩, st⟩ := vx_callVW X hx (C := C) (hh := hh) (bytes := bytes) (maxL := maxL) (ret := ret) ho hl hin hse hcode hy hK (by rw [hT]; exact hcB) hoB hclB hg (hsize.trans hml.symm) (argsL := As) (rest := rest) (fun sig h => hn.trans (hlen sig h)) hstack hW (by rw [hb]; exact hdg)
    (fun vm₁ hW₁ => ⟨hf.1, hf.2, hPc (T.setVm vm₁) hT hW₁⟩)
  dsimp only [Pt.U, Pt.locs, Pt.cells, Pt.slots] at X' e1 e2 h1 h2 h3 st
  subst h1; subst h2; subst h3
  exact ⟨v, (T.setVm vm₁).calling g' mk (Value.ref b :: As).toArray, t, U', L, hT, X', hL, e1, e2, hq, st⟩
section
variable {y : MethodName} {bytes cc : ByteArray} {maxL nL mc ms n index : Nat} {ret : Option FieldType} {ws : List Cond} {rm : Room} {Pc : Array Value → State → Prop} {Qc : Array Value → State → Outcome → State → Prop} {XC : String → State → State → Prop} {free : Addr → Prop} {Ts : List Cond} {own C : String} {b : Addr} {As rest : List Value} {g : JFrame}
theorem vx_runVX {hh : List (Nat × Nat × Nat × Nat)} (S : CallFix p m c cc nL s args Ts own) (hM : vx_Met l y ws rm Pc Qc XC mc ms free) (cw : vx_CVW R s args own C index y bytes maxL ret hh ws rm mc ms n) (hp : PreV s H C b Pc As)
    (hg : g.method = m) (hn : As.length = n) (hsize : g.locals.size = nL) (hstack : g.stack = As.reverse ++ .ref b :: rest) (hW : 2 * g.monitorRoom + (rest.map fun v => v.category).sum ≤ 8) (hdg : decode cc g.pc = .ok (.invokevirtual index, 3)) (hf : cells + mc ≤ R.cells ∧ slots + ms ≤ R.slots) :
    vx_Run p l e R s m args below meth c H locs cells slots mc ms g rest (Qc (Value.ref b :: As).toArray) XC free := by
  obtain ⟨⟨hrc, hrs, hfr, hlo, hws, hcw⟩, hcode, hini, hy, hlen, hl, hin, hse⟩ := cw
  have hK : vx_Back l R p e below s args y 3 8 (PreOf R mc ms Pc) (PostOf Qc mc ms free) (vx_Post XC mc ms free) := vx_backW (hh := hh) (bytes := bytes) (maxL := maxL) (ret := ret) hM hp.1 hrc hrs hfr hlo hws hcw (fun a' U hW => word_at hW (Or.inl (by first | rfl | simp [Cond.onTables, Cond.keeps, Cond.steady])) hini)
  obtain ⟨hx, hb, hml, ho, -⟩ := S
  obtain ⟨-, ⟨cellB, hcB, hoB, hclB⟩, hPc⟩ := hp
  intro T hT X
  rcases vx_callVX X hx (C := C) (hh := hh) (bytes := bytes) (maxL := maxL) (ret := ret) ho hl hin hse hcode hy hK (by rw [hT]; exact hcB) hoB hclB hg (hsize.trans hml.symm) (argsL := As) (rest := rest) (fun sig h => hn.trans (hlen sig h)) hstack hW (by rw [hb]; exact hdg)
    (fun vm₁ hW₁ => ⟨hf.1, hf.2, hPc (T.setVm vm₁) hT hW₁⟩) with ⟨v, vm₁, ⟨U', l2, c2, s2⟩, hW₁, X', ⟨g', mk, t, L, e1, e2, hq, h1, hL, h2, h3⟩, st⟩ | ⟨q, vm₁, ⟨U', l2, c2, s2⟩, hW₁, X', ⟨g', mk, t, L, E, ce, e1, e2, hq, hce, hcv, hcl, h1, hL, h2, h3⟩, st⟩
  · dsimp only [Pt.U, Pt.locs, Pt.cells, Pt.slots] at X' e1 e2 h1 h2 h3 st
    subst h1; subst h2; subst h3
    exact Or.inl ⟨v, (T.setVm vm₁).calling g' mk (Value.ref b :: As).toArray, t, U', L, hT, X', hL, e1, e2, hq, st⟩
  · dsimp only [Pt.U, Pt.locs, Pt.cells, Pt.slots] at X' e1 e2 h1 h2 h3 st hcl
    subst h1; subst h2; subst h3
    exact Or.inr ⟨q, (T.setVm vm₁).calling g' mk (Value.ref b :: As).toArray, t, U', L, E, ce, hT, X', hL, e1, e2, hq, hce, hcv, vx_cls hW₁ hcl, st⟩
theorem vx_runSX {hh : List (Nat × Nat × Nat × Nat)} (S : CallFix p m c cc nL s args Ts own) (hM : vx_Met l y ws rm Pc Qc XC mc ms free) (cw : vx_CSW R s args own index y bytes maxL ret hh ws rm mc ms n) (hp : PreS s H Pc As)
    (hg : g.method = m) (hn : As.length = n) (hsize : g.locals.size = nL) (hstack : g.stack = As.reverse ++ rest) (hW : 2 * g.monitorRoom + (rest.map fun v => v.category).sum ≤ 8) (hdg : decode cc g.pc = .ok (.invokestatic index, 3)) (hf : cells + mc ≤ R.cells ∧ slots + ms ≤ R.slots) :
    vx_Run p l e R s m args below meth c H locs cells slots mc ms g rest (Qc As.toArray) XC free := by
  obtain ⟨⟨hrc, hrs, hfr, hlo, hws, hcw⟩, hcode, hini, hy, hlen, hl, hstt⟩ := cw
  have hK : vx_Back l R p e below s args y 3 8 (PreOf R mc ms Pc) (PostOf Qc mc ms free) (vx_Post XC mc ms free) := vx_backW (hh := hh) (bytes := bytes) (maxL := maxL) (ret := ret) hM hp.1 hrc hrs hfr hlo hws hcw (fun a' U hW => word_at hW (Or.inl (by first | rfl | simp [Cond.onTables, Cond.keeps, Cond.steady])) hini)
  obtain ⟨hx, hb, hml, ho, -⟩ := S
  intro T hT X
  rcases vx_callSX X hx (hh := hh) (bytes := bytes) (maxL := maxL) (ret := ret) ho hl hstt hini hcode hy hK hg (hsize.trans hml.symm) (argsL := As) (rest := rest) (fun sig h => hn.trans (hlen sig h)) hstack hW (by rw [hb]; exact hdg)
    (fun vm₁ hW₁ => ⟨hf.1, hf.2, hp.2 (T.setVm vm₁) hT hW₁⟩) with ⟨v, vm₁, ⟨U', l2, c2, s2⟩, hW₁, X', ⟨g', mk, t, L, e1, e2, hq, h1, hL, h2, h3⟩, st⟩ | ⟨q, vm₁, ⟨U', l2, c2, s2⟩, hW₁, X', ⟨g', mk, t, L, E, ce, e1, e2, hq, hce, hcv, hcl, h1, hL, h2, h3⟩, st⟩
  · dsimp only [Pt.U, Pt.locs, Pt.cells, Pt.slots] at X' e1 e2 h1 h2 h3 st
    subst h1; subst h2; subst h3
    exact Or.inl ⟨v, (T.setVm vm₁).calling g' mk As.toArray, t, U', L, hT, X', hL, e1, e2, hq, st⟩
  · dsimp only [Pt.U, Pt.locs, Pt.cells, Pt.slots] at X' e1 e2 h1 h2 h3 st hcl
    subst h1; subst h2; subst h3
    exact Or.inr ⟨q, (T.setVm vm₁).calling g' mk As.toArray, t, U', L, E, ce, hT, X', hL, e1, e2, hq, hce, hcv, vx_cls hW₁ hcl, st⟩
end
end VXH
theorem vx_ofWH {l : Launch} {y : MethodName} {ws ws' : List Cond} {rm : Room} {Pc : Array Value → State → Prop} {Qc : Array Value → State → Outcome → State → Prop} {XC : String → State → State → Prop} {mc ms : Nat} {free : Addr → Prop} {cc : ByteArray} {maxL : Nat} {ret : Option FieldType} {hh : List (Nat × Nat × Nat × Nat)}
    (hy : plainName y.cls = true) (hw : ws = Cond.codeWith y cc maxL ret hh :: ws')
    (body : ∀ p e s m args below meth c s₁, BodyLoose p l y (headSpec ws rm) cc maxL ret e s m args below meth c s₁ → c.maxLocals = maxL → Pc args s →
      W p l e (headSpec ws rm).room s m args below meth c s.heap [] 0 0 (vx_MQ below Qc XC args s mc ms free) (entryFrame m args maxL)) : vx_Met l y ws rm Pc Qc XC mc ms free := by
  refine MetFree.of_bodyS (code := cc) (maxLocals := maxL) (ret := ret) hy ?_ ?_
  · intro args s m h hn
    obtain ⟨m9, meth, c, hn9, h1, h2, h3, h4, -, h5, h6, -⟩ := Cond.codeWith_spec (atoms_spec (ws := ws) h _ (by rw [hw]; exact List.mem_cons_self))
    cases hn.symm.trans hn9
    exact ⟨meth, c, h1, h2, h3, h4, h5, h6⟩
  · intro p e s m args below meth c s₁ B hml hP _
    have hh0 : s₁.heap = s.heap := by rw [B.state]; rfl
    obtain ⟨t, a1, o, b1, b2, b3⟩ := body p e s m args below meth c s₁ B hml hP s₁ hh0 (Stand.of_body B)
    exact ⟨t, o, a1, b1, b2, b3⟩
/-! ===== END ===== -/
end
section
abbrev rB : String := "BlockRows$Block"
def fB : u_T := fun k => match k with
  | 0 => ("BlockRows$Block", "words", "[I", true)
  | 1 => ("BlockRows$Block", "begin", "I", false)
  | 2 => ("BlockRows$Block", "wordCount", "I", false)
  | _ => ("BlockRows$Block", "byteCount", "I", false)
def tB : Nat → FieldType := fun k => match k with
  | 0 => .array .int
  | 1 => .int
  | 2 => .int
  | _ => .int
theorem nB : ∀ a, a < 4 → ∀ b, b < 4 → a ≠ b → (fB a).2.1 ≠ (fB b).2.1 := by decide +kernel
theorem tB_ok : ∀ k, k < 4 → parseFieldDescriptor (fB k).2.2.1 = some (tB k) := by decide +kernel
abbrev rX : String := "BlockRows"
def fX : u_T := fun k => match k with
  | 0 => ("BlockRows", "bytes", "[I", true)
  | 1 => ("BlockRows", "registers", "[I", true)
  | 2 => ("BlockRows", "blocks", "[LBlockRows$Block;", true)
  | 3 => ("BlockRows", "place", "I", false)
  | 4 => ("BlockRows", "state", "I", false)
  | 5 => ("BlockRows", "flagged", "I", false)
  | 6 => ("BlockRows", "steps", "I", false)
  | 7 => ("BlockRows", "made", "I", false)
  | 8 => ("BlockRows", "hits", "I", false)
  | 9 => ("BlockRows", "thrownOut", "I", false)
  | 10 => ("BlockRows", "stored", "I", false)
  | _ => ("BlockRows", "decoded", "I", false)
def tX : Nat → FieldType := fun k => match k with
  | 0 => .array .int
  | 1 => .array .int
  | 2 => .array (.object "BlockRows$Block")
  | 3 => .int
  | 4 => .int
  | 5 => .int
  | 6 => .int
  | 7 => .int
  | 8 => .int
  | 9 => .int
  | 10 => .int
  | _ => .int
theorem nX : ∀ a, a < 12 → ∀ b, b < 12 → a ≠ b → (fX a).2.1 ≠ (fX b).2.1 := by decide +kernel
theorem tX_ok : ∀ k, k < 12 → parseFieldDescriptor (fX k).2.2.1 = some (tX k) := by decide +kernel
abbrev rM : String := "BlockRowsModel"
def fM : u_T := fun k => match k with
  | 0 => ("BlockRowsModel", "thrown", "I", false)
  | 1 => ("BlockRowsModel", "memory", "[I", true)
  | 2 => ("BlockRowsModel", "registers", "[I", true)
  | 3 => ("BlockRowsModel", "place", "I", false)
  | 4 => ("BlockRowsModel", "state", "I", false)
  | 5 => ("BlockRowsModel", "zero", "Z", false)
  | 6 => ("BlockRowsModel", "less", "Z", false)
  | 7 => ("BlockRowsModel", "kept", "[Z", true)
  | 8 => ("BlockRowsModel", "places", "[I", true)
  | 9 => ("BlockRowsModel", "words", "[I", true)
  | 10 => ("BlockRowsModel", "bytes", "[I", true)
  | 11 => ("BlockRowsModel", "current", "I", false)
  | 12 => ("BlockRowsModel", "isWritten", "Z", false)
  | 13 => ("BlockRowsModel", "steps", "I", false)
  | 14 => ("BlockRowsModel", "made", "I", false)
  | 15 => ("BlockRowsModel", "hits", "I", false)
  | 16 => ("BlockRowsModel", "out", "I", false)
  | 17 => ("BlockRowsModel", "stored", "I", false)
  | _ => ("BlockRowsModel", "decoded", "I", false)
def tM : Nat → FieldType := fun k => match k with
  | 0 => .int
  | 1 => .array .int
  | 2 => .array .int
  | 3 => .int
  | 4 => .int
  | 5 => .boolean
  | 6 => .boolean
  | 7 => .array .boolean
  | 8 => .array .int
  | 9 => .array .int
  | 10 => .array .int
  | 11 => .int
  | 12 => .boolean
  | 13 => .int
  | 14 => .int
  | 15 => .int
  | 16 => .int
  | 17 => .int
  | _ => .int
theorem nM : ∀ a, a < 19 → ∀ b, b < 19 → a ≠ b → (fM a).2.1 ≠ (fM b).2.1 := by decide +kernel
theorem tM_ok : ∀ k, k < 19 → parseFieldDescriptor (fM k).2.2.1 = some (tM k) := by decide +kernel
abbrev rL : String := "BlockRowsLaw"
abbrev vCl : List vw_C := [(rB, fB, 4), (rX, fX, 12), (rM, fM, 19)]
abbrev c_X_init : ByteArray := prog_1_method_1_code
abbrev y_X_init : MethodName := ⟨"BlockRows", "<init>", "()V"⟩
abbrev c_B_init : ByteArray := prog_2_method_1_code
abbrev y_B_init : MethodName := ⟨"BlockRows$Block", "<init>", "()V"⟩
abbrev c_X_forget : ByteArray := prog_1_method_10_code
abbrev y_X_forget : MethodName := ⟨"BlockRows", "forget", "()I"⟩
abbrev c_B_isKept : ByteArray := prog_2_method_2_code
abbrev y_B_isKept : MethodName := ⟨"BlockRows$Block", "isKept", "()Z"⟩
abbrev c_X_throwOut : ByteArray := prog_1_method_16_code
abbrev y_X_throwOut : MethodName := ⟨"BlockRows", "throwOut", "(LBlockRows$Block;)V"⟩
abbrev c_B_empty : ByteArray := prog_2_method_5_code
abbrev y_B_empty : MethodName := ⟨"BlockRows$Block", "empty", "(I)V"⟩
abbrev c_X_count : ByteArray := prog_1_method_11_code
abbrev y_X_count : MethodName := ⟨"BlockRows", "count", "(I)I"⟩
abbrev c_X_keptNow : ByteArray := prog_1_method_15_code
abbrev y_X_keptNow : MethodName := ⟨"BlockRows", "keptNow", "()I"⟩
abbrev c_L_poke : ByteArray := method_3_code
abbrev y_L_poke : MethodName := ⟨"BlockRowsLaw", "poke", "(LBlockRows;II[J)I"⟩
abbrev c_X_poke : ByteArray := prog_1_method_2_code
abbrev y_X_poke : MethodName := ⟨"BlockRows", "poke", "(II)I"⟩
abbrev c_X_inMemory : ByteArray := prog_1_method_12_code
abbrev y_X_inMemory : MethodName := ⟨"BlockRows", "inMemory", "(I)Z"⟩
abbrev c_X_write : ByteArray := prog_1_method_17_code
abbrev y_X_write : MethodName := ⟨"BlockRows", "write", "(II)V"⟩
abbrev c_B_hasByte : ByteArray := prog_2_method_4_code
abbrev y_B_hasByte : MethodName := ⟨"BlockRows$Block", "hasByte", "(I)Z"⟩
abbrev c_L_pokeFour : ByteArray := method_4_code
abbrev y_L_pokeFour : MethodName := ⟨"BlockRowsLaw", "pokeFour", "(LBlockRows;II[J)I"⟩
abbrev c_X_pokeFour : ByteArray := prog_1_method_3_code
abbrev y_X_pokeFour : MethodName := ⟨"BlockRows", "pokeFour", "(II)I"⟩
abbrev c_L_set : ByteArray := method_5_code
abbrev y_L_set : MethodName := ⟨"BlockRowsLaw", "set", "(LBlockRows;II[J)I"⟩
abbrev c_X_set : ByteArray := prog_1_method_4_code
abbrev y_X_set : MethodName := ⟨"BlockRows", "set", "(II)I"⟩
abbrev c_L_go : ByteArray := method_6_code
abbrev y_L_go : MethodName := ⟨"BlockRowsLaw", "go", "(LBlockRows;I[J)I"⟩
abbrev c_X_go : ByteArray := prog_1_method_5_code
abbrev y_X_go : MethodName := ⟨"BlockRows", "go", "(I)I"⟩
abbrev c_L_run : ByteArray := method_7_code
abbrev y_L_run : MethodName := ⟨"BlockRowsLaw", "run", "(LBlockRows;I[J)I"⟩
abbrev c_X_run : ByteArray := prog_1_method_6_code
abbrev y_X_run : MethodName := ⟨"BlockRows", "run", "(I)I"⟩
abbrev c_X_doBlock : ByteArray := prog_1_method_18_code
abbrev y_X_doBlock : MethodName := ⟨"BlockRows", "doBlock", "(I)I"⟩
abbrev c_X_blockAt : ByteArray := prog_1_method_19_code
abbrev y_X_blockAt : MethodName := ⟨"BlockRows", "blockAt", "(I)LBlockRows$Block;"⟩
abbrev c_B_beginsAt : ByteArray := prog_2_method_3_code
abbrev y_B_beginsAt : MethodName := ⟨"BlockRows$Block", "beginsAt", "(I)Z"⟩
abbrev c_X_decode : ByteArray := prog_1_method_20_code
abbrev y_X_decode : MethodName := ⟨"BlockRows", "decode", "(LBlockRows$Block;I)V"⟩
abbrev c_X_wordAt : ByteArray := prog_1_method_21_code
abbrev y_X_wordAt : MethodName := ⟨"BlockRows", "wordAt", "(I)I"⟩
abbrev c_X_lengthOf : ByteArray := prog_1_method_23_code
abbrev y_X_lengthOf : MethodName := ⟨"BlockRows", "lengthOf", "(I)I"⟩
abbrev c_X_bytesOfOutside : ByteArray := prog_1_method_22_code
abbrev y_X_bytesOfOutside : MethodName := ⟨"BlockRows", "bytesOfOutside", "(I)I"⟩
abbrev c_X_endsBlock : ByteArray := prog_1_method_24_code
abbrev y_X_endsBlock : MethodName := ⟨"BlockRows", "endsBlock", "(I)Z"⟩
abbrev c_X_doWord : ByteArray := prog_1_method_25_code
abbrev y_X_doWord : MethodName := ⟨"BlockRows", "doWord", "(I)Z"⟩
abbrev c_X_stateBefore : ByteArray := prog_1_method_26_code
abbrev y_X_stateBefore : MethodName := ⟨"BlockRows", "stateBefore", "(II)I"⟩
abbrev c_X_perform : ByteArray := prog_1_method_27_code
abbrev y_X_perform : MethodName := ⟨"BlockRows", "perform", "(III)V"⟩
abbrev c_X_belowZeroToo : ByteArray := prog_1_method_30_code
abbrev y_X_belowZeroToo : MethodName := ⟨"BlockRows", "belowZeroToo", "(I)I"⟩
abbrev c_X_holds : ByteArray := prog_1_method_29_code
abbrev y_X_holds : MethodName := ⟨"BlockRows", "holds", "(I)Z"⟩
abbrev c_X_isZero : ByteArray := prog_1_method_13_code
abbrev y_X_isZero : MethodName := ⟨"BlockRows", "isZero", "()Z"⟩
abbrev c_X_isBelow : ByteArray := prog_1_method_14_code
abbrev y_X_isBelow : MethodName := ⟨"BlockRows", "isBelow", "()Z"⟩
abbrev c_X_worked : ByteArray := prog_1_method_28_code
abbrev y_X_worked : MethodName := ⟨"BlockRows", "worked", "(III)I"⟩
abbrev c_L_memory : ByteArray := method_8_code
abbrev y_L_memory : MethodName := ⟨"BlockRowsLaw", "memory", "(LBlockRows;I[J)I"⟩
abbrev c_X_memory : ByteArray := prog_1_method_7_code
abbrev y_X_memory : MethodName := ⟨"BlockRows", "memory", "(I)I"⟩
abbrev c_L_register : ByteArray := method_9_code
abbrev y_L_register : MethodName := ⟨"BlockRowsLaw", "register", "(LBlockRows;I[J)I"⟩
abbrev c_X_register : ByteArray := prog_1_method_8_code
abbrev y_X_register : MethodName := ⟨"BlockRows", "register", "(I)I"⟩
abbrev c_L_row : ByteArray := method_10_code
abbrev y_L_row : MethodName := ⟨"BlockRowsLaw", "row", "(LBlockRows;II[J)I"⟩
abbrev c_X_row : ByteArray := prog_1_method_9_code
abbrev y_X_row : MethodName := ⟨"BlockRows", "row", "(II)I"⟩
abbrev c_M_init : ByteArray := prog_4_method_1_code
abbrev y_M_init : MethodName := ⟨"BlockRowsModel", "<init>", "()V"⟩
abbrev c_M_thrown : ByteArray := prog_4_method_2_code
abbrev y_M_thrown : MethodName := ⟨"BlockRowsModel", "thrown", "()I"⟩
abbrev c_M_poke : ByteArray := prog_4_method_8_code
abbrev y_M_poke : MethodName := ⟨"BlockRowsModel", "poke", "(II)I"⟩
abbrev c_M_isThere : ByteArray := prog_4_method_5_code
abbrev y_M_isThere : MethodName := ⟨"BlockRowsModel", "isThere", "(I)Z"⟩
abbrev c_M_in : ByteArray := prog_4_method_4_code
abbrev y_M_in : MethodName := ⟨"BlockRowsModel", "in", "(III)Z"⟩
abbrev c_M_throwing : ByteArray := prog_4_method_3_code
abbrev y_M_throwing : MethodName := ⟨"BlockRowsModel", "throwing", "(ZZ)Z"⟩
abbrev c_M_write : ByteArray := prog_4_method_7_code
abbrev y_M_write : MethodName := ⟨"BlockRowsModel", "write", "(II)V"⟩
abbrev c_M_throwOut : ByteArray := prog_4_method_6_code
abbrev y_M_throwOut : MethodName := ⟨"BlockRowsModel", "throwOut", "(I)V"⟩
abbrev c_M_pokeFour : ByteArray := prog_4_method_9_code
abbrev y_M_pokeFour : MethodName := ⟨"BlockRowsModel", "pokeFour", "(II)I"⟩
abbrev c_M_set : ByteArray := prog_4_method_10_code
abbrev y_M_set : MethodName := ⟨"BlockRowsModel", "set", "(II)I"⟩
abbrev c_M_go : ByteArray := prog_4_method_11_code
abbrev y_M_go : MethodName := ⟨"BlockRowsModel", "go", "(I)I"⟩
abbrev c_M_run : ByteArray := prog_4_method_22_code
abbrev y_M_run : MethodName := ⟨"BlockRowsModel", "run", "(I)I"⟩
abbrev c_M_find : ByteArray := prog_4_method_16_code
abbrev y_M_find : MethodName := ⟨"BlockRowsModel", "find", "()V"⟩
abbrev c_M_make : ByteArray := prog_4_method_15_code
abbrev y_M_make : MethodName := ⟨"BlockRowsModel", "make", "(I)V"⟩
abbrev c_M_kindAt : ByteArray := prog_4_method_13_code
abbrev y_M_kindAt : MethodName := ⟨"BlockRowsModel", "kindAt", "(I)I"⟩
abbrev c_M_faultAt : ByteArray := prog_4_method_14_code
abbrev y_M_faultAt : MethodName := ⟨"BlockRowsModel", "faultAt", "(I)I"⟩
abbrev c_M_sizeOf : ByteArray := prog_4_method_12_code
abbrev y_M_sizeOf : MethodName := ⟨"BlockRowsModel", "sizeOf", "(I)I"⟩
abbrev c_M_does : ByteArray := prog_4_method_20_code
abbrev y_M_does : MethodName := ⟨"BlockRowsModel", "does", "()Z"⟩
abbrev c_M_fault : ByteArray := prog_4_method_19_code
abbrev y_M_fault : MethodName := ⟨"BlockRowsModel", "fault", "(I)V"⟩
abbrev c_M_holds : ByteArray := prog_4_method_18_code
abbrev y_M_holds : MethodName := ⟨"BlockRowsModel", "holds", "(I)Z"⟩
abbrev c_M_work : ByteArray := prog_4_method_21_code
abbrev y_M_work : MethodName := ⟨"BlockRowsModel", "work", "(IIII)V"⟩
abbrev c_M_become : ByteArray := prog_4_method_17_code
abbrev y_M_become : MethodName := ⟨"BlockRowsModel", "become", "(II)V"⟩
abbrev c_M_memory : ByteArray := prog_4_method_23_code
abbrev y_M_memory : MethodName := ⟨"BlockRowsModel", "memory", "(I)I"⟩
abbrev c_M_register : ByteArray := prog_4_method_24_code
abbrev y_M_register : MethodName := ⟨"BlockRowsModel", "register", "(I)I"⟩
abbrev c_M_row : ByteArray := prog_4_method_25_code
abbrev y_M_row : MethodName := ⟨"BlockRowsModel", "row", "(II)I"⟩
abbrev c_M_forget : ByteArray := prog_4_method_26_code
abbrev y_M_forget : MethodName := ⟨"BlockRowsModel", "forget", "()I"⟩
abbrev c_M_count : ByteArray := prog_4_method_27_code
abbrev y_M_count : MethodName := ⟨"BlockRowsModel", "count", "(I)I"⟩
abbrev c_L_law : ByteArray := code
abbrev y_L_law : MethodName := ⟨"BlockRowsLaw", "law", "([I)Z"⟩
/-- the tables' words that stand for good -/
def tbW : List Cond := lw_tbl.filter goodWord
theorem tb_mem {w : Cond} (h : w ∈ lw_tbl) (hg : goodWord w = true) : w ∈ tbW := List.mem_filter.mpr ⟨h, hg⟩
theorem tb_t {w : Cond} (i : Nat) (h : tables_1[i]? = some w) (hg : goodWord w = true) : w ∈ tbW := tb_mem (List.mem_append_right _ (List.mem_of_getElem? h)) hg
theorem tb_s {w : Cond} (i : Nat) (h : (k2_sels lw_privs)[i]? = some w) (hg : goodWord w = true) : w ∈ tbW := tb_mem (List.mem_append_left _ (List.mem_of_getElem? h)) hg
theorem tb_r {w : Cond} (i : Nat) (h : tables_1[i]? = some w) : w ∈ lw_tbl := List.mem_append_right _ (List.mem_of_getElem? h)
theorem q_0 : (Jvm.Cond.initialized "BlockRowsLaw") ∈ tbW := tb_t 0 (by decide +kernel) rfl
theorem q_1 : (Jvm.Cond.initialized "BlockRows") ∈ tbW := tb_t 1 (by decide +kernel) rfl
theorem q_2 : (Jvm.Cond.initialized "BlockRows$Block") ∈ tbW := tb_t 2 (by decide +kernel) rfl
theorem q_3 : (Jvm.Cond.initialized "BlockRowsModel") ∈ tbW := tb_t 3 (by decide +kernel) rfl
theorem q_4 : (Jvm.Cond.initialized "java/lang/Throwable") ∈ tbW := tb_t 4 (by decide +kernel) rfl
theorem q_5 : (Jvm.Cond.initialized "java/lang/Exception") ∈ tbW := tb_t 5 (by decide +kernel) rfl
theorem q_6 : (Jvm.Cond.initialized "java/lang/RuntimeException") ∈ tbW := tb_t 6 (by decide +kernel) rfl
theorem q_7 : (Jvm.Cond.initialized "java/lang/IndexOutOfBoundsException") ∈ tbW := tb_t 7 (by decide +kernel) rfl
theorem q_8 : (Jvm.Cond.initialized "java/lang/IllegalArgumentException") ∈ tbW := tb_t 8 (by decide +kernel) rfl
theorem q_9 : (Jvm.Cond.initialized "java/lang/Math") ∈ tbW := tb_t 9 (by decide +kernel) rfl
theorem q_10 : (Jvm.Cond.classLink "BlockRowsLaw" (8 : Nat) "BlockRows") ∈ tbW := tb_t 10 (by decide +kernel) rfl
theorem q_11 : (Jvm.Cond.instantiable "BlockRows" (12 : Nat)) ∈ tbW := tb_t 11 (by decide +kernel) rfl
theorem q_12 : (Jvm.Cond.methodLink "BlockRowsLaw" (39 : Nat) ({ cls := "BlockRows", name := "<init>", desc := "()V" } : Jvm.MethodName)) ∈ tbW := tb_t 12 (by decide +kernel) rfl
theorem q_13 : (Jvm.Cond.instanceMethod ({ cls := "BlockRows", name := "<init>", desc := "()V" } : Jvm.MethodName)) ∈ tbW := tb_t 13 (by decide +kernel) rfl
theorem q_14 : (Cond.code y_X_init c_X_init 2 none) ∈ tbW := tb_t 14 rfl rfl
theorem q_15 : (Jvm.Cond.methodLink "BlockRows" (1 : Nat) ({ cls := "java/lang/Object", name := "<init>", desc := "()V" } : Jvm.MethodName)) ∈ tbW := tb_t 15 (by decide +kernel) rfl
theorem q_16 : (Jvm.Cond.instanceMethod ({ cls := "java/lang/Object", name := "<init>", desc := "()V" } : Jvm.MethodName)) ∈ tbW := tb_t 16 (by decide +kernel) rfl
theorem q_17 : (Jvm.Cond.code ({ cls := "java/lang/Object", name := "<init>", desc := "()V" } : Jvm.MethodName) object_method_1_code (1 : Nat) (Option.none : Option Jvm.ClassFile.FieldType)) ∈ tbW := tb_t 17 rfl rfl
theorem q_18 : (Jvm.Cond.classLink "BlockRows" (16 : Nat) "BlockRows$Block") ∈ tbW := tb_t 18 (by decide +kernel) rfl
theorem q_19 : (Jvm.Cond.arrayOver (Jvm.ClassFile.FieldType.object "BlockRows$Block")) ∈ lw_tbl := tb_r 19 (by decide +kernel)
theorem q_20 : (Jvm.Cond.instantiable "BlockRows$Block" (4 : Nat)) ∈ tbW := tb_t 20 (by decide +kernel) rfl
theorem q_21 : (Jvm.Cond.methodLinkNest "BlockRows" (32 : Nat) ({ cls := "BlockRows$Block", name := "<init>", desc := "()V" } : Jvm.MethodName) "BlockRows") ∈ lw_tbl := tb_r 21 (by decide +kernel)
theorem q_22 : (Jvm.Cond.instanceMethod ({ cls := "BlockRows$Block", name := "<init>", desc := "()V" } : Jvm.MethodName)) ∈ tbW := tb_t 22 (by decide +kernel) rfl
theorem q_23 : (Cond.code y_B_init c_B_init 1 none) ∈ tbW := tb_t 23 rfl rfl
theorem q_24 : (Jvm.Cond.methodLink "BlockRows$Block" (3 : Nat) ({ cls := "java/lang/Object", name := "<init>", desc := "()V" } : Jvm.MethodName)) ∈ tbW := tb_t 24 (by decide +kernel) rfl
theorem q_25 : (Jvm.Cond.fieldLink "BlockRows$Block" (9 : Nat) "BlockRows$Block" "words" "[I") ∈ tbW := tb_t 25 (by decide +kernel) rfl
theorem q_26 : (Jvm.Cond.fieldLinkNest "BlockRows" (127 : Nat) "BlockRows$Block" "words" "[I" "BlockRows") ∈ lw_tbl := tb_r 26 (by decide +kernel)
theorem q_27 : (Jvm.Cond.fieldLink "BlockRows$Block" (23 : Nat) "BlockRows$Block" "begin" "I") ∈ tbW := tb_t 27 (by decide +kernel) rfl
theorem q_28 : (Jvm.Cond.fieldLinkNest "BlockRows" (81 : Nat) "BlockRows$Block" "begin" "I" "BlockRows") ∈ lw_tbl := tb_r 28 (by decide +kernel)
theorem q_29 : (Jvm.Cond.fieldLink "BlockRows$Block" (15 : Nat) "BlockRows$Block" "wordCount" "I") ∈ tbW := tb_t 29 (by decide +kernel) rfl
theorem q_30 : (Jvm.Cond.fieldLinkNest "BlockRows" (84 : Nat) "BlockRows$Block" "wordCount" "I" "BlockRows") ∈ lw_tbl := tb_r 30 (by decide +kernel)
theorem q_31 : (Jvm.Cond.fieldLink "BlockRows$Block" (26 : Nat) "BlockRows$Block" "byteCount" "I") ∈ tbW := tb_t 31 (by decide +kernel) rfl
theorem q_32 : (Jvm.Cond.fieldLinkNest "BlockRows" (87 : Nat) "BlockRows$Block" "byteCount" "I" "BlockRows") ∈ lw_tbl := tb_r 32 (by decide +kernel)
theorem q_33 : (Jvm.Cond.laysFinal "BlockRows$Block" "BlockRows$Block" "words" "[I") ∈ tbW := tb_t 33 (by decide +kernel) rfl
theorem q_34 : (Jvm.Cond.soleField "BlockRows$Block" "words") ∈ tbW := tb_t 34 (by decide +kernel) rfl
theorem q_35 : (Jvm.Cond.lays "BlockRows$Block" "BlockRows$Block" "begin" "I") ∈ tbW := tb_t 35 (by decide +kernel) rfl
theorem q_36 : (Jvm.Cond.soleField "BlockRows$Block" "begin") ∈ tbW := tb_t 36 (by decide +kernel) rfl
theorem q_37 : (Jvm.Cond.lays "BlockRows$Block" "BlockRows$Block" "wordCount" "I") ∈ tbW := tb_t 37 (by decide +kernel) rfl
theorem q_38 : (Jvm.Cond.soleField "BlockRows$Block" "wordCount") ∈ tbW := tb_t 38 (by decide +kernel) rfl
theorem q_39 : (Jvm.Cond.lays "BlockRows$Block" "BlockRows$Block" "byteCount" "I") ∈ tbW := tb_t 39 (by decide +kernel) rfl
theorem q_40 : (Jvm.Cond.soleField "BlockRows$Block" "byteCount") ∈ tbW := tb_t 40 (by decide +kernel) rfl
theorem q_41 : (Jvm.Cond.superclass "BlockRows$Block" "java/lang/Object") ∈ tbW := tb_t 41 (by decide +kernel) rfl
theorem q_42 : (Jvm.Cond.arrayClass Jvm.ClassFile.FieldType.int) ∈ tbW := tb_t 42 (by decide +kernel) rfl
theorem q_43 : (Jvm.Cond.fieldLink "BlockRows" (9 : Nat) "BlockRows" "bytes" "[I") ∈ tbW := tb_t 43 (by decide +kernel) rfl
theorem q_44 : (Jvm.Cond.fieldLink "BlockRows" (13 : Nat) "BlockRows" "registers" "[I") ∈ tbW := tb_t 44 (by decide +kernel) rfl
theorem q_45 : (Jvm.Cond.fieldLink "BlockRows" (18 : Nat) "BlockRows" "blocks" "[LBlockRows$Block;") ∈ tbW := tb_t 45 (by decide +kernel) rfl
theorem q_46 : (Jvm.Cond.fieldLink "BlockRows" (22 : Nat) "BlockRows" "place" "I") ∈ tbW := tb_t 46 (by decide +kernel) rfl
theorem q_47 : (Jvm.Cond.fieldLink "BlockRows" (26 : Nat) "BlockRows" "state" "I") ∈ tbW := tb_t 47 (by decide +kernel) rfl
theorem q_48 : (Jvm.Cond.fieldLink "BlockRows" (29 : Nat) "BlockRows" "flagged" "I") ∈ tbW := tb_t 48 (by decide +kernel) rfl
theorem q_49 : (Jvm.Cond.fieldLink "BlockRows" (94 : Nat) "BlockRows" "steps" "I") ∈ tbW := tb_t 49 (by decide +kernel) rfl
theorem q_50 : (Jvm.Cond.fieldLink "BlockRows" (97 : Nat) "BlockRows" "made" "I") ∈ tbW := tb_t 50 (by decide +kernel) rfl
theorem q_51 : (Jvm.Cond.fieldLink "BlockRows" (100 : Nat) "BlockRows" "hits" "I") ∈ tbW := tb_t 51 (by decide +kernel) rfl
theorem q_52 : (Jvm.Cond.fieldLink "BlockRows" (103 : Nat) "BlockRows" "thrownOut" "I") ∈ tbW := tb_t 52 (by decide +kernel) rfl
theorem q_53 : (Jvm.Cond.fieldLink "BlockRows" (110 : Nat) "BlockRows" "stored" "I") ∈ tbW := tb_t 53 (by decide +kernel) rfl
theorem q_54 : (Jvm.Cond.fieldLink "BlockRows" (113 : Nat) "BlockRows" "decoded" "I") ∈ tbW := tb_t 54 (by decide +kernel) rfl
theorem q_55 : (Jvm.Cond.laysFinal "BlockRows" "BlockRows" "bytes" "[I") ∈ tbW := tb_t 55 (by decide +kernel) rfl
theorem q_56 : (Jvm.Cond.soleField "BlockRows" "bytes") ∈ tbW := tb_t 56 (by decide +kernel) rfl
theorem q_57 : (Jvm.Cond.laysFinal "BlockRows" "BlockRows" "registers" "[I") ∈ tbW := tb_t 57 (by decide +kernel) rfl
theorem q_58 : (Jvm.Cond.soleField "BlockRows" "registers") ∈ tbW := tb_t 58 (by decide +kernel) rfl
theorem q_59 : (Jvm.Cond.laysFinal "BlockRows" "BlockRows" "blocks" "[LBlockRows$Block;") ∈ tbW := tb_t 59 (by decide +kernel) rfl
theorem q_60 : (Jvm.Cond.soleField "BlockRows" "blocks") ∈ tbW := tb_t 60 (by decide +kernel) rfl
theorem q_61 : (Jvm.Cond.lays "BlockRows" "BlockRows" "place" "I") ∈ tbW := tb_t 61 (by decide +kernel) rfl
theorem q_62 : (Jvm.Cond.soleField "BlockRows" "place") ∈ tbW := tb_t 62 (by decide +kernel) rfl
theorem q_63 : (Jvm.Cond.lays "BlockRows" "BlockRows" "state" "I") ∈ tbW := tb_t 63 (by decide +kernel) rfl
theorem q_64 : (Jvm.Cond.soleField "BlockRows" "state") ∈ tbW := tb_t 64 (by decide +kernel) rfl
theorem q_65 : (Jvm.Cond.lays "BlockRows" "BlockRows" "flagged" "I") ∈ tbW := tb_t 65 (by decide +kernel) rfl
theorem q_66 : (Jvm.Cond.soleField "BlockRows" "flagged") ∈ tbW := tb_t 66 (by decide +kernel) rfl
theorem q_67 : (Jvm.Cond.lays "BlockRows" "BlockRows" "steps" "I") ∈ tbW := tb_t 67 (by decide +kernel) rfl
theorem q_68 : (Jvm.Cond.soleField "BlockRows" "steps") ∈ tbW := tb_t 68 (by decide +kernel) rfl
theorem q_69 : (Jvm.Cond.lays "BlockRows" "BlockRows" "made" "I") ∈ tbW := tb_t 69 (by decide +kernel) rfl
theorem q_70 : (Jvm.Cond.soleField "BlockRows" "made") ∈ tbW := tb_t 70 (by decide +kernel) rfl
theorem q_71 : (Jvm.Cond.lays "BlockRows" "BlockRows" "hits" "I") ∈ tbW := tb_t 71 (by decide +kernel) rfl
theorem q_72 : (Jvm.Cond.soleField "BlockRows" "hits") ∈ tbW := tb_t 72 (by decide +kernel) rfl
theorem q_73 : (Jvm.Cond.lays "BlockRows" "BlockRows" "thrownOut" "I") ∈ tbW := tb_t 73 (by decide +kernel) rfl
theorem q_74 : (Jvm.Cond.soleField "BlockRows" "thrownOut") ∈ tbW := tb_t 74 (by decide +kernel) rfl
theorem q_75 : (Jvm.Cond.lays "BlockRows" "BlockRows" "stored" "I") ∈ tbW := tb_t 75 (by decide +kernel) rfl
theorem q_76 : (Jvm.Cond.soleField "BlockRows" "stored") ∈ tbW := tb_t 76 (by decide +kernel) rfl
theorem q_77 : (Jvm.Cond.lays "BlockRows" "BlockRows" "decoded" "I") ∈ tbW := tb_t 77 (by decide +kernel) rfl
theorem q_78 : (Jvm.Cond.soleField "BlockRows" "decoded") ∈ tbW := tb_t 78 (by decide +kernel) rfl
theorem q_79 : (Jvm.Cond.superclass "BlockRows" "java/lang/Object") ∈ tbW := tb_t 79 (by decide +kernel) rfl
theorem q_80 : (Jvm.Cond.methodLink "BlockRowsLaw" (75 : Nat) ({ cls := "BlockRows", name := "forget", desc := "()I" } : Jvm.MethodName)) ∈ tbW := tb_t 80 (by decide +kernel) rfl
theorem q_81 : (Jvm.Cond.instanceMethod ({ cls := "BlockRows", name := "forget", desc := "()I" } : Jvm.MethodName)) ∈ tbW := tb_t 81 (by decide +kernel) rfl
theorem q_82 : (Jvm.Cond.selects "BlockRows" ({ cls := "BlockRows", name := "forget", desc := "()I" } : Jvm.MethodName) ({ cls := "BlockRows", name := "forget", desc := "()I" } : Jvm.MethodName)) ∈ tbW := tb_t 82 (by decide +kernel) rfl
theorem q_83 : (Cond.code y_X_forget c_X_forget 3 (some .int)) ∈ tbW := tb_t 83 rfl rfl
theorem q_84 : (Jvm.Cond.methodLinkNest "BlockRows" (78 : Nat) ({ cls := "BlockRows$Block", name := "isKept", desc := "()Z" } : Jvm.MethodName) "BlockRows") ∈ lw_tbl := tb_r 84 (by decide +kernel)
theorem q_85 : (Jvm.Cond.privateMethod ({ cls := "BlockRows$Block", name := "isKept", desc := "()Z" } : Jvm.MethodName)) ∈ lw_tbl := tb_r 85 (by decide +kernel)
theorem q_86 : (Jvm.Cond.instanceMethod ({ cls := "BlockRows$Block", name := "isKept", desc := "()Z" } : Jvm.MethodName)) ∈ tbW := tb_t 86 (by decide +kernel) rfl
theorem q_87 : (Cond.code y_B_isKept c_B_isKept 1 (some .boolean)) ∈ tbW := tb_t 87 rfl rfl
theorem q_88 : (Jvm.Cond.methodLink "BlockRows" (90 : Nat) ({ cls := "BlockRows", name := "throwOut", desc := "(LBlockRows$Block;)V" } : Jvm.MethodName)) ∈ tbW := tb_t 88 (by decide +kernel) rfl
theorem q_89 : (Jvm.Cond.privateMethod ({ cls := "BlockRows", name := "throwOut", desc := "(LBlockRows$Block;)V" } : Jvm.MethodName)) ∈ lw_tbl := tb_r 89 (by decide +kernel)
theorem q_90 : (Jvm.Cond.instanceMethod ({ cls := "BlockRows", name := "throwOut", desc := "(LBlockRows$Block;)V" } : Jvm.MethodName)) ∈ tbW := tb_t 90 (by decide +kernel) rfl
theorem q_91 : (Cond.code y_X_throwOut c_X_throwOut 2 none) ∈ tbW := tb_t 91 rfl rfl
theorem q_92 : (Jvm.Cond.methodLinkNest "BlockRows" (116 : Nat) ({ cls := "BlockRows$Block", name := "empty", desc := "(I)V" } : Jvm.MethodName) "BlockRows") ∈ lw_tbl := tb_r 92 (by decide +kernel)
theorem q_93 : (Jvm.Cond.privateMethod ({ cls := "BlockRows$Block", name := "empty", desc := "(I)V" } : Jvm.MethodName)) ∈ lw_tbl := tb_r 93 (by decide +kernel)
theorem q_94 : (Jvm.Cond.instanceMethod ({ cls := "BlockRows$Block", name := "empty", desc := "(I)V" } : Jvm.MethodName)) ∈ tbW := tb_t 94 (by decide +kernel) rfl
theorem q_95 : (Cond.code y_B_empty c_B_empty 2 none) ∈ tbW := tb_t 95 rfl rfl
theorem q_96 : (Jvm.Cond.methodLink "BlockRowsLaw" (79 : Nat) ({ cls := "BlockRows", name := "count", desc := "(I)I" } : Jvm.MethodName)) ∈ tbW := tb_t 96 (by decide +kernel) rfl
theorem q_97 : (Jvm.Cond.instanceMethod ({ cls := "BlockRows", name := "count", desc := "(I)I" } : Jvm.MethodName)) ∈ tbW := tb_t 97 (by decide +kernel) rfl
theorem q_98 : (Jvm.Cond.selects "BlockRows" ({ cls := "BlockRows", name := "count", desc := "(I)I" } : Jvm.MethodName) ({ cls := "BlockRows", name := "count", desc := "(I)I" } : Jvm.MethodName)) ∈ tbW := tb_t 98 (by decide +kernel) rfl
theorem q_99 : (Cond.code y_X_count c_X_count 2 (some .int)) ∈ tbW := tb_t 99 rfl rfl
theorem q_100 : (Jvm.Cond.methodLink "BlockRows" (106 : Nat) ({ cls := "BlockRows", name := "keptNow", desc := "()I" } : Jvm.MethodName)) ∈ tbW := tb_t 100 (by decide +kernel) rfl
theorem q_101 : (Jvm.Cond.privateMethod ({ cls := "BlockRows", name := "keptNow", desc := "()I" } : Jvm.MethodName)) ∈ lw_tbl := tb_r 101 (by decide +kernel)
theorem q_102 : (Jvm.Cond.instanceMethod ({ cls := "BlockRows", name := "keptNow", desc := "()I" } : Jvm.MethodName)) ∈ tbW := tb_t 102 (by decide +kernel) rfl
theorem q_103 : (Cond.code y_X_keptNow c_X_keptNow 3 (some .int)) ∈ tbW := tb_t 103 rfl rfl
theorem q_104 : (Jvm.Cond.methodLink "BlockRowsLaw" (43 : Nat) ({ cls := "BlockRowsLaw", name := "poke", desc := "(LBlockRows;II[J)I" } : Jvm.MethodName)) ∈ tbW := tb_t 104 (by decide +kernel) rfl
theorem q_105 : (Jvm.Cond.static ({ cls := "BlockRowsLaw", name := "poke", desc := "(LBlockRows;II[J)I" } : Jvm.MethodName)) ∈ tbW := tb_t 105 (by decide +kernel) rfl
theorem q_106 : (Cond.codeWith y_L_poke c_L_poke 5 (some .int) [(0, 10, 13, 13), (0, 10, 17, 15)]) ∈ tbW := tb_t 106 rfl rfl
theorem q_107 : (Jvm.Cond.classLink "BlockRowsLaw" (13 : Nat) "java/lang/IndexOutOfBoundsException") ∈ tbW := tb_t 107 (by decide +kernel) rfl
theorem q_108 : (Jvm.Cond.classLink "BlockRowsLaw" (15 : Nat) "java/lang/IllegalArgumentException") ∈ tbW := tb_t 108 (by decide +kernel) rfl
theorem q_109 : (Jvm.Cond.methodLink "BlockRowsLaw" (7 : Nat) ({ cls := "BlockRows", name := "poke", desc := "(II)I" } : Jvm.MethodName)) ∈ tbW := tb_t 109 (by decide +kernel) rfl
theorem q_110 : (Jvm.Cond.instanceMethod ({ cls := "BlockRows", name := "poke", desc := "(II)I" } : Jvm.MethodName)) ∈ tbW := tb_t 110 (by decide +kernel) rfl
theorem q_111 : (Jvm.Cond.selects "BlockRows" ({ cls := "BlockRows", name := "poke", desc := "(II)I" } : Jvm.MethodName) ({ cls := "BlockRows", name := "poke", desc := "(II)I" } : Jvm.MethodName)) ∈ tbW := tb_t 111 (by decide +kernel) rfl
theorem q_112 : (Cond.code y_X_poke c_X_poke 4 (some .int)) ∈ tbW := tb_t 112 rfl rfl
theorem q_113 : (Jvm.Cond.methodLink "BlockRows" (33 : Nat) ({ cls := "BlockRows", name := "inMemory", desc := "(I)Z" } : Jvm.MethodName)) ∈ tbW := tb_t 113 (by decide +kernel) rfl
theorem q_114 : (Jvm.Cond.static ({ cls := "BlockRows", name := "inMemory", desc := "(I)Z" } : Jvm.MethodName)) ∈ tbW := tb_t 114 (by decide +kernel) rfl
theorem q_115 : (Cond.code y_X_inMemory c_X_inMemory 1 (some .boolean)) ∈ tbW := tb_t 115 rfl rfl
theorem q_116 : (Jvm.Cond.classLink "BlockRows" (37 : Nat) "java/lang/IndexOutOfBoundsException") ∈ tbW := tb_t 116 (by decide +kernel) rfl
theorem q_117 : (Jvm.Cond.instantiable "java/lang/IndexOutOfBoundsException" (6 : Nat)) ∈ tbW := tb_t 117 (by decide +kernel) rfl
theorem q_118 : (Jvm.Cond.castable "java/lang/IndexOutOfBoundsException" "java/lang/IndexOutOfBoundsException") ∈ lw_tbl := tb_r 118 (by decide +kernel)
theorem q_119 : (Jvm.Cond.declares ({ cls := "java/lang/RuntimeException", name := "<init>", desc := "()V" } : Jvm.MethodName)) ∈ lw_tbl := tb_r 119 (by decide +kernel)
theorem q_120 : (Jvm.Cond.declares ({ cls := "java/lang/RuntimeException", name := "<init>", desc := "(Ljava/lang/String;)V" } : Jvm.MethodName)) ∈ lw_tbl := tb_r 120 (by decide +kernel)
theorem q_121 : (Jvm.Cond.declares ({ cls := "java/lang/Exception", name := "<init>", desc := "()V" } : Jvm.MethodName)) ∈ lw_tbl := tb_r 121 (by decide +kernel)
theorem q_122 : (Jvm.Cond.declares ({ cls := "java/lang/Exception", name := "<init>", desc := "(Ljava/lang/String;)V" } : Jvm.MethodName)) ∈ lw_tbl := tb_r 122 (by decide +kernel)
theorem q_123 : (Jvm.Cond.declares ({ cls := "java/lang/Throwable", name := "<init>", desc := "()V" } : Jvm.MethodName)) ∈ lw_tbl := tb_r 123 (by decide +kernel)
theorem q_124 : (Jvm.Cond.declares ({ cls := "java/lang/Throwable", name := "<init>", desc := "(Ljava/lang/String;)V" } : Jvm.MethodName)) ∈ lw_tbl := tb_r 124 (by decide +kernel)
theorem q_125 : (Jvm.Cond.selects "java/lang/IndexOutOfBoundsException" ({ cls := "java/lang/Throwable", name := "fillInStackTrace", desc := "(I)Ljava/lang/Throwable;" } : Jvm.MethodName) ({ cls := "java/lang/Throwable", name := "fillInStackTrace", desc := "(I)Ljava/lang/Throwable;" } : Jvm.MethodName)) ∈ tbW := tb_t 125 (by decide +kernel) rfl
theorem q_126 : (Jvm.Cond.selects "java/lang/IndexOutOfBoundsException" ({ cls := "java/lang/Throwable", name := "fillInStackTrace", desc := "()Ljava/lang/Throwable;" } : Jvm.MethodName) ({ cls := "java/lang/Throwable", name := "fillInStackTrace", desc := "()Ljava/lang/Throwable;" } : Jvm.MethodName)) ∈ tbW := tb_t 126 (by decide +kernel) rfl
theorem q_127 : (Jvm.Cond.lays "java/lang/IndexOutOfBoundsException" "java/lang/Throwable" "cause" "Ljava/lang/Throwable;") ∈ tbW := tb_t 127 (by decide +kernel) rfl
theorem q_128 : (Jvm.Cond.lays "java/lang/Throwable" "java/lang/Throwable" "cause" "Ljava/lang/Throwable;") ∈ tbW := tb_t 128 (by decide +kernel) rfl
theorem q_129 : (Jvm.Cond.lays "java/lang/IndexOutOfBoundsException" "java/lang/Throwable" "stackTrace" "[Ljava/lang/StackTraceElement;") ∈ tbW := tb_t 129 (by decide +kernel) rfl
theorem q_130 : (Jvm.Cond.lays "java/lang/Throwable" "java/lang/Throwable" "stackTrace" "[Ljava/lang/StackTraceElement;") ∈ tbW := tb_t 130 (by decide +kernel) rfl
theorem q_131 : (Jvm.Cond.lays "java/lang/IndexOutOfBoundsException" "java/lang/Throwable" "suppressedExceptions" "Ljava/util/List;") ∈ tbW := tb_t 131 (by decide +kernel) rfl
theorem q_132 : (Jvm.Cond.lays "java/lang/Throwable" "java/lang/Throwable" "suppressedExceptions" "Ljava/util/List;") ∈ tbW := tb_t 132 (by decide +kernel) rfl
theorem q_133 : (Jvm.Cond.lays "java/lang/IndexOutOfBoundsException" "java/lang/Throwable" "detailMessage" "Ljava/lang/String;") ∈ tbW := tb_t 133 (by decide +kernel) rfl
theorem q_134 : (Jvm.Cond.lays "java/lang/Throwable" "java/lang/Throwable" "detailMessage" "Ljava/lang/String;") ∈ tbW := tb_t 134 (by decide +kernel) rfl
theorem q_135 : (Jvm.Cond.lays "java/lang/IndexOutOfBoundsException" "java/lang/Throwable" "backtrace" "Ljava/lang/Object;") ∈ tbW := tb_t 135 (by decide +kernel) rfl
theorem q_136 : (Jvm.Cond.lays "java/lang/Throwable" "java/lang/Throwable" "backtrace" "Ljava/lang/Object;") ∈ tbW := tb_t 136 (by decide +kernel) rfl
theorem q_137 : (Jvm.Cond.fieldLink "java/lang/Throwable" (198 : Nat) "java/lang/Throwable" "backtrace" "Ljava/lang/Object;") ∈ tbW := tb_t 137 (by decide +kernel) rfl
theorem q_138 : (Jvm.Cond.superclass "java/lang/Throwable" "java/lang/Object") ∈ tbW := tb_t 138 (by decide +kernel) rfl
theorem q_139 : (Jvm.Cond.instanceMethod ({ cls := "java/lang/Throwable", name := "<init>", desc := "()V" } : Jvm.MethodName)) ∈ tbW := tb_t 139 (by decide +kernel) rfl
theorem q_140 : (Jvm.Cond.code ({ cls := "java/lang/Throwable", name := "<init>", desc := "()V" } : Jvm.MethodName) prog_11_method_1_code (1 : Nat) (Option.none : Option Jvm.ClassFile.FieldType)) ∈ tbW := tb_t 140 rfl rfl
theorem q_141 : (Jvm.Cond.methodLink "java/lang/Throwable" (1 : Nat) ({ cls := "java/lang/Object", name := "<init>", desc := "()V" } : Jvm.MethodName)) ∈ tbW := tb_t 141 (by decide +kernel) rfl
theorem q_142 : (Jvm.Cond.fieldLink "java/lang/Throwable" (13 : Nat) "java/lang/Throwable" "UNASSIGNED_STACK" "[Ljava/lang/StackTraceElement;") ∈ tbW := tb_t 142 (by decide +kernel) rfl
theorem q_143 : (Jvm.Cond.laysStatic "java/lang/Throwable" "UNASSIGNED_STACK" "[Ljava/lang/StackTraceElement;") ∈ lw_tbl := tb_r 143 (by decide +kernel)
theorem q_144 : (Jvm.Cond.fieldLink "java/lang/Throwable" (20 : Nat) "java/lang/Throwable" "SUPPRESSED_SENTINEL" "Ljava/util/List;") ∈ tbW := tb_t 144 (by decide +kernel) rfl
theorem q_145 : (Jvm.Cond.laysStatic "java/lang/Throwable" "SUPPRESSED_SENTINEL" "Ljava/util/List;") ∈ lw_tbl := tb_r 145 (by decide +kernel)
theorem q_146 : (Jvm.Cond.methodLink "java/lang/Throwable" (27 : Nat) ({ cls := "java/lang/Throwable", name := "fillInStackTrace", desc := "()Ljava/lang/Throwable;" } : Jvm.MethodName)) ∈ tbW := tb_t 146 (by decide +kernel) rfl
theorem q_147 : (Jvm.Cond.instanceMethod ({ cls := "java/lang/Throwable", name := "fillInStackTrace", desc := "()Ljava/lang/Throwable;" } : Jvm.MethodName)) ∈ tbW := tb_t 147 (by decide +kernel) rfl
theorem q_148 : (Jvm.Cond.sameMethod "java/lang/Throwable" "java/lang/Throwable" "fillInStackTrace" "()Ljava/lang/Throwable;") ∈ tbW := tb_t 148 (by decide +kernel) rfl
theorem q_149 : (Jvm.Cond.selects "java/lang/IllegalArgumentException" ({ cls := "java/lang/Throwable", name := "fillInStackTrace", desc := "()Ljava/lang/Throwable;" } : Jvm.MethodName) ({ cls := "java/lang/Throwable", name := "fillInStackTrace", desc := "()Ljava/lang/Throwable;" } : Jvm.MethodName)) ∈ tbW := tb_t 149 (by decide +kernel) rfl
theorem q_150 : (Jvm.Cond.codeSync ({ cls := "java/lang/Throwable", name := "fillInStackTrace", desc := "()Ljava/lang/Throwable;" } : Jvm.MethodName) prog_11_method_18_code (1 : Nat) (Option.some (Jvm.ClassFile.FieldType.object "java/lang/Throwable"))) ∈ lw_tbl := tb_r 150 rfl
theorem q_151 : (Jvm.Cond.methodLink "java/lang/Throwable" (202 : Nat) ({ cls := "java/lang/Throwable", name := "fillInStackTrace", desc := "(I)Ljava/lang/Throwable;" } : Jvm.MethodName)) ∈ tbW := tb_t 151 (by decide +kernel) rfl
theorem q_152 : (Jvm.Cond.privateMethod ({ cls := "java/lang/Throwable", name := "fillInStackTrace", desc := "(I)Ljava/lang/Throwable;" } : Jvm.MethodName)) ∈ lw_tbl := tb_r 152 (by decide +kernel)
theorem q_153 : (Jvm.Cond.instanceMethod ({ cls := "java/lang/Throwable", name := "fillInStackTrace", desc := "(I)Ljava/lang/Throwable;" } : Jvm.MethodName)) ∈ tbW := tb_t 153 (by decide +kernel) rfl
theorem q_154 : (Jvm.Cond.instantiable "java/lang/Throwable" (6 : Nat)) ∈ tbW := tb_t 154 (by decide +kernel) rfl
theorem q_155 : (Jvm.Cond.native ({ cls := "java/lang/Throwable", name := "fillInStackTrace", desc := "(I)Ljava/lang/Throwable;" } : Jvm.MethodName)) ∈ lw_tbl := tb_r 155 (by decide +kernel)
theorem q_156 : (Jvm.Cond.stringRef "BlockRows" (39 : Nat) "no such byte") ∈ lw_tbl := tb_r 156 (by decide +kernel)
theorem q_157 : (Jvm.Cond.methodLink "BlockRows" (41 : Nat) ({ cls := "java/lang/IndexOutOfBoundsException", name := "<init>", desc := "(Ljava/lang/String;)V" } : Jvm.MethodName)) ∈ tbW := tb_t 157 (by decide +kernel) rfl
theorem q_158 : (Jvm.Cond.instanceMethod ({ cls := "java/lang/IndexOutOfBoundsException", name := "<init>", desc := "(Ljava/lang/String;)V" } : Jvm.MethodName)) ∈ tbW := tb_t 158 (by decide +kernel) rfl
theorem q_159 : (Jvm.Cond.code ({ cls := "java/lang/IndexOutOfBoundsException", name := "<init>", desc := "(Ljava/lang/String;)V" } : Jvm.MethodName) prog_7_method_2_code (2 : Nat) (Option.none : Option Jvm.ClassFile.FieldType)) ∈ tbW := tb_t 159 rfl rfl
theorem q_160 : (Jvm.Cond.methodLink "java/lang/IndexOutOfBoundsException" (7 : Nat) ({ cls := "java/lang/RuntimeException", name := "<init>", desc := "(Ljava/lang/String;)V" } : Jvm.MethodName)) ∈ tbW := tb_t 160 (by decide +kernel) rfl
theorem q_161 : (Jvm.Cond.instanceMethod ({ cls := "java/lang/RuntimeException", name := "<init>", desc := "(Ljava/lang/String;)V" } : Jvm.MethodName)) ∈ tbW := tb_t 161 (by decide +kernel) rfl
theorem q_162 : (Jvm.Cond.code ({ cls := "java/lang/RuntimeException", name := "<init>", desc := "(Ljava/lang/String;)V" } : Jvm.MethodName) prog_9_method_2_code (2 : Nat) (Option.none : Option Jvm.ClassFile.FieldType)) ∈ tbW := tb_t 162 rfl rfl
theorem q_163 : (Jvm.Cond.methodLink "java/lang/RuntimeException" (7 : Nat) ({ cls := "java/lang/Exception", name := "<init>", desc := "(Ljava/lang/String;)V" } : Jvm.MethodName)) ∈ tbW := tb_t 163 (by decide +kernel) rfl
theorem q_164 : (Jvm.Cond.instanceMethod ({ cls := "java/lang/Exception", name := "<init>", desc := "(Ljava/lang/String;)V" } : Jvm.MethodName)) ∈ tbW := tb_t 164 (by decide +kernel) rfl
theorem q_165 : (Jvm.Cond.code ({ cls := "java/lang/Exception", name := "<init>", desc := "(Ljava/lang/String;)V" } : Jvm.MethodName) prog_5_method_2_code (2 : Nat) (Option.none : Option Jvm.ClassFile.FieldType)) ∈ tbW := tb_t 165 rfl rfl
theorem q_166 : (Jvm.Cond.methodLink "java/lang/Exception" (7 : Nat) ({ cls := "java/lang/Throwable", name := "<init>", desc := "(Ljava/lang/String;)V" } : Jvm.MethodName)) ∈ tbW := tb_t 166 (by decide +kernel) rfl
theorem q_167 : (Jvm.Cond.instanceMethod ({ cls := "java/lang/Throwable", name := "<init>", desc := "(Ljava/lang/String;)V" } : Jvm.MethodName)) ∈ tbW := tb_t 167 (by decide +kernel) rfl
theorem q_168 : (Jvm.Cond.code ({ cls := "java/lang/Throwable", name := "<init>", desc := "(Ljava/lang/String;)V" } : Jvm.MethodName) prog_11_method_2_code (2 : Nat) (Option.none : Option Jvm.ClassFile.FieldType)) ∈ tbW := tb_t 168 rfl rfl
theorem q_169 : (Jvm.Cond.fieldLink "java/lang/Throwable" (198 : Nat) "java/lang/Throwable" "backtrace" "Ljava/lang/Object;") ∈ tbW := tb_t 169 (by decide +kernel) rfl
theorem q_170 : (Jvm.Cond.fieldLink "java/lang/Throwable" (31 : Nat) "java/lang/Throwable" "detailMessage" "Ljava/lang/String;") ∈ tbW := tb_t 170 (by decide +kernel) rfl
theorem q_171 : (Jvm.Cond.fieldLink "java/lang/Throwable" (7 : Nat) "java/lang/Throwable" "cause" "Ljava/lang/Throwable;") ∈ tbW := tb_t 171 (by decide +kernel) rfl
theorem q_172 : (Jvm.Cond.fieldLink "java/lang/Throwable" (17 : Nat) "java/lang/Throwable" "stackTrace" "[Ljava/lang/StackTraceElement;") ∈ tbW := tb_t 172 (by decide +kernel) rfl
theorem q_173 : (Jvm.Cond.fieldLink "java/lang/Throwable" (24 : Nat) "java/lang/Throwable" "suppressedExceptions" "Ljava/util/List;") ∈ tbW := tb_t 173 (by decide +kernel) rfl
theorem q_174 : (Jvm.Cond.soleField "java/lang/Throwable" "backtrace") ∈ tbW := tb_t 174 (by decide +kernel) rfl
theorem q_175 : (Jvm.Cond.soleField "java/lang/Throwable" "detailMessage") ∈ tbW := tb_t 175 (by decide +kernel) rfl
theorem q_176 : (Jvm.Cond.soleField "java/lang/Throwable" "cause") ∈ tbW := tb_t 176 (by decide +kernel) rfl
theorem q_177 : (Jvm.Cond.soleField "java/lang/Throwable" "stackTrace") ∈ tbW := tb_t 177 (by decide +kernel) rfl
theorem q_178 : (Jvm.Cond.lays "java/lang/IndexOutOfBoundsException" "java/lang/Throwable" "depth" "I") ∈ tbW := tb_t 178 (by decide +kernel) rfl
theorem q_179 : (Jvm.Cond.soleField "java/lang/Throwable" "depth") ∈ tbW := tb_t 179 (by decide +kernel) rfl
theorem q_180 : (Jvm.Cond.soleField "java/lang/Throwable" "suppressedExceptions") ∈ tbW := tb_t 180 (by decide +kernel) rfl
theorem q_181 : (Jvm.Cond.superclass "java/lang/IndexOutOfBoundsException" "java/lang/RuntimeException") ∈ tbW := tb_t 181 (by decide +kernel) rfl
theorem q_182 : (Jvm.Cond.arrayClass Jvm.ClassFile.FieldType.byte) ∈ tbW := tb_t 182 (by decide +kernel) rfl
theorem q_183 : (Jvm.Cond.classLink "BlockRows" (44 : Nat) "java/lang/IllegalArgumentException") ∈ tbW := tb_t 183 (by decide +kernel) rfl
theorem q_184 : (Jvm.Cond.instantiable "java/lang/IllegalArgumentException" (6 : Nat)) ∈ tbW := tb_t 184 (by decide +kernel) rfl
theorem q_185 : (Jvm.Cond.castable "java/lang/IllegalArgumentException" "java/lang/IllegalArgumentException") ∈ lw_tbl := tb_r 185 (by decide +kernel)
theorem q_186 : (Jvm.Cond.selects "java/lang/IllegalArgumentException" ({ cls := "java/lang/Throwable", name := "fillInStackTrace", desc := "(I)Ljava/lang/Throwable;" } : Jvm.MethodName) ({ cls := "java/lang/Throwable", name := "fillInStackTrace", desc := "(I)Ljava/lang/Throwable;" } : Jvm.MethodName)) ∈ tbW := tb_t 186 (by decide +kernel) rfl
theorem q_187 : (Jvm.Cond.lays "java/lang/IllegalArgumentException" "java/lang/Throwable" "cause" "Ljava/lang/Throwable;") ∈ tbW := tb_t 187 (by decide +kernel) rfl
theorem q_188 : (Jvm.Cond.lays "java/lang/IllegalArgumentException" "java/lang/Throwable" "stackTrace" "[Ljava/lang/StackTraceElement;") ∈ tbW := tb_t 188 (by decide +kernel) rfl
theorem q_189 : (Jvm.Cond.lays "java/lang/IllegalArgumentException" "java/lang/Throwable" "suppressedExceptions" "Ljava/util/List;") ∈ tbW := tb_t 189 (by decide +kernel) rfl
theorem q_190 : (Jvm.Cond.lays "java/lang/IllegalArgumentException" "java/lang/Throwable" "detailMessage" "Ljava/lang/String;") ∈ tbW := tb_t 190 (by decide +kernel) rfl
theorem q_191 : (Jvm.Cond.lays "java/lang/IllegalArgumentException" "java/lang/Throwable" "backtrace" "Ljava/lang/Object;") ∈ tbW := tb_t 191 (by decide +kernel) rfl
theorem q_192 : (Jvm.Cond.stringRef "BlockRows" (46 : Nat) "not a byte") ∈ lw_tbl := tb_r 192 (by decide +kernel)
theorem q_193 : (Jvm.Cond.methodLink "BlockRows" (48 : Nat) ({ cls := "java/lang/IllegalArgumentException", name := "<init>", desc := "(Ljava/lang/String;)V" } : Jvm.MethodName)) ∈ tbW := tb_t 193 (by decide +kernel) rfl
theorem q_194 : (Jvm.Cond.instanceMethod ({ cls := "java/lang/IllegalArgumentException", name := "<init>", desc := "(Ljava/lang/String;)V" } : Jvm.MethodName)) ∈ tbW := tb_t 194 (by decide +kernel) rfl
theorem q_195 : (Jvm.Cond.code ({ cls := "java/lang/IllegalArgumentException", name := "<init>", desc := "(Ljava/lang/String;)V" } : Jvm.MethodName) prog_6_method_2_code (2 : Nat) (Option.none : Option Jvm.ClassFile.FieldType)) ∈ tbW := tb_t 195 rfl rfl
theorem q_196 : (Jvm.Cond.methodLink "java/lang/IllegalArgumentException" (7 : Nat) ({ cls := "java/lang/RuntimeException", name := "<init>", desc := "(Ljava/lang/String;)V" } : Jvm.MethodName)) ∈ tbW := tb_t 196 (by decide +kernel) rfl
theorem q_197 : (Jvm.Cond.lays "java/lang/IllegalArgumentException" "java/lang/Throwable" "depth" "I") ∈ tbW := tb_t 197 (by decide +kernel) rfl
theorem q_198 : (Jvm.Cond.superclass "java/lang/IllegalArgumentException" "java/lang/RuntimeException") ∈ tbW := tb_t 198 (by decide +kernel) rfl
theorem q_199 : (Jvm.Cond.methodLink "BlockRows" (49 : Nat) ({ cls := "BlockRows", name := "write", desc := "(II)V" } : Jvm.MethodName)) ∈ tbW := tb_t 199 (by decide +kernel) rfl
theorem q_200 : (Jvm.Cond.privateMethod ({ cls := "BlockRows", name := "write", desc := "(II)V" } : Jvm.MethodName)) ∈ lw_tbl := tb_r 200 (by decide +kernel)
theorem q_201 : (Jvm.Cond.instanceMethod ({ cls := "BlockRows", name := "write", desc := "(II)V" } : Jvm.MethodName)) ∈ tbW := tb_t 201 (by decide +kernel) rfl
theorem q_202 : (Cond.code y_X_write c_X_write 4 none) ∈ tbW := tb_t 202 rfl rfl
theorem q_203 : (Jvm.Cond.methodLinkNest "BlockRows" (120 : Nat) ({ cls := "BlockRows$Block", name := "hasByte", desc := "(I)Z" } : Jvm.MethodName) "BlockRows") ∈ lw_tbl := tb_r 203 (by decide +kernel)
theorem q_204 : (Jvm.Cond.privateMethod ({ cls := "BlockRows$Block", name := "hasByte", desc := "(I)Z" } : Jvm.MethodName)) ∈ lw_tbl := tb_r 204 (by decide +kernel)
theorem q_205 : (Jvm.Cond.instanceMethod ({ cls := "BlockRows$Block", name := "hasByte", desc := "(I)Z" } : Jvm.MethodName)) ∈ tbW := tb_t 205 (by decide +kernel) rfl
theorem q_206 : (Cond.code y_B_hasByte c_B_hasByte 2 (some .boolean)) ∈ tbW := tb_t 206 rfl rfl
theorem q_207 : (Jvm.Cond.methodLink "BlockRows$Block" (19 : Nat) ({ cls := "BlockRows$Block", name := "isKept", desc := "()Z" } : Jvm.MethodName)) ∈ tbW := tb_t 207 (by decide +kernel) rfl
theorem q_208 : (Jvm.Cond.methodLink "BlockRowsLaw" (53 : Nat) ({ cls := "BlockRowsLaw", name := "pokeFour", desc := "(LBlockRows;II[J)I" } : Jvm.MethodName)) ∈ tbW := tb_t 208 (by decide +kernel) rfl
theorem q_209 : (Jvm.Cond.static ({ cls := "BlockRowsLaw", name := "pokeFour", desc := "(LBlockRows;II[J)I" } : Jvm.MethodName)) ∈ tbW := tb_t 209 (by decide +kernel) rfl
theorem q_210 : (Cond.codeWith y_L_pokeFour c_L_pokeFour 5 (some .int) [(0, 10, 13, 13)]) ∈ tbW := tb_t 210 rfl rfl
theorem q_211 : (Jvm.Cond.methodLink "BlockRowsLaw" (17 : Nat) ({ cls := "BlockRows", name := "pokeFour", desc := "(II)I" } : Jvm.MethodName)) ∈ tbW := tb_t 211 (by decide +kernel) rfl
theorem q_212 : (Jvm.Cond.instanceMethod ({ cls := "BlockRows", name := "pokeFour", desc := "(II)I" } : Jvm.MethodName)) ∈ tbW := tb_t 212 (by decide +kernel) rfl
theorem q_213 : (Jvm.Cond.selects "BlockRows" ({ cls := "BlockRows", name := "pokeFour", desc := "(II)I" } : Jvm.MethodName) ({ cls := "BlockRows", name := "pokeFour", desc := "(II)I" } : Jvm.MethodName)) ∈ tbW := tb_t 213 (by decide +kernel) rfl
theorem q_214 : (Cond.code y_X_pokeFour c_X_pokeFour 5 (some .int)) ∈ tbW := tb_t 214 rfl rfl
theorem q_215 : (Jvm.Cond.stringRef "BlockRows" (53 : Nat) "no such place") ∈ lw_tbl := tb_r 215 (by decide +kernel)
theorem q_216 : (Jvm.Cond.methodLink "BlockRows" (55 : Nat) ({ cls := "java/lang/Math", name := "min", desc := "(II)I" } : Jvm.MethodName)) ∈ tbW := tb_t 216 (by decide +kernel) rfl
theorem q_217 : (Jvm.Cond.static ({ cls := "java/lang/Math", name := "min", desc := "(II)I" } : Jvm.MethodName)) ∈ tbW := tb_t 217 (by decide +kernel) rfl
theorem q_218 : (Jvm.Cond.code ({ cls := "java/lang/Math", name := "min", desc := "(II)I" } : Jvm.MethodName) prog_8_method_69_code (2 : Nat) (Option.some Jvm.ClassFile.FieldType.int)) ∈ tbW := tb_t 218 rfl rfl
theorem q_219 : (Jvm.Cond.methodLink "BlockRowsLaw" (56 : Nat) ({ cls := "BlockRowsLaw", name := "set", desc := "(LBlockRows;II[J)I" } : Jvm.MethodName)) ∈ tbW := tb_t 219 (by decide +kernel) rfl
theorem q_220 : (Jvm.Cond.static ({ cls := "BlockRowsLaw", name := "set", desc := "(LBlockRows;II[J)I" } : Jvm.MethodName)) ∈ tbW := tb_t 220 (by decide +kernel) rfl
theorem q_221 : (Cond.codeWith y_L_set c_L_set 5 (some .int) [(0, 10, 13, 13)]) ∈ tbW := tb_t 221 rfl rfl
theorem q_222 : (Jvm.Cond.methodLink "BlockRowsLaw" (20 : Nat) ({ cls := "BlockRows", name := "set", desc := "(II)I" } : Jvm.MethodName)) ∈ tbW := tb_t 222 (by decide +kernel) rfl
theorem q_223 : (Jvm.Cond.instanceMethod ({ cls := "BlockRows", name := "set", desc := "(II)I" } : Jvm.MethodName)) ∈ tbW := tb_t 223 (by decide +kernel) rfl
theorem q_224 : (Jvm.Cond.selects "BlockRows" ({ cls := "BlockRows", name := "set", desc := "(II)I" } : Jvm.MethodName) ({ cls := "BlockRows", name := "set", desc := "(II)I" } : Jvm.MethodName)) ∈ tbW := tb_t 224 (by decide +kernel) rfl
theorem q_225 : (Cond.code y_X_set c_X_set 4 (some .int)) ∈ tbW := tb_t 225 rfl rfl
theorem q_226 : (Jvm.Cond.stringRef "BlockRows" (61 : Nat) "no such register") ∈ lw_tbl := tb_r 226 (by decide +kernel)
theorem q_227 : (Jvm.Cond.methodLink "BlockRowsLaw" (59 : Nat) ({ cls := "BlockRowsLaw", name := "go", desc := "(LBlockRows;I[J)I" } : Jvm.MethodName)) ∈ tbW := tb_t 227 (by decide +kernel) rfl
theorem q_228 : (Jvm.Cond.static ({ cls := "BlockRowsLaw", name := "go", desc := "(LBlockRows;I[J)I" } : Jvm.MethodName)) ∈ tbW := tb_t 228 (by decide +kernel) rfl
theorem q_229 : (Cond.codeWith y_L_go c_L_go 4 (some .int) [(0, 9, 12, 13)]) ∈ tbW := tb_t 229 rfl rfl
theorem q_230 : (Jvm.Cond.methodLink "BlockRowsLaw" (23 : Nat) ({ cls := "BlockRows", name := "go", desc := "(I)I" } : Jvm.MethodName)) ∈ tbW := tb_t 230 (by decide +kernel) rfl
theorem q_231 : (Jvm.Cond.instanceMethod ({ cls := "BlockRows", name := "go", desc := "(I)I" } : Jvm.MethodName)) ∈ tbW := tb_t 231 (by decide +kernel) rfl
theorem q_232 : (Jvm.Cond.selects "BlockRows" ({ cls := "BlockRows", name := "go", desc := "(I)I" } : Jvm.MethodName) ({ cls := "BlockRows", name := "go", desc := "(I)I" } : Jvm.MethodName)) ∈ tbW := tb_t 232 (by decide +kernel) rfl
theorem q_233 : (Cond.code y_X_go c_X_go 3 (some .int)) ∈ tbW := tb_t 233 rfl rfl
theorem q_234 : (Jvm.Cond.methodLink "BlockRowsLaw" (63 : Nat) ({ cls := "BlockRowsLaw", name := "run", desc := "(LBlockRows;I[J)I" } : Jvm.MethodName)) ∈ tbW := tb_t 234 (by decide +kernel) rfl
theorem q_235 : (Jvm.Cond.static ({ cls := "BlockRowsLaw", name := "run", desc := "(LBlockRows;I[J)I" } : Jvm.MethodName)) ∈ tbW := tb_t 235 (by decide +kernel) rfl
theorem q_236 : (Cond.codeWith y_L_run c_L_run 4 (some .int) [(0, 9, 12, 15)]) ∈ tbW := tb_t 236 rfl rfl
theorem q_237 : (Jvm.Cond.methodLink "BlockRowsLaw" (27 : Nat) ({ cls := "BlockRows", name := "run", desc := "(I)I" } : Jvm.MethodName)) ∈ tbW := tb_t 237 (by decide +kernel) rfl
theorem q_238 : (Jvm.Cond.instanceMethod ({ cls := "BlockRows", name := "run", desc := "(I)I" } : Jvm.MethodName)) ∈ tbW := tb_t 238 (by decide +kernel) rfl
theorem q_239 : (Jvm.Cond.selects "BlockRows" ({ cls := "BlockRows", name := "run", desc := "(I)I" } : Jvm.MethodName) ({ cls := "BlockRows", name := "run", desc := "(I)I" } : Jvm.MethodName)) ∈ tbW := tb_t 239 (by decide +kernel) rfl
theorem q_240 : (Cond.code y_X_run c_X_run 4 (some .int)) ∈ tbW := tb_t 240 rfl rfl
theorem q_241 : (Jvm.Cond.stringRef "BlockRows" (63 : Nat) "not 1 to 100 steps") ∈ lw_tbl := tb_r 241 (by decide +kernel)
theorem q_242 : (Jvm.Cond.methodLink "BlockRows" (65 : Nat) ({ cls := "BlockRows", name := "doBlock", desc := "(I)I" } : Jvm.MethodName)) ∈ tbW := tb_t 242 (by decide +kernel) rfl
theorem q_243 : (Jvm.Cond.privateMethod ({ cls := "BlockRows", name := "doBlock", desc := "(I)I" } : Jvm.MethodName)) ∈ lw_tbl := tb_r 243 (by decide +kernel)
theorem q_244 : (Jvm.Cond.instanceMethod ({ cls := "BlockRows", name := "doBlock", desc := "(I)I" } : Jvm.MethodName)) ∈ tbW := tb_t 244 (by decide +kernel) rfl
theorem q_245 : (Cond.code y_X_doBlock c_X_doBlock 5 (some .int)) ∈ tbW := tb_t 245 rfl rfl
theorem q_246 : (Jvm.Cond.methodLink "BlockRows" (123 : Nat) ({ cls := "BlockRows", name := "blockAt", desc := "(I)LBlockRows$Block;" } : Jvm.MethodName)) ∈ tbW := tb_t 246 (by decide +kernel) rfl
theorem q_247 : (Jvm.Cond.privateMethod ({ cls := "BlockRows", name := "blockAt", desc := "(I)LBlockRows$Block;" } : Jvm.MethodName)) ∈ lw_tbl := tb_r 247 (by decide +kernel)
theorem q_248 : (Jvm.Cond.instanceMethod ({ cls := "BlockRows", name := "blockAt", desc := "(I)LBlockRows$Block;" } : Jvm.MethodName)) ∈ tbW := tb_t 248 (by decide +kernel) rfl
theorem q_249 : (Cond.code y_X_blockAt c_X_blockAt 3 (some (.object "BlockRows$Block"))) ∈ tbW := tb_t 249 rfl rfl
theorem q_250 : (Jvm.Cond.methodLinkNest "BlockRows" (133 : Nat) ({ cls := "BlockRows$Block", name := "beginsAt", desc := "(I)Z" } : Jvm.MethodName) "BlockRows") ∈ lw_tbl := tb_r 250 (by decide +kernel)
theorem q_251 : (Jvm.Cond.privateMethod ({ cls := "BlockRows$Block", name := "beginsAt", desc := "(I)Z" } : Jvm.MethodName)) ∈ lw_tbl := tb_r 251 (by decide +kernel)
theorem q_252 : (Jvm.Cond.instanceMethod ({ cls := "BlockRows$Block", name := "beginsAt", desc := "(I)Z" } : Jvm.MethodName)) ∈ tbW := tb_t 252 (by decide +kernel) rfl
theorem q_253 : (Cond.code y_B_beginsAt c_B_beginsAt 2 (some .boolean)) ∈ tbW := tb_t 253 rfl rfl
theorem q_254 : (Jvm.Cond.methodLink "BlockRows" (136 : Nat) ({ cls := "BlockRows", name := "decode", desc := "(LBlockRows$Block;I)V" } : Jvm.MethodName)) ∈ tbW := tb_t 254 (by decide +kernel) rfl
theorem q_255 : (Jvm.Cond.privateMethod ({ cls := "BlockRows", name := "decode", desc := "(LBlockRows$Block;I)V" } : Jvm.MethodName)) ∈ lw_tbl := tb_r 255 (by decide +kernel)
theorem q_256 : (Jvm.Cond.instanceMethod ({ cls := "BlockRows", name := "decode", desc := "(LBlockRows$Block;I)V" } : Jvm.MethodName)) ∈ tbW := tb_t 256 (by decide +kernel) rfl
theorem q_257 : (Cond.code y_X_decode c_X_decode 8 none) ∈ tbW := tb_t 257 rfl rfl
theorem q_258 : (Jvm.Cond.methodLink "BlockRows" (140 : Nat) ({ cls := "BlockRows", name := "wordAt", desc := "(I)I" } : Jvm.MethodName)) ∈ tbW := tb_t 258 (by decide +kernel) rfl
theorem q_259 : (Jvm.Cond.privateMethod ({ cls := "BlockRows", name := "wordAt", desc := "(I)I" } : Jvm.MethodName)) ∈ lw_tbl := tb_r 259 (by decide +kernel)
theorem q_260 : (Jvm.Cond.instanceMethod ({ cls := "BlockRows", name := "wordAt", desc := "(I)I" } : Jvm.MethodName)) ∈ tbW := tb_t 260 (by decide +kernel) rfl
theorem q_261 : (Cond.code y_X_wordAt c_X_wordAt 3 (some .int)) ∈ tbW := tb_t 261 rfl rfl
theorem q_262 : (Jvm.Cond.constant "BlockRows" (152 : Nat) (65536 : Int32)) ∈ tbW := tb_t 262 (by decide +kernel) rfl
theorem q_263 : (Jvm.Cond.methodLink "BlockRows" (146 : Nat) ({ cls := "BlockRows", name := "lengthOf", desc := "(I)I" } : Jvm.MethodName)) ∈ tbW := tb_t 263 (by decide +kernel) rfl
theorem q_264 : (Jvm.Cond.static ({ cls := "BlockRows", name := "lengthOf", desc := "(I)I" } : Jvm.MethodName)) ∈ tbW := tb_t 264 (by decide +kernel) rfl
theorem q_265 : (Cond.code y_X_lengthOf c_X_lengthOf 1 (some .int)) ∈ tbW := tb_t 265 rfl rfl
theorem q_266 : (Jvm.Cond.methodLink "BlockRows" (143 : Nat) ({ cls := "BlockRows", name := "bytesOfOutside", desc := "(I)I" } : Jvm.MethodName)) ∈ tbW := tb_t 266 (by decide +kernel) rfl
theorem q_267 : (Jvm.Cond.static ({ cls := "BlockRows", name := "bytesOfOutside", desc := "(I)I" } : Jvm.MethodName)) ∈ tbW := tb_t 267 (by decide +kernel) rfl
theorem q_268 : (Cond.code y_X_bytesOfOutside c_X_bytesOfOutside 1 (some .int)) ∈ tbW := tb_t 268 rfl rfl
theorem q_269 : (Jvm.Cond.methodLink "BlockRows" (149 : Nat) ({ cls := "BlockRows", name := "endsBlock", desc := "(I)Z" } : Jvm.MethodName)) ∈ tbW := tb_t 269 (by decide +kernel) rfl
theorem q_270 : (Jvm.Cond.static ({ cls := "BlockRows", name := "endsBlock", desc := "(I)Z" } : Jvm.MethodName)) ∈ tbW := tb_t 270 (by decide +kernel) rfl
theorem q_271 : (Cond.code y_X_endsBlock c_X_endsBlock 1 (some .boolean)) ∈ tbW := tb_t 271 rfl rfl
theorem q_272 : (Jvm.Cond.methodLink "BlockRows" (130 : Nat) ({ cls := "BlockRows", name := "doWord", desc := "(I)Z" } : Jvm.MethodName)) ∈ tbW := tb_t 272 (by decide +kernel) rfl
theorem q_273 : (Jvm.Cond.privateMethod ({ cls := "BlockRows", name := "doWord", desc := "(I)Z" } : Jvm.MethodName)) ∈ lw_tbl := tb_r 273 (by decide +kernel)
theorem q_274 : (Jvm.Cond.instanceMethod ({ cls := "BlockRows", name := "doWord", desc := "(I)Z" } : Jvm.MethodName)) ∈ tbW := tb_t 274 (by decide +kernel) rfl
theorem q_275 : (Cond.code y_X_doWord c_X_doWord 5 (some .boolean)) ∈ tbW := tb_t 275 rfl rfl
theorem q_276 : (Jvm.Cond.methodLink "BlockRows" (153 : Nat) ({ cls := "BlockRows", name := "stateBefore", desc := "(II)I" } : Jvm.MethodName)) ∈ tbW := tb_t 276 (by decide +kernel) rfl
theorem q_277 : (Jvm.Cond.privateMethod ({ cls := "BlockRows", name := "stateBefore", desc := "(II)I" } : Jvm.MethodName)) ∈ lw_tbl := tb_r 277 (by decide +kernel)
theorem q_278 : (Jvm.Cond.instanceMethod ({ cls := "BlockRows", name := "stateBefore", desc := "(II)I" } : Jvm.MethodName)) ∈ tbW := tb_t 278 (by decide +kernel) rfl
theorem q_279 : (Cond.code y_X_stateBefore c_X_stateBefore 3 (some .int)) ∈ tbW := tb_t 279 rfl rfl
theorem q_280 : (Jvm.Cond.methodLink "BlockRows" (156 : Nat) ({ cls := "BlockRows", name := "perform", desc := "(III)V" } : Jvm.MethodName)) ∈ tbW := tb_t 280 (by decide +kernel) rfl
theorem q_281 : (Jvm.Cond.privateMethod ({ cls := "BlockRows", name := "perform", desc := "(III)V" } : Jvm.MethodName)) ∈ lw_tbl := tb_r 281 (by decide +kernel)
theorem q_282 : (Jvm.Cond.instanceMethod ({ cls := "BlockRows", name := "perform", desc := "(III)V" } : Jvm.MethodName)) ∈ tbW := tb_t 282 (by decide +kernel) rfl
theorem q_283 : (Cond.code y_X_perform c_X_perform 6 none) ∈ tbW := tb_t 283 rfl rfl
theorem q_284 : (Jvm.Cond.methodLink "BlockRows" (160 : Nat) ({ cls := "BlockRows", name := "belowZeroToo", desc := "(I)I" } : Jvm.MethodName)) ∈ tbW := tb_t 284 (by decide +kernel) rfl
theorem q_285 : (Jvm.Cond.static ({ cls := "BlockRows", name := "belowZeroToo", desc := "(I)I" } : Jvm.MethodName)) ∈ tbW := tb_t 285 (by decide +kernel) rfl
theorem q_286 : (Cond.code y_X_belowZeroToo c_X_belowZeroToo 1 (some .int)) ∈ tbW := tb_t 286 rfl rfl
theorem q_287 : (Jvm.Cond.methodLink "BlockRows" (163 : Nat) ({ cls := "BlockRows", name := "holds", desc := "(I)Z" } : Jvm.MethodName)) ∈ tbW := tb_t 287 (by decide +kernel) rfl
theorem q_288 : (Jvm.Cond.privateMethod ({ cls := "BlockRows", name := "holds", desc := "(I)Z" } : Jvm.MethodName)) ∈ lw_tbl := tb_r 288 (by decide +kernel)
theorem q_289 : (Jvm.Cond.instanceMethod ({ cls := "BlockRows", name := "holds", desc := "(I)Z" } : Jvm.MethodName)) ∈ tbW := tb_t 289 (by decide +kernel) rfl
theorem q_290 : (Cond.code y_X_holds c_X_holds 2 (some .boolean)) ∈ tbW := tb_t 290 rfl rfl
theorem q_291 : (Jvm.Cond.methodLink "BlockRows" (69 : Nat) ({ cls := "BlockRows", name := "isZero", desc := "()Z" } : Jvm.MethodName)) ∈ tbW := tb_t 291 (by decide +kernel) rfl
theorem q_292 : (Jvm.Cond.privateMethod ({ cls := "BlockRows", name := "isZero", desc := "()Z" } : Jvm.MethodName)) ∈ lw_tbl := tb_r 292 (by decide +kernel)
theorem q_293 : (Jvm.Cond.instanceMethod ({ cls := "BlockRows", name := "isZero", desc := "()Z" } : Jvm.MethodName)) ∈ tbW := tb_t 293 (by decide +kernel) rfl
theorem q_294 : (Cond.code y_X_isZero c_X_isZero 1 (some .boolean)) ∈ tbW := tb_t 294 rfl rfl
theorem q_295 : (Jvm.Cond.methodLink "BlockRows" (73 : Nat) ({ cls := "BlockRows", name := "isBelow", desc := "()Z" } : Jvm.MethodName)) ∈ tbW := tb_t 295 (by decide +kernel) rfl
theorem q_296 : (Jvm.Cond.privateMethod ({ cls := "BlockRows", name := "isBelow", desc := "()Z" } : Jvm.MethodName)) ∈ lw_tbl := tb_r 296 (by decide +kernel)
theorem q_297 : (Jvm.Cond.instanceMethod ({ cls := "BlockRows", name := "isBelow", desc := "()Z" } : Jvm.MethodName)) ∈ tbW := tb_t 297 (by decide +kernel) rfl
theorem q_298 : (Cond.code y_X_isBelow c_X_isBelow 1 (some .boolean)) ∈ tbW := tb_t 298 rfl rfl
theorem q_299 : (Jvm.Cond.methodLink "BlockRows" (166 : Nat) ({ cls := "BlockRows", name := "worked", desc := "(III)I" } : Jvm.MethodName)) ∈ tbW := tb_t 299 (by decide +kernel) rfl
theorem q_300 : (Jvm.Cond.static ({ cls := "BlockRows", name := "worked", desc := "(III)I" } : Jvm.MethodName)) ∈ tbW := tb_t 300 (by decide +kernel) rfl
theorem q_301 : (Cond.code y_X_worked c_X_worked 3 (some .int)) ∈ tbW := tb_t 301 rfl rfl
theorem q_302 : (Jvm.Cond.methodLink "BlockRowsLaw" (66 : Nat) ({ cls := "BlockRowsLaw", name := "memory", desc := "(LBlockRows;I[J)I" } : Jvm.MethodName)) ∈ tbW := tb_t 302 (by decide +kernel) rfl
theorem q_303 : (Jvm.Cond.static ({ cls := "BlockRowsLaw", name := "memory", desc := "(LBlockRows;I[J)I" } : Jvm.MethodName)) ∈ tbW := tb_t 303 (by decide +kernel) rfl
theorem q_304 : (Cond.codeWith y_L_memory c_L_memory 4 (some .int) [(0, 9, 12, 13)]) ∈ tbW := tb_t 304 rfl rfl
theorem q_305 : (Jvm.Cond.methodLink "BlockRowsLaw" (30 : Nat) ({ cls := "BlockRows", name := "memory", desc := "(I)I" } : Jvm.MethodName)) ∈ tbW := tb_t 305 (by decide +kernel) rfl
theorem q_306 : (Jvm.Cond.instanceMethod ({ cls := "BlockRows", name := "memory", desc := "(I)I" } : Jvm.MethodName)) ∈ tbW := tb_t 306 (by decide +kernel) rfl
theorem q_307 : (Jvm.Cond.selects "BlockRows" ({ cls := "BlockRows", name := "memory", desc := "(I)I" } : Jvm.MethodName) ({ cls := "BlockRows", name := "memory", desc := "(I)I" } : Jvm.MethodName)) ∈ tbW := tb_t 307 (by decide +kernel) rfl
theorem q_308 : (Cond.code y_X_memory c_X_memory 2 (some .int)) ∈ tbW := tb_t 308 rfl rfl
theorem q_309 : (Jvm.Cond.methodLink "BlockRowsLaw" (69 : Nat) ({ cls := "BlockRowsLaw", name := "register", desc := "(LBlockRows;I[J)I" } : Jvm.MethodName)) ∈ tbW := tb_t 309 (by decide +kernel) rfl
theorem q_310 : (Jvm.Cond.static ({ cls := "BlockRowsLaw", name := "register", desc := "(LBlockRows;I[J)I" } : Jvm.MethodName)) ∈ tbW := tb_t 310 (by decide +kernel) rfl
theorem q_311 : (Cond.codeWith y_L_register c_L_register 4 (some .int) [(0, 9, 12, 13)]) ∈ tbW := tb_t 311 rfl rfl
theorem q_312 : (Jvm.Cond.methodLink "BlockRowsLaw" (33 : Nat) ({ cls := "BlockRows", name := "register", desc := "(I)I" } : Jvm.MethodName)) ∈ tbW := tb_t 312 (by decide +kernel) rfl
theorem q_313 : (Jvm.Cond.instanceMethod ({ cls := "BlockRows", name := "register", desc := "(I)I" } : Jvm.MethodName)) ∈ tbW := tb_t 313 (by decide +kernel) rfl
theorem q_314 : (Jvm.Cond.selects "BlockRows" ({ cls := "BlockRows", name := "register", desc := "(I)I" } : Jvm.MethodName) ({ cls := "BlockRows", name := "register", desc := "(I)I" } : Jvm.MethodName)) ∈ tbW := tb_t 314 (by decide +kernel) rfl
theorem q_315 : (Cond.code y_X_register c_X_register 2 (some .int)) ∈ tbW := tb_t 315 rfl rfl
theorem q_316 : (Jvm.Cond.methodLink "BlockRowsLaw" (72 : Nat) ({ cls := "BlockRowsLaw", name := "row", desc := "(LBlockRows;II[J)I" } : Jvm.MethodName)) ∈ tbW := tb_t 316 (by decide +kernel) rfl
theorem q_317 : (Jvm.Cond.static ({ cls := "BlockRowsLaw", name := "row", desc := "(LBlockRows;II[J)I" } : Jvm.MethodName)) ∈ tbW := tb_t 317 (by decide +kernel) rfl
theorem q_318 : (Cond.codeWith y_L_row c_L_row 5 (some .int) [(0, 10, 13, 13)]) ∈ tbW := tb_t 318 rfl rfl
theorem q_319 : (Jvm.Cond.methodLink "BlockRowsLaw" (36 : Nat) ({ cls := "BlockRows", name := "row", desc := "(II)I" } : Jvm.MethodName)) ∈ tbW := tb_t 319 (by decide +kernel) rfl
theorem q_320 : (Jvm.Cond.instanceMethod ({ cls := "BlockRows", name := "row", desc := "(II)I" } : Jvm.MethodName)) ∈ tbW := tb_t 320 (by decide +kernel) rfl
theorem q_321 : (Jvm.Cond.selects "BlockRows" ({ cls := "BlockRows", name := "row", desc := "(II)I" } : Jvm.MethodName) ({ cls := "BlockRows", name := "row", desc := "(II)I" } : Jvm.MethodName)) ∈ tbW := tb_t 321 (by decide +kernel) rfl
theorem q_322 : (Cond.code y_X_row c_X_row 4 (some .int)) ∈ tbW := tb_t 322 rfl rfl
theorem q_323 : (Jvm.Cond.stringRef "BlockRows" (76 : Nat) "no such row or what") ∈ lw_tbl := tb_r 323 (by decide +kernel)
theorem q_324 : (Jvm.Cond.classLink "BlockRowsLaw" (40 : Nat) "BlockRowsModel") ∈ tbW := tb_t 324 (by decide +kernel) rfl
theorem q_325 : (Jvm.Cond.instantiable "BlockRowsModel" (19 : Nat)) ∈ tbW := tb_t 325 (by decide +kernel) rfl
theorem q_326 : (Jvm.Cond.methodLink "BlockRowsLaw" (42 : Nat) ({ cls := "BlockRowsModel", name := "<init>", desc := "()V" } : Jvm.MethodName)) ∈ tbW := tb_t 326 (by decide +kernel) rfl
theorem q_327 : (Jvm.Cond.instanceMethod ({ cls := "BlockRowsModel", name := "<init>", desc := "()V" } : Jvm.MethodName)) ∈ tbW := tb_t 327 (by decide +kernel) rfl
theorem q_328 : (Cond.code y_M_init c_M_init 1 none) ∈ tbW := tb_t 328 rfl rfl
theorem q_329 : (Jvm.Cond.methodLink "BlockRowsModel" (1 : Nat) ({ cls := "java/lang/Object", name := "<init>", desc := "()V" } : Jvm.MethodName)) ∈ tbW := tb_t 329 (by decide +kernel) rfl
theorem q_330 : (Jvm.Cond.fieldLink "BlockRowsModel" (29 : Nat) "BlockRowsModel" "thrown" "I") ∈ tbW := tb_t 330 (by decide +kernel) rfl
theorem q_331 : (Jvm.Cond.fieldLink "BlockRowsModel" (7 : Nat) "BlockRowsModel" "memory" "[I") ∈ tbW := tb_t 331 (by decide +kernel) rfl
theorem q_332 : (Jvm.Cond.fieldLink "BlockRowsModel" (13 : Nat) "BlockRowsModel" "registers" "[I") ∈ tbW := tb_t 332 (by decide +kernel) rfl
theorem q_333 : (Jvm.Cond.fieldLink "BlockRowsModel" (63 : Nat) "BlockRowsModel" "place" "I") ∈ tbW := tb_t 333 (by decide +kernel) rfl
theorem q_334 : (Jvm.Cond.fieldLink "BlockRowsModel" (66 : Nat) "BlockRowsModel" "state" "I") ∈ tbW := tb_t 334 (by decide +kernel) rfl
theorem q_335 : (Jvm.Cond.fieldLink "BlockRowsModel" (91 : Nat) "BlockRowsModel" "zero" "Z") ∈ tbW := tb_t 335 (by decide +kernel) rfl
theorem q_336 : (Jvm.Cond.fieldLink "BlockRowsModel" (94 : Nat) "BlockRowsModel" "less" "Z") ∈ tbW := tb_t 336 (by decide +kernel) rfl
theorem q_337 : (Jvm.Cond.fieldLink "BlockRowsModel" (16 : Nat) "BlockRowsModel" "kept" "[Z") ∈ tbW := tb_t 337 (by decide +kernel) rfl
theorem q_338 : (Jvm.Cond.fieldLink "BlockRowsModel" (20 : Nat) "BlockRowsModel" "places" "[I") ∈ tbW := tb_t 338 (by decide +kernel) rfl
theorem q_339 : (Jvm.Cond.fieldLink "BlockRowsModel" (23 : Nat) "BlockRowsModel" "words" "[I") ∈ tbW := tb_t 339 (by decide +kernel) rfl
theorem q_340 : (Jvm.Cond.fieldLink "BlockRowsModel" (26 : Nat) "BlockRowsModel" "bytes" "[I") ∈ tbW := tb_t 340 (by decide +kernel) rfl
theorem q_341 : (Jvm.Cond.fieldLink "BlockRowsModel" (48 : Nat) "BlockRowsModel" "current" "I") ∈ tbW := tb_t 341 (by decide +kernel) rfl
theorem q_342 : (Jvm.Cond.fieldLink "BlockRowsModel" (44 : Nat) "BlockRowsModel" "isWritten" "Z") ∈ tbW := tb_t 342 (by decide +kernel) rfl
theorem q_343 : (Jvm.Cond.fieldLink "BlockRowsModel" (120 : Nat) "BlockRowsModel" "steps" "I") ∈ tbW := tb_t 343 (by decide +kernel) rfl
theorem q_344 : (Jvm.Cond.fieldLink "BlockRowsModel" (79 : Nat) "BlockRowsModel" "made" "I") ∈ tbW := tb_t 344 (by decide +kernel) rfl
theorem q_345 : (Jvm.Cond.fieldLink "BlockRowsModel" (85 : Nat) "BlockRowsModel" "hits" "I") ∈ tbW := tb_t 345 (by decide +kernel) rfl
theorem q_346 : (Jvm.Cond.fieldLink "BlockRowsModel" (37 : Nat) "BlockRowsModel" "out" "I") ∈ tbW := tb_t 346 (by decide +kernel) rfl
theorem q_347 : (Jvm.Cond.fieldLink "BlockRowsModel" (110 : Nat) "BlockRowsModel" "stored" "I") ∈ tbW := tb_t 347 (by decide +kernel) rfl
theorem q_348 : (Jvm.Cond.fieldLink "BlockRowsModel" (82 : Nat) "BlockRowsModel" "decoded" "I") ∈ tbW := tb_t 348 (by decide +kernel) rfl
theorem q_349 : (Jvm.Cond.lays "BlockRowsModel" "BlockRowsModel" "thrown" "I") ∈ tbW := tb_t 349 (by decide +kernel) rfl
theorem q_350 : (Jvm.Cond.soleField "BlockRowsModel" "thrown") ∈ tbW := tb_t 350 (by decide +kernel) rfl
theorem q_351 : (Jvm.Cond.laysFinal "BlockRowsModel" "BlockRowsModel" "memory" "[I") ∈ tbW := tb_t 351 (by decide +kernel) rfl
theorem q_352 : (Jvm.Cond.soleField "BlockRowsModel" "memory") ∈ tbW := tb_t 352 (by decide +kernel) rfl
theorem q_353 : (Jvm.Cond.laysFinal "BlockRowsModel" "BlockRowsModel" "registers" "[I") ∈ tbW := tb_t 353 (by decide +kernel) rfl
theorem q_354 : (Jvm.Cond.soleField "BlockRowsModel" "registers") ∈ tbW := tb_t 354 (by decide +kernel) rfl
theorem q_355 : (Jvm.Cond.lays "BlockRowsModel" "BlockRowsModel" "place" "I") ∈ tbW := tb_t 355 (by decide +kernel) rfl
theorem q_356 : (Jvm.Cond.soleField "BlockRowsModel" "place") ∈ tbW := tb_t 356 (by decide +kernel) rfl
theorem q_357 : (Jvm.Cond.lays "BlockRowsModel" "BlockRowsModel" "state" "I") ∈ tbW := tb_t 357 (by decide +kernel) rfl
theorem q_358 : (Jvm.Cond.soleField "BlockRowsModel" "state") ∈ tbW := tb_t 358 (by decide +kernel) rfl
theorem q_359 : (Jvm.Cond.lays "BlockRowsModel" "BlockRowsModel" "zero" "Z") ∈ tbW := tb_t 359 (by decide +kernel) rfl
theorem q_360 : (Jvm.Cond.soleField "BlockRowsModel" "zero") ∈ tbW := tb_t 360 (by decide +kernel) rfl
theorem q_361 : (Jvm.Cond.lays "BlockRowsModel" "BlockRowsModel" "less" "Z") ∈ tbW := tb_t 361 (by decide +kernel) rfl
theorem q_362 : (Jvm.Cond.soleField "BlockRowsModel" "less") ∈ tbW := tb_t 362 (by decide +kernel) rfl
theorem q_363 : (Jvm.Cond.laysFinal "BlockRowsModel" "BlockRowsModel" "kept" "[Z") ∈ tbW := tb_t 363 (by decide +kernel) rfl
theorem q_364 : (Jvm.Cond.soleField "BlockRowsModel" "kept") ∈ tbW := tb_t 364 (by decide +kernel) rfl
theorem q_365 : (Jvm.Cond.laysFinal "BlockRowsModel" "BlockRowsModel" "places" "[I") ∈ tbW := tb_t 365 (by decide +kernel) rfl
theorem q_366 : (Jvm.Cond.soleField "BlockRowsModel" "places") ∈ tbW := tb_t 366 (by decide +kernel) rfl
theorem q_367 : (Jvm.Cond.laysFinal "BlockRowsModel" "BlockRowsModel" "words" "[I") ∈ tbW := tb_t 367 (by decide +kernel) rfl
theorem q_368 : (Jvm.Cond.soleField "BlockRowsModel" "words") ∈ tbW := tb_t 368 (by decide +kernel) rfl
theorem q_369 : (Jvm.Cond.laysFinal "BlockRowsModel" "BlockRowsModel" "bytes" "[I") ∈ tbW := tb_t 369 (by decide +kernel) rfl
theorem q_370 : (Jvm.Cond.soleField "BlockRowsModel" "bytes") ∈ tbW := tb_t 370 (by decide +kernel) rfl
theorem q_371 : (Jvm.Cond.lays "BlockRowsModel" "BlockRowsModel" "current" "I") ∈ tbW := tb_t 371 (by decide +kernel) rfl
theorem q_372 : (Jvm.Cond.soleField "BlockRowsModel" "current") ∈ tbW := tb_t 372 (by decide +kernel) rfl
theorem q_373 : (Jvm.Cond.lays "BlockRowsModel" "BlockRowsModel" "isWritten" "Z") ∈ tbW := tb_t 373 (by decide +kernel) rfl
theorem q_374 : (Jvm.Cond.soleField "BlockRowsModel" "isWritten") ∈ tbW := tb_t 374 (by decide +kernel) rfl
theorem q_375 : (Jvm.Cond.lays "BlockRowsModel" "BlockRowsModel" "steps" "I") ∈ tbW := tb_t 375 (by decide +kernel) rfl
theorem q_376 : (Jvm.Cond.soleField "BlockRowsModel" "steps") ∈ tbW := tb_t 376 (by decide +kernel) rfl
theorem q_377 : (Jvm.Cond.lays "BlockRowsModel" "BlockRowsModel" "made" "I") ∈ tbW := tb_t 377 (by decide +kernel) rfl
theorem q_378 : (Jvm.Cond.soleField "BlockRowsModel" "made") ∈ tbW := tb_t 378 (by decide +kernel) rfl
theorem q_379 : (Jvm.Cond.lays "BlockRowsModel" "BlockRowsModel" "hits" "I") ∈ tbW := tb_t 379 (by decide +kernel) rfl
theorem q_380 : (Jvm.Cond.soleField "BlockRowsModel" "hits") ∈ tbW := tb_t 380 (by decide +kernel) rfl
theorem q_381 : (Jvm.Cond.lays "BlockRowsModel" "BlockRowsModel" "out" "I") ∈ tbW := tb_t 381 (by decide +kernel) rfl
theorem q_382 : (Jvm.Cond.soleField "BlockRowsModel" "out") ∈ tbW := tb_t 382 (by decide +kernel) rfl
theorem q_383 : (Jvm.Cond.lays "BlockRowsModel" "BlockRowsModel" "stored" "I") ∈ tbW := tb_t 383 (by decide +kernel) rfl
theorem q_384 : (Jvm.Cond.soleField "BlockRowsModel" "stored") ∈ tbW := tb_t 384 (by decide +kernel) rfl
theorem q_385 : (Jvm.Cond.lays "BlockRowsModel" "BlockRowsModel" "decoded" "I") ∈ tbW := tb_t 385 (by decide +kernel) rfl
theorem q_386 : (Jvm.Cond.soleField "BlockRowsModel" "decoded") ∈ tbW := tb_t 386 (by decide +kernel) rfl
theorem q_387 : (Jvm.Cond.superclass "BlockRowsModel" "java/lang/Object") ∈ tbW := tb_t 387 (by decide +kernel) rfl
theorem q_388 : (Jvm.Cond.arrayClass Jvm.ClassFile.FieldType.boolean) ∈ tbW := tb_t 388 (by decide +kernel) rfl
theorem q_389 : (Jvm.Cond.methodLink "BlockRowsLaw" (49 : Nat) ({ cls := "BlockRowsModel", name := "thrown", desc := "()I" } : Jvm.MethodName)) ∈ tbW := tb_t 389 (by decide +kernel) rfl
theorem q_390 : (Jvm.Cond.instanceMethod ({ cls := "BlockRowsModel", name := "thrown", desc := "()I" } : Jvm.MethodName)) ∈ tbW := tb_t 390 (by decide +kernel) rfl
theorem q_391 : (Jvm.Cond.selects "BlockRowsModel" ({ cls := "BlockRowsModel", name := "thrown", desc := "()I" } : Jvm.MethodName) ({ cls := "BlockRowsModel", name := "thrown", desc := "()I" } : Jvm.MethodName)) ∈ tbW := tb_t 391 (by decide +kernel) rfl
theorem q_392 : (Cond.code y_M_thrown c_M_thrown 1 (some .int)) ∈ tbW := tb_t 392 rfl rfl
theorem q_393 : (Jvm.Cond.methodLink "BlockRowsLaw" (48 : Nat) ({ cls := "BlockRowsModel", name := "poke", desc := "(II)I" } : Jvm.MethodName)) ∈ tbW := tb_t 393 (by decide +kernel) rfl
theorem q_394 : (Jvm.Cond.instanceMethod ({ cls := "BlockRowsModel", name := "poke", desc := "(II)I" } : Jvm.MethodName)) ∈ tbW := tb_t 394 (by decide +kernel) rfl
theorem q_395 : (Jvm.Cond.selects "BlockRowsModel" ({ cls := "BlockRowsModel", name := "poke", desc := "(II)I" } : Jvm.MethodName) ({ cls := "BlockRowsModel", name := "poke", desc := "(II)I" } : Jvm.MethodName)) ∈ tbW := tb_t 395 (by decide +kernel) rfl
theorem q_396 : (Cond.code y_M_poke c_M_poke 4 (some .int)) ∈ tbW := tb_t 396 rfl rfl
theorem q_397 : (Jvm.Cond.methodLink "BlockRowsModel" (51 : Nat) ({ cls := "BlockRowsModel", name := "isThere", desc := "(I)Z" } : Jvm.MethodName)) ∈ tbW := tb_t 397 (by decide +kernel) rfl
theorem q_398 : (Jvm.Cond.static ({ cls := "BlockRowsModel", name := "isThere", desc := "(I)Z" } : Jvm.MethodName)) ∈ tbW := tb_t 398 (by decide +kernel) rfl
theorem q_399 : (Cond.code y_M_isThere c_M_isThere 1 (some .boolean)) ∈ tbW := tb_t 399 rfl rfl
theorem q_400 : (Jvm.Cond.methodLink "BlockRowsModel" (33 : Nat) ({ cls := "BlockRowsModel", name := "in", desc := "(III)Z" } : Jvm.MethodName)) ∈ tbW := tb_t 400 (by decide +kernel) rfl
theorem q_401 : (Jvm.Cond.static ({ cls := "BlockRowsModel", name := "in", desc := "(III)Z" } : Jvm.MethodName)) ∈ tbW := tb_t 401 (by decide +kernel) rfl
theorem q_402 : (Cond.code y_M_in c_M_in 3 (some .boolean)) ∈ tbW := tb_t 402 rfl rfl
theorem q_403 : (Jvm.Cond.methodLink "BlockRowsModel" (55 : Nat) ({ cls := "BlockRowsModel", name := "throwing", desc := "(ZZ)Z" } : Jvm.MethodName)) ∈ tbW := tb_t 403 (by decide +kernel) rfl
theorem q_404 : (Jvm.Cond.privateMethod ({ cls := "BlockRowsModel", name := "throwing", desc := "(ZZ)Z" } : Jvm.MethodName)) ∈ lw_tbl := tb_r 404 (by decide +kernel)
theorem q_405 : (Jvm.Cond.instanceMethod ({ cls := "BlockRowsModel", name := "throwing", desc := "(ZZ)Z" } : Jvm.MethodName)) ∈ tbW := tb_t 405 (by decide +kernel) rfl
theorem q_406 : (Cond.code y_M_throwing c_M_throwing 3 (some .boolean)) ∈ tbW := tb_t 406 rfl rfl
theorem q_407 : (Jvm.Cond.methodLink "BlockRowsModel" (59 : Nat) ({ cls := "BlockRowsModel", name := "write", desc := "(II)V" } : Jvm.MethodName)) ∈ tbW := tb_t 407 (by decide +kernel) rfl
theorem q_408 : (Jvm.Cond.privateMethod ({ cls := "BlockRowsModel", name := "write", desc := "(II)V" } : Jvm.MethodName)) ∈ lw_tbl := tb_r 408 (by decide +kernel)
theorem q_409 : (Jvm.Cond.instanceMethod ({ cls := "BlockRowsModel", name := "write", desc := "(II)V" } : Jvm.MethodName)) ∈ tbW := tb_t 409 (by decide +kernel) rfl
theorem q_410 : (Cond.code y_M_write c_M_write 4 none) ∈ tbW := tb_t 410 rfl rfl
theorem q_411 : (Jvm.Cond.methodLink "BlockRowsModel" (40 : Nat) ({ cls := "BlockRowsModel", name := "throwOut", desc := "(I)V" } : Jvm.MethodName)) ∈ tbW := tb_t 411 (by decide +kernel) rfl
theorem q_412 : (Jvm.Cond.privateMethod ({ cls := "BlockRowsModel", name := "throwOut", desc := "(I)V" } : Jvm.MethodName)) ∈ lw_tbl := tb_r 412 (by decide +kernel)
theorem q_413 : (Jvm.Cond.instanceMethod ({ cls := "BlockRowsModel", name := "throwOut", desc := "(I)V" } : Jvm.MethodName)) ∈ tbW := tb_t 413 (by decide +kernel) rfl
theorem q_414 : (Cond.code y_M_throwOut c_M_throwOut 2 none) ∈ tbW := tb_t 414 rfl rfl
theorem q_415 : (Jvm.Cond.methodLink "BlockRowsLaw" (55 : Nat) ({ cls := "BlockRowsModel", name := "pokeFour", desc := "(II)I" } : Jvm.MethodName)) ∈ tbW := tb_t 415 (by decide +kernel) rfl
theorem q_416 : (Jvm.Cond.instanceMethod ({ cls := "BlockRowsModel", name := "pokeFour", desc := "(II)I" } : Jvm.MethodName)) ∈ tbW := tb_t 416 (by decide +kernel) rfl
theorem q_417 : (Jvm.Cond.selects "BlockRowsModel" ({ cls := "BlockRowsModel", name := "pokeFour", desc := "(II)I" } : Jvm.MethodName) ({ cls := "BlockRowsModel", name := "pokeFour", desc := "(II)I" } : Jvm.MethodName)) ∈ tbW := tb_t 417 (by decide +kernel) rfl
theorem q_418 : (Cond.code y_M_pokeFour c_M_pokeFour 5 (some .int)) ∈ tbW := tb_t 418 rfl rfl
theorem q_419 : (Jvm.Cond.methodLink "BlockRowsLaw" (58 : Nat) ({ cls := "BlockRowsModel", name := "set", desc := "(II)I" } : Jvm.MethodName)) ∈ tbW := tb_t 419 (by decide +kernel) rfl
theorem q_420 : (Jvm.Cond.instanceMethod ({ cls := "BlockRowsModel", name := "set", desc := "(II)I" } : Jvm.MethodName)) ∈ tbW := tb_t 420 (by decide +kernel) rfl
theorem q_421 : (Jvm.Cond.selects "BlockRowsModel" ({ cls := "BlockRowsModel", name := "set", desc := "(II)I" } : Jvm.MethodName) ({ cls := "BlockRowsModel", name := "set", desc := "(II)I" } : Jvm.MethodName)) ∈ tbW := tb_t 421 (by decide +kernel) rfl
theorem q_422 : (Cond.code y_M_set c_M_set 4 (some .int)) ∈ tbW := tb_t 422 rfl rfl
theorem q_423 : (Jvm.Cond.methodLink "BlockRowsLaw" (62 : Nat) ({ cls := "BlockRowsModel", name := "go", desc := "(I)I" } : Jvm.MethodName)) ∈ tbW := tb_t 423 (by decide +kernel) rfl
theorem q_424 : (Jvm.Cond.instanceMethod ({ cls := "BlockRowsModel", name := "go", desc := "(I)I" } : Jvm.MethodName)) ∈ tbW := tb_t 424 (by decide +kernel) rfl
theorem q_425 : (Jvm.Cond.selects "BlockRowsModel" ({ cls := "BlockRowsModel", name := "go", desc := "(I)I" } : Jvm.MethodName) ({ cls := "BlockRowsModel", name := "go", desc := "(I)I" } : Jvm.MethodName)) ∈ tbW := tb_t 425 (by decide +kernel) rfl
theorem q_426 : (Cond.code y_M_go c_M_go 3 (some .int)) ∈ tbW := tb_t 426 rfl rfl
theorem q_427 : (Jvm.Cond.methodLink "BlockRowsLaw" (65 : Nat) ({ cls := "BlockRowsModel", name := "run", desc := "(I)I" } : Jvm.MethodName)) ∈ tbW := tb_t 427 (by decide +kernel) rfl
theorem q_428 : (Jvm.Cond.instanceMethod ({ cls := "BlockRowsModel", name := "run", desc := "(I)I" } : Jvm.MethodName)) ∈ tbW := tb_t 428 (by decide +kernel) rfl
theorem q_429 : (Jvm.Cond.selects "BlockRowsModel" ({ cls := "BlockRowsModel", name := "run", desc := "(I)I" } : Jvm.MethodName) ({ cls := "BlockRowsModel", name := "run", desc := "(I)I" } : Jvm.MethodName)) ∈ tbW := tb_t 429 (by decide +kernel) rfl
theorem q_430 : (Cond.code y_M_run c_M_run 4 (some .int)) ∈ tbW := tb_t 430 rfl rfl
theorem q_431 : (Jvm.Cond.methodLink "BlockRowsModel" (113 : Nat) ({ cls := "BlockRowsModel", name := "find", desc := "()V" } : Jvm.MethodName)) ∈ tbW := tb_t 431 (by decide +kernel) rfl
theorem q_432 : (Jvm.Cond.privateMethod ({ cls := "BlockRowsModel", name := "find", desc := "()V" } : Jvm.MethodName)) ∈ lw_tbl := tb_r 432 (by decide +kernel)
theorem q_433 : (Jvm.Cond.instanceMethod ({ cls := "BlockRowsModel", name := "find", desc := "()V" } : Jvm.MethodName)) ∈ tbW := tb_t 433 (by decide +kernel) rfl
theorem q_434 : (Cond.code y_M_find c_M_find 1 none) ∈ tbW := tb_t 434 rfl rfl
theorem q_435 : (Jvm.Cond.methodLink "BlockRowsModel" (88 : Nat) ({ cls := "BlockRowsModel", name := "make", desc := "(I)V" } : Jvm.MethodName)) ∈ tbW := tb_t 435 (by decide +kernel) rfl
theorem q_436 : (Jvm.Cond.privateMethod ({ cls := "BlockRowsModel", name := "make", desc := "(I)V" } : Jvm.MethodName)) ∈ lw_tbl := tb_r 436 (by decide +kernel)
theorem q_437 : (Jvm.Cond.instanceMethod ({ cls := "BlockRowsModel", name := "make", desc := "(I)V" } : Jvm.MethodName)) ∈ tbW := tb_t 437 (by decide +kernel) rfl
theorem q_438 : (Cond.code y_M_make c_M_make 6 none) ∈ tbW := tb_t 438 rfl rfl
theorem q_439 : (Jvm.Cond.methodLink "BlockRowsModel" (69 : Nat) ({ cls := "BlockRowsModel", name := "kindAt", desc := "(I)I" } : Jvm.MethodName)) ∈ tbW := tb_t 439 (by decide +kernel) rfl
theorem q_440 : (Jvm.Cond.privateMethod ({ cls := "BlockRowsModel", name := "kindAt", desc := "(I)I" } : Jvm.MethodName)) ∈ lw_tbl := tb_r 440 (by decide +kernel)
theorem q_441 : (Jvm.Cond.instanceMethod ({ cls := "BlockRowsModel", name := "kindAt", desc := "(I)I" } : Jvm.MethodName)) ∈ tbW := tb_t 441 (by decide +kernel) rfl
theorem q_442 : (Cond.code y_M_kindAt c_M_kindAt 2 (some .int)) ∈ tbW := tb_t 442 rfl rfl
theorem q_443 : (Jvm.Cond.methodLink "BlockRowsModel" (76 : Nat) ({ cls := "BlockRowsModel", name := "faultAt", desc := "(I)I" } : Jvm.MethodName)) ∈ tbW := tb_t 443 (by decide +kernel) rfl
theorem q_444 : (Jvm.Cond.privateMethod ({ cls := "BlockRowsModel", name := "faultAt", desc := "(I)I" } : Jvm.MethodName)) ∈ lw_tbl := tb_r 444 (by decide +kernel)
theorem q_445 : (Jvm.Cond.instanceMethod ({ cls := "BlockRowsModel", name := "faultAt", desc := "(I)I" } : Jvm.MethodName)) ∈ tbW := tb_t 445 (by decide +kernel) rfl
theorem q_446 : (Cond.code y_M_faultAt c_M_faultAt 3 (some .int)) ∈ tbW := tb_t 446 rfl rfl
theorem q_447 : (Jvm.Cond.methodLink "BlockRowsModel" (73 : Nat) ({ cls := "BlockRowsModel", name := "sizeOf", desc := "(I)I" } : Jvm.MethodName)) ∈ tbW := tb_t 447 (by decide +kernel) rfl
theorem q_448 : (Jvm.Cond.static ({ cls := "BlockRowsModel", name := "sizeOf", desc := "(I)I" } : Jvm.MethodName)) ∈ tbW := tb_t 448 (by decide +kernel) rfl
theorem q_449 : (Cond.code y_M_sizeOf c_M_sizeOf 1 (some .int)) ∈ tbW := tb_t 449 rfl rfl
theorem q_450 : (Jvm.Cond.methodLink "BlockRowsModel" (116 : Nat) ({ cls := "BlockRowsModel", name := "does", desc := "()Z" } : Jvm.MethodName)) ∈ tbW := tb_t 450 (by decide +kernel) rfl
theorem q_451 : (Jvm.Cond.privateMethod ({ cls := "BlockRowsModel", name := "does", desc := "()Z" } : Jvm.MethodName)) ∈ lw_tbl := tb_r 451 (by decide +kernel)
theorem q_452 : (Jvm.Cond.instanceMethod ({ cls := "BlockRowsModel", name := "does", desc := "()Z" } : Jvm.MethodName)) ∈ tbW := tb_t 452 (by decide +kernel) rfl
theorem q_453 : (Cond.code y_M_does c_M_does 8 (some .boolean)) ∈ tbW := tb_t 453 rfl rfl
theorem q_454 : (Jvm.Cond.methodLink "BlockRowsModel" (97 : Nat) ({ cls := "BlockRowsModel", name := "fault", desc := "(I)V" } : Jvm.MethodName)) ∈ tbW := tb_t 454 (by decide +kernel) rfl
theorem q_455 : (Jvm.Cond.privateMethod ({ cls := "BlockRowsModel", name := "fault", desc := "(I)V" } : Jvm.MethodName)) ∈ lw_tbl := tb_r 455 (by decide +kernel)
theorem q_456 : (Jvm.Cond.instanceMethod ({ cls := "BlockRowsModel", name := "fault", desc := "(I)V" } : Jvm.MethodName)) ∈ tbW := tb_t 456 (by decide +kernel) rfl
theorem q_457 : (Cond.code y_M_fault c_M_fault 2 none) ∈ tbW := tb_t 457 rfl rfl
theorem q_458 : (Jvm.Cond.methodLink "BlockRowsModel" (100 : Nat) ({ cls := "BlockRowsModel", name := "holds", desc := "(I)Z" } : Jvm.MethodName)) ∈ tbW := tb_t 458 (by decide +kernel) rfl
theorem q_459 : (Jvm.Cond.privateMethod ({ cls := "BlockRowsModel", name := "holds", desc := "(I)Z" } : Jvm.MethodName)) ∈ lw_tbl := tb_r 459 (by decide +kernel)
theorem q_460 : (Jvm.Cond.instanceMethod ({ cls := "BlockRowsModel", name := "holds", desc := "(I)Z" } : Jvm.MethodName)) ∈ tbW := tb_t 460 (by decide +kernel) rfl
theorem q_461 : (Cond.code y_M_holds c_M_holds 2 (some .boolean)) ∈ tbW := tb_t 461 rfl rfl
theorem q_462 : (Jvm.Cond.methodLink "BlockRowsModel" (103 : Nat) ({ cls := "BlockRowsModel", name := "work", desc := "(IIII)V" } : Jvm.MethodName)) ∈ tbW := tb_t 462 (by decide +kernel) rfl
theorem q_463 : (Jvm.Cond.privateMethod ({ cls := "BlockRowsModel", name := "work", desc := "(IIII)V" } : Jvm.MethodName)) ∈ lw_tbl := tb_r 463 (by decide +kernel)
theorem q_464 : (Jvm.Cond.instanceMethod ({ cls := "BlockRowsModel", name := "work", desc := "(IIII)V" } : Jvm.MethodName)) ∈ tbW := tb_t 464 (by decide +kernel) rfl
theorem q_465 : (Cond.code y_M_work c_M_work 6 none) ∈ tbW := tb_t 465 rfl rfl
theorem q_466 : (Jvm.Cond.methodLink "BlockRowsModel" (107 : Nat) ({ cls := "BlockRowsModel", name := "become", desc := "(II)V" } : Jvm.MethodName)) ∈ tbW := tb_t 466 (by decide +kernel) rfl
theorem q_467 : (Jvm.Cond.privateMethod ({ cls := "BlockRowsModel", name := "become", desc := "(II)V" } : Jvm.MethodName)) ∈ lw_tbl := tb_r 467 (by decide +kernel)
theorem q_468 : (Jvm.Cond.instanceMethod ({ cls := "BlockRowsModel", name := "become", desc := "(II)V" } : Jvm.MethodName)) ∈ tbW := tb_t 468 (by decide +kernel) rfl
theorem q_469 : (Cond.code y_M_become c_M_become 3 none) ∈ tbW := tb_t 469 rfl rfl
theorem q_470 : (Jvm.Cond.methodLink "BlockRowsLaw" (68 : Nat) ({ cls := "BlockRowsModel", name := "memory", desc := "(I)I" } : Jvm.MethodName)) ∈ tbW := tb_t 470 (by decide +kernel) rfl
theorem q_471 : (Jvm.Cond.instanceMethod ({ cls := "BlockRowsModel", name := "memory", desc := "(I)I" } : Jvm.MethodName)) ∈ tbW := tb_t 471 (by decide +kernel) rfl
theorem q_472 : (Jvm.Cond.selects "BlockRowsModel" ({ cls := "BlockRowsModel", name := "memory", desc := "(I)I" } : Jvm.MethodName) ({ cls := "BlockRowsModel", name := "memory", desc := "(I)I" } : Jvm.MethodName)) ∈ tbW := tb_t 472 (by decide +kernel) rfl
theorem q_473 : (Cond.code y_M_memory c_M_memory 2 (some .int)) ∈ tbW := tb_t 473 rfl rfl
theorem q_474 : (Jvm.Cond.methodLink "BlockRowsLaw" (71 : Nat) ({ cls := "BlockRowsModel", name := "register", desc := "(I)I" } : Jvm.MethodName)) ∈ tbW := tb_t 474 (by decide +kernel) rfl
theorem q_475 : (Jvm.Cond.instanceMethod ({ cls := "BlockRowsModel", name := "register", desc := "(I)I" } : Jvm.MethodName)) ∈ tbW := tb_t 475 (by decide +kernel) rfl
theorem q_476 : (Jvm.Cond.selects "BlockRowsModel" ({ cls := "BlockRowsModel", name := "register", desc := "(I)I" } : Jvm.MethodName) ({ cls := "BlockRowsModel", name := "register", desc := "(I)I" } : Jvm.MethodName)) ∈ tbW := tb_t 476 (by decide +kernel) rfl
theorem q_477 : (Cond.code y_M_register c_M_register 2 (some .int)) ∈ tbW := tb_t 477 rfl rfl
theorem q_478 : (Jvm.Cond.methodLink "BlockRowsLaw" (74 : Nat) ({ cls := "BlockRowsModel", name := "row", desc := "(II)I" } : Jvm.MethodName)) ∈ tbW := tb_t 478 (by decide +kernel) rfl
theorem q_479 : (Jvm.Cond.instanceMethod ({ cls := "BlockRowsModel", name := "row", desc := "(II)I" } : Jvm.MethodName)) ∈ tbW := tb_t 479 (by decide +kernel) rfl
theorem q_480 : (Jvm.Cond.selects "BlockRowsModel" ({ cls := "BlockRowsModel", name := "row", desc := "(II)I" } : Jvm.MethodName) ({ cls := "BlockRowsModel", name := "row", desc := "(II)I" } : Jvm.MethodName)) ∈ tbW := tb_t 480 (by decide +kernel) rfl
theorem q_481 : (Cond.code y_M_row c_M_row 3 (some .int)) ∈ tbW := tb_t 481 rfl rfl
theorem q_482 : (Jvm.Cond.methodLink "BlockRowsLaw" (78 : Nat) ({ cls := "BlockRowsModel", name := "forget", desc := "()I" } : Jvm.MethodName)) ∈ tbW := tb_t 482 (by decide +kernel) rfl
theorem q_483 : (Jvm.Cond.instanceMethod ({ cls := "BlockRowsModel", name := "forget", desc := "()I" } : Jvm.MethodName)) ∈ tbW := tb_t 483 (by decide +kernel) rfl
theorem q_484 : (Jvm.Cond.selects "BlockRowsModel" ({ cls := "BlockRowsModel", name := "forget", desc := "()I" } : Jvm.MethodName) ({ cls := "BlockRowsModel", name := "forget", desc := "()I" } : Jvm.MethodName)) ∈ tbW := tb_t 484 (by decide +kernel) rfl
theorem q_485 : (Cond.code y_M_forget c_M_forget 3 (some .int)) ∈ tbW := tb_t 485 rfl rfl
theorem q_486 : (Jvm.Cond.methodLink "BlockRowsLaw" (82 : Nat) ({ cls := "BlockRowsModel", name := "count", desc := "(I)I" } : Jvm.MethodName)) ∈ tbW := tb_t 486 (by decide +kernel) rfl
theorem q_487 : (Jvm.Cond.instanceMethod ({ cls := "BlockRowsModel", name := "count", desc := "(I)I" } : Jvm.MethodName)) ∈ tbW := tb_t 487 (by decide +kernel) rfl
theorem q_488 : (Jvm.Cond.selects "BlockRowsModel" ({ cls := "BlockRowsModel", name := "count", desc := "(I)I" } : Jvm.MethodName) ({ cls := "BlockRowsModel", name := "count", desc := "(I)I" } : Jvm.MethodName)) ∈ tbW := tb_t 488 (by decide +kernel) rfl
theorem q_489 : (Cond.code y_M_count c_M_count 4 (some .int)) ∈ tbW := tb_t 489 rfl rfl
theorem q_490 : (Jvm.Cond.arrayClass Jvm.ClassFile.FieldType.long) ∈ tbW := tb_t 490 (by decide +kernel) rfl
theorem q_491 : (Jvm.Cond.sameMethod "java/lang/Throwable" "java/lang/Throwable" "fillInStackTrace" "(I)Ljava/lang/Throwable;") ∈ tbW := tb_t 491 (by decide +kernel) rfl
theorem sl_B_isKept : (Cond.selects rB y_B_isKept y_B_isKept) ∈ tbW := tb_s 0 (by decide +kernel) rfl
theorem sl_X_throwOut : (Cond.selects rX y_X_throwOut y_X_throwOut) ∈ tbW := tb_s 1 (by decide +kernel) rfl
theorem sl_B_empty : (Cond.selects rB y_B_empty y_B_empty) ∈ tbW := tb_s 2 (by decide +kernel) rfl
theorem sl_X_keptNow : (Cond.selects rX y_X_keptNow y_X_keptNow) ∈ tbW := tb_s 3 (by decide +kernel) rfl
theorem sl_X_write : (Cond.selects rX y_X_write y_X_write) ∈ tbW := tb_s 5 (by decide +kernel) rfl
theorem sl_B_hasByte : (Cond.selects rB y_B_hasByte y_B_hasByte) ∈ tbW := tb_s 6 (by decide +kernel) rfl
theorem sl_X_doBlock : (Cond.selects rX y_X_doBlock y_X_doBlock) ∈ tbW := tb_s 7 (by decide +kernel) rfl
theorem sl_X_blockAt : (Cond.selects rX y_X_blockAt y_X_blockAt) ∈ tbW := tb_s 8 (by decide +kernel) rfl
theorem sl_B_beginsAt : (Cond.selects rB y_B_beginsAt y_B_beginsAt) ∈ tbW := tb_s 9 (by decide +kernel) rfl
theorem sl_X_decode : (Cond.selects rX y_X_decode y_X_decode) ∈ tbW := tb_s 10 (by decide +kernel) rfl
theorem sl_X_wordAt : (Cond.selects rX y_X_wordAt y_X_wordAt) ∈ tbW := tb_s 11 (by decide +kernel) rfl
theorem sl_X_doWord : (Cond.selects rX y_X_doWord y_X_doWord) ∈ tbW := tb_s 12 (by decide +kernel) rfl
theorem sl_X_stateBefore : (Cond.selects rX y_X_stateBefore y_X_stateBefore) ∈ tbW := tb_s 13 (by decide +kernel) rfl
theorem sl_X_perform : (Cond.selects rX y_X_perform y_X_perform) ∈ tbW := tb_s 14 (by decide +kernel) rfl
theorem sl_X_holds : (Cond.selects rX y_X_holds y_X_holds) ∈ tbW := tb_s 15 (by decide +kernel) rfl
theorem sl_X_isZero : (Cond.selects rX y_X_isZero y_X_isZero) ∈ tbW := tb_s 16 (by decide +kernel) rfl
theorem sl_X_isBelow : (Cond.selects rX y_X_isBelow y_X_isBelow) ∈ tbW := tb_s 17 (by decide +kernel) rfl
theorem sl_M_throwing : (Cond.selects rM y_M_throwing y_M_throwing) ∈ tbW := tb_s 18 (by decide +kernel) rfl
theorem sl_M_write : (Cond.selects rM y_M_write y_M_write) ∈ tbW := tb_s 19 (by decide +kernel) rfl
theorem sl_M_throwOut : (Cond.selects rM y_M_throwOut y_M_throwOut) ∈ tbW := tb_s 20 (by decide +kernel) rfl
theorem sl_M_find : (Cond.selects rM y_M_find y_M_find) ∈ tbW := tb_s 21 (by decide +kernel) rfl
theorem sl_M_make : (Cond.selects rM y_M_make y_M_make) ∈ tbW := tb_s 22 (by decide +kernel) rfl
theorem sl_M_kindAt : (Cond.selects rM y_M_kindAt y_M_kindAt) ∈ tbW := tb_s 23 (by decide +kernel) rfl
theorem sl_M_faultAt : (Cond.selects rM y_M_faultAt y_M_faultAt) ∈ tbW := tb_s 24 (by decide +kernel) rfl
theorem sl_M_does : (Cond.selects rM y_M_does y_M_does) ∈ tbW := tb_s 25 (by decide +kernel) rfl
theorem sl_M_fault : (Cond.selects rM y_M_fault y_M_fault) ∈ tbW := tb_s 26 (by decide +kernel) rfl
theorem sl_M_holds : (Cond.selects rM y_M_holds y_M_holds) ∈ tbW := tb_s 27 (by decide +kernel) rfl
theorem sl_M_work : (Cond.selects rM y_M_work y_M_work) ∈ tbW := tb_s 28 (by decide +kernel) rfl
theorem sl_M_become : (Cond.selects rM y_M_become y_M_become) ∈ tbW := tb_s 29 (by decide +kernel) rfl
theorem iB : ∀ w ∈ u_ws rB fB 4, w ∈ tbW := by decide +kernel
theorem iX : ∀ w ∈ u_ws rX fX 12, w ∈ tbW := by decide +kernel
theorem iM : ∀ w ∈ u_ws rM fM 19, w ∈ tbW := by decide +kernel
end
section
theorem d_B_init_0 : decode c_B_init 0 = .ok (.aload_n 0, 1) := by decide +kernel
theorem d_B_init_1 : decode c_B_init 1 = .ok (.invokespecial 3, 3) := by decide +kernel
theorem d_B_init_4 : decode c_B_init 4 = .ok (.aload_n 0, 1) := by decide +kernel
theorem d_B_init_5 : decode c_B_init 5 = .ok (.bipush 12, 2) := by decide +kernel
theorem d_B_init_7 : decode c_B_init 7 = .ok (.newarray .int, 2) := by decide +kernel
theorem d_B_init_9 : decode c_B_init 9 = .ok (.putfield 9, 3) := by decide +kernel
theorem d_B_init_12 : decode c_B_init 12 = .ok (.return_, 1) := by decide +kernel
theorem d_B_isKept_0 : decode c_B_isKept 0 = .ok (.aload_n 0, 1) := by decide +kernel
theorem d_B_isKept_1 : decode c_B_isKept 1 = .ok (.getfield 15, 3) := by decide +kernel
theorem d_B_isKept_4 : decode c_B_isKept 4 = .ok (.ifCond .le 7, 3) := by decide +kernel
theorem d_B_isKept_7 : decode c_B_isKept 7 = .ok (.iconst 1, 1) := by decide +kernel
theorem d_B_isKept_8 : decode c_B_isKept 8 = .ok (.goto 4, 3) := by decide +kernel
theorem d_B_isKept_11 : decode c_B_isKept 11 = .ok (.iconst 0, 1) := by decide +kernel
theorem d_B_isKept_12 : decode c_B_isKept 12 = .ok (.ireturn, 1) := by decide +kernel
theorem d_B_beginsAt_0 : decode c_B_beginsAt 0 = .ok (.aload_n 0, 1) := by decide +kernel
theorem d_B_beginsAt_1 : decode c_B_beginsAt 1 = .ok (.invokevirtual 19, 3) := by decide +kernel
theorem d_B_beginsAt_4 : decode c_B_beginsAt 4 = .ok (.ifCond .eq 15, 3) := by decide +kernel
theorem d_B_beginsAt_7 : decode c_B_beginsAt 7 = .ok (.aload_n 0, 1) := by decide +kernel
theorem d_B_beginsAt_8 : decode c_B_beginsAt 8 = .ok (.getfield 23, 3) := by decide +kernel
theorem d_B_beginsAt_11 : decode c_B_beginsAt 11 = .ok (.iload_n 1, 1) := by decide +kernel
theorem d_B_beginsAt_12 : decode c_B_beginsAt 12 = .ok (.if_icmp .ne 7, 3) := by decide +kernel
theorem d_B_beginsAt_15 : decode c_B_beginsAt 15 = .ok (.iconst 1, 1) := by decide +kernel
theorem d_B_beginsAt_16 : decode c_B_beginsAt 16 = .ok (.goto 4, 3) := by decide +kernel
theorem d_B_beginsAt_19 : decode c_B_beginsAt 19 = .ok (.iconst 0, 1) := by decide +kernel
theorem d_B_beginsAt_20 : decode c_B_beginsAt 20 = .ok (.ireturn, 1) := by decide +kernel
theorem d_B_hasByte_0 : decode c_B_hasByte 0 = .ok (.aload_n 0, 1) := by decide +kernel
theorem d_B_hasByte_1 : decode c_B_hasByte 1 = .ok (.invokevirtual 19, 3) := by decide +kernel
theorem d_B_hasByte_4 : decode c_B_hasByte 4 = .ok (.ifCond .eq 28, 3) := by decide +kernel
theorem d_B_hasByte_7 : decode c_B_hasByte 7 = .ok (.iload_n 1, 1) := by decide +kernel
theorem d_B_hasByte_8 : decode c_B_hasByte 8 = .ok (.aload_n 0, 1) := by decide +kernel
theorem d_B_hasByte_9 : decode c_B_hasByte 9 = .ok (.getfield 23, 3) := by decide +kernel
theorem d_B_hasByte_12 : decode c_B_hasByte 12 = .ok (.if_icmp .lt 20, 3) := by decide +kernel
theorem d_B_hasByte_15 : decode c_B_hasByte 15 = .ok (.iload_n 1, 1) := by decide +kernel
theorem d_B_hasByte_16 : decode c_B_hasByte 16 = .ok (.aload_n 0, 1) := by decide +kernel
theorem d_B_hasByte_17 : decode c_B_hasByte 17 = .ok (.getfield 23, 3) := by decide +kernel
theorem d_B_hasByte_20 : decode c_B_hasByte 20 = .ok (.aload_n 0, 1) := by decide +kernel
theorem d_B_hasByte_21 : decode c_B_hasByte 21 = .ok (.getfield 26, 3) := by decide +kernel
theorem d_B_hasByte_24 : decode c_B_hasByte 24 = .ok (.iadd, 1) := by decide +kernel
theorem d_B_hasByte_25 : decode c_B_hasByte 25 = .ok (.if_icmp .ge 7, 3) := by decide +kernel
theorem d_B_hasByte_28 : decode c_B_hasByte 28 = .ok (.iconst 1, 1) := by decide +kernel
theorem d_B_hasByte_29 : decode c_B_hasByte 29 = .ok (.goto 4, 3) := by decide +kernel
theorem d_B_hasByte_32 : decode c_B_hasByte 32 = .ok (.iconst 0, 1) := by decide +kernel
theorem d_B_hasByte_33 : decode c_B_hasByte 33 = .ok (.ireturn, 1) := by decide +kernel
theorem d_B_empty_0 : decode c_B_empty 0 = .ok (.aload_n 0, 1) := by decide +kernel
theorem d_B_empty_1 : decode c_B_empty 1 = .ok (.iload_n 1, 1) := by decide +kernel
theorem d_B_empty_2 : decode c_B_empty 2 = .ok (.putfield 23, 3) := by decide +kernel
theorem d_B_empty_5 : decode c_B_empty 5 = .ok (.aload_n 0, 1) := by decide +kernel
theorem d_B_empty_6 : decode c_B_empty 6 = .ok (.iconst 0, 1) := by decide +kernel
theorem d_B_empty_7 : decode c_B_empty 7 = .ok (.putfield 15, 3) := by decide +kernel
theorem d_B_empty_10 : decode c_B_empty 10 = .ok (.aload_n 0, 1) := by decide +kernel
theorem d_B_empty_11 : decode c_B_empty 11 = .ok (.iconst 0, 1) := by decide +kernel
theorem d_B_empty_12 : decode c_B_empty 12 = .ok (.putfield 26, 3) := by decide +kernel
theorem d_B_empty_15 : decode c_B_empty 15 = .ok (.return_, 1) := by decide +kernel
end
section
theorem d_L_poke_0 : decode c_L_poke 0 = .ok (.aload_n 3, 1) := by decide +kernel
theorem d_L_poke_1 : decode c_L_poke 1 = .ok (.iconst 0, 1) := by decide +kernel
theorem d_L_poke_2 : decode c_L_poke 2 = .ok (.aload_n 0, 1) := by decide +kernel
theorem d_L_poke_3 : decode c_L_poke 3 = .ok (.iload_n 1, 1) := by decide +kernel
theorem d_L_poke_4 : decode c_L_poke 4 = .ok (.iload_n 2, 1) := by decide +kernel
theorem d_L_poke_5 : decode c_L_poke 5 = .ok (.invokevirtual 7, 3) := by decide +kernel
theorem d_L_poke_8 : decode c_L_poke 8 = .ok (.i2l, 1) := by decide +kernel
theorem d_L_poke_9 : decode c_L_poke 9 = .ok (.lastore, 1) := by decide +kernel
theorem d_L_poke_10 : decode c_L_poke 10 = .ok (.goto 11, 3) := by decide +kernel
theorem d_L_poke_13 : decode c_L_poke 13 = .ok (.astore 4, 2) := by decide +kernel
theorem d_L_poke_15 : decode c_L_poke 15 = .ok (.iconst 1, 1) := by decide +kernel
theorem d_L_poke_16 : decode c_L_poke 16 = .ok (.ireturn, 1) := by decide +kernel
theorem d_L_poke_17 : decode c_L_poke 17 = .ok (.astore 4, 2) := by decide +kernel
theorem d_L_poke_19 : decode c_L_poke 19 = .ok (.iconst 2, 1) := by decide +kernel
theorem d_L_poke_20 : decode c_L_poke 20 = .ok (.ireturn, 1) := by decide +kernel
theorem d_L_poke_21 : decode c_L_poke 21 = .ok (.iconst 0, 1) := by decide +kernel
theorem d_L_poke_22 : decode c_L_poke 22 = .ok (.ireturn, 1) := by decide +kernel
theorem d_L_pokeFour_0 : decode c_L_pokeFour 0 = .ok (.aload_n 3, 1) := by decide +kernel
theorem d_L_pokeFour_1 : decode c_L_pokeFour 1 = .ok (.iconst 0, 1) := by decide +kernel
theorem d_L_pokeFour_2 : decode c_L_pokeFour 2 = .ok (.aload_n 0, 1) := by decide +kernel
theorem d_L_pokeFour_3 : decode c_L_pokeFour 3 = .ok (.iload_n 1, 1) := by decide +kernel
theorem d_L_pokeFour_4 : decode c_L_pokeFour 4 = .ok (.iload_n 2, 1) := by decide +kernel
theorem d_L_pokeFour_5 : decode c_L_pokeFour 5 = .ok (.invokevirtual 17, 3) := by decide +kernel
theorem d_L_pokeFour_8 : decode c_L_pokeFour 8 = .ok (.i2l, 1) := by decide +kernel
theorem d_L_pokeFour_9 : decode c_L_pokeFour 9 = .ok (.lastore, 1) := by decide +kernel
theorem d_L_pokeFour_10 : decode c_L_pokeFour 10 = .ok (.goto 7, 3) := by decide +kernel
theorem d_L_pokeFour_13 : decode c_L_pokeFour 13 = .ok (.astore 4, 2) := by decide +kernel
theorem d_L_pokeFour_15 : decode c_L_pokeFour 15 = .ok (.iconst 1, 1) := by decide +kernel
theorem d_L_pokeFour_16 : decode c_L_pokeFour 16 = .ok (.ireturn, 1) := by decide +kernel
theorem d_L_pokeFour_17 : decode c_L_pokeFour 17 = .ok (.iconst 0, 1) := by decide +kernel
theorem d_L_pokeFour_18 : decode c_L_pokeFour 18 = .ok (.ireturn, 1) := by decide +kernel
theorem d_L_set_0 : decode c_L_set 0 = .ok (.aload_n 3, 1) := by decide +kernel
theorem d_L_set_1 : decode c_L_set 1 = .ok (.iconst 0, 1) := by decide +kernel
theorem d_L_set_2 : decode c_L_set 2 = .ok (.aload_n 0, 1) := by decide +kernel
theorem d_L_set_3 : decode c_L_set 3 = .ok (.iload_n 1, 1) := by decide +kernel
theorem d_L_set_4 : decode c_L_set 4 = .ok (.iload_n 2, 1) := by decide +kernel
theorem d_L_set_5 : decode c_L_set 5 = .ok (.invokevirtual 20, 3) := by decide +kernel
theorem d_L_set_8 : decode c_L_set 8 = .ok (.i2l, 1) := by decide +kernel
theorem d_L_set_9 : decode c_L_set 9 = .ok (.lastore, 1) := by decide +kernel
theorem d_L_set_10 : decode c_L_set 10 = .ok (.goto 7, 3) := by decide +kernel
theorem d_L_set_13 : decode c_L_set 13 = .ok (.astore 4, 2) := by decide +kernel
theorem d_L_set_15 : decode c_L_set 15 = .ok (.iconst 1, 1) := by decide +kernel
theorem d_L_set_16 : decode c_L_set 16 = .ok (.ireturn, 1) := by decide +kernel
theorem d_L_set_17 : decode c_L_set 17 = .ok (.iconst 0, 1) := by decide +kernel
theorem d_L_set_18 : decode c_L_set 18 = .ok (.ireturn, 1) := by decide +kernel
theorem d_L_go_0 : decode c_L_go 0 = .ok (.aload_n 2, 1) := by decide +kernel
theorem d_L_go_1 : decode c_L_go 1 = .ok (.iconst 0, 1) := by decide +kernel
theorem d_L_go_2 : decode c_L_go 2 = .ok (.aload_n 0, 1) := by decide +kernel
theorem d_L_go_3 : decode c_L_go 3 = .ok (.iload_n 1, 1) := by decide +kernel
theorem d_L_go_4 : decode c_L_go 4 = .ok (.invokevirtual 23, 3) := by decide +kernel
theorem d_L_go_7 : decode c_L_go 7 = .ok (.i2l, 1) := by decide +kernel
theorem d_L_go_8 : decode c_L_go 8 = .ok (.lastore, 1) := by decide +kernel
theorem d_L_go_9 : decode c_L_go 9 = .ok (.goto 6, 3) := by decide +kernel
theorem d_L_go_12 : decode c_L_go 12 = .ok (.astore_n 3, 1) := by decide +kernel
theorem d_L_go_13 : decode c_L_go 13 = .ok (.iconst 1, 1) := by decide +kernel
theorem d_L_go_14 : decode c_L_go 14 = .ok (.ireturn, 1) := by decide +kernel
theorem d_L_go_15 : decode c_L_go 15 = .ok (.iconst 0, 1) := by decide +kernel
theorem d_L_go_16 : decode c_L_go 16 = .ok (.ireturn, 1) := by decide +kernel
theorem d_L_run_0 : decode c_L_run 0 = .ok (.aload_n 2, 1) := by decide +kernel
theorem d_L_run_1 : decode c_L_run 1 = .ok (.iconst 0, 1) := by decide +kernel
theorem d_L_run_2 : decode c_L_run 2 = .ok (.aload_n 0, 1) := by decide +kernel
theorem d_L_run_3 : decode c_L_run 3 = .ok (.iload_n 1, 1) := by decide +kernel
theorem d_L_run_4 : decode c_L_run 4 = .ok (.invokevirtual 27, 3) := by decide +kernel
theorem d_L_run_7 : decode c_L_run 7 = .ok (.i2l, 1) := by decide +kernel
theorem d_L_run_8 : decode c_L_run 8 = .ok (.lastore, 1) := by decide +kernel
theorem d_L_run_9 : decode c_L_run 9 = .ok (.goto 6, 3) := by decide +kernel
theorem d_L_run_12 : decode c_L_run 12 = .ok (.astore_n 3, 1) := by decide +kernel
theorem d_L_run_13 : decode c_L_run 13 = .ok (.iconst 1, 1) := by decide +kernel
theorem d_L_run_14 : decode c_L_run 14 = .ok (.ireturn, 1) := by decide +kernel
theorem d_L_run_15 : decode c_L_run 15 = .ok (.iconst 0, 1) := by decide +kernel
theorem d_L_run_16 : decode c_L_run 16 = .ok (.ireturn, 1) := by decide +kernel
theorem d_L_memory_0 : decode c_L_memory 0 = .ok (.aload_n 2, 1) := by decide +kernel
theorem d_L_memory_1 : decode c_L_memory 1 = .ok (.iconst 0, 1) := by decide +kernel
theorem d_L_memory_2 : decode c_L_memory 2 = .ok (.aload_n 0, 1) := by decide +kernel
theorem d_L_memory_3 : decode c_L_memory 3 = .ok (.iload_n 1, 1) := by decide +kernel
theorem d_L_memory_4 : decode c_L_memory 4 = .ok (.invokevirtual 30, 3) := by decide +kernel
theorem d_L_memory_7 : decode c_L_memory 7 = .ok (.i2l, 1) := by decide +kernel
theorem d_L_memory_8 : decode c_L_memory 8 = .ok (.lastore, 1) := by decide +kernel
theorem d_L_memory_9 : decode c_L_memory 9 = .ok (.goto 6, 3) := by decide +kernel
theorem d_L_memory_12 : decode c_L_memory 12 = .ok (.astore_n 3, 1) := by decide +kernel
theorem d_L_memory_13 : decode c_L_memory 13 = .ok (.iconst 1, 1) := by decide +kernel
theorem d_L_memory_14 : decode c_L_memory 14 = .ok (.ireturn, 1) := by decide +kernel
theorem d_L_memory_15 : decode c_L_memory 15 = .ok (.iconst 0, 1) := by decide +kernel
theorem d_L_memory_16 : decode c_L_memory 16 = .ok (.ireturn, 1) := by decide +kernel
theorem d_L_register_0 : decode c_L_register 0 = .ok (.aload_n 2, 1) := by decide +kernel
theorem d_L_register_1 : decode c_L_register 1 = .ok (.iconst 0, 1) := by decide +kernel
theorem d_L_register_2 : decode c_L_register 2 = .ok (.aload_n 0, 1) := by decide +kernel
theorem d_L_register_3 : decode c_L_register 3 = .ok (.iload_n 1, 1) := by decide +kernel
theorem d_L_register_4 : decode c_L_register 4 = .ok (.invokevirtual 33, 3) := by decide +kernel
theorem d_L_register_7 : decode c_L_register 7 = .ok (.i2l, 1) := by decide +kernel
theorem d_L_register_8 : decode c_L_register 8 = .ok (.lastore, 1) := by decide +kernel
theorem d_L_register_9 : decode c_L_register 9 = .ok (.goto 6, 3) := by decide +kernel
theorem d_L_register_12 : decode c_L_register 12 = .ok (.astore_n 3, 1) := by decide +kernel
theorem d_L_register_13 : decode c_L_register 13 = .ok (.iconst 1, 1) := by decide +kernel
theorem d_L_register_14 : decode c_L_register 14 = .ok (.ireturn, 1) := by decide +kernel
theorem d_L_register_15 : decode c_L_register 15 = .ok (.iconst 0, 1) := by decide +kernel
theorem d_L_register_16 : decode c_L_register 16 = .ok (.ireturn, 1) := by decide +kernel
theorem d_L_row_0 : decode c_L_row 0 = .ok (.aload_n 3, 1) := by decide +kernel
theorem d_L_row_1 : decode c_L_row 1 = .ok (.iconst 0, 1) := by decide +kernel
theorem d_L_row_2 : decode c_L_row 2 = .ok (.aload_n 0, 1) := by decide +kernel
theorem d_L_row_3 : decode c_L_row 3 = .ok (.iload_n 1, 1) := by decide +kernel
theorem d_L_row_4 : decode c_L_row 4 = .ok (.iload_n 2, 1) := by decide +kernel
theorem d_L_row_5 : decode c_L_row 5 = .ok (.invokevirtual 36, 3) := by decide +kernel
theorem d_L_row_8 : decode c_L_row 8 = .ok (.i2l, 1) := by decide +kernel
theorem d_L_row_9 : decode c_L_row 9 = .ok (.lastore, 1) := by decide +kernel
theorem d_L_row_10 : decode c_L_row 10 = .ok (.goto 7, 3) := by decide +kernel
theorem d_L_row_13 : decode c_L_row 13 = .ok (.astore 4, 2) := by decide +kernel
theorem d_L_row_15 : decode c_L_row 15 = .ok (.iconst 1, 1) := by decide +kernel
theorem d_L_row_16 : decode c_L_row 16 = .ok (.ireturn, 1) := by decide +kernel
theorem d_L_row_17 : decode c_L_row 17 = .ok (.iconst 0, 1) := by decide +kernel
theorem d_L_row_18 : decode c_L_row 18 = .ok (.ireturn, 1) := by decide +kernel
theorem d_L_law_0 : decode c_L_law 0 = .ok (.new 8, 3) := by decide +kernel
theorem d_L_law_3 : decode c_L_law 3 = .ok (.dup, 1) := by decide +kernel
theorem d_L_law_4 : decode c_L_law 4 = .ok (.invokespecial 39, 3) := by decide +kernel
theorem d_L_law_7 : decode c_L_law 7 = .ok (.astore_n 1, 1) := by decide +kernel
theorem d_L_law_8 : decode c_L_law 8 = .ok (.new 40, 3) := by decide +kernel
theorem d_L_law_11 : decode c_L_law 11 = .ok (.dup, 1) := by decide +kernel
theorem d_L_law_12 : decode c_L_law 12 = .ok (.invokespecial 42, 3) := by decide +kernel
theorem d_L_law_15 : decode c_L_law 15 = .ok (.astore_n 2, 1) := by decide +kernel
theorem d_L_law_16 : decode c_L_law 16 = .ok (.iconst 1, 1) := by decide +kernel
theorem d_L_law_17 : decode c_L_law 17 = .ok (.newarray .long, 2) := by decide +kernel
theorem d_L_law_19 : decode c_L_law 19 = .ok (.astore_n 3, 1) := by decide +kernel
theorem d_L_law_20 : decode c_L_law 20 = .ok (.iconst 0, 1) := by decide +kernel
theorem d_L_law_21 : decode c_L_law 21 = .ok (.istore 4, 2) := by decide +kernel
theorem d_L_law_23 : decode c_L_law 23 = .ok (.iload 4, 2) := by decide +kernel
theorem d_L_law_25 : decode c_L_law 25 = .ok (.aload_n 0, 1) := by decide +kernel
theorem d_L_law_26 : decode c_L_law 26 = .ok (.arraylength, 1) := by decide +kernel
theorem d_L_law_27 : decode c_L_law 27 = .ok (.iconst 3, 1) := by decide +kernel
theorem d_L_law_28 : decode c_L_law 28 = .ok (.isub, 1) := by decide +kernel
theorem d_L_law_29 : decode c_L_law 29 = .ok (.if_icmp .gt 603, 3) := by decide +kernel
theorem d_L_law_32 : decode c_L_law 32 = .ok (.aload_n 0, 1) := by decide +kernel
theorem d_L_law_33 : decode c_L_law 33 = .ok (.iload 4, 2) := by decide +kernel
theorem d_L_law_35 : decode c_L_law 35 = .ok (.iaload, 1) := by decide +kernel
theorem d_L_law_36 : decode c_L_law 36 = .ok (.bipush 15, 2) := by decide +kernel
theorem d_L_law_38 : decode c_L_law 38 = .ok (.iand, 1) := by decide +kernel
theorem d_L_law_39 : decode c_L_law 39 = .ok (.tableswitch 587 0 9 #[53, 121, 189, 257, 313, 369, 425, 481, 549, 562], 53) := by decide +kernel
theorem d_L_law_92 : decode c_L_law 92 = .ok (.aload_n 1, 1) := by decide +kernel
theorem d_L_law_93 : decode c_L_law 93 = .ok (.aload_n 0, 1) := by decide +kernel
theorem d_L_law_94 : decode c_L_law 94 = .ok (.iload 4, 2) := by decide +kernel
theorem d_L_law_96 : decode c_L_law 96 = .ok (.iconst 1, 1) := by decide +kernel
theorem d_L_law_97 : decode c_L_law 97 = .ok (.iadd, 1) := by decide +kernel
theorem d_L_law_98 : decode c_L_law 98 = .ok (.iaload, 1) := by decide +kernel
theorem d_L_law_99 : decode c_L_law 99 = .ok (.aload_n 0, 1) := by decide +kernel
theorem d_L_law_100 : decode c_L_law 100 = .ok (.iload 4, 2) := by decide +kernel
theorem d_L_law_102 : decode c_L_law 102 = .ok (.iconst 2, 1) := by decide +kernel
theorem d_L_law_103 : decode c_L_law 103 = .ok (.iadd, 1) := by decide +kernel
theorem d_L_law_104 : decode c_L_law 104 = .ok (.iaload, 1) := by decide +kernel
theorem d_L_law_105 : decode c_L_law 105 = .ok (.aload_n 3, 1) := by decide +kernel
theorem d_L_law_106 : decode c_L_law 106 = .ok (.invokestatic 43, 3) := by decide +kernel
theorem d_L_law_109 : decode c_L_law 109 = .ok (.istore 5, 2) := by decide +kernel
theorem d_L_law_111 : decode c_L_law 111 = .ok (.aload_n 2, 1) := by decide +kernel
theorem d_L_law_112 : decode c_L_law 112 = .ok (.aload_n 0, 1) := by decide +kernel
theorem d_L_law_113 : decode c_L_law 113 = .ok (.iload 4, 2) := by decide +kernel
theorem d_L_law_115 : decode c_L_law 115 = .ok (.iconst 1, 1) := by decide +kernel
theorem d_L_law_116 : decode c_L_law 116 = .ok (.iadd, 1) := by decide +kernel
theorem d_L_law_117 : decode c_L_law 117 = .ok (.iaload, 1) := by decide +kernel
theorem d_L_law_118 : decode c_L_law 118 = .ok (.aload_n 0, 1) := by decide +kernel
theorem d_L_law_119 : decode c_L_law 119 = .ok (.iload 4, 2) := by decide +kernel
theorem d_L_law_121 : decode c_L_law 121 = .ok (.iconst 2, 1) := by decide +kernel
theorem d_L_law_122 : decode c_L_law 122 = .ok (.iadd, 1) := by decide +kernel
theorem d_L_law_123 : decode c_L_law 123 = .ok (.iaload, 1) := by decide +kernel
theorem d_L_law_124 : decode c_L_law 124 = .ok (.invokevirtual 48, 3) := by decide +kernel
theorem d_L_law_127 : decode c_L_law 127 = .ok (.istore 6, 2) := by decide +kernel
theorem d_L_law_129 : decode c_L_law 129 = .ok (.aload_n 2, 1) := by decide +kernel
theorem d_L_law_130 : decode c_L_law 130 = .ok (.invokevirtual 49, 3) := by decide +kernel
theorem d_L_law_133 : decode c_L_law 133 = .ok (.iload 5, 2) := by decide +kernel
theorem d_L_law_135 : decode c_L_law 135 = .ok (.if_icmp .eq 5, 3) := by decide +kernel
theorem d_L_law_138 : decode c_L_law 138 = .ok (.iconst 0, 1) := by decide +kernel
theorem d_L_law_139 : decode c_L_law 139 = .ok (.ireturn, 1) := by decide +kernel
theorem d_L_law_140 : decode c_L_law 140 = .ok (.iload 5, 2) := by decide +kernel
theorem d_L_law_142 : decode c_L_law 142 = .ok (.ifCond .ne 15, 3) := by decide +kernel
theorem d_L_law_145 : decode c_L_law 145 = .ok (.aload_n 3, 1) := by decide +kernel
theorem d_L_law_146 : decode c_L_law 146 = .ok (.iconst 0, 1) := by decide +kernel
theorem d_L_law_147 : decode c_L_law 147 = .ok (.laload, 1) := by decide +kernel
theorem d_L_law_148 : decode c_L_law 148 = .ok (.iload 6, 2) := by decide +kernel
theorem d_L_law_150 : decode c_L_law 150 = .ok (.i2l, 1) := by decide +kernel
theorem d_L_law_151 : decode c_L_law 151 = .ok (.lcmp, 1) := by decide +kernel
theorem d_L_law_152 : decode c_L_law 152 = .ok (.ifCond .eq 5, 3) := by decide +kernel
theorem d_L_law_155 : decode c_L_law 155 = .ok (.iconst 0, 1) := by decide +kernel
theorem d_L_law_156 : decode c_L_law 156 = .ok (.ireturn, 1) := by decide +kernel
theorem d_L_law_157 : decode c_L_law 157 = .ok (.goto 469, 3) := by decide +kernel
theorem d_L_law_160 : decode c_L_law 160 = .ok (.aload_n 1, 1) := by decide +kernel
theorem d_L_law_161 : decode c_L_law 161 = .ok (.aload_n 0, 1) := by decide +kernel
theorem d_L_law_162 : decode c_L_law 162 = .ok (.iload 4, 2) := by decide +kernel
theorem d_L_law_164 : decode c_L_law 164 = .ok (.iconst 1, 1) := by decide +kernel
theorem d_L_law_165 : decode c_L_law 165 = .ok (.iadd, 1) := by decide +kernel
theorem d_L_law_166 : decode c_L_law 166 = .ok (.iaload, 1) := by decide +kernel
theorem d_L_law_167 : decode c_L_law 167 = .ok (.aload_n 0, 1) := by decide +kernel
theorem d_L_law_168 : decode c_L_law 168 = .ok (.iload 4, 2) := by decide +kernel
theorem d_L_law_170 : decode c_L_law 170 = .ok (.iconst 2, 1) := by decide +kernel
theorem d_L_law_171 : decode c_L_law 171 = .ok (.iadd, 1) := by decide +kernel
theorem d_L_law_172 : decode c_L_law 172 = .ok (.iaload, 1) := by decide +kernel
theorem d_L_law_173 : decode c_L_law 173 = .ok (.aload_n 3, 1) := by decide +kernel
theorem d_L_law_174 : decode c_L_law 174 = .ok (.invokestatic 53, 3) := by decide +kernel
theorem d_L_law_177 : decode c_L_law 177 = .ok (.istore 5, 2) := by decide +kernel
theorem d_L_law_179 : decode c_L_law 179 = .ok (.aload_n 2, 1) := by decide +kernel
theorem d_L_law_180 : decode c_L_law 180 = .ok (.aload_n 0, 1) := by decide +kernel
theorem d_L_law_181 : decode c_L_law 181 = .ok (.iload 4, 2) := by decide +kernel
theorem d_L_law_183 : decode c_L_law 183 = .ok (.iconst 1, 1) := by decide +kernel
theorem d_L_law_184 : decode c_L_law 184 = .ok (.iadd, 1) := by decide +kernel
theorem d_L_law_185 : decode c_L_law 185 = .ok (.iaload, 1) := by decide +kernel
theorem d_L_law_186 : decode c_L_law 186 = .ok (.aload_n 0, 1) := by decide +kernel
theorem d_L_law_187 : decode c_L_law 187 = .ok (.iload 4, 2) := by decide +kernel
theorem d_L_law_189 : decode c_L_law 189 = .ok (.iconst 2, 1) := by decide +kernel
theorem d_L_law_190 : decode c_L_law 190 = .ok (.iadd, 1) := by decide +kernel
theorem d_L_law_191 : decode c_L_law 191 = .ok (.iaload, 1) := by decide +kernel
theorem d_L_law_192 : decode c_L_law 192 = .ok (.invokevirtual 55, 3) := by decide +kernel
theorem d_L_law_195 : decode c_L_law 195 = .ok (.istore 6, 2) := by decide +kernel
theorem d_L_law_197 : decode c_L_law 197 = .ok (.aload_n 2, 1) := by decide +kernel
theorem d_L_law_198 : decode c_L_law 198 = .ok (.invokevirtual 49, 3) := by decide +kernel
theorem d_L_law_201 : decode c_L_law 201 = .ok (.iload 5, 2) := by decide +kernel
theorem d_L_law_203 : decode c_L_law 203 = .ok (.if_icmp .eq 5, 3) := by decide +kernel
theorem d_L_law_206 : decode c_L_law 206 = .ok (.iconst 0, 1) := by decide +kernel
theorem d_L_law_207 : decode c_L_law 207 = .ok (.ireturn, 1) := by decide +kernel
theorem d_L_law_208 : decode c_L_law 208 = .ok (.iload 5, 2) := by decide +kernel
theorem d_L_law_210 : decode c_L_law 210 = .ok (.ifCond .ne 15, 3) := by decide +kernel
theorem d_L_law_213 : decode c_L_law 213 = .ok (.aload_n 3, 1) := by decide +kernel
theorem d_L_law_214 : decode c_L_law 214 = .ok (.iconst 0, 1) := by decide +kernel
theorem d_L_law_215 : decode c_L_law 215 = .ok (.laload, 1) := by decide +kernel
theorem d_L_law_216 : decode c_L_law 216 = .ok (.iload 6, 2) := by decide +kernel
theorem d_L_law_218 : decode c_L_law 218 = .ok (.i2l, 1) := by decide +kernel
theorem d_L_law_219 : decode c_L_law 219 = .ok (.lcmp, 1) := by decide +kernel
theorem d_L_law_220 : decode c_L_law 220 = .ok (.ifCond .eq 5, 3) := by decide +kernel
theorem d_L_law_223 : decode c_L_law 223 = .ok (.iconst 0, 1) := by decide +kernel
theorem d_L_law_224 : decode c_L_law 224 = .ok (.ireturn, 1) := by decide +kernel
theorem d_L_law_225 : decode c_L_law 225 = .ok (.goto 401, 3) := by decide +kernel
theorem d_L_law_228 : decode c_L_law 228 = .ok (.aload_n 1, 1) := by decide +kernel
theorem d_L_law_229 : decode c_L_law 229 = .ok (.aload_n 0, 1) := by decide +kernel
theorem d_L_law_230 : decode c_L_law 230 = .ok (.iload 4, 2) := by decide +kernel
theorem d_L_law_232 : decode c_L_law 232 = .ok (.iconst 1, 1) := by decide +kernel
theorem d_L_law_233 : decode c_L_law 233 = .ok (.iadd, 1) := by decide +kernel
theorem d_L_law_234 : decode c_L_law 234 = .ok (.iaload, 1) := by decide +kernel
theorem d_L_law_235 : decode c_L_law 235 = .ok (.aload_n 0, 1) := by decide +kernel
theorem d_L_law_236 : decode c_L_law 236 = .ok (.iload 4, 2) := by decide +kernel
theorem d_L_law_238 : decode c_L_law 238 = .ok (.iconst 2, 1) := by decide +kernel
theorem d_L_law_239 : decode c_L_law 239 = .ok (.iadd, 1) := by decide +kernel
theorem d_L_law_240 : decode c_L_law 240 = .ok (.iaload, 1) := by decide +kernel
theorem d_L_law_241 : decode c_L_law 241 = .ok (.aload_n 3, 1) := by decide +kernel
theorem d_L_law_242 : decode c_L_law 242 = .ok (.invokestatic 56, 3) := by decide +kernel
theorem d_L_law_245 : decode c_L_law 245 = .ok (.istore 5, 2) := by decide +kernel
theorem d_L_law_247 : decode c_L_law 247 = .ok (.aload_n 2, 1) := by decide +kernel
theorem d_L_law_248 : decode c_L_law 248 = .ok (.aload_n 0, 1) := by decide +kernel
theorem d_L_law_249 : decode c_L_law 249 = .ok (.iload 4, 2) := by decide +kernel
theorem d_L_law_251 : decode c_L_law 251 = .ok (.iconst 1, 1) := by decide +kernel
theorem d_L_law_252 : decode c_L_law 252 = .ok (.iadd, 1) := by decide +kernel
theorem d_L_law_253 : decode c_L_law 253 = .ok (.iaload, 1) := by decide +kernel
theorem d_L_law_254 : decode c_L_law 254 = .ok (.aload_n 0, 1) := by decide +kernel
theorem d_L_law_255 : decode c_L_law 255 = .ok (.iload 4, 2) := by decide +kernel
theorem d_L_law_257 : decode c_L_law 257 = .ok (.iconst 2, 1) := by decide +kernel
theorem d_L_law_258 : decode c_L_law 258 = .ok (.iadd, 1) := by decide +kernel
theorem d_L_law_259 : decode c_L_law 259 = .ok (.iaload, 1) := by decide +kernel
theorem d_L_law_260 : decode c_L_law 260 = .ok (.invokevirtual 58, 3) := by decide +kernel
theorem d_L_law_263 : decode c_L_law 263 = .ok (.istore 6, 2) := by decide +kernel
theorem d_L_law_265 : decode c_L_law 265 = .ok (.aload_n 2, 1) := by decide +kernel
theorem d_L_law_266 : decode c_L_law 266 = .ok (.invokevirtual 49, 3) := by decide +kernel
theorem d_L_law_269 : decode c_L_law 269 = .ok (.iload 5, 2) := by decide +kernel
theorem d_L_law_271 : decode c_L_law 271 = .ok (.if_icmp .eq 5, 3) := by decide +kernel
theorem d_L_law_274 : decode c_L_law 274 = .ok (.iconst 0, 1) := by decide +kernel
theorem d_L_law_275 : decode c_L_law 275 = .ok (.ireturn, 1) := by decide +kernel
theorem d_L_law_276 : decode c_L_law 276 = .ok (.iload 5, 2) := by decide +kernel
end
section
theorem d_L_law_278 : decode c_L_law 278 = .ok (.ifCond .ne 15, 3) := by decide +kernel
theorem d_L_law_281 : decode c_L_law 281 = .ok (.aload_n 3, 1) := by decide +kernel
theorem d_L_law_282 : decode c_L_law 282 = .ok (.iconst 0, 1) := by decide +kernel
theorem d_L_law_283 : decode c_L_law 283 = .ok (.laload, 1) := by decide +kernel
theorem d_L_law_284 : decode c_L_law 284 = .ok (.iload 6, 2) := by decide +kernel
theorem d_L_law_286 : decode c_L_law 286 = .ok (.i2l, 1) := by decide +kernel
theorem d_L_law_287 : decode c_L_law 287 = .ok (.lcmp, 1) := by decide +kernel
theorem d_L_law_288 : decode c_L_law 288 = .ok (.ifCond .eq 5, 3) := by decide +kernel
theorem d_L_law_291 : decode c_L_law 291 = .ok (.iconst 0, 1) := by decide +kernel
theorem d_L_law_292 : decode c_L_law 292 = .ok (.ireturn, 1) := by decide +kernel
theorem d_L_law_293 : decode c_L_law 293 = .ok (.goto 333, 3) := by decide +kernel
theorem d_L_law_296 : decode c_L_law 296 = .ok (.aload_n 1, 1) := by decide +kernel
theorem d_L_law_297 : decode c_L_law 297 = .ok (.aload_n 0, 1) := by decide +kernel
theorem d_L_law_298 : decode c_L_law 298 = .ok (.iload 4, 2) := by decide +kernel
theorem d_L_law_300 : decode c_L_law 300 = .ok (.iconst 1, 1) := by decide +kernel
theorem d_L_law_301 : decode c_L_law 301 = .ok (.iadd, 1) := by decide +kernel
theorem d_L_law_302 : decode c_L_law 302 = .ok (.iaload, 1) := by decide +kernel
theorem d_L_law_303 : decode c_L_law 303 = .ok (.aload_n 3, 1) := by decide +kernel
theorem d_L_law_304 : decode c_L_law 304 = .ok (.invokestatic 59, 3) := by decide +kernel
theorem d_L_law_307 : decode c_L_law 307 = .ok (.istore 5, 2) := by decide +kernel
theorem d_L_law_309 : decode c_L_law 309 = .ok (.aload_n 2, 1) := by decide +kernel
theorem d_L_law_310 : decode c_L_law 310 = .ok (.aload_n 0, 1) := by decide +kernel
theorem d_L_law_311 : decode c_L_law 311 = .ok (.iload 4, 2) := by decide +kernel
theorem d_L_law_313 : decode c_L_law 313 = .ok (.iconst 1, 1) := by decide +kernel
theorem d_L_law_314 : decode c_L_law 314 = .ok (.iadd, 1) := by decide +kernel
theorem d_L_law_315 : decode c_L_law 315 = .ok (.iaload, 1) := by decide +kernel
theorem d_L_law_316 : decode c_L_law 316 = .ok (.invokevirtual 62, 3) := by decide +kernel
theorem d_L_law_319 : decode c_L_law 319 = .ok (.istore 6, 2) := by decide +kernel
theorem d_L_law_321 : decode c_L_law 321 = .ok (.aload_n 2, 1) := by decide +kernel
theorem d_L_law_322 : decode c_L_law 322 = .ok (.invokevirtual 49, 3) := by decide +kernel
theorem d_L_law_325 : decode c_L_law 325 = .ok (.iload 5, 2) := by decide +kernel
theorem d_L_law_327 : decode c_L_law 327 = .ok (.if_icmp .eq 5, 3) := by decide +kernel
theorem d_L_law_330 : decode c_L_law 330 = .ok (.iconst 0, 1) := by decide +kernel
theorem d_L_law_331 : decode c_L_law 331 = .ok (.ireturn, 1) := by decide +kernel
theorem d_L_law_332 : decode c_L_law 332 = .ok (.iload 5, 2) := by decide +kernel
theorem d_L_law_334 : decode c_L_law 334 = .ok (.ifCond .ne 15, 3) := by decide +kernel
theorem d_L_law_337 : decode c_L_law 337 = .ok (.aload_n 3, 1) := by decide +kernel
theorem d_L_law_338 : decode c_L_law 338 = .ok (.iconst 0, 1) := by decide +kernel
theorem d_L_law_339 : decode c_L_law 339 = .ok (.laload, 1) := by decide +kernel
theorem d_L_law_340 : decode c_L_law 340 = .ok (.iload 6, 2) := by decide +kernel
theorem d_L_law_342 : decode c_L_law 342 = .ok (.i2l, 1) := by decide +kernel
theorem d_L_law_343 : decode c_L_law 343 = .ok (.lcmp, 1) := by decide +kernel
theorem d_L_law_344 : decode c_L_law 344 = .ok (.ifCond .eq 5, 3) := by decide +kernel
theorem d_L_law_347 : decode c_L_law 347 = .ok (.iconst 0, 1) := by decide +kernel
theorem d_L_law_348 : decode c_L_law 348 = .ok (.ireturn, 1) := by decide +kernel
theorem d_L_law_349 : decode c_L_law 349 = .ok (.goto 277, 3) := by decide +kernel
theorem d_L_law_352 : decode c_L_law 352 = .ok (.aload_n 1, 1) := by decide +kernel
theorem d_L_law_353 : decode c_L_law 353 = .ok (.aload_n 0, 1) := by decide +kernel
theorem d_L_law_354 : decode c_L_law 354 = .ok (.iload 4, 2) := by decide +kernel
theorem d_L_law_356 : decode c_L_law 356 = .ok (.iconst 1, 1) := by decide +kernel
theorem d_L_law_357 : decode c_L_law 357 = .ok (.iadd, 1) := by decide +kernel
theorem d_L_law_358 : decode c_L_law 358 = .ok (.iaload, 1) := by decide +kernel
theorem d_L_law_359 : decode c_L_law 359 = .ok (.aload_n 3, 1) := by decide +kernel
theorem d_L_law_360 : decode c_L_law 360 = .ok (.invokestatic 63, 3) := by decide +kernel
theorem d_L_law_363 : decode c_L_law 363 = .ok (.istore 5, 2) := by decide +kernel
theorem d_L_law_365 : decode c_L_law 365 = .ok (.aload_n 2, 1) := by decide +kernel
theorem d_L_law_366 : decode c_L_law 366 = .ok (.aload_n 0, 1) := by decide +kernel
theorem d_L_law_367 : decode c_L_law 367 = .ok (.iload 4, 2) := by decide +kernel
theorem d_L_law_369 : decode c_L_law 369 = .ok (.iconst 1, 1) := by decide +kernel
theorem d_L_law_370 : decode c_L_law 370 = .ok (.iadd, 1) := by decide +kernel
theorem d_L_law_371 : decode c_L_law 371 = .ok (.iaload, 1) := by decide +kernel
theorem d_L_law_372 : decode c_L_law 372 = .ok (.invokevirtual 65, 3) := by decide +kernel
theorem d_L_law_375 : decode c_L_law 375 = .ok (.istore 6, 2) := by decide +kernel
theorem d_L_law_377 : decode c_L_law 377 = .ok (.aload_n 2, 1) := by decide +kernel
theorem d_L_law_378 : decode c_L_law 378 = .ok (.invokevirtual 49, 3) := by decide +kernel
theorem d_L_law_381 : decode c_L_law 381 = .ok (.iload 5, 2) := by decide +kernel
theorem d_L_law_383 : decode c_L_law 383 = .ok (.if_icmp .eq 5, 3) := by decide +kernel
theorem d_L_law_386 : decode c_L_law 386 = .ok (.iconst 0, 1) := by decide +kernel
theorem d_L_law_387 : decode c_L_law 387 = .ok (.ireturn, 1) := by decide +kernel
theorem d_L_law_388 : decode c_L_law 388 = .ok (.iload 5, 2) := by decide +kernel
theorem d_L_law_390 : decode c_L_law 390 = .ok (.ifCond .ne 15, 3) := by decide +kernel
theorem d_L_law_393 : decode c_L_law 393 = .ok (.aload_n 3, 1) := by decide +kernel
theorem d_L_law_394 : decode c_L_law 394 = .ok (.iconst 0, 1) := by decide +kernel
theorem d_L_law_395 : decode c_L_law 395 = .ok (.laload, 1) := by decide +kernel
theorem d_L_law_396 : decode c_L_law 396 = .ok (.iload 6, 2) := by decide +kernel
theorem d_L_law_398 : decode c_L_law 398 = .ok (.i2l, 1) := by decide +kernel
theorem d_L_law_399 : decode c_L_law 399 = .ok (.lcmp, 1) := by decide +kernel
theorem d_L_law_400 : decode c_L_law 400 = .ok (.ifCond .eq 5, 3) := by decide +kernel
theorem d_L_law_403 : decode c_L_law 403 = .ok (.iconst 0, 1) := by decide +kernel
theorem d_L_law_404 : decode c_L_law 404 = .ok (.ireturn, 1) := by decide +kernel
theorem d_L_law_405 : decode c_L_law 405 = .ok (.goto 221, 3) := by decide +kernel
theorem d_L_law_408 : decode c_L_law 408 = .ok (.aload_n 1, 1) := by decide +kernel
theorem d_L_law_409 : decode c_L_law 409 = .ok (.aload_n 0, 1) := by decide +kernel
theorem d_L_law_410 : decode c_L_law 410 = .ok (.iload 4, 2) := by decide +kernel
theorem d_L_law_412 : decode c_L_law 412 = .ok (.iconst 1, 1) := by decide +kernel
theorem d_L_law_413 : decode c_L_law 413 = .ok (.iadd, 1) := by decide +kernel
theorem d_L_law_414 : decode c_L_law 414 = .ok (.iaload, 1) := by decide +kernel
theorem d_L_law_415 : decode c_L_law 415 = .ok (.aload_n 3, 1) := by decide +kernel
theorem d_L_law_416 : decode c_L_law 416 = .ok (.invokestatic 66, 3) := by decide +kernel
theorem d_L_law_419 : decode c_L_law 419 = .ok (.istore 5, 2) := by decide +kernel
theorem d_L_law_421 : decode c_L_law 421 = .ok (.aload_n 2, 1) := by decide +kernel
theorem d_L_law_422 : decode c_L_law 422 = .ok (.aload_n 0, 1) := by decide +kernel
theorem d_L_law_423 : decode c_L_law 423 = .ok (.iload 4, 2) := by decide +kernel
theorem d_L_law_425 : decode c_L_law 425 = .ok (.iconst 1, 1) := by decide +kernel
theorem d_L_law_426 : decode c_L_law 426 = .ok (.iadd, 1) := by decide +kernel
theorem d_L_law_427 : decode c_L_law 427 = .ok (.iaload, 1) := by decide +kernel
theorem d_L_law_428 : decode c_L_law 428 = .ok (.invokevirtual 68, 3) := by decide +kernel
theorem d_L_law_431 : decode c_L_law 431 = .ok (.istore 6, 2) := by decide +kernel
theorem d_L_law_433 : decode c_L_law 433 = .ok (.aload_n 2, 1) := by decide +kernel
theorem d_L_law_434 : decode c_L_law 434 = .ok (.invokevirtual 49, 3) := by decide +kernel
theorem d_L_law_437 : decode c_L_law 437 = .ok (.iload 5, 2) := by decide +kernel
theorem d_L_law_439 : decode c_L_law 439 = .ok (.if_icmp .eq 5, 3) := by decide +kernel
theorem d_L_law_442 : decode c_L_law 442 = .ok (.iconst 0, 1) := by decide +kernel
theorem d_L_law_443 : decode c_L_law 443 = .ok (.ireturn, 1) := by decide +kernel
theorem d_L_law_444 : decode c_L_law 444 = .ok (.iload 5, 2) := by decide +kernel
theorem d_L_law_446 : decode c_L_law 446 = .ok (.ifCond .ne 15, 3) := by decide +kernel
theorem d_L_law_449 : decode c_L_law 449 = .ok (.aload_n 3, 1) := by decide +kernel
theorem d_L_law_450 : decode c_L_law 450 = .ok (.iconst 0, 1) := by decide +kernel
theorem d_L_law_451 : decode c_L_law 451 = .ok (.laload, 1) := by decide +kernel
theorem d_L_law_452 : decode c_L_law 452 = .ok (.iload 6, 2) := by decide +kernel
theorem d_L_law_454 : decode c_L_law 454 = .ok (.i2l, 1) := by decide +kernel
theorem d_L_law_455 : decode c_L_law 455 = .ok (.lcmp, 1) := by decide +kernel
theorem d_L_law_456 : decode c_L_law 456 = .ok (.ifCond .eq 5, 3) := by decide +kernel
theorem d_L_law_459 : decode c_L_law 459 = .ok (.iconst 0, 1) := by decide +kernel
theorem d_L_law_460 : decode c_L_law 460 = .ok (.ireturn, 1) := by decide +kernel
theorem d_L_law_461 : decode c_L_law 461 = .ok (.goto 165, 3) := by decide +kernel
theorem d_L_law_464 : decode c_L_law 464 = .ok (.aload_n 1, 1) := by decide +kernel
theorem d_L_law_465 : decode c_L_law 465 = .ok (.aload_n 0, 1) := by decide +kernel
theorem d_L_law_466 : decode c_L_law 466 = .ok (.iload 4, 2) := by decide +kernel
theorem d_L_law_468 : decode c_L_law 468 = .ok (.iconst 1, 1) := by decide +kernel
theorem d_L_law_469 : decode c_L_law 469 = .ok (.iadd, 1) := by decide +kernel
theorem d_L_law_470 : decode c_L_law 470 = .ok (.iaload, 1) := by decide +kernel
theorem d_L_law_471 : decode c_L_law 471 = .ok (.aload_n 3, 1) := by decide +kernel
theorem d_L_law_472 : decode c_L_law 472 = .ok (.invokestatic 69, 3) := by decide +kernel
theorem d_L_law_475 : decode c_L_law 475 = .ok (.istore 5, 2) := by decide +kernel
theorem d_L_law_477 : decode c_L_law 477 = .ok (.aload_n 2, 1) := by decide +kernel
theorem d_L_law_478 : decode c_L_law 478 = .ok (.aload_n 0, 1) := by decide +kernel
theorem d_L_law_479 : decode c_L_law 479 = .ok (.iload 4, 2) := by decide +kernel
theorem d_L_law_481 : decode c_L_law 481 = .ok (.iconst 1, 1) := by decide +kernel
theorem d_L_law_482 : decode c_L_law 482 = .ok (.iadd, 1) := by decide +kernel
theorem d_L_law_483 : decode c_L_law 483 = .ok (.iaload, 1) := by decide +kernel
theorem d_L_law_484 : decode c_L_law 484 = .ok (.invokevirtual 71, 3) := by decide +kernel
theorem d_L_law_487 : decode c_L_law 487 = .ok (.istore 6, 2) := by decide +kernel
theorem d_L_law_489 : decode c_L_law 489 = .ok (.aload_n 2, 1) := by decide +kernel
theorem d_L_law_490 : decode c_L_law 490 = .ok (.invokevirtual 49, 3) := by decide +kernel
theorem d_L_law_493 : decode c_L_law 493 = .ok (.iload 5, 2) := by decide +kernel
theorem d_L_law_495 : decode c_L_law 495 = .ok (.if_icmp .eq 5, 3) := by decide +kernel
theorem d_L_law_498 : decode c_L_law 498 = .ok (.iconst 0, 1) := by decide +kernel
theorem d_L_law_499 : decode c_L_law 499 = .ok (.ireturn, 1) := by decide +kernel
theorem d_L_law_500 : decode c_L_law 500 = .ok (.iload 5, 2) := by decide +kernel
theorem d_L_law_502 : decode c_L_law 502 = .ok (.ifCond .ne 15, 3) := by decide +kernel
theorem d_L_law_505 : decode c_L_law 505 = .ok (.aload_n 3, 1) := by decide +kernel
theorem d_L_law_506 : decode c_L_law 506 = .ok (.iconst 0, 1) := by decide +kernel
theorem d_L_law_507 : decode c_L_law 507 = .ok (.laload, 1) := by decide +kernel
theorem d_L_law_508 : decode c_L_law 508 = .ok (.iload 6, 2) := by decide +kernel
theorem d_L_law_510 : decode c_L_law 510 = .ok (.i2l, 1) := by decide +kernel
theorem d_L_law_511 : decode c_L_law 511 = .ok (.lcmp, 1) := by decide +kernel
theorem d_L_law_512 : decode c_L_law 512 = .ok (.ifCond .eq 5, 3) := by decide +kernel
theorem d_L_law_515 : decode c_L_law 515 = .ok (.iconst 0, 1) := by decide +kernel
theorem d_L_law_516 : decode c_L_law 516 = .ok (.ireturn, 1) := by decide +kernel
theorem d_L_law_517 : decode c_L_law 517 = .ok (.goto 109, 3) := by decide +kernel
theorem d_L_law_520 : decode c_L_law 520 = .ok (.aload_n 1, 1) := by decide +kernel
theorem d_L_law_521 : decode c_L_law 521 = .ok (.aload_n 0, 1) := by decide +kernel
theorem d_L_law_522 : decode c_L_law 522 = .ok (.iload 4, 2) := by decide +kernel
theorem d_L_law_524 : decode c_L_law 524 = .ok (.iconst 1, 1) := by decide +kernel
theorem d_L_law_525 : decode c_L_law 525 = .ok (.iadd, 1) := by decide +kernel
theorem d_L_law_526 : decode c_L_law 526 = .ok (.iaload, 1) := by decide +kernel
theorem d_L_law_527 : decode c_L_law 527 = .ok (.aload_n 0, 1) := by decide +kernel
theorem d_L_law_528 : decode c_L_law 528 = .ok (.iload 4, 2) := by decide +kernel
theorem d_L_law_530 : decode c_L_law 530 = .ok (.iconst 2, 1) := by decide +kernel
theorem d_L_law_531 : decode c_L_law 531 = .ok (.iadd, 1) := by decide +kernel
theorem d_L_law_532 : decode c_L_law 532 = .ok (.iaload, 1) := by decide +kernel
theorem d_L_law_533 : decode c_L_law 533 = .ok (.aload_n 3, 1) := by decide +kernel
theorem d_L_law_534 : decode c_L_law 534 = .ok (.invokestatic 72, 3) := by decide +kernel
theorem d_L_law_537 : decode c_L_law 537 = .ok (.istore 5, 2) := by decide +kernel
theorem d_L_law_539 : decode c_L_law 539 = .ok (.aload_n 2, 1) := by decide +kernel
theorem d_L_law_540 : decode c_L_law 540 = .ok (.aload_n 0, 1) := by decide +kernel
theorem d_L_law_541 : decode c_L_law 541 = .ok (.iload 4, 2) := by decide +kernel
theorem d_L_law_543 : decode c_L_law 543 = .ok (.iconst 1, 1) := by decide +kernel
theorem d_L_law_544 : decode c_L_law 544 = .ok (.iadd, 1) := by decide +kernel
theorem d_L_law_545 : decode c_L_law 545 = .ok (.iaload, 1) := by decide +kernel
theorem d_L_law_546 : decode c_L_law 546 = .ok (.aload_n 0, 1) := by decide +kernel
theorem d_L_law_547 : decode c_L_law 547 = .ok (.iload 4, 2) := by decide +kernel
theorem d_L_law_549 : decode c_L_law 549 = .ok (.iconst 2, 1) := by decide +kernel
theorem d_L_law_550 : decode c_L_law 550 = .ok (.iadd, 1) := by decide +kernel
theorem d_L_law_551 : decode c_L_law 551 = .ok (.iaload, 1) := by decide +kernel
theorem d_L_law_552 : decode c_L_law 552 = .ok (.invokevirtual 74, 3) := by decide +kernel
theorem d_L_law_555 : decode c_L_law 555 = .ok (.istore 6, 2) := by decide +kernel
theorem d_L_law_557 : decode c_L_law 557 = .ok (.aload_n 2, 1) := by decide +kernel
theorem d_L_law_558 : decode c_L_law 558 = .ok (.invokevirtual 49, 3) := by decide +kernel
theorem d_L_law_561 : decode c_L_law 561 = .ok (.iload 5, 2) := by decide +kernel
theorem d_L_law_563 : decode c_L_law 563 = .ok (.if_icmp .eq 5, 3) := by decide +kernel
theorem d_L_law_566 : decode c_L_law 566 = .ok (.iconst 0, 1) := by decide +kernel
theorem d_L_law_567 : decode c_L_law 567 = .ok (.ireturn, 1) := by decide +kernel
theorem d_L_law_568 : decode c_L_law 568 = .ok (.iload 5, 2) := by decide +kernel
theorem d_L_law_570 : decode c_L_law 570 = .ok (.ifCond .ne 15, 3) := by decide +kernel
theorem d_L_law_573 : decode c_L_law 573 = .ok (.aload_n 3, 1) := by decide +kernel
theorem d_L_law_574 : decode c_L_law 574 = .ok (.iconst 0, 1) := by decide +kernel
theorem d_L_law_575 : decode c_L_law 575 = .ok (.laload, 1) := by decide +kernel
theorem d_L_law_576 : decode c_L_law 576 = .ok (.iload 6, 2) := by decide +kernel
theorem d_L_law_578 : decode c_L_law 578 = .ok (.i2l, 1) := by decide +kernel
theorem d_L_law_579 : decode c_L_law 579 = .ok (.lcmp, 1) := by decide +kernel
theorem d_L_law_580 : decode c_L_law 580 = .ok (.ifCond .eq 5, 3) := by decide +kernel
theorem d_L_law_583 : decode c_L_law 583 = .ok (.iconst 0, 1) := by decide +kernel
theorem d_L_law_584 : decode c_L_law 584 = .ok (.ireturn, 1) := by decide +kernel
theorem d_L_law_585 : decode c_L_law 585 = .ok (.goto 41, 3) := by decide +kernel
theorem d_L_law_588 : decode c_L_law 588 = .ok (.aload_n 1, 1) := by decide +kernel
theorem d_L_law_589 : decode c_L_law 589 = .ok (.invokevirtual 75, 3) := by decide +kernel
theorem d_L_law_592 : decode c_L_law 592 = .ok (.aload_n 2, 1) := by decide +kernel
theorem d_L_law_593 : decode c_L_law 593 = .ok (.invokevirtual 78, 3) := by decide +kernel
theorem d_L_law_596 : decode c_L_law 596 = .ok (.if_icmp .eq 30, 3) := by decide +kernel
theorem d_L_law_599 : decode c_L_law 599 = .ok (.iconst 0, 1) := by decide +kernel
theorem d_L_law_600 : decode c_L_law 600 = .ok (.ireturn, 1) := by decide +kernel
theorem d_L_law_601 : decode c_L_law 601 = .ok (.aload_n 1, 1) := by decide +kernel
theorem d_L_law_602 : decode c_L_law 602 = .ok (.aload_n 0, 1) := by decide +kernel
theorem d_L_law_603 : decode c_L_law 603 = .ok (.iload 4, 2) := by decide +kernel
theorem d_L_law_605 : decode c_L_law 605 = .ok (.iconst 1, 1) := by decide +kernel
theorem d_L_law_606 : decode c_L_law 606 = .ok (.iadd, 1) := by decide +kernel
theorem d_L_law_607 : decode c_L_law 607 = .ok (.iaload, 1) := by decide +kernel
theorem d_L_law_608 : decode c_L_law 608 = .ok (.invokevirtual 79, 3) := by decide +kernel
theorem d_L_law_611 : decode c_L_law 611 = .ok (.aload_n 2, 1) := by decide +kernel
theorem d_L_law_612 : decode c_L_law 612 = .ok (.aload_n 0, 1) := by decide +kernel
theorem d_L_law_613 : decode c_L_law 613 = .ok (.iload 4, 2) := by decide +kernel
theorem d_L_law_615 : decode c_L_law 615 = .ok (.iconst 1, 1) := by decide +kernel
theorem d_L_law_616 : decode c_L_law 616 = .ok (.iadd, 1) := by decide +kernel
theorem d_L_law_617 : decode c_L_law 617 = .ok (.iaload, 1) := by decide +kernel
theorem d_L_law_618 : decode c_L_law 618 = .ok (.invokevirtual 82, 3) := by decide +kernel
theorem d_L_law_621 : decode c_L_law 621 = .ok (.if_icmp .eq 5, 3) := by decide +kernel
theorem d_L_law_624 : decode c_L_law 624 = .ok (.iconst 0, 1) := by decide +kernel
theorem d_L_law_625 : decode c_L_law 625 = .ok (.ireturn, 1) := by decide +kernel
theorem d_L_law_626 : decode c_L_law 626 = .ok (.iinc 4 3, 3) := by decide +kernel
theorem d_L_law_629 : decode c_L_law 629 = .ok (.goto (-606), 3) := by decide +kernel
theorem d_L_law_632 : decode c_L_law 632 = .ok (.iconst 1, 1) := by decide +kernel
theorem d_L_law_633 : decode c_L_law 633 = .ok (.ireturn, 1) := by decide +kernel
end
section
theorem d_M_init_0 : decode c_M_init 0 = .ok (.aload_n 0, 1) := by decide +kernel
theorem d_M_init_1 : decode c_M_init 1 = .ok (.invokespecial 1, 3) := by decide +kernel
theorem d_M_init_4 : decode c_M_init 4 = .ok (.aload_n 0, 1) := by decide +kernel
theorem d_M_init_5 : decode c_M_init 5 = .ok (.sipush 1024, 3) := by decide +kernel
theorem d_M_init_8 : decode c_M_init 8 = .ok (.newarray .int, 2) := by decide +kernel
theorem d_M_init_10 : decode c_M_init 10 = .ok (.putfield 7, 3) := by decide +kernel
theorem d_M_init_13 : decode c_M_init 13 = .ok (.aload_n 0, 1) := by decide +kernel
theorem d_M_init_14 : decode c_M_init 14 = .ok (.bipush 8, 2) := by decide +kernel
theorem d_M_init_16 : decode c_M_init 16 = .ok (.newarray .int, 2) := by decide +kernel
theorem d_M_init_18 : decode c_M_init 18 = .ok (.putfield 13, 3) := by decide +kernel
theorem d_M_init_21 : decode c_M_init 21 = .ok (.aload_n 0, 1) := by decide +kernel
theorem d_M_init_22 : decode c_M_init 22 = .ok (.bipush 32, 2) := by decide +kernel
theorem d_M_init_24 : decode c_M_init 24 = .ok (.newarray .boolean, 2) := by decide +kernel
theorem d_M_init_26 : decode c_M_init 26 = .ok (.putfield 16, 3) := by decide +kernel
theorem d_M_init_29 : decode c_M_init 29 = .ok (.aload_n 0, 1) := by decide +kernel
theorem d_M_init_30 : decode c_M_init 30 = .ok (.bipush 32, 2) := by decide +kernel
theorem d_M_init_32 : decode c_M_init 32 = .ok (.newarray .int, 2) := by decide +kernel
theorem d_M_init_34 : decode c_M_init 34 = .ok (.putfield 20, 3) := by decide +kernel
theorem d_M_init_37 : decode c_M_init 37 = .ok (.aload_n 0, 1) := by decide +kernel
theorem d_M_init_38 : decode c_M_init 38 = .ok (.bipush 32, 2) := by decide +kernel
theorem d_M_init_40 : decode c_M_init 40 = .ok (.newarray .int, 2) := by decide +kernel
theorem d_M_init_42 : decode c_M_init 42 = .ok (.putfield 23, 3) := by decide +kernel
theorem d_M_init_45 : decode c_M_init 45 = .ok (.aload_n 0, 1) := by decide +kernel
theorem d_M_init_46 : decode c_M_init 46 = .ok (.bipush 32, 2) := by decide +kernel
theorem d_M_init_48 : decode c_M_init 48 = .ok (.newarray .int, 2) := by decide +kernel
theorem d_M_init_50 : decode c_M_init 50 = .ok (.putfield 26, 3) := by decide +kernel
theorem d_M_init_53 : decode c_M_init 53 = .ok (.return_, 1) := by decide +kernel
theorem d_M_thrown_0 : decode c_M_thrown 0 = .ok (.aload_n 0, 1) := by decide +kernel
theorem d_M_thrown_1 : decode c_M_thrown 1 = .ok (.getfield 29, 3) := by decide +kernel
theorem d_M_thrown_4 : decode c_M_thrown 4 = .ok (.ireturn, 1) := by decide +kernel
theorem d_M_throwing_0 : decode c_M_throwing 0 = .ok (.aload_n 0, 1) := by decide +kernel
theorem d_M_throwing_1 : decode c_M_throwing 1 = .ok (.iload_n 1, 1) := by decide +kernel
theorem d_M_throwing_2 : decode c_M_throwing 2 = .ok (.ifCond .eq 7, 3) := by decide +kernel
theorem d_M_throwing_5 : decode c_M_throwing 5 = .ok (.iconst 1, 1) := by decide +kernel
theorem d_M_throwing_6 : decode c_M_throwing 6 = .ok (.goto 12, 3) := by decide +kernel
theorem d_M_throwing_9 : decode c_M_throwing 9 = .ok (.iload_n 2, 1) := by decide +kernel
theorem d_M_throwing_10 : decode c_M_throwing 10 = .ok (.ifCond .eq 7, 3) := by decide +kernel
theorem d_M_throwing_13 : decode c_M_throwing 13 = .ok (.iconst 2, 1) := by decide +kernel
theorem d_M_throwing_14 : decode c_M_throwing 14 = .ok (.goto 4, 3) := by decide +kernel
theorem d_M_throwing_17 : decode c_M_throwing 17 = .ok (.iconst 0, 1) := by decide +kernel
theorem d_M_throwing_18 : decode c_M_throwing 18 = .ok (.putfield 29, 3) := by decide +kernel
theorem d_M_throwing_21 : decode c_M_throwing 21 = .ok (.aload_n 0, 1) := by decide +kernel
theorem d_M_throwing_22 : decode c_M_throwing 22 = .ok (.getfield 29, 3) := by decide +kernel
theorem d_M_throwing_25 : decode c_M_throwing 25 = .ok (.ifCond .le 7, 3) := by decide +kernel
theorem d_M_throwing_28 : decode c_M_throwing 28 = .ok (.iconst 1, 1) := by decide +kernel
theorem d_M_throwing_29 : decode c_M_throwing 29 = .ok (.goto 4, 3) := by decide +kernel
theorem d_M_throwing_32 : decode c_M_throwing 32 = .ok (.iconst 0, 1) := by decide +kernel
theorem d_M_throwing_33 : decode c_M_throwing 33 = .ok (.ireturn, 1) := by decide +kernel
theorem d_M_in_0 : decode c_M_in 0 = .ok (.iload_n 0, 1) := by decide +kernel
theorem d_M_in_1 : decode c_M_in 1 = .ok (.iload_n 1, 1) := by decide +kernel
theorem d_M_in_2 : decode c_M_in 2 = .ok (.if_icmp .lt 12, 3) := by decide +kernel
theorem d_M_in_5 : decode c_M_in 5 = .ok (.iload_n 0, 1) := by decide +kernel
theorem d_M_in_6 : decode c_M_in 6 = .ok (.iload_n 2, 1) := by decide +kernel
theorem d_M_in_7 : decode c_M_in 7 = .ok (.if_icmp .gt 7, 3) := by decide +kernel
theorem d_M_in_10 : decode c_M_in 10 = .ok (.iconst 1, 1) := by decide +kernel
theorem d_M_in_11 : decode c_M_in 11 = .ok (.goto 4, 3) := by decide +kernel
theorem d_M_in_14 : decode c_M_in 14 = .ok (.iconst 0, 1) := by decide +kernel
theorem d_M_in_15 : decode c_M_in 15 = .ok (.ireturn, 1) := by decide +kernel
theorem d_M_isThere_0 : decode c_M_isThere 0 = .ok (.iload_n 0, 1) := by decide +kernel
theorem d_M_isThere_1 : decode c_M_isThere 1 = .ok (.iconst 0, 1) := by decide +kernel
theorem d_M_isThere_2 : decode c_M_isThere 2 = .ok (.sipush 1023, 3) := by decide +kernel
theorem d_M_isThere_5 : decode c_M_isThere 5 = .ok (.invokestatic 33, 3) := by decide +kernel
theorem d_M_isThere_8 : decode c_M_isThere 8 = .ok (.ireturn, 1) := by decide +kernel
theorem d_M_throwOut_0 : decode c_M_throwOut 0 = .ok (.aload_n 0, 1) := by decide +kernel
theorem d_M_throwOut_1 : decode c_M_throwOut 1 = .ok (.getfield 16, 3) := by decide +kernel
theorem d_M_throwOut_4 : decode c_M_throwOut 4 = .ok (.iload_n 1, 1) := by decide +kernel
theorem d_M_throwOut_5 : decode c_M_throwOut 5 = .ok (.iconst 0, 1) := by decide +kernel
theorem d_M_throwOut_6 : decode c_M_throwOut 6 = .ok (.bastore, 1) := by decide +kernel
theorem d_M_throwOut_7 : decode c_M_throwOut 7 = .ok (.aload_n 0, 1) := by decide +kernel
theorem d_M_throwOut_8 : decode c_M_throwOut 8 = .ok (.dup, 1) := by decide +kernel
theorem d_M_throwOut_9 : decode c_M_throwOut 9 = .ok (.getfield 37, 3) := by decide +kernel
theorem d_M_throwOut_12 : decode c_M_throwOut 12 = .ok (.iconst 1, 1) := by decide +kernel
theorem d_M_throwOut_13 : decode c_M_throwOut 13 = .ok (.iadd, 1) := by decide +kernel
theorem d_M_throwOut_14 : decode c_M_throwOut 14 = .ok (.putfield 37, 3) := by decide +kernel
theorem d_M_throwOut_17 : decode c_M_throwOut 17 = .ok (.return_, 1) := by decide +kernel
theorem d_M_write_0 : decode c_M_write 0 = .ok (.aload_n 0, 1) := by decide +kernel
theorem d_M_write_1 : decode c_M_write 1 = .ok (.getfield 7, 3) := by decide +kernel
theorem d_M_write_4 : decode c_M_write 4 = .ok (.iload_n 1, 1) := by decide +kernel
theorem d_M_write_5 : decode c_M_write 5 = .ok (.iload_n 2, 1) := by decide +kernel
theorem d_M_write_6 : decode c_M_write 6 = .ok (.iastore, 1) := by decide +kernel
theorem d_M_write_7 : decode c_M_write 7 = .ok (.iconst 0, 1) := by decide +kernel
theorem d_M_write_8 : decode c_M_write 8 = .ok (.istore_n 3, 1) := by decide +kernel
theorem d_M_write_9 : decode c_M_write 9 = .ok (.iload_n 3, 1) := by decide +kernel
theorem d_M_write_10 : decode c_M_write 10 = .ok (.bipush 32, 2) := by decide +kernel
theorem d_M_write_12 : decode c_M_write 12 = .ok (.if_icmp .ge 77, 3) := by decide +kernel
theorem d_M_write_15 : decode c_M_write 15 = .ok (.aload_n 0, 1) := by decide +kernel
theorem d_M_write_16 : decode c_M_write 16 = .ok (.getfield 16, 3) := by decide +kernel
theorem d_M_write_19 : decode c_M_write 19 = .ok (.iload_n 3, 1) := by decide +kernel
theorem d_M_write_20 : decode c_M_write 20 = .ok (.baload, 1) := by decide +kernel
theorem d_M_write_21 : decode c_M_write 21 = .ok (.ifCond .eq 62, 3) := by decide +kernel
theorem d_M_write_24 : decode c_M_write 24 = .ok (.iload_n 1, 1) := by decide +kernel
theorem d_M_write_25 : decode c_M_write 25 = .ok (.aload_n 0, 1) := by decide +kernel
theorem d_M_write_26 : decode c_M_write 26 = .ok (.getfield 20, 3) := by decide +kernel
theorem d_M_write_29 : decode c_M_write 29 = .ok (.iload_n 3, 1) := by decide +kernel
theorem d_M_write_30 : decode c_M_write 30 = .ok (.iaload, 1) := by decide +kernel
theorem d_M_write_31 : decode c_M_write 31 = .ok (.if_icmp .lt 52, 3) := by decide +kernel
theorem d_M_write_34 : decode c_M_write 34 = .ok (.iload_n 1, 1) := by decide +kernel
theorem d_M_write_35 : decode c_M_write 35 = .ok (.aload_n 0, 1) := by decide +kernel
theorem d_M_write_36 : decode c_M_write 36 = .ok (.getfield 20, 3) := by decide +kernel
theorem d_M_write_39 : decode c_M_write 39 = .ok (.iload_n 3, 1) := by decide +kernel
theorem d_M_write_40 : decode c_M_write 40 = .ok (.iaload, 1) := by decide +kernel
theorem d_M_write_41 : decode c_M_write 41 = .ok (.aload_n 0, 1) := by decide +kernel
theorem d_M_write_42 : decode c_M_write 42 = .ok (.getfield 26, 3) := by decide +kernel
theorem d_M_write_45 : decode c_M_write 45 = .ok (.iload_n 3, 1) := by decide +kernel
theorem d_M_write_46 : decode c_M_write 46 = .ok (.iaload, 1) := by decide +kernel
theorem d_M_write_47 : decode c_M_write 47 = .ok (.iadd, 1) := by decide +kernel
theorem d_M_write_48 : decode c_M_write 48 = .ok (.if_icmp .lt 6, 3) := by decide +kernel
theorem d_M_write_51 : decode c_M_write 51 = .ok (.goto 32, 3) := by decide +kernel
theorem d_M_write_54 : decode c_M_write 54 = .ok (.aload_n 0, 1) := by decide +kernel
theorem d_M_write_55 : decode c_M_write 55 = .ok (.iload_n 3, 1) := by decide +kernel
theorem d_M_write_56 : decode c_M_write 56 = .ok (.invokevirtual 40, 3) := by decide +kernel
theorem d_M_write_59 : decode c_M_write 59 = .ok (.aload_n 0, 1) := by decide +kernel
theorem d_M_write_60 : decode c_M_write 60 = .ok (.aload_n 0, 1) := by decide +kernel
theorem d_M_write_61 : decode c_M_write 61 = .ok (.getfield 44, 3) := by decide +kernel
theorem d_M_write_64 : decode c_M_write 64 = .ok (.ifCond .ne 11, 3) := by decide +kernel
theorem d_M_write_67 : decode c_M_write 67 = .ok (.iload_n 3, 1) := by decide +kernel
theorem d_M_write_68 : decode c_M_write 68 = .ok (.aload_n 0, 1) := by decide +kernel
theorem d_M_write_69 : decode c_M_write 69 = .ok (.getfield 48, 3) := by decide +kernel
theorem d_M_write_72 : decode c_M_write 72 = .ok (.if_icmp .ne 7, 3) := by decide +kernel
theorem d_M_write_75 : decode c_M_write 75 = .ok (.iconst 1, 1) := by decide +kernel
theorem d_M_write_76 : decode c_M_write 76 = .ok (.goto 4, 3) := by decide +kernel
theorem d_M_write_79 : decode c_M_write 79 = .ok (.iconst 0, 1) := by decide +kernel
theorem d_M_write_80 : decode c_M_write 80 = .ok (.putfield 44, 3) := by decide +kernel
theorem d_M_write_83 : decode c_M_write 83 = .ok (.iinc 3 1, 3) := by decide +kernel
theorem d_M_write_86 : decode c_M_write 86 = .ok (.goto (-77), 3) := by decide +kernel
theorem d_M_write_89 : decode c_M_write 89 = .ok (.return_, 1) := by decide +kernel
theorem d_M_poke_0 : decode c_M_poke 0 = .ok (.aload_n 0, 1) := by decide +kernel
theorem d_M_poke_1 : decode c_M_poke 1 = .ok (.iload_n 1, 1) := by decide +kernel
theorem d_M_poke_2 : decode c_M_poke 2 = .ok (.invokestatic 51, 3) := by decide +kernel
theorem d_M_poke_5 : decode c_M_poke 5 = .ok (.ifCond .ne 7, 3) := by decide +kernel
theorem d_M_poke_8 : decode c_M_poke 8 = .ok (.iconst 1, 1) := by decide +kernel
theorem d_M_poke_9 : decode c_M_poke 9 = .ok (.goto 4, 3) := by decide +kernel
theorem d_M_poke_12 : decode c_M_poke 12 = .ok (.iconst 0, 1) := by decide +kernel
theorem d_M_poke_13 : decode c_M_poke 13 = .ok (.iload_n 2, 1) := by decide +kernel
theorem d_M_poke_14 : decode c_M_poke 14 = .ok (.iconst 0, 1) := by decide +kernel
theorem d_M_poke_15 : decode c_M_poke 15 = .ok (.sipush 255, 3) := by decide +kernel
theorem d_M_poke_18 : decode c_M_poke 18 = .ok (.invokestatic 33, 3) := by decide +kernel
theorem d_M_poke_21 : decode c_M_poke 21 = .ok (.ifCond .ne 7, 3) := by decide +kernel
theorem d_M_poke_24 : decode c_M_poke 24 = .ok (.iconst 1, 1) := by decide +kernel
theorem d_M_poke_25 : decode c_M_poke 25 = .ok (.goto 4, 3) := by decide +kernel
theorem d_M_poke_28 : decode c_M_poke 28 = .ok (.iconst 0, 1) := by decide +kernel
theorem d_M_poke_29 : decode c_M_poke 29 = .ok (.invokevirtual 55, 3) := by decide +kernel
theorem d_M_poke_32 : decode c_M_poke 32 = .ok (.ifCond .eq 5, 3) := by decide +kernel
theorem d_M_poke_35 : decode c_M_poke 35 = .ok (.iconst 0, 1) := by decide +kernel
theorem d_M_poke_36 : decode c_M_poke 36 = .ok (.ireturn, 1) := by decide +kernel
theorem d_M_poke_37 : decode c_M_poke 37 = .ok (.aload_n 0, 1) := by decide +kernel
theorem d_M_poke_38 : decode c_M_poke 38 = .ok (.getfield 7, 3) := by decide +kernel
theorem d_M_poke_41 : decode c_M_poke 41 = .ok (.iload_n 1, 1) := by decide +kernel
theorem d_M_poke_42 : decode c_M_poke 42 = .ok (.iaload, 1) := by decide +kernel
theorem d_M_poke_43 : decode c_M_poke 43 = .ok (.istore_n 3, 1) := by decide +kernel
theorem d_M_poke_44 : decode c_M_poke 44 = .ok (.aload_n 0, 1) := by decide +kernel
theorem d_M_poke_45 : decode c_M_poke 45 = .ok (.iload_n 1, 1) := by decide +kernel
theorem d_M_poke_46 : decode c_M_poke 46 = .ok (.iload_n 2, 1) := by decide +kernel
theorem d_M_poke_47 : decode c_M_poke 47 = .ok (.invokevirtual 59, 3) := by decide +kernel
theorem d_M_poke_50 : decode c_M_poke 50 = .ok (.iload_n 3, 1) := by decide +kernel
theorem d_M_poke_51 : decode c_M_poke 51 = .ok (.ireturn, 1) := by decide +kernel
theorem d_M_pokeFour_0 : decode c_M_pokeFour 0 = .ok (.aload_n 0, 1) := by decide +kernel
theorem d_M_pokeFour_1 : decode c_M_pokeFour 1 = .ok (.iload_n 1, 1) := by decide +kernel
theorem d_M_pokeFour_2 : decode c_M_pokeFour 2 = .ok (.invokestatic 51, 3) := by decide +kernel
theorem d_M_pokeFour_5 : decode c_M_pokeFour 5 = .ok (.ifCond .ne 7, 3) := by decide +kernel
theorem d_M_pokeFour_8 : decode c_M_pokeFour 8 = .ok (.iconst 1, 1) := by decide +kernel
theorem d_M_pokeFour_9 : decode c_M_pokeFour 9 = .ok (.goto 4, 3) := by decide +kernel
theorem d_M_pokeFour_12 : decode c_M_pokeFour 12 = .ok (.iconst 0, 1) := by decide +kernel
theorem d_M_pokeFour_13 : decode c_M_pokeFour 13 = .ok (.iconst 0, 1) := by decide +kernel
theorem d_M_pokeFour_14 : decode c_M_pokeFour 14 = .ok (.invokevirtual 55, 3) := by decide +kernel
theorem d_M_pokeFour_17 : decode c_M_pokeFour 17 = .ok (.ifCond .eq 5, 3) := by decide +kernel
theorem d_M_pokeFour_20 : decode c_M_pokeFour 20 = .ok (.iconst 0, 1) := by decide +kernel
theorem d_M_pokeFour_21 : decode c_M_pokeFour 21 = .ok (.ireturn, 1) := by decide +kernel
theorem d_M_pokeFour_22 : decode c_M_pokeFour 22 = .ok (.iconst 0, 1) := by decide +kernel
theorem d_M_pokeFour_23 : decode c_M_pokeFour 23 = .ok (.istore_n 3, 1) := by decide +kernel
theorem d_M_pokeFour_24 : decode c_M_pokeFour 24 = .ok (.iconst 0, 1) := by decide +kernel
theorem d_M_pokeFour_25 : decode c_M_pokeFour 25 = .ok (.istore 4, 2) := by decide +kernel
theorem d_M_pokeFour_27 : decode c_M_pokeFour 27 = .ok (.iload 4, 2) := by decide +kernel
theorem d_M_pokeFour_29 : decode c_M_pokeFour 29 = .ok (.iconst 4, 1) := by decide +kernel
theorem d_M_pokeFour_30 : decode c_M_pokeFour 30 = .ok (.if_icmp .ge 44, 3) := by decide +kernel
theorem d_M_pokeFour_33 : decode c_M_pokeFour 33 = .ok (.iload_n 1, 1) := by decide +kernel
theorem d_M_pokeFour_34 : decode c_M_pokeFour 34 = .ok (.iload 4, 2) := by decide +kernel
theorem d_M_pokeFour_36 : decode c_M_pokeFour 36 = .ok (.iadd, 1) := by decide +kernel
theorem d_M_pokeFour_37 : decode c_M_pokeFour 37 = .ok (.invokestatic 51, 3) := by decide +kernel
theorem d_M_pokeFour_40 : decode c_M_pokeFour 40 = .ok (.ifCond .eq 34, 3) := by decide +kernel
theorem d_M_pokeFour_43 : decode c_M_pokeFour 43 = .ok (.aload_n 0, 1) := by decide +kernel
theorem d_M_pokeFour_44 : decode c_M_pokeFour 44 = .ok (.iload_n 1, 1) := by decide +kernel
theorem d_M_pokeFour_45 : decode c_M_pokeFour 45 = .ok (.iload 4, 2) := by decide +kernel
theorem d_M_pokeFour_47 : decode c_M_pokeFour 47 = .ok (.iadd, 1) := by decide +kernel
theorem d_M_pokeFour_48 : decode c_M_pokeFour 48 = .ok (.iload_n 2, 1) := by decide +kernel
theorem d_M_pokeFour_49 : decode c_M_pokeFour 49 = .ok (.bipush 24, 2) := by decide +kernel
theorem d_M_pokeFour_51 : decode c_M_pokeFour 51 = .ok (.bipush 8, 2) := by decide +kernel
theorem d_M_pokeFour_53 : decode c_M_pokeFour 53 = .ok (.iload 4, 2) := by decide +kernel
theorem d_M_pokeFour_55 : decode c_M_pokeFour 55 = .ok (.imul, 1) := by decide +kernel
theorem d_M_pokeFour_56 : decode c_M_pokeFour 56 = .ok (.isub, 1) := by decide +kernel
theorem d_M_pokeFour_57 : decode c_M_pokeFour 57 = .ok (.ishr, 1) := by decide +kernel
theorem d_M_pokeFour_58 : decode c_M_pokeFour 58 = .ok (.sipush 255, 3) := by decide +kernel
theorem d_M_pokeFour_61 : decode c_M_pokeFour 61 = .ok (.iand, 1) := by decide +kernel
theorem d_M_pokeFour_62 : decode c_M_pokeFour 62 = .ok (.invokevirtual 59, 3) := by decide +kernel
theorem d_M_pokeFour_65 : decode c_M_pokeFour 65 = .ok (.iinc 3 1, 3) := by decide +kernel
theorem d_M_pokeFour_68 : decode c_M_pokeFour 68 = .ok (.iinc 4 1, 3) := by decide +kernel
theorem d_M_pokeFour_71 : decode c_M_pokeFour 71 = .ok (.goto (-44), 3) := by decide +kernel
theorem d_M_pokeFour_74 : decode c_M_pokeFour 74 = .ok (.iload_n 3, 1) := by decide +kernel
theorem d_M_pokeFour_75 : decode c_M_pokeFour 75 = .ok (.ireturn, 1) := by decide +kernel
theorem d_M_set_0 : decode c_M_set 0 = .ok (.aload_n 0, 1) := by decide +kernel
theorem d_M_set_1 : decode c_M_set 1 = .ok (.iload_n 1, 1) := by decide +kernel
theorem d_M_set_2 : decode c_M_set 2 = .ok (.iconst 0, 1) := by decide +kernel
theorem d_M_set_3 : decode c_M_set 3 = .ok (.bipush 7, 2) := by decide +kernel
theorem d_M_set_5 : decode c_M_set 5 = .ok (.invokestatic 33, 3) := by decide +kernel
theorem d_M_set_8 : decode c_M_set 8 = .ok (.ifCond .ne 7, 3) := by decide +kernel
theorem d_M_set_11 : decode c_M_set 11 = .ok (.iconst 1, 1) := by decide +kernel
theorem d_M_set_12 : decode c_M_set 12 = .ok (.goto 4, 3) := by decide +kernel
theorem d_M_set_15 : decode c_M_set 15 = .ok (.iconst 0, 1) := by decide +kernel
theorem d_M_set_16 : decode c_M_set 16 = .ok (.iconst 0, 1) := by decide +kernel
theorem d_M_set_17 : decode c_M_set 17 = .ok (.invokevirtual 55, 3) := by decide +kernel
theorem d_M_set_20 : decode c_M_set 20 = .ok (.ifCond .eq 5, 3) := by decide +kernel
theorem d_M_set_23 : decode c_M_set 23 = .ok (.iconst 0, 1) := by decide +kernel
theorem d_M_set_24 : decode c_M_set 24 = .ok (.ireturn, 1) := by decide +kernel
theorem d_M_set_25 : decode c_M_set 25 = .ok (.aload_n 0, 1) := by decide +kernel
theorem d_M_set_26 : decode c_M_set 26 = .ok (.getfield 13, 3) := by decide +kernel
theorem d_M_set_29 : decode c_M_set 29 = .ok (.iload_n 1, 1) := by decide +kernel
theorem d_M_set_30 : decode c_M_set 30 = .ok (.iaload, 1) := by decide +kernel
theorem d_M_set_31 : decode c_M_set 31 = .ok (.istore_n 3, 1) := by decide +kernel
theorem d_M_set_32 : decode c_M_set 32 = .ok (.aload_n 0, 1) := by decide +kernel
theorem d_M_set_33 : decode c_M_set 33 = .ok (.getfield 13, 3) := by decide +kernel
theorem d_M_set_36 : decode c_M_set 36 = .ok (.iload_n 1, 1) := by decide +kernel
theorem d_M_set_37 : decode c_M_set 37 = .ok (.iload_n 2, 1) := by decide +kernel
theorem d_M_set_38 : decode c_M_set 38 = .ok (.iastore, 1) := by decide +kernel
theorem d_M_set_39 : decode c_M_set 39 = .ok (.iload_n 3, 1) := by decide +kernel
theorem d_M_set_40 : decode c_M_set 40 = .ok (.ireturn, 1) := by decide +kernel
theorem d_M_go_0 : decode c_M_go 0 = .ok (.aload_n 0, 1) := by decide +kernel
theorem d_M_go_1 : decode c_M_go 1 = .ok (.iload_n 1, 1) := by decide +kernel
theorem d_M_go_2 : decode c_M_go 2 = .ok (.invokestatic 51, 3) := by decide +kernel
theorem d_M_go_5 : decode c_M_go 5 = .ok (.ifCond .ne 7, 3) := by decide +kernel
theorem d_M_go_8 : decode c_M_go 8 = .ok (.iconst 1, 1) := by decide +kernel
theorem d_M_go_9 : decode c_M_go 9 = .ok (.goto 4, 3) := by decide +kernel
theorem d_M_go_12 : decode c_M_go 12 = .ok (.iconst 0, 1) := by decide +kernel
theorem d_M_go_13 : decode c_M_go 13 = .ok (.iconst 0, 1) := by decide +kernel
theorem d_M_go_14 : decode c_M_go 14 = .ok (.invokevirtual 55, 3) := by decide +kernel
theorem d_M_go_17 : decode c_M_go 17 = .ok (.ifCond .eq 5, 3) := by decide +kernel
theorem d_M_go_20 : decode c_M_go 20 = .ok (.iconst 0, 1) := by decide +kernel
theorem d_M_go_21 : decode c_M_go 21 = .ok (.ireturn, 1) := by decide +kernel
theorem d_M_go_22 : decode c_M_go 22 = .ok (.aload_n 0, 1) := by decide +kernel
theorem d_M_go_23 : decode c_M_go 23 = .ok (.getfield 63, 3) := by decide +kernel
theorem d_M_go_26 : decode c_M_go 26 = .ok (.istore_n 2, 1) := by decide +kernel
theorem d_M_go_27 : decode c_M_go 27 = .ok (.aload_n 0, 1) := by decide +kernel
theorem d_M_go_28 : decode c_M_go 28 = .ok (.iload_n 1, 1) := by decide +kernel
theorem d_M_go_29 : decode c_M_go 29 = .ok (.putfield 63, 3) := by decide +kernel
theorem d_M_go_32 : decode c_M_go 32 = .ok (.aload_n 0, 1) := by decide +kernel
theorem d_M_go_33 : decode c_M_go 33 = .ok (.iconst 0, 1) := by decide +kernel
theorem d_M_go_34 : decode c_M_go 34 = .ok (.putfield 66, 3) := by decide +kernel
theorem d_M_go_37 : decode c_M_go 37 = .ok (.iload_n 2, 1) := by decide +kernel
theorem d_M_go_38 : decode c_M_go 38 = .ok (.ireturn, 1) := by decide +kernel
theorem d_M_sizeOf_0 : decode c_M_sizeOf 0 = .ok (.iload_n 0, 1) := by decide +kernel
theorem d_M_sizeOf_1 : decode c_M_sizeOf 1 = .ok (.ifCond .eq 15, 3) := by decide +kernel
theorem d_M_sizeOf_4 : decode c_M_sizeOf 4 = .ok (.iload_n 0, 1) := by decide +kernel
theorem d_M_sizeOf_5 : decode c_M_sizeOf 5 = .ok (.bipush 10, 2) := by decide +kernel
theorem d_M_sizeOf_7 : decode c_M_sizeOf 7 = .ok (.if_icmp .eq 9, 3) := by decide +kernel
theorem d_M_sizeOf_10 : decode c_M_sizeOf 10 = .ok (.iload_n 0, 1) := by decide +kernel
theorem d_M_sizeOf_11 : decode c_M_sizeOf 11 = .ok (.bipush 11, 2) := by decide +kernel
theorem d_M_sizeOf_13 : decode c_M_sizeOf 13 = .ok (.if_icmp .le 7, 3) := by decide +kernel
theorem d_M_sizeOf_16 : decode c_M_sizeOf 16 = .ok (.iconst 1, 1) := by decide +kernel
theorem d_M_sizeOf_17 : decode c_M_sizeOf 17 = .ok (.goto 4, 3) := by decide +kernel
theorem d_M_sizeOf_20 : decode c_M_sizeOf 20 = .ok (.iconst 2, 1) := by decide +kernel
theorem d_M_sizeOf_21 : decode c_M_sizeOf 21 = .ok (.ireturn, 1) := by decide +kernel
theorem d_M_kindAt_0 : decode c_M_kindAt 0 = .ok (.iload_n 1, 1) := by decide +kernel
theorem d_M_kindAt_1 : decode c_M_kindAt 1 = .ok (.invokestatic 51, 3) := by decide +kernel
theorem d_M_kindAt_4 : decode c_M_kindAt 4 = .ok (.ifCond .eq 14, 3) := by decide +kernel
theorem d_M_kindAt_7 : decode c_M_kindAt 7 = .ok (.aload_n 0, 1) := by decide +kernel
theorem d_M_kindAt_8 : decode c_M_kindAt 8 = .ok (.getfield 7, 3) := by decide +kernel
theorem d_M_kindAt_11 : decode c_M_kindAt 11 = .ok (.iload_n 1, 1) := by decide +kernel
theorem d_M_kindAt_12 : decode c_M_kindAt 12 = .ok (.iaload, 1) := by decide +kernel
theorem d_M_kindAt_13 : decode c_M_kindAt 13 = .ok (.iconst 4, 1) := by decide +kernel
theorem d_M_kindAt_14 : decode c_M_kindAt 14 = .ok (.ishr, 1) := by decide +kernel
theorem d_M_kindAt_15 : decode c_M_kindAt 15 = .ok (.goto 4, 3) := by decide +kernel
theorem d_M_kindAt_18 : decode c_M_kindAt 18 = .ok (.iconst (-1), 1) := by decide +kernel
theorem d_M_kindAt_19 : decode c_M_kindAt 19 = .ok (.ireturn, 1) := by decide +kernel
theorem d_M_faultAt_0 : decode c_M_faultAt 0 = .ok (.aload_n 0, 1) := by decide +kernel
theorem d_M_faultAt_1 : decode c_M_faultAt 1 = .ok (.iload_n 1, 1) := by decide +kernel
theorem d_M_faultAt_2 : decode c_M_faultAt 2 = .ok (.invokevirtual 69, 3) := by decide +kernel
theorem d_M_faultAt_5 : decode c_M_faultAt 5 = .ok (.istore_n 2, 1) := by decide +kernel
theorem d_M_faultAt_6 : decode c_M_faultAt 6 = .ok (.iload_n 2, 1) := by decide +kernel
theorem d_M_faultAt_7 : decode c_M_faultAt 7 = .ok (.ifCond .ge 5, 3) := by decide +kernel
theorem d_M_faultAt_10 : decode c_M_faultAt 10 = .ok (.iconst 3, 1) := by decide +kernel
theorem d_M_faultAt_11 : decode c_M_faultAt 11 = .ok (.ireturn, 1) := by decide +kernel
theorem d_M_faultAt_12 : decode c_M_faultAt 12 = .ok (.iload_n 2, 1) := by decide +kernel
theorem d_M_faultAt_13 : decode c_M_faultAt 13 = .ok (.bipush 11, 2) := by decide +kernel
theorem d_M_faultAt_15 : decode c_M_faultAt 15 = .ok (.if_icmp .le 5, 3) := by decide +kernel
theorem d_M_faultAt_18 : decode c_M_faultAt 18 = .ok (.iconst 2, 1) := by decide +kernel
theorem d_M_faultAt_19 : decode c_M_faultAt 19 = .ok (.ireturn, 1) := by decide +kernel
theorem d_M_faultAt_20 : decode c_M_faultAt 20 = .ok (.iload_n 1, 1) := by decide +kernel
theorem d_M_faultAt_21 : decode c_M_faultAt 21 = .ok (.iload_n 2, 1) := by decide +kernel
theorem d_M_faultAt_22 : decode c_M_faultAt 22 = .ok (.invokestatic 73, 3) := by decide +kernel
theorem d_M_faultAt_25 : decode c_M_faultAt 25 = .ok (.iadd, 1) := by decide +kernel
theorem d_M_faultAt_26 : decode c_M_faultAt 26 = .ok (.iconst 1, 1) := by decide +kernel
theorem d_M_faultAt_27 : decode c_M_faultAt 27 = .ok (.isub, 1) := by decide +kernel
theorem d_M_faultAt_28 : decode c_M_faultAt 28 = .ok (.invokestatic 51, 3) := by decide +kernel
theorem d_M_faultAt_31 : decode c_M_faultAt 31 = .ok (.ifCond .eq 7, 3) := by decide +kernel
theorem d_M_faultAt_34 : decode c_M_faultAt 34 = .ok (.iconst 0, 1) := by decide +kernel
theorem d_M_faultAt_35 : decode c_M_faultAt 35 = .ok (.goto 4, 3) := by decide +kernel
theorem d_M_faultAt_38 : decode c_M_faultAt 38 = .ok (.iconst 3, 1) := by decide +kernel
theorem d_M_faultAt_39 : decode c_M_faultAt 39 = .ok (.ireturn, 1) := by decide +kernel
theorem d_M_make_0 : decode c_M_make 0 = .ok (.aload_n 0, 1) := by decide +kernel
theorem d_M_make_1 : decode c_M_make 1 = .ok (.getfield 63, 3) := by decide +kernel
theorem d_M_make_4 : decode c_M_make 4 = .ok (.istore_n 2, 1) := by decide +kernel
theorem d_M_make_5 : decode c_M_make 5 = .ok (.iconst 0, 1) := by decide +kernel
theorem d_M_make_6 : decode c_M_make 6 = .ok (.istore_n 3, 1) := by decide +kernel
theorem d_M_make_7 : decode c_M_make 7 = .ok (.iconst 1, 1) := by decide +kernel
theorem d_M_make_8 : decode c_M_make 8 = .ok (.istore 4, 2) := by decide +kernel
theorem d_M_make_10 : decode c_M_make 10 = .ok (.iload 4, 2) := by decide +kernel
theorem d_M_make_12 : decode c_M_make 12 = .ok (.ifCond .eq 66, 3) := by decide +kernel
theorem d_M_make_15 : decode c_M_make 15 = .ok (.iinc 3 1, 3) := by decide +kernel
theorem d_M_make_18 : decode c_M_make 18 = .ok (.aload_n 0, 1) := by decide +kernel
theorem d_M_make_19 : decode c_M_make 19 = .ok (.iload_n 2, 1) := by decide +kernel
theorem d_M_make_20 : decode c_M_make 20 = .ok (.invokevirtual 69, 3) := by decide +kernel
theorem d_M_make_23 : decode c_M_make 23 = .ok (.istore 5, 2) := by decide +kernel
theorem d_M_make_25 : decode c_M_make 25 = .ok (.iload_n 3, 1) := by decide +kernel
theorem d_M_make_26 : decode c_M_make 26 = .ok (.bipush 12, 2) := by decide +kernel
theorem d_M_make_28 : decode c_M_make 28 = .ok (.if_icmp .ge 27, 3) := by decide +kernel
theorem d_M_make_31 : decode c_M_make 31 = .ok (.iload 5, 2) := by decide +kernel
theorem d_M_make_33 : decode c_M_make 33 = .ok (.ifCond .eq 22, 3) := by decide +kernel
theorem d_M_make_36 : decode c_M_make 36 = .ok (.iload 5, 2) := by decide +kernel
theorem d_M_make_38 : decode c_M_make 38 = .ok (.bipush 7, 2) := by decide +kernel
theorem d_M_make_40 : decode c_M_make 40 = .ok (.if_icmp .eq 15, 3) := by decide +kernel
theorem d_M_make_43 : decode c_M_make 43 = .ok (.aload_n 0, 1) := by decide +kernel
theorem d_M_make_44 : decode c_M_make 44 = .ok (.iload_n 2, 1) := by decide +kernel
theorem d_M_make_45 : decode c_M_make 45 = .ok (.invokevirtual 76, 3) := by decide +kernel
theorem d_M_make_48 : decode c_M_make 48 = .ok (.ifCond .ne 7, 3) := by decide +kernel
theorem d_M_make_51 : decode c_M_make 51 = .ok (.iconst 1, 1) := by decide +kernel
theorem d_M_make_52 : decode c_M_make 52 = .ok (.goto 4, 3) := by decide +kernel
theorem d_M_make_55 : decode c_M_make 55 = .ok (.iconst 0, 1) := by decide +kernel
theorem d_M_make_56 : decode c_M_make 56 = .ok (.istore 4, 2) := by decide +kernel
theorem d_M_make_58 : decode c_M_make 58 = .ok (.iload_n 2, 1) := by decide +kernel
theorem d_M_make_59 : decode c_M_make 59 = .ok (.iload 5, 2) := by decide +kernel
theorem d_M_make_61 : decode c_M_make 61 = .ok (.ifCond .ge 7, 3) := by decide +kernel
theorem d_M_make_64 : decode c_M_make 64 = .ok (.iconst 0, 1) := by decide +kernel
theorem d_M_make_65 : decode c_M_make 65 = .ok (.goto 8, 3) := by decide +kernel
theorem d_M_make_68 : decode c_M_make 68 = .ok (.iload 5, 2) := by decide +kernel
theorem d_M_make_70 : decode c_M_make 70 = .ok (.invokestatic 73, 3) := by decide +kernel
theorem d_M_make_73 : decode c_M_make 73 = .ok (.iadd, 1) := by decide +kernel
theorem d_M_make_74 : decode c_M_make 74 = .ok (.istore_n 2, 1) := by decide +kernel
theorem d_M_make_75 : decode c_M_make 75 = .ok (.goto (-65), 3) := by decide +kernel
theorem d_M_make_78 : decode c_M_make 78 = .ok (.aload_n 0, 1) := by decide +kernel
theorem d_M_make_79 : decode c_M_make 79 = .ok (.getfield 16, 3) := by decide +kernel
theorem d_M_make_82 : decode c_M_make 82 = .ok (.iload_n 1, 1) := by decide +kernel
theorem d_M_make_83 : decode c_M_make 83 = .ok (.iconst 1, 1) := by decide +kernel
theorem d_M_make_84 : decode c_M_make 84 = .ok (.bastore, 1) := by decide +kernel
theorem d_M_make_85 : decode c_M_make 85 = .ok (.aload_n 0, 1) := by decide +kernel
theorem d_M_make_86 : decode c_M_make 86 = .ok (.getfield 20, 3) := by decide +kernel
theorem d_M_make_89 : decode c_M_make 89 = .ok (.iload_n 1, 1) := by decide +kernel
theorem d_M_make_90 : decode c_M_make 90 = .ok (.aload_n 0, 1) := by decide +kernel
theorem d_M_make_91 : decode c_M_make 91 = .ok (.getfield 63, 3) := by decide +kernel
theorem d_M_make_94 : decode c_M_make 94 = .ok (.iastore, 1) := by decide +kernel
theorem d_M_make_95 : decode c_M_make 95 = .ok (.aload_n 0, 1) := by decide +kernel
theorem d_M_make_96 : decode c_M_make 96 = .ok (.getfield 23, 3) := by decide +kernel
theorem d_M_make_99 : decode c_M_make 99 = .ok (.iload_n 1, 1) := by decide +kernel
theorem d_M_make_100 : decode c_M_make 100 = .ok (.iload_n 3, 1) := by decide +kernel
theorem d_M_make_101 : decode c_M_make 101 = .ok (.iastore, 1) := by decide +kernel
theorem d_M_make_102 : decode c_M_make 102 = .ok (.aload_n 0, 1) := by decide +kernel
theorem d_M_make_103 : decode c_M_make 103 = .ok (.getfield 26, 3) := by decide +kernel
theorem d_M_make_106 : decode c_M_make 106 = .ok (.iload_n 1, 1) := by decide +kernel
theorem d_M_make_107 : decode c_M_make 107 = .ok (.iload_n 2, 1) := by decide +kernel
theorem d_M_make_108 : decode c_M_make 108 = .ok (.sipush 1024, 3) := by decide +kernel
theorem d_M_make_111 : decode c_M_make 111 = .ok (.if_icmp .le 9, 3) := by decide +kernel
theorem d_M_make_114 : decode c_M_make 114 = .ok (.sipush 1024, 3) := by decide +kernel
theorem d_M_make_117 : decode c_M_make 117 = .ok (.goto 4, 3) := by decide +kernel
theorem d_M_make_120 : decode c_M_make 120 = .ok (.iload_n 2, 1) := by decide +kernel
theorem d_M_make_121 : decode c_M_make 121 = .ok (.aload_n 0, 1) := by decide +kernel
theorem d_M_make_122 : decode c_M_make 122 = .ok (.getfield 63, 3) := by decide +kernel
theorem d_M_make_125 : decode c_M_make 125 = .ok (.isub, 1) := by decide +kernel
theorem d_M_make_126 : decode c_M_make 126 = .ok (.iastore, 1) := by decide +kernel
theorem d_M_make_127 : decode c_M_make 127 = .ok (.aload_n 0, 1) := by decide +kernel
theorem d_M_make_128 : decode c_M_make 128 = .ok (.getfield 63, 3) := by decide +kernel
theorem d_M_make_131 : decode c_M_make 131 = .ok (.invokestatic 51, 3) := by decide +kernel
theorem d_M_make_134 : decode c_M_make 134 = .ok (.ifCond .ne 10, 3) := by decide +kernel
theorem d_M_make_137 : decode c_M_make 137 = .ok (.aload_n 0, 1) := by decide +kernel
theorem d_M_make_138 : decode c_M_make 138 = .ok (.getfield 26, 3) := by decide +kernel
theorem d_M_make_141 : decode c_M_make 141 = .ok (.iload_n 1, 1) := by decide +kernel
theorem d_M_make_142 : decode c_M_make 142 = .ok (.iconst 0, 1) := by decide +kernel
theorem d_M_make_143 : decode c_M_make 143 = .ok (.iastore, 1) := by decide +kernel
theorem d_M_make_144 : decode c_M_make 144 = .ok (.aload_n 0, 1) := by decide +kernel
theorem d_M_make_145 : decode c_M_make 145 = .ok (.dup, 1) := by decide +kernel
theorem d_M_make_146 : decode c_M_make 146 = .ok (.getfield 79, 3) := by decide +kernel
theorem d_M_make_149 : decode c_M_make 149 = .ok (.iconst 1, 1) := by decide +kernel
theorem d_M_make_150 : decode c_M_make 150 = .ok (.iadd, 1) := by decide +kernel
theorem d_M_make_151 : decode c_M_make 151 = .ok (.putfield 79, 3) := by decide +kernel
theorem d_M_make_154 : decode c_M_make 154 = .ok (.aload_n 0, 1) := by decide +kernel
theorem d_M_make_155 : decode c_M_make 155 = .ok (.dup, 1) := by decide +kernel
theorem d_M_make_156 : decode c_M_make 156 = .ok (.getfield 82, 3) := by decide +kernel
theorem d_M_make_159 : decode c_M_make 159 = .ok (.iload_n 3, 1) := by decide +kernel
theorem d_M_make_160 : decode c_M_make 160 = .ok (.iadd, 1) := by decide +kernel
theorem d_M_make_161 : decode c_M_make 161 = .ok (.putfield 82, 3) := by decide +kernel
theorem d_M_make_164 : decode c_M_make 164 = .ok (.return_, 1) := by decide +kernel
theorem d_M_find_0 : decode c_M_find 0 = .ok (.aload_n 0, 1) := by decide +kernel
theorem d_M_find_1 : decode c_M_find 1 = .ok (.aload_n 0, 1) := by decide +kernel
theorem d_M_find_2 : decode c_M_find 2 = .ok (.getfield 63, 3) := by decide +kernel
theorem d_M_find_5 : decode c_M_find 5 = .ok (.bipush 31, 2) := by decide +kernel
theorem d_M_find_7 : decode c_M_find 7 = .ok (.iand, 1) := by decide +kernel
theorem d_M_find_8 : decode c_M_find 8 = .ok (.putfield 48, 3) := by decide +kernel
theorem d_M_find_11 : decode c_M_find 11 = .ok (.aload_n 0, 1) := by decide +kernel
theorem d_M_find_12 : decode c_M_find 12 = .ok (.getfield 16, 3) := by decide +kernel
theorem d_M_find_15 : decode c_M_find 15 = .ok (.aload_n 0, 1) := by decide +kernel
theorem d_M_find_16 : decode c_M_find 16 = .ok (.getfield 48, 3) := by decide +kernel
theorem d_M_find_19 : decode c_M_find 19 = .ok (.baload, 1) := by decide +kernel
theorem d_M_find_20 : decode c_M_find 20 = .ok (.ifCond .eq 32, 3) := by decide +kernel
theorem d_M_find_23 : decode c_M_find 23 = .ok (.aload_n 0, 1) := by decide +kernel
theorem d_M_find_24 : decode c_M_find 24 = .ok (.getfield 20, 3) := by decide +kernel
theorem d_M_find_27 : decode c_M_find 27 = .ok (.aload_n 0, 1) := by decide +kernel
theorem d_M_find_28 : decode c_M_find 28 = .ok (.getfield 48, 3) := by decide +kernel
theorem d_M_find_31 : decode c_M_find 31 = .ok (.iaload, 1) := by decide +kernel
theorem d_M_find_32 : decode c_M_find 32 = .ok (.aload_n 0, 1) := by decide +kernel
theorem d_M_find_33 : decode c_M_find 33 = .ok (.getfield 63, 3) := by decide +kernel
theorem d_M_find_36 : decode c_M_find 36 = .ok (.if_icmp .ne 16, 3) := by decide +kernel
theorem d_M_find_39 : decode c_M_find 39 = .ok (.aload_n 0, 1) := by decide +kernel
theorem d_M_find_40 : decode c_M_find 40 = .ok (.dup, 1) := by decide +kernel
theorem d_M_find_41 : decode c_M_find 41 = .ok (.getfield 85, 3) := by decide +kernel
theorem d_M_find_44 : decode c_M_find 44 = .ok (.iconst 1, 1) := by decide +kernel
theorem d_M_find_45 : decode c_M_find 45 = .ok (.iadd, 1) := by decide +kernel
theorem d_M_find_46 : decode c_M_find 46 = .ok (.putfield 85, 3) := by decide +kernel
theorem d_M_find_49 : decode c_M_find 49 = .ok (.goto 11, 3) := by decide +kernel
theorem d_M_find_52 : decode c_M_find 52 = .ok (.aload_n 0, 1) := by decide +kernel
theorem d_M_find_53 : decode c_M_find 53 = .ok (.aload_n 0, 1) := by decide +kernel
theorem d_M_find_54 : decode c_M_find 54 = .ok (.getfield 48, 3) := by decide +kernel
theorem d_M_find_57 : decode c_M_find 57 = .ok (.invokevirtual 88, 3) := by decide +kernel
theorem d_M_find_60 : decode c_M_find 60 = .ok (.return_, 1) := by decide +kernel
theorem d_M_become_0 : decode c_M_become 0 = .ok (.aload_n 0, 1) := by decide +kernel
theorem d_M_become_1 : decode c_M_become 1 = .ok (.getfield 13, 3) := by decide +kernel
theorem d_M_become_4 : decode c_M_become 4 = .ok (.iload_n 1, 1) := by decide +kernel
theorem d_M_become_5 : decode c_M_become 5 = .ok (.iload_n 2, 1) := by decide +kernel
theorem d_M_become_6 : decode c_M_become 6 = .ok (.iastore, 1) := by decide +kernel
theorem d_M_become_7 : decode c_M_become 7 = .ok (.aload_n 0, 1) := by decide +kernel
theorem d_M_become_8 : decode c_M_become 8 = .ok (.iload_n 2, 1) := by decide +kernel
theorem d_M_become_9 : decode c_M_become 9 = .ok (.ifCond .ne 7, 3) := by decide +kernel
theorem d_M_become_12 : decode c_M_become 12 = .ok (.iconst 1, 1) := by decide +kernel
theorem d_M_become_13 : decode c_M_become 13 = .ok (.goto 4, 3) := by decide +kernel
theorem d_M_become_16 : decode c_M_become 16 = .ok (.iconst 0, 1) := by decide +kernel
theorem d_M_become_17 : decode c_M_become 17 = .ok (.putfield 91, 3) := by decide +kernel
theorem d_M_become_20 : decode c_M_become 20 = .ok (.aload_n 0, 1) := by decide +kernel
theorem d_M_become_21 : decode c_M_become 21 = .ok (.iload_n 2, 1) := by decide +kernel
theorem d_M_become_22 : decode c_M_become 22 = .ok (.ifCond .ge 7, 3) := by decide +kernel
theorem d_M_become_25 : decode c_M_become 25 = .ok (.iconst 1, 1) := by decide +kernel
theorem d_M_become_26 : decode c_M_become 26 = .ok (.goto 4, 3) := by decide +kernel
theorem d_M_become_29 : decode c_M_become 29 = .ok (.iconst 0, 1) := by decide +kernel
theorem d_M_become_30 : decode c_M_become 30 = .ok (.putfield 94, 3) := by decide +kernel
theorem d_M_become_33 : decode c_M_become 33 = .ok (.return_, 1) := by decide +kernel
theorem d_M_holds_0 : decode c_M_holds 0 = .ok (.iload_n 1, 1) := by decide +kernel
theorem d_M_holds_1 : decode c_M_holds 1 = .ok (.tableswitch 73 0 4 #[35, 37, 42, 55, 60], 35) := by decide +kernel
theorem d_M_holds_36 : decode c_M_holds 36 = .ok (.iconst 1, 1) := by decide +kernel
theorem d_M_holds_37 : decode c_M_holds 37 = .ok (.ireturn, 1) := by decide +kernel
theorem d_M_holds_38 : decode c_M_holds 38 = .ok (.aload_n 0, 1) := by decide +kernel
theorem d_M_holds_39 : decode c_M_holds 39 = .ok (.getfield 91, 3) := by decide +kernel
theorem d_M_holds_42 : decode c_M_holds 42 = .ok (.ireturn, 1) := by decide +kernel
theorem d_M_holds_43 : decode c_M_holds 43 = .ok (.aload_n 0, 1) := by decide +kernel
theorem d_M_holds_44 : decode c_M_holds 44 = .ok (.getfield 91, 3) := by decide +kernel
theorem d_M_holds_47 : decode c_M_holds 47 = .ok (.ifCond .ne 7, 3) := by decide +kernel
theorem d_M_holds_50 : decode c_M_holds 50 = .ok (.iconst 1, 1) := by decide +kernel
theorem d_M_holds_51 : decode c_M_holds 51 = .ok (.goto 4, 3) := by decide +kernel
theorem d_M_holds_54 : decode c_M_holds 54 = .ok (.iconst 0, 1) := by decide +kernel
theorem d_M_holds_55 : decode c_M_holds 55 = .ok (.ireturn, 1) := by decide +kernel
theorem d_M_holds_56 : decode c_M_holds 56 = .ok (.aload_n 0, 1) := by decide +kernel
theorem d_M_holds_57 : decode c_M_holds 57 = .ok (.getfield 94, 3) := by decide +kernel
theorem d_M_holds_60 : decode c_M_holds 60 = .ok (.ireturn, 1) := by decide +kernel
theorem d_M_holds_61 : decode c_M_holds 61 = .ok (.aload_n 0, 1) := by decide +kernel
theorem d_M_holds_62 : decode c_M_holds 62 = .ok (.getfield 94, 3) := by decide +kernel
theorem d_M_holds_65 : decode c_M_holds 65 = .ok (.ifCond .ne 7, 3) := by decide +kernel
theorem d_M_holds_68 : decode c_M_holds 68 = .ok (.iconst 1, 1) := by decide +kernel
theorem d_M_holds_69 : decode c_M_holds 69 = .ok (.goto 4, 3) := by decide +kernel
theorem d_M_holds_72 : decode c_M_holds 72 = .ok (.iconst 0, 1) := by decide +kernel
theorem d_M_holds_73 : decode c_M_holds 73 = .ok (.ireturn, 1) := by decide +kernel
theorem d_M_holds_74 : decode c_M_holds 74 = .ok (.iconst 0, 1) := by decide +kernel
theorem d_M_holds_75 : decode c_M_holds 75 = .ok (.ireturn, 1) := by decide +kernel
theorem d_M_fault_0 : decode c_M_fault 0 = .ok (.aload_n 0, 1) := by decide +kernel
theorem d_M_fault_1 : decode c_M_fault 1 = .ok (.iconst 1, 1) := by decide +kernel
theorem d_M_fault_2 : decode c_M_fault 2 = .ok (.iload_n 1, 1) := by decide +kernel
theorem d_M_fault_3 : decode c_M_fault 3 = .ok (.iadd, 1) := by decide +kernel
theorem d_M_fault_4 : decode c_M_fault 4 = .ok (.putfield 66, 3) := by decide +kernel
theorem d_M_fault_7 : decode c_M_fault 7 = .ok (.return_, 1) := by decide +kernel
theorem d_M_does_0 : decode c_M_does 0 = .ok (.aload_n 0, 1) := by decide +kernel
theorem d_M_does_1 : decode c_M_does 1 = .ok (.aload_n 0, 1) := by decide +kernel
theorem d_M_does_2 : decode c_M_does 2 = .ok (.getfield 63, 3) := by decide +kernel
theorem d_M_does_5 : decode c_M_does 5 = .ok (.invokevirtual 76, 3) := by decide +kernel
theorem d_M_does_8 : decode c_M_does 8 = .ok (.istore_n 1, 1) := by decide +kernel
theorem d_M_does_9 : decode c_M_does 9 = .ok (.iload_n 1, 1) := by decide +kernel
theorem d_M_does_10 : decode c_M_does 10 = .ok (.ifCond .le 10, 3) := by decide +kernel
theorem d_M_does_13 : decode c_M_does 13 = .ok (.aload_n 0, 1) := by decide +kernel
theorem d_M_does_14 : decode c_M_does 14 = .ok (.iload_n 1, 1) := by decide +kernel
theorem d_M_does_15 : decode c_M_does 15 = .ok (.invokevirtual 97, 3) := by decide +kernel
theorem d_M_does_18 : decode c_M_does 18 = .ok (.iconst 0, 1) := by decide +kernel
theorem d_M_does_19 : decode c_M_does 19 = .ok (.ireturn, 1) := by decide +kernel
theorem d_M_does_20 : decode c_M_does 20 = .ok (.aload_n 0, 1) := by decide +kernel
theorem d_M_does_21 : decode c_M_does 21 = .ok (.aload_n 0, 1) := by decide +kernel
theorem d_M_does_22 : decode c_M_does 22 = .ok (.getfield 63, 3) := by decide +kernel
theorem d_M_does_25 : decode c_M_does 25 = .ok (.invokevirtual 69, 3) := by decide +kernel
theorem d_M_does_28 : decode c_M_does 28 = .ok (.istore_n 2, 1) := by decide +kernel
theorem d_M_does_29 : decode c_M_does 29 = .ok (.aload_n 0, 1) := by decide +kernel
theorem d_M_does_30 : decode c_M_does 30 = .ok (.getfield 7, 3) := by decide +kernel
theorem d_M_does_33 : decode c_M_does 33 = .ok (.aload_n 0, 1) := by decide +kernel
theorem d_M_does_34 : decode c_M_does 34 = .ok (.getfield 63, 3) := by decide +kernel
theorem d_M_does_37 : decode c_M_does 37 = .ok (.iaload, 1) := by decide +kernel
theorem d_M_does_38 : decode c_M_does 38 = .ok (.bipush 7, 2) := by decide +kernel
theorem d_M_does_40 : decode c_M_does 40 = .ok (.iand, 1) := by decide +kernel
theorem d_M_does_41 : decode c_M_does 41 = .ok (.istore_n 3, 1) := by decide +kernel
theorem d_M_does_42 : decode c_M_does 42 = .ok (.iload_n 2, 1) := by decide +kernel
theorem d_M_does_43 : decode c_M_does 43 = .ok (.invokestatic 73, 3) := by decide +kernel
theorem d_M_does_46 : decode c_M_does 46 = .ok (.iconst 2, 1) := by decide +kernel
theorem d_M_does_47 : decode c_M_does 47 = .ok (.if_icmp .ne 17, 3) := by decide +kernel
theorem d_M_does_50 : decode c_M_does 50 = .ok (.aload_n 0, 1) := by decide +kernel
theorem d_M_does_51 : decode c_M_does 51 = .ok (.getfield 7, 3) := by decide +kernel
theorem d_M_does_54 : decode c_M_does 54 = .ok (.aload_n 0, 1) := by decide +kernel
theorem d_M_does_55 : decode c_M_does 55 = .ok (.getfield 63, 3) := by decide +kernel
theorem d_M_does_58 : decode c_M_does 58 = .ok (.iconst 1, 1) := by decide +kernel
theorem d_M_does_59 : decode c_M_does 59 = .ok (.iadd, 1) := by decide +kernel
theorem d_M_does_60 : decode c_M_does 60 = .ok (.iaload, 1) := by decide +kernel
theorem d_M_does_61 : decode c_M_does 61 = .ok (.goto 4, 3) := by decide +kernel
theorem d_M_does_64 : decode c_M_does 64 = .ok (.iconst 0, 1) := by decide +kernel
theorem d_M_does_65 : decode c_M_does 65 = .ok (.istore 4, 2) := by decide +kernel
theorem d_M_does_67 : decode c_M_does 67 = .ok (.aload_n 0, 1) := by decide +kernel
theorem d_M_does_68 : decode c_M_does 68 = .ok (.getfield 13, 3) := by decide +kernel
theorem d_M_does_71 : decode c_M_does 71 = .ok (.iload 4, 2) := by decide +kernel
theorem d_M_does_73 : decode c_M_does 73 = .ok (.bipush 7, 2) := by decide +kernel
theorem d_M_does_75 : decode c_M_does 75 = .ok (.iand, 1) := by decide +kernel
theorem d_M_does_76 : decode c_M_does 76 = .ok (.iaload, 1) := by decide +kernel
theorem d_M_does_77 : decode c_M_does 77 = .ok (.istore 5, 2) := by decide +kernel
theorem d_M_does_79 : decode c_M_does 79 = .ok (.iload_n 2, 1) := by decide +kernel
theorem d_M_does_80 : decode c_M_does 80 = .ok (.ifCond .ne 10, 3) := by decide +kernel
end
section
theorem d_M_does_83 : decode c_M_does 83 = .ok (.aload_n 0, 1) := by decide +kernel
theorem d_M_does_84 : decode c_M_does 84 = .ok (.iconst 1, 1) := by decide +kernel
theorem d_M_does_85 : decode c_M_does 85 = .ok (.putfield 66, 3) := by decide +kernel
theorem d_M_does_88 : decode c_M_does 88 = .ok (.iconst 0, 1) := by decide +kernel
theorem d_M_does_89 : decode c_M_does 89 = .ok (.ireturn, 1) := by decide +kernel
theorem d_M_does_90 : decode c_M_does 90 = .ok (.iload_n 2, 1) := by decide +kernel
theorem d_M_does_91 : decode c_M_does 91 = .ok (.iconst 4, 1) := by decide +kernel
theorem d_M_does_92 : decode c_M_does 92 = .ok (.if_icmp .eq 8, 3) := by decide +kernel
theorem d_M_does_95 : decode c_M_does 95 = .ok (.iload_n 2, 1) := by decide +kernel
theorem d_M_does_96 : decode c_M_does 96 = .ok (.iconst 5, 1) := by decide +kernel
theorem d_M_does_97 : decode c_M_does 97 = .ok (.if_icmp .ne 18, 3) := by decide +kernel
theorem d_M_does_100 : decode c_M_does 100 = .ok (.iload 5, 2) := by decide +kernel
theorem d_M_does_102 : decode c_M_does 102 = .ok (.invokestatic 51, 3) := by decide +kernel
theorem d_M_does_105 : decode c_M_does 105 = .ok (.ifCond .ne 10, 3) := by decide +kernel
theorem d_M_does_108 : decode c_M_does 108 = .ok (.aload_n 0, 1) := by decide +kernel
theorem d_M_does_109 : decode c_M_does 109 = .ok (.iconst 1, 1) := by decide +kernel
theorem d_M_does_110 : decode c_M_does 110 = .ok (.invokevirtual 97, 3) := by decide +kernel
theorem d_M_does_113 : decode c_M_does 113 = .ok (.iconst 0, 1) := by decide +kernel
theorem d_M_does_114 : decode c_M_does 114 = .ok (.ireturn, 1) := by decide +kernel
theorem d_M_does_115 : decode c_M_does 115 = .ok (.iload 4, 2) := by decide +kernel
theorem d_M_does_117 : decode c_M_does 117 = .ok (.bipush 127, 2) := by decide +kernel
theorem d_M_does_119 : decode c_M_does 119 = .ok (.if_icmp .le 12, 3) := by decide +kernel
theorem d_M_does_122 : decode c_M_does 122 = .ok (.iload 4, 2) := by decide +kernel
theorem d_M_does_124 : decode c_M_does 124 = .ok (.sipush 256, 3) := by decide +kernel
theorem d_M_does_127 : decode c_M_does 127 = .ok (.isub, 1) := by decide +kernel
theorem d_M_does_128 : decode c_M_does 128 = .ok (.goto 5, 3) := by decide +kernel
theorem d_M_does_131 : decode c_M_does 131 = .ok (.iload 4, 2) := by decide +kernel
theorem d_M_does_133 : decode c_M_does 133 = .ok (.istore 6, 2) := by decide +kernel
theorem d_M_does_135 : decode c_M_does 135 = .ok (.aload_n 0, 1) := by decide +kernel
theorem d_M_does_136 : decode c_M_does 136 = .ok (.getfield 7, 3) := by decide +kernel
theorem d_M_does_139 : decode c_M_does 139 = .ok (.aload_n 0, 1) := by decide +kernel
theorem d_M_does_140 : decode c_M_does 140 = .ok (.getfield 63, 3) := by decide +kernel
theorem d_M_does_143 : decode c_M_does 143 = .ok (.iaload, 1) := by decide +kernel
theorem d_M_does_144 : decode c_M_does 144 = .ok (.bipush 15, 2) := by decide +kernel
theorem d_M_does_146 : decode c_M_does 146 = .ok (.iand, 1) := by decide +kernel
theorem d_M_does_147 : decode c_M_does 147 = .ok (.istore 7, 2) := by decide +kernel
theorem d_M_does_149 : decode c_M_does 149 = .ok (.aload_n 0, 1) := by decide +kernel
theorem d_M_does_150 : decode c_M_does 150 = .ok (.dup, 1) := by decide +kernel
theorem d_M_does_151 : decode c_M_does 151 = .ok (.getfield 63, 3) := by decide +kernel
theorem d_M_does_154 : decode c_M_does 154 = .ok (.iload_n 2, 1) := by decide +kernel
theorem d_M_does_155 : decode c_M_does 155 = .ok (.invokestatic 73, 3) := by decide +kernel
theorem d_M_does_158 : decode c_M_does 158 = .ok (.iadd, 1) := by decide +kernel
theorem d_M_does_159 : decode c_M_does 159 = .ok (.putfield 63, 3) := by decide +kernel
theorem d_M_does_162 : decode c_M_does 162 = .ok (.iload_n 2, 1) := by decide +kernel
theorem d_M_does_163 : decode c_M_does 163 = .ok (.bipush 7, 2) := by decide +kernel
theorem d_M_does_165 : decode c_M_does 165 = .ok (.if_icmp .ne 30, 3) := by decide +kernel
theorem d_M_does_168 : decode c_M_does 168 = .ok (.aload_n 0, 1) := by decide +kernel
theorem d_M_does_169 : decode c_M_does 169 = .ok (.dup, 1) := by decide +kernel
theorem d_M_does_170 : decode c_M_does 170 = .ok (.getfield 63, 3) := by decide +kernel
theorem d_M_does_173 : decode c_M_does 173 = .ok (.aload_n 0, 1) := by decide +kernel
theorem d_M_does_174 : decode c_M_does 174 = .ok (.iload 7, 2) := by decide +kernel
theorem d_M_does_176 : decode c_M_does 176 = .ok (.invokevirtual 100, 3) := by decide +kernel
theorem d_M_does_179 : decode c_M_does 179 = .ok (.ifCond .eq 8, 3) := by decide +kernel
theorem d_M_does_182 : decode c_M_does 182 = .ok (.iload 6, 2) := by decide +kernel
theorem d_M_does_184 : decode c_M_does 184 = .ok (.goto 4, 3) := by decide +kernel
theorem d_M_does_187 : decode c_M_does 187 = .ok (.iconst 0, 1) := by decide +kernel
theorem d_M_does_188 : decode c_M_does 188 = .ok (.iadd, 1) := by decide +kernel
theorem d_M_does_189 : decode c_M_does 189 = .ok (.putfield 63, 3) := by decide +kernel
theorem d_M_does_192 : decode c_M_does 192 = .ok (.goto 13, 3) := by decide +kernel
theorem d_M_does_195 : decode c_M_does 195 = .ok (.aload_n 0, 1) := by decide +kernel
theorem d_M_does_196 : decode c_M_does 196 = .ok (.iload_n 2, 1) := by decide +kernel
theorem d_M_does_197 : decode c_M_does 197 = .ok (.iload_n 3, 1) := by decide +kernel
theorem d_M_does_198 : decode c_M_does 198 = .ok (.iload 5, 2) := by decide +kernel
theorem d_M_does_200 : decode c_M_does 200 = .ok (.iload 6, 2) := by decide +kernel
theorem d_M_does_202 : decode c_M_does 202 = .ok (.invokevirtual 103, 3) := by decide +kernel
theorem d_M_does_205 : decode c_M_does 205 = .ok (.iconst 1, 1) := by decide +kernel
theorem d_M_does_206 : decode c_M_does 206 = .ok (.ireturn, 1) := by decide +kernel
theorem d_M_work_0 : decode c_M_work 0 = .ok (.aload_n 0, 1) := by decide +kernel
theorem d_M_work_1 : decode c_M_work 1 = .ok (.getfield 13, 3) := by decide +kernel
theorem d_M_work_4 : decode c_M_work 4 = .ok (.iload_n 2, 1) := by decide +kernel
theorem d_M_work_5 : decode c_M_work 5 = .ok (.iaload, 1) := by decide +kernel
theorem d_M_work_6 : decode c_M_work 6 = .ok (.istore 5, 2) := by decide +kernel
theorem d_M_work_8 : decode c_M_work 8 = .ok (.iload_n 1, 1) := by decide +kernel
theorem d_M_work_9 : decode c_M_work 9 = .ok (.tableswitch 175 1 10 #[55, 66, 78, 90, 105, 129, 175, 141, 151, 163], 55) := by decide +kernel
theorem d_M_work_64 : decode c_M_work 64 = .ok (.aload_n 0, 1) := by decide +kernel
theorem d_M_work_65 : decode c_M_work 65 = .ok (.getfield 13, 3) := by decide +kernel
theorem d_M_work_68 : decode c_M_work 68 = .ok (.iload_n 2, 1) := by decide +kernel
theorem d_M_work_69 : decode c_M_work 69 = .ok (.iload 4, 2) := by decide +kernel
theorem d_M_work_71 : decode c_M_work 71 = .ok (.iastore, 1) := by decide +kernel
theorem d_M_work_72 : decode c_M_work 72 = .ok (.goto 129, 3) := by decide +kernel
theorem d_M_work_75 : decode c_M_work 75 = .ok (.aload_n 0, 1) := by decide +kernel
theorem d_M_work_76 : decode c_M_work 76 = .ok (.iload_n 2, 1) := by decide +kernel
theorem d_M_work_77 : decode c_M_work 77 = .ok (.iload 5, 2) := by decide +kernel
theorem d_M_work_79 : decode c_M_work 79 = .ok (.iload_n 3, 1) := by decide +kernel
theorem d_M_work_80 : decode c_M_work 80 = .ok (.iadd, 1) := by decide +kernel
theorem d_M_work_81 : decode c_M_work 81 = .ok (.invokevirtual 107, 3) := by decide +kernel
theorem d_M_work_84 : decode c_M_work 84 = .ok (.goto 117, 3) := by decide +kernel
theorem d_M_work_87 : decode c_M_work 87 = .ok (.aload_n 0, 1) := by decide +kernel
theorem d_M_work_88 : decode c_M_work 88 = .ok (.iload_n 2, 1) := by decide +kernel
theorem d_M_work_89 : decode c_M_work 89 = .ok (.iload 5, 2) := by decide +kernel
theorem d_M_work_91 : decode c_M_work 91 = .ok (.iload_n 3, 1) := by decide +kernel
theorem d_M_work_92 : decode c_M_work 92 = .ok (.isub, 1) := by decide +kernel
theorem d_M_work_93 : decode c_M_work 93 = .ok (.invokevirtual 107, 3) := by decide +kernel
theorem d_M_work_96 : decode c_M_work 96 = .ok (.goto 105, 3) := by decide +kernel
theorem d_M_work_99 : decode c_M_work 99 = .ok (.aload_n 0, 1) := by decide +kernel
theorem d_M_work_100 : decode c_M_work 100 = .ok (.getfield 13, 3) := by decide +kernel
theorem d_M_work_103 : decode c_M_work 103 = .ok (.iload_n 2, 1) := by decide +kernel
theorem d_M_work_104 : decode c_M_work 104 = .ok (.aload_n 0, 1) := by decide +kernel
theorem d_M_work_105 : decode c_M_work 105 = .ok (.getfield 7, 3) := by decide +kernel
theorem d_M_work_108 : decode c_M_work 108 = .ok (.iload_n 3, 1) := by decide +kernel
theorem d_M_work_109 : decode c_M_work 109 = .ok (.iaload, 1) := by decide +kernel
theorem d_M_work_110 : decode c_M_work 110 = .ok (.iastore, 1) := by decide +kernel
theorem d_M_work_111 : decode c_M_work 111 = .ok (.goto 90, 3) := by decide +kernel
theorem d_M_work_114 : decode c_M_work 114 = .ok (.aload_n 0, 1) := by decide +kernel
theorem d_M_work_115 : decode c_M_work 115 = .ok (.dup, 1) := by decide +kernel
theorem d_M_work_116 : decode c_M_work 116 = .ok (.getfield 110, 3) := by decide +kernel
theorem d_M_work_119 : decode c_M_work 119 = .ok (.iconst 1, 1) := by decide +kernel
theorem d_M_work_120 : decode c_M_work 120 = .ok (.iadd, 1) := by decide +kernel
theorem d_M_work_121 : decode c_M_work 121 = .ok (.putfield 110, 3) := by decide +kernel
theorem d_M_work_124 : decode c_M_work 124 = .ok (.aload_n 0, 1) := by decide +kernel
theorem d_M_work_125 : decode c_M_work 125 = .ok (.iload_n 3, 1) := by decide +kernel
theorem d_M_work_126 : decode c_M_work 126 = .ok (.iload 5, 2) := by decide +kernel
theorem d_M_work_128 : decode c_M_work 128 = .ok (.sipush 255, 3) := by decide +kernel
theorem d_M_work_131 : decode c_M_work 131 = .ok (.iand, 1) := by decide +kernel
theorem d_M_work_132 : decode c_M_work 132 = .ok (.invokevirtual 59, 3) := by decide +kernel
theorem d_M_work_135 : decode c_M_work 135 = .ok (.goto 66, 3) := by decide +kernel
theorem d_M_work_138 : decode c_M_work 138 = .ok (.aload_n 0, 1) := by decide +kernel
theorem d_M_work_139 : decode c_M_work 139 = .ok (.iload_n 2, 1) := by decide +kernel
theorem d_M_work_140 : decode c_M_work 140 = .ok (.iload 5, 2) := by decide +kernel
theorem d_M_work_142 : decode c_M_work 142 = .ok (.iload_n 3, 1) := by decide +kernel
theorem d_M_work_143 : decode c_M_work 143 = .ok (.iand, 1) := by decide +kernel
theorem d_M_work_144 : decode c_M_work 144 = .ok (.invokevirtual 107, 3) := by decide +kernel
theorem d_M_work_147 : decode c_M_work 147 = .ok (.goto 54, 3) := by decide +kernel
theorem d_M_work_150 : decode c_M_work 150 = .ok (.aload_n 0, 1) := by decide +kernel
theorem d_M_work_151 : decode c_M_work 151 = .ok (.getfield 13, 3) := by decide +kernel
theorem d_M_work_154 : decode c_M_work 154 = .ok (.iload_n 2, 1) := by decide +kernel
theorem d_M_work_155 : decode c_M_work 155 = .ok (.iload_n 3, 1) := by decide +kernel
theorem d_M_work_156 : decode c_M_work 156 = .ok (.iastore, 1) := by decide +kernel
theorem d_M_work_157 : decode c_M_work 157 = .ok (.goto 44, 3) := by decide +kernel
theorem d_M_work_160 : decode c_M_work 160 = .ok (.aload_n 0, 1) := by decide +kernel
theorem d_M_work_161 : decode c_M_work 161 = .ok (.iload_n 2, 1) := by decide +kernel
theorem d_M_work_162 : decode c_M_work 162 = .ok (.iload 5, 2) := by decide +kernel
theorem d_M_work_164 : decode c_M_work 164 = .ok (.iload_n 3, 1) := by decide +kernel
theorem d_M_work_165 : decode c_M_work 165 = .ok (.imul, 1) := by decide +kernel
theorem d_M_work_166 : decode c_M_work 166 = .ok (.invokevirtual 107, 3) := by decide +kernel
theorem d_M_work_169 : decode c_M_work 169 = .ok (.goto 32, 3) := by decide +kernel
theorem d_M_work_172 : decode c_M_work 172 = .ok (.aload_n 0, 1) := by decide +kernel
theorem d_M_work_173 : decode c_M_work 173 = .ok (.iload_n 2, 1) := by decide +kernel
theorem d_M_work_174 : decode c_M_work 174 = .ok (.iload 5, 2) := by decide +kernel
theorem d_M_work_176 : decode c_M_work 176 = .ok (.iconst 1, 1) := by decide +kernel
theorem d_M_work_177 : decode c_M_work 177 = .ok (.ishr, 1) := by decide +kernel
theorem d_M_work_178 : decode c_M_work 178 = .ok (.invokevirtual 107, 3) := by decide +kernel
theorem d_M_work_181 : decode c_M_work 181 = .ok (.goto 20, 3) := by decide +kernel
theorem d_M_work_184 : decode c_M_work 184 = .ok (.aload_n 0, 1) := by decide +kernel
theorem d_M_work_185 : decode c_M_work 185 = .ok (.iload_n 2, 1) := by decide +kernel
theorem d_M_work_186 : decode c_M_work 186 = .ok (.iload 5, 2) := by decide +kernel
theorem d_M_work_188 : decode c_M_work 188 = .ok (.iload_n 3, 1) := by decide +kernel
theorem d_M_work_189 : decode c_M_work 189 = .ok (.isub, 1) := by decide +kernel
theorem d_M_work_190 : decode c_M_work 190 = .ok (.invokevirtual 107, 3) := by decide +kernel
theorem d_M_work_193 : decode c_M_work 193 = .ok (.aload_n 0, 1) := by decide +kernel
theorem d_M_work_194 : decode c_M_work 194 = .ok (.getfield 13, 3) := by decide +kernel
theorem d_M_work_197 : decode c_M_work 197 = .ok (.iload_n 2, 1) := by decide +kernel
theorem d_M_work_198 : decode c_M_work 198 = .ok (.iload 5, 2) := by decide +kernel
theorem d_M_work_200 : decode c_M_work 200 = .ok (.iastore, 1) := by decide +kernel
theorem d_M_work_201 : decode c_M_work 201 = .ok (.return_, 1) := by decide +kernel
theorem d_M_run_0 : decode c_M_run 0 = .ok (.aload_n 0, 1) := by decide +kernel
theorem d_M_run_1 : decode c_M_run 1 = .ok (.iload_n 1, 1) := by decide +kernel
theorem d_M_run_2 : decode c_M_run 2 = .ok (.iconst 1, 1) := by decide +kernel
theorem d_M_run_3 : decode c_M_run 3 = .ok (.bipush 100, 2) := by decide +kernel
theorem d_M_run_5 : decode c_M_run 5 = .ok (.invokestatic 33, 3) := by decide +kernel
theorem d_M_run_8 : decode c_M_run 8 = .ok (.ifCond .ne 7, 3) := by decide +kernel
theorem d_M_run_11 : decode c_M_run 11 = .ok (.iconst 1, 1) := by decide +kernel
theorem d_M_run_12 : decode c_M_run 12 = .ok (.goto 4, 3) := by decide +kernel
theorem d_M_run_15 : decode c_M_run 15 = .ok (.iconst 0, 1) := by decide +kernel
theorem d_M_run_16 : decode c_M_run 16 = .ok (.iconst 0, 1) := by decide +kernel
theorem d_M_run_17 : decode c_M_run 17 = .ok (.invokevirtual 55, 3) := by decide +kernel
theorem d_M_run_20 : decode c_M_run 20 = .ok (.ifCond .eq 5, 3) := by decide +kernel
theorem d_M_run_23 : decode c_M_run 23 = .ok (.iconst 0, 1) := by decide +kernel
theorem d_M_run_24 : decode c_M_run 24 = .ok (.ireturn, 1) := by decide +kernel
theorem d_M_run_25 : decode c_M_run 25 = .ok (.iconst 0, 1) := by decide +kernel
theorem d_M_run_26 : decode c_M_run 26 = .ok (.istore_n 2, 1) := by decide +kernel
theorem d_M_run_27 : decode c_M_run 27 = .ok (.aload_n 0, 1) := by decide +kernel
theorem d_M_run_28 : decode c_M_run 28 = .ok (.getfield 66, 3) := by decide +kernel
theorem d_M_run_31 : decode c_M_run 31 = .ok (.ifCond .ne 74, 3) := by decide +kernel
theorem d_M_run_34 : decode c_M_run 34 = .ok (.iload_n 2, 1) := by decide +kernel
theorem d_M_run_35 : decode c_M_run 35 = .ok (.iload_n 1, 1) := by decide +kernel
theorem d_M_run_36 : decode c_M_run 36 = .ok (.if_icmp .ge 69, 3) := by decide +kernel
theorem d_M_run_39 : decode c_M_run 39 = .ok (.aload_n 0, 1) := by decide +kernel
theorem d_M_run_40 : decode c_M_run 40 = .ok (.invokevirtual 113, 3) := by decide +kernel
theorem d_M_run_43 : decode c_M_run 43 = .ok (.aload_n 0, 1) := by decide +kernel
theorem d_M_run_44 : decode c_M_run 44 = .ok (.getfield 23, 3) := by decide +kernel
theorem d_M_run_47 : decode c_M_run 47 = .ok (.aload_n 0, 1) := by decide +kernel
theorem d_M_run_48 : decode c_M_run 48 = .ok (.getfield 48, 3) := by decide +kernel
theorem d_M_run_51 : decode c_M_run 51 = .ok (.iaload, 1) := by decide +kernel
theorem d_M_run_52 : decode c_M_run 52 = .ok (.istore_n 3, 1) := by decide +kernel
theorem d_M_run_53 : decode c_M_run 53 = .ok (.aload_n 0, 1) := by decide +kernel
theorem d_M_run_54 : decode c_M_run 54 = .ok (.iconst 0, 1) := by decide +kernel
theorem d_M_run_55 : decode c_M_run 55 = .ok (.putfield 44, 3) := by decide +kernel
theorem d_M_run_58 : decode c_M_run 58 = .ok (.iload_n 3, 1) := by decide +kernel
theorem d_M_run_59 : decode c_M_run 59 = .ok (.ifCond .le 43, 3) := by decide +kernel
theorem d_M_run_62 : decode c_M_run 62 = .ok (.aload_n 0, 1) := by decide +kernel
theorem d_M_run_63 : decode c_M_run 63 = .ok (.getfield 66, 3) := by decide +kernel
theorem d_M_run_66 : decode c_M_run 66 = .ok (.ifCond .ne 36, 3) := by decide +kernel
theorem d_M_run_69 : decode c_M_run 69 = .ok (.iload_n 2, 1) := by decide +kernel
theorem d_M_run_70 : decode c_M_run 70 = .ok (.iload_n 1, 1) := by decide +kernel
theorem d_M_run_71 : decode c_M_run 71 = .ok (.if_icmp .ge 31, 3) := by decide +kernel
theorem d_M_run_74 : decode c_M_run 74 = .ok (.aload_n 0, 1) := by decide +kernel
theorem d_M_run_75 : decode c_M_run 75 = .ok (.getfield 44, 3) := by decide +kernel
theorem d_M_run_78 : decode c_M_run 78 = .ok (.ifCond .ne 24, 3) := by decide +kernel
theorem d_M_run_81 : decode c_M_run 81 = .ok (.iload_n 2, 1) := by decide +kernel
theorem d_M_run_82 : decode c_M_run 82 = .ok (.aload_n 0, 1) := by decide +kernel
theorem d_M_run_83 : decode c_M_run 83 = .ok (.invokevirtual 116, 3) := by decide +kernel
theorem d_M_run_86 : decode c_M_run 86 = .ok (.ifCond .eq 7, 3) := by decide +kernel
theorem d_M_run_89 : decode c_M_run 89 = .ok (.iconst 1, 1) := by decide +kernel
theorem d_M_run_90 : decode c_M_run 90 = .ok (.goto 4, 3) := by decide +kernel
theorem d_M_run_93 : decode c_M_run 93 = .ok (.iconst 0, 1) := by decide +kernel
theorem d_M_run_94 : decode c_M_run 94 = .ok (.iadd, 1) := by decide +kernel
theorem d_M_run_95 : decode c_M_run 95 = .ok (.istore_n 2, 1) := by decide +kernel
theorem d_M_run_96 : decode c_M_run 96 = .ok (.iinc 3 (-1), 3) := by decide +kernel
theorem d_M_run_99 : decode c_M_run 99 = .ok (.goto (-41), 3) := by decide +kernel
theorem d_M_run_102 : decode c_M_run 102 = .ok (.goto (-75), 3) := by decide +kernel
theorem d_M_run_105 : decode c_M_run 105 = .ok (.aload_n 0, 1) := by decide +kernel
theorem d_M_run_106 : decode c_M_run 106 = .ok (.dup, 1) := by decide +kernel
theorem d_M_run_107 : decode c_M_run 107 = .ok (.getfield 120, 3) := by decide +kernel
theorem d_M_run_110 : decode c_M_run 110 = .ok (.iload_n 2, 1) := by decide +kernel
theorem d_M_run_111 : decode c_M_run 111 = .ok (.iadd, 1) := by decide +kernel
theorem d_M_run_112 : decode c_M_run 112 = .ok (.putfield 120, 3) := by decide +kernel
theorem d_M_run_115 : decode c_M_run 115 = .ok (.iload_n 2, 1) := by decide +kernel
theorem d_M_run_116 : decode c_M_run 116 = .ok (.ireturn, 1) := by decide +kernel
theorem d_M_memory_0 : decode c_M_memory 0 = .ok (.aload_n 0, 1) := by decide +kernel
theorem d_M_memory_1 : decode c_M_memory 1 = .ok (.iload_n 1, 1) := by decide +kernel
theorem d_M_memory_2 : decode c_M_memory 2 = .ok (.invokestatic 51, 3) := by decide +kernel
theorem d_M_memory_5 : decode c_M_memory 5 = .ok (.ifCond .ne 7, 3) := by decide +kernel
theorem d_M_memory_8 : decode c_M_memory 8 = .ok (.iconst 1, 1) := by decide +kernel
theorem d_M_memory_9 : decode c_M_memory 9 = .ok (.goto 4, 3) := by decide +kernel
theorem d_M_memory_12 : decode c_M_memory 12 = .ok (.iconst 0, 1) := by decide +kernel
theorem d_M_memory_13 : decode c_M_memory 13 = .ok (.iconst 0, 1) := by decide +kernel
theorem d_M_memory_14 : decode c_M_memory 14 = .ok (.invokevirtual 55, 3) := by decide +kernel
theorem d_M_memory_17 : decode c_M_memory 17 = .ok (.ifCond .eq 7, 3) := by decide +kernel
theorem d_M_memory_20 : decode c_M_memory 20 = .ok (.iconst 0, 1) := by decide +kernel
theorem d_M_memory_21 : decode c_M_memory 21 = .ok (.goto 9, 3) := by decide +kernel
theorem d_M_memory_24 : decode c_M_memory 24 = .ok (.aload_n 0, 1) := by decide +kernel
theorem d_M_memory_25 : decode c_M_memory 25 = .ok (.getfield 7, 3) := by decide +kernel
theorem d_M_memory_28 : decode c_M_memory 28 = .ok (.iload_n 1, 1) := by decide +kernel
theorem d_M_memory_29 : decode c_M_memory 29 = .ok (.iaload, 1) := by decide +kernel
theorem d_M_memory_30 : decode c_M_memory 30 = .ok (.ireturn, 1) := by decide +kernel
theorem d_M_register_0 : decode c_M_register 0 = .ok (.aload_n 0, 1) := by decide +kernel
theorem d_M_register_1 : decode c_M_register 1 = .ok (.iload_n 1, 1) := by decide +kernel
theorem d_M_register_2 : decode c_M_register 2 = .ok (.iconst 0, 1) := by decide +kernel
theorem d_M_register_3 : decode c_M_register 3 = .ok (.bipush 11, 2) := by decide +kernel
theorem d_M_register_5 : decode c_M_register 5 = .ok (.invokestatic 33, 3) := by decide +kernel
theorem d_M_register_8 : decode c_M_register 8 = .ok (.ifCond .ne 7, 3) := by decide +kernel
theorem d_M_register_11 : decode c_M_register 11 = .ok (.iconst 1, 1) := by decide +kernel
theorem d_M_register_12 : decode c_M_register 12 = .ok (.goto 4, 3) := by decide +kernel
theorem d_M_register_15 : decode c_M_register 15 = .ok (.iconst 0, 1) := by decide +kernel
theorem d_M_register_16 : decode c_M_register 16 = .ok (.iconst 0, 1) := by decide +kernel
theorem d_M_register_17 : decode c_M_register 17 = .ok (.invokevirtual 55, 3) := by decide +kernel
theorem d_M_register_20 : decode c_M_register 20 = .ok (.ifCond .eq 5, 3) := by decide +kernel
theorem d_M_register_23 : decode c_M_register 23 = .ok (.iconst 0, 1) := by decide +kernel
theorem d_M_register_24 : decode c_M_register 24 = .ok (.ireturn, 1) := by decide +kernel
theorem d_M_register_25 : decode c_M_register 25 = .ok (.iload_n 1, 1) := by decide +kernel
theorem d_M_register_26 : decode c_M_register 26 = .ok (.bipush 8, 2) := by decide +kernel
theorem d_M_register_28 : decode c_M_register 28 = .ok (.if_icmp .ge 10, 3) := by decide +kernel
theorem d_M_register_31 : decode c_M_register 31 = .ok (.aload_n 0, 1) := by decide +kernel
theorem d_M_register_32 : decode c_M_register 32 = .ok (.getfield 13, 3) := by decide +kernel
theorem d_M_register_35 : decode c_M_register 35 = .ok (.iload_n 1, 1) := by decide +kernel
theorem d_M_register_36 : decode c_M_register 36 = .ok (.iaload, 1) := by decide +kernel
theorem d_M_register_37 : decode c_M_register 37 = .ok (.ireturn, 1) := by decide +kernel
theorem d_M_register_38 : decode c_M_register 38 = .ok (.iload_n 1, 1) := by decide +kernel
theorem d_M_register_39 : decode c_M_register 39 = .ok (.bipush 8, 2) := by decide +kernel
theorem d_M_register_41 : decode c_M_register 41 = .ok (.if_icmp .ne 10, 3) := by decide +kernel
theorem d_M_register_44 : decode c_M_register 44 = .ok (.aload_n 0, 1) := by decide +kernel
theorem d_M_register_45 : decode c_M_register 45 = .ok (.getfield 63, 3) := by decide +kernel
theorem d_M_register_48 : decode c_M_register 48 = .ok (.goto 49, 3) := by decide +kernel
theorem d_M_register_51 : decode c_M_register 51 = .ok (.iload_n 1, 1) := by decide +kernel
theorem d_M_register_52 : decode c_M_register 52 = .ok (.bipush 9, 2) := by decide +kernel
theorem d_M_register_54 : decode c_M_register 54 = .ok (.if_icmp .ne 18, 3) := by decide +kernel
theorem d_M_register_57 : decode c_M_register 57 = .ok (.aload_n 0, 1) := by decide +kernel
theorem d_M_register_58 : decode c_M_register 58 = .ok (.getfield 91, 3) := by decide +kernel
theorem d_M_register_61 : decode c_M_register 61 = .ok (.ifCond .eq 7, 3) := by decide +kernel
theorem d_M_register_64 : decode c_M_register 64 = .ok (.iconst 1, 1) := by decide +kernel
theorem d_M_register_65 : decode c_M_register 65 = .ok (.goto 32, 3) := by decide +kernel
theorem d_M_register_68 : decode c_M_register 68 = .ok (.iconst 0, 1) := by decide +kernel
theorem d_M_register_69 : decode c_M_register 69 = .ok (.goto 28, 3) := by decide +kernel
theorem d_M_register_72 : decode c_M_register 72 = .ok (.iload_n 1, 1) := by decide +kernel
theorem d_M_register_73 : decode c_M_register 73 = .ok (.bipush 10, 2) := by decide +kernel
theorem d_M_register_75 : decode c_M_register 75 = .ok (.if_icmp .ne 18, 3) := by decide +kernel
theorem d_M_register_78 : decode c_M_register 78 = .ok (.aload_n 0, 1) := by decide +kernel
theorem d_M_register_79 : decode c_M_register 79 = .ok (.getfield 94, 3) := by decide +kernel
theorem d_M_register_82 : decode c_M_register 82 = .ok (.ifCond .eq 7, 3) := by decide +kernel
theorem d_M_register_85 : decode c_M_register 85 = .ok (.iconst 1, 1) := by decide +kernel
theorem d_M_register_86 : decode c_M_register 86 = .ok (.goto 11, 3) := by decide +kernel
theorem d_M_register_89 : decode c_M_register 89 = .ok (.iconst 0, 1) := by decide +kernel
theorem d_M_register_90 : decode c_M_register 90 = .ok (.goto 7, 3) := by decide +kernel
theorem d_M_register_93 : decode c_M_register 93 = .ok (.aload_n 0, 1) := by decide +kernel
theorem d_M_register_94 : decode c_M_register 94 = .ok (.getfield 66, 3) := by decide +kernel
theorem d_M_register_97 : decode c_M_register 97 = .ok (.ireturn, 1) := by decide +kernel
theorem d_M_row_0 : decode c_M_row 0 = .ok (.aload_n 0, 1) := by decide +kernel
theorem d_M_row_1 : decode c_M_row 1 = .ok (.iload_n 1, 1) := by decide +kernel
theorem d_M_row_2 : decode c_M_row 2 = .ok (.iconst 0, 1) := by decide +kernel
theorem d_M_row_3 : decode c_M_row 3 = .ok (.bipush 31, 2) := by decide +kernel
theorem d_M_row_5 : decode c_M_row 5 = .ok (.invokestatic 33, 3) := by decide +kernel
theorem d_M_row_8 : decode c_M_row 8 = .ok (.ifCond .eq 12, 3) := by decide +kernel
theorem d_M_row_11 : decode c_M_row 11 = .ok (.iload_n 2, 1) := by decide +kernel
theorem d_M_row_12 : decode c_M_row 12 = .ok (.iconst 0, 1) := by decide +kernel
theorem d_M_row_13 : decode c_M_row 13 = .ok (.iconst 2, 1) := by decide +kernel
theorem d_M_row_14 : decode c_M_row 14 = .ok (.invokestatic 33, 3) := by decide +kernel
theorem d_M_row_17 : decode c_M_row 17 = .ok (.ifCond .ne 7, 3) := by decide +kernel
theorem d_M_row_20 : decode c_M_row 20 = .ok (.iconst 1, 1) := by decide +kernel
theorem d_M_row_21 : decode c_M_row 21 = .ok (.goto 4, 3) := by decide +kernel
theorem d_M_row_24 : decode c_M_row 24 = .ok (.iconst 0, 1) := by decide +kernel
theorem d_M_row_25 : decode c_M_row 25 = .ok (.iconst 0, 1) := by decide +kernel
theorem d_M_row_26 : decode c_M_row 26 = .ok (.invokevirtual 55, 3) := by decide +kernel
theorem d_M_row_29 : decode c_M_row 29 = .ok (.ifCond .eq 5, 3) := by decide +kernel
theorem d_M_row_32 : decode c_M_row 32 = .ok (.iconst 0, 1) := by decide +kernel
theorem d_M_row_33 : decode c_M_row 33 = .ok (.ireturn, 1) := by decide +kernel
theorem d_M_row_34 : decode c_M_row 34 = .ok (.aload_n 0, 1) := by decide +kernel
theorem d_M_row_35 : decode c_M_row 35 = .ok (.getfield 16, 3) := by decide +kernel
theorem d_M_row_38 : decode c_M_row 38 = .ok (.iload_n 1, 1) := by decide +kernel
theorem d_M_row_39 : decode c_M_row 39 = .ok (.baload, 1) := by decide +kernel
theorem d_M_row_40 : decode c_M_row 40 = .ok (.ifCond .ne 13, 3) := by decide +kernel
theorem d_M_row_43 : decode c_M_row 43 = .ok (.iload_n 2, 1) := by decide +kernel
theorem d_M_row_44 : decode c_M_row 44 = .ok (.ifCond .ne 7, 3) := by decide +kernel
theorem d_M_row_47 : decode c_M_row 47 = .ok (.iconst (-1), 1) := by decide +kernel
theorem d_M_row_48 : decode c_M_row 48 = .ok (.goto 4, 3) := by decide +kernel
theorem d_M_row_51 : decode c_M_row 51 = .ok (.iconst 0, 1) := by decide +kernel
theorem d_M_row_52 : decode c_M_row 52 = .ok (.ireturn, 1) := by decide +kernel
theorem d_M_row_53 : decode c_M_row 53 = .ok (.iload_n 2, 1) := by decide +kernel
theorem d_M_row_54 : decode c_M_row 54 = .ok (.ifCond .ne 12, 3) := by decide +kernel
theorem d_M_row_57 : decode c_M_row 57 = .ok (.aload_n 0, 1) := by decide +kernel
theorem d_M_row_58 : decode c_M_row 58 = .ok (.getfield 20, 3) := by decide +kernel
theorem d_M_row_61 : decode c_M_row 61 = .ok (.iload_n 1, 1) := by decide +kernel
theorem d_M_row_62 : decode c_M_row 62 = .ok (.iaload, 1) := by decide +kernel
theorem d_M_row_63 : decode c_M_row 63 = .ok (.goto 23, 3) := by decide +kernel
theorem d_M_row_66 : decode c_M_row 66 = .ok (.iload_n 2, 1) := by decide +kernel
theorem d_M_row_67 : decode c_M_row 67 = .ok (.iconst 1, 1) := by decide +kernel
theorem d_M_row_68 : decode c_M_row 68 = .ok (.if_icmp .ne 12, 3) := by decide +kernel
theorem d_M_row_71 : decode c_M_row 71 = .ok (.aload_n 0, 1) := by decide +kernel
theorem d_M_row_72 : decode c_M_row 72 = .ok (.getfield 23, 3) := by decide +kernel
theorem d_M_row_75 : decode c_M_row 75 = .ok (.iload_n 1, 1) := by decide +kernel
theorem d_M_row_76 : decode c_M_row 76 = .ok (.iaload, 1) := by decide +kernel
theorem d_M_row_77 : decode c_M_row 77 = .ok (.goto 9, 3) := by decide +kernel
theorem d_M_row_80 : decode c_M_row 80 = .ok (.aload_n 0, 1) := by decide +kernel
theorem d_M_row_81 : decode c_M_row 81 = .ok (.getfield 26, 3) := by decide +kernel
theorem d_M_row_84 : decode c_M_row 84 = .ok (.iload_n 1, 1) := by decide +kernel
theorem d_M_row_85 : decode c_M_row 85 = .ok (.iaload, 1) := by decide +kernel
theorem d_M_row_86 : decode c_M_row 86 = .ok (.ireturn, 1) := by decide +kernel
theorem d_M_forget_0 : decode c_M_forget 0 = .ok (.aload_n 0, 1) := by decide +kernel
theorem d_M_forget_1 : decode c_M_forget 1 = .ok (.iconst 0, 1) := by decide +kernel
theorem d_M_forget_2 : decode c_M_forget 2 = .ok (.putfield 29, 3) := by decide +kernel
theorem d_M_forget_5 : decode c_M_forget 5 = .ok (.iconst 0, 1) := by decide +kernel
theorem d_M_forget_6 : decode c_M_forget 6 = .ok (.istore_n 1, 1) := by decide +kernel
theorem d_M_forget_7 : decode c_M_forget 7 = .ok (.iconst 0, 1) := by decide +kernel
theorem d_M_forget_8 : decode c_M_forget 8 = .ok (.istore_n 2, 1) := by decide +kernel
theorem d_M_forget_9 : decode c_M_forget 9 = .ok (.iload_n 2, 1) := by decide +kernel
theorem d_M_forget_10 : decode c_M_forget 10 = .ok (.bipush 32, 2) := by decide +kernel
theorem d_M_forget_12 : decode c_M_forget 12 = .ok (.if_icmp .ge 29, 3) := by decide +kernel
theorem d_M_forget_15 : decode c_M_forget 15 = .ok (.aload_n 0, 1) := by decide +kernel
theorem d_M_forget_16 : decode c_M_forget 16 = .ok (.getfield 16, 3) := by decide +kernel
theorem d_M_forget_19 : decode c_M_forget 19 = .ok (.iload_n 2, 1) := by decide +kernel
theorem d_M_forget_20 : decode c_M_forget 20 = .ok (.baload, 1) := by decide +kernel
theorem d_M_forget_21 : decode c_M_forget 21 = .ok (.ifCond .ne 6, 3) := by decide +kernel
theorem d_M_forget_24 : decode c_M_forget 24 = .ok (.goto 11, 3) := by decide +kernel
theorem d_M_forget_27 : decode c_M_forget 27 = .ok (.aload_n 0, 1) := by decide +kernel
theorem d_M_forget_28 : decode c_M_forget 28 = .ok (.iload_n 2, 1) := by decide +kernel
theorem d_M_forget_29 : decode c_M_forget 29 = .ok (.invokevirtual 40, 3) := by decide +kernel
theorem d_M_forget_32 : decode c_M_forget 32 = .ok (.iinc 1 1, 3) := by decide +kernel
theorem d_M_forget_35 : decode c_M_forget 35 = .ok (.iinc 2 1, 3) := by decide +kernel
theorem d_M_forget_38 : decode c_M_forget 38 = .ok (.goto (-29), 3) := by decide +kernel
theorem d_M_forget_41 : decode c_M_forget 41 = .ok (.iload_n 1, 1) := by decide +kernel
theorem d_M_forget_42 : decode c_M_forget 42 = .ok (.ireturn, 1) := by decide +kernel
theorem d_M_count_0 : decode c_M_count 0 = .ok (.aload_n 0, 1) := by decide +kernel
theorem d_M_count_1 : decode c_M_count 1 = .ok (.iconst 0, 1) := by decide +kernel
theorem d_M_count_2 : decode c_M_count 2 = .ok (.putfield 29, 3) := by decide +kernel
theorem d_M_count_5 : decode c_M_count 5 = .ok (.iconst 0, 1) := by decide +kernel
theorem d_M_count_6 : decode c_M_count 6 = .ok (.istore_n 2, 1) := by decide +kernel
theorem d_M_count_7 : decode c_M_count 7 = .ok (.iconst 0, 1) := by decide +kernel
theorem d_M_count_8 : decode c_M_count 8 = .ok (.istore_n 3, 1) := by decide +kernel
theorem d_M_count_9 : decode c_M_count 9 = .ok (.iload_n 3, 1) := by decide +kernel
theorem d_M_count_10 : decode c_M_count 10 = .ok (.bipush 32, 2) := by decide +kernel
theorem d_M_count_12 : decode c_M_count 12 = .ok (.if_icmp .ge 26, 3) := by decide +kernel
theorem d_M_count_15 : decode c_M_count 15 = .ok (.iload_n 2, 1) := by decide +kernel
theorem d_M_count_16 : decode c_M_count 16 = .ok (.aload_n 0, 1) := by decide +kernel
theorem d_M_count_17 : decode c_M_count 17 = .ok (.getfield 16, 3) := by decide +kernel
theorem d_M_count_20 : decode c_M_count 20 = .ok (.iload_n 3, 1) := by decide +kernel
theorem d_M_count_21 : decode c_M_count 21 = .ok (.baload, 1) := by decide +kernel
theorem d_M_count_22 : decode c_M_count 22 = .ok (.ifCond .eq 7, 3) := by decide +kernel
theorem d_M_count_25 : decode c_M_count 25 = .ok (.iconst 1, 1) := by decide +kernel
theorem d_M_count_26 : decode c_M_count 26 = .ok (.goto 4, 3) := by decide +kernel
theorem d_M_count_29 : decode c_M_count 29 = .ok (.iconst 0, 1) := by decide +kernel
theorem d_M_count_30 : decode c_M_count 30 = .ok (.iadd, 1) := by decide +kernel
theorem d_M_count_31 : decode c_M_count 31 = .ok (.istore_n 2, 1) := by decide +kernel
theorem d_M_count_32 : decode c_M_count 32 = .ok (.iinc 3 1, 3) := by decide +kernel
theorem d_M_count_35 : decode c_M_count 35 = .ok (.goto (-26), 3) := by decide +kernel
theorem d_M_count_38 : decode c_M_count 38 = .ok (.iload_n 1, 1) := by decide +kernel
theorem d_M_count_39 : decode c_M_count 39 = .ok (.tableswitch 73 0 6 #[41, 46, 51, 56, 61, 63, 68], 41) := by decide +kernel
theorem d_M_count_80 : decode c_M_count 80 = .ok (.aload_n 0, 1) := by decide +kernel
theorem d_M_count_81 : decode c_M_count 81 = .ok (.getfield 120, 3) := by decide +kernel
theorem d_M_count_84 : decode c_M_count 84 = .ok (.ireturn, 1) := by decide +kernel
theorem d_M_count_85 : decode c_M_count 85 = .ok (.aload_n 0, 1) := by decide +kernel
theorem d_M_count_86 : decode c_M_count 86 = .ok (.getfield 79, 3) := by decide +kernel
theorem d_M_count_89 : decode c_M_count 89 = .ok (.ireturn, 1) := by decide +kernel
theorem d_M_count_90 : decode c_M_count 90 = .ok (.aload_n 0, 1) := by decide +kernel
theorem d_M_count_91 : decode c_M_count 91 = .ok (.getfield 85, 3) := by decide +kernel
theorem d_M_count_94 : decode c_M_count 94 = .ok (.ireturn, 1) := by decide +kernel
theorem d_M_count_95 : decode c_M_count 95 = .ok (.aload_n 0, 1) := by decide +kernel
theorem d_M_count_96 : decode c_M_count 96 = .ok (.getfield 37, 3) := by decide +kernel
theorem d_M_count_99 : decode c_M_count 99 = .ok (.ireturn, 1) := by decide +kernel
theorem d_M_count_100 : decode c_M_count 100 = .ok (.iload_n 2, 1) := by decide +kernel
theorem d_M_count_101 : decode c_M_count 101 = .ok (.ireturn, 1) := by decide +kernel
theorem d_M_count_102 : decode c_M_count 102 = .ok (.aload_n 0, 1) := by decide +kernel
theorem d_M_count_103 : decode c_M_count 103 = .ok (.getfield 110, 3) := by decide +kernel
theorem d_M_count_106 : decode c_M_count 106 = .ok (.ireturn, 1) := by decide +kernel
theorem d_M_count_107 : decode c_M_count 107 = .ok (.aload_n 0, 1) := by decide +kernel
theorem d_M_count_108 : decode c_M_count 108 = .ok (.getfield 82, 3) := by decide +kernel
theorem d_M_count_111 : decode c_M_count 111 = .ok (.ireturn, 1) := by decide +kernel
theorem d_M_count_112 : decode c_M_count 112 = .ok (.iconst (-1), 1) := by decide +kernel
theorem d_M_count_113 : decode c_M_count 113 = .ok (.ireturn, 1) := by decide +kernel
end
section
theorem d_X_init_0 : decode c_X_init 0 = .ok (.aload_n 0, 1) := by decide +kernel
theorem d_X_init_1 : decode c_X_init 1 = .ok (.invokespecial 1, 3) := by decide +kernel
theorem d_X_init_4 : decode c_X_init 4 = .ok (.aload_n 0, 1) := by decide +kernel
theorem d_X_init_5 : decode c_X_init 5 = .ok (.sipush 1024, 3) := by decide +kernel
theorem d_X_init_8 : decode c_X_init 8 = .ok (.newarray .int, 2) := by decide +kernel
theorem d_X_init_10 : decode c_X_init 10 = .ok (.putfield 9, 3) := by decide +kernel
theorem d_X_init_13 : decode c_X_init 13 = .ok (.aload_n 0, 1) := by decide +kernel
theorem d_X_init_14 : decode c_X_init 14 = .ok (.bipush 8, 2) := by decide +kernel
theorem d_X_init_16 : decode c_X_init 16 = .ok (.newarray .int, 2) := by decide +kernel
theorem d_X_init_18 : decode c_X_init 18 = .ok (.putfield 13, 3) := by decide +kernel
theorem d_X_init_21 : decode c_X_init 21 = .ok (.aload_n 0, 1) := by decide +kernel
theorem d_X_init_22 : decode c_X_init 22 = .ok (.bipush 32, 2) := by decide +kernel
theorem d_X_init_24 : decode c_X_init 24 = .ok (.anewarray 16, 3) := by decide +kernel
theorem d_X_init_27 : decode c_X_init 27 = .ok (.putfield 18, 3) := by decide +kernel
theorem d_X_init_30 : decode c_X_init 30 = .ok (.aload_n 0, 1) := by decide +kernel
theorem d_X_init_31 : decode c_X_init 31 = .ok (.iconst 0, 1) := by decide +kernel
theorem d_X_init_32 : decode c_X_init 32 = .ok (.putfield 22, 3) := by decide +kernel
theorem d_X_init_35 : decode c_X_init 35 = .ok (.aload_n 0, 1) := by decide +kernel
theorem d_X_init_36 : decode c_X_init 36 = .ok (.iconst 0, 1) := by decide +kernel
theorem d_X_init_37 : decode c_X_init 37 = .ok (.putfield 26, 3) := by decide +kernel
theorem d_X_init_40 : decode c_X_init 40 = .ok (.aload_n 0, 1) := by decide +kernel
theorem d_X_init_41 : decode c_X_init 41 = .ok (.iconst 1, 1) := by decide +kernel
theorem d_X_init_42 : decode c_X_init 42 = .ok (.putfield 29, 3) := by decide +kernel
theorem d_X_init_45 : decode c_X_init 45 = .ok (.iconst 0, 1) := by decide +kernel
theorem d_X_init_46 : decode c_X_init 46 = .ok (.istore_n 1, 1) := by decide +kernel
theorem d_X_init_47 : decode c_X_init 47 = .ok (.iload_n 1, 1) := by decide +kernel
theorem d_X_init_48 : decode c_X_init 48 = .ok (.bipush 32, 2) := by decide +kernel
theorem d_X_init_50 : decode c_X_init 50 = .ok (.if_icmp .ge 22, 3) := by decide +kernel
theorem d_X_init_53 : decode c_X_init 53 = .ok (.aload_n 0, 1) := by decide +kernel
theorem d_X_init_54 : decode c_X_init 54 = .ok (.getfield 18, 3) := by decide +kernel
theorem d_X_init_57 : decode c_X_init 57 = .ok (.iload_n 1, 1) := by decide +kernel
theorem d_X_init_58 : decode c_X_init 58 = .ok (.new 16, 3) := by decide +kernel
theorem d_X_init_61 : decode c_X_init 61 = .ok (.dup, 1) := by decide +kernel
theorem d_X_init_62 : decode c_X_init 62 = .ok (.invokespecial 32, 3) := by decide +kernel
theorem d_X_init_65 : decode c_X_init 65 = .ok (.aastore, 1) := by decide +kernel
theorem d_X_init_66 : decode c_X_init 66 = .ok (.iinc 1 1, 3) := by decide +kernel
theorem d_X_init_69 : decode c_X_init 69 = .ok (.goto (-22), 3) := by decide +kernel
theorem d_X_init_72 : decode c_X_init 72 = .ok (.return_, 1) := by decide +kernel
theorem d_X_poke_0 : decode c_X_poke 0 = .ok (.iload_n 1, 1) := by decide +kernel
theorem d_X_poke_1 : decode c_X_poke 1 = .ok (.invokestatic 33, 3) := by decide +kernel
theorem d_X_poke_4 : decode c_X_poke 4 = .ok (.ifCond .ne 13, 3) := by decide +kernel
theorem d_X_poke_7 : decode c_X_poke 7 = .ok (.new 37, 3) := by decide +kernel
theorem d_X_poke_10 : decode c_X_poke 10 = .ok (.dup, 1) := by decide +kernel
theorem d_X_poke_11 : decode c_X_poke 11 = .ok (.ldc 39, 2) := by decide +kernel
theorem d_X_poke_13 : decode c_X_poke 13 = .ok (.invokespecial 41, 3) := by decide +kernel
theorem d_X_poke_16 : decode c_X_poke 16 = .ok (.athrow, 1) := by decide +kernel
theorem d_X_poke_17 : decode c_X_poke 17 = .ok (.iload_n 2, 1) := by decide +kernel
theorem d_X_poke_18 : decode c_X_poke 18 = .ok (.ifCond .lt 10, 3) := by decide +kernel
theorem d_X_poke_21 : decode c_X_poke 21 = .ok (.iload_n 2, 1) := by decide +kernel
theorem d_X_poke_22 : decode c_X_poke 22 = .ok (.sipush 255, 3) := by decide +kernel
theorem d_X_poke_25 : decode c_X_poke 25 = .ok (.if_icmp .le 13, 3) := by decide +kernel
theorem d_X_poke_28 : decode c_X_poke 28 = .ok (.new 44, 3) := by decide +kernel
theorem d_X_poke_31 : decode c_X_poke 31 = .ok (.dup, 1) := by decide +kernel
theorem d_X_poke_32 : decode c_X_poke 32 = .ok (.ldc 46, 2) := by decide +kernel
theorem d_X_poke_34 : decode c_X_poke 34 = .ok (.invokespecial 48, 3) := by decide +kernel
theorem d_X_poke_37 : decode c_X_poke 37 = .ok (.athrow, 1) := by decide +kernel
theorem d_X_poke_38 : decode c_X_poke 38 = .ok (.aload_n 0, 1) := by decide +kernel
theorem d_X_poke_39 : decode c_X_poke 39 = .ok (.getfield 9, 3) := by decide +kernel
theorem d_X_poke_42 : decode c_X_poke 42 = .ok (.iload_n 1, 1) := by decide +kernel
theorem d_X_poke_43 : decode c_X_poke 43 = .ok (.iaload, 1) := by decide +kernel
theorem d_X_poke_44 : decode c_X_poke 44 = .ok (.istore_n 3, 1) := by decide +kernel
theorem d_X_poke_45 : decode c_X_poke 45 = .ok (.aload_n 0, 1) := by decide +kernel
theorem d_X_poke_46 : decode c_X_poke 46 = .ok (.iload_n 1, 1) := by decide +kernel
theorem d_X_poke_47 : decode c_X_poke 47 = .ok (.iload_n 2, 1) := by decide +kernel
theorem d_X_poke_48 : decode c_X_poke 48 = .ok (.invokevirtual 49, 3) := by decide +kernel
theorem d_X_poke_51 : decode c_X_poke 51 = .ok (.iload_n 3, 1) := by decide +kernel
theorem d_X_poke_52 : decode c_X_poke 52 = .ok (.ireturn, 1) := by decide +kernel
theorem d_X_pokeFour_0 : decode c_X_pokeFour 0 = .ok (.iload_n 1, 1) := by decide +kernel
theorem d_X_pokeFour_1 : decode c_X_pokeFour 1 = .ok (.invokestatic 33, 3) := by decide +kernel
theorem d_X_pokeFour_4 : decode c_X_pokeFour 4 = .ok (.ifCond .ne 13, 3) := by decide +kernel
theorem d_X_pokeFour_7 : decode c_X_pokeFour 7 = .ok (.new 37, 3) := by decide +kernel
theorem d_X_pokeFour_10 : decode c_X_pokeFour 10 = .ok (.dup, 1) := by decide +kernel
theorem d_X_pokeFour_11 : decode c_X_pokeFour 11 = .ok (.ldc 53, 2) := by decide +kernel
theorem d_X_pokeFour_13 : decode c_X_pokeFour 13 = .ok (.invokespecial 41, 3) := by decide +kernel
theorem d_X_pokeFour_16 : decode c_X_pokeFour 16 = .ok (.athrow, 1) := by decide +kernel
theorem d_X_pokeFour_17 : decode c_X_pokeFour 17 = .ok (.iconst 4, 1) := by decide +kernel
theorem d_X_pokeFour_18 : decode c_X_pokeFour 18 = .ok (.sipush 1024, 3) := by decide +kernel
theorem d_X_pokeFour_21 : decode c_X_pokeFour 21 = .ok (.iload_n 1, 1) := by decide +kernel
theorem d_X_pokeFour_22 : decode c_X_pokeFour 22 = .ok (.isub, 1) := by decide +kernel
theorem d_X_pokeFour_23 : decode c_X_pokeFour 23 = .ok (.invokestatic 55, 3) := by decide +kernel
theorem d_X_pokeFour_26 : decode c_X_pokeFour 26 = .ok (.istore_n 3, 1) := by decide +kernel
theorem d_X_pokeFour_27 : decode c_X_pokeFour 27 = .ok (.iconst 0, 1) := by decide +kernel
theorem d_X_pokeFour_28 : decode c_X_pokeFour 28 = .ok (.istore 4, 2) := by decide +kernel
theorem d_X_pokeFour_30 : decode c_X_pokeFour 30 = .ok (.iload 4, 2) := by decide +kernel
theorem d_X_pokeFour_32 : decode c_X_pokeFour 32 = .ok (.iload_n 3, 1) := by decide +kernel
theorem d_X_pokeFour_33 : decode c_X_pokeFour 33 = .ok (.if_icmp .ge 31, 3) := by decide +kernel
theorem d_X_pokeFour_36 : decode c_X_pokeFour 36 = .ok (.aload_n 0, 1) := by decide +kernel
theorem d_X_pokeFour_37 : decode c_X_pokeFour 37 = .ok (.iload_n 1, 1) := by decide +kernel
theorem d_X_pokeFour_38 : decode c_X_pokeFour 38 = .ok (.iload 4, 2) := by decide +kernel
theorem d_X_pokeFour_40 : decode c_X_pokeFour 40 = .ok (.iadd, 1) := by decide +kernel
theorem d_X_pokeFour_41 : decode c_X_pokeFour 41 = .ok (.iload_n 2, 1) := by decide +kernel
theorem d_X_pokeFour_42 : decode c_X_pokeFour 42 = .ok (.bipush 24, 2) := by decide +kernel
theorem d_X_pokeFour_44 : decode c_X_pokeFour 44 = .ok (.bipush 8, 2) := by decide +kernel
theorem d_X_pokeFour_46 : decode c_X_pokeFour 46 = .ok (.iload 4, 2) := by decide +kernel
theorem d_X_pokeFour_48 : decode c_X_pokeFour 48 = .ok (.imul, 1) := by decide +kernel
theorem d_X_pokeFour_49 : decode c_X_pokeFour 49 = .ok (.isub, 1) := by decide +kernel
theorem d_X_pokeFour_50 : decode c_X_pokeFour 50 = .ok (.iushr, 1) := by decide +kernel
theorem d_X_pokeFour_51 : decode c_X_pokeFour 51 = .ok (.sipush 255, 3) := by decide +kernel
theorem d_X_pokeFour_54 : decode c_X_pokeFour 54 = .ok (.iand, 1) := by decide +kernel
theorem d_X_pokeFour_55 : decode c_X_pokeFour 55 = .ok (.invokevirtual 49, 3) := by decide +kernel
theorem d_X_pokeFour_58 : decode c_X_pokeFour 58 = .ok (.iinc 4 1, 3) := by decide +kernel
theorem d_X_pokeFour_61 : decode c_X_pokeFour 61 = .ok (.goto (-31), 3) := by decide +kernel
theorem d_X_pokeFour_64 : decode c_X_pokeFour 64 = .ok (.iload_n 3, 1) := by decide +kernel
theorem d_X_pokeFour_65 : decode c_X_pokeFour 65 = .ok (.ireturn, 1) := by decide +kernel
theorem d_X_set_0 : decode c_X_set 0 = .ok (.iload_n 1, 1) := by decide +kernel
theorem d_X_set_1 : decode c_X_set 1 = .ok (.ifCond .lt 9, 3) := by decide +kernel
theorem d_X_set_4 : decode c_X_set 4 = .ok (.iload_n 1, 1) := by decide +kernel
theorem d_X_set_5 : decode c_X_set 5 = .ok (.bipush 8, 2) := by decide +kernel
theorem d_X_set_7 : decode c_X_set 7 = .ok (.if_icmp .lt 13, 3) := by decide +kernel
theorem d_X_set_10 : decode c_X_set 10 = .ok (.new 37, 3) := by decide +kernel
theorem d_X_set_13 : decode c_X_set 13 = .ok (.dup, 1) := by decide +kernel
theorem d_X_set_14 : decode c_X_set 14 = .ok (.ldc 61, 2) := by decide +kernel
theorem d_X_set_16 : decode c_X_set 16 = .ok (.invokespecial 41, 3) := by decide +kernel
theorem d_X_set_19 : decode c_X_set 19 = .ok (.athrow, 1) := by decide +kernel
theorem d_X_set_20 : decode c_X_set 20 = .ok (.aload_n 0, 1) := by decide +kernel
theorem d_X_set_21 : decode c_X_set 21 = .ok (.getfield 13, 3) := by decide +kernel
theorem d_X_set_24 : decode c_X_set 24 = .ok (.iload_n 1, 1) := by decide +kernel
theorem d_X_set_25 : decode c_X_set 25 = .ok (.iaload, 1) := by decide +kernel
theorem d_X_set_26 : decode c_X_set 26 = .ok (.istore_n 3, 1) := by decide +kernel
theorem d_X_set_27 : decode c_X_set 27 = .ok (.aload_n 0, 1) := by decide +kernel
theorem d_X_set_28 : decode c_X_set 28 = .ok (.getfield 13, 3) := by decide +kernel
theorem d_X_set_31 : decode c_X_set 31 = .ok (.iload_n 1, 1) := by decide +kernel
theorem d_X_set_32 : decode c_X_set 32 = .ok (.iload_n 2, 1) := by decide +kernel
theorem d_X_set_33 : decode c_X_set 33 = .ok (.iastore, 1) := by decide +kernel
theorem d_X_set_34 : decode c_X_set 34 = .ok (.iload_n 3, 1) := by decide +kernel
theorem d_X_set_35 : decode c_X_set 35 = .ok (.ireturn, 1) := by decide +kernel
theorem d_X_go_0 : decode c_X_go 0 = .ok (.iload_n 1, 1) := by decide +kernel
theorem d_X_go_1 : decode c_X_go 1 = .ok (.invokestatic 33, 3) := by decide +kernel
theorem d_X_go_4 : decode c_X_go 4 = .ok (.ifCond .ne 13, 3) := by decide +kernel
theorem d_X_go_7 : decode c_X_go 7 = .ok (.new 37, 3) := by decide +kernel
theorem d_X_go_10 : decode c_X_go 10 = .ok (.dup, 1) := by decide +kernel
theorem d_X_go_11 : decode c_X_go 11 = .ok (.ldc 53, 2) := by decide +kernel
theorem d_X_go_13 : decode c_X_go 13 = .ok (.invokespecial 41, 3) := by decide +kernel
theorem d_X_go_16 : decode c_X_go 16 = .ok (.athrow, 1) := by decide +kernel
theorem d_X_go_17 : decode c_X_go 17 = .ok (.aload_n 0, 1) := by decide +kernel
theorem d_X_go_18 : decode c_X_go 18 = .ok (.getfield 22, 3) := by decide +kernel
theorem d_X_go_21 : decode c_X_go 21 = .ok (.istore_n 2, 1) := by decide +kernel
theorem d_X_go_22 : decode c_X_go 22 = .ok (.aload_n 0, 1) := by decide +kernel
theorem d_X_go_23 : decode c_X_go 23 = .ok (.iload_n 1, 1) := by decide +kernel
theorem d_X_go_24 : decode c_X_go 24 = .ok (.putfield 22, 3) := by decide +kernel
theorem d_X_go_27 : decode c_X_go 27 = .ok (.aload_n 0, 1) := by decide +kernel
theorem d_X_go_28 : decode c_X_go 28 = .ok (.iconst 0, 1) := by decide +kernel
theorem d_X_go_29 : decode c_X_go 29 = .ok (.putfield 26, 3) := by decide +kernel
theorem d_X_go_32 : decode c_X_go 32 = .ok (.iload_n 2, 1) := by decide +kernel
theorem d_X_go_33 : decode c_X_go 33 = .ok (.ireturn, 1) := by decide +kernel
theorem d_X_run_0 : decode c_X_run 0 = .ok (.iload_n 1, 1) := by decide +kernel
theorem d_X_run_1 : decode c_X_run 1 = .ok (.iconst 1, 1) := by decide +kernel
theorem d_X_run_2 : decode c_X_run 2 = .ok (.if_icmp .lt 9, 3) := by decide +kernel
theorem d_X_run_5 : decode c_X_run 5 = .ok (.iload_n 1, 1) := by decide +kernel
theorem d_X_run_6 : decode c_X_run 6 = .ok (.bipush 100, 2) := by decide +kernel
theorem d_X_run_8 : decode c_X_run 8 = .ok (.if_icmp .le 13, 3) := by decide +kernel
theorem d_X_run_11 : decode c_X_run 11 = .ok (.new 44, 3) := by decide +kernel
theorem d_X_run_14 : decode c_X_run 14 = .ok (.dup, 1) := by decide +kernel
theorem d_X_run_15 : decode c_X_run 15 = .ok (.ldc 63, 2) := by decide +kernel
theorem d_X_run_17 : decode c_X_run 17 = .ok (.invokespecial 48, 3) := by decide +kernel
theorem d_X_run_20 : decode c_X_run 20 = .ok (.athrow, 1) := by decide +kernel
theorem d_X_run_21 : decode c_X_run 21 = .ok (.iconst 0, 1) := by decide +kernel
theorem d_X_run_22 : decode c_X_run 22 = .ok (.istore_n 2, 1) := by decide +kernel
theorem d_X_run_23 : decode c_X_run 23 = .ok (.iconst 0, 1) := by decide +kernel
theorem d_X_run_24 : decode c_X_run 24 = .ok (.istore_n 3, 1) := by decide +kernel
theorem d_X_run_25 : decode c_X_run 25 = .ok (.iload_n 3, 1) := by decide +kernel
theorem d_X_run_26 : decode c_X_run 26 = .ok (.iload_n 1, 1) := by decide +kernel
theorem d_X_run_27 : decode c_X_run 27 = .ok (.if_icmp .ge 31, 3) := by decide +kernel
theorem d_X_run_30 : decode c_X_run 30 = .ok (.iload_n 2, 1) := by decide +kernel
theorem d_X_run_31 : decode c_X_run 31 = .ok (.iload_n 1, 1) := by decide +kernel
theorem d_X_run_32 : decode c_X_run 32 = .ok (.if_icmp .ge 26, 3) := by decide +kernel
theorem d_X_run_35 : decode c_X_run 35 = .ok (.aload_n 0, 1) := by decide +kernel
theorem d_X_run_36 : decode c_X_run 36 = .ok (.getfield 26, 3) := by decide +kernel
theorem d_X_run_39 : decode c_X_run 39 = .ok (.ifCond .ne 19, 3) := by decide +kernel
theorem d_X_run_42 : decode c_X_run 42 = .ok (.iload_n 2, 1) := by decide +kernel
theorem d_X_run_43 : decode c_X_run 43 = .ok (.aload_n 0, 1) := by decide +kernel
theorem d_X_run_44 : decode c_X_run 44 = .ok (.iload_n 1, 1) := by decide +kernel
theorem d_X_run_45 : decode c_X_run 45 = .ok (.iload_n 2, 1) := by decide +kernel
theorem d_X_run_46 : decode c_X_run 46 = .ok (.isub, 1) := by decide +kernel
theorem d_X_run_47 : decode c_X_run 47 = .ok (.invokevirtual 65, 3) := by decide +kernel
theorem d_X_run_50 : decode c_X_run 50 = .ok (.iadd, 1) := by decide +kernel
theorem d_X_run_51 : decode c_X_run 51 = .ok (.istore_n 2, 1) := by decide +kernel
theorem d_X_run_52 : decode c_X_run 52 = .ok (.iinc 3 1, 3) := by decide +kernel
theorem d_X_run_55 : decode c_X_run 55 = .ok (.goto (-30), 3) := by decide +kernel
theorem d_X_run_58 : decode c_X_run 58 = .ok (.iload_n 2, 1) := by decide +kernel
theorem d_X_run_59 : decode c_X_run 59 = .ok (.ireturn, 1) := by decide +kernel
theorem d_X_memory_0 : decode c_X_memory 0 = .ok (.iload_n 1, 1) := by decide +kernel
theorem d_X_memory_1 : decode c_X_memory 1 = .ok (.invokestatic 33, 3) := by decide +kernel
theorem d_X_memory_4 : decode c_X_memory 4 = .ok (.ifCond .ne 13, 3) := by decide +kernel
theorem d_X_memory_7 : decode c_X_memory 7 = .ok (.new 37, 3) := by decide +kernel
theorem d_X_memory_10 : decode c_X_memory 10 = .ok (.dup, 1) := by decide +kernel
theorem d_X_memory_11 : decode c_X_memory 11 = .ok (.ldc 39, 2) := by decide +kernel
theorem d_X_memory_13 : decode c_X_memory 13 = .ok (.invokespecial 41, 3) := by decide +kernel
theorem d_X_memory_16 : decode c_X_memory 16 = .ok (.athrow, 1) := by decide +kernel
theorem d_X_memory_17 : decode c_X_memory 17 = .ok (.aload_n 0, 1) := by decide +kernel
theorem d_X_memory_18 : decode c_X_memory 18 = .ok (.getfield 9, 3) := by decide +kernel
theorem d_X_memory_21 : decode c_X_memory 21 = .ok (.iload_n 1, 1) := by decide +kernel
theorem d_X_memory_22 : decode c_X_memory 22 = .ok (.iaload, 1) := by decide +kernel
theorem d_X_memory_23 : decode c_X_memory 23 = .ok (.ireturn, 1) := by decide +kernel
theorem d_X_register_0 : decode c_X_register 0 = .ok (.iload_n 1, 1) := by decide +kernel
theorem d_X_register_1 : decode c_X_register 1 = .ok (.ifCond .lt 9, 3) := by decide +kernel
theorem d_X_register_4 : decode c_X_register 4 = .ok (.iload_n 1, 1) := by decide +kernel
theorem d_X_register_5 : decode c_X_register 5 = .ok (.bipush 11, 2) := by decide +kernel
theorem d_X_register_7 : decode c_X_register 7 = .ok (.if_icmp .le 13, 3) := by decide +kernel
theorem d_X_register_10 : decode c_X_register 10 = .ok (.new 37, 3) := by decide +kernel
theorem d_X_register_13 : decode c_X_register 13 = .ok (.dup, 1) := by decide +kernel
theorem d_X_register_14 : decode c_X_register 14 = .ok (.ldc 61, 2) := by decide +kernel
theorem d_X_register_16 : decode c_X_register 16 = .ok (.invokespecial 41, 3) := by decide +kernel
theorem d_X_register_19 : decode c_X_register 19 = .ok (.athrow, 1) := by decide +kernel
theorem d_X_register_20 : decode c_X_register 20 = .ok (.iload_n 1, 1) := by decide +kernel
theorem d_X_register_21 : decode c_X_register 21 = .ok (.tableswitch 67 8 11 #[31, 36, 49, 62], 31) := by decide +kernel
theorem d_X_register_52 : decode c_X_register 52 = .ok (.aload_n 0, 1) := by decide +kernel
theorem d_X_register_53 : decode c_X_register 53 = .ok (.getfield 22, 3) := by decide +kernel
theorem d_X_register_56 : decode c_X_register 56 = .ok (.ireturn, 1) := by decide +kernel
theorem d_X_register_57 : decode c_X_register 57 = .ok (.aload_n 0, 1) := by decide +kernel
theorem d_X_register_58 : decode c_X_register 58 = .ok (.invokevirtual 69, 3) := by decide +kernel
theorem d_X_register_61 : decode c_X_register 61 = .ok (.ifCond .eq 7, 3) := by decide +kernel
theorem d_X_register_64 : decode c_X_register 64 = .ok (.iconst 1, 1) := by decide +kernel
theorem d_X_register_65 : decode c_X_register 65 = .ok (.goto 4, 3) := by decide +kernel
theorem d_X_register_68 : decode c_X_register 68 = .ok (.iconst 0, 1) := by decide +kernel
theorem d_X_register_69 : decode c_X_register 69 = .ok (.ireturn, 1) := by decide +kernel
theorem d_X_register_70 : decode c_X_register 70 = .ok (.aload_n 0, 1) := by decide +kernel
theorem d_X_register_71 : decode c_X_register 71 = .ok (.invokevirtual 73, 3) := by decide +kernel
theorem d_X_register_74 : decode c_X_register 74 = .ok (.ifCond .eq 7, 3) := by decide +kernel
theorem d_X_register_77 : decode c_X_register 77 = .ok (.iconst 1, 1) := by decide +kernel
theorem d_X_register_78 : decode c_X_register 78 = .ok (.goto 4, 3) := by decide +kernel
theorem d_X_register_81 : decode c_X_register 81 = .ok (.iconst 0, 1) := by decide +kernel
theorem d_X_register_82 : decode c_X_register 82 = .ok (.ireturn, 1) := by decide +kernel
theorem d_X_register_83 : decode c_X_register 83 = .ok (.aload_n 0, 1) := by decide +kernel
theorem d_X_register_84 : decode c_X_register 84 = .ok (.getfield 26, 3) := by decide +kernel
theorem d_X_register_87 : decode c_X_register 87 = .ok (.ireturn, 1) := by decide +kernel
theorem d_X_register_88 : decode c_X_register 88 = .ok (.aload_n 0, 1) := by decide +kernel
theorem d_X_register_89 : decode c_X_register 89 = .ok (.getfield 13, 3) := by decide +kernel
theorem d_X_register_92 : decode c_X_register 92 = .ok (.iload_n 1, 1) := by decide +kernel
theorem d_X_register_93 : decode c_X_register 93 = .ok (.bipush 7, 2) := by decide +kernel
theorem d_X_register_95 : decode c_X_register 95 = .ok (.iand, 1) := by decide +kernel
theorem d_X_register_96 : decode c_X_register 96 = .ok (.iaload, 1) := by decide +kernel
theorem d_X_register_97 : decode c_X_register 97 = .ok (.ireturn, 1) := by decide +kernel
theorem d_X_row_0 : decode c_X_row 0 = .ok (.iload_n 1, 1) := by decide +kernel
theorem d_X_row_1 : decode c_X_row 1 = .ok (.ifCond .lt 18, 3) := by decide +kernel
theorem d_X_row_4 : decode c_X_row 4 = .ok (.iload_n 1, 1) := by decide +kernel
theorem d_X_row_5 : decode c_X_row 5 = .ok (.bipush 32, 2) := by decide +kernel
theorem d_X_row_7 : decode c_X_row 7 = .ok (.if_icmp .ge 12, 3) := by decide +kernel
theorem d_X_row_10 : decode c_X_row 10 = .ok (.iload_n 2, 1) := by decide +kernel
theorem d_X_row_11 : decode c_X_row 11 = .ok (.ifCond .lt 8, 3) := by decide +kernel
theorem d_X_row_14 : decode c_X_row 14 = .ok (.iload_n 2, 1) := by decide +kernel
theorem d_X_row_15 : decode c_X_row 15 = .ok (.iconst 2, 1) := by decide +kernel
theorem d_X_row_16 : decode c_X_row 16 = .ok (.if_icmp .le 13, 3) := by decide +kernel
theorem d_X_row_19 : decode c_X_row 19 = .ok (.new 37, 3) := by decide +kernel
theorem d_X_row_22 : decode c_X_row 22 = .ok (.dup, 1) := by decide +kernel
theorem d_X_row_23 : decode c_X_row 23 = .ok (.ldc 76, 2) := by decide +kernel
theorem d_X_row_25 : decode c_X_row 25 = .ok (.invokespecial 41, 3) := by decide +kernel
theorem d_X_row_28 : decode c_X_row 28 = .ok (.athrow, 1) := by decide +kernel
theorem d_X_row_29 : decode c_X_row 29 = .ok (.aload_n 0, 1) := by decide +kernel
theorem d_X_row_30 : decode c_X_row 30 = .ok (.getfield 18, 3) := by decide +kernel
theorem d_X_row_33 : decode c_X_row 33 = .ok (.iload_n 1, 1) := by decide +kernel
theorem d_X_row_34 : decode c_X_row 34 = .ok (.aaload, 1) := by decide +kernel
theorem d_X_row_35 : decode c_X_row 35 = .ok (.astore_n 3, 1) := by decide +kernel
theorem d_X_row_36 : decode c_X_row 36 = .ok (.iload_n 2, 1) := by decide +kernel
theorem d_X_row_37 : decode c_X_row 37 = .ok (.lookupswitch 48 #[(0, 27), (1, 43)], 27) := by decide +kernel
theorem d_X_row_64 : decode c_X_row 64 = .ok (.aload_n 3, 1) := by decide +kernel
theorem d_X_row_65 : decode c_X_row 65 = .ok (.invokevirtual 78, 3) := by decide +kernel
theorem d_X_row_68 : decode c_X_row 68 = .ok (.ifCond .eq 10, 3) := by decide +kernel
theorem d_X_row_71 : decode c_X_row 71 = .ok (.aload_n 3, 1) := by decide +kernel
theorem d_X_row_72 : decode c_X_row 72 = .ok (.getfield 81, 3) := by decide +kernel
theorem d_X_row_75 : decode c_X_row 75 = .ok (.goto 4, 3) := by decide +kernel
theorem d_X_row_78 : decode c_X_row 78 = .ok (.iconst (-1), 1) := by decide +kernel
theorem d_X_row_79 : decode c_X_row 79 = .ok (.ireturn, 1) := by decide +kernel
theorem d_X_row_80 : decode c_X_row 80 = .ok (.aload_n 3, 1) := by decide +kernel
theorem d_X_row_81 : decode c_X_row 81 = .ok (.getfield 84, 3) := by decide +kernel
theorem d_X_row_84 : decode c_X_row 84 = .ok (.ireturn, 1) := by decide +kernel
theorem d_X_row_85 : decode c_X_row 85 = .ok (.aload_n 3, 1) := by decide +kernel
theorem d_X_row_86 : decode c_X_row 86 = .ok (.getfield 87, 3) := by decide +kernel
theorem d_X_row_89 : decode c_X_row 89 = .ok (.ireturn, 1) := by decide +kernel
theorem d_X_forget_0 : decode c_X_forget 0 = .ok (.iconst 0, 1) := by decide +kernel
theorem d_X_forget_1 : decode c_X_forget 1 = .ok (.istore_n 1, 1) := by decide +kernel
theorem d_X_forget_2 : decode c_X_forget 2 = .ok (.iconst 0, 1) := by decide +kernel
theorem d_X_forget_3 : decode c_X_forget 3 = .ok (.istore_n 2, 1) := by decide +kernel
theorem d_X_forget_4 : decode c_X_forget 4 = .ok (.iload_n 2, 1) := by decide +kernel
theorem d_X_forget_5 : decode c_X_forget 5 = .ok (.bipush 32, 2) := by decide +kernel
theorem d_X_forget_7 : decode c_X_forget 7 = .ok (.if_icmp .ge 34, 3) := by decide +kernel
theorem d_X_forget_10 : decode c_X_forget 10 = .ok (.aload_n 0, 1) := by decide +kernel
theorem d_X_forget_11 : decode c_X_forget 11 = .ok (.getfield 18, 3) := by decide +kernel
theorem d_X_forget_14 : decode c_X_forget 14 = .ok (.iload_n 2, 1) := by decide +kernel
theorem d_X_forget_15 : decode c_X_forget 15 = .ok (.aaload, 1) := by decide +kernel
theorem d_X_forget_16 : decode c_X_forget 16 = .ok (.invokevirtual 78, 3) := by decide +kernel
theorem d_X_forget_19 : decode c_X_forget 19 = .ok (.ifCond .eq 16, 3) := by decide +kernel
theorem d_X_forget_22 : decode c_X_forget 22 = .ok (.aload_n 0, 1) := by decide +kernel
theorem d_X_forget_23 : decode c_X_forget 23 = .ok (.aload_n 0, 1) := by decide +kernel
theorem d_X_forget_24 : decode c_X_forget 24 = .ok (.getfield 18, 3) := by decide +kernel
theorem d_X_forget_27 : decode c_X_forget 27 = .ok (.iload_n 2, 1) := by decide +kernel
theorem d_X_forget_28 : decode c_X_forget 28 = .ok (.aaload, 1) := by decide +kernel
theorem d_X_forget_29 : decode c_X_forget 29 = .ok (.invokevirtual 90, 3) := by decide +kernel
theorem d_X_forget_32 : decode c_X_forget 32 = .ok (.iinc 1 1, 3) := by decide +kernel
theorem d_X_forget_35 : decode c_X_forget 35 = .ok (.iinc 2 1, 3) := by decide +kernel
theorem d_X_forget_38 : decode c_X_forget 38 = .ok (.goto (-34), 3) := by decide +kernel
theorem d_X_forget_41 : decode c_X_forget 41 = .ok (.iload_n 1, 1) := by decide +kernel
theorem d_X_forget_42 : decode c_X_forget 42 = .ok (.ireturn, 1) := by decide +kernel
theorem d_X_count_0 : decode c_X_count 0 = .ok (.iload_n 1, 1) := by decide +kernel
theorem d_X_count_1 : decode c_X_count 1 = .ok (.tableswitch 78 0 6 #[43, 48, 53, 58, 63, 68, 73], 43) := by decide +kernel
theorem d_X_count_44 : decode c_X_count 44 = .ok (.aload_n 0, 1) := by decide +kernel
theorem d_X_count_45 : decode c_X_count 45 = .ok (.getfield 94, 3) := by decide +kernel
theorem d_X_count_48 : decode c_X_count 48 = .ok (.ireturn, 1) := by decide +kernel
theorem d_X_count_49 : decode c_X_count 49 = .ok (.aload_n 0, 1) := by decide +kernel
theorem d_X_count_50 : decode c_X_count 50 = .ok (.getfield 97, 3) := by decide +kernel
theorem d_X_count_53 : decode c_X_count 53 = .ok (.ireturn, 1) := by decide +kernel
theorem d_X_count_54 : decode c_X_count 54 = .ok (.aload_n 0, 1) := by decide +kernel
theorem d_X_count_55 : decode c_X_count 55 = .ok (.getfield 100, 3) := by decide +kernel
theorem d_X_count_58 : decode c_X_count 58 = .ok (.ireturn, 1) := by decide +kernel
theorem d_X_count_59 : decode c_X_count 59 = .ok (.aload_n 0, 1) := by decide +kernel
theorem d_X_count_60 : decode c_X_count 60 = .ok (.getfield 103, 3) := by decide +kernel
theorem d_X_count_63 : decode c_X_count 63 = .ok (.ireturn, 1) := by decide +kernel
theorem d_X_count_64 : decode c_X_count 64 = .ok (.aload_n 0, 1) := by decide +kernel
theorem d_X_count_65 : decode c_X_count 65 = .ok (.invokevirtual 106, 3) := by decide +kernel
theorem d_X_count_68 : decode c_X_count 68 = .ok (.ireturn, 1) := by decide +kernel
theorem d_X_count_69 : decode c_X_count 69 = .ok (.aload_n 0, 1) := by decide +kernel
theorem d_X_count_70 : decode c_X_count 70 = .ok (.getfield 110, 3) := by decide +kernel
theorem d_X_count_73 : decode c_X_count 73 = .ok (.ireturn, 1) := by decide +kernel
theorem d_X_count_74 : decode c_X_count 74 = .ok (.aload_n 0, 1) := by decide +kernel
theorem d_X_count_75 : decode c_X_count 75 = .ok (.getfield 113, 3) := by decide +kernel
theorem d_X_count_78 : decode c_X_count 78 = .ok (.ireturn, 1) := by decide +kernel
theorem d_X_count_79 : decode c_X_count 79 = .ok (.iconst (-1), 1) := by decide +kernel
theorem d_X_count_80 : decode c_X_count 80 = .ok (.ireturn, 1) := by decide +kernel
theorem d_X_inMemory_0 : decode c_X_inMemory 0 = .ok (.iload_n 0, 1) := by decide +kernel
theorem d_X_inMemory_1 : decode c_X_inMemory 1 = .ok (.ifCond .lt 14, 3) := by decide +kernel
theorem d_X_inMemory_4 : decode c_X_inMemory 4 = .ok (.iload_n 0, 1) := by decide +kernel
theorem d_X_inMemory_5 : decode c_X_inMemory 5 = .ok (.sipush 1024, 3) := by decide +kernel
theorem d_X_inMemory_8 : decode c_X_inMemory 8 = .ok (.if_icmp .ge 7, 3) := by decide +kernel
theorem d_X_inMemory_11 : decode c_X_inMemory 11 = .ok (.iconst 1, 1) := by decide +kernel
theorem d_X_inMemory_12 : decode c_X_inMemory 12 = .ok (.goto 4, 3) := by decide +kernel
theorem d_X_inMemory_15 : decode c_X_inMemory 15 = .ok (.iconst 0, 1) := by decide +kernel
theorem d_X_inMemory_16 : decode c_X_inMemory 16 = .ok (.ireturn, 1) := by decide +kernel
theorem d_X_isZero_0 : decode c_X_isZero 0 = .ok (.aload_n 0, 1) := by decide +kernel
theorem d_X_isZero_1 : decode c_X_isZero 1 = .ok (.getfield 29, 3) := by decide +kernel
theorem d_X_isZero_4 : decode c_X_isZero 4 = .ok (.ifCond .ne 7, 3) := by decide +kernel
theorem d_X_isZero_7 : decode c_X_isZero 7 = .ok (.iconst 1, 1) := by decide +kernel
theorem d_X_isZero_8 : decode c_X_isZero 8 = .ok (.goto 4, 3) := by decide +kernel
theorem d_X_isZero_11 : decode c_X_isZero 11 = .ok (.iconst 0, 1) := by decide +kernel
theorem d_X_isZero_12 : decode c_X_isZero 12 = .ok (.ireturn, 1) := by decide +kernel
theorem d_X_isBelow_0 : decode c_X_isBelow 0 = .ok (.aload_n 0, 1) := by decide +kernel
theorem d_X_isBelow_1 : decode c_X_isBelow 1 = .ok (.getfield 29, 3) := by decide +kernel
theorem d_X_isBelow_4 : decode c_X_isBelow 4 = .ok (.ifCond .ge 7, 3) := by decide +kernel
theorem d_X_isBelow_7 : decode c_X_isBelow 7 = .ok (.iconst 1, 1) := by decide +kernel
theorem d_X_isBelow_8 : decode c_X_isBelow 8 = .ok (.goto 4, 3) := by decide +kernel
theorem d_X_isBelow_11 : decode c_X_isBelow 11 = .ok (.iconst 0, 1) := by decide +kernel
theorem d_X_isBelow_12 : decode c_X_isBelow 12 = .ok (.ireturn, 1) := by decide +kernel
theorem d_X_keptNow_0 : decode c_X_keptNow 0 = .ok (.iconst 0, 1) := by decide +kernel
theorem d_X_keptNow_1 : decode c_X_keptNow 1 = .ok (.istore_n 1, 1) := by decide +kernel
theorem d_X_keptNow_2 : decode c_X_keptNow 2 = .ok (.iconst 0, 1) := by decide +kernel
theorem d_X_keptNow_3 : decode c_X_keptNow 3 = .ok (.istore_n 2, 1) := by decide +kernel
theorem d_X_keptNow_4 : decode c_X_keptNow 4 = .ok (.iload_n 2, 1) := by decide +kernel
theorem d_X_keptNow_5 : decode c_X_keptNow 5 = .ok (.bipush 32, 2) := by decide +kernel
theorem d_X_keptNow_7 : decode c_X_keptNow 7 = .ok (.if_icmp .ge 24, 3) := by decide +kernel
theorem d_X_keptNow_10 : decode c_X_keptNow 10 = .ok (.aload_n 0, 1) := by decide +kernel
theorem d_X_keptNow_11 : decode c_X_keptNow 11 = .ok (.getfield 18, 3) := by decide +kernel
theorem d_X_keptNow_14 : decode c_X_keptNow 14 = .ok (.iload_n 2, 1) := by decide +kernel
theorem d_X_keptNow_15 : decode c_X_keptNow 15 = .ok (.aaload, 1) := by decide +kernel
theorem d_X_keptNow_16 : decode c_X_keptNow 16 = .ok (.invokevirtual 78, 3) := by decide +kernel
theorem d_X_keptNow_19 : decode c_X_keptNow 19 = .ok (.ifCond .eq 6, 3) := by decide +kernel
theorem d_X_keptNow_22 : decode c_X_keptNow 22 = .ok (.iinc 1 1, 3) := by decide +kernel
theorem d_X_keptNow_25 : decode c_X_keptNow 25 = .ok (.iinc 2 1, 3) := by decide +kernel
theorem d_X_keptNow_28 : decode c_X_keptNow 28 = .ok (.goto (-24), 3) := by decide +kernel
theorem d_X_keptNow_31 : decode c_X_keptNow 31 = .ok (.iload_n 1, 1) := by decide +kernel
theorem d_X_keptNow_32 : decode c_X_keptNow 32 = .ok (.ireturn, 1) := by decide +kernel
theorem d_X_throwOut_0 : decode c_X_throwOut 0 = .ok (.aload_n 1, 1) := by decide +kernel
theorem d_X_throwOut_1 : decode c_X_throwOut 1 = .ok (.iconst 0, 1) := by decide +kernel
theorem d_X_throwOut_2 : decode c_X_throwOut 2 = .ok (.invokevirtual 116, 3) := by decide +kernel
theorem d_X_throwOut_5 : decode c_X_throwOut 5 = .ok (.aload_n 0, 1) := by decide +kernel
theorem d_X_throwOut_6 : decode c_X_throwOut 6 = .ok (.dup, 1) := by decide +kernel
theorem d_X_throwOut_7 : decode c_X_throwOut 7 = .ok (.getfield 103, 3) := by decide +kernel
theorem d_X_throwOut_10 : decode c_X_throwOut 10 = .ok (.iconst 1, 1) := by decide +kernel
theorem d_X_throwOut_11 : decode c_X_throwOut 11 = .ok (.iadd, 1) := by decide +kernel
theorem d_X_throwOut_12 : decode c_X_throwOut 12 = .ok (.putfield 103, 3) := by decide +kernel
theorem d_X_throwOut_15 : decode c_X_throwOut 15 = .ok (.return_, 1) := by decide +kernel
theorem d_X_write_0 : decode c_X_write 0 = .ok (.aload_n 0, 1) := by decide +kernel
theorem d_X_write_1 : decode c_X_write 1 = .ok (.getfield 9, 3) := by decide +kernel
theorem d_X_write_4 : decode c_X_write 4 = .ok (.iload_n 1, 1) := by decide +kernel
theorem d_X_write_5 : decode c_X_write 5 = .ok (.iload_n 2, 1) := by decide +kernel
theorem d_X_write_6 : decode c_X_write 6 = .ok (.iastore, 1) := by decide +kernel
theorem d_X_write_7 : decode c_X_write 7 = .ok (.iconst 0, 1) := by decide +kernel
theorem d_X_write_8 : decode c_X_write 8 = .ok (.istore_n 3, 1) := by decide +kernel
theorem d_X_write_9 : decode c_X_write 9 = .ok (.iload_n 3, 1) := by decide +kernel
theorem d_X_write_10 : decode c_X_write 10 = .ok (.bipush 32, 2) := by decide +kernel
theorem d_X_write_12 : decode c_X_write 12 = .ok (.if_icmp .ge 32, 3) := by decide +kernel
theorem d_X_write_15 : decode c_X_write 15 = .ok (.aload_n 0, 1) := by decide +kernel
theorem d_X_write_16 : decode c_X_write 16 = .ok (.getfield 18, 3) := by decide +kernel
theorem d_X_write_19 : decode c_X_write 19 = .ok (.iload_n 3, 1) := by decide +kernel
theorem d_X_write_20 : decode c_X_write 20 = .ok (.aaload, 1) := by decide +kernel
theorem d_X_write_21 : decode c_X_write 21 = .ok (.iload_n 1, 1) := by decide +kernel
theorem d_X_write_22 : decode c_X_write 22 = .ok (.invokevirtual 120, 3) := by decide +kernel
theorem d_X_write_25 : decode c_X_write 25 = .ok (.ifCond .eq 13, 3) := by decide +kernel
theorem d_X_write_28 : decode c_X_write 28 = .ok (.aload_n 0, 1) := by decide +kernel
theorem d_X_write_29 : decode c_X_write 29 = .ok (.aload_n 0, 1) := by decide +kernel
theorem d_X_write_30 : decode c_X_write 30 = .ok (.getfield 18, 3) := by decide +kernel
theorem d_X_write_33 : decode c_X_write 33 = .ok (.iload_n 3, 1) := by decide +kernel
theorem d_X_write_34 : decode c_X_write 34 = .ok (.aaload, 1) := by decide +kernel
theorem d_X_write_35 : decode c_X_write 35 = .ok (.invokevirtual 90, 3) := by decide +kernel
theorem d_X_write_38 : decode c_X_write 38 = .ok (.iinc 3 1, 3) := by decide +kernel
theorem d_X_write_41 : decode c_X_write 41 = .ok (.goto (-32), 3) := by decide +kernel
theorem d_X_write_44 : decode c_X_write 44 = .ok (.return_, 1) := by decide +kernel
theorem d_X_doBlock_0 : decode c_X_doBlock 0 = .ok (.aload_n 0, 1) := by decide +kernel
theorem d_X_doBlock_1 : decode c_X_doBlock 1 = .ok (.aload_n 0, 1) := by decide +kernel
theorem d_X_doBlock_2 : decode c_X_doBlock 2 = .ok (.getfield 22, 3) := by decide +kernel
theorem d_X_doBlock_5 : decode c_X_doBlock 5 = .ok (.invokevirtual 123, 3) := by decide +kernel
theorem d_X_doBlock_8 : decode c_X_doBlock 8 = .ok (.astore_n 2, 1) := by decide +kernel
theorem d_X_doBlock_9 : decode c_X_doBlock 9 = .ok (.iconst 0, 1) := by decide +kernel
theorem d_X_doBlock_10 : decode c_X_doBlock 10 = .ok (.istore_n 3, 1) := by decide +kernel
theorem d_X_doBlock_11 : decode c_X_doBlock 11 = .ok (.iconst 0, 1) := by decide +kernel
theorem d_X_doBlock_12 : decode c_X_doBlock 12 = .ok (.istore 4, 2) := by decide +kernel
theorem d_X_doBlock_14 : decode c_X_doBlock 14 = .ok (.iload 4, 2) := by decide +kernel
theorem d_X_doBlock_16 : decode c_X_doBlock 16 = .ok (.bipush 12, 2) := by decide +kernel
theorem d_X_doBlock_18 : decode c_X_doBlock 18 = .ok (.if_icmp .ge 43, 3) := by decide +kernel
theorem d_X_doBlock_21 : decode c_X_doBlock 21 = .ok (.iload 4, 2) := by decide +kernel
theorem d_X_doBlock_23 : decode c_X_doBlock 23 = .ok (.aload_n 2, 1) := by decide +kernel
theorem d_X_doBlock_24 : decode c_X_doBlock 24 = .ok (.getfield 84, 3) := by decide +kernel
theorem d_X_doBlock_27 : decode c_X_doBlock 27 = .ok (.if_icmp .ge 34, 3) := by decide +kernel
theorem d_X_doBlock_30 : decode c_X_doBlock 30 = .ok (.iload_n 3, 1) := by decide +kernel
theorem d_X_doBlock_31 : decode c_X_doBlock 31 = .ok (.iload_n 1, 1) := by decide +kernel
theorem d_X_doBlock_32 : decode c_X_doBlock 32 = .ok (.if_icmp .ge 29, 3) := by decide +kernel
theorem d_X_doBlock_35 : decode c_X_doBlock 35 = .ok (.aload_n 0, 1) := by decide +kernel
theorem d_X_doBlock_36 : decode c_X_doBlock 36 = .ok (.aload_n 2, 1) := by decide +kernel
theorem d_X_doBlock_37 : decode c_X_doBlock 37 = .ok (.getfield 127, 3) := by decide +kernel
theorem d_X_doBlock_40 : decode c_X_doBlock 40 = .ok (.iload 4, 2) := by decide +kernel
theorem d_X_doBlock_42 : decode c_X_doBlock 42 = .ok (.iaload, 1) := by decide +kernel
theorem d_X_doBlock_43 : decode c_X_doBlock 43 = .ok (.invokevirtual 130, 3) := by decide +kernel
theorem d_X_doBlock_46 : decode c_X_doBlock 46 = .ok (.ifCond .ne 6, 3) := by decide +kernel
theorem d_X_doBlock_49 : decode c_X_doBlock 49 = .ok (.goto 12, 3) := by decide +kernel
theorem d_X_doBlock_52 : decode c_X_doBlock 52 = .ok (.iinc 3 1, 3) := by decide +kernel
theorem d_X_doBlock_55 : decode c_X_doBlock 55 = .ok (.iinc 4 1, 3) := by decide +kernel
theorem d_X_doBlock_58 : decode c_X_doBlock 58 = .ok (.goto (-44), 3) := by decide +kernel
theorem d_X_doBlock_61 : decode c_X_doBlock 61 = .ok (.iload_n 3, 1) := by decide +kernel
theorem d_X_doBlock_62 : decode c_X_doBlock 62 = .ok (.ireturn, 1) := by decide +kernel
theorem d_X_blockAt_0 : decode c_X_blockAt 0 = .ok (.aload_n 0, 1) := by decide +kernel
theorem d_X_blockAt_1 : decode c_X_blockAt 1 = .ok (.getfield 18, 3) := by decide +kernel
theorem d_X_blockAt_4 : decode c_X_blockAt 4 = .ok (.iload_n 1, 1) := by decide +kernel
theorem d_X_blockAt_5 : decode c_X_blockAt 5 = .ok (.bipush 31, 2) := by decide +kernel
theorem d_X_blockAt_7 : decode c_X_blockAt 7 = .ok (.iand, 1) := by decide +kernel
theorem d_X_blockAt_8 : decode c_X_blockAt 8 = .ok (.aaload, 1) := by decide +kernel
theorem d_X_blockAt_9 : decode c_X_blockAt 9 = .ok (.astore_n 2, 1) := by decide +kernel
theorem d_X_blockAt_10 : decode c_X_blockAt 10 = .ok (.aload_n 2, 1) := by decide +kernel
theorem d_X_blockAt_11 : decode c_X_blockAt 11 = .ok (.iload_n 1, 1) := by decide +kernel
theorem d_X_blockAt_12 : decode c_X_blockAt 12 = .ok (.invokevirtual 133, 3) := by decide +kernel
theorem d_X_blockAt_15 : decode c_X_blockAt 15 = .ok (.ifCond .eq 16, 3) := by decide +kernel
theorem d_X_blockAt_18 : decode c_X_blockAt 18 = .ok (.aload_n 0, 1) := by decide +kernel
theorem d_X_blockAt_19 : decode c_X_blockAt 19 = .ok (.dup, 1) := by decide +kernel
theorem d_X_blockAt_20 : decode c_X_blockAt 20 = .ok (.getfield 100, 3) := by decide +kernel
theorem d_X_blockAt_23 : decode c_X_blockAt 23 = .ok (.iconst 1, 1) := by decide +kernel
theorem d_X_blockAt_24 : decode c_X_blockAt 24 = .ok (.iadd, 1) := by decide +kernel
theorem d_X_blockAt_25 : decode c_X_blockAt 25 = .ok (.putfield 100, 3) := by decide +kernel
theorem d_X_blockAt_28 : decode c_X_blockAt 28 = .ok (.goto 9, 3) := by decide +kernel
theorem d_X_blockAt_31 : decode c_X_blockAt 31 = .ok (.aload_n 0, 1) := by decide +kernel
theorem d_X_blockAt_32 : decode c_X_blockAt 32 = .ok (.aload_n 2, 1) := by decide +kernel
theorem d_X_blockAt_33 : decode c_X_blockAt 33 = .ok (.iload_n 1, 1) := by decide +kernel
theorem d_X_blockAt_34 : decode c_X_blockAt 34 = .ok (.invokevirtual 136, 3) := by decide +kernel
theorem d_X_blockAt_37 : decode c_X_blockAt 37 = .ok (.aload_n 2, 1) := by decide +kernel
theorem d_X_blockAt_38 : decode c_X_blockAt 38 = .ok (.areturn, 1) := by decide +kernel
theorem d_X_decode_0 : decode c_X_decode 0 = .ok (.aload_n 1, 1) := by decide +kernel
theorem d_X_decode_1 : decode c_X_decode 1 = .ok (.iload_n 2, 1) := by decide +kernel
theorem d_X_decode_2 : decode c_X_decode 2 = .ok (.invokevirtual 116, 3) := by decide +kernel
theorem d_X_decode_5 : decode c_X_decode 5 = .ok (.iload_n 2, 1) := by decide +kernel
theorem d_X_decode_6 : decode c_X_decode 6 = .ok (.istore_n 3, 1) := by decide +kernel
theorem d_X_decode_7 : decode c_X_decode 7 = .ok (.iconst 1, 1) := by decide +kernel
theorem d_X_decode_8 : decode c_X_decode 8 = .ok (.istore 4, 2) := by decide +kernel
theorem d_X_decode_10 : decode c_X_decode 10 = .ok (.iconst 0, 1) := by decide +kernel
theorem d_X_decode_11 : decode c_X_decode 11 = .ok (.istore 5, 2) := by decide +kernel
theorem d_X_decode_13 : decode c_X_decode 13 = .ok (.iload 5, 2) := by decide +kernel
theorem d_X_decode_15 : decode c_X_decode 15 = .ok (.bipush 12, 2) := by decide +kernel
theorem d_X_decode_17 : decode c_X_decode 17 = .ok (.if_icmp .ge 84, 3) := by decide +kernel
theorem d_X_decode_20 : decode c_X_decode 20 = .ok (.iload 4, 2) := by decide +kernel
theorem d_X_decode_22 : decode c_X_decode 22 = .ok (.ifCond .eq 79, 3) := by decide +kernel
theorem d_X_decode_25 : decode c_X_decode 25 = .ok (.aload_n 0, 1) := by decide +kernel
theorem d_X_decode_26 : decode c_X_decode 26 = .ok (.iload_n 3, 1) := by decide +kernel
theorem d_X_decode_27 : decode c_X_decode 27 = .ok (.invokevirtual 140, 3) := by decide +kernel
theorem d_X_decode_30 : decode c_X_decode 30 = .ok (.istore 6, 2) := by decide +kernel
theorem d_X_decode_32 : decode c_X_decode 32 = .ok (.iload 6, 2) := by decide +kernel
theorem d_X_decode_34 : decode c_X_decode 34 = .ok (.bipush 12, 2) := by decide +kernel
theorem d_X_decode_36 : decode c_X_decode 36 = .ok (.ishr, 1) := by decide +kernel
theorem d_X_decode_37 : decode c_X_decode 37 = .ok (.istore 7, 2) := by decide +kernel
theorem d_X_decode_39 : decode c_X_decode 39 = .ok (.aload_n 1, 1) := by decide +kernel
theorem d_X_decode_40 : decode c_X_decode 40 = .ok (.getfield 127, 3) := by decide +kernel
theorem d_X_decode_43 : decode c_X_decode 43 = .ok (.iload 5, 2) := by decide +kernel
theorem d_X_decode_45 : decode c_X_decode 45 = .ok (.iload 6, 2) := by decide +kernel
theorem d_X_decode_47 : decode c_X_decode 47 = .ok (.iastore, 1) := by decide +kernel
theorem d_X_decode_48 : decode c_X_decode 48 = .ok (.aload_n 1, 1) := by decide +kernel
theorem d_X_decode_49 : decode c_X_decode 49 = .ok (.dup, 1) := by decide +kernel
theorem d_X_decode_50 : decode c_X_decode 50 = .ok (.getfield 84, 3) := by decide +kernel
theorem d_X_decode_53 : decode c_X_decode 53 = .ok (.iconst 1, 1) := by decide +kernel
theorem d_X_decode_54 : decode c_X_decode 54 = .ok (.iadd, 1) := by decide +kernel
theorem d_X_decode_55 : decode c_X_decode 55 = .ok (.putfield 84, 3) := by decide +kernel
theorem d_X_decode_58 : decode c_X_decode 58 = .ok (.iload_n 3, 1) := by decide +kernel
theorem d_X_decode_59 : decode c_X_decode 59 = .ok (.iload 7, 2) := by decide +kernel
theorem d_X_decode_61 : decode c_X_decode 61 = .ok (.bipush 16, 2) := by decide +kernel
theorem d_X_decode_63 : decode c_X_decode 63 = .ok (.if_icmp .ne 10, 3) := by decide +kernel
theorem d_X_decode_66 : decode c_X_decode 66 = .ok (.iload_n 3, 1) := by decide +kernel
theorem d_X_decode_67 : decode c_X_decode 67 = .ok (.invokestatic 143, 3) := by decide +kernel
theorem d_X_decode_70 : decode c_X_decode 70 = .ok (.goto 8, 3) := by decide +kernel
theorem d_X_decode_73 : decode c_X_decode 73 = .ok (.iload 7, 2) := by decide +kernel
theorem d_X_decode_75 : decode c_X_decode 75 = .ok (.invokestatic 146, 3) := by decide +kernel
theorem d_X_decode_78 : decode c_X_decode 78 = .ok (.iadd, 1) := by decide +kernel
theorem d_X_decode_79 : decode c_X_decode 79 = .ok (.istore_n 3, 1) := by decide +kernel
theorem d_X_decode_80 : decode c_X_decode 80 = .ok (.iload 7, 2) := by decide +kernel
theorem d_X_decode_82 : decode c_X_decode 82 = .ok (.invokestatic 149, 3) := by decide +kernel
theorem d_X_decode_85 : decode c_X_decode 85 = .ok (.ifCond .ne 7, 3) := by decide +kernel
theorem d_X_decode_88 : decode c_X_decode 88 = .ok (.iconst 1, 1) := by decide +kernel
theorem d_X_decode_89 : decode c_X_decode 89 = .ok (.goto 4, 3) := by decide +kernel
theorem d_X_decode_92 : decode c_X_decode 92 = .ok (.iconst 0, 1) := by decide +kernel
theorem d_X_decode_93 : decode c_X_decode 93 = .ok (.istore 4, 2) := by decide +kernel
theorem d_X_decode_95 : decode c_X_decode 95 = .ok (.iinc 5 1, 3) := by decide +kernel
theorem d_X_decode_98 : decode c_X_decode 98 = .ok (.goto (-85), 3) := by decide +kernel
theorem d_X_decode_101 : decode c_X_decode 101 = .ok (.aload_n 1, 1) := by decide +kernel
theorem d_X_decode_102 : decode c_X_decode 102 = .ok (.iload_n 3, 1) := by decide +kernel
theorem d_X_decode_103 : decode c_X_decode 103 = .ok (.iload_n 2, 1) := by decide +kernel
theorem d_X_decode_104 : decode c_X_decode 104 = .ok (.isub, 1) := by decide +kernel
theorem d_X_decode_105 : decode c_X_decode 105 = .ok (.putfield 87, 3) := by decide +kernel
theorem d_X_decode_108 : decode c_X_decode 108 = .ok (.aload_n 0, 1) := by decide +kernel
theorem d_X_decode_109 : decode c_X_decode 109 = .ok (.dup, 1) := by decide +kernel
theorem d_X_decode_110 : decode c_X_decode 110 = .ok (.getfield 97, 3) := by decide +kernel
theorem d_X_decode_113 : decode c_X_decode 113 = .ok (.iconst 1, 1) := by decide +kernel
theorem d_X_decode_114 : decode c_X_decode 114 = .ok (.iadd, 1) := by decide +kernel
theorem d_X_decode_115 : decode c_X_decode 115 = .ok (.putfield 97, 3) := by decide +kernel
theorem d_X_decode_118 : decode c_X_decode 118 = .ok (.aload_n 0, 1) := by decide +kernel
theorem d_X_decode_119 : decode c_X_decode 119 = .ok (.dup, 1) := by decide +kernel
theorem d_X_decode_120 : decode c_X_decode 120 = .ok (.getfield 113, 3) := by decide +kernel
theorem d_X_decode_123 : decode c_X_decode 123 = .ok (.aload_n 1, 1) := by decide +kernel
theorem d_X_decode_124 : decode c_X_decode 124 = .ok (.getfield 84, 3) := by decide +kernel
end
section
theorem d_X_decode_127 : decode c_X_decode 127 = .ok (.iadd, 1) := by decide +kernel
theorem d_X_decode_128 : decode c_X_decode 128 = .ok (.putfield 113, 3) := by decide +kernel
theorem d_X_decode_131 : decode c_X_decode 131 = .ok (.return_, 1) := by decide +kernel
theorem d_X_wordAt_0 : decode c_X_wordAt 0 = .ok (.iload_n 1, 1) := by decide +kernel
theorem d_X_wordAt_1 : decode c_X_wordAt 1 = .ok (.invokestatic 33, 3) := by decide +kernel
theorem d_X_wordAt_4 : decode c_X_wordAt 4 = .ok (.ifCond .ne 6, 3) := by decide +kernel
theorem d_X_wordAt_7 : decode c_X_wordAt 7 = .ok (.ldc 152, 2) := by decide +kernel
theorem d_X_wordAt_9 : decode c_X_wordAt 9 = .ok (.ireturn, 1) := by decide +kernel
theorem d_X_wordAt_10 : decode c_X_wordAt 10 = .ok (.aload_n 0, 1) := by decide +kernel
theorem d_X_wordAt_11 : decode c_X_wordAt 11 = .ok (.getfield 9, 3) := by decide +kernel
theorem d_X_wordAt_14 : decode c_X_wordAt 14 = .ok (.iload_n 1, 1) := by decide +kernel
theorem d_X_wordAt_15 : decode c_X_wordAt 15 = .ok (.iaload, 1) := by decide +kernel
theorem d_X_wordAt_16 : decode c_X_wordAt 16 = .ok (.bipush 8, 2) := by decide +kernel
theorem d_X_wordAt_18 : decode c_X_wordAt 18 = .ok (.ishl, 1) := by decide +kernel
theorem d_X_wordAt_19 : decode c_X_wordAt 19 = .ok (.istore_n 2, 1) := by decide +kernel
theorem d_X_wordAt_20 : decode c_X_wordAt 20 = .ok (.iload_n 2, 1) := by decide +kernel
theorem d_X_wordAt_21 : decode c_X_wordAt 21 = .ok (.bipush 12, 2) := by decide +kernel
theorem d_X_wordAt_23 : decode c_X_wordAt 23 = .ok (.ishr, 1) := by decide +kernel
theorem d_X_wordAt_24 : decode c_X_wordAt 24 = .ok (.invokestatic 146, 3) := by decide +kernel
theorem d_X_wordAt_27 : decode c_X_wordAt 27 = .ok (.iconst 1, 1) := by decide +kernel
theorem d_X_wordAt_28 : decode c_X_wordAt 28 = .ok (.if_icmp .ne 5, 3) := by decide +kernel
theorem d_X_wordAt_31 : decode c_X_wordAt 31 = .ok (.iload_n 2, 1) := by decide +kernel
theorem d_X_wordAt_32 : decode c_X_wordAt 32 = .ok (.ireturn, 1) := by decide +kernel
theorem d_X_wordAt_33 : decode c_X_wordAt 33 = .ok (.iload_n 1, 1) := by decide +kernel
theorem d_X_wordAt_34 : decode c_X_wordAt 34 = .ok (.iconst 1, 1) := by decide +kernel
theorem d_X_wordAt_35 : decode c_X_wordAt 35 = .ok (.iadd, 1) := by decide +kernel
theorem d_X_wordAt_36 : decode c_X_wordAt 36 = .ok (.invokestatic 33, 3) := by decide +kernel
theorem d_X_wordAt_39 : decode c_X_wordAt 39 = .ok (.ifCond .ne 6, 3) := by decide +kernel
theorem d_X_wordAt_42 : decode c_X_wordAt 42 = .ok (.ldc 152, 2) := by decide +kernel
theorem d_X_wordAt_44 : decode c_X_wordAt 44 = .ok (.ireturn, 1) := by decide +kernel
theorem d_X_wordAt_45 : decode c_X_wordAt 45 = .ok (.iload_n 2, 1) := by decide +kernel
theorem d_X_wordAt_46 : decode c_X_wordAt 46 = .ok (.aload_n 0, 1) := by decide +kernel
theorem d_X_wordAt_47 : decode c_X_wordAt 47 = .ok (.getfield 9, 3) := by decide +kernel
theorem d_X_wordAt_50 : decode c_X_wordAt 50 = .ok (.iload_n 1, 1) := by decide +kernel
theorem d_X_wordAt_51 : decode c_X_wordAt 51 = .ok (.iconst 1, 1) := by decide +kernel
theorem d_X_wordAt_52 : decode c_X_wordAt 52 = .ok (.iadd, 1) := by decide +kernel
theorem d_X_wordAt_53 : decode c_X_wordAt 53 = .ok (.iaload, 1) := by decide +kernel
theorem d_X_wordAt_54 : decode c_X_wordAt 54 = .ok (.ior, 1) := by decide +kernel
theorem d_X_wordAt_55 : decode c_X_wordAt 55 = .ok (.ireturn, 1) := by decide +kernel
theorem d_X_bytesOfOutside_0 : decode c_X_bytesOfOutside 0 = .ok (.iload_n 0, 1) := by decide +kernel
theorem d_X_bytesOfOutside_1 : decode c_X_bytesOfOutside 1 = .ok (.invokestatic 33, 3) := by decide +kernel
theorem d_X_bytesOfOutside_4 : decode c_X_bytesOfOutside 4 = .ok (.ifCond .eq 7, 3) := by decide +kernel
theorem d_X_bytesOfOutside_7 : decode c_X_bytesOfOutside 7 = .ok (.iconst 1, 1) := by decide +kernel
theorem d_X_bytesOfOutside_8 : decode c_X_bytesOfOutside 8 = .ok (.goto 4, 3) := by decide +kernel
theorem d_X_bytesOfOutside_11 : decode c_X_bytesOfOutside 11 = .ok (.iconst 0, 1) := by decide +kernel
theorem d_X_bytesOfOutside_12 : decode c_X_bytesOfOutside 12 = .ok (.ireturn, 1) := by decide +kernel
theorem d_X_lengthOf_0 : decode c_X_lengthOf 0 = .ok (.iload_n 0, 1) := by decide +kernel
theorem d_X_lengthOf_1 : decode c_X_lengthOf 1 = .ok (.ifCond .eq 15, 3) := by decide +kernel
theorem d_X_lengthOf_4 : decode c_X_lengthOf 4 = .ok (.iload_n 0, 1) := by decide +kernel
theorem d_X_lengthOf_5 : decode c_X_lengthOf 5 = .ok (.bipush 10, 2) := by decide +kernel
theorem d_X_lengthOf_7 : decode c_X_lengthOf 7 = .ok (.if_icmp .eq 9, 3) := by decide +kernel
theorem d_X_lengthOf_10 : decode c_X_lengthOf 10 = .ok (.iload_n 0, 1) := by decide +kernel
theorem d_X_lengthOf_11 : decode c_X_lengthOf 11 = .ok (.bipush 12, 2) := by decide +kernel
theorem d_X_lengthOf_13 : decode c_X_lengthOf 13 = .ok (.if_icmp .lt 7, 3) := by decide +kernel
theorem d_X_lengthOf_16 : decode c_X_lengthOf 16 = .ok (.iconst 1, 1) := by decide +kernel
theorem d_X_lengthOf_17 : decode c_X_lengthOf 17 = .ok (.goto 4, 3) := by decide +kernel
theorem d_X_lengthOf_20 : decode c_X_lengthOf 20 = .ok (.iconst 2, 1) := by decide +kernel
theorem d_X_lengthOf_21 : decode c_X_lengthOf 21 = .ok (.ireturn, 1) := by decide +kernel
theorem d_X_endsBlock_0 : decode c_X_endsBlock 0 = .ok (.iload_n 0, 1) := by decide +kernel
theorem d_X_endsBlock_1 : decode c_X_endsBlock 1 = .ok (.ifCond .eq 15, 3) := by decide +kernel
theorem d_X_endsBlock_4 : decode c_X_endsBlock 4 = .ok (.iload_n 0, 1) := by decide +kernel
theorem d_X_endsBlock_5 : decode c_X_endsBlock 5 = .ok (.bipush 7, 2) := by decide +kernel
theorem d_X_endsBlock_7 : decode c_X_endsBlock 7 = .ok (.if_icmp .eq 9, 3) := by decide +kernel
theorem d_X_endsBlock_10 : decode c_X_endsBlock 10 = .ok (.iload_n 0, 1) := by decide +kernel
theorem d_X_endsBlock_11 : decode c_X_endsBlock 11 = .ok (.bipush 12, 2) := by decide +kernel
theorem d_X_endsBlock_13 : decode c_X_endsBlock 13 = .ok (.if_icmp .lt 7, 3) := by decide +kernel
theorem d_X_endsBlock_16 : decode c_X_endsBlock 16 = .ok (.iconst 1, 1) := by decide +kernel
theorem d_X_endsBlock_17 : decode c_X_endsBlock 17 = .ok (.goto 4, 3) := by decide +kernel
theorem d_X_endsBlock_20 : decode c_X_endsBlock 20 = .ok (.iconst 0, 1) := by decide +kernel
theorem d_X_endsBlock_21 : decode c_X_endsBlock 21 = .ok (.ireturn, 1) := by decide +kernel
theorem d_X_doWord_0 : decode c_X_doWord 0 = .ok (.iload_n 1, 1) := by decide +kernel
theorem d_X_doWord_1 : decode c_X_doWord 1 = .ok (.bipush 12, 2) := by decide +kernel
theorem d_X_doWord_3 : decode c_X_doWord 3 = .ok (.ishr, 1) := by decide +kernel
theorem d_X_doWord_4 : decode c_X_doWord 4 = .ok (.istore_n 2, 1) := by decide +kernel
theorem d_X_doWord_5 : decode c_X_doWord 5 = .ok (.iload_n 1, 1) := by decide +kernel
theorem d_X_doWord_6 : decode c_X_doWord 6 = .ok (.bipush 8, 2) := by decide +kernel
theorem d_X_doWord_8 : decode c_X_doWord 8 = .ok (.ishr, 1) := by decide +kernel
theorem d_X_doWord_9 : decode c_X_doWord 9 = .ok (.bipush 15, 2) := by decide +kernel
theorem d_X_doWord_11 : decode c_X_doWord 11 = .ok (.iand, 1) := by decide +kernel
theorem d_X_doWord_12 : decode c_X_doWord 12 = .ok (.istore_n 3, 1) := by decide +kernel
theorem d_X_doWord_13 : decode c_X_doWord 13 = .ok (.iload_n 1, 1) := by decide +kernel
theorem d_X_doWord_14 : decode c_X_doWord 14 = .ok (.sipush 255, 3) := by decide +kernel
theorem d_X_doWord_17 : decode c_X_doWord 17 = .ok (.iand, 1) := by decide +kernel
theorem d_X_doWord_18 : decode c_X_doWord 18 = .ok (.istore 4, 2) := by decide +kernel
theorem d_X_doWord_20 : decode c_X_doWord 20 = .ok (.aload_n 0, 1) := by decide +kernel
theorem d_X_doWord_21 : decode c_X_doWord 21 = .ok (.aload_n 0, 1) := by decide +kernel
theorem d_X_doWord_22 : decode c_X_doWord 22 = .ok (.iload_n 2, 1) := by decide +kernel
theorem d_X_doWord_23 : decode c_X_doWord 23 = .ok (.iload 4, 2) := by decide +kernel
theorem d_X_doWord_25 : decode c_X_doWord 25 = .ok (.bipush 7, 2) := by decide +kernel
theorem d_X_doWord_27 : decode c_X_doWord 27 = .ok (.iand, 1) := by decide +kernel
theorem d_X_doWord_28 : decode c_X_doWord 28 = .ok (.invokevirtual 153, 3) := by decide +kernel
theorem d_X_doWord_31 : decode c_X_doWord 31 = .ok (.putfield 26, 3) := by decide +kernel
theorem d_X_doWord_34 : decode c_X_doWord 34 = .ok (.aload_n 0, 1) := by decide +kernel
theorem d_X_doWord_35 : decode c_X_doWord 35 = .ok (.getfield 26, 3) := by decide +kernel
theorem d_X_doWord_38 : decode c_X_doWord 38 = .ok (.ifCond .eq 5, 3) := by decide +kernel
theorem d_X_doWord_41 : decode c_X_doWord 41 = .ok (.iconst 0, 1) := by decide +kernel
theorem d_X_doWord_42 : decode c_X_doWord 42 = .ok (.ireturn, 1) := by decide +kernel
theorem d_X_doWord_43 : decode c_X_doWord 43 = .ok (.aload_n 0, 1) := by decide +kernel
theorem d_X_doWord_44 : decode c_X_doWord 44 = .ok (.dup, 1) := by decide +kernel
theorem d_X_doWord_45 : decode c_X_doWord 45 = .ok (.getfield 22, 3) := by decide +kernel
theorem d_X_doWord_48 : decode c_X_doWord 48 = .ok (.iload_n 2, 1) := by decide +kernel
theorem d_X_doWord_49 : decode c_X_doWord 49 = .ok (.invokestatic 146, 3) := by decide +kernel
theorem d_X_doWord_52 : decode c_X_doWord 52 = .ok (.iadd, 1) := by decide +kernel
theorem d_X_doWord_53 : decode c_X_doWord 53 = .ok (.putfield 22, 3) := by decide +kernel
theorem d_X_doWord_56 : decode c_X_doWord 56 = .ok (.aload_n 0, 1) := by decide +kernel
theorem d_X_doWord_57 : decode c_X_doWord 57 = .ok (.iload_n 2, 1) := by decide +kernel
theorem d_X_doWord_58 : decode c_X_doWord 58 = .ok (.iload_n 3, 1) := by decide +kernel
theorem d_X_doWord_59 : decode c_X_doWord 59 = .ok (.iload 4, 2) := by decide +kernel
theorem d_X_doWord_61 : decode c_X_doWord 61 = .ok (.invokevirtual 156, 3) := by decide +kernel
theorem d_X_doWord_64 : decode c_X_doWord 64 = .ok (.aload_n 0, 1) := by decide +kernel
theorem d_X_doWord_65 : decode c_X_doWord 65 = .ok (.dup, 1) := by decide +kernel
theorem d_X_doWord_66 : decode c_X_doWord 66 = .ok (.getfield 94, 3) := by decide +kernel
theorem d_X_doWord_69 : decode c_X_doWord 69 = .ok (.iconst 1, 1) := by decide +kernel
theorem d_X_doWord_70 : decode c_X_doWord 70 = .ok (.iadd, 1) := by decide +kernel
theorem d_X_doWord_71 : decode c_X_doWord 71 = .ok (.putfield 94, 3) := by decide +kernel
theorem d_X_doWord_74 : decode c_X_doWord 74 = .ok (.iconst 1, 1) := by decide +kernel
theorem d_X_doWord_75 : decode c_X_doWord 75 = .ok (.ireturn, 1) := by decide +kernel
theorem d_X_stateBefore_0 : decode c_X_stateBefore 0 = .ok (.iload_n 1, 1) := by decide +kernel
theorem d_X_stateBefore_1 : decode c_X_stateBefore 1 = .ok (.ifCond .ne 5, 3) := by decide +kernel
theorem d_X_stateBefore_4 : decode c_X_stateBefore 4 = .ok (.iconst 1, 1) := by decide +kernel
theorem d_X_stateBefore_5 : decode c_X_stateBefore 5 = .ok (.ireturn, 1) := by decide +kernel
theorem d_X_stateBefore_6 : decode c_X_stateBefore 6 = .ok (.iload_n 1, 1) := by decide +kernel
theorem d_X_stateBefore_7 : decode c_X_stateBefore 7 = .ok (.bipush 16, 2) := by decide +kernel
theorem d_X_stateBefore_9 : decode c_X_stateBefore 9 = .ok (.if_icmp .ne 5, 3) := by decide +kernel
theorem d_X_stateBefore_12 : decode c_X_stateBefore 12 = .ok (.iconst 4, 1) := by decide +kernel
theorem d_X_stateBefore_13 : decode c_X_stateBefore 13 = .ok (.ireturn, 1) := by decide +kernel
theorem d_X_stateBefore_14 : decode c_X_stateBefore 14 = .ok (.iload_n 1, 1) := by decide +kernel
theorem d_X_stateBefore_15 : decode c_X_stateBefore 15 = .ok (.bipush 12, 2) := by decide +kernel
theorem d_X_stateBefore_17 : decode c_X_stateBefore 17 = .ok (.if_icmp .lt 5, 3) := by decide +kernel
theorem d_X_stateBefore_20 : decode c_X_stateBefore 20 = .ok (.iconst 3, 1) := by decide +kernel
theorem d_X_stateBefore_21 : decode c_X_stateBefore 21 = .ok (.ireturn, 1) := by decide +kernel
theorem d_X_stateBefore_22 : decode c_X_stateBefore 22 = .ok (.iload_n 1, 1) := by decide +kernel
theorem d_X_stateBefore_23 : decode c_X_stateBefore 23 = .ok (.iconst 4, 1) := by decide +kernel
theorem d_X_stateBefore_24 : decode c_X_stateBefore 24 = .ok (.if_icmp .eq 8, 3) := by decide +kernel
theorem d_X_stateBefore_27 : decode c_X_stateBefore 27 = .ok (.iload_n 1, 1) := by decide +kernel
theorem d_X_stateBefore_28 : decode c_X_stateBefore 28 = .ok (.iconst 5, 1) := by decide +kernel
theorem d_X_stateBefore_29 : decode c_X_stateBefore 29 = .ok (.if_icmp .ne 17, 3) := by decide +kernel
theorem d_X_stateBefore_32 : decode c_X_stateBefore 32 = .ok (.aload_n 0, 1) := by decide +kernel
theorem d_X_stateBefore_33 : decode c_X_stateBefore 33 = .ok (.getfield 13, 3) := by decide +kernel
theorem d_X_stateBefore_36 : decode c_X_stateBefore 36 = .ok (.iload_n 2, 1) := by decide +kernel
theorem d_X_stateBefore_37 : decode c_X_stateBefore 37 = .ok (.iaload, 1) := by decide +kernel
theorem d_X_stateBefore_38 : decode c_X_stateBefore 38 = .ok (.invokestatic 33, 3) := by decide +kernel
theorem d_X_stateBefore_41 : decode c_X_stateBefore 41 = .ok (.ifCond .ne 5, 3) := by decide +kernel
theorem d_X_stateBefore_44 : decode c_X_stateBefore 44 = .ok (.iconst 2, 1) := by decide +kernel
theorem d_X_stateBefore_45 : decode c_X_stateBefore 45 = .ok (.ireturn, 1) := by decide +kernel
theorem d_X_stateBefore_46 : decode c_X_stateBefore 46 = .ok (.iconst 0, 1) := by decide +kernel
theorem d_X_stateBefore_47 : decode c_X_stateBefore 47 = .ok (.ireturn, 1) := by decide +kernel
theorem d_X_perform_0 : decode c_X_perform 0 = .ok (.iload_n 2, 1) := by decide +kernel
theorem d_X_perform_1 : decode c_X_perform 1 = .ok (.bipush 7, 2) := by decide +kernel
theorem d_X_perform_3 : decode c_X_perform 3 = .ok (.iand, 1) := by decide +kernel
theorem d_X_perform_4 : decode c_X_perform 4 = .ok (.istore 4, 2) := by decide +kernel
theorem d_X_perform_6 : decode c_X_perform 6 = .ok (.iload_n 3, 1) := by decide +kernel
theorem d_X_perform_7 : decode c_X_perform 7 = .ok (.bipush 7, 2) := by decide +kernel
theorem d_X_perform_9 : decode c_X_perform 9 = .ok (.iand, 1) := by decide +kernel
theorem d_X_perform_10 : decode c_X_perform 10 = .ok (.istore 5, 2) := by decide +kernel
theorem d_X_perform_12 : decode c_X_perform 12 = .ok (.iload_n 1, 1) := by decide +kernel
theorem d_X_perform_13 : decode c_X_perform 13 = .ok (.tableswitch 193 1 11 #[59, 193, 193, 73, 95, 193, 130, 154, 193, 193, 171], 59) := by decide +kernel
theorem d_X_perform_72 : decode c_X_perform 72 = .ok (.aload_n 0, 1) := by decide +kernel
theorem d_X_perform_73 : decode c_X_perform 73 = .ok (.getfield 13, 3) := by decide +kernel
theorem d_X_perform_76 : decode c_X_perform 76 = .ok (.iload 4, 2) := by decide +kernel
theorem d_X_perform_78 : decode c_X_perform 78 = .ok (.iload_n 3, 1) := by decide +kernel
theorem d_X_perform_79 : decode c_X_perform 79 = .ok (.invokestatic 160, 3) := by decide +kernel
theorem d_X_perform_82 : decode c_X_perform 82 = .ok (.iastore, 1) := by decide +kernel
theorem d_X_perform_83 : decode c_X_perform 83 = .ok (.goto 156, 3) := by decide +kernel
theorem d_X_perform_86 : decode c_X_perform 86 = .ok (.aload_n 0, 1) := by decide +kernel
theorem d_X_perform_87 : decode c_X_perform 87 = .ok (.getfield 13, 3) := by decide +kernel
theorem d_X_perform_90 : decode c_X_perform 90 = .ok (.iload 4, 2) := by decide +kernel
theorem d_X_perform_92 : decode c_X_perform 92 = .ok (.aload_n 0, 1) := by decide +kernel
theorem d_X_perform_93 : decode c_X_perform 93 = .ok (.getfield 9, 3) := by decide +kernel
theorem d_X_perform_96 : decode c_X_perform 96 = .ok (.aload_n 0, 1) := by decide +kernel
theorem d_X_perform_97 : decode c_X_perform 97 = .ok (.getfield 13, 3) := by decide +kernel
theorem d_X_perform_100 : decode c_X_perform 100 = .ok (.iload 5, 2) := by decide +kernel
theorem d_X_perform_102 : decode c_X_perform 102 = .ok (.iaload, 1) := by decide +kernel
theorem d_X_perform_103 : decode c_X_perform 103 = .ok (.iaload, 1) := by decide +kernel
theorem d_X_perform_104 : decode c_X_perform 104 = .ok (.iastore, 1) := by decide +kernel
theorem d_X_perform_105 : decode c_X_perform 105 = .ok (.goto 134, 3) := by decide +kernel
theorem d_X_perform_108 : decode c_X_perform 108 = .ok (.aload_n 0, 1) := by decide +kernel
theorem d_X_perform_109 : decode c_X_perform 109 = .ok (.aload_n 0, 1) := by decide +kernel
theorem d_X_perform_110 : decode c_X_perform 110 = .ok (.getfield 13, 3) := by decide +kernel
theorem d_X_perform_113 : decode c_X_perform 113 = .ok (.iload 5, 2) := by decide +kernel
theorem d_X_perform_115 : decode c_X_perform 115 = .ok (.iaload, 1) := by decide +kernel
theorem d_X_perform_116 : decode c_X_perform 116 = .ok (.aload_n 0, 1) := by decide +kernel
theorem d_X_perform_117 : decode c_X_perform 117 = .ok (.getfield 13, 3) := by decide +kernel
theorem d_X_perform_120 : decode c_X_perform 120 = .ok (.iload 4, 2) := by decide +kernel
theorem d_X_perform_122 : decode c_X_perform 122 = .ok (.iaload, 1) := by decide +kernel
theorem d_X_perform_123 : decode c_X_perform 123 = .ok (.sipush 255, 3) := by decide +kernel
theorem d_X_perform_126 : decode c_X_perform 126 = .ok (.iand, 1) := by decide +kernel
theorem d_X_perform_127 : decode c_X_perform 127 = .ok (.invokevirtual 49, 3) := by decide +kernel
theorem d_X_perform_130 : decode c_X_perform 130 = .ok (.aload_n 0, 1) := by decide +kernel
theorem d_X_perform_131 : decode c_X_perform 131 = .ok (.dup, 1) := by decide +kernel
theorem d_X_perform_132 : decode c_X_perform 132 = .ok (.getfield 110, 3) := by decide +kernel
theorem d_X_perform_135 : decode c_X_perform 135 = .ok (.iconst 1, 1) := by decide +kernel
theorem d_X_perform_136 : decode c_X_perform 136 = .ok (.iadd, 1) := by decide +kernel
theorem d_X_perform_137 : decode c_X_perform 137 = .ok (.putfield 110, 3) := by decide +kernel
theorem d_X_perform_140 : decode c_X_perform 140 = .ok (.goto 99, 3) := by decide +kernel
theorem d_X_perform_143 : decode c_X_perform 143 = .ok (.aload_n 0, 1) := by decide +kernel
theorem d_X_perform_144 : decode c_X_perform 144 = .ok (.iload_n 2, 1) := by decide +kernel
theorem d_X_perform_145 : decode c_X_perform 145 = .ok (.invokevirtual 163, 3) := by decide +kernel
theorem d_X_perform_148 : decode c_X_perform 148 = .ok (.ifCond .eq 91, 3) := by decide +kernel
theorem d_X_perform_151 : decode c_X_perform 151 = .ok (.aload_n 0, 1) := by decide +kernel
theorem d_X_perform_152 : decode c_X_perform 152 = .ok (.dup, 1) := by decide +kernel
theorem d_X_perform_153 : decode c_X_perform 153 = .ok (.getfield 22, 3) := by decide +kernel
theorem d_X_perform_156 : decode c_X_perform 156 = .ok (.iload_n 3, 1) := by decide +kernel
theorem d_X_perform_157 : decode c_X_perform 157 = .ok (.invokestatic 160, 3) := by decide +kernel
theorem d_X_perform_160 : decode c_X_perform 160 = .ok (.iadd, 1) := by decide +kernel
theorem d_X_perform_161 : decode c_X_perform 161 = .ok (.putfield 22, 3) := by decide +kernel
theorem d_X_perform_164 : decode c_X_perform 164 = .ok (.goto 75, 3) := by decide +kernel
theorem d_X_perform_167 : decode c_X_perform 167 = .ok (.aload_n 0, 1) := by decide +kernel
theorem d_X_perform_168 : decode c_X_perform 168 = .ok (.getfield 13, 3) := by decide +kernel
theorem d_X_perform_171 : decode c_X_perform 171 = .ok (.iload 4, 2) := by decide +kernel
theorem d_X_perform_173 : decode c_X_perform 173 = .ok (.aload_n 0, 1) := by decide +kernel
theorem d_X_perform_174 : decode c_X_perform 174 = .ok (.getfield 13, 3) := by decide +kernel
theorem d_X_perform_177 : decode c_X_perform 177 = .ok (.iload 5, 2) := by decide +kernel
theorem d_X_perform_179 : decode c_X_perform 179 = .ok (.iaload, 1) := by decide +kernel
theorem d_X_perform_180 : decode c_X_perform 180 = .ok (.iastore, 1) := by decide +kernel
theorem d_X_perform_181 : decode c_X_perform 181 = .ok (.goto 58, 3) := by decide +kernel
theorem d_X_perform_184 : decode c_X_perform 184 = .ok (.aload_n 0, 1) := by decide +kernel
theorem d_X_perform_185 : decode c_X_perform 185 = .ok (.aload_n 0, 1) := by decide +kernel
theorem d_X_perform_186 : decode c_X_perform 186 = .ok (.getfield 13, 3) := by decide +kernel
theorem d_X_perform_189 : decode c_X_perform 189 = .ok (.iload 4, 2) := by decide +kernel
theorem d_X_perform_191 : decode c_X_perform 191 = .ok (.iaload, 1) := by decide +kernel
theorem d_X_perform_192 : decode c_X_perform 192 = .ok (.aload_n 0, 1) := by decide +kernel
theorem d_X_perform_193 : decode c_X_perform 193 = .ok (.getfield 13, 3) := by decide +kernel
theorem d_X_perform_196 : decode c_X_perform 196 = .ok (.iload 5, 2) := by decide +kernel
theorem d_X_perform_198 : decode c_X_perform 198 = .ok (.iaload, 1) := by decide +kernel
theorem d_X_perform_199 : decode c_X_perform 199 = .ok (.isub, 1) := by decide +kernel
theorem d_X_perform_200 : decode c_X_perform 200 = .ok (.putfield 29, 3) := by decide +kernel
theorem d_X_perform_203 : decode c_X_perform 203 = .ok (.goto 36, 3) := by decide +kernel
theorem d_X_perform_206 : decode c_X_perform 206 = .ok (.aload_n 0, 1) := by decide +kernel
theorem d_X_perform_207 : decode c_X_perform 207 = .ok (.iload_n 1, 1) := by decide +kernel
theorem d_X_perform_208 : decode c_X_perform 208 = .ok (.aload_n 0, 1) := by decide +kernel
theorem d_X_perform_209 : decode c_X_perform 209 = .ok (.getfield 13, 3) := by decide +kernel
theorem d_X_perform_212 : decode c_X_perform 212 = .ok (.iload 4, 2) := by decide +kernel
theorem d_X_perform_214 : decode c_X_perform 214 = .ok (.iaload, 1) := by decide +kernel
theorem d_X_perform_215 : decode c_X_perform 215 = .ok (.aload_n 0, 1) := by decide +kernel
theorem d_X_perform_216 : decode c_X_perform 216 = .ok (.getfield 13, 3) := by decide +kernel
theorem d_X_perform_219 : decode c_X_perform 219 = .ok (.iload 5, 2) := by decide +kernel
theorem d_X_perform_221 : decode c_X_perform 221 = .ok (.iaload, 1) := by decide +kernel
theorem d_X_perform_222 : decode c_X_perform 222 = .ok (.invokestatic 166, 3) := by decide +kernel
theorem d_X_perform_225 : decode c_X_perform 225 = .ok (.putfield 29, 3) := by decide +kernel
theorem d_X_perform_228 : decode c_X_perform 228 = .ok (.aload_n 0, 1) := by decide +kernel
theorem d_X_perform_229 : decode c_X_perform 229 = .ok (.getfield 13, 3) := by decide +kernel
theorem d_X_perform_232 : decode c_X_perform 232 = .ok (.iload 4, 2) := by decide +kernel
theorem d_X_perform_234 : decode c_X_perform 234 = .ok (.aload_n 0, 1) := by decide +kernel
theorem d_X_perform_235 : decode c_X_perform 235 = .ok (.getfield 29, 3) := by decide +kernel
theorem d_X_perform_238 : decode c_X_perform 238 = .ok (.iastore, 1) := by decide +kernel
theorem d_X_perform_239 : decode c_X_perform 239 = .ok (.return_, 1) := by decide +kernel
theorem d_X_worked_0 : decode c_X_worked 0 = .ok (.iload_n 0, 1) := by decide +kernel
theorem d_X_worked_1 : decode c_X_worked 1 = .ok (.tableswitch 63 2 9 #[47, 51, 63, 63, 55, 63, 63, 59], 47) := by decide +kernel
theorem d_X_worked_48 : decode c_X_worked 48 = .ok (.iload_n 1, 1) := by decide +kernel
theorem d_X_worked_49 : decode c_X_worked 49 = .ok (.iload_n 2, 1) := by decide +kernel
theorem d_X_worked_50 : decode c_X_worked 50 = .ok (.iadd, 1) := by decide +kernel
theorem d_X_worked_51 : decode c_X_worked 51 = .ok (.ireturn, 1) := by decide +kernel
theorem d_X_worked_52 : decode c_X_worked 52 = .ok (.iload_n 1, 1) := by decide +kernel
theorem d_X_worked_53 : decode c_X_worked 53 = .ok (.iload_n 2, 1) := by decide +kernel
theorem d_X_worked_54 : decode c_X_worked 54 = .ok (.isub, 1) := by decide +kernel
theorem d_X_worked_55 : decode c_X_worked 55 = .ok (.ireturn, 1) := by decide +kernel
theorem d_X_worked_56 : decode c_X_worked 56 = .ok (.iload_n 1, 1) := by decide +kernel
theorem d_X_worked_57 : decode c_X_worked 57 = .ok (.iload_n 2, 1) := by decide +kernel
theorem d_X_worked_58 : decode c_X_worked 58 = .ok (.iand, 1) := by decide +kernel
theorem d_X_worked_59 : decode c_X_worked 59 = .ok (.ireturn, 1) := by decide +kernel
theorem d_X_worked_60 : decode c_X_worked 60 = .ok (.iload_n 1, 1) := by decide +kernel
theorem d_X_worked_61 : decode c_X_worked 61 = .ok (.iload_n 2, 1) := by decide +kernel
theorem d_X_worked_62 : decode c_X_worked 62 = .ok (.imul, 1) := by decide +kernel
theorem d_X_worked_63 : decode c_X_worked 63 = .ok (.ireturn, 1) := by decide +kernel
theorem d_X_worked_64 : decode c_X_worked 64 = .ok (.iload_n 1, 1) := by decide +kernel
theorem d_X_worked_65 : decode c_X_worked 65 = .ok (.iconst 1, 1) := by decide +kernel
theorem d_X_worked_66 : decode c_X_worked 66 = .ok (.ishr, 1) := by decide +kernel
theorem d_X_worked_67 : decode c_X_worked 67 = .ok (.ireturn, 1) := by decide +kernel
theorem d_X_holds_0 : decode c_X_holds 0 = .ok (.iload_n 1, 1) := by decide +kernel
theorem d_X_holds_1 : decode c_X_holds 1 = .ok (.tableswitch 73 0 4 #[35, 37, 42, 55, 60], 35) := by decide +kernel
theorem d_X_holds_36 : decode c_X_holds 36 = .ok (.iconst 1, 1) := by decide +kernel
theorem d_X_holds_37 : decode c_X_holds 37 = .ok (.ireturn, 1) := by decide +kernel
theorem d_X_holds_38 : decode c_X_holds 38 = .ok (.aload_n 0, 1) := by decide +kernel
theorem d_X_holds_39 : decode c_X_holds 39 = .ok (.invokevirtual 69, 3) := by decide +kernel
theorem d_X_holds_42 : decode c_X_holds 42 = .ok (.ireturn, 1) := by decide +kernel
theorem d_X_holds_43 : decode c_X_holds 43 = .ok (.aload_n 0, 1) := by decide +kernel
theorem d_X_holds_44 : decode c_X_holds 44 = .ok (.invokevirtual 69, 3) := by decide +kernel
theorem d_X_holds_47 : decode c_X_holds 47 = .ok (.ifCond .ne 7, 3) := by decide +kernel
theorem d_X_holds_50 : decode c_X_holds 50 = .ok (.iconst 1, 1) := by decide +kernel
theorem d_X_holds_51 : decode c_X_holds 51 = .ok (.goto 4, 3) := by decide +kernel
theorem d_X_holds_54 : decode c_X_holds 54 = .ok (.iconst 0, 1) := by decide +kernel
theorem d_X_holds_55 : decode c_X_holds 55 = .ok (.ireturn, 1) := by decide +kernel
theorem d_X_holds_56 : decode c_X_holds 56 = .ok (.aload_n 0, 1) := by decide +kernel
theorem d_X_holds_57 : decode c_X_holds 57 = .ok (.invokevirtual 73, 3) := by decide +kernel
theorem d_X_holds_60 : decode c_X_holds 60 = .ok (.ireturn, 1) := by decide +kernel
theorem d_X_holds_61 : decode c_X_holds 61 = .ok (.aload_n 0, 1) := by decide +kernel
theorem d_X_holds_62 : decode c_X_holds 62 = .ok (.invokevirtual 73, 3) := by decide +kernel
theorem d_X_holds_65 : decode c_X_holds 65 = .ok (.ifCond .ne 7, 3) := by decide +kernel
theorem d_X_holds_68 : decode c_X_holds 68 = .ok (.iconst 1, 1) := by decide +kernel
theorem d_X_holds_69 : decode c_X_holds 69 = .ok (.goto 4, 3) := by decide +kernel
theorem d_X_holds_72 : decode c_X_holds 72 = .ok (.iconst 0, 1) := by decide +kernel
theorem d_X_holds_73 : decode c_X_holds 73 = .ok (.ireturn, 1) := by decide +kernel
theorem d_X_holds_74 : decode c_X_holds 74 = .ok (.iconst 0, 1) := by decide +kernel
theorem d_X_holds_75 : decode c_X_holds 75 = .ok (.ireturn, 1) := by decide +kernel
theorem d_X_belowZeroToo_0 : decode c_X_belowZeroToo 0 = .ok (.iload_n 0, 1) := by decide +kernel
theorem d_X_belowZeroToo_1 : decode c_X_belowZeroToo 1 = .ok (.sipush 128, 3) := by decide +kernel
theorem d_X_belowZeroToo_4 : decode c_X_belowZeroToo 4 = .ok (.if_icmp .ge 7, 3) := by decide +kernel
theorem d_X_belowZeroToo_7 : decode c_X_belowZeroToo 7 = .ok (.iload_n 0, 1) := by decide +kernel
theorem d_X_belowZeroToo_8 : decode c_X_belowZeroToo 8 = .ok (.goto 8, 3) := by decide +kernel
theorem d_X_belowZeroToo_11 : decode c_X_belowZeroToo 11 = .ok (.iload_n 0, 1) := by decide +kernel
theorem d_X_belowZeroToo_12 : decode c_X_belowZeroToo 12 = .ok (.sipush 256, 3) := by decide +kernel
theorem d_X_belowZeroToo_15 : decode c_X_belowZeroToo 15 = .ok (.isub, 1) := by decide +kernel
theorem d_X_belowZeroToo_16 : decode c_X_belowZeroToo 16 = .ok (.ireturn, 1) := by decide +kernel
end
section
/-! GJ: the walk of a body with a list of locals and a world of cells, from any heap that holds them -/
/-- the locals: the list says what stands at 0, 1, 2, .. (no long among them) -/
def gl_h (ls : Array Slot) (n : Nat) (L : List Value) : Prop := ls.size = n ∧ lv_wf ls ∧ (∀ v ∈ L, v.category = 1) ∧ ∀ (k : Nat) (v : Value), L[k]? = some v → ls[k]? = some (.val v)
def gl_ix (L : List Value) : List (Nat × Value) := L.zipIdx.map (fun q => (q.2, q.1))
def gl_set : List Value → Nat → Value → List Value
  | [], _, v => [v]
  | _ :: t, 0, v => v :: t
  | a :: t, i + 1, v => a :: gl_set t i v
theorem gl_set_at : ∀ (L : List Value) (i : Nat) (x : Value), i ≤ L.length → ∀ (k : Nat) (v : Value), (gl_set L i x)[k]? = some v → (k = i ∧ v = x) ∨ (k ≠ i ∧ L[k]? = some v)
  | [], i, x, hi, k, v, hk => by
    have h0 : i = 0 := by simpa using hi
    subst h0
    cases k with
    | zero => exact Or.inl ⟨rfl, (Option.some.inj hk).symm⟩
    | succ k => simp [gl_set] at hk
  | b :: t, 0, x, hi, k, v, hk => by
    cases k with
    | zero => exact Or.inl ⟨rfl, (Option.some.inj hk).symm⟩
    | succ k => exact Or.inr ⟨by omega, hk⟩
  | b :: t, i + 1, x, hi, k, v, hk => by
    cases k with
    | zero => exact Or.inr ⟨by omega, hk⟩
    | succ k =>
      have hk2 : (gl_set t i x)[k]? = some v := hk
      rcases gl_set_at t i x (by simpa using hi) k v hk2 with ⟨h1, h2⟩ | ⟨h1, h2⟩
      · exact Or.inl ⟨by omega, h2⟩
      · exact Or.inr ⟨by omega, h2⟩
theorem gl_mem {L : List Value} {k : Nat} {v : Value} : (k, v) ∈ gl_ix L ↔ L[k]? = some v := by
  constructor
  · intro h
    obtain ⟨⟨v', k'⟩, hm, he⟩ := List.mem_map.mp h
    cases he
    exact List.mk_mem_zipIdx_iff_getElem?.mp hm
  · intro h
    exact List.mem_map.mpr ⟨(v, k), List.mk_mem_zipIdx_iff_getElem?.mpr h, rfl⟩
theorem gl_has {ls : Array Slot} {n : Nat} {L : List Value} (h : gl_h ls n L) : lv_has ls n (gl_ix L) := ⟨h.1, h.2.1, fun q hq => h.2.2.2 q.1 q.2 (gl_mem.mp hq)⟩
theorem gl_put {ls : Array Slot} {n i : Nat} {L : List Value} {x : Value} (hL : ∀ v ∈ L, v.category = 1) (hi : i ≤ L.length) (hx : x.category = 1)
    (h : lv_has ls n ((i, x) :: (gl_ix L).filter (fun q => !(q.1 == i) && !(q.1 + 1 == i && q.2.category == 2)))) : gl_h ls n (gl_set L i x) := by
  have key := gl_set_at L i x hi
  refine ⟨h.1, h.2.1, fun v hv => ?_, fun k v hk => ?_⟩
  · obtain ⟨k, hk⟩ := List.getElem?_of_mem hv
    rcases key k v hk with ⟨-, rfl⟩ | ⟨-, h2⟩
    · exact hx
    · exact hL v (List.mem_of_getElem? h2)
  · rcases key k v hk with ⟨rfl, rfl⟩ | ⟨h1, h2⟩
    · exact h.2.2 _ List.mem_cons_self
    · refine h.2.2 (k, v) (List.mem_cons_of_mem _ (List.mem_filter.mpr ⟨gl_mem.mpr h2, ?_⟩))
      have hc : v.category = 1 := hL v (List.mem_of_getElem? h2)
      simp [h1, hc]
theorem gl_take {ls : Array Slot} {n : Nat} {L : List Value} (k : Nat) (h : gl_h ls n L) : gl_h ls n (L.take k) := by
  refine ⟨h.1, h.2.1, fun v hv => h.2.2.1 v (List.mem_of_mem_take hv), fun j v hj => h.2.2.2 j v ?_⟩
  rw [List.getElem?_take] at hj
  split at hj
  · exact hj
  · cases hj
theorem gl_pre {ls : Array Slot} {n : Nat} {L L' : List Value} (h : gl_h ls n (L ++ L')) : gl_h ls n L := by
  refine ⟨h.1, h.2.1, fun v hv => h.2.2.1 v (List.mem_append_left _ hv), fun j v hj => h.2.2.2 j v ?_⟩
  rw [List.getElem?_append_left (List.getElem?_eq_some_iff.mp hj).1]
  exact hj
/-- the locals with which a method begins -/
theorem gl_entry (vs : List Value) (hc : ∀ v ∈ vs, v.category = 1) {n : Nat} (hn : (lg_sl vs).length ≤ n) : gl_h ((lg_sl vs ++ List.replicate (n - (lg_sl vs).length) Slot.unset).toArray) n vs := by
  have h := lv_entry vs hn
  have ha : ∀ (vs : List Value) (i : Nat), (∀ v ∈ vs, v.category = 1) → ∀ (k : Nat) (v : Value), vs[k]? = some v → (i + k, v) ∈ lv_args i vs := by
    intro vs
    induction vs with
    | nil => intro i _ k v hk; simp at hk
    | cons a t ih =>
      intro i hc k v hk
      have h1 : a.category = 1 := hc a List.mem_cons_self
      have e : lv_args i (a :: t) = (i, a) :: lv_args (i + 1) t := by simp [lv_args, h1]
      rw [e]
      cases k with
      | zero =>
        simp only [List.getElem?_cons_zero, Option.some.injEq] at hk
        subst hk
        exact List.mem_cons_self
      | succ k =>
        rw [List.getElem?_cons_succ] at hk
        have := ih (i + 1) (fun v hv => hc v (List.mem_cons_of_mem _ hv)) k v hk
        rw [show i + 1 + k = i + (k + 1) by omega] at this
        exact List.mem_cons_of_mem _ this
  refine ⟨h.1, h.2.1, hc, fun k v hk => ?_⟩
  have h2 := h.2.2 _ (ha vs 0 hc k v hk)
  rw [Nat.zero_add] at h2
  exact h2

section GJ
variable {p : Program} {l : Launch} {e : Env} {R : Room} {s : State} {m : MethodId} {args : Array Value} {below : List Frame} {meth : Method} {c : Code} {cells slots : Nat} {Q : State → Prop}
variable {D : va_G} {cl : List vw_C} {A : Nat → Prop} {H0 : Heap} {n : Nat} {w : va_W} {pc pc2 pc3 : Nat} {L L' st st2 : List Value}
def GJ (p : Program) (l : Launch) (e : Env) (R : Room) (s : State) (m : MethodId) (args : Array Value) (below : List Frame) (meth : Method) (c : Code) (D : va_G) (cl : List vw_C) (A : Nat → Prop) (H0 : Heap) (n : Nat) (Q : State → Prop) (cells slots : Nat) (w : va_W) (pc : Nat) (L st : List Value) : Prop :=
  ∀ (ls : Array Slot) (H : Heap) (locs : List Loc), gl_h ls n L → va_P D cl w H → va_D A w → va_S A H0 H locs → W p l e R s m args below meth c H locs cells slots Q (F0 m pc ls st)
/-- an instruction of the stack alone -/
theorem gj_l (r : ∀ (ls : Array Slot) (H : Heap) (locs : List Loc), W p l e R s m args below meth c H locs cells slots Q (F0 m pc2 ls st2) → W p l e R s m args below meth c H locs cells slots Q (F0 m pc ls st))
    (k : GJ p l e R s m args below meth c D cl A H0 n Q cells slots w pc2 L st2) : GJ p l e R s m args below meth c D cl A H0 n Q cells slots w pc L st := fun ls H locs h1 h2 h3 h4 => r ls H locs (k ls H locs h1 h2 h3 h4)
/-- a local is loaded -/
theorem gj_ld {i : Nat} {v : Value} (hv : L[i]? = some v) (r : ∀ (ls : Array Slot) (H : Heap) (locs : List Loc), ls[i]? = some (.val v) → W p l e R s m args below meth c H locs cells slots Q (F0 m pc2 ls st2) → W p l e R s m args below meth c H locs cells slots Q (F0 m pc ls st))
    (k : GJ p l e R s m args below meth c D cl A H0 n Q cells slots w pc2 L st2) : GJ p l e R s m args below meth c D cl A H0 n Q cells slots w pc L st := fun ls H locs h1 h2 h3 h4 => r ls H locs (h1.2.2.2 i v hv) (k ls H locs h1 h2 h3 h4)
/-- a branch -/
theorem gj_if {P P' : Prop} (r : ∀ (ls : Array Slot) (H : Heap) (locs : List Loc), (P → W p l e R s m args below meth c H locs cells slots Q (F0 m pc2 ls st2)) → (P' → W p l e R s m args below meth c H locs cells slots Q (F0 m pc3 ls st2)) → W p l e R s m args below meth c H locs cells slots Q (F0 m pc ls st))
    (kt : P → GJ p l e R s m args below meth c D cl A H0 n Q cells slots w pc2 L st2) (kf : P' → GJ p l e R s m args below meth c D cl A H0 n Q cells slots w pc3 L st2) : GJ p l e R s m args below meth c D cl A H0 n Q cells slots w pc L st :=
  fun ls H locs h1 h2 h3 h4 => r ls H locs (fun h => kt h ls H locs h1 h2 h3 h4) (fun h => kf h ls H locs h1 h2 h3 h4)
/-- a local is stored -/
theorem gj_st {i : Nat} {x : Value} (hi : i ≤ L.length) (hx : x.category = 1)
    (r : ∀ (ls : Array Slot) (H : Heap) (locs : List Loc) (lv lv' : List (Nat × Value)), lv_has ls n lv → (i, x) :: lv.filter (fun q => !(q.1 == i) && !(q.1 + 1 == i && q.2.category == 2)) = lv' → (∀ ls' : Array Slot, lv_has ls' n lv' → W p l e R s m args below meth c H locs cells slots Q (F0 m pc2 ls' st2)) → W p l e R s m args below meth c H locs cells slots Q (F0 m pc ls st))
    (k : GJ p l e R s m args below meth c D cl A H0 n Q cells slots w pc2 (gl_set L i x) st2) : GJ p l e R s m args below meth c D cl A H0 n Q cells slots w pc L st := by
  intro ls H locs h1 h2 h3 h4
  refine r ls H locs (gl_ix L) _ (gl_has h1) rfl (fun ls' h' => k ls' H locs ?_ h2 h3 h4)
  exact gl_put h1.2.2.1 hi hx h'
theorem gj_iinc {cc : ByteArray} {i : Nat} {z : Int} {x v : Int32} (hexec : p.tables.exec = Jvm.exec) (hb : c.code = cc) (hdg : decode cc pc = .ok (.iinc i z, 3)) (hn : i < n) (hx : L[i]? = some (.int x)) (hv : x + Int32.ofInt z = v) (hp : pc + 3 = pc2)
    (k : GJ p l e R s m args below meth c D cl A H0 n Q cells slots w pc2 (gl_set L i (.int v)) st) : GJ p l e R s m args below meth c D cl A H0 n Q cells slots w pc L st := by
  intro ls H locs h1 h2 h3 h4
  have hk : (gl_ix L)[i]? = some (i, .int x) := by
    unfold gl_ix
    rw [List.getElem?_map, List.getElem?_zipIdx, hx]
    simp
  subst hp
  refine lv_iinc hexec hb hdg (gl_has h1) hk hv hn rfl (fun ls' h' => k ls' H locs ?_ h2 h3 h4)
  exact gl_put h1.2.2.1 (Nat.le_of_lt (List.getElem?_eq_some_iff.mp hx).1) rfl h'
/-- a read of the heap -/
theorem gj_m (r : ∀ (ls : Array Slot) (H : Heap) (locs : List Loc), va_P D cl w H → W p l e R s m args below meth c H locs cells slots Q (F0 m pc2 ls st2) → W p l e R s m args below meth c H locs cells slots Q (F0 m pc ls st))
    (k : GJ p l e R s m args below meth c D cl A H0 n Q cells slots w pc2 L st2) : GJ p l e R s m args below meth c D cl A H0 n Q cells slots w pc L st := fun ls H locs h1 h2 h3 h4 => r ls H locs h2 (k ls H locs h1 h2 h3 h4)
/-- a write of the heap -/
theorem gj_p {w2 : va_W} (r : ∀ (ls : Array Slot) (H : Heap) (locs : List Loc), va_P D cl w H → va_D A w → va_S A H0 H locs → (∀ (H1 : Heap) (locs1 : List Loc), va_P D cl w2 H1 → va_D A w2 → va_S A H0 H1 locs1 → W p l e R s m args below meth c H1 locs1 cells slots Q (F0 m pc2 ls st2)) → W p l e R s m args below meth c H locs cells slots Q (F0 m pc ls st))
    (k : GJ p l e R s m args below meth c D cl A H0 n Q cells slots w2 pc2 L st2) : GJ p l e R s m args below meth c D cl A H0 n Q cells slots w pc L st := fun ls H locs h1 h2 h3 h4 => r ls H locs h2 h3 h4 (fun H1 locs1 g2 g3 g4 => k ls H1 locs1 h1 g2 g3 g4)
/-- fewer locals -/
theorem gj_drop {L0 : List Value} (k : GJ p l e R s m args below meth c D cl A H0 n Q cells slots w pc L st) : GJ p l e R s m args below meth c D cl A H0 n Q cells slots w pc (L ++ L0) st := fun ls H locs h1 h2 h3 h4 => k ls H locs (gl_pre h1) h2 h3 h4
theorem gj_eq {w2 : va_W} {L2 st3 : List Value} (hw : w = w2) (hL : L = L2) (hs : st = st3) (k : GJ p l e R s m args below meth c D cl A H0 n Q cells slots w2 pc L2 st3) : GJ p l e R s m args below meth c D cl A H0 n Q cells slots w pc L st := by
  subst hw; subst hL; subst hs; exact k
theorem gj_wide {k9 n9 : Nat} (h1 : cells ≤ k9) (h2 : slots ≤ n9) (k : GJ p l e R s m args below meth c D cl A H0 n Q k9 n9 w pc L st) : GJ p l e R s m args below meth c D cl A H0 n Q cells slots w pc L st := fun ls H locs g1 g2 g3 g4 => W.widen h1 h2 (k ls H locs g1 g2 g3 g4)
end GJ
end
section
/-! what every body may lean on beside its words: words that are no good words, texts, the two statics of Throwable -/
def ev_N : List Cond := [.methodLinkNest rX 32 y_B_init rX, .fieldLinkNest rX 127 rB "words" "[I" rX, .fieldLinkNest rX 81 rB "begin" "I" rX, .fieldLinkNest rX 84 rB "wordCount" "I" rX, .fieldLinkNest rX 87 rB "byteCount" "I" rX, .methodLinkNest rX 78 y_B_isKept rX, .methodLinkNest rX 116 y_B_empty rX, .methodLinkNest rX 120 y_B_hasByte rX, .methodLinkNest rX 133 y_B_beginsAt rX, .arrayOver (.object rB), .castable "java/lang/IndexOutOfBoundsException" "java/lang/IndexOutOfBoundsException", .castable "java/lang/IllegalArgumentException" "java/lang/IllegalArgumentException", .declares ⟨"java/lang/RuntimeException", "<init>", "(Ljava/lang/String;)V"⟩, .declares ⟨"java/lang/Exception", "<init>", "(Ljava/lang/String;)V"⟩, .declares ⟨"java/lang/Throwable", "<init>", "(Ljava/lang/String;)V"⟩]
def ev_S : List (String × Nat × String) := [(rX, 39, "no such byte"), (rX, 46, "not a byte"), (rX, 53, "no such place"), (rX, 61, "no such register"), (rX, 63, "not 1 to 100 steps"), (rX, 76, "no such row or what")]
def ev_k : Cond → Bool
  | .methodLinkNest .. => true
  | .fieldLinkNest .. => true
  | .arrayOver (.object _) => true
  | .castable .. => true
  | .declares _ => true
  | _ => false
theorem ev_kN : ∀ w ∈ ev_N, ev_k w = true := by decide +kernel
theorem ev_warm {w : Cond} (hk : ev_k w = true) {s U : State} (hW : s.WarmedH U.vm) (h : va_Nw w s) : va_Nw w U := by
  cases w with
  | methodLinkNest a i x h9 => exact va_Nw.warmM hW h
  | fieldLinkNest a i b n d h9 => exact va_Nw.warmF hW h
  | arrayOver t =>
    cases t with
    | object C => exact va_AO.moved hW.alike h
    | _ => cases hk
  | declares x => exact va_Nw.warmD hW h
  | castable a b =>
    obtain ⟨c3, c4, h3, h4, h5⟩ := Cond.castable_spec (show (Cond.castable a b).before #[] s = true from h)
    have e3 : U.vm.findClass a = some c3 := by rw [hW.alike.findClass]; exact h3
    have e4 : U.vm.findClass b = some c4 := by rw [hW.alike.findClass]; exact h4
    have e5 : U.vm.assignable c3 c4 = true := by rw [hW.alike.assignable]; exact h5
    simp [va_Nw, Cond.before, Cond.holds, Cond.value, e3, e4, e5]
  | _ => cases hk
def EV (A : Nat → Prop) (U : State) : Prop := (∀ w ∈ ev_N, va_Nw w U) ∧ (∀ q ∈ ev_S, ∃ a : Nat, vk_R q.1 q.2.1 q.2.2 a U) ∧ vx_Zq Bundle.tN "UNASSIGNED_STACK" Bundle.steD A U U.heap ∧ vx_Zq Bundle.tN "SUPPRESSED_SENTINEL" Bundle.listD A U U.heap
theorem EV.go {A0 A : Nat → Prop} {s U : State} {H : Heap} {locs : List Loc} (h : EV A0 s) (hS : va_S A0 s.heap H locs) (hA : ∀ q, A q → A0 q) (hU : U.heap = H) (hW : s.WarmedH U.vm) : EV A U := by
  obtain ⟨h1, h2, h3, h4⟩ := h
  refine ⟨fun w hw => ev_warm (ev_kN w hw) hW (h1 w hw), fun q hq => ?_, ?_, ?_⟩
  · obtain ⟨a, ha⟩ := h2 q hq
    exact ⟨a, vk_R.warm hW ha⟩
  · rw [hU]; exact ((vx_Zq.moved hW.alike h3).kept hS.2.1).narrow hA
  · rw [hU]; exact ((vx_Zq.moved hW.alike h4).kept hS.2.1).narrow hA
theorem EV.same {A : Nat → Prop} {u U : State} (hv : U.vm = u.vm) (hh : U.heap = u.heap) (h : EV A u) : EV A U := by
  obtain ⟨h1, h2, h3, h4⟩ := h
  refine ⟨fun w hw => ev_warm (ev_kN w hw) (by rw [hv]; exact State.WarmedH.refl u) (h1 w hw), fun q hq => ?_, ?_, ?_⟩
  · obtain ⟨a, ha⟩ := h2 q hq
    exact ⟨a, vk_R.same hv ha⟩
  · rw [hh]; exact vx_Zq.moved (by rw [hv]; exact Vm.Alike.refl _) h3
  · rw [hh]; exact vx_Zq.moved (by rw [hv]; exact Vm.Alike.refl _) h4
end
section
/-! contracts over worlds: the state behind a method is its new world itself -/
def gc_B (D : va_G) (cl : List vw_C) (tys : List (ClassId × FieldType)) (w0 : va_W) (sz : Nat) (u : va_W) (t : State) : Prop := va_P D cl u t.heap ∧ va_K D cl tys t ∧ va_D (va_A w0 sz) u
def gc_P (D : va_G) (cl : List vw_C) (tys : List (ClassId × FieldType)) (w0 : va_W) (sz : Nat) (U : State) : Prop := U.heap.size = sz ∧ va_P D cl w0 U.heap ∧ va_K D cl tys U ∧ va_D (fun _ => True) w0 ∧ EV (va_A w0 sz) U
abbrev gc_Pc (D : va_G) (cl : List vw_C) (tys : List (ClassId × FieldType)) (av : List Value) (w0 : va_W) (sz : Nat) : Array Value → State → Prop := va_Pc av (gc_P D cl tys w0 sz)
abbrev gc_Qi (D : va_G) (cl : List vw_C) (tys : List (ClassId × FieldType)) (w0 : va_W) (post : Int32 → va_W → Prop) (sz : Nat) : Array Value → State → Outcome → State → Prop := va_Qi post (gc_B D cl tys w0 sz) (va_A w0 sz)
abbrev gc_Qv (D : va_G) (cl : List vw_C) (tys : List (ClassId × FieldType)) (w0 : va_W) (post : va_W → Prop) (sz : Nat) : Array Value → State → Outcome → State → Prop := va_Qv post (gc_B D cl tys w0 sz) (va_A w0 sz)
abbrev gc_Qr (D : va_G) (cl : List vw_C) (tys : List (ClassId × FieldType)) (w0 : va_W) (post : Nat → va_W → Prop) (sz : Nat) : Array Value → State → Outcome → State → Prop := va_Qr (fun u : Nat × va_W => post u.1 u.2) (fun u a t => a = u.1 ∧ gc_B D cl tys w0 sz u.2 t) (va_A w0 sz)
def GCi (l : Launch) (y : MethodName) (ws : List Cond) (rm : Room) (mc ms : Nat) (D : va_G) (cl : List vw_C) (tys : List (ClassId × FieldType)) (av : List Value) (w0 : va_W) (post : Int32 → va_W → Prop) : Prop :=
  ∀ sz : Nat, Met l y ws rm (gc_Pc D cl tys av w0 sz) (gc_Qi D cl tys w0 post sz) mc ms (va_A w0 sz)
def GCv (l : Launch) (y : MethodName) (ws : List Cond) (rm : Room) (mc ms : Nat) (D : va_G) (cl : List vw_C) (tys : List (ClassId × FieldType)) (av : List Value) (w0 : va_W) (post : va_W → Prop) : Prop :=
  ∀ sz : Nat, Met l y ws rm (gc_Pc D cl tys av w0 sz) (gc_Qv D cl tys w0 post sz) mc ms (va_A w0 sz)
def GCr (l : Launch) (y : MethodName) (ws : List Cond) (rm : Room) (mc ms : Nat) (D : va_G) (cl : List vw_C) (tys : List (ClassId × FieldType)) (av : List Value) (w0 : va_W) (post : Nat → va_W → Prop) : Prop :=
  ∀ sz : Nat, Met l y ws rm (gc_Pc D cl tys av w0 sz) (gc_Qr D cl tys w0 post sz) mc ms (va_A w0 sz)
/-- what a body has: the machine, its code, its words, its class, its tables -/
def GF (p : Program) (s : State) (m : MethodId) (args : Array Value) (meth : Method) (c : Code) (cc : ByteArray) (n : Nat) (ret : Option FieldType) (y : MethodName) (Ts : List Cond) (D : va_G) (cl : List vw_C) (tys : List (ClassId × FieldType)) (w0 : va_W) : Prop :=
  p.tables.exec = Jvm.exec ∧ c.code = cc ∧ c.maxLocals = n ∧ s.vm.findClass y.cls = some m.cls ∧ (∀ w ∈ Ts, w.before args s = true) ∧ meth.sig.returnType = ret ∧ meth.locks = false ∧ va_K D cl tys s ∧ meth.name = y.name ∧ EV (va_A w0 s.heap.size) s
theorem gc_blind {D : va_G} {cl : List vw_C} {tys : List (ClassId × FieldType)} {av : List Value} {w0 : va_W} {sz : Nat} : FrameBlind (gc_Pc D cl tys av w0 sz) := by
  intro a U g mk q
  obtain ⟨q0, q1, qP, qK, qD, qE⟩ := q
  exact ⟨q0, q1, qP, va_K.moved (u := U) (U := U.calling g mk a) (Vm.Alike.refl U.vm) qK, qD, EV.same (u := U) (U := U.calling g mk a) rfl rfl qE⟩
section GCB
variable {l : Launch} {y : MethodName} {ws ws' : List Cond} {rm : Room} {mc ms : Nat} {D : va_G} {cl : List vw_C} {tys : List (ClassId × FieldType)} {av : List Value} {w0 : va_W} {cc : ByteArray} {maxL : Nat} {ret : Option FieldType}
/-- the head of every body: from the entry to GJ -/
theorem gc_body {Qc : Nat → Array Value → State → Outcome → State → Prop} (hy : plainName y.cls = true) (hw : ws = Cond.code y cc maxL ret :: ws') (hv : ∀ v ∈ av, v.category = 1) (hl : (lg_sl av).length ≤ maxL)
    (body : ∀ (p : Program) (e : Env) (s : State) (m : MethodId) (args : Array Value) (below : List Frame) (meth : Method) (c : Code), GF p s m args meth c cc maxL ret y ws D cl tys w0 →
      GJ p l e (headSpec ws rm).room s m args below meth c D cl (va_A w0 s.heap.size) s.heap maxL (MQ below (Qc s.heap.size) args s mc ms (va_A w0 s.heap.size)) 0 0 w0 0 av []) (sz : Nat) :
    Met l y ws rm (gc_Pc D cl tys av w0 sz) (Qc sz) mc ms (va_A w0 sz) := by
  refine Met.ofW (cc := cc) (maxL := maxL) (ret := ret) hy hw ?_
  intro p e s m args below meth c s₁ B hml hv9
  obtain ⟨rfl, hsz, hP, hK, hD0, hE⟩ := hv9
  subst hsz
  rw [lg_entry_eq]
  exact body p e s m _ below meth c ⟨B.exec, B.bytes, hml, findClass_of_methodNamed B.named, atoms_spec (ws := ws) B.pre, B.returns, B.notSynchronized, hK, (name_of_methodNamed B.named B.method).1, hE⟩ _ _ _ (gl_entry av hv hl) hP (hD0.self (sz := s.heap.size)) va_S.rf
end GCB
section GCE
variable {p : Program} {l : Launch} {e : Env} {R : Room} {s : State} {m : MethodId} {args : Array Value} {below : List Frame} {meth : Method} {c : Code} {cells slots mc ms : Nat}
variable {D : va_G} {cl : List vw_C} {tys : List (ClassId × FieldType)} {n pc : Nat} {w w0 : va_W} {L : List Value} {cc : ByteArray} {y : MethodName} {Ts : List Cond} {ret : Option FieldType}
theorem gj_iret {post : Int32 → va_W → Prop} {v : Int32} (F : GF p s m args meth c cc n (some .int) y Ts D cl tys w0) (hd : decode cc pc = .ok (.ireturn, 1)) (hc : cells ≤ mc) (hs : slots ≤ ms) (hp : post v w) :
    GJ p l e R s m args below meth c D cl (va_A w0 s.heap.size) s.heap n (MQ below (gc_Qi D cl tys w0 post s.heap.size) args s mc ms (va_A w0 s.heap.size)) cells slots w pc L [.int v] := by
  intro ls H locs h1 h2 h3 h4
  obtain ⟨hx, hb, hml, hown, hts, hr, hlk, hK, hnm, hE⟩ := F
  refine W.widen hc hs ?_
  exact W.iret (v := v) hx hb hr (fun t ht hW => ⟨⟨v, w, rfl, hp, by rw [ht]; exact h2, va_K.moved hW.alike hK, h3⟩, h4.F ht⟩) h4.2.2 hd hlk
theorem gj_zret {post : Int32 → va_W → Prop} {v : Int32} (F : GF p s m args meth c cc n (some .boolean) y Ts D cl tys w0) (hd : decode cc pc = .ok (.ireturn, 1)) (hn : narrow .boolean (.int v) = .int v) (hc : cells ≤ mc) (hs : slots ≤ ms) (hp : post v w) :
    GJ p l e R s m args below meth c D cl (va_A w0 s.heap.size) s.heap n (MQ below (gc_Qi D cl tys w0 post s.heap.size) args s mc ms (va_A w0 s.heap.size)) cells slots w pc L [.int v] := by
  intro ls H locs h1 h2 h3 h4
  obtain ⟨hx, hb, hml, hown, hts, hr, hlk, hK, hnm, hE⟩ := F
  refine W.widen hc hs ?_
  exact W.zret (v := v) hx hb hr hn (fun t ht hW => ⟨⟨v, w, rfl, hp, by rw [ht]; exact h2, va_K.moved hW.alike hK, h3⟩, h4.F ht⟩) h4.2.2 hd hlk
theorem gj_vret {post : va_W → Prop} (F : GF p s m args meth c cc n none y Ts D cl tys w0) (hd : decode cc pc = .ok (.return_, 1)) (hc : cells ≤ mc) (hs : slots ≤ ms) (hp : post w) :
    GJ p l e R s m args below meth c D cl (va_A w0 s.heap.size) s.heap n (MQ below (gc_Qv D cl tys w0 post s.heap.size) args s mc ms (va_A w0 s.heap.size)) cells slots w pc L [] := by
  intro ls H locs h1 h2 h3 h4
  obtain ⟨hx, hb, hml, hown, hts, hr, hlk, hK, hnm, hE⟩ := F
  refine W.widen hc hs ?_
  exact W.vret hx hb hr (fun t ht hW => ⟨⟨w, rfl, hp, by rw [ht]; exact h2, va_K.moved hW.alike hK, h3⟩, h4.F ht⟩) h4.2.2 hd hlk
/-- behind a call: the callee's new world beside the rest -/
theorem gc_join {A0 : Nat → Prop} {wc wr w1 : va_W} {H H1 : Heap} (hP : va_P D cl (wc ++ wr) H) (hD : va_D A0 (wc ++ wr)) (hk : ∀ q : Nat, q < H.size → ¬ va_A wc H.size q → H1[q]? = H[q]?) (hF : ∀ q, va_A wc H.size q → A0 q) (hP1 : va_P D cl w1 H1) (hD1 : va_D (va_A wc H.size) w1) : va_P D cl (w1 ++ wr) H1 ∧ va_D A0 (w1 ++ wr) := by
  have inr : ∀ (k : Nat) (q : Nat × va_E), wr[k]? = some q → (wc ++ wr)[wc.length + k]? = some q := fun k q h => by
    rw [List.getElem?_append_right (by omega), Nat.add_sub_cancel_left]; exact h
  have inl : ∀ (k : Nat) (q : Nat × va_E), wc[k]? = some q → (wc ++ wr)[k]? = some q := fun k q h => by
    rw [List.getElem?_append_left (List.getElem?_eq_some_iff.mp h).1]; exact h
  have apart : ∀ (k : Nat) (q : Nat × va_E), wr[k]? = some q → q.1 < H.size ∧ ¬ va_A wc H.size q.1 := by
    intro k q hq
    have hl := (hP _ q (inr k q hq)).lt
    refine ⟨hl, fun h => ?_⟩
    rcases h with ⟨k2, e2, h⟩ | h
    · have hi := hD.1 _ _ q (q.1, e2) (inr k q hq) (inl k2 _ h) rfl
      have hk2 := (List.getElem?_eq_some_iff.mp h).1
      omega
    · omega
  have hDr : va_D A0 wr := ⟨fun i j x z hi hj hxz => by
    have := hD.1 _ _ x z (inr i x hi) (inr j z hj) hxz
    omega, fun k q hk9 => hD.2 _ q (inr k q hk9)⟩
  refine ⟨va_P.app hP1 (fun k q hq => ?_), va_D.app (hD1.weaken (fun k q _ h => hF q.1 h)) hDr (fun i j x z hx hz hxz => ?_)⟩
  · obtain ⟨g1, g2⟩ := apart k q hq
    exact (hP _ q (inr k q hq)).kept (hk q.1 g1 g2)
  · exact (apart j z hz).2 (by rw [← hxz]; exact hD1.2 i x hx)
theorem gc_fr {A0 : Nat → Prop} {wc wr : va_W} {H0 H : Heap} {locs : List Loc} (hD : va_D A0 (wc ++ wr)) (hS : va_S A0 H0 H locs) (hA : ∀ q, H0.size ≤ q → A0 q) : ∀ q, va_A wc H.size q → A0 q := by
  intro q h
  rcases h with ⟨k, e9, h⟩ | h
  · exact hD.2 k (q, e9) (by rw [List.getElem?_append_left (List.getElem?_eq_some_iff.mp h).1]; exact h)
  · exact hA q (Nat.le_trans hS.1 h)
theorem gc_left {wc wr : va_W} {H : Heap} (hP : va_P D cl (wc ++ wr) H) : va_P D cl wc H := fun k q h => hP k q (by rw [List.getElem?_append_left (List.getElem?_eq_some_iff.mp h).1]; exact h)
theorem gc_leftD {A0 : Nat → Prop} {wc wr : va_W} (hD : va_D A0 (wc ++ wr)) : va_D A0 wc := by
  have inl : ∀ (k : Nat) (q : Nat × va_E), wc[k]? = some q → (wc ++ wr)[k]? = some q := fun k q h => by
    rw [List.getElem?_append_left (List.getElem?_eq_some_iff.mp h).1]; exact h
  exact ⟨fun i j x z hi hj hxz => hD.1 i j x z (inl i x hi) (inl j z hj) hxz, fun k q h => hD.2 k q (inl k q h)⟩
/-- what a call asks: the callee's start, at any heap that holds its world -/
def gc_pre (s : State) (D : va_G) (cl : List vw_C) (tys : List (ClassId × FieldType)) (av : List Value) (wc : va_W) (H : Heap) : Prop := FrameBlind (gc_Pc D cl tys av wc H.size) ∧ ∀ U : State, U.heap = H → s.WarmedH U.vm → gc_Pc D cl tys av wc H.size av.toArray U
theorem gc_pre_of {A0 : Nat → Prop} {av : List Value} {wc wr : va_W} {H : Heap} {locs : List Loc} (hK : va_K D cl tys s) (hE : EV A0 s) (hA : ∀ q, s.heap.size ≤ q → A0 q) (hP : va_P D cl (wc ++ wr) H) (hD : va_D A0 (wc ++ wr)) (hS : va_S A0 s.heap H locs) : gc_pre s D cl tys av wc H :=
  ⟨gc_blind, fun U hU hW => ⟨rfl, by rw [hU], by rw [hU]; exact gc_left hP, va_K.moved hW.alike hK, (gc_leftD hD).weaken (fun _ _ _ _ => trivial), hE.go hS (gc_fr hD hS hA) hU hW⟩⟩
variable {A : Nat → Prop} {Q : State → Prop} {st rest av : List Value} {wc wr : va_W}
theorem gj_calli {post : Int32 → va_W → Prop} (hK : va_K D cl tys s) (hE : EV A s) (hA : ∀ q, s.heap.size ≤ q → A q)
    (run : ∀ (ls : Array Slot) (H : Heap) (locs : List Loc), ls.size = n → gc_pre s D cl tys av wc H → va_P D cl (wc ++ wr) H → va_Run p l e R s m args below meth c H locs cells slots mc ms (F0 m pc ls st) rest (gc_Qi D cl tys wc post H.size av.toArray) (va_A wc H.size))
    (k : ∀ (r : Int32) (u : va_W), post r u → GJ p l e R s m args below meth c D cl A s.heap n Q (cells + mc) (slots + ms) (u ++ wr) (pc + 3) L (.int r :: rest)) :
    GJ p l e R s m args below meth c D cl A s.heap n Q cells slots (wc ++ wr) pc L st := by
  intro ls H locs h1 h2 h3 h4
  have hF := gc_fr h3 h4 hA
  refine va_calli (run ls H locs h1.1 (gc_pre_of hK hE hA h2 h3 h4) h2) h4 (fun q _ h => hF q h) hF (fun r u t H1 locs1 ht hvm hp hB hz hk hS => ?_)
  obtain ⟨hP1, -, hD1⟩ := hB
  rw [ht] at hP1
  obtain ⟨g1, g2⟩ := gc_join h2 h3 hk hF hP1 hD1
  exact k r u hp ls H1 locs1 h1 g1 g2 hS
theorem gj_callv {post : va_W → Prop} (hK : va_K D cl tys s) (hE : EV A s) (hA : ∀ q, s.heap.size ≤ q → A q)
    (run : ∀ (ls : Array Slot) (H : Heap) (locs : List Loc), ls.size = n → gc_pre s D cl tys av wc H → va_P D cl (wc ++ wr) H → va_Run p l e R s m args below meth c H locs cells slots mc ms (F0 m pc ls st) rest (gc_Qv D cl tys wc post H.size av.toArray) (va_A wc H.size))
    (k : ∀ (u : va_W), post u → GJ p l e R s m args below meth c D cl A s.heap n Q (cells + mc) (slots + ms) (u ++ wr) (pc + 3) L rest) :
    GJ p l e R s m args below meth c D cl A s.heap n Q cells slots (wc ++ wr) pc L st := by
  intro ls H locs h1 h2 h3 h4
  have hF := gc_fr h3 h4 hA
  refine va_callv (run ls H locs h1.1 (gc_pre_of hK hE hA h2 h3 h4) h2) h4 (fun q _ h => hF q h) hF (fun u t H1 locs1 ht hvm hp hB hz hk hS => ?_)
  obtain ⟨hP1, -, hD1⟩ := hB
  rw [ht] at hP1
  obtain ⟨g1, g2⟩ := gc_join h2 h3 hk hF hP1 hD1
  exact k u hp ls H1 locs1 h1 g1 g2 hS
theorem gj_callr {post : Nat → va_W → Prop} (hK : va_K D cl tys s) (hE : EV A s) (hA : ∀ q, s.heap.size ≤ q → A q)
    (run : ∀ (ls : Array Slot) (H : Heap) (locs : List Loc), ls.size = n → gc_pre s D cl tys av wc H → va_P D cl (wc ++ wr) H → va_Run p l e R s m args below meth c H locs cells slots mc ms (F0 m pc ls st) rest (gc_Qr D cl tys wc post H.size av.toArray) (va_A wc H.size))
    (k : ∀ (r : Nat) (u : va_W), post r u → GJ p l e R s m args below meth c D cl A s.heap n Q (cells + mc) (slots + ms) (u ++ wr) (pc + 3) L (.ref r :: rest)) :
    GJ p l e R s m args below meth c D cl A s.heap n Q cells slots (wc ++ wr) pc L st := by
  intro ls H locs h1 h2 h3 h4
  have hF := gc_fr h3 h4 hA
  refine va_callr (run ls H locs h1.1 (gc_pre_of hK hE hA h2 h3 h4) h2) h4 (fun q _ h => hF q h) hF (fun u ra t H1 locs1 ht hvm hp hB hz hk hS => ?_)
  obtain ⟨u1, u2⟩ := u
  obtain ⟨rfl, hP1, -, hD1⟩ := hB
  rw [ht] at hP1
  obtain ⟨g1, g2⟩ := gc_join h2 h3 hk hF hP1 hD1
  exact k _ u2 hp ls H1 locs1 h1 g1 g2 hS
/-- two parts of a world change places -/
theorem gj_swap {w1 w2 : va_W} (k : GJ p l e R s m args below meth c D cl A s.heap n Q cells slots (w2 ++ w1) pc L st) : GJ p l e R s m args below meth c D cl A s.heap n Q cells slots (w1 ++ w2) pc L st := by
  intro ls H locs h1 h2 h3 h4
  have e1 : va_P D cl (([] ++ w1) ++ w2) H := h2
  have e2 : va_D A (([] ++ w1) ++ w2) := h3
  exact k ls H locs h1 e1.swap e2.swap h4
end GCE
end
section
/-! methods that may throw: the world stays as it says, the exception is a new cell -/
abbrev gc_X (D : va_G) (cl : List vw_C) (tys : List (ClassId × FieldType)) (w0 : va_W) (px : String → va_W → Prop) (sz : Nat) : String → State → State → Prop := vx_X (fun u : String × va_W => px u.1 u.2) (fun E u t => E = u.1 ∧ gc_B D cl tys w0 sz u.2 t) (va_A w0 sz)
def GXi (l : Launch) (y : MethodName) (ws : List Cond) (rm : Room) (mc ms : Nat) (D : va_G) (cl : List vw_C) (tys : List (ClassId × FieldType)) (av : List Value) (w0 : va_W) (post : Int32 → va_W → Prop) (px : String → va_W → Prop) : Prop :=
  ∀ sz : Nat, vx_Met l y ws rm (gc_Pc D cl tys av w0 sz) (gc_Qi D cl tys w0 post sz) (gc_X D cl tys w0 px sz) mc ms (va_A w0 sz)
section GXB
variable {l : Launch} {y : MethodName} {ws ws' : List Cond} {rm : Room} {mc ms : Nat} {D : va_G} {cl : List vw_C} {tys : List (ClassId × FieldType)} {av : List Value} {w0 : va_W} {cc : ByteArray} {maxL : Nat} {ret : Option FieldType}
theorem gx_body {post : Int32 → va_W → Prop} {px : String → va_W → Prop} (hy : plainName y.cls = true) (hw : ws = Cond.code y cc maxL ret :: ws') (hv : ∀ v ∈ av, v.category = 1) (hl : (lg_sl av).length ≤ maxL)
    (body : ∀ (p : Program) (e : Env) (s : State) (m : MethodId) (args : Array Value) (below : List Frame) (meth : Method) (c : Code), GF p s m args meth c cc maxL ret y ws D cl tys w0 → (∀ x ∈ c.exceptionTable.toList, False) →
      GJ p l e (headSpec ws rm).room s m args below meth c D cl (va_A w0 s.heap.size) s.heap maxL (vx_MQ below (gc_Qi D cl tys w0 post s.heap.size) (gc_X D cl tys w0 px s.heap.size) args s mc ms (va_A w0 s.heap.size)) 0 0 w0 0 av []) :
    GXi l y ws rm mc ms D cl tys av w0 post px := by
  intro sz
  refine vx_ofW (cc := cc) (maxL := maxL) (ret := ret) hy hw ?_
  intro p e s m args below meth c s₁ B hml ht hv9
  obtain ⟨rfl, hsz, hP, hK, hD0, hE⟩ := hv9
  subst hsz
  rw [lg_entry_eq]
  exact body p e s m _ below meth c ⟨B.exec, B.bytes, hml, findClass_of_methodNamed B.named, atoms_spec (ws := ws) B.pre, B.returns, B.notSynchronized, hK, (name_of_methodNamed B.named B.method).1, hE⟩ ht _ _ _ (gl_entry av hv hl) hP (hD0.self (sz := s.heap.size)) va_S.rf
end GXB
section GXE
variable {p : Program} {l : Launch} {e : Env} {R : Room} {s : State} {m : MethodId} {args : Array Value} {below : List Frame} {meth : Method} {c : Code} {cells slots mc ms : Nat}
variable {D : va_G} {cl : List vw_C} {tys : List (ClassId × FieldType)} {n pc : Nat} {w w0 : va_W} {L : List Value} {cc : ByteArray} {y : MethodName} {Ts : List Cond} {ret : Option FieldType}
theorem gx_iret {post : Int32 → va_W → Prop} {px : String → va_W → Prop} {v : Int32} (F : GF p s m args meth c cc n (some .int) y Ts D cl tys w0) (hd : decode cc pc = .ok (.ireturn, 1)) (hc : cells ≤ mc) (hs : slots ≤ ms) (hp : post v w) :
    GJ p l e R s m args below meth c D cl (va_A w0 s.heap.size) s.heap n (vx_MQ below (gc_Qi D cl tys w0 post s.heap.size) (gc_X D cl tys w0 px s.heap.size) args s mc ms (va_A w0 s.heap.size)) cells slots w pc L [.int v] :=
  fun ls H locs h1 h2 h3 h4 => vx_ret (gj_iret F hd hc hs hp ls H locs h1 h2 h3 h4)
end GXE
end
section
abbrev kB : Nat := 0
abbrev kX : Nat := 1
abbrev kM : Nat := 2
/-! the world of a BlockRows: 4 + 2 j cells. 0: the object, 1: bytes, 2: registers, 3: the array of blocks, 4 + 2 k: block k, 5 + 2 k: its words. Cell i's numbers are the row σ i, by slot or place -/
abbrev St : Type := Nat → Nat → Int32
def s2 (σ : St) (i j : Nat) (v : Int32) : St := va_up σ i (upd (σ i) j v)
theorem s2_self (σ : St) (i j : Nat) (v : Int32) : s2 σ i j v i = upd (σ i) j v := va_up_self _ _ _
theorem s2_row (σ : St) {i k : Nat} (j : Nat) (v : Int32) (h : k ≠ i) : s2 σ i j v k = σ k := va_up_ne _ _ h
theorem s2_at (σ : St) (i j : Nat) (v : Int32) : s2 σ i j v i j = v := by rw [s2_self]; exact pk_us
theorem s2_ne (σ : St) (i : Nat) {j k : Nat} (v : Int32) (h : k ≠ j) : s2 σ i j v i k = σ i k := by rw [s2_self]; exact pk_un h
theorem s2_o (σ : St) {i k : Nat} (j t : Nat) (v : Int32) (h : k ≠ i) : s2 σ i j v k t = σ k t := by rw [s2_row σ j v h]
/-- the object's slots -/
def bw_f (a : Nat → Nat) (r : Nat → Int32) : List Value := [.ref (a 1), .ref (a 2), .ref (a 3), .int (r 3), .int (r 4), .int (r 5), .int (r 6), .int (r 7), .int (r 8), .int (r 9), .int (r 10), .int (r 11)]
def bw_b (q : Nat) (r : Nat → Int32) : List Value := [.ref q, .int (r 1), .int (r 2), .int (r 3)]
def bw_e (a : Nat → Nat) (cI cB : ClassId) (j : Nat) (σ : St) (i : Nat) : va_E := match i with
  | 0 => .inr (kX, bw_f a (σ 0))
  | 1 => .inl (cI, 1024, .inl (σ 1))
  | 2 => .inl (cI, 8, .inl (σ 2))
  | 3 => .inl (cB, 32, .inr (.inr (.inr (.inr (fun k => if k < j then some (a (4 + 2 * k)) else none)))))
  | i + 4 => if i % 2 = 0 then .inr (kB, bw_b (a (i + 5)) (σ (i + 4))) else .inl (cI, 12, .inl (σ (i + 4)))
def bw (a : Nat → Nat) (cI cB : ClassId) (j : Nat) (σ : St) : va_W := (List.range (4 + 2 * j)).map (fun i => (a i, bw_e a cI cB j σ i))
section BW
variable {a : Nat → Nat} {cI cB : ClassId} {j : Nat} {σ : St}
theorem bw_at {i : Nat} (h : i < 4 + 2 * j) : (bw a cI cB j σ)[i]? = some (a i, bw_e a cI cB j σ i) := by
  unfold bw
  rw [List.getElem?_map, List.getElem?_range h]
  rfl
theorem bw_e_blk (k : Nat) : bw_e a cI cB j σ (4 + 2 * k) = .inr (kB, bw_b (a (5 + 2 * k)) (σ (4 + 2 * k))) := by
  rw [show 4 + 2 * k = 2 * k + 4 by omega, show 5 + 2 * k = 2 * k + 5 by omega]
  show (if (2 * k) % 2 = 0 then _ else _) = _
  rw [if_pos (by omega)]
theorem bw_e_wrd (k : Nat) : bw_e a cI cB j σ (5 + 2 * k) = .inl (cI, 12, .inl (σ (5 + 2 * k))) := by
  rw [show 5 + 2 * k = (2 * k + 1) + 4 by omega]
  show (if (2 * k + 1) % 2 = 0 then _ else _) = _
  rw [if_neg (by omega)]
theorem bw_e_up {i k : Nat} {f : Nat → Int32} (h : k ≠ i) : bw_e a cI cB j (va_up σ i f) k = bw_e a cI cB j σ k := by
  have e : va_up σ i f k = σ k := va_up_ne _ _ h
  match k, e with
  | 0, e => simp only [bw_e, e]
  | 1, e => simp only [bw_e, e]
  | 2, e => simp only [bw_e, e]
  | 3, e => rfl
  | k + 4, e => simp only [bw_e, e]
theorem bw_set {i : Nat} {f : Nat → Int32} {x : va_E} (h : i < 4 + 2 * j) (hx : bw_e a cI cB j (va_up σ i f) i = x) : (bw a cI cB j σ).set i (a i, x) = bw a cI cB j (va_up σ i f) := by
  subst hx
  have hl : (bw a cI cB j σ).length = 4 + 2 * j := by simp [bw]
  apply List.ext_getElem?
  intro k
  by_cases hk : k = i
  · subst hk
    rw [List.getElem?_set_self (by omega), bw_at h]
  · rw [List.getElem?_set_ne (Ne.symm hk)]
    by_cases hl2 : k < 4 + 2 * j
    · rw [bw_at hl2, bw_at hl2, bw_e_up hk]
    · rw [List.getElem?_eq_none (by omega), List.getElem?_eq_none (by simp [bw]; omega)]
theorem bw_f_put {r : Nat → Int32} {k : Nat} {v : Int32} (h3 : 3 ≤ k) (h : k < 12) : (bw_f a r).set k (.int v) = bw_f a (upd r k v) := by
  rcases (show k = 3 ∨ k = 4 ∨ k = 5 ∨ k = 6 ∨ k = 7 ∨ k = 8 ∨ k = 9 ∨ k = 10 ∨ k = 11 by omega) with rfl | rfl | rfl | rfl | rfl | rfl | rfl | rfl | rfl <;> simp [bw_f, upd]
theorem bw_f_get {r : Nat → Int32} {k : Nat} (h3 : 3 ≤ k) (h : k < 12) : (bw_f a r)[k]? = some (.int (r k)) := by
  rcases (show k = 3 ∨ k = 4 ∨ k = 5 ∨ k = 6 ∨ k = 7 ∨ k = 8 ∨ k = 9 ∨ k = 10 ∨ k = 11 by omega) with rfl | rfl | rfl | rfl | rfl | rfl | rfl | rfl | rfl <;> rfl
theorem bw_b_put {q : Nat} {r : Nat → Int32} {k : Nat} {v : Int32} (h1 : 1 ≤ k) (h : k < 4) : (bw_b q r).set k (.int v) = bw_b q (upd r k v) := by
  rcases (show k = 1 ∨ k = 2 ∨ k = 3 by omega) with rfl | rfl | rfl <;> simp [bw_b, upd]
theorem bw_b_get {q : Nat} {r : Nat → Int32} {k : Nat} (h1 : 1 ≤ k) (h : k < 4) : (bw_b q r)[k]? = some (.int (r k)) := by
  rcases (show k = 1 ∨ k = 2 ∨ k = 3 by omega) with rfl | rfl | rfl <;> rfl
end BW
end
section
/-! the instructions that touch a BlockRows' cells, over its world -/
abbrev TY (cI cB cZ cJ : ClassId) : List (ClassId × FieldType) := [(cI, .int), (cB, .object rB), (cZ, .boolean), (cJ, .long)]
theorem fX_1 (k : Nat) : (fX k).1 = rX := by unfold fX; split <;> rfl
theorem fB_1 (k : Nat) : (fB k).1 = rB := by unfold fB; split <;> rfl
section BJ
variable {p : Program} {l : Launch} {e : Env} {R : Room} {s : State} {m : MethodId} {args : Array Value} {below : List Frame} {meth : Method} {c : Code} {cells slots : Nat} {Q : State → Prop}
variable {D : va_G} {A : Nat → Prop} {H0 : Heap} {n : Nat} {w0 : va_W} {pc pc2 : Nat} {L rest : List Value} {cc : ByteArray} {ret : Option FieldType} {y : MethodName} {c0 : Cond} {cI cB cZ cJ : ClassId} {a : Nat → Nat} {j : Nat} {σ : St}
theorem GF.w (F : GF p s m args meth c cc n ret y (c0 :: tbW) D vCl (TY cI cB cZ cJ) w0) {w : Cond} (h : w ∈ tbW) : w.before args s = true := F.2.2.2.2.1 w (List.mem_cons_of_mem _ h)
theorem GF.K (F : GF p s m args meth c cc n ret y (c0 :: tbW) D vCl (TY cI cB cZ cJ) w0) : va_K D vCl (TY cI cB cZ cJ) s := F.2.2.2.2.2.2.2.1
theorem GF.E (F : GF p s m args meth c cc n ret y (c0 :: tbW) D vCl (TY cI cB cZ cJ) w0) : EV (va_A w0 s.heap.size) s := F.2.2.2.2.2.2.2.2.2
theorem GF.N (F : GF p s m args meth c cc n ret y (c0 :: tbW) D vCl (TY cI cB cZ cJ) w0) {w : Cond} (h : w ∈ ev_N) : va_Nw w s := F.E.1 w h
theorem bj_gr (F : GF p s m args meth c cc n ret y (c0 :: tbW) D vCl (TY cI cB cZ cJ) w0) {idx : Nat} (k : Nat) (hk : k < 3) (hd : decode cc pc = .ok (.getfield idx, 3)) (hl : Cond.fieldLink y.cls idx rX (fX k).2.1 (fX k).2.2.1 ∈ tbW) (hp : pc + 3 = pc2)
    (kk : GJ p l e R s m args below meth c D vCl A H0 n Q cells slots (bw a cI cB j σ) pc2 L (.ref (a (k + 1)) :: rest)) : GJ p l e R s m args below meth c D vCl A H0 n Q cells slots (bw a cI cB j σ) pc L (.ref (a 0) :: rest) := by
  subst hp
  refine gj_m (fun ls H locs hP => va_get (D := D) (ci := kX) (v := .ref (a (k + 1))) (C := rX) (T := fX) (N := 12) F.1 F.2.1 F.2.2.2.2.1 (fun w h => List.mem_cons_of_mem _ (iX w h)) F.2.2.2.1 F.K hP 0 (bw_at (by omega)) rfl k (by omega) (F.w hl) (fun _ h9 => by rw [fX_1] at h9; exact h9) ?_ hd) kk
  rcases (show k = 0 ∨ k = 1 ∨ k = 2 by omega) with rfl | rfl | rfl <;> rfl
theorem bj_gi (F : GF p s m args meth c cc n ret y (c0 :: tbW) D vCl (TY cI cB cZ cJ) w0) {idx : Nat} (k : Nat) (h3 : 3 ≤ k) (hk : k < 12) (hd : decode cc pc = .ok (.getfield idx, 3)) (hl : Cond.fieldLink y.cls idx rX (fX k).2.1 (fX k).2.2.1 ∈ tbW) (hp : pc + 3 = pc2)
    (kk : GJ p l e R s m args below meth c D vCl A H0 n Q cells slots (bw a cI cB j σ) pc2 L (.int (σ 0 k) :: rest)) : GJ p l e R s m args below meth c D vCl A H0 n Q cells slots (bw a cI cB j σ) pc L (.ref (a 0) :: rest) := by
  subst hp
  exact gj_m (fun ls H locs hP => va_get (D := D) (ci := kX) (v := .int (σ 0 k)) (C := rX) (T := fX) (N := 12) F.1 F.2.1 F.2.2.2.2.1 (fun w h => List.mem_cons_of_mem _ (iX w h)) F.2.2.2.1 F.K hP 0 (bw_at (by omega)) rfl k (by omega) (F.w hl) (fun _ h9 => by rw [fX_1] at h9; exact h9) (bw_f_get h3 hk) hd) kk
theorem bj_pi (F : GF p s m args meth c cc n ret y (c0 :: tbW) D vCl (TY cI cB cZ cJ) w0) {idx : Nat} (k : Nat) (h3 : 3 ≤ k) (hk : k < 12) {v : Int32} (hd : decode cc pc = .ok (.putfield idx, 3)) (hl : Cond.fieldLink y.cls idx rX (fX k).2.1 (fX k).2.2.1 ∈ tbW) (hp : pc + 3 = pc2)
    (kk : GJ p l e R s m args below meth c D vCl A H0 n Q cells slots (bw a cI cB j (s2 σ 0 k v)) pc2 L rest) : GJ p l e R s m args below meth c D vCl A H0 n Q cells slots (bw a cI cB j σ) pc L (.int v :: .ref (a 0) :: rest) := by
  subst hp
  have ef : (fX k).2.2.2 = false ∧ parseFieldDescriptor (fX k).2.2.1 = some .int := by
    rcases (show k = 3 ∨ k = 4 ∨ k = 5 ∨ k = 6 ∨ k = 7 ∨ k = 8 ∨ k = 9 ∨ k = 10 ∨ k = 11 by omega) with rfl | rfl | rfl | rfl | rfl | rfl | rfl | rfl | rfl <;> decide +kernel
  have e : (bw a cI cB j σ).set 0 (a 0, .inr (kX, (bw_f a (σ 0)).set k (.int v))) = bw a cI cB j (s2 σ 0 k v) := bw_set (by omega) (by rw [bw_f_put h3 hk]; show Sum.inr (kX, bw_f a (va_up σ 0 (upd (σ 0) k v) 0)) = _; rw [va_up_self])
  refine gj_p (w2 := bw a cI cB j (s2 σ 0 k v)) (fun ls H locs hP hD hS kx => va_put (D := D) (ci := kX) (v := .int v) (ty := .int) (C := rX) (T := fX) (N := 12) F.1 F.2.1 F.2.2.2.2.1 (fun w h => List.mem_cons_of_mem _ (iX w h)) tX tX_ok nX F.2.2.2.1 F.K hP hD hS 0 (bw_at (by omega)) rfl k (by omega) (F.w hl) (fun _ h9 => by rw [fX_1] at h9; exact h9) ef.1 ef.2 rfl rfl (by show k < (bw_f a (σ 0)).length; exact hk) hd (fun H1 locs1 g1 g2 g3 => ?_)) kk
  have g1' : va_P D vCl ((bw a cI cB j σ).set 0 (a 0, .inr (kX, (bw_f a (σ 0)).set k (.int v)))) H1 := g1
  have g2' : va_D A ((bw a cI cB j σ).set 0 (a 0, .inr (kX, (bw_f a (σ 0)).set k (.int v)))) := g2
  rw [e] at g1' g2'
  exact kx H1 locs1 g1' g2' g3
/-- an int array of the world, read -/
theorem bj_ld (F : GF p s m args meth c cc n ret y (c0 :: tbW) D vCl (TY cI cB cZ cJ) w0) (r N i : Nat) (hr : r < 4 + 2 * j) (he : bw_e a cI cB j σ r = .inl (cI, N, .inl (σ r))) (hN : N < 2 ^ 31) {x : Int32} (hx : x = nI i) (hi : i < N) (hd : decode cc pc = .ok (.iaload, 1)) (hp : pc + 1 = pc2)
    (kk : GJ p l e R s m args below meth c D vCl A H0 n Q cells slots (bw a cI cB j σ) pc2 L (.int (σ r i) :: rest)) : GJ p l e R s m args below meth c D vCl A H0 n Q cells slots (bw a cI cB j σ) pc L (.int x :: .ref (a r) :: rest) := by
  subst hp; subst hx
  refine gj_m (fun ls H locs hP kx => ?_) kk
  refine va_iald (D := D) F.1 F.2.1 F.K hP r 0 (by rw [bw_at hr, he]) rfl (vp_in_nI hi hN) hd ?_
  rw [nI_clamp (by omega)]
  exact kx
/-- an int array of the world, written -/
theorem bj_st (F : GF p s m args meth c cc n ret y (c0 :: tbW) D vCl (TY cI cB cZ cJ) w0) (r N i : Nat) (hr : r < 4 + 2 * j) (he : ∀ τ : St, bw_e a cI cB j τ r = .inl (cI, N, .inl (τ r))) (hN : N < 2 ^ 31) {x v : Int32} (hx : x = nI i) (hi : i < N) (hd : decode cc pc = .ok (.iastore, 1)) (hp : pc + 1 = pc2)
    (kk : GJ p l e R s m args below meth c D vCl A H0 n Q cells slots (bw a cI cB j (s2 σ r i v)) pc2 L rest) : GJ p l e R s m args below meth c D vCl A H0 n Q cells slots (bw a cI cB j σ) pc L (.int v :: .int x :: .ref (a r) :: rest) := by
  subst hp; subst hx
  have e : (bw a cI cB j σ).set r (a r, .inl (cI, N, .inl (upd (σ r) i v))) = bw a cI cB j (s2 σ r i v) := bw_set hr (by rw [he, va_up_self])
  refine gj_p (w2 := bw a cI cB j (s2 σ r i v)) (fun ls H locs hP hD hS kx => ?_) kk
  refine va_iast (D := D) F.1 F.2.1 F.K hP hD hS r 0 (by rw [bw_at hr, he]) rfl (vp_in_nI hi hN) hd (fun H1 locs1 g1 g2 g3 => ?_)
  rw [nI_clamp (by omega), e] at g1 g2
  exact kx H1 locs1 g1 g2 g3
/-- the array of blocks, read -/
theorem bj_blk (F : GF p s m args meth c cc n ret y (c0 :: tbW) D vCl (TY cI cB cZ cJ) w0) (k : Nat) {x : Int32} (hx : x = nI k) (hk : k < 32) (hd : decode cc pc = .ok (.aaload, 1)) (hp : pc + 1 = pc2)
    (kk : GJ p l e R s m args below meth c D vCl A H0 n Q cells slots (bw a cI cB 32 σ) pc2 L (.ref (a (4 + 2 * k)) :: rest)) : GJ p l e R s m args below meth c D vCl A H0 n Q cells slots (bw a cI cB 32 σ) pc L (.int x :: .ref (a 3) :: rest) := by
  subst hp; subst hx
  refine gj_m (fun ls H locs hP kx => ?_) kk
  refine va_aldq (D := D) F.1 F.2.1 F.K hP 3 1 (f := fun k => if k < 32 then some (a (4 + 2 * k)) else none) (by rw [bw_at (by omega)]; rfl) rfl (vp_in_nI hk (by omega)) hd ?_
  rw [nI_clamp (by omega), if_pos hk]
  exact kx
/-- a block's fields, in its own class -/
theorem bj_bi (F : GF p s m args meth c cc n ret y (c0 :: tbW) D vCl (TY cI cB cZ cJ) w0) {idx : Nat} (k t : Nat) (hk : k < j) (h1 : 1 ≤ t) (ht : t < 4) (hd : decode cc pc = .ok (.getfield idx, 3)) (hl : Cond.fieldLink y.cls idx rB (fB t).2.1 (fB t).2.2.1 ∈ tbW) (hp : pc + 3 = pc2)
    (kk : GJ p l e R s m args below meth c D vCl A H0 n Q cells slots (bw a cI cB j σ) pc2 L (.int (σ (4 + 2 * k) t) :: rest)) : GJ p l e R s m args below meth c D vCl A H0 n Q cells slots (bw a cI cB j σ) pc L (.ref (a (4 + 2 * k)) :: rest) := by
  subst hp
  exact gj_m (fun ls H locs hP => va_get (D := D) (ci := kB) (v := .int (σ (4 + 2 * k) t)) (C := rB) (T := fB) (N := 4) F.1 F.2.1 F.2.2.2.2.1 (fun w h => List.mem_cons_of_mem _ (iB w h)) F.2.2.2.1 F.K hP (4 + 2 * k) (by rw [bw_at (by omega), bw_e_blk]) rfl t (by omega) (F.w hl) (fun _ h9 => by rw [fB_1] at h9; exact h9) (bw_b_get h1 ht) hd) kk
/-- .. read in BlockRows -/
theorem bj_biN (F : GF p s m args meth c cc n ret y (c0 :: tbW) D vCl (TY cI cB cZ cJ) w0) {idx : Nat} (k t : Nat) (hk : k < j) (h1 : 1 ≤ t) (ht : t < 4) (hd : decode cc pc = .ok (.getfield idx, 3)) (hl : Cond.fieldLinkNest y.cls idx rB (fB t).2.1 (fB t).2.2.1 rX ∈ ev_N) (hp : pc + 3 = pc2)
    (kk : GJ p l e R s m args below meth c D vCl A H0 n Q cells slots (bw a cI cB j σ) pc2 L (.int (σ (4 + 2 * k) t) :: rest)) : GJ p l e R s m args below meth c D vCl A H0 n Q cells slots (bw a cI cB j σ) pc L (.ref (a (4 + 2 * k)) :: rest) := by
  subst hp
  exact gj_m (fun ls H locs hP => va_getN (D := D) (ci := kB) (v := .int (σ (4 + 2 * k) t)) (C := rB) (T := fB) (N := 4) F.1 F.2.1 F.2.2.2.2.1 (fun w h => List.mem_cons_of_mem _ (iB w h)) F.2.2.2.1 F.K hP (4 + 2 * k) (by rw [bw_at (by omega), bw_e_blk]) rfl t (by omega) (va_Nw.use rfl (F.N hl)) (fun _ h9 => by rw [fB_1] at h9; exact h9) (bw_b_get h1 ht) hd) kk
theorem bj_bwN (F : GF p s m args meth c cc n ret y (c0 :: tbW) D vCl (TY cI cB cZ cJ) w0) {idx : Nat} (k : Nat) (hk : k < j) (hd : decode cc pc = .ok (.getfield idx, 3)) (hl : Cond.fieldLinkNest y.cls idx rB "words" "[I" rX ∈ ev_N) (hp : pc + 3 = pc2)
    (kk : GJ p l e R s m args below meth c D vCl A H0 n Q cells slots (bw a cI cB j σ) pc2 L (.ref (a (5 + 2 * k)) :: rest)) : GJ p l e R s m args below meth c D vCl A H0 n Q cells slots (bw a cI cB j σ) pc L (.ref (a (4 + 2 * k)) :: rest) := by
  subst hp
  exact gj_m (fun ls H locs hP => va_getN (D := D) (ci := kB) (v := .ref (a (5 + 2 * k))) (C := rB) (T := fB) (N := 4) F.1 F.2.1 F.2.2.2.2.1 (fun w h => List.mem_cons_of_mem _ (iB w h)) F.2.2.2.1 F.K hP (4 + 2 * k) (by rw [bw_at (by omega), bw_e_blk]) rfl 0 (by omega) (va_Nw.use rfl (F.N hl)) (fun _ h9 => by rw [fB_1] at h9; exact h9) rfl hd) kk
theorem bj_set {k t : Nat} {v : Int32} (hk : k < j) (h1 : 1 ≤ t) (ht : t < 4) : (bw a cI cB j σ).set (4 + 2 * k) (a (4 + 2 * k), .inr (kB, (bw_b (a (5 + 2 * k)) (σ (4 + 2 * k))).set t (.int v))) = bw a cI cB j (s2 σ (4 + 2 * k) t v) :=
  bw_set (by omega) (by rw [bw_b_put h1 ht, bw_e_blk, va_up_self])
theorem bj_bf {t : Nat} (h1 : 1 ≤ t) (ht : t < 4) : (fB t).2.2.2 = false ∧ parseFieldDescriptor (fB t).2.2.1 = some .int := by
  rcases (show t = 1 ∨ t = 2 ∨ t = 3 by omega) with rfl | rfl | rfl <;> decide +kernel
theorem bj_bp (F : GF p s m args meth c cc n ret y (c0 :: tbW) D vCl (TY cI cB cZ cJ) w0) {idx : Nat} (k t : Nat) (hk : k < j) (h1 : 1 ≤ t) (ht : t < 4) {v : Int32} (hd : decode cc pc = .ok (.putfield idx, 3)) (hl : Cond.fieldLink y.cls idx rB (fB t).2.1 (fB t).2.2.1 ∈ tbW) (hp : pc + 3 = pc2)
    (kk : GJ p l e R s m args below meth c D vCl A H0 n Q cells slots (bw a cI cB j (s2 σ (4 + 2 * k) t v)) pc2 L rest) : GJ p l e R s m args below meth c D vCl A H0 n Q cells slots (bw a cI cB j σ) pc L (.int v :: .ref (a (4 + 2 * k)) :: rest) := by
  subst hp
  refine gj_p (w2 := bw a cI cB j (s2 σ (4 + 2 * k) t v)) (fun ls H locs hP hD hS kx => va_put (D := D) (ci := kB) (v := .int v) (ty := .int) (C := rB) (T := fB) (N := 4) F.1 F.2.1 F.2.2.2.2.1 (fun w h => List.mem_cons_of_mem _ (iB w h)) tB tB_ok nB F.2.2.2.1 F.K hP hD hS (4 + 2 * k) (fs := bw_b (a (5 + 2 * k)) (σ (4 + 2 * k))) (by rw [bw_at (by omega), bw_e_blk]) rfl t (by omega) (F.w hl) (fun _ h9 => by rw [fB_1] at h9; exact h9) (bj_bf h1 ht).1 (bj_bf h1 ht).2 rfl rfl ht hd (fun H1 locs1 g1 g2 g3 => ?_)) kk
  rw [bj_set hk h1 ht] at g1 g2
  exact kx H1 locs1 g1 g2 g3
theorem bj_bpN (F : GF p s m args meth c cc n ret y (c0 :: tbW) D vCl (TY cI cB cZ cJ) w0) {idx : Nat} (k t : Nat) (hk : k < j) (h1 : 1 ≤ t) (ht : t < 4) {v : Int32} (hd : decode cc pc = .ok (.putfield idx, 3)) (hl : Cond.fieldLinkNest y.cls idx rB (fB t).2.1 (fB t).2.2.1 rX ∈ ev_N) (hp : pc + 3 = pc2)
    (kk : GJ p l e R s m args below meth c D vCl A H0 n Q cells slots (bw a cI cB j (s2 σ (4 + 2 * k) t v)) pc2 L rest) : GJ p l e R s m args below meth c D vCl A H0 n Q cells slots (bw a cI cB j σ) pc L (.int v :: .ref (a (4 + 2 * k)) :: rest) := by
  subst hp
  refine gj_p (w2 := bw a cI cB j (s2 σ (4 + 2 * k) t v)) (fun ls H locs hP hD hS kx => va_putN (D := D) (ci := kB) (v := .int v) (ty := .int) (C := rB) (T := fB) (N := 4) F.1 F.2.1 F.2.2.2.2.1 (fun w h => List.mem_cons_of_mem _ (iB w h)) tB tB_ok nB F.2.2.2.1 F.K hP hD hS (4 + 2 * k) (fs := bw_b (a (5 + 2 * k)) (σ (4 + 2 * k))) (by rw [bw_at (by omega), bw_e_blk]) rfl t (by omega) (va_Nw.use rfl (F.N hl)) (fun _ h9 => by rw [fB_1] at h9; exact h9) (bj_bf h1 ht).1 (bj_bf h1 ht).2 rfl rfl ht hd (fun H1 locs1 g1 g2 g3 => ?_)) kk
  rw [bj_set hk h1 ht] at g1 g2
  exact kx H1 locs1 g1 g2 g3
end BJ
end
section
/-! calls, by contract: V of a method of the receiver's own class, N of a nest mate's, S static -/
theorem tb_gi {c0 c1 : Cond} (h : c1 ∈ tbW) : GoodIn (c0 :: tbW) (c1 :: tbW) := fun w hw => by
  have h1 : w ∈ tbW := (List.mem_cons.mp hw).elim (fun e => by rw [e]; exact h) id
  exact ⟨List.mem_cons_of_mem _ h1, good_of_word (List.mem_filter.mp h1).2⟩
theorem tb_gl {c0 c1 : Cond} {ws : List Cond} (hs : ∀ w ∈ ws, w ∈ tbW) (h : c1 ∈ tbW) : GoodIn (c0 :: tbW) (ws ++ (c1 :: tbW)) := fun w hw => by
  have h1 : w ∈ tbW := (List.mem_append.mp hw).elim (hs w) (fun h2 => (List.mem_cons.mp h2).elim (fun e => by rw [e]; exact h) id)
  exact ⟨List.mem_cons_of_mem _ h1, good_of_word (List.mem_filter.mp h1).2⟩
def CKd (y : MethodName) (n : Nat) : Prop := y.cls ≠ "java/lang/invoke/MethodHandle" ∧ y.cls ≠ "java/lang/invoke/VarHandle" ∧ (parseMethodDescriptor y.desc).map (fun d => d.parameters.length) = some n
def CKV (y : MethodName) (bytes : ByteArray) (maxL : Nat) (ret : Option FieldType) (n : Nat) : Prop := Cond.code y bytes maxL ret ∈ tbW ∧ Cond.initialized y.cls ∈ tbW ∧ Cond.instanceMethod y ∈ tbW ∧ Cond.selects y.cls y y ∈ tbW ∧ CKd y n
def CKS (y : MethodName) (bytes : ByteArray) (maxL : Nat) (ret : Option FieldType) (n : Nat) : Prop := Cond.code y bytes maxL ret ∈ tbW ∧ Cond.initialized y.cls ∈ tbW ∧ Cond.static y ∈ tbW ∧ CKd y n
/-- the room of a callee that makes nothing, in the caller's -/
def RMo (rm R : Room) (maxL : Nat) : Prop := rm.cells = 0 ∧ rm.slots = 0 ∧ rm.frames + 1 ≤ R.frames ∧ 8 + (maxL + 11) + rm.locals ≤ R.locals
theorem rmo {rm R : Room} {maxL : Nat} (h : (Nat.beq rm.cells 0 && Nat.beq rm.slots 0 && Nat.ble (rm.frames + 1) R.frames && Nat.ble (8 + (maxL + 11) + rm.locals) R.locals) = true) : RMo rm R maxL := by
  simp only [Bool.and_eq_true] at h
  exact ⟨Nat.eq_of_beq_eq_true h.1.1.1, Nat.eq_of_beq_eq_true h.1.1.2, Nat.le_of_ble_eq_true h.1.2, Nat.le_of_ble_eq_true h.2⟩
section CJ
variable {p : Program} {l : Launch} {e : Env} {R : Room} {s : State} {m : MethodId} {args : Array Value} {below : List Frame} {meth : Method} {c : Code} {cells slots : Nat} {Q : State → Prop}
variable {D : va_G} {n : Nat} {w0 w : va_W} {pc pc2 : Nat} {L st rest As : List Value} {cc : ByteArray} {ret : Option FieldType} {y : MethodName} {c0 : Cond} {cI cB cZ cJ : ClassId}
variable {y2 : MethodName} {b2 : ByteArray} {maxL n2 idx b r ci : Nat} {ret2 : Option FieldType} {rm : Room} {fs : List Value} {T : u_T} {N : Nat}
theorem gr_V {Qc : Array Value → State → Outcome → State → Prop} {H : Heap} {locs : List Loc} {ls : Array Slot} (F : GF p s m args meth c cc n ret y (c0 :: tbW) D vCl (TY cI cB cZ cJ) w0) (K : CKV y2 b2 maxL ret2 n2) (hd : decode cc pc = .ok (.invokevirtual idx, 3)) (hl : Cond.methodLink y.cls idx y2 ∈ tbW) (hr : w[r]? = some (b, .inr (ci, fs))) (hci : vCl[ci]? = some (y2.cls, T, N))
    (hM : Met l y2 (Cond.code y2 b2 maxL ret2 :: tbW) rm (gc_Pc D vCl (TY cI cB cZ cJ) (.ref b :: As) w H.size) Qc 0 0 (va_A w H.size)) (hR : RMo rm R maxL) (hn : As.length = n2) (hst : st = As.reverse ++ .ref b :: rest) (hrs : (rest.map fun v => v.category).sum ≤ 8) (hc : cells ≤ R.cells) (hs : slots ≤ R.slots)
    (hsz : ls.size = n) (hp : gc_pre s D vCl (TY cI cB cZ cJ) (.ref b :: As) w H) (hP : va_P D vCl w H) :
    va_Run p l e R s m args below meth c H locs cells slots 0 0 (F0 m pc ls st) rest (Qc (Value.ref b :: As).toArray) (va_A w H.size) := by
  obtain ⟨k1, k2, k3, k4, k5⟩ := K
  refine va_runV (As := As) (rest := rest) (C := y2.cls) ⟨F.1, F.2.1, F.2.2.1, F.2.2.2.1, F.2.2.2.2.1⟩ hM (cwV n2 F.2.2.2.2.1 (tb_gl (c1 := Cond.code y2 b2 maxL ret2) ?_ k1) rfl hR.1 hR.2.1 ⟨rfl, k5⟩ ⟨hR.2.2.1, hR.2.2.2⟩) ⟨hp.1, va_recv F.K hP hci hr, hp.2⟩ rfl hn hsz hst (lv_room hrs) hd ⟨hc, hs⟩
  intro w9 h9
  simp only [List.mem_cons, List.not_mem_nil, or_false] at h9
  rcases h9 with rfl | rfl | rfl | rfl
  · exact hl
  · exact k3
  · exact k4
  · exact k2
theorem gr_N {Qc : Array Value → State → Outcome → State → Prop} {H : Heap} {locs : List Loc} {ls : Array Slot} (F : GF p s m args meth c cc n ret y (c0 :: tbW) D vCl (TY cI cB cZ cJ) w0) (K : CKV y2 b2 maxL ret2 n2) (hd : decode cc pc = .ok (.invokevirtual idx, 3)) (hl : Cond.methodLinkNest y.cls idx y2 rX ∈ ev_N) (hr : w[r]? = some (b, .inr (ci, fs))) (hci : vCl[ci]? = some (y2.cls, T, N))
    (hM : Met l y2 (Cond.code y2 b2 maxL ret2 :: tbW) rm (gc_Pc D vCl (TY cI cB cZ cJ) (.ref b :: As) w H.size) Qc 0 0 (va_A w H.size)) (hR : RMo rm R maxL) (hn : As.length = n2) (hst : st = As.reverse ++ .ref b :: rest) (hrs : (rest.map fun v => v.category).sum ≤ 8) (hc : cells ≤ R.cells) (hs : slots ≤ R.slots)
    (hsz : ls.size = n) (hp : gc_pre s D vCl (TY cI cB cZ cJ) (.ref b :: As) w H) (hP : va_P D vCl w H) :
    va_Run p l e R s m args below meth c H locs cells slots 0 0 (F0 m pc ls st) rest (Qc (Value.ref b :: As).toArray) (va_A w H.size) := by
  obtain ⟨k1, k2, k3, k4, k5⟩ := K
  exact va_runVN (As := As) (rest := rest) (C := y2.cls) ⟨F.1, F.2.1, F.2.2.1, F.2.2.2.1, F.2.2.2.2.1⟩ hM ⟨va_cnB n2 F.2.2.2.2.1 (tb_gi k1) rfl hR.1 hR.2.1 (F.N hl) (F.w k2) k5 ⟨hR.2.2.1, hR.2.2.2⟩, F.w k3, F.w k4⟩ ⟨hp.1, va_recv F.K hP hci hr, hp.2⟩ rfl hn hsz hst (lv_room hrs) hd ⟨hc, hs⟩
theorem gr_S {Qc : Array Value → State → Outcome → State → Prop} {H : Heap} {locs : List Loc} {ls : Array Slot} (F : GF p s m args meth c cc n ret y (c0 :: tbW) D vCl (TY cI cB cZ cJ) w0) (K : CKS y2 b2 maxL ret2 n2) (hd : decode cc pc = .ok (.invokestatic idx, 3)) (hl : Cond.methodLink y.cls idx y2 ∈ tbW)
    (hM : Met l y2 (Cond.code y2 b2 maxL ret2 :: tbW) rm (gc_Pc D vCl (TY cI cB cZ cJ) As w H.size) Qc 0 0 (va_A w H.size)) (hR : RMo rm R maxL) (hn : As.length = n2) (hst : st = As.reverse ++ rest) (hrs : (rest.map fun v => v.category).sum ≤ 8) (hc : cells ≤ R.cells) (hs : slots ≤ R.slots)
    (hsz : ls.size = n) (hp : gc_pre s D vCl (TY cI cB cZ cJ) As w H) :
    va_Run p l e R s m args below meth c H locs cells slots 0 0 (F0 m pc ls st) rest (Qc As.toArray) (va_A w H.size) := by
  obtain ⟨k1, k2, k3, k5⟩ := K
  refine va_runS (As := As) (rest := rest) ⟨F.1, F.2.1, F.2.2.1, F.2.2.2.1, F.2.2.2.2.1⟩ hM (va_cwS n2 F.2.2.2.2.1 (tb_gl (c1 := Cond.code y2 b2 maxL ret2) ?_ k1) rfl hR.1 hR.2.1 k5 ⟨hR.2.2.1, hR.2.2.2⟩) ⟨hp.1, hp.2⟩ rfl hn hsz hst (lv_room hrs) hd ⟨hc, hs⟩
  intro w9 h9
  simp only [List.mem_cons, List.not_mem_nil, or_false] at h9
  rcases h9 with rfl | rfl | rfl
  · exact hl
  · exact k3
  · exact k2
theorem ga_A {w9 : va_W} {sz : Nat} : ∀ q : Nat, sz ≤ q → va_A w9 sz q := fun q h => Or.inr h
theorem bj_vi {post : Int32 → va_W → Prop} (F : GF p s m args meth c cc n ret y (c0 :: tbW) D vCl (TY cI cB cZ cJ) w0) (K : CKV y2 b2 maxL ret2 n2) (hd : decode cc pc = .ok (.invokevirtual idx, 3)) (hl : Cond.methodLink y.cls idx y2 ∈ tbW) (hr : w[r]? = some (b, .inr (ci, fs))) (hci : vCl[ci]? = some (y2.cls, T, N))
    (hM : GCi l y2 (Cond.code y2 b2 maxL ret2 :: tbW) rm 0 0 D vCl (TY cI cB cZ cJ) (.ref b :: As) w post) (hR : RMo rm R maxL) (hn : As.length = n2) (hst : st = As.reverse ++ .ref b :: rest) (hrs : (rest.map fun v => v.category).sum ≤ 8) (hc : cells ≤ R.cells) (hs : slots ≤ R.slots) (hp : pc + 3 = pc2)
    (k : ∀ (r9 : Int32) (u : va_W), post r9 u → GJ p l e R s m args below meth c D vCl (va_A w0 s.heap.size) s.heap n Q cells slots u pc2 L (.int r9 :: rest)) : GJ p l e R s m args below meth c D vCl (va_A w0 s.heap.size) s.heap n Q cells slots w pc L st := by
  subst hp
  have h := gj_calli (wc := w) (wr := []) (L := L) (av := .ref b :: As) (post := post) (mc := 0) (ms := 0) (rest := rest) (st := st) (pc := pc) (Q := Q) F.K F.E ga_A (fun ls H locs hsz hpre hP => gr_V (locs := locs) F K hd hl hr hci (hM H.size) hR hn hst hrs hc hs hsz hpre (by rw [List.append_nil] at hP; exact hP)) (fun r9 u h9 => by rw [List.append_nil]; exact k r9 u h9)
  rw [List.append_nil] at h
  exact h
theorem bj_vv {post : va_W → Prop} (F : GF p s m args meth c cc n ret y (c0 :: tbW) D vCl (TY cI cB cZ cJ) w0) (K : CKV y2 b2 maxL ret2 n2) (hd : decode cc pc = .ok (.invokevirtual idx, 3)) (hl : Cond.methodLink y.cls idx y2 ∈ tbW) (hr : w[r]? = some (b, .inr (ci, fs))) (hci : vCl[ci]? = some (y2.cls, T, N))
    (hM : GCv l y2 (Cond.code y2 b2 maxL ret2 :: tbW) rm 0 0 D vCl (TY cI cB cZ cJ) (.ref b :: As) w post) (hR : RMo rm R maxL) (hn : As.length = n2) (hst : st = As.reverse ++ .ref b :: rest) (hrs : (rest.map fun v => v.category).sum ≤ 8) (hc : cells ≤ R.cells) (hs : slots ≤ R.slots) (hp : pc + 3 = pc2)
    (k : ∀ u : va_W, post u → GJ p l e R s m args below meth c D vCl (va_A w0 s.heap.size) s.heap n Q cells slots u pc2 L (rest)) : GJ p l e R s m args below meth c D vCl (va_A w0 s.heap.size) s.heap n Q cells slots w pc L st := by
  subst hp
  have h := gj_callv (wc := w) (wr := []) (L := L) (av := .ref b :: As) (post := post) (mc := 0) (ms := 0) (rest := rest) (st := st) (pc := pc) (Q := Q) F.K F.E ga_A (fun ls H locs hsz hpre hP => gr_V (locs := locs) F K hd hl hr hci (hM H.size) hR hn hst hrs hc hs hsz hpre (by rw [List.append_nil] at hP; exact hP)) (fun u h9 => by rw [List.append_nil]; exact k u h9)
  rw [List.append_nil] at h
  exact h
theorem bj_vr {post : Nat → va_W → Prop} (F : GF p s m args meth c cc n ret y (c0 :: tbW) D vCl (TY cI cB cZ cJ) w0) (K : CKV y2 b2 maxL ret2 n2) (hd : decode cc pc = .ok (.invokevirtual idx, 3)) (hl : Cond.methodLink y.cls idx y2 ∈ tbW) (hr : w[r]? = some (b, .inr (ci, fs))) (hci : vCl[ci]? = some (y2.cls, T, N))
    (hM : GCr l y2 (Cond.code y2 b2 maxL ret2 :: tbW) rm 0 0 D vCl (TY cI cB cZ cJ) (.ref b :: As) w post) (hR : RMo rm R maxL) (hn : As.length = n2) (hst : st = As.reverse ++ .ref b :: rest) (hrs : (rest.map fun v => v.category).sum ≤ 8) (hc : cells ≤ R.cells) (hs : slots ≤ R.slots) (hp : pc + 3 = pc2)
    (k : ∀ (r9 : Nat) (u : va_W), post r9 u → GJ p l e R s m args below meth c D vCl (va_A w0 s.heap.size) s.heap n Q cells slots u pc2 L (.ref r9 :: rest)) : GJ p l e R s m args below meth c D vCl (va_A w0 s.heap.size) s.heap n Q cells slots w pc L st := by
  subst hp
  have h := gj_callr (wc := w) (wr := []) (L := L) (av := .ref b :: As) (post := post) (mc := 0) (ms := 0) (rest := rest) (st := st) (pc := pc) (Q := Q) F.K F.E ga_A (fun ls H locs hsz hpre hP => gr_V (locs := locs) F K hd hl hr hci (hM H.size) hR hn hst hrs hc hs hsz hpre (by rw [List.append_nil] at hP; exact hP)) (fun r9 u h9 => by rw [List.append_nil]; exact k r9 u h9)
  rw [List.append_nil] at h
  exact h
theorem bj_ni {post : Int32 → va_W → Prop} (F : GF p s m args meth c cc n ret y (c0 :: tbW) D vCl (TY cI cB cZ cJ) w0) (K : CKV y2 b2 maxL ret2 n2) (hd : decode cc pc = .ok (.invokevirtual idx, 3)) (hl : Cond.methodLinkNest y.cls idx y2 rX ∈ ev_N) (hr : w[r]? = some (b, .inr (ci, fs))) (hci : vCl[ci]? = some (y2.cls, T, N))
    (hM : GCi l y2 (Cond.code y2 b2 maxL ret2 :: tbW) rm 0 0 D vCl (TY cI cB cZ cJ) (.ref b :: As) w post) (hR : RMo rm R maxL) (hn : As.length = n2) (hst : st = As.reverse ++ .ref b :: rest) (hrs : (rest.map fun v => v.category).sum ≤ 8) (hc : cells ≤ R.cells) (hs : slots ≤ R.slots) (hp : pc + 3 = pc2)
    (k : ∀ (r9 : Int32) (u : va_W), post r9 u → GJ p l e R s m args below meth c D vCl (va_A w0 s.heap.size) s.heap n Q cells slots u pc2 L (.int r9 :: rest)) : GJ p l e R s m args below meth c D vCl (va_A w0 s.heap.size) s.heap n Q cells slots w pc L st := by
  subst hp
  have h := gj_calli (wc := w) (wr := []) (L := L) (av := .ref b :: As) (post := post) (mc := 0) (ms := 0) (rest := rest) (st := st) (pc := pc) (Q := Q) F.K F.E ga_A (fun ls H locs hsz hpre hP => gr_N (locs := locs) F K hd hl hr hci (hM H.size) hR hn hst hrs hc hs hsz hpre (by rw [List.append_nil] at hP; exact hP)) (fun r9 u h9 => by rw [List.append_nil]; exact k r9 u h9)
  rw [List.append_nil] at h
  exact h
theorem bj_nv {post : va_W → Prop} (F : GF p s m args meth c cc n ret y (c0 :: tbW) D vCl (TY cI cB cZ cJ) w0) (K : CKV y2 b2 maxL ret2 n2) (hd : decode cc pc = .ok (.invokevirtual idx, 3)) (hl : Cond.methodLinkNest y.cls idx y2 rX ∈ ev_N) (hr : w[r]? = some (b, .inr (ci, fs))) (hci : vCl[ci]? = some (y2.cls, T, N))
    (hM : GCv l y2 (Cond.code y2 b2 maxL ret2 :: tbW) rm 0 0 D vCl (TY cI cB cZ cJ) (.ref b :: As) w post) (hR : RMo rm R maxL) (hn : As.length = n2) (hst : st = As.reverse ++ .ref b :: rest) (hrs : (rest.map fun v => v.category).sum ≤ 8) (hc : cells ≤ R.cells) (hs : slots ≤ R.slots) (hp : pc + 3 = pc2)
    (k : ∀ u : va_W, post u → GJ p l e R s m args below meth c D vCl (va_A w0 s.heap.size) s.heap n Q cells slots u pc2 L (rest)) : GJ p l e R s m args below meth c D vCl (va_A w0 s.heap.size) s.heap n Q cells slots w pc L st := by
  subst hp
  have h := gj_callv (wc := w) (wr := []) (L := L) (av := .ref b :: As) (post := post) (mc := 0) (ms := 0) (rest := rest) (st := st) (pc := pc) (Q := Q) F.K F.E ga_A (fun ls H locs hsz hpre hP => gr_N (locs := locs) F K hd hl hr hci (hM H.size) hR hn hst hrs hc hs hsz hpre (by rw [List.append_nil] at hP; exact hP)) (fun u h9 => by rw [List.append_nil]; exact k u h9)
  rw [List.append_nil] at h
  exact h
theorem bj_nr {post : Nat → va_W → Prop} (F : GF p s m args meth c cc n ret y (c0 :: tbW) D vCl (TY cI cB cZ cJ) w0) (K : CKV y2 b2 maxL ret2 n2) (hd : decode cc pc = .ok (.invokevirtual idx, 3)) (hl : Cond.methodLinkNest y.cls idx y2 rX ∈ ev_N) (hr : w[r]? = some (b, .inr (ci, fs))) (hci : vCl[ci]? = some (y2.cls, T, N))
    (hM : GCr l y2 (Cond.code y2 b2 maxL ret2 :: tbW) rm 0 0 D vCl (TY cI cB cZ cJ) (.ref b :: As) w post) (hR : RMo rm R maxL) (hn : As.length = n2) (hst : st = As.reverse ++ .ref b :: rest) (hrs : (rest.map fun v => v.category).sum ≤ 8) (hc : cells ≤ R.cells) (hs : slots ≤ R.slots) (hp : pc + 3 = pc2)
    (k : ∀ (r9 : Nat) (u : va_W), post r9 u → GJ p l e R s m args below meth c D vCl (va_A w0 s.heap.size) s.heap n Q cells slots u pc2 L (.ref r9 :: rest)) : GJ p l e R s m args below meth c D vCl (va_A w0 s.heap.size) s.heap n Q cells slots w pc L st := by
  subst hp
  have h := gj_callr (wc := w) (wr := []) (L := L) (av := .ref b :: As) (post := post) (mc := 0) (ms := 0) (rest := rest) (st := st) (pc := pc) (Q := Q) F.K F.E ga_A (fun ls H locs hsz hpre hP => gr_N (locs := locs) F K hd hl hr hci (hM H.size) hR hn hst hrs hc hs hsz hpre (by rw [List.append_nil] at hP; exact hP)) (fun r9 u h9 => by rw [List.append_nil]; exact k r9 u h9)
  rw [List.append_nil] at h
  exact h
/-- a static method of numbers -/
theorem bj_s {post : Int32 → Prop} (F : GF p s m args meth c cc n ret y (c0 :: tbW) D vCl (TY cI cB cZ cJ) w0) (K : CKS y2 b2 maxL ret2 n2) (hd : decode cc pc = .ok (.invokestatic idx, 3)) (hl : Cond.methodLink y.cls idx y2 ∈ tbW)
    (hM : GCi l y2 (Cond.code y2 b2 maxL ret2 :: tbW) rm 0 0 D vCl (TY cI cB cZ cJ) As [] (fun r u => post r ∧ u = [])) (hR : RMo rm R maxL) (hn : As.length = n2) (hst : st = As.reverse ++ rest) (hrs : (rest.map fun v => v.category).sum ≤ 8) (hc : cells ≤ R.cells) (hs : slots ≤ R.slots) (hp : pc + 3 = pc2)
    (k : ∀ r9 : Int32, post r9 → GJ p l e R s m args below meth c D vCl (va_A w0 s.heap.size) s.heap n Q cells slots w pc2 L (.int r9 :: rest)) : GJ p l e R s m args below meth c D vCl (va_A w0 s.heap.size) s.heap n Q cells slots w pc L st := by
  subst hp
  exact gj_calli (wc := []) (wr := w) (av := As) (mc := 0) (ms := 0) (rest := rest) F.K F.E ga_A (fun ls H locs hsz hpre hP => gr_S (locs := locs) F K hd hl (hM H.size) hR hn hst hrs hc hs hsz hpre) (fun r9 u h9 => by rw [h9.2]; exact k r9 h9.1)
end CJ
end
section
/-! what the class's methods do, as functions of its rows of numbers -/
def bN (b : Bool) : Int32 := if b then 1 else 0
def inM (x : Int32) : Bool := !decide (x < 0) && !decide (1024 ≤ x)
def lenO (k : Int32) : Int32 := if k = 0 ∨ k = 10 ∨ 12 ≤ k then 1 else 2
def endO (k : Int32) : Bool := decide (k = 0 ∨ k = 7 ∨ 12 ≤ k)
def bzt (x : Int32) : Int32 := if 128 ≤ x then x - 256 else x
def wrk (k a b : Int32) : Int32 := if k = 2 then a + b else if k = 3 then a - b else if k = 6 then a &&& b else if k = 9 then a * b else a >>> ((1 : Int32) &&& 31)
def keptB (σ : St) (k : Nat) : Bool := !decide (σ (4 + 2 * k) 2 ≤ 0)
def begB (σ : St) (k : Nat) (x : Int32) : Bool := keptB σ k && decide (σ (4 + 2 * k) 1 = x)
def hasB (σ : St) (k : Nat) (x : Int32) : Bool := keptB σ k && (!decide (x < σ (4 + 2 * k) 1) && !decide (σ (4 + 2 * k) 1 + σ (4 + 2 * k) 3 ≤ x))
def empB (σ : St) (k : Nat) (b : Int32) : St := s2 (s2 (s2 σ (4 + 2 * k) 1 b) (4 + 2 * k) 2 0) (4 + 2 * k) 3 0
def tOut (σ : St) (k : Nat) : St := s2 (empB σ k 0) 0 9 (empB σ k 0 0 9 + 1)
def wrS (i : Nat) (τ : St) (k : Nat) : St := if hasB τ k (nI i) then tOut τ k else τ
def wrL (σ : St) (i : Nat) : Nat → St
  | 0 => σ
  | n + 1 => wrS i (wrL σ i n) n
def wrB (σ : St) (i : Nat) (v : Int32) : St := wrL (s2 σ 1 i v) i 32
def kNt (σ : St) : Nat → Int32
  | 0 => 0
  | n + 1 => if keptB σ n then kNt σ n + 1 else kNt σ n
def fgS (σ : St) : Nat → St
  | 0 => σ
  | n + 1 => if keptB (fgS σ n) n then tOut (fgS σ n) n else fgS σ n
def fgN (σ : St) : Nat → Int32
  | 0 => 0
  | n + 1 => if keptB (fgS σ n) n then fgN σ n + 1 else fgN σ n
def wdA (σ : St) (x : Int32) : Int32 := if inM x then (if lenO ((σ 1 x.toNatClampNeg <<< ((8 : Int32) &&& 31)) >>> ((12 : Int32) &&& 31)) = 1 then σ 1 x.toNatClampNeg <<< ((8 : Int32) &&& 31) else if inM (x + 1) then (σ 1 x.toNatClampNeg <<< ((8 : Int32) &&& 31)) ||| σ 1 (x + 1).toNatClampNeg else 65536) else 65536
def dlS (σ : St) (k : Nat) (b : Int32) : Nat → St × Int32 × Bool
  | 0 => (empB σ k b, b, true)
  | n + 1 => let q := dlS σ k b n
    if q.2.2 then
      let wd := wdA q.1 q.2.1
      let kd := wd >>> ((12 : Int32) &&& 31)
      let τ := s2 q.1 (5 + 2 * k) n wd
      (s2 τ (4 + 2 * k) 2 (τ (4 + 2 * k) 2 + 1), q.2.1 + (if kd = 16 then bN (inM q.2.1) else lenO kd), !endO kd)
    else q
def deB (σ : St) (k : Nat) (b : Int32) : St :=
  let q := dlS σ k b 12
  let τ := s2 q.1 (4 + 2 * k) 3 (q.2.1 - b)
  let υ := s2 τ 0 7 (τ 0 7 + 1)
  s2 υ 0 11 (υ 0 11 + υ (4 + 2 * k) 2)
def kAt (x : Int32) : Nat := (x &&& 31).toNatClampNeg
def blA (σ : St) (x : Int32) : St := if begB σ (kAt x) x then s2 σ 0 8 (σ 0 8 + 1) else deB σ (kAt x) x
def stB (σ : St) (kd : Int32) (i : Nat) : Int32 := if kd = 0 then 1 else if kd = 16 then 4 else if 12 ≤ kd then 3 else if (kd = 4 ∨ kd = 5) ∧ inM (σ 2 i) = false then 2 else 0
def isZ (σ : St) : Bool := decide (σ 0 5 = 0)
def isL (σ : St) : Bool := !decide (0 ≤ σ 0 5)
def hlD (σ : St) (c : Int32) : Bool := if c = 0 then true else if c = 1 then isZ σ else if c = 2 then !isZ σ else if c = 3 then isL σ else if c = 4 then !isL σ else false
def lo3 (x : Int32) : Nat := (x &&& 7).toNatClampNeg
def pfM (σ : St) (kd lo se : Int32) : St :=
  if kd = 1 then s2 σ 2 (lo3 lo) (bzt se)
  else if kd = 4 then s2 σ 2 (lo3 lo) (σ 1 (σ 2 (lo3 se)).toNatClampNeg)
  else if kd = 5 then s2 (wrB σ (σ 2 (lo3 se)).toNatClampNeg (σ 2 (lo3 lo) &&& 255)) 0 10 (wrB σ (σ 2 (lo3 se)).toNatClampNeg (σ 2 (lo3 lo) &&& 255) 0 10 + 1)
  else if kd = 7 then (if hlD σ lo then s2 σ 0 3 (σ 0 3 + bzt se) else σ)
  else if kd = 8 then s2 σ 2 (lo3 lo) (σ 2 (lo3 se))
  else if kd = 11 then s2 σ 0 5 (σ 2 (lo3 lo) - σ 2 (lo3 se))
  else s2 (s2 σ 0 5 (wrk kd (σ 2 (lo3 lo)) (σ 2 (lo3 se)))) 2 (lo3 lo) (wrk kd (σ 2 (lo3 lo)) (σ 2 (lo3 se)))
def wKd (wd : Int32) : Int32 := wd >>> ((12 : Int32) &&& 31)
def wLo (wd : Int32) : Int32 := (wd >>> ((8 : Int32) &&& 31)) &&& 15
def wSe (wd : Int32) : Int32 := wd &&& 255
def dwS (σ : St) (wd : Int32) : St := s2 σ 0 4 (stB σ (wKd wd) (lo3 (wSe wd)))
def dwP (σ : St) (wd : Int32) : St := s2 (dwS σ wd) 0 3 (dwS σ wd 0 3 + lenO (wKd wd))
def dwQ (σ : St) (wd : Int32) : St := pfM (dwP σ wd) (wKd wd) (wLo wd) (wSe wd)
def dwB (σ : St) (wd : Int32) : Bool := decide (stB σ (wKd wd) (lo3 (wSe wd)) = 0)
def dwO (σ : St) (wd : Int32) : St := if dwB σ wd then s2 (dwQ σ wd) 0 6 (dwQ σ wd 0 6 + 1) else dwS σ wd
def dbL (most : Int32) (k : Nat) : Nat → Nat → St → St × Nat
  | 0, w, σ => (σ, w)
  | f + 1, w, σ => if nI w < σ (4 + 2 * k) 2 ∧ nI w < most then (if dwB σ (σ (5 + 2 * k) w) then dbL most k f (w + 1) (dwO σ (σ (5 + 2 * k) w)) else (dwO σ (σ (5 + 2 * k) w), w)) else (σ, w)
def dbO (σ : St) (most : Int32) : St × Nat := dbL most (kAt (σ 0 3)) 12 0 (blA σ (σ 0 3))
/-- fuel, steps done so far -/
def ruL (n : Nat) : Nat → Nat → St → St × Nat
  | 0, d, σ => (σ, d)
  | f + 1, d, σ => if d < n ∧ σ 0 4 = 0 then ruL n f (d + (dbO σ (nI (n - d))).2) (dbO σ (nI (n - d))).1 else (σ, d)
theorem bw_blk {a : Nat → Nat} {cI cB : ClassId} {j k : Nat} {σ : St} (hk : k < j) : (bw a cI cB j σ)[4 + 2 * k]? = some (a (4 + 2 * k), .inr (kB, bw_b (a (5 + 2 * k)) (σ (4 + 2 * k)))) := by rw [bw_at (by omega), bw_e_blk]
theorem bN_z (b : Bool) : narrow .boolean (.int (bN b)) = .int (bN b) := by cases b <;> rfl
theorem bN_0 {b : Bool} : bN b = 0 ↔ b = false := by cases b <;> decide
theorem bN_n0 {b : Bool} : ¬ bN b = 0 ↔ b = true := by cases b <;> decide
theorem inM_of {x : Int32} (h : inM x = true) : ∃ i : Nat, i < 1024 ∧ x = nI i := by
  simp only [inM, Bool.and_eq_true, Bool.not_eq_true', decide_eq_false_iff_not] at h
  obtain ⟨i, h1, h2⟩ := nI_of h.1
  subst h2
  refine ⟨i, ?_, rfl⟩
  rcases Nat.lt_or_ge i 1024 with h3 | h3
  · exact h3
  · exact absurd (show (1024 : Int32) ≤ nI i from nI_le (a := 1024) h3 h1) h.2
theorem inM_nI {i : Nat} (h : i < 1024) : inM (nI i) = true := by
  simp only [inM, Bool.and_eq_true, Bool.not_eq_true', decide_eq_false_iff_not]
  exact ⟨nI_pos (by omega), nI_ge (b := 1024) h (by omega)⟩
theorem lo3_lt (x : Int32) : lo3 x < 8 := by
  obtain ⟨j, h1, h2⟩ := pk_andE x (m := 7) 3 (by decide)
  unfold lo3
  rw [h2, nI_clamp (by omega)]
  exact h1
theorem lo3_eq (x : Int32) : x &&& 7 = nI (lo3 x) := by
  obtain ⟨j, h1, h2⟩ := pk_andE x (m := 7) 3 (by decide)
  unfold lo3
  rw [h2, nI_clamp (by omega)]
theorem kAt_lt (x : Int32) : kAt x < 32 := by
  obtain ⟨j, h1, h2⟩ := pk_andE x (m := 31) 5 (by decide)
  unfold kAt
  rw [h2, nI_clamp (by omega)]
  exact h1
theorem kAt_eq (x : Int32) : x &&& 31 = nI (kAt x) := by
  obtain ⟨j, h1, h2⟩ := pk_andE x (m := 31) 5 (by decide)
  unfold kAt
  rw [h2, nI_clamp (by omega)]
end
section
theorem k_X_inMemory : CKS y_X_inMemory c_X_inMemory 1 (some .boolean) 1 := ⟨q_115, q_1, q_114, ⟨by decide +kernel, by decide +kernel, by decide +kernel⟩⟩
set_option maxHeartbeats 4000000 in
set_option maxRecDepth 100000 in
theorem ct_X_inMemory {l : Launch} {D : va_G} {cI cB cZ cJ : ClassId} (x : Int32) : GCi l y_X_inMemory (Cond.code y_X_inMemory c_X_inMemory 1 (some .boolean) :: tbW) ({ frames := 0, cells := 0, slots := 0, locals := 0 }) 0 0 D vCl (TY cI cB cZ cJ) [.int x] [] (fun r u => r = bN (inM x) ∧ u = []) := by
  refine gc_body (Qc := gc_Qi D vCl (TY cI cB cZ cJ) [] (fun r u => r = bN (inM x) ∧ u = [])) (cc := c_X_inMemory) (maxL := 1) (ret := (some .boolean)) (by decide) rfl (by simp [Value.category]) (Nat.le_of_ble_eq_true rfl) ?_
  intro p e s m args below meth c F
  have hx := F.1
  have hb := F.2.1
  refine gj_ld (i := 0) (pc2 := 1) rfl (fun _ _ _ h9 => lv_iload_n hx hb d_X_inMemory_0 rfl h9) ?_
  refine gj_if (pc2 := 15) (pc3 := 4) (fun _ _ _ => lv_if_lt (tgt := 15) hx hb d_X_inMemory_1 (by decide)) (fun h1 => ?_) (fun h1 => ?_)
  · refine gj_l (pc2 := 16) (fun _ _ _ => lv_iconst (v := 0) hx hb d_X_inMemory_15 (by decide)) ?_
    exact gj_zret F d_X_inMemory_16 (by first | rfl | exact bN_z _ | decide) (Nat.le_refl _) (Nat.le_refl _) ⟨by simp [inM, bN, h1], rfl⟩
  · refine gj_ld (i := 0) (pc2 := 5) rfl (fun _ _ _ h9 => lv_iload_n hx hb d_X_inMemory_4 rfl h9) ?_
    refine gj_l (pc2 := 8) (fun _ _ _ => lv_sipush (v := (1024)) hx hb d_X_inMemory_5 (by decide)) ?_
    refine gj_if (pc2 := 15) (pc3 := 11) (fun _ _ _ => lv_icmp_ge (tgt := 15) hx hb d_X_inMemory_8 (by decide)) (fun h8 => ?_) (fun h8 => ?_)
    · refine gj_l (pc2 := 16) (fun _ _ _ => lv_iconst (v := 0) hx hb d_X_inMemory_15 (by decide)) ?_
      exact gj_zret F d_X_inMemory_16 (by first | rfl | exact bN_z _ | decide) (Nat.le_refl _) (Nat.le_refl _) ⟨by simp [inM, bN, h1, h8], rfl⟩
    · refine gj_l (pc2 := 12) (fun _ _ _ => lv_iconst (v := 1) hx hb d_X_inMemory_11 (by decide)) ?_
      refine gj_l (pc2 := 16) (fun _ _ _ => lv_goto (tgt := 16) hx hb d_X_inMemory_12 (by decide)) ?_
      exact gj_zret F d_X_inMemory_16 (by first | rfl | exact bN_z _ | decide) (Nat.le_refl _) (Nat.le_refl _) ⟨by simp [inM, bN, h1, h8], rfl⟩

theorem k_X_bytesOfOutside : CKS y_X_bytesOfOutside c_X_bytesOfOutside 1 (some .int) 1 := ⟨q_268, q_1, q_267, ⟨by decide +kernel, by decide +kernel, by decide +kernel⟩⟩
set_option maxHeartbeats 4000000 in
set_option maxRecDepth 100000 in
theorem ct_X_bytesOfOutside {l : Launch} {D : va_G} {cI cB cZ cJ : ClassId} (x : Int32) : GCi l y_X_bytesOfOutside (Cond.code y_X_bytesOfOutside c_X_bytesOfOutside 1 (some .int) :: tbW) ({ frames := 1, cells := 0, slots := 0, locals := 20 }) 0 0 D vCl (TY cI cB cZ cJ) [.int x] [] (fun r u => r = bN (inM x) ∧ u = []) := by
  refine gc_body (Qc := gc_Qi D vCl (TY cI cB cZ cJ) [] (fun r u => r = bN (inM x) ∧ u = [])) (cc := c_X_bytesOfOutside) (maxL := 1) (ret := (some .int)) (by decide) rfl (by simp [Value.category]) (Nat.le_of_ble_eq_true rfl) ?_
  intro p e s m args below meth c F
  have hx := F.1
  have hb := F.2.1
  refine gj_ld (i := 0) (pc2 := 1) rfl (fun _ _ _ h9 => lv_iload_n hx hb d_X_bytesOfOutside_0 rfl h9) ?_
  refine bj_s F k_X_inMemory d_X_bytesOfOutside_1 q_113 (ct_X_inMemory _) (rmo rfl) rfl rfl (Nat.le_of_ble_eq_true rfl) (Nat.zero_le _) (Nat.zero_le _) rfl (fun r9 e9 => ?_)
  subst e9
  refine gj_if (pc2 := 11) (pc3 := 7) (fun _ _ _ => lv_if_eq (tgt := 11) hx hb d_X_bytesOfOutside_4 (by decide)) (fun h4 => ?_) (fun h4 => ?_)
  · refine gj_l (pc2 := 12) (fun _ _ _ => lv_iconst (v := 0) hx hb d_X_bytesOfOutside_11 (by decide)) ?_
    exact gj_iret F d_X_bytesOfOutside_12 (Nat.le_refl _) (Nat.le_refl _) ⟨by simp [bN_0] at h4; simp [bN, h4], rfl⟩
  · refine gj_l (pc2 := 8) (fun _ _ _ => lv_iconst (v := 1) hx hb d_X_bytesOfOutside_7 (by decide)) ?_
    refine gj_l (pc2 := 12) (fun _ _ _ => lv_goto (tgt := 12) hx hb d_X_bytesOfOutside_8 (by decide)) ?_
    exact gj_iret F d_X_bytesOfOutside_12 (Nat.le_refl _) (Nat.le_refl _) ⟨by simp [bN_0] at h4; simp [bN, h4], rfl⟩

theorem k_X_lengthOf : CKS y_X_lengthOf c_X_lengthOf 1 (some .int) 1 := ⟨q_265, q_1, q_264, ⟨by decide +kernel, by decide +kernel, by decide +kernel⟩⟩
set_option maxHeartbeats 4000000 in
set_option maxRecDepth 100000 in
theorem ct_X_lengthOf {l : Launch} {D : va_G} {cI cB cZ cJ : ClassId} (x : Int32) : GCi l y_X_lengthOf (Cond.code y_X_lengthOf c_X_lengthOf 1 (some .int) :: tbW) ({ frames := 0, cells := 0, slots := 0, locals := 0 }) 0 0 D vCl (TY cI cB cZ cJ) [.int x] [] (fun r u => r = lenO x ∧ u = []) := by
  refine gc_body (Qc := gc_Qi D vCl (TY cI cB cZ cJ) [] (fun r u => r = lenO x ∧ u = [])) (cc := c_X_lengthOf) (maxL := 1) (ret := (some .int)) (by decide) rfl (by simp [Value.category]) (Nat.le_of_ble_eq_true rfl) ?_
  intro p e s m args below meth c F
  have hx := F.1
  have hb := F.2.1
  refine gj_ld (i := 0) (pc2 := 1) rfl (fun _ _ _ h9 => lv_iload_n hx hb d_X_lengthOf_0 rfl h9) ?_
  refine gj_if (pc2 := 16) (pc3 := 4) (fun _ _ _ => lv_if_eq (tgt := 16) hx hb d_X_lengthOf_1 (by decide)) (fun h1 => ?_) (fun h1 => ?_)
  · refine gj_l (pc2 := 17) (fun _ _ _ => lv_iconst (v := 1) hx hb d_X_lengthOf_16 (by decide)) ?_
    refine gj_l (pc2 := 21) (fun _ _ _ => lv_goto (tgt := 21) hx hb d_X_lengthOf_17 (by decide)) ?_
    exact gj_iret F d_X_lengthOf_21 (Nat.le_refl _) (Nat.le_refl _) ⟨by simp [lenO, h1] <;> first | done | (simp at *; done) | omega, rfl⟩
  · refine gj_ld (i := 0) (pc2 := 5) rfl (fun _ _ _ h9 => lv_iload_n hx hb d_X_lengthOf_4 rfl h9) ?_
    refine gj_l (pc2 := 7) (fun _ _ _ => lv_bipush (v := (10)) hx hb d_X_lengthOf_5 (by decide)) ?_
    refine gj_if (pc2 := 16) (pc3 := 10) (fun _ _ _ => lv_icmp_eq (tgt := 16) hx hb d_X_lengthOf_7 (by decide)) (fun h7 => ?_) (fun h7 => ?_)
    · refine gj_l (pc2 := 17) (fun _ _ _ => lv_iconst (v := 1) hx hb d_X_lengthOf_16 (by decide)) ?_
      refine gj_l (pc2 := 21) (fun _ _ _ => lv_goto (tgt := 21) hx hb d_X_lengthOf_17 (by decide)) ?_
      exact gj_iret F d_X_lengthOf_21 (Nat.le_refl _) (Nat.le_refl _) ⟨by simp [lenO, h1, h7] <;> first | done | (simp at *; done) | omega, rfl⟩
    · refine gj_ld (i := 0) (pc2 := 11) rfl (fun _ _ _ h9 => lv_iload_n hx hb d_X_lengthOf_10 rfl h9) ?_
      refine gj_l (pc2 := 13) (fun _ _ _ => lv_bipush (v := (12)) hx hb d_X_lengthOf_11 (by decide)) ?_
      refine gj_if (pc2 := 20) (pc3 := 16) (fun _ _ _ => lv_icmp_lt (tgt := 20) hx hb d_X_lengthOf_13 (by decide)) (fun h13 => ?_) (fun h13 => ?_)
      · refine gj_l (pc2 := 21) (fun _ _ _ => lv_iconst (v := 2) hx hb d_X_lengthOf_20 (by decide)) ?_
        exact gj_iret F d_X_lengthOf_21 (Nat.le_refl _) (Nat.le_refl _) ⟨by simp [lenO, h1, h7, h13] <;> first | done | (simp at *; done) | omega, rfl⟩
      · refine gj_l (pc2 := 17) (fun _ _ _ => lv_iconst (v := 1) hx hb d_X_lengthOf_16 (by decide)) ?_
        refine gj_l (pc2 := 21) (fun _ _ _ => lv_goto (tgt := 21) hx hb d_X_lengthOf_17 (by decide)) ?_
        exact gj_iret F d_X_lengthOf_21 (Nat.le_refl _) (Nat.le_refl _) ⟨by simp [lenO, h1, h7, h13] <;> first | done | (simp at *; done) | omega, rfl⟩

theorem k_X_endsBlock : CKS y_X_endsBlock c_X_endsBlock 1 (some .boolean) 1 := ⟨q_271, q_1, q_270, ⟨by decide +kernel, by decide +kernel, by decide +kernel⟩⟩
set_option maxHeartbeats 4000000 in
set_option maxRecDepth 100000 in
theorem ct_X_endsBlock {l : Launch} {D : va_G} {cI cB cZ cJ : ClassId} (x : Int32) : GCi l y_X_endsBlock (Cond.code y_X_endsBlock c_X_endsBlock 1 (some .boolean) :: tbW) ({ frames := 0, cells := 0, slots := 0, locals := 0 }) 0 0 D vCl (TY cI cB cZ cJ) [.int x] [] (fun r u => r = bN (endO x) ∧ u = []) := by
  refine gc_body (Qc := gc_Qi D vCl (TY cI cB cZ cJ) [] (fun r u => r = bN (endO x) ∧ u = [])) (cc := c_X_endsBlock) (maxL := 1) (ret := (some .boolean)) (by decide) rfl (by simp [Value.category]) (Nat.le_of_ble_eq_true rfl) ?_
  intro p e s m args below meth c F
  have hx := F.1
  have hb := F.2.1
  refine gj_ld (i := 0) (pc2 := 1) rfl (fun _ _ _ h9 => lv_iload_n hx hb d_X_endsBlock_0 rfl h9) ?_
  refine gj_if (pc2 := 16) (pc3 := 4) (fun _ _ _ => lv_if_eq (tgt := 16) hx hb d_X_endsBlock_1 (by decide)) (fun h1 => ?_) (fun h1 => ?_)
  · refine gj_l (pc2 := 17) (fun _ _ _ => lv_iconst (v := 1) hx hb d_X_endsBlock_16 (by decide)) ?_
    refine gj_l (pc2 := 21) (fun _ _ _ => lv_goto (tgt := 21) hx hb d_X_endsBlock_17 (by decide)) ?_
    exact gj_zret F d_X_endsBlock_21 (by first | rfl | exact bN_z _ | decide) (Nat.le_refl _) (Nat.le_refl _) ⟨by simp [endO, bN, h1], rfl⟩
  · refine gj_ld (i := 0) (pc2 := 5) rfl (fun _ _ _ h9 => lv_iload_n hx hb d_X_endsBlock_4 rfl h9) ?_
    refine gj_l (pc2 := 7) (fun _ _ _ => lv_bipush (v := (7)) hx hb d_X_endsBlock_5 (by decide)) ?_
    refine gj_if (pc2 := 16) (pc3 := 10) (fun _ _ _ => lv_icmp_eq (tgt := 16) hx hb d_X_endsBlock_7 (by decide)) (fun h7 => ?_) (fun h7 => ?_)
    · refine gj_l (pc2 := 17) (fun _ _ _ => lv_iconst (v := 1) hx hb d_X_endsBlock_16 (by decide)) ?_
      refine gj_l (pc2 := 21) (fun _ _ _ => lv_goto (tgt := 21) hx hb d_X_endsBlock_17 (by decide)) ?_
      exact gj_zret F d_X_endsBlock_21 (by first | rfl | exact bN_z _ | decide) (Nat.le_refl _) (Nat.le_refl _) ⟨by simp [endO, bN, h1, h7], rfl⟩
    · refine gj_ld (i := 0) (pc2 := 11) rfl (fun _ _ _ h9 => lv_iload_n hx hb d_X_endsBlock_10 rfl h9) ?_
      refine gj_l (pc2 := 13) (fun _ _ _ => lv_bipush (v := (12)) hx hb d_X_endsBlock_11 (by decide)) ?_
      refine gj_if (pc2 := 20) (pc3 := 16) (fun _ _ _ => lv_icmp_lt (tgt := 20) hx hb d_X_endsBlock_13 (by decide)) (fun h13 => ?_) (fun h13 => ?_)
      · refine gj_l (pc2 := 21) (fun _ _ _ => lv_iconst (v := 0) hx hb d_X_endsBlock_20 (by decide)) ?_
        exact gj_zret F d_X_endsBlock_21 (by first | rfl | exact bN_z _ | decide) (Nat.le_refl _) (Nat.le_refl _) ⟨by simp [endO, bN, h1, h7, h13], rfl⟩
      · refine gj_l (pc2 := 17) (fun _ _ _ => lv_iconst (v := 1) hx hb d_X_endsBlock_16 (by decide)) ?_
        refine gj_l (pc2 := 21) (fun _ _ _ => lv_goto (tgt := 21) hx hb d_X_endsBlock_17 (by decide)) ?_
        exact gj_zret F d_X_endsBlock_21 (by first | rfl | exact bN_z _ | decide) (Nat.le_refl _) (Nat.le_refl _) ⟨by simp [endO, bN, h1, h7, h13], rfl⟩

theorem k_X_belowZeroToo : CKS y_X_belowZeroToo c_X_belowZeroToo 1 (some .int) 1 := ⟨q_286, q_1, q_285, ⟨by decide +kernel, by decide +kernel, by decide +kernel⟩⟩
set_option maxHeartbeats 4000000 in
set_option maxRecDepth 100000 in
theorem ct_X_belowZeroToo {l : Launch} {D : va_G} {cI cB cZ cJ : ClassId} (x : Int32) : GCi l y_X_belowZeroToo (Cond.code y_X_belowZeroToo c_X_belowZeroToo 1 (some .int) :: tbW) ({ frames := 0, cells := 0, slots := 0, locals := 0 }) 0 0 D vCl (TY cI cB cZ cJ) [.int x] [] (fun r u => r = bzt x ∧ u = []) := by
  refine gc_body (Qc := gc_Qi D vCl (TY cI cB cZ cJ) [] (fun r u => r = bzt x ∧ u = [])) (cc := c_X_belowZeroToo) (maxL := 1) (ret := (some .int)) (by decide) rfl (by simp [Value.category]) (Nat.le_of_ble_eq_true rfl) ?_
  intro p e s m args below meth c F
  have hx := F.1
  have hb := F.2.1
  refine gj_ld (i := 0) (pc2 := 1) rfl (fun _ _ _ h9 => lv_iload_n hx hb d_X_belowZeroToo_0 rfl h9) ?_
  refine gj_l (pc2 := 4) (fun _ _ _ => lv_sipush (v := (128)) hx hb d_X_belowZeroToo_1 (by decide)) ?_
  refine gj_if (pc2 := 11) (pc3 := 7) (fun _ _ _ => lv_icmp_ge (tgt := 11) hx hb d_X_belowZeroToo_4 (by decide)) (fun h4 => ?_) (fun h4 => ?_)
  · refine gj_ld (i := 0) (pc2 := 12) rfl (fun _ _ _ h9 => lv_iload_n hx hb d_X_belowZeroToo_11 rfl h9) ?_
    refine gj_l (pc2 := 15) (fun _ _ _ => lv_sipush (v := (256)) hx hb d_X_belowZeroToo_12 (by decide)) ?_
    refine gj_l (pc2 := 16) (fun _ _ _ => lv_isub hx hb d_X_belowZeroToo_15) ?_
    exact gj_iret F d_X_belowZeroToo_16 (Nat.le_refl _) (Nat.le_refl _) ⟨by simp [bzt, h4], rfl⟩
  · refine gj_ld (i := 0) (pc2 := 8) rfl (fun _ _ _ h9 => lv_iload_n hx hb d_X_belowZeroToo_7 rfl h9) ?_
    refine gj_l (pc2 := 16) (fun _ _ _ => lv_goto (tgt := 16) hx hb d_X_belowZeroToo_8 (by decide)) ?_
    exact gj_iret F d_X_belowZeroToo_16 (Nat.le_refl _) (Nat.le_refl _) ⟨by simp [bzt, h4], rfl⟩

theorem k_X_worked : CKS y_X_worked c_X_worked 3 (some .int) 3 := ⟨q_301, q_1, q_300, ⟨by decide +kernel, by decide +kernel, by decide +kernel⟩⟩
set_option maxHeartbeats 4000000 in
set_option maxRecDepth 100000 in
theorem ct_X_worked {l : Launch} {D : va_G} {cI cB cZ cJ : ClassId} (x y z : Int32) : GCi l y_X_worked (Cond.code y_X_worked c_X_worked 3 (some .int) :: tbW) ({ frames := 0, cells := 0, slots := 0, locals := 0 }) 0 0 D vCl (TY cI cB cZ cJ) [.int x, .int y, .int z] [] (fun r u => r = wrk x y z ∧ u = []) := by
  refine gc_body (Qc := gc_Qi D vCl (TY cI cB cZ cJ) [] (fun r u => r = wrk x y z ∧ u = [])) (cc := c_X_worked) (maxL := 3) (ret := (some .int)) (by decide) rfl (by simp [Value.category]) (Nat.le_of_ble_eq_true rfl) ?_
  intro p e s m args below meth c F
  have hx := F.1
  have hb := F.2.1
  refine gj_ld (i := 0) (pc2 := 1) rfl (fun _ _ _ h9 => lv_iload_n hx hb d_X_worked_0 rfl h9) ?_
  by_cases h1_2 : x = 2
  · rw [h1_2]
    refine gj_l (pc2 := 48) (fun _ _ _ => lv_tableIn (tgt := 48) hx hb d_X_worked_1 (by decide) (by decide) rfl (by decide)) ?_
    refine gj_ld (i := 1) (pc2 := 49) rfl (fun _ _ _ h9 => lv_iload_n hx hb d_X_worked_48 rfl h9) ?_
    refine gj_ld (i := 2) (pc2 := 50) rfl (fun _ _ _ h9 => lv_iload_n hx hb d_X_worked_49 rfl h9) ?_
    refine gj_l (pc2 := 51) (fun _ _ _ => lv_iadd hx hb d_X_worked_50) ?_
    exact gj_iret F d_X_worked_51 (Nat.le_refl _) (Nat.le_refl _) ⟨by simp [wrk, h1_2], rfl⟩
  by_cases h1_3 : x = 3
  · rw [h1_3]
    refine gj_l (pc2 := 52) (fun _ _ _ => lv_tableIn (tgt := 52) hx hb d_X_worked_1 (by decide) (by decide) rfl (by decide)) ?_
    refine gj_ld (i := 1) (pc2 := 53) rfl (fun _ _ _ h9 => lv_iload_n hx hb d_X_worked_52 rfl h9) ?_
    refine gj_ld (i := 2) (pc2 := 54) rfl (fun _ _ _ h9 => lv_iload_n hx hb d_X_worked_53 rfl h9) ?_
    refine gj_l (pc2 := 55) (fun _ _ _ => lv_isub hx hb d_X_worked_54) ?_
    exact gj_iret F d_X_worked_55 (Nat.le_refl _) (Nat.le_refl _) ⟨by simp [wrk, h1_2, h1_3], rfl⟩
  by_cases h1_4 : x = 4
  · rw [h1_4]
    refine gj_l (pc2 := 64) (fun _ _ _ => lv_tableIn (tgt := 64) hx hb d_X_worked_1 (by decide) (by decide) rfl (by decide)) ?_
    refine gj_ld (i := 1) (pc2 := 65) rfl (fun _ _ _ h9 => lv_iload_n hx hb d_X_worked_64 rfl h9) ?_
    refine gj_l (pc2 := 66) (fun _ _ _ => lv_iconst (v := 1) hx hb d_X_worked_65 (by decide)) ?_
    refine gj_l (pc2 := 67) (fun _ _ _ => lv_ishr hx hb d_X_worked_66) ?_
    exact gj_iret F d_X_worked_67 (Nat.le_refl _) (Nat.le_refl _) ⟨by simp [wrk, h1_2, h1_3, h1_4], rfl⟩
  by_cases h1_5 : x = 5
  · rw [h1_5]
    refine gj_l (pc2 := 64) (fun _ _ _ => lv_tableIn (tgt := 64) hx hb d_X_worked_1 (by decide) (by decide) rfl (by decide)) ?_
    refine gj_ld (i := 1) (pc2 := 65) rfl (fun _ _ _ h9 => lv_iload_n hx hb d_X_worked_64 rfl h9) ?_
    refine gj_l (pc2 := 66) (fun _ _ _ => lv_iconst (v := 1) hx hb d_X_worked_65 (by decide)) ?_
    refine gj_l (pc2 := 67) (fun _ _ _ => lv_ishr hx hb d_X_worked_66) ?_
    exact gj_iret F d_X_worked_67 (Nat.le_refl _) (Nat.le_refl _) ⟨by simp [wrk, h1_2, h1_3, h1_4, h1_5], rfl⟩
  by_cases h1_6 : x = 6
  · rw [h1_6]
    refine gj_l (pc2 := 56) (fun _ _ _ => lv_tableIn (tgt := 56) hx hb d_X_worked_1 (by decide) (by decide) rfl (by decide)) ?_
    refine gj_ld (i := 1) (pc2 := 57) rfl (fun _ _ _ h9 => lv_iload_n hx hb d_X_worked_56 rfl h9) ?_
    refine gj_ld (i := 2) (pc2 := 58) rfl (fun _ _ _ h9 => lv_iload_n hx hb d_X_worked_57 rfl h9) ?_
    refine gj_l (pc2 := 59) (fun _ _ _ => lv_iand hx hb d_X_worked_58) ?_
    exact gj_iret F d_X_worked_59 (Nat.le_refl _) (Nat.le_refl _) ⟨by simp [wrk, h1_2, h1_3, h1_4, h1_5, h1_6], rfl⟩
  by_cases h1_7 : x = 7
  · rw [h1_7]
    refine gj_l (pc2 := 64) (fun _ _ _ => lv_tableIn (tgt := 64) hx hb d_X_worked_1 (by decide) (by decide) rfl (by decide)) ?_
    refine gj_ld (i := 1) (pc2 := 65) rfl (fun _ _ _ h9 => lv_iload_n hx hb d_X_worked_64 rfl h9) ?_
    refine gj_l (pc2 := 66) (fun _ _ _ => lv_iconst (v := 1) hx hb d_X_worked_65 (by decide)) ?_
    refine gj_l (pc2 := 67) (fun _ _ _ => lv_ishr hx hb d_X_worked_66) ?_
    exact gj_iret F d_X_worked_67 (Nat.le_refl _) (Nat.le_refl _) ⟨by simp [wrk, h1_2, h1_3, h1_4, h1_5, h1_6, h1_7], rfl⟩
  by_cases h1_8 : x = 8
  · rw [h1_8]
    refine gj_l (pc2 := 64) (fun _ _ _ => lv_tableIn (tgt := 64) hx hb d_X_worked_1 (by decide) (by decide) rfl (by decide)) ?_
    refine gj_ld (i := 1) (pc2 := 65) rfl (fun _ _ _ h9 => lv_iload_n hx hb d_X_worked_64 rfl h9) ?_
    refine gj_l (pc2 := 66) (fun _ _ _ => lv_iconst (v := 1) hx hb d_X_worked_65 (by decide)) ?_
    refine gj_l (pc2 := 67) (fun _ _ _ => lv_ishr hx hb d_X_worked_66) ?_
    exact gj_iret F d_X_worked_67 (Nat.le_refl _) (Nat.le_refl _) ⟨by simp [wrk, h1_2, h1_3, h1_4, h1_5, h1_6, h1_7, h1_8], rfl⟩
  by_cases h1_9 : x = 9
  · rw [h1_9]
    refine gj_l (pc2 := 60) (fun _ _ _ => lv_tableIn (tgt := 60) hx hb d_X_worked_1 (by decide) (by decide) rfl (by decide)) ?_
    refine gj_ld (i := 1) (pc2 := 61) rfl (fun _ _ _ h9 => lv_iload_n hx hb d_X_worked_60 rfl h9) ?_
    refine gj_ld (i := 2) (pc2 := 62) rfl (fun _ _ _ h9 => lv_iload_n hx hb d_X_worked_61 rfl h9) ?_
    refine gj_l (pc2 := 63) (fun _ _ _ => lv_imul hx hb d_X_worked_62) ?_
    exact gj_iret F d_X_worked_63 (Nat.le_refl _) (Nat.le_refl _) ⟨by simp [wrk, h1_2, h1_3, h1_4, h1_5, h1_6, h1_7, h1_8, h1_9], rfl⟩
  have hsw : (x).toInt < 2 ∨ 9 < (x).toInt := by
    by_cases z : (x).toInt < 2
    · exact Or.inl z
    by_cases z2 : 9 < (x).toInt
    · exact Or.inr z2
    exfalso
    rcases (show (x).toInt = 2 ∨ (x).toInt = 3 ∨ (x).toInt = 4 ∨ (x).toInt = 5 ∨ (x).toInt = 6 ∨ (x).toInt = 7 ∨ (x).toInt = 8 ∨ (x).toInt = 9 by omega) with z3 | z3 | z3 | z3 | z3 | z3 | z3 | z3
    · exact h1_2 (Int32.toInt_inj.mp (z3.trans (by decide)))
    · exact h1_3 (Int32.toInt_inj.mp (z3.trans (by decide)))
    · exact h1_4 (Int32.toInt_inj.mp (z3.trans (by decide)))
    · exact h1_5 (Int32.toInt_inj.mp (z3.trans (by decide)))
    · exact h1_6 (Int32.toInt_inj.mp (z3.trans (by decide)))
    · exact h1_7 (Int32.toInt_inj.mp (z3.trans (by decide)))
    · exact h1_8 (Int32.toInt_inj.mp (z3.trans (by decide)))
    · exact h1_9 (Int32.toInt_inj.mp (z3.trans (by decide)))
  refine gj_l (pc2 := 64) (fun _ _ _ => lv_tableOut (tgt := 64) hx hb d_X_worked_1 hsw (by decide)) ?_
  refine gj_ld (i := 1) (pc2 := 65) rfl (fun _ _ _ h9 => lv_iload_n hx hb d_X_worked_64 rfl h9) ?_
  refine gj_l (pc2 := 66) (fun _ _ _ => lv_iconst (v := 1) hx hb d_X_worked_65 (by decide)) ?_
  refine gj_l (pc2 := 67) (fun _ _ _ => lv_ishr hx hb d_X_worked_66) ?_
  exact gj_iret F d_X_worked_67 (Nat.le_refl _) (Nat.le_refl _) ⟨by simp [wrk, h1_2, h1_3, h1_4, h1_5, h1_6, h1_7, h1_8, h1_9], rfl⟩

theorem k_B_isKept : CKV y_B_isKept c_B_isKept 1 (some .boolean) 0 := ⟨q_87, q_2, q_86, sl_B_isKept, ⟨by decide +kernel, by decide +kernel, by decide +kernel⟩⟩
set_option maxHeartbeats 4000000 in
set_option maxRecDepth 100000 in
theorem ct_B_isKept {l : Launch} {D : va_G} {cI cB cZ cJ : ClassId} {a : Nat → Nat} {σ : St} {k : Nat} (hk : k < 32) : GCi l y_B_isKept (Cond.code y_B_isKept c_B_isKept 1 (some .boolean) :: tbW) ({ frames := 0, cells := 0, slots := 0, locals := 0 }) 0 0 D vCl (TY cI cB cZ cJ) [.ref (a (4 + 2 * k))] (bw a cI cB 32 σ) (fun r u => r = bN (keptB σ k) ∧ u = (bw a cI cB 32 σ)) := by
  refine gc_body (Qc := gc_Qi D vCl (TY cI cB cZ cJ) (bw a cI cB 32 σ) (fun r u => r = bN (keptB σ k) ∧ u = (bw a cI cB 32 σ))) (cc := c_B_isKept) (maxL := 1) (ret := (some .boolean)) (by decide) rfl (by simp [Value.category]) (Nat.le_of_ble_eq_true rfl) ?_
  intro p e s m args below meth c F
  have hx := F.1
  have hb := F.2.1
  refine gj_ld (i := 0) (pc2 := 1) rfl (fun _ _ _ h9 => lv_aload_n hx hb d_B_isKept_0 rfl h9) ?_
  refine bj_bi F _ 2 hk (by decide) (by decide) d_B_isKept_1 q_29 rfl ?_
  refine gj_if (pc2 := 11) (pc3 := 7) (fun _ _ _ => lv_if_le (tgt := 11) hx hb d_B_isKept_4 (by decide)) (fun h4 => ?_) (fun h4 => ?_)
  · refine gj_l (pc2 := 12) (fun _ _ _ => lv_iconst (v := 0) hx hb d_B_isKept_11 (by decide)) ?_
    exact gj_zret F d_B_isKept_12 (by first | rfl | exact bN_z _ | decide) (Nat.le_refl _) (Nat.le_refl _) ⟨by simp [keptB, bN, h4], rfl⟩
  · refine gj_l (pc2 := 8) (fun _ _ _ => lv_iconst (v := 1) hx hb d_B_isKept_7 (by decide)) ?_
    refine gj_l (pc2 := 12) (fun _ _ _ => lv_goto (tgt := 12) hx hb d_B_isKept_8 (by decide)) ?_
    exact gj_zret F d_B_isKept_12 (by first | rfl | exact bN_z _ | decide) (Nat.le_refl _) (Nat.le_refl _) ⟨by simp [keptB, bN, h4], rfl⟩

theorem k_B_beginsAt : CKV y_B_beginsAt c_B_beginsAt 2 (some .boolean) 1 := ⟨q_253, q_2, q_252, sl_B_beginsAt, ⟨by decide +kernel, by decide +kernel, by decide +kernel⟩⟩
set_option maxHeartbeats 4000000 in
set_option maxRecDepth 100000 in
theorem ct_B_beginsAt {l : Launch} {D : va_G} {cI cB cZ cJ : ClassId} {a : Nat → Nat} {σ : St} {k : Nat} (hk : k < 32) (x : Int32) : GCi l y_B_beginsAt (Cond.code y_B_beginsAt c_B_beginsAt 2 (some .boolean) :: tbW) ({ frames := 1, cells := 0, slots := 0, locals := 20 }) 0 0 D vCl (TY cI cB cZ cJ) [.ref (a (4 + 2 * k)), .int x] (bw a cI cB 32 σ) (fun r u => r = bN (begB σ k x) ∧ u = (bw a cI cB 32 σ)) := by
  refine gc_body (Qc := gc_Qi D vCl (TY cI cB cZ cJ) (bw a cI cB 32 σ) (fun r u => r = bN (begB σ k x) ∧ u = (bw a cI cB 32 σ))) (cc := c_B_beginsAt) (maxL := 2) (ret := (some .boolean)) (by decide) rfl (by simp [Value.category]) (Nat.le_of_ble_eq_true rfl) ?_
  intro p e s m args below meth c F
  have hx := F.1
  have hb := F.2.1
  refine gj_ld (i := 0) (pc2 := 1) rfl (fun _ _ _ h9 => lv_aload_n hx hb d_B_beginsAt_0 rfl h9) ?_
  refine bj_vi F k_B_isKept d_B_beginsAt_1 q_207 (bw_blk hk) rfl (ct_B_isKept hk) (rmo rfl) rfl rfl (Nat.le_of_ble_eq_true rfl) (Nat.zero_le _) (Nat.zero_le _) rfl (fun r9 u9 e9 => ?_)
  obtain ⟨rfl, rfl⟩ := e9
  refine gj_if (pc2 := 19) (pc3 := 7) (fun _ _ _ => lv_if_eq (tgt := 19) hx hb d_B_beginsAt_4 (by decide)) (fun h4 => ?_) (fun h4 => ?_)
  · refine gj_l (pc2 := 20) (fun _ _ _ => lv_iconst (v := 0) hx hb d_B_beginsAt_19 (by decide)) ?_
    exact gj_zret F d_B_beginsAt_20 (by first | rfl | exact bN_z _ | decide) (Nat.le_refl _) (Nat.le_refl _) ⟨by simp [bN_0] at h4; simp [begB, bN, h4], rfl⟩
  · refine gj_ld (i := 0) (pc2 := 8) rfl (fun _ _ _ h9 => lv_aload_n hx hb d_B_beginsAt_7 rfl h9) ?_
    refine bj_bi F _ 1 hk (by decide) (by decide) d_B_beginsAt_8 q_27 rfl ?_
    refine gj_ld (i := 1) (pc2 := 12) rfl (fun _ _ _ h9 => lv_iload_n hx hb d_B_beginsAt_11 rfl h9) ?_
    refine gj_if (pc2 := 19) (pc3 := 15) (fun _ _ _ => lv_icmp_ne (tgt := 19) hx hb d_B_beginsAt_12 (by decide)) (fun h12 => ?_) (fun h12 => ?_)
    · refine gj_l (pc2 := 20) (fun _ _ _ => lv_iconst (v := 0) hx hb d_B_beginsAt_19 (by decide)) ?_
      exact gj_zret F d_B_beginsAt_20 (by first | rfl | exact bN_z _ | decide) (Nat.le_refl _) (Nat.le_refl _) ⟨by simp [bN_0] at h4; simp [begB, bN, h4, h12], rfl⟩
    · refine gj_l (pc2 := 16) (fun _ _ _ => lv_iconst (v := 1) hx hb d_B_beginsAt_15 (by decide)) ?_
      refine gj_l (pc2 := 20) (fun _ _ _ => lv_goto (tgt := 20) hx hb d_B_beginsAt_16 (by decide)) ?_
      exact gj_zret F d_B_beginsAt_20 (by first | rfl | exact bN_z _ | decide) (Nat.le_refl _) (Nat.le_refl _) ⟨by simp [bN_0] at h4; simp [begB, bN, h4, h12], rfl⟩

theorem k_B_hasByte : CKV y_B_hasByte c_B_hasByte 2 (some .boolean) 1 := ⟨q_206, q_2, q_205, sl_B_hasByte, ⟨by decide +kernel, by decide +kernel, by decide +kernel⟩⟩
set_option maxHeartbeats 4000000 in
set_option maxRecDepth 100000 in
theorem ct_B_hasByte {l : Launch} {D : va_G} {cI cB cZ cJ : ClassId} {a : Nat → Nat} {σ : St} {k : Nat} (hk : k < 32) (x : Int32) : GCi l y_B_hasByte (Cond.code y_B_hasByte c_B_hasByte 2 (some .boolean) :: tbW) ({ frames := 1, cells := 0, slots := 0, locals := 20 }) 0 0 D vCl (TY cI cB cZ cJ) [.ref (a (4 + 2 * k)), .int x] (bw a cI cB 32 σ) (fun r u => r = bN (hasB σ k x) ∧ u = (bw a cI cB 32 σ)) := by
  refine gc_body (Qc := gc_Qi D vCl (TY cI cB cZ cJ) (bw a cI cB 32 σ) (fun r u => r = bN (hasB σ k x) ∧ u = (bw a cI cB 32 σ))) (cc := c_B_hasByte) (maxL := 2) (ret := (some .boolean)) (by decide) rfl (by simp [Value.category]) (Nat.le_of_ble_eq_true rfl) ?_
  intro p e s m args below meth c F
  have hx := F.1
  have hb := F.2.1
  refine gj_ld (i := 0) (pc2 := 1) rfl (fun _ _ _ h9 => lv_aload_n hx hb d_B_hasByte_0 rfl h9) ?_
  refine bj_vi F k_B_isKept d_B_hasByte_1 q_207 (bw_blk hk) rfl (ct_B_isKept hk) (rmo rfl) rfl rfl (Nat.le_of_ble_eq_true rfl) (Nat.zero_le _) (Nat.zero_le _) rfl (fun r9 u9 e9 => ?_)
  obtain ⟨rfl, rfl⟩ := e9
  refine gj_if (pc2 := 32) (pc3 := 7) (fun _ _ _ => lv_if_eq (tgt := 32) hx hb d_B_hasByte_4 (by decide)) (fun h4 => ?_) (fun h4 => ?_)
  · refine gj_l (pc2 := 33) (fun _ _ _ => lv_iconst (v := 0) hx hb d_B_hasByte_32 (by decide)) ?_
    exact gj_zret F d_B_hasByte_33 (by first | rfl | exact bN_z _ | decide) (Nat.le_refl _) (Nat.le_refl _) ⟨by simp [bN_0] at h4; simp [hasB, bN, h4], rfl⟩
  · refine gj_ld (i := 1) (pc2 := 8) rfl (fun _ _ _ h9 => lv_iload_n hx hb d_B_hasByte_7 rfl h9) ?_
    refine gj_ld (i := 0) (pc2 := 9) rfl (fun _ _ _ h9 => lv_aload_n hx hb d_B_hasByte_8 rfl h9) ?_
    refine bj_bi F _ 1 hk (by decide) (by decide) d_B_hasByte_9 q_27 rfl ?_
    refine gj_if (pc2 := 32) (pc3 := 15) (fun _ _ _ => lv_icmp_lt (tgt := 32) hx hb d_B_hasByte_12 (by decide)) (fun h12 => ?_) (fun h12 => ?_)
    · refine gj_l (pc2 := 33) (fun _ _ _ => lv_iconst (v := 0) hx hb d_B_hasByte_32 (by decide)) ?_
      exact gj_zret F d_B_hasByte_33 (by first | rfl | exact bN_z _ | decide) (Nat.le_refl _) (Nat.le_refl _) ⟨by simp [bN_0] at h4; simp [hasB, bN, h4, h12], rfl⟩
    · refine gj_ld (i := 1) (pc2 := 16) rfl (fun _ _ _ h9 => lv_iload_n hx hb d_B_hasByte_15 rfl h9) ?_
      refine gj_ld (i := 0) (pc2 := 17) rfl (fun _ _ _ h9 => lv_aload_n hx hb d_B_hasByte_16 rfl h9) ?_
      refine bj_bi F _ 1 hk (by decide) (by decide) d_B_hasByte_17 q_27 rfl ?_
      refine gj_ld (i := 0) (pc2 := 21) rfl (fun _ _ _ h9 => lv_aload_n hx hb d_B_hasByte_20 rfl h9) ?_
      refine bj_bi F _ 3 hk (by decide) (by decide) d_B_hasByte_21 q_31 rfl ?_
      refine gj_l (pc2 := 25) (fun _ _ _ => lv_iadd hx hb d_B_hasByte_24) ?_
      refine gj_if (pc2 := 32) (pc3 := 28) (fun _ _ _ => lv_icmp_ge (tgt := 32) hx hb d_B_hasByte_25 (by decide)) (fun h25 => ?_) (fun h25 => ?_)
      · refine gj_l (pc2 := 33) (fun _ _ _ => lv_iconst (v := 0) hx hb d_B_hasByte_32 (by decide)) ?_
        exact gj_zret F d_B_hasByte_33 (by first | rfl | exact bN_z _ | decide) (Nat.le_refl _) (Nat.le_refl _) ⟨by simp [bN_0] at h4; simp [hasB, bN, h4, h12, h25], rfl⟩
      · refine gj_l (pc2 := 29) (fun _ _ _ => lv_iconst (v := 1) hx hb d_B_hasByte_28 (by decide)) ?_
        refine gj_l (pc2 := 33) (fun _ _ _ => lv_goto (tgt := 33) hx hb d_B_hasByte_29 (by decide)) ?_
        exact gj_zret F d_B_hasByte_33 (by first | rfl | exact bN_z _ | decide) (Nat.le_refl _) (Nat.le_refl _) ⟨by simp [bN_0] at h4; simp [hasB, bN, h4, h12, h25], rfl⟩

theorem k_B_empty : CKV y_B_empty c_B_empty 2 none 1 := ⟨q_95, q_2, q_94, sl_B_empty, ⟨by decide +kernel, by decide +kernel, by decide +kernel⟩⟩
set_option maxHeartbeats 4000000 in
set_option maxRecDepth 100000 in
theorem ct_B_empty {l : Launch} {D : va_G} {cI cB cZ cJ : ClassId} {a : Nat → Nat} {σ : St} {k : Nat} (hk : k < 32) (x : Int32) : GCv l y_B_empty (Cond.code y_B_empty c_B_empty 2 none :: tbW) ({ frames := 0, cells := 0, slots := 0, locals := 0 }) 0 0 D vCl (TY cI cB cZ cJ) [.ref (a (4 + 2 * k)), .int x] (bw a cI cB 32 σ) (fun u => u = bw a cI cB 32 (empB σ k x)) := by
  refine gc_body (Qc := gc_Qv D vCl (TY cI cB cZ cJ) (bw a cI cB 32 σ) (fun u => u = bw a cI cB 32 (empB σ k x))) (cc := c_B_empty) (maxL := 2) (ret := none) (by decide) rfl (by simp [Value.category]) (Nat.le_of_ble_eq_true rfl) ?_
  intro p e s m args below meth c F
  have hx := F.1
  have hb := F.2.1
  refine gj_ld (i := 0) (pc2 := 1) rfl (fun _ _ _ h9 => lv_aload_n hx hb d_B_empty_0 rfl h9) ?_
  refine gj_ld (i := 1) (pc2 := 2) rfl (fun _ _ _ h9 => lv_iload_n hx hb d_B_empty_1 rfl h9) ?_
  refine bj_bp F _ 1 hk (by decide) (by decide) d_B_empty_2 q_27 rfl ?_
  refine gj_ld (i := 0) (pc2 := 6) rfl (fun _ _ _ h9 => lv_aload_n hx hb d_B_empty_5 rfl h9) ?_
  refine gj_l (pc2 := 7) (fun _ _ _ => lv_iconst (v := 0) hx hb d_B_empty_6 (by decide)) ?_
  refine bj_bp F _ 2 hk (by decide) (by decide) d_B_empty_7 q_29 rfl ?_
  refine gj_ld (i := 0) (pc2 := 11) rfl (fun _ _ _ h9 => lv_aload_n hx hb d_B_empty_10 rfl h9) ?_
  refine gj_l (pc2 := 12) (fun _ _ _ => lv_iconst (v := 0) hx hb d_B_empty_11 (by decide)) ?_
  refine bj_bp F _ 3 hk (by decide) (by decide) d_B_empty_12 q_31 rfl ?_
  exact gj_vret F d_B_empty_15 (Nat.le_refl _) (Nat.le_refl _) rfl

theorem k_X_isZero : CKV y_X_isZero c_X_isZero 1 (some .boolean) 0 := ⟨q_294, q_1, q_293, sl_X_isZero, ⟨by decide +kernel, by decide +kernel, by decide +kernel⟩⟩
set_option maxHeartbeats 4000000 in
set_option maxRecDepth 100000 in
theorem ct_X_isZero {l : Launch} {D : va_G} {cI cB cZ cJ : ClassId} {a : Nat → Nat} {σ : St}  : GCi l y_X_isZero (Cond.code y_X_isZero c_X_isZero 1 (some .boolean) :: tbW) ({ frames := 0, cells := 0, slots := 0, locals := 0 }) 0 0 D vCl (TY cI cB cZ cJ) [.ref (a 0)] (bw a cI cB 32 σ) (fun r u => r = bN (isZ σ) ∧ u = (bw a cI cB 32 σ)) := by
  refine gc_body (Qc := gc_Qi D vCl (TY cI cB cZ cJ) (bw a cI cB 32 σ) (fun r u => r = bN (isZ σ) ∧ u = (bw a cI cB 32 σ))) (cc := c_X_isZero) (maxL := 1) (ret := (some .boolean)) (by decide) rfl (by simp [Value.category]) (Nat.le_of_ble_eq_true rfl) ?_
  intro p e s m args below meth c F
  have hx := F.1
  have hb := F.2.1
  refine gj_ld (i := 0) (pc2 := 1) rfl (fun _ _ _ h9 => lv_aload_n hx hb d_X_isZero_0 rfl h9) ?_
  refine bj_gi F 5 (by decide) (by decide) d_X_isZero_1 q_48 rfl ?_
  refine gj_if (pc2 := 11) (pc3 := 7) (fun _ _ _ => lv_if_ne (tgt := 11) hx hb d_X_isZero_4 (by decide)) (fun h4 => ?_) (fun h4 => ?_)
  · refine gj_l (pc2 := 12) (fun _ _ _ => lv_iconst (v := 0) hx hb d_X_isZero_11 (by decide)) ?_
    exact gj_zret F d_X_isZero_12 (by first | rfl | exact bN_z _ | decide) (Nat.le_refl _) (Nat.le_refl _) ⟨by simp [isZ, bN, h4], rfl⟩
  · refine gj_l (pc2 := 8) (fun _ _ _ => lv_iconst (v := 1) hx hb d_X_isZero_7 (by decide)) ?_
    refine gj_l (pc2 := 12) (fun _ _ _ => lv_goto (tgt := 12) hx hb d_X_isZero_8 (by decide)) ?_
    exact gj_zret F d_X_isZero_12 (by first | rfl | exact bN_z _ | decide) (Nat.le_refl _) (Nat.le_refl _) ⟨by simp [isZ, bN, h4], rfl⟩

theorem k_X_isBelow : CKV y_X_isBelow c_X_isBelow 1 (some .boolean) 0 := ⟨q_298, q_1, q_297, sl_X_isBelow, ⟨by decide +kernel, by decide +kernel, by decide +kernel⟩⟩
set_option maxHeartbeats 4000000 in
set_option maxRecDepth 100000 in
theorem ct_X_isBelow {l : Launch} {D : va_G} {cI cB cZ cJ : ClassId} {a : Nat → Nat} {σ : St}  : GCi l y_X_isBelow (Cond.code y_X_isBelow c_X_isBelow 1 (some .boolean) :: tbW) ({ frames := 0, cells := 0, slots := 0, locals := 0 }) 0 0 D vCl (TY cI cB cZ cJ) [.ref (a 0)] (bw a cI cB 32 σ) (fun r u => r = bN (isL σ) ∧ u = (bw a cI cB 32 σ)) := by
  refine gc_body (Qc := gc_Qi D vCl (TY cI cB cZ cJ) (bw a cI cB 32 σ) (fun r u => r = bN (isL σ) ∧ u = (bw a cI cB 32 σ))) (cc := c_X_isBelow) (maxL := 1) (ret := (some .boolean)) (by decide) rfl (by simp [Value.category]) (Nat.le_of_ble_eq_true rfl) ?_
  intro p e s m args below meth c F
  have hx := F.1
  have hb := F.2.1
  refine gj_ld (i := 0) (pc2 := 1) rfl (fun _ _ _ h9 => lv_aload_n hx hb d_X_isBelow_0 rfl h9) ?_
  refine bj_gi F 5 (by decide) (by decide) d_X_isBelow_1 q_48 rfl ?_
  refine gj_if (pc2 := 11) (pc3 := 7) (fun _ _ _ => lv_if_ge (tgt := 11) hx hb d_X_isBelow_4 (by decide)) (fun h4 => ?_) (fun h4 => ?_)
  · refine gj_l (pc2 := 12) (fun _ _ _ => lv_iconst (v := 0) hx hb d_X_isBelow_11 (by decide)) ?_
    exact gj_zret F d_X_isBelow_12 (by first | rfl | exact bN_z _ | decide) (Nat.le_refl _) (Nat.le_refl _) ⟨by simp [isL, bN, h4], rfl⟩
  · refine gj_l (pc2 := 8) (fun _ _ _ => lv_iconst (v := 1) hx hb d_X_isBelow_7 (by decide)) ?_
    refine gj_l (pc2 := 12) (fun _ _ _ => lv_goto (tgt := 12) hx hb d_X_isBelow_8 (by decide)) ?_
    exact gj_zret F d_X_isBelow_12 (by first | rfl | exact bN_z _ | decide) (Nat.le_refl _) (Nat.le_refl _) ⟨by simp [isL, bN, h4], rfl⟩

theorem k_X_throwOut : CKV y_X_throwOut c_X_throwOut 2 none 1 := ⟨q_91, q_1, q_90, sl_X_throwOut, ⟨by decide +kernel, by decide +kernel, by decide +kernel⟩⟩
set_option maxHeartbeats 4000000 in
set_option maxRecDepth 100000 in
theorem ct_X_throwOut {l : Launch} {D : va_G} {cI cB cZ cJ : ClassId} {a : Nat → Nat} {σ : St} {k : Nat} (hk : k < 32) : GCv l y_X_throwOut (Cond.code y_X_throwOut c_X_throwOut 2 none :: tbW) ({ frames := 1, cells := 0, slots := 0, locals := 21 }) 0 0 D vCl (TY cI cB cZ cJ) [.ref (a 0), .ref (a (4 + 2 * k))] (bw a cI cB 32 σ) (fun u => u = bw a cI cB 32 (tOut σ k)) := by
  refine gc_body (Qc := gc_Qv D vCl (TY cI cB cZ cJ) (bw a cI cB 32 σ) (fun u => u = bw a cI cB 32 (tOut σ k))) (cc := c_X_throwOut) (maxL := 2) (ret := none) (by decide) rfl (by simp [Value.category]) (Nat.le_of_ble_eq_true rfl) ?_
  intro p e s m args below meth c F
  have hx := F.1
  have hb := F.2.1
  refine gj_ld (i := 1) (pc2 := 1) rfl (fun _ _ _ h9 => lv_aload_n hx hb d_X_throwOut_0 rfl h9) ?_
  refine gj_l (pc2 := 2) (fun _ _ _ => lv_iconst (v := 0) hx hb d_X_throwOut_1 (by decide)) ?_
  refine bj_nv F k_B_empty d_X_throwOut_2 (by decide +kernel) (bw_blk hk) rfl (ct_B_empty hk _) (rmo rfl) rfl rfl (Nat.le_of_ble_eq_true rfl) (Nat.zero_le _) (Nat.zero_le _) rfl (fun u9 e9 => ?_)
  subst e9
  refine gj_ld (i := 0) (pc2 := 6) rfl (fun _ _ _ h9 => lv_aload_n hx hb d_X_throwOut_5 rfl h9) ?_
  refine gj_l (pc2 := 7) (fun _ _ _ => lv_dup hx hb d_X_throwOut_6 rfl) ?_
  refine bj_gi F 9 (by decide) (by decide) d_X_throwOut_7 q_52 rfl ?_
  refine gj_l (pc2 := 11) (fun _ _ _ => lv_iconst (v := 1) hx hb d_X_throwOut_10 (by decide)) ?_
  refine gj_l (pc2 := 12) (fun _ _ _ => lv_iadd hx hb d_X_throwOut_11) ?_
  refine bj_pi F 9 (by decide) (by decide) d_X_throwOut_12 q_52 rfl ?_
  exact gj_vret F d_X_throwOut_15 (Nat.le_refl _) (Nat.le_refl _) rfl
end
section
/-! a loop that counts up -/
theorem gj_loop {p : Program} {l : Launch} {e : Env} {R : Room} {s : State} {m : MethodId} {args : Array Value} {below : List Frame} {meth : Method} {c : Code} {cells slots : Nat} {Q : State → Prop} {D : va_G} {cl : List vw_C} {A : Nat → Prop} {H0 : Heap} {n pc : Nat} {st : List Value} (N : Nat) (I : Nat → va_W) (Lk : Nat → List Value)
    (step : ∀ k : Nat, k ≤ N → (k < N → GJ p l e R s m args below meth c D cl A H0 n Q cells slots (I (k + 1)) pc (Lk (k + 1)) st) → GJ p l e R s m args below meth c D cl A H0 n Q cells slots (I k) pc (Lk k) st) :
    GJ p l e R s m args below meth c D cl A H0 n Q cells slots (I 0) pc (Lk 0) st := by
  have h : ∀ f k : Nat, k + f = N → GJ p l e R s m args below meth c D cl A H0 n Q cells slots (I k) pc (Lk k) st := by
    intro f
    induction f with
    | zero => exact fun k hk => step k (by omega) (fun h => absurd h (by omega))
    | succ f ih => exact fun k hk => step k (by omega) (fun _ => ih (k + 1) (by omega))
  exact h N 0 (by omega)
theorem nI_lt_of {k N : Nat} (h : ¬ nI N ≤ nI k) (hk : k < 2 ^ 31) : k < N := by
  rcases Nat.lt_or_ge k N with z | z
  · exact z
  · exact absurd (nI_le z hk) h
theorem nI_ge_of {k N : Nat} (h : nI N ≤ nI k) (hk : k < 2 ^ 31) (hN : N < 2 ^ 31) : N ≤ k := (nI_leI hN hk).mp h
theorem gj_aret {p : Program} {l : Launch} {e : Env} {R : Room} {s : State} {m : MethodId} {args : Array Value} {below : List Frame} {meth : Method} {c : Code} {cells slots mc ms : Nat} {D : va_G} {cl : List vw_C} {tys : List (ClassId × FieldType)} {n pc : Nat} {w w0 : va_W} {L : List Value} {cc : ByteArray} {y : MethodName} {Ts : List Cond} {rt : String}
    {post : Nat → va_W → Prop} {v : Nat} (F : GF p s m args meth c cc n (some (.object rt)) y Ts D cl tys w0) (hd : decode cc pc = .ok (.areturn, 1)) (hc : cells ≤ mc) (hs : slots ≤ ms) (hp : post v w) :
    GJ p l e R s m args below meth c D cl (va_A w0 s.heap.size) s.heap n (MQ below (gc_Qr D cl tys w0 post s.heap.size) args s mc ms (va_A w0 s.heap.size)) cells slots w pc L [.ref v] := by
  intro ls H locs h1 h2 h3 h4
  obtain ⟨hx, hb, hml, hown, hts, hr, hlk, hK, hnm, hE⟩ := F
  refine W.widen hc hs ?_
  exact W.aret (v := .ref v) hx hb hr (Or.inl ⟨rt, rfl⟩) (Or.inr ⟨v, rfl⟩) (fun t ht hW => ⟨⟨(v, w), v, rfl, hp, rfl, by rw [ht]; exact h2, va_K.moved hW.alike hK, h3⟩, h4.F ht⟩) h4.2.2 hd hlk
end
section
theorem k_X_write : CKV y_X_write c_X_write 4 none 2 := ⟨q_202, q_1, q_201, sl_X_write, ⟨by decide +kernel, by decide +kernel, by decide +kernel⟩⟩
set_option maxHeartbeats 4000000 in
set_option maxRecDepth 100000 in
theorem ct_X_write {l : Launch} {D : va_G} {cI cB cZ cJ : ClassId} {a : Nat → Nat} {σ : St} {i : Nat} (hi : i < 1024) (v : Int32) : GCv l y_X_write (Cond.code y_X_write c_X_write 4 none :: tbW) ({ frames := 2, cells := 0, slots := 0, locals := 42 }) 0 0 D vCl (TY cI cB cZ cJ) [.ref (a 0), .int (nI i), .int v] (bw a cI cB 32 σ) (fun u => u = bw a cI cB 32 (wrB σ i v)) := by
  refine gc_body (Qc := gc_Qv D vCl (TY cI cB cZ cJ) (bw a cI cB 32 σ) (fun u => u = bw a cI cB 32 (wrB σ i v))) (cc := c_X_write) (maxL := 4) (ret := none) (by decide) rfl (by simp [Value.category]) (Nat.le_of_ble_eq_true rfl) ?_
  intro p e s m args below meth c F
  have hx := F.1
  have hb := F.2.1
  refine gj_ld (i := 0) (pc2 := 1) rfl (fun _ _ _ h9 => lv_aload_n hx hb d_X_write_0 rfl h9) ?_
  refine bj_gr F 0 (by decide) d_X_write_1 q_43 rfl ?_
  refine gj_ld (i := 1) (pc2 := 5) rfl (fun _ _ _ h9 => lv_iload_n hx hb d_X_write_4 rfl h9) ?_
  refine gj_ld (i := 2) (pc2 := 6) rfl (fun _ _ _ h9 => lv_iload_n hx hb d_X_write_5 rfl h9) ?_
  refine bj_st F 1 1024 i (by omega) (fun _ => rfl) (by decide) rfl hi d_X_write_6 rfl ?_
  refine gj_l (pc2 := 8) (fun _ _ _ => lv_iconst (v := 0) hx hb d_X_write_7 (by decide)) ?_
  refine gj_st (i := 3) (pc2 := 9) (Nat.le_of_ble_eq_true rfl) rfl (fun _ _ _ _ _ h9 l9 => lv_istore_n hx hb d_X_write_8 rfl h9 (Nat.le_of_ble_eq_true rfl) l9) ?_
  refine gj_loop 32 (fun k => bw a cI cB 32 (wrL (s2 σ 1 i v) i k)) (fun k => [.ref (a 0), .int (nI i), .int v, .int (nI k)]) (fun k hk ih => ?_)
  refine gj_ld (i := 3) (pc2 := 10) rfl (fun _ _ _ h9 => lv_iload_n hx hb d_X_write_9 rfl h9) ?_
  refine gj_l (pc2 := 12) (fun _ _ _ => lv_bipush (v := (32)) hx hb d_X_write_10 (by decide)) ?_
  refine gj_if (pc2 := 44) (pc3 := 15) (fun _ _ _ => lv_icmp_ge (tgt := 44) hx hb d_X_write_12 (by decide)) (fun h12 => ?_) (fun h12 => ?_)
  · have hk9 : 32 ≤ k := nI_ge_of h12 (by omega) (by omega)
    have hk8 : k = 32 := by omega
    subst hk8
    exact gj_vret F d_X_write_44 (Nat.le_refl _) (Nat.le_refl _) rfl
  · have hlt : k < 32 := nI_lt_of h12 (by omega)
    refine gj_ld (i := 0) (pc2 := 16) rfl (fun _ _ _ h9 => lv_aload_n hx hb d_X_write_15 rfl h9) ?_
    refine bj_gr F 2 (by decide) d_X_write_16 q_45 rfl ?_
    refine gj_ld (i := 3) (pc2 := 20) rfl (fun _ _ _ h9 => lv_iload_n hx hb d_X_write_19 rfl h9) ?_
    refine bj_blk F k rfl hlt d_X_write_20 rfl ?_
    refine gj_ld (i := 1) (pc2 := 22) rfl (fun _ _ _ h9 => lv_iload_n hx hb d_X_write_21 rfl h9) ?_
    refine bj_ni F k_B_hasByte d_X_write_22 (by decide +kernel) (bw_blk hlt) rfl (ct_B_hasByte hlt _) (rmo rfl) rfl rfl (Nat.le_of_ble_eq_true rfl) (Nat.zero_le _) (Nat.zero_le _) rfl (fun r9 u9 e9 => ?_)
    obtain ⟨rfl, rfl⟩ := e9
    refine gj_if (pc2 := 38) (pc3 := 28) (fun _ _ _ => lv_if_eq (tgt := 38) hx hb d_X_write_25 (by decide)) (fun h25 => ?_) (fun h25 => ?_)
    · refine gj_iinc (pc2 := 41) hx hb d_X_write_38 (Nat.le_of_ble_eq_true rfl) rfl (nI_1 k) rfl ?_
      refine gj_l (pc2 := 9) (fun _ _ _ => lv_goto (tgt := 9) hx hb d_X_write_41 (by decide)) ?_
      exact gj_eq (w2 := bw a cI cB 32 (wrL (s2 σ 1 i v) i (k + 1))) (by rw [wrL, wrS, if_neg (by rw [bN_0.mp h25]; decide)]) rfl rfl (ih hlt)
    · refine gj_ld (i := 0) (pc2 := 29) rfl (fun _ _ _ h9 => lv_aload_n hx hb d_X_write_28 rfl h9) ?_
      refine gj_ld (i := 0) (pc2 := 30) rfl (fun _ _ _ h9 => lv_aload_n hx hb d_X_write_29 rfl h9) ?_
      refine bj_gr F 2 (by decide) d_X_write_30 q_45 rfl ?_
      refine gj_ld (i := 3) (pc2 := 34) rfl (fun _ _ _ h9 => lv_iload_n hx hb d_X_write_33 rfl h9) ?_
      refine bj_blk F k rfl hlt d_X_write_34 rfl ?_
      refine bj_vv F k_X_throwOut d_X_write_35 q_88 (bw_at (i := 0) (by omega)) rfl (ct_X_throwOut hlt) (rmo rfl) rfl rfl (Nat.le_of_ble_eq_true rfl) (Nat.zero_le _) (Nat.zero_le _) rfl (fun u9 e9 => ?_)
      subst e9
      refine gj_iinc (pc2 := 41) hx hb d_X_write_38 (Nat.le_of_ble_eq_true rfl) rfl (nI_1 k) rfl ?_
      refine gj_l (pc2 := 9) (fun _ _ _ => lv_goto (tgt := 9) hx hb d_X_write_41 (by decide)) ?_
      exact gj_eq (w2 := bw a cI cB 32 (wrL (s2 σ 1 i v) i (k + 1))) (by rw [wrL, wrS, if_pos (bN_n0.mp h25)]) rfl rfl (ih hlt)

theorem k_X_keptNow : CKV y_X_keptNow c_X_keptNow 3 (some .int) 0 := ⟨q_103, q_1, q_102, sl_X_keptNow, ⟨by decide +kernel, by decide +kernel, by decide +kernel⟩⟩
set_option maxHeartbeats 4000000 in
set_option maxRecDepth 100000 in
theorem ct_X_keptNow {l : Launch} {D : va_G} {cI cB cZ cJ : ClassId} {a : Nat → Nat} {σ : St}  : GCi l y_X_keptNow (Cond.code y_X_keptNow c_X_keptNow 3 (some .int) :: tbW) ({ frames := 1, cells := 0, slots := 0, locals := 20 }) 0 0 D vCl (TY cI cB cZ cJ) [.ref (a 0)] (bw a cI cB 32 σ) (fun r u => r = kNt σ 32 ∧ u = (bw a cI cB 32 σ)) := by
  refine gc_body (Qc := gc_Qi D vCl (TY cI cB cZ cJ) (bw a cI cB 32 σ) (fun r u => r = kNt σ 32 ∧ u = (bw a cI cB 32 σ))) (cc := c_X_keptNow) (maxL := 3) (ret := (some .int)) (by decide) rfl (by simp [Value.category]) (Nat.le_of_ble_eq_true rfl) ?_
  intro p e s m args below meth c F
  have hx := F.1
  have hb := F.2.1
  refine gj_l (pc2 := 1) (fun _ _ _ => lv_iconst (v := 0) hx hb d_X_keptNow_0 (by decide)) ?_
  refine gj_st (i := 1) (pc2 := 2) (Nat.le_of_ble_eq_true rfl) rfl (fun _ _ _ _ _ h9 l9 => lv_istore_n hx hb d_X_keptNow_1 rfl h9 (Nat.le_of_ble_eq_true rfl) l9) ?_
  refine gj_l (pc2 := 3) (fun _ _ _ => lv_iconst (v := 0) hx hb d_X_keptNow_2 (by decide)) ?_
  refine gj_st (i := 2) (pc2 := 4) (Nat.le_of_ble_eq_true rfl) rfl (fun _ _ _ _ _ h9 l9 => lv_istore_n hx hb d_X_keptNow_3 rfl h9 (Nat.le_of_ble_eq_true rfl) l9) ?_
  refine gj_loop 32 (fun k => (bw a cI cB 32 σ)) (fun k => [.ref (a 0), .int (kNt σ k), .int (nI k)]) (fun k hk ih => ?_)
  refine gj_ld (i := 2) (pc2 := 5) rfl (fun _ _ _ h9 => lv_iload_n hx hb d_X_keptNow_4 rfl h9) ?_
  refine gj_l (pc2 := 7) (fun _ _ _ => lv_bipush (v := (32)) hx hb d_X_keptNow_5 (by decide)) ?_
  refine gj_if (pc2 := 31) (pc3 := 10) (fun _ _ _ => lv_icmp_ge (tgt := 31) hx hb d_X_keptNow_7 (by decide)) (fun h7 => ?_) (fun h7 => ?_)
  · have hk9 : 32 ≤ k := nI_ge_of h7 (by omega) (by omega)
    have hk8 : k = 32 := by omega
    subst hk8
    refine gj_ld (i := 1) (pc2 := 32) rfl (fun _ _ _ h9 => lv_iload_n hx hb d_X_keptNow_31 rfl h9) ?_
    exact gj_iret F d_X_keptNow_32 (Nat.le_refl _) (Nat.le_refl _) ⟨rfl, rfl⟩
  · have hlt : k < 32 := nI_lt_of h7 (by omega)
    refine gj_ld (i := 0) (pc2 := 11) rfl (fun _ _ _ h9 => lv_aload_n hx hb d_X_keptNow_10 rfl h9) ?_
    refine bj_gr F 2 (by decide) d_X_keptNow_11 q_45 rfl ?_
    refine gj_ld (i := 2) (pc2 := 15) rfl (fun _ _ _ h9 => lv_iload_n hx hb d_X_keptNow_14 rfl h9) ?_
    refine bj_blk F k rfl hlt d_X_keptNow_15 rfl ?_
    refine bj_ni F k_B_isKept d_X_keptNow_16 (by decide +kernel) (bw_blk hlt) rfl (ct_B_isKept hlt) (rmo rfl) rfl rfl (Nat.le_of_ble_eq_true rfl) (Nat.zero_le _) (Nat.zero_le _) rfl (fun r9 u9 e9 => ?_)
    obtain ⟨rfl, rfl⟩ := e9
    refine gj_if (pc2 := 25) (pc3 := 22) (fun _ _ _ => lv_if_eq (tgt := 25) hx hb d_X_keptNow_19 (by decide)) (fun h19 => ?_) (fun h19 => ?_)
    · refine gj_iinc (pc2 := 28) hx hb d_X_keptNow_25 (Nat.le_of_ble_eq_true rfl) rfl (nI_1 k) rfl ?_
      refine gj_l (pc2 := 4) (fun _ _ _ => lv_goto (tgt := 4) hx hb d_X_keptNow_28 (by decide)) ?_
      exact gj_eq (L2 := [.ref (a 0), .int (kNt σ (k + 1)), .int (nI (k + 1))]) rfl (by rw [kNt, if_neg (by rw [bN_0.mp h19]; decide)]; rfl) rfl (ih hlt)
    · refine gj_iinc (pc2 := 25) hx hb d_X_keptNow_22 (Nat.le_of_ble_eq_true rfl) rfl rfl rfl ?_
      refine gj_iinc (pc2 := 28) hx hb d_X_keptNow_25 (Nat.le_of_ble_eq_true rfl) rfl (nI_1 k) rfl ?_
      refine gj_l (pc2 := 4) (fun _ _ _ => lv_goto (tgt := 4) hx hb d_X_keptNow_28 (by decide)) ?_
      exact gj_eq (L2 := [.ref (a 0), .int (kNt σ (k + 1)), .int (nI (k + 1))]) rfl (by rw [kNt, if_pos (bN_n0.mp h19)]; rfl) rfl (ih hlt)

theorem k_X_forget : CKV y_X_forget c_X_forget 3 (some .int) 0 := ⟨q_83, q_1, q_81, q_82, ⟨by decide +kernel, by decide +kernel, by decide +kernel⟩⟩
set_option maxHeartbeats 4000000 in
set_option maxRecDepth 100000 in
theorem ct_X_forget {l : Launch} {D : va_G} {cI cB cZ cJ : ClassId} {a : Nat → Nat} {σ : St}  : GCi l y_X_forget (Cond.code y_X_forget c_X_forget 3 (some .int) :: tbW) ({ frames := 2, cells := 0, slots := 0, locals := 42 }) 0 0 D vCl (TY cI cB cZ cJ) [.ref (a 0)] (bw a cI cB 32 σ) (fun r u => r = fgN σ 32 ∧ u = bw a cI cB 32 (fgS σ 32)) := by
  refine gc_body (Qc := gc_Qi D vCl (TY cI cB cZ cJ) (bw a cI cB 32 σ) (fun r u => r = fgN σ 32 ∧ u = bw a cI cB 32 (fgS σ 32))) (cc := c_X_forget) (maxL := 3) (ret := (some .int)) (by decide) rfl (by simp [Value.category]) (Nat.le_of_ble_eq_true rfl) ?_
  intro p e s m args below meth c F
  have hx := F.1
  have hb := F.2.1
  refine gj_l (pc2 := 1) (fun _ _ _ => lv_iconst (v := 0) hx hb d_X_forget_0 (by decide)) ?_
  refine gj_st (i := 1) (pc2 := 2) (Nat.le_of_ble_eq_true rfl) rfl (fun _ _ _ _ _ h9 l9 => lv_istore_n hx hb d_X_forget_1 rfl h9 (Nat.le_of_ble_eq_true rfl) l9) ?_
  refine gj_l (pc2 := 3) (fun _ _ _ => lv_iconst (v := 0) hx hb d_X_forget_2 (by decide)) ?_
  refine gj_st (i := 2) (pc2 := 4) (Nat.le_of_ble_eq_true rfl) rfl (fun _ _ _ _ _ h9 l9 => lv_istore_n hx hb d_X_forget_3 rfl h9 (Nat.le_of_ble_eq_true rfl) l9) ?_
  refine gj_loop 32 (fun k => bw a cI cB 32 (fgS σ k)) (fun k => [.ref (a 0), .int (fgN σ k), .int (nI k)]) (fun k hk ih => ?_)
  refine gj_ld (i := 2) (pc2 := 5) rfl (fun _ _ _ h9 => lv_iload_n hx hb d_X_forget_4 rfl h9) ?_
  refine gj_l (pc2 := 7) (fun _ _ _ => lv_bipush (v := (32)) hx hb d_X_forget_5 (by decide)) ?_
  refine gj_if (pc2 := 41) (pc3 := 10) (fun _ _ _ => lv_icmp_ge (tgt := 41) hx hb d_X_forget_7 (by decide)) (fun h7 => ?_) (fun h7 => ?_)
  · have hk9 : 32 ≤ k := nI_ge_of h7 (by omega) (by omega)
    have hk8 : k = 32 := by omega
    subst hk8
    refine gj_ld (i := 1) (pc2 := 42) rfl (fun _ _ _ h9 => lv_iload_n hx hb d_X_forget_41 rfl h9) ?_
    exact gj_iret F d_X_forget_42 (Nat.le_refl _) (Nat.le_refl _) ⟨rfl, rfl⟩
  · have hlt : k < 32 := nI_lt_of h7 (by omega)
    refine gj_ld (i := 0) (pc2 := 11) rfl (fun _ _ _ h9 => lv_aload_n hx hb d_X_forget_10 rfl h9) ?_
    refine bj_gr F 2 (by decide) d_X_forget_11 q_45 rfl ?_
    refine gj_ld (i := 2) (pc2 := 15) rfl (fun _ _ _ h9 => lv_iload_n hx hb d_X_forget_14 rfl h9) ?_
    refine bj_blk F k rfl hlt d_X_forget_15 rfl ?_
    refine bj_ni F k_B_isKept d_X_forget_16 (by decide +kernel) (bw_blk hlt) rfl (ct_B_isKept hlt) (rmo rfl) rfl rfl (Nat.le_of_ble_eq_true rfl) (Nat.zero_le _) (Nat.zero_le _) rfl (fun r9 u9 e9 => ?_)
    obtain ⟨rfl, rfl⟩ := e9
    refine gj_if (pc2 := 35) (pc3 := 22) (fun _ _ _ => lv_if_eq (tgt := 35) hx hb d_X_forget_19 (by decide)) (fun h19 => ?_) (fun h19 => ?_)
    · refine gj_iinc (pc2 := 38) hx hb d_X_forget_35 (Nat.le_of_ble_eq_true rfl) rfl (nI_1 k) rfl ?_
      refine gj_l (pc2 := 4) (fun _ _ _ => lv_goto (tgt := 4) hx hb d_X_forget_38 (by decide)) ?_
      have hf : ¬ keptB (fgS σ k) k = true := by rw [bN_0.mp h19]; decide
      exact gj_eq (w2 := bw a cI cB 32 (fgS σ (k + 1))) (L2 := [.ref (a 0), .int (fgN σ (k + 1)), .int (nI (k + 1))]) (by rw [fgS, if_neg hf]) (by rw [fgN, if_neg hf]; rfl) rfl (ih hlt)
    · refine gj_ld (i := 0) (pc2 := 23) rfl (fun _ _ _ h9 => lv_aload_n hx hb d_X_forget_22 rfl h9) ?_
      refine gj_ld (i := 0) (pc2 := 24) rfl (fun _ _ _ h9 => lv_aload_n hx hb d_X_forget_23 rfl h9) ?_
      refine bj_gr F 2 (by decide) d_X_forget_24 q_45 rfl ?_
      refine gj_ld (i := 2) (pc2 := 28) rfl (fun _ _ _ h9 => lv_iload_n hx hb d_X_forget_27 rfl h9) ?_
      refine bj_blk F k rfl hlt d_X_forget_28 rfl ?_
      refine bj_vv F k_X_throwOut d_X_forget_29 q_88 (bw_at (i := 0) (by omega)) rfl (ct_X_throwOut hlt) (rmo rfl) rfl rfl (Nat.le_of_ble_eq_true rfl) (Nat.zero_le _) (Nat.zero_le _) rfl (fun u9 e9 => ?_)
      subst e9
      refine gj_iinc (pc2 := 35) hx hb d_X_forget_32 (Nat.le_of_ble_eq_true rfl) rfl rfl rfl ?_
      refine gj_iinc (pc2 := 38) hx hb d_X_forget_35 (Nat.le_of_ble_eq_true rfl) rfl (nI_1 k) rfl ?_
      refine gj_l (pc2 := 4) (fun _ _ _ => lv_goto (tgt := 4) hx hb d_X_forget_38 (by decide)) ?_
      have hf : keptB (fgS σ k) k = true := bN_n0.mp h19
      exact gj_eq (w2 := bw a cI cB 32 (fgS σ (k + 1))) (L2 := [.ref (a 0), .int (fgN σ (k + 1)), .int (nI (k + 1))]) (by rw [fgS, if_pos hf]) (by rw [fgN, if_pos hf]; rfl) rfl (ih hlt)

theorem k_X_wordAt : CKV y_X_wordAt c_X_wordAt 3 (some .int) 1 := ⟨q_261, q_1, q_260, sl_X_wordAt, ⟨by decide +kernel, by decide +kernel, by decide +kernel⟩⟩
set_option maxHeartbeats 4000000 in
set_option maxRecDepth 100000 in
theorem ct_X_wordAt {l : Launch} {D : va_G} {cI cB cZ cJ : ClassId} {a : Nat → Nat} {σ : St} (x : Int32) : GCi l y_X_wordAt (Cond.code y_X_wordAt c_X_wordAt 3 (some .int) :: tbW) ({ frames := 1, cells := 0, slots := 0, locals := 20 }) 0 0 D vCl (TY cI cB cZ cJ) [.ref (a 0), .int x] (bw a cI cB 32 σ) (fun r u => r = wdA σ x ∧ u = (bw a cI cB 32 σ)) := by
  refine gc_body (Qc := gc_Qi D vCl (TY cI cB cZ cJ) (bw a cI cB 32 σ) (fun r u => r = wdA σ x ∧ u = (bw a cI cB 32 σ))) (cc := c_X_wordAt) (maxL := 3) (ret := (some .int)) (by decide) rfl (by simp [Value.category]) (Nat.le_of_ble_eq_true rfl) ?_
  intro p e s m args below meth c F
  have hx := F.1
  have hb := F.2.1
  refine gj_ld (i := 1) (pc2 := 1) rfl (fun _ _ _ h9 => lv_iload_n hx hb d_X_wordAt_0 rfl h9) ?_
  refine bj_s F k_X_inMemory d_X_wordAt_1 q_113 (ct_X_inMemory _) (rmo rfl) rfl rfl (Nat.le_of_ble_eq_true rfl) (Nat.zero_le _) (Nat.zero_le _) rfl (fun r9 e9 => ?_)
  subst e9
  refine gj_if (pc2 := 10) (pc3 := 7) (fun _ _ _ => lv_if_ne (tgt := 10) hx hb d_X_wordAt_4 (by decide)) (fun h4 => ?_) (fun h4 => ?_)
  · obtain ⟨i, hi, rfl⟩ := inM_of (bN_n0.mp h4)
    have hcl : (nI i).toNatClampNeg = i := nI_clamp (by omega)
    have hin := inM_nI hi
    refine gj_ld (i := 0) (pc2 := 11) rfl (fun _ _ _ h9 => lv_aload_n hx hb d_X_wordAt_10 rfl h9) ?_
    refine bj_gr F 0 (by decide) d_X_wordAt_11 q_43 rfl ?_
    refine gj_ld (i := 1) (pc2 := 15) rfl (fun _ _ _ h9 => lv_iload_n hx hb d_X_wordAt_14 rfl h9) ?_
    refine bj_ld F 1 1024 i (by omega) rfl (by decide) rfl hi d_X_wordAt_15 rfl ?_
    refine gj_l (pc2 := 18) (fun _ _ _ => lv_bipush (v := (8)) hx hb d_X_wordAt_16 (by decide)) ?_
    refine gj_l (pc2 := 19) (fun _ _ _ => lv_ishl hx hb d_X_wordAt_18) ?_
    refine gj_st (i := 2) (pc2 := 20) (Nat.le_of_ble_eq_true rfl) rfl (fun _ _ _ _ _ h9 l9 => lv_istore_n hx hb d_X_wordAt_19 rfl h9 (Nat.le_of_ble_eq_true rfl) l9) ?_
    refine gj_ld (i := 2) (pc2 := 21) rfl (fun _ _ _ h9 => lv_iload_n hx hb d_X_wordAt_20 rfl h9) ?_
    refine gj_l (pc2 := 23) (fun _ _ _ => lv_bipush (v := (12)) hx hb d_X_wordAt_21 (by decide)) ?_
    refine gj_l (pc2 := 24) (fun _ _ _ => lv_ishr hx hb d_X_wordAt_23) ?_
    refine bj_s F k_X_lengthOf d_X_wordAt_24 q_263 (ct_X_lengthOf _) (rmo rfl) rfl rfl (Nat.le_of_ble_eq_true rfl) (Nat.zero_le _) (Nat.zero_le _) rfl (fun r9 e9 => ?_)
    subst e9
    refine gj_l (pc2 := 28) (fun _ _ _ => lv_iconst (v := 1) hx hb d_X_wordAt_27 (by decide)) ?_
    refine gj_if (pc2 := 33) (pc3 := 31) (fun _ _ _ => lv_icmp_ne (tgt := 33) hx hb d_X_wordAt_28 (by decide)) (fun h28 => ?_) (fun h28 => ?_)
    · refine gj_ld (i := 1) (pc2 := 34) rfl (fun _ _ _ h9 => lv_iload_n hx hb d_X_wordAt_33 rfl h9) ?_
      refine gj_l (pc2 := 35) (fun _ _ _ => lv_iconst (v := 1) hx hb d_X_wordAt_34 (by decide)) ?_
      refine gj_l (pc2 := 36) (fun _ _ _ => lv_iadd hx hb d_X_wordAt_35) ?_
      refine bj_s F k_X_inMemory d_X_wordAt_36 q_113 (ct_X_inMemory _) (rmo rfl) rfl rfl (Nat.le_of_ble_eq_true rfl) (Nat.zero_le _) (Nat.zero_le _) rfl (fun r9 e9 => ?_)
      subst e9
      refine gj_if (pc2 := 45) (pc3 := 42) (fun _ _ _ => lv_if_ne (tgt := 45) hx hb d_X_wordAt_39 (by decide)) (fun h39 => ?_) (fun h39 => ?_)
      · have h40 := bN_n0.mp h39
        obtain ⟨i2, hi2, e2⟩ := inM_of h40
        have hc2 : (nI i + 1).toNatClampNeg = i2 := by rw [e2]; exact nI_clamp (by omega)
        refine gj_ld (i := 2) (pc2 := 46) rfl (fun _ _ _ h9 => lv_iload_n hx hb d_X_wordAt_45 rfl h9) ?_
        refine gj_ld (i := 0) (pc2 := 47) rfl (fun _ _ _ h9 => lv_aload_n hx hb d_X_wordAt_46 rfl h9) ?_
        refine bj_gr F 0 (by decide) d_X_wordAt_47 q_43 rfl ?_
        refine gj_ld (i := 1) (pc2 := 51) rfl (fun _ _ _ h9 => lv_iload_n hx hb d_X_wordAt_50 rfl h9) ?_
        refine gj_l (pc2 := 52) (fun _ _ _ => lv_iconst (v := 1) hx hb d_X_wordAt_51 (by decide)) ?_
        refine gj_l (pc2 := 53) (fun _ _ _ => lv_iadd hx hb d_X_wordAt_52) ?_
        refine bj_ld F 1 1024 i2 (by omega) rfl (by decide) e2 hi2 d_X_wordAt_53 rfl ?_
        refine gj_l (pc2 := 55) (fun _ _ _ => lv_ior hx hb d_X_wordAt_54) ?_
        exact gj_iret F d_X_wordAt_55 (Nat.le_refl _) (Nat.le_refl _) ⟨by simp only [wdA, hin, hcl, hc2, h40, if_true, if_neg h28], rfl⟩
      · have h40 := bN_0.mp h39
        refine gj_l (pc2 := 44) (fun _ _ _ => lv_ldc (v := 65536) hx hb F.2.2.2.1 (F.w q_262) d_X_wordAt_42) ?_
        exact gj_iret F d_X_wordAt_44 (Nat.le_refl _) (Nat.le_refl _) ⟨by simp only [wdA, hin, hcl, h40, if_true, if_neg h28]; rfl, rfl⟩
    · refine gj_ld (i := 2) (pc2 := 32) rfl (fun _ _ _ h9 => lv_iload_n hx hb d_X_wordAt_31 rfl h9) ?_
      exact gj_iret F d_X_wordAt_32 (Nat.le_refl _) (Nat.le_refl _) ⟨by simp only [wdA, hin, hcl, h28, if_true], rfl⟩
  · refine gj_l (pc2 := 9) (fun _ _ _ => lv_ldc (v := 65536) hx hb F.2.2.2.1 (F.w q_262) d_X_wordAt_7) ?_
    exact gj_iret F d_X_wordAt_9 (Nat.le_refl _) (Nat.le_refl _) ⟨by simp [wdA, bN_0.mp h4], rfl⟩

theorem k_X_stateBefore : CKV y_X_stateBefore c_X_stateBefore 3 (some .int) 2 := ⟨q_279, q_1, q_278, sl_X_stateBefore, ⟨by decide +kernel, by decide +kernel, by decide +kernel⟩⟩
set_option maxHeartbeats 4000000 in
set_option maxRecDepth 100000 in
theorem ct_X_stateBefore {l : Launch} {D : va_G} {cI cB cZ cJ : ClassId} {a : Nat → Nat} {σ : St} (x : Int32) {i : Nat} (hi : i < 8) : GCi l y_X_stateBefore (Cond.code y_X_stateBefore c_X_stateBefore 3 (some .int) :: tbW) ({ frames := 1, cells := 0, slots := 0, locals := 20 }) 0 0 D vCl (TY cI cB cZ cJ) [.ref (a 0), .int x, .int (nI i)] (bw a cI cB 32 σ) (fun r u => r = stB σ x i ∧ u = (bw a cI cB 32 σ)) := by
  refine gc_body (Qc := gc_Qi D vCl (TY cI cB cZ cJ) (bw a cI cB 32 σ) (fun r u => r = stB σ x i ∧ u = (bw a cI cB 32 σ))) (cc := c_X_stateBefore) (maxL := 3) (ret := (some .int)) (by decide) rfl (by simp [Value.category]) (Nat.le_of_ble_eq_true rfl) ?_
  intro p e s m args below meth c F
  have hx := F.1
  have hb := F.2.1
  refine gj_ld (i := 1) (pc2 := 1) rfl (fun _ _ _ h9 => lv_iload_n hx hb d_X_stateBefore_0 rfl h9) ?_
  refine gj_if (pc2 := 6) (pc3 := 4) (fun _ _ _ => lv_if_ne (tgt := 6) hx hb d_X_stateBefore_1 (by decide)) (fun h1 => ?_) (fun h1 => ?_)
  · refine gj_ld (i := 1) (pc2 := 7) rfl (fun _ _ _ h9 => lv_iload_n hx hb d_X_stateBefore_6 rfl h9) ?_
    refine gj_l (pc2 := 9) (fun _ _ _ => lv_bipush (v := (16)) hx hb d_X_stateBefore_7 (by decide)) ?_
    refine gj_if (pc2 := 14) (pc3 := 12) (fun _ _ _ => lv_icmp_ne (tgt := 14) hx hb d_X_stateBefore_9 (by decide)) (fun h9 => ?_) (fun h9 => ?_)
    · refine gj_ld (i := 1) (pc2 := 15) rfl (fun _ _ _ h9 => lv_iload_n hx hb d_X_stateBefore_14 rfl h9) ?_
      refine gj_l (pc2 := 17) (fun _ _ _ => lv_bipush (v := (12)) hx hb d_X_stateBefore_15 (by decide)) ?_
      refine gj_if (pc2 := 22) (pc3 := 20) (fun _ _ _ => lv_icmp_lt (tgt := 22) hx hb d_X_stateBefore_17 (by decide)) (fun h17 => ?_) (fun h17 => ?_)
      · refine gj_ld (i := 1) (pc2 := 23) rfl (fun _ _ _ h9 => lv_iload_n hx hb d_X_stateBefore_22 rfl h9) ?_
        refine gj_l (pc2 := 24) (fun _ _ _ => lv_iconst (v := 4) hx hb d_X_stateBefore_23 (by decide)) ?_
        refine gj_if (pc2 := 32) (pc3 := 27) (fun _ _ _ => lv_icmp_eq (tgt := 32) hx hb d_X_stateBefore_24 (by decide)) (fun h24 => ?_) (fun h24 => ?_)
        · refine gj_ld (i := 0) (pc2 := 33) rfl (fun _ _ _ h9 => lv_aload_n hx hb d_X_stateBefore_32 rfl h9) ?_
          refine bj_gr F 1 (by decide) d_X_stateBefore_33 q_44 rfl ?_
          refine gj_ld (i := 2) (pc2 := 37) rfl (fun _ _ _ h9 => lv_iload_n hx hb d_X_stateBefore_36 rfl h9) ?_
          refine bj_ld F 2 8 i (by omega) rfl (by decide) rfl hi d_X_stateBefore_37 rfl ?_
          refine bj_s F k_X_inMemory d_X_stateBefore_38 q_113 (ct_X_inMemory _) (rmo rfl) rfl rfl (Nat.le_of_ble_eq_true rfl) (Nat.zero_le _) (Nat.zero_le _) rfl (fun r9 e9 => ?_)
          subst e9
          refine gj_if (pc2 := 46) (pc3 := 44) (fun _ _ _ => lv_if_ne (tgt := 46) hx hb d_X_stateBefore_41 (by decide)) (fun h41 => ?_) (fun h41 => ?_)
          · refine gj_l (pc2 := 47) (fun _ _ _ => lv_iconst (v := 0) hx hb d_X_stateBefore_46 (by decide)) ?_
            exact gj_iret F d_X_stateBefore_47 (Nat.le_refl _) (Nat.le_refl _) ⟨by first | (simp [bN_0] at h41; simp [stB, h1, h9, h17, h24, h41]) | simp [stB, h1, h9, h17, h24, h41], rfl⟩
          · refine gj_l (pc2 := 45) (fun _ _ _ => lv_iconst (v := 2) hx hb d_X_stateBefore_44 (by decide)) ?_
            exact gj_iret F d_X_stateBefore_45 (Nat.le_refl _) (Nat.le_refl _) ⟨by first | (simp [bN_0] at h41; simp [stB, h1, h9, h17, h24, h41]) | simp [stB, h1, h9, h17, h24, h41], rfl⟩
        · refine gj_ld (i := 1) (pc2 := 28) rfl (fun _ _ _ h9 => lv_iload_n hx hb d_X_stateBefore_27 rfl h9) ?_
          refine gj_l (pc2 := 29) (fun _ _ _ => lv_iconst (v := 5) hx hb d_X_stateBefore_28 (by decide)) ?_
          refine gj_if (pc2 := 46) (pc3 := 32) (fun _ _ _ => lv_icmp_ne (tgt := 46) hx hb d_X_stateBefore_29 (by decide)) (fun h29 => ?_) (fun h29 => ?_)
          · refine gj_l (pc2 := 47) (fun _ _ _ => lv_iconst (v := 0) hx hb d_X_stateBefore_46 (by decide)) ?_
            exact gj_iret F d_X_stateBefore_47 (Nat.le_refl _) (Nat.le_refl _) ⟨by first | (simp [bN_0] at h41; simp [stB, h1, h9, h17, h24, h29]) | simp [stB, h1, h9, h17, h24, h29], rfl⟩
          · refine gj_ld (i := 0) (pc2 := 33) rfl (fun _ _ _ h9 => lv_aload_n hx hb d_X_stateBefore_32 rfl h9) ?_
            refine bj_gr F 1 (by decide) d_X_stateBefore_33 q_44 rfl ?_
            refine gj_ld (i := 2) (pc2 := 37) rfl (fun _ _ _ h9 => lv_iload_n hx hb d_X_stateBefore_36 rfl h9) ?_
            refine bj_ld F 2 8 i (by omega) rfl (by decide) rfl hi d_X_stateBefore_37 rfl ?_
            refine bj_s F k_X_inMemory d_X_stateBefore_38 q_113 (ct_X_inMemory _) (rmo rfl) rfl rfl (Nat.le_of_ble_eq_true rfl) (Nat.zero_le _) (Nat.zero_le _) rfl (fun r9 e9 => ?_)
            subst e9
            refine gj_if (pc2 := 46) (pc3 := 44) (fun _ _ _ => lv_if_ne (tgt := 46) hx hb d_X_stateBefore_41 (by decide)) (fun h41 => ?_) (fun h41 => ?_)
            · refine gj_l (pc2 := 47) (fun _ _ _ => lv_iconst (v := 0) hx hb d_X_stateBefore_46 (by decide)) ?_
              exact gj_iret F d_X_stateBefore_47 (Nat.le_refl _) (Nat.le_refl _) ⟨by first | (simp [bN_0] at h41; simp [stB, h1, h9, h17, h24, h29, h41]) | simp [stB, h1, h9, h17, h24, h29, h41], rfl⟩
            · refine gj_l (pc2 := 45) (fun _ _ _ => lv_iconst (v := 2) hx hb d_X_stateBefore_44 (by decide)) ?_
              exact gj_iret F d_X_stateBefore_45 (Nat.le_refl _) (Nat.le_refl _) ⟨by first | (simp [bN_0] at h41; simp [stB, h1, h9, h17, h24, h29, h41]) | simp [stB, h1, h9, h17, h24, h29, h41], rfl⟩
      · refine gj_l (pc2 := 21) (fun _ _ _ => lv_iconst (v := 3) hx hb d_X_stateBefore_20 (by decide)) ?_
        exact gj_iret F d_X_stateBefore_21 (Nat.le_refl _) (Nat.le_refl _) ⟨by first | (simp [bN_0] at h41; simp [stB, h1, h9, h17]) | simp [stB, h1, h9, h17], rfl⟩
    · refine gj_l (pc2 := 13) (fun _ _ _ => lv_iconst (v := 4) hx hb d_X_stateBefore_12 (by decide)) ?_
      exact gj_iret F d_X_stateBefore_13 (Nat.le_refl _) (Nat.le_refl _) ⟨by first | (simp [bN_0] at h41; simp [stB, h1, h9]) | simp [stB, h1, h9], rfl⟩
  · refine gj_l (pc2 := 5) (fun _ _ _ => lv_iconst (v := 1) hx hb d_X_stateBefore_4 (by decide)) ?_
    exact gj_iret F d_X_stateBefore_5 (Nat.le_refl _) (Nat.le_refl _) ⟨by first | (simp [bN_0] at h41; simp [stB, h1]) | simp [stB, h1], rfl⟩

theorem k_X_holds : CKV y_X_holds c_X_holds 2 (some .boolean) 1 := ⟨q_290, q_1, q_289, sl_X_holds, ⟨by decide +kernel, by decide +kernel, by decide +kernel⟩⟩
set_option maxHeartbeats 4000000 in
set_option maxRecDepth 100000 in
theorem ct_X_holds {l : Launch} {D : va_G} {cI cB cZ cJ : ClassId} {a : Nat → Nat} {σ : St} (x : Int32) : GCi l y_X_holds (Cond.code y_X_holds c_X_holds 2 (some .boolean) :: tbW) ({ frames := 1, cells := 0, slots := 0, locals := 20 }) 0 0 D vCl (TY cI cB cZ cJ) [.ref (a 0), .int x] (bw a cI cB 32 σ) (fun r u => r = bN (hlD σ x) ∧ u = (bw a cI cB 32 σ)) := by
  refine gc_body (Qc := gc_Qi D vCl (TY cI cB cZ cJ) (bw a cI cB 32 σ) (fun r u => r = bN (hlD σ x) ∧ u = (bw a cI cB 32 σ))) (cc := c_X_holds) (maxL := 2) (ret := (some .boolean)) (by decide) rfl (by simp [Value.category]) (Nat.le_of_ble_eq_true rfl) ?_
  intro p e s m args below meth c F
  have hx := F.1
  have hb := F.2.1
  refine gj_ld (i := 1) (pc2 := 1) rfl (fun _ _ _ h9 => lv_iload_n hx hb d_X_holds_0 rfl h9) ?_
  by_cases h1_0 : x = 0
  · rw [h1_0]
    refine gj_l (pc2 := 36) (fun _ _ _ => lv_tableIn (tgt := 36) hx hb d_X_holds_1 (by decide) (by decide) rfl (by decide)) ?_
    refine gj_l (pc2 := 37) (fun _ _ _ => lv_iconst (v := 1) hx hb d_X_holds_36 (by decide)) ?_
    exact gj_zret F d_X_holds_37 (by first | rfl | exact bN_z _ | decide) (Nat.le_refl _) (Nat.le_refl _) ⟨by first | (simp [bN_0] at h47; simp [hlD, bN, h1_0]; done) | (simp [bN_0] at h65; simp [hlD, bN, h1_0]; done) | (simp [hlD, bN, h1_0]; done), rfl⟩
  by_cases h1_1 : x = 1
  · rw [h1_1]
    refine gj_l (pc2 := 38) (fun _ _ _ => lv_tableIn (tgt := 38) hx hb d_X_holds_1 (by decide) (by decide) rfl (by decide)) ?_
    refine gj_ld (i := 0) (pc2 := 39) rfl (fun _ _ _ h9 => lv_aload_n hx hb d_X_holds_38 rfl h9) ?_
    refine bj_vi F k_X_isZero d_X_holds_39 q_291 (bw_at (i := 0) (by omega)) rfl (ct_X_isZero) (rmo rfl) rfl rfl (Nat.le_of_ble_eq_true rfl) (Nat.zero_le _) (Nat.zero_le _) rfl (fun r9 u9 e9 => ?_)
    obtain ⟨rfl, rfl⟩ := e9
    exact gj_zret F d_X_holds_42 (by first | rfl | exact bN_z _ | decide) (Nat.le_refl _) (Nat.le_refl _) ⟨by first | (simp [bN_0] at h47; simp [hlD, bN, h1_0, h1_1]; done) | (simp [bN_0] at h65; simp [hlD, bN, h1_0, h1_1]; done) | (simp [hlD, bN, h1_0, h1_1]; done), rfl⟩
  by_cases h1_2 : x = 2
  · rw [h1_2]
    refine gj_l (pc2 := 43) (fun _ _ _ => lv_tableIn (tgt := 43) hx hb d_X_holds_1 (by decide) (by decide) rfl (by decide)) ?_
    refine gj_ld (i := 0) (pc2 := 44) rfl (fun _ _ _ h9 => lv_aload_n hx hb d_X_holds_43 rfl h9) ?_
    refine bj_vi F k_X_isZero d_X_holds_44 q_291 (bw_at (i := 0) (by omega)) rfl (ct_X_isZero) (rmo rfl) rfl rfl (Nat.le_of_ble_eq_true rfl) (Nat.zero_le _) (Nat.zero_le _) rfl (fun r9 u9 e9 => ?_)
    obtain ⟨rfl, rfl⟩ := e9
    refine gj_if (pc2 := 54) (pc3 := 50) (fun _ _ _ => lv_if_ne (tgt := 54) hx hb d_X_holds_47 (by decide)) (fun h47 => ?_) (fun h47 => ?_)
    · refine gj_l (pc2 := 55) (fun _ _ _ => lv_iconst (v := 0) hx hb d_X_holds_54 (by decide)) ?_
      exact gj_zret F d_X_holds_55 (by first | rfl | exact bN_z _ | decide) (Nat.le_refl _) (Nat.le_refl _) ⟨by first | (simp [bN_0] at h47; simp [hlD, bN, h1_0, h1_1, h1_2, h47]; done) | (simp [bN_0] at h65; simp [hlD, bN, h1_0, h1_1, h1_2, h47]; done) | (simp [hlD, bN, h1_0, h1_1, h1_2, h47]; done), rfl⟩
    · refine gj_l (pc2 := 51) (fun _ _ _ => lv_iconst (v := 1) hx hb d_X_holds_50 (by decide)) ?_
      refine gj_l (pc2 := 55) (fun _ _ _ => lv_goto (tgt := 55) hx hb d_X_holds_51 (by decide)) ?_
      exact gj_zret F d_X_holds_55 (by first | rfl | exact bN_z _ | decide) (Nat.le_refl _) (Nat.le_refl _) ⟨by first | (simp [bN_0] at h47; simp [hlD, bN, h1_0, h1_1, h1_2, h47]; done) | (simp [bN_0] at h65; simp [hlD, bN, h1_0, h1_1, h1_2, h47]; done) | (simp [hlD, bN, h1_0, h1_1, h1_2, h47]; done), rfl⟩
  by_cases h1_3 : x = 3
  · rw [h1_3]
    refine gj_l (pc2 := 56) (fun _ _ _ => lv_tableIn (tgt := 56) hx hb d_X_holds_1 (by decide) (by decide) rfl (by decide)) ?_
    refine gj_ld (i := 0) (pc2 := 57) rfl (fun _ _ _ h9 => lv_aload_n hx hb d_X_holds_56 rfl h9) ?_
    refine bj_vi F k_X_isBelow d_X_holds_57 q_295 (bw_at (i := 0) (by omega)) rfl (ct_X_isBelow) (rmo rfl) rfl rfl (Nat.le_of_ble_eq_true rfl) (Nat.zero_le _) (Nat.zero_le _) rfl (fun r9 u9 e9 => ?_)
    obtain ⟨rfl, rfl⟩ := e9
    exact gj_zret F d_X_holds_60 (by first | rfl | exact bN_z _ | decide) (Nat.le_refl _) (Nat.le_refl _) ⟨by first | (simp [bN_0] at h47; simp [hlD, bN, h1_0, h1_1, h1_2, h1_3]; done) | (simp [bN_0] at h65; simp [hlD, bN, h1_0, h1_1, h1_2, h1_3]; done) | (simp [hlD, bN, h1_0, h1_1, h1_2, h1_3]; done), rfl⟩
  by_cases h1_4 : x = 4
  · rw [h1_4]
    refine gj_l (pc2 := 61) (fun _ _ _ => lv_tableIn (tgt := 61) hx hb d_X_holds_1 (by decide) (by decide) rfl (by decide)) ?_
    refine gj_ld (i := 0) (pc2 := 62) rfl (fun _ _ _ h9 => lv_aload_n hx hb d_X_holds_61 rfl h9) ?_
    refine bj_vi F k_X_isBelow d_X_holds_62 q_295 (bw_at (i := 0) (by omega)) rfl (ct_X_isBelow) (rmo rfl) rfl rfl (Nat.le_of_ble_eq_true rfl) (Nat.zero_le _) (Nat.zero_le _) rfl (fun r9 u9 e9 => ?_)
    obtain ⟨rfl, rfl⟩ := e9
    refine gj_if (pc2 := 72) (pc3 := 68) (fun _ _ _ => lv_if_ne (tgt := 72) hx hb d_X_holds_65 (by decide)) (fun h65 => ?_) (fun h65 => ?_)
    · refine gj_l (pc2 := 73) (fun _ _ _ => lv_iconst (v := 0) hx hb d_X_holds_72 (by decide)) ?_
      exact gj_zret F d_X_holds_73 (by first | rfl | exact bN_z _ | decide) (Nat.le_refl _) (Nat.le_refl _) ⟨by first | (simp [bN_0] at h47; simp [hlD, bN, h1_0, h1_1, h1_2, h1_3, h1_4, h65]; done) | (simp [bN_0] at h65; simp [hlD, bN, h1_0, h1_1, h1_2, h1_3, h1_4, h65]; done) | (simp [hlD, bN, h1_0, h1_1, h1_2, h1_3, h1_4, h65]; done), rfl⟩
    · refine gj_l (pc2 := 69) (fun _ _ _ => lv_iconst (v := 1) hx hb d_X_holds_68 (by decide)) ?_
      refine gj_l (pc2 := 73) (fun _ _ _ => lv_goto (tgt := 73) hx hb d_X_holds_69 (by decide)) ?_
      exact gj_zret F d_X_holds_73 (by first | rfl | exact bN_z _ | decide) (Nat.le_refl _) (Nat.le_refl _) ⟨by first | (simp [bN_0] at h47; simp [hlD, bN, h1_0, h1_1, h1_2, h1_3, h1_4, h65]; done) | (simp [bN_0] at h65; simp [hlD, bN, h1_0, h1_1, h1_2, h1_3, h1_4, h65]; done) | (simp [hlD, bN, h1_0, h1_1, h1_2, h1_3, h1_4, h65]; done), rfl⟩
  have hsw : (x).toInt < 0 ∨ 4 < (x).toInt := by
    by_cases z : (x).toInt < 0
    · exact Or.inl z
    by_cases z2 : 4 < (x).toInt
    · exact Or.inr z2
    exfalso
    rcases (show (x).toInt = 0 ∨ (x).toInt = 1 ∨ (x).toInt = 2 ∨ (x).toInt = 3 ∨ (x).toInt = 4 by omega) with z3 | z3 | z3 | z3 | z3
    · exact h1_0 (Int32.toInt_inj.mp (z3.trans (by decide)))
    · exact h1_1 (Int32.toInt_inj.mp (z3.trans (by decide)))
    · exact h1_2 (Int32.toInt_inj.mp (z3.trans (by decide)))
    · exact h1_3 (Int32.toInt_inj.mp (z3.trans (by decide)))
    · exact h1_4 (Int32.toInt_inj.mp (z3.trans (by decide)))
  refine gj_l (pc2 := 74) (fun _ _ _ => lv_tableOut (tgt := 74) hx hb d_X_holds_1 hsw (by decide)) ?_
  refine gj_l (pc2 := 75) (fun _ _ _ => lv_iconst (v := 0) hx hb d_X_holds_74 (by decide)) ?_
  exact gj_zret F d_X_holds_75 (by first | rfl | exact bN_z _ | decide) (Nat.le_refl _) (Nat.le_refl _) ⟨by first | (simp [bN_0] at h47; simp [hlD, bN, h1_0, h1_1, h1_2, h1_3, h1_4]; done) | (simp [bN_0] at h65; simp [hlD, bN, h1_0, h1_1, h1_2, h1_3, h1_4]; done) | (simp [hlD, bN, h1_0, h1_1, h1_2, h1_3, h1_4]; done), rfl⟩
end
section
theorem gj_fuel {T : Type} {p : Program} {l : Launch} {e : Env} {R : Room} {s : State} {m : MethodId} {args : Array Value} {below : List Frame} {meth : Method} {c : Code} {cells slots : Nat} {Q : State → Prop} {D : va_G} {cl : List vw_C} {A : Nat → Prop} {H0 : Heap} {n pc : Nat} {st : List Value} (I : T → va_W) (Lk : T → List Value) (inv : Nat → T → Prop)
    (step : ∀ (f : Nat) (t : T), inv f t → (∀ (g : Nat) (t2 : T), f = g + 1 → inv g t2 → GJ p l e R s m args below meth c D cl A H0 n Q cells slots (I t2) pc (Lk t2) st) → GJ p l e R s m args below meth c D cl A H0 n Q cells slots (I t) pc (Lk t) st) :
    ∀ (f : Nat) (t : T), inv f t → GJ p l e R s m args below meth c D cl A H0 n Q cells slots (I t) pc (Lk t) st := by
  intro f
  induction f with
  | zero => exact fun t h => step 0 t h (fun g t2 e _ => absurd e (by omega))
  | succ f ih => exact fun t h => step (f + 1) t h (fun g t2 e h2 => by
      have : f = g := by omega
      subst this
      exact ih t2 h2)
theorem dlS_on {σ : St} {k : Nat} {b : Int32} {t : Nat} (h : (dlS σ k b t).2.2 = true) : dlS σ k b (t + 1) = (s2 (s2 (dlS σ k b t).1 (5 + 2 * k) t (wdA (dlS σ k b t).1 (dlS σ k b t).2.1)) (4 + 2 * k) 2 (s2 (dlS σ k b t).1 (5 + 2 * k) t (wdA (dlS σ k b t).1 (dlS σ k b t).2.1) (4 + 2 * k) 2 + 1), (dlS σ k b t).2.1 + (if wdA (dlS σ k b t).1 (dlS σ k b t).2.1 >>> ((12 : Int32) &&& 31) = 16 then bN (inM (dlS σ k b t).2.1) else lenO (wdA (dlS σ k b t).1 (dlS σ k b t).2.1 >>> ((12 : Int32) &&& 31))), !endO (wdA (dlS σ k b t).1 (dlS σ k b t).2.1 >>> ((12 : Int32) &&& 31))) := by
  show (if (dlS σ k b t).2.2 then _ else _) = _
  rw [if_pos h]
theorem dlS_off {σ : St} {k : Nat} {b : Int32} {t : Nat} (h : (dlS σ k b t).2.2 = false) : ∀ n : Nat, dlS σ k b (t + n) = dlS σ k b t := by
  intro n
  induction n with
  | zero => rfl
  | succ n ih =>
    show (if (dlS σ k b (t + n)).2.2 then _ else dlS σ k b (t + n)) = _
    rw [ih, if_neg (by rw [h]; decide)]
theorem deB_eq {σ : St} {k : Nat} {b : Int32} {q : St × Int32 × Bool} (h : dlS σ k b 12 = q) : deB σ k b = s2 (s2 (s2 q.1 (4 + 2 * k) 3 (q.2.1 - b)) 0 7 (s2 q.1 (4 + 2 * k) 3 (q.2.1 - b) 0 7 + 1)) 0 11 (s2 (s2 q.1 (4 + 2 * k) 3 (q.2.1 - b)) 0 7 (s2 q.1 (4 + 2 * k) 3 (q.2.1 - b) 0 7 + 1) 0 11 + s2 (s2 q.1 (4 + 2 * k) 3 (q.2.1 - b)) 0 7 (s2 q.1 (4 + 2 * k) 3 (q.2.1 - b) 0 7 + 1) (4 + 2 * k) 2) := by
  subst h; rfl
theorem stB_mem {σ : St} {kd : Int32} {i : Nat} (h : stB σ kd i = 0) (hk : kd = 4 ∨ kd = 5) : inM (σ 2 i) = true := by
  unfold stB at h
  rcases hk with rfl | rfl
  · rw [if_neg (by decide), if_neg (by decide), if_neg (by decide)] at h
    cases hz : inM (σ 2 i) with
    | true => rfl
    | false => rw [hz, if_pos ⟨Or.inl rfl, rfl⟩] at h; exact absurd h (by decide)
  · rw [if_neg (by decide), if_neg (by decide), if_neg (by decide)] at h
    cases hz : inM (σ 2 i) with
    | true => rfl
    | false => rw [hz, if_pos ⟨Or.inr rfl, rfl⟩] at h; exact absurd h (by decide)
end
section
theorem k_X_decode : CKV y_X_decode c_X_decode 8 none 2 := ⟨q_257, q_1, q_256, sl_X_decode, ⟨by decide +kernel, by decide +kernel, by decide +kernel⟩⟩
set_option maxHeartbeats 4000000 in
set_option maxRecDepth 100000 in
theorem ct_X_decode {l : Launch} {D : va_G} {cI cB cZ cJ : ClassId} {a : Nat → Nat} {σ : St} {k : Nat} (hk : k < 32) (b : Int32) : GCv l y_X_decode (Cond.code y_X_decode c_X_decode 8 none :: tbW) ({ frames := 2, cells := 0, slots := 0, locals := 42 }) 0 0 D vCl (TY cI cB cZ cJ) [.ref (a 0), .ref (a (4 + 2 * k)), .int b] (bw a cI cB 32 σ) (fun u => u = bw a cI cB 32 (deB σ k b)) := by
  refine gc_body (Qc := gc_Qv D vCl (TY cI cB cZ cJ) (bw a cI cB 32 σ) (fun u => u = bw a cI cB 32 (deB σ k b))) (cc := c_X_decode) (maxL := 8) (ret := none) (by decide) rfl (by simp [Value.category]) (Nat.le_of_ble_eq_true rfl) ?_
  intro p e s m args below meth c F
  have hx := F.1
  have hb := F.2.1
  refine gj_ld (i := 1) (pc2 := 1) rfl (fun _ _ _ h9 => lv_aload_n hx hb d_X_decode_0 rfl h9) ?_
  refine gj_ld (i := 2) (pc2 := 2) rfl (fun _ _ _ h9 => lv_iload_n hx hb d_X_decode_1 rfl h9) ?_
  refine bj_nv F k_B_empty d_X_decode_2 (by decide +kernel) (bw_blk hk) rfl (ct_B_empty hk _) (rmo rfl) rfl rfl (Nat.le_of_ble_eq_true rfl) (Nat.zero_le _) (Nat.zero_le _) rfl (fun u9 e9 => ?_)
  subst e9
  refine gj_ld (i := 2) (pc2 := 6) rfl (fun _ _ _ h9 => lv_iload_n hx hb d_X_decode_5 rfl h9) ?_
  refine gj_st (i := 3) (pc2 := 7) (Nat.le_of_ble_eq_true rfl) rfl (fun _ _ _ _ _ h9 l9 => lv_istore_n hx hb d_X_decode_6 rfl h9 (Nat.le_of_ble_eq_true rfl) l9) ?_
  refine gj_l (pc2 := 8) (fun _ _ _ => lv_iconst (v := 1) hx hb d_X_decode_7 (by decide)) ?_
  refine gj_st (i := 4) (pc2 := 10) (Nat.le_of_ble_eq_true rfl) rfl (fun _ _ _ _ _ h9 l9 => lv_istore hx hb d_X_decode_8 h9 (Nat.le_of_ble_eq_true rfl) l9) ?_
  refine gj_l (pc2 := 11) (fun _ _ _ => lv_iconst (v := 0) hx hb d_X_decode_10 (by decide)) ?_
  refine gj_st (i := 5) (pc2 := 13) (Nat.le_of_ble_eq_true rfl) rfl (fun _ _ _ _ _ h9 l9 => lv_istore hx hb d_X_decode_11 h9 (Nat.le_of_ble_eq_true rfl) l9) ?_
  refine gj_loop 12 (fun t => bw a cI cB 32 (dlS σ k b t).1) (fun t => [.ref (a 0), .ref (a (4 + 2 * k)), .int b, .int (dlS σ k b t).2.1, .int (bN (dlS σ k b t).2.2), .int (nI t)]) (fun t ht ih => ?_)
  refine gj_ld (i := 5) (pc2 := 15) rfl (fun _ _ _ h9 => lv_iload hx hb d_X_decode_13 h9) ?_
  refine gj_l (pc2 := 17) (fun _ _ _ => lv_bipush (v := (12)) hx hb d_X_decode_15 (by decide)) ?_
  refine gj_if (pc2 := 101) (pc3 := 20) (fun _ _ _ => lv_icmp_ge (tgt := 101) hx hb d_X_decode_17 (by decide)) (fun h17 => ?_) (fun h17 => ?_)
  · have ht9 : 12 ≤ t := nI_ge_of h17 (by omega) (by omega)
    have ht8 : t = 12 := by omega
    subst ht8
    have hq : dlS σ k b 12 = dlS σ k b 12 := rfl
    refine gj_ld (i := 1) (pc2 := 102) rfl (fun _ _ _ h9 => lv_aload_n hx hb d_X_decode_101 rfl h9) ?_
    refine gj_ld (i := 3) (pc2 := 103) rfl (fun _ _ _ h9 => lv_iload_n hx hb d_X_decode_102 rfl h9) ?_
    refine gj_ld (i := 2) (pc2 := 104) rfl (fun _ _ _ h9 => lv_iload_n hx hb d_X_decode_103 rfl h9) ?_
    refine gj_l (pc2 := 105) (fun _ _ _ => lv_isub hx hb d_X_decode_104) ?_
    refine bj_bpN F _ 3 hk (by decide) (by decide) d_X_decode_105 (by decide +kernel) rfl ?_
    refine gj_ld (i := 0) (pc2 := 109) rfl (fun _ _ _ h9 => lv_aload_n hx hb d_X_decode_108 rfl h9) ?_
    refine gj_l (pc2 := 110) (fun _ _ _ => lv_dup hx hb d_X_decode_109 rfl) ?_
    refine bj_gi F 7 (by decide) (by decide) d_X_decode_110 q_50 rfl ?_
    refine gj_l (pc2 := 114) (fun _ _ _ => lv_iconst (v := 1) hx hb d_X_decode_113 (by decide)) ?_
    refine gj_l (pc2 := 115) (fun _ _ _ => lv_iadd hx hb d_X_decode_114) ?_
    refine bj_pi F 7 (by decide) (by decide) d_X_decode_115 q_50 rfl ?_
    refine gj_ld (i := 0) (pc2 := 119) rfl (fun _ _ _ h9 => lv_aload_n hx hb d_X_decode_118 rfl h9) ?_
    refine gj_l (pc2 := 120) (fun _ _ _ => lv_dup hx hb d_X_decode_119 rfl) ?_
    refine bj_gi F 11 (by decide) (by decide) d_X_decode_120 q_54 rfl ?_
    refine gj_ld (i := 1) (pc2 := 124) rfl (fun _ _ _ h9 => lv_aload_n hx hb d_X_decode_123 rfl h9) ?_
    refine bj_biN F _ 2 hk (by decide) (by decide) d_X_decode_124 (by decide +kernel) rfl ?_
    refine gj_l (pc2 := 128) (fun _ _ _ => lv_iadd hx hb d_X_decode_127) ?_
    refine bj_pi F 11 (by decide) (by decide) d_X_decode_128 q_54 rfl ?_
    exact gj_vret F d_X_decode_131 (Nat.le_refl _) (Nat.le_refl _) (by rw [deB_eq hq])
  · have hlt : t < 12 := nI_lt_of h17 (by omega)
    refine gj_ld (i := 4) (pc2 := 22) rfl (fun _ _ _ h9 => lv_iload hx hb d_X_decode_20 h9) ?_
    refine gj_if (pc2 := 101) (pc3 := 25) (fun _ _ _ => lv_if_eq (tgt := 101) hx hb d_X_decode_22 (by decide)) (fun h22 => ?_) (fun h22 => ?_)
    · have hq : dlS σ k b 12 = dlS σ k b t := by have := dlS_off (bN_0.mp h22) (12 - t); rwa [show t + (12 - t) = 12 by omega] at this
      refine gj_ld (i := 1) (pc2 := 102) rfl (fun _ _ _ h9 => lv_aload_n hx hb d_X_decode_101 rfl h9) ?_
      refine gj_ld (i := 3) (pc2 := 103) rfl (fun _ _ _ h9 => lv_iload_n hx hb d_X_decode_102 rfl h9) ?_
      refine gj_ld (i := 2) (pc2 := 104) rfl (fun _ _ _ h9 => lv_iload_n hx hb d_X_decode_103 rfl h9) ?_
      refine gj_l (pc2 := 105) (fun _ _ _ => lv_isub hx hb d_X_decode_104) ?_
      refine bj_bpN F _ 3 hk (by decide) (by decide) d_X_decode_105 (by decide +kernel) rfl ?_
      refine gj_ld (i := 0) (pc2 := 109) rfl (fun _ _ _ h9 => lv_aload_n hx hb d_X_decode_108 rfl h9) ?_
      refine gj_l (pc2 := 110) (fun _ _ _ => lv_dup hx hb d_X_decode_109 rfl) ?_
      refine bj_gi F 7 (by decide) (by decide) d_X_decode_110 q_50 rfl ?_
      refine gj_l (pc2 := 114) (fun _ _ _ => lv_iconst (v := 1) hx hb d_X_decode_113 (by decide)) ?_
      refine gj_l (pc2 := 115) (fun _ _ _ => lv_iadd hx hb d_X_decode_114) ?_
      refine bj_pi F 7 (by decide) (by decide) d_X_decode_115 q_50 rfl ?_
      refine gj_ld (i := 0) (pc2 := 119) rfl (fun _ _ _ h9 => lv_aload_n hx hb d_X_decode_118 rfl h9) ?_
      refine gj_l (pc2 := 120) (fun _ _ _ => lv_dup hx hb d_X_decode_119 rfl) ?_
      refine bj_gi F 11 (by decide) (by decide) d_X_decode_120 q_54 rfl ?_
      refine gj_ld (i := 1) (pc2 := 124) rfl (fun _ _ _ h9 => lv_aload_n hx hb d_X_decode_123 rfl h9) ?_
      refine bj_biN F _ 2 hk (by decide) (by decide) d_X_decode_124 (by decide +kernel) rfl ?_
      refine gj_l (pc2 := 128) (fun _ _ _ => lv_iadd hx hb d_X_decode_127) ?_
      refine bj_pi F 11 (by decide) (by decide) d_X_decode_128 q_54 rfl ?_
      exact gj_vret F d_X_decode_131 (Nat.le_refl _) (Nat.le_refl _) (by rw [deB_eq hq])
    · have hop := bN_n0.mp h22
      refine gj_ld (i := 0) (pc2 := 26) rfl (fun _ _ _ h9 => lv_aload_n hx hb d_X_decode_25 rfl h9) ?_
      refine gj_ld (i := 3) (pc2 := 27) rfl (fun _ _ _ h9 => lv_iload_n hx hb d_X_decode_26 rfl h9) ?_
      refine bj_vi F k_X_wordAt d_X_decode_27 q_258 (bw_at (i := 0) (by omega)) rfl (ct_X_wordAt _) (rmo rfl) rfl rfl (Nat.le_of_ble_eq_true rfl) (Nat.zero_le _) (Nat.zero_le _) rfl (fun r9 u9 e9 => ?_)
      obtain ⟨rfl, rfl⟩ := e9
      refine gj_st (i := 6) (pc2 := 32) (Nat.le_of_ble_eq_true rfl) rfl (fun _ _ _ _ _ h9 l9 => lv_istore hx hb d_X_decode_30 h9 (Nat.le_of_ble_eq_true rfl) l9) ?_
      refine gj_ld (i := 6) (pc2 := 34) rfl (fun _ _ _ h9 => lv_iload hx hb d_X_decode_32 h9) ?_
      refine gj_l (pc2 := 36) (fun _ _ _ => lv_bipush (v := (12)) hx hb d_X_decode_34 (by decide)) ?_
      refine gj_l (pc2 := 37) (fun _ _ _ => lv_ishr hx hb d_X_decode_36) ?_
      refine gj_st (i := 7) (pc2 := 39) (Nat.le_of_ble_eq_true rfl) rfl (fun _ _ _ _ _ h9 l9 => lv_istore hx hb d_X_decode_37 h9 (Nat.le_of_ble_eq_true rfl) l9) ?_
      refine gj_ld (i := 1) (pc2 := 40) rfl (fun _ _ _ h9 => lv_aload_n hx hb d_X_decode_39 rfl h9) ?_
      refine bj_bwN F _ hk d_X_decode_40 (by decide +kernel) rfl ?_
      refine gj_ld (i := 5) (pc2 := 45) rfl (fun _ _ _ h9 => lv_iload hx hb d_X_decode_43 h9) ?_
      refine gj_ld (i := 6) (pc2 := 47) rfl (fun _ _ _ h9 => lv_iload hx hb d_X_decode_45 h9) ?_
      refine bj_st F (5 + 2 * k) 12 t (by omega) (fun _ => bw_e_wrd k) (by decide) rfl hlt d_X_decode_47 rfl ?_
      refine gj_ld (i := 1) (pc2 := 49) rfl (fun _ _ _ h9 => lv_aload_n hx hb d_X_decode_48 rfl h9) ?_
      refine gj_l (pc2 := 50) (fun _ _ _ => lv_dup hx hb d_X_decode_49 rfl) ?_
      refine bj_biN F _ 2 hk (by decide) (by decide) d_X_decode_50 (by decide +kernel) rfl ?_
      refine gj_l (pc2 := 54) (fun _ _ _ => lv_iconst (v := 1) hx hb d_X_decode_53 (by decide)) ?_
      refine gj_l (pc2 := 55) (fun _ _ _ => lv_iadd hx hb d_X_decode_54) ?_
      refine bj_bpN F _ 2 hk (by decide) (by decide) d_X_decode_55 (by decide +kernel) rfl ?_
      refine gj_ld (i := 3) (pc2 := 59) rfl (fun _ _ _ h9 => lv_iload_n hx hb d_X_decode_58 rfl h9) ?_
      refine gj_ld (i := 7) (pc2 := 61) rfl (fun _ _ _ h9 => lv_iload hx hb d_X_decode_59 h9) ?_
      refine gj_l (pc2 := 63) (fun _ _ _ => lv_bipush (v := (16)) hx hb d_X_decode_61 (by decide)) ?_
      refine gj_if (pc2 := 73) (pc3 := 66) (fun _ _ _ => lv_icmp_ne (tgt := 73) hx hb d_X_decode_63 (by decide)) (fun h63 => ?_) (fun h63 => ?_)
      · refine gj_ld (i := 7) (pc2 := 75) rfl (fun _ _ _ h9 => lv_iload hx hb d_X_decode_73 h9) ?_
        refine bj_s F k_X_lengthOf d_X_decode_75 q_263 (ct_X_lengthOf _) (rmo rfl) rfl rfl (Nat.le_of_ble_eq_true rfl) (Nat.zero_le _) (Nat.zero_le _) rfl (fun r9 e9 => ?_)
        subst e9
        refine gj_l (pc2 := 79) (fun _ _ _ => lv_iadd hx hb d_X_decode_78) ?_
        refine gj_st (i := 3) (pc2 := 80) (Nat.le_of_ble_eq_true rfl) rfl (fun _ _ _ _ _ h9 l9 => lv_istore_n hx hb d_X_decode_79 rfl h9 (Nat.le_of_ble_eq_true rfl) l9) ?_
        refine gj_ld (i := 7) (pc2 := 82) rfl (fun _ _ _ h9 => lv_iload hx hb d_X_decode_80 h9) ?_
        refine bj_s F k_X_endsBlock d_X_decode_82 q_269 (ct_X_endsBlock _) (rmo rfl) rfl rfl (Nat.le_of_ble_eq_true rfl) (Nat.zero_le _) (Nat.zero_le _) rfl (fun r9 e9 => ?_)
        subst e9
        refine gj_if (pc2 := 92) (pc3 := 88) (fun _ _ _ => lv_if_ne (tgt := 92) hx hb d_X_decode_85 (by decide)) (fun h85 => ?_) (fun h85 => ?_)
        · have he : endO ((wdA (dlS σ k b t).1 (dlS σ k b t).2.1) >>> ((12 : Int32) &&& 31)) = true := bN_n0.mp h85
          refine gj_l (pc2 := 93) (fun _ _ _ => lv_iconst (v := 0) hx hb d_X_decode_92 (by decide)) ?_
          refine gj_st (i := 4) (pc2 := 95) (Nat.le_of_ble_eq_true rfl) rfl (fun _ _ _ _ _ h9 l9 => lv_istore hx hb d_X_decode_93 h9 (Nat.le_of_ble_eq_true rfl) l9) ?_
          refine gj_iinc (pc2 := 98) hx hb d_X_decode_95 (Nat.le_of_ble_eq_true rfl) rfl (nI_1 t) rfl ?_
          refine gj_l (pc2 := 13) (fun _ _ _ => lv_goto (tgt := 13) hx hb d_X_decode_98 (by decide)) ?_
          refine gj_eq (w2 := bw a cI cB 32 (dlS σ k b (t + 1)).1) (L2 := [.ref (a 0), .ref (a (4 + 2 * k)), .int b, .int (dlS σ k b (t + 1)).2.1, .int (bN (dlS σ k b (t + 1)).2.2), .int (nI (t + 1))] ++ [.int (wdA (dlS σ k b t).1 (dlS σ k b t).2.1), .int ((wdA (dlS σ k b t).1 (dlS σ k b t).2.1) >>> ((12 : Int32) &&& 31))]) (by rw [dlS_on hop]) (by rw [dlS_on hop]; simp only [if_neg h63, he]; rfl) rfl (gj_drop (ih hlt))
        · have he : endO ((wdA (dlS σ k b t).1 (dlS σ k b t).2.1) >>> ((12 : Int32) &&& 31)) = false := bN_0.mp h85
          refine gj_l (pc2 := 89) (fun _ _ _ => lv_iconst (v := 1) hx hb d_X_decode_88 (by decide)) ?_
          refine gj_l (pc2 := 93) (fun _ _ _ => lv_goto (tgt := 93) hx hb d_X_decode_89 (by decide)) ?_
          refine gj_st (i := 4) (pc2 := 95) (Nat.le_of_ble_eq_true rfl) rfl (fun _ _ _ _ _ h9 l9 => lv_istore hx hb d_X_decode_93 h9 (Nat.le_of_ble_eq_true rfl) l9) ?_
          refine gj_iinc (pc2 := 98) hx hb d_X_decode_95 (Nat.le_of_ble_eq_true rfl) rfl (nI_1 t) rfl ?_
          refine gj_l (pc2 := 13) (fun _ _ _ => lv_goto (tgt := 13) hx hb d_X_decode_98 (by decide)) ?_
          refine gj_eq (w2 := bw a cI cB 32 (dlS σ k b (t + 1)).1) (L2 := [.ref (a 0), .ref (a (4 + 2 * k)), .int b, .int (dlS σ k b (t + 1)).2.1, .int (bN (dlS σ k b (t + 1)).2.2), .int (nI (t + 1))] ++ [.int (wdA (dlS σ k b t).1 (dlS σ k b t).2.1), .int ((wdA (dlS σ k b t).1 (dlS σ k b t).2.1) >>> ((12 : Int32) &&& 31))]) (by rw [dlS_on hop]) (by rw [dlS_on hop]; simp only [if_neg h63, he]; rfl) rfl (gj_drop (ih hlt))
      · refine gj_ld (i := 3) (pc2 := 67) rfl (fun _ _ _ h9 => lv_iload_n hx hb d_X_decode_66 rfl h9) ?_
        refine bj_s F k_X_bytesOfOutside d_X_decode_67 q_266 (ct_X_bytesOfOutside _) (rmo rfl) rfl rfl (Nat.le_of_ble_eq_true rfl) (Nat.zero_le _) (Nat.zero_le _) rfl (fun r9 e9 => ?_)
        subst e9
        refine gj_l (pc2 := 78) (fun _ _ _ => lv_goto (tgt := 78) hx hb d_X_decode_70 (by decide)) ?_
        refine gj_l (pc2 := 79) (fun _ _ _ => lv_iadd hx hb d_X_decode_78) ?_
        refine gj_st (i := 3) (pc2 := 80) (Nat.le_of_ble_eq_true rfl) rfl (fun _ _ _ _ _ h9 l9 => lv_istore_n hx hb d_X_decode_79 rfl h9 (Nat.le_of_ble_eq_true rfl) l9) ?_
        refine gj_ld (i := 7) (pc2 := 82) rfl (fun _ _ _ h9 => lv_iload hx hb d_X_decode_80 h9) ?_
        refine bj_s F k_X_endsBlock d_X_decode_82 q_269 (ct_X_endsBlock _) (rmo rfl) rfl rfl (Nat.le_of_ble_eq_true rfl) (Nat.zero_le _) (Nat.zero_le _) rfl (fun r9 e9 => ?_)
        subst e9
        refine gj_if (pc2 := 92) (pc3 := 88) (fun _ _ _ => lv_if_ne (tgt := 92) hx hb d_X_decode_85 (by decide)) (fun h85 => ?_) (fun h85 => ?_)
        · have he : endO ((wdA (dlS σ k b t).1 (dlS σ k b t).2.1) >>> ((12 : Int32) &&& 31)) = true := bN_n0.mp h85
          refine gj_l (pc2 := 93) (fun _ _ _ => lv_iconst (v := 0) hx hb d_X_decode_92 (by decide)) ?_
          refine gj_st (i := 4) (pc2 := 95) (Nat.le_of_ble_eq_true rfl) rfl (fun _ _ _ _ _ h9 l9 => lv_istore hx hb d_X_decode_93 h9 (Nat.le_of_ble_eq_true rfl) l9) ?_
          refine gj_iinc (pc2 := 98) hx hb d_X_decode_95 (Nat.le_of_ble_eq_true rfl) rfl (nI_1 t) rfl ?_
          refine gj_l (pc2 := 13) (fun _ _ _ => lv_goto (tgt := 13) hx hb d_X_decode_98 (by decide)) ?_
          refine gj_eq (w2 := bw a cI cB 32 (dlS σ k b (t + 1)).1) (L2 := [.ref (a 0), .ref (a (4 + 2 * k)), .int b, .int (dlS σ k b (t + 1)).2.1, .int (bN (dlS σ k b (t + 1)).2.2), .int (nI (t + 1))] ++ [.int (wdA (dlS σ k b t).1 (dlS σ k b t).2.1), .int ((wdA (dlS σ k b t).1 (dlS σ k b t).2.1) >>> ((12 : Int32) &&& 31))]) (by rw [dlS_on hop]) (by rw [dlS_on hop]; simp only [if_pos h63, he]; rfl) rfl (gj_drop (ih hlt))
        · have he : endO ((wdA (dlS σ k b t).1 (dlS σ k b t).2.1) >>> ((12 : Int32) &&& 31)) = false := bN_0.mp h85
          refine gj_l (pc2 := 89) (fun _ _ _ => lv_iconst (v := 1) hx hb d_X_decode_88 (by decide)) ?_
          refine gj_l (pc2 := 93) (fun _ _ _ => lv_goto (tgt := 93) hx hb d_X_decode_89 (by decide)) ?_
          refine gj_st (i := 4) (pc2 := 95) (Nat.le_of_ble_eq_true rfl) rfl (fun _ _ _ _ _ h9 l9 => lv_istore hx hb d_X_decode_93 h9 (Nat.le_of_ble_eq_true rfl) l9) ?_
          refine gj_iinc (pc2 := 98) hx hb d_X_decode_95 (Nat.le_of_ble_eq_true rfl) rfl (nI_1 t) rfl ?_
          refine gj_l (pc2 := 13) (fun _ _ _ => lv_goto (tgt := 13) hx hb d_X_decode_98 (by decide)) ?_
          refine gj_eq (w2 := bw a cI cB 32 (dlS σ k b (t + 1)).1) (L2 := [.ref (a 0), .ref (a (4 + 2 * k)), .int b, .int (dlS σ k b (t + 1)).2.1, .int (bN (dlS σ k b (t + 1)).2.2), .int (nI (t + 1))] ++ [.int (wdA (dlS σ k b t).1 (dlS σ k b t).2.1), .int ((wdA (dlS σ k b t).1 (dlS σ k b t).2.1) >>> ((12 : Int32) &&& 31))]) (by rw [dlS_on hop]) (by rw [dlS_on hop]; simp only [if_pos h63, he]; rfl) rfl (gj_drop (ih hlt))

theorem k_X_blockAt : CKV y_X_blockAt c_X_blockAt 3 (some (.object "BlockRows$Block")) 1 := ⟨q_249, q_1, q_248, sl_X_blockAt, ⟨by decide +kernel, by decide +kernel, by decide +kernel⟩⟩
set_option maxHeartbeats 4000000 in
set_option maxRecDepth 100000 in
theorem ct_X_blockAt {l : Launch} {D : va_G} {cI cB cZ cJ : ClassId} {a : Nat → Nat} {σ : St} (x : Int32) : GCr l y_X_blockAt (Cond.code y_X_blockAt c_X_blockAt 3 (some (.object "BlockRows$Block")) :: tbW) ({ frames := 3, cells := 0, slots := 0, locals := 69 }) 0 0 D vCl (TY cI cB cZ cJ) [.ref (a 0), .int x] (bw a cI cB 32 σ) (fun r u => r = a (4 + 2 * kAt x) ∧ u = bw a cI cB 32 (blA σ x)) := by
  refine gc_body (Qc := gc_Qr D vCl (TY cI cB cZ cJ) (bw a cI cB 32 σ) (fun r u => r = a (4 + 2 * kAt x) ∧ u = bw a cI cB 32 (blA σ x))) (cc := c_X_blockAt) (maxL := 3) (ret := (some (.object "BlockRows$Block"))) (by decide) rfl (by simp [Value.category]) (Nat.le_of_ble_eq_true rfl) ?_
  intro p e s m args below meth c F
  have hx := F.1
  have hb := F.2.1
  refine gj_ld (i := 0) (pc2 := 1) rfl (fun _ _ _ h9 => lv_aload_n hx hb d_X_blockAt_0 rfl h9) ?_
  refine bj_gr F 2 (by decide) d_X_blockAt_1 q_45 rfl ?_
  refine gj_ld (i := 1) (pc2 := 5) rfl (fun _ _ _ h9 => lv_iload_n hx hb d_X_blockAt_4 rfl h9) ?_
  refine gj_l (pc2 := 7) (fun _ _ _ => lv_bipush (v := (31)) hx hb d_X_blockAt_5 (by decide)) ?_
  refine gj_l (pc2 := 8) (fun _ _ _ => lv_iand hx hb d_X_blockAt_7) ?_
  refine bj_blk F (kAt x) (kAt_eq x) (kAt_lt x) d_X_blockAt_8 rfl ?_
  refine gj_st (i := 2) (pc2 := 10) (Nat.le_of_ble_eq_true rfl) rfl (fun _ _ _ _ _ h9 l9 => lv_astore_n hx hb d_X_blockAt_9 rfl h9 (Nat.le_of_ble_eq_true rfl) l9) ?_
  refine gj_ld (i := 2) (pc2 := 11) rfl (fun _ _ _ h9 => lv_aload_n hx hb d_X_blockAt_10 rfl h9) ?_
  refine gj_ld (i := 1) (pc2 := 12) rfl (fun _ _ _ h9 => lv_iload_n hx hb d_X_blockAt_11 rfl h9) ?_
  refine bj_ni F k_B_beginsAt d_X_blockAt_12 (by decide +kernel) (bw_blk (kAt_lt x)) rfl (ct_B_beginsAt (kAt_lt x) _) (rmo rfl) rfl rfl (Nat.le_of_ble_eq_true rfl) (Nat.zero_le _) (Nat.zero_le _) rfl (fun r9 u9 e9 => ?_)
  obtain ⟨rfl, rfl⟩ := e9
  refine gj_if (pc2 := 31) (pc3 := 18) (fun _ _ _ => lv_if_eq (tgt := 31) hx hb d_X_blockAt_15 (by decide)) (fun h15 => ?_) (fun h15 => ?_)
  · refine gj_ld (i := 0) (pc2 := 32) rfl (fun _ _ _ h9 => lv_aload_n hx hb d_X_blockAt_31 rfl h9) ?_
    refine gj_ld (i := 2) (pc2 := 33) rfl (fun _ _ _ h9 => lv_aload_n hx hb d_X_blockAt_32 rfl h9) ?_
    refine gj_ld (i := 1) (pc2 := 34) rfl (fun _ _ _ h9 => lv_iload_n hx hb d_X_blockAt_33 rfl h9) ?_
    refine bj_vv F k_X_decode d_X_blockAt_34 q_254 (bw_at (i := 0) (by omega)) rfl (ct_X_decode (kAt_lt x) _) (rmo rfl) rfl rfl (Nat.le_of_ble_eq_true rfl) (Nat.zero_le _) (Nat.zero_le _) rfl (fun u9 e9 => ?_)
    subst e9
    refine gj_ld (i := 2) (pc2 := 38) rfl (fun _ _ _ h9 => lv_aload_n hx hb d_X_blockAt_37 rfl h9) ?_
    exact gj_aret F d_X_blockAt_38 (Nat.le_refl _) (Nat.le_refl _) ⟨rfl, by first | rw [blA, if_pos (bN_n0.mp h15)] | rw [blA, if_neg (by rw [bN_0.mp h15]; decide)]⟩
  · refine gj_ld (i := 0) (pc2 := 19) rfl (fun _ _ _ h9 => lv_aload_n hx hb d_X_blockAt_18 rfl h9) ?_
    refine gj_l (pc2 := 20) (fun _ _ _ => lv_dup hx hb d_X_blockAt_19 rfl) ?_
    refine bj_gi F 8 (by decide) (by decide) d_X_blockAt_20 q_51 rfl ?_
    refine gj_l (pc2 := 24) (fun _ _ _ => lv_iconst (v := 1) hx hb d_X_blockAt_23 (by decide)) ?_
    refine gj_l (pc2 := 25) (fun _ _ _ => lv_iadd hx hb d_X_blockAt_24) ?_
    refine bj_pi F 8 (by decide) (by decide) d_X_blockAt_25 q_51 rfl ?_
    refine gj_l (pc2 := 37) (fun _ _ _ => lv_goto (tgt := 37) hx hb d_X_blockAt_28 (by decide)) ?_
    refine gj_ld (i := 2) (pc2 := 38) rfl (fun _ _ _ h9 => lv_aload_n hx hb d_X_blockAt_37 rfl h9) ?_
    exact gj_aret F d_X_blockAt_38 (Nat.le_refl _) (Nat.le_refl _) ⟨rfl, by first | rw [blA, if_pos (bN_n0.mp h15)] | rw [blA, if_neg (by rw [bN_0.mp h15]; decide)]⟩
end
section
theorem k_X_perform : CKV y_X_perform c_X_perform 6 none 3 := ⟨q_283, q_1, q_282, sl_X_perform, ⟨by decide +kernel, by decide +kernel, by decide +kernel⟩⟩
set_option maxHeartbeats 4000000 in
set_option maxRecDepth 100000 in
theorem ct_X_perform {l : Launch} {D : va_G} {cI cB cZ cJ : ClassId} {a : Nat → Nat} {σ : St} (kd lo se : Int32) (hm : kd = 4 ∨ kd = 5 → inM (σ 2 (lo3 se)) = true) : GCv l y_X_perform (Cond.code y_X_perform c_X_perform 6 none :: tbW) ({ frames := 3, cells := 0, slots := 0, locals := 65 }) 0 0 D vCl (TY cI cB cZ cJ) [.ref (a 0), .int kd, .int lo, .int se] (bw a cI cB 32 σ) (fun u => u = bw a cI cB 32 (pfM σ kd lo se)) := by
  refine gc_body (Qc := gc_Qv D vCl (TY cI cB cZ cJ) (bw a cI cB 32 σ) (fun u => u = bw a cI cB 32 (pfM σ kd lo se))) (cc := c_X_perform) (maxL := 6) (ret := none) (by decide) rfl (by simp [Value.category]) (Nat.le_of_ble_eq_true rfl) ?_
  intro p e s m args below meth c F
  have hx := F.1
  have hb := F.2.1
  refine gj_ld (i := 2) (pc2 := 1) rfl (fun _ _ _ h9 => lv_iload_n hx hb d_X_perform_0 rfl h9) ?_
  refine gj_l (pc2 := 3) (fun _ _ _ => lv_bipush (v := (7)) hx hb d_X_perform_1 (by decide)) ?_
  refine gj_l (pc2 := 4) (fun _ _ _ => lv_iand hx hb d_X_perform_3) ?_
  refine gj_st (i := 4) (pc2 := 6) (Nat.le_of_ble_eq_true rfl) rfl (fun _ _ _ _ _ h9 l9 => lv_istore hx hb d_X_perform_4 h9 (Nat.le_of_ble_eq_true rfl) l9) ?_
  refine gj_ld (i := 3) (pc2 := 7) rfl (fun _ _ _ h9 => lv_iload_n hx hb d_X_perform_6 rfl h9) ?_
  refine gj_l (pc2 := 9) (fun _ _ _ => lv_bipush (v := (7)) hx hb d_X_perform_7 (by decide)) ?_
  refine gj_l (pc2 := 10) (fun _ _ _ => lv_iand hx hb d_X_perform_9) ?_
  refine gj_st (i := 5) (pc2 := 12) (Nat.le_of_ble_eq_true rfl) rfl (fun _ _ _ _ _ h9 l9 => lv_istore hx hb d_X_perform_10 h9 (Nat.le_of_ble_eq_true rfl) l9) ?_
  refine gj_ld (i := 1) (pc2 := 13) rfl (fun _ _ _ h9 => lv_iload_n hx hb d_X_perform_12 rfl h9) ?_
  by_cases h13_1 : kd = 1
  · rw [h13_1]
    refine gj_l (pc2 := 72) (fun _ _ _ => lv_tableIn (tgt := 72) hx hb d_X_perform_13 (by decide) (by decide) rfl (by decide)) ?_
    refine gj_ld (i := 0) (pc2 := 73) rfl (fun _ _ _ h9 => lv_aload_n hx hb d_X_perform_72 rfl h9) ?_
    refine bj_gr F 1 (by decide) d_X_perform_73 q_44 rfl ?_
    refine gj_ld (i := 4) (pc2 := 78) rfl (fun _ _ _ h9 => lv_iload hx hb d_X_perform_76 h9) ?_
    refine gj_ld (i := 3) (pc2 := 79) rfl (fun _ _ _ h9 => lv_iload_n hx hb d_X_perform_78 rfl h9) ?_
    refine bj_s F k_X_belowZeroToo d_X_perform_79 q_284 (ct_X_belowZeroToo _) (rmo rfl) rfl rfl (Nat.le_of_ble_eq_true rfl) (Nat.zero_le _) (Nat.zero_le _) rfl (fun r9 e9 => ?_)
    subst e9
    refine bj_st F 2 8 (lo3 lo) (by omega) (fun _ => rfl) (by decide) (lo3_eq lo) (lo3_lt lo) d_X_perform_82 rfl ?_
    refine gj_l (pc2 := 239) (fun _ _ _ => lv_goto (tgt := 239) hx hb d_X_perform_83 (by decide)) ?_
    exact gj_vret F d_X_perform_239 (Nat.le_refl _) (Nat.le_refl _) (by first | (simp [pfM, s2_at, h13_1]; done) | (simp [pfM, s2_at, ei, hcl]; done) | (simp [bN_0] at h148; simp [pfM, h148]; done))
  by_cases h13_2 : kd = 2
  · rw [h13_2]
    refine gj_l (pc2 := 206) (fun _ _ _ => lv_tableIn (tgt := 206) hx hb d_X_perform_13 (by decide) (by decide) rfl (by decide)) ?_
    refine gj_ld (i := 0) (pc2 := 207) rfl (fun _ _ _ h9 => lv_aload_n hx hb d_X_perform_206 rfl h9) ?_
    refine gj_ld (i := 1) (pc2 := 208) rfl (fun _ _ _ h9 => lv_iload_n hx hb d_X_perform_207 rfl h9) ?_
    refine gj_ld (i := 0) (pc2 := 209) rfl (fun _ _ _ h9 => lv_aload_n hx hb d_X_perform_208 rfl h9) ?_
    refine bj_gr F 1 (by decide) d_X_perform_209 q_44 rfl ?_
    refine gj_ld (i := 4) (pc2 := 214) rfl (fun _ _ _ h9 => lv_iload hx hb d_X_perform_212 h9) ?_
    refine bj_ld F 2 8 (lo3 lo) (by omega) rfl (by decide) (lo3_eq lo) (lo3_lt lo) d_X_perform_214 rfl ?_
    refine gj_ld (i := 0) (pc2 := 216) rfl (fun _ _ _ h9 => lv_aload_n hx hb d_X_perform_215 rfl h9) ?_
    refine bj_gr F 1 (by decide) d_X_perform_216 q_44 rfl ?_
    refine gj_ld (i := 5) (pc2 := 221) rfl (fun _ _ _ h9 => lv_iload hx hb d_X_perform_219 h9) ?_
    refine bj_ld F 2 8 (lo3 se) (by omega) rfl (by decide) (lo3_eq se) (lo3_lt se) d_X_perform_221 rfl ?_
    refine bj_s F k_X_worked d_X_perform_222 q_299 (ct_X_worked _ _ _) (rmo rfl) rfl rfl (Nat.le_of_ble_eq_true rfl) (Nat.zero_le _) (Nat.zero_le _) rfl (fun r9 e9 => ?_)
    subst e9
    refine bj_pi F 5 (by decide) (by decide) d_X_perform_225 q_48 rfl ?_
    refine gj_ld (i := 0) (pc2 := 229) rfl (fun _ _ _ h9 => lv_aload_n hx hb d_X_perform_228 rfl h9) ?_
    refine bj_gr F 1 (by decide) d_X_perform_229 q_44 rfl ?_
    refine gj_ld (i := 4) (pc2 := 234) rfl (fun _ _ _ h9 => lv_iload hx hb d_X_perform_232 h9) ?_
    refine gj_ld (i := 0) (pc2 := 235) rfl (fun _ _ _ h9 => lv_aload_n hx hb d_X_perform_234 rfl h9) ?_
    refine bj_gi F 5 (by decide) (by decide) d_X_perform_235 q_48 rfl ?_
    refine bj_st F 2 8 (lo3 lo) (by omega) (fun _ => rfl) (by decide) (lo3_eq lo) (lo3_lt lo) d_X_perform_238 rfl ?_
    exact gj_vret F d_X_perform_239 (Nat.le_refl _) (Nat.le_refl _) (by first | (simp [pfM, s2_at, h13_1, h13_2]; done) | (simp [pfM, s2_at, ei, hcl]; done) | (simp [bN_0] at h148; simp [pfM, h148]; done))
  by_cases h13_3 : kd = 3
  · rw [h13_3]
    refine gj_l (pc2 := 206) (fun _ _ _ => lv_tableIn (tgt := 206) hx hb d_X_perform_13 (by decide) (by decide) rfl (by decide)) ?_
    refine gj_ld (i := 0) (pc2 := 207) rfl (fun _ _ _ h9 => lv_aload_n hx hb d_X_perform_206 rfl h9) ?_
    refine gj_ld (i := 1) (pc2 := 208) rfl (fun _ _ _ h9 => lv_iload_n hx hb d_X_perform_207 rfl h9) ?_
    refine gj_ld (i := 0) (pc2 := 209) rfl (fun _ _ _ h9 => lv_aload_n hx hb d_X_perform_208 rfl h9) ?_
    refine bj_gr F 1 (by decide) d_X_perform_209 q_44 rfl ?_
    refine gj_ld (i := 4) (pc2 := 214) rfl (fun _ _ _ h9 => lv_iload hx hb d_X_perform_212 h9) ?_
    refine bj_ld F 2 8 (lo3 lo) (by omega) rfl (by decide) (lo3_eq lo) (lo3_lt lo) d_X_perform_214 rfl ?_
    refine gj_ld (i := 0) (pc2 := 216) rfl (fun _ _ _ h9 => lv_aload_n hx hb d_X_perform_215 rfl h9) ?_
    refine bj_gr F 1 (by decide) d_X_perform_216 q_44 rfl ?_
    refine gj_ld (i := 5) (pc2 := 221) rfl (fun _ _ _ h9 => lv_iload hx hb d_X_perform_219 h9) ?_
    refine bj_ld F 2 8 (lo3 se) (by omega) rfl (by decide) (lo3_eq se) (lo3_lt se) d_X_perform_221 rfl ?_
    refine bj_s F k_X_worked d_X_perform_222 q_299 (ct_X_worked _ _ _) (rmo rfl) rfl rfl (Nat.le_of_ble_eq_true rfl) (Nat.zero_le _) (Nat.zero_le _) rfl (fun r9 e9 => ?_)
    subst e9
    refine bj_pi F 5 (by decide) (by decide) d_X_perform_225 q_48 rfl ?_
    refine gj_ld (i := 0) (pc2 := 229) rfl (fun _ _ _ h9 => lv_aload_n hx hb d_X_perform_228 rfl h9) ?_
    refine bj_gr F 1 (by decide) d_X_perform_229 q_44 rfl ?_
    refine gj_ld (i := 4) (pc2 := 234) rfl (fun _ _ _ h9 => lv_iload hx hb d_X_perform_232 h9) ?_
    refine gj_ld (i := 0) (pc2 := 235) rfl (fun _ _ _ h9 => lv_aload_n hx hb d_X_perform_234 rfl h9) ?_
    refine bj_gi F 5 (by decide) (by decide) d_X_perform_235 q_48 rfl ?_
    refine bj_st F 2 8 (lo3 lo) (by omega) (fun _ => rfl) (by decide) (lo3_eq lo) (lo3_lt lo) d_X_perform_238 rfl ?_
    exact gj_vret F d_X_perform_239 (Nat.le_refl _) (Nat.le_refl _) (by first | (simp [pfM, s2_at, h13_1, h13_2, h13_3]; done) | (simp [pfM, s2_at, ei, hcl]; done) | (simp [bN_0] at h148; simp [pfM, h148]; done))
  by_cases h13_4 : kd = 4
  · rw [h13_4]
    refine gj_l (pc2 := 86) (fun _ _ _ => lv_tableIn (tgt := 86) hx hb d_X_perform_13 (by decide) (by decide) rfl (by decide)) ?_
    obtain ⟨i, hi, ei⟩ := inM_of (hm (by rw [h13_4]; decide))
    have hcl : (nI i).toNatClampNeg = i := nI_clamp (by omega)
    refine gj_ld (i := 0) (pc2 := 87) rfl (fun _ _ _ h9 => lv_aload_n hx hb d_X_perform_86 rfl h9) ?_
    refine bj_gr F 1 (by decide) d_X_perform_87 q_44 rfl ?_
    refine gj_ld (i := 4) (pc2 := 92) rfl (fun _ _ _ h9 => lv_iload hx hb d_X_perform_90 h9) ?_
    refine gj_ld (i := 0) (pc2 := 93) rfl (fun _ _ _ h9 => lv_aload_n hx hb d_X_perform_92 rfl h9) ?_
    refine bj_gr F 0 (by decide) d_X_perform_93 q_43 rfl ?_
    refine gj_ld (i := 0) (pc2 := 97) rfl (fun _ _ _ h9 => lv_aload_n hx hb d_X_perform_96 rfl h9) ?_
    refine bj_gr F 1 (by decide) d_X_perform_97 q_44 rfl ?_
    refine gj_ld (i := 5) (pc2 := 102) rfl (fun _ _ _ h9 => lv_iload hx hb d_X_perform_100 h9) ?_
    refine bj_ld F 2 8 (lo3 se) (by omega) rfl (by decide) (lo3_eq se) (lo3_lt se) d_X_perform_102 rfl ?_
    refine bj_ld F 1 1024 i (by omega) rfl (by decide) ei hi d_X_perform_103 rfl ?_
    refine bj_st F 2 8 (lo3 lo) (by omega) (fun _ => rfl) (by decide) (lo3_eq lo) (lo3_lt lo) d_X_perform_104 rfl ?_
    refine gj_l (pc2 := 239) (fun _ _ _ => lv_goto (tgt := 239) hx hb d_X_perform_105 (by decide)) ?_
    exact gj_vret F d_X_perform_239 (Nat.le_refl _) (Nat.le_refl _) (by first | (simp [pfM, s2_at, h13_1, h13_2, h13_3, h13_4]; done) | (simp [pfM, s2_at, ei, hcl]; done) | (simp [bN_0] at h148; simp [pfM, h148]; done))
  by_cases h13_5 : kd = 5
  · rw [h13_5]
    refine gj_l (pc2 := 108) (fun _ _ _ => lv_tableIn (tgt := 108) hx hb d_X_perform_13 (by decide) (by decide) rfl (by decide)) ?_
    obtain ⟨i, hi, ei⟩ := inM_of (hm (by rw [h13_5]; decide))
    have hcl : (nI i).toNatClampNeg = i := nI_clamp (by omega)
    refine gj_ld (i := 0) (pc2 := 109) rfl (fun _ _ _ h9 => lv_aload_n hx hb d_X_perform_108 rfl h9) ?_
    refine gj_ld (i := 0) (pc2 := 110) rfl (fun _ _ _ h9 => lv_aload_n hx hb d_X_perform_109 rfl h9) ?_
    refine bj_gr F 1 (by decide) d_X_perform_110 q_44 rfl ?_
    refine gj_ld (i := 5) (pc2 := 115) rfl (fun _ _ _ h9 => lv_iload hx hb d_X_perform_113 h9) ?_
    refine bj_ld F 2 8 (lo3 se) (by omega) rfl (by decide) (lo3_eq se) (lo3_lt se) d_X_perform_115 rfl ?_
    refine gj_ld (i := 0) (pc2 := 117) rfl (fun _ _ _ h9 => lv_aload_n hx hb d_X_perform_116 rfl h9) ?_
    refine bj_gr F 1 (by decide) d_X_perform_117 q_44 rfl ?_
    refine gj_ld (i := 4) (pc2 := 122) rfl (fun _ _ _ h9 => lv_iload hx hb d_X_perform_120 h9) ?_
    refine bj_ld F 2 8 (lo3 lo) (by omega) rfl (by decide) (lo3_eq lo) (lo3_lt lo) d_X_perform_122 rfl ?_
    refine gj_l (pc2 := 126) (fun _ _ _ => lv_sipush (v := (255)) hx hb d_X_perform_123 (by decide)) ?_
    refine gj_l (pc2 := 127) (fun _ _ _ => lv_iand hx hb d_X_perform_126) ?_
    rw [ei]
    refine bj_vv F k_X_write d_X_perform_127 q_199 (bw_at (i := 0) (by omega)) rfl (ct_X_write hi _) (rmo rfl) rfl rfl (Nat.le_of_ble_eq_true rfl) (Nat.zero_le _) (Nat.zero_le _) rfl (fun u9 e9 => ?_)
    subst e9
    refine gj_ld (i := 0) (pc2 := 131) rfl (fun _ _ _ h9 => lv_aload_n hx hb d_X_perform_130 rfl h9) ?_
    refine gj_l (pc2 := 132) (fun _ _ _ => lv_dup hx hb d_X_perform_131 rfl) ?_
    refine bj_gi F 10 (by decide) (by decide) d_X_perform_132 q_53 rfl ?_
    refine gj_l (pc2 := 136) (fun _ _ _ => lv_iconst (v := 1) hx hb d_X_perform_135 (by decide)) ?_
    refine gj_l (pc2 := 137) (fun _ _ _ => lv_iadd hx hb d_X_perform_136) ?_
    refine bj_pi F 10 (by decide) (by decide) d_X_perform_137 q_53 rfl ?_
    refine gj_l (pc2 := 239) (fun _ _ _ => lv_goto (tgt := 239) hx hb d_X_perform_140 (by decide)) ?_
    exact gj_vret F d_X_perform_239 (Nat.le_refl _) (Nat.le_refl _) (by first | (simp [pfM, s2_at, h13_1, h13_2, h13_3, h13_4, h13_5]; done) | (simp [pfM, s2_at, ei, hcl]; done) | (simp [bN_0] at h148; simp [pfM, h148]; done))
  by_cases h13_6 : kd = 6
  · rw [h13_6]
    refine gj_l (pc2 := 206) (fun _ _ _ => lv_tableIn (tgt := 206) hx hb d_X_perform_13 (by decide) (by decide) rfl (by decide)) ?_
    refine gj_ld (i := 0) (pc2 := 207) rfl (fun _ _ _ h9 => lv_aload_n hx hb d_X_perform_206 rfl h9) ?_
    refine gj_ld (i := 1) (pc2 := 208) rfl (fun _ _ _ h9 => lv_iload_n hx hb d_X_perform_207 rfl h9) ?_
    refine gj_ld (i := 0) (pc2 := 209) rfl (fun _ _ _ h9 => lv_aload_n hx hb d_X_perform_208 rfl h9) ?_
    refine bj_gr F 1 (by decide) d_X_perform_209 q_44 rfl ?_
    refine gj_ld (i := 4) (pc2 := 214) rfl (fun _ _ _ h9 => lv_iload hx hb d_X_perform_212 h9) ?_
    refine bj_ld F 2 8 (lo3 lo) (by omega) rfl (by decide) (lo3_eq lo) (lo3_lt lo) d_X_perform_214 rfl ?_
    refine gj_ld (i := 0) (pc2 := 216) rfl (fun _ _ _ h9 => lv_aload_n hx hb d_X_perform_215 rfl h9) ?_
    refine bj_gr F 1 (by decide) d_X_perform_216 q_44 rfl ?_
    refine gj_ld (i := 5) (pc2 := 221) rfl (fun _ _ _ h9 => lv_iload hx hb d_X_perform_219 h9) ?_
    refine bj_ld F 2 8 (lo3 se) (by omega) rfl (by decide) (lo3_eq se) (lo3_lt se) d_X_perform_221 rfl ?_
    refine bj_s F k_X_worked d_X_perform_222 q_299 (ct_X_worked _ _ _) (rmo rfl) rfl rfl (Nat.le_of_ble_eq_true rfl) (Nat.zero_le _) (Nat.zero_le _) rfl (fun r9 e9 => ?_)
    subst e9
    refine bj_pi F 5 (by decide) (by decide) d_X_perform_225 q_48 rfl ?_
    refine gj_ld (i := 0) (pc2 := 229) rfl (fun _ _ _ h9 => lv_aload_n hx hb d_X_perform_228 rfl h9) ?_
    refine bj_gr F 1 (by decide) d_X_perform_229 q_44 rfl ?_
    refine gj_ld (i := 4) (pc2 := 234) rfl (fun _ _ _ h9 => lv_iload hx hb d_X_perform_232 h9) ?_
    refine gj_ld (i := 0) (pc2 := 235) rfl (fun _ _ _ h9 => lv_aload_n hx hb d_X_perform_234 rfl h9) ?_
    refine bj_gi F 5 (by decide) (by decide) d_X_perform_235 q_48 rfl ?_
    refine bj_st F 2 8 (lo3 lo) (by omega) (fun _ => rfl) (by decide) (lo3_eq lo) (lo3_lt lo) d_X_perform_238 rfl ?_
    exact gj_vret F d_X_perform_239 (Nat.le_refl _) (Nat.le_refl _) (by first | (simp [pfM, s2_at, h13_1, h13_2, h13_3, h13_4, h13_5, h13_6]; done) | (simp [pfM, s2_at, ei, hcl]; done) | (simp [bN_0] at h148; simp [pfM, h148]; done))
  by_cases h13_7 : kd = 7
  · rw [h13_7]
    refine gj_l (pc2 := 143) (fun _ _ _ => lv_tableIn (tgt := 143) hx hb d_X_perform_13 (by decide) (by decide) rfl (by decide)) ?_
    refine gj_ld (i := 0) (pc2 := 144) rfl (fun _ _ _ h9 => lv_aload_n hx hb d_X_perform_143 rfl h9) ?_
    refine gj_ld (i := 2) (pc2 := 145) rfl (fun _ _ _ h9 => lv_iload_n hx hb d_X_perform_144 rfl h9) ?_
    refine bj_vi F k_X_holds d_X_perform_145 q_287 (bw_at (i := 0) (by omega)) rfl (ct_X_holds _) (rmo rfl) rfl rfl (Nat.le_of_ble_eq_true rfl) (Nat.zero_le _) (Nat.zero_le _) rfl (fun r9 u9 e9 => ?_)
    obtain ⟨rfl, rfl⟩ := e9
    refine gj_if (pc2 := 239) (pc3 := 151) (fun _ _ _ => lv_if_eq (tgt := 239) hx hb d_X_perform_148 (by decide)) (fun h148 => ?_) (fun h148 => ?_)
    · exact gj_vret F d_X_perform_239 (Nat.le_refl _) (Nat.le_refl _) (by first | (simp [pfM, s2_at, h13_1, h13_2, h13_3, h13_4, h13_5, h13_6, h13_7, h148]; done) | (simp [pfM, s2_at, ei, hcl]; done) | (simp [bN_0] at h148; simp [pfM, h148]; done))
    · refine gj_ld (i := 0) (pc2 := 152) rfl (fun _ _ _ h9 => lv_aload_n hx hb d_X_perform_151 rfl h9) ?_
      refine gj_l (pc2 := 153) (fun _ _ _ => lv_dup hx hb d_X_perform_152 rfl) ?_
      refine bj_gi F 3 (by decide) (by decide) d_X_perform_153 q_46 rfl ?_
      refine gj_ld (i := 3) (pc2 := 157) rfl (fun _ _ _ h9 => lv_iload_n hx hb d_X_perform_156 rfl h9) ?_
      refine bj_s F k_X_belowZeroToo d_X_perform_157 q_284 (ct_X_belowZeroToo _) (rmo rfl) rfl rfl (Nat.le_of_ble_eq_true rfl) (Nat.zero_le _) (Nat.zero_le _) rfl (fun r9 e9 => ?_)
      subst e9
      refine gj_l (pc2 := 161) (fun _ _ _ => lv_iadd hx hb d_X_perform_160) ?_
      refine bj_pi F 3 (by decide) (by decide) d_X_perform_161 q_46 rfl ?_
      refine gj_l (pc2 := 239) (fun _ _ _ => lv_goto (tgt := 239) hx hb d_X_perform_164 (by decide)) ?_
      exact gj_vret F d_X_perform_239 (Nat.le_refl _) (Nat.le_refl _) (by first | (simp [pfM, s2_at, h13_1, h13_2, h13_3, h13_4, h13_5, h13_6, h13_7, h148]; done) | (simp [pfM, s2_at, ei, hcl]; done) | (simp [bN_0] at h148; simp [pfM, h148]; done))
  by_cases h13_8 : kd = 8
  · rw [h13_8]
    refine gj_l (pc2 := 167) (fun _ _ _ => lv_tableIn (tgt := 167) hx hb d_X_perform_13 (by decide) (by decide) rfl (by decide)) ?_
    refine gj_ld (i := 0) (pc2 := 168) rfl (fun _ _ _ h9 => lv_aload_n hx hb d_X_perform_167 rfl h9) ?_
    refine bj_gr F 1 (by decide) d_X_perform_168 q_44 rfl ?_
    refine gj_ld (i := 4) (pc2 := 173) rfl (fun _ _ _ h9 => lv_iload hx hb d_X_perform_171 h9) ?_
    refine gj_ld (i := 0) (pc2 := 174) rfl (fun _ _ _ h9 => lv_aload_n hx hb d_X_perform_173 rfl h9) ?_
    refine bj_gr F 1 (by decide) d_X_perform_174 q_44 rfl ?_
    refine gj_ld (i := 5) (pc2 := 179) rfl (fun _ _ _ h9 => lv_iload hx hb d_X_perform_177 h9) ?_
    refine bj_ld F 2 8 (lo3 se) (by omega) rfl (by decide) (lo3_eq se) (lo3_lt se) d_X_perform_179 rfl ?_
    refine bj_st F 2 8 (lo3 lo) (by omega) (fun _ => rfl) (by decide) (lo3_eq lo) (lo3_lt lo) d_X_perform_180 rfl ?_
    refine gj_l (pc2 := 239) (fun _ _ _ => lv_goto (tgt := 239) hx hb d_X_perform_181 (by decide)) ?_
    exact gj_vret F d_X_perform_239 (Nat.le_refl _) (Nat.le_refl _) (by first | (simp [pfM, s2_at, h13_1, h13_2, h13_3, h13_4, h13_5, h13_6, h13_7, h13_8]; done) | (simp [pfM, s2_at, ei, hcl]; done) | (simp [bN_0] at h148; simp [pfM, h148]; done))
  by_cases h13_9 : kd = 9
  · rw [h13_9]
    refine gj_l (pc2 := 206) (fun _ _ _ => lv_tableIn (tgt := 206) hx hb d_X_perform_13 (by decide) (by decide) rfl (by decide)) ?_
    refine gj_ld (i := 0) (pc2 := 207) rfl (fun _ _ _ h9 => lv_aload_n hx hb d_X_perform_206 rfl h9) ?_
    refine gj_ld (i := 1) (pc2 := 208) rfl (fun _ _ _ h9 => lv_iload_n hx hb d_X_perform_207 rfl h9) ?_
    refine gj_ld (i := 0) (pc2 := 209) rfl (fun _ _ _ h9 => lv_aload_n hx hb d_X_perform_208 rfl h9) ?_
    refine bj_gr F 1 (by decide) d_X_perform_209 q_44 rfl ?_
    refine gj_ld (i := 4) (pc2 := 214) rfl (fun _ _ _ h9 => lv_iload hx hb d_X_perform_212 h9) ?_
    refine bj_ld F 2 8 (lo3 lo) (by omega) rfl (by decide) (lo3_eq lo) (lo3_lt lo) d_X_perform_214 rfl ?_
    refine gj_ld (i := 0) (pc2 := 216) rfl (fun _ _ _ h9 => lv_aload_n hx hb d_X_perform_215 rfl h9) ?_
    refine bj_gr F 1 (by decide) d_X_perform_216 q_44 rfl ?_
    refine gj_ld (i := 5) (pc2 := 221) rfl (fun _ _ _ h9 => lv_iload hx hb d_X_perform_219 h9) ?_
    refine bj_ld F 2 8 (lo3 se) (by omega) rfl (by decide) (lo3_eq se) (lo3_lt se) d_X_perform_221 rfl ?_
    refine bj_s F k_X_worked d_X_perform_222 q_299 (ct_X_worked _ _ _) (rmo rfl) rfl rfl (Nat.le_of_ble_eq_true rfl) (Nat.zero_le _) (Nat.zero_le _) rfl (fun r9 e9 => ?_)
    subst e9
    refine bj_pi F 5 (by decide) (by decide) d_X_perform_225 q_48 rfl ?_
    refine gj_ld (i := 0) (pc2 := 229) rfl (fun _ _ _ h9 => lv_aload_n hx hb d_X_perform_228 rfl h9) ?_
    refine bj_gr F 1 (by decide) d_X_perform_229 q_44 rfl ?_
    refine gj_ld (i := 4) (pc2 := 234) rfl (fun _ _ _ h9 => lv_iload hx hb d_X_perform_232 h9) ?_
    refine gj_ld (i := 0) (pc2 := 235) rfl (fun _ _ _ h9 => lv_aload_n hx hb d_X_perform_234 rfl h9) ?_
    refine bj_gi F 5 (by decide) (by decide) d_X_perform_235 q_48 rfl ?_
    refine bj_st F 2 8 (lo3 lo) (by omega) (fun _ => rfl) (by decide) (lo3_eq lo) (lo3_lt lo) d_X_perform_238 rfl ?_
    exact gj_vret F d_X_perform_239 (Nat.le_refl _) (Nat.le_refl _) (by first | (simp [pfM, s2_at, h13_1, h13_2, h13_3, h13_4, h13_5, h13_6, h13_7, h13_8, h13_9]; done) | (simp [pfM, s2_at, ei, hcl]; done) | (simp [bN_0] at h148; simp [pfM, h148]; done))
  by_cases h13_10 : kd = 10
  · rw [h13_10]
    refine gj_l (pc2 := 206) (fun _ _ _ => lv_tableIn (tgt := 206) hx hb d_X_perform_13 (by decide) (by decide) rfl (by decide)) ?_
    refine gj_ld (i := 0) (pc2 := 207) rfl (fun _ _ _ h9 => lv_aload_n hx hb d_X_perform_206 rfl h9) ?_
    refine gj_ld (i := 1) (pc2 := 208) rfl (fun _ _ _ h9 => lv_iload_n hx hb d_X_perform_207 rfl h9) ?_
    refine gj_ld (i := 0) (pc2 := 209) rfl (fun _ _ _ h9 => lv_aload_n hx hb d_X_perform_208 rfl h9) ?_
    refine bj_gr F 1 (by decide) d_X_perform_209 q_44 rfl ?_
    refine gj_ld (i := 4) (pc2 := 214) rfl (fun _ _ _ h9 => lv_iload hx hb d_X_perform_212 h9) ?_
    refine bj_ld F 2 8 (lo3 lo) (by omega) rfl (by decide) (lo3_eq lo) (lo3_lt lo) d_X_perform_214 rfl ?_
    refine gj_ld (i := 0) (pc2 := 216) rfl (fun _ _ _ h9 => lv_aload_n hx hb d_X_perform_215 rfl h9) ?_
    refine bj_gr F 1 (by decide) d_X_perform_216 q_44 rfl ?_
    refine gj_ld (i := 5) (pc2 := 221) rfl (fun _ _ _ h9 => lv_iload hx hb d_X_perform_219 h9) ?_
    refine bj_ld F 2 8 (lo3 se) (by omega) rfl (by decide) (lo3_eq se) (lo3_lt se) d_X_perform_221 rfl ?_
    refine bj_s F k_X_worked d_X_perform_222 q_299 (ct_X_worked _ _ _) (rmo rfl) rfl rfl (Nat.le_of_ble_eq_true rfl) (Nat.zero_le _) (Nat.zero_le _) rfl (fun r9 e9 => ?_)
    subst e9
    refine bj_pi F 5 (by decide) (by decide) d_X_perform_225 q_48 rfl ?_
    refine gj_ld (i := 0) (pc2 := 229) rfl (fun _ _ _ h9 => lv_aload_n hx hb d_X_perform_228 rfl h9) ?_
    refine bj_gr F 1 (by decide) d_X_perform_229 q_44 rfl ?_
    refine gj_ld (i := 4) (pc2 := 234) rfl (fun _ _ _ h9 => lv_iload hx hb d_X_perform_232 h9) ?_
    refine gj_ld (i := 0) (pc2 := 235) rfl (fun _ _ _ h9 => lv_aload_n hx hb d_X_perform_234 rfl h9) ?_
    refine bj_gi F 5 (by decide) (by decide) d_X_perform_235 q_48 rfl ?_
    refine bj_st F 2 8 (lo3 lo) (by omega) (fun _ => rfl) (by decide) (lo3_eq lo) (lo3_lt lo) d_X_perform_238 rfl ?_
    exact gj_vret F d_X_perform_239 (Nat.le_refl _) (Nat.le_refl _) (by first | (simp [pfM, s2_at, h13_1, h13_2, h13_3, h13_4, h13_5, h13_6, h13_7, h13_8, h13_9, h13_10]; done) | (simp [pfM, s2_at, ei, hcl]; done) | (simp [bN_0] at h148; simp [pfM, h148]; done))
  by_cases h13_11 : kd = 11
  · rw [h13_11]
    refine gj_l (pc2 := 184) (fun _ _ _ => lv_tableIn (tgt := 184) hx hb d_X_perform_13 (by decide) (by decide) rfl (by decide)) ?_
    refine gj_ld (i := 0) (pc2 := 185) rfl (fun _ _ _ h9 => lv_aload_n hx hb d_X_perform_184 rfl h9) ?_
    refine gj_ld (i := 0) (pc2 := 186) rfl (fun _ _ _ h9 => lv_aload_n hx hb d_X_perform_185 rfl h9) ?_
    refine bj_gr F 1 (by decide) d_X_perform_186 q_44 rfl ?_
    refine gj_ld (i := 4) (pc2 := 191) rfl (fun _ _ _ h9 => lv_iload hx hb d_X_perform_189 h9) ?_
    refine bj_ld F 2 8 (lo3 lo) (by omega) rfl (by decide) (lo3_eq lo) (lo3_lt lo) d_X_perform_191 rfl ?_
    refine gj_ld (i := 0) (pc2 := 193) rfl (fun _ _ _ h9 => lv_aload_n hx hb d_X_perform_192 rfl h9) ?_
    refine bj_gr F 1 (by decide) d_X_perform_193 q_44 rfl ?_
    refine gj_ld (i := 5) (pc2 := 198) rfl (fun _ _ _ h9 => lv_iload hx hb d_X_perform_196 h9) ?_
    refine bj_ld F 2 8 (lo3 se) (by omega) rfl (by decide) (lo3_eq se) (lo3_lt se) d_X_perform_198 rfl ?_
    refine gj_l (pc2 := 200) (fun _ _ _ => lv_isub hx hb d_X_perform_199) ?_
    refine bj_pi F 5 (by decide) (by decide) d_X_perform_200 q_48 rfl ?_
    refine gj_l (pc2 := 239) (fun _ _ _ => lv_goto (tgt := 239) hx hb d_X_perform_203 (by decide)) ?_
    exact gj_vret F d_X_perform_239 (Nat.le_refl _) (Nat.le_refl _) (by first | (simp [pfM, s2_at, h13_1, h13_2, h13_3, h13_4, h13_5, h13_6, h13_7, h13_8, h13_9, h13_10, h13_11]; done) | (simp [pfM, s2_at, ei, hcl]; done) | (simp [bN_0] at h148; simp [pfM, h148]; done))
  have hsw : (kd).toInt < 1 ∨ 11 < (kd).toInt := by
    by_cases z : (kd).toInt < 1
    · exact Or.inl z
    by_cases z2 : 11 < (kd).toInt
    · exact Or.inr z2
    exfalso
    rcases (show (kd).toInt = 1 ∨ (kd).toInt = 2 ∨ (kd).toInt = 3 ∨ (kd).toInt = 4 ∨ (kd).toInt = 5 ∨ (kd).toInt = 6 ∨ (kd).toInt = 7 ∨ (kd).toInt = 8 ∨ (kd).toInt = 9 ∨ (kd).toInt = 10 ∨ (kd).toInt = 11 by omega) with z3 | z3 | z3 | z3 | z3 | z3 | z3 | z3 | z3 | z3 | z3
    · exact h13_1 (Int32.toInt_inj.mp (z3.trans (by decide)))
    · exact h13_2 (Int32.toInt_inj.mp (z3.trans (by decide)))
    · exact h13_3 (Int32.toInt_inj.mp (z3.trans (by decide)))
    · exact h13_4 (Int32.toInt_inj.mp (z3.trans (by decide)))
    · exact h13_5 (Int32.toInt_inj.mp (z3.trans (by decide)))
    · exact h13_6 (Int32.toInt_inj.mp (z3.trans (by decide)))
    · exact h13_7 (Int32.toInt_inj.mp (z3.trans (by decide)))
    · exact h13_8 (Int32.toInt_inj.mp (z3.trans (by decide)))
    · exact h13_9 (Int32.toInt_inj.mp (z3.trans (by decide)))
    · exact h13_10 (Int32.toInt_inj.mp (z3.trans (by decide)))
    · exact h13_11 (Int32.toInt_inj.mp (z3.trans (by decide)))
  refine gj_l (pc2 := 206) (fun _ _ _ => lv_tableOut (tgt := 206) hx hb d_X_perform_13 hsw (by decide)) ?_
  refine gj_ld (i := 0) (pc2 := 207) rfl (fun _ _ _ h9 => lv_aload_n hx hb d_X_perform_206 rfl h9) ?_
  refine gj_ld (i := 1) (pc2 := 208) rfl (fun _ _ _ h9 => lv_iload_n hx hb d_X_perform_207 rfl h9) ?_
  refine gj_ld (i := 0) (pc2 := 209) rfl (fun _ _ _ h9 => lv_aload_n hx hb d_X_perform_208 rfl h9) ?_
  refine bj_gr F 1 (by decide) d_X_perform_209 q_44 rfl ?_
  refine gj_ld (i := 4) (pc2 := 214) rfl (fun _ _ _ h9 => lv_iload hx hb d_X_perform_212 h9) ?_
  refine bj_ld F 2 8 (lo3 lo) (by omega) rfl (by decide) (lo3_eq lo) (lo3_lt lo) d_X_perform_214 rfl ?_
  refine gj_ld (i := 0) (pc2 := 216) rfl (fun _ _ _ h9 => lv_aload_n hx hb d_X_perform_215 rfl h9) ?_
  refine bj_gr F 1 (by decide) d_X_perform_216 q_44 rfl ?_
  refine gj_ld (i := 5) (pc2 := 221) rfl (fun _ _ _ h9 => lv_iload hx hb d_X_perform_219 h9) ?_
  refine bj_ld F 2 8 (lo3 se) (by omega) rfl (by decide) (lo3_eq se) (lo3_lt se) d_X_perform_221 rfl ?_
  refine bj_s F k_X_worked d_X_perform_222 q_299 (ct_X_worked _ _ _) (rmo rfl) rfl rfl (Nat.le_of_ble_eq_true rfl) (Nat.zero_le _) (Nat.zero_le _) rfl (fun r9 e9 => ?_)
  subst e9
  refine bj_pi F 5 (by decide) (by decide) d_X_perform_225 q_48 rfl ?_
  refine gj_ld (i := 0) (pc2 := 229) rfl (fun _ _ _ h9 => lv_aload_n hx hb d_X_perform_228 rfl h9) ?_
  refine bj_gr F 1 (by decide) d_X_perform_229 q_44 rfl ?_
  refine gj_ld (i := 4) (pc2 := 234) rfl (fun _ _ _ h9 => lv_iload hx hb d_X_perform_232 h9) ?_
  refine gj_ld (i := 0) (pc2 := 235) rfl (fun _ _ _ h9 => lv_aload_n hx hb d_X_perform_234 rfl h9) ?_
  refine bj_gi F 5 (by decide) (by decide) d_X_perform_235 q_48 rfl ?_
  refine bj_st F 2 8 (lo3 lo) (by omega) (fun _ => rfl) (by decide) (lo3_eq lo) (lo3_lt lo) d_X_perform_238 rfl ?_
  exact gj_vret F d_X_perform_239 (Nat.le_refl _) (Nat.le_refl _) (by first | (simp [pfM, s2_at, h13_1, h13_2, h13_3, h13_4, h13_5, h13_6, h13_7, h13_8, h13_9, h13_10, h13_11]; done) | (simp [pfM, s2_at, ei, hcl]; done) | (simp [bN_0] at h148; simp [pfM, h148]; done))

theorem k_X_doWord : CKV y_X_doWord c_X_doWord 5 (some .boolean) 1 := ⟨q_275, q_1, q_274, sl_X_doWord, ⟨by decide +kernel, by decide +kernel, by decide +kernel⟩⟩
set_option maxHeartbeats 4000000 in
set_option maxRecDepth 100000 in
theorem ct_X_doWord {l : Launch} {D : va_G} {cI cB cZ cJ : ClassId} {a : Nat → Nat} {σ : St} (wd : Int32) : GCi l y_X_doWord (Cond.code y_X_doWord c_X_doWord 5 (some .boolean) :: tbW) ({ frames := 4, cells := 0, slots := 0, locals := 90 }) 0 0 D vCl (TY cI cB cZ cJ) [.ref (a 0), .int wd] (bw a cI cB 32 σ) (fun r u => r = bN (dwB σ wd) ∧ u = bw a cI cB 32 (dwO σ wd)) := by
  refine gc_body (Qc := gc_Qi D vCl (TY cI cB cZ cJ) (bw a cI cB 32 σ) (fun r u => r = bN (dwB σ wd) ∧ u = bw a cI cB 32 (dwO σ wd))) (cc := c_X_doWord) (maxL := 5) (ret := (some .boolean)) (by decide) rfl (by simp [Value.category]) (Nat.le_of_ble_eq_true rfl) ?_
  intro p e s m args below meth c F
  have hx := F.1
  have hb := F.2.1
  refine gj_ld (i := 1) (pc2 := 1) rfl (fun _ _ _ h9 => lv_iload_n hx hb d_X_doWord_0 rfl h9) ?_
  refine gj_l (pc2 := 3) (fun _ _ _ => lv_bipush (v := (12)) hx hb d_X_doWord_1 (by decide)) ?_
  refine gj_l (pc2 := 4) (fun _ _ _ => lv_ishr hx hb d_X_doWord_3) ?_
  refine gj_st (i := 2) (pc2 := 5) (Nat.le_of_ble_eq_true rfl) rfl (fun _ _ _ _ _ h9 l9 => lv_istore_n hx hb d_X_doWord_4 rfl h9 (Nat.le_of_ble_eq_true rfl) l9) ?_
  refine gj_ld (i := 1) (pc2 := 6) rfl (fun _ _ _ h9 => lv_iload_n hx hb d_X_doWord_5 rfl h9) ?_
  refine gj_l (pc2 := 8) (fun _ _ _ => lv_bipush (v := (8)) hx hb d_X_doWord_6 (by decide)) ?_
  refine gj_l (pc2 := 9) (fun _ _ _ => lv_ishr hx hb d_X_doWord_8) ?_
  refine gj_l (pc2 := 11) (fun _ _ _ => lv_bipush (v := (15)) hx hb d_X_doWord_9 (by decide)) ?_
  refine gj_l (pc2 := 12) (fun _ _ _ => lv_iand hx hb d_X_doWord_11) ?_
  refine gj_st (i := 3) (pc2 := 13) (Nat.le_of_ble_eq_true rfl) rfl (fun _ _ _ _ _ h9 l9 => lv_istore_n hx hb d_X_doWord_12 rfl h9 (Nat.le_of_ble_eq_true rfl) l9) ?_
  refine gj_ld (i := 1) (pc2 := 14) rfl (fun _ _ _ h9 => lv_iload_n hx hb d_X_doWord_13 rfl h9) ?_
  refine gj_l (pc2 := 17) (fun _ _ _ => lv_sipush (v := (255)) hx hb d_X_doWord_14 (by decide)) ?_
  refine gj_l (pc2 := 18) (fun _ _ _ => lv_iand hx hb d_X_doWord_17) ?_
  refine gj_st (i := 4) (pc2 := 20) (Nat.le_of_ble_eq_true rfl) rfl (fun _ _ _ _ _ h9 l9 => lv_istore hx hb d_X_doWord_18 h9 (Nat.le_of_ble_eq_true rfl) l9) ?_
  refine gj_ld (i := 0) (pc2 := 21) rfl (fun _ _ _ h9 => lv_aload_n hx hb d_X_doWord_20 rfl h9) ?_
  refine gj_ld (i := 0) (pc2 := 22) rfl (fun _ _ _ h9 => lv_aload_n hx hb d_X_doWord_21 rfl h9) ?_
  refine gj_ld (i := 2) (pc2 := 23) rfl (fun _ _ _ h9 => lv_iload_n hx hb d_X_doWord_22 rfl h9) ?_
  refine gj_ld (i := 4) (pc2 := 25) rfl (fun _ _ _ h9 => lv_iload hx hb d_X_doWord_23 h9) ?_
  refine gj_l (pc2 := 27) (fun _ _ _ => lv_bipush (v := (7)) hx hb d_X_doWord_25 (by decide)) ?_
  refine gj_l (pc2 := 28) (fun _ _ _ => lv_iand hx hb d_X_doWord_27) ?_
  rw [lo3_eq]
  refine bj_vi F k_X_stateBefore d_X_doWord_28 q_276 (bw_at (i := 0) (by omega)) rfl (ct_X_stateBefore _ (lo3_lt _)) (rmo rfl) rfl rfl (Nat.le_of_ble_eq_true rfl) (Nat.zero_le _) (Nat.zero_le _) rfl (fun r9 u9 e9 => ?_)
  obtain ⟨rfl, rfl⟩ := e9
  refine bj_pi F 4 (by decide) (by decide) d_X_doWord_31 q_47 rfl ?_
  refine gj_ld (i := 0) (pc2 := 35) rfl (fun _ _ _ h9 => lv_aload_n hx hb d_X_doWord_34 rfl h9) ?_
  refine bj_gi F 4 (by decide) (by decide) d_X_doWord_35 q_47 rfl ?_
  refine gj_if (pc2 := 43) (pc3 := 41) (fun _ _ _ => lv_if_eq (tgt := 43) hx hb d_X_doWord_38 (by decide)) (fun h38 => ?_) (fun h38 => ?_)
  · rw [s2_at] at h38
    have hB : dwB σ wd = true := decide_eq_true h38
    refine gj_ld (i := 0) (pc2 := 44) rfl (fun _ _ _ h9 => lv_aload_n hx hb d_X_doWord_43 rfl h9) ?_
    refine gj_l (pc2 := 45) (fun _ _ _ => lv_dup hx hb d_X_doWord_44 rfl) ?_
    refine bj_gi F 3 (by decide) (by decide) d_X_doWord_45 q_46 rfl ?_
    refine gj_ld (i := 2) (pc2 := 49) rfl (fun _ _ _ h9 => lv_iload_n hx hb d_X_doWord_48 rfl h9) ?_
    refine bj_s F k_X_lengthOf d_X_doWord_49 q_263 (ct_X_lengthOf _) (rmo rfl) rfl rfl (Nat.le_of_ble_eq_true rfl) (Nat.zero_le _) (Nat.zero_le _) rfl (fun r9 e9 => ?_)
    subst e9
    refine gj_l (pc2 := 53) (fun _ _ _ => lv_iadd hx hb d_X_doWord_52) ?_
    refine bj_pi F 3 (by decide) (by decide) d_X_doWord_53 q_46 rfl ?_
    refine gj_ld (i := 0) (pc2 := 57) rfl (fun _ _ _ h9 => lv_aload_n hx hb d_X_doWord_56 rfl h9) ?_
    refine gj_ld (i := 2) (pc2 := 58) rfl (fun _ _ _ h9 => lv_iload_n hx hb d_X_doWord_57 rfl h9) ?_
    refine gj_ld (i := 3) (pc2 := 59) rfl (fun _ _ _ h9 => lv_iload_n hx hb d_X_doWord_58 rfl h9) ?_
    refine gj_ld (i := 4) (pc2 := 61) rfl (fun _ _ _ h9 => lv_iload hx hb d_X_doWord_59 h9) ?_
    refine bj_vv F k_X_perform d_X_doWord_61 q_280 (bw_at (i := 0) (by omega)) rfl (ct_X_perform _ _ _ (fun h9 => stB_mem h38 h9)) (rmo rfl) rfl rfl (Nat.le_of_ble_eq_true rfl) (Nat.zero_le _) (Nat.zero_le _) rfl (fun u9 e9 => ?_)
    subst e9
    refine gj_ld (i := 0) (pc2 := 65) rfl (fun _ _ _ h9 => lv_aload_n hx hb d_X_doWord_64 rfl h9) ?_
    refine gj_l (pc2 := 66) (fun _ _ _ => lv_dup hx hb d_X_doWord_65 rfl) ?_
    refine bj_gi F 6 (by decide) (by decide) d_X_doWord_66 q_49 rfl ?_
    refine gj_l (pc2 := 70) (fun _ _ _ => lv_iconst (v := 1) hx hb d_X_doWord_69 (by decide)) ?_
    refine gj_l (pc2 := 71) (fun _ _ _ => lv_iadd hx hb d_X_doWord_70) ?_
    refine bj_pi F 6 (by decide) (by decide) d_X_doWord_71 q_49 rfl ?_
    refine gj_l (pc2 := 75) (fun _ _ _ => lv_iconst (v := 1) hx hb d_X_doWord_74 (by decide)) ?_
    exact gj_zret F d_X_doWord_75 (by first | rfl | exact bN_z _ | decide) (Nat.le_refl _) (Nat.le_refl _) ⟨by rw [hB]; rfl, by unfold dwO; rw [hB]; rfl⟩
  · rw [s2_at] at h38
    have hB : dwB σ wd = false := decide_eq_false h38
    refine gj_l (pc2 := 42) (fun _ _ _ => lv_iconst (v := 0) hx hb d_X_doWord_41 (by decide)) ?_
    exact gj_zret F d_X_doWord_42 (by first | rfl | exact bN_z _ | decide) (Nat.le_refl _) (Nat.le_refl _) ⟨by rw [hB]; rfl, by unfold dwO; rw [hB]; rfl⟩
end
section
/-! throw new E("text"), over the judgement -/
abbrev xIo : String := "java/lang/IndexOutOfBoundsException"
abbrev xIa : String := "java/lang/IllegalArgumentException"
abbrev xNm : List String := ["java/lang/RuntimeException", "java/lang/Exception"]
theorem xh_Io1 : ∀ w ∈ (vx_atS rX 41 xIo xNm).filter goodWord, w ∈ tbW := by decide +kernel
theorem xh_Io2 : ∀ w ∈ (vx_atS rX 41 xIo xNm).filter (fun w => !goodWord w), w ∈ ev_N := by decide +kernel
theorem xh_Io3 : ∀ w ∈ Cond.classLink rX 37 xIo :: Cond.initialized xIo :: vx_atS rX 41 xIo xNm, vx_ot w = true := by decide +kernel
theorem xh_Ia1 : ∀ w ∈ (vx_atS rX 48 xIa xNm).filter goodWord, w ∈ tbW := by decide +kernel
theorem xh_Ia2 : ∀ w ∈ (vx_atS rX 48 xIa xNm).filter (fun w => !goodWord w), w ∈ ev_N := by decide +kernel
theorem xh_Ia3 : ∀ w ∈ Cond.classLink rX 44 xIa :: Cond.initialized xIa :: vx_atS rX 48 xIa xNm, vx_ot w = true := by decide +kernel
theorem xh_fit : Bundle.fit xIo = true ∧ Bundle.fit xIa = true ∧ ∀ n ∈ xNm, Bundle.fit n = true := by decide +kernel
theorem ev_use {w : Cond} (hk : ev_k w = true) {A : Array Value} {U : State} (h : va_Nw w U) : w.before A U = true := by
  cases w with
  | methodLinkNest a i x h9 => exact va_Nw.use rfl h
  | fieldLinkNest a i b n d h9 => exact va_Nw.use rfl h
  | arrayOver t =>
    cases t with
    | object C => exact va_AO.use h
    | _ => cases hk
  | castable a b => exact h
  | declares x => exact va_Nw.use rfl h
  | _ => cases hk
section GXT
variable {p : Program} {l : Launch} {e : Env} {R : Room} {s : State} {m : MethodId} {args : Array Value} {below : List Frame} {meth : Method} {c : Code} {cells slots mc ms : Nat}
variable {D : va_G} {n pc : Nat} {w w0 : va_W} {L rest : List Value} {cc : ByteArray} {y : MethodName} {c0 : Cond} {ret : Option FieldType} {cI cB cZ cJ : ClassId}
theorem gx_throw {post : Int32 → va_W → Prop} {px : String → va_W → Prop} {cls text : String} {ik is ic : Nat} (F : GF p s m args meth c cc n ret y (c0 :: tbW) D vCl (TY cI cB cZ cJ) w0) (ht : ∀ x ∈ c.exceptionTable.toList, False) (hl : l.stackTraces = false) (hy : y.cls = rX)
    (hcls : Bundle.fit cls = true) (hk : Cond.classLink rX ik cls ∈ tbW) (hini : Cond.initialized cls ∈ tbW) (hS : (rX, is, text) ∈ ev_S) (h1 : ∀ w ∈ (vx_atS rX ic cls xNm).filter goodWord, w ∈ tbW) (h2 : ∀ w ∈ (vx_atS rX ic cls xNm).filter (fun w => !goodWord w), w ∈ ev_N) (h3 : ∀ w ∈ Cond.classLink rX ik cls :: Cond.initialized cls :: vx_atS rX ic cls xNm, vx_ot w = true)
    (d0 : decode cc pc = .ok (.new ik, 3)) (d3 : decode cc (pc + 3) = .ok (.dup, 1)) (d4 : decode cc (pc + 4) = .ok (.ldc is, 2)) (d6 : decode cc (pc + 6) = .ok (.invokespecial ic, 3)) (d9 : decode cc (pc + 9) = .ok (.athrow, 1))
    (hRf : 5 < R.frames) (hRl : (rest.map fun v => v.category).sum + 82 ≤ R.locals) (hRc : cells + 1 ≤ R.cells) (hRs : slots + 6 ≤ R.slots) (hc : cells + 1 ≤ mc) (hs : slots + 6 ≤ ms) (hp : px cls w) :
    GJ p l e R s m args below meth c D vCl (va_A w0 s.heap.size) s.heap n (vx_MQ below (gc_Qi D vCl (TY cI cB cZ cJ) w0 post s.heap.size) (gc_X D vCl (TY cI cB cZ cJ) w0 px s.heap.size) args s mc ms (va_A w0 s.heap.size)) cells slots w pc L rest := by
  intro ls H locs g1 g2 g3 g4
  have hE := F.E
  obtain ⟨sa, hstr⟩ := hE.2.1 _ hS
  have hown : s.vm.findClass rX = some m.cls := by rw [← hy]; exact F.2.2.2.1
  have hat : ∀ w ∈ vx_atS rX ic cls xNm, w.before args s = true := vx_hat (B := ev_N) (fun w h => F.w (h1 w h)) h2 (fun w h => ev_use (ev_kN w h) (F.N h))
  refine vx_throwS (A := va_A w0 s.heap.size) (sa := sa) (text := text) (names := xNm) F.1 F.2.1 hl hown hcls xh_fit.2.2 (F.w hk) (F.w hini) hstr hat h3 hE.2.2.1 hE.2.2.2 g4 (g1.1.trans F.2.2.1.symm) d0 d3 d4 d6 d9 (fun x hx => (ht x hx).elim) hRf hRl hRc hRs F.2.2.2.2.2.2.1 (fun t hvm hz hk9 => ?_) g4.2.2 hc hs
  refine ⟨(cls, w), hp, ⟨rfl, g2.kept (fun k q hq => hk9 q.1 ((g2 k q hq).lt)), va_K.moved hvm F.K, g3⟩, Nat.le_trans g4.1 hz, fun q h5 h6 => ?_⟩
  rw [hk9 q (Nat.lt_of_lt_of_le h5 g4.1)]
  exact g4.2.1 q h5 h6
end GXT
end
section
theorem k_X_doBlock : CKV y_X_doBlock c_X_doBlock 5 (some .int) 1 := ⟨q_245, q_1, q_244, sl_X_doBlock, ⟨by decide +kernel, by decide +kernel, by decide +kernel⟩⟩
set_option maxHeartbeats 4000000 in
set_option maxRecDepth 100000 in
theorem ct_X_doBlock {l : Launch} {D : va_G} {cI cB cZ cJ : ClassId} {a : Nat → Nat} {σ : St} (most : Int32) : GCi l y_X_doBlock (Cond.code y_X_doBlock c_X_doBlock 5 (some .int) :: tbW) ({ frames := 5, cells := 0, slots := 0, locals := 114 }) 0 0 D vCl (TY cI cB cZ cJ) [.ref (a 0), .int most] (bw a cI cB 32 σ) (fun r u => r = nI (dbO σ most).2 ∧ u = bw a cI cB 32 (dbO σ most).1) := by
  refine gc_body (Qc := gc_Qi D vCl (TY cI cB cZ cJ) (bw a cI cB 32 σ) (fun r u => r = nI (dbO σ most).2 ∧ u = bw a cI cB 32 (dbO σ most).1)) (cc := c_X_doBlock) (maxL := 5) (ret := (some .int)) (by decide) rfl (by simp [Value.category]) (Nat.le_of_ble_eq_true rfl) ?_
  intro p e s m args below meth c F
  have hx := F.1
  have hb := F.2.1
  refine gj_ld (i := 0) (pc2 := 1) rfl (fun _ _ _ h9 => lv_aload_n hx hb d_X_doBlock_0 rfl h9) ?_
  refine gj_ld (i := 0) (pc2 := 2) rfl (fun _ _ _ h9 => lv_aload_n hx hb d_X_doBlock_1 rfl h9) ?_
  refine bj_gi F 3 (by decide) (by decide) d_X_doBlock_2 q_46 rfl ?_
  refine bj_vr F k_X_blockAt d_X_doBlock_5 q_246 (bw_at (i := 0) (by omega)) rfl (ct_X_blockAt _) (rmo rfl) rfl rfl (Nat.le_of_ble_eq_true rfl) (Nat.zero_le _) (Nat.zero_le _) rfl (fun r9 u9 e9 => ?_)
  obtain ⟨rfl, rfl⟩ := e9
  refine gj_st (i := 2) (pc2 := 9) (Nat.le_of_ble_eq_true rfl) rfl (fun _ _ _ _ _ h9 l9 => lv_astore_n hx hb d_X_doBlock_8 rfl h9 (Nat.le_of_ble_eq_true rfl) l9) ?_
  refine gj_l (pc2 := 10) (fun _ _ _ => lv_iconst (v := 0) hx hb d_X_doBlock_9 (by decide)) ?_
  refine gj_st (i := 3) (pc2 := 11) (Nat.le_of_ble_eq_true rfl) rfl (fun _ _ _ _ _ h9 l9 => lv_istore_n hx hb d_X_doBlock_10 rfl h9 (Nat.le_of_ble_eq_true rfl) l9) ?_
  refine gj_l (pc2 := 12) (fun _ _ _ => lv_iconst (v := 0) hx hb d_X_doBlock_11 (by decide)) ?_
  refine gj_st (i := 4) (pc2 := 14) (Nat.le_of_ble_eq_true rfl) rfl (fun _ _ _ _ _ h9 l9 => lv_istore hx hb d_X_doBlock_12 h9 (Nat.le_of_ble_eq_true rfl) l9) ?_
  refine gj_fuel (T := Nat × St) (fun t => bw a cI cB 32 t.2) (fun t => [.ref (a 0), .int most, .ref (a (4 + 2 * (kAt (σ 0 3)))), .int (nI t.1), .int (nI t.1)]) (fun f t => t.1 + f = 12 ∧ dbL most (kAt (σ 0 3)) f t.1 t.2 = dbO σ most) (fun f t hv ih => ?_) 12 (0, blA σ (σ 0 3)) ⟨rfl, rfl⟩
  obtain ⟨w, τ⟩ := t
  obtain ⟨hw, hR⟩ := hv
  dsimp only at hw hR ⊢
  refine gj_ld (i := 4) (pc2 := 16) rfl (fun _ _ _ h9 => lv_iload hx hb d_X_doBlock_14 h9) ?_
  refine gj_l (pc2 := 18) (fun _ _ _ => lv_bipush (v := (12)) hx hb d_X_doBlock_16 (by decide)) ?_
  refine gj_if (pc2 := 61) (pc3 := 21) (fun _ _ _ => lv_icmp_ge (tgt := 61) hx hb d_X_doBlock_18 (by decide)) (fun h18 => ?_) (fun h18 => ?_)
  · have hw9 : 12 ≤ w := nI_ge_of h18 (by omega) (by omega)
    have hf : f = 0 := by omega
    subst hf
    rw [dbL] at hR
    refine gj_ld (i := 3) (pc2 := 62) rfl (fun _ _ _ h9 => lv_iload_n hx hb d_X_doBlock_61 rfl h9) ?_
    exact gj_iret F d_X_doBlock_62 (Nat.le_refl _) (Nat.le_refl _) ⟨by rw [← hR], by rw [← hR]⟩
  · have hlt : w < 12 := nI_lt_of h18 (by omega)
    obtain ⟨g, rfl⟩ : ∃ g, f = g + 1 := ⟨f - 1, by omega⟩
    refine gj_ld (i := 4) (pc2 := 23) rfl (fun _ _ _ h9 => lv_iload hx hb d_X_doBlock_21 h9) ?_
    refine gj_ld (i := 2) (pc2 := 24) rfl (fun _ _ _ h9 => lv_aload_n hx hb d_X_doBlock_23 rfl h9) ?_
    refine bj_biN F _ 2 (kAt_lt _) (by decide) (by decide) d_X_doBlock_24 (by decide +kernel) rfl ?_
    refine gj_if (pc2 := 61) (pc3 := 30) (fun _ _ _ => lv_icmp_ge (tgt := 61) hx hb d_X_doBlock_27 (by decide)) (fun h27 => ?_) (fun h27 => ?_)
    · rw [dbL, if_neg (fun h => absurd h.1 (Int32.not_lt.mpr h27))] at hR
      refine gj_ld (i := 3) (pc2 := 62) rfl (fun _ _ _ h9 => lv_iload_n hx hb d_X_doBlock_61 rfl h9) ?_
      exact gj_iret F d_X_doBlock_62 (Nat.le_refl _) (Nat.le_refl _) ⟨by rw [← hR], by rw [← hR]⟩
    · refine gj_ld (i := 3) (pc2 := 31) rfl (fun _ _ _ h9 => lv_iload_n hx hb d_X_doBlock_30 rfl h9) ?_
      refine gj_ld (i := 1) (pc2 := 32) rfl (fun _ _ _ h9 => lv_iload_n hx hb d_X_doBlock_31 rfl h9) ?_
      refine gj_if (pc2 := 61) (pc3 := 35) (fun _ _ _ => lv_icmp_ge (tgt := 61) hx hb d_X_doBlock_32 (by decide)) (fun h32 => ?_) (fun h32 => ?_)
      · rw [dbL, if_neg (fun h => absurd h.2 (Int32.not_lt.mpr h32))] at hR
        refine gj_ld (i := 3) (pc2 := 62) rfl (fun _ _ _ h9 => lv_iload_n hx hb d_X_doBlock_61 rfl h9) ?_
        exact gj_iret F d_X_doBlock_62 (Nat.le_refl _) (Nat.le_refl _) ⟨by rw [← hR], by rw [← hR]⟩
      · refine gj_ld (i := 0) (pc2 := 36) rfl (fun _ _ _ h9 => lv_aload_n hx hb d_X_doBlock_35 rfl h9) ?_
        refine gj_ld (i := 2) (pc2 := 37) rfl (fun _ _ _ h9 => lv_aload_n hx hb d_X_doBlock_36 rfl h9) ?_
        refine bj_bwN F _ (kAt_lt _) d_X_doBlock_37 (by decide +kernel) rfl ?_
        refine gj_ld (i := 4) (pc2 := 42) rfl (fun _ _ _ h9 => lv_iload hx hb d_X_doBlock_40 h9) ?_
        refine bj_ld F (5 + 2 * (kAt (σ 0 3))) 12 w (by have := kAt_lt (σ 0 3); omega) (bw_e_wrd _) (by decide) rfl hlt d_X_doBlock_42 rfl ?_
        refine bj_vi F k_X_doWord d_X_doBlock_43 q_272 (bw_at (i := 0) (by omega)) rfl (ct_X_doWord _) (rmo rfl) rfl rfl (Nat.le_of_ble_eq_true rfl) (Nat.zero_le _) (Nat.zero_le _) rfl (fun r9 u9 e9 => ?_)
        obtain ⟨rfl, rfl⟩ := e9
        refine gj_if (pc2 := 52) (pc3 := 49) (fun _ _ _ => lv_if_ne (tgt := 52) hx hb d_X_doBlock_46 (by decide)) (fun h46 => ?_) (fun h46 => ?_)
        · have hB := bN_n0.mp h46
          rw [dbL, if_pos ⟨Int32.not_le.mp h27, Int32.not_le.mp h32⟩, if_pos hB] at hR
          refine gj_iinc (pc2 := 55) hx hb d_X_doBlock_52 (Nat.le_of_ble_eq_true rfl) rfl (nI_1 w) rfl ?_
          refine gj_iinc (pc2 := 58) hx hb d_X_doBlock_55 (Nat.le_of_ble_eq_true rfl) rfl (nI_1 w) rfl ?_
          refine gj_l (pc2 := 14) (fun _ _ _ => lv_goto (tgt := 14) hx hb d_X_doBlock_58 (by decide)) ?_
          exact ih g (w + 1, dwO τ (τ (5 + 2 * (kAt (σ 0 3))) w)) rfl ⟨by dsimp only; omega, hR⟩
        · have hB := bN_0.mp h46
          rw [dbL, if_pos ⟨Int32.not_le.mp h27, Int32.not_le.mp h32⟩, if_neg (by rw [hB]; decide)] at hR
          refine gj_l (pc2 := 61) (fun _ _ _ => lv_goto (tgt := 61) hx hb d_X_doBlock_49 (by decide)) ?_
          refine gj_ld (i := 3) (pc2 := 62) rfl (fun _ _ _ h9 => lv_iload_n hx hb d_X_doBlock_61 rfl h9) ?_
          exact gj_iret F d_X_doBlock_62 (Nat.le_refl _) (Nat.le_refl _) ⟨by rw [← hR], by rw [← hR]⟩
end
section
/-! what the public methods answer -/
def by4 (v : Int32) (n : Nat) : Int32 := (v.toUInt32 >>> ((24 - 8 * nI n).toUInt32 &&& Int32.toUInt32 31)).toInt32 &&& 255
def p4L (σ : St) (i : Nat) (v : Int32) : Nat → St
  | 0 => σ
  | n + 1 => wrB (p4L σ i v n) (i + n) (by4 v n)
def p4N (i : Nat) : Nat := min 4 (1024 - i)
def rgV (σ : St) (x : Int32) : Int32 := if x = 8 then σ 0 3 else if x = 9 then bN (isZ σ) else if x = 10 then bN (isL σ) else if x = 11 then σ 0 4 else σ 2 (lo3 x)
def rwV (σ : St) (k : Nat) (w : Int32) : Int32 := if w = 0 then (if keptB σ k then σ (4 + 2 * k) 1 else -1) else if w = 1 then σ (4 + 2 * k) 2 else σ (4 + 2 * k) 3
def cnV (σ : St) (x : Int32) : Int32 := if x = 0 then σ 0 6 else if x = 1 then σ 0 7 else if x = 2 then σ 0 8 else if x = 3 then σ 0 9 else if x = 4 then kNt σ 32 else if x = 5 then σ 0 10 else if x = 6 then σ 0 11 else -1
theorem in8 {x : Int32} (h1 : ¬ x < 0) (h2 : x < 8) : ∃ i : Nat, i < 8 ∧ x = nI i := by
  obtain ⟨i, h3, rfl⟩ := nI_of h1
  exact ⟨i, (nI_ltI h3 (by omega)).mp h2, rfl⟩
theorem in32 {x : Int32} (h1 : ¬ x < 0) (h2 : ¬ 32 ≤ x) : ∃ i : Nat, i < 32 ∧ x = nI i := by
  obtain ⟨i, h3, rfl⟩ := nI_of h1
  exact ⟨i, nI_lt_of (N := 32) h2 h3, rfl⟩
theorem in100 {x : Int32} (h1 : ¬ x < 1) (h2 : x ≤ 100) : ∃ i : Nat, 1 ≤ i ∧ i ≤ 100 ∧ x = nI i := by
  have h0 : ¬ x < 0 := fun h => h1 (Int32.lt_trans h (by decide))
  obtain ⟨i, h3, rfl⟩ := nI_of h0
  refine ⟨i, ?_, (nI_leI h3 (by omega)).mp h2, rfl⟩
  rcases Nat.lt_or_ge i 1 with z | z
  · exact absurd ((nI_ltI h3 (by omega)).mpr z) h1
  · exact z
theorem p4_min {i : Nat} (h : i < 1024) : (if (1024 : Int32) - nI i < 4 then (1024 : Int32) - nI i else 4) = nI (p4N i) := by
  have e : (1024 : Int32) - nI i = nI (1024 - i) := pk_sub (a := 1024) (b := i) (by omega)
  rw [e]
  unfold p4N
  rcases Nat.lt_or_ge (1024 - i) 4 with z | z
  · rw [if_pos (show nI (1024 - i) < 4 from (nI_ltI (b := 4) (by omega) (by omega)).mpr z), show min 4 (1024 - i) = 1024 - i by omega]
  · rw [if_neg (show ¬ nI (1024 - i) < 4 from fun h9 => absurd ((nI_ltI (b := 4) (by omega) (by omega)).mp h9) (by omega)), show min 4 (1024 - i) = 4 by omega]
    rfl
theorem dbL_le (k m : Nat) (hm : m < 2 ^ 31) : ∀ (f w : Nat) (σ : St), w ≤ m → (dbL (nI m) k f w σ).2 ≤ m := by
  intro f
  induction f with
  | zero => exact fun w σ h => h
  | succ f ih =>
    intro w σ h
    rw [dbL]
    split
    · next hc =>
      split
      · exact ih _ _ ((nI_ltI (by omega) hm).mp hc.2)
      · exact h
    · exact h
theorem dbO_le (σ : St) {m : Nat} (hm : m < 2 ^ 31) : (dbO σ (nI m)).2 ≤ m := dbL_le _ m hm 12 0 _ (by omega)
section MN
variable {p : Program} {l : Launch} {e : Env} {R : Room} {s : State} {m : MethodId} {args : Array Value} {below : List Frame} {meth : Method} {c : Code} {cells slots : Nat} {Q : State → Prop}
variable {D : va_G} {A : Nat → Prop} {H0 : Heap} {n : Nat} {w w0 : va_W} {pc pc2 : Nat} {L rest : List Value} {cc : ByteArray} {ret : Option FieldType} {y : MethodName} {c0 : Cond} {cI cB cZ cJ : ClassId}
theorem bj_min {x z : Int32} {idx : Nat} (F : GF p s m args meth c cc n ret y (c0 :: tbW) D vCl (TY cI cB cZ cJ) w0) (hd : decode cc pc = .ok (.invokestatic idx, 3)) (hl : Cond.methodLink y.cls idx Lib.Math.min.name ∈ tbW) (hst : Cond.static Lib.Math.min.name ∈ tbW) (hini : Cond.initialized "java/lang/Math" ∈ tbW) (hco : Cond.code Lib.Math.min.name Lib.Math.min.code 2 (some .int) ∈ tbW) (hRf : 1 ≤ R.frames) (hRl : (rest.map fun v => v.category).sum + 13 ≤ R.locals) (hc : cells ≤ R.cells) (hs : slots ≤ R.slots) (hp : pc + 3 = pc2)
    (k : GJ p l e R s m args below meth c D vCl A H0 n Q cells slots w pc2 L (.int (if z < x then z else x) :: rest)) : GJ p l e R s m args below meth c D vCl A H0 n Q cells slots w pc L (.int z :: .int x :: rest) := by
  subst hp
  intro ls H locs g1 g2 g3 g4
  exact va_mmin F.1 F.2.1 (F.2.2.1.trans g1.1.symm) F.2.2.2.1 (F.w hl) (F.w hst) (F.w hini) (F.w hco) hRf hRl hc hs hd (k ls H locs g1 g2 g3 g4)
end MN
end
section
theorem k_X_poke : CKV y_X_poke c_X_poke 4 (some .int) 2 := ⟨q_112, q_1, q_110, q_111, ⟨by decide +kernel, by decide +kernel, by decide +kernel⟩⟩
set_option maxHeartbeats 4000000 in
set_option maxRecDepth 100000 in
theorem ct_X_poke {l : Launch} {D : va_G} {cI cB cZ cJ : ClassId} {a : Nat → Nat} {σ : St} (hl : l.stackTraces = false) (x v : Int32) : GXi l y_X_poke (Cond.code y_X_poke c_X_poke 4 (some .int) :: tbW) ({ frames := 6, cells := 1, slots := 6, locals := 90 }) 1 6 D vCl (TY cI cB cZ cJ) [.ref (a 0), .int x, .int v] (bw a cI cB 32 σ) (fun r u => ∃ i : Nat, i < 1024 ∧ x = nI i ∧ ¬ v < 0 ∧ v ≤ 255 ∧ r = σ 1 i ∧ u = bw a cI cB 32 (wrB σ i v)) (fun E u => u = (bw a cI cB 32 σ) ∧ ((E = xIo ∧ inM x = false) ∨ (E = xIa ∧ inM x = true ∧ (v < 0 ∨ ¬ v ≤ 255)))) := by
  refine gx_body (post := fun r u => ∃ i : Nat, i < 1024 ∧ x = nI i ∧ ¬ v < 0 ∧ v ≤ 255 ∧ r = σ 1 i ∧ u = bw a cI cB 32 (wrB σ i v)) (px := fun E u => u = (bw a cI cB 32 σ) ∧ ((E = xIo ∧ inM x = false) ∨ (E = xIa ∧ inM x = true ∧ (v < 0 ∨ ¬ v ≤ 255)))) (cc := c_X_poke) (maxL := 4) (ret := (some .int)) (by decide) rfl (by simp [Value.category]) (Nat.le_of_ble_eq_true rfl) ?_
  intro p e s m args below meth c F ht
  have hx := F.1
  have hb := F.2.1
  refine gj_ld (i := 1) (pc2 := 1) rfl (fun _ _ _ h9 => lv_iload_n hx hb d_X_poke_0 rfl h9) ?_
  refine bj_s F k_X_inMemory d_X_poke_1 q_113 (ct_X_inMemory _) (rmo rfl) rfl rfl (Nat.le_of_ble_eq_true rfl) (Nat.zero_le _) (Nat.zero_le _) rfl (fun r9 e9 => ?_)
  subst e9
  refine gj_if (pc2 := 17) (pc3 := 7) (fun _ _ _ => lv_if_ne (tgt := 17) hx hb d_X_poke_4 (by decide)) (fun h4 => ?_) (fun h4 => ?_)
  · obtain ⟨i, hi, rfl⟩ := inM_of (bN_n0.mp h4)
    have hin := inM_nI hi
    refine gj_ld (i := 2) (pc2 := 18) rfl (fun _ _ _ h9 => lv_iload_n hx hb d_X_poke_17 rfl h9) ?_
    refine gj_if (pc2 := 28) (pc3 := 21) (fun _ _ _ => lv_if_lt (tgt := 28) hx hb d_X_poke_18 (by decide)) (fun h18 => ?_) (fun h18 => ?_)
    · exact gx_throw (text := "not a byte") F ht hl rfl xh_fit.2.1 q_183 q_8 (by decide +kernel) xh_Ia1 xh_Ia2 xh_Ia3 d_X_poke_28 d_X_poke_31 d_X_poke_32 d_X_poke_34 d_X_poke_37 (Nat.le_of_ble_eq_true rfl) (Nat.le_of_ble_eq_true rfl) (Nat.le_of_ble_eq_true rfl) (Nat.le_of_ble_eq_true rfl) (Nat.le_of_ble_eq_true rfl) (Nat.le_of_ble_eq_true rfl) ⟨rfl, Or.inr ⟨rfl, hin, by first | exact Or.inl h18 | exact Or.inr h25⟩⟩
    · refine gj_ld (i := 2) (pc2 := 22) rfl (fun _ _ _ h9 => lv_iload_n hx hb d_X_poke_21 rfl h9) ?_
      refine gj_l (pc2 := 25) (fun _ _ _ => lv_sipush (v := (255)) hx hb d_X_poke_22 (by decide)) ?_
      refine gj_if (pc2 := 38) (pc3 := 28) (fun _ _ _ => lv_icmp_le (tgt := 38) hx hb d_X_poke_25 (by decide)) (fun h25 => ?_) (fun h25 => ?_)
      · refine gj_ld (i := 0) (pc2 := 39) rfl (fun _ _ _ h9 => lv_aload_n hx hb d_X_poke_38 rfl h9) ?_
        refine bj_gr F 0 (by decide) d_X_poke_39 q_43 rfl ?_
        refine gj_ld (i := 1) (pc2 := 43) rfl (fun _ _ _ h9 => lv_iload_n hx hb d_X_poke_42 rfl h9) ?_
        refine bj_ld F 1 1024 i (by omega) rfl (by decide) rfl hi d_X_poke_43 rfl ?_
        refine gj_st (i := 3) (pc2 := 45) (Nat.le_of_ble_eq_true rfl) rfl (fun _ _ _ _ _ h9 l9 => lv_istore_n hx hb d_X_poke_44 rfl h9 (Nat.le_of_ble_eq_true rfl) l9) ?_
        refine gj_ld (i := 0) (pc2 := 46) rfl (fun _ _ _ h9 => lv_aload_n hx hb d_X_poke_45 rfl h9) ?_
        refine gj_ld (i := 1) (pc2 := 47) rfl (fun _ _ _ h9 => lv_iload_n hx hb d_X_poke_46 rfl h9) ?_
        refine gj_ld (i := 2) (pc2 := 48) rfl (fun _ _ _ h9 => lv_iload_n hx hb d_X_poke_47 rfl h9) ?_
        refine bj_vv F k_X_write d_X_poke_48 q_199 (bw_at (i := 0) (by omega)) rfl (ct_X_write hi _) (rmo rfl) rfl rfl (Nat.le_of_ble_eq_true rfl) (Nat.zero_le _) (Nat.zero_le _) rfl (fun u9 e9 => ?_)
        subst e9
        refine gj_ld (i := 3) (pc2 := 52) rfl (fun _ _ _ h9 => lv_iload_n hx hb d_X_poke_51 rfl h9) ?_
        exact gx_iret F d_X_poke_52 (Nat.zero_le _) (Nat.zero_le _) ⟨i, hi, rfl, h18, h25, rfl, rfl⟩
      · exact gx_throw (text := "not a byte") F ht hl rfl xh_fit.2.1 q_183 q_8 (by decide +kernel) xh_Ia1 xh_Ia2 xh_Ia3 d_X_poke_28 d_X_poke_31 d_X_poke_32 d_X_poke_34 d_X_poke_37 (Nat.le_of_ble_eq_true rfl) (Nat.le_of_ble_eq_true rfl) (Nat.le_of_ble_eq_true rfl) (Nat.le_of_ble_eq_true rfl) (Nat.le_of_ble_eq_true rfl) (Nat.le_of_ble_eq_true rfl) ⟨rfl, Or.inr ⟨rfl, hin, by first | exact Or.inl h18 | exact Or.inr h25⟩⟩
  · exact gx_throw (text := "no such byte") F ht hl rfl xh_fit.1 q_116 q_7 (by decide +kernel) xh_Io1 xh_Io2 xh_Io3 d_X_poke_7 d_X_poke_10 d_X_poke_11 d_X_poke_13 d_X_poke_16 (Nat.le_of_ble_eq_true rfl) (Nat.le_of_ble_eq_true rfl) (Nat.le_of_ble_eq_true rfl) (Nat.le_of_ble_eq_true rfl) (Nat.le_of_ble_eq_true rfl) (Nat.le_of_ble_eq_true rfl) ⟨rfl, Or.inl ⟨rfl, bN_0.mp h4⟩⟩

theorem k_X_pokeFour : CKV y_X_pokeFour c_X_pokeFour 5 (some .int) 2 := ⟨q_214, q_1, q_212, q_213, ⟨by decide +kernel, by decide +kernel, by decide +kernel⟩⟩
set_option maxHeartbeats 4000000 in
set_option maxRecDepth 100000 in
theorem ct_X_pokeFour {l : Launch} {D : va_G} {cI cB cZ cJ : ClassId} {a : Nat → Nat} {σ : St} (hl : l.stackTraces = false) (x v : Int32) : GXi l y_X_pokeFour (Cond.code y_X_pokeFour c_X_pokeFour 5 (some .int) :: tbW) ({ frames := 6, cells := 1, slots := 6, locals := 90 }) 1 6 D vCl (TY cI cB cZ cJ) [.ref (a 0), .int x, .int v] (bw a cI cB 32 σ) (fun r u => ∃ i : Nat, i < 1024 ∧ x = nI i ∧ r = nI (p4N i) ∧ u = bw a cI cB 32 (p4L σ i v (p4N i))) (fun E u => E = xIo ∧ inM x = false ∧ u = (bw a cI cB 32 σ)) := by
  refine gx_body (post := fun r u => ∃ i : Nat, i < 1024 ∧ x = nI i ∧ r = nI (p4N i) ∧ u = bw a cI cB 32 (p4L σ i v (p4N i))) (px := fun E u => E = xIo ∧ inM x = false ∧ u = (bw a cI cB 32 σ)) (cc := c_X_pokeFour) (maxL := 5) (ret := (some .int)) (by decide) rfl (by simp [Value.category]) (Nat.le_of_ble_eq_true rfl) ?_
  intro p e s m args below meth c F ht
  have hx := F.1
  have hb := F.2.1
  refine gj_ld (i := 1) (pc2 := 1) rfl (fun _ _ _ h9 => lv_iload_n hx hb d_X_pokeFour_0 rfl h9) ?_
  refine bj_s F k_X_inMemory d_X_pokeFour_1 q_113 (ct_X_inMemory _) (rmo rfl) rfl rfl (Nat.le_of_ble_eq_true rfl) (Nat.zero_le _) (Nat.zero_le _) rfl (fun r9 e9 => ?_)
  subst e9
  refine gj_if (pc2 := 17) (pc3 := 7) (fun _ _ _ => lv_if_ne (tgt := 17) hx hb d_X_pokeFour_4 (by decide)) (fun h4 => ?_) (fun h4 => ?_)
  · obtain ⟨i, hi, rfl⟩ := inM_of (bN_n0.mp h4)
    have hin := inM_nI hi
    refine gj_l (pc2 := 18) (fun _ _ _ => lv_iconst (v := 4) hx hb d_X_pokeFour_17 (by decide)) ?_
    refine gj_l (pc2 := 21) (fun _ _ _ => lv_sipush (v := (1024)) hx hb d_X_pokeFour_18 (by decide)) ?_
    refine gj_ld (i := 1) (pc2 := 22) rfl (fun _ _ _ h9 => lv_iload_n hx hb d_X_pokeFour_21 rfl h9) ?_
    refine gj_l (pc2 := 23) (fun _ _ _ => lv_isub hx hb d_X_pokeFour_22) ?_
    refine bj_min F d_X_pokeFour_23 q_216 q_217 q_9 q_218 (Nat.le_of_ble_eq_true rfl) (Nat.le_of_ble_eq_true rfl) (Nat.zero_le _) (Nat.zero_le _) rfl ?_
    rw [p4_min hi]
    refine gj_st (i := 3) (pc2 := 27) (Nat.le_of_ble_eq_true rfl) rfl (fun _ _ _ _ _ h9 l9 => lv_istore_n hx hb d_X_pokeFour_26 rfl h9 (Nat.le_of_ble_eq_true rfl) l9) ?_
    refine gj_l (pc2 := 28) (fun _ _ _ => lv_iconst (v := 0) hx hb d_X_pokeFour_27 (by decide)) ?_
    refine gj_st (i := 4) (pc2 := 30) (Nat.le_of_ble_eq_true rfl) rfl (fun _ _ _ _ _ h9 l9 => lv_istore hx hb d_X_pokeFour_28 h9 (Nat.le_of_ble_eq_true rfl) l9) ?_
    have hp4 : p4N i ≤ 4 ∧ i + p4N i ≤ 1024 := by unfold p4N; omega
    refine gj_loop (p4N i) (fun k => bw a cI cB 32 (p4L σ i v k)) (fun k => [.ref (a 0), .int (nI i), .int v, .int (nI (p4N i)), .int (nI k)]) (fun k hk ih => ?_)
    refine gj_ld (i := 4) (pc2 := 32) rfl (fun _ _ _ h9 => lv_iload hx hb d_X_pokeFour_30 h9) ?_
    refine gj_ld (i := 3) (pc2 := 33) rfl (fun _ _ _ h9 => lv_iload_n hx hb d_X_pokeFour_32 rfl h9) ?_
    refine gj_if (pc2 := 64) (pc3 := 36) (fun _ _ _ => lv_icmp_ge (tgt := 64) hx hb d_X_pokeFour_33 (by decide)) (fun h33 => ?_) (fun h33 => ?_)
    · have hk9 := nI_ge_of h33 (by omega) (by omega)
      have hk8 : k = p4N i := by omega
      subst hk8
      refine gj_ld (i := 3) (pc2 := 65) rfl (fun _ _ _ h9 => lv_iload_n hx hb d_X_pokeFour_64 rfl h9) ?_
      exact gx_iret F d_X_pokeFour_65 (Nat.zero_le _) (Nat.zero_le _) ⟨i, hi, rfl, rfl, rfl⟩
    · have hlt := nI_lt_of h33 (by omega)
      refine gj_ld (i := 0) (pc2 := 37) rfl (fun _ _ _ h9 => lv_aload_n hx hb d_X_pokeFour_36 rfl h9) ?_
      refine gj_ld (i := 1) (pc2 := 38) rfl (fun _ _ _ h9 => lv_iload_n hx hb d_X_pokeFour_37 rfl h9) ?_
      refine gj_ld (i := 4) (pc2 := 40) rfl (fun _ _ _ h9 => lv_iload hx hb d_X_pokeFour_38 h9) ?_
      refine gj_l (pc2 := 41) (fun _ _ _ => lv_iadd hx hb d_X_pokeFour_40) ?_
      refine gj_ld (i := 2) (pc2 := 42) rfl (fun _ _ _ h9 => lv_iload_n hx hb d_X_pokeFour_41 rfl h9) ?_
      refine gj_l (pc2 := 44) (fun _ _ _ => lv_bipush (v := (24)) hx hb d_X_pokeFour_42 (by decide)) ?_
      refine gj_l (pc2 := 46) (fun _ _ _ => lv_bipush (v := (8)) hx hb d_X_pokeFour_44 (by decide)) ?_
      refine gj_ld (i := 4) (pc2 := 48) rfl (fun _ _ _ h9 => lv_iload hx hb d_X_pokeFour_46 h9) ?_
      refine gj_l (pc2 := 49) (fun _ _ _ => lv_imul hx hb d_X_pokeFour_48) ?_
      refine gj_l (pc2 := 50) (fun _ _ _ => lv_isub hx hb d_X_pokeFour_49) ?_
      refine gj_l (pc2 := 51) (fun _ _ _ => lv_iushr hx hb d_X_pokeFour_50 rfl) ?_
      refine gj_l (pc2 := 54) (fun _ _ _ => lv_sipush (v := (255)) hx hb d_X_pokeFour_51 (by decide)) ?_
      refine gj_l (pc2 := 55) (fun _ _ _ => lv_iand hx hb d_X_pokeFour_54) ?_
      rw [nI_add]
      refine bj_vv F k_X_write d_X_pokeFour_55 q_199 (bw_at (i := 0) (by omega)) rfl (ct_X_write (i := i + k) (by omega) (by4 v k)) (rmo rfl) rfl rfl (Nat.le_of_ble_eq_true rfl) (Nat.zero_le _) (Nat.zero_le _) rfl (fun u9 e9 => ?_)
      subst e9
      refine gj_iinc (pc2 := 61) hx hb d_X_pokeFour_58 (Nat.le_of_ble_eq_true rfl) rfl (nI_1 k) rfl ?_
      refine gj_l (pc2 := 30) (fun _ _ _ => lv_goto (tgt := 30) hx hb d_X_pokeFour_61 (by decide)) ?_
      exact ih hlt
  · exact gx_throw (text := "no such place") F ht hl rfl xh_fit.1 q_116 q_7 (by decide +kernel) xh_Io1 xh_Io2 xh_Io3 d_X_pokeFour_7 d_X_pokeFour_10 d_X_pokeFour_11 d_X_pokeFour_13 d_X_pokeFour_16 (Nat.le_of_ble_eq_true rfl) (Nat.le_of_ble_eq_true rfl) (Nat.le_of_ble_eq_true rfl) (Nat.le_of_ble_eq_true rfl) (Nat.le_of_ble_eq_true rfl) (Nat.le_of_ble_eq_true rfl) ⟨rfl, bN_0.mp h4, rfl⟩

theorem k_X_set : CKV y_X_set c_X_set 4 (some .int) 2 := ⟨q_225, q_1, q_223, q_224, ⟨by decide +kernel, by decide +kernel, by decide +kernel⟩⟩
set_option maxHeartbeats 4000000 in
set_option maxRecDepth 100000 in
theorem ct_X_set {l : Launch} {D : va_G} {cI cB cZ cJ : ClassId} {a : Nat → Nat} {σ : St} (hl : l.stackTraces = false) (x v : Int32) : GXi l y_X_set (Cond.code y_X_set c_X_set 4 (some .int) :: tbW) ({ frames := 6, cells := 1, slots := 6, locals := 90 }) 1 6 D vCl (TY cI cB cZ cJ) [.ref (a 0), .int x, .int v] (bw a cI cB 32 σ) (fun r u => ∃ i : Nat, i < 8 ∧ x = nI i ∧ r = σ 2 i ∧ u = bw a cI cB 32 (s2 σ 2 i v)) (fun E u => E = xIo ∧ (x < 0 ∨ ¬ x < 8) ∧ u = (bw a cI cB 32 σ)) := by
  refine gx_body (post := fun r u => ∃ i : Nat, i < 8 ∧ x = nI i ∧ r = σ 2 i ∧ u = bw a cI cB 32 (s2 σ 2 i v)) (px := fun E u => E = xIo ∧ (x < 0 ∨ ¬ x < 8) ∧ u = (bw a cI cB 32 σ)) (cc := c_X_set) (maxL := 4) (ret := (some .int)) (by decide) rfl (by simp [Value.category]) (Nat.le_of_ble_eq_true rfl) ?_
  intro p e s m args below meth c F ht
  have hx := F.1
  have hb := F.2.1
  refine gj_ld (i := 1) (pc2 := 1) rfl (fun _ _ _ h9 => lv_iload_n hx hb d_X_set_0 rfl h9) ?_
  refine gj_if (pc2 := 10) (pc3 := 4) (fun _ _ _ => lv_if_lt (tgt := 10) hx hb d_X_set_1 (by decide)) (fun h1 => ?_) (fun h1 => ?_)
  · exact gx_throw (text := "no such register") F ht hl rfl xh_fit.1 q_116 q_7 (by decide +kernel) xh_Io1 xh_Io2 xh_Io3 d_X_set_10 d_X_set_13 d_X_set_14 d_X_set_16 d_X_set_19 (Nat.le_of_ble_eq_true rfl) (Nat.le_of_ble_eq_true rfl) (Nat.le_of_ble_eq_true rfl) (Nat.le_of_ble_eq_true rfl) (Nat.le_of_ble_eq_true rfl) (Nat.le_of_ble_eq_true rfl) ⟨rfl, by first | exact Or.inl h1 | exact Or.inr h7, rfl⟩
  · refine gj_ld (i := 1) (pc2 := 5) rfl (fun _ _ _ h9 => lv_iload_n hx hb d_X_set_4 rfl h9) ?_
    refine gj_l (pc2 := 7) (fun _ _ _ => lv_bipush (v := (8)) hx hb d_X_set_5 (by decide)) ?_
    refine gj_if (pc2 := 20) (pc3 := 10) (fun _ _ _ => lv_icmp_lt (tgt := 20) hx hb d_X_set_7 (by decide)) (fun h7 => ?_) (fun h7 => ?_)
    · obtain ⟨i, hi, rfl⟩ := in8 h1 h7
      refine gj_ld (i := 0) (pc2 := 21) rfl (fun _ _ _ h9 => lv_aload_n hx hb d_X_set_20 rfl h9) ?_
      refine bj_gr F 1 (by decide) d_X_set_21 q_44 rfl ?_
      refine gj_ld (i := 1) (pc2 := 25) rfl (fun _ _ _ h9 => lv_iload_n hx hb d_X_set_24 rfl h9) ?_
      refine bj_ld F 2 8 i (by omega) rfl (by decide) rfl hi d_X_set_25 rfl ?_
      refine gj_st (i := 3) (pc2 := 27) (Nat.le_of_ble_eq_true rfl) rfl (fun _ _ _ _ _ h9 l9 => lv_istore_n hx hb d_X_set_26 rfl h9 (Nat.le_of_ble_eq_true rfl) l9) ?_
      refine gj_ld (i := 0) (pc2 := 28) rfl (fun _ _ _ h9 => lv_aload_n hx hb d_X_set_27 rfl h9) ?_
      refine bj_gr F 1 (by decide) d_X_set_28 q_44 rfl ?_
      refine gj_ld (i := 1) (pc2 := 32) rfl (fun _ _ _ h9 => lv_iload_n hx hb d_X_set_31 rfl h9) ?_
      refine gj_ld (i := 2) (pc2 := 33) rfl (fun _ _ _ h9 => lv_iload_n hx hb d_X_set_32 rfl h9) ?_
      refine bj_st F 2 8 i (by omega) (fun _ => rfl) (by decide) rfl hi d_X_set_33 rfl ?_
      refine gj_ld (i := 3) (pc2 := 35) rfl (fun _ _ _ h9 => lv_iload_n hx hb d_X_set_34 rfl h9) ?_
      exact gx_iret F d_X_set_35 (Nat.zero_le _) (Nat.zero_le _) ⟨i, hi, rfl, rfl, rfl⟩
    · exact gx_throw (text := "no such register") F ht hl rfl xh_fit.1 q_116 q_7 (by decide +kernel) xh_Io1 xh_Io2 xh_Io3 d_X_set_10 d_X_set_13 d_X_set_14 d_X_set_16 d_X_set_19 (Nat.le_of_ble_eq_true rfl) (Nat.le_of_ble_eq_true rfl) (Nat.le_of_ble_eq_true rfl) (Nat.le_of_ble_eq_true rfl) (Nat.le_of_ble_eq_true rfl) (Nat.le_of_ble_eq_true rfl) ⟨rfl, by first | exact Or.inl h1 | exact Or.inr h7, rfl⟩

theorem k_X_go : CKV y_X_go c_X_go 3 (some .int) 1 := ⟨q_233, q_1, q_231, q_232, ⟨by decide +kernel, by decide +kernel, by decide +kernel⟩⟩
set_option maxHeartbeats 4000000 in
set_option maxRecDepth 100000 in
theorem ct_X_go {l : Launch} {D : va_G} {cI cB cZ cJ : ClassId} {a : Nat → Nat} {σ : St} (hl : l.stackTraces = false) (x : Int32) : GXi l y_X_go (Cond.code y_X_go c_X_go 3 (some .int) :: tbW) ({ frames := 6, cells := 1, slots := 6, locals := 90 }) 1 6 D vCl (TY cI cB cZ cJ) [.ref (a 0), .int x] (bw a cI cB 32 σ) (fun r u => inM x = true ∧ r = σ 0 3 ∧ u = bw a cI cB 32 (s2 (s2 σ 0 3 x) 0 4 0)) (fun E u => E = xIo ∧ inM x = false ∧ u = (bw a cI cB 32 σ)) := by
  refine gx_body (post := fun r u => inM x = true ∧ r = σ 0 3 ∧ u = bw a cI cB 32 (s2 (s2 σ 0 3 x) 0 4 0)) (px := fun E u => E = xIo ∧ inM x = false ∧ u = (bw a cI cB 32 σ)) (cc := c_X_go) (maxL := 3) (ret := (some .int)) (by decide) rfl (by simp [Value.category]) (Nat.le_of_ble_eq_true rfl) ?_
  intro p e s m args below meth c F ht
  have hx := F.1
  have hb := F.2.1
  refine gj_ld (i := 1) (pc2 := 1) rfl (fun _ _ _ h9 => lv_iload_n hx hb d_X_go_0 rfl h9) ?_
  refine bj_s F k_X_inMemory d_X_go_1 q_113 (ct_X_inMemory _) (rmo rfl) rfl rfl (Nat.le_of_ble_eq_true rfl) (Nat.zero_le _) (Nat.zero_le _) rfl (fun r9 e9 => ?_)
  subst e9
  refine gj_if (pc2 := 17) (pc3 := 7) (fun _ _ _ => lv_if_ne (tgt := 17) hx hb d_X_go_4 (by decide)) (fun h4 => ?_) (fun h4 => ?_)
  · refine gj_ld (i := 0) (pc2 := 18) rfl (fun _ _ _ h9 => lv_aload_n hx hb d_X_go_17 rfl h9) ?_
    refine bj_gi F 3 (by decide) (by decide) d_X_go_18 q_46 rfl ?_
    refine gj_st (i := 2) (pc2 := 22) (Nat.le_of_ble_eq_true rfl) rfl (fun _ _ _ _ _ h9 l9 => lv_istore_n hx hb d_X_go_21 rfl h9 (Nat.le_of_ble_eq_true rfl) l9) ?_
    refine gj_ld (i := 0) (pc2 := 23) rfl (fun _ _ _ h9 => lv_aload_n hx hb d_X_go_22 rfl h9) ?_
    refine gj_ld (i := 1) (pc2 := 24) rfl (fun _ _ _ h9 => lv_iload_n hx hb d_X_go_23 rfl h9) ?_
    refine bj_pi F 3 (by decide) (by decide) d_X_go_24 q_46 rfl ?_
    refine gj_ld (i := 0) (pc2 := 28) rfl (fun _ _ _ h9 => lv_aload_n hx hb d_X_go_27 rfl h9) ?_
    refine gj_l (pc2 := 29) (fun _ _ _ => lv_iconst (v := 0) hx hb d_X_go_28 (by decide)) ?_
    refine bj_pi F 4 (by decide) (by decide) d_X_go_29 q_47 rfl ?_
    refine gj_ld (i := 2) (pc2 := 33) rfl (fun _ _ _ h9 => lv_iload_n hx hb d_X_go_32 rfl h9) ?_
    exact gx_iret F d_X_go_33 (Nat.zero_le _) (Nat.zero_le _) ⟨bN_n0.mp h4, rfl, rfl⟩
  · exact gx_throw (text := "no such place") F ht hl rfl xh_fit.1 q_116 q_7 (by decide +kernel) xh_Io1 xh_Io2 xh_Io3 d_X_go_7 d_X_go_10 d_X_go_11 d_X_go_13 d_X_go_16 (Nat.le_of_ble_eq_true rfl) (Nat.le_of_ble_eq_true rfl) (Nat.le_of_ble_eq_true rfl) (Nat.le_of_ble_eq_true rfl) (Nat.le_of_ble_eq_true rfl) (Nat.le_of_ble_eq_true rfl) ⟨rfl, bN_0.mp h4, rfl⟩

theorem k_X_memory : CKV y_X_memory c_X_memory 2 (some .int) 1 := ⟨q_308, q_1, q_306, q_307, ⟨by decide +kernel, by decide +kernel, by decide +kernel⟩⟩
set_option maxHeartbeats 4000000 in
set_option maxRecDepth 100000 in
theorem ct_X_memory {l : Launch} {D : va_G} {cI cB cZ cJ : ClassId} {a : Nat → Nat} {σ : St} (hl : l.stackTraces = false) (x : Int32) : GXi l y_X_memory (Cond.code y_X_memory c_X_memory 2 (some .int) :: tbW) ({ frames := 6, cells := 1, slots := 6, locals := 90 }) 1 6 D vCl (TY cI cB cZ cJ) [.ref (a 0), .int x] (bw a cI cB 32 σ) (fun r u => ∃ i : Nat, i < 1024 ∧ x = nI i ∧ r = σ 1 i ∧ u = (bw a cI cB 32 σ)) (fun E u => E = xIo ∧ inM x = false ∧ u = (bw a cI cB 32 σ)) := by
  refine gx_body (post := fun r u => ∃ i : Nat, i < 1024 ∧ x = nI i ∧ r = σ 1 i ∧ u = (bw a cI cB 32 σ)) (px := fun E u => E = xIo ∧ inM x = false ∧ u = (bw a cI cB 32 σ)) (cc := c_X_memory) (maxL := 2) (ret := (some .int)) (by decide) rfl (by simp [Value.category]) (Nat.le_of_ble_eq_true rfl) ?_
  intro p e s m args below meth c F ht
  have hx := F.1
  have hb := F.2.1
  refine gj_ld (i := 1) (pc2 := 1) rfl (fun _ _ _ h9 => lv_iload_n hx hb d_X_memory_0 rfl h9) ?_
  refine bj_s F k_X_inMemory d_X_memory_1 q_113 (ct_X_inMemory _) (rmo rfl) rfl rfl (Nat.le_of_ble_eq_true rfl) (Nat.zero_le _) (Nat.zero_le _) rfl (fun r9 e9 => ?_)
  subst e9
  refine gj_if (pc2 := 17) (pc3 := 7) (fun _ _ _ => lv_if_ne (tgt := 17) hx hb d_X_memory_4 (by decide)) (fun h4 => ?_) (fun h4 => ?_)
  · obtain ⟨i, hi, rfl⟩ := inM_of (bN_n0.mp h4)
    have hin := inM_nI hi
    refine gj_ld (i := 0) (pc2 := 18) rfl (fun _ _ _ h9 => lv_aload_n hx hb d_X_memory_17 rfl h9) ?_
    refine bj_gr F 0 (by decide) d_X_memory_18 q_43 rfl ?_
    refine gj_ld (i := 1) (pc2 := 22) rfl (fun _ _ _ h9 => lv_iload_n hx hb d_X_memory_21 rfl h9) ?_
    refine bj_ld F 1 1024 i (by omega) rfl (by decide) rfl hi d_X_memory_22 rfl ?_
    exact gx_iret F d_X_memory_23 (Nat.zero_le _) (Nat.zero_le _) ⟨i, hi, rfl, rfl, rfl⟩
  · exact gx_throw (text := "no such byte") F ht hl rfl xh_fit.1 q_116 q_7 (by decide +kernel) xh_Io1 xh_Io2 xh_Io3 d_X_memory_7 d_X_memory_10 d_X_memory_11 d_X_memory_13 d_X_memory_16 (Nat.le_of_ble_eq_true rfl) (Nat.le_of_ble_eq_true rfl) (Nat.le_of_ble_eq_true rfl) (Nat.le_of_ble_eq_true rfl) (Nat.le_of_ble_eq_true rfl) (Nat.le_of_ble_eq_true rfl) ⟨rfl, bN_0.mp h4, rfl⟩

theorem k_X_register : CKV y_X_register c_X_register 2 (some .int) 1 := ⟨q_315, q_1, q_313, q_314, ⟨by decide +kernel, by decide +kernel, by decide +kernel⟩⟩
set_option maxHeartbeats 4000000 in
set_option maxRecDepth 100000 in
theorem ct_X_register {l : Launch} {D : va_G} {cI cB cZ cJ : ClassId} {a : Nat → Nat} {σ : St} (hl : l.stackTraces = false) (x : Int32) : GXi l y_X_register (Cond.code y_X_register c_X_register 2 (some .int) :: tbW) ({ frames := 6, cells := 1, slots := 6, locals := 90 }) 1 6 D vCl (TY cI cB cZ cJ) [.ref (a 0), .int x] (bw a cI cB 32 σ) (fun r u => ¬ x < 0 ∧ x ≤ 11 ∧ r = rgV σ x ∧ u = (bw a cI cB 32 σ)) (fun E u => E = xIo ∧ (x < 0 ∨ ¬ x ≤ 11) ∧ u = (bw a cI cB 32 σ)) := by
  refine gx_body (post := fun r u => ¬ x < 0 ∧ x ≤ 11 ∧ r = rgV σ x ∧ u = (bw a cI cB 32 σ)) (px := fun E u => E = xIo ∧ (x < 0 ∨ ¬ x ≤ 11) ∧ u = (bw a cI cB 32 σ)) (cc := c_X_register) (maxL := 2) (ret := (some .int)) (by decide) rfl (by simp [Value.category]) (Nat.le_of_ble_eq_true rfl) ?_
  intro p e s m args below meth c F ht
  have hx := F.1
  have hb := F.2.1
  refine gj_ld (i := 1) (pc2 := 1) rfl (fun _ _ _ h9 => lv_iload_n hx hb d_X_register_0 rfl h9) ?_
  refine gj_if (pc2 := 10) (pc3 := 4) (fun _ _ _ => lv_if_lt (tgt := 10) hx hb d_X_register_1 (by decide)) (fun h1 => ?_) (fun h1 => ?_)
  · exact gx_throw (text := "no such register") F ht hl rfl xh_fit.1 q_116 q_7 (by decide +kernel) xh_Io1 xh_Io2 xh_Io3 d_X_register_10 d_X_register_13 d_X_register_14 d_X_register_16 d_X_register_19 (Nat.le_of_ble_eq_true rfl) (Nat.le_of_ble_eq_true rfl) (Nat.le_of_ble_eq_true rfl) (Nat.le_of_ble_eq_true rfl) (Nat.le_of_ble_eq_true rfl) (Nat.le_of_ble_eq_true rfl) ⟨rfl, by first | exact Or.inl h1 | exact Or.inr h7, rfl⟩
  · refine gj_ld (i := 1) (pc2 := 5) rfl (fun _ _ _ h9 => lv_iload_n hx hb d_X_register_4 rfl h9) ?_
    refine gj_l (pc2 := 7) (fun _ _ _ => lv_bipush (v := (11)) hx hb d_X_register_5 (by decide)) ?_
    refine gj_if (pc2 := 20) (pc3 := 10) (fun _ _ _ => lv_icmp_le (tgt := 20) hx hb d_X_register_7 (by decide)) (fun h7 => ?_) (fun h7 => ?_)
    · refine gj_ld (i := 1) (pc2 := 21) rfl (fun _ _ _ h9 => lv_iload_n hx hb d_X_register_20 rfl h9) ?_
      by_cases h21_8 : x = 8
      · rw [h21_8]
        refine gj_l (pc2 := 52) (fun _ _ _ => lv_tableIn (tgt := 52) hx hb d_X_register_21 (by decide) (by decide) rfl (by decide)) ?_
        refine gj_ld (i := 0) (pc2 := 53) rfl (fun _ _ _ h9 => lv_aload_n hx hb d_X_register_52 rfl h9) ?_
        refine bj_gi F 3 (by decide) (by decide) d_X_register_53 q_46 rfl ?_
        exact gx_iret F d_X_register_56 (Nat.zero_le _) (Nat.zero_le _) ⟨by first | exact h1 | decide, by first | exact h7 | decide, by first | (simp [bN_0] at h61; simp [rgV, bN, h1, h7, h21_8]; done) | (simp [bN_0] at h74; simp [rgV, bN, h1, h7, h21_8]; done) | (simp [rgV, h1, h7, h21_8]; done), rfl⟩
      by_cases h21_9 : x = 9
      · rw [h21_9]
        refine gj_l (pc2 := 57) (fun _ _ _ => lv_tableIn (tgt := 57) hx hb d_X_register_21 (by decide) (by decide) rfl (by decide)) ?_
        refine gj_ld (i := 0) (pc2 := 58) rfl (fun _ _ _ h9 => lv_aload_n hx hb d_X_register_57 rfl h9) ?_
        refine bj_vi F k_X_isZero d_X_register_58 q_291 (bw_at (i := 0) (by omega)) rfl (ct_X_isZero) (rmo rfl) rfl rfl (Nat.le_of_ble_eq_true rfl) (Nat.zero_le _) (Nat.zero_le _) rfl (fun r9 u9 e9 => ?_)
        obtain ⟨rfl, rfl⟩ := e9
        refine gj_if (pc2 := 68) (pc3 := 64) (fun _ _ _ => lv_if_eq (tgt := 68) hx hb d_X_register_61 (by decide)) (fun h61 => ?_) (fun h61 => ?_)
        · refine gj_l (pc2 := 69) (fun _ _ _ => lv_iconst (v := 0) hx hb d_X_register_68 (by decide)) ?_
          exact gx_iret F d_X_register_69 (Nat.zero_le _) (Nat.zero_le _) ⟨by first | exact h1 | decide, by first | exact h7 | decide, by first | (simp [bN_0] at h61; simp [rgV, bN, h1, h7, h21_8, h21_9, h61]; done) | (simp [bN_0] at h74; simp [rgV, bN, h1, h7, h21_8, h21_9, h61]; done) | (simp [rgV, h1, h7, h21_8, h21_9, h61]; done), rfl⟩
        · refine gj_l (pc2 := 65) (fun _ _ _ => lv_iconst (v := 1) hx hb d_X_register_64 (by decide)) ?_
          refine gj_l (pc2 := 69) (fun _ _ _ => lv_goto (tgt := 69) hx hb d_X_register_65 (by decide)) ?_
          exact gx_iret F d_X_register_69 (Nat.zero_le _) (Nat.zero_le _) ⟨by first | exact h1 | decide, by first | exact h7 | decide, by first | (simp [bN_0] at h61; simp [rgV, bN, h1, h7, h21_8, h21_9, h61]; done) | (simp [bN_0] at h74; simp [rgV, bN, h1, h7, h21_8, h21_9, h61]; done) | (simp [rgV, h1, h7, h21_8, h21_9, h61]; done), rfl⟩
      by_cases h21_10 : x = 10
      · rw [h21_10]
        refine gj_l (pc2 := 70) (fun _ _ _ => lv_tableIn (tgt := 70) hx hb d_X_register_21 (by decide) (by decide) rfl (by decide)) ?_
        refine gj_ld (i := 0) (pc2 := 71) rfl (fun _ _ _ h9 => lv_aload_n hx hb d_X_register_70 rfl h9) ?_
        refine bj_vi F k_X_isBelow d_X_register_71 q_295 (bw_at (i := 0) (by omega)) rfl (ct_X_isBelow) (rmo rfl) rfl rfl (Nat.le_of_ble_eq_true rfl) (Nat.zero_le _) (Nat.zero_le _) rfl (fun r9 u9 e9 => ?_)
        obtain ⟨rfl, rfl⟩ := e9
        refine gj_if (pc2 := 81) (pc3 := 77) (fun _ _ _ => lv_if_eq (tgt := 81) hx hb d_X_register_74 (by decide)) (fun h74 => ?_) (fun h74 => ?_)
        · refine gj_l (pc2 := 82) (fun _ _ _ => lv_iconst (v := 0) hx hb d_X_register_81 (by decide)) ?_
          exact gx_iret F d_X_register_82 (Nat.zero_le _) (Nat.zero_le _) ⟨by first | exact h1 | decide, by first | exact h7 | decide, by first | (simp [bN_0] at h61; simp [rgV, bN, h1, h7, h21_8, h21_9, h21_10, h74]; done) | (simp [bN_0] at h74; simp [rgV, bN, h1, h7, h21_8, h21_9, h21_10, h74]; done) | (simp [rgV, h1, h7, h21_8, h21_9, h21_10, h74]; done), rfl⟩
        · refine gj_l (pc2 := 78) (fun _ _ _ => lv_iconst (v := 1) hx hb d_X_register_77 (by decide)) ?_
          refine gj_l (pc2 := 82) (fun _ _ _ => lv_goto (tgt := 82) hx hb d_X_register_78 (by decide)) ?_
          exact gx_iret F d_X_register_82 (Nat.zero_le _) (Nat.zero_le _) ⟨by first | exact h1 | decide, by first | exact h7 | decide, by first | (simp [bN_0] at h61; simp [rgV, bN, h1, h7, h21_8, h21_9, h21_10, h74]; done) | (simp [bN_0] at h74; simp [rgV, bN, h1, h7, h21_8, h21_9, h21_10, h74]; done) | (simp [rgV, h1, h7, h21_8, h21_9, h21_10, h74]; done), rfl⟩
      by_cases h21_11 : x = 11
      · rw [h21_11]
        refine gj_l (pc2 := 83) (fun _ _ _ => lv_tableIn (tgt := 83) hx hb d_X_register_21 (by decide) (by decide) rfl (by decide)) ?_
        refine gj_ld (i := 0) (pc2 := 84) rfl (fun _ _ _ h9 => lv_aload_n hx hb d_X_register_83 rfl h9) ?_
        refine bj_gi F 4 (by decide) (by decide) d_X_register_84 q_47 rfl ?_
        exact gx_iret F d_X_register_87 (Nat.zero_le _) (Nat.zero_le _) ⟨by first | exact h1 | decide, by first | exact h7 | decide, by first | (simp [bN_0] at h61; simp [rgV, bN, h1, h7, h21_8, h21_9, h21_10, h21_11]; done) | (simp [bN_0] at h74; simp [rgV, bN, h1, h7, h21_8, h21_9, h21_10, h21_11]; done) | (simp [rgV, h1, h7, h21_8, h21_9, h21_10, h21_11]; done), rfl⟩
      have hsw : (x).toInt < 8 ∨ 11 < (x).toInt := by
        by_cases z : (x).toInt < 8
        · exact Or.inl z
        by_cases z2 : 11 < (x).toInt
        · exact Or.inr z2
        exfalso
        rcases (show (x).toInt = 8 ∨ (x).toInt = 9 ∨ (x).toInt = 10 ∨ (x).toInt = 11 by omega) with z3 | z3 | z3 | z3
        · exact h21_8 (Int32.toInt_inj.mp (z3.trans (by decide)))
        · exact h21_9 (Int32.toInt_inj.mp (z3.trans (by decide)))
        · exact h21_10 (Int32.toInt_inj.mp (z3.trans (by decide)))
        · exact h21_11 (Int32.toInt_inj.mp (z3.trans (by decide)))
      refine gj_l (pc2 := 88) (fun _ _ _ => lv_tableOut (tgt := 88) hx hb d_X_register_21 hsw (by decide)) ?_
      refine gj_ld (i := 0) (pc2 := 89) rfl (fun _ _ _ h9 => lv_aload_n hx hb d_X_register_88 rfl h9) ?_
      refine bj_gr F 1 (by decide) d_X_register_89 q_44 rfl ?_
      refine gj_ld (i := 1) (pc2 := 93) rfl (fun _ _ _ h9 => lv_iload_n hx hb d_X_register_92 rfl h9) ?_
      refine gj_l (pc2 := 95) (fun _ _ _ => lv_bipush (v := (7)) hx hb d_X_register_93 (by decide)) ?_
      refine gj_l (pc2 := 96) (fun _ _ _ => lv_iand hx hb d_X_register_95) ?_
      refine bj_ld F 2 8 (lo3 x) (by omega) rfl (by decide) (lo3_eq x) (lo3_lt x) d_X_register_96 rfl ?_
      exact gx_iret F d_X_register_97 (Nat.zero_le _) (Nat.zero_le _) ⟨by first | exact h1 | decide, by first | exact h7 | decide, by first | (simp [bN_0] at h61; simp [rgV, bN, h1, h7, h21_8, h21_9, h21_10, h21_11]; done) | (simp [bN_0] at h74; simp [rgV, bN, h1, h7, h21_8, h21_9, h21_10, h21_11]; done) | (simp [rgV, h1, h7, h21_8, h21_9, h21_10, h21_11]; done), rfl⟩
    · exact gx_throw (text := "no such register") F ht hl rfl xh_fit.1 q_116 q_7 (by decide +kernel) xh_Io1 xh_Io2 xh_Io3 d_X_register_10 d_X_register_13 d_X_register_14 d_X_register_16 d_X_register_19 (Nat.le_of_ble_eq_true rfl) (Nat.le_of_ble_eq_true rfl) (Nat.le_of_ble_eq_true rfl) (Nat.le_of_ble_eq_true rfl) (Nat.le_of_ble_eq_true rfl) (Nat.le_of_ble_eq_true rfl) ⟨rfl, by first | exact Or.inl h1 | exact Or.inr h7, rfl⟩

theorem k_X_row : CKV y_X_row c_X_row 4 (some .int) 2 := ⟨q_322, q_1, q_320, q_321, ⟨by decide +kernel, by decide +kernel, by decide +kernel⟩⟩
set_option maxHeartbeats 4000000 in
set_option maxRecDepth 100000 in
theorem ct_X_row {l : Launch} {D : va_G} {cI cB cZ cJ : ClassId} {a : Nat → Nat} {σ : St} (hl : l.stackTraces = false) (x z : Int32) : GXi l y_X_row (Cond.code y_X_row c_X_row 4 (some .int) :: tbW) ({ frames := 6, cells := 1, slots := 6, locals := 90 }) 1 6 D vCl (TY cI cB cZ cJ) [.ref (a 0), .int x, .int z] (bw a cI cB 32 σ) (fun r u => ∃ k : Nat, k < 32 ∧ x = nI k ∧ ¬ z < 0 ∧ z ≤ 2 ∧ r = rwV σ k z ∧ u = (bw a cI cB 32 σ)) (fun E u => E = xIo ∧ (x < 0 ∨ 32 ≤ x ∨ z < 0 ∨ ¬ z ≤ 2) ∧ u = (bw a cI cB 32 σ)) := by
  refine gx_body (post := fun r u => ∃ k : Nat, k < 32 ∧ x = nI k ∧ ¬ z < 0 ∧ z ≤ 2 ∧ r = rwV σ k z ∧ u = (bw a cI cB 32 σ)) (px := fun E u => E = xIo ∧ (x < 0 ∨ 32 ≤ x ∨ z < 0 ∨ ¬ z ≤ 2) ∧ u = (bw a cI cB 32 σ)) (cc := c_X_row) (maxL := 4) (ret := (some .int)) (by decide) rfl (by simp [Value.category]) (Nat.le_of_ble_eq_true rfl) ?_
  intro p e s m args below meth c F ht
  have hx := F.1
  have hb := F.2.1
  refine gj_ld (i := 1) (pc2 := 1) rfl (fun _ _ _ h9 => lv_iload_n hx hb d_X_row_0 rfl h9) ?_
  refine gj_if (pc2 := 19) (pc3 := 4) (fun _ _ _ => lv_if_lt (tgt := 19) hx hb d_X_row_1 (by decide)) (fun h1 => ?_) (fun h1 => ?_)
  · exact gx_throw (text := "no such row or what") F ht hl rfl xh_fit.1 q_116 q_7 (by decide +kernel) xh_Io1 xh_Io2 xh_Io3 d_X_row_19 d_X_row_22 d_X_row_23 d_X_row_25 d_X_row_28 (Nat.le_of_ble_eq_true rfl) (Nat.le_of_ble_eq_true rfl) (Nat.le_of_ble_eq_true rfl) (Nat.le_of_ble_eq_true rfl) (Nat.le_of_ble_eq_true rfl) (Nat.le_of_ble_eq_true rfl) ⟨rfl, by first | exact Or.inl h1 | exact Or.inr (Or.inl h7) | exact Or.inr (Or.inr (Or.inl h11)) | exact Or.inr (Or.inr (Or.inr h16)), rfl⟩
  · refine gj_ld (i := 1) (pc2 := 5) rfl (fun _ _ _ h9 => lv_iload_n hx hb d_X_row_4 rfl h9) ?_
    refine gj_l (pc2 := 7) (fun _ _ _ => lv_bipush (v := (32)) hx hb d_X_row_5 (by decide)) ?_
    refine gj_if (pc2 := 19) (pc3 := 10) (fun _ _ _ => lv_icmp_ge (tgt := 19) hx hb d_X_row_7 (by decide)) (fun h7 => ?_) (fun h7 => ?_)
    · exact gx_throw (text := "no such row or what") F ht hl rfl xh_fit.1 q_116 q_7 (by decide +kernel) xh_Io1 xh_Io2 xh_Io3 d_X_row_19 d_X_row_22 d_X_row_23 d_X_row_25 d_X_row_28 (Nat.le_of_ble_eq_true rfl) (Nat.le_of_ble_eq_true rfl) (Nat.le_of_ble_eq_true rfl) (Nat.le_of_ble_eq_true rfl) (Nat.le_of_ble_eq_true rfl) (Nat.le_of_ble_eq_true rfl) ⟨rfl, by first | exact Or.inl h1 | exact Or.inr (Or.inl h7) | exact Or.inr (Or.inr (Or.inl h11)) | exact Or.inr (Or.inr (Or.inr h16)), rfl⟩
    · refine gj_ld (i := 2) (pc2 := 11) rfl (fun _ _ _ h9 => lv_iload_n hx hb d_X_row_10 rfl h9) ?_
      refine gj_if (pc2 := 19) (pc3 := 14) (fun _ _ _ => lv_if_lt (tgt := 19) hx hb d_X_row_11 (by decide)) (fun h11 => ?_) (fun h11 => ?_)
      · exact gx_throw (text := "no such row or what") F ht hl rfl xh_fit.1 q_116 q_7 (by decide +kernel) xh_Io1 xh_Io2 xh_Io3 d_X_row_19 d_X_row_22 d_X_row_23 d_X_row_25 d_X_row_28 (Nat.le_of_ble_eq_true rfl) (Nat.le_of_ble_eq_true rfl) (Nat.le_of_ble_eq_true rfl) (Nat.le_of_ble_eq_true rfl) (Nat.le_of_ble_eq_true rfl) (Nat.le_of_ble_eq_true rfl) ⟨rfl, by first | exact Or.inl h1 | exact Or.inr (Or.inl h7) | exact Or.inr (Or.inr (Or.inl h11)) | exact Or.inr (Or.inr (Or.inr h16)), rfl⟩
      · refine gj_ld (i := 2) (pc2 := 15) rfl (fun _ _ _ h9 => lv_iload_n hx hb d_X_row_14 rfl h9) ?_
        refine gj_l (pc2 := 16) (fun _ _ _ => lv_iconst (v := 2) hx hb d_X_row_15 (by decide)) ?_
        refine gj_if (pc2 := 29) (pc3 := 19) (fun _ _ _ => lv_icmp_le (tgt := 29) hx hb d_X_row_16 (by decide)) (fun h16 => ?_) (fun h16 => ?_)
        · obtain ⟨k, hk, rfl⟩ := in32 h1 h7
          refine gj_ld (i := 0) (pc2 := 30) rfl (fun _ _ _ h9 => lv_aload_n hx hb d_X_row_29 rfl h9) ?_
          refine bj_gr F 2 (by decide) d_X_row_30 q_45 rfl ?_
          refine gj_ld (i := 1) (pc2 := 34) rfl (fun _ _ _ h9 => lv_iload_n hx hb d_X_row_33 rfl h9) ?_
          refine bj_blk F k rfl hk d_X_row_34 rfl ?_
          refine gj_st (i := 3) (pc2 := 36) (Nat.le_of_ble_eq_true rfl) rfl (fun _ _ _ _ _ h9 l9 => lv_astore_n hx hb d_X_row_35 rfl h9 (Nat.le_of_ble_eq_true rfl) l9) ?_
          refine gj_ld (i := 2) (pc2 := 37) rfl (fun _ _ _ h9 => lv_iload_n hx hb d_X_row_36 rfl h9) ?_
          by_cases h37_0 : z = 0
          · rw [h37_0]
            refine gj_l (pc2 := 64) (fun _ _ _ => lv_lookup (tgt := 64) (off := 27) hx hb d_X_row_37 (by decide) (by decide) (by decide)) ?_
            refine gj_ld (i := 3) (pc2 := 65) rfl (fun _ _ _ h9 => lv_aload_n hx hb d_X_row_64 rfl h9) ?_
            refine bj_ni F k_B_isKept d_X_row_65 (by decide +kernel) (bw_blk hk) rfl (ct_B_isKept hk) (rmo rfl) rfl rfl (Nat.le_of_ble_eq_true rfl) (Nat.zero_le _) (Nat.zero_le _) rfl (fun r9 u9 e9 => ?_)
            obtain ⟨rfl, rfl⟩ := e9
            refine gj_if (pc2 := 78) (pc3 := 71) (fun _ _ _ => lv_if_eq (tgt := 78) hx hb d_X_row_68 (by decide)) (fun h68 => ?_) (fun h68 => ?_)
            · refine gj_l (pc2 := 79) (fun _ _ _ => lv_iconst (v := (-1)) hx hb d_X_row_78 (by decide)) ?_
              exact gx_iret F d_X_row_79 (Nat.zero_le _) (Nat.zero_le _) ⟨k, hk, rfl, by first | exact h11 | decide, by first | exact h16 | decide, by first | (simp [bN_0] at h68; simp [rwV, h1, h7, h11, h16, h37_0, h68]; done) | (simp [rwV, h1, h7, h11, h16, h37_0, h68]; done), rfl⟩
            · refine gj_ld (i := 3) (pc2 := 72) rfl (fun _ _ _ h9 => lv_aload_n hx hb d_X_row_71 rfl h9) ?_
              refine bj_biN F _ 1 hk (by decide) (by decide) d_X_row_72 (by decide +kernel) rfl ?_
              refine gj_l (pc2 := 79) (fun _ _ _ => lv_goto (tgt := 79) hx hb d_X_row_75 (by decide)) ?_
              exact gx_iret F d_X_row_79 (Nat.zero_le _) (Nat.zero_le _) ⟨k, hk, rfl, by first | exact h11 | decide, by first | exact h16 | decide, by first | (simp [bN_0] at h68; simp [rwV, h1, h7, h11, h16, h37_0, h68]; done) | (simp [rwV, h1, h7, h11, h16, h37_0, h68]; done), rfl⟩
          by_cases h37_1 : z = 1
          · rw [h37_1]
            refine gj_l (pc2 := 80) (fun _ _ _ => lv_lookup (tgt := 80) (off := 43) hx hb d_X_row_37 (by decide) (by decide) (by decide)) ?_
            refine gj_ld (i := 3) (pc2 := 81) rfl (fun _ _ _ h9 => lv_aload_n hx hb d_X_row_80 rfl h9) ?_
            refine bj_biN F _ 2 hk (by decide) (by decide) d_X_row_81 (by decide +kernel) rfl ?_
            exact gx_iret F d_X_row_84 (Nat.zero_le _) (Nat.zero_le _) ⟨k, hk, rfl, by first | exact h11 | decide, by first | exact h16 | decide, by first | (simp [bN_0] at h68; simp [rwV, h1, h7, h11, h16, h37_0, h37_1]; done) | (simp [rwV, h1, h7, h11, h16, h37_0, h37_1]; done), rfl⟩
          have hz2 : z = 2 := by
            obtain ⟨j9, h8, rfl⟩ := nI_of h11
            have h9 : j9 ≤ 2 := (nI_leI h8 (by omega)).mp h16
            rcases (show j9 = 0 ∨ j9 = 1 ∨ j9 = 2 by omega) with rfl | rfl | rfl
            · exact absurd rfl h37_0
            · exact absurd rfl h37_1
            · rfl
          rw [hz2]
          refine gj_l (pc2 := 85) (fun _ _ _ => lv_lookup (tgt := 85) (off := 48) hx hb d_X_row_37 (by decide) (by decide) (by decide)) ?_
          refine gj_ld (i := 3) (pc2 := 86) rfl (fun _ _ _ h9 => lv_aload_n hx hb d_X_row_85 rfl h9) ?_
          refine bj_biN F _ 3 hk (by decide) (by decide) d_X_row_86 (by decide +kernel) rfl ?_
          exact gx_iret F d_X_row_89 (Nat.zero_le _) (Nat.zero_le _) ⟨k, hk, rfl, by first | exact h11 | decide, by first | exact h16 | decide, by first | (simp [bN_0] at h68; simp [rwV, h1, h7, h11, h16, hz2]; done) | (simp [rwV, h1, h7, h11, h16, hz2]; done), rfl⟩
        · exact gx_throw (text := "no such row or what") F ht hl rfl xh_fit.1 q_116 q_7 (by decide +kernel) xh_Io1 xh_Io2 xh_Io3 d_X_row_19 d_X_row_22 d_X_row_23 d_X_row_25 d_X_row_28 (Nat.le_of_ble_eq_true rfl) (Nat.le_of_ble_eq_true rfl) (Nat.le_of_ble_eq_true rfl) (Nat.le_of_ble_eq_true rfl) (Nat.le_of_ble_eq_true rfl) (Nat.le_of_ble_eq_true rfl) ⟨rfl, by first | exact Or.inl h1 | exact Or.inr (Or.inl h7) | exact Or.inr (Or.inr (Or.inl h11)) | exact Or.inr (Or.inr (Or.inr h16)), rfl⟩

theorem k_X_count : CKV y_X_count c_X_count 2 (some .int) 1 := ⟨q_99, q_1, q_97, q_98, ⟨by decide +kernel, by decide +kernel, by decide +kernel⟩⟩
set_option maxHeartbeats 4000000 in
set_option maxRecDepth 100000 in
theorem ct_X_count {l : Launch} {D : va_G} {cI cB cZ cJ : ClassId} {a : Nat → Nat} {σ : St} (x : Int32) : GCi l y_X_count (Cond.code y_X_count c_X_count 2 (some .int) :: tbW) ({ frames := 2, cells := 0, slots := 0, locals := 42 }) 0 0 D vCl (TY cI cB cZ cJ) [.ref (a 0), .int x] (bw a cI cB 32 σ) (fun r u => r = cnV σ x ∧ u = (bw a cI cB 32 σ)) := by
  refine gc_body (Qc := gc_Qi D vCl (TY cI cB cZ cJ) (bw a cI cB 32 σ) (fun r u => r = cnV σ x ∧ u = (bw a cI cB 32 σ))) (cc := c_X_count) (maxL := 2) (ret := (some .int)) (by decide) rfl (by simp [Value.category]) (Nat.le_of_ble_eq_true rfl) ?_
  intro p e s m args below meth c F
  have hx := F.1
  have hb := F.2.1
  refine gj_ld (i := 1) (pc2 := 1) rfl (fun _ _ _ h9 => lv_iload_n hx hb d_X_count_0 rfl h9) ?_
  by_cases h1_0 : x = 0
  · rw [h1_0]
    refine gj_l (pc2 := 44) (fun _ _ _ => lv_tableIn (tgt := 44) hx hb d_X_count_1 (by decide) (by decide) rfl (by decide)) ?_
    refine gj_ld (i := 0) (pc2 := 45) rfl (fun _ _ _ h9 => lv_aload_n hx hb d_X_count_44 rfl h9) ?_
    refine bj_gi F 6 (by decide) (by decide) d_X_count_45 q_49 rfl ?_
    exact gj_iret F d_X_count_48 (Nat.le_refl _) (Nat.le_refl _) ⟨by simp [cnV, h1_0], rfl⟩
  by_cases h1_1 : x = 1
  · rw [h1_1]
    refine gj_l (pc2 := 49) (fun _ _ _ => lv_tableIn (tgt := 49) hx hb d_X_count_1 (by decide) (by decide) rfl (by decide)) ?_
    refine gj_ld (i := 0) (pc2 := 50) rfl (fun _ _ _ h9 => lv_aload_n hx hb d_X_count_49 rfl h9) ?_
    refine bj_gi F 7 (by decide) (by decide) d_X_count_50 q_50 rfl ?_
    exact gj_iret F d_X_count_53 (Nat.le_refl _) (Nat.le_refl _) ⟨by simp [cnV, h1_0, h1_1], rfl⟩
  by_cases h1_2 : x = 2
  · rw [h1_2]
    refine gj_l (pc2 := 54) (fun _ _ _ => lv_tableIn (tgt := 54) hx hb d_X_count_1 (by decide) (by decide) rfl (by decide)) ?_
    refine gj_ld (i := 0) (pc2 := 55) rfl (fun _ _ _ h9 => lv_aload_n hx hb d_X_count_54 rfl h9) ?_
    refine bj_gi F 8 (by decide) (by decide) d_X_count_55 q_51 rfl ?_
    exact gj_iret F d_X_count_58 (Nat.le_refl _) (Nat.le_refl _) ⟨by simp [cnV, h1_0, h1_1, h1_2], rfl⟩
  by_cases h1_3 : x = 3
  · rw [h1_3]
    refine gj_l (pc2 := 59) (fun _ _ _ => lv_tableIn (tgt := 59) hx hb d_X_count_1 (by decide) (by decide) rfl (by decide)) ?_
    refine gj_ld (i := 0) (pc2 := 60) rfl (fun _ _ _ h9 => lv_aload_n hx hb d_X_count_59 rfl h9) ?_
    refine bj_gi F 9 (by decide) (by decide) d_X_count_60 q_52 rfl ?_
    exact gj_iret F d_X_count_63 (Nat.le_refl _) (Nat.le_refl _) ⟨by simp [cnV, h1_0, h1_1, h1_2, h1_3], rfl⟩
  by_cases h1_4 : x = 4
  · rw [h1_4]
    refine gj_l (pc2 := 64) (fun _ _ _ => lv_tableIn (tgt := 64) hx hb d_X_count_1 (by decide) (by decide) rfl (by decide)) ?_
    refine gj_ld (i := 0) (pc2 := 65) rfl (fun _ _ _ h9 => lv_aload_n hx hb d_X_count_64 rfl h9) ?_
    refine bj_vi F k_X_keptNow d_X_count_65 q_100 (bw_at (i := 0) (by omega)) rfl (ct_X_keptNow) (rmo rfl) rfl rfl (Nat.le_of_ble_eq_true rfl) (Nat.zero_le _) (Nat.zero_le _) rfl (fun r9 u9 e9 => ?_)
    obtain ⟨rfl, rfl⟩ := e9
    exact gj_iret F d_X_count_68 (Nat.le_refl _) (Nat.le_refl _) ⟨by simp [cnV, h1_0, h1_1, h1_2, h1_3, h1_4], rfl⟩
  by_cases h1_5 : x = 5
  · rw [h1_5]
    refine gj_l (pc2 := 69) (fun _ _ _ => lv_tableIn (tgt := 69) hx hb d_X_count_1 (by decide) (by decide) rfl (by decide)) ?_
    refine gj_ld (i := 0) (pc2 := 70) rfl (fun _ _ _ h9 => lv_aload_n hx hb d_X_count_69 rfl h9) ?_
    refine bj_gi F 10 (by decide) (by decide) d_X_count_70 q_53 rfl ?_
    exact gj_iret F d_X_count_73 (Nat.le_refl _) (Nat.le_refl _) ⟨by simp [cnV, h1_0, h1_1, h1_2, h1_3, h1_4, h1_5], rfl⟩
  by_cases h1_6 : x = 6
  · rw [h1_6]
    refine gj_l (pc2 := 74) (fun _ _ _ => lv_tableIn (tgt := 74) hx hb d_X_count_1 (by decide) (by decide) rfl (by decide)) ?_
    refine gj_ld (i := 0) (pc2 := 75) rfl (fun _ _ _ h9 => lv_aload_n hx hb d_X_count_74 rfl h9) ?_
    refine bj_gi F 11 (by decide) (by decide) d_X_count_75 q_54 rfl ?_
    exact gj_iret F d_X_count_78 (Nat.le_refl _) (Nat.le_refl _) ⟨by simp [cnV, h1_0, h1_1, h1_2, h1_3, h1_4, h1_5, h1_6], rfl⟩
  have hsw : (x).toInt < 0 ∨ 6 < (x).toInt := by
    by_cases z : (x).toInt < 0
    · exact Or.inl z
    by_cases z2 : 6 < (x).toInt
    · exact Or.inr z2
    exfalso
    rcases (show (x).toInt = 0 ∨ (x).toInt = 1 ∨ (x).toInt = 2 ∨ (x).toInt = 3 ∨ (x).toInt = 4 ∨ (x).toInt = 5 ∨ (x).toInt = 6 by omega) with z3 | z3 | z3 | z3 | z3 | z3 | z3
    · exact h1_0 (Int32.toInt_inj.mp (z3.trans (by decide)))
    · exact h1_1 (Int32.toInt_inj.mp (z3.trans (by decide)))
    · exact h1_2 (Int32.toInt_inj.mp (z3.trans (by decide)))
    · exact h1_3 (Int32.toInt_inj.mp (z3.trans (by decide)))
    · exact h1_4 (Int32.toInt_inj.mp (z3.trans (by decide)))
    · exact h1_5 (Int32.toInt_inj.mp (z3.trans (by decide)))
    · exact h1_6 (Int32.toInt_inj.mp (z3.trans (by decide)))
  refine gj_l (pc2 := 79) (fun _ _ _ => lv_tableOut (tgt := 79) hx hb d_X_count_1 hsw (by decide)) ?_
  refine gj_l (pc2 := 80) (fun _ _ _ => lv_iconst (v := (-1)) hx hb d_X_count_79 (by decide)) ?_
  exact gj_iret F d_X_count_80 (Nat.le_refl _) (Nat.le_refl _) ⟨by simp [cnV, h1_0, h1_1, h1_2, h1_3, h1_4, h1_5, h1_6], rfl⟩

theorem k_X_run : CKV y_X_run c_X_run 4 (some .int) 1 := ⟨q_240, q_1, q_238, q_239, ⟨by decide +kernel, by decide +kernel, by decide +kernel⟩⟩
set_option maxHeartbeats 4000000 in
set_option maxRecDepth 100000 in
theorem ct_X_run {l : Launch} {D : va_G} {cI cB cZ cJ : ClassId} {a : Nat → Nat} {σ : St} (hl : l.stackTraces = false) (x : Int32) : GXi l y_X_run (Cond.code y_X_run c_X_run 4 (some .int) :: tbW) ({ frames := 6, cells := 1, slots := 6, locals := 138 }) 1 6 D vCl (TY cI cB cZ cJ) [.ref (a 0), .int x] (bw a cI cB 32 σ) (fun r u => ∃ n : Nat, 1 ≤ n ∧ n ≤ 100 ∧ x = nI n ∧ r = nI (ruL n n 0 σ).2 ∧ u = bw a cI cB 32 (ruL n n 0 σ).1) (fun E u => E = xIa ∧ (x < 1 ∨ ¬ x ≤ 100) ∧ u = (bw a cI cB 32 σ)) := by
  refine gx_body (post := fun r u => ∃ n : Nat, 1 ≤ n ∧ n ≤ 100 ∧ x = nI n ∧ r = nI (ruL n n 0 σ).2 ∧ u = bw a cI cB 32 (ruL n n 0 σ).1) (px := fun E u => E = xIa ∧ (x < 1 ∨ ¬ x ≤ 100) ∧ u = (bw a cI cB 32 σ)) (cc := c_X_run) (maxL := 4) (ret := (some .int)) (by decide) rfl (by simp [Value.category]) (Nat.le_of_ble_eq_true rfl) ?_
  intro p e s m args below meth c F ht
  have hx := F.1
  have hb := F.2.1
  refine gj_ld (i := 1) (pc2 := 1) rfl (fun _ _ _ h9 => lv_iload_n hx hb d_X_run_0 rfl h9) ?_
  refine gj_l (pc2 := 2) (fun _ _ _ => lv_iconst (v := 1) hx hb d_X_run_1 (by decide)) ?_
  refine gj_if (pc2 := 11) (pc3 := 5) (fun _ _ _ => lv_icmp_lt (tgt := 11) hx hb d_X_run_2 (by decide)) (fun h2 => ?_) (fun h2 => ?_)
  · exact gx_throw (text := "not 1 to 100 steps") F ht hl rfl xh_fit.2.1 q_183 q_8 (by decide +kernel) xh_Ia1 xh_Ia2 xh_Ia3 d_X_run_11 d_X_run_14 d_X_run_15 d_X_run_17 d_X_run_20 (Nat.le_of_ble_eq_true rfl) (Nat.le_of_ble_eq_true rfl) (Nat.le_of_ble_eq_true rfl) (Nat.le_of_ble_eq_true rfl) (Nat.le_of_ble_eq_true rfl) (Nat.le_of_ble_eq_true rfl) ⟨rfl, by first | exact Or.inl h2 | exact Or.inr h8, rfl⟩
  · refine gj_ld (i := 1) (pc2 := 6) rfl (fun _ _ _ h9 => lv_iload_n hx hb d_X_run_5 rfl h9) ?_
    refine gj_l (pc2 := 8) (fun _ _ _ => lv_bipush (v := (100)) hx hb d_X_run_6 (by decide)) ?_
    refine gj_if (pc2 := 21) (pc3 := 11) (fun _ _ _ => lv_icmp_le (tgt := 21) hx hb d_X_run_8 (by decide)) (fun h8 => ?_) (fun h8 => ?_)
    · obtain ⟨N, hN1, hN2, rfl⟩ := in100 h2 h8
      refine gj_l (pc2 := 22) (fun _ _ _ => lv_iconst (v := 0) hx hb d_X_run_21 (by decide)) ?_
      refine gj_st (i := 2) (pc2 := 23) (Nat.le_of_ble_eq_true rfl) rfl (fun _ _ _ _ _ h9 l9 => lv_istore_n hx hb d_X_run_22 rfl h9 (Nat.le_of_ble_eq_true rfl) l9) ?_
      refine gj_l (pc2 := 24) (fun _ _ _ => lv_iconst (v := 0) hx hb d_X_run_23 (by decide)) ?_
      refine gj_st (i := 3) (pc2 := 25) (Nat.le_of_ble_eq_true rfl) rfl (fun _ _ _ _ _ h9 l9 => lv_istore_n hx hb d_X_run_24 rfl h9 (Nat.le_of_ble_eq_true rfl) l9) ?_
      refine gj_fuel (T := Nat × Nat × St) (fun t => bw a cI cB 32 t.2.2) (fun t => [.ref (a 0), .int (nI N), .int (nI t.2.1), .int (nI t.1)]) (fun f t => t.1 + f = N ∧ t.2.1 ≤ N ∧ ruL N f t.2.1 t.2.2 = ruL N N 0 σ) (fun f t hv ih => ?_) N (0, 0, σ) ⟨Nat.zero_add N, Nat.zero_le N, rfl⟩
      obtain ⟨q, d, τ⟩ := t
      obtain ⟨hq, hd9, hR⟩ := hv
      dsimp only at hq hd9 hR ⊢
      refine gj_ld (i := 3) (pc2 := 26) rfl (fun _ _ _ h9 => lv_iload_n hx hb d_X_run_25 rfl h9) ?_
      refine gj_ld (i := 1) (pc2 := 27) rfl (fun _ _ _ h9 => lv_iload_n hx hb d_X_run_26 rfl h9) ?_
      refine gj_if (pc2 := 58) (pc3 := 30) (fun _ _ _ => lv_icmp_ge (tgt := 58) hx hb d_X_run_27 (by decide)) (fun h27 => ?_) (fun h27 => ?_)
      · have h28 := nI_ge_of h27 (by omega) (by omega)
        have hf : f = 0 := by omega
        subst hf
        rw [ruL] at hR
        refine gj_ld (i := 2) (pc2 := 59) rfl (fun _ _ _ h9 => lv_iload_n hx hb d_X_run_58 rfl h9) ?_
        exact gx_iret F d_X_run_59 (Nat.zero_le _) (Nat.zero_le _) ⟨N, hN1, hN2, rfl, by rw [← hR], by rw [← hR]⟩
      · have hqN := nI_lt_of h27 (by omega)
        obtain ⟨g, rfl⟩ : ∃ g, f = g + 1 := ⟨f - 1, by omega⟩
        refine gj_ld (i := 2) (pc2 := 31) rfl (fun _ _ _ h9 => lv_iload_n hx hb d_X_run_30 rfl h9) ?_
        refine gj_ld (i := 1) (pc2 := 32) rfl (fun _ _ _ h9 => lv_iload_n hx hb d_X_run_31 rfl h9) ?_
        refine gj_if (pc2 := 58) (pc3 := 35) (fun _ _ _ => lv_icmp_ge (tgt := 58) hx hb d_X_run_32 (by decide)) (fun h32 => ?_) (fun h32 => ?_)
        · have h33 := nI_ge_of h32 (by omega) (by omega)
          rw [ruL, if_neg (fun h => absurd h.1 (by omega))] at hR
          refine gj_ld (i := 2) (pc2 := 59) rfl (fun _ _ _ h9 => lv_iload_n hx hb d_X_run_58 rfl h9) ?_
          exact gx_iret F d_X_run_59 (Nat.zero_le _) (Nat.zero_le _) ⟨N, hN1, hN2, rfl, by rw [← hR], by rw [← hR]⟩
        · have hdN := nI_lt_of h32 (by omega)
          refine gj_ld (i := 0) (pc2 := 36) rfl (fun _ _ _ h9 => lv_aload_n hx hb d_X_run_35 rfl h9) ?_
          refine bj_gi F 4 (by decide) (by decide) d_X_run_36 q_47 rfl ?_
          refine gj_if (pc2 := 58) (pc3 := 42) (fun _ _ _ => lv_if_ne (tgt := 58) hx hb d_X_run_39 (by decide)) (fun h39 => ?_) (fun h39 => ?_)
          · rw [ruL, if_neg (fun h => h39 h.2)] at hR
            refine gj_ld (i := 2) (pc2 := 59) rfl (fun _ _ _ h9 => lv_iload_n hx hb d_X_run_58 rfl h9) ?_
            exact gx_iret F d_X_run_59 (Nat.zero_le _) (Nat.zero_le _) ⟨N, hN1, hN2, rfl, by rw [← hR], by rw [← hR]⟩
          · rw [ruL, if_pos ⟨hdN, h39⟩] at hR
            refine gj_ld (i := 2) (pc2 := 43) rfl (fun _ _ _ h9 => lv_iload_n hx hb d_X_run_42 rfl h9) ?_
            refine gj_ld (i := 0) (pc2 := 44) rfl (fun _ _ _ h9 => lv_aload_n hx hb d_X_run_43 rfl h9) ?_
            refine gj_ld (i := 1) (pc2 := 45) rfl (fun _ _ _ h9 => lv_iload_n hx hb d_X_run_44 rfl h9) ?_
            refine gj_ld (i := 2) (pc2 := 46) rfl (fun _ _ _ h9 => lv_iload_n hx hb d_X_run_45 rfl h9) ?_
            refine gj_l (pc2 := 47) (fun _ _ _ => lv_isub hx hb d_X_run_46) ?_
            rw [pk_sub (a := N) (b := d) (by omega)]
            refine bj_vi F k_X_doBlock d_X_run_47 q_242 (bw_at (i := 0) (by omega)) rfl (ct_X_doBlock _) (rmo rfl) rfl rfl (Nat.le_of_ble_eq_true rfl) (Nat.zero_le _) (Nat.zero_le _) rfl (fun r9 u9 e9 => ?_)
            obtain ⟨rfl, rfl⟩ := e9
            refine gj_l (pc2 := 51) (fun _ _ _ => lv_iadd hx hb d_X_run_50) ?_
            rw [nI_add]
            refine gj_st (i := 2) (pc2 := 52) (Nat.le_of_ble_eq_true rfl) rfl (fun _ _ _ _ _ h9 l9 => lv_istore_n hx hb d_X_run_51 rfl h9 (Nat.le_of_ble_eq_true rfl) l9) ?_
            refine gj_iinc (pc2 := 55) hx hb d_X_run_52 (Nat.le_of_ble_eq_true rfl) rfl (nI_1 q) rfl ?_
            refine gj_l (pc2 := 25) (fun _ _ _ => lv_goto (tgt := 25) hx hb d_X_run_55 (by decide)) ?_
            exact ih g (q + 1, d + (dbO τ (nI (N - d))).2, (dbO τ (nI (N - d))).1) rfl ⟨by dsimp only; omega, by have := dbO_le τ (m := N - d) (by omega); dsimp only; omega, hR⟩
    · exact gx_throw (text := "not 1 to 100 steps") F ht hl rfl xh_fit.2.1 q_183 q_8 (by decide +kernel) xh_Ia1 xh_Ia2 xh_Ia3 d_X_run_11 d_X_run_14 d_X_run_15 d_X_run_17 d_X_run_20 (Nat.le_of_ble_eq_true rfl) (Nat.le_of_ble_eq_true rfl) (Nat.le_of_ble_eq_true rfl) (Nat.le_of_ble_eq_true rfl) (Nat.le_of_ble_eq_true rfl) (Nat.le_of_ble_eq_true rfl) ⟨rfl, by first | exact Or.inl h2 | exact Or.inr h8, rfl⟩
end
section
/-! the world of the reference: 7 cells. 0: the object, 1: memory, 2: registers, 3: kept, 4: places, 5: words, 6: bytes -/
def mw_f (a : Nat → Nat) (r : Nat → Int32) : List Value := [.int (r 0), .ref (a 1), .ref (a 2), .int (r 3), .int (r 4), .int (r 5), .int (r 6), .ref (a 3), .ref (a 4), .ref (a 5), .ref (a 6), .int (r 11), .int (r 12), .int (r 13), .int (r 14), .int (r 15), .int (r 16), .int (r 17), .int (r 18)]
def mw_e (a : Nat → Nat) (cI cZ : ClassId) (τ : St) (i : Nat) : va_E := match i with
  | 0 => .inr (kM, mw_f a (τ 0))
  | 1 => .inl (cI, 1024, .inl (τ 1))
  | 2 => .inl (cI, 8, .inl (τ 2))
  | 3 => .inl (cZ, 32, .inl (τ 3))
  | i + 4 => .inl (cI, 32, .inl (τ (i + 4)))
def mw (a : Nat → Nat) (cI cZ : ClassId) (τ : St) : va_W := (List.range 7).map (fun i => (a i, mw_e a cI cZ τ i))
theorem fM_1 (k : Nat) : (fM k).1 = rM := by unfold fM; split <;> rfl
section MW
variable {a : Nat → Nat} {cI cZ : ClassId} {τ : St}
theorem mw_at {i : Nat} (h : i < 7) : (mw a cI cZ τ)[i]? = some (a i, mw_e a cI cZ τ i) := by
  unfold mw
  rw [List.getElem?_map, List.getElem?_range h]
  rfl
theorem mw_e_up {i k : Nat} {f : Nat → Int32} (h : k ≠ i) : mw_e a cI cZ (va_up τ i f) k = mw_e a cI cZ τ k := by
  have e : va_up τ i f k = τ k := va_up_ne _ _ h
  match k, e with
  | 0, e => simp only [mw_e, e]
  | 1, e => simp only [mw_e, e]
  | 2, e => simp only [mw_e, e]
  | 3, e => simp only [mw_e, e]
  | k + 4, e => simp only [mw_e, e]
theorem mw_set {i : Nat} {f : Nat → Int32} {x : va_E} (h : i < 7) (hx : mw_e a cI cZ (va_up τ i f) i = x) : (mw a cI cZ τ).set i (a i, x) = mw a cI cZ (va_up τ i f) := by
  subst hx
  have hl : (mw a cI cZ τ).length = 7 := by simp [mw]
  apply List.ext_getElem?
  intro k
  by_cases hk : k = i
  · subst hk
    rw [List.getElem?_set_self (by omega), mw_at h]
  · rw [List.getElem?_set_ne (Ne.symm hk)]
    by_cases hl2 : k < 7
    · rw [mw_at hl2, mw_at hl2, mw_e_up hk]
    · rw [List.getElem?_eq_none (by omega), List.getElem?_eq_none (by simp [mw]; omega)]
end MW
def mI (k : Nat) : Bool := k == 0 || k == 3 || k == 4 || k == 11 || k == 13 || k == 14 || k == 15 || k == 16 || k == 17 || k == 18
def mZ (k : Nat) : Bool := k == 5 || k == 6 || k == 12
def mR (k : Nat) : Nat := if k = 1 then 1 else if k = 2 then 2 else k - 4
theorem mI_c {k : Nat} (h : mI k = true) : k = 0 ∨ k = 3 ∨ k = 4 ∨ k = 11 ∨ k = 13 ∨ k = 14 ∨ k = 15 ∨ k = 16 ∨ k = 17 ∨ k = 18 := by
  simp only [mI, Bool.or_eq_true, beq_iff_eq] at h
  omega
theorem mZ_c {k : Nat} (h : mZ k = true) : k = 5 ∨ k = 6 ∨ k = 12 := by
  simp only [mZ, Bool.or_eq_true, beq_iff_eq] at h
  omega
theorem mw_f_get {a : Nat → Nat} {r : Nat → Int32} {k : Nat} (h : (mI k || mZ k) = true) : (mw_f a r)[k]? = some (.int (r k)) := by
  rcases (Bool.or_eq_true _ _ ▸ h : mI k = true ∨ mZ k = true) with h | h
  · rcases mI_c h with rfl | rfl | rfl | rfl | rfl | rfl | rfl | rfl | rfl | rfl <;> rfl
  · rcases mZ_c h with rfl | rfl | rfl <;> rfl
theorem mw_f_put {a : Nat → Nat} {r : Nat → Int32} {k : Nat} {v : Int32} (h : (mI k || mZ k) = true) : (mw_f a r).set k (.int v) = mw_f a (upd r k v) := by
  rcases (Bool.or_eq_true _ _ ▸ h : mI k = true ∨ mZ k = true) with h | h
  · rcases mI_c h with rfl | rfl | rfl | rfl | rfl | rfl | rfl | rfl | rfl | rfl <;> simp [mw_f, upd]
  · rcases mZ_c h with rfl | rfl | rfl <;> simp [mw_f, upd]
section MJ
variable {p : Program} {l : Launch} {e : Env} {R : Room} {s : State} {m : MethodId} {args : Array Value} {below : List Frame} {meth : Method} {c : Code} {cells slots : Nat} {Q : State → Prop}
variable {D : va_G} {A : Nat → Prop} {H0 : Heap} {n : Nat} {w0 : va_W} {pc pc2 : Nat} {L rest : List Value} {cc : ByteArray} {ret : Option FieldType} {y : MethodName} {c0 : Cond} {cI cB cZ cJ : ClassId} {a : Nat → Nat} {τ : St}
theorem mj_gr (F : GF p s m args meth c cc n ret y (c0 :: tbW) D vCl (TY cI cB cZ cJ) w0) {idx : Nat} (k : Nat) (hk : (k == 1 || k == 2 || k == 7 || k == 8 || k == 9 || k == 10) = true) (hd : decode cc pc = .ok (.getfield idx, 3)) (hl : Cond.fieldLink y.cls idx rM (fM k).2.1 (fM k).2.2.1 ∈ tbW) (hp : pc + 3 = pc2)
    (kk : GJ p l e R s m args below meth c D vCl A H0 n Q cells slots (mw a cI cZ τ) pc2 L (.ref (a (mR k)) :: rest)) : GJ p l e R s m args below meth c D vCl A H0 n Q cells slots (mw a cI cZ τ) pc L (.ref (a 0) :: rest) := by
  subst hp
  simp only [Bool.or_eq_true, beq_iff_eq] at hk
  refine gj_m (fun ls H locs hP => va_get (D := D) (ci := kM) (v := .ref (a (mR k))) (C := rM) (T := fM) (N := 19) F.1 F.2.1 F.2.2.2.2.1 (fun w h => List.mem_cons_of_mem _ (iM w h)) F.2.2.2.1 F.K hP 0 (mw_at (by omega)) rfl k (by omega) (F.w hl) (fun _ h9 => by rw [fM_1] at h9; exact h9) ?_ hd) kk
  rcases (show k = 1 ∨ k = 2 ∨ k = 7 ∨ k = 8 ∨ k = 9 ∨ k = 10 by omega) with rfl | rfl | rfl | rfl | rfl | rfl <;> rfl
theorem mj_gi (F : GF p s m args meth c cc n ret y (c0 :: tbW) D vCl (TY cI cB cZ cJ) w0) {idx : Nat} (k : Nat) (hk : (mI k || mZ k) = true) (hd : decode cc pc = .ok (.getfield idx, 3)) (hl : Cond.fieldLink y.cls idx rM (fM k).2.1 (fM k).2.2.1 ∈ tbW) (hp : pc + 3 = pc2)
    (kk : GJ p l e R s m args below meth c D vCl A H0 n Q cells slots (mw a cI cZ τ) pc2 L (.int (τ 0 k) :: rest)) : GJ p l e R s m args below meth c D vCl A H0 n Q cells slots (mw a cI cZ τ) pc L (.ref (a 0) :: rest) := by
  subst hp
  have hk9 : k < 19 := by
    rcases (Bool.or_eq_true _ _ ▸ hk : mI k = true ∨ mZ k = true) with h | h
    · have := mI_c h; omega
    · have := mZ_c h; omega
  exact gj_m (fun ls H locs hP => va_get (D := D) (ci := kM) (v := .int (τ 0 k)) (C := rM) (T := fM) (N := 19) F.1 F.2.1 F.2.2.2.2.1 (fun w h => List.mem_cons_of_mem _ (iM w h)) F.2.2.2.1 F.K hP 0 (mw_at (by omega)) rfl k hk9 (F.w hl) (fun _ h9 => by rw [fM_1] at h9; exact h9) (mw_f_get hk) hd) kk
theorem mj_set {k : Nat} {v : Int32} (hk : (mI k || mZ k) = true) : (mw a cI cZ τ).set 0 (a 0, .inr (kM, (mw_f a (τ 0)).set k (.int v))) = mw a cI cZ (s2 τ 0 k v) :=
  mw_set (by omega) (by rw [mw_f_put hk]; show Sum.inr (kM, mw_f a (va_up τ 0 (upd (τ 0) k v) 0)) = _; rw [va_up_self])
theorem mj_pi (F : GF p s m args meth c cc n ret y (c0 :: tbW) D vCl (TY cI cB cZ cJ) w0) {idx : Nat} (k : Nat) (hk : mI k = true) {v : Int32} (hd : decode cc pc = .ok (.putfield idx, 3)) (hl : Cond.fieldLink y.cls idx rM (fM k).2.1 (fM k).2.2.1 ∈ tbW) (hp : pc + 3 = pc2)
    (kk : GJ p l e R s m args below meth c D vCl A H0 n Q cells slots (mw a cI cZ (s2 τ 0 k v)) pc2 L rest) : GJ p l e R s m args below meth c D vCl A H0 n Q cells slots (mw a cI cZ τ) pc L (.int v :: .ref (a 0) :: rest) := by
  subst hp
  have h19 : k < 19 := by have := mI_c hk; omega
  have ef : (fM k).2.2.2 = false ∧ parseFieldDescriptor (fM k).2.2.1 = some .int := by
    rcases mI_c hk with rfl | rfl | rfl | rfl | rfl | rfl | rfl | rfl | rfl | rfl <;> decide +kernel
  refine gj_p (w2 := mw a cI cZ (s2 τ 0 k v)) (fun ls H locs hP hD hS kx => va_put (D := D) (ci := kM) (v := .int v) (ty := .int) (C := rM) (T := fM) (N := 19) F.1 F.2.1 F.2.2.2.2.1 (fun w h => List.mem_cons_of_mem _ (iM w h)) tM tM_ok nM F.2.2.2.1 F.K hP hD hS 0 (fs := mw_f a (τ 0)) (mw_at (by omega)) rfl k h19 (F.w hl) (fun _ h9 => by rw [fM_1] at h9; exact h9) ef.1 ef.2 rfl rfl (by show k < (mw_f a (τ 0)).length; exact h19) hd (fun H1 locs1 g1 g2 g3 => ?_)) kk
  rw [mj_set (by rw [hk]; rfl)] at g1 g2
  exact kx H1 locs1 g1 g2 g3
theorem mj_pz (F : GF p s m args meth c cc n ret y (c0 :: tbW) D vCl (TY cI cB cZ cJ) w0) {idx : Nat} (k : Nat) (hk : mZ k = true) {v : Int32} (hv : narrow .boolean (.int v) = .int v ∧ fits .boolean (.int v) = true) (hd : decode cc pc = .ok (.putfield idx, 3)) (hl : Cond.fieldLink y.cls idx rM (fM k).2.1 (fM k).2.2.1 ∈ tbW) (hp : pc + 3 = pc2)
    (kk : GJ p l e R s m args below meth c D vCl A H0 n Q cells slots (mw a cI cZ (s2 τ 0 k v)) pc2 L rest) : GJ p l e R s m args below meth c D vCl A H0 n Q cells slots (mw a cI cZ τ) pc L (.int v :: .ref (a 0) :: rest) := by
  subst hp
  have h19 : k < 19 := by have := mZ_c hk; omega
  have ef : (fM k).2.2.2 = false ∧ parseFieldDescriptor (fM k).2.2.1 = some .boolean := by
    rcases mZ_c hk with rfl | rfl | rfl <;> decide +kernel
  refine gj_p (w2 := mw a cI cZ (s2 τ 0 k v)) (fun ls H locs hP hD hS kx => va_put (D := D) (ci := kM) (v := .int v) (ty := .boolean) (C := rM) (T := fM) (N := 19) F.1 F.2.1 F.2.2.2.2.1 (fun w h => List.mem_cons_of_mem _ (iM w h)) tM tM_ok nM F.2.2.2.1 F.K hP hD hS 0 (fs := mw_f a (τ 0)) (mw_at (by omega)) rfl k h19 (F.w hl) (fun _ h9 => by rw [fM_1] at h9; exact h9) ef.1 ef.2 hv.1 hv.2 (by show k < (mw_f a (τ 0)).length; exact h19) hd (fun H1 locs1 g1 g2 g3 => ?_)) kk
  rw [mj_set (by rw [hk, Bool.or_true])] at g1 g2
  exact kx H1 locs1 g1 g2 g3
theorem mj_ld (F : GF p s m args meth c cc n ret y (c0 :: tbW) D vCl (TY cI cB cZ cJ) w0) (r N i : Nat) (hr : r < 7) (he : mw_e a cI cZ τ r = .inl (cI, N, .inl (τ r))) (hN : N < 2 ^ 31) {x : Int32} (hx : x = nI i) (hi : i < N) (hd : decode cc pc = .ok (.iaload, 1)) (hp : pc + 1 = pc2)
    (kk : GJ p l e R s m args below meth c D vCl A H0 n Q cells slots (mw a cI cZ τ) pc2 L (.int (τ r i) :: rest)) : GJ p l e R s m args below meth c D vCl A H0 n Q cells slots (mw a cI cZ τ) pc L (.int x :: .ref (a r) :: rest) := by
  subst hp; subst hx
  refine gj_m (fun ls H locs hP kx => ?_) kk
  refine va_iald (D := D) F.1 F.2.1 F.K hP r 0 (by rw [mw_at hr, he]) rfl (vp_in_nI hi hN) hd ?_
  rw [nI_clamp (by omega)]
  exact kx
theorem mj_st (F : GF p s m args meth c cc n ret y (c0 :: tbW) D vCl (TY cI cB cZ cJ) w0) (r N i : Nat) (hr : r < 7) (he : ∀ υ : St, mw_e a cI cZ υ r = .inl (cI, N, .inl (υ r))) (hN : N < 2 ^ 31) {x v : Int32} (hx : x = nI i) (hi : i < N) (hd : decode cc pc = .ok (.iastore, 1)) (hp : pc + 1 = pc2)
    (kk : GJ p l e R s m args below meth c D vCl A H0 n Q cells slots (mw a cI cZ (s2 τ r i v)) pc2 L rest) : GJ p l e R s m args below meth c D vCl A H0 n Q cells slots (mw a cI cZ τ) pc L (.int v :: .int x :: .ref (a r) :: rest) := by
  subst hp; subst hx
  have e : (mw a cI cZ τ).set r (a r, .inl (cI, N, .inl (upd (τ r) i v))) = mw a cI cZ (s2 τ r i v) := mw_set hr (by rw [he, va_up_self])
  refine gj_p (w2 := mw a cI cZ (s2 τ r i v)) (fun ls H locs hP hD hS kx => ?_) kk
  refine va_iast (D := D) F.1 F.2.1 F.K hP hD hS r 0 (by rw [mw_at hr, he]) rfl (vp_in_nI hi hN) hd (fun H1 locs1 g1 g2 g3 => ?_)
  rw [nI_clamp (by omega), e] at g1 g2
  exact kx H1 locs1 g1 g2 g3
theorem mj_zl (F : GF p s m args meth c cc n ret y (c0 :: tbW) D vCl (TY cI cB cZ cJ) w0) (i : Nat) {x : Int32} (hx : x = nI i) (hi : i < 32) (hd : decode cc pc = .ok (.baload, 1)) (hp : pc + 1 = pc2)
    (kk : GJ p l e R s m args below meth c D vCl A H0 n Q cells slots (mw a cI cZ τ) pc2 L (.int (τ 3 i) :: rest)) : GJ p l e R s m args below meth c D vCl A H0 n Q cells slots (mw a cI cZ τ) pc L (.int x :: .ref (a 3) :: rest) := by
  subst hp; subst hx
  refine gj_m (fun ls H locs hP kx => ?_) kk
  refine va_zald (D := D) F.1 F.2.1 F.K hP 3 2 (f := τ 3) (by rw [mw_at (by omega)]; rfl) rfl (vp_in_nI hi (by omega)) hd ?_
  rw [nI_clamp (by omega)]
  exact kx
theorem mj_zs (F : GF p s m args meth c cc n ret y (c0 :: tbW) D vCl (TY cI cB cZ cJ) w0) (i : Nat) {x v : Int32} (hx : x = nI i) (hi : i < 32) (hv : vp_nar .boolean v = v) (hd : decode cc pc = .ok (.bastore, 1)) (hp : pc + 1 = pc2)
    (kk : GJ p l e R s m args below meth c D vCl A H0 n Q cells slots (mw a cI cZ (s2 τ 3 i v)) pc2 L rest) : GJ p l e R s m args below meth c D vCl A H0 n Q cells slots (mw a cI cZ τ) pc L (.int v :: .int x :: .ref (a 3) :: rest) := by
  subst hp; subst hx
  have e : (mw a cI cZ τ).set 3 (a 3, .inl (cZ, 32, .inl (upd (τ 3) i v))) = mw a cI cZ (s2 τ 3 i v) := mw_set (by omega) (by show Sum.inl (cZ, 32, Sum.inl (va_up τ 3 (upd (τ 3) i v) 3)) = _; rw [va_up_self])
  refine gj_p (w2 := mw a cI cZ (s2 τ 3 i v)) (fun ls H locs hP hD hS kx => ?_) kk
  refine va_zast (D := D) F.1 F.2.1 F.K hP hD hS 3 2 (f := τ 3) (by rw [mw_at (by omega)]; rfl) rfl (vp_in_nI hi (by omega)) hd (fun H1 locs1 g1 g2 g3 => ?_)
  rw [nI_clamp (by omega), hv, e] at g1 g2
  exact kx H1 locs1 g1 g2 g3
end MJ
theorem bN_f (b : Bool) : narrow .boolean (.int (bN b)) = .int (bN b) ∧ fits .boolean (.int (bN b)) = true := by cases b <;> exact ⟨rfl, rfl⟩
end
section
/-! what the reference's methods do, as functions of its rows of numbers -/
def inR (x a b : Int32) : Bool := !decide (x < a) && !decide (b < x)
def thN (o t : Int32) : Int32 := if o = 0 then (if t = 0 then 0 else 2) else 1
def mTo (τ : St) (k : Nat) : St := s2 (s2 τ 3 k 0) 0 16 (s2 τ 3 k 0 0 16 + 1)
def mHas (τ : St) (k : Nat) (x : Int32) : Bool := !decide (τ 3 k = 0) && (!decide (x < τ 4 k) && decide (x < τ 4 k + τ 6 k))
def mWs (i : Nat) (τ : St) (k : Nat) : St := if mHas τ k (nI i) then s2 (mTo τ k) 0 12 (bN (!decide (mTo τ k 0 12 = 0) || decide (nI k = mTo τ k 0 11))) else τ
def mWl (τ : St) (i : Nat) : Nat → St
  | 0 => τ
  | n + 1 => mWs i (mWl τ i n) n
def mWr (τ : St) (i : Nat) (v : Int32) : St := mWl (s2 τ 1 i v) i 32
def bm4 (v : Int32) (n : Nat) : Int32 := (v >>> ((24 - 8 * nI n) &&& 31)) &&& 255
def m4L (τ : St) (i : Nat) (v : Int32) : Nat → St
  | 0 => τ
  | n + 1 => mWr (m4L τ i v n) (i + n) (bm4 v n)
def szO (k : Int32) : Int32 := if k = 0 ∨ k = 10 ∨ ¬ k ≤ 11 then 1 else 2
def kdM (τ : St) (x : Int32) : Int32 := if inM x then τ 1 x.toNatClampNeg >>> ((4 : Int32) &&& 31) else -1
def ftM (τ : St) (x : Int32) : Int32 := if ¬ 0 ≤ kdM τ x then 3 else if ¬ kdM τ x ≤ 11 then 2 else if inM (x + szO (kdM τ x) - 1) then 0 else 3
/-- at, more, words so far -/
def mkT (τ : St) : Nat → Int32 × Bool × Nat
  | 0 => (τ 0 3, true, 0)
  | t + 1 => let q := mkT τ t
    if q.2.1 then (q.1 + (if 0 ≤ kdM τ q.1 then szO (kdM τ q.1) else 0), !decide (12 ≤ q.2.2 + 1) && (!decide (kdM τ q.1 = 0) && (!decide (kdM τ q.1 = 7) && decide (ftM τ q.1 = 0))), q.2.2 + 1) else q
def mkA (τ : St) (k n : Nat) (v : Int32) : St :=
  let τ1 := s2 τ 3 k 1
  let τ2 := s2 τ1 4 k (τ1 0 3)
  let τ3 := s2 τ2 5 k (nI n)
  s2 τ3 6 k (v - τ3 0 3)
def mkZ (τ : St) (n : Nat) : St :=
  let τ6 := s2 τ 0 14 (τ 0 14 + 1)
  s2 τ6 0 18 (τ6 0 18 + nI n)
def mkM (τ : St) (k : Nat) : St :=
  let q := mkT τ 12
  let A := mkA τ k q.2.2 (if q.1 ≤ 1024 then q.1 else 1024)
  mkZ (if inM (A 0 3) then A else s2 A 6 k 0) q.2.2
def fi1 (τ : St) : St := s2 τ 0 11 (τ 0 3 &&& 31)
def fiM (τ : St) : St := if ¬ fi1 τ 3 (kAt (τ 0 3)) = 0 ∧ fi1 τ 4 (kAt (τ 0 3)) = τ 0 3 then s2 (fi1 τ) 0 15 (fi1 τ 0 15 + 1) else mkM (fi1 τ) (kAt (τ 0 3))
def beM (τ : St) (r : Nat) (v : Int32) : St := s2 (s2 (s2 τ 2 r v) 0 5 (bN (decide (v = 0)))) 0 6 (bN (!decide (0 ≤ v)))
def hoM (τ : St) (c : Int32) : Int32 := if c = 0 then 1 else if c = 1 then τ 0 5 else if c = 2 then (if τ 0 5 = 0 then 1 else 0) else if c = 3 then τ 0 6 else if c = 4 then (if τ 0 6 = 0 then 1 else 0) else 0
def woM (τ : St) (kd : Int32) (r : Nat) (sv nr : Int32) : St :=
  if kd = 1 then s2 τ 2 r nr
  else if kd = 2 then beM τ r (τ 2 r + sv)
  else if kd = 3 then beM τ r (τ 2 r - sv)
  else if kd = 4 then s2 τ 2 r (τ 1 sv.toNatClampNeg)
  else if kd = 5 then mWr (s2 τ 0 17 (τ 0 17 + 1)) sv.toNatClampNeg (τ 2 r &&& 255)
  else if kd = 6 then beM τ r (τ 2 r &&& sv)
  else if kd = 8 then s2 τ 2 r sv
  else if kd = 9 then beM τ r (τ 2 r * sv)
  else if kd = 10 then beM τ r (τ 2 r >>> ((1 : Int32) &&& 31))
  else s2 (beM τ r (τ 2 r - sv)) 2 r (τ 2 r)
def dN (τ : St) : Int32 := if szO (kdM τ (τ 0 3)) = 2 then τ 1 (τ 0 3 + 1).toNatClampNeg else 0
def dSv (τ : St) : Int32 := τ 2 (lo3 (dN τ))
def dNr (τ : St) : Int32 := if dN τ ≤ 127 then dN τ else dN τ - 256
def dCo (τ : St) : Int32 := τ 1 (τ 0 3).toNatClampNeg &&& 15
def dKd (τ : St) : Int32 := kdM τ (τ 0 3)
def dPl (τ : St) : St := s2 τ 0 3 (τ 0 3 + szO (dKd τ))
/-- does(): the state behind it, whether it was a step -/
def doM (τ : St) : St × Bool :=
  if ¬ ftM τ (τ 0 3) ≤ 0 then (s2 τ 0 4 (1 + ftM τ (τ 0 3)), false)
  else if dKd τ = 0 then (s2 τ 0 4 1, false)
  else if (dKd τ = 4 ∨ dKd τ = 5) ∧ inM (dSv τ) = false then (s2 τ 0 4 (1 + 1), false)
  else if dKd τ = 7 then (s2 (dPl τ) 0 3 (dPl τ 0 3 + (if hoM (dPl τ) (dCo τ) = 0 then 0 else dNr τ)), true)
  else (woM (dPl τ) (dKd τ) (lo3 (τ 1 (τ 0 3).toNatClampNeg)) (dSv τ) (dNr τ), true)
/-- the inner loop: words left, steps done -/
def inL (n : Nat) : Nat → Nat → St → St × Nat
  | 0, d, τ => (τ, d)
  | f + 1, d, τ => if τ 0 4 = 0 ∧ d < n ∧ τ 0 12 = 0 then inL n f (d + (if (doM τ).2 then 1 else 0)) (doM τ).1 else (τ, d)
def ouS (τ : St) : St := s2 (fiM τ) 0 12 0
def rgM (τ : St) (x : Int32) : Int32 := if x < 8 then τ 2 (lo3 x) else if x = 8 then τ 0 3 else if x = 9 then (if τ 0 5 = 0 then 0 else 1) else if x = 10 then (if τ 0 6 = 0 then 0 else 1) else τ 0 4
def rwM (τ : St) (k : Nat) (z : Int32) : Int32 := if τ 3 k = 0 then (if z = 0 then -1 else 0) else if z = 0 then τ 4 k else if z = 1 then τ 5 k else τ 6 k
def mNt (τ : St) : Nat → Int32
  | 0 => 0
  | n + 1 => mNt τ n + (if τ 3 n = 0 then 0 else 1)
def mfS (τ : St) : Nat → St
  | 0 => τ
  | n + 1 => if mfS τ n 3 n = 0 then mfS τ n else mTo (mfS τ n) n
def mfN (τ : St) : Nat → Int32
  | 0 => 0
  | n + 1 => if mfS τ n 3 n = 0 then mfN τ n else mfN τ n + 1
def cnM (τ : St) (x : Int32) : Int32 := if x = 0 then τ 0 13 else if x = 1 then τ 0 14 else if x = 2 then τ 0 15 else if x = 3 then τ 0 16 else if x = 4 then mNt τ 32 else if x = 5 then τ 0 17 else if x = 6 then τ 0 18 else -1
theorem inR_inM (x : Int32) : inR x 0 1023 = inM x := by
  have h : (1023 : Int32) < x ↔ (1024 : Int32) ≤ x := by
    rw [Int32.lt_iff_toInt_lt, Int32.le_iff_toInt_le]
    have e1 : (1023 : Int32).toInt = 1023 := by decide
    have e2 : (1024 : Int32).toInt = 1024 := by decide
    omega
  simp only [inR, inM, h]
theorem mkT_on {τ : St} {t : Nat} (h : (mkT τ t).2.1 = true) : mkT τ (t + 1) = ((mkT τ t).1 + (if 0 ≤ kdM τ (mkT τ t).1 then szO (kdM τ (mkT τ t).1) else 0), !decide (12 ≤ (mkT τ t).2.2 + 1) && (!decide (kdM τ (mkT τ t).1 = 0) && (!decide (kdM τ (mkT τ t).1 = 7) && decide (ftM τ (mkT τ t).1 = 0))), (mkT τ t).2.2 + 1) := by
  show (if (mkT τ t).2.1 then _ else _) = _
  rw [if_pos h]
theorem mkT_off {τ : St} {t : Nat} (h : (mkT τ t).2.1 = false) : ∀ n : Nat, mkT τ (t + n) = mkT τ t := by
  intro n
  induction n with
  | zero => rfl
  | succ n ih =>
    show (if (mkT τ (t + n)).2.1 then _ else mkT τ (t + n)) = _
    rw [ih, if_neg (by rw [h]; decide)]
theorem szO_c (k : Int32) : szO k = 1 ∨ szO k = 2 := by unfold szO; split <;> simp
end
section
theorem inR_7 {x : Int32} (h : inR x 0 7 = true) : ∃ i : Nat, i < 8 ∧ x = nI i := by
  simp only [inR, Bool.and_eq_true, Bool.not_eq_true', decide_eq_false_iff_not] at h
  obtain ⟨i, h3, rfl⟩ := nI_of h.1
  exact ⟨i, by
    rcases Nat.lt_or_ge i 8 with z | z
    · exact z
    · exact absurd (nI_lt (a := 7) (b := i) (by omega) h3) h.2, rfl⟩

theorem k_M_in : CKS y_M_in c_M_in 3 (some .boolean) 3 := ⟨q_402, q_3, q_401, ⟨by decide +kernel, by decide +kernel, by decide +kernel⟩⟩
set_option maxHeartbeats 4000000 in
set_option maxRecDepth 100000 in
theorem ct_M_in {l : Launch} {D : va_G} {cI cB cZ cJ : ClassId} (x y z : Int32) : GCi l y_M_in (Cond.code y_M_in c_M_in 3 (some .boolean) :: tbW) ({ frames := 0, cells := 0, slots := 0, locals := 0 }) 0 0 D vCl (TY cI cB cZ cJ) [.int x, .int y, .int z] [] (fun r u => r = bN (inR x y z) ∧ u = []) := by
  refine gc_body (Qc := gc_Qi D vCl (TY cI cB cZ cJ) [] (fun r u => r = bN (inR x y z) ∧ u = [])) (cc := c_M_in) (maxL := 3) (ret := (some .boolean)) (by decide) rfl (by simp [Value.category]) (Nat.le_of_ble_eq_true rfl) ?_
  intro p e s m args below meth c F
  have hx := F.1
  have hb := F.2.1
  refine gj_ld (i := 0) (pc2 := 1) rfl (fun _ _ _ h9 => lv_iload_n hx hb d_M_in_0 rfl h9) ?_
  refine gj_ld (i := 1) (pc2 := 2) rfl (fun _ _ _ h9 => lv_iload_n hx hb d_M_in_1 rfl h9) ?_
  refine gj_if (pc2 := 14) (pc3 := 5) (fun _ _ _ => lv_icmp_lt (tgt := 14) hx hb d_M_in_2 (by decide)) (fun h2 => ?_) (fun h2 => ?_)
  · refine gj_l (pc2 := 15) (fun _ _ _ => lv_iconst (v := 0) hx hb d_M_in_14 (by decide)) ?_
    exact gj_zret F d_M_in_15 (by first | rfl | exact bN_z _ | decide) (Nat.le_refl _) (Nat.le_refl _) ⟨by simp [inR, bN, h2], rfl⟩
  · refine gj_ld (i := 0) (pc2 := 6) rfl (fun _ _ _ h9 => lv_iload_n hx hb d_M_in_5 rfl h9) ?_
    refine gj_ld (i := 2) (pc2 := 7) rfl (fun _ _ _ h9 => lv_iload_n hx hb d_M_in_6 rfl h9) ?_
    refine gj_if (pc2 := 14) (pc3 := 10) (fun _ _ _ => lv_icmp_gt (tgt := 14) hx hb d_M_in_7 (by decide)) (fun h7 => ?_) (fun h7 => ?_)
    · refine gj_l (pc2 := 15) (fun _ _ _ => lv_iconst (v := 0) hx hb d_M_in_14 (by decide)) ?_
      exact gj_zret F d_M_in_15 (by first | rfl | exact bN_z _ | decide) (Nat.le_refl _) (Nat.le_refl _) ⟨by simp [inR, bN, h2, h7], rfl⟩
    · refine gj_l (pc2 := 11) (fun _ _ _ => lv_iconst (v := 1) hx hb d_M_in_10 (by decide)) ?_
      refine gj_l (pc2 := 15) (fun _ _ _ => lv_goto (tgt := 15) hx hb d_M_in_11 (by decide)) ?_
      exact gj_zret F d_M_in_15 (by first | rfl | exact bN_z _ | decide) (Nat.le_refl _) (Nat.le_refl _) ⟨by simp [inR, bN, h2, h7], rfl⟩

theorem k_M_isThere : CKS y_M_isThere c_M_isThere 1 (some .boolean) 1 := ⟨q_399, q_3, q_398, ⟨by decide +kernel, by decide +kernel, by decide +kernel⟩⟩
set_option maxHeartbeats 4000000 in
set_option maxRecDepth 100000 in
theorem ct_M_isThere {l : Launch} {D : va_G} {cI cB cZ cJ : ClassId} (x : Int32) : GCi l y_M_isThere (Cond.code y_M_isThere c_M_isThere 1 (some .boolean) :: tbW) ({ frames := 1, cells := 0, slots := 0, locals := 22 }) 0 0 D vCl (TY cI cB cZ cJ) [.int x] [] (fun r u => r = bN (inM x) ∧ u = []) := by
  refine gc_body (Qc := gc_Qi D vCl (TY cI cB cZ cJ) [] (fun r u => r = bN (inM x) ∧ u = [])) (cc := c_M_isThere) (maxL := 1) (ret := (some .boolean)) (by decide) rfl (by simp [Value.category]) (Nat.le_of_ble_eq_true rfl) ?_
  intro p e s m args below meth c F
  have hx := F.1
  have hb := F.2.1
  refine gj_ld (i := 0) (pc2 := 1) rfl (fun _ _ _ h9 => lv_iload_n hx hb d_M_isThere_0 rfl h9) ?_
  refine gj_l (pc2 := 2) (fun _ _ _ => lv_iconst (v := 0) hx hb d_M_isThere_1 (by decide)) ?_
  refine gj_l (pc2 := 5) (fun _ _ _ => lv_sipush (v := (1023)) hx hb d_M_isThere_2 (by decide)) ?_
  refine bj_s F k_M_in d_M_isThere_5 q_400 (ct_M_in _ _ _) (rmo rfl) rfl rfl (Nat.le_of_ble_eq_true rfl) (Nat.zero_le _) (Nat.zero_le _) rfl (fun r9 e9 => ?_)
  subst e9
  exact gj_zret F d_M_isThere_8 (by first | rfl | exact bN_z _ | decide) (Nat.le_refl _) (Nat.le_refl _) ⟨by rw [inR_inM], rfl⟩

theorem k_M_sizeOf : CKS y_M_sizeOf c_M_sizeOf 1 (some .int) 1 := ⟨q_449, q_3, q_448, ⟨by decide +kernel, by decide +kernel, by decide +kernel⟩⟩
set_option maxHeartbeats 4000000 in
set_option maxRecDepth 100000 in
theorem ct_M_sizeOf {l : Launch} {D : va_G} {cI cB cZ cJ : ClassId} (x : Int32) : GCi l y_M_sizeOf (Cond.code y_M_sizeOf c_M_sizeOf 1 (some .int) :: tbW) ({ frames := 0, cells := 0, slots := 0, locals := 0 }) 0 0 D vCl (TY cI cB cZ cJ) [.int x] [] (fun r u => r = szO x ∧ u = []) := by
  refine gc_body (Qc := gc_Qi D vCl (TY cI cB cZ cJ) [] (fun r u => r = szO x ∧ u = [])) (cc := c_M_sizeOf) (maxL := 1) (ret := (some .int)) (by decide) rfl (by simp [Value.category]) (Nat.le_of_ble_eq_true rfl) ?_
  intro p e s m args below meth c F
  have hx := F.1
  have hb := F.2.1
  refine gj_ld (i := 0) (pc2 := 1) rfl (fun _ _ _ h9 => lv_iload_n hx hb d_M_sizeOf_0 rfl h9) ?_
  refine gj_if (pc2 := 16) (pc3 := 4) (fun _ _ _ => lv_if_eq (tgt := 16) hx hb d_M_sizeOf_1 (by decide)) (fun h1 => ?_) (fun h1 => ?_)
  · refine gj_l (pc2 := 17) (fun _ _ _ => lv_iconst (v := 1) hx hb d_M_sizeOf_16 (by decide)) ?_
    refine gj_l (pc2 := 21) (fun _ _ _ => lv_goto (tgt := 21) hx hb d_M_sizeOf_17 (by decide)) ?_
    exact gj_iret F d_M_sizeOf_21 (Nat.le_refl _) (Nat.le_refl _) ⟨by simp [szO, h1], rfl⟩
  · refine gj_ld (i := 0) (pc2 := 5) rfl (fun _ _ _ h9 => lv_iload_n hx hb d_M_sizeOf_4 rfl h9) ?_
    refine gj_l (pc2 := 7) (fun _ _ _ => lv_bipush (v := (10)) hx hb d_M_sizeOf_5 (by decide)) ?_
    refine gj_if (pc2 := 16) (pc3 := 10) (fun _ _ _ => lv_icmp_eq (tgt := 16) hx hb d_M_sizeOf_7 (by decide)) (fun h7 => ?_) (fun h7 => ?_)
    · refine gj_l (pc2 := 17) (fun _ _ _ => lv_iconst (v := 1) hx hb d_M_sizeOf_16 (by decide)) ?_
      refine gj_l (pc2 := 21) (fun _ _ _ => lv_goto (tgt := 21) hx hb d_M_sizeOf_17 (by decide)) ?_
      exact gj_iret F d_M_sizeOf_21 (Nat.le_refl _) (Nat.le_refl _) ⟨by simp [szO, h1, h7], rfl⟩
    · refine gj_ld (i := 0) (pc2 := 11) rfl (fun _ _ _ h9 => lv_iload_n hx hb d_M_sizeOf_10 rfl h9) ?_
      refine gj_l (pc2 := 13) (fun _ _ _ => lv_bipush (v := (11)) hx hb d_M_sizeOf_11 (by decide)) ?_
      refine gj_if (pc2 := 20) (pc3 := 16) (fun _ _ _ => lv_icmp_le (tgt := 20) hx hb d_M_sizeOf_13 (by decide)) (fun h13 => ?_) (fun h13 => ?_)
      · refine gj_l (pc2 := 21) (fun _ _ _ => lv_iconst (v := 2) hx hb d_M_sizeOf_20 (by decide)) ?_
        exact gj_iret F d_M_sizeOf_21 (Nat.le_refl _) (Nat.le_refl _) ⟨by simp [szO, h1, h7, h13], rfl⟩
      · refine gj_l (pc2 := 17) (fun _ _ _ => lv_iconst (v := 1) hx hb d_M_sizeOf_16 (by decide)) ?_
        refine gj_l (pc2 := 21) (fun _ _ _ => lv_goto (tgt := 21) hx hb d_M_sizeOf_17 (by decide)) ?_
        exact gj_iret F d_M_sizeOf_21 (Nat.le_refl _) (Nat.le_refl _) ⟨by simp [szO, h1, h7, h13], rfl⟩

theorem k_M_thrown : CKV y_M_thrown c_M_thrown 1 (some .int) 0 := ⟨q_392, q_3, q_390, q_391, ⟨by decide +kernel, by decide +kernel, by decide +kernel⟩⟩
set_option maxHeartbeats 4000000 in
set_option maxRecDepth 100000 in
theorem ct_M_thrown {l : Launch} {D : va_G} {cI cB cZ cJ : ClassId} {a : Nat → Nat} {τ : St}  : GCi l y_M_thrown (Cond.code y_M_thrown c_M_thrown 1 (some .int) :: tbW) ({ frames := 0, cells := 0, slots := 0, locals := 0 }) 0 0 D vCl (TY cI cB cZ cJ) [.ref (a 0)] (mw a cI cZ τ) (fun r u => r = τ 0 0 ∧ u = (mw a cI cZ τ)) := by
  refine gc_body (Qc := gc_Qi D vCl (TY cI cB cZ cJ) (mw a cI cZ τ) (fun r u => r = τ 0 0 ∧ u = (mw a cI cZ τ))) (cc := c_M_thrown) (maxL := 1) (ret := (some .int)) (by decide) rfl (by simp [Value.category]) (Nat.le_of_ble_eq_true rfl) ?_
  intro p e s m args below meth c F
  have hx := F.1
  have hb := F.2.1
  refine gj_ld (i := 0) (pc2 := 1) rfl (fun _ _ _ h9 => lv_aload_n hx hb d_M_thrown_0 rfl h9) ?_
  refine mj_gi F 0 rfl d_M_thrown_1 q_330 rfl ?_
  exact gj_iret F d_M_thrown_4 (Nat.le_refl _) (Nat.le_refl _) ⟨rfl, rfl⟩

theorem k_M_throwing : CKV y_M_throwing c_M_throwing 3 (some .boolean) 2 := ⟨q_406, q_3, q_405, sl_M_throwing, ⟨by decide +kernel, by decide +kernel, by decide +kernel⟩⟩
set_option maxHeartbeats 4000000 in
set_option maxRecDepth 100000 in
theorem ct_M_throwing {l : Launch} {D : va_G} {cI cB cZ cJ : ClassId} {a : Nat → Nat} {τ : St} (o t : Int32) : GCi l y_M_throwing (Cond.code y_M_throwing c_M_throwing 3 (some .boolean) :: tbW) ({ frames := 0, cells := 0, slots := 0, locals := 0 }) 0 0 D vCl (TY cI cB cZ cJ) [.ref (a 0), .int o, .int t] (mw a cI cZ τ) (fun r u => r = bN (!decide (thN o t = 0)) ∧ u = mw a cI cZ (s2 τ 0 0 (thN o t))) := by
  refine gc_body (Qc := gc_Qi D vCl (TY cI cB cZ cJ) (mw a cI cZ τ) (fun r u => r = bN (!decide (thN o t = 0)) ∧ u = mw a cI cZ (s2 τ 0 0 (thN o t)))) (cc := c_M_throwing) (maxL := 3) (ret := (some .boolean)) (by decide) rfl (by simp [Value.category]) (Nat.le_of_ble_eq_true rfl) ?_
  intro p e s m args below meth c F
  have hx := F.1
  have hb := F.2.1
  refine gj_ld (i := 0) (pc2 := 1) rfl (fun _ _ _ h9 => lv_aload_n hx hb d_M_throwing_0 rfl h9) ?_
  refine gj_ld (i := 1) (pc2 := 2) rfl (fun _ _ _ h9 => lv_iload_n hx hb d_M_throwing_1 rfl h9) ?_
  refine gj_if (pc2 := 9) (pc3 := 5) (fun _ _ _ => lv_if_eq (tgt := 9) hx hb d_M_throwing_2 (by decide)) (fun h2 => ?_) (fun h2 => ?_)
  · refine gj_ld (i := 2) (pc2 := 10) rfl (fun _ _ _ h9 => lv_iload_n hx hb d_M_throwing_9 rfl h9) ?_
    refine gj_if (pc2 := 17) (pc3 := 13) (fun _ _ _ => lv_if_eq (tgt := 17) hx hb d_M_throwing_10 (by decide)) (fun h10 => ?_) (fun h10 => ?_)
    · refine gj_l (pc2 := 18) (fun _ _ _ => lv_iconst (v := 0) hx hb d_M_throwing_17 (by decide)) ?_
      refine mj_pi F 0 rfl d_M_throwing_18 q_330 rfl ?_
      refine gj_ld (i := 0) (pc2 := 22) rfl (fun _ _ _ h9 => lv_aload_n hx hb d_M_throwing_21 rfl h9) ?_
      refine mj_gi F 0 rfl d_M_throwing_22 q_330 rfl ?_
      refine gj_if (pc2 := 32) (pc3 := 28) (fun _ _ _ => lv_if_le (tgt := 32) hx hb d_M_throwing_25 (by decide)) (fun h25 => ?_) (fun h25 => ?_)
      · refine gj_l (pc2 := 33) (fun _ _ _ => lv_iconst (v := 0) hx hb d_M_throwing_32 (by decide)) ?_
        exact gj_zret F d_M_throwing_33 (by first | rfl | exact bN_z _ | decide) (Nat.le_refl _) (Nat.le_refl _) ⟨by rw [s2_at] at h25; first | exact absurd h25 (by decide) | (simp [thN, bN, h2, h10, h25]; done), by simp [thN, h2, h10, h25]⟩
      · refine gj_l (pc2 := 29) (fun _ _ _ => lv_iconst (v := 1) hx hb d_M_throwing_28 (by decide)) ?_
        refine gj_l (pc2 := 33) (fun _ _ _ => lv_goto (tgt := 33) hx hb d_M_throwing_29 (by decide)) ?_
        exact gj_zret F d_M_throwing_33 (by first | rfl | exact bN_z _ | decide) (Nat.le_refl _) (Nat.le_refl _) ⟨by rw [s2_at] at h25; first | exact absurd h25 (by decide) | (simp [thN, bN, h2, h10, h25]; done), by simp [thN, h2, h10, h25]⟩
    · refine gj_l (pc2 := 14) (fun _ _ _ => lv_iconst (v := 2) hx hb d_M_throwing_13 (by decide)) ?_
      refine gj_l (pc2 := 18) (fun _ _ _ => lv_goto (tgt := 18) hx hb d_M_throwing_14 (by decide)) ?_
      refine mj_pi F 0 rfl d_M_throwing_18 q_330 rfl ?_
      refine gj_ld (i := 0) (pc2 := 22) rfl (fun _ _ _ h9 => lv_aload_n hx hb d_M_throwing_21 rfl h9) ?_
      refine mj_gi F 0 rfl d_M_throwing_22 q_330 rfl ?_
      refine gj_if (pc2 := 32) (pc3 := 28) (fun _ _ _ => lv_if_le (tgt := 32) hx hb d_M_throwing_25 (by decide)) (fun h25 => ?_) (fun h25 => ?_)
      · refine gj_l (pc2 := 33) (fun _ _ _ => lv_iconst (v := 0) hx hb d_M_throwing_32 (by decide)) ?_
        exact gj_zret F d_M_throwing_33 (by first | rfl | exact bN_z _ | decide) (Nat.le_refl _) (Nat.le_refl _) ⟨by rw [s2_at] at h25; first | exact absurd h25 (by decide) | (simp [thN, bN, h2, h10, h25]; done), by simp [thN, h2, h10, h25]⟩
      · refine gj_l (pc2 := 29) (fun _ _ _ => lv_iconst (v := 1) hx hb d_M_throwing_28 (by decide)) ?_
        refine gj_l (pc2 := 33) (fun _ _ _ => lv_goto (tgt := 33) hx hb d_M_throwing_29 (by decide)) ?_
        exact gj_zret F d_M_throwing_33 (by first | rfl | exact bN_z _ | decide) (Nat.le_refl _) (Nat.le_refl _) ⟨by rw [s2_at] at h25; first | exact absurd h25 (by decide) | (simp [thN, bN, h2, h10, h25]; done), by simp [thN, h2, h10, h25]⟩
  · refine gj_l (pc2 := 6) (fun _ _ _ => lv_iconst (v := 1) hx hb d_M_throwing_5 (by decide)) ?_
    refine gj_l (pc2 := 18) (fun _ _ _ => lv_goto (tgt := 18) hx hb d_M_throwing_6 (by decide)) ?_
    refine mj_pi F 0 rfl d_M_throwing_18 q_330 rfl ?_
    refine gj_ld (i := 0) (pc2 := 22) rfl (fun _ _ _ h9 => lv_aload_n hx hb d_M_throwing_21 rfl h9) ?_
    refine mj_gi F 0 rfl d_M_throwing_22 q_330 rfl ?_
    refine gj_if (pc2 := 32) (pc3 := 28) (fun _ _ _ => lv_if_le (tgt := 32) hx hb d_M_throwing_25 (by decide)) (fun h25 => ?_) (fun h25 => ?_)
    · refine gj_l (pc2 := 33) (fun _ _ _ => lv_iconst (v := 0) hx hb d_M_throwing_32 (by decide)) ?_
      exact gj_zret F d_M_throwing_33 (by first | rfl | exact bN_z _ | decide) (Nat.le_refl _) (Nat.le_refl _) ⟨by rw [s2_at] at h25; first | exact absurd h25 (by decide) | (simp [thN, bN, h2, h25]; done), by simp [thN, h2, h25]⟩
    · refine gj_l (pc2 := 29) (fun _ _ _ => lv_iconst (v := 1) hx hb d_M_throwing_28 (by decide)) ?_
      refine gj_l (pc2 := 33) (fun _ _ _ => lv_goto (tgt := 33) hx hb d_M_throwing_29 (by decide)) ?_
      exact gj_zret F d_M_throwing_33 (by first | rfl | exact bN_z _ | decide) (Nat.le_refl _) (Nat.le_refl _) ⟨by rw [s2_at] at h25; first | exact absurd h25 (by decide) | (simp [thN, bN, h2, h25]; done), by simp [thN, h2, h25]⟩

theorem k_M_throwOut : CKV y_M_throwOut c_M_throwOut 2 none 1 := ⟨q_414, q_3, q_413, sl_M_throwOut, ⟨by decide +kernel, by decide +kernel, by decide +kernel⟩⟩
set_option maxHeartbeats 4000000 in
set_option maxRecDepth 100000 in
theorem ct_M_throwOut {l : Launch} {D : va_G} {cI cB cZ cJ : ClassId} {a : Nat → Nat} {τ : St} {k : Nat} (hk : k < 32) : GCv l y_M_throwOut (Cond.code y_M_throwOut c_M_throwOut 2 none :: tbW) ({ frames := 0, cells := 0, slots := 0, locals := 0 }) 0 0 D vCl (TY cI cB cZ cJ) [.ref (a 0), .int (nI k)] (mw a cI cZ τ) (fun u => u = mw a cI cZ (mTo τ k)) := by
  refine gc_body (Qc := gc_Qv D vCl (TY cI cB cZ cJ) (mw a cI cZ τ) (fun u => u = mw a cI cZ (mTo τ k))) (cc := c_M_throwOut) (maxL := 2) (ret := none) (by decide) rfl (by simp [Value.category]) (Nat.le_of_ble_eq_true rfl) ?_
  intro p e s m args below meth c F
  have hx := F.1
  have hb := F.2.1
  refine gj_ld (i := 0) (pc2 := 1) rfl (fun _ _ _ h9 => lv_aload_n hx hb d_M_throwOut_0 rfl h9) ?_
  refine mj_gr F 7 rfl d_M_throwOut_1 q_337 rfl ?_
  refine gj_ld (i := 1) (pc2 := 5) rfl (fun _ _ _ h9 => lv_iload_n hx hb d_M_throwOut_4 rfl h9) ?_
  refine gj_l (pc2 := 6) (fun _ _ _ => lv_iconst (v := 0) hx hb d_M_throwOut_5 (by decide)) ?_
  refine mj_zs F k rfl hk rfl d_M_throwOut_6 rfl ?_
  refine gj_ld (i := 0) (pc2 := 8) rfl (fun _ _ _ h9 => lv_aload_n hx hb d_M_throwOut_7 rfl h9) ?_
  refine gj_l (pc2 := 9) (fun _ _ _ => lv_dup hx hb d_M_throwOut_8 rfl) ?_
  refine mj_gi F 16 rfl d_M_throwOut_9 q_346 rfl ?_
  refine gj_l (pc2 := 13) (fun _ _ _ => lv_iconst (v := 1) hx hb d_M_throwOut_12 (by decide)) ?_
  refine gj_l (pc2 := 14) (fun _ _ _ => lv_iadd hx hb d_M_throwOut_13) ?_
  refine mj_pi F 16 rfl d_M_throwOut_14 q_346 rfl ?_
  exact gj_vret F d_M_throwOut_17 (Nat.le_refl _) (Nat.le_refl _) rfl

theorem k_M_write : CKV y_M_write c_M_write 4 none 2 := ⟨q_410, q_3, q_409, sl_M_write, ⟨by decide +kernel, by decide +kernel, by decide +kernel⟩⟩
set_option maxHeartbeats 4000000 in
set_option maxRecDepth 100000 in
theorem ct_M_write {l : Launch} {D : va_G} {cI cB cZ cJ : ClassId} {a : Nat → Nat} {τ : St} {i : Nat} (hi : i < 1024) (v : Int32) : GCv l y_M_write (Cond.code y_M_write c_M_write 4 none :: tbW) ({ frames := 1, cells := 0, slots := 0, locals := 21 }) 0 0 D vCl (TY cI cB cZ cJ) [.ref (a 0), .int (nI i), .int v] (mw a cI cZ τ) (fun u => u = mw a cI cZ (mWr τ i v)) := by
  refine gc_body (Qc := gc_Qv D vCl (TY cI cB cZ cJ) (mw a cI cZ τ) (fun u => u = mw a cI cZ (mWr τ i v))) (cc := c_M_write) (maxL := 4) (ret := none) (by decide) rfl (by simp [Value.category]) (Nat.le_of_ble_eq_true rfl) ?_
  intro p e s m args below meth c F
  have hx := F.1
  have hb := F.2.1
  refine gj_ld (i := 0) (pc2 := 1) rfl (fun _ _ _ h9 => lv_aload_n hx hb d_M_write_0 rfl h9) ?_
  refine mj_gr F 1 rfl d_M_write_1 q_331 rfl ?_
  refine gj_ld (i := 1) (pc2 := 5) rfl (fun _ _ _ h9 => lv_iload_n hx hb d_M_write_4 rfl h9) ?_
  refine gj_ld (i := 2) (pc2 := 6) rfl (fun _ _ _ h9 => lv_iload_n hx hb d_M_write_5 rfl h9) ?_
  refine mj_st F 1 1024 i (by omega) (fun _ => rfl) (by decide) rfl hi d_M_write_6 rfl ?_
  refine gj_l (pc2 := 8) (fun _ _ _ => lv_iconst (v := 0) hx hb d_M_write_7 (by decide)) ?_
  refine gj_st (i := 3) (pc2 := 9) (Nat.le_of_ble_eq_true rfl) rfl (fun _ _ _ _ _ h9 l9 => lv_istore_n hx hb d_M_write_8 rfl h9 (Nat.le_of_ble_eq_true rfl) l9) ?_
  refine gj_loop 32 (fun k => mw a cI cZ (mWl (s2 τ 1 i v) i k)) (fun k => [.ref (a 0), .int (nI i), .int v, .int (nI k)]) (fun k hk ih => ?_)
  refine gj_ld (i := 3) (pc2 := 10) rfl (fun _ _ _ h9 => lv_iload_n hx hb d_M_write_9 rfl h9) ?_
  refine gj_l (pc2 := 12) (fun _ _ _ => lv_bipush (v := (32)) hx hb d_M_write_10 (by decide)) ?_
  refine gj_if (pc2 := 89) (pc3 := 15) (fun _ _ _ => lv_icmp_ge (tgt := 89) hx hb d_M_write_12 (by decide)) (fun h12 => ?_) (fun h12 => ?_)
  · have hk9 : 32 ≤ k := nI_ge_of h12 (by omega) (by omega)
    have hk8 : k = 32 := by omega
    subst hk8
    exact gj_vret F d_M_write_89 (Nat.le_refl _) (Nat.le_refl _) rfl
  · have hlt : k < 32 := nI_lt_of h12 (by omega)
    refine gj_ld (i := 0) (pc2 := 16) rfl (fun _ _ _ h9 => lv_aload_n hx hb d_M_write_15 rfl h9) ?_
    refine mj_gr F 7 rfl d_M_write_16 q_337 rfl ?_
    refine gj_ld (i := 3) (pc2 := 20) rfl (fun _ _ _ h9 => lv_iload_n hx hb d_M_write_19 rfl h9) ?_
    refine mj_zl F k rfl hlt d_M_write_20 rfl ?_
    refine gj_if (pc2 := 83) (pc3 := 24) (fun _ _ _ => lv_if_eq (tgt := 83) hx hb d_M_write_21 (by decide)) (fun h21 => ?_) (fun h21 => ?_)
    · refine gj_iinc (pc2 := 86) hx hb d_M_write_83 (Nat.le_of_ble_eq_true rfl) rfl (nI_1 k) rfl ?_
      refine gj_l (pc2 := 9) (fun _ _ _ => lv_goto (tgt := 9) hx hb d_M_write_86 (by decide)) ?_
      exact gj_eq (w2 := mw a cI cZ (mWl (s2 τ 1 i v) i (k + 1))) (by rw [mWl, mWs, if_neg (by simp [mHas, h21])]) rfl rfl (ih hlt)
    · refine gj_ld (i := 1) (pc2 := 25) rfl (fun _ _ _ h9 => lv_iload_n hx hb d_M_write_24 rfl h9) ?_
      refine gj_ld (i := 0) (pc2 := 26) rfl (fun _ _ _ h9 => lv_aload_n hx hb d_M_write_25 rfl h9) ?_
      refine mj_gr F 8 rfl d_M_write_26 q_338 rfl ?_
      refine gj_ld (i := 3) (pc2 := 30) rfl (fun _ _ _ h9 => lv_iload_n hx hb d_M_write_29 rfl h9) ?_
      refine mj_ld F 4 32 k (by omega) rfl (by decide) rfl hlt d_M_write_30 rfl ?_
      refine gj_if (pc2 := 83) (pc3 := 34) (fun _ _ _ => lv_icmp_lt (tgt := 83) hx hb d_M_write_31 (by decide)) (fun h31 => ?_) (fun h31 => ?_)
      · refine gj_iinc (pc2 := 86) hx hb d_M_write_83 (Nat.le_of_ble_eq_true rfl) rfl (nI_1 k) rfl ?_
        refine gj_l (pc2 := 9) (fun _ _ _ => lv_goto (tgt := 9) hx hb d_M_write_86 (by decide)) ?_
        exact gj_eq (w2 := mw a cI cZ (mWl (s2 τ 1 i v) i (k + 1))) (by rw [mWl, mWs, if_neg (by simp [mHas, h21, h31])]) rfl rfl (ih hlt)
      · refine gj_ld (i := 1) (pc2 := 35) rfl (fun _ _ _ h9 => lv_iload_n hx hb d_M_write_34 rfl h9) ?_
        refine gj_ld (i := 0) (pc2 := 36) rfl (fun _ _ _ h9 => lv_aload_n hx hb d_M_write_35 rfl h9) ?_
        refine mj_gr F 8 rfl d_M_write_36 q_338 rfl ?_
        refine gj_ld (i := 3) (pc2 := 40) rfl (fun _ _ _ h9 => lv_iload_n hx hb d_M_write_39 rfl h9) ?_
        refine mj_ld F 4 32 k (by omega) rfl (by decide) rfl hlt d_M_write_40 rfl ?_
        refine gj_ld (i := 0) (pc2 := 42) rfl (fun _ _ _ h9 => lv_aload_n hx hb d_M_write_41 rfl h9) ?_
        refine mj_gr F 10 rfl d_M_write_42 q_340 rfl ?_
        refine gj_ld (i := 3) (pc2 := 46) rfl (fun _ _ _ h9 => lv_iload_n hx hb d_M_write_45 rfl h9) ?_
        refine mj_ld F 6 32 k (by omega) rfl (by decide) rfl hlt d_M_write_46 rfl ?_
        refine gj_l (pc2 := 48) (fun _ _ _ => lv_iadd hx hb d_M_write_47) ?_
        refine gj_if (pc2 := 54) (pc3 := 51) (fun _ _ _ => lv_icmp_lt (tgt := 54) hx hb d_M_write_48 (by decide)) (fun h48 => ?_) (fun h48 => ?_)
        · refine gj_ld (i := 0) (pc2 := 55) rfl (fun _ _ _ h9 => lv_aload_n hx hb d_M_write_54 rfl h9) ?_
          refine gj_ld (i := 3) (pc2 := 56) rfl (fun _ _ _ h9 => lv_iload_n hx hb d_M_write_55 rfl h9) ?_
          refine bj_vv F k_M_throwOut d_M_write_56 q_411 (mw_at (i := 0) (by omega)) rfl (ct_M_throwOut hlt) (rmo rfl) rfl rfl (Nat.le_of_ble_eq_true rfl) (Nat.zero_le _) (Nat.zero_le _) rfl (fun u9 e9 => ?_)
          subst e9
          refine gj_ld (i := 0) (pc2 := 60) rfl (fun _ _ _ h9 => lv_aload_n hx hb d_M_write_59 rfl h9) ?_
          refine gj_ld (i := 0) (pc2 := 61) rfl (fun _ _ _ h9 => lv_aload_n hx hb d_M_write_60 rfl h9) ?_
          refine mj_gi F 12 rfl d_M_write_61 q_342 rfl ?_
          refine gj_if (pc2 := 75) (pc3 := 67) (fun _ _ _ => lv_if_ne (tgt := 75) hx hb d_M_write_64 (by decide)) (fun h64 => ?_) (fun h64 => ?_)
          · refine gj_l (pc2 := 76) (fun _ _ _ => lv_iconst (v := 1) hx hb d_M_write_75 (by decide)) ?_
            refine gj_l (pc2 := 80) (fun _ _ _ => lv_goto (tgt := 80) hx hb d_M_write_76 (by decide)) ?_
            refine mj_pz F 12 rfl (by first | exact ⟨rfl, rfl⟩ | exact bN_f _) d_M_write_80 q_342 rfl ?_
            refine gj_iinc (pc2 := 86) hx hb d_M_write_83 (Nat.le_of_ble_eq_true rfl) rfl (nI_1 k) rfl ?_
            refine gj_l (pc2 := 9) (fun _ _ _ => lv_goto (tgt := 9) hx hb d_M_write_86 (by decide)) ?_
            exact gj_eq (w2 := mw a cI cZ (mWl (s2 τ 1 i v) i (k + 1))) (by rw [mWl, mWs, if_pos (by simp [mHas, h21, h31, h48])]; simp [bN, h64]) rfl rfl (ih hlt)
          · refine gj_ld (i := 3) (pc2 := 68) rfl (fun _ _ _ h9 => lv_iload_n hx hb d_M_write_67 rfl h9) ?_
            refine gj_ld (i := 0) (pc2 := 69) rfl (fun _ _ _ h9 => lv_aload_n hx hb d_M_write_68 rfl h9) ?_
            refine mj_gi F 11 rfl d_M_write_69 q_341 rfl ?_
            refine gj_if (pc2 := 79) (pc3 := 75) (fun _ _ _ => lv_icmp_ne (tgt := 79) hx hb d_M_write_72 (by decide)) (fun h72 => ?_) (fun h72 => ?_)
            · refine gj_l (pc2 := 80) (fun _ _ _ => lv_iconst (v := 0) hx hb d_M_write_79 (by decide)) ?_
              refine mj_pz F 12 rfl (by first | exact ⟨rfl, rfl⟩ | exact bN_f _) d_M_write_80 q_342 rfl ?_
              refine gj_iinc (pc2 := 86) hx hb d_M_write_83 (Nat.le_of_ble_eq_true rfl) rfl (nI_1 k) rfl ?_
              refine gj_l (pc2 := 9) (fun _ _ _ => lv_goto (tgt := 9) hx hb d_M_write_86 (by decide)) ?_
              exact gj_eq (w2 := mw a cI cZ (mWl (s2 τ 1 i v) i (k + 1))) (by rw [mWl, mWs, if_pos (by simp [mHas, h21, h31, h48])]; simp [bN, h64, h72]) rfl rfl (ih hlt)
            · refine gj_l (pc2 := 76) (fun _ _ _ => lv_iconst (v := 1) hx hb d_M_write_75 (by decide)) ?_
              refine gj_l (pc2 := 80) (fun _ _ _ => lv_goto (tgt := 80) hx hb d_M_write_76 (by decide)) ?_
              refine mj_pz F 12 rfl (by first | exact ⟨rfl, rfl⟩ | exact bN_f _) d_M_write_80 q_342 rfl ?_
              refine gj_iinc (pc2 := 86) hx hb d_M_write_83 (Nat.le_of_ble_eq_true rfl) rfl (nI_1 k) rfl ?_
              refine gj_l (pc2 := 9) (fun _ _ _ => lv_goto (tgt := 9) hx hb d_M_write_86 (by decide)) ?_
              exact gj_eq (w2 := mw a cI cZ (mWl (s2 τ 1 i v) i (k + 1))) (by rw [mWl, mWs, if_pos (by simp [mHas, h21, h31, h48])]; simp [bN, h64, h72]) rfl rfl (ih hlt)
        · refine gj_l (pc2 := 83) (fun _ _ _ => lv_goto (tgt := 83) hx hb d_M_write_51 (by decide)) ?_
          refine gj_iinc (pc2 := 86) hx hb d_M_write_83 (Nat.le_of_ble_eq_true rfl) rfl (nI_1 k) rfl ?_
          refine gj_l (pc2 := 9) (fun _ _ _ => lv_goto (tgt := 9) hx hb d_M_write_86 (by decide)) ?_
          exact gj_eq (w2 := mw a cI cZ (mWl (s2 τ 1 i v) i (k + 1))) (by rw [mWl, mWs, if_neg (by simp [mHas, h21, h31, h48])]) rfl rfl (ih hlt)

theorem k_M_poke : CKV y_M_poke c_M_poke 4 (some .int) 2 := ⟨q_396, q_3, q_394, q_395, ⟨by decide +kernel, by decide +kernel, by decide +kernel⟩⟩
set_option maxHeartbeats 4000000 in
set_option maxRecDepth 100000 in
theorem ct_M_poke {l : Launch} {D : va_G} {cI cB cZ cJ : ClassId} {a : Nat → Nat} {τ : St} (x v : Int32) : GCi l y_M_poke (Cond.code y_M_poke c_M_poke 4 (some .int) :: tbW) ({ frames := 2, cells := 0, slots := 0, locals := 44 }) 0 0 D vCl (TY cI cB cZ cJ) [.ref (a 0), .int x, .int v] (mw a cI cZ τ) (fun r u => (inM x = false ∧ r = 0 ∧ u = mw a cI cZ (s2 τ 0 0 1)) ∨ (inM x = true ∧ inR v 0 255 = false ∧ r = 0 ∧ u = mw a cI cZ (s2 τ 0 0 2)) ∨ ∃ i : Nat, i < 1024 ∧ x = nI i ∧ inR v 0 255 = true ∧ r = τ 1 i ∧ u = mw a cI cZ (mWr (s2 τ 0 0 0) i v)) := by
  refine gc_body (Qc := gc_Qi D vCl (TY cI cB cZ cJ) (mw a cI cZ τ) (fun r u => (inM x = false ∧ r = 0 ∧ u = mw a cI cZ (s2 τ 0 0 1)) ∨ (inM x = true ∧ inR v 0 255 = false ∧ r = 0 ∧ u = mw a cI cZ (s2 τ 0 0 2)) ∨ ∃ i : Nat, i < 1024 ∧ x = nI i ∧ inR v 0 255 = true ∧ r = τ 1 i ∧ u = mw a cI cZ (mWr (s2 τ 0 0 0) i v))) (cc := c_M_poke) (maxL := 4) (ret := (some .int)) (by decide) rfl (by simp [Value.category]) (Nat.le_of_ble_eq_true rfl) ?_
  intro p e s m args below meth c F
  have hx := F.1
  have hb := F.2.1
  refine gj_ld (i := 0) (pc2 := 1) rfl (fun _ _ _ h9 => lv_aload_n hx hb d_M_poke_0 rfl h9) ?_
  refine gj_ld (i := 1) (pc2 := 2) rfl (fun _ _ _ h9 => lv_iload_n hx hb d_M_poke_1 rfl h9) ?_
  refine bj_s F k_M_isThere d_M_poke_2 q_397 (ct_M_isThere _) (rmo rfl) rfl rfl (Nat.le_of_ble_eq_true rfl) (Nat.zero_le _) (Nat.zero_le _) rfl (fun r9 e9 => ?_)
  subst e9
  refine gj_if (pc2 := 12) (pc3 := 8) (fun _ _ _ => lv_if_ne (tgt := 12) hx hb d_M_poke_5 (by decide)) (fun h5 => ?_) (fun h5 => ?_)
  · refine gj_l (pc2 := 13) (fun _ _ _ => lv_iconst (v := 0) hx hb d_M_poke_12 (by decide)) ?_
    refine gj_ld (i := 2) (pc2 := 14) rfl (fun _ _ _ h9 => lv_iload_n hx hb d_M_poke_13 rfl h9) ?_
    refine gj_l (pc2 := 15) (fun _ _ _ => lv_iconst (v := 0) hx hb d_M_poke_14 (by decide)) ?_
    refine gj_l (pc2 := 18) (fun _ _ _ => lv_sipush (v := (255)) hx hb d_M_poke_15 (by decide)) ?_
    refine bj_s F k_M_in d_M_poke_18 q_400 (ct_M_in _ _ _) (rmo rfl) rfl rfl (Nat.le_of_ble_eq_true rfl) (Nat.zero_le _) (Nat.zero_le _) rfl (fun r9 e9 => ?_)
    subst e9
    refine gj_if (pc2 := 28) (pc3 := 24) (fun _ _ _ => lv_if_ne (tgt := 28) hx hb d_M_poke_21 (by decide)) (fun h21 => ?_) (fun h21 => ?_)
    · refine gj_l (pc2 := 29) (fun _ _ _ => lv_iconst (v := 0) hx hb d_M_poke_28 (by decide)) ?_
      refine bj_vi F k_M_throwing d_M_poke_29 q_403 (mw_at (i := 0) (by omega)) rfl (ct_M_throwing _ _) (rmo rfl) rfl rfl (Nat.le_of_ble_eq_true rfl) (Nat.zero_le _) (Nat.zero_le _) rfl (fun r9 u9 e9 => ?_)
      obtain ⟨rfl, rfl⟩ := e9
      refine gj_if (pc2 := 37) (pc3 := 35) (fun _ _ _ => lv_if_eq (tgt := 37) hx hb d_M_poke_32 (by decide)) (fun h32 => ?_) (fun h32 => ?_)
      · obtain ⟨i, hi, rfl⟩ := inM_of (bN_n0.mp h5)
        have hin := inM_nI hi
        refine gj_ld (i := 0) (pc2 := 38) rfl (fun _ _ _ h9 => lv_aload_n hx hb d_M_poke_37 rfl h9) ?_
        refine mj_gr F 1 rfl d_M_poke_38 q_331 rfl ?_
        refine gj_ld (i := 1) (pc2 := 42) rfl (fun _ _ _ h9 => lv_iload_n hx hb d_M_poke_41 rfl h9) ?_
        refine mj_ld F 1 1024 i (by omega) rfl (by decide) rfl hi d_M_poke_42 rfl ?_
        refine gj_st (i := 3) (pc2 := 44) (Nat.le_of_ble_eq_true rfl) rfl (fun _ _ _ _ _ h9 l9 => lv_istore_n hx hb d_M_poke_43 rfl h9 (Nat.le_of_ble_eq_true rfl) l9) ?_
        refine gj_ld (i := 0) (pc2 := 45) rfl (fun _ _ _ h9 => lv_aload_n hx hb d_M_poke_44 rfl h9) ?_
        refine gj_ld (i := 1) (pc2 := 46) rfl (fun _ _ _ h9 => lv_iload_n hx hb d_M_poke_45 rfl h9) ?_
        refine gj_ld (i := 2) (pc2 := 47) rfl (fun _ _ _ h9 => lv_iload_n hx hb d_M_poke_46 rfl h9) ?_
        refine bj_vv F k_M_write d_M_poke_47 q_407 (mw_at (i := 0) (by omega)) rfl (ct_M_write hi _) (rmo rfl) rfl rfl (Nat.le_of_ble_eq_true rfl) (Nat.zero_le _) (Nat.zero_le _) rfl (fun u9 e9 => ?_)
        subst e9
        refine gj_ld (i := 3) (pc2 := 51) rfl (fun _ _ _ h9 => lv_iload_n hx hb d_M_poke_50 rfl h9) ?_
        exact gj_iret F d_M_poke_51 (Nat.le_refl _) (Nat.le_refl _) (Or.inr (Or.inr ⟨i, hi, rfl, bN_n0.mp h21, rfl, rfl⟩))
      · exact absurd h32 (by decide)
    · refine gj_l (pc2 := 25) (fun _ _ _ => lv_iconst (v := 1) hx hb d_M_poke_24 (by decide)) ?_
      refine gj_l (pc2 := 29) (fun _ _ _ => lv_goto (tgt := 29) hx hb d_M_poke_25 (by decide)) ?_
      refine bj_vi F k_M_throwing d_M_poke_29 q_403 (mw_at (i := 0) (by omega)) rfl (ct_M_throwing _ _) (rmo rfl) rfl rfl (Nat.le_of_ble_eq_true rfl) (Nat.zero_le _) (Nat.zero_le _) rfl (fun r9 u9 e9 => ?_)
      obtain ⟨rfl, rfl⟩ := e9
      refine gj_if (pc2 := 37) (pc3 := 35) (fun _ _ _ => lv_if_eq (tgt := 37) hx hb d_M_poke_32 (by decide)) (fun h32 => ?_) (fun h32 => ?_)
      · exact absurd h32 (by decide)
      · refine gj_l (pc2 := 36) (fun _ _ _ => lv_iconst (v := 0) hx hb d_M_poke_35 (by decide)) ?_
        exact gj_iret F d_M_poke_36 (Nat.le_refl _) (Nat.le_refl _) (by first | exact Or.inl ⟨bN_0.mp h5, rfl, rfl⟩ | exact Or.inr (Or.inl ⟨bN_n0.mp h5, bN_0.mp h21, rfl, rfl⟩))
  · refine gj_l (pc2 := 9) (fun _ _ _ => lv_iconst (v := 1) hx hb d_M_poke_8 (by decide)) ?_
    refine gj_l (pc2 := 13) (fun _ _ _ => lv_goto (tgt := 13) hx hb d_M_poke_9 (by decide)) ?_
    refine gj_ld (i := 2) (pc2 := 14) rfl (fun _ _ _ h9 => lv_iload_n hx hb d_M_poke_13 rfl h9) ?_
    refine gj_l (pc2 := 15) (fun _ _ _ => lv_iconst (v := 0) hx hb d_M_poke_14 (by decide)) ?_
    refine gj_l (pc2 := 18) (fun _ _ _ => lv_sipush (v := (255)) hx hb d_M_poke_15 (by decide)) ?_
    refine bj_s F k_M_in d_M_poke_18 q_400 (ct_M_in _ _ _) (rmo rfl) rfl rfl (Nat.le_of_ble_eq_true rfl) (Nat.zero_le _) (Nat.zero_le _) rfl (fun r9 e9 => ?_)
    subst e9
    refine gj_if (pc2 := 28) (pc3 := 24) (fun _ _ _ => lv_if_ne (tgt := 28) hx hb d_M_poke_21 (by decide)) (fun h21 => ?_) (fun h21 => ?_)
    · refine gj_l (pc2 := 29) (fun _ _ _ => lv_iconst (v := 0) hx hb d_M_poke_28 (by decide)) ?_
      refine bj_vi F k_M_throwing d_M_poke_29 q_403 (mw_at (i := 0) (by omega)) rfl (ct_M_throwing _ _) (rmo rfl) rfl rfl (Nat.le_of_ble_eq_true rfl) (Nat.zero_le _) (Nat.zero_le _) rfl (fun r9 u9 e9 => ?_)
      obtain ⟨rfl, rfl⟩ := e9
      refine gj_if (pc2 := 37) (pc3 := 35) (fun _ _ _ => lv_if_eq (tgt := 37) hx hb d_M_poke_32 (by decide)) (fun h32 => ?_) (fun h32 => ?_)
      · exact absurd h32 (by decide)
      · refine gj_l (pc2 := 36) (fun _ _ _ => lv_iconst (v := 0) hx hb d_M_poke_35 (by decide)) ?_
        exact gj_iret F d_M_poke_36 (Nat.le_refl _) (Nat.le_refl _) (by first | exact Or.inl ⟨bN_0.mp h5, rfl, rfl⟩ | exact Or.inr (Or.inl ⟨bN_n0.mp h5, bN_0.mp h21, rfl, rfl⟩))
    · refine gj_l (pc2 := 25) (fun _ _ _ => lv_iconst (v := 1) hx hb d_M_poke_24 (by decide)) ?_
      refine gj_l (pc2 := 29) (fun _ _ _ => lv_goto (tgt := 29) hx hb d_M_poke_25 (by decide)) ?_
      refine bj_vi F k_M_throwing d_M_poke_29 q_403 (mw_at (i := 0) (by omega)) rfl (ct_M_throwing _ _) (rmo rfl) rfl rfl (Nat.le_of_ble_eq_true rfl) (Nat.zero_le _) (Nat.zero_le _) rfl (fun r9 u9 e9 => ?_)
      obtain ⟨rfl, rfl⟩ := e9
      refine gj_if (pc2 := 37) (pc3 := 35) (fun _ _ _ => lv_if_eq (tgt := 37) hx hb d_M_poke_32 (by decide)) (fun h32 => ?_) (fun h32 => ?_)
      · exact absurd h32 (by decide)
      · refine gj_l (pc2 := 36) (fun _ _ _ => lv_iconst (v := 0) hx hb d_M_poke_35 (by decide)) ?_
        exact gj_iret F d_M_poke_36 (Nat.le_refl _) (Nat.le_refl _) (by first | exact Or.inl ⟨bN_0.mp h5, rfl, rfl⟩ | exact Or.inr (Or.inl ⟨bN_n0.mp h5, bN_0.mp h21, rfl, rfl⟩))

theorem k_M_pokeFour : CKV y_M_pokeFour c_M_pokeFour 5 (some .int) 2 := ⟨q_418, q_3, q_416, q_417, ⟨by decide +kernel, by decide +kernel, by decide +kernel⟩⟩
set_option maxHeartbeats 4000000 in
set_option maxRecDepth 100000 in
theorem ct_M_pokeFour {l : Launch} {D : va_G} {cI cB cZ cJ : ClassId} {a : Nat → Nat} {τ : St} (x v : Int32) : GCi l y_M_pokeFour (Cond.code y_M_pokeFour c_M_pokeFour 5 (some .int) :: tbW) ({ frames := 2, cells := 0, slots := 0, locals := 44 }) 0 0 D vCl (TY cI cB cZ cJ) [.ref (a 0), .int x, .int v] (mw a cI cZ τ) (fun r u => (inM x = false ∧ r = 0 ∧ u = mw a cI cZ (s2 τ 0 0 1)) ∨ ∃ i : Nat, i < 1024 ∧ x = nI i ∧ r = nI (p4N i) ∧ u = mw a cI cZ (m4L (s2 τ 0 0 0) i v (p4N i))) := by
  refine gc_body (Qc := gc_Qi D vCl (TY cI cB cZ cJ) (mw a cI cZ τ) (fun r u => (inM x = false ∧ r = 0 ∧ u = mw a cI cZ (s2 τ 0 0 1)) ∨ ∃ i : Nat, i < 1024 ∧ x = nI i ∧ r = nI (p4N i) ∧ u = mw a cI cZ (m4L (s2 τ 0 0 0) i v (p4N i)))) (cc := c_M_pokeFour) (maxL := 5) (ret := (some .int)) (by decide) rfl (by simp [Value.category]) (Nat.le_of_ble_eq_true rfl) ?_
  intro p e s m args below meth c F
  have hx := F.1
  have hb := F.2.1
  refine gj_ld (i := 0) (pc2 := 1) rfl (fun _ _ _ h9 => lv_aload_n hx hb d_M_pokeFour_0 rfl h9) ?_
  refine gj_ld (i := 1) (pc2 := 2) rfl (fun _ _ _ h9 => lv_iload_n hx hb d_M_pokeFour_1 rfl h9) ?_
  refine bj_s F k_M_isThere d_M_pokeFour_2 q_397 (ct_M_isThere _) (rmo rfl) rfl rfl (Nat.le_of_ble_eq_true rfl) (Nat.zero_le _) (Nat.zero_le _) rfl (fun r9 e9 => ?_)
  subst e9
  refine gj_if (pc2 := 12) (pc3 := 8) (fun _ _ _ => lv_if_ne (tgt := 12) hx hb d_M_pokeFour_5 (by decide)) (fun h5 => ?_) (fun h5 => ?_)
  · refine gj_l (pc2 := 13) (fun _ _ _ => lv_iconst (v := 0) hx hb d_M_pokeFour_12 (by decide)) ?_
    refine gj_l (pc2 := 14) (fun _ _ _ => lv_iconst (v := 0) hx hb d_M_pokeFour_13 (by decide)) ?_
    refine bj_vi F k_M_throwing d_M_pokeFour_14 q_403 (mw_at (i := 0) (by omega)) rfl (ct_M_throwing _ _) (rmo rfl) rfl rfl (Nat.le_of_ble_eq_true rfl) (Nat.zero_le _) (Nat.zero_le _) rfl (fun r9 u9 e9 => ?_)
    obtain ⟨rfl, rfl⟩ := e9
    refine gj_if (pc2 := 22) (pc3 := 20) (fun _ _ _ => lv_if_eq (tgt := 22) hx hb d_M_pokeFour_17 (by decide)) (fun h17 => ?_) (fun h17 => ?_)
    · obtain ⟨i, hi, rfl⟩ := inM_of (bN_n0.mp h5)
      have hin := inM_nI hi
      refine gj_l (pc2 := 23) (fun _ _ _ => lv_iconst (v := 0) hx hb d_M_pokeFour_22 (by decide)) ?_
      refine gj_st (i := 3) (pc2 := 24) (Nat.le_of_ble_eq_true rfl) rfl (fun _ _ _ _ _ h9 l9 => lv_istore_n hx hb d_M_pokeFour_23 rfl h9 (Nat.le_of_ble_eq_true rfl) l9) ?_
      refine gj_l (pc2 := 25) (fun _ _ _ => lv_iconst (v := 0) hx hb d_M_pokeFour_24 (by decide)) ?_
      refine gj_st (i := 4) (pc2 := 27) (Nat.le_of_ble_eq_true rfl) rfl (fun _ _ _ _ _ h9 l9 => lv_istore hx hb d_M_pokeFour_25 h9 (Nat.le_of_ble_eq_true rfl) l9) ?_
      have hp4 : p4N i ≤ 4 ∧ i + p4N i ≤ 1024 ∧ (p4N i = 4 ∨ i + p4N i = 1024) := by unfold p4N; omega
      refine gj_loop (p4N i) (fun k => mw a cI cZ (m4L (s2 τ 0 0 0) i v k)) (fun k => [.ref (a 0), .int (nI i), .int v, .int (nI k), .int (nI k)]) (fun k hk ih => ?_)
      refine gj_ld (i := 4) (pc2 := 29) rfl (fun _ _ _ h9 => lv_iload hx hb d_M_pokeFour_27 h9) ?_
      refine gj_l (pc2 := 30) (fun _ _ _ => lv_iconst (v := 4) hx hb d_M_pokeFour_29 (by decide)) ?_
      refine gj_if (pc2 := 74) (pc3 := 33) (fun _ _ _ => lv_icmp_ge (tgt := 74) hx hb d_M_pokeFour_30 (by decide)) (fun h30 => ?_) (fun h30 => ?_)
      · have hk9 : 4 ≤ k := nI_ge_of h30 (by omega) (by omega)
        have hk8 : k = p4N i := by omega
        subst hk8
        refine gj_ld (i := 3) (pc2 := 75) rfl (fun _ _ _ h9 => lv_iload_n hx hb d_M_pokeFour_74 rfl h9) ?_
        exact gj_iret F d_M_pokeFour_75 (Nat.le_refl _) (Nat.le_refl _) (Or.inr ⟨i, hi, rfl, rfl, rfl⟩)
      · have hk4 : k < 4 := nI_lt_of h30 (by omega)
        refine gj_ld (i := 1) (pc2 := 34) rfl (fun _ _ _ h9 => lv_iload_n hx hb d_M_pokeFour_33 rfl h9) ?_
        refine gj_ld (i := 4) (pc2 := 36) rfl (fun _ _ _ h9 => lv_iload hx hb d_M_pokeFour_34 h9) ?_
        refine gj_l (pc2 := 37) (fun _ _ _ => lv_iadd hx hb d_M_pokeFour_36) ?_
        rw [nI_add]
        refine bj_s F k_M_isThere d_M_pokeFour_37 q_397 (ct_M_isThere _) (rmo rfl) rfl rfl (Nat.le_of_ble_eq_true rfl) (Nat.zero_le _) (Nat.zero_le _) rfl (fun r9 e9 => ?_)
        subst e9
        refine gj_if (pc2 := 74) (pc3 := 43) (fun _ _ _ => lv_if_eq (tgt := 74) hx hb d_M_pokeFour_40 (by decide)) (fun h40 => ?_) (fun h40 => ?_)
        · have hk8 : k = p4N i := by
            rcases Nat.lt_or_ge (i + k) 1024 with z | z
            · exact absurd (inM_nI z) (by rw [bN_0.mp h40]; decide)
            · omega
          subst hk8
          refine gj_ld (i := 3) (pc2 := 75) rfl (fun _ _ _ h9 => lv_iload_n hx hb d_M_pokeFour_74 rfl h9) ?_
          exact gj_iret F d_M_pokeFour_75 (Nat.le_refl _) (Nat.le_refl _) (Or.inr ⟨i, hi, rfl, rfl, rfl⟩)
        · have hlt : k < p4N i := by
            obtain ⟨j9, h8, h9⟩ := inM_of (bN_n0.mp h40)
            have := (nI_eq (a := i + k) (b := j9) (by omega) (by omega)).mp h9
            omega
          refine gj_ld (i := 0) (pc2 := 44) rfl (fun _ _ _ h9 => lv_aload_n hx hb d_M_pokeFour_43 rfl h9) ?_
          refine gj_ld (i := 1) (pc2 := 45) rfl (fun _ _ _ h9 => lv_iload_n hx hb d_M_pokeFour_44 rfl h9) ?_
          refine gj_ld (i := 4) (pc2 := 47) rfl (fun _ _ _ h9 => lv_iload hx hb d_M_pokeFour_45 h9) ?_
          refine gj_l (pc2 := 48) (fun _ _ _ => lv_iadd hx hb d_M_pokeFour_47) ?_
          refine gj_ld (i := 2) (pc2 := 49) rfl (fun _ _ _ h9 => lv_iload_n hx hb d_M_pokeFour_48 rfl h9) ?_
          refine gj_l (pc2 := 51) (fun _ _ _ => lv_bipush (v := (24)) hx hb d_M_pokeFour_49 (by decide)) ?_
          refine gj_l (pc2 := 53) (fun _ _ _ => lv_bipush (v := (8)) hx hb d_M_pokeFour_51 (by decide)) ?_
          refine gj_ld (i := 4) (pc2 := 55) rfl (fun _ _ _ h9 => lv_iload hx hb d_M_pokeFour_53 h9) ?_
          refine gj_l (pc2 := 56) (fun _ _ _ => lv_imul hx hb d_M_pokeFour_55) ?_
          refine gj_l (pc2 := 57) (fun _ _ _ => lv_isub hx hb d_M_pokeFour_56) ?_
          refine gj_l (pc2 := 58) (fun _ _ _ => lv_ishr hx hb d_M_pokeFour_57) ?_
          refine gj_l (pc2 := 61) (fun _ _ _ => lv_sipush (v := (255)) hx hb d_M_pokeFour_58 (by decide)) ?_
          refine gj_l (pc2 := 62) (fun _ _ _ => lv_iand hx hb d_M_pokeFour_61) ?_
          rw [nI_add]
          refine bj_vv F k_M_write d_M_pokeFour_62 q_407 (mw_at (i := 0) (by omega)) rfl (ct_M_write (i := i + k) (by omega) (bm4 v k)) (rmo rfl) rfl rfl (Nat.le_of_ble_eq_true rfl) (Nat.zero_le _) (Nat.zero_le _) rfl (fun u9 e9 => ?_)
          subst e9
          refine gj_iinc (pc2 := 68) hx hb d_M_pokeFour_65 (Nat.le_of_ble_eq_true rfl) rfl (nI_1 k) rfl ?_
          refine gj_iinc (pc2 := 71) hx hb d_M_pokeFour_68 (Nat.le_of_ble_eq_true rfl) rfl (nI_1 k) rfl ?_
          refine gj_l (pc2 := 27) (fun _ _ _ => lv_goto (tgt := 27) hx hb d_M_pokeFour_71 (by decide)) ?_
          exact ih hlt
    · exact absurd h17 (by decide)
  · refine gj_l (pc2 := 9) (fun _ _ _ => lv_iconst (v := 1) hx hb d_M_pokeFour_8 (by decide)) ?_
    refine gj_l (pc2 := 13) (fun _ _ _ => lv_goto (tgt := 13) hx hb d_M_pokeFour_9 (by decide)) ?_
    refine gj_l (pc2 := 14) (fun _ _ _ => lv_iconst (v := 0) hx hb d_M_pokeFour_13 (by decide)) ?_
    refine bj_vi F k_M_throwing d_M_pokeFour_14 q_403 (mw_at (i := 0) (by omega)) rfl (ct_M_throwing _ _) (rmo rfl) rfl rfl (Nat.le_of_ble_eq_true rfl) (Nat.zero_le _) (Nat.zero_le _) rfl (fun r9 u9 e9 => ?_)
    obtain ⟨rfl, rfl⟩ := e9
    refine gj_if (pc2 := 22) (pc3 := 20) (fun _ _ _ => lv_if_eq (tgt := 22) hx hb d_M_pokeFour_17 (by decide)) (fun h17 => ?_) (fun h17 => ?_)
    · exact absurd h17 (by decide)
    · refine gj_l (pc2 := 21) (fun _ _ _ => lv_iconst (v := 0) hx hb d_M_pokeFour_20 (by decide)) ?_
      exact gj_iret F d_M_pokeFour_21 (Nat.le_refl _) (Nat.le_refl _) (Or.inl ⟨bN_0.mp h5, rfl, rfl⟩)

theorem k_M_set : CKV y_M_set c_M_set 4 (some .int) 2 := ⟨q_422, q_3, q_420, q_421, ⟨by decide +kernel, by decide +kernel, by decide +kernel⟩⟩
set_option maxHeartbeats 4000000 in
set_option maxRecDepth 100000 in
theorem ct_M_set {l : Launch} {D : va_G} {cI cB cZ cJ : ClassId} {a : Nat → Nat} {τ : St} (x v : Int32) : GCi l y_M_set (Cond.code y_M_set c_M_set 4 (some .int) :: tbW) ({ frames := 1, cells := 0, slots := 0, locals := 22 }) 0 0 D vCl (TY cI cB cZ cJ) [.ref (a 0), .int x, .int v] (mw a cI cZ τ) (fun r u => (inR x 0 7 = false ∧ r = 0 ∧ u = mw a cI cZ (s2 τ 0 0 1)) ∨ ∃ i : Nat, i < 8 ∧ x = nI i ∧ r = τ 2 i ∧ u = mw a cI cZ (s2 (s2 τ 0 0 0) 2 i v)) := by
  refine gc_body (Qc := gc_Qi D vCl (TY cI cB cZ cJ) (mw a cI cZ τ) (fun r u => (inR x 0 7 = false ∧ r = 0 ∧ u = mw a cI cZ (s2 τ 0 0 1)) ∨ ∃ i : Nat, i < 8 ∧ x = nI i ∧ r = τ 2 i ∧ u = mw a cI cZ (s2 (s2 τ 0 0 0) 2 i v))) (cc := c_M_set) (maxL := 4) (ret := (some .int)) (by decide) rfl (by simp [Value.category]) (Nat.le_of_ble_eq_true rfl) ?_
  intro p e s m args below meth c F
  have hx := F.1
  have hb := F.2.1
  refine gj_ld (i := 0) (pc2 := 1) rfl (fun _ _ _ h9 => lv_aload_n hx hb d_M_set_0 rfl h9) ?_
  refine gj_ld (i := 1) (pc2 := 2) rfl (fun _ _ _ h9 => lv_iload_n hx hb d_M_set_1 rfl h9) ?_
  refine gj_l (pc2 := 3) (fun _ _ _ => lv_iconst (v := 0) hx hb d_M_set_2 (by decide)) ?_
  refine gj_l (pc2 := 5) (fun _ _ _ => lv_bipush (v := (7)) hx hb d_M_set_3 (by decide)) ?_
  refine bj_s F k_M_in d_M_set_5 q_400 (ct_M_in _ _ _) (rmo rfl) rfl rfl (Nat.le_of_ble_eq_true rfl) (Nat.zero_le _) (Nat.zero_le _) rfl (fun r9 e9 => ?_)
  subst e9
  refine gj_if (pc2 := 15) (pc3 := 11) (fun _ _ _ => lv_if_ne (tgt := 15) hx hb d_M_set_8 (by decide)) (fun h8 => ?_) (fun h8 => ?_)
  · refine gj_l (pc2 := 16) (fun _ _ _ => lv_iconst (v := 0) hx hb d_M_set_15 (by decide)) ?_
    refine gj_l (pc2 := 17) (fun _ _ _ => lv_iconst (v := 0) hx hb d_M_set_16 (by decide)) ?_
    refine bj_vi F k_M_throwing d_M_set_17 q_403 (mw_at (i := 0) (by omega)) rfl (ct_M_throwing _ _) (rmo rfl) rfl rfl (Nat.le_of_ble_eq_true rfl) (Nat.zero_le _) (Nat.zero_le _) rfl (fun r9 u9 e9 => ?_)
    obtain ⟨rfl, rfl⟩ := e9
    refine gj_if (pc2 := 25) (pc3 := 23) (fun _ _ _ => lv_if_eq (tgt := 25) hx hb d_M_set_20 (by decide)) (fun h20 => ?_) (fun h20 => ?_)
    · obtain ⟨i, hi, rfl⟩ := inR_7 (bN_n0.mp h8)
      refine gj_ld (i := 0) (pc2 := 26) rfl (fun _ _ _ h9 => lv_aload_n hx hb d_M_set_25 rfl h9) ?_
      refine mj_gr F 2 rfl d_M_set_26 q_332 rfl ?_
      refine gj_ld (i := 1) (pc2 := 30) rfl (fun _ _ _ h9 => lv_iload_n hx hb d_M_set_29 rfl h9) ?_
      refine mj_ld F 2 8 i (by omega) rfl (by decide) rfl hi d_M_set_30 rfl ?_
      refine gj_st (i := 3) (pc2 := 32) (Nat.le_of_ble_eq_true rfl) rfl (fun _ _ _ _ _ h9 l9 => lv_istore_n hx hb d_M_set_31 rfl h9 (Nat.le_of_ble_eq_true rfl) l9) ?_
      refine gj_ld (i := 0) (pc2 := 33) rfl (fun _ _ _ h9 => lv_aload_n hx hb d_M_set_32 rfl h9) ?_
      refine mj_gr F 2 rfl d_M_set_33 q_332 rfl ?_
      refine gj_ld (i := 1) (pc2 := 37) rfl (fun _ _ _ h9 => lv_iload_n hx hb d_M_set_36 rfl h9) ?_
      refine gj_ld (i := 2) (pc2 := 38) rfl (fun _ _ _ h9 => lv_iload_n hx hb d_M_set_37 rfl h9) ?_
      refine mj_st F 2 8 i (by omega) (fun _ => rfl) (by decide) rfl hi d_M_set_38 rfl ?_
      refine gj_ld (i := 3) (pc2 := 40) rfl (fun _ _ _ h9 => lv_iload_n hx hb d_M_set_39 rfl h9) ?_
      exact gj_iret F d_M_set_40 (Nat.le_refl _) (Nat.le_refl _) (Or.inr ⟨i, hi, rfl, rfl, rfl⟩)
    · exact absurd h20 (by decide)
  · refine gj_l (pc2 := 12) (fun _ _ _ => lv_iconst (v := 1) hx hb d_M_set_11 (by decide)) ?_
    refine gj_l (pc2 := 16) (fun _ _ _ => lv_goto (tgt := 16) hx hb d_M_set_12 (by decide)) ?_
    refine gj_l (pc2 := 17) (fun _ _ _ => lv_iconst (v := 0) hx hb d_M_set_16 (by decide)) ?_
    refine bj_vi F k_M_throwing d_M_set_17 q_403 (mw_at (i := 0) (by omega)) rfl (ct_M_throwing _ _) (rmo rfl) rfl rfl (Nat.le_of_ble_eq_true rfl) (Nat.zero_le _) (Nat.zero_le _) rfl (fun r9 u9 e9 => ?_)
    obtain ⟨rfl, rfl⟩ := e9
    refine gj_if (pc2 := 25) (pc3 := 23) (fun _ _ _ => lv_if_eq (tgt := 25) hx hb d_M_set_20 (by decide)) (fun h20 => ?_) (fun h20 => ?_)
    · exact absurd h20 (by decide)
    · refine gj_l (pc2 := 24) (fun _ _ _ => lv_iconst (v := 0) hx hb d_M_set_23 (by decide)) ?_
      exact gj_iret F d_M_set_24 (Nat.le_refl _) (Nat.le_refl _) (Or.inl ⟨bN_0.mp h8, rfl, rfl⟩)

theorem k_M_go : CKV y_M_go c_M_go 3 (some .int) 1 := ⟨q_426, q_3, q_424, q_425, ⟨by decide +kernel, by decide +kernel, by decide +kernel⟩⟩
set_option maxHeartbeats 4000000 in
set_option maxRecDepth 100000 in
theorem ct_M_go {l : Launch} {D : va_G} {cI cB cZ cJ : ClassId} {a : Nat → Nat} {τ : St} (x : Int32) : GCi l y_M_go (Cond.code y_M_go c_M_go 3 (some .int) :: tbW) ({ frames := 2, cells := 0, slots := 0, locals := 42 }) 0 0 D vCl (TY cI cB cZ cJ) [.ref (a 0), .int x] (mw a cI cZ τ) (fun r u => (inM x = false ∧ r = 0 ∧ u = mw a cI cZ (s2 τ 0 0 1)) ∨ (inM x = true ∧ r = τ 0 3 ∧ u = mw a cI cZ (s2 (s2 (s2 τ 0 0 0) 0 3 x) 0 4 0))) := by
  refine gc_body (Qc := gc_Qi D vCl (TY cI cB cZ cJ) (mw a cI cZ τ) (fun r u => (inM x = false ∧ r = 0 ∧ u = mw a cI cZ (s2 τ 0 0 1)) ∨ (inM x = true ∧ r = τ 0 3 ∧ u = mw a cI cZ (s2 (s2 (s2 τ 0 0 0) 0 3 x) 0 4 0)))) (cc := c_M_go) (maxL := 3) (ret := (some .int)) (by decide) rfl (by simp [Value.category]) (Nat.le_of_ble_eq_true rfl) ?_
  intro p e s m args below meth c F
  have hx := F.1
  have hb := F.2.1
  refine gj_ld (i := 0) (pc2 := 1) rfl (fun _ _ _ h9 => lv_aload_n hx hb d_M_go_0 rfl h9) ?_
  refine gj_ld (i := 1) (pc2 := 2) rfl (fun _ _ _ h9 => lv_iload_n hx hb d_M_go_1 rfl h9) ?_
  refine bj_s F k_M_isThere d_M_go_2 q_397 (ct_M_isThere _) (rmo rfl) rfl rfl (Nat.le_of_ble_eq_true rfl) (Nat.zero_le _) (Nat.zero_le _) rfl (fun r9 e9 => ?_)
  subst e9
  refine gj_if (pc2 := 12) (pc3 := 8) (fun _ _ _ => lv_if_ne (tgt := 12) hx hb d_M_go_5 (by decide)) (fun h5 => ?_) (fun h5 => ?_)
  · refine gj_l (pc2 := 13) (fun _ _ _ => lv_iconst (v := 0) hx hb d_M_go_12 (by decide)) ?_
    refine gj_l (pc2 := 14) (fun _ _ _ => lv_iconst (v := 0) hx hb d_M_go_13 (by decide)) ?_
    refine bj_vi F k_M_throwing d_M_go_14 q_403 (mw_at (i := 0) (by omega)) rfl (ct_M_throwing _ _) (rmo rfl) rfl rfl (Nat.le_of_ble_eq_true rfl) (Nat.zero_le _) (Nat.zero_le _) rfl (fun r9 u9 e9 => ?_)
    obtain ⟨rfl, rfl⟩ := e9
    refine gj_if (pc2 := 22) (pc3 := 20) (fun _ _ _ => lv_if_eq (tgt := 22) hx hb d_M_go_17 (by decide)) (fun h17 => ?_) (fun h17 => ?_)
    · refine gj_ld (i := 0) (pc2 := 23) rfl (fun _ _ _ h9 => lv_aload_n hx hb d_M_go_22 rfl h9) ?_
      refine mj_gi F 3 rfl d_M_go_23 q_333 rfl ?_
      refine gj_st (i := 2) (pc2 := 27) (Nat.le_of_ble_eq_true rfl) rfl (fun _ _ _ _ _ h9 l9 => lv_istore_n hx hb d_M_go_26 rfl h9 (Nat.le_of_ble_eq_true rfl) l9) ?_
      refine gj_ld (i := 0) (pc2 := 28) rfl (fun _ _ _ h9 => lv_aload_n hx hb d_M_go_27 rfl h9) ?_
      refine gj_ld (i := 1) (pc2 := 29) rfl (fun _ _ _ h9 => lv_iload_n hx hb d_M_go_28 rfl h9) ?_
      refine mj_pi F 3 rfl d_M_go_29 q_333 rfl ?_
      refine gj_ld (i := 0) (pc2 := 33) rfl (fun _ _ _ h9 => lv_aload_n hx hb d_M_go_32 rfl h9) ?_
      refine gj_l (pc2 := 34) (fun _ _ _ => lv_iconst (v := 0) hx hb d_M_go_33 (by decide)) ?_
      refine mj_pi F 4 rfl d_M_go_34 q_334 rfl ?_
      refine gj_ld (i := 2) (pc2 := 38) rfl (fun _ _ _ h9 => lv_iload_n hx hb d_M_go_37 rfl h9) ?_
      exact gj_iret F d_M_go_38 (Nat.le_refl _) (Nat.le_refl _) (Or.inr ⟨bN_n0.mp h5, rfl, rfl⟩)
    · exact absurd h17 (by decide)
  · refine gj_l (pc2 := 9) (fun _ _ _ => lv_iconst (v := 1) hx hb d_M_go_8 (by decide)) ?_
    refine gj_l (pc2 := 13) (fun _ _ _ => lv_goto (tgt := 13) hx hb d_M_go_9 (by decide)) ?_
    refine gj_l (pc2 := 14) (fun _ _ _ => lv_iconst (v := 0) hx hb d_M_go_13 (by decide)) ?_
    refine bj_vi F k_M_throwing d_M_go_14 q_403 (mw_at (i := 0) (by omega)) rfl (ct_M_throwing _ _) (rmo rfl) rfl rfl (Nat.le_of_ble_eq_true rfl) (Nat.zero_le _) (Nat.zero_le _) rfl (fun r9 u9 e9 => ?_)
    obtain ⟨rfl, rfl⟩ := e9
    refine gj_if (pc2 := 22) (pc3 := 20) (fun _ _ _ => lv_if_eq (tgt := 22) hx hb d_M_go_17 (by decide)) (fun h17 => ?_) (fun h17 => ?_)
    · exact absurd h17 (by decide)
    · refine gj_l (pc2 := 21) (fun _ _ _ => lv_iconst (v := 0) hx hb d_M_go_20 (by decide)) ?_
      exact gj_iret F d_M_go_21 (Nat.le_refl _) (Nat.le_refl _) (Or.inl ⟨bN_0.mp h5, rfl, rfl⟩)

theorem k_M_memory : CKV y_M_memory c_M_memory 2 (some .int) 1 := ⟨q_473, q_3, q_471, q_472, ⟨by decide +kernel, by decide +kernel, by decide +kernel⟩⟩
set_option maxHeartbeats 4000000 in
set_option maxRecDepth 100000 in
theorem ct_M_memory {l : Launch} {D : va_G} {cI cB cZ cJ : ClassId} {a : Nat → Nat} {τ : St} (x : Int32) : GCi l y_M_memory (Cond.code y_M_memory c_M_memory 2 (some .int) :: tbW) ({ frames := 2, cells := 0, slots := 0, locals := 42 }) 0 0 D vCl (TY cI cB cZ cJ) [.ref (a 0), .int x] (mw a cI cZ τ) (fun r u => (inM x = false ∧ r = 0 ∧ u = mw a cI cZ (s2 τ 0 0 1)) ∨ ∃ i : Nat, i < 1024 ∧ x = nI i ∧ r = τ 1 i ∧ u = mw a cI cZ (s2 τ 0 0 0)) := by
  refine gc_body (Qc := gc_Qi D vCl (TY cI cB cZ cJ) (mw a cI cZ τ) (fun r u => (inM x = false ∧ r = 0 ∧ u = mw a cI cZ (s2 τ 0 0 1)) ∨ ∃ i : Nat, i < 1024 ∧ x = nI i ∧ r = τ 1 i ∧ u = mw a cI cZ (s2 τ 0 0 0))) (cc := c_M_memory) (maxL := 2) (ret := (some .int)) (by decide) rfl (by simp [Value.category]) (Nat.le_of_ble_eq_true rfl) ?_
  intro p e s m args below meth c F
  have hx := F.1
  have hb := F.2.1
  refine gj_ld (i := 0) (pc2 := 1) rfl (fun _ _ _ h9 => lv_aload_n hx hb d_M_memory_0 rfl h9) ?_
  refine gj_ld (i := 1) (pc2 := 2) rfl (fun _ _ _ h9 => lv_iload_n hx hb d_M_memory_1 rfl h9) ?_
  refine bj_s F k_M_isThere d_M_memory_2 q_397 (ct_M_isThere _) (rmo rfl) rfl rfl (Nat.le_of_ble_eq_true rfl) (Nat.zero_le _) (Nat.zero_le _) rfl (fun r9 e9 => ?_)
  subst e9
  refine gj_if (pc2 := 12) (pc3 := 8) (fun _ _ _ => lv_if_ne (tgt := 12) hx hb d_M_memory_5 (by decide)) (fun h5 => ?_) (fun h5 => ?_)
  · refine gj_l (pc2 := 13) (fun _ _ _ => lv_iconst (v := 0) hx hb d_M_memory_12 (by decide)) ?_
    refine gj_l (pc2 := 14) (fun _ _ _ => lv_iconst (v := 0) hx hb d_M_memory_13 (by decide)) ?_
    refine bj_vi F k_M_throwing d_M_memory_14 q_403 (mw_at (i := 0) (by omega)) rfl (ct_M_throwing _ _) (rmo rfl) rfl rfl (Nat.le_of_ble_eq_true rfl) (Nat.zero_le _) (Nat.zero_le _) rfl (fun r9 u9 e9 => ?_)
    obtain ⟨rfl, rfl⟩ := e9
    refine gj_if (pc2 := 24) (pc3 := 20) (fun _ _ _ => lv_if_eq (tgt := 24) hx hb d_M_memory_17 (by decide)) (fun h17 => ?_) (fun h17 => ?_)
    · obtain ⟨i, hi, rfl⟩ := inM_of (bN_n0.mp h5)
      have hin := inM_nI hi
      refine gj_ld (i := 0) (pc2 := 25) rfl (fun _ _ _ h9 => lv_aload_n hx hb d_M_memory_24 rfl h9) ?_
      refine mj_gr F 1 rfl d_M_memory_25 q_331 rfl ?_
      refine gj_ld (i := 1) (pc2 := 29) rfl (fun _ _ _ h9 => lv_iload_n hx hb d_M_memory_28 rfl h9) ?_
      refine mj_ld F 1 1024 i (by omega) rfl (by decide) rfl hi d_M_memory_29 rfl ?_
      exact gj_iret F d_M_memory_30 (Nat.le_refl _) (Nat.le_refl _) (by first | exact Or.inl ⟨bN_0.mp h5, rfl, rfl⟩ | exact Or.inr ⟨i, hi, rfl, rfl, rfl⟩)
    · exact absurd h17 (by decide)
  · refine gj_l (pc2 := 9) (fun _ _ _ => lv_iconst (v := 1) hx hb d_M_memory_8 (by decide)) ?_
    refine gj_l (pc2 := 13) (fun _ _ _ => lv_goto (tgt := 13) hx hb d_M_memory_9 (by decide)) ?_
    refine gj_l (pc2 := 14) (fun _ _ _ => lv_iconst (v := 0) hx hb d_M_memory_13 (by decide)) ?_
    refine bj_vi F k_M_throwing d_M_memory_14 q_403 (mw_at (i := 0) (by omega)) rfl (ct_M_throwing _ _) (rmo rfl) rfl rfl (Nat.le_of_ble_eq_true rfl) (Nat.zero_le _) (Nat.zero_le _) rfl (fun r9 u9 e9 => ?_)
    obtain ⟨rfl, rfl⟩ := e9
    refine gj_if (pc2 := 24) (pc3 := 20) (fun _ _ _ => lv_if_eq (tgt := 24) hx hb d_M_memory_17 (by decide)) (fun h17 => ?_) (fun h17 => ?_)
    · exact absurd h17 (by decide)
    · refine gj_l (pc2 := 21) (fun _ _ _ => lv_iconst (v := 0) hx hb d_M_memory_20 (by decide)) ?_
      refine gj_l (pc2 := 30) (fun _ _ _ => lv_goto (tgt := 30) hx hb d_M_memory_21 (by decide)) ?_
      exact gj_iret F d_M_memory_30 (Nat.le_refl _) (Nat.le_refl _) (by first | exact Or.inl ⟨bN_0.mp h5, rfl, rfl⟩ | exact Or.inr ⟨i, hi, rfl, rfl, rfl⟩)

theorem k_M_kindAt : CKV y_M_kindAt c_M_kindAt 2 (some .int) 1 := ⟨q_442, q_3, q_441, sl_M_kindAt, ⟨by decide +kernel, by decide +kernel, by decide +kernel⟩⟩
set_option maxHeartbeats 4000000 in
set_option maxRecDepth 100000 in
theorem ct_M_kindAt {l : Launch} {D : va_G} {cI cB cZ cJ : ClassId} {a : Nat → Nat} {τ : St} (x : Int32) : GCi l y_M_kindAt (Cond.code y_M_kindAt c_M_kindAt 2 (some .int) :: tbW) ({ frames := 2, cells := 0, slots := 0, locals := 42 }) 0 0 D vCl (TY cI cB cZ cJ) [.ref (a 0), .int x] (mw a cI cZ τ) (fun r u => r = kdM τ x ∧ u = (mw a cI cZ τ)) := by
  refine gc_body (Qc := gc_Qi D vCl (TY cI cB cZ cJ) (mw a cI cZ τ) (fun r u => r = kdM τ x ∧ u = (mw a cI cZ τ))) (cc := c_M_kindAt) (maxL := 2) (ret := (some .int)) (by decide) rfl (by simp [Value.category]) (Nat.le_of_ble_eq_true rfl) ?_
  intro p e s m args below meth c F
  have hx := F.1
  have hb := F.2.1
  refine gj_ld (i := 1) (pc2 := 1) rfl (fun _ _ _ h9 => lv_iload_n hx hb d_M_kindAt_0 rfl h9) ?_
  refine bj_s F k_M_isThere d_M_kindAt_1 q_397 (ct_M_isThere _) (rmo rfl) rfl rfl (Nat.le_of_ble_eq_true rfl) (Nat.zero_le _) (Nat.zero_le _) rfl (fun r9 e9 => ?_)
  subst e9
  refine gj_if (pc2 := 18) (pc3 := 7) (fun _ _ _ => lv_if_eq (tgt := 18) hx hb d_M_kindAt_4 (by decide)) (fun h4 => ?_) (fun h4 => ?_)
  · refine gj_l (pc2 := 19) (fun _ _ _ => lv_iconst (v := (-1)) hx hb d_M_kindAt_18 (by decide)) ?_
    exact gj_iret F d_M_kindAt_19 (Nat.le_refl _) (Nat.le_refl _) ⟨by first | (simp only [kdM, hin, hcl, if_true]; done) | (simp [kdM, bN_0.mp h4]; done), rfl⟩
  · obtain ⟨i, hi, rfl⟩ := inM_of (bN_n0.mp h4)
    have hin := inM_nI hi
    have hcl : (nI i).toNatClampNeg = i := nI_clamp (by omega)
    refine gj_ld (i := 0) (pc2 := 8) rfl (fun _ _ _ h9 => lv_aload_n hx hb d_M_kindAt_7 rfl h9) ?_
    refine mj_gr F 1 rfl d_M_kindAt_8 q_331 rfl ?_
    refine gj_ld (i := 1) (pc2 := 12) rfl (fun _ _ _ h9 => lv_iload_n hx hb d_M_kindAt_11 rfl h9) ?_
    refine mj_ld F 1 1024 i (by omega) rfl (by decide) rfl hi d_M_kindAt_12 rfl ?_
    refine gj_l (pc2 := 14) (fun _ _ _ => lv_iconst (v := 4) hx hb d_M_kindAt_13 (by decide)) ?_
    refine gj_l (pc2 := 15) (fun _ _ _ => lv_ishr hx hb d_M_kindAt_14) ?_
    refine gj_l (pc2 := 19) (fun _ _ _ => lv_goto (tgt := 19) hx hb d_M_kindAt_15 (by decide)) ?_
    exact gj_iret F d_M_kindAt_19 (Nat.le_refl _) (Nat.le_refl _) ⟨by first | (simp only [kdM, hin, hcl, if_true]; done) | (simp [kdM, bN_0.mp h4]; done), rfl⟩

theorem k_M_faultAt : CKV y_M_faultAt c_M_faultAt 3 (some .int) 1 := ⟨q_446, q_3, q_445, sl_M_faultAt, ⟨by decide +kernel, by decide +kernel, by decide +kernel⟩⟩
set_option maxHeartbeats 4000000 in
set_option maxRecDepth 100000 in
theorem ct_M_faultAt {l : Launch} {D : va_G} {cI cB cZ cJ : ClassId} {a : Nat → Nat} {τ : St} (x : Int32) : GCi l y_M_faultAt (Cond.code y_M_faultAt c_M_faultAt 3 (some .int) :: tbW) ({ frames := 3, cells := 0, slots := 0, locals := 63 }) 0 0 D vCl (TY cI cB cZ cJ) [.ref (a 0), .int x] (mw a cI cZ τ) (fun r u => r = ftM τ x ∧ u = (mw a cI cZ τ)) := by
  refine gc_body (Qc := gc_Qi D vCl (TY cI cB cZ cJ) (mw a cI cZ τ) (fun r u => r = ftM τ x ∧ u = (mw a cI cZ τ))) (cc := c_M_faultAt) (maxL := 3) (ret := (some .int)) (by decide) rfl (by simp [Value.category]) (Nat.le_of_ble_eq_true rfl) ?_
  intro p e s m args below meth c F
  have hx := F.1
  have hb := F.2.1
  refine gj_ld (i := 0) (pc2 := 1) rfl (fun _ _ _ h9 => lv_aload_n hx hb d_M_faultAt_0 rfl h9) ?_
  refine gj_ld (i := 1) (pc2 := 2) rfl (fun _ _ _ h9 => lv_iload_n hx hb d_M_faultAt_1 rfl h9) ?_
  refine bj_vi F k_M_kindAt d_M_faultAt_2 q_439 (mw_at (i := 0) (by omega)) rfl (ct_M_kindAt _) (rmo rfl) rfl rfl (Nat.le_of_ble_eq_true rfl) (Nat.zero_le _) (Nat.zero_le _) rfl (fun r9 u9 e9 => ?_)
  obtain ⟨rfl, rfl⟩ := e9
  refine gj_st (i := 2) (pc2 := 6) (Nat.le_of_ble_eq_true rfl) rfl (fun _ _ _ _ _ h9 l9 => lv_istore_n hx hb d_M_faultAt_5 rfl h9 (Nat.le_of_ble_eq_true rfl) l9) ?_
  refine gj_ld (i := 2) (pc2 := 7) rfl (fun _ _ _ h9 => lv_iload_n hx hb d_M_faultAt_6 rfl h9) ?_
  refine gj_if (pc2 := 12) (pc3 := 10) (fun _ _ _ => lv_if_ge (tgt := 12) hx hb d_M_faultAt_7 (by decide)) (fun h7 => ?_) (fun h7 => ?_)
  · refine gj_ld (i := 2) (pc2 := 13) rfl (fun _ _ _ h9 => lv_iload_n hx hb d_M_faultAt_12 rfl h9) ?_
    refine gj_l (pc2 := 15) (fun _ _ _ => lv_bipush (v := (11)) hx hb d_M_faultAt_13 (by decide)) ?_
    refine gj_if (pc2 := 20) (pc3 := 18) (fun _ _ _ => lv_icmp_le (tgt := 20) hx hb d_M_faultAt_15 (by decide)) (fun h15 => ?_) (fun h15 => ?_)
    · refine gj_ld (i := 1) (pc2 := 21) rfl (fun _ _ _ h9 => lv_iload_n hx hb d_M_faultAt_20 rfl h9) ?_
      refine gj_ld (i := 2) (pc2 := 22) rfl (fun _ _ _ h9 => lv_iload_n hx hb d_M_faultAt_21 rfl h9) ?_
      refine bj_s F k_M_sizeOf d_M_faultAt_22 q_447 (ct_M_sizeOf _) (rmo rfl) rfl rfl (Nat.le_of_ble_eq_true rfl) (Nat.zero_le _) (Nat.zero_le _) rfl (fun r9 e9 => ?_)
      subst e9
      refine gj_l (pc2 := 26) (fun _ _ _ => lv_iadd hx hb d_M_faultAt_25) ?_
      refine gj_l (pc2 := 27) (fun _ _ _ => lv_iconst (v := 1) hx hb d_M_faultAt_26 (by decide)) ?_
      refine gj_l (pc2 := 28) (fun _ _ _ => lv_isub hx hb d_M_faultAt_27) ?_
      refine bj_s F k_M_isThere d_M_faultAt_28 q_397 (ct_M_isThere _) (rmo rfl) rfl rfl (Nat.le_of_ble_eq_true rfl) (Nat.zero_le _) (Nat.zero_le _) rfl (fun r9 e9 => ?_)
      subst e9
      refine gj_if (pc2 := 38) (pc3 := 34) (fun _ _ _ => lv_if_eq (tgt := 38) hx hb d_M_faultAt_31 (by decide)) (fun h31 => ?_) (fun h31 => ?_)
      · refine gj_l (pc2 := 39) (fun _ _ _ => lv_iconst (v := 3) hx hb d_M_faultAt_38 (by decide)) ?_
        exact gj_iret F d_M_faultAt_39 (Nat.le_refl _) (Nat.le_refl _) ⟨by first | (simp [bN_0] at h31; simp [ftM, h7, h15, h31]; done) | (simp [ftM, h7, h15, h31]; done), rfl⟩
      · refine gj_l (pc2 := 35) (fun _ _ _ => lv_iconst (v := 0) hx hb d_M_faultAt_34 (by decide)) ?_
        refine gj_l (pc2 := 39) (fun _ _ _ => lv_goto (tgt := 39) hx hb d_M_faultAt_35 (by decide)) ?_
        exact gj_iret F d_M_faultAt_39 (Nat.le_refl _) (Nat.le_refl _) ⟨by first | (simp [bN_0] at h31; simp [ftM, h7, h15, h31]; done) | (simp [ftM, h7, h15, h31]; done), rfl⟩
    · refine gj_l (pc2 := 19) (fun _ _ _ => lv_iconst (v := 2) hx hb d_M_faultAt_18 (by decide)) ?_
      exact gj_iret F d_M_faultAt_19 (Nat.le_refl _) (Nat.le_refl _) ⟨by first | (simp [bN_0] at h31; simp [ftM, h7, h15]; done) | (simp [ftM, h7, h15]; done), rfl⟩
  · refine gj_l (pc2 := 11) (fun _ _ _ => lv_iconst (v := 3) hx hb d_M_faultAt_10 (by decide)) ?_
    exact gj_iret F d_M_faultAt_11 (Nat.le_refl _) (Nat.le_refl _) ⟨by first | (simp [bN_0] at h31; simp [ftM, h7]; done) | (simp [ftM, h7]; done), rfl⟩
end
section
/-! facts on the reference's functions that its walks need -/
theorem ft0 {τ : St} {x : Int32} (h : ftM τ x ≤ 0) : inM x = true ∧ 0 ≤ kdM τ x ∧ kdM τ x ≤ 11 ∧ inM (x + szO (kdM τ x) - 1) = true := by
  unfold ftM at h
  split at h
  · exact absurd h (by decide)
  · next h1 =>
    split at h
    · exact absurd h (by decide)
    · next h2 =>
      split at h
      · next h3 =>
        have h1' : 0 ≤ kdM τ x := Decidable.not_not.mp h1
        refine ⟨?_, h1', Decidable.not_not.mp h2, h3⟩
        cases hz : inM x with
        | true => rfl
        | false =>
          exfalso
          have : kdM τ x = -1 := by unfold kdM; rw [hz]; rfl
          rw [this] at h1'
          exact absurd h1' (by decide)
      · exact absurd h (by decide)
theorem doM_1 {τ : St} (h : ¬ ftM τ (τ 0 3) ≤ 0) : doM τ = (s2 τ 0 4 (1 + ftM τ (τ 0 3)), false) := by unfold doM; rw [if_pos h]
theorem doM_2 {τ : St} (h : ftM τ (τ 0 3) ≤ 0) (hk : dKd τ = 0) : doM τ = (s2 τ 0 4 1, false) := by unfold doM; rw [if_neg (fun q => q h), if_pos hk]
theorem doM_3 {τ : St} (h : ftM τ (τ 0 3) ≤ 0) (hk : ¬ dKd τ = 0) (h4 : dKd τ = 4 ∨ dKd τ = 5) (hi : inM (dSv τ) = false) : doM τ = (s2 τ 0 4 (1 + 1), false) := by unfold doM; rw [if_neg (fun q => q h), if_neg hk, if_pos ⟨h4, hi⟩]
theorem doM_4 {τ : St} (h : ftM τ (τ 0 3) ≤ 0) (h7 : dKd τ = 7) : doM τ = (s2 (dPl τ) 0 3 (dPl τ 0 3 + (if hoM (dPl τ) (dCo τ) = 0 then 0 else dNr τ)), true) := by
  unfold doM
  rw [if_neg (fun q => q h), if_neg (by rw [h7]; decide), if_neg (fun q => by rw [h7] at q; exact absurd q.1 (by decide)), if_pos h7]
theorem doM_5 {τ : St} (h : ftM τ (τ 0 3) ≤ 0) (hk : ¬ dKd τ = 0) (hn : dKd τ = 4 ∨ dKd τ = 5 → inM (dSv τ) = true) (h7 : ¬ dKd τ = 7) : doM τ = (woM (dPl τ) (dKd τ) (lo3 (τ 1 (τ 0 3).toNatClampNeg)) (dSv τ) (dNr τ), true) := by
  unfold doM
  rw [if_neg (fun q => q h), if_neg hk, if_neg (fun q => by have := hn q.1; rw [q.2] at this; cases this), if_neg h7]
/-- the two flags are truth values -/
def ZB (τ : St) : Prop := (∃ b : Bool, τ 0 5 = bN b) ∧ ∃ b : Bool, τ 0 6 = bN b
theorem ZB.of {τ υ : St} (h : ZB τ) (h5 : υ 0 5 = τ 0 5) (h6 : υ 0 6 = τ 0 6) : ZB υ := by
  unfold ZB
  rw [h5, h6]
  exact h
/-- a kept row has 1 to 12 words -/
def MI (τ : St) : Prop := ∀ k : Nat, k < 32 → ¬ τ 3 k = 0 → ∃ W : Nat, 1 ≤ W ∧ W ≤ 12 ∧ τ 5 k = nI W
theorem mkT_n (τ : St) : ∀ t : Nat, (mkT τ t).2.2 ≤ t ∧ (1 ≤ t → 1 ≤ (mkT τ t).2.2) := by
  intro t
  induction t with
  | zero => exact ⟨Nat.le_refl 0, fun h => absurd h (by omega)⟩
  | succ t ih =>
    cases hz : (mkT τ t).2.1 with
    | true =>
      rw [mkT_on hz]
      exact ⟨by have := ih.1; dsimp only; omega, fun _ => by dsimp only; omega⟩
    | false =>
      have e : mkT τ (t + 1) = mkT τ t := mkT_off hz 1
      rw [e]
      refine ⟨by have := ih.1; omega, fun _ => ?_⟩
      cases t with
      | zero => exact absurd (show true = false from hz) (by decide)
      | succ t => exact ih.2 (by omega)
theorem ho_dPl (τ : St) (c : Int32) : dPl τ 0 5 = τ 0 5 ∧ dPl τ 0 6 = τ 0 6 := ⟨s2_ne _ _ _ (by decide), s2_ne _ _ _ (by decide)⟩
theorem ZB.dPl {τ : St} (h : ZB τ) : ZB (dPl τ) := h.of (ho_dPl τ 0).1 (ho_dPl τ 0).2
theorem add21 (x : Int32) : x + 2 - 1 = x + 1 := by
  rw [Int32.sub_eq_add_neg, Int32.add_assoc]
  rfl
end
section
theorem mk_12 {τ : St} (h : (mkT τ 12).2.2 = 12) : (mkT τ 12).2.1 = false := by
  cases hz : (mkT τ 11).2.1 with
  | true =>
    rw [mkT_on hz] at h ⊢
    dsimp only at h ⊢
    rw [decide_eq_true (by omega : 12 ≤ (mkT τ 11).2.2 + 1)]
    rfl
  | false =>
    have e : mkT τ 12 = mkT τ 11 := mkT_off hz 1
    rw [e]
    exact hz
theorem mkM_1 {τ : St} {k t : Nat} (hq : mkT τ 12 = mkT τ t) (ht : (mkT τ t).2.2 = t) (h1 : (mkT τ t).1 ≤ 1024) (h2 : inM ((mkA τ k t (mkT τ t).1) 0 3) = true) : mkM τ k = mkZ (mkA τ k t (mkT τ t).1) t := by
  show mkZ (if inM (mkA τ k (mkT τ 12).2.2 (if (mkT τ 12).1 ≤ 1024 then (mkT τ 12).1 else 1024) 0 3) then _ else _) (mkT τ 12).2.2 = _
  rw [hq, ht, if_pos h1, if_pos h2]
theorem mkM_2 {τ : St} {k t : Nat} (hq : mkT τ 12 = mkT τ t) (ht : (mkT τ t).2.2 = t) (h1 : ¬ (mkT τ t).1 ≤ 1024) (h2 : inM ((mkA τ k t 1024) 0 3) = true) : mkM τ k = mkZ (mkA τ k t 1024) t := by
  show mkZ (if inM (mkA τ k (mkT τ 12).2.2 (if (mkT τ 12).1 ≤ 1024 then (mkT τ 12).1 else 1024) 0 3) then _ else _) (mkT τ 12).2.2 = _
  rw [hq, ht, if_neg h1, if_pos h2]
theorem mkM_3 {τ : St} {k t : Nat} (hq : mkT τ 12 = mkT τ t) (ht : (mkT τ t).2.2 = t) (h1 : (mkT τ t).1 ≤ 1024) (h2 : inM ((mkA τ k t (mkT τ t).1) 0 3) = false) : mkM τ k = mkZ (s2 (mkA τ k t (mkT τ t).1) 6 k 0) t := by
  show mkZ (if inM (mkA τ k (mkT τ 12).2.2 (if (mkT τ 12).1 ≤ 1024 then (mkT τ 12).1 else 1024) 0 3) then _ else _) (mkT τ 12).2.2 = _
  rw [hq, ht, if_pos h1, if_neg (by rw [h2]; decide)]
theorem mkM_4 {τ : St} {k t : Nat} (hq : mkT τ 12 = mkT τ t) (ht : (mkT τ t).2.2 = t) (h1 : ¬ (mkT τ t).1 ≤ 1024) (h2 : inM ((mkA τ k t 1024) 0 3) = false) : mkM τ k = mkZ (s2 (mkA τ k t 1024) 6 k 0) t := by
  show mkZ (if inM (mkA τ k (mkT τ 12).2.2 (if (mkT τ 12).1 ≤ 1024 then (mkT τ 12).1 else 1024) 0 3) then _ else _) (mkT τ 12).2.2 = _
  rw [hq, ht, if_neg h1, if_neg (by rw [h2]; decide)]
theorem fiM_1 {τ : St} (h1 : ¬ fi1 τ 3 (kAt (τ 0 3)) = 0) (h2 : fi1 τ 4 (kAt (τ 0 3)) = τ 0 3) : fiM τ = s2 (fi1 τ) 0 15 (fi1 τ 0 15 + 1) := by unfold fiM; rw [if_pos ⟨h1, h2⟩]
theorem fiM_2 {τ : St} (h1 : ¬ fi1 τ 3 (kAt (τ 0 3)) = 0) (h2 : ¬ fi1 τ 4 (kAt (τ 0 3)) = τ 0 3) : fiM τ = mkM (fi1 τ) (kAt (τ 0 3)) := by unfold fiM; rw [if_neg (fun h => h2 h.2)]
theorem fiM_3 {τ : St} (h1 : fi1 τ 3 (kAt (τ 0 3)) = 0) : fiM τ = mkM (fi1 τ) (kAt (τ 0 3)) := by unfold fiM; rw [if_neg (fun h => h.1 h1)]

theorem k_M_become : CKV y_M_become c_M_become 3 none 2 := ⟨q_469, q_3, q_468, sl_M_become, ⟨by decide +kernel, by decide +kernel, by decide +kernel⟩⟩
set_option maxHeartbeats 4000000 in
set_option maxRecDepth 100000 in
theorem ct_M_become {l : Launch} {D : va_G} {cI cB cZ cJ : ClassId} {a : Nat → Nat} {τ : St} {r : Nat} (hr : r < 8) (v : Int32) : GCv l y_M_become (Cond.code y_M_become c_M_become 3 none :: tbW) ({ frames := 0, cells := 0, slots := 0, locals := 0 }) 0 0 D vCl (TY cI cB cZ cJ) [.ref (a 0), .int (nI r), .int v] (mw a cI cZ τ) (fun u => u = mw a cI cZ (beM τ r v)) := by
  refine gc_body (Qc := gc_Qv D vCl (TY cI cB cZ cJ) (mw a cI cZ τ) (fun u => u = mw a cI cZ (beM τ r v))) (cc := c_M_become) (maxL := 3) (ret := none) (by decide) rfl (by simp [Value.category]) (Nat.le_of_ble_eq_true rfl) ?_
  intro p e s m args below meth c F
  have hx := F.1
  have hb := F.2.1
  refine gj_ld (i := 0) (pc2 := 1) rfl (fun _ _ _ h9 => lv_aload_n hx hb d_M_become_0 rfl h9) ?_
  refine mj_gr F 2 rfl d_M_become_1 q_332 rfl ?_
  refine gj_ld (i := 1) (pc2 := 5) rfl (fun _ _ _ h9 => lv_iload_n hx hb d_M_become_4 rfl h9) ?_
  refine gj_ld (i := 2) (pc2 := 6) rfl (fun _ _ _ h9 => lv_iload_n hx hb d_M_become_5 rfl h9) ?_
  refine mj_st F 2 8 r (by omega) (fun _ => rfl) (by decide) rfl hr d_M_become_6 rfl ?_
  refine gj_ld (i := 0) (pc2 := 8) rfl (fun _ _ _ h9 => lv_aload_n hx hb d_M_become_7 rfl h9) ?_
  refine gj_ld (i := 2) (pc2 := 9) rfl (fun _ _ _ h9 => lv_iload_n hx hb d_M_become_8 rfl h9) ?_
  refine gj_if (pc2 := 16) (pc3 := 12) (fun _ _ _ => lv_if_ne (tgt := 16) hx hb d_M_become_9 (by decide)) (fun h9 => ?_) (fun h9 => ?_)
  · refine gj_l (pc2 := 17) (fun _ _ _ => lv_iconst (v := 0) hx hb d_M_become_16 (by decide)) ?_
    refine mj_pz F 5 rfl (by first | exact ⟨rfl, rfl⟩ | exact bN_f _) d_M_become_17 q_335 rfl ?_
    refine gj_ld (i := 0) (pc2 := 21) rfl (fun _ _ _ h9 => lv_aload_n hx hb d_M_become_20 rfl h9) ?_
    refine gj_ld (i := 2) (pc2 := 22) rfl (fun _ _ _ h9 => lv_iload_n hx hb d_M_become_21 rfl h9) ?_
    refine gj_if (pc2 := 29) (pc3 := 25) (fun _ _ _ => lv_if_ge (tgt := 29) hx hb d_M_become_22 (by decide)) (fun h22 => ?_) (fun h22 => ?_)
    · refine gj_l (pc2 := 30) (fun _ _ _ => lv_iconst (v := 0) hx hb d_M_become_29 (by decide)) ?_
      refine mj_pz F 6 rfl (by first | exact ⟨rfl, rfl⟩ | exact bN_f _) d_M_become_30 q_336 rfl ?_
      exact gj_vret F d_M_become_33 (Nat.le_refl _) (Nat.le_refl _) (by first | (simp [beM, bN, h9, h22]; done) | (subst h9; exact absurd h22 (by decide)))
    · refine gj_l (pc2 := 26) (fun _ _ _ => lv_iconst (v := 1) hx hb d_M_become_25 (by decide)) ?_
      refine gj_l (pc2 := 30) (fun _ _ _ => lv_goto (tgt := 30) hx hb d_M_become_26 (by decide)) ?_
      refine mj_pz F 6 rfl (by first | exact ⟨rfl, rfl⟩ | exact bN_f _) d_M_become_30 q_336 rfl ?_
      exact gj_vret F d_M_become_33 (Nat.le_refl _) (Nat.le_refl _) (by first | (simp [beM, bN, h9, h22]; done) | (subst h9; exact absurd h22 (by decide)))
  · refine gj_l (pc2 := 13) (fun _ _ _ => lv_iconst (v := 1) hx hb d_M_become_12 (by decide)) ?_
    refine gj_l (pc2 := 17) (fun _ _ _ => lv_goto (tgt := 17) hx hb d_M_become_13 (by decide)) ?_
    refine mj_pz F 5 rfl (by first | exact ⟨rfl, rfl⟩ | exact bN_f _) d_M_become_17 q_335 rfl ?_
    refine gj_ld (i := 0) (pc2 := 21) rfl (fun _ _ _ h9 => lv_aload_n hx hb d_M_become_20 rfl h9) ?_
    refine gj_ld (i := 2) (pc2 := 22) rfl (fun _ _ _ h9 => lv_iload_n hx hb d_M_become_21 rfl h9) ?_
    refine gj_if (pc2 := 29) (pc3 := 25) (fun _ _ _ => lv_if_ge (tgt := 29) hx hb d_M_become_22 (by decide)) (fun h22 => ?_) (fun h22 => ?_)
    · refine gj_l (pc2 := 30) (fun _ _ _ => lv_iconst (v := 0) hx hb d_M_become_29 (by decide)) ?_
      refine mj_pz F 6 rfl (by first | exact ⟨rfl, rfl⟩ | exact bN_f _) d_M_become_30 q_336 rfl ?_
      exact gj_vret F d_M_become_33 (Nat.le_refl _) (Nat.le_refl _) (by first | (simp [beM, bN, h9, h22]; done) | (subst h9; exact absurd h22 (by decide)))
    · refine gj_l (pc2 := 26) (fun _ _ _ => lv_iconst (v := 1) hx hb d_M_become_25 (by decide)) ?_
      refine gj_l (pc2 := 30) (fun _ _ _ => lv_goto (tgt := 30) hx hb d_M_become_26 (by decide)) ?_
      refine mj_pz F 6 rfl (by first | exact ⟨rfl, rfl⟩ | exact bN_f _) d_M_become_30 q_336 rfl ?_
      exact gj_vret F d_M_become_33 (Nat.le_refl _) (Nat.le_refl _) (by first | (simp [beM, bN, h9, h22]; done) | (subst h9; exact absurd h22 (by decide)))

theorem k_M_holds : CKV y_M_holds c_M_holds 2 (some .boolean) 1 := ⟨q_461, q_3, q_460, sl_M_holds, ⟨by decide +kernel, by decide +kernel, by decide +kernel⟩⟩
set_option maxHeartbeats 4000000 in
set_option maxRecDepth 100000 in
theorem ct_M_holds {l : Launch} {D : va_G} {cI cB cZ cJ : ClassId} {a : Nat → Nat} {τ : St} (hZ : ZB τ) (x : Int32) : GCi l y_M_holds (Cond.code y_M_holds c_M_holds 2 (some .boolean) :: tbW) ({ frames := 0, cells := 0, slots := 0, locals := 0 }) 0 0 D vCl (TY cI cB cZ cJ) [.ref (a 0), .int x] (mw a cI cZ τ) (fun r u => r = hoM τ x ∧ u = (mw a cI cZ τ)) := by
  refine gc_body (Qc := gc_Qi D vCl (TY cI cB cZ cJ) (mw a cI cZ τ) (fun r u => r = hoM τ x ∧ u = (mw a cI cZ τ))) (cc := c_M_holds) (maxL := 2) (ret := (some .boolean)) (by decide) rfl (by simp [Value.category]) (Nat.le_of_ble_eq_true rfl) ?_
  intro p e s m args below meth c F
  have hx := F.1
  have hb := F.2.1
  refine gj_ld (i := 1) (pc2 := 1) rfl (fun _ _ _ h9 => lv_iload_n hx hb d_M_holds_0 rfl h9) ?_
  by_cases h1_0 : x = 0
  · rw [h1_0]
    refine gj_l (pc2 := 36) (fun _ _ _ => lv_tableIn (tgt := 36) hx hb d_M_holds_1 (by decide) (by decide) rfl (by decide)) ?_
    refine gj_l (pc2 := 37) (fun _ _ _ => lv_iconst (v := 1) hx hb d_M_holds_36 (by decide)) ?_
    exact gj_zret F d_M_holds_37 (by first | rfl | (obtain ⟨⟨b9, e9⟩, -⟩ := hZ; rw [e9]; exact bN_z b9) | (obtain ⟨-, b9, e9⟩ := hZ; rw [e9]; exact bN_z b9)) (Nat.le_refl _) (Nat.le_refl _) ⟨by simp [hoM, h1_0], rfl⟩
  by_cases h1_1 : x = 1
  · rw [h1_1]
    refine gj_l (pc2 := 38) (fun _ _ _ => lv_tableIn (tgt := 38) hx hb d_M_holds_1 (by decide) (by decide) rfl (by decide)) ?_
    refine gj_ld (i := 0) (pc2 := 39) rfl (fun _ _ _ h9 => lv_aload_n hx hb d_M_holds_38 rfl h9) ?_
    refine mj_gi F 5 rfl d_M_holds_39 q_335 rfl ?_
    exact gj_zret F d_M_holds_42 (by first | rfl | (obtain ⟨⟨b9, e9⟩, -⟩ := hZ; rw [e9]; exact bN_z b9) | (obtain ⟨-, b9, e9⟩ := hZ; rw [e9]; exact bN_z b9)) (Nat.le_refl _) (Nat.le_refl _) ⟨by simp [hoM, h1_0, h1_1], rfl⟩
  by_cases h1_2 : x = 2
  · rw [h1_2]
    refine gj_l (pc2 := 43) (fun _ _ _ => lv_tableIn (tgt := 43) hx hb d_M_holds_1 (by decide) (by decide) rfl (by decide)) ?_
    refine gj_ld (i := 0) (pc2 := 44) rfl (fun _ _ _ h9 => lv_aload_n hx hb d_M_holds_43 rfl h9) ?_
    refine mj_gi F 5 rfl d_M_holds_44 q_335 rfl ?_
    refine gj_if (pc2 := 54) (pc3 := 50) (fun _ _ _ => lv_if_ne (tgt := 54) hx hb d_M_holds_47 (by decide)) (fun h47 => ?_) (fun h47 => ?_)
    · refine gj_l (pc2 := 55) (fun _ _ _ => lv_iconst (v := 0) hx hb d_M_holds_54 (by decide)) ?_
      exact gj_zret F d_M_holds_55 (by first | rfl | (obtain ⟨⟨b9, e9⟩, -⟩ := hZ; rw [e9]; exact bN_z b9) | (obtain ⟨-, b9, e9⟩ := hZ; rw [e9]; exact bN_z b9)) (Nat.le_refl _) (Nat.le_refl _) ⟨by simp [hoM, h1_0, h1_1, h1_2, h47], rfl⟩
    · refine gj_l (pc2 := 51) (fun _ _ _ => lv_iconst (v := 1) hx hb d_M_holds_50 (by decide)) ?_
      refine gj_l (pc2 := 55) (fun _ _ _ => lv_goto (tgt := 55) hx hb d_M_holds_51 (by decide)) ?_
      exact gj_zret F d_M_holds_55 (by first | rfl | (obtain ⟨⟨b9, e9⟩, -⟩ := hZ; rw [e9]; exact bN_z b9) | (obtain ⟨-, b9, e9⟩ := hZ; rw [e9]; exact bN_z b9)) (Nat.le_refl _) (Nat.le_refl _) ⟨by simp [hoM, h1_0, h1_1, h1_2, h47], rfl⟩
  by_cases h1_3 : x = 3
  · rw [h1_3]
    refine gj_l (pc2 := 56) (fun _ _ _ => lv_tableIn (tgt := 56) hx hb d_M_holds_1 (by decide) (by decide) rfl (by decide)) ?_
    refine gj_ld (i := 0) (pc2 := 57) rfl (fun _ _ _ h9 => lv_aload_n hx hb d_M_holds_56 rfl h9) ?_
    refine mj_gi F 6 rfl d_M_holds_57 q_336 rfl ?_
    exact gj_zret F d_M_holds_60 (by first | rfl | (obtain ⟨⟨b9, e9⟩, -⟩ := hZ; rw [e9]; exact bN_z b9) | (obtain ⟨-, b9, e9⟩ := hZ; rw [e9]; exact bN_z b9)) (Nat.le_refl _) (Nat.le_refl _) ⟨by simp [hoM, h1_0, h1_1, h1_2, h1_3], rfl⟩
  by_cases h1_4 : x = 4
  · rw [h1_4]
    refine gj_l (pc2 := 61) (fun _ _ _ => lv_tableIn (tgt := 61) hx hb d_M_holds_1 (by decide) (by decide) rfl (by decide)) ?_
    refine gj_ld (i := 0) (pc2 := 62) rfl (fun _ _ _ h9 => lv_aload_n hx hb d_M_holds_61 rfl h9) ?_
    refine mj_gi F 6 rfl d_M_holds_62 q_336 rfl ?_
    refine gj_if (pc2 := 72) (pc3 := 68) (fun _ _ _ => lv_if_ne (tgt := 72) hx hb d_M_holds_65 (by decide)) (fun h65 => ?_) (fun h65 => ?_)
    · refine gj_l (pc2 := 73) (fun _ _ _ => lv_iconst (v := 0) hx hb d_M_holds_72 (by decide)) ?_
      exact gj_zret F d_M_holds_73 (by first | rfl | (obtain ⟨⟨b9, e9⟩, -⟩ := hZ; rw [e9]; exact bN_z b9) | (obtain ⟨-, b9, e9⟩ := hZ; rw [e9]; exact bN_z b9)) (Nat.le_refl _) (Nat.le_refl _) ⟨by simp [hoM, h1_0, h1_1, h1_2, h1_3, h1_4, h65], rfl⟩
    · refine gj_l (pc2 := 69) (fun _ _ _ => lv_iconst (v := 1) hx hb d_M_holds_68 (by decide)) ?_
      refine gj_l (pc2 := 73) (fun _ _ _ => lv_goto (tgt := 73) hx hb d_M_holds_69 (by decide)) ?_
      exact gj_zret F d_M_holds_73 (by first | rfl | (obtain ⟨⟨b9, e9⟩, -⟩ := hZ; rw [e9]; exact bN_z b9) | (obtain ⟨-, b9, e9⟩ := hZ; rw [e9]; exact bN_z b9)) (Nat.le_refl _) (Nat.le_refl _) ⟨by simp [hoM, h1_0, h1_1, h1_2, h1_3, h1_4, h65], rfl⟩
  have hsw : (x).toInt < 0 ∨ 4 < (x).toInt := by
    by_cases z : (x).toInt < 0
    · exact Or.inl z
    by_cases z2 : 4 < (x).toInt
    · exact Or.inr z2
    exfalso
    rcases (show (x).toInt = 0 ∨ (x).toInt = 1 ∨ (x).toInt = 2 ∨ (x).toInt = 3 ∨ (x).toInt = 4 by omega) with z3 | z3 | z3 | z3 | z3
    · exact h1_0 (Int32.toInt_inj.mp (z3.trans (by decide)))
    · exact h1_1 (Int32.toInt_inj.mp (z3.trans (by decide)))
    · exact h1_2 (Int32.toInt_inj.mp (z3.trans (by decide)))
    · exact h1_3 (Int32.toInt_inj.mp (z3.trans (by decide)))
    · exact h1_4 (Int32.toInt_inj.mp (z3.trans (by decide)))
  refine gj_l (pc2 := 74) (fun _ _ _ => lv_tableOut (tgt := 74) hx hb d_M_holds_1 hsw (by decide)) ?_
  refine gj_l (pc2 := 75) (fun _ _ _ => lv_iconst (v := 0) hx hb d_M_holds_74 (by decide)) ?_
  exact gj_zret F d_M_holds_75 (by first | rfl | (obtain ⟨⟨b9, e9⟩, -⟩ := hZ; rw [e9]; exact bN_z b9) | (obtain ⟨-, b9, e9⟩ := hZ; rw [e9]; exact bN_z b9)) (Nat.le_refl _) (Nat.le_refl _) ⟨by simp [hoM, h1_0, h1_1, h1_2, h1_3, h1_4], rfl⟩

theorem k_M_fault : CKV y_M_fault c_M_fault 2 none 1 := ⟨q_457, q_3, q_456, sl_M_fault, ⟨by decide +kernel, by decide +kernel, by decide +kernel⟩⟩
set_option maxHeartbeats 4000000 in
set_option maxRecDepth 100000 in
theorem ct_M_fault {l : Launch} {D : va_G} {cI cB cZ cJ : ClassId} {a : Nat → Nat} {τ : St} (x : Int32) : GCv l y_M_fault (Cond.code y_M_fault c_M_fault 2 none :: tbW) ({ frames := 0, cells := 0, slots := 0, locals := 0 }) 0 0 D vCl (TY cI cB cZ cJ) [.ref (a 0), .int x] (mw a cI cZ τ) (fun u => u = mw a cI cZ (s2 τ 0 4 (1 + x))) := by
  refine gc_body (Qc := gc_Qv D vCl (TY cI cB cZ cJ) (mw a cI cZ τ) (fun u => u = mw a cI cZ (s2 τ 0 4 (1 + x)))) (cc := c_M_fault) (maxL := 2) (ret := none) (by decide) rfl (by simp [Value.category]) (Nat.le_of_ble_eq_true rfl) ?_
  intro p e s m args below meth c F
  have hx := F.1
  have hb := F.2.1
  refine gj_ld (i := 0) (pc2 := 1) rfl (fun _ _ _ h9 => lv_aload_n hx hb d_M_fault_0 rfl h9) ?_
  refine gj_l (pc2 := 2) (fun _ _ _ => lv_iconst (v := 1) hx hb d_M_fault_1 (by decide)) ?_
  refine gj_ld (i := 1) (pc2 := 3) rfl (fun _ _ _ h9 => lv_iload_n hx hb d_M_fault_2 rfl h9) ?_
  refine gj_l (pc2 := 4) (fun _ _ _ => lv_iadd hx hb d_M_fault_3) ?_
  refine mj_pi F 4 rfl d_M_fault_4 q_334 rfl ?_
  exact gj_vret F d_M_fault_7 (Nat.le_refl _) (Nat.le_refl _) rfl

theorem k_M_work : CKV y_M_work c_M_work 6 none 4 := ⟨q_465, q_3, q_464, sl_M_work, ⟨by decide +kernel, by decide +kernel, by decide +kernel⟩⟩
set_option maxHeartbeats 4000000 in
set_option maxRecDepth 100000 in
theorem ct_M_work {l : Launch} {D : va_G} {cI cB cZ cJ : ClassId} {a : Nat → Nat} {τ : St} (kd : Int32) {r : Nat} (hr : r < 8) (sv nr : Int32) (hm : kd = 4 ∨ kd = 5 → inM sv = true) : GCv l y_M_work (Cond.code y_M_work c_M_work 6 none :: tbW) ({ frames := 2, cells := 0, slots := 0, locals := 44 }) 0 0 D vCl (TY cI cB cZ cJ) [.ref (a 0), .int kd, .int (nI r), .int sv, .int nr] (mw a cI cZ τ) (fun u => u = mw a cI cZ (woM τ kd r sv nr)) := by
  refine gc_body (Qc := gc_Qv D vCl (TY cI cB cZ cJ) (mw a cI cZ τ) (fun u => u = mw a cI cZ (woM τ kd r sv nr))) (cc := c_M_work) (maxL := 6) (ret := none) (by decide) rfl (by simp [Value.category]) (Nat.le_of_ble_eq_true rfl) ?_
  intro p e s m args below meth c F
  have hx := F.1
  have hb := F.2.1
  refine gj_ld (i := 0) (pc2 := 1) rfl (fun _ _ _ h9 => lv_aload_n hx hb d_M_work_0 rfl h9) ?_
  refine mj_gr F 2 rfl d_M_work_1 q_332 rfl ?_
  refine gj_ld (i := 2) (pc2 := 5) rfl (fun _ _ _ h9 => lv_iload_n hx hb d_M_work_4 rfl h9) ?_
  refine mj_ld F 2 8 r (by omega) rfl (by decide) rfl hr d_M_work_5 rfl ?_
  refine gj_st (i := 5) (pc2 := 8) (Nat.le_of_ble_eq_true rfl) rfl (fun _ _ _ _ _ h9 l9 => lv_istore hx hb d_M_work_6 h9 (Nat.le_of_ble_eq_true rfl) l9) ?_
  refine gj_ld (i := 1) (pc2 := 9) rfl (fun _ _ _ h9 => lv_iload_n hx hb d_M_work_8 rfl h9) ?_
  by_cases h9_1 : kd = 1
  · rw [h9_1]
    refine gj_l (pc2 := 64) (fun _ _ _ => lv_tableIn (tgt := 64) hx hb d_M_work_9 (by decide) (by decide) rfl (by decide)) ?_
    refine gj_ld (i := 0) (pc2 := 65) rfl (fun _ _ _ h9 => lv_aload_n hx hb d_M_work_64 rfl h9) ?_
    refine mj_gr F 2 rfl d_M_work_65 q_332 rfl ?_
    refine gj_ld (i := 2) (pc2 := 69) rfl (fun _ _ _ h9 => lv_iload_n hx hb d_M_work_68 rfl h9) ?_
    refine gj_ld (i := 4) (pc2 := 71) rfl (fun _ _ _ h9 => lv_iload hx hb d_M_work_69 h9) ?_
    refine mj_st F 2 8 r (by omega) (fun _ => rfl) (by decide) rfl hr d_M_work_71 rfl ?_
    refine gj_l (pc2 := 201) (fun _ _ _ => lv_goto (tgt := 201) hx hb d_M_work_72 (by decide)) ?_
    exact gj_vret F d_M_work_201 (Nat.le_refl _) (Nat.le_refl _) (by first | (simp [woM, h9_1]; done) | (simp [woM, hcl]; done))
  by_cases h9_2 : kd = 2
  · rw [h9_2]
    refine gj_l (pc2 := 75) (fun _ _ _ => lv_tableIn (tgt := 75) hx hb d_M_work_9 (by decide) (by decide) rfl (by decide)) ?_
    refine gj_ld (i := 0) (pc2 := 76) rfl (fun _ _ _ h9 => lv_aload_n hx hb d_M_work_75 rfl h9) ?_
    refine gj_ld (i := 2) (pc2 := 77) rfl (fun _ _ _ h9 => lv_iload_n hx hb d_M_work_76 rfl h9) ?_
    refine gj_ld (i := 5) (pc2 := 79) rfl (fun _ _ _ h9 => lv_iload hx hb d_M_work_77 h9) ?_
    refine gj_ld (i := 3) (pc2 := 80) rfl (fun _ _ _ h9 => lv_iload_n hx hb d_M_work_79 rfl h9) ?_
    refine gj_l (pc2 := 81) (fun _ _ _ => lv_iadd hx hb d_M_work_80) ?_
    refine bj_vv F k_M_become d_M_work_81 q_466 (mw_at (i := 0) (by omega)) rfl (ct_M_become hr _) (rmo rfl) rfl rfl (Nat.le_of_ble_eq_true rfl) (Nat.zero_le _) (Nat.zero_le _) rfl (fun u9 e9 => ?_)
    subst e9
    refine gj_l (pc2 := 201) (fun _ _ _ => lv_goto (tgt := 201) hx hb d_M_work_84 (by decide)) ?_
    exact gj_vret F d_M_work_201 (Nat.le_refl _) (Nat.le_refl _) (by first | (simp [woM, h9_1, h9_2]; done) | (simp [woM, hcl]; done))
  by_cases h9_3 : kd = 3
  · rw [h9_3]
    refine gj_l (pc2 := 87) (fun _ _ _ => lv_tableIn (tgt := 87) hx hb d_M_work_9 (by decide) (by decide) rfl (by decide)) ?_
    refine gj_ld (i := 0) (pc2 := 88) rfl (fun _ _ _ h9 => lv_aload_n hx hb d_M_work_87 rfl h9) ?_
    refine gj_ld (i := 2) (pc2 := 89) rfl (fun _ _ _ h9 => lv_iload_n hx hb d_M_work_88 rfl h9) ?_
    refine gj_ld (i := 5) (pc2 := 91) rfl (fun _ _ _ h9 => lv_iload hx hb d_M_work_89 h9) ?_
    refine gj_ld (i := 3) (pc2 := 92) rfl (fun _ _ _ h9 => lv_iload_n hx hb d_M_work_91 rfl h9) ?_
    refine gj_l (pc2 := 93) (fun _ _ _ => lv_isub hx hb d_M_work_92) ?_
    refine bj_vv F k_M_become d_M_work_93 q_466 (mw_at (i := 0) (by omega)) rfl (ct_M_become hr _) (rmo rfl) rfl rfl (Nat.le_of_ble_eq_true rfl) (Nat.zero_le _) (Nat.zero_le _) rfl (fun u9 e9 => ?_)
    subst e9
    refine gj_l (pc2 := 201) (fun _ _ _ => lv_goto (tgt := 201) hx hb d_M_work_96 (by decide)) ?_
    exact gj_vret F d_M_work_201 (Nat.le_refl _) (Nat.le_refl _) (by first | (simp [woM, h9_1, h9_2, h9_3]; done) | (simp [woM, hcl]; done))
  by_cases h9_4 : kd = 4
  · rw [h9_4]
    refine gj_l (pc2 := 99) (fun _ _ _ => lv_tableIn (tgt := 99) hx hb d_M_work_9 (by decide) (by decide) rfl (by decide)) ?_
    obtain ⟨i, hi, rfl⟩ := inM_of (hm (by rw [h9_4]; decide))
    have hcl : (nI i).toNatClampNeg = i := nI_clamp (by omega)
    refine gj_ld (i := 0) (pc2 := 100) rfl (fun _ _ _ h9 => lv_aload_n hx hb d_M_work_99 rfl h9) ?_
    refine mj_gr F 2 rfl d_M_work_100 q_332 rfl ?_
    refine gj_ld (i := 2) (pc2 := 104) rfl (fun _ _ _ h9 => lv_iload_n hx hb d_M_work_103 rfl h9) ?_
    refine gj_ld (i := 0) (pc2 := 105) rfl (fun _ _ _ h9 => lv_aload_n hx hb d_M_work_104 rfl h9) ?_
    refine mj_gr F 1 rfl d_M_work_105 q_331 rfl ?_
    refine gj_ld (i := 3) (pc2 := 109) rfl (fun _ _ _ h9 => lv_iload_n hx hb d_M_work_108 rfl h9) ?_
    refine mj_ld F 1 1024 i (by omega) rfl (by decide) rfl hi d_M_work_109 rfl ?_
    refine mj_st F 2 8 r (by omega) (fun _ => rfl) (by decide) rfl hr d_M_work_110 rfl ?_
    refine gj_l (pc2 := 201) (fun _ _ _ => lv_goto (tgt := 201) hx hb d_M_work_111 (by decide)) ?_
    exact gj_vret F d_M_work_201 (Nat.le_refl _) (Nat.le_refl _) (by first | (simp [woM, h9_1, h9_2, h9_3, h9_4]; done) | (simp [woM, hcl]; done))
  by_cases h9_5 : kd = 5
  · rw [h9_5]
    refine gj_l (pc2 := 114) (fun _ _ _ => lv_tableIn (tgt := 114) hx hb d_M_work_9 (by decide) (by decide) rfl (by decide)) ?_
    obtain ⟨i, hi, rfl⟩ := inM_of (hm (by rw [h9_5]; decide))
    have hcl : (nI i).toNatClampNeg = i := nI_clamp (by omega)
    refine gj_ld (i := 0) (pc2 := 115) rfl (fun _ _ _ h9 => lv_aload_n hx hb d_M_work_114 rfl h9) ?_
    refine gj_l (pc2 := 116) (fun _ _ _ => lv_dup hx hb d_M_work_115 rfl) ?_
    refine mj_gi F 17 rfl d_M_work_116 q_347 rfl ?_
    refine gj_l (pc2 := 120) (fun _ _ _ => lv_iconst (v := 1) hx hb d_M_work_119 (by decide)) ?_
    refine gj_l (pc2 := 121) (fun _ _ _ => lv_iadd hx hb d_M_work_120) ?_
    refine mj_pi F 17 rfl d_M_work_121 q_347 rfl ?_
    refine gj_ld (i := 0) (pc2 := 125) rfl (fun _ _ _ h9 => lv_aload_n hx hb d_M_work_124 rfl h9) ?_
    refine gj_ld (i := 3) (pc2 := 126) rfl (fun _ _ _ h9 => lv_iload_n hx hb d_M_work_125 rfl h9) ?_
    refine gj_ld (i := 5) (pc2 := 128) rfl (fun _ _ _ h9 => lv_iload hx hb d_M_work_126 h9) ?_
    refine gj_l (pc2 := 131) (fun _ _ _ => lv_sipush (v := (255)) hx hb d_M_work_128 (by decide)) ?_
    refine gj_l (pc2 := 132) (fun _ _ _ => lv_iand hx hb d_M_work_131) ?_
    refine bj_vv F k_M_write d_M_work_132 q_407 (mw_at (i := 0) (by omega)) rfl (ct_M_write hi _) (rmo rfl) rfl rfl (Nat.le_of_ble_eq_true rfl) (Nat.zero_le _) (Nat.zero_le _) rfl (fun u9 e9 => ?_)
    subst e9
    refine gj_l (pc2 := 201) (fun _ _ _ => lv_goto (tgt := 201) hx hb d_M_work_135 (by decide)) ?_
    exact gj_vret F d_M_work_201 (Nat.le_refl _) (Nat.le_refl _) (by first | (simp [woM, h9_1, h9_2, h9_3, h9_4, h9_5]; done) | (simp [woM, hcl]; done))
  by_cases h9_6 : kd = 6
  · rw [h9_6]
    refine gj_l (pc2 := 138) (fun _ _ _ => lv_tableIn (tgt := 138) hx hb d_M_work_9 (by decide) (by decide) rfl (by decide)) ?_
    refine gj_ld (i := 0) (pc2 := 139) rfl (fun _ _ _ h9 => lv_aload_n hx hb d_M_work_138 rfl h9) ?_
    refine gj_ld (i := 2) (pc2 := 140) rfl (fun _ _ _ h9 => lv_iload_n hx hb d_M_work_139 rfl h9) ?_
    refine gj_ld (i := 5) (pc2 := 142) rfl (fun _ _ _ h9 => lv_iload hx hb d_M_work_140 h9) ?_
    refine gj_ld (i := 3) (pc2 := 143) rfl (fun _ _ _ h9 => lv_iload_n hx hb d_M_work_142 rfl h9) ?_
    refine gj_l (pc2 := 144) (fun _ _ _ => lv_iand hx hb d_M_work_143) ?_
    refine bj_vv F k_M_become d_M_work_144 q_466 (mw_at (i := 0) (by omega)) rfl (ct_M_become hr _) (rmo rfl) rfl rfl (Nat.le_of_ble_eq_true rfl) (Nat.zero_le _) (Nat.zero_le _) rfl (fun u9 e9 => ?_)
    subst e9
    refine gj_l (pc2 := 201) (fun _ _ _ => lv_goto (tgt := 201) hx hb d_M_work_147 (by decide)) ?_
    exact gj_vret F d_M_work_201 (Nat.le_refl _) (Nat.le_refl _) (by first | (simp [woM, h9_1, h9_2, h9_3, h9_4, h9_5, h9_6]; done) | (simp [woM, hcl]; done))
  by_cases h9_7 : kd = 7
  · rw [h9_7]
    refine gj_l (pc2 := 184) (fun _ _ _ => lv_tableIn (tgt := 184) hx hb d_M_work_9 (by decide) (by decide) rfl (by decide)) ?_
    refine gj_ld (i := 0) (pc2 := 185) rfl (fun _ _ _ h9 => lv_aload_n hx hb d_M_work_184 rfl h9) ?_
    refine gj_ld (i := 2) (pc2 := 186) rfl (fun _ _ _ h9 => lv_iload_n hx hb d_M_work_185 rfl h9) ?_
    refine gj_ld (i := 5) (pc2 := 188) rfl (fun _ _ _ h9 => lv_iload hx hb d_M_work_186 h9) ?_
    refine gj_ld (i := 3) (pc2 := 189) rfl (fun _ _ _ h9 => lv_iload_n hx hb d_M_work_188 rfl h9) ?_
    refine gj_l (pc2 := 190) (fun _ _ _ => lv_isub hx hb d_M_work_189) ?_
    refine bj_vv F k_M_become d_M_work_190 q_466 (mw_at (i := 0) (by omega)) rfl (ct_M_become hr _) (rmo rfl) rfl rfl (Nat.le_of_ble_eq_true rfl) (Nat.zero_le _) (Nat.zero_le _) rfl (fun u9 e9 => ?_)
    subst e9
    refine gj_ld (i := 0) (pc2 := 194) rfl (fun _ _ _ h9 => lv_aload_n hx hb d_M_work_193 rfl h9) ?_
    refine mj_gr F 2 rfl d_M_work_194 q_332 rfl ?_
    refine gj_ld (i := 2) (pc2 := 198) rfl (fun _ _ _ h9 => lv_iload_n hx hb d_M_work_197 rfl h9) ?_
    refine gj_ld (i := 5) (pc2 := 200) rfl (fun _ _ _ h9 => lv_iload hx hb d_M_work_198 h9) ?_
    refine mj_st F 2 8 r (by omega) (fun _ => rfl) (by decide) rfl hr d_M_work_200 rfl ?_
    exact gj_vret F d_M_work_201 (Nat.le_refl _) (Nat.le_refl _) (by first | (simp [woM, h9_1, h9_2, h9_3, h9_4, h9_5, h9_6, h9_7]; done) | (simp [woM, hcl]; done))
  by_cases h9_8 : kd = 8
  · rw [h9_8]
    refine gj_l (pc2 := 150) (fun _ _ _ => lv_tableIn (tgt := 150) hx hb d_M_work_9 (by decide) (by decide) rfl (by decide)) ?_
    refine gj_ld (i := 0) (pc2 := 151) rfl (fun _ _ _ h9 => lv_aload_n hx hb d_M_work_150 rfl h9) ?_
    refine mj_gr F 2 rfl d_M_work_151 q_332 rfl ?_
    refine gj_ld (i := 2) (pc2 := 155) rfl (fun _ _ _ h9 => lv_iload_n hx hb d_M_work_154 rfl h9) ?_
    refine gj_ld (i := 3) (pc2 := 156) rfl (fun _ _ _ h9 => lv_iload_n hx hb d_M_work_155 rfl h9) ?_
    refine mj_st F 2 8 r (by omega) (fun _ => rfl) (by decide) rfl hr d_M_work_156 rfl ?_
    refine gj_l (pc2 := 201) (fun _ _ _ => lv_goto (tgt := 201) hx hb d_M_work_157 (by decide)) ?_
    exact gj_vret F d_M_work_201 (Nat.le_refl _) (Nat.le_refl _) (by first | (simp [woM, h9_1, h9_2, h9_3, h9_4, h9_5, h9_6, h9_7, h9_8]; done) | (simp [woM, hcl]; done))
  by_cases h9_9 : kd = 9
  · rw [h9_9]
    refine gj_l (pc2 := 160) (fun _ _ _ => lv_tableIn (tgt := 160) hx hb d_M_work_9 (by decide) (by decide) rfl (by decide)) ?_
    refine gj_ld (i := 0) (pc2 := 161) rfl (fun _ _ _ h9 => lv_aload_n hx hb d_M_work_160 rfl h9) ?_
    refine gj_ld (i := 2) (pc2 := 162) rfl (fun _ _ _ h9 => lv_iload_n hx hb d_M_work_161 rfl h9) ?_
    refine gj_ld (i := 5) (pc2 := 164) rfl (fun _ _ _ h9 => lv_iload hx hb d_M_work_162 h9) ?_
    refine gj_ld (i := 3) (pc2 := 165) rfl (fun _ _ _ h9 => lv_iload_n hx hb d_M_work_164 rfl h9) ?_
    refine gj_l (pc2 := 166) (fun _ _ _ => lv_imul hx hb d_M_work_165) ?_
    refine bj_vv F k_M_become d_M_work_166 q_466 (mw_at (i := 0) (by omega)) rfl (ct_M_become hr _) (rmo rfl) rfl rfl (Nat.le_of_ble_eq_true rfl) (Nat.zero_le _) (Nat.zero_le _) rfl (fun u9 e9 => ?_)
    subst e9
    refine gj_l (pc2 := 201) (fun _ _ _ => lv_goto (tgt := 201) hx hb d_M_work_169 (by decide)) ?_
    exact gj_vret F d_M_work_201 (Nat.le_refl _) (Nat.le_refl _) (by first | (simp [woM, h9_1, h9_2, h9_3, h9_4, h9_5, h9_6, h9_7, h9_8, h9_9]; done) | (simp [woM, hcl]; done))
  by_cases h9_10 : kd = 10
  · rw [h9_10]
    refine gj_l (pc2 := 172) (fun _ _ _ => lv_tableIn (tgt := 172) hx hb d_M_work_9 (by decide) (by decide) rfl (by decide)) ?_
    refine gj_ld (i := 0) (pc2 := 173) rfl (fun _ _ _ h9 => lv_aload_n hx hb d_M_work_172 rfl h9) ?_
    refine gj_ld (i := 2) (pc2 := 174) rfl (fun _ _ _ h9 => lv_iload_n hx hb d_M_work_173 rfl h9) ?_
    refine gj_ld (i := 5) (pc2 := 176) rfl (fun _ _ _ h9 => lv_iload hx hb d_M_work_174 h9) ?_
    refine gj_l (pc2 := 177) (fun _ _ _ => lv_iconst (v := 1) hx hb d_M_work_176 (by decide)) ?_
    refine gj_l (pc2 := 178) (fun _ _ _ => lv_ishr hx hb d_M_work_177) ?_
    refine bj_vv F k_M_become d_M_work_178 q_466 (mw_at (i := 0) (by omega)) rfl (ct_M_become hr _) (rmo rfl) rfl rfl (Nat.le_of_ble_eq_true rfl) (Nat.zero_le _) (Nat.zero_le _) rfl (fun u9 e9 => ?_)
    subst e9
    refine gj_l (pc2 := 201) (fun _ _ _ => lv_goto (tgt := 201) hx hb d_M_work_181 (by decide)) ?_
    exact gj_vret F d_M_work_201 (Nat.le_refl _) (Nat.le_refl _) (by first | (simp [woM, h9_1, h9_2, h9_3, h9_4, h9_5, h9_6, h9_7, h9_8, h9_9, h9_10]; done) | (simp [woM, hcl]; done))
  have hsw : (kd).toInt < 1 ∨ 10 < (kd).toInt := by
    by_cases z : (kd).toInt < 1
    · exact Or.inl z
    by_cases z2 : 10 < (kd).toInt
    · exact Or.inr z2
    exfalso
    rcases (show (kd).toInt = 1 ∨ (kd).toInt = 2 ∨ (kd).toInt = 3 ∨ (kd).toInt = 4 ∨ (kd).toInt = 5 ∨ (kd).toInt = 6 ∨ (kd).toInt = 7 ∨ (kd).toInt = 8 ∨ (kd).toInt = 9 ∨ (kd).toInt = 10 by omega) with z3 | z3 | z3 | z3 | z3 | z3 | z3 | z3 | z3 | z3
    · exact h9_1 (Int32.toInt_inj.mp (z3.trans (by decide)))
    · exact h9_2 (Int32.toInt_inj.mp (z3.trans (by decide)))
    · exact h9_3 (Int32.toInt_inj.mp (z3.trans (by decide)))
    · exact h9_4 (Int32.toInt_inj.mp (z3.trans (by decide)))
    · exact h9_5 (Int32.toInt_inj.mp (z3.trans (by decide)))
    · exact h9_6 (Int32.toInt_inj.mp (z3.trans (by decide)))
    · exact h9_7 (Int32.toInt_inj.mp (z3.trans (by decide)))
    · exact h9_8 (Int32.toInt_inj.mp (z3.trans (by decide)))
    · exact h9_9 (Int32.toInt_inj.mp (z3.trans (by decide)))
    · exact h9_10 (Int32.toInt_inj.mp (z3.trans (by decide)))
  refine gj_l (pc2 := 184) (fun _ _ _ => lv_tableOut (tgt := 184) hx hb d_M_work_9 hsw (by decide)) ?_
  refine gj_ld (i := 0) (pc2 := 185) rfl (fun _ _ _ h9 => lv_aload_n hx hb d_M_work_184 rfl h9) ?_
  refine gj_ld (i := 2) (pc2 := 186) rfl (fun _ _ _ h9 => lv_iload_n hx hb d_M_work_185 rfl h9) ?_
  refine gj_ld (i := 5) (pc2 := 188) rfl (fun _ _ _ h9 => lv_iload hx hb d_M_work_186 h9) ?_
  refine gj_ld (i := 3) (pc2 := 189) rfl (fun _ _ _ h9 => lv_iload_n hx hb d_M_work_188 rfl h9) ?_
  refine gj_l (pc2 := 190) (fun _ _ _ => lv_isub hx hb d_M_work_189) ?_
  refine bj_vv F k_M_become d_M_work_190 q_466 (mw_at (i := 0) (by omega)) rfl (ct_M_become hr _) (rmo rfl) rfl rfl (Nat.le_of_ble_eq_true rfl) (Nat.zero_le _) (Nat.zero_le _) rfl (fun u9 e9 => ?_)
  subst e9
  refine gj_ld (i := 0) (pc2 := 194) rfl (fun _ _ _ h9 => lv_aload_n hx hb d_M_work_193 rfl h9) ?_
  refine mj_gr F 2 rfl d_M_work_194 q_332 rfl ?_
  refine gj_ld (i := 2) (pc2 := 198) rfl (fun _ _ _ h9 => lv_iload_n hx hb d_M_work_197 rfl h9) ?_
  refine gj_ld (i := 5) (pc2 := 200) rfl (fun _ _ _ h9 => lv_iload hx hb d_M_work_198 h9) ?_
  refine mj_st F 2 8 r (by omega) (fun _ => rfl) (by decide) rfl hr d_M_work_200 rfl ?_
  exact gj_vret F d_M_work_201 (Nat.le_refl _) (Nat.le_refl _) (by first | (simp [woM, h9_1, h9_2, h9_3, h9_4, h9_5, h9_6, h9_7, h9_8, h9_9, h9_10]; done) | (simp [woM, hcl]; done))
end
section
theorem k_M_make : CKV y_M_make c_M_make 6 none 1 := ⟨q_438, q_3, q_437, sl_M_make, ⟨by decide +kernel, by decide +kernel, by decide +kernel⟩⟩
set_option maxHeartbeats 4000000 in
set_option maxRecDepth 100000 in
theorem ct_M_make {l : Launch} {D : va_G} {cI cB cZ cJ : ClassId} {a : Nat → Nat} {τ : St} {k : Nat} (hk : k < 32) : GCv l y_M_make (Cond.code y_M_make c_M_make 6 none :: tbW) ({ frames := 4, cells := 0, slots := 0, locals := 85 }) 0 0 D vCl (TY cI cB cZ cJ) [.ref (a 0), .int (nI k)] (mw a cI cZ τ) (fun u => u = mw a cI cZ (mkM τ k)) := by
  refine gc_body (Qc := gc_Qv D vCl (TY cI cB cZ cJ) (mw a cI cZ τ) (fun u => u = mw a cI cZ (mkM τ k))) (cc := c_M_make) (maxL := 6) (ret := none) (by decide) rfl (by simp [Value.category]) (Nat.le_of_ble_eq_true rfl) ?_
  intro p e s m args below meth c F
  have hx := F.1
  have hb := F.2.1
  refine gj_ld (i := 0) (pc2 := 1) rfl (fun _ _ _ h9 => lv_aload_n hx hb d_M_make_0 rfl h9) ?_
  refine mj_gi F 3 rfl d_M_make_1 q_333 rfl ?_
  refine gj_st (i := 2) (pc2 := 5) (Nat.le_of_ble_eq_true rfl) rfl (fun _ _ _ _ _ h9 l9 => lv_istore_n hx hb d_M_make_4 rfl h9 (Nat.le_of_ble_eq_true rfl) l9) ?_
  refine gj_l (pc2 := 6) (fun _ _ _ => lv_iconst (v := 0) hx hb d_M_make_5 (by decide)) ?_
  refine gj_st (i := 3) (pc2 := 7) (Nat.le_of_ble_eq_true rfl) rfl (fun _ _ _ _ _ h9 l9 => lv_istore_n hx hb d_M_make_6 rfl h9 (Nat.le_of_ble_eq_true rfl) l9) ?_
  refine gj_l (pc2 := 8) (fun _ _ _ => lv_iconst (v := 1) hx hb d_M_make_7 (by decide)) ?_
  refine gj_st (i := 4) (pc2 := 10) (Nat.le_of_ble_eq_true rfl) rfl (fun _ _ _ _ _ h9 l9 => lv_istore hx hb d_M_make_8 h9 (Nat.le_of_ble_eq_true rfl) l9) ?_
  refine gj_fuel (T := Nat) (fun _ => mw a cI cZ τ) (fun t => [.ref (a 0), .int (nI k), .int (mkT τ t).1, .int (nI t), .int (bN (mkT τ t).2.1)]) (fun f t => t + f = 12 ∧ (mkT τ t).2.2 = t) (fun f t hv ih => ?_) 12 0 ⟨rfl, rfl⟩
  obtain ⟨htf, ht2⟩ := hv
  refine gj_ld (i := 4) (pc2 := 12) rfl (fun _ _ _ h9 => lv_iload hx hb d_M_make_10 h9) ?_
  refine gj_if (pc2 := 78) (pc3 := 15) (fun _ _ _ => lv_if_eq (tgt := 78) hx hb d_M_make_12 (by decide)) (fun h12 => ?_) (fun h12 => ?_)
  · have hq : mkT τ 12 = mkT τ t := by have := mkT_off (bN_0.mp h12) (12 - t); rwa [show t + (12 - t) = 12 by omega] at this
    refine gj_ld (i := 0) (pc2 := 79) rfl (fun _ _ _ h9 => lv_aload_n hx hb d_M_make_78 rfl h9) ?_
    refine mj_gr F 7 rfl d_M_make_79 q_337 rfl ?_
    refine gj_ld (i := 1) (pc2 := 83) rfl (fun _ _ _ h9 => lv_iload_n hx hb d_M_make_82 rfl h9) ?_
    refine gj_l (pc2 := 84) (fun _ _ _ => lv_iconst (v := 1) hx hb d_M_make_83 (by decide)) ?_
    refine mj_zs F k rfl hk rfl d_M_make_84 rfl ?_
    refine gj_ld (i := 0) (pc2 := 86) rfl (fun _ _ _ h9 => lv_aload_n hx hb d_M_make_85 rfl h9) ?_
    refine mj_gr F 8 rfl d_M_make_86 q_338 rfl ?_
    refine gj_ld (i := 1) (pc2 := 90) rfl (fun _ _ _ h9 => lv_iload_n hx hb d_M_make_89 rfl h9) ?_
    refine gj_ld (i := 0) (pc2 := 91) rfl (fun _ _ _ h9 => lv_aload_n hx hb d_M_make_90 rfl h9) ?_
    refine mj_gi F 3 rfl d_M_make_91 q_333 rfl ?_
    refine mj_st F 4 32 k (by omega) (fun _ => rfl) (by decide) rfl hk d_M_make_94 rfl ?_
    refine gj_ld (i := 0) (pc2 := 96) rfl (fun _ _ _ h9 => lv_aload_n hx hb d_M_make_95 rfl h9) ?_
    refine mj_gr F 9 rfl d_M_make_96 q_339 rfl ?_
    refine gj_ld (i := 1) (pc2 := 100) rfl (fun _ _ _ h9 => lv_iload_n hx hb d_M_make_99 rfl h9) ?_
    refine gj_ld (i := 3) (pc2 := 101) rfl (fun _ _ _ h9 => lv_iload_n hx hb d_M_make_100 rfl h9) ?_
    refine mj_st F 5 32 k (by omega) (fun _ => rfl) (by decide) rfl hk d_M_make_101 rfl ?_
    refine gj_ld (i := 0) (pc2 := 103) rfl (fun _ _ _ h9 => lv_aload_n hx hb d_M_make_102 rfl h9) ?_
    refine mj_gr F 10 rfl d_M_make_103 q_340 rfl ?_
    refine gj_ld (i := 1) (pc2 := 107) rfl (fun _ _ _ h9 => lv_iload_n hx hb d_M_make_106 rfl h9) ?_
    refine gj_ld (i := 2) (pc2 := 108) rfl (fun _ _ _ h9 => lv_iload_n hx hb d_M_make_107 rfl h9) ?_
    refine gj_l (pc2 := 111) (fun _ _ _ => lv_sipush (v := (1024)) hx hb d_M_make_108 (by decide)) ?_
    refine gj_if (pc2 := 120) (pc3 := 114) (fun _ _ _ => lv_icmp_le (tgt := 120) hx hb d_M_make_111 (by decide)) (fun h111 => ?_) (fun h111 => ?_)
    · refine gj_ld (i := 2) (pc2 := 121) rfl (fun _ _ _ h9 => lv_iload_n hx hb d_M_make_120 rfl h9) ?_
      refine gj_ld (i := 0) (pc2 := 122) rfl (fun _ _ _ h9 => lv_aload_n hx hb d_M_make_121 rfl h9) ?_
      refine mj_gi F 3 rfl d_M_make_122 q_333 rfl ?_
      refine gj_l (pc2 := 126) (fun _ _ _ => lv_isub hx hb d_M_make_125) ?_
      refine mj_st F 6 32 k (by omega) (fun _ => rfl) (by decide) rfl hk d_M_make_126 rfl ?_
      refine gj_ld (i := 0) (pc2 := 128) rfl (fun _ _ _ h9 => lv_aload_n hx hb d_M_make_127 rfl h9) ?_
      refine mj_gi F 3 rfl d_M_make_128 q_333 rfl ?_
      refine bj_s F k_M_isThere d_M_make_131 q_397 (ct_M_isThere _) (rmo rfl) rfl rfl (Nat.le_of_ble_eq_true rfl) (Nat.zero_le _) (Nat.zero_le _) rfl (fun r9 e9 => ?_)
      subst e9
      refine gj_if (pc2 := 144) (pc3 := 137) (fun _ _ _ => lv_if_ne (tgt := 144) hx hb d_M_make_134 (by decide)) (fun h134 => ?_) (fun h134 => ?_)
      · refine gj_ld (i := 0) (pc2 := 145) rfl (fun _ _ _ h9 => lv_aload_n hx hb d_M_make_144 rfl h9) ?_
        refine gj_l (pc2 := 146) (fun _ _ _ => lv_dup hx hb d_M_make_145 rfl) ?_
        refine mj_gi F 14 rfl d_M_make_146 q_344 rfl ?_
        refine gj_l (pc2 := 150) (fun _ _ _ => lv_iconst (v := 1) hx hb d_M_make_149 (by decide)) ?_
        refine gj_l (pc2 := 151) (fun _ _ _ => lv_iadd hx hb d_M_make_150) ?_
        refine mj_pi F 14 rfl d_M_make_151 q_344 rfl ?_
        refine gj_ld (i := 0) (pc2 := 155) rfl (fun _ _ _ h9 => lv_aload_n hx hb d_M_make_154 rfl h9) ?_
        refine gj_l (pc2 := 156) (fun _ _ _ => lv_dup hx hb d_M_make_155 rfl) ?_
        refine mj_gi F 18 rfl d_M_make_156 q_348 rfl ?_
        refine gj_ld (i := 3) (pc2 := 160) rfl (fun _ _ _ h9 => lv_iload_n hx hb d_M_make_159 rfl h9) ?_
        refine gj_l (pc2 := 161) (fun _ _ _ => lv_iadd hx hb d_M_make_160) ?_
        refine mj_pi F 18 rfl d_M_make_161 q_348 rfl ?_
        exact gj_vret F d_M_make_164 (Nat.le_refl _) (Nat.le_refl _) (congrArg _ (mkM_1 hq ht2 h111 (bN_n0.mp h134)).symm)
      · refine gj_ld (i := 0) (pc2 := 138) rfl (fun _ _ _ h9 => lv_aload_n hx hb d_M_make_137 rfl h9) ?_
        refine mj_gr F 10 rfl d_M_make_138 q_340 rfl ?_
        refine gj_ld (i := 1) (pc2 := 142) rfl (fun _ _ _ h9 => lv_iload_n hx hb d_M_make_141 rfl h9) ?_
        refine gj_l (pc2 := 143) (fun _ _ _ => lv_iconst (v := 0) hx hb d_M_make_142 (by decide)) ?_
        refine mj_st F 6 32 k (by omega) (fun _ => rfl) (by decide) rfl hk d_M_make_143 rfl ?_
        refine gj_ld (i := 0) (pc2 := 145) rfl (fun _ _ _ h9 => lv_aload_n hx hb d_M_make_144 rfl h9) ?_
        refine gj_l (pc2 := 146) (fun _ _ _ => lv_dup hx hb d_M_make_145 rfl) ?_
        refine mj_gi F 14 rfl d_M_make_146 q_344 rfl ?_
        refine gj_l (pc2 := 150) (fun _ _ _ => lv_iconst (v := 1) hx hb d_M_make_149 (by decide)) ?_
        refine gj_l (pc2 := 151) (fun _ _ _ => lv_iadd hx hb d_M_make_150) ?_
        refine mj_pi F 14 rfl d_M_make_151 q_344 rfl ?_
        refine gj_ld (i := 0) (pc2 := 155) rfl (fun _ _ _ h9 => lv_aload_n hx hb d_M_make_154 rfl h9) ?_
        refine gj_l (pc2 := 156) (fun _ _ _ => lv_dup hx hb d_M_make_155 rfl) ?_
        refine mj_gi F 18 rfl d_M_make_156 q_348 rfl ?_
        refine gj_ld (i := 3) (pc2 := 160) rfl (fun _ _ _ h9 => lv_iload_n hx hb d_M_make_159 rfl h9) ?_
        refine gj_l (pc2 := 161) (fun _ _ _ => lv_iadd hx hb d_M_make_160) ?_
        refine mj_pi F 18 rfl d_M_make_161 q_348 rfl ?_
        exact gj_vret F d_M_make_164 (Nat.le_refl _) (Nat.le_refl _) (congrArg _ (mkM_3 hq ht2 h111 (bN_0.mp h134)).symm)
    · refine gj_l (pc2 := 117) (fun _ _ _ => lv_sipush (v := (1024)) hx hb d_M_make_114 (by decide)) ?_
      refine gj_l (pc2 := 121) (fun _ _ _ => lv_goto (tgt := 121) hx hb d_M_make_117 (by decide)) ?_
      refine gj_ld (i := 0) (pc2 := 122) rfl (fun _ _ _ h9 => lv_aload_n hx hb d_M_make_121 rfl h9) ?_
      refine mj_gi F 3 rfl d_M_make_122 q_333 rfl ?_
      refine gj_l (pc2 := 126) (fun _ _ _ => lv_isub hx hb d_M_make_125) ?_
      refine mj_st F 6 32 k (by omega) (fun _ => rfl) (by decide) rfl hk d_M_make_126 rfl ?_
      refine gj_ld (i := 0) (pc2 := 128) rfl (fun _ _ _ h9 => lv_aload_n hx hb d_M_make_127 rfl h9) ?_
      refine mj_gi F 3 rfl d_M_make_128 q_333 rfl ?_
      refine bj_s F k_M_isThere d_M_make_131 q_397 (ct_M_isThere _) (rmo rfl) rfl rfl (Nat.le_of_ble_eq_true rfl) (Nat.zero_le _) (Nat.zero_le _) rfl (fun r9 e9 => ?_)
      subst e9
      refine gj_if (pc2 := 144) (pc3 := 137) (fun _ _ _ => lv_if_ne (tgt := 144) hx hb d_M_make_134 (by decide)) (fun h134 => ?_) (fun h134 => ?_)
      · refine gj_ld (i := 0) (pc2 := 145) rfl (fun _ _ _ h9 => lv_aload_n hx hb d_M_make_144 rfl h9) ?_
        refine gj_l (pc2 := 146) (fun _ _ _ => lv_dup hx hb d_M_make_145 rfl) ?_
        refine mj_gi F 14 rfl d_M_make_146 q_344 rfl ?_
        refine gj_l (pc2 := 150) (fun _ _ _ => lv_iconst (v := 1) hx hb d_M_make_149 (by decide)) ?_
        refine gj_l (pc2 := 151) (fun _ _ _ => lv_iadd hx hb d_M_make_150) ?_
        refine mj_pi F 14 rfl d_M_make_151 q_344 rfl ?_
        refine gj_ld (i := 0) (pc2 := 155) rfl (fun _ _ _ h9 => lv_aload_n hx hb d_M_make_154 rfl h9) ?_
        refine gj_l (pc2 := 156) (fun _ _ _ => lv_dup hx hb d_M_make_155 rfl) ?_
        refine mj_gi F 18 rfl d_M_make_156 q_348 rfl ?_
        refine gj_ld (i := 3) (pc2 := 160) rfl (fun _ _ _ h9 => lv_iload_n hx hb d_M_make_159 rfl h9) ?_
        refine gj_l (pc2 := 161) (fun _ _ _ => lv_iadd hx hb d_M_make_160) ?_
        refine mj_pi F 18 rfl d_M_make_161 q_348 rfl ?_
        exact gj_vret F d_M_make_164 (Nat.le_refl _) (Nat.le_refl _) (congrArg _ (mkM_2 hq ht2 h111 (bN_n0.mp h134)).symm)
      · refine gj_ld (i := 0) (pc2 := 138) rfl (fun _ _ _ h9 => lv_aload_n hx hb d_M_make_137 rfl h9) ?_
        refine mj_gr F 10 rfl d_M_make_138 q_340 rfl ?_
        refine gj_ld (i := 1) (pc2 := 142) rfl (fun _ _ _ h9 => lv_iload_n hx hb d_M_make_141 rfl h9) ?_
        refine gj_l (pc2 := 143) (fun _ _ _ => lv_iconst (v := 0) hx hb d_M_make_142 (by decide)) ?_
        refine mj_st F 6 32 k (by omega) (fun _ => rfl) (by decide) rfl hk d_M_make_143 rfl ?_
        refine gj_ld (i := 0) (pc2 := 145) rfl (fun _ _ _ h9 => lv_aload_n hx hb d_M_make_144 rfl h9) ?_
        refine gj_l (pc2 := 146) (fun _ _ _ => lv_dup hx hb d_M_make_145 rfl) ?_
        refine mj_gi F 14 rfl d_M_make_146 q_344 rfl ?_
        refine gj_l (pc2 := 150) (fun _ _ _ => lv_iconst (v := 1) hx hb d_M_make_149 (by decide)) ?_
        refine gj_l (pc2 := 151) (fun _ _ _ => lv_iadd hx hb d_M_make_150) ?_
        refine mj_pi F 14 rfl d_M_make_151 q_344 rfl ?_
        refine gj_ld (i := 0) (pc2 := 155) rfl (fun _ _ _ h9 => lv_aload_n hx hb d_M_make_154 rfl h9) ?_
        refine gj_l (pc2 := 156) (fun _ _ _ => lv_dup hx hb d_M_make_155 rfl) ?_
        refine mj_gi F 18 rfl d_M_make_156 q_348 rfl ?_
        refine gj_ld (i := 3) (pc2 := 160) rfl (fun _ _ _ h9 => lv_iload_n hx hb d_M_make_159 rfl h9) ?_
        refine gj_l (pc2 := 161) (fun _ _ _ => lv_iadd hx hb d_M_make_160) ?_
        refine mj_pi F 18 rfl d_M_make_161 q_348 rfl ?_
        exact gj_vret F d_M_make_164 (Nat.le_refl _) (Nat.le_refl _) (congrArg _ (mkM_4 hq ht2 h111 (bN_0.mp h134)).symm)
  · have hop := bN_n0.mp h12
    have htl : t < 12 := by
      rcases Nat.lt_or_ge t 12 with z | z
      · exact z
      · exfalso
        have h12t : t = 12 := by omega
        subst h12t
        exact absurd hop (by rw [mk_12 ht2]; decide)
    obtain ⟨g, rfl⟩ : ∃ g, f = g + 1 := ⟨f - 1, by omega⟩
    refine gj_iinc (pc2 := 18) hx hb d_M_make_15 (Nat.le_of_ble_eq_true rfl) rfl (nI_1 t) rfl ?_
    refine gj_ld (i := 0) (pc2 := 19) rfl (fun _ _ _ h9 => lv_aload_n hx hb d_M_make_18 rfl h9) ?_
    refine gj_ld (i := 2) (pc2 := 20) rfl (fun _ _ _ h9 => lv_iload_n hx hb d_M_make_19 rfl h9) ?_
    refine bj_vi F k_M_kindAt d_M_make_20 q_439 (mw_at (i := 0) (by omega)) rfl (ct_M_kindAt _) (rmo rfl) rfl rfl (Nat.le_of_ble_eq_true rfl) (Nat.zero_le _) (Nat.zero_le _) rfl (fun r9 u9 e9 => ?_)
    obtain ⟨rfl, rfl⟩ := e9
    refine gj_st (i := 5) (pc2 := 25) (Nat.le_of_ble_eq_true rfl) rfl (fun _ _ _ _ _ h9 l9 => lv_istore hx hb d_M_make_23 h9 (Nat.le_of_ble_eq_true rfl) l9) ?_
    refine gj_ld (i := 3) (pc2 := 26) rfl (fun _ _ _ h9 => lv_iload_n hx hb d_M_make_25 rfl h9) ?_
    refine gj_l (pc2 := 28) (fun _ _ _ => lv_bipush (v := (12)) hx hb d_M_make_26 (by decide)) ?_
    refine gj_if (pc2 := 55) (pc3 := 31) (fun _ _ _ => lv_icmp_ge (tgt := 55) hx hb d_M_make_28 (by decide)) (fun h28 => ?_) (fun h28 => ?_)
    · have hn12 : 12 ≤ t + 1 := nI_ge_of h28 (by omega) (by omega)
      refine gj_l (pc2 := 56) (fun _ _ _ => lv_iconst (v := 0) hx hb d_M_make_55 (by decide)) ?_
      refine gj_st (i := 4) (pc2 := 58) (Nat.le_of_ble_eq_true rfl) rfl (fun _ _ _ _ _ h9 l9 => lv_istore hx hb d_M_make_56 h9 (Nat.le_of_ble_eq_true rfl) l9) ?_
      refine gj_ld (i := 2) (pc2 := 59) rfl (fun _ _ _ h9 => lv_iload_n hx hb d_M_make_58 rfl h9) ?_
      refine gj_ld (i := 5) (pc2 := 61) rfl (fun _ _ _ h9 => lv_iload hx hb d_M_make_59 h9) ?_
      refine gj_if (pc2 := 68) (pc3 := 64) (fun _ _ _ => lv_if_ge (tgt := 68) hx hb d_M_make_61 (by decide)) (fun h61 => ?_) (fun h61 => ?_)
      · refine gj_ld (i := 5) (pc2 := 70) rfl (fun _ _ _ h9 => lv_iload hx hb d_M_make_68 h9) ?_
        refine bj_s F k_M_sizeOf d_M_make_70 q_447 (ct_M_sizeOf _) (rmo rfl) rfl rfl (Nat.le_of_ble_eq_true rfl) (Nat.zero_le _) (Nat.zero_le _) rfl (fun r9 e9 => ?_)
        subst e9
        refine gj_l (pc2 := 74) (fun _ _ _ => lv_iadd hx hb d_M_make_73) ?_
        refine gj_st (i := 2) (pc2 := 75) (Nat.le_of_ble_eq_true rfl) rfl (fun _ _ _ _ _ h9 l9 => lv_istore_n hx hb d_M_make_74 rfl h9 (Nat.le_of_ble_eq_true rfl) l9) ?_
        refine gj_l (pc2 := 10) (fun _ _ _ => lv_goto (tgt := 10) hx hb d_M_make_75 (by decide)) ?_
        refine gj_eq (L2 := [.ref (a 0), .int (nI k), .int (mkT τ (t + 1)).1, .int (nI (t + 1)), .int (bN (mkT τ (t + 1)).2.1)] ++ [.int (kdM τ (mkT τ t).1)]) rfl (by rw [mkT_on hop, ht2]; simp [bN, hn12, h61]; rfl) rfl (gj_drop (ih g (t + 1) rfl ⟨by omega, by rw [mkT_on hop, ht2]⟩))
      · refine gj_l (pc2 := 65) (fun _ _ _ => lv_iconst (v := 0) hx hb d_M_make_64 (by decide)) ?_
        refine gj_l (pc2 := 73) (fun _ _ _ => lv_goto (tgt := 73) hx hb d_M_make_65 (by decide)) ?_
        refine gj_l (pc2 := 74) (fun _ _ _ => lv_iadd hx hb d_M_make_73) ?_
        refine gj_st (i := 2) (pc2 := 75) (Nat.le_of_ble_eq_true rfl) rfl (fun _ _ _ _ _ h9 l9 => lv_istore_n hx hb d_M_make_74 rfl h9 (Nat.le_of_ble_eq_true rfl) l9) ?_
        refine gj_l (pc2 := 10) (fun _ _ _ => lv_goto (tgt := 10) hx hb d_M_make_75 (by decide)) ?_
        refine gj_eq (L2 := [.ref (a 0), .int (nI k), .int (mkT τ (t + 1)).1, .int (nI (t + 1)), .int (bN (mkT τ (t + 1)).2.1)] ++ [.int (kdM τ (mkT τ t).1)]) rfl (by rw [mkT_on hop, ht2]; simp [bN, hn12, h61]; rfl) rfl (gj_drop (ih g (t + 1) rfl ⟨by omega, by rw [mkT_on hop, ht2]⟩))
    · have hn12 : ¬ 12 ≤ t + 1 := by have := nI_lt_of (N := 12) h28 (by omega); omega
      refine gj_ld (i := 5) (pc2 := 33) rfl (fun _ _ _ h9 => lv_iload hx hb d_M_make_31 h9) ?_
      refine gj_if (pc2 := 55) (pc3 := 36) (fun _ _ _ => lv_if_eq (tgt := 55) hx hb d_M_make_33 (by decide)) (fun h33 => ?_) (fun h33 => ?_)
      · refine gj_l (pc2 := 56) (fun _ _ _ => lv_iconst (v := 0) hx hb d_M_make_55 (by decide)) ?_
        refine gj_st (i := 4) (pc2 := 58) (Nat.le_of_ble_eq_true rfl) rfl (fun _ _ _ _ _ h9 l9 => lv_istore hx hb d_M_make_56 h9 (Nat.le_of_ble_eq_true rfl) l9) ?_
        refine gj_ld (i := 2) (pc2 := 59) rfl (fun _ _ _ h9 => lv_iload_n hx hb d_M_make_58 rfl h9) ?_
        refine gj_ld (i := 5) (pc2 := 61) rfl (fun _ _ _ h9 => lv_iload hx hb d_M_make_59 h9) ?_
        refine gj_if (pc2 := 68) (pc3 := 64) (fun _ _ _ => lv_if_ge (tgt := 68) hx hb d_M_make_61 (by decide)) (fun h61 => ?_) (fun h61 => ?_)
        · refine gj_ld (i := 5) (pc2 := 70) rfl (fun _ _ _ h9 => lv_iload hx hb d_M_make_68 h9) ?_
          refine bj_s F k_M_sizeOf d_M_make_70 q_447 (ct_M_sizeOf _) (rmo rfl) rfl rfl (Nat.le_of_ble_eq_true rfl) (Nat.zero_le _) (Nat.zero_le _) rfl (fun r9 e9 => ?_)
          subst e9
          refine gj_l (pc2 := 74) (fun _ _ _ => lv_iadd hx hb d_M_make_73) ?_
          refine gj_st (i := 2) (pc2 := 75) (Nat.le_of_ble_eq_true rfl) rfl (fun _ _ _ _ _ h9 l9 => lv_istore_n hx hb d_M_make_74 rfl h9 (Nat.le_of_ble_eq_true rfl) l9) ?_
          refine gj_l (pc2 := 10) (fun _ _ _ => lv_goto (tgt := 10) hx hb d_M_make_75 (by decide)) ?_
          refine gj_eq (L2 := [.ref (a 0), .int (nI k), .int (mkT τ (t + 1)).1, .int (nI (t + 1)), .int (bN (mkT τ (t + 1)).2.1)] ++ [.int (kdM τ (mkT τ t).1)]) rfl (by rw [mkT_on hop, ht2]; simp [bN, hn12, h33, h61]; rfl) rfl (gj_drop (ih g (t + 1) rfl ⟨by omega, by rw [mkT_on hop, ht2]⟩))
        · refine gj_l (pc2 := 65) (fun _ _ _ => lv_iconst (v := 0) hx hb d_M_make_64 (by decide)) ?_
          refine gj_l (pc2 := 73) (fun _ _ _ => lv_goto (tgt := 73) hx hb d_M_make_65 (by decide)) ?_
          refine gj_l (pc2 := 74) (fun _ _ _ => lv_iadd hx hb d_M_make_73) ?_
          refine gj_st (i := 2) (pc2 := 75) (Nat.le_of_ble_eq_true rfl) rfl (fun _ _ _ _ _ h9 l9 => lv_istore_n hx hb d_M_make_74 rfl h9 (Nat.le_of_ble_eq_true rfl) l9) ?_
          exact absurd (by rw [h33]; decide) h61
      · refine gj_ld (i := 5) (pc2 := 38) rfl (fun _ _ _ h9 => lv_iload hx hb d_M_make_36 h9) ?_
        refine gj_l (pc2 := 40) (fun _ _ _ => lv_bipush (v := (7)) hx hb d_M_make_38 (by decide)) ?_
        refine gj_if (pc2 := 55) (pc3 := 43) (fun _ _ _ => lv_icmp_eq (tgt := 55) hx hb d_M_make_40 (by decide)) (fun h40 => ?_) (fun h40 => ?_)
        · refine gj_l (pc2 := 56) (fun _ _ _ => lv_iconst (v := 0) hx hb d_M_make_55 (by decide)) ?_
          refine gj_st (i := 4) (pc2 := 58) (Nat.le_of_ble_eq_true rfl) rfl (fun _ _ _ _ _ h9 l9 => lv_istore hx hb d_M_make_56 h9 (Nat.le_of_ble_eq_true rfl) l9) ?_
          refine gj_ld (i := 2) (pc2 := 59) rfl (fun _ _ _ h9 => lv_iload_n hx hb d_M_make_58 rfl h9) ?_
          refine gj_ld (i := 5) (pc2 := 61) rfl (fun _ _ _ h9 => lv_iload hx hb d_M_make_59 h9) ?_
          refine gj_if (pc2 := 68) (pc3 := 64) (fun _ _ _ => lv_if_ge (tgt := 68) hx hb d_M_make_61 (by decide)) (fun h61 => ?_) (fun h61 => ?_)
          · refine gj_ld (i := 5) (pc2 := 70) rfl (fun _ _ _ h9 => lv_iload hx hb d_M_make_68 h9) ?_
            refine bj_s F k_M_sizeOf d_M_make_70 q_447 (ct_M_sizeOf _) (rmo rfl) rfl rfl (Nat.le_of_ble_eq_true rfl) (Nat.zero_le _) (Nat.zero_le _) rfl (fun r9 e9 => ?_)
            subst e9
            refine gj_l (pc2 := 74) (fun _ _ _ => lv_iadd hx hb d_M_make_73) ?_
            refine gj_st (i := 2) (pc2 := 75) (Nat.le_of_ble_eq_true rfl) rfl (fun _ _ _ _ _ h9 l9 => lv_istore_n hx hb d_M_make_74 rfl h9 (Nat.le_of_ble_eq_true rfl) l9) ?_
            refine gj_l (pc2 := 10) (fun _ _ _ => lv_goto (tgt := 10) hx hb d_M_make_75 (by decide)) ?_
            refine gj_eq (L2 := [.ref (a 0), .int (nI k), .int (mkT τ (t + 1)).1, .int (nI (t + 1)), .int (bN (mkT τ (t + 1)).2.1)] ++ [.int (kdM τ (mkT τ t).1)]) rfl (by rw [mkT_on hop, ht2]; simp [bN, hn12, h33, h40, h61]; rfl) rfl (gj_drop (ih g (t + 1) rfl ⟨by omega, by rw [mkT_on hop, ht2]⟩))
          · refine gj_l (pc2 := 65) (fun _ _ _ => lv_iconst (v := 0) hx hb d_M_make_64 (by decide)) ?_
            refine gj_l (pc2 := 73) (fun _ _ _ => lv_goto (tgt := 73) hx hb d_M_make_65 (by decide)) ?_
            refine gj_l (pc2 := 74) (fun _ _ _ => lv_iadd hx hb d_M_make_73) ?_
            refine gj_st (i := 2) (pc2 := 75) (Nat.le_of_ble_eq_true rfl) rfl (fun _ _ _ _ _ h9 l9 => lv_istore_n hx hb d_M_make_74 rfl h9 (Nat.le_of_ble_eq_true rfl) l9) ?_
            exact absurd (by rw [h40]; decide) h61
        · refine gj_ld (i := 0) (pc2 := 44) rfl (fun _ _ _ h9 => lv_aload_n hx hb d_M_make_43 rfl h9) ?_
          refine gj_ld (i := 2) (pc2 := 45) rfl (fun _ _ _ h9 => lv_iload_n hx hb d_M_make_44 rfl h9) ?_
          refine bj_vi F k_M_faultAt d_M_make_45 q_443 (mw_at (i := 0) (by omega)) rfl (ct_M_faultAt _) (rmo rfl) rfl rfl (Nat.le_of_ble_eq_true rfl) (Nat.zero_le _) (Nat.zero_le _) rfl (fun r9 u9 e9 => ?_)
          obtain ⟨rfl, rfl⟩ := e9
          refine gj_if (pc2 := 55) (pc3 := 51) (fun _ _ _ => lv_if_ne (tgt := 55) hx hb d_M_make_48 (by decide)) (fun h48 => ?_) (fun h48 => ?_)
          · refine gj_l (pc2 := 56) (fun _ _ _ => lv_iconst (v := 0) hx hb d_M_make_55 (by decide)) ?_
            refine gj_st (i := 4) (pc2 := 58) (Nat.le_of_ble_eq_true rfl) rfl (fun _ _ _ _ _ h9 l9 => lv_istore hx hb d_M_make_56 h9 (Nat.le_of_ble_eq_true rfl) l9) ?_
            refine gj_ld (i := 2) (pc2 := 59) rfl (fun _ _ _ h9 => lv_iload_n hx hb d_M_make_58 rfl h9) ?_
            refine gj_ld (i := 5) (pc2 := 61) rfl (fun _ _ _ h9 => lv_iload hx hb d_M_make_59 h9) ?_
            refine gj_if (pc2 := 68) (pc3 := 64) (fun _ _ _ => lv_if_ge (tgt := 68) hx hb d_M_make_61 (by decide)) (fun h61 => ?_) (fun h61 => ?_)
            · refine gj_ld (i := 5) (pc2 := 70) rfl (fun _ _ _ h9 => lv_iload hx hb d_M_make_68 h9) ?_
              refine bj_s F k_M_sizeOf d_M_make_70 q_447 (ct_M_sizeOf _) (rmo rfl) rfl rfl (Nat.le_of_ble_eq_true rfl) (Nat.zero_le _) (Nat.zero_le _) rfl (fun r9 e9 => ?_)
              subst e9
              refine gj_l (pc2 := 74) (fun _ _ _ => lv_iadd hx hb d_M_make_73) ?_
              refine gj_st (i := 2) (pc2 := 75) (Nat.le_of_ble_eq_true rfl) rfl (fun _ _ _ _ _ h9 l9 => lv_istore_n hx hb d_M_make_74 rfl h9 (Nat.le_of_ble_eq_true rfl) l9) ?_
              refine gj_l (pc2 := 10) (fun _ _ _ => lv_goto (tgt := 10) hx hb d_M_make_75 (by decide)) ?_
              refine gj_eq (L2 := [.ref (a 0), .int (nI k), .int (mkT τ (t + 1)).1, .int (nI (t + 1)), .int (bN (mkT τ (t + 1)).2.1)] ++ [.int (kdM τ (mkT τ t).1)]) rfl (by rw [mkT_on hop, ht2]; simp [bN, hn12, h33, h40, h48, h61]; rfl) rfl (gj_drop (ih g (t + 1) rfl ⟨by omega, by rw [mkT_on hop, ht2]⟩))
            · refine gj_l (pc2 := 65) (fun _ _ _ => lv_iconst (v := 0) hx hb d_M_make_64 (by decide)) ?_
              refine gj_l (pc2 := 73) (fun _ _ _ => lv_goto (tgt := 73) hx hb d_M_make_65 (by decide)) ?_
              refine gj_l (pc2 := 74) (fun _ _ _ => lv_iadd hx hb d_M_make_73) ?_
              refine gj_st (i := 2) (pc2 := 75) (Nat.le_of_ble_eq_true rfl) rfl (fun _ _ _ _ _ h9 l9 => lv_istore_n hx hb d_M_make_74 rfl h9 (Nat.le_of_ble_eq_true rfl) l9) ?_
              refine gj_l (pc2 := 10) (fun _ _ _ => lv_goto (tgt := 10) hx hb d_M_make_75 (by decide)) ?_
              refine gj_eq (L2 := [.ref (a 0), .int (nI k), .int (mkT τ (t + 1)).1, .int (nI (t + 1)), .int (bN (mkT τ (t + 1)).2.1)] ++ [.int (kdM τ (mkT τ t).1)]) rfl (by rw [mkT_on hop, ht2]; simp [bN, hn12, h33, h40, h48, h61]; rfl) rfl (gj_drop (ih g (t + 1) rfl ⟨by omega, by rw [mkT_on hop, ht2]⟩))
          · refine gj_l (pc2 := 52) (fun _ _ _ => lv_iconst (v := 1) hx hb d_M_make_51 (by decide)) ?_
            refine gj_l (pc2 := 56) (fun _ _ _ => lv_goto (tgt := 56) hx hb d_M_make_52 (by decide)) ?_
            refine gj_st (i := 4) (pc2 := 58) (Nat.le_of_ble_eq_true rfl) rfl (fun _ _ _ _ _ h9 l9 => lv_istore hx hb d_M_make_56 h9 (Nat.le_of_ble_eq_true rfl) l9) ?_
            refine gj_ld (i := 2) (pc2 := 59) rfl (fun _ _ _ h9 => lv_iload_n hx hb d_M_make_58 rfl h9) ?_
            refine gj_ld (i := 5) (pc2 := 61) rfl (fun _ _ _ h9 => lv_iload hx hb d_M_make_59 h9) ?_
            refine gj_if (pc2 := 68) (pc3 := 64) (fun _ _ _ => lv_if_ge (tgt := 68) hx hb d_M_make_61 (by decide)) (fun h61 => ?_) (fun h61 => ?_)
            · refine gj_ld (i := 5) (pc2 := 70) rfl (fun _ _ _ h9 => lv_iload hx hb d_M_make_68 h9) ?_
              refine bj_s F k_M_sizeOf d_M_make_70 q_447 (ct_M_sizeOf _) (rmo rfl) rfl rfl (Nat.le_of_ble_eq_true rfl) (Nat.zero_le _) (Nat.zero_le _) rfl (fun r9 e9 => ?_)
              subst e9
              refine gj_l (pc2 := 74) (fun _ _ _ => lv_iadd hx hb d_M_make_73) ?_
              refine gj_st (i := 2) (pc2 := 75) (Nat.le_of_ble_eq_true rfl) rfl (fun _ _ _ _ _ h9 l9 => lv_istore_n hx hb d_M_make_74 rfl h9 (Nat.le_of_ble_eq_true rfl) l9) ?_
              refine gj_l (pc2 := 10) (fun _ _ _ => lv_goto (tgt := 10) hx hb d_M_make_75 (by decide)) ?_
              refine gj_eq (L2 := [.ref (a 0), .int (nI k), .int (mkT τ (t + 1)).1, .int (nI (t + 1)), .int (bN (mkT τ (t + 1)).2.1)] ++ [.int (kdM τ (mkT τ t).1)]) rfl (by rw [mkT_on hop, ht2]; simp [bN, hn12, h33, h40, h48, h61]; rfl) rfl (gj_drop (ih g (t + 1) rfl ⟨by omega, by rw [mkT_on hop, ht2]⟩))
            · refine gj_l (pc2 := 65) (fun _ _ _ => lv_iconst (v := 0) hx hb d_M_make_64 (by decide)) ?_
              refine gj_l (pc2 := 73) (fun _ _ _ => lv_goto (tgt := 73) hx hb d_M_make_65 (by decide)) ?_
              refine gj_l (pc2 := 74) (fun _ _ _ => lv_iadd hx hb d_M_make_73) ?_
              refine gj_st (i := 2) (pc2 := 75) (Nat.le_of_ble_eq_true rfl) rfl (fun _ _ _ _ _ h9 l9 => lv_istore_n hx hb d_M_make_74 rfl h9 (Nat.le_of_ble_eq_true rfl) l9) ?_
              refine gj_l (pc2 := 10) (fun _ _ _ => lv_goto (tgt := 10) hx hb d_M_make_75 (by decide)) ?_
              refine gj_eq (L2 := [.ref (a 0), .int (nI k), .int (mkT τ (t + 1)).1, .int (nI (t + 1)), .int (bN (mkT τ (t + 1)).2.1)] ++ [.int (kdM τ (mkT τ t).1)]) rfl (by rw [mkT_on hop, ht2]; simp [bN, hn12, h33, h40, h48, h61]; rfl) rfl (gj_drop (ih g (t + 1) rfl ⟨by omega, by rw [mkT_on hop, ht2]⟩))

theorem k_M_find : CKV y_M_find c_M_find 1 none 0 := ⟨q_434, q_3, q_433, sl_M_find, ⟨by decide +kernel, by decide +kernel, by decide +kernel⟩⟩
set_option maxHeartbeats 4000000 in
set_option maxRecDepth 100000 in
theorem ct_M_find {l : Launch} {D : va_G} {cI cB cZ cJ : ClassId} {a : Nat → Nat} {τ : St}  : GCv l y_M_find (Cond.code y_M_find c_M_find 1 none :: tbW) ({ frames := 5, cells := 0, slots := 0, locals := 110 }) 0 0 D vCl (TY cI cB cZ cJ) [.ref (a 0)] (mw a cI cZ τ) (fun u => u = mw a cI cZ (fiM τ)) := by
  refine gc_body (Qc := gc_Qv D vCl (TY cI cB cZ cJ) (mw a cI cZ τ) (fun u => u = mw a cI cZ (fiM τ))) (cc := c_M_find) (maxL := 1) (ret := none) (by decide) rfl (by simp [Value.category]) (Nat.le_of_ble_eq_true rfl) ?_
  intro p e s m args below meth c F
  have hx := F.1
  have hb := F.2.1
  refine gj_ld (i := 0) (pc2 := 1) rfl (fun _ _ _ h9 => lv_aload_n hx hb d_M_find_0 rfl h9) ?_
  refine gj_ld (i := 0) (pc2 := 2) rfl (fun _ _ _ h9 => lv_aload_n hx hb d_M_find_1 rfl h9) ?_
  refine mj_gi F 3 rfl d_M_find_2 q_333 rfl ?_
  refine gj_l (pc2 := 7) (fun _ _ _ => lv_bipush (v := (31)) hx hb d_M_find_5 (by decide)) ?_
  refine gj_l (pc2 := 8) (fun _ _ _ => lv_iand hx hb d_M_find_7) ?_
  refine mj_pi F 11 rfl d_M_find_8 q_341 rfl ?_
  refine gj_ld (i := 0) (pc2 := 12) rfl (fun _ _ _ h9 => lv_aload_n hx hb d_M_find_11 rfl h9) ?_
  refine mj_gr F 7 rfl d_M_find_12 q_337 rfl ?_
  refine gj_ld (i := 0) (pc2 := 16) rfl (fun _ _ _ h9 => lv_aload_n hx hb d_M_find_15 rfl h9) ?_
  refine mj_gi F 11 rfl d_M_find_16 q_341 rfl ?_
  refine mj_zl F (kAt (τ 0 3)) (by rw [s2_at]; exact kAt_eq _) (kAt_lt _) d_M_find_19 rfl ?_
  refine gj_if (pc2 := 52) (pc3 := 23) (fun _ _ _ => lv_if_eq (tgt := 52) hx hb d_M_find_20 (by decide)) (fun h20 => ?_) (fun h20 => ?_)
  · refine gj_ld (i := 0) (pc2 := 53) rfl (fun _ _ _ h9 => lv_aload_n hx hb d_M_find_52 rfl h9) ?_
    refine gj_ld (i := 0) (pc2 := 54) rfl (fun _ _ _ h9 => lv_aload_n hx hb d_M_find_53 rfl h9) ?_
    refine mj_gi F 11 rfl d_M_find_54 q_341 rfl ?_
    refine gj_eq (st3 := [.int (nI (kAt (τ 0 3))), .ref (a 0)]) rfl rfl (by rw [s2_at, kAt_eq]) ?_
    refine bj_vv F k_M_make d_M_find_57 q_435 (mw_at (i := 0) (by omega)) rfl (ct_M_make (τ := fi1 τ) (kAt_lt _)) (rmo rfl) rfl rfl (Nat.le_of_ble_eq_true rfl) (Nat.zero_le _) (Nat.zero_le _) rfl (fun u9 e9 => ?_)
    subst e9
    exact gj_vret F d_M_find_60 (Nat.le_refl _) (Nat.le_refl _) (congrArg _ (fiM_3 h20).symm)
  · refine gj_ld (i := 0) (pc2 := 24) rfl (fun _ _ _ h9 => lv_aload_n hx hb d_M_find_23 rfl h9) ?_
    refine mj_gr F 8 rfl d_M_find_24 q_338 rfl ?_
    refine gj_ld (i := 0) (pc2 := 28) rfl (fun _ _ _ h9 => lv_aload_n hx hb d_M_find_27 rfl h9) ?_
    refine mj_gi F 11 rfl d_M_find_28 q_341 rfl ?_
    refine mj_ld F 4 32 (kAt (τ 0 3)) (by omega) rfl (by decide) (by rw [s2_at]; exact kAt_eq _) (kAt_lt _) d_M_find_31 rfl ?_
    refine gj_ld (i := 0) (pc2 := 33) rfl (fun _ _ _ h9 => lv_aload_n hx hb d_M_find_32 rfl h9) ?_
    refine mj_gi F 3 rfl d_M_find_33 q_333 rfl ?_
    refine gj_if (pc2 := 52) (pc3 := 39) (fun _ _ _ => lv_icmp_ne (tgt := 52) hx hb d_M_find_36 (by decide)) (fun h36 => ?_) (fun h36 => ?_)
    · refine gj_ld (i := 0) (pc2 := 53) rfl (fun _ _ _ h9 => lv_aload_n hx hb d_M_find_52 rfl h9) ?_
      refine gj_ld (i := 0) (pc2 := 54) rfl (fun _ _ _ h9 => lv_aload_n hx hb d_M_find_53 rfl h9) ?_
      refine mj_gi F 11 rfl d_M_find_54 q_341 rfl ?_
      refine gj_eq (st3 := [.int (nI (kAt (τ 0 3))), .ref (a 0)]) rfl rfl (by rw [s2_at, kAt_eq]) ?_
      refine bj_vv F k_M_make d_M_find_57 q_435 (mw_at (i := 0) (by omega)) rfl (ct_M_make (τ := fi1 τ) (kAt_lt _)) (rmo rfl) rfl rfl (Nat.le_of_ble_eq_true rfl) (Nat.zero_le _) (Nat.zero_le _) rfl (fun u9 e9 => ?_)
      subst e9
      exact gj_vret F d_M_find_60 (Nat.le_refl _) (Nat.le_refl _) (congrArg _ (fiM_2 h20 h36).symm)
    · refine gj_ld (i := 0) (pc2 := 40) rfl (fun _ _ _ h9 => lv_aload_n hx hb d_M_find_39 rfl h9) ?_
      refine gj_l (pc2 := 41) (fun _ _ _ => lv_dup hx hb d_M_find_40 rfl) ?_
      refine mj_gi F 15 rfl d_M_find_41 q_345 rfl ?_
      refine gj_l (pc2 := 45) (fun _ _ _ => lv_iconst (v := 1) hx hb d_M_find_44 (by decide)) ?_
      refine gj_l (pc2 := 46) (fun _ _ _ => lv_iadd hx hb d_M_find_45) ?_
      refine mj_pi F 15 rfl d_M_find_46 q_345 rfl ?_
      refine gj_l (pc2 := 60) (fun _ _ _ => lv_goto (tgt := 60) hx hb d_M_find_49 (by decide)) ?_
      exact gj_vret F d_M_find_60 (Nat.le_refl _) (Nat.le_refl _) (congrArg _ (fiM_1 h20 h36).symm)
end
section
theorem k_M_does : CKV y_M_does c_M_does 8 (some .boolean) 0 := ⟨q_453, q_3, q_452, sl_M_does, ⟨by decide +kernel, by decide +kernel, by decide +kernel⟩⟩
set_option maxHeartbeats 4000000 in
set_option maxRecDepth 100000 in
theorem ct_M_does {l : Launch} {D : va_G} {cI cB cZ cJ : ClassId} {a : Nat → Nat} {τ : St} (hZ : ZB τ) : GCi l y_M_does (Cond.code y_M_does c_M_does 8 (some .boolean) :: tbW) ({ frames := 4, cells := 0, slots := 0, locals := 85 }) 0 0 D vCl (TY cI cB cZ cJ) [.ref (a 0)] (mw a cI cZ τ) (fun r u => r = bN (doM τ).2 ∧ u = mw a cI cZ (doM τ).1) := by
  refine gc_body (Qc := gc_Qi D vCl (TY cI cB cZ cJ) (mw a cI cZ τ) (fun r u => r = bN (doM τ).2 ∧ u = mw a cI cZ (doM τ).1)) (cc := c_M_does) (maxL := 8) (ret := (some .boolean)) (by decide) rfl (by simp [Value.category]) (Nat.le_of_ble_eq_true rfl) ?_
  intro p e s m args below meth c F
  have hx := F.1
  have hb := F.2.1
  refine gj_ld (i := 0) (pc2 := 1) rfl (fun _ _ _ h9 => lv_aload_n hx hb d_M_does_0 rfl h9) ?_
  refine gj_ld (i := 0) (pc2 := 2) rfl (fun _ _ _ h9 => lv_aload_n hx hb d_M_does_1 rfl h9) ?_
  refine mj_gi F 3 rfl d_M_does_2 q_333 rfl ?_
  refine bj_vi F k_M_faultAt d_M_does_5 q_443 (mw_at (i := 0) (by omega)) rfl (ct_M_faultAt _) (rmo rfl) rfl rfl (Nat.le_of_ble_eq_true rfl) (Nat.zero_le _) (Nat.zero_le _) rfl (fun r9 u9 e9 => ?_)
  obtain ⟨rfl, rfl⟩ := e9
  refine gj_st (i := 1) (pc2 := 9) (Nat.le_of_ble_eq_true rfl) rfl (fun _ _ _ _ _ h9 l9 => lv_istore_n hx hb d_M_does_8 rfl h9 (Nat.le_of_ble_eq_true rfl) l9) ?_
  refine gj_ld (i := 1) (pc2 := 10) rfl (fun _ _ _ h9 => lv_iload_n hx hb d_M_does_9 rfl h9) ?_
  refine gj_if (pc2 := 20) (pc3 := 13) (fun _ _ _ => lv_if_le (tgt := 20) hx hb d_M_does_10 (by decide)) (fun h10 => ?_) (fun h10 => ?_)
  · obtain ⟨hp1, hp2, hp3, hp4⟩ := ft0 h10
    obtain ⟨i, hi, ei⟩ := inM_of hp1
    have hcl : (nI i).toNatClampNeg = i := nI_clamp (by omega)
    have hpi : (τ 0 3).toNatClampNeg = i := by rw [ei, hcl]
    refine gj_ld (i := 0) (pc2 := 21) rfl (fun _ _ _ h9 => lv_aload_n hx hb d_M_does_20 rfl h9) ?_
    refine gj_ld (i := 0) (pc2 := 22) rfl (fun _ _ _ h9 => lv_aload_n hx hb d_M_does_21 rfl h9) ?_
    refine mj_gi F 3 rfl d_M_does_22 q_333 rfl ?_
    refine bj_vi F k_M_kindAt d_M_does_25 q_439 (mw_at (i := 0) (by omega)) rfl (ct_M_kindAt _) (rmo rfl) rfl rfl (Nat.le_of_ble_eq_true rfl) (Nat.zero_le _) (Nat.zero_le _) rfl (fun r9 u9 e9 => ?_)
    obtain ⟨rfl, rfl⟩ := e9
    refine gj_st (i := 2) (pc2 := 29) (Nat.le_of_ble_eq_true rfl) rfl (fun _ _ _ _ _ h9 l9 => lv_istore_n hx hb d_M_does_28 rfl h9 (Nat.le_of_ble_eq_true rfl) l9) ?_
    refine gj_ld (i := 0) (pc2 := 30) rfl (fun _ _ _ h9 => lv_aload_n hx hb d_M_does_29 rfl h9) ?_
    refine mj_gr F 1 rfl d_M_does_30 q_331 rfl ?_
    refine gj_ld (i := 0) (pc2 := 34) rfl (fun _ _ _ h9 => lv_aload_n hx hb d_M_does_33 rfl h9) ?_
    refine mj_gi F 3 rfl d_M_does_34 q_333 rfl ?_
    refine mj_ld F 1 1024 i (by omega) rfl (by decide) ei hi d_M_does_37 rfl ?_
    refine gj_l (pc2 := 40) (fun _ _ _ => lv_bipush (v := (7)) hx hb d_M_does_38 (by decide)) ?_
    refine gj_l (pc2 := 41) (fun _ _ _ => lv_iand hx hb d_M_does_40) ?_
    refine gj_st (i := 3) (pc2 := 42) (Nat.le_of_ble_eq_true rfl) rfl (fun _ _ _ _ _ h9 l9 => lv_istore_n hx hb d_M_does_41 rfl h9 (Nat.le_of_ble_eq_true rfl) l9) ?_
    refine gj_ld (i := 2) (pc2 := 43) rfl (fun _ _ _ h9 => lv_iload_n hx hb d_M_does_42 rfl h9) ?_
    refine bj_s F k_M_sizeOf d_M_does_43 q_447 (ct_M_sizeOf _) (rmo rfl) rfl rfl (Nat.le_of_ble_eq_true rfl) (Nat.zero_le _) (Nat.zero_le _) rfl (fun r9 e9 => ?_)
    subst e9
    refine gj_l (pc2 := 47) (fun _ _ _ => lv_iconst (v := 2) hx hb d_M_does_46 (by decide)) ?_
    refine gj_if (pc2 := 64) (pc3 := 50) (fun _ _ _ => lv_icmp_ne (tgt := 64) hx hb d_M_does_47 (by decide)) (fun h47 => ?_) (fun h47 => ?_)
    · refine gj_l (pc2 := 65) (fun _ _ _ => lv_iconst (v := 0) hx hb d_M_does_64 (by decide)) ?_
      refine gj_eq (st3 := [.int (dN τ)]) rfl rfl (by unfold dN; rw [if_neg h47]) ?_
      refine gj_st (i := 4) (pc2 := 67) (Nat.le_of_ble_eq_true rfl) rfl (fun _ _ _ _ _ h9 l9 => lv_istore hx hb d_M_does_65 h9 (Nat.le_of_ble_eq_true rfl) l9) ?_
      refine gj_ld (i := 0) (pc2 := 68) rfl (fun _ _ _ h9 => lv_aload_n hx hb d_M_does_67 rfl h9) ?_
      refine mj_gr F 2 rfl d_M_does_68 q_332 rfl ?_
      refine gj_ld (i := 4) (pc2 := 73) rfl (fun _ _ _ h9 => lv_iload hx hb d_M_does_71 h9) ?_
      refine gj_l (pc2 := 75) (fun _ _ _ => lv_bipush (v := (7)) hx hb d_M_does_73 (by decide)) ?_
      refine gj_l (pc2 := 76) (fun _ _ _ => lv_iand hx hb d_M_does_75) ?_
      refine mj_ld F 2 8 (lo3 (dN τ)) (by omega) rfl (by decide) (lo3_eq _) (lo3_lt _) d_M_does_76 rfl ?_
      refine gj_st (i := 5) (pc2 := 79) (Nat.le_of_ble_eq_true rfl) rfl (fun _ _ _ _ _ h9 l9 => lv_istore hx hb d_M_does_77 h9 (Nat.le_of_ble_eq_true rfl) l9) ?_
      refine gj_ld (i := 2) (pc2 := 80) rfl (fun _ _ _ h9 => lv_iload_n hx hb d_M_does_79 rfl h9) ?_
      refine gj_if (pc2 := 90) (pc3 := 83) (fun _ _ _ => lv_if_ne (tgt := 90) hx hb d_M_does_80 (by decide)) (fun h80 => ?_) (fun h80 => ?_)
      · refine gj_ld (i := 2) (pc2 := 91) rfl (fun _ _ _ h9 => lv_iload_n hx hb d_M_does_90 rfl h9) ?_
        refine gj_l (pc2 := 92) (fun _ _ _ => lv_iconst (v := 4) hx hb d_M_does_91 (by decide)) ?_
        refine gj_if (pc2 := 100) (pc3 := 95) (fun _ _ _ => lv_icmp_eq (tgt := 100) hx hb d_M_does_92 (by decide)) (fun h92 => ?_) (fun h92 => ?_)
        · refine gj_ld (i := 5) (pc2 := 102) rfl (fun _ _ _ h9 => lv_iload hx hb d_M_does_100 h9) ?_
          refine bj_s F k_M_isThere d_M_does_102 q_397 (ct_M_isThere _) (rmo rfl) rfl rfl (Nat.le_of_ble_eq_true rfl) (Nat.zero_le _) (Nat.zero_le _) rfl (fun r9 e9 => ?_)
          subst e9
          refine gj_if (pc2 := 115) (pc3 := 108) (fun _ _ _ => lv_if_ne (tgt := 115) hx hb d_M_does_105 (by decide)) (fun h105 => ?_) (fun h105 => ?_)
          · refine gj_ld (i := 4) (pc2 := 117) rfl (fun _ _ _ h9 => lv_iload hx hb d_M_does_115 h9) ?_
            refine gj_l (pc2 := 119) (fun _ _ _ => lv_bipush (v := (127)) hx hb d_M_does_117 (by decide)) ?_
            refine gj_if (pc2 := 131) (pc3 := 122) (fun _ _ _ => lv_icmp_le (tgt := 131) hx hb d_M_does_119 (by decide)) (fun h119 => ?_) (fun h119 => ?_)
            · refine gj_ld (i := 4) (pc2 := 133) rfl (fun _ _ _ h9 => lv_iload hx hb d_M_does_131 h9) ?_
              refine gj_eq (st3 := [.int (dNr τ)]) rfl rfl (by unfold dNr; rw [if_pos h119]) ?_
              refine gj_st (i := 6) (pc2 := 135) (Nat.le_of_ble_eq_true rfl) rfl (fun _ _ _ _ _ h9 l9 => lv_istore hx hb d_M_does_133 h9 (Nat.le_of_ble_eq_true rfl) l9) ?_
              refine gj_ld (i := 0) (pc2 := 136) rfl (fun _ _ _ h9 => lv_aload_n hx hb d_M_does_135 rfl h9) ?_
              refine mj_gr F 1 rfl d_M_does_136 q_331 rfl ?_
              refine gj_ld (i := 0) (pc2 := 140) rfl (fun _ _ _ h9 => lv_aload_n hx hb d_M_does_139 rfl h9) ?_
              refine mj_gi F 3 rfl d_M_does_140 q_333 rfl ?_
              refine mj_ld F 1 1024 i (by omega) rfl (by decide) ei hi d_M_does_143 rfl ?_
              refine gj_l (pc2 := 146) (fun _ _ _ => lv_bipush (v := (15)) hx hb d_M_does_144 (by decide)) ?_
              refine gj_l (pc2 := 147) (fun _ _ _ => lv_iand hx hb d_M_does_146) ?_
              refine gj_st (i := 7) (pc2 := 149) (Nat.le_of_ble_eq_true rfl) rfl (fun _ _ _ _ _ h9 l9 => lv_istore hx hb d_M_does_147 h9 (Nat.le_of_ble_eq_true rfl) l9) ?_
              refine gj_ld (i := 0) (pc2 := 150) rfl (fun _ _ _ h9 => lv_aload_n hx hb d_M_does_149 rfl h9) ?_
              refine gj_l (pc2 := 151) (fun _ _ _ => lv_dup hx hb d_M_does_150 rfl) ?_
              refine mj_gi F 3 rfl d_M_does_151 q_333 rfl ?_
              refine gj_ld (i := 2) (pc2 := 155) rfl (fun _ _ _ h9 => lv_iload_n hx hb d_M_does_154 rfl h9) ?_
              refine bj_s F k_M_sizeOf d_M_does_155 q_447 (ct_M_sizeOf _) (rmo rfl) rfl rfl (Nat.le_of_ble_eq_true rfl) (Nat.zero_le _) (Nat.zero_le _) rfl (fun r9 e9 => ?_)
              subst e9
              refine gj_l (pc2 := 159) (fun _ _ _ => lv_iadd hx hb d_M_does_158) ?_
              refine mj_pi F 3 rfl d_M_does_159 q_333 rfl ?_
              refine gj_ld (i := 2) (pc2 := 163) rfl (fun _ _ _ h9 => lv_iload_n hx hb d_M_does_162 rfl h9) ?_
              refine gj_l (pc2 := 165) (fun _ _ _ => lv_bipush (v := (7)) hx hb d_M_does_163 (by decide)) ?_
              refine gj_if (pc2 := 195) (pc3 := 168) (fun _ _ _ => lv_icmp_ne (tgt := 195) hx hb d_M_does_165 (by decide)) (fun h165 => ?_) (fun h165 => ?_)
              · refine gj_ld (i := 0) (pc2 := 196) rfl (fun _ _ _ h9 => lv_aload_n hx hb d_M_does_195 rfl h9) ?_
                refine gj_ld (i := 2) (pc2 := 197) rfl (fun _ _ _ h9 => lv_iload_n hx hb d_M_does_196 rfl h9) ?_
                refine gj_ld (i := 3) (pc2 := 198) rfl (fun _ _ _ h9 => lv_iload_n hx hb d_M_does_197 rfl h9) ?_
                refine gj_ld (i := 5) (pc2 := 200) rfl (fun _ _ _ h9 => lv_iload hx hb d_M_does_198 h9) ?_
                refine gj_ld (i := 6) (pc2 := 202) rfl (fun _ _ _ h9 => lv_iload hx hb d_M_does_200 h9) ?_
                rw [lo3_eq]
                refine bj_vv F k_M_work d_M_does_202 q_462 (mw_at (i := 0) (by omega)) rfl (ct_M_work (τ := dPl τ) (kdM τ (τ 0 3)) (lo3_lt (τ 1 i)) (dSv τ) (dNr τ) (fun _ => bN_n0.mp h105)) (rmo rfl) rfl rfl (Nat.le_of_ble_eq_true rfl) (Nat.zero_le _) (Nat.zero_le _) rfl (fun u9 e9 => ?_)
                subst e9
                have hD := doM_5 h10 h80 (fun _ => bN_n0.mp h105) h165
                rw [hpi] at hD
                refine gj_l (pc2 := 206) (fun _ _ _ => lv_iconst (v := 1) hx hb d_M_does_205 (by decide)) ?_
                exact gj_zret F d_M_does_206 (by first | rfl | exact bN_z _ | decide) (Nat.le_refl _) (Nat.le_refl _) ⟨by rw [hD]; first | done | rfl, by rw [hD]; first | done | rfl⟩
              · have hD := doM_4 h10 h165
                have hCo : dCo τ = τ 1 i &&& 15 := by unfold dCo; rw [hpi]
                rw [hCo] at hD
                refine gj_ld (i := 0) (pc2 := 169) rfl (fun _ _ _ h9 => lv_aload_n hx hb d_M_does_168 rfl h9) ?_
                refine gj_l (pc2 := 170) (fun _ _ _ => lv_dup hx hb d_M_does_169 rfl) ?_
                refine mj_gi F 3 rfl d_M_does_170 q_333 rfl ?_
                refine gj_ld (i := 0) (pc2 := 174) rfl (fun _ _ _ h9 => lv_aload_n hx hb d_M_does_173 rfl h9) ?_
                refine gj_ld (i := 7) (pc2 := 176) rfl (fun _ _ _ h9 => lv_iload hx hb d_M_does_174 h9) ?_
                refine bj_vi F k_M_holds d_M_does_176 q_458 (mw_at (i := 0) (by omega)) rfl (ct_M_holds (τ := dPl τ) hZ.dPl _) (rmo rfl) rfl rfl (Nat.le_of_ble_eq_true rfl) (Nat.zero_le _) (Nat.zero_le _) rfl (fun r9 u9 e9 => ?_)
                obtain ⟨rfl, rfl⟩ := e9
                refine gj_if (pc2 := 187) (pc3 := 182) (fun _ _ _ => lv_if_eq (tgt := 187) hx hb d_M_does_179 (by decide)) (fun h179 => ?_) (fun h179 => ?_)
                · rw [if_pos h179] at hD
                  refine gj_l (pc2 := 188) (fun _ _ _ => lv_iconst (v := 0) hx hb d_M_does_187 (by decide)) ?_
                  refine gj_l (pc2 := 189) (fun _ _ _ => lv_iadd hx hb d_M_does_188) ?_
                  refine mj_pi F 3 rfl d_M_does_189 q_333 rfl ?_
                  refine gj_l (pc2 := 205) (fun _ _ _ => lv_goto (tgt := 205) hx hb d_M_does_192 (by decide)) ?_
                  refine gj_l (pc2 := 206) (fun _ _ _ => lv_iconst (v := 1) hx hb d_M_does_205 (by decide)) ?_
                  exact gj_zret F d_M_does_206 (by first | rfl | exact bN_z _ | decide) (Nat.le_refl _) (Nat.le_refl _) ⟨by rw [hD]; first | done | rfl, by rw [hD]; first | done | rfl⟩
                · rw [if_neg h179] at hD
                  refine gj_ld (i := 6) (pc2 := 184) rfl (fun _ _ _ h9 => lv_iload hx hb d_M_does_182 h9) ?_
                  refine gj_l (pc2 := 188) (fun _ _ _ => lv_goto (tgt := 188) hx hb d_M_does_184 (by decide)) ?_
                  refine gj_l (pc2 := 189) (fun _ _ _ => lv_iadd hx hb d_M_does_188) ?_
                  refine mj_pi F 3 rfl d_M_does_189 q_333 rfl ?_
                  refine gj_l (pc2 := 205) (fun _ _ _ => lv_goto (tgt := 205) hx hb d_M_does_192 (by decide)) ?_
                  refine gj_l (pc2 := 206) (fun _ _ _ => lv_iconst (v := 1) hx hb d_M_does_205 (by decide)) ?_
                  exact gj_zret F d_M_does_206 (by first | rfl | exact bN_z _ | decide) (Nat.le_refl _) (Nat.le_refl _) ⟨by rw [hD]; first | done | rfl, by rw [hD]; first | done | rfl⟩
            · refine gj_ld (i := 4) (pc2 := 124) rfl (fun _ _ _ h9 => lv_iload hx hb d_M_does_122 h9) ?_
              refine gj_l (pc2 := 127) (fun _ _ _ => lv_sipush (v := (256)) hx hb d_M_does_124 (by decide)) ?_
              refine gj_l (pc2 := 128) (fun _ _ _ => lv_isub hx hb d_M_does_127) ?_
              refine gj_l (pc2 := 133) (fun _ _ _ => lv_goto (tgt := 133) hx hb d_M_does_128 (by decide)) ?_
              refine gj_eq (st3 := [.int (dNr τ)]) rfl rfl (by unfold dNr; rw [if_neg h119]) ?_
              refine gj_st (i := 6) (pc2 := 135) (Nat.le_of_ble_eq_true rfl) rfl (fun _ _ _ _ _ h9 l9 => lv_istore hx hb d_M_does_133 h9 (Nat.le_of_ble_eq_true rfl) l9) ?_
              refine gj_ld (i := 0) (pc2 := 136) rfl (fun _ _ _ h9 => lv_aload_n hx hb d_M_does_135 rfl h9) ?_
              refine mj_gr F 1 rfl d_M_does_136 q_331 rfl ?_
              refine gj_ld (i := 0) (pc2 := 140) rfl (fun _ _ _ h9 => lv_aload_n hx hb d_M_does_139 rfl h9) ?_
              refine mj_gi F 3 rfl d_M_does_140 q_333 rfl ?_
              refine mj_ld F 1 1024 i (by omega) rfl (by decide) ei hi d_M_does_143 rfl ?_
              refine gj_l (pc2 := 146) (fun _ _ _ => lv_bipush (v := (15)) hx hb d_M_does_144 (by decide)) ?_
              refine gj_l (pc2 := 147) (fun _ _ _ => lv_iand hx hb d_M_does_146) ?_
              refine gj_st (i := 7) (pc2 := 149) (Nat.le_of_ble_eq_true rfl) rfl (fun _ _ _ _ _ h9 l9 => lv_istore hx hb d_M_does_147 h9 (Nat.le_of_ble_eq_true rfl) l9) ?_
              refine gj_ld (i := 0) (pc2 := 150) rfl (fun _ _ _ h9 => lv_aload_n hx hb d_M_does_149 rfl h9) ?_
              refine gj_l (pc2 := 151) (fun _ _ _ => lv_dup hx hb d_M_does_150 rfl) ?_
              refine mj_gi F 3 rfl d_M_does_151 q_333 rfl ?_
              refine gj_ld (i := 2) (pc2 := 155) rfl (fun _ _ _ h9 => lv_iload_n hx hb d_M_does_154 rfl h9) ?_
              refine bj_s F k_M_sizeOf d_M_does_155 q_447 (ct_M_sizeOf _) (rmo rfl) rfl rfl (Nat.le_of_ble_eq_true rfl) (Nat.zero_le _) (Nat.zero_le _) rfl (fun r9 e9 => ?_)
              subst e9
              refine gj_l (pc2 := 159) (fun _ _ _ => lv_iadd hx hb d_M_does_158) ?_
              refine mj_pi F 3 rfl d_M_does_159 q_333 rfl ?_
              refine gj_ld (i := 2) (pc2 := 163) rfl (fun _ _ _ h9 => lv_iload_n hx hb d_M_does_162 rfl h9) ?_
              refine gj_l (pc2 := 165) (fun _ _ _ => lv_bipush (v := (7)) hx hb d_M_does_163 (by decide)) ?_
              refine gj_if (pc2 := 195) (pc3 := 168) (fun _ _ _ => lv_icmp_ne (tgt := 195) hx hb d_M_does_165 (by decide)) (fun h165 => ?_) (fun h165 => ?_)
              · refine gj_ld (i := 0) (pc2 := 196) rfl (fun _ _ _ h9 => lv_aload_n hx hb d_M_does_195 rfl h9) ?_
                refine gj_ld (i := 2) (pc2 := 197) rfl (fun _ _ _ h9 => lv_iload_n hx hb d_M_does_196 rfl h9) ?_
                refine gj_ld (i := 3) (pc2 := 198) rfl (fun _ _ _ h9 => lv_iload_n hx hb d_M_does_197 rfl h9) ?_
                refine gj_ld (i := 5) (pc2 := 200) rfl (fun _ _ _ h9 => lv_iload hx hb d_M_does_198 h9) ?_
                refine gj_ld (i := 6) (pc2 := 202) rfl (fun _ _ _ h9 => lv_iload hx hb d_M_does_200 h9) ?_
                rw [lo3_eq]
                refine bj_vv F k_M_work d_M_does_202 q_462 (mw_at (i := 0) (by omega)) rfl (ct_M_work (τ := dPl τ) (kdM τ (τ 0 3)) (lo3_lt (τ 1 i)) (dSv τ) (dNr τ) (fun _ => bN_n0.mp h105)) (rmo rfl) rfl rfl (Nat.le_of_ble_eq_true rfl) (Nat.zero_le _) (Nat.zero_le _) rfl (fun u9 e9 => ?_)
                subst e9
                have hD := doM_5 h10 h80 (fun _ => bN_n0.mp h105) h165
                rw [hpi] at hD
                refine gj_l (pc2 := 206) (fun _ _ _ => lv_iconst (v := 1) hx hb d_M_does_205 (by decide)) ?_
                exact gj_zret F d_M_does_206 (by first | rfl | exact bN_z _ | decide) (Nat.le_refl _) (Nat.le_refl _) ⟨by rw [hD]; first | done | rfl, by rw [hD]; first | done | rfl⟩
              · have hD := doM_4 h10 h165
                have hCo : dCo τ = τ 1 i &&& 15 := by unfold dCo; rw [hpi]
                rw [hCo] at hD
                refine gj_ld (i := 0) (pc2 := 169) rfl (fun _ _ _ h9 => lv_aload_n hx hb d_M_does_168 rfl h9) ?_
                refine gj_l (pc2 := 170) (fun _ _ _ => lv_dup hx hb d_M_does_169 rfl) ?_
                refine mj_gi F 3 rfl d_M_does_170 q_333 rfl ?_
                refine gj_ld (i := 0) (pc2 := 174) rfl (fun _ _ _ h9 => lv_aload_n hx hb d_M_does_173 rfl h9) ?_
                refine gj_ld (i := 7) (pc2 := 176) rfl (fun _ _ _ h9 => lv_iload hx hb d_M_does_174 h9) ?_
                refine bj_vi F k_M_holds d_M_does_176 q_458 (mw_at (i := 0) (by omega)) rfl (ct_M_holds (τ := dPl τ) hZ.dPl _) (rmo rfl) rfl rfl (Nat.le_of_ble_eq_true rfl) (Nat.zero_le _) (Nat.zero_le _) rfl (fun r9 u9 e9 => ?_)
                obtain ⟨rfl, rfl⟩ := e9
                refine gj_if (pc2 := 187) (pc3 := 182) (fun _ _ _ => lv_if_eq (tgt := 187) hx hb d_M_does_179 (by decide)) (fun h179 => ?_) (fun h179 => ?_)
                · rw [if_pos h179] at hD
                  refine gj_l (pc2 := 188) (fun _ _ _ => lv_iconst (v := 0) hx hb d_M_does_187 (by decide)) ?_
                  refine gj_l (pc2 := 189) (fun _ _ _ => lv_iadd hx hb d_M_does_188) ?_
                  refine mj_pi F 3 rfl d_M_does_189 q_333 rfl ?_
                  refine gj_l (pc2 := 205) (fun _ _ _ => lv_goto (tgt := 205) hx hb d_M_does_192 (by decide)) ?_
                  refine gj_l (pc2 := 206) (fun _ _ _ => lv_iconst (v := 1) hx hb d_M_does_205 (by decide)) ?_
                  exact gj_zret F d_M_does_206 (by first | rfl | exact bN_z _ | decide) (Nat.le_refl _) (Nat.le_refl _) ⟨by rw [hD]; first | done | rfl, by rw [hD]; first | done | rfl⟩
                · rw [if_neg h179] at hD
                  refine gj_ld (i := 6) (pc2 := 184) rfl (fun _ _ _ h9 => lv_iload hx hb d_M_does_182 h9) ?_
                  refine gj_l (pc2 := 188) (fun _ _ _ => lv_goto (tgt := 188) hx hb d_M_does_184 (by decide)) ?_
                  refine gj_l (pc2 := 189) (fun _ _ _ => lv_iadd hx hb d_M_does_188) ?_
                  refine mj_pi F 3 rfl d_M_does_189 q_333 rfl ?_
                  refine gj_l (pc2 := 205) (fun _ _ _ => lv_goto (tgt := 205) hx hb d_M_does_192 (by decide)) ?_
                  refine gj_l (pc2 := 206) (fun _ _ _ => lv_iconst (v := 1) hx hb d_M_does_205 (by decide)) ?_
                  exact gj_zret F d_M_does_206 (by first | rfl | exact bN_z _ | decide) (Nat.le_refl _) (Nat.le_refl _) ⟨by rw [hD]; first | done | rfl, by rw [hD]; first | done | rfl⟩
          · have hD := doM_3 h10 h80 (Or.inl h92) (bN_0.mp h105)
            refine gj_ld (i := 0) (pc2 := 109) rfl (fun _ _ _ h9 => lv_aload_n hx hb d_M_does_108 rfl h9) ?_
            refine gj_l (pc2 := 110) (fun _ _ _ => lv_iconst (v := 1) hx hb d_M_does_109 (by decide)) ?_
            refine bj_vv F k_M_fault d_M_does_110 q_454 (mw_at (i := 0) (by omega)) rfl (ct_M_fault _) (rmo rfl) rfl rfl (Nat.le_of_ble_eq_true rfl) (Nat.zero_le _) (Nat.zero_le _) rfl (fun u9 e9 => ?_)
            subst e9
            refine gj_l (pc2 := 114) (fun _ _ _ => lv_iconst (v := 0) hx hb d_M_does_113 (by decide)) ?_
            exact gj_zret F d_M_does_114 (by first | rfl | exact bN_z _ | decide) (Nat.le_refl _) (Nat.le_refl _) ⟨by rw [hD]; first | done | rfl, by rw [hD]; first | done | rfl⟩
        · refine gj_ld (i := 2) (pc2 := 96) rfl (fun _ _ _ h9 => lv_iload_n hx hb d_M_does_95 rfl h9) ?_
          refine gj_l (pc2 := 97) (fun _ _ _ => lv_iconst (v := 5) hx hb d_M_does_96 (by decide)) ?_
          refine gj_if (pc2 := 115) (pc3 := 100) (fun _ _ _ => lv_icmp_ne (tgt := 115) hx hb d_M_does_97 (by decide)) (fun h97 => ?_) (fun h97 => ?_)
          · refine gj_ld (i := 4) (pc2 := 117) rfl (fun _ _ _ h9 => lv_iload hx hb d_M_does_115 h9) ?_
            refine gj_l (pc2 := 119) (fun _ _ _ => lv_bipush (v := (127)) hx hb d_M_does_117 (by decide)) ?_
            refine gj_if (pc2 := 131) (pc3 := 122) (fun _ _ _ => lv_icmp_le (tgt := 131) hx hb d_M_does_119 (by decide)) (fun h119 => ?_) (fun h119 => ?_)
            · refine gj_ld (i := 4) (pc2 := 133) rfl (fun _ _ _ h9 => lv_iload hx hb d_M_does_131 h9) ?_
              refine gj_eq (st3 := [.int (dNr τ)]) rfl rfl (by unfold dNr; rw [if_pos h119]) ?_
              refine gj_st (i := 6) (pc2 := 135) (Nat.le_of_ble_eq_true rfl) rfl (fun _ _ _ _ _ h9 l9 => lv_istore hx hb d_M_does_133 h9 (Nat.le_of_ble_eq_true rfl) l9) ?_
              refine gj_ld (i := 0) (pc2 := 136) rfl (fun _ _ _ h9 => lv_aload_n hx hb d_M_does_135 rfl h9) ?_
              refine mj_gr F 1 rfl d_M_does_136 q_331 rfl ?_
              refine gj_ld (i := 0) (pc2 := 140) rfl (fun _ _ _ h9 => lv_aload_n hx hb d_M_does_139 rfl h9) ?_
              refine mj_gi F 3 rfl d_M_does_140 q_333 rfl ?_
              refine mj_ld F 1 1024 i (by omega) rfl (by decide) ei hi d_M_does_143 rfl ?_
              refine gj_l (pc2 := 146) (fun _ _ _ => lv_bipush (v := (15)) hx hb d_M_does_144 (by decide)) ?_
              refine gj_l (pc2 := 147) (fun _ _ _ => lv_iand hx hb d_M_does_146) ?_
              refine gj_st (i := 7) (pc2 := 149) (Nat.le_of_ble_eq_true rfl) rfl (fun _ _ _ _ _ h9 l9 => lv_istore hx hb d_M_does_147 h9 (Nat.le_of_ble_eq_true rfl) l9) ?_
              refine gj_ld (i := 0) (pc2 := 150) rfl (fun _ _ _ h9 => lv_aload_n hx hb d_M_does_149 rfl h9) ?_
              refine gj_l (pc2 := 151) (fun _ _ _ => lv_dup hx hb d_M_does_150 rfl) ?_
              refine mj_gi F 3 rfl d_M_does_151 q_333 rfl ?_
              refine gj_ld (i := 2) (pc2 := 155) rfl (fun _ _ _ h9 => lv_iload_n hx hb d_M_does_154 rfl h9) ?_
              refine bj_s F k_M_sizeOf d_M_does_155 q_447 (ct_M_sizeOf _) (rmo rfl) rfl rfl (Nat.le_of_ble_eq_true rfl) (Nat.zero_le _) (Nat.zero_le _) rfl (fun r9 e9 => ?_)
              subst e9
              refine gj_l (pc2 := 159) (fun _ _ _ => lv_iadd hx hb d_M_does_158) ?_
              refine mj_pi F 3 rfl d_M_does_159 q_333 rfl ?_
              refine gj_ld (i := 2) (pc2 := 163) rfl (fun _ _ _ h9 => lv_iload_n hx hb d_M_does_162 rfl h9) ?_
              refine gj_l (pc2 := 165) (fun _ _ _ => lv_bipush (v := (7)) hx hb d_M_does_163 (by decide)) ?_
              refine gj_if (pc2 := 195) (pc3 := 168) (fun _ _ _ => lv_icmp_ne (tgt := 195) hx hb d_M_does_165 (by decide)) (fun h165 => ?_) (fun h165 => ?_)
              · refine gj_ld (i := 0) (pc2 := 196) rfl (fun _ _ _ h9 => lv_aload_n hx hb d_M_does_195 rfl h9) ?_
                refine gj_ld (i := 2) (pc2 := 197) rfl (fun _ _ _ h9 => lv_iload_n hx hb d_M_does_196 rfl h9) ?_
                refine gj_ld (i := 3) (pc2 := 198) rfl (fun _ _ _ h9 => lv_iload_n hx hb d_M_does_197 rfl h9) ?_
                refine gj_ld (i := 5) (pc2 := 200) rfl (fun _ _ _ h9 => lv_iload hx hb d_M_does_198 h9) ?_
                refine gj_ld (i := 6) (pc2 := 202) rfl (fun _ _ _ h9 => lv_iload hx hb d_M_does_200 h9) ?_
                rw [lo3_eq]
                refine bj_vv F k_M_work d_M_does_202 q_462 (mw_at (i := 0) (by omega)) rfl (ct_M_work (τ := dPl τ) (kdM τ (τ 0 3)) (lo3_lt (τ 1 i)) (dSv τ) (dNr τ) (fun h9 => by rcases h9 with h9 | h9 <;> first | exact absurd h9 h92 | exact absurd h9 h97)) (rmo rfl) rfl rfl (Nat.le_of_ble_eq_true rfl) (Nat.zero_le _) (Nat.zero_le _) rfl (fun u9 e9 => ?_)
                subst e9
                have hD := doM_5 h10 h80 (fun h9 => by rcases h9 with h9 | h9 <;> first | exact absurd h9 h92 | exact absurd h9 h97) h165
                rw [hpi] at hD
                refine gj_l (pc2 := 206) (fun _ _ _ => lv_iconst (v := 1) hx hb d_M_does_205 (by decide)) ?_
                exact gj_zret F d_M_does_206 (by first | rfl | exact bN_z _ | decide) (Nat.le_refl _) (Nat.le_refl _) ⟨by rw [hD]; first | done | rfl, by rw [hD]; first | done | rfl⟩
              · have hD := doM_4 h10 h165
                have hCo : dCo τ = τ 1 i &&& 15 := by unfold dCo; rw [hpi]
                rw [hCo] at hD
                refine gj_ld (i := 0) (pc2 := 169) rfl (fun _ _ _ h9 => lv_aload_n hx hb d_M_does_168 rfl h9) ?_
                refine gj_l (pc2 := 170) (fun _ _ _ => lv_dup hx hb d_M_does_169 rfl) ?_
                refine mj_gi F 3 rfl d_M_does_170 q_333 rfl ?_
                refine gj_ld (i := 0) (pc2 := 174) rfl (fun _ _ _ h9 => lv_aload_n hx hb d_M_does_173 rfl h9) ?_
                refine gj_ld (i := 7) (pc2 := 176) rfl (fun _ _ _ h9 => lv_iload hx hb d_M_does_174 h9) ?_
                refine bj_vi F k_M_holds d_M_does_176 q_458 (mw_at (i := 0) (by omega)) rfl (ct_M_holds (τ := dPl τ) hZ.dPl _) (rmo rfl) rfl rfl (Nat.le_of_ble_eq_true rfl) (Nat.zero_le _) (Nat.zero_le _) rfl (fun r9 u9 e9 => ?_)
                obtain ⟨rfl, rfl⟩ := e9
                refine gj_if (pc2 := 187) (pc3 := 182) (fun _ _ _ => lv_if_eq (tgt := 187) hx hb d_M_does_179 (by decide)) (fun h179 => ?_) (fun h179 => ?_)
                · rw [if_pos h179] at hD
                  refine gj_l (pc2 := 188) (fun _ _ _ => lv_iconst (v := 0) hx hb d_M_does_187 (by decide)) ?_
                  refine gj_l (pc2 := 189) (fun _ _ _ => lv_iadd hx hb d_M_does_188) ?_
                  refine mj_pi F 3 rfl d_M_does_189 q_333 rfl ?_
                  refine gj_l (pc2 := 205) (fun _ _ _ => lv_goto (tgt := 205) hx hb d_M_does_192 (by decide)) ?_
                  refine gj_l (pc2 := 206) (fun _ _ _ => lv_iconst (v := 1) hx hb d_M_does_205 (by decide)) ?_
                  exact gj_zret F d_M_does_206 (by first | rfl | exact bN_z _ | decide) (Nat.le_refl _) (Nat.le_refl _) ⟨by rw [hD]; first | done | rfl, by rw [hD]; first | done | rfl⟩
                · rw [if_neg h179] at hD
                  refine gj_ld (i := 6) (pc2 := 184) rfl (fun _ _ _ h9 => lv_iload hx hb d_M_does_182 h9) ?_
                  refine gj_l (pc2 := 188) (fun _ _ _ => lv_goto (tgt := 188) hx hb d_M_does_184 (by decide)) ?_
                  refine gj_l (pc2 := 189) (fun _ _ _ => lv_iadd hx hb d_M_does_188) ?_
                  refine mj_pi F 3 rfl d_M_does_189 q_333 rfl ?_
                  refine gj_l (pc2 := 205) (fun _ _ _ => lv_goto (tgt := 205) hx hb d_M_does_192 (by decide)) ?_
                  refine gj_l (pc2 := 206) (fun _ _ _ => lv_iconst (v := 1) hx hb d_M_does_205 (by decide)) ?_
                  exact gj_zret F d_M_does_206 (by first | rfl | exact bN_z _ | decide) (Nat.le_refl _) (Nat.le_refl _) ⟨by rw [hD]; first | done | rfl, by rw [hD]; first | done | rfl⟩
            · refine gj_ld (i := 4) (pc2 := 124) rfl (fun _ _ _ h9 => lv_iload hx hb d_M_does_122 h9) ?_
              refine gj_l (pc2 := 127) (fun _ _ _ => lv_sipush (v := (256)) hx hb d_M_does_124 (by decide)) ?_
              refine gj_l (pc2 := 128) (fun _ _ _ => lv_isub hx hb d_M_does_127) ?_
              refine gj_l (pc2 := 133) (fun _ _ _ => lv_goto (tgt := 133) hx hb d_M_does_128 (by decide)) ?_
              refine gj_eq (st3 := [.int (dNr τ)]) rfl rfl (by unfold dNr; rw [if_neg h119]) ?_
              refine gj_st (i := 6) (pc2 := 135) (Nat.le_of_ble_eq_true rfl) rfl (fun _ _ _ _ _ h9 l9 => lv_istore hx hb d_M_does_133 h9 (Nat.le_of_ble_eq_true rfl) l9) ?_
              refine gj_ld (i := 0) (pc2 := 136) rfl (fun _ _ _ h9 => lv_aload_n hx hb d_M_does_135 rfl h9) ?_
              refine mj_gr F 1 rfl d_M_does_136 q_331 rfl ?_
              refine gj_ld (i := 0) (pc2 := 140) rfl (fun _ _ _ h9 => lv_aload_n hx hb d_M_does_139 rfl h9) ?_
              refine mj_gi F 3 rfl d_M_does_140 q_333 rfl ?_
              refine mj_ld F 1 1024 i (by omega) rfl (by decide) ei hi d_M_does_143 rfl ?_
              refine gj_l (pc2 := 146) (fun _ _ _ => lv_bipush (v := (15)) hx hb d_M_does_144 (by decide)) ?_
              refine gj_l (pc2 := 147) (fun _ _ _ => lv_iand hx hb d_M_does_146) ?_
              refine gj_st (i := 7) (pc2 := 149) (Nat.le_of_ble_eq_true rfl) rfl (fun _ _ _ _ _ h9 l9 => lv_istore hx hb d_M_does_147 h9 (Nat.le_of_ble_eq_true rfl) l9) ?_
              refine gj_ld (i := 0) (pc2 := 150) rfl (fun _ _ _ h9 => lv_aload_n hx hb d_M_does_149 rfl h9) ?_
              refine gj_l (pc2 := 151) (fun _ _ _ => lv_dup hx hb d_M_does_150 rfl) ?_
              refine mj_gi F 3 rfl d_M_does_151 q_333 rfl ?_
              refine gj_ld (i := 2) (pc2 := 155) rfl (fun _ _ _ h9 => lv_iload_n hx hb d_M_does_154 rfl h9) ?_
              refine bj_s F k_M_sizeOf d_M_does_155 q_447 (ct_M_sizeOf _) (rmo rfl) rfl rfl (Nat.le_of_ble_eq_true rfl) (Nat.zero_le _) (Nat.zero_le _) rfl (fun r9 e9 => ?_)
              subst e9
              refine gj_l (pc2 := 159) (fun _ _ _ => lv_iadd hx hb d_M_does_158) ?_
              refine mj_pi F 3 rfl d_M_does_159 q_333 rfl ?_
              refine gj_ld (i := 2) (pc2 := 163) rfl (fun _ _ _ h9 => lv_iload_n hx hb d_M_does_162 rfl h9) ?_
              refine gj_l (pc2 := 165) (fun _ _ _ => lv_bipush (v := (7)) hx hb d_M_does_163 (by decide)) ?_
              refine gj_if (pc2 := 195) (pc3 := 168) (fun _ _ _ => lv_icmp_ne (tgt := 195) hx hb d_M_does_165 (by decide)) (fun h165 => ?_) (fun h165 => ?_)
              · refine gj_ld (i := 0) (pc2 := 196) rfl (fun _ _ _ h9 => lv_aload_n hx hb d_M_does_195 rfl h9) ?_
                refine gj_ld (i := 2) (pc2 := 197) rfl (fun _ _ _ h9 => lv_iload_n hx hb d_M_does_196 rfl h9) ?_
                refine gj_ld (i := 3) (pc2 := 198) rfl (fun _ _ _ h9 => lv_iload_n hx hb d_M_does_197 rfl h9) ?_
                refine gj_ld (i := 5) (pc2 := 200) rfl (fun _ _ _ h9 => lv_iload hx hb d_M_does_198 h9) ?_
                refine gj_ld (i := 6) (pc2 := 202) rfl (fun _ _ _ h9 => lv_iload hx hb d_M_does_200 h9) ?_
                rw [lo3_eq]
                refine bj_vv F k_M_work d_M_does_202 q_462 (mw_at (i := 0) (by omega)) rfl (ct_M_work (τ := dPl τ) (kdM τ (τ 0 3)) (lo3_lt (τ 1 i)) (dSv τ) (dNr τ) (fun h9 => by rcases h9 with h9 | h9 <;> first | exact absurd h9 h92 | exact absurd h9 h97)) (rmo rfl) rfl rfl (Nat.le_of_ble_eq_true rfl) (Nat.zero_le _) (Nat.zero_le _) rfl (fun u9 e9 => ?_)
                subst e9
                have hD := doM_5 h10 h80 (fun h9 => by rcases h9 with h9 | h9 <;> first | exact absurd h9 h92 | exact absurd h9 h97) h165
                rw [hpi] at hD
                refine gj_l (pc2 := 206) (fun _ _ _ => lv_iconst (v := 1) hx hb d_M_does_205 (by decide)) ?_
                exact gj_zret F d_M_does_206 (by first | rfl | exact bN_z _ | decide) (Nat.le_refl _) (Nat.le_refl _) ⟨by rw [hD]; first | done | rfl, by rw [hD]; first | done | rfl⟩
              · have hD := doM_4 h10 h165
                have hCo : dCo τ = τ 1 i &&& 15 := by unfold dCo; rw [hpi]
                rw [hCo] at hD
                refine gj_ld (i := 0) (pc2 := 169) rfl (fun _ _ _ h9 => lv_aload_n hx hb d_M_does_168 rfl h9) ?_
                refine gj_l (pc2 := 170) (fun _ _ _ => lv_dup hx hb d_M_does_169 rfl) ?_
                refine mj_gi F 3 rfl d_M_does_170 q_333 rfl ?_
                refine gj_ld (i := 0) (pc2 := 174) rfl (fun _ _ _ h9 => lv_aload_n hx hb d_M_does_173 rfl h9) ?_
                refine gj_ld (i := 7) (pc2 := 176) rfl (fun _ _ _ h9 => lv_iload hx hb d_M_does_174 h9) ?_
                refine bj_vi F k_M_holds d_M_does_176 q_458 (mw_at (i := 0) (by omega)) rfl (ct_M_holds (τ := dPl τ) hZ.dPl _) (rmo rfl) rfl rfl (Nat.le_of_ble_eq_true rfl) (Nat.zero_le _) (Nat.zero_le _) rfl (fun r9 u9 e9 => ?_)
                obtain ⟨rfl, rfl⟩ := e9
                refine gj_if (pc2 := 187) (pc3 := 182) (fun _ _ _ => lv_if_eq (tgt := 187) hx hb d_M_does_179 (by decide)) (fun h179 => ?_) (fun h179 => ?_)
                · rw [if_pos h179] at hD
                  refine gj_l (pc2 := 188) (fun _ _ _ => lv_iconst (v := 0) hx hb d_M_does_187 (by decide)) ?_
                  refine gj_l (pc2 := 189) (fun _ _ _ => lv_iadd hx hb d_M_does_188) ?_
                  refine mj_pi F 3 rfl d_M_does_189 q_333 rfl ?_
                  refine gj_l (pc2 := 205) (fun _ _ _ => lv_goto (tgt := 205) hx hb d_M_does_192 (by decide)) ?_
                  refine gj_l (pc2 := 206) (fun _ _ _ => lv_iconst (v := 1) hx hb d_M_does_205 (by decide)) ?_
                  exact gj_zret F d_M_does_206 (by first | rfl | exact bN_z _ | decide) (Nat.le_refl _) (Nat.le_refl _) ⟨by rw [hD]; first | done | rfl, by rw [hD]; first | done | rfl⟩
                · rw [if_neg h179] at hD
                  refine gj_ld (i := 6) (pc2 := 184) rfl (fun _ _ _ h9 => lv_iload hx hb d_M_does_182 h9) ?_
                  refine gj_l (pc2 := 188) (fun _ _ _ => lv_goto (tgt := 188) hx hb d_M_does_184 (by decide)) ?_
                  refine gj_l (pc2 := 189) (fun _ _ _ => lv_iadd hx hb d_M_does_188) ?_
                  refine mj_pi F 3 rfl d_M_does_189 q_333 rfl ?_
                  refine gj_l (pc2 := 205) (fun _ _ _ => lv_goto (tgt := 205) hx hb d_M_does_192 (by decide)) ?_
                  refine gj_l (pc2 := 206) (fun _ _ _ => lv_iconst (v := 1) hx hb d_M_does_205 (by decide)) ?_
                  exact gj_zret F d_M_does_206 (by first | rfl | exact bN_z _ | decide) (Nat.le_refl _) (Nat.le_refl _) ⟨by rw [hD]; first | done | rfl, by rw [hD]; first | done | rfl⟩
          · refine gj_ld (i := 5) (pc2 := 102) rfl (fun _ _ _ h9 => lv_iload hx hb d_M_does_100 h9) ?_
            refine bj_s F k_M_isThere d_M_does_102 q_397 (ct_M_isThere _) (rmo rfl) rfl rfl (Nat.le_of_ble_eq_true rfl) (Nat.zero_le _) (Nat.zero_le _) rfl (fun r9 e9 => ?_)
            subst e9
            refine gj_if (pc2 := 115) (pc3 := 108) (fun _ _ _ => lv_if_ne (tgt := 115) hx hb d_M_does_105 (by decide)) (fun h105 => ?_) (fun h105 => ?_)
            · refine gj_ld (i := 4) (pc2 := 117) rfl (fun _ _ _ h9 => lv_iload hx hb d_M_does_115 h9) ?_
              refine gj_l (pc2 := 119) (fun _ _ _ => lv_bipush (v := (127)) hx hb d_M_does_117 (by decide)) ?_
              refine gj_if (pc2 := 131) (pc3 := 122) (fun _ _ _ => lv_icmp_le (tgt := 131) hx hb d_M_does_119 (by decide)) (fun h119 => ?_) (fun h119 => ?_)
              · refine gj_ld (i := 4) (pc2 := 133) rfl (fun _ _ _ h9 => lv_iload hx hb d_M_does_131 h9) ?_
                refine gj_eq (st3 := [.int (dNr τ)]) rfl rfl (by unfold dNr; rw [if_pos h119]) ?_
                refine gj_st (i := 6) (pc2 := 135) (Nat.le_of_ble_eq_true rfl) rfl (fun _ _ _ _ _ h9 l9 => lv_istore hx hb d_M_does_133 h9 (Nat.le_of_ble_eq_true rfl) l9) ?_
                refine gj_ld (i := 0) (pc2 := 136) rfl (fun _ _ _ h9 => lv_aload_n hx hb d_M_does_135 rfl h9) ?_
                refine mj_gr F 1 rfl d_M_does_136 q_331 rfl ?_
                refine gj_ld (i := 0) (pc2 := 140) rfl (fun _ _ _ h9 => lv_aload_n hx hb d_M_does_139 rfl h9) ?_
                refine mj_gi F 3 rfl d_M_does_140 q_333 rfl ?_
                refine mj_ld F 1 1024 i (by omega) rfl (by decide) ei hi d_M_does_143 rfl ?_
                refine gj_l (pc2 := 146) (fun _ _ _ => lv_bipush (v := (15)) hx hb d_M_does_144 (by decide)) ?_
                refine gj_l (pc2 := 147) (fun _ _ _ => lv_iand hx hb d_M_does_146) ?_
                refine gj_st (i := 7) (pc2 := 149) (Nat.le_of_ble_eq_true rfl) rfl (fun _ _ _ _ _ h9 l9 => lv_istore hx hb d_M_does_147 h9 (Nat.le_of_ble_eq_true rfl) l9) ?_
                refine gj_ld (i := 0) (pc2 := 150) rfl (fun _ _ _ h9 => lv_aload_n hx hb d_M_does_149 rfl h9) ?_
                refine gj_l (pc2 := 151) (fun _ _ _ => lv_dup hx hb d_M_does_150 rfl) ?_
                refine mj_gi F 3 rfl d_M_does_151 q_333 rfl ?_
                refine gj_ld (i := 2) (pc2 := 155) rfl (fun _ _ _ h9 => lv_iload_n hx hb d_M_does_154 rfl h9) ?_
                refine bj_s F k_M_sizeOf d_M_does_155 q_447 (ct_M_sizeOf _) (rmo rfl) rfl rfl (Nat.le_of_ble_eq_true rfl) (Nat.zero_le _) (Nat.zero_le _) rfl (fun r9 e9 => ?_)
                subst e9
                refine gj_l (pc2 := 159) (fun _ _ _ => lv_iadd hx hb d_M_does_158) ?_
                refine mj_pi F 3 rfl d_M_does_159 q_333 rfl ?_
                refine gj_ld (i := 2) (pc2 := 163) rfl (fun _ _ _ h9 => lv_iload_n hx hb d_M_does_162 rfl h9) ?_
                refine gj_l (pc2 := 165) (fun _ _ _ => lv_bipush (v := (7)) hx hb d_M_does_163 (by decide)) ?_
                refine gj_if (pc2 := 195) (pc3 := 168) (fun _ _ _ => lv_icmp_ne (tgt := 195) hx hb d_M_does_165 (by decide)) (fun h165 => ?_) (fun h165 => ?_)
                · refine gj_ld (i := 0) (pc2 := 196) rfl (fun _ _ _ h9 => lv_aload_n hx hb d_M_does_195 rfl h9) ?_
                  refine gj_ld (i := 2) (pc2 := 197) rfl (fun _ _ _ h9 => lv_iload_n hx hb d_M_does_196 rfl h9) ?_
                  refine gj_ld (i := 3) (pc2 := 198) rfl (fun _ _ _ h9 => lv_iload_n hx hb d_M_does_197 rfl h9) ?_
                  refine gj_ld (i := 5) (pc2 := 200) rfl (fun _ _ _ h9 => lv_iload hx hb d_M_does_198 h9) ?_
                  refine gj_ld (i := 6) (pc2 := 202) rfl (fun _ _ _ h9 => lv_iload hx hb d_M_does_200 h9) ?_
                  rw [lo3_eq]
                  refine bj_vv F k_M_work d_M_does_202 q_462 (mw_at (i := 0) (by omega)) rfl (ct_M_work (τ := dPl τ) (kdM τ (τ 0 3)) (lo3_lt (τ 1 i)) (dSv τ) (dNr τ) (fun _ => bN_n0.mp h105)) (rmo rfl) rfl rfl (Nat.le_of_ble_eq_true rfl) (Nat.zero_le _) (Nat.zero_le _) rfl (fun u9 e9 => ?_)
                  subst e9
                  have hD := doM_5 h10 h80 (fun _ => bN_n0.mp h105) h165
                  rw [hpi] at hD
                  refine gj_l (pc2 := 206) (fun _ _ _ => lv_iconst (v := 1) hx hb d_M_does_205 (by decide)) ?_
                  exact gj_zret F d_M_does_206 (by first | rfl | exact bN_z _ | decide) (Nat.le_refl _) (Nat.le_refl _) ⟨by rw [hD]; first | done | rfl, by rw [hD]; first | done | rfl⟩
                · have hD := doM_4 h10 h165
                  have hCo : dCo τ = τ 1 i &&& 15 := by unfold dCo; rw [hpi]
                  rw [hCo] at hD
                  refine gj_ld (i := 0) (pc2 := 169) rfl (fun _ _ _ h9 => lv_aload_n hx hb d_M_does_168 rfl h9) ?_
                  refine gj_l (pc2 := 170) (fun _ _ _ => lv_dup hx hb d_M_does_169 rfl) ?_
                  refine mj_gi F 3 rfl d_M_does_170 q_333 rfl ?_
                  refine gj_ld (i := 0) (pc2 := 174) rfl (fun _ _ _ h9 => lv_aload_n hx hb d_M_does_173 rfl h9) ?_
                  refine gj_ld (i := 7) (pc2 := 176) rfl (fun _ _ _ h9 => lv_iload hx hb d_M_does_174 h9) ?_
                  refine bj_vi F k_M_holds d_M_does_176 q_458 (mw_at (i := 0) (by omega)) rfl (ct_M_holds (τ := dPl τ) hZ.dPl _) (rmo rfl) rfl rfl (Nat.le_of_ble_eq_true rfl) (Nat.zero_le _) (Nat.zero_le _) rfl (fun r9 u9 e9 => ?_)
                  obtain ⟨rfl, rfl⟩ := e9
                  refine gj_if (pc2 := 187) (pc3 := 182) (fun _ _ _ => lv_if_eq (tgt := 187) hx hb d_M_does_179 (by decide)) (fun h179 => ?_) (fun h179 => ?_)
                  · rw [if_pos h179] at hD
                    refine gj_l (pc2 := 188) (fun _ _ _ => lv_iconst (v := 0) hx hb d_M_does_187 (by decide)) ?_
                    refine gj_l (pc2 := 189) (fun _ _ _ => lv_iadd hx hb d_M_does_188) ?_
                    refine mj_pi F 3 rfl d_M_does_189 q_333 rfl ?_
                    refine gj_l (pc2 := 205) (fun _ _ _ => lv_goto (tgt := 205) hx hb d_M_does_192 (by decide)) ?_
                    refine gj_l (pc2 := 206) (fun _ _ _ => lv_iconst (v := 1) hx hb d_M_does_205 (by decide)) ?_
                    exact gj_zret F d_M_does_206 (by first | rfl | exact bN_z _ | decide) (Nat.le_refl _) (Nat.le_refl _) ⟨by rw [hD]; first | done | rfl, by rw [hD]; first | done | rfl⟩
                  · rw [if_neg h179] at hD
                    refine gj_ld (i := 6) (pc2 := 184) rfl (fun _ _ _ h9 => lv_iload hx hb d_M_does_182 h9) ?_
                    refine gj_l (pc2 := 188) (fun _ _ _ => lv_goto (tgt := 188) hx hb d_M_does_184 (by decide)) ?_
                    refine gj_l (pc2 := 189) (fun _ _ _ => lv_iadd hx hb d_M_does_188) ?_
                    refine mj_pi F 3 rfl d_M_does_189 q_333 rfl ?_
                    refine gj_l (pc2 := 205) (fun _ _ _ => lv_goto (tgt := 205) hx hb d_M_does_192 (by decide)) ?_
                    refine gj_l (pc2 := 206) (fun _ _ _ => lv_iconst (v := 1) hx hb d_M_does_205 (by decide)) ?_
                    exact gj_zret F d_M_does_206 (by first | rfl | exact bN_z _ | decide) (Nat.le_refl _) (Nat.le_refl _) ⟨by rw [hD]; first | done | rfl, by rw [hD]; first | done | rfl⟩
              · refine gj_ld (i := 4) (pc2 := 124) rfl (fun _ _ _ h9 => lv_iload hx hb d_M_does_122 h9) ?_
                refine gj_l (pc2 := 127) (fun _ _ _ => lv_sipush (v := (256)) hx hb d_M_does_124 (by decide)) ?_
                refine gj_l (pc2 := 128) (fun _ _ _ => lv_isub hx hb d_M_does_127) ?_
                refine gj_l (pc2 := 133) (fun _ _ _ => lv_goto (tgt := 133) hx hb d_M_does_128 (by decide)) ?_
                refine gj_eq (st3 := [.int (dNr τ)]) rfl rfl (by unfold dNr; rw [if_neg h119]) ?_
                refine gj_st (i := 6) (pc2 := 135) (Nat.le_of_ble_eq_true rfl) rfl (fun _ _ _ _ _ h9 l9 => lv_istore hx hb d_M_does_133 h9 (Nat.le_of_ble_eq_true rfl) l9) ?_
                refine gj_ld (i := 0) (pc2 := 136) rfl (fun _ _ _ h9 => lv_aload_n hx hb d_M_does_135 rfl h9) ?_
                refine mj_gr F 1 rfl d_M_does_136 q_331 rfl ?_
                refine gj_ld (i := 0) (pc2 := 140) rfl (fun _ _ _ h9 => lv_aload_n hx hb d_M_does_139 rfl h9) ?_
                refine mj_gi F 3 rfl d_M_does_140 q_333 rfl ?_
                refine mj_ld F 1 1024 i (by omega) rfl (by decide) ei hi d_M_does_143 rfl ?_
                refine gj_l (pc2 := 146) (fun _ _ _ => lv_bipush (v := (15)) hx hb d_M_does_144 (by decide)) ?_
                refine gj_l (pc2 := 147) (fun _ _ _ => lv_iand hx hb d_M_does_146) ?_
                refine gj_st (i := 7) (pc2 := 149) (Nat.le_of_ble_eq_true rfl) rfl (fun _ _ _ _ _ h9 l9 => lv_istore hx hb d_M_does_147 h9 (Nat.le_of_ble_eq_true rfl) l9) ?_
                refine gj_ld (i := 0) (pc2 := 150) rfl (fun _ _ _ h9 => lv_aload_n hx hb d_M_does_149 rfl h9) ?_
                refine gj_l (pc2 := 151) (fun _ _ _ => lv_dup hx hb d_M_does_150 rfl) ?_
                refine mj_gi F 3 rfl d_M_does_151 q_333 rfl ?_
                refine gj_ld (i := 2) (pc2 := 155) rfl (fun _ _ _ h9 => lv_iload_n hx hb d_M_does_154 rfl h9) ?_
                refine bj_s F k_M_sizeOf d_M_does_155 q_447 (ct_M_sizeOf _) (rmo rfl) rfl rfl (Nat.le_of_ble_eq_true rfl) (Nat.zero_le _) (Nat.zero_le _) rfl (fun r9 e9 => ?_)
                subst e9
                refine gj_l (pc2 := 159) (fun _ _ _ => lv_iadd hx hb d_M_does_158) ?_
                refine mj_pi F 3 rfl d_M_does_159 q_333 rfl ?_
                refine gj_ld (i := 2) (pc2 := 163) rfl (fun _ _ _ h9 => lv_iload_n hx hb d_M_does_162 rfl h9) ?_
                refine gj_l (pc2 := 165) (fun _ _ _ => lv_bipush (v := (7)) hx hb d_M_does_163 (by decide)) ?_
                refine gj_if (pc2 := 195) (pc3 := 168) (fun _ _ _ => lv_icmp_ne (tgt := 195) hx hb d_M_does_165 (by decide)) (fun h165 => ?_) (fun h165 => ?_)
                · refine gj_ld (i := 0) (pc2 := 196) rfl (fun _ _ _ h9 => lv_aload_n hx hb d_M_does_195 rfl h9) ?_
                  refine gj_ld (i := 2) (pc2 := 197) rfl (fun _ _ _ h9 => lv_iload_n hx hb d_M_does_196 rfl h9) ?_
                  refine gj_ld (i := 3) (pc2 := 198) rfl (fun _ _ _ h9 => lv_iload_n hx hb d_M_does_197 rfl h9) ?_
                  refine gj_ld (i := 5) (pc2 := 200) rfl (fun _ _ _ h9 => lv_iload hx hb d_M_does_198 h9) ?_
                  refine gj_ld (i := 6) (pc2 := 202) rfl (fun _ _ _ h9 => lv_iload hx hb d_M_does_200 h9) ?_
                  rw [lo3_eq]
                  refine bj_vv F k_M_work d_M_does_202 q_462 (mw_at (i := 0) (by omega)) rfl (ct_M_work (τ := dPl τ) (kdM τ (τ 0 3)) (lo3_lt (τ 1 i)) (dSv τ) (dNr τ) (fun _ => bN_n0.mp h105)) (rmo rfl) rfl rfl (Nat.le_of_ble_eq_true rfl) (Nat.zero_le _) (Nat.zero_le _) rfl (fun u9 e9 => ?_)
                  subst e9
                  have hD := doM_5 h10 h80 (fun _ => bN_n0.mp h105) h165
                  rw [hpi] at hD
                  refine gj_l (pc2 := 206) (fun _ _ _ => lv_iconst (v := 1) hx hb d_M_does_205 (by decide)) ?_
                  exact gj_zret F d_M_does_206 (by first | rfl | exact bN_z _ | decide) (Nat.le_refl _) (Nat.le_refl _) ⟨by rw [hD]; first | done | rfl, by rw [hD]; first | done | rfl⟩
                · have hD := doM_4 h10 h165
                  have hCo : dCo τ = τ 1 i &&& 15 := by unfold dCo; rw [hpi]
                  rw [hCo] at hD
                  refine gj_ld (i := 0) (pc2 := 169) rfl (fun _ _ _ h9 => lv_aload_n hx hb d_M_does_168 rfl h9) ?_
                  refine gj_l (pc2 := 170) (fun _ _ _ => lv_dup hx hb d_M_does_169 rfl) ?_
                  refine mj_gi F 3 rfl d_M_does_170 q_333 rfl ?_
                  refine gj_ld (i := 0) (pc2 := 174) rfl (fun _ _ _ h9 => lv_aload_n hx hb d_M_does_173 rfl h9) ?_
                  refine gj_ld (i := 7) (pc2 := 176) rfl (fun _ _ _ h9 => lv_iload hx hb d_M_does_174 h9) ?_
                  refine bj_vi F k_M_holds d_M_does_176 q_458 (mw_at (i := 0) (by omega)) rfl (ct_M_holds (τ := dPl τ) hZ.dPl _) (rmo rfl) rfl rfl (Nat.le_of_ble_eq_true rfl) (Nat.zero_le _) (Nat.zero_le _) rfl (fun r9 u9 e9 => ?_)
                  obtain ⟨rfl, rfl⟩ := e9
                  refine gj_if (pc2 := 187) (pc3 := 182) (fun _ _ _ => lv_if_eq (tgt := 187) hx hb d_M_does_179 (by decide)) (fun h179 => ?_) (fun h179 => ?_)
                  · rw [if_pos h179] at hD
                    refine gj_l (pc2 := 188) (fun _ _ _ => lv_iconst (v := 0) hx hb d_M_does_187 (by decide)) ?_
                    refine gj_l (pc2 := 189) (fun _ _ _ => lv_iadd hx hb d_M_does_188) ?_
                    refine mj_pi F 3 rfl d_M_does_189 q_333 rfl ?_
                    refine gj_l (pc2 := 205) (fun _ _ _ => lv_goto (tgt := 205) hx hb d_M_does_192 (by decide)) ?_
                    refine gj_l (pc2 := 206) (fun _ _ _ => lv_iconst (v := 1) hx hb d_M_does_205 (by decide)) ?_
                    exact gj_zret F d_M_does_206 (by first | rfl | exact bN_z _ | decide) (Nat.le_refl _) (Nat.le_refl _) ⟨by rw [hD]; first | done | rfl, by rw [hD]; first | done | rfl⟩
                  · rw [if_neg h179] at hD
                    refine gj_ld (i := 6) (pc2 := 184) rfl (fun _ _ _ h9 => lv_iload hx hb d_M_does_182 h9) ?_
                    refine gj_l (pc2 := 188) (fun _ _ _ => lv_goto (tgt := 188) hx hb d_M_does_184 (by decide)) ?_
                    refine gj_l (pc2 := 189) (fun _ _ _ => lv_iadd hx hb d_M_does_188) ?_
                    refine mj_pi F 3 rfl d_M_does_189 q_333 rfl ?_
                    refine gj_l (pc2 := 205) (fun _ _ _ => lv_goto (tgt := 205) hx hb d_M_does_192 (by decide)) ?_
                    refine gj_l (pc2 := 206) (fun _ _ _ => lv_iconst (v := 1) hx hb d_M_does_205 (by decide)) ?_
                    exact gj_zret F d_M_does_206 (by first | rfl | exact bN_z _ | decide) (Nat.le_refl _) (Nat.le_refl _) ⟨by rw [hD]; first | done | rfl, by rw [hD]; first | done | rfl⟩
            · have hD := doM_3 h10 h80 (Or.inr h97) (bN_0.mp h105)
              refine gj_ld (i := 0) (pc2 := 109) rfl (fun _ _ _ h9 => lv_aload_n hx hb d_M_does_108 rfl h9) ?_
              refine gj_l (pc2 := 110) (fun _ _ _ => lv_iconst (v := 1) hx hb d_M_does_109 (by decide)) ?_
              refine bj_vv F k_M_fault d_M_does_110 q_454 (mw_at (i := 0) (by omega)) rfl (ct_M_fault _) (rmo rfl) rfl rfl (Nat.le_of_ble_eq_true rfl) (Nat.zero_le _) (Nat.zero_le _) rfl (fun u9 e9 => ?_)
              subst e9
              refine gj_l (pc2 := 114) (fun _ _ _ => lv_iconst (v := 0) hx hb d_M_does_113 (by decide)) ?_
              exact gj_zret F d_M_does_114 (by first | rfl | exact bN_z _ | decide) (Nat.le_refl _) (Nat.le_refl _) ⟨by rw [hD]; first | done | rfl, by rw [hD]; first | done | rfl⟩
      · have hD := doM_2 h10 h80
        refine gj_ld (i := 0) (pc2 := 84) rfl (fun _ _ _ h9 => lv_aload_n hx hb d_M_does_83 rfl h9) ?_
        refine gj_l (pc2 := 85) (fun _ _ _ => lv_iconst (v := 1) hx hb d_M_does_84 (by decide)) ?_
        refine mj_pi F 4 rfl d_M_does_85 q_334 rfl ?_
        refine gj_l (pc2 := 89) (fun _ _ _ => lv_iconst (v := 0) hx hb d_M_does_88 (by decide)) ?_
        exact gj_zret F d_M_does_89 (by first | rfl | exact bN_z _ | decide) (Nat.le_refl _) (Nat.le_refl _) ⟨by rw [hD]; first | done | rfl, by rw [hD]; first | done | rfl⟩
    · have hp5 : inM (τ 0 3 + 1) = true := by rw [h47, add21] at hp4; exact hp4
      obtain ⟨i2, hi2, e2⟩ := inM_of hp5
      have hc2 : (τ 0 3 + 1).toNatClampNeg = i2 := by rw [e2]; exact nI_clamp (by omega)
      refine gj_ld (i := 0) (pc2 := 51) rfl (fun _ _ _ h9 => lv_aload_n hx hb d_M_does_50 rfl h9) ?_
      refine mj_gr F 1 rfl d_M_does_51 q_331 rfl ?_
      refine gj_ld (i := 0) (pc2 := 55) rfl (fun _ _ _ h9 => lv_aload_n hx hb d_M_does_54 rfl h9) ?_
      refine mj_gi F 3 rfl d_M_does_55 q_333 rfl ?_
      refine gj_l (pc2 := 59) (fun _ _ _ => lv_iconst (v := 1) hx hb d_M_does_58 (by decide)) ?_
      refine gj_l (pc2 := 60) (fun _ _ _ => lv_iadd hx hb d_M_does_59) ?_
      refine mj_ld F 1 1024 i2 (by omega) rfl (by decide) e2 hi2 d_M_does_60 rfl ?_
      refine gj_l (pc2 := 65) (fun _ _ _ => lv_goto (tgt := 65) hx hb d_M_does_61 (by decide)) ?_
      refine gj_eq (st3 := [.int (dN τ)]) rfl rfl (by unfold dN; rw [if_pos h47, hc2]) ?_
      refine gj_st (i := 4) (pc2 := 67) (Nat.le_of_ble_eq_true rfl) rfl (fun _ _ _ _ _ h9 l9 => lv_istore hx hb d_M_does_65 h9 (Nat.le_of_ble_eq_true rfl) l9) ?_
      refine gj_ld (i := 0) (pc2 := 68) rfl (fun _ _ _ h9 => lv_aload_n hx hb d_M_does_67 rfl h9) ?_
      refine mj_gr F 2 rfl d_M_does_68 q_332 rfl ?_
      refine gj_ld (i := 4) (pc2 := 73) rfl (fun _ _ _ h9 => lv_iload hx hb d_M_does_71 h9) ?_
      refine gj_l (pc2 := 75) (fun _ _ _ => lv_bipush (v := (7)) hx hb d_M_does_73 (by decide)) ?_
      refine gj_l (pc2 := 76) (fun _ _ _ => lv_iand hx hb d_M_does_75) ?_
      refine mj_ld F 2 8 (lo3 (dN τ)) (by omega) rfl (by decide) (lo3_eq _) (lo3_lt _) d_M_does_76 rfl ?_
      refine gj_st (i := 5) (pc2 := 79) (Nat.le_of_ble_eq_true rfl) rfl (fun _ _ _ _ _ h9 l9 => lv_istore hx hb d_M_does_77 h9 (Nat.le_of_ble_eq_true rfl) l9) ?_
      refine gj_ld (i := 2) (pc2 := 80) rfl (fun _ _ _ h9 => lv_iload_n hx hb d_M_does_79 rfl h9) ?_
      refine gj_if (pc2 := 90) (pc3 := 83) (fun _ _ _ => lv_if_ne (tgt := 90) hx hb d_M_does_80 (by decide)) (fun h80 => ?_) (fun h80 => ?_)
      · refine gj_ld (i := 2) (pc2 := 91) rfl (fun _ _ _ h9 => lv_iload_n hx hb d_M_does_90 rfl h9) ?_
        refine gj_l (pc2 := 92) (fun _ _ _ => lv_iconst (v := 4) hx hb d_M_does_91 (by decide)) ?_
        refine gj_if (pc2 := 100) (pc3 := 95) (fun _ _ _ => lv_icmp_eq (tgt := 100) hx hb d_M_does_92 (by decide)) (fun h92 => ?_) (fun h92 => ?_)
        · refine gj_ld (i := 5) (pc2 := 102) rfl (fun _ _ _ h9 => lv_iload hx hb d_M_does_100 h9) ?_
          refine bj_s F k_M_isThere d_M_does_102 q_397 (ct_M_isThere _) (rmo rfl) rfl rfl (Nat.le_of_ble_eq_true rfl) (Nat.zero_le _) (Nat.zero_le _) rfl (fun r9 e9 => ?_)
          subst e9
          refine gj_if (pc2 := 115) (pc3 := 108) (fun _ _ _ => lv_if_ne (tgt := 115) hx hb d_M_does_105 (by decide)) (fun h105 => ?_) (fun h105 => ?_)
          · refine gj_ld (i := 4) (pc2 := 117) rfl (fun _ _ _ h9 => lv_iload hx hb d_M_does_115 h9) ?_
            refine gj_l (pc2 := 119) (fun _ _ _ => lv_bipush (v := (127)) hx hb d_M_does_117 (by decide)) ?_
            refine gj_if (pc2 := 131) (pc3 := 122) (fun _ _ _ => lv_icmp_le (tgt := 131) hx hb d_M_does_119 (by decide)) (fun h119 => ?_) (fun h119 => ?_)
            · refine gj_ld (i := 4) (pc2 := 133) rfl (fun _ _ _ h9 => lv_iload hx hb d_M_does_131 h9) ?_
              refine gj_eq (st3 := [.int (dNr τ)]) rfl rfl (by unfold dNr; rw [if_pos h119]) ?_
              refine gj_st (i := 6) (pc2 := 135) (Nat.le_of_ble_eq_true rfl) rfl (fun _ _ _ _ _ h9 l9 => lv_istore hx hb d_M_does_133 h9 (Nat.le_of_ble_eq_true rfl) l9) ?_
              refine gj_ld (i := 0) (pc2 := 136) rfl (fun _ _ _ h9 => lv_aload_n hx hb d_M_does_135 rfl h9) ?_
              refine mj_gr F 1 rfl d_M_does_136 q_331 rfl ?_
              refine gj_ld (i := 0) (pc2 := 140) rfl (fun _ _ _ h9 => lv_aload_n hx hb d_M_does_139 rfl h9) ?_
              refine mj_gi F 3 rfl d_M_does_140 q_333 rfl ?_
              refine mj_ld F 1 1024 i (by omega) rfl (by decide) ei hi d_M_does_143 rfl ?_
              refine gj_l (pc2 := 146) (fun _ _ _ => lv_bipush (v := (15)) hx hb d_M_does_144 (by decide)) ?_
              refine gj_l (pc2 := 147) (fun _ _ _ => lv_iand hx hb d_M_does_146) ?_
              refine gj_st (i := 7) (pc2 := 149) (Nat.le_of_ble_eq_true rfl) rfl (fun _ _ _ _ _ h9 l9 => lv_istore hx hb d_M_does_147 h9 (Nat.le_of_ble_eq_true rfl) l9) ?_
              refine gj_ld (i := 0) (pc2 := 150) rfl (fun _ _ _ h9 => lv_aload_n hx hb d_M_does_149 rfl h9) ?_
              refine gj_l (pc2 := 151) (fun _ _ _ => lv_dup hx hb d_M_does_150 rfl) ?_
              refine mj_gi F 3 rfl d_M_does_151 q_333 rfl ?_
              refine gj_ld (i := 2) (pc2 := 155) rfl (fun _ _ _ h9 => lv_iload_n hx hb d_M_does_154 rfl h9) ?_
              refine bj_s F k_M_sizeOf d_M_does_155 q_447 (ct_M_sizeOf _) (rmo rfl) rfl rfl (Nat.le_of_ble_eq_true rfl) (Nat.zero_le _) (Nat.zero_le _) rfl (fun r9 e9 => ?_)
              subst e9
              refine gj_l (pc2 := 159) (fun _ _ _ => lv_iadd hx hb d_M_does_158) ?_
              refine mj_pi F 3 rfl d_M_does_159 q_333 rfl ?_
              refine gj_ld (i := 2) (pc2 := 163) rfl (fun _ _ _ h9 => lv_iload_n hx hb d_M_does_162 rfl h9) ?_
              refine gj_l (pc2 := 165) (fun _ _ _ => lv_bipush (v := (7)) hx hb d_M_does_163 (by decide)) ?_
              refine gj_if (pc2 := 195) (pc3 := 168) (fun _ _ _ => lv_icmp_ne (tgt := 195) hx hb d_M_does_165 (by decide)) (fun h165 => ?_) (fun h165 => ?_)
              · refine gj_ld (i := 0) (pc2 := 196) rfl (fun _ _ _ h9 => lv_aload_n hx hb d_M_does_195 rfl h9) ?_
                refine gj_ld (i := 2) (pc2 := 197) rfl (fun _ _ _ h9 => lv_iload_n hx hb d_M_does_196 rfl h9) ?_
                refine gj_ld (i := 3) (pc2 := 198) rfl (fun _ _ _ h9 => lv_iload_n hx hb d_M_does_197 rfl h9) ?_
                refine gj_ld (i := 5) (pc2 := 200) rfl (fun _ _ _ h9 => lv_iload hx hb d_M_does_198 h9) ?_
                refine gj_ld (i := 6) (pc2 := 202) rfl (fun _ _ _ h9 => lv_iload hx hb d_M_does_200 h9) ?_
                rw [lo3_eq]
                refine bj_vv F k_M_work d_M_does_202 q_462 (mw_at (i := 0) (by omega)) rfl (ct_M_work (τ := dPl τ) (kdM τ (τ 0 3)) (lo3_lt (τ 1 i)) (dSv τ) (dNr τ) (fun _ => bN_n0.mp h105)) (rmo rfl) rfl rfl (Nat.le_of_ble_eq_true rfl) (Nat.zero_le _) (Nat.zero_le _) rfl (fun u9 e9 => ?_)
                subst e9
                have hD := doM_5 h10 h80 (fun _ => bN_n0.mp h105) h165
                rw [hpi] at hD
                refine gj_l (pc2 := 206) (fun _ _ _ => lv_iconst (v := 1) hx hb d_M_does_205 (by decide)) ?_
                exact gj_zret F d_M_does_206 (by first | rfl | exact bN_z _ | decide) (Nat.le_refl _) (Nat.le_refl _) ⟨by rw [hD]; first | done | rfl, by rw [hD]; first | done | rfl⟩
              · have hD := doM_4 h10 h165
                have hCo : dCo τ = τ 1 i &&& 15 := by unfold dCo; rw [hpi]
                rw [hCo] at hD
                refine gj_ld (i := 0) (pc2 := 169) rfl (fun _ _ _ h9 => lv_aload_n hx hb d_M_does_168 rfl h9) ?_
                refine gj_l (pc2 := 170) (fun _ _ _ => lv_dup hx hb d_M_does_169 rfl) ?_
                refine mj_gi F 3 rfl d_M_does_170 q_333 rfl ?_
                refine gj_ld (i := 0) (pc2 := 174) rfl (fun _ _ _ h9 => lv_aload_n hx hb d_M_does_173 rfl h9) ?_
                refine gj_ld (i := 7) (pc2 := 176) rfl (fun _ _ _ h9 => lv_iload hx hb d_M_does_174 h9) ?_
                refine bj_vi F k_M_holds d_M_does_176 q_458 (mw_at (i := 0) (by omega)) rfl (ct_M_holds (τ := dPl τ) hZ.dPl _) (rmo rfl) rfl rfl (Nat.le_of_ble_eq_true rfl) (Nat.zero_le _) (Nat.zero_le _) rfl (fun r9 u9 e9 => ?_)
                obtain ⟨rfl, rfl⟩ := e9
                refine gj_if (pc2 := 187) (pc3 := 182) (fun _ _ _ => lv_if_eq (tgt := 187) hx hb d_M_does_179 (by decide)) (fun h179 => ?_) (fun h179 => ?_)
                · rw [if_pos h179] at hD
                  refine gj_l (pc2 := 188) (fun _ _ _ => lv_iconst (v := 0) hx hb d_M_does_187 (by decide)) ?_
                  refine gj_l (pc2 := 189) (fun _ _ _ => lv_iadd hx hb d_M_does_188) ?_
                  refine mj_pi F 3 rfl d_M_does_189 q_333 rfl ?_
                  refine gj_l (pc2 := 205) (fun _ _ _ => lv_goto (tgt := 205) hx hb d_M_does_192 (by decide)) ?_
                  refine gj_l (pc2 := 206) (fun _ _ _ => lv_iconst (v := 1) hx hb d_M_does_205 (by decide)) ?_
                  exact gj_zret F d_M_does_206 (by first | rfl | exact bN_z _ | decide) (Nat.le_refl _) (Nat.le_refl _) ⟨by rw [hD]; first | done | rfl, by rw [hD]; first | done | rfl⟩
                · rw [if_neg h179] at hD
                  refine gj_ld (i := 6) (pc2 := 184) rfl (fun _ _ _ h9 => lv_iload hx hb d_M_does_182 h9) ?_
                  refine gj_l (pc2 := 188) (fun _ _ _ => lv_goto (tgt := 188) hx hb d_M_does_184 (by decide)) ?_
                  refine gj_l (pc2 := 189) (fun _ _ _ => lv_iadd hx hb d_M_does_188) ?_
                  refine mj_pi F 3 rfl d_M_does_189 q_333 rfl ?_
                  refine gj_l (pc2 := 205) (fun _ _ _ => lv_goto (tgt := 205) hx hb d_M_does_192 (by decide)) ?_
                  refine gj_l (pc2 := 206) (fun _ _ _ => lv_iconst (v := 1) hx hb d_M_does_205 (by decide)) ?_
                  exact gj_zret F d_M_does_206 (by first | rfl | exact bN_z _ | decide) (Nat.le_refl _) (Nat.le_refl _) ⟨by rw [hD]; first | done | rfl, by rw [hD]; first | done | rfl⟩
            · refine gj_ld (i := 4) (pc2 := 124) rfl (fun _ _ _ h9 => lv_iload hx hb d_M_does_122 h9) ?_
              refine gj_l (pc2 := 127) (fun _ _ _ => lv_sipush (v := (256)) hx hb d_M_does_124 (by decide)) ?_
              refine gj_l (pc2 := 128) (fun _ _ _ => lv_isub hx hb d_M_does_127) ?_
              refine gj_l (pc2 := 133) (fun _ _ _ => lv_goto (tgt := 133) hx hb d_M_does_128 (by decide)) ?_
              refine gj_eq (st3 := [.int (dNr τ)]) rfl rfl (by unfold dNr; rw [if_neg h119]) ?_
              refine gj_st (i := 6) (pc2 := 135) (Nat.le_of_ble_eq_true rfl) rfl (fun _ _ _ _ _ h9 l9 => lv_istore hx hb d_M_does_133 h9 (Nat.le_of_ble_eq_true rfl) l9) ?_
              refine gj_ld (i := 0) (pc2 := 136) rfl (fun _ _ _ h9 => lv_aload_n hx hb d_M_does_135 rfl h9) ?_
              refine mj_gr F 1 rfl d_M_does_136 q_331 rfl ?_
              refine gj_ld (i := 0) (pc2 := 140) rfl (fun _ _ _ h9 => lv_aload_n hx hb d_M_does_139 rfl h9) ?_
              refine mj_gi F 3 rfl d_M_does_140 q_333 rfl ?_
              refine mj_ld F 1 1024 i (by omega) rfl (by decide) ei hi d_M_does_143 rfl ?_
              refine gj_l (pc2 := 146) (fun _ _ _ => lv_bipush (v := (15)) hx hb d_M_does_144 (by decide)) ?_
              refine gj_l (pc2 := 147) (fun _ _ _ => lv_iand hx hb d_M_does_146) ?_
              refine gj_st (i := 7) (pc2 := 149) (Nat.le_of_ble_eq_true rfl) rfl (fun _ _ _ _ _ h9 l9 => lv_istore hx hb d_M_does_147 h9 (Nat.le_of_ble_eq_true rfl) l9) ?_
              refine gj_ld (i := 0) (pc2 := 150) rfl (fun _ _ _ h9 => lv_aload_n hx hb d_M_does_149 rfl h9) ?_
              refine gj_l (pc2 := 151) (fun _ _ _ => lv_dup hx hb d_M_does_150 rfl) ?_
              refine mj_gi F 3 rfl d_M_does_151 q_333 rfl ?_
              refine gj_ld (i := 2) (pc2 := 155) rfl (fun _ _ _ h9 => lv_iload_n hx hb d_M_does_154 rfl h9) ?_
              refine bj_s F k_M_sizeOf d_M_does_155 q_447 (ct_M_sizeOf _) (rmo rfl) rfl rfl (Nat.le_of_ble_eq_true rfl) (Nat.zero_le _) (Nat.zero_le _) rfl (fun r9 e9 => ?_)
              subst e9
              refine gj_l (pc2 := 159) (fun _ _ _ => lv_iadd hx hb d_M_does_158) ?_
              refine mj_pi F 3 rfl d_M_does_159 q_333 rfl ?_
              refine gj_ld (i := 2) (pc2 := 163) rfl (fun _ _ _ h9 => lv_iload_n hx hb d_M_does_162 rfl h9) ?_
              refine gj_l (pc2 := 165) (fun _ _ _ => lv_bipush (v := (7)) hx hb d_M_does_163 (by decide)) ?_
              refine gj_if (pc2 := 195) (pc3 := 168) (fun _ _ _ => lv_icmp_ne (tgt := 195) hx hb d_M_does_165 (by decide)) (fun h165 => ?_) (fun h165 => ?_)
              · refine gj_ld (i := 0) (pc2 := 196) rfl (fun _ _ _ h9 => lv_aload_n hx hb d_M_does_195 rfl h9) ?_
                refine gj_ld (i := 2) (pc2 := 197) rfl (fun _ _ _ h9 => lv_iload_n hx hb d_M_does_196 rfl h9) ?_
                refine gj_ld (i := 3) (pc2 := 198) rfl (fun _ _ _ h9 => lv_iload_n hx hb d_M_does_197 rfl h9) ?_
                refine gj_ld (i := 5) (pc2 := 200) rfl (fun _ _ _ h9 => lv_iload hx hb d_M_does_198 h9) ?_
                refine gj_ld (i := 6) (pc2 := 202) rfl (fun _ _ _ h9 => lv_iload hx hb d_M_does_200 h9) ?_
                rw [lo3_eq]
                refine bj_vv F k_M_work d_M_does_202 q_462 (mw_at (i := 0) (by omega)) rfl (ct_M_work (τ := dPl τ) (kdM τ (τ 0 3)) (lo3_lt (τ 1 i)) (dSv τ) (dNr τ) (fun _ => bN_n0.mp h105)) (rmo rfl) rfl rfl (Nat.le_of_ble_eq_true rfl) (Nat.zero_le _) (Nat.zero_le _) rfl (fun u9 e9 => ?_)
                subst e9
                have hD := doM_5 h10 h80 (fun _ => bN_n0.mp h105) h165
                rw [hpi] at hD
                refine gj_l (pc2 := 206) (fun _ _ _ => lv_iconst (v := 1) hx hb d_M_does_205 (by decide)) ?_
                exact gj_zret F d_M_does_206 (by first | rfl | exact bN_z _ | decide) (Nat.le_refl _) (Nat.le_refl _) ⟨by rw [hD]; first | done | rfl, by rw [hD]; first | done | rfl⟩
              · have hD := doM_4 h10 h165
                have hCo : dCo τ = τ 1 i &&& 15 := by unfold dCo; rw [hpi]
                rw [hCo] at hD
                refine gj_ld (i := 0) (pc2 := 169) rfl (fun _ _ _ h9 => lv_aload_n hx hb d_M_does_168 rfl h9) ?_
                refine gj_l (pc2 := 170) (fun _ _ _ => lv_dup hx hb d_M_does_169 rfl) ?_
                refine mj_gi F 3 rfl d_M_does_170 q_333 rfl ?_
                refine gj_ld (i := 0) (pc2 := 174) rfl (fun _ _ _ h9 => lv_aload_n hx hb d_M_does_173 rfl h9) ?_
                refine gj_ld (i := 7) (pc2 := 176) rfl (fun _ _ _ h9 => lv_iload hx hb d_M_does_174 h9) ?_
                refine bj_vi F k_M_holds d_M_does_176 q_458 (mw_at (i := 0) (by omega)) rfl (ct_M_holds (τ := dPl τ) hZ.dPl _) (rmo rfl) rfl rfl (Nat.le_of_ble_eq_true rfl) (Nat.zero_le _) (Nat.zero_le _) rfl (fun r9 u9 e9 => ?_)
                obtain ⟨rfl, rfl⟩ := e9
                refine gj_if (pc2 := 187) (pc3 := 182) (fun _ _ _ => lv_if_eq (tgt := 187) hx hb d_M_does_179 (by decide)) (fun h179 => ?_) (fun h179 => ?_)
                · rw [if_pos h179] at hD
                  refine gj_l (pc2 := 188) (fun _ _ _ => lv_iconst (v := 0) hx hb d_M_does_187 (by decide)) ?_
                  refine gj_l (pc2 := 189) (fun _ _ _ => lv_iadd hx hb d_M_does_188) ?_
                  refine mj_pi F 3 rfl d_M_does_189 q_333 rfl ?_
                  refine gj_l (pc2 := 205) (fun _ _ _ => lv_goto (tgt := 205) hx hb d_M_does_192 (by decide)) ?_
                  refine gj_l (pc2 := 206) (fun _ _ _ => lv_iconst (v := 1) hx hb d_M_does_205 (by decide)) ?_
                  exact gj_zret F d_M_does_206 (by first | rfl | exact bN_z _ | decide) (Nat.le_refl _) (Nat.le_refl _) ⟨by rw [hD]; first | done | rfl, by rw [hD]; first | done | rfl⟩
                · rw [if_neg h179] at hD
                  refine gj_ld (i := 6) (pc2 := 184) rfl (fun _ _ _ h9 => lv_iload hx hb d_M_does_182 h9) ?_
                  refine gj_l (pc2 := 188) (fun _ _ _ => lv_goto (tgt := 188) hx hb d_M_does_184 (by decide)) ?_
                  refine gj_l (pc2 := 189) (fun _ _ _ => lv_iadd hx hb d_M_does_188) ?_
                  refine mj_pi F 3 rfl d_M_does_189 q_333 rfl ?_
                  refine gj_l (pc2 := 205) (fun _ _ _ => lv_goto (tgt := 205) hx hb d_M_does_192 (by decide)) ?_
                  refine gj_l (pc2 := 206) (fun _ _ _ => lv_iconst (v := 1) hx hb d_M_does_205 (by decide)) ?_
                  exact gj_zret F d_M_does_206 (by first | rfl | exact bN_z _ | decide) (Nat.le_refl _) (Nat.le_refl _) ⟨by rw [hD]; first | done | rfl, by rw [hD]; first | done | rfl⟩
          · have hD := doM_3 h10 h80 (Or.inl h92) (bN_0.mp h105)
            refine gj_ld (i := 0) (pc2 := 109) rfl (fun _ _ _ h9 => lv_aload_n hx hb d_M_does_108 rfl h9) ?_
            refine gj_l (pc2 := 110) (fun _ _ _ => lv_iconst (v := 1) hx hb d_M_does_109 (by decide)) ?_
            refine bj_vv F k_M_fault d_M_does_110 q_454 (mw_at (i := 0) (by omega)) rfl (ct_M_fault _) (rmo rfl) rfl rfl (Nat.le_of_ble_eq_true rfl) (Nat.zero_le _) (Nat.zero_le _) rfl (fun u9 e9 => ?_)
            subst e9
            refine gj_l (pc2 := 114) (fun _ _ _ => lv_iconst (v := 0) hx hb d_M_does_113 (by decide)) ?_
            exact gj_zret F d_M_does_114 (by first | rfl | exact bN_z _ | decide) (Nat.le_refl _) (Nat.le_refl _) ⟨by rw [hD]; first | done | rfl, by rw [hD]; first | done | rfl⟩
        · refine gj_ld (i := 2) (pc2 := 96) rfl (fun _ _ _ h9 => lv_iload_n hx hb d_M_does_95 rfl h9) ?_
          refine gj_l (pc2 := 97) (fun _ _ _ => lv_iconst (v := 5) hx hb d_M_does_96 (by decide)) ?_
          refine gj_if (pc2 := 115) (pc3 := 100) (fun _ _ _ => lv_icmp_ne (tgt := 115) hx hb d_M_does_97 (by decide)) (fun h97 => ?_) (fun h97 => ?_)
          · refine gj_ld (i := 4) (pc2 := 117) rfl (fun _ _ _ h9 => lv_iload hx hb d_M_does_115 h9) ?_
            refine gj_l (pc2 := 119) (fun _ _ _ => lv_bipush (v := (127)) hx hb d_M_does_117 (by decide)) ?_
            refine gj_if (pc2 := 131) (pc3 := 122) (fun _ _ _ => lv_icmp_le (tgt := 131) hx hb d_M_does_119 (by decide)) (fun h119 => ?_) (fun h119 => ?_)
            · refine gj_ld (i := 4) (pc2 := 133) rfl (fun _ _ _ h9 => lv_iload hx hb d_M_does_131 h9) ?_
              refine gj_eq (st3 := [.int (dNr τ)]) rfl rfl (by unfold dNr; rw [if_pos h119]) ?_
              refine gj_st (i := 6) (pc2 := 135) (Nat.le_of_ble_eq_true rfl) rfl (fun _ _ _ _ _ h9 l9 => lv_istore hx hb d_M_does_133 h9 (Nat.le_of_ble_eq_true rfl) l9) ?_
              refine gj_ld (i := 0) (pc2 := 136) rfl (fun _ _ _ h9 => lv_aload_n hx hb d_M_does_135 rfl h9) ?_
              refine mj_gr F 1 rfl d_M_does_136 q_331 rfl ?_
              refine gj_ld (i := 0) (pc2 := 140) rfl (fun _ _ _ h9 => lv_aload_n hx hb d_M_does_139 rfl h9) ?_
              refine mj_gi F 3 rfl d_M_does_140 q_333 rfl ?_
              refine mj_ld F 1 1024 i (by omega) rfl (by decide) ei hi d_M_does_143 rfl ?_
              refine gj_l (pc2 := 146) (fun _ _ _ => lv_bipush (v := (15)) hx hb d_M_does_144 (by decide)) ?_
              refine gj_l (pc2 := 147) (fun _ _ _ => lv_iand hx hb d_M_does_146) ?_
              refine gj_st (i := 7) (pc2 := 149) (Nat.le_of_ble_eq_true rfl) rfl (fun _ _ _ _ _ h9 l9 => lv_istore hx hb d_M_does_147 h9 (Nat.le_of_ble_eq_true rfl) l9) ?_
              refine gj_ld (i := 0) (pc2 := 150) rfl (fun _ _ _ h9 => lv_aload_n hx hb d_M_does_149 rfl h9) ?_
              refine gj_l (pc2 := 151) (fun _ _ _ => lv_dup hx hb d_M_does_150 rfl) ?_
              refine mj_gi F 3 rfl d_M_does_151 q_333 rfl ?_
              refine gj_ld (i := 2) (pc2 := 155) rfl (fun _ _ _ h9 => lv_iload_n hx hb d_M_does_154 rfl h9) ?_
              refine bj_s F k_M_sizeOf d_M_does_155 q_447 (ct_M_sizeOf _) (rmo rfl) rfl rfl (Nat.le_of_ble_eq_true rfl) (Nat.zero_le _) (Nat.zero_le _) rfl (fun r9 e9 => ?_)
              subst e9
              refine gj_l (pc2 := 159) (fun _ _ _ => lv_iadd hx hb d_M_does_158) ?_
              refine mj_pi F 3 rfl d_M_does_159 q_333 rfl ?_
              refine gj_ld (i := 2) (pc2 := 163) rfl (fun _ _ _ h9 => lv_iload_n hx hb d_M_does_162 rfl h9) ?_
              refine gj_l (pc2 := 165) (fun _ _ _ => lv_bipush (v := (7)) hx hb d_M_does_163 (by decide)) ?_
              refine gj_if (pc2 := 195) (pc3 := 168) (fun _ _ _ => lv_icmp_ne (tgt := 195) hx hb d_M_does_165 (by decide)) (fun h165 => ?_) (fun h165 => ?_)
              · refine gj_ld (i := 0) (pc2 := 196) rfl (fun _ _ _ h9 => lv_aload_n hx hb d_M_does_195 rfl h9) ?_
                refine gj_ld (i := 2) (pc2 := 197) rfl (fun _ _ _ h9 => lv_iload_n hx hb d_M_does_196 rfl h9) ?_
                refine gj_ld (i := 3) (pc2 := 198) rfl (fun _ _ _ h9 => lv_iload_n hx hb d_M_does_197 rfl h9) ?_
                refine gj_ld (i := 5) (pc2 := 200) rfl (fun _ _ _ h9 => lv_iload hx hb d_M_does_198 h9) ?_
                refine gj_ld (i := 6) (pc2 := 202) rfl (fun _ _ _ h9 => lv_iload hx hb d_M_does_200 h9) ?_
                rw [lo3_eq]
                refine bj_vv F k_M_work d_M_does_202 q_462 (mw_at (i := 0) (by omega)) rfl (ct_M_work (τ := dPl τ) (kdM τ (τ 0 3)) (lo3_lt (τ 1 i)) (dSv τ) (dNr τ) (fun h9 => by rcases h9 with h9 | h9 <;> first | exact absurd h9 h92 | exact absurd h9 h97)) (rmo rfl) rfl rfl (Nat.le_of_ble_eq_true rfl) (Nat.zero_le _) (Nat.zero_le _) rfl (fun u9 e9 => ?_)
                subst e9
                have hD := doM_5 h10 h80 (fun h9 => by rcases h9 with h9 | h9 <;> first | exact absurd h9 h92 | exact absurd h9 h97) h165
                rw [hpi] at hD
                refine gj_l (pc2 := 206) (fun _ _ _ => lv_iconst (v := 1) hx hb d_M_does_205 (by decide)) ?_
                exact gj_zret F d_M_does_206 (by first | rfl | exact bN_z _ | decide) (Nat.le_refl _) (Nat.le_refl _) ⟨by rw [hD]; first | done | rfl, by rw [hD]; first | done | rfl⟩
              · have hD := doM_4 h10 h165
                have hCo : dCo τ = τ 1 i &&& 15 := by unfold dCo; rw [hpi]
                rw [hCo] at hD
                refine gj_ld (i := 0) (pc2 := 169) rfl (fun _ _ _ h9 => lv_aload_n hx hb d_M_does_168 rfl h9) ?_
                refine gj_l (pc2 := 170) (fun _ _ _ => lv_dup hx hb d_M_does_169 rfl) ?_
                refine mj_gi F 3 rfl d_M_does_170 q_333 rfl ?_
                refine gj_ld (i := 0) (pc2 := 174) rfl (fun _ _ _ h9 => lv_aload_n hx hb d_M_does_173 rfl h9) ?_
                refine gj_ld (i := 7) (pc2 := 176) rfl (fun _ _ _ h9 => lv_iload hx hb d_M_does_174 h9) ?_
                refine bj_vi F k_M_holds d_M_does_176 q_458 (mw_at (i := 0) (by omega)) rfl (ct_M_holds (τ := dPl τ) hZ.dPl _) (rmo rfl) rfl rfl (Nat.le_of_ble_eq_true rfl) (Nat.zero_le _) (Nat.zero_le _) rfl (fun r9 u9 e9 => ?_)
                obtain ⟨rfl, rfl⟩ := e9
                refine gj_if (pc2 := 187) (pc3 := 182) (fun _ _ _ => lv_if_eq (tgt := 187) hx hb d_M_does_179 (by decide)) (fun h179 => ?_) (fun h179 => ?_)
                · rw [if_pos h179] at hD
                  refine gj_l (pc2 := 188) (fun _ _ _ => lv_iconst (v := 0) hx hb d_M_does_187 (by decide)) ?_
                  refine gj_l (pc2 := 189) (fun _ _ _ => lv_iadd hx hb d_M_does_188) ?_
                  refine mj_pi F 3 rfl d_M_does_189 q_333 rfl ?_
                  refine gj_l (pc2 := 205) (fun _ _ _ => lv_goto (tgt := 205) hx hb d_M_does_192 (by decide)) ?_
                  refine gj_l (pc2 := 206) (fun _ _ _ => lv_iconst (v := 1) hx hb d_M_does_205 (by decide)) ?_
                  exact gj_zret F d_M_does_206 (by first | rfl | exact bN_z _ | decide) (Nat.le_refl _) (Nat.le_refl _) ⟨by rw [hD]; first | done | rfl, by rw [hD]; first | done | rfl⟩
                · rw [if_neg h179] at hD
                  refine gj_ld (i := 6) (pc2 := 184) rfl (fun _ _ _ h9 => lv_iload hx hb d_M_does_182 h9) ?_
                  refine gj_l (pc2 := 188) (fun _ _ _ => lv_goto (tgt := 188) hx hb d_M_does_184 (by decide)) ?_
                  refine gj_l (pc2 := 189) (fun _ _ _ => lv_iadd hx hb d_M_does_188) ?_
                  refine mj_pi F 3 rfl d_M_does_189 q_333 rfl ?_
                  refine gj_l (pc2 := 205) (fun _ _ _ => lv_goto (tgt := 205) hx hb d_M_does_192 (by decide)) ?_
                  refine gj_l (pc2 := 206) (fun _ _ _ => lv_iconst (v := 1) hx hb d_M_does_205 (by decide)) ?_
                  exact gj_zret F d_M_does_206 (by first | rfl | exact bN_z _ | decide) (Nat.le_refl _) (Nat.le_refl _) ⟨by rw [hD]; first | done | rfl, by rw [hD]; first | done | rfl⟩
            · refine gj_ld (i := 4) (pc2 := 124) rfl (fun _ _ _ h9 => lv_iload hx hb d_M_does_122 h9) ?_
              refine gj_l (pc2 := 127) (fun _ _ _ => lv_sipush (v := (256)) hx hb d_M_does_124 (by decide)) ?_
              refine gj_l (pc2 := 128) (fun _ _ _ => lv_isub hx hb d_M_does_127) ?_
              refine gj_l (pc2 := 133) (fun _ _ _ => lv_goto (tgt := 133) hx hb d_M_does_128 (by decide)) ?_
              refine gj_eq (st3 := [.int (dNr τ)]) rfl rfl (by unfold dNr; rw [if_neg h119]) ?_
              refine gj_st (i := 6) (pc2 := 135) (Nat.le_of_ble_eq_true rfl) rfl (fun _ _ _ _ _ h9 l9 => lv_istore hx hb d_M_does_133 h9 (Nat.le_of_ble_eq_true rfl) l9) ?_
              refine gj_ld (i := 0) (pc2 := 136) rfl (fun _ _ _ h9 => lv_aload_n hx hb d_M_does_135 rfl h9) ?_
              refine mj_gr F 1 rfl d_M_does_136 q_331 rfl ?_
              refine gj_ld (i := 0) (pc2 := 140) rfl (fun _ _ _ h9 => lv_aload_n hx hb d_M_does_139 rfl h9) ?_
              refine mj_gi F 3 rfl d_M_does_140 q_333 rfl ?_
              refine mj_ld F 1 1024 i (by omega) rfl (by decide) ei hi d_M_does_143 rfl ?_
              refine gj_l (pc2 := 146) (fun _ _ _ => lv_bipush (v := (15)) hx hb d_M_does_144 (by decide)) ?_
              refine gj_l (pc2 := 147) (fun _ _ _ => lv_iand hx hb d_M_does_146) ?_
              refine gj_st (i := 7) (pc2 := 149) (Nat.le_of_ble_eq_true rfl) rfl (fun _ _ _ _ _ h9 l9 => lv_istore hx hb d_M_does_147 h9 (Nat.le_of_ble_eq_true rfl) l9) ?_
              refine gj_ld (i := 0) (pc2 := 150) rfl (fun _ _ _ h9 => lv_aload_n hx hb d_M_does_149 rfl h9) ?_
              refine gj_l (pc2 := 151) (fun _ _ _ => lv_dup hx hb d_M_does_150 rfl) ?_
              refine mj_gi F 3 rfl d_M_does_151 q_333 rfl ?_
              refine gj_ld (i := 2) (pc2 := 155) rfl (fun _ _ _ h9 => lv_iload_n hx hb d_M_does_154 rfl h9) ?_
              refine bj_s F k_M_sizeOf d_M_does_155 q_447 (ct_M_sizeOf _) (rmo rfl) rfl rfl (Nat.le_of_ble_eq_true rfl) (Nat.zero_le _) (Nat.zero_le _) rfl (fun r9 e9 => ?_)
              subst e9
              refine gj_l (pc2 := 159) (fun _ _ _ => lv_iadd hx hb d_M_does_158) ?_
              refine mj_pi F 3 rfl d_M_does_159 q_333 rfl ?_
              refine gj_ld (i := 2) (pc2 := 163) rfl (fun _ _ _ h9 => lv_iload_n hx hb d_M_does_162 rfl h9) ?_
              refine gj_l (pc2 := 165) (fun _ _ _ => lv_bipush (v := (7)) hx hb d_M_does_163 (by decide)) ?_
              refine gj_if (pc2 := 195) (pc3 := 168) (fun _ _ _ => lv_icmp_ne (tgt := 195) hx hb d_M_does_165 (by decide)) (fun h165 => ?_) (fun h165 => ?_)
              · refine gj_ld (i := 0) (pc2 := 196) rfl (fun _ _ _ h9 => lv_aload_n hx hb d_M_does_195 rfl h9) ?_
                refine gj_ld (i := 2) (pc2 := 197) rfl (fun _ _ _ h9 => lv_iload_n hx hb d_M_does_196 rfl h9) ?_
                refine gj_ld (i := 3) (pc2 := 198) rfl (fun _ _ _ h9 => lv_iload_n hx hb d_M_does_197 rfl h9) ?_
                refine gj_ld (i := 5) (pc2 := 200) rfl (fun _ _ _ h9 => lv_iload hx hb d_M_does_198 h9) ?_
                refine gj_ld (i := 6) (pc2 := 202) rfl (fun _ _ _ h9 => lv_iload hx hb d_M_does_200 h9) ?_
                rw [lo3_eq]
                refine bj_vv F k_M_work d_M_does_202 q_462 (mw_at (i := 0) (by omega)) rfl (ct_M_work (τ := dPl τ) (kdM τ (τ 0 3)) (lo3_lt (τ 1 i)) (dSv τ) (dNr τ) (fun h9 => by rcases h9 with h9 | h9 <;> first | exact absurd h9 h92 | exact absurd h9 h97)) (rmo rfl) rfl rfl (Nat.le_of_ble_eq_true rfl) (Nat.zero_le _) (Nat.zero_le _) rfl (fun u9 e9 => ?_)
                subst e9
                have hD := doM_5 h10 h80 (fun h9 => by rcases h9 with h9 | h9 <;> first | exact absurd h9 h92 | exact absurd h9 h97) h165
                rw [hpi] at hD
                refine gj_l (pc2 := 206) (fun _ _ _ => lv_iconst (v := 1) hx hb d_M_does_205 (by decide)) ?_
                exact gj_zret F d_M_does_206 (by first | rfl | exact bN_z _ | decide) (Nat.le_refl _) (Nat.le_refl _) ⟨by rw [hD]; first | done | rfl, by rw [hD]; first | done | rfl⟩
              · have hD := doM_4 h10 h165
                have hCo : dCo τ = τ 1 i &&& 15 := by unfold dCo; rw [hpi]
                rw [hCo] at hD
                refine gj_ld (i := 0) (pc2 := 169) rfl (fun _ _ _ h9 => lv_aload_n hx hb d_M_does_168 rfl h9) ?_
                refine gj_l (pc2 := 170) (fun _ _ _ => lv_dup hx hb d_M_does_169 rfl) ?_
                refine mj_gi F 3 rfl d_M_does_170 q_333 rfl ?_
                refine gj_ld (i := 0) (pc2 := 174) rfl (fun _ _ _ h9 => lv_aload_n hx hb d_M_does_173 rfl h9) ?_
                refine gj_ld (i := 7) (pc2 := 176) rfl (fun _ _ _ h9 => lv_iload hx hb d_M_does_174 h9) ?_
                refine bj_vi F k_M_holds d_M_does_176 q_458 (mw_at (i := 0) (by omega)) rfl (ct_M_holds (τ := dPl τ) hZ.dPl _) (rmo rfl) rfl rfl (Nat.le_of_ble_eq_true rfl) (Nat.zero_le _) (Nat.zero_le _) rfl (fun r9 u9 e9 => ?_)
                obtain ⟨rfl, rfl⟩ := e9
                refine gj_if (pc2 := 187) (pc3 := 182) (fun _ _ _ => lv_if_eq (tgt := 187) hx hb d_M_does_179 (by decide)) (fun h179 => ?_) (fun h179 => ?_)
                · rw [if_pos h179] at hD
                  refine gj_l (pc2 := 188) (fun _ _ _ => lv_iconst (v := 0) hx hb d_M_does_187 (by decide)) ?_
                  refine gj_l (pc2 := 189) (fun _ _ _ => lv_iadd hx hb d_M_does_188) ?_
                  refine mj_pi F 3 rfl d_M_does_189 q_333 rfl ?_
                  refine gj_l (pc2 := 205) (fun _ _ _ => lv_goto (tgt := 205) hx hb d_M_does_192 (by decide)) ?_
                  refine gj_l (pc2 := 206) (fun _ _ _ => lv_iconst (v := 1) hx hb d_M_does_205 (by decide)) ?_
                  exact gj_zret F d_M_does_206 (by first | rfl | exact bN_z _ | decide) (Nat.le_refl _) (Nat.le_refl _) ⟨by rw [hD]; first | done | rfl, by rw [hD]; first | done | rfl⟩
                · rw [if_neg h179] at hD
                  refine gj_ld (i := 6) (pc2 := 184) rfl (fun _ _ _ h9 => lv_iload hx hb d_M_does_182 h9) ?_
                  refine gj_l (pc2 := 188) (fun _ _ _ => lv_goto (tgt := 188) hx hb d_M_does_184 (by decide)) ?_
                  refine gj_l (pc2 := 189) (fun _ _ _ => lv_iadd hx hb d_M_does_188) ?_
                  refine mj_pi F 3 rfl d_M_does_189 q_333 rfl ?_
                  refine gj_l (pc2 := 205) (fun _ _ _ => lv_goto (tgt := 205) hx hb d_M_does_192 (by decide)) ?_
                  refine gj_l (pc2 := 206) (fun _ _ _ => lv_iconst (v := 1) hx hb d_M_does_205 (by decide)) ?_
                  exact gj_zret F d_M_does_206 (by first | rfl | exact bN_z _ | decide) (Nat.le_refl _) (Nat.le_refl _) ⟨by rw [hD]; first | done | rfl, by rw [hD]; first | done | rfl⟩
          · refine gj_ld (i := 5) (pc2 := 102) rfl (fun _ _ _ h9 => lv_iload hx hb d_M_does_100 h9) ?_
            refine bj_s F k_M_isThere d_M_does_102 q_397 (ct_M_isThere _) (rmo rfl) rfl rfl (Nat.le_of_ble_eq_true rfl) (Nat.zero_le _) (Nat.zero_le _) rfl (fun r9 e9 => ?_)
            subst e9
            refine gj_if (pc2 := 115) (pc3 := 108) (fun _ _ _ => lv_if_ne (tgt := 115) hx hb d_M_does_105 (by decide)) (fun h105 => ?_) (fun h105 => ?_)
            · refine gj_ld (i := 4) (pc2 := 117) rfl (fun _ _ _ h9 => lv_iload hx hb d_M_does_115 h9) ?_
              refine gj_l (pc2 := 119) (fun _ _ _ => lv_bipush (v := (127)) hx hb d_M_does_117 (by decide)) ?_
              refine gj_if (pc2 := 131) (pc3 := 122) (fun _ _ _ => lv_icmp_le (tgt := 131) hx hb d_M_does_119 (by decide)) (fun h119 => ?_) (fun h119 => ?_)
              · refine gj_ld (i := 4) (pc2 := 133) rfl (fun _ _ _ h9 => lv_iload hx hb d_M_does_131 h9) ?_
                refine gj_eq (st3 := [.int (dNr τ)]) rfl rfl (by unfold dNr; rw [if_pos h119]) ?_
                refine gj_st (i := 6) (pc2 := 135) (Nat.le_of_ble_eq_true rfl) rfl (fun _ _ _ _ _ h9 l9 => lv_istore hx hb d_M_does_133 h9 (Nat.le_of_ble_eq_true rfl) l9) ?_
                refine gj_ld (i := 0) (pc2 := 136) rfl (fun _ _ _ h9 => lv_aload_n hx hb d_M_does_135 rfl h9) ?_
                refine mj_gr F 1 rfl d_M_does_136 q_331 rfl ?_
                refine gj_ld (i := 0) (pc2 := 140) rfl (fun _ _ _ h9 => lv_aload_n hx hb d_M_does_139 rfl h9) ?_
                refine mj_gi F 3 rfl d_M_does_140 q_333 rfl ?_
                refine mj_ld F 1 1024 i (by omega) rfl (by decide) ei hi d_M_does_143 rfl ?_
                refine gj_l (pc2 := 146) (fun _ _ _ => lv_bipush (v := (15)) hx hb d_M_does_144 (by decide)) ?_
                refine gj_l (pc2 := 147) (fun _ _ _ => lv_iand hx hb d_M_does_146) ?_
                refine gj_st (i := 7) (pc2 := 149) (Nat.le_of_ble_eq_true rfl) rfl (fun _ _ _ _ _ h9 l9 => lv_istore hx hb d_M_does_147 h9 (Nat.le_of_ble_eq_true rfl) l9) ?_
                refine gj_ld (i := 0) (pc2 := 150) rfl (fun _ _ _ h9 => lv_aload_n hx hb d_M_does_149 rfl h9) ?_
                refine gj_l (pc2 := 151) (fun _ _ _ => lv_dup hx hb d_M_does_150 rfl) ?_
                refine mj_gi F 3 rfl d_M_does_151 q_333 rfl ?_
                refine gj_ld (i := 2) (pc2 := 155) rfl (fun _ _ _ h9 => lv_iload_n hx hb d_M_does_154 rfl h9) ?_
                refine bj_s F k_M_sizeOf d_M_does_155 q_447 (ct_M_sizeOf _) (rmo rfl) rfl rfl (Nat.le_of_ble_eq_true rfl) (Nat.zero_le _) (Nat.zero_le _) rfl (fun r9 e9 => ?_)
                subst e9
                refine gj_l (pc2 := 159) (fun _ _ _ => lv_iadd hx hb d_M_does_158) ?_
                refine mj_pi F 3 rfl d_M_does_159 q_333 rfl ?_
                refine gj_ld (i := 2) (pc2 := 163) rfl (fun _ _ _ h9 => lv_iload_n hx hb d_M_does_162 rfl h9) ?_
                refine gj_l (pc2 := 165) (fun _ _ _ => lv_bipush (v := (7)) hx hb d_M_does_163 (by decide)) ?_
                refine gj_if (pc2 := 195) (pc3 := 168) (fun _ _ _ => lv_icmp_ne (tgt := 195) hx hb d_M_does_165 (by decide)) (fun h165 => ?_) (fun h165 => ?_)
                · refine gj_ld (i := 0) (pc2 := 196) rfl (fun _ _ _ h9 => lv_aload_n hx hb d_M_does_195 rfl h9) ?_
                  refine gj_ld (i := 2) (pc2 := 197) rfl (fun _ _ _ h9 => lv_iload_n hx hb d_M_does_196 rfl h9) ?_
                  refine gj_ld (i := 3) (pc2 := 198) rfl (fun _ _ _ h9 => lv_iload_n hx hb d_M_does_197 rfl h9) ?_
                  refine gj_ld (i := 5) (pc2 := 200) rfl (fun _ _ _ h9 => lv_iload hx hb d_M_does_198 h9) ?_
                  refine gj_ld (i := 6) (pc2 := 202) rfl (fun _ _ _ h9 => lv_iload hx hb d_M_does_200 h9) ?_
                  rw [lo3_eq]
                  refine bj_vv F k_M_work d_M_does_202 q_462 (mw_at (i := 0) (by omega)) rfl (ct_M_work (τ := dPl τ) (kdM τ (τ 0 3)) (lo3_lt (τ 1 i)) (dSv τ) (dNr τ) (fun _ => bN_n0.mp h105)) (rmo rfl) rfl rfl (Nat.le_of_ble_eq_true rfl) (Nat.zero_le _) (Nat.zero_le _) rfl (fun u9 e9 => ?_)
                  subst e9
                  have hD := doM_5 h10 h80 (fun _ => bN_n0.mp h105) h165
                  rw [hpi] at hD
                  refine gj_l (pc2 := 206) (fun _ _ _ => lv_iconst (v := 1) hx hb d_M_does_205 (by decide)) ?_
                  exact gj_zret F d_M_does_206 (by first | rfl | exact bN_z _ | decide) (Nat.le_refl _) (Nat.le_refl _) ⟨by rw [hD]; first | done | rfl, by rw [hD]; first | done | rfl⟩
                · have hD := doM_4 h10 h165
                  have hCo : dCo τ = τ 1 i &&& 15 := by unfold dCo; rw [hpi]
                  rw [hCo] at hD
                  refine gj_ld (i := 0) (pc2 := 169) rfl (fun _ _ _ h9 => lv_aload_n hx hb d_M_does_168 rfl h9) ?_
                  refine gj_l (pc2 := 170) (fun _ _ _ => lv_dup hx hb d_M_does_169 rfl) ?_
                  refine mj_gi F 3 rfl d_M_does_170 q_333 rfl ?_
                  refine gj_ld (i := 0) (pc2 := 174) rfl (fun _ _ _ h9 => lv_aload_n hx hb d_M_does_173 rfl h9) ?_
                  refine gj_ld (i := 7) (pc2 := 176) rfl (fun _ _ _ h9 => lv_iload hx hb d_M_does_174 h9) ?_
                  refine bj_vi F k_M_holds d_M_does_176 q_458 (mw_at (i := 0) (by omega)) rfl (ct_M_holds (τ := dPl τ) hZ.dPl _) (rmo rfl) rfl rfl (Nat.le_of_ble_eq_true rfl) (Nat.zero_le _) (Nat.zero_le _) rfl (fun r9 u9 e9 => ?_)
                  obtain ⟨rfl, rfl⟩ := e9
                  refine gj_if (pc2 := 187) (pc3 := 182) (fun _ _ _ => lv_if_eq (tgt := 187) hx hb d_M_does_179 (by decide)) (fun h179 => ?_) (fun h179 => ?_)
                  · rw [if_pos h179] at hD
                    refine gj_l (pc2 := 188) (fun _ _ _ => lv_iconst (v := 0) hx hb d_M_does_187 (by decide)) ?_
                    refine gj_l (pc2 := 189) (fun _ _ _ => lv_iadd hx hb d_M_does_188) ?_
                    refine mj_pi F 3 rfl d_M_does_189 q_333 rfl ?_
                    refine gj_l (pc2 := 205) (fun _ _ _ => lv_goto (tgt := 205) hx hb d_M_does_192 (by decide)) ?_
                    refine gj_l (pc2 := 206) (fun _ _ _ => lv_iconst (v := 1) hx hb d_M_does_205 (by decide)) ?_
                    exact gj_zret F d_M_does_206 (by first | rfl | exact bN_z _ | decide) (Nat.le_refl _) (Nat.le_refl _) ⟨by rw [hD]; first | done | rfl, by rw [hD]; first | done | rfl⟩
                  · rw [if_neg h179] at hD
                    refine gj_ld (i := 6) (pc2 := 184) rfl (fun _ _ _ h9 => lv_iload hx hb d_M_does_182 h9) ?_
                    refine gj_l (pc2 := 188) (fun _ _ _ => lv_goto (tgt := 188) hx hb d_M_does_184 (by decide)) ?_
                    refine gj_l (pc2 := 189) (fun _ _ _ => lv_iadd hx hb d_M_does_188) ?_
                    refine mj_pi F 3 rfl d_M_does_189 q_333 rfl ?_
                    refine gj_l (pc2 := 205) (fun _ _ _ => lv_goto (tgt := 205) hx hb d_M_does_192 (by decide)) ?_
                    refine gj_l (pc2 := 206) (fun _ _ _ => lv_iconst (v := 1) hx hb d_M_does_205 (by decide)) ?_
                    exact gj_zret F d_M_does_206 (by first | rfl | exact bN_z _ | decide) (Nat.le_refl _) (Nat.le_refl _) ⟨by rw [hD]; first | done | rfl, by rw [hD]; first | done | rfl⟩
              · refine gj_ld (i := 4) (pc2 := 124) rfl (fun _ _ _ h9 => lv_iload hx hb d_M_does_122 h9) ?_
                refine gj_l (pc2 := 127) (fun _ _ _ => lv_sipush (v := (256)) hx hb d_M_does_124 (by decide)) ?_
                refine gj_l (pc2 := 128) (fun _ _ _ => lv_isub hx hb d_M_does_127) ?_
                refine gj_l (pc2 := 133) (fun _ _ _ => lv_goto (tgt := 133) hx hb d_M_does_128 (by decide)) ?_
                refine gj_eq (st3 := [.int (dNr τ)]) rfl rfl (by unfold dNr; rw [if_neg h119]) ?_
                refine gj_st (i := 6) (pc2 := 135) (Nat.le_of_ble_eq_true rfl) rfl (fun _ _ _ _ _ h9 l9 => lv_istore hx hb d_M_does_133 h9 (Nat.le_of_ble_eq_true rfl) l9) ?_
                refine gj_ld (i := 0) (pc2 := 136) rfl (fun _ _ _ h9 => lv_aload_n hx hb d_M_does_135 rfl h9) ?_
                refine mj_gr F 1 rfl d_M_does_136 q_331 rfl ?_
                refine gj_ld (i := 0) (pc2 := 140) rfl (fun _ _ _ h9 => lv_aload_n hx hb d_M_does_139 rfl h9) ?_
                refine mj_gi F 3 rfl d_M_does_140 q_333 rfl ?_
                refine mj_ld F 1 1024 i (by omega) rfl (by decide) ei hi d_M_does_143 rfl ?_
                refine gj_l (pc2 := 146) (fun _ _ _ => lv_bipush (v := (15)) hx hb d_M_does_144 (by decide)) ?_
                refine gj_l (pc2 := 147) (fun _ _ _ => lv_iand hx hb d_M_does_146) ?_
                refine gj_st (i := 7) (pc2 := 149) (Nat.le_of_ble_eq_true rfl) rfl (fun _ _ _ _ _ h9 l9 => lv_istore hx hb d_M_does_147 h9 (Nat.le_of_ble_eq_true rfl) l9) ?_
                refine gj_ld (i := 0) (pc2 := 150) rfl (fun _ _ _ h9 => lv_aload_n hx hb d_M_does_149 rfl h9) ?_
                refine gj_l (pc2 := 151) (fun _ _ _ => lv_dup hx hb d_M_does_150 rfl) ?_
                refine mj_gi F 3 rfl d_M_does_151 q_333 rfl ?_
                refine gj_ld (i := 2) (pc2 := 155) rfl (fun _ _ _ h9 => lv_iload_n hx hb d_M_does_154 rfl h9) ?_
                refine bj_s F k_M_sizeOf d_M_does_155 q_447 (ct_M_sizeOf _) (rmo rfl) rfl rfl (Nat.le_of_ble_eq_true rfl) (Nat.zero_le _) (Nat.zero_le _) rfl (fun r9 e9 => ?_)
                subst e9
                refine gj_l (pc2 := 159) (fun _ _ _ => lv_iadd hx hb d_M_does_158) ?_
                refine mj_pi F 3 rfl d_M_does_159 q_333 rfl ?_
                refine gj_ld (i := 2) (pc2 := 163) rfl (fun _ _ _ h9 => lv_iload_n hx hb d_M_does_162 rfl h9) ?_
                refine gj_l (pc2 := 165) (fun _ _ _ => lv_bipush (v := (7)) hx hb d_M_does_163 (by decide)) ?_
                refine gj_if (pc2 := 195) (pc3 := 168) (fun _ _ _ => lv_icmp_ne (tgt := 195) hx hb d_M_does_165 (by decide)) (fun h165 => ?_) (fun h165 => ?_)
                · refine gj_ld (i := 0) (pc2 := 196) rfl (fun _ _ _ h9 => lv_aload_n hx hb d_M_does_195 rfl h9) ?_
                  refine gj_ld (i := 2) (pc2 := 197) rfl (fun _ _ _ h9 => lv_iload_n hx hb d_M_does_196 rfl h9) ?_
                  refine gj_ld (i := 3) (pc2 := 198) rfl (fun _ _ _ h9 => lv_iload_n hx hb d_M_does_197 rfl h9) ?_
                  refine gj_ld (i := 5) (pc2 := 200) rfl (fun _ _ _ h9 => lv_iload hx hb d_M_does_198 h9) ?_
                  refine gj_ld (i := 6) (pc2 := 202) rfl (fun _ _ _ h9 => lv_iload hx hb d_M_does_200 h9) ?_
                  rw [lo3_eq]
                  refine bj_vv F k_M_work d_M_does_202 q_462 (mw_at (i := 0) (by omega)) rfl (ct_M_work (τ := dPl τ) (kdM τ (τ 0 3)) (lo3_lt (τ 1 i)) (dSv τ) (dNr τ) (fun _ => bN_n0.mp h105)) (rmo rfl) rfl rfl (Nat.le_of_ble_eq_true rfl) (Nat.zero_le _) (Nat.zero_le _) rfl (fun u9 e9 => ?_)
                  subst e9
                  have hD := doM_5 h10 h80 (fun _ => bN_n0.mp h105) h165
                  rw [hpi] at hD
                  refine gj_l (pc2 := 206) (fun _ _ _ => lv_iconst (v := 1) hx hb d_M_does_205 (by decide)) ?_
                  exact gj_zret F d_M_does_206 (by first | rfl | exact bN_z _ | decide) (Nat.le_refl _) (Nat.le_refl _) ⟨by rw [hD]; first | done | rfl, by rw [hD]; first | done | rfl⟩
                · have hD := doM_4 h10 h165
                  have hCo : dCo τ = τ 1 i &&& 15 := by unfold dCo; rw [hpi]
                  rw [hCo] at hD
                  refine gj_ld (i := 0) (pc2 := 169) rfl (fun _ _ _ h9 => lv_aload_n hx hb d_M_does_168 rfl h9) ?_
                  refine gj_l (pc2 := 170) (fun _ _ _ => lv_dup hx hb d_M_does_169 rfl) ?_
                  refine mj_gi F 3 rfl d_M_does_170 q_333 rfl ?_
                  refine gj_ld (i := 0) (pc2 := 174) rfl (fun _ _ _ h9 => lv_aload_n hx hb d_M_does_173 rfl h9) ?_
                  refine gj_ld (i := 7) (pc2 := 176) rfl (fun _ _ _ h9 => lv_iload hx hb d_M_does_174 h9) ?_
                  refine bj_vi F k_M_holds d_M_does_176 q_458 (mw_at (i := 0) (by omega)) rfl (ct_M_holds (τ := dPl τ) hZ.dPl _) (rmo rfl) rfl rfl (Nat.le_of_ble_eq_true rfl) (Nat.zero_le _) (Nat.zero_le _) rfl (fun r9 u9 e9 => ?_)
                  obtain ⟨rfl, rfl⟩ := e9
                  refine gj_if (pc2 := 187) (pc3 := 182) (fun _ _ _ => lv_if_eq (tgt := 187) hx hb d_M_does_179 (by decide)) (fun h179 => ?_) (fun h179 => ?_)
                  · rw [if_pos h179] at hD
                    refine gj_l (pc2 := 188) (fun _ _ _ => lv_iconst (v := 0) hx hb d_M_does_187 (by decide)) ?_
                    refine gj_l (pc2 := 189) (fun _ _ _ => lv_iadd hx hb d_M_does_188) ?_
                    refine mj_pi F 3 rfl d_M_does_189 q_333 rfl ?_
                    refine gj_l (pc2 := 205) (fun _ _ _ => lv_goto (tgt := 205) hx hb d_M_does_192 (by decide)) ?_
                    refine gj_l (pc2 := 206) (fun _ _ _ => lv_iconst (v := 1) hx hb d_M_does_205 (by decide)) ?_
                    exact gj_zret F d_M_does_206 (by first | rfl | exact bN_z _ | decide) (Nat.le_refl _) (Nat.le_refl _) ⟨by rw [hD]; first | done | rfl, by rw [hD]; first | done | rfl⟩
                  · rw [if_neg h179] at hD
                    refine gj_ld (i := 6) (pc2 := 184) rfl (fun _ _ _ h9 => lv_iload hx hb d_M_does_182 h9) ?_
                    refine gj_l (pc2 := 188) (fun _ _ _ => lv_goto (tgt := 188) hx hb d_M_does_184 (by decide)) ?_
                    refine gj_l (pc2 := 189) (fun _ _ _ => lv_iadd hx hb d_M_does_188) ?_
                    refine mj_pi F 3 rfl d_M_does_189 q_333 rfl ?_
                    refine gj_l (pc2 := 205) (fun _ _ _ => lv_goto (tgt := 205) hx hb d_M_does_192 (by decide)) ?_
                    refine gj_l (pc2 := 206) (fun _ _ _ => lv_iconst (v := 1) hx hb d_M_does_205 (by decide)) ?_
                    exact gj_zret F d_M_does_206 (by first | rfl | exact bN_z _ | decide) (Nat.le_refl _) (Nat.le_refl _) ⟨by rw [hD]; first | done | rfl, by rw [hD]; first | done | rfl⟩
            · have hD := doM_3 h10 h80 (Or.inr h97) (bN_0.mp h105)
              refine gj_ld (i := 0) (pc2 := 109) rfl (fun _ _ _ h9 => lv_aload_n hx hb d_M_does_108 rfl h9) ?_
              refine gj_l (pc2 := 110) (fun _ _ _ => lv_iconst (v := 1) hx hb d_M_does_109 (by decide)) ?_
              refine bj_vv F k_M_fault d_M_does_110 q_454 (mw_at (i := 0) (by omega)) rfl (ct_M_fault _) (rmo rfl) rfl rfl (Nat.le_of_ble_eq_true rfl) (Nat.zero_le _) (Nat.zero_le _) rfl (fun u9 e9 => ?_)
              subst e9
              refine gj_l (pc2 := 114) (fun _ _ _ => lv_iconst (v := 0) hx hb d_M_does_113 (by decide)) ?_
              exact gj_zret F d_M_does_114 (by first | rfl | exact bN_z _ | decide) (Nat.le_refl _) (Nat.le_refl _) ⟨by rw [hD]; first | done | rfl, by rw [hD]; first | done | rfl⟩
      · have hD := doM_2 h10 h80
        refine gj_ld (i := 0) (pc2 := 84) rfl (fun _ _ _ h9 => lv_aload_n hx hb d_M_does_83 rfl h9) ?_
        refine gj_l (pc2 := 85) (fun _ _ _ => lv_iconst (v := 1) hx hb d_M_does_84 (by decide)) ?_
        refine mj_pi F 4 rfl d_M_does_85 q_334 rfl ?_
        refine gj_l (pc2 := 89) (fun _ _ _ => lv_iconst (v := 0) hx hb d_M_does_88 (by decide)) ?_
        exact gj_zret F d_M_does_89 (by first | rfl | exact bN_z _ | decide) (Nat.le_refl _) (Nat.le_refl _) ⟨by rw [hD]; first | done | rfl, by rw [hD]; first | done | rfl⟩
  · have hD := doM_1 h10
    refine gj_ld (i := 0) (pc2 := 14) rfl (fun _ _ _ h9 => lv_aload_n hx hb d_M_does_13 rfl h9) ?_
    refine gj_ld (i := 1) (pc2 := 15) rfl (fun _ _ _ h9 => lv_iload_n hx hb d_M_does_14 rfl h9) ?_
    refine bj_vv F k_M_fault d_M_does_15 q_454 (mw_at (i := 0) (by omega)) rfl (ct_M_fault _) (rmo rfl) rfl rfl (Nat.le_of_ble_eq_true rfl) (Nat.zero_le _) (Nat.zero_le _) rfl (fun u9 e9 => ?_)
    subst e9
    refine gj_l (pc2 := 19) (fun _ _ _ => lv_iconst (v := 0) hx hb d_M_does_18 (by decide)) ?_
    exact gj_zret F d_M_does_19 (by first | rfl | exact bN_z _ | decide) (Nat.le_refl _) (Nat.le_refl _) ⟨by rw [hD]; first | done | rfl, by rw [hD]; first | done | rfl⟩
end
section
/-! what the reference's steps keep -/
def PR (τ υ : St) : Prop := υ 5 = τ 5 ∧ (∀ k : Nat, ¬ υ 3 k = 0 → ¬ τ 3 k = 0) ∧ υ 0 5 = τ 0 5 ∧ υ 0 6 = τ 0 6 ∧ υ 0 11 = τ 0 11
theorem pr_rf (τ : St) : PR τ τ := ⟨rfl, fun _ h => h, rfl, rfl, rfl⟩
theorem PR.tr {τ υ φ : St} (h : PR τ υ) (g : PR υ φ) : PR τ φ := ⟨g.1.trans h.1, fun k hk => h.2.1 k (g.2.1 k hk), g.2.2.1.trans h.2.2.1, g.2.2.2.1.trans h.2.2.2.1, g.2.2.2.2.trans h.2.2.2.2⟩
theorem pr_s2 {τ : St} {i j : Nat} {v : Int32} (h5 : i ≠ 5) (h3 : i ≠ 3) (h0 : i = 0 → j ≠ 5 ∧ j ≠ 6 ∧ j ≠ 11) : PR τ (s2 τ i j v) := by
  refine ⟨s2_row _ _ _ (Ne.symm h5), fun k hk => ?_, ?_, ?_, ?_⟩
  · rw [s2_row _ _ _ (Ne.symm h3)] at hk
    exact hk
  all_goals
    by_cases h : i = 0
    · subst h
      obtain ⟨a, b, d⟩ := h0 rfl
      exact s2_ne _ _ _ (by omega)
    · exact s2_o _ _ _ _ (Ne.symm h)
theorem pr_mTo (τ : St) (k : Nat) : PR τ (mTo τ k) := by
  have h1 : PR τ (s2 τ 3 k 0) := by
    refine ⟨s2_row _ _ _ (by decide), fun k2 hk => ?_, s2_o _ _ _ _ (by decide), s2_o _ _ _ _ (by decide), s2_o _ _ _ _ (by decide)⟩
    by_cases h : k2 = k
    · subst h
      rw [s2_at] at hk
      exact absurd rfl hk
    · rw [s2_ne _ _ _ h] at hk
      exact hk
  exact h1.tr (pr_s2 (by decide) (by decide) (fun _ => ⟨by decide, by decide, by decide⟩))
theorem pr_mWl (τ : St) (i : Nat) : ∀ n : Nat, PR τ (mWl τ i n) := by
  intro n
  induction n with
  | zero => exact pr_rf τ
  | succ n ih =>
    refine ih.tr ?_
    rw [mWl, mWs]
    split
    · exact (pr_mTo _ _).tr (pr_s2 (by decide) (by decide) (fun _ => ⟨by decide, by decide, by decide⟩))
    · exact pr_rf _
theorem pr_mWr (τ : St) (i : Nat) (v : Int32) : PR τ (mWr τ i v) := (pr_s2 (by decide) (by decide) (fun h => absurd h (by decide))).tr (pr_mWl _ _ _)
theorem MI.pr {τ υ : St} (h : MI τ) (p : PR τ υ) : MI υ := by
  intro k hk h3
  obtain ⟨W, a, b, e⟩ := h k hk (p.2.1 k h3)
  exact ⟨W, a, b, by rw [p.1]; exact e⟩
theorem ZB.pr {τ υ : St} (h : ZB τ) (p : PR τ υ) : ZB υ := h.of p.2.2.1 p.2.2.2.1
/-- what a state keeps where the flags may be set anew -/
def PZ (τ υ : St) : Prop := υ 5 = τ 5 ∧ (∀ k : Nat, ¬ υ 3 k = 0 → ¬ τ 3 k = 0) ∧ (ZB τ → ZB υ) ∧ υ 0 11 = τ 0 11
theorem PR.pz {τ υ : St} (p : PR τ υ) : PZ τ υ := ⟨p.1, p.2.1, fun h => h.pr p, p.2.2.2.2⟩
theorem PZ.tr {τ υ φ : St} (h : PZ τ υ) (g : PZ υ φ) : PZ τ φ := ⟨g.1.trans h.1, fun k hk => h.2.1 k (g.2.1 k hk), fun z => g.2.2.1 (h.2.2.1 z), g.2.2.2.trans h.2.2.2⟩
theorem pz_be (τ : St) (r : Nat) (v : Int32) : PZ τ (beM τ r v) := by
  refine ⟨?_, fun k hk => ?_, fun _ => ⟨⟨decide (v = 0), ?_⟩, ⟨!decide (0 ≤ v), ?_⟩⟩, ?_⟩
  · rfl
  · exact hk
  · exact (s2_ne _ _ _ (by decide)).trans (s2_at _ _ _ _)
  · exact s2_at _ _ _ _
  · rfl
theorem pz_wo (τ : St) (kd : Int32) (r : Nat) (sv nr : Int32) : PZ τ (woM τ kd r sv nr) := by
  have h2 : ∀ v : Int32, ∀ υ : St, PR υ (s2 υ 2 r v) := fun v υ => pr_s2 (by decide) (by decide) (fun h => absurd h (by decide))
  unfold woM
  split
  · exact (h2 _ _).pz
  split
  · exact pz_be _ _ _
  split
  · exact pz_be _ _ _
  split
  · exact (h2 _ _).pz
  split
  · exact ((pr_s2 (by decide) (by decide) (fun _ => ⟨by decide, by decide, by decide⟩)).tr (pr_mWr _ _ _)).pz
  split
  · exact pz_be _ _ _
  split
  · exact (h2 _ _).pz
  split
  · exact pz_be _ _ _
  split
  · exact pz_be _ _ _
  · exact (pz_be _ _ _).tr (h2 _ _).pz
theorem pz_pl (τ : St) : PR τ (dPl τ) := pr_s2 (by decide) (by decide) (fun _ => ⟨by decide, by decide, by decide⟩)
theorem pz_do (τ : St) : PZ τ (doM τ).1 := by
  have h4 : ∀ v : Int32, PR τ (s2 τ 0 4 v) := fun v => pr_s2 (by decide) (by decide) (fun _ => ⟨by decide, by decide, by decide⟩)
  unfold doM
  split
  · exact (h4 _).pz
  split
  · exact (h4 _).pz
  split
  · exact (h4 _).pz
  split
  · exact ((pz_pl τ).tr (pr_s2 (by decide) (by decide) (fun _ => ⟨by decide, by decide, by decide⟩))).pz
  · exact (pz_pl τ).pz.tr (pz_wo _ _ _ _ _)
theorem MI.pz {τ υ : St} (h : MI τ) (p : PZ τ υ) : MI υ := by
  intro k hk h3
  obtain ⟨W, a, b, e⟩ := h k hk (p.2.1 k h3)
  exact ⟨W, a, b, by rw [p.1]; exact e⟩
theorem ft_v (τ : St) (x : Int32) : ftM τ x = 0 ∨ ftM τ x = 2 ∨ ftM τ x = 3 := by
  unfold ftM
  split
  · exact Or.inr (Or.inr rfl)
  split
  · exact Or.inr (Or.inl rfl)
  split
  · exact Or.inl rfl
  · exact Or.inr (Or.inr rfl)
theorem do_st {τ : St} (h : (doM τ).2 = false) : ¬ (doM τ).1 0 4 = 0 := by
  unfold doM at h ⊢
  split
  · next h1 =>
    dsimp only
    rw [s2_at]
    rcases ft_v τ (τ 0 3) with e | e | e
    · rw [e] at h1; exact absurd (by decide) h1
    · rw [e]; decide
    · rw [e]; decide
  · next h1 =>
    rw [if_neg h1] at h
    split
    · dsimp only; rw [s2_at]; decide
    · next h2 =>
      rw [if_neg h2] at h
      split
      · dsimp only; rw [s2_at]; decide
      · next h3 =>
        rw [if_neg h3] at h
        split at h <;> cases h
def ouW (τ : St) : Nat := (ouS τ 5 (kAt (τ 0 3))).toNatClampNeg
def ouL (n : Nat) : Nat → Nat → St → St × Nat
  | 0, d, τ => (τ, d)
  | f + 1, d, τ => if τ 0 4 = 0 ∧ d < n then ouL n f (inL n (ouW τ) d (ouS τ)).2 (inL n (ouW τ) d (ouS τ)).1 else (τ, d)
theorem inL_le (n : Nat) : ∀ (f d : Nat) (τ : St), d ≤ n → d ≤ (inL n f d τ).2 ∧ (inL n f d τ).2 ≤ n := by
  intro f
  induction f with
  | zero => exact fun d τ h => ⟨Nat.le_refl d, h⟩
  | succ f ih =>
    intro d τ h
    rw [inL]
    split
    · next hc =>
      have h1 : d + (if (doM τ).2 then 1 else 0) ≤ n := by have := hc.2.1; split <;> omega
      have := ih _ (doM τ).1 h1
      exact ⟨by have h2 := this.1; omega, this.2⟩
    · exact ⟨Nat.le_refl d, h⟩
theorem inL_pz (n : Nat) : ∀ (f d : Nat) (τ : St), PZ τ (inL n f d τ).1 := by
  intro f
  induction f with
  | zero => exact fun d τ => (pr_rf τ).pz
  | succ f ih =>
    intro d τ
    rw [inL]
    split
    · exact (pz_do τ).tr (ih _ _)
    · exact (pr_rf τ).pz
theorem inL_go {n f d : Nat} {τ : St} (h0 : τ 0 4 = 0) (hd : d < n) (h12 : τ 0 12 = 0) (hr : (inL n (f + 1) d τ).1 0 4 = 0) : d + 1 ≤ (inL n (f + 1) d τ).2 := by
  rw [inL, if_pos ⟨h0, hd, h12⟩] at hr ⊢
  cases hz : (doM τ).2 with
  | true =>
    rw [hz] at hr
    exact (inL_le n f (d + 1) (doM τ).1 hd).1
  | false =>
    exfalso
    rw [hz] at hr
    have h1 := do_st hz
    cases f with
    | zero => exact h1 hr
    | succ f =>
      rw [inL, if_neg (fun h => h1 h.1)] at hr
      exact h1 hr
theorem mkT_12 (τ : St) : 1 ≤ (mkT τ 12).2.2 ∧ (mkT τ 12).2.2 ≤ 12 := ⟨(mkT_n τ 12).2 (by omega), (mkT_n τ 12).1⟩
theorem mkM_form (τ : St) (k : Nat) : ∃ (v : Int32) (b : Bool), mkM τ k = mkZ (if b then mkA τ k (mkT τ 12).2.2 v else s2 (mkA τ k (mkT τ 12).2.2 v) 6 k 0) (mkT τ 12).2.2 := ⟨_, _, rfl⟩
theorem mkM_r3 (τ : St) (k : Nat) : mkM τ k 3 = upd (τ 3) k 1 := by
  obtain ⟨v, b, e⟩ := mkM_form τ k
  rw [e]
  cases b <;> rfl
theorem mkM_r5 (τ : St) (k : Nat) : mkM τ k 5 = upd (τ 5) k (nI (mkT τ 12).2.2) := by
  obtain ⟨v, b, e⟩ := mkM_form τ k
  rw [e]
  cases b <;> rfl
theorem mkM_r0 (τ : St) (k : Nat) {j : Nat} (h14 : j ≠ 14) (h18 : j ≠ 18) : mkM τ k 0 j = τ 0 j := by
  obtain ⟨v, b, e⟩ := mkM_form τ k
  rw [e]
  have hz : ∀ (υ : St) (n : Nat), mkZ υ n 0 j = υ 0 j := fun υ n => (s2_ne _ _ _ h18).trans (s2_ne _ _ _ h14)
  rw [hz]
  cases b <;> rfl
theorem MI.mk {τ : St} (h : MI τ) (k : Nat) : MI (mkM τ k) := by
  intro k2 hk2 h3
  rw [mkM_r3] at h3
  rw [mkM_r5]
  by_cases e : k2 = k
  · subst e
    exact ⟨_, (mkT_12 τ).1, (mkT_12 τ).2, pk_us⟩
  · rw [pk_un e] at h3 ⊢
    exact h k2 hk2 h3
theorem fi_pr (τ : St) : fi1 τ 5 = τ 5 ∧ fi1 τ 3 = τ 3 ∧ fi1 τ 4 = τ 4 ∧ (∀ j : Nat, j ≠ 11 → fi1 τ 0 j = τ 0 j) := ⟨rfl, rfl, rfl, fun j h => s2_ne _ _ _ h⟩
theorem MI.fi {τ : St} (h : MI τ) : MI (fiM τ) ∧ ∃ W : Nat, 1 ≤ W ∧ W ≤ 12 ∧ fiM τ 5 (kAt (τ 0 3)) = nI W := by
  have h1 : MI (fi1 τ) := fun k hk h3 => h k hk h3
  unfold fiM
  split
  · next hc => exact ⟨fun k hk h3 => h k hk h3, h1 _ (kAt_lt _) hc.1⟩
  · refine ⟨h1.mk _, _, (mkT_12 (fi1 τ)).1, (mkT_12 (fi1 τ)).2, ?_⟩
    rw [mkM_r5]
    exact pk_us
theorem fiM_0 (τ : St) {j : Nat} (h11 : j ≠ 11) (h14 : j ≠ 14) (h15 : j ≠ 15) (h18 : j ≠ 18) : fiM τ 0 j = τ 0 j := by
  unfold fiM
  split
  · exact (s2_ne _ _ _ h15).trans (s2_ne _ _ _ h11)
  · exact (mkM_r0 _ _ h14 h18).trans (s2_ne _ _ _ h11)
theorem fiM_11 (τ : St) : fiM τ 0 11 = nI (kAt (τ 0 3)) := by
  unfold fiM
  split
  · exact ((s2_ne _ _ _ (by decide)).trans (s2_at _ _ _ _)).trans (kAt_eq _)
  · exact ((mkM_r0 _ _ (by decide) (by decide)).trans (s2_at _ _ _ _)).trans (kAt_eq _)
theorem ouS_f {τ : St} (h : MI τ) : MI (ouS τ) ∧ 1 ≤ ouW τ ∧ ouW τ ≤ 12 ∧ fiM τ 5 (kAt (τ 0 3)) = nI (ouW τ) ∧ ouS τ 0 4 = τ 0 4 ∧ ouS τ 0 12 = 0 ∧ (ZB τ → ZB (ouS τ)) := by
  obtain ⟨h1, W, a, b, e⟩ := h.fi
  have e5 : ouS τ 5 = fiM τ 5 := s2_row _ _ _ (by decide)
  have hW : ouW τ = W := by unfold ouW; rw [e5, e]; exact nI_clamp (by omega)
  refine ⟨fun k hk h3 => h1 k hk h3, by omega, by omega, by rw [hW]; exact e, ?_, s2_at _ _ _ _, fun z => z.of ?_ ?_⟩
  · exact (s2_ne _ _ _ (by decide)).trans (fiM_0 τ (by decide) (by decide) (by decide) (by decide))
  · exact (s2_ne _ _ _ (by decide)).trans (fiM_0 τ (by decide) (by decide) (by decide) (by decide))
  · exact (s2_ne _ _ _ (by decide)).trans (fiM_0 τ (by decide) (by decide) (by decide) (by decide))
end
section
theorem inR_8 {x : Int32} (h : inR x 0 11 = true) (h8 : ¬ 8 ≤ x) : ∃ i : Nat, i < 8 ∧ x = nI i := by
  simp only [inR, Bool.and_eq_true, Bool.not_eq_true', decide_eq_false_iff_not] at h
  obtain ⟨i, h3, rfl⟩ := nI_of h.1
  exact ⟨i, nI_lt_of (N := 8) h8 h3, rfl⟩
theorem inR_31 {x : Int32} (h : inR x 0 31 = true) : ∃ i : Nat, i < 32 ∧ x = nI i := by
  simp only [inR, Bool.and_eq_true, Bool.not_eq_true', decide_eq_false_iff_not] at h
  obtain ⟨i, h3, rfl⟩ := nI_of h.1
  exact ⟨i, by
    rcases Nat.lt_or_ge i 32 with z | z
    · exact z
    · exact absurd (nI_lt (a := 31) (b := i) (by omega) h3) h.2, rfl⟩
theorem inR_100 {x : Int32} (h : inR x 1 100 = true) : ∃ i : Nat, 1 ≤ i ∧ i ≤ 100 ∧ x = nI i := by
  simp only [inR, Bool.and_eq_true, Bool.not_eq_true', decide_eq_false_iff_not] at h
  exact in100 h.1 (Int32.not_lt.mp h.2)
theorem lo3_nI {i : Nat} (h : i < 8) : lo3 (nI i) = i := by
  have h1 : nI i &&& 7 = nI (i % 2 ^ 3) := pk_andN (by omega) 3 (by decide)
  unfold lo3
  rw [h1, nI_clamp (by omega)]
  omega

theorem k_M_register : CKV y_M_register c_M_register 2 (some .int) 1 := ⟨q_477, q_3, q_475, q_476, ⟨by decide +kernel, by decide +kernel, by decide +kernel⟩⟩
set_option maxHeartbeats 4000000 in
set_option maxRecDepth 100000 in
theorem ct_M_register {l : Launch} {D : va_G} {cI cB cZ cJ : ClassId} {a : Nat → Nat} {τ : St} (x : Int32) : GCi l y_M_register (Cond.code y_M_register c_M_register 2 (some .int) :: tbW) ({ frames := 1, cells := 0, slots := 0, locals := 22 }) 0 0 D vCl (TY cI cB cZ cJ) [.ref (a 0), .int x] (mw a cI cZ τ) (fun r u => (inR x 0 11 = false ∧ r = 0 ∧ u = mw a cI cZ (s2 τ 0 0 1)) ∨ (inR x 0 11 = true ∧ r = rgM τ x ∧ u = mw a cI cZ (s2 τ 0 0 0))) := by
  refine gc_body (Qc := gc_Qi D vCl (TY cI cB cZ cJ) (mw a cI cZ τ) (fun r u => (inR x 0 11 = false ∧ r = 0 ∧ u = mw a cI cZ (s2 τ 0 0 1)) ∨ (inR x 0 11 = true ∧ r = rgM τ x ∧ u = mw a cI cZ (s2 τ 0 0 0)))) (cc := c_M_register) (maxL := 2) (ret := (some .int)) (by decide) rfl (by simp [Value.category]) (Nat.le_of_ble_eq_true rfl) ?_
  intro p e s m args below meth c F
  have hx := F.1
  have hb := F.2.1
  refine gj_ld (i := 0) (pc2 := 1) rfl (fun _ _ _ h9 => lv_aload_n hx hb d_M_register_0 rfl h9) ?_
  refine gj_ld (i := 1) (pc2 := 2) rfl (fun _ _ _ h9 => lv_iload_n hx hb d_M_register_1 rfl h9) ?_
  refine gj_l (pc2 := 3) (fun _ _ _ => lv_iconst (v := 0) hx hb d_M_register_2 (by decide)) ?_
  refine gj_l (pc2 := 5) (fun _ _ _ => lv_bipush (v := (11)) hx hb d_M_register_3 (by decide)) ?_
  refine bj_s F k_M_in d_M_register_5 q_400 (ct_M_in _ _ _) (rmo rfl) rfl rfl (Nat.le_of_ble_eq_true rfl) (Nat.zero_le _) (Nat.zero_le _) rfl (fun r9 e9 => ?_)
  subst e9
  refine gj_if (pc2 := 15) (pc3 := 11) (fun _ _ _ => lv_if_ne (tgt := 15) hx hb d_M_register_8 (by decide)) (fun h8 => ?_) (fun h8 => ?_)
  · refine gj_l (pc2 := 16) (fun _ _ _ => lv_iconst (v := 0) hx hb d_M_register_15 (by decide)) ?_
    refine gj_l (pc2 := 17) (fun _ _ _ => lv_iconst (v := 0) hx hb d_M_register_16 (by decide)) ?_
    refine bj_vi F k_M_throwing d_M_register_17 q_403 (mw_at (i := 0) (by omega)) rfl (ct_M_throwing _ _) (rmo rfl) rfl rfl (Nat.le_of_ble_eq_true rfl) (Nat.zero_le _) (Nat.zero_le _) rfl (fun r9 u9 e9 => ?_)
    obtain ⟨rfl, rfl⟩ := e9
    refine gj_if (pc2 := 25) (pc3 := 23) (fun _ _ _ => lv_if_eq (tgt := 25) hx hb d_M_register_20 (by decide)) (fun h20 => ?_) (fun h20 => ?_)
    · refine gj_ld (i := 1) (pc2 := 26) rfl (fun _ _ _ h9 => lv_iload_n hx hb d_M_register_25 rfl h9) ?_
      refine gj_l (pc2 := 28) (fun _ _ _ => lv_bipush (v := (8)) hx hb d_M_register_26 (by decide)) ?_
      refine gj_if (pc2 := 38) (pc3 := 31) (fun _ _ _ => lv_icmp_ge (tgt := 38) hx hb d_M_register_28 (by decide)) (fun h28 => ?_) (fun h28 => ?_)
      · refine gj_ld (i := 1) (pc2 := 39) rfl (fun _ _ _ h9 => lv_iload_n hx hb d_M_register_38 rfl h9) ?_
        refine gj_l (pc2 := 41) (fun _ _ _ => lv_bipush (v := (8)) hx hb d_M_register_39 (by decide)) ?_
        refine gj_if (pc2 := 51) (pc3 := 44) (fun _ _ _ => lv_icmp_ne (tgt := 51) hx hb d_M_register_41 (by decide)) (fun h41 => ?_) (fun h41 => ?_)
        · refine gj_ld (i := 1) (pc2 := 52) rfl (fun _ _ _ h9 => lv_iload_n hx hb d_M_register_51 rfl h9) ?_
          refine gj_l (pc2 := 54) (fun _ _ _ => lv_bipush (v := (9)) hx hb d_M_register_52 (by decide)) ?_
          refine gj_if (pc2 := 72) (pc3 := 57) (fun _ _ _ => lv_icmp_ne (tgt := 72) hx hb d_M_register_54 (by decide)) (fun h54 => ?_) (fun h54 => ?_)
          · refine gj_ld (i := 1) (pc2 := 73) rfl (fun _ _ _ h9 => lv_iload_n hx hb d_M_register_72 rfl h9) ?_
            refine gj_l (pc2 := 75) (fun _ _ _ => lv_bipush (v := (10)) hx hb d_M_register_73 (by decide)) ?_
            refine gj_if (pc2 := 93) (pc3 := 78) (fun _ _ _ => lv_icmp_ne (tgt := 93) hx hb d_M_register_75 (by decide)) (fun h75 => ?_) (fun h75 => ?_)
            · refine gj_ld (i := 0) (pc2 := 94) rfl (fun _ _ _ h9 => lv_aload_n hx hb d_M_register_93 rfl h9) ?_
              refine mj_gi F 4 rfl d_M_register_94 q_334 rfl ?_
              exact gj_iret F d_M_register_97 (Nat.le_refl _) (Nat.le_refl _) (Or.inr ⟨bN_n0.mp h8, by unfold rgM; rw [if_neg (Int32.not_lt.mpr h28), if_neg h41, if_neg h54, if_neg h75]; rfl, rfl⟩)
            · refine gj_ld (i := 0) (pc2 := 79) rfl (fun _ _ _ h9 => lv_aload_n hx hb d_M_register_78 rfl h9) ?_
              refine mj_gi F 6 rfl d_M_register_79 q_336 rfl ?_
              refine gj_if (pc2 := 89) (pc3 := 85) (fun _ _ _ => lv_if_eq (tgt := 89) hx hb d_M_register_82 (by decide)) (fun h82 => ?_) (fun h82 => ?_)
              · refine gj_l (pc2 := 90) (fun _ _ _ => lv_iconst (v := 0) hx hb d_M_register_89 (by decide)) ?_
                refine gj_l (pc2 := 97) (fun _ _ _ => lv_goto (tgt := 97) hx hb d_M_register_90 (by decide)) ?_
                exact gj_iret F d_M_register_97 (Nat.le_refl _) (Nat.le_refl _) (Or.inr ⟨bN_n0.mp h8, by unfold rgM; rw [if_neg (Int32.not_lt.mpr h28), if_neg h41, if_neg h54, if_pos h75, if_pos (show τ 0 6 = 0 from h82)], rfl⟩)
              · refine gj_l (pc2 := 86) (fun _ _ _ => lv_iconst (v := 1) hx hb d_M_register_85 (by decide)) ?_
                refine gj_l (pc2 := 97) (fun _ _ _ => lv_goto (tgt := 97) hx hb d_M_register_86 (by decide)) ?_
                exact gj_iret F d_M_register_97 (Nat.le_refl _) (Nat.le_refl _) (Or.inr ⟨bN_n0.mp h8, by unfold rgM; rw [if_neg (Int32.not_lt.mpr h28), if_neg h41, if_neg h54, if_pos h75, if_neg (show ¬ τ 0 6 = 0 from h82)], rfl⟩)
          · refine gj_ld (i := 0) (pc2 := 58) rfl (fun _ _ _ h9 => lv_aload_n hx hb d_M_register_57 rfl h9) ?_
            refine mj_gi F 5 rfl d_M_register_58 q_335 rfl ?_
            refine gj_if (pc2 := 68) (pc3 := 64) (fun _ _ _ => lv_if_eq (tgt := 68) hx hb d_M_register_61 (by decide)) (fun h61 => ?_) (fun h61 => ?_)
            · refine gj_l (pc2 := 69) (fun _ _ _ => lv_iconst (v := 0) hx hb d_M_register_68 (by decide)) ?_
              refine gj_l (pc2 := 97) (fun _ _ _ => lv_goto (tgt := 97) hx hb d_M_register_69 (by decide)) ?_
              exact gj_iret F d_M_register_97 (Nat.le_refl _) (Nat.le_refl _) (Or.inr ⟨bN_n0.mp h8, by unfold rgM; rw [if_neg (Int32.not_lt.mpr h28), if_neg h41, if_pos h54, if_pos (show τ 0 5 = 0 from h61)], rfl⟩)
            · refine gj_l (pc2 := 65) (fun _ _ _ => lv_iconst (v := 1) hx hb d_M_register_64 (by decide)) ?_
              refine gj_l (pc2 := 97) (fun _ _ _ => lv_goto (tgt := 97) hx hb d_M_register_65 (by decide)) ?_
              exact gj_iret F d_M_register_97 (Nat.le_refl _) (Nat.le_refl _) (Or.inr ⟨bN_n0.mp h8, by unfold rgM; rw [if_neg (Int32.not_lt.mpr h28), if_neg h41, if_pos h54, if_neg (show ¬ τ 0 5 = 0 from h61)], rfl⟩)
        · refine gj_ld (i := 0) (pc2 := 45) rfl (fun _ _ _ h9 => lv_aload_n hx hb d_M_register_44 rfl h9) ?_
          refine mj_gi F 3 rfl d_M_register_45 q_333 rfl ?_
          refine gj_l (pc2 := 97) (fun _ _ _ => lv_goto (tgt := 97) hx hb d_M_register_48 (by decide)) ?_
          exact gj_iret F d_M_register_97 (Nat.le_refl _) (Nat.le_refl _) (Or.inr ⟨bN_n0.mp h8, by unfold rgM; rw [if_neg (Int32.not_lt.mpr h28), if_pos h41]; rfl, rfl⟩)
      · have h9 := bN_n0.mp h8
        obtain ⟨i, hi, rfl⟩ := inR_8 h9 h28
        have hlo : lo3 (nI i) = i := lo3_nI hi
        refine gj_ld (i := 0) (pc2 := 32) rfl (fun _ _ _ h9 => lv_aload_n hx hb d_M_register_31 rfl h9) ?_
        refine mj_gr F 2 rfl d_M_register_32 q_332 rfl ?_
        refine gj_ld (i := 1) (pc2 := 36) rfl (fun _ _ _ h9 => lv_iload_n hx hb d_M_register_35 rfl h9) ?_
        refine mj_ld F 2 8 i (by omega) rfl (by decide) rfl hi d_M_register_36 rfl ?_
        exact gj_iret F d_M_register_37 (Nat.le_refl _) (Nat.le_refl _) (Or.inr ⟨h9, by unfold rgM; rw [if_pos (Int32.not_le.mp h28), hlo]; rfl, rfl⟩)
    · exact absurd h20 (by decide)
  · refine gj_l (pc2 := 12) (fun _ _ _ => lv_iconst (v := 1) hx hb d_M_register_11 (by decide)) ?_
    refine gj_l (pc2 := 16) (fun _ _ _ => lv_goto (tgt := 16) hx hb d_M_register_12 (by decide)) ?_
    refine gj_l (pc2 := 17) (fun _ _ _ => lv_iconst (v := 0) hx hb d_M_register_16 (by decide)) ?_
    refine bj_vi F k_M_throwing d_M_register_17 q_403 (mw_at (i := 0) (by omega)) rfl (ct_M_throwing _ _) (rmo rfl) rfl rfl (Nat.le_of_ble_eq_true rfl) (Nat.zero_le _) (Nat.zero_le _) rfl (fun r9 u9 e9 => ?_)
    obtain ⟨rfl, rfl⟩ := e9
    refine gj_if (pc2 := 25) (pc3 := 23) (fun _ _ _ => lv_if_eq (tgt := 25) hx hb d_M_register_20 (by decide)) (fun h20 => ?_) (fun h20 => ?_)
    · exact absurd h20 (by decide)
    · refine gj_l (pc2 := 24) (fun _ _ _ => lv_iconst (v := 0) hx hb d_M_register_23 (by decide)) ?_
      exact gj_iret F d_M_register_24 (Nat.le_refl _) (Nat.le_refl _) (Or.inl ⟨bN_0.mp h8, rfl, rfl⟩)

theorem k_M_row : CKV y_M_row c_M_row 3 (some .int) 2 := ⟨q_481, q_3, q_479, q_480, ⟨by decide +kernel, by decide +kernel, by decide +kernel⟩⟩
set_option maxHeartbeats 4000000 in
set_option maxRecDepth 100000 in
theorem ct_M_row {l : Launch} {D : va_G} {cI cB cZ cJ : ClassId} {a : Nat → Nat} {τ : St} (x z : Int32) : GCi l y_M_row (Cond.code y_M_row c_M_row 3 (some .int) :: tbW) ({ frames := 1, cells := 0, slots := 0, locals := 22 }) 0 0 D vCl (TY cI cB cZ cJ) [.ref (a 0), .int x, .int z] (mw a cI cZ τ) (fun r u => ((inR x 0 31 = false ∨ inR z 0 2 = false) ∧ r = 0 ∧ u = mw a cI cZ (s2 τ 0 0 1)) ∨ ∃ k : Nat, k < 32 ∧ x = nI k ∧ inR z 0 2 = true ∧ r = rwM τ k z ∧ u = mw a cI cZ (s2 τ 0 0 0)) := by
  refine gc_body (Qc := gc_Qi D vCl (TY cI cB cZ cJ) (mw a cI cZ τ) (fun r u => ((inR x 0 31 = false ∨ inR z 0 2 = false) ∧ r = 0 ∧ u = mw a cI cZ (s2 τ 0 0 1)) ∨ ∃ k : Nat, k < 32 ∧ x = nI k ∧ inR z 0 2 = true ∧ r = rwM τ k z ∧ u = mw a cI cZ (s2 τ 0 0 0))) (cc := c_M_row) (maxL := 3) (ret := (some .int)) (by decide) rfl (by simp [Value.category]) (Nat.le_of_ble_eq_true rfl) ?_
  intro p e s m args below meth c F
  have hx := F.1
  have hb := F.2.1
  refine gj_ld (i := 0) (pc2 := 1) rfl (fun _ _ _ h9 => lv_aload_n hx hb d_M_row_0 rfl h9) ?_
  refine gj_ld (i := 1) (pc2 := 2) rfl (fun _ _ _ h9 => lv_iload_n hx hb d_M_row_1 rfl h9) ?_
  refine gj_l (pc2 := 3) (fun _ _ _ => lv_iconst (v := 0) hx hb d_M_row_2 (by decide)) ?_
  refine gj_l (pc2 := 5) (fun _ _ _ => lv_bipush (v := (31)) hx hb d_M_row_3 (by decide)) ?_
  refine bj_s F k_M_in d_M_row_5 q_400 (ct_M_in _ _ _) (rmo rfl) rfl rfl (Nat.le_of_ble_eq_true rfl) (Nat.zero_le _) (Nat.zero_le _) rfl (fun r9 e9 => ?_)
  subst e9
  refine gj_if (pc2 := 20) (pc3 := 11) (fun _ _ _ => lv_if_eq (tgt := 20) hx hb d_M_row_8 (by decide)) (fun h8 => ?_) (fun h8 => ?_)
  · refine gj_l (pc2 := 21) (fun _ _ _ => lv_iconst (v := 1) hx hb d_M_row_20 (by decide)) ?_
    refine gj_l (pc2 := 25) (fun _ _ _ => lv_goto (tgt := 25) hx hb d_M_row_21 (by decide)) ?_
    refine gj_l (pc2 := 26) (fun _ _ _ => lv_iconst (v := 0) hx hb d_M_row_25 (by decide)) ?_
    refine bj_vi F k_M_throwing d_M_row_26 q_403 (mw_at (i := 0) (by omega)) rfl (ct_M_throwing _ _) (rmo rfl) rfl rfl (Nat.le_of_ble_eq_true rfl) (Nat.zero_le _) (Nat.zero_le _) rfl (fun r9 u9 e9 => ?_)
    obtain ⟨rfl, rfl⟩ := e9
    refine gj_if (pc2 := 34) (pc3 := 32) (fun _ _ _ => lv_if_eq (tgt := 34) hx hb d_M_row_29 (by decide)) (fun h29 => ?_) (fun h29 => ?_)
    · exact absurd h29 (by decide)
    · refine gj_l (pc2 := 33) (fun _ _ _ => lv_iconst (v := 0) hx hb d_M_row_32 (by decide)) ?_
      exact gj_iret F d_M_row_33 (Nat.le_refl _) (Nat.le_refl _) (Or.inl ⟨Or.inl (bN_0.mp h8), rfl, rfl⟩)
  · refine gj_ld (i := 2) (pc2 := 12) rfl (fun _ _ _ h9 => lv_iload_n hx hb d_M_row_11 rfl h9) ?_
    refine gj_l (pc2 := 13) (fun _ _ _ => lv_iconst (v := 0) hx hb d_M_row_12 (by decide)) ?_
    refine gj_l (pc2 := 14) (fun _ _ _ => lv_iconst (v := 2) hx hb d_M_row_13 (by decide)) ?_
    refine bj_s F k_M_in d_M_row_14 q_400 (ct_M_in _ _ _) (rmo rfl) rfl rfl (Nat.le_of_ble_eq_true rfl) (Nat.zero_le _) (Nat.zero_le _) rfl (fun r9 e9 => ?_)
    subst e9
    refine gj_if (pc2 := 24) (pc3 := 20) (fun _ _ _ => lv_if_ne (tgt := 24) hx hb d_M_row_17 (by decide)) (fun h17 => ?_) (fun h17 => ?_)
    · refine gj_l (pc2 := 25) (fun _ _ _ => lv_iconst (v := 0) hx hb d_M_row_24 (by decide)) ?_
      refine gj_l (pc2 := 26) (fun _ _ _ => lv_iconst (v := 0) hx hb d_M_row_25 (by decide)) ?_
      refine bj_vi F k_M_throwing d_M_row_26 q_403 (mw_at (i := 0) (by omega)) rfl (ct_M_throwing _ _) (rmo rfl) rfl rfl (Nat.le_of_ble_eq_true rfl) (Nat.zero_le _) (Nat.zero_le _) rfl (fun r9 u9 e9 => ?_)
      obtain ⟨rfl, rfl⟩ := e9
      refine gj_if (pc2 := 34) (pc3 := 32) (fun _ _ _ => lv_if_eq (tgt := 34) hx hb d_M_row_29 (by decide)) (fun h29 => ?_) (fun h29 => ?_)
      · obtain ⟨k, hk, rfl⟩ := inR_31 (bN_n0.mp h8)
        have hz := bN_n0.mp h17
        refine gj_ld (i := 0) (pc2 := 35) rfl (fun _ _ _ h9 => lv_aload_n hx hb d_M_row_34 rfl h9) ?_
        refine mj_gr F 7 rfl d_M_row_35 q_337 rfl ?_
        refine gj_ld (i := 1) (pc2 := 39) rfl (fun _ _ _ h9 => lv_iload_n hx hb d_M_row_38 rfl h9) ?_
        refine mj_zl F k rfl hk d_M_row_39 rfl ?_
        refine gj_if (pc2 := 53) (pc3 := 43) (fun _ _ _ => lv_if_ne (tgt := 53) hx hb d_M_row_40 (by decide)) (fun h40 => ?_) (fun h40 => ?_)
        · refine gj_ld (i := 2) (pc2 := 54) rfl (fun _ _ _ h9 => lv_iload_n hx hb d_M_row_53 rfl h9) ?_
          refine gj_if (pc2 := 66) (pc3 := 57) (fun _ _ _ => lv_if_ne (tgt := 66) hx hb d_M_row_54 (by decide)) (fun h54 => ?_) (fun h54 => ?_)
          · refine gj_ld (i := 2) (pc2 := 67) rfl (fun _ _ _ h9 => lv_iload_n hx hb d_M_row_66 rfl h9) ?_
            refine gj_l (pc2 := 68) (fun _ _ _ => lv_iconst (v := 1) hx hb d_M_row_67 (by decide)) ?_
            refine gj_if (pc2 := 80) (pc3 := 71) (fun _ _ _ => lv_icmp_ne (tgt := 80) hx hb d_M_row_68 (by decide)) (fun h68 => ?_) (fun h68 => ?_)
            · refine gj_ld (i := 0) (pc2 := 81) rfl (fun _ _ _ h9 => lv_aload_n hx hb d_M_row_80 rfl h9) ?_
              refine mj_gr F 10 rfl d_M_row_81 q_340 rfl ?_
              refine gj_ld (i := 1) (pc2 := 85) rfl (fun _ _ _ h9 => lv_iload_n hx hb d_M_row_84 rfl h9) ?_
              refine mj_ld F 6 32 k (by omega) rfl (by decide) rfl hk d_M_row_85 rfl ?_
              exact gj_iret F d_M_row_86 (Nat.le_refl _) (Nat.le_refl _) (Or.inr ⟨k, hk, rfl, hz, by unfold rwM; rw [if_neg (show ¬ τ 3 k = 0 from h40), if_neg h54, if_neg h68]; rfl, rfl⟩)
            · refine gj_ld (i := 0) (pc2 := 72) rfl (fun _ _ _ h9 => lv_aload_n hx hb d_M_row_71 rfl h9) ?_
              refine mj_gr F 9 rfl d_M_row_72 q_339 rfl ?_
              refine gj_ld (i := 1) (pc2 := 76) rfl (fun _ _ _ h9 => lv_iload_n hx hb d_M_row_75 rfl h9) ?_
              refine mj_ld F 5 32 k (by omega) rfl (by decide) rfl hk d_M_row_76 rfl ?_
              refine gj_l (pc2 := 86) (fun _ _ _ => lv_goto (tgt := 86) hx hb d_M_row_77 (by decide)) ?_
              exact gj_iret F d_M_row_86 (Nat.le_refl _) (Nat.le_refl _) (Or.inr ⟨k, hk, rfl, hz, by unfold rwM; rw [if_neg (show ¬ τ 3 k = 0 from h40), if_neg h54, if_pos h68]; rfl, rfl⟩)
          · refine gj_ld (i := 0) (pc2 := 58) rfl (fun _ _ _ h9 => lv_aload_n hx hb d_M_row_57 rfl h9) ?_
            refine mj_gr F 8 rfl d_M_row_58 q_338 rfl ?_
            refine gj_ld (i := 1) (pc2 := 62) rfl (fun _ _ _ h9 => lv_iload_n hx hb d_M_row_61 rfl h9) ?_
            refine mj_ld F 4 32 k (by omega) rfl (by decide) rfl hk d_M_row_62 rfl ?_
            refine gj_l (pc2 := 86) (fun _ _ _ => lv_goto (tgt := 86) hx hb d_M_row_63 (by decide)) ?_
            exact gj_iret F d_M_row_86 (Nat.le_refl _) (Nat.le_refl _) (Or.inr ⟨k, hk, rfl, hz, by unfold rwM; rw [if_neg (show ¬ τ 3 k = 0 from h40), if_pos h54]; rfl, rfl⟩)
        · refine gj_ld (i := 2) (pc2 := 44) rfl (fun _ _ _ h9 => lv_iload_n hx hb d_M_row_43 rfl h9) ?_
          refine gj_if (pc2 := 51) (pc3 := 47) (fun _ _ _ => lv_if_ne (tgt := 51) hx hb d_M_row_44 (by decide)) (fun h44 => ?_) (fun h44 => ?_)
          · refine gj_l (pc2 := 52) (fun _ _ _ => lv_iconst (v := 0) hx hb d_M_row_51 (by decide)) ?_
            exact gj_iret F d_M_row_52 (Nat.le_refl _) (Nat.le_refl _) (Or.inr ⟨k, hk, rfl, hz, by unfold rwM; rw [if_pos (show τ 3 k = 0 from h40), if_neg h44], rfl⟩)
          · refine gj_l (pc2 := 48) (fun _ _ _ => lv_iconst (v := (-1)) hx hb d_M_row_47 (by decide)) ?_
            refine gj_l (pc2 := 52) (fun _ _ _ => lv_goto (tgt := 52) hx hb d_M_row_48 (by decide)) ?_
            exact gj_iret F d_M_row_52 (Nat.le_refl _) (Nat.le_refl _) (Or.inr ⟨k, hk, rfl, hz, by unfold rwM; rw [if_pos (show τ 3 k = 0 from h40), if_pos h44], rfl⟩)
      · exact absurd h29 (by decide)
    · refine gj_l (pc2 := 21) (fun _ _ _ => lv_iconst (v := 1) hx hb d_M_row_20 (by decide)) ?_
      refine gj_l (pc2 := 25) (fun _ _ _ => lv_goto (tgt := 25) hx hb d_M_row_21 (by decide)) ?_
      refine gj_l (pc2 := 26) (fun _ _ _ => lv_iconst (v := 0) hx hb d_M_row_25 (by decide)) ?_
      refine bj_vi F k_M_throwing d_M_row_26 q_403 (mw_at (i := 0) (by omega)) rfl (ct_M_throwing _ _) (rmo rfl) rfl rfl (Nat.le_of_ble_eq_true rfl) (Nat.zero_le _) (Nat.zero_le _) rfl (fun r9 u9 e9 => ?_)
      obtain ⟨rfl, rfl⟩ := e9
      refine gj_if (pc2 := 34) (pc3 := 32) (fun _ _ _ => lv_if_eq (tgt := 34) hx hb d_M_row_29 (by decide)) (fun h29 => ?_) (fun h29 => ?_)
      · exact absurd h29 (by decide)
      · refine gj_l (pc2 := 33) (fun _ _ _ => lv_iconst (v := 0) hx hb d_M_row_32 (by decide)) ?_
        exact gj_iret F d_M_row_33 (Nat.le_refl _) (Nat.le_refl _) (Or.inl ⟨Or.inr (bN_0.mp h17), rfl, rfl⟩)

theorem k_M_forget : CKV y_M_forget c_M_forget 3 (some .int) 0 := ⟨q_485, q_3, q_483, q_484, ⟨by decide +kernel, by decide +kernel, by decide +kernel⟩⟩
set_option maxHeartbeats 4000000 in
set_option maxRecDepth 100000 in
theorem ct_M_forget {l : Launch} {D : va_G} {cI cB cZ cJ : ClassId} {a : Nat → Nat} {τ : St}  : GCi l y_M_forget (Cond.code y_M_forget c_M_forget 3 (some .int) :: tbW) ({ frames := 1, cells := 0, slots := 0, locals := 21 }) 0 0 D vCl (TY cI cB cZ cJ) [.ref (a 0)] (mw a cI cZ τ) (fun r u => r = mfN (s2 τ 0 0 0) 32 ∧ u = mw a cI cZ (mfS (s2 τ 0 0 0) 32)) := by
  refine gc_body (Qc := gc_Qi D vCl (TY cI cB cZ cJ) (mw a cI cZ τ) (fun r u => r = mfN (s2 τ 0 0 0) 32 ∧ u = mw a cI cZ (mfS (s2 τ 0 0 0) 32))) (cc := c_M_forget) (maxL := 3) (ret := (some .int)) (by decide) rfl (by simp [Value.category]) (Nat.le_of_ble_eq_true rfl) ?_
  intro p e s m args below meth c F
  have hx := F.1
  have hb := F.2.1
  refine gj_ld (i := 0) (pc2 := 1) rfl (fun _ _ _ h9 => lv_aload_n hx hb d_M_forget_0 rfl h9) ?_
  refine gj_l (pc2 := 2) (fun _ _ _ => lv_iconst (v := 0) hx hb d_M_forget_1 (by decide)) ?_
  refine mj_pi F 0 rfl d_M_forget_2 q_330 rfl ?_
  refine gj_l (pc2 := 6) (fun _ _ _ => lv_iconst (v := 0) hx hb d_M_forget_5 (by decide)) ?_
  refine gj_st (i := 1) (pc2 := 7) (Nat.le_of_ble_eq_true rfl) rfl (fun _ _ _ _ _ h9 l9 => lv_istore_n hx hb d_M_forget_6 rfl h9 (Nat.le_of_ble_eq_true rfl) l9) ?_
  refine gj_l (pc2 := 8) (fun _ _ _ => lv_iconst (v := 0) hx hb d_M_forget_7 (by decide)) ?_
  refine gj_st (i := 2) (pc2 := 9) (Nat.le_of_ble_eq_true rfl) rfl (fun _ _ _ _ _ h9 l9 => lv_istore_n hx hb d_M_forget_8 rfl h9 (Nat.le_of_ble_eq_true rfl) l9) ?_
  refine gj_loop 32 (fun k => mw a cI cZ (mfS (s2 τ 0 0 0) k)) (fun k => [.ref (a 0), .int (mfN (s2 τ 0 0 0) k), .int (nI k)]) (fun k hk ih => ?_)
  refine gj_ld (i := 2) (pc2 := 10) rfl (fun _ _ _ h9 => lv_iload_n hx hb d_M_forget_9 rfl h9) ?_
  refine gj_l (pc2 := 12) (fun _ _ _ => lv_bipush (v := (32)) hx hb d_M_forget_10 (by decide)) ?_
  refine gj_if (pc2 := 41) (pc3 := 15) (fun _ _ _ => lv_icmp_ge (tgt := 41) hx hb d_M_forget_12 (by decide)) (fun h12 => ?_) (fun h12 => ?_)
  · have hk9 : 32 ≤ k := nI_ge_of h12 (by omega) (by omega)
    have hk8 : k = 32 := by omega
    subst hk8
    refine gj_ld (i := 1) (pc2 := 42) rfl (fun _ _ _ h9 => lv_iload_n hx hb d_M_forget_41 rfl h9) ?_
    exact gj_iret F d_M_forget_42 (Nat.le_refl _) (Nat.le_refl _) ⟨rfl, rfl⟩
  · have hlt : k < 32 := nI_lt_of h12 (by omega)
    refine gj_ld (i := 0) (pc2 := 16) rfl (fun _ _ _ h9 => lv_aload_n hx hb d_M_forget_15 rfl h9) ?_
    refine mj_gr F 7 rfl d_M_forget_16 q_337 rfl ?_
    refine gj_ld (i := 2) (pc2 := 20) rfl (fun _ _ _ h9 => lv_iload_n hx hb d_M_forget_19 rfl h9) ?_
    refine mj_zl F k rfl hlt d_M_forget_20 rfl ?_
    refine gj_if (pc2 := 27) (pc3 := 24) (fun _ _ _ => lv_if_ne (tgt := 27) hx hb d_M_forget_21 (by decide)) (fun h21 => ?_) (fun h21 => ?_)
    · refine gj_ld (i := 0) (pc2 := 28) rfl (fun _ _ _ h9 => lv_aload_n hx hb d_M_forget_27 rfl h9) ?_
      refine gj_ld (i := 2) (pc2 := 29) rfl (fun _ _ _ h9 => lv_iload_n hx hb d_M_forget_28 rfl h9) ?_
      refine bj_vv F k_M_throwOut d_M_forget_29 q_411 (mw_at (i := 0) (by omega)) rfl (ct_M_throwOut hlt) (rmo rfl) rfl rfl (Nat.le_of_ble_eq_true rfl) (Nat.zero_le _) (Nat.zero_le _) rfl (fun u9 e9 => ?_)
      subst e9
      refine gj_iinc (pc2 := 35) hx hb d_M_forget_32 (Nat.le_of_ble_eq_true rfl) rfl rfl rfl ?_
      refine gj_iinc (pc2 := 38) hx hb d_M_forget_35 (Nat.le_of_ble_eq_true rfl) rfl (nI_1 k) rfl ?_
      refine gj_l (pc2 := 9) (fun _ _ _ => lv_goto (tgt := 9) hx hb d_M_forget_38 (by decide)) ?_
      exact gj_eq (w2 := mw a cI cZ (mfS (s2 τ 0 0 0) (k + 1))) (L2 := [.ref (a 0), .int (mfN (s2 τ 0 0 0) (k + 1)), .int (nI (k + 1))]) (by rw [mfS, if_neg h21]) (by rw [mfN, if_neg h21]; rfl) rfl (ih hlt)
    · refine gj_l (pc2 := 35) (fun _ _ _ => lv_goto (tgt := 35) hx hb d_M_forget_24 (by decide)) ?_
      refine gj_iinc (pc2 := 38) hx hb d_M_forget_35 (Nat.le_of_ble_eq_true rfl) rfl (nI_1 k) rfl ?_
      refine gj_l (pc2 := 9) (fun _ _ _ => lv_goto (tgt := 9) hx hb d_M_forget_38 (by decide)) ?_
      exact gj_eq (w2 := mw a cI cZ (mfS (s2 τ 0 0 0) (k + 1))) (L2 := [.ref (a 0), .int (mfN (s2 τ 0 0 0) (k + 1)), .int (nI (k + 1))]) (by rw [mfS, if_pos h21]) (by rw [mfN, if_pos h21]; rfl) rfl (ih hlt)

theorem k_M_count : CKV y_M_count c_M_count 4 (some .int) 1 := ⟨q_489, q_3, q_487, q_488, ⟨by decide +kernel, by decide +kernel, by decide +kernel⟩⟩
set_option maxHeartbeats 4000000 in
set_option maxRecDepth 100000 in
theorem ct_M_count {l : Launch} {D : va_G} {cI cB cZ cJ : ClassId} {a : Nat → Nat} {τ : St} (x : Int32) : GCi l y_M_count (Cond.code y_M_count c_M_count 4 (some .int) :: tbW) ({ frames := 0, cells := 0, slots := 0, locals := 0 }) 0 0 D vCl (TY cI cB cZ cJ) [.ref (a 0), .int x] (mw a cI cZ τ) (fun r u => r = cnM τ x ∧ u = mw a cI cZ (s2 τ 0 0 0)) := by
  refine gc_body (Qc := gc_Qi D vCl (TY cI cB cZ cJ) (mw a cI cZ τ) (fun r u => r = cnM τ x ∧ u = mw a cI cZ (s2 τ 0 0 0))) (cc := c_M_count) (maxL := 4) (ret := (some .int)) (by decide) rfl (by simp [Value.category]) (Nat.le_of_ble_eq_true rfl) ?_
  intro p e s m args below meth c F
  have hx := F.1
  have hb := F.2.1
  refine gj_ld (i := 0) (pc2 := 1) rfl (fun _ _ _ h9 => lv_aload_n hx hb d_M_count_0 rfl h9) ?_
  refine gj_l (pc2 := 2) (fun _ _ _ => lv_iconst (v := 0) hx hb d_M_count_1 (by decide)) ?_
  refine mj_pi F 0 rfl d_M_count_2 q_330 rfl ?_
  refine gj_l (pc2 := 6) (fun _ _ _ => lv_iconst (v := 0) hx hb d_M_count_5 (by decide)) ?_
  refine gj_st (i := 2) (pc2 := 7) (Nat.le_of_ble_eq_true rfl) rfl (fun _ _ _ _ _ h9 l9 => lv_istore_n hx hb d_M_count_6 rfl h9 (Nat.le_of_ble_eq_true rfl) l9) ?_
  refine gj_l (pc2 := 8) (fun _ _ _ => lv_iconst (v := 0) hx hb d_M_count_7 (by decide)) ?_
  refine gj_st (i := 3) (pc2 := 9) (Nat.le_of_ble_eq_true rfl) rfl (fun _ _ _ _ _ h9 l9 => lv_istore_n hx hb d_M_count_8 rfl h9 (Nat.le_of_ble_eq_true rfl) l9) ?_
  refine gj_loop 32 (fun k => mw a cI cZ (s2 τ 0 0 0)) (fun k => [.ref (a 0), .int x, .int (mNt τ k), .int (nI k)]) (fun k hk ih => ?_)
  refine gj_ld (i := 3) (pc2 := 10) rfl (fun _ _ _ h9 => lv_iload_n hx hb d_M_count_9 rfl h9) ?_
  refine gj_l (pc2 := 12) (fun _ _ _ => lv_bipush (v := (32)) hx hb d_M_count_10 (by decide)) ?_
  refine gj_if (pc2 := 38) (pc3 := 15) (fun _ _ _ => lv_icmp_ge (tgt := 38) hx hb d_M_count_12 (by decide)) (fun h12 => ?_) (fun h12 => ?_)
  · have hk9 : 32 ≤ k := nI_ge_of h12 (by omega) (by omega)
    have hk8 : k = 32 := by omega
    subst hk8
    refine gj_ld (i := 1) (pc2 := 39) rfl (fun _ _ _ h9 => lv_iload_n hx hb d_M_count_38 rfl h9) ?_
    by_cases h39_0 : x = 0
    · rw [h39_0]
      refine gj_l (pc2 := 80) (fun _ _ _ => lv_tableIn (tgt := 80) hx hb d_M_count_39 (by decide) (by decide) rfl (by decide)) ?_
      refine gj_ld (i := 0) (pc2 := 81) rfl (fun _ _ _ h9 => lv_aload_n hx hb d_M_count_80 rfl h9) ?_
      refine mj_gi F 13 rfl d_M_count_81 q_343 rfl ?_
      exact gj_iret F d_M_count_84 (Nat.le_refl _) (Nat.le_refl _) ⟨by unfold cnM; rw [if_pos rfl]; first | done | rfl, rfl⟩
    by_cases h39_1 : x = 1
    · rw [h39_1]
      refine gj_l (pc2 := 85) (fun _ _ _ => lv_tableIn (tgt := 85) hx hb d_M_count_39 (by decide) (by decide) rfl (by decide)) ?_
      refine gj_ld (i := 0) (pc2 := 86) rfl (fun _ _ _ h9 => lv_aload_n hx hb d_M_count_85 rfl h9) ?_
      refine mj_gi F 14 rfl d_M_count_86 q_344 rfl ?_
      exact gj_iret F d_M_count_89 (Nat.le_refl _) (Nat.le_refl _) ⟨by unfold cnM; rw [if_neg (by first | exact h39_0 | decide), if_pos rfl]; first | done | rfl, rfl⟩
    by_cases h39_2 : x = 2
    · rw [h39_2]
      refine gj_l (pc2 := 90) (fun _ _ _ => lv_tableIn (tgt := 90) hx hb d_M_count_39 (by decide) (by decide) rfl (by decide)) ?_
      refine gj_ld (i := 0) (pc2 := 91) rfl (fun _ _ _ h9 => lv_aload_n hx hb d_M_count_90 rfl h9) ?_
      refine mj_gi F 15 rfl d_M_count_91 q_345 rfl ?_
      exact gj_iret F d_M_count_94 (Nat.le_refl _) (Nat.le_refl _) ⟨by unfold cnM; rw [if_neg (by first | exact h39_0 | decide), if_neg (by first | exact h39_1 | decide), if_pos rfl]; first | done | rfl, rfl⟩
    by_cases h39_3 : x = 3
    · rw [h39_3]
      refine gj_l (pc2 := 95) (fun _ _ _ => lv_tableIn (tgt := 95) hx hb d_M_count_39 (by decide) (by decide) rfl (by decide)) ?_
      refine gj_ld (i := 0) (pc2 := 96) rfl (fun _ _ _ h9 => lv_aload_n hx hb d_M_count_95 rfl h9) ?_
      refine mj_gi F 16 rfl d_M_count_96 q_346 rfl ?_
      exact gj_iret F d_M_count_99 (Nat.le_refl _) (Nat.le_refl _) ⟨by unfold cnM; rw [if_neg (by first | exact h39_0 | decide), if_neg (by first | exact h39_1 | decide), if_neg (by first | exact h39_2 | decide), if_pos rfl]; first | done | rfl, rfl⟩
    by_cases h39_4 : x = 4
    · rw [h39_4]
      refine gj_l (pc2 := 100) (fun _ _ _ => lv_tableIn (tgt := 100) hx hb d_M_count_39 (by decide) (by decide) rfl (by decide)) ?_
      refine gj_ld (i := 2) (pc2 := 101) rfl (fun _ _ _ h9 => lv_iload_n hx hb d_M_count_100 rfl h9) ?_
      exact gj_iret F d_M_count_101 (Nat.le_refl _) (Nat.le_refl _) ⟨by unfold cnM; rw [if_neg (by first | exact h39_0 | decide), if_neg (by first | exact h39_1 | decide), if_neg (by first | exact h39_2 | decide), if_neg (by first | exact h39_3 | decide), if_pos rfl]; first | done | rfl, rfl⟩
    by_cases h39_5 : x = 5
    · rw [h39_5]
      refine gj_l (pc2 := 102) (fun _ _ _ => lv_tableIn (tgt := 102) hx hb d_M_count_39 (by decide) (by decide) rfl (by decide)) ?_
      refine gj_ld (i := 0) (pc2 := 103) rfl (fun _ _ _ h9 => lv_aload_n hx hb d_M_count_102 rfl h9) ?_
      refine mj_gi F 17 rfl d_M_count_103 q_347 rfl ?_
      exact gj_iret F d_M_count_106 (Nat.le_refl _) (Nat.le_refl _) ⟨by unfold cnM; rw [if_neg (by first | exact h39_0 | decide), if_neg (by first | exact h39_1 | decide), if_neg (by first | exact h39_2 | decide), if_neg (by first | exact h39_3 | decide), if_neg (by first | exact h39_4 | decide), if_pos rfl]; first | done | rfl, rfl⟩
    by_cases h39_6 : x = 6
    · rw [h39_6]
      refine gj_l (pc2 := 107) (fun _ _ _ => lv_tableIn (tgt := 107) hx hb d_M_count_39 (by decide) (by decide) rfl (by decide)) ?_
      refine gj_ld (i := 0) (pc2 := 108) rfl (fun _ _ _ h9 => lv_aload_n hx hb d_M_count_107 rfl h9) ?_
      refine mj_gi F 18 rfl d_M_count_108 q_348 rfl ?_
      exact gj_iret F d_M_count_111 (Nat.le_refl _) (Nat.le_refl _) ⟨by unfold cnM; rw [if_neg (by first | exact h39_0 | decide), if_neg (by first | exact h39_1 | decide), if_neg (by first | exact h39_2 | decide), if_neg (by first | exact h39_3 | decide), if_neg (by first | exact h39_4 | decide), if_neg (by first | exact h39_5 | decide), if_pos rfl]; first | done | rfl, rfl⟩
    have hsw : (x).toInt < 0 ∨ 6 < (x).toInt := by
      by_cases z : (x).toInt < 0
      · exact Or.inl z
      by_cases z2 : 6 < (x).toInt
      · exact Or.inr z2
      exfalso
      rcases (show (x).toInt = 0 ∨ (x).toInt = 1 ∨ (x).toInt = 2 ∨ (x).toInt = 3 ∨ (x).toInt = 4 ∨ (x).toInt = 5 ∨ (x).toInt = 6 by omega) with z3 | z3 | z3 | z3 | z3 | z3 | z3
      · exact h39_0 (Int32.toInt_inj.mp (z3.trans (by decide)))
      · exact h39_1 (Int32.toInt_inj.mp (z3.trans (by decide)))
      · exact h39_2 (Int32.toInt_inj.mp (z3.trans (by decide)))
      · exact h39_3 (Int32.toInt_inj.mp (z3.trans (by decide)))
      · exact h39_4 (Int32.toInt_inj.mp (z3.trans (by decide)))
      · exact h39_5 (Int32.toInt_inj.mp (z3.trans (by decide)))
      · exact h39_6 (Int32.toInt_inj.mp (z3.trans (by decide)))
    refine gj_l (pc2 := 112) (fun _ _ _ => lv_tableOut (tgt := 112) hx hb d_M_count_39 hsw (by decide)) ?_
    refine gj_l (pc2 := 113) (fun _ _ _ => lv_iconst (v := (-1)) hx hb d_M_count_112 (by decide)) ?_
    exact gj_iret F d_M_count_113 (Nat.le_refl _) (Nat.le_refl _) ⟨by unfold cnM; rw [if_neg (by first | exact h39_0 | decide), if_neg (by first | exact h39_1 | decide), if_neg (by first | exact h39_2 | decide), if_neg (by first | exact h39_3 | decide), if_neg (by first | exact h39_4 | decide), if_neg (by first | exact h39_5 | decide), if_neg (by first | exact h39_6 | decide)]; first | done | rfl, rfl⟩
  · have hlt : k < 32 := nI_lt_of h12 (by omega)
    refine gj_ld (i := 2) (pc2 := 16) rfl (fun _ _ _ h9 => lv_iload_n hx hb d_M_count_15 rfl h9) ?_
    refine gj_ld (i := 0) (pc2 := 17) rfl (fun _ _ _ h9 => lv_aload_n hx hb d_M_count_16 rfl h9) ?_
    refine mj_gr F 7 rfl d_M_count_17 q_337 rfl ?_
    refine gj_ld (i := 3) (pc2 := 21) rfl (fun _ _ _ h9 => lv_iload_n hx hb d_M_count_20 rfl h9) ?_
    refine mj_zl F k rfl hlt d_M_count_21 rfl ?_
    refine gj_if (pc2 := 29) (pc3 := 25) (fun _ _ _ => lv_if_eq (tgt := 29) hx hb d_M_count_22 (by decide)) (fun h22 => ?_) (fun h22 => ?_)
    · refine gj_l (pc2 := 30) (fun _ _ _ => lv_iconst (v := 0) hx hb d_M_count_29 (by decide)) ?_
      refine gj_l (pc2 := 31) (fun _ _ _ => lv_iadd hx hb d_M_count_30) ?_
      refine gj_st (i := 2) (pc2 := 32) (Nat.le_of_ble_eq_true rfl) rfl (fun _ _ _ _ _ h9 l9 => lv_istore_n hx hb d_M_count_31 rfl h9 (Nat.le_of_ble_eq_true rfl) l9) ?_
      refine gj_iinc (pc2 := 35) hx hb d_M_count_32 (Nat.le_of_ble_eq_true rfl) rfl (nI_1 k) rfl ?_
      refine gj_l (pc2 := 9) (fun _ _ _ => lv_goto (tgt := 9) hx hb d_M_count_35 (by decide)) ?_
      exact gj_eq (L2 := [.ref (a 0), .int x, .int (mNt τ (k + 1)), .int (nI (k + 1))]) rfl (by rw [mNt, if_pos (show τ 3 k = 0 from h22)]; rfl) rfl (ih hlt)
    · refine gj_l (pc2 := 26) (fun _ _ _ => lv_iconst (v := 1) hx hb d_M_count_25 (by decide)) ?_
      refine gj_l (pc2 := 30) (fun _ _ _ => lv_goto (tgt := 30) hx hb d_M_count_26 (by decide)) ?_
      refine gj_l (pc2 := 31) (fun _ _ _ => lv_iadd hx hb d_M_count_30) ?_
      refine gj_st (i := 2) (pc2 := 32) (Nat.le_of_ble_eq_true rfl) rfl (fun _ _ _ _ _ h9 l9 => lv_istore_n hx hb d_M_count_31 rfl h9 (Nat.le_of_ble_eq_true rfl) l9) ?_
      refine gj_iinc (pc2 := 35) hx hb d_M_count_32 (Nat.le_of_ble_eq_true rfl) rfl (nI_1 k) rfl ?_
      refine gj_l (pc2 := 9) (fun _ _ _ => lv_goto (tgt := 9) hx hb d_M_count_35 (by decide)) ?_
      exact gj_eq (L2 := [.ref (a 0), .int x, .int (mNt τ (k + 1)), .int (nI (k + 1))]) rfl (by rw [mNt, if_neg (show ¬ τ 3 k = 0 from h22)]; rfl) rfl (ih hlt)
end
section
theorem k_M_run : CKV y_M_run c_M_run 4 (some .int) 1 := ⟨q_430, q_3, q_428, q_429, ⟨by decide +kernel, by decide +kernel, by decide +kernel⟩⟩
set_option maxHeartbeats 4000000 in
set_option maxRecDepth 100000 in
theorem ct_M_run {l : Launch} {D : va_G} {cI cB cZ cJ : ClassId} {a : Nat → Nat} {τ : St} (hZ : ZB τ) (hM : MI τ) (x : Int32) : GCi l y_M_run (Cond.code y_M_run c_M_run 4 (some .int) :: tbW) ({ frames := 6, cells := 0, slots := 0, locals := 130 }) 0 0 D vCl (TY cI cB cZ cJ) [.ref (a 0), .int x] (mw a cI cZ τ) (fun r u => (inR x 1 100 = false ∧ r = 0 ∧ u = mw a cI cZ (s2 τ 0 0 1)) ∨ ∃ N : Nat, 1 ≤ N ∧ N ≤ 100 ∧ x = nI N ∧ r = nI (ouL N N 0 (s2 τ 0 0 0)).2 ∧ u = mw a cI cZ (s2 (ouL N N 0 (s2 τ 0 0 0)).1 0 13 ((ouL N N 0 (s2 τ 0 0 0)).1 0 13 + nI (ouL N N 0 (s2 τ 0 0 0)).2))) := by
  refine gc_body (Qc := gc_Qi D vCl (TY cI cB cZ cJ) (mw a cI cZ τ) (fun r u => (inR x 1 100 = false ∧ r = 0 ∧ u = mw a cI cZ (s2 τ 0 0 1)) ∨ ∃ N : Nat, 1 ≤ N ∧ N ≤ 100 ∧ x = nI N ∧ r = nI (ouL N N 0 (s2 τ 0 0 0)).2 ∧ u = mw a cI cZ (s2 (ouL N N 0 (s2 τ 0 0 0)).1 0 13 ((ouL N N 0 (s2 τ 0 0 0)).1 0 13 + nI (ouL N N 0 (s2 τ 0 0 0)).2)))) (cc := c_M_run) (maxL := 4) (ret := (some .int)) (by decide) rfl (by simp [Value.category]) (Nat.le_of_ble_eq_true rfl) ?_
  intro p e s m args below meth c F
  have hx := F.1
  have hb := F.2.1
  refine gj_ld (i := 0) (pc2 := 1) rfl (fun _ _ _ h9 => lv_aload_n hx hb d_M_run_0 rfl h9) ?_
  refine gj_ld (i := 1) (pc2 := 2) rfl (fun _ _ _ h9 => lv_iload_n hx hb d_M_run_1 rfl h9) ?_
  refine gj_l (pc2 := 3) (fun _ _ _ => lv_iconst (v := 1) hx hb d_M_run_2 (by decide)) ?_
  refine gj_l (pc2 := 5) (fun _ _ _ => lv_bipush (v := (100)) hx hb d_M_run_3 (by decide)) ?_
  refine bj_s F k_M_in d_M_run_5 q_400 (ct_M_in _ _ _) (rmo rfl) rfl rfl (Nat.le_of_ble_eq_true rfl) (Nat.zero_le _) (Nat.zero_le _) rfl (fun r9 e9 => ?_)
  subst e9
  refine gj_if (pc2 := 15) (pc3 := 11) (fun _ _ _ => lv_if_ne (tgt := 15) hx hb d_M_run_8 (by decide)) (fun h8 => ?_) (fun h8 => ?_)
  · refine gj_l (pc2 := 16) (fun _ _ _ => lv_iconst (v := 0) hx hb d_M_run_15 (by decide)) ?_
    refine gj_l (pc2 := 17) (fun _ _ _ => lv_iconst (v := 0) hx hb d_M_run_16 (by decide)) ?_
    refine bj_vi F k_M_throwing d_M_run_17 q_403 (mw_at (i := 0) (by omega)) rfl (ct_M_throwing _ _) (rmo rfl) rfl rfl (Nat.le_of_ble_eq_true rfl) (Nat.zero_le _) (Nat.zero_le _) rfl (fun r9 u9 e9 => ?_)
    obtain ⟨rfl, rfl⟩ := e9
    refine gj_if (pc2 := 25) (pc3 := 23) (fun _ _ _ => lv_if_eq (tgt := 25) hx hb d_M_run_20 (by decide)) (fun h20 => ?_) (fun h20 => ?_)
    · obtain ⟨N, hN1, hN2, rfl⟩ := inR_100 (bN_n0.mp h8)
      refine gj_l (pc2 := 26) (fun _ _ _ => lv_iconst (v := 0) hx hb d_M_run_25 (by decide)) ?_
      refine gj_st (i := 2) (pc2 := 27) (Nat.le_of_ble_eq_true rfl) rfl (fun _ _ _ _ _ h9 l9 => lv_istore_n hx hb d_M_run_26 rfl h9 (Nat.le_of_ble_eq_true rfl) l9) ?_
      refine gj_fuel (T := Nat × St) (fun t => mw a cI cZ t.2) (fun t => [.ref (a 0), .int (nI N), .int (nI t.1)]) (fun f t => ouL N f t.1 t.2 = (ouL N N 0 (s2 τ 0 0 0)) ∧ t.1 ≤ N ∧ ZB t.2 ∧ MI t.2 ∧ (t.2 0 4 = 0 → N ≤ t.1 + f)) (fun f t hv ih => ?_) N (0, s2 τ 0 0 0) ⟨rfl, Nat.zero_le N, hZ.of rfl rfl, fun k hk h3 => hM k hk h3, fun _ => by dsimp only; omega⟩
      obtain ⟨d, φ⟩ := t
      obtain ⟨hR, hd9, hZ1, hM1, hF⟩ := hv
      dsimp only at hR hd9 hZ1 hM1 hF ⊢
      refine gj_ld (i := 0) (pc2 := 28) rfl (fun _ _ _ h9 => lv_aload_n hx hb d_M_run_27 rfl h9) ?_
      refine mj_gi F 4 rfl d_M_run_28 q_334 rfl ?_
      refine gj_if (pc2 := 105) (pc3 := 34) (fun _ _ _ => lv_if_ne (tgt := 105) hx hb d_M_run_31 (by decide)) (fun h31 => ?_) (fun h31 => ?_)
      · have hR0 : (φ, d) = (ouL N N 0 (s2 τ 0 0 0)) := by cases f with | zero => exact hR | succ f => rw [ouL, if_neg (fun h => h31 h.1)] at hR; exact hR
        refine gj_ld (i := 0) (pc2 := 106) rfl (fun _ _ _ h9 => lv_aload_n hx hb d_M_run_105 rfl h9) ?_
        refine gj_l (pc2 := 107) (fun _ _ _ => lv_dup hx hb d_M_run_106 rfl) ?_
        refine mj_gi F 13 rfl d_M_run_107 q_343 rfl ?_
        refine gj_ld (i := 2) (pc2 := 111) rfl (fun _ _ _ h9 => lv_iload_n hx hb d_M_run_110 rfl h9) ?_
        refine gj_l (pc2 := 112) (fun _ _ _ => lv_iadd hx hb d_M_run_111) ?_
        refine mj_pi F 13 rfl d_M_run_112 q_343 rfl ?_
        refine gj_ld (i := 2) (pc2 := 116) rfl (fun _ _ _ h9 => lv_iload_n hx hb d_M_run_115 rfl h9) ?_
        exact gj_iret F d_M_run_116 (Nat.le_refl _) (Nat.le_refl _) (Or.inr ⟨N, hN1, hN2, rfl, by rw [← hR0], by rw [← hR0]⟩)
      · refine gj_ld (i := 2) (pc2 := 35) rfl (fun _ _ _ h9 => lv_iload_n hx hb d_M_run_34 rfl h9) ?_
        refine gj_ld (i := 1) (pc2 := 36) rfl (fun _ _ _ h9 => lv_iload_n hx hb d_M_run_35 rfl h9) ?_
        refine gj_if (pc2 := 105) (pc3 := 39) (fun _ _ _ => lv_icmp_ge (tgt := 105) hx hb d_M_run_36 (by decide)) (fun h36 => ?_) (fun h36 => ?_)
        · have h37 := nI_ge_of h36 (by omega) (by omega)
          have hR0 : (φ, d) = (ouL N N 0 (s2 τ 0 0 0)) := by cases f with | zero => exact hR | succ f => rw [ouL, if_neg (fun h => absurd h.2 (by omega))] at hR; exact hR
          refine gj_ld (i := 0) (pc2 := 106) rfl (fun _ _ _ h9 => lv_aload_n hx hb d_M_run_105 rfl h9) ?_
          refine gj_l (pc2 := 107) (fun _ _ _ => lv_dup hx hb d_M_run_106 rfl) ?_
          refine mj_gi F 13 rfl d_M_run_107 q_343 rfl ?_
          refine gj_ld (i := 2) (pc2 := 111) rfl (fun _ _ _ h9 => lv_iload_n hx hb d_M_run_110 rfl h9) ?_
          refine gj_l (pc2 := 112) (fun _ _ _ => lv_iadd hx hb d_M_run_111) ?_
          refine mj_pi F 13 rfl d_M_run_112 q_343 rfl ?_
          refine gj_ld (i := 2) (pc2 := 116) rfl (fun _ _ _ h9 => lv_iload_n hx hb d_M_run_115 rfl h9) ?_
          exact gj_iret F d_M_run_116 (Nat.le_refl _) (Nat.le_refl _) (Or.inr ⟨N, hN1, hN2, rfl, by rw [← hR0], by rw [← hR0]⟩)
        · have hdN := nI_lt_of h36 (by omega)
          have hfN := hF h31
          obtain ⟨g, rfl⟩ : ∃ g, f = g + 1 := ⟨f - 1, by omega⟩
          rw [ouL, if_pos ⟨h31, hdN⟩] at hR
          obtain ⟨hS1, hS2, hS3, hS5, hS4, hS12, hSZ⟩ := ouS_f hM1
          refine gj_ld (i := 0) (pc2 := 40) rfl (fun _ _ _ h9 => lv_aload_n hx hb d_M_run_39 rfl h9) ?_
          refine bj_vv F k_M_find d_M_run_40 q_431 (mw_at (i := 0) (by omega)) rfl ct_M_find (rmo rfl) rfl rfl (Nat.le_of_ble_eq_true rfl) (Nat.zero_le _) (Nat.zero_le _) rfl (fun u9 e9 => ?_)
          subst e9
          refine gj_ld (i := 0) (pc2 := 44) rfl (fun _ _ _ h9 => lv_aload_n hx hb d_M_run_43 rfl h9) ?_
          refine mj_gr F 9 rfl d_M_run_44 q_339 rfl ?_
          refine gj_ld (i := 0) (pc2 := 48) rfl (fun _ _ _ h9 => lv_aload_n hx hb d_M_run_47 rfl h9) ?_
          refine mj_gi F 11 rfl d_M_run_48 q_341 rfl ?_
          refine mj_ld F 5 32 (kAt (φ 0 3)) (by omega) rfl (by decide) (fiM_11 φ) (kAt_lt _) d_M_run_51 rfl ?_
          rw [hS5]
          refine gj_st (i := 3) (pc2 := 53) (Nat.le_of_ble_eq_true rfl) rfl (fun _ _ _ _ _ h9 l9 => lv_istore_n hx hb d_M_run_52 rfl h9 (Nat.le_of_ble_eq_true rfl) l9) ?_
          refine gj_ld (i := 0) (pc2 := 54) rfl (fun _ _ _ h9 => lv_aload_n hx hb d_M_run_53 rfl h9) ?_
          refine gj_l (pc2 := 55) (fun _ _ _ => lv_iconst (v := 0) hx hb d_M_run_54 (by decide)) ?_
          refine mj_pz F 12 rfl (by first | exact ⟨rfl, rfl⟩ | exact bN_f _) d_M_run_55 q_342 rfl ?_
          refine gj_fuel (T := Nat × Nat × St) (fun t => mw a cI cZ t.2.2) (fun t => [.ref (a 0), .int (nI N), .int (nI t.2.1), .int (nI t.1)]) (fun f t => t.1 = f ∧ f ≤ 12 ∧ inL N f t.2.1 t.2.2 = inL N (ouW φ) d (ouS φ) ∧ t.2.1 ≤ N ∧ ZB t.2.2 ∧ MI t.2.2) (fun f2 t2 hv2 ih2 => ?_) (ouW φ) (ouW φ, d, ouS φ) ⟨rfl, hS3, rfl, hd9, hSZ hZ1, hS1⟩
          obtain ⟨g2, d2, υ⟩ := t2
          obtain ⟨rfl, hg12, hR1, hd2, hZ2, hM2⟩ := hv2
          dsimp only at hg12 hR1 hd2 hZ2 hM2 ⊢
          refine gj_ld (i := 3) (pc2 := 59) rfl (fun _ _ _ h9 => lv_iload_n hx hb d_M_run_58 rfl h9) ?_
          refine gj_if (pc2 := 102) (pc3 := 62) (fun _ _ _ => lv_if_le (tgt := 102) hx hb d_M_run_59 (by decide)) (fun h59 => ?_) (fun h59 => ?_)
          · have hg0 : g2 = 0 := by
              rcases Nat.lt_or_ge 0 g2 with z | z
              · exact absurd h59 (nI_nle z (by omega))
              · omega
            subst hg0
            rw [inL] at hR1
            refine gj_l (pc2 := 27) (fun _ _ _ => lv_goto (tgt := 27) hx hb d_M_run_102 (by decide)) ?_
            refine gj_eq (L2 := [.ref (a 0), .int (nI N), .int (nI d2)] ++ [.int (nI 0)]) rfl rfl rfl (gj_drop (ih g (d2, υ) rfl ⟨?_, ?_, ?_, ?_, ?_⟩))
            · dsimp only
              rw [← hR, ← hR1]
            · have := inL_le N (ouW φ) d (ouS φ) hd9
              rw [← hR1] at this
              exact this.2
            · exact hZ2
            · exact hM2
            · intro h0
              have := inL_go (n := N) (f := ouW φ - 1) (d := d) (τ := ouS φ) (by rw [hS4]; exact h31) hdN hS12
              rw [show ouW φ - 1 + 1 = ouW φ by omega, ← hR1] at this
              have h5 := this h0
              dsimp only at h5 ⊢
              omega
          · obtain ⟨g3, rfl⟩ : ∃ g3, g2 = g3 + 1 := ⟨g2 - 1, by
              rcases Nat.lt_or_ge 0 g2 with z | z
              · omega
              · have : g2 = 0 := by omega
                subst this
                exact absurd (show nI 0 ≤ 0 from by decide) h59⟩
            refine gj_ld (i := 0) (pc2 := 63) rfl (fun _ _ _ h9 => lv_aload_n hx hb d_M_run_62 rfl h9) ?_
            refine mj_gi F 4 rfl d_M_run_63 q_334 rfl ?_
            refine gj_if (pc2 := 102) (pc3 := 69) (fun _ _ _ => lv_if_ne (tgt := 102) hx hb d_M_run_66 (by decide)) (fun h66 => ?_) (fun h66 => ?_)
            · rw [inL, if_neg (fun h => h66 h.1)] at hR1
              refine gj_l (pc2 := 27) (fun _ _ _ => lv_goto (tgt := 27) hx hb d_M_run_102 (by decide)) ?_
              refine gj_eq (L2 := [.ref (a 0), .int (nI N), .int (nI d2)] ++ [.int (nI (g3 + 1))]) rfl rfl rfl (gj_drop (ih g (d2, υ) rfl ⟨?_, ?_, ?_, ?_, ?_⟩))
              · dsimp only
                rw [← hR, ← hR1]
              · have := inL_le N (ouW φ) d (ouS φ) hd9
                rw [← hR1] at this
                exact this.2
              · exact hZ2
              · exact hM2
              · intro h0
                have := inL_go (n := N) (f := ouW φ - 1) (d := d) (τ := ouS φ) (by rw [hS4]; exact h31) hdN hS12
                rw [show ouW φ - 1 + 1 = ouW φ by omega, ← hR1] at this
                have h5 := this h0
                dsimp only at h5 ⊢
                omega
            · refine gj_ld (i := 2) (pc2 := 70) rfl (fun _ _ _ h9 => lv_iload_n hx hb d_M_run_69 rfl h9) ?_
              refine gj_ld (i := 1) (pc2 := 71) rfl (fun _ _ _ h9 => lv_iload_n hx hb d_M_run_70 rfl h9) ?_
              refine gj_if (pc2 := 102) (pc3 := 74) (fun _ _ _ => lv_icmp_ge (tgt := 102) hx hb d_M_run_71 (by decide)) (fun h71 => ?_) (fun h71 => ?_)
              · have h72 := nI_ge_of h71 (by omega) (by omega)
                rw [inL, if_neg (fun h => absurd h.2.1 (by omega))] at hR1
                refine gj_l (pc2 := 27) (fun _ _ _ => lv_goto (tgt := 27) hx hb d_M_run_102 (by decide)) ?_
                refine gj_eq (L2 := [.ref (a 0), .int (nI N), .int (nI d2)] ++ [.int (nI (g3 + 1))]) rfl rfl rfl (gj_drop (ih g (d2, υ) rfl ⟨?_, ?_, ?_, ?_, ?_⟩))
                · dsimp only
                  rw [← hR, ← hR1]
                · have := inL_le N (ouW φ) d (ouS φ) hd9
                  rw [← hR1] at this
                  exact this.2
                · exact hZ2
                · exact hM2
                · intro h0
                  have := inL_go (n := N) (f := ouW φ - 1) (d := d) (τ := ouS φ) (by rw [hS4]; exact h31) hdN hS12
                  rw [show ouW φ - 1 + 1 = ouW φ by omega, ← hR1] at this
                  have h5 := this h0
                  dsimp only at h5 ⊢
                  omega
              · have hd3 := nI_lt_of h71 (by omega)
                refine gj_ld (i := 0) (pc2 := 75) rfl (fun _ _ _ h9 => lv_aload_n hx hb d_M_run_74 rfl h9) ?_
                refine mj_gi F 12 rfl d_M_run_75 q_342 rfl ?_
                refine gj_if (pc2 := 102) (pc3 := 81) (fun _ _ _ => lv_if_ne (tgt := 102) hx hb d_M_run_78 (by decide)) (fun h78 => ?_) (fun h78 => ?_)
                · rw [inL, if_neg (fun h => h78 h.2.2)] at hR1
                  refine gj_l (pc2 := 27) (fun _ _ _ => lv_goto (tgt := 27) hx hb d_M_run_102 (by decide)) ?_
                  refine gj_eq (L2 := [.ref (a 0), .int (nI N), .int (nI d2)] ++ [.int (nI (g3 + 1))]) rfl rfl rfl (gj_drop (ih g (d2, υ) rfl ⟨?_, ?_, ?_, ?_, ?_⟩))
                  · dsimp only
                    rw [← hR, ← hR1]
                  · have := inL_le N (ouW φ) d (ouS φ) hd9
                    rw [← hR1] at this
                    exact this.2
                  · exact hZ2
                  · exact hM2
                  · intro h0
                    have := inL_go (n := N) (f := ouW φ - 1) (d := d) (τ := ouS φ) (by rw [hS4]; exact h31) hdN hS12
                    rw [show ouW φ - 1 + 1 = ouW φ by omega, ← hR1] at this
                    have h5 := this h0
                    dsimp only at h5 ⊢
                    omega
                · rw [inL, if_pos ⟨h66, hd3, h78⟩] at hR1
                  refine gj_ld (i := 2) (pc2 := 82) rfl (fun _ _ _ h9 => lv_iload_n hx hb d_M_run_81 rfl h9) ?_
                  refine gj_ld (i := 0) (pc2 := 83) rfl (fun _ _ _ h9 => lv_aload_n hx hb d_M_run_82 rfl h9) ?_
                  refine bj_vi F k_M_does d_M_run_83 q_450 (mw_at (i := 0) (by omega)) rfl (ct_M_does hZ2) (rmo rfl) rfl rfl (Nat.le_of_ble_eq_true rfl) (Nat.zero_le _) (Nat.zero_le _) rfl (fun r9 u9 e9 => ?_)
                  obtain ⟨rfl, rfl⟩ := e9
                  refine gj_if (pc2 := 93) (pc3 := 89) (fun _ _ _ => lv_if_eq (tgt := 93) hx hb d_M_run_86 (by decide)) (fun h86 => ?_) (fun h86 => ?_)
                  · have hB := bN_0.mp h86
                    rw [hB] at hR1
                    refine gj_l (pc2 := 94) (fun _ _ _ => lv_iconst (v := 0) hx hb d_M_run_93 (by decide)) ?_
                    refine gj_l (pc2 := 95) (fun _ _ _ => lv_iadd hx hb d_M_run_94) ?_
                    refine gj_st (i := 2) (pc2 := 96) (Nat.le_of_ble_eq_true rfl) rfl (fun _ _ _ _ _ h9 l9 => lv_istore_n hx hb d_M_run_95 rfl h9 (Nat.le_of_ble_eq_true rfl) l9) ?_
                    refine gj_iinc (pc2 := 99) hx hb d_M_run_96 (Nat.le_of_ble_eq_true rfl) rfl (pk_m1 g3) rfl ?_
                    refine gj_l (pc2 := 58) (fun _ _ _ => lv_goto (tgt := 58) hx hb d_M_run_99 (by decide)) ?_
                    exact gj_eq (L2 := [.ref (a 0), .int (nI N), .int (nI (d2 + 0)), .int (nI g3)]) rfl (by rw [show nI (d2 + 0) = nI d2 + 0 from (Int32.add_zero _).symm]; rfl) rfl (ih2 g3 (g3, d2 + 0, (doM υ).1) rfl ⟨rfl, by omega, hR1, by dsimp only; omega, (pz_do υ).2.2.1 hZ2, hM2.pz (pz_do υ)⟩)
                  · have hB := bN_n0.mp h86
                    rw [hB] at hR1
                    refine gj_l (pc2 := 90) (fun _ _ _ => lv_iconst (v := 1) hx hb d_M_run_89 (by decide)) ?_
                    refine gj_l (pc2 := 94) (fun _ _ _ => lv_goto (tgt := 94) hx hb d_M_run_90 (by decide)) ?_
                    refine gj_l (pc2 := 95) (fun _ _ _ => lv_iadd hx hb d_M_run_94) ?_
                    refine gj_st (i := 2) (pc2 := 96) (Nat.le_of_ble_eq_true rfl) rfl (fun _ _ _ _ _ h9 l9 => lv_istore_n hx hb d_M_run_95 rfl h9 (Nat.le_of_ble_eq_true rfl) l9) ?_
                    refine gj_iinc (pc2 := 99) hx hb d_M_run_96 (Nat.le_of_ble_eq_true rfl) rfl (pk_m1 g3) rfl ?_
                    refine gj_l (pc2 := 58) (fun _ _ _ => lv_goto (tgt := 58) hx hb d_M_run_99 (by decide)) ?_
                    exact gj_eq (L2 := [.ref (a 0), .int (nI N), .int (nI (d2 + 1)), .int (nI g3)]) rfl (by rw [show nI (d2 + 1) = nI d2 + 1 from (nI_1 d2).symm]; rfl) rfl (ih2 g3 (g3, d2 + 1, (doM υ).1) rfl ⟨rfl, by omega, hR1, by dsimp only; omega, (pz_do υ).2.2.1 hZ2, hM2.pz (pz_do υ)⟩)
    · exact absurd h20 (by decide)
  · refine gj_l (pc2 := 12) (fun _ _ _ => lv_iconst (v := 1) hx hb d_M_run_11 (by decide)) ?_
    refine gj_l (pc2 := 16) (fun _ _ _ => lv_goto (tgt := 16) hx hb d_M_run_12 (by decide)) ?_
    refine gj_l (pc2 := 17) (fun _ _ _ => lv_iconst (v := 0) hx hb d_M_run_16 (by decide)) ?_
    refine bj_vi F k_M_throwing d_M_run_17 q_403 (mw_at (i := 0) (by omega)) rfl (ct_M_throwing _ _) (rmo rfl) rfl rfl (Nat.le_of_ble_eq_true rfl) (Nat.zero_le _) (Nat.zero_le _) rfl (fun r9 u9 e9 => ?_)
    obtain ⟨rfl, rfl⟩ := e9
    refine gj_if (pc2 := 25) (pc3 := 23) (fun _ _ _ => lv_if_eq (tgt := 25) hx hb d_M_run_20 (by decide)) (fun h20 => ?_) (fun h20 => ?_)
    · exact absurd h20 (by decide)
    · refine gj_l (pc2 := 24) (fun _ _ _ => lv_iconst (v := 0) hx hb d_M_run_23 (by decide)) ?_
      exact gj_iret F d_M_run_24 (Nat.le_refl _) (Nat.le_refl _) (Or.inl ⟨bN_0.mp h8, rfl, rfl⟩)
end
section
/-! words in memory, as natural numbers -/
def wdm (mem : Nat → Int32) (x : Int32) : Int32 := if inM x then (if lenO ((mem x.toNatClampNeg <<< ((8 : Int32) &&& 31)) >>> ((12 : Int32) &&& 31)) = 1 then mem x.toNatClampNeg <<< ((8 : Int32) &&& 31) else if inM (x + 1) then (mem x.toNatClampNeg <<< ((8 : Int32) &&& 31)) ||| mem (x + 1).toNatClampNeg else 65536) else 65536
theorem wdA_m (σ : St) (x : Int32) : wdA σ x = wdm (σ 1) x := rfl
def RB (mem : Nat → Int32) : Prop := ∀ i : Nat, i < 1024 → ∃ y : Nat, y < 256 ∧ mem i = nI y
def yN (mem : Nat → Int32) (p : Nat) : Nat := (mem p).toNatClampNeg
def one (h : Nat) : Bool := decide (h = 0 ∨ h = 10 ∨ 12 ≤ h)
def enN (h : Nat) : Bool := decide (h = 0 ∨ h = 7 ∨ 12 ≤ h)
def wdN (mem : Nat → Int32) (p : Nat) : Nat := if 1024 ≤ p then 65536 else if one (yN mem p / 16) then yN mem p * 256 else if p + 1 < 1024 then yN mem p * 256 + yN mem (p + 1) else 65536
def lnN (mem : Nat → Int32) (p : Nat) : Nat := if 1024 ≤ p then 0 else if one (yN mem p / 16) then 1 else if p + 1 < 1024 then 2 else 1
def PN (mem : Nat → Int32) (B : Nat) : Nat → Nat
  | 0 => B
  | t + 1 => PN mem B t + lnN mem (PN mem B t)
theorem yN_eq {mem : Nat → Int32} (h : RB mem) {p : Nat} (hp : p < 1024) : yN mem p < 256 ∧ mem p = nI (yN mem p) := by
  obtain ⟨y, h1, h2⟩ := h p hp
  unfold yN
  rw [h2, nI_clamp (by omega)]
  exact ⟨h1, rfl⟩
theorem lenO_nI {h : Nat} (hh : h < 2 ^ 31) : lenO (nI h) = if one h then 1 else 2 := by
  have e : (nI h = 0 ∨ nI h = 10 ∨ 12 ≤ nI h) ↔ (h = 0 ∨ h = 10 ∨ 12 ≤ h) := by
    have e0 : nI h = 0 ↔ h = 0 := nI_eq (b := 0) hh (by omega)
    have e1 : nI h = 10 ↔ h = 10 := nI_eq (b := 10) hh (by omega)
    have e2 : 12 ≤ nI h ↔ 12 ≤ h := nI_leI (a := 12) (by omega) hh
    rw [e0, e1, e2]
  unfold lenO one
  by_cases hc : h = 0 ∨ h = 10 ∨ 12 ≤ h
  · rw [if_pos (e.mpr hc), decide_eq_true hc]; rfl
  · rw [if_neg (fun q => hc (e.mp q)), decide_eq_false hc]; rfl
theorem endO_nI {h : Nat} (hh : h < 2 ^ 31) : endO (nI h) = enN h := by
  have e : (nI h = 0 ∨ nI h = 7 ∨ 12 ≤ nI h) ↔ (h = 0 ∨ h = 7 ∨ 12 ≤ h) := by
    have e0 : nI h = 0 ↔ h = 0 := nI_eq (b := 0) hh (by omega)
    have e1 : nI h = 7 ↔ h = 7 := nI_eq (b := 7) hh (by omega)
    have e2 : 12 ≤ nI h ↔ 12 ≤ h := nI_leI (a := 12) (by omega) hh
    rw [e0, e1, e2]
  unfold endO enN
  by_cases hc : h = 0 ∨ h = 7 ∨ 12 ≤ h
  · rw [decide_eq_true hc, decide_eq_true (e.mpr hc)]
  · rw [decide_eq_false hc, decide_eq_false (fun q => hc (e.mp q))]
theorem sh8 {y : Nat} (h : y < 256) : nI y <<< ((8 : Int32) &&& 31) = nI (y * 256) := pk_shlN (n := y) _ 8 (by decide) (by omega)
theorem sh12 {y : Nat} (h : y < 2 ^ 31) : nI y >>> ((12 : Int32) &&& 31) = nI (y / 4096) := pk_shrN h _ 12 (by decide)
theorem sh8r {y : Nat} (h : y < 2 ^ 31) : nI y >>> ((8 : Int32) &&& 31) = nI (y / 256) := pk_shrN h _ 8 (by decide)
theorem sh4 {y : Nat} (h : y < 2 ^ 31) : nI y >>> ((4 : Int32) &&& 31) = nI (y / 16) := pk_shrN h _ 4 (by decide)
theorem an15 {y : Nat} (h : y < 2 ^ 31) : nI y &&& 15 = nI (y % 16) := pk_andN (by omega) 4 (by decide)
theorem an255 {y : Nat} (h : y < 2 ^ 31) : nI y &&& 255 = nI (y % 256) := pk_andN (by omega) 8 (by decide)
theorem an7 {y : Nat} (h : y < 2 ^ 31) : nI y &&& 7 = nI (y % 8) := pk_andN (by omega) 3 (by decide)
theorem or8 {y z : Nat} (hy : y < 256) (hz : z < 256) : nI (y * 256) ||| nI z = nI (y * 256 + z) := by
  apply Int32.toBitVec_inj.mp
  rw [Int32.toBitVec_or]
  apply BitVec.eq_of_toNat_eq
  rw [BitVec.toNat_or, pk_tn (by omega), pk_tn (by omega), pk_tn (by omega)]
  have := Nat.shiftLeft_add_eq_or_of_lt (i := 8) hz y
  rw [Nat.shiftLeft_eq] at this
  exact this.symm
theorem wdm_nI {mem : Nat → Int32} (h : RB mem) {p : Nat} (hp : p ≤ 1024) : wdm mem (nI p) = nI (wdN mem p) := by
  unfold wdm wdN
  rcases Nat.lt_or_ge p 1024 with z | z
  · obtain ⟨h1, h2⟩ := yN_eq h z
    rw [if_pos (inM_nI z), if_neg (show ¬ 1024 ≤ p by omega), nI_clamp (by omega), h2, sh8 h1, sh12 (by omega), show yN mem p * 256 / 4096 = yN mem p / 16 by omega, lenO_nI (by omega)]
    cases ho : one (yN mem p / 16) with
    | true => simp
    | false =>
      simp only [Bool.false_eq_true, if_false]
      rw [if_neg (show ¬ (2 : Int32) = 1 by decide), nI_1]
      rcases Nat.lt_or_ge (p + 1) 1024 with z2 | z2
      · obtain ⟨h3, h4⟩ := yN_eq h z2
        rw [if_pos (inM_nI z2), if_pos z2, nI_clamp (by omega), h4, or8 h1 h3]
      · rw [if_neg (show ¬ p + 1 < 1024 by omega)]
        have : inM (nI (p + 1)) = false := by
          have e : p + 1 = 1024 := by omega
          rw [e]; decide
        rw [this]
        rfl
  · have e : p = 1024 := by omega
    subst e
    rfl
theorem wdN_lt {mem : Nat → Int32} (h : RB mem) (p : Nat) : wdN mem p ≤ 65536 := by
  unfold wdN
  split
  · omega
  · next z =>
    obtain ⟨h1, -⟩ := yN_eq h (show p < 1024 by omega)
    split
    · omega
    · split
      · next z2 =>
        obtain ⟨h3, -⟩ := yN_eq h z2
        omega
      · omega
theorem lnN_le (mem : Nat → Int32) {p : Nat} (hp : p ≤ 1024) : p + lnN mem p ≤ 1024 := by
  unfold lnN
  split
  · omega
  · split
    · omega
    · split <;> omega
theorem PN_le (mem : Nat → Int32) {B : Nat} (hB : B ≤ 1024) : ∀ t : Nat, B ≤ PN mem B t ∧ PN mem B t ≤ 1024 := by
  intro t
  induction t with
  | zero => exact ⟨Nat.le_refl B, hB⟩
  | succ t ih =>
    have := lnN_le mem ih.2
    show B ≤ PN mem B t + lnN mem (PN mem B t) ∧ PN mem B t + lnN mem (PN mem B t) ≤ 1024
    omega
/-- how far the class goes on behind a word -/
theorem wd_cases {mem : Nat → Int32} (h : RB mem) {p : Nat} (hp : p ≤ 1024) : (p = 1024 ∧ wdN mem p = 65536 ∧ lnN mem p = 0) ∨ (p < 1024 ∧ one (yN mem p / 16) = true ∧ wdN mem p = yN mem p * 256 ∧ lnN mem p = 1 ∧ yN mem p < 256) ∨ (p + 1 < 1024 ∧ one (yN mem p / 16) = false ∧ wdN mem p = yN mem p * 256 + yN mem (p + 1) ∧ lnN mem p = 2 ∧ yN mem p < 256 ∧ yN mem (p + 1) < 256) ∨ (p + 1 = 1024 ∧ one (yN mem p / 16) = false ∧ wdN mem p = 65536 ∧ lnN mem p = 1 ∧ yN mem p < 256) := by
  unfold wdN lnN
  rcases Nat.lt_or_ge p 1024 with z | z
  · obtain ⟨h1, -⟩ := yN_eq h z
    right
    rw [if_neg (show ¬ 1024 ≤ p by omega), if_neg (show ¬ 1024 ≤ p by omega)]
    cases ho : one (yN mem p / 16) with
    | true => left; exact ⟨z, rfl, rfl, rfl, h1⟩
    | false =>
      right
      simp only [Bool.false_eq_true, if_false]
      rcases Nat.lt_or_ge (p + 1) 1024 with z2 | z2
      · obtain ⟨h3, -⟩ := yN_eq h z2
        left
        rw [if_pos z2, if_pos z2]
        exact ⟨z2, trivial, rfl, rfl, h1, h3⟩
      · right
        rw [if_neg (show ¬ p + 1 < 1024 by omega), if_neg (show ¬ p + 1 < 1024 by omega)]
        exact ⟨by omega, trivial, rfl, rfl, h1⟩
  · left
    rw [if_pos z, if_pos z]
    exact ⟨by omega, rfl, rfl⟩
theorem adv_c {mem : Nat → Int32} (h : RB mem) {p : Nat} (hp : p ≤ 1024) : nI p + (if nI (wdN mem p / 4096) = 16 then bN (inM (nI p)) else lenO (nI (wdN mem p / 4096))) = nI (p + lnN mem p) := by
  have e16 : ∀ x : Nat, x < 2 ^ 31 → (nI x = 16 ↔ x = 16) := fun x hx => nI_eq (b := 16) hx (by omega)
  rw [← nI_add]
  congr 1
  rcases wd_cases h hp with ⟨h1, h2, h3⟩ | ⟨h1, h2, h3, h4, h5⟩ | ⟨h1, h2, h3, h4, h5, h6⟩ | ⟨h1, h2, h3, h4, h5⟩
  · rw [h2, h3, h1]; rfl
  · rw [h3, h4, show yN mem p * 256 / 4096 = yN mem p / 16 by omega, if_neg (fun q => by have := (e16 _ (by omega)).mp q; omega), lenO_nI (by omega), h2]; rfl
  · rw [h3, h4, show (yN mem p * 256 + yN mem (p + 1)) / 4096 = yN mem p / 16 by omega, if_neg (fun q => by have := (e16 _ (by omega)).mp q; omega), lenO_nI (by omega), h2]; rfl
  · rw [h3, h4, show 65536 / 4096 = 16 from rfl, if_pos ((e16 16 (by omega)).mpr rfl), inM_nI (by omega)]; rfl
end
section
/-! the reference's words; what both make of a place -/
theorem one_f {h : Nat} (e : one h = false) : h ≠ 0 ∧ h ≠ 10 ∧ h < 12 := by
  have := of_decide_eq_false (show decide (h = 0 ∨ h = 10 ∨ 12 ≤ h) = false from e)
  omega
theorem one_t {h : Nat} (e : one h = true) : h = 0 ∨ h = 10 ∨ 12 ≤ h := of_decide_eq_true (show decide (h = 0 ∨ h = 10 ∨ 12 ≤ h) = true from e)
theorem enN_f {h : Nat} (e : enN h = false) : h ≠ 0 ∧ h ≠ 7 ∧ h < 12 := by
  have := of_decide_eq_false (show decide (h = 0 ∨ h = 7 ∨ 12 ≤ h) = false from e)
  omega
theorem i12 (k : Int32) : (¬ k ≤ 11) ↔ 12 ≤ k := by
  rw [Int32.le_iff_toInt_le, Int32.le_iff_toInt_le]
  have e1 : (11 : Int32).toInt = 11 := by decide
  have e2 : (12 : Int32).toInt = 12 := by decide
  omega
theorem szO_eq (k : Int32) : szO k = lenO k := by
  unfold szO lenO
  simp only [i12]
theorem kdM_out {τ : St} {x : Int32} (h : inM x = false) : kdM τ x = -1 := by unfold kdM; rw [h]; rfl
theorem kdM_nI {τ : St} (h : RB (τ 1)) {p : Nat} (hp : p < 1024) : kdM τ (nI p) = nI (yN (τ 1) p / 16) := by
  obtain ⟨h1, h2⟩ := yN_eq h hp
  unfold kdM
  rw [if_pos (inM_nI hp), nI_clamp (by omega), h2, sh4 (by omega)]
theorem inM_1024 : inM (nI 1024) = false := by decide
theorem ft_out {τ : St} {x : Int32} (h : inM x = false) : ftM τ x = 3 := by
  unfold ftM
  rw [kdM_out h]
  rfl
theorem ft_nI {τ : St} (h : RB (τ 1)) {p : Nat} (hp : p ≤ 1024) : ftM τ (nI p) = if wdN (τ 1) p / 4096 = 16 then 3 else if 12 ≤ wdN (τ 1) p / 4096 then 2 else 0 := by
  have e11 : ∀ x : Nat, x < 2 ^ 31 → (nI x ≤ 11 ↔ x ≤ 11) := fun x hx => nI_leI (b := 11) hx (by omega)
  rcases wd_cases h hp with ⟨h1, h2, h3⟩ | ⟨h1, h2, h3, h4, h5⟩ | ⟨h1, h2, h3, h4, h5, h6⟩ | ⟨h1, h2, h3, h4, h5⟩
  · subst h1
    rw [ft_out inM_1024, h2]
    rfl
  · unfold ftM
    rw [kdM_nI h h1, h3, show yN (τ 1) p * 256 / 4096 = yN (τ 1) p / 16 by omega, if_neg (fun q => q (nI_pos' (by omega))), if_neg (show ¬ yN (τ 1) p / 16 = 16 by omega), szO_eq, lenO_nI (by omega), h2]
    rcases Nat.lt_or_ge (yN (τ 1) p / 16) 12 with z | z
    · rw [if_neg (fun q => q ((e11 _ (by omega)).mpr (by omega))), if_neg (show ¬ 12 ≤ yN (τ 1) p / 16 by omega)]
      have : nI p + 1 - 1 = nI p := by rw [nI_1]; exact nI_pred p
      rw [if_pos rfl, this, if_pos (inM_nI h1)]
    · rw [if_pos (fun q => by have := (e11 _ (by omega)).mp q; omega), if_pos z]
  · have hk := one_f h2
    unfold ftM
    rw [kdM_nI h (by omega), h3, show (yN (τ 1) p * 256 + yN (τ 1) (p + 1)) / 4096 = yN (τ 1) p / 16 by omega, if_neg (fun q => q (nI_pos' (by omega))), if_neg (show ¬ yN (τ 1) p / 16 = 16 by omega), szO_eq, lenO_nI (by omega), h2, if_neg (fun q => q ((e11 _ (by omega)).mpr (by omega))), if_neg (show ¬ 12 ≤ yN (τ 1) p / 16 by omega), if_neg (show ¬ false = true by decide), add21, nI_1, if_pos (inM_nI h1)]
  · have hk := one_f h2
    unfold ftM
    rw [kdM_nI h (by omega), h3, if_neg (fun q => q (nI_pos' (by omega))), szO_eq, lenO_nI (by omega), h2, if_neg (fun q => q ((e11 _ (by omega)).mpr (by omega))), if_neg (show ¬ false = true by decide), add21, nI_1, h1, inM_1024]
    rfl
/-- words so far, whether the block goes on -/
def bkN (mem : Nat → Int32) (B : Nat) : Nat → Nat × Bool
  | 0 => (0, true)
  | t + 1 => if (bkN mem B t).2 then ((bkN mem B t).1 + 1, !enN (wdN mem (PN mem B (bkN mem B t).1) / 4096)) else bkN mem B t
theorem bk_on {mem : Nat → Int32} {B t : Nat} (h : (bkN mem B t).2 = true) : bkN mem B (t + 1) = ((bkN mem B t).1 + 1, !enN (wdN mem (PN mem B (bkN mem B t).1) / 4096)) := by
  show (if (bkN mem B t).2 then _ else _) = _
  rw [if_pos h]
theorem bk_off {mem : Nat → Int32} {B t : Nat} (h : (bkN mem B t).2 = false) : bkN mem B (t + 1) = bkN mem B t := by
  show (if (bkN mem B t).2 then _ else _) = _
  rw [if_neg (by rw [h]; decide)]
theorem bk_f (mem : Nat → Int32) (B : Nat) : ∀ t : Nat, (bkN mem B t).1 ≤ t ∧ (1 ≤ t → 1 ≤ (bkN mem B t).1) ∧ ((bkN mem B t).2 = true → (bkN mem B t).1 = t ∧ ∀ w : Nat, w < t → enN (wdN mem (PN mem B w) / 4096) = false) ∧ ∀ w : Nat, w + 1 < (bkN mem B t).1 → enN (wdN mem (PN mem B w) / 4096) = false := by
  intro t
  induction t with
  | zero => exact ⟨Nat.le_refl 0, fun h => absurd h (by omega), fun _ => ⟨rfl, fun w h => absurd h (by omega)⟩, fun w h => absurd h (Nat.not_lt_zero _)⟩
  | succ t ih =>
    obtain ⟨i1, i2, i3, i4⟩ := ih
    cases hb : (bkN mem B t).2 with
    | true =>
      obtain ⟨j1, j2⟩ := i3 hb
      rw [bk_on hb, j1]
      refine ⟨Nat.le_refl _, fun _ => by dsimp only; omega, fun h => ⟨rfl, fun w hw => ?_⟩, fun w hw => j2 w (by dsimp only at hw; omega)⟩
      rcases Nat.lt_or_ge w t with z | z
      · exact j2 w z
      · have : w = t := by omega
        subst this
        dsimp only at h
        cases hz : enN (wdN mem (PN mem B w) / 4096) with
        | true => rw [hz] at h; cases h
        | false => rfl
    | false =>
      rw [bk_off hb]
      refine ⟨by omega, fun _ => ?_, fun h => (by rw [hb] at h; cases h), i4⟩
      cases t with
      | zero => cases hb
      | succ t => exact i2 (by omega)
theorem dl_s {σ : St} {k B : Nat} (h : RB (σ 1)) (hB : B < 1024) : ∀ t : Nat, (dlS σ k (nI B) t).2.1 = nI (PN (σ 1) B (bkN (σ 1) B t).1) ∧ (dlS σ k (nI B) t).2.2 = (bkN (σ 1) B t).2 ∧ (dlS σ k (nI B) t).1 (4 + 2 * k) 1 = nI B ∧ (dlS σ k (nI B) t).1 (4 + 2 * k) 2 = nI (bkN (σ 1) B t).1 ∧ (∀ w : Nat, w < (bkN (σ 1) B t).1 → (dlS σ k (nI B) t).1 (5 + 2 * k) w = nI (wdN (σ 1) (PN (σ 1) B w))) ∧ ∀ i : Nat, i ≠ 4 + 2 * k → i ≠ 5 + 2 * k → (dlS σ k (nI B) t).1 i = σ i := by
  intro t
  induction t with
  | zero =>
    refine ⟨rfl, rfl, ?_, ?_, fun w hw => absurd hw (Nat.not_lt_zero _), fun i h1 h2 => ?_⟩
    · show empB σ k (nI B) _ 1 = _
      unfold empB
      rw [s2_ne _ _ _ (by decide), s2_ne _ _ _ (by decide), s2_at]
    · show empB σ k (nI B) _ 2 = _
      unfold empB
      rw [s2_ne _ _ _ (by decide), s2_at]
      rfl
    · show empB σ k (nI B) i = _
      unfold empB
      rw [s2_row _ _ _ h1, s2_row _ _ _ h1, s2_row _ _ _ h1]
  | succ t ih =>
    obtain ⟨i1, i2, i3, i4, i5, i6⟩ := ih
    cases hb : (bkN (σ 1) B t).2 with
    | false =>
      rw [bk_off hb, show dlS σ k (nI B) (t + 1) = dlS σ k (nI B) t from dlS_off (i2.trans hb) 1]
      exact ⟨i1, i2, i3, i4, i5, i6⟩
    | true =>
      have hq := dlS_on (i2.trans hb)
      have hj := ((bk_f (σ 1) B t).2.2.1 hb).1
      have hP := (PN_le (σ 1) (Nat.le_of_lt hB) (bkN (σ 1) B t).1).2
      have hm : (dlS σ k (nI B) t).1 1 = σ 1 := i6 1 (by omega) (by omega)
      have hw : wdA (dlS σ k (nI B) t).1 (dlS σ k (nI B) t).2.1 = nI (wdN (σ 1) (PN (σ 1) B (bkN (σ 1) B t).1)) := by rw [wdA_m, hm, i1]; exact wdm_nI h hP
      have hlt := wdN_lt h (PN (σ 1) B (bkN (σ 1) B t).1)
      rw [hw, sh12 (by omega), i1, endO_nI (by omega), adv_c h hP] at hq
      rw [hq, bk_on hb]
      dsimp only
      refine ⟨rfl, rfl, ?_, ?_, fun w hw2 => ?_, fun i h1 h2 => ?_⟩
      · rw [s2_ne _ _ _ (by decide), s2_o _ _ _ _ (by omega), i3]
      · rw [s2_at, s2_o _ _ _ _ (by omega), i4, nI_1]
      · rw [s2_o _ _ _ _ (by omega)]
        by_cases e : w = t
        · rw [e, s2_at, hj]
        · rw [s2_ne _ _ _ e]
          exact i5 w (by omega)
      · rw [s2_row _ _ _ h1, s2_row _ _ _ h2]
        exact i6 i h1 h2
theorem mk_s {τ : St} {B : Nat} (h : RB (τ 1)) (hB : B < 1024) (hp : τ 0 3 = nI B) : ∀ t : Nat, t ≤ 12 → (mkT τ t).2.2 = (bkN (τ 1) B t).1 ∧ (mkT τ t).2.1 = ((bkN (τ 1) B t).2 && decide ((bkN (τ 1) B t).1 < 12)) ∧ ((mkT τ t).2.1 = true → (mkT τ t).1 = nI (PN (τ 1) B (bkN (τ 1) B t).1)) ∧ (if (mkT τ t).1 ≤ 1024 then (mkT τ t).1 else 1024) = nI (PN (τ 1) B (bkN (τ 1) B t).1) := by
  have e1024 : ∀ x : Nat, x < 2 ^ 31 → (nI x ≤ 1024 ↔ x ≤ 1024) := fun x hx => nI_leI (b := 1024) hx (by omega)
  intro t
  induction t with
  | zero =>
    intro _
    refine ⟨rfl, rfl, fun _ => hp, ?_⟩
    show (if τ 0 3 ≤ 1024 then τ 0 3 else 1024) = nI B
    rw [hp, if_pos ((e1024 B (by omega)).mpr (by omega))]
  | succ t ih =>
    intro ht
    obtain ⟨i1, i2, i3, i4⟩ := ih (by omega)
    cases hb : (bkN (τ 1) B t).2 with
    | false =>
      have hm : (mkT τ t).2.1 = false := by rw [i2, hb]; rfl
      rw [bk_off hb, show mkT τ (t + 1) = mkT τ t from mkT_off hm 1]
      exact ⟨i1, i2, i3, i4⟩
    | true =>
      have hj := ((bk_f (τ 1) B t).2.2.1 hb).1
      have hm : (mkT τ t).2.1 = true := by rw [i2, hb, hj, decide_eq_true (show t < 12 by omega)]; rfl
      have hq := mkT_on hm
      have hP := (PN_le (τ 1) (Nat.le_of_lt hB) (bkN (τ 1) B t).1).2
      rw [i3 hm, ft_nI h hP, i1] at hq
      rw [hq, bk_on hb]
      dsimp only
      have hd : (!decide (12 ≤ (bkN (τ 1) B t).1 + 1)) = decide ((bkN (τ 1) B t).1 + 1 < 12) := by
        rcases Nat.lt_or_ge ((bkN (τ 1) B t).1 + 1) 12 with z | z
        · rw [decide_eq_true z, decide_eq_false (show ¬ 12 ≤ (bkN (τ 1) B t).1 + 1 by omega)]; rfl
        · rw [decide_eq_true z, decide_eq_false (show ¬ (bkN (τ 1) B t).1 + 1 < 12 by omega)]; rfl
      have hPs : PN (τ 1) B ((bkN (τ 1) B t).1 + 1) = PN (τ 1) B (bkN (τ 1) B t).1 + lnN (τ 1) (PN (τ 1) B (bkN (τ 1) B t).1) := rfl
      rw [hPs]
      have e0 : ∀ x : Nat, x < 2 ^ 31 → (nI x = 0 ↔ x = 0) := fun x hx => nI_eq (b := 0) hx (by omega)
      have e7 : ∀ x : Nat, x < 2 ^ 31 → (nI x = 7 ↔ x = 7) := fun x hx => nI_eq (b := 7) hx (by omega)
      generalize PN (τ 1) B (bkN (τ 1) B t).1 = P at hP
      generalize (bkN (τ 1) B t).1 = n at hd
      rw [hd, Bool.and_comm _ (decide (n + 1 < 12))]
      rcases wd_cases h hP with ⟨h1, h2, h3⟩ | ⟨h1, h2, h3, h4, h5⟩ | ⟨h1, h2, h3, h4, h5, h6⟩ | ⟨h1, h2, h3, h4, h5⟩
      · rw [h2, h3, h1, kdM_out inM_1024]
        refine ⟨rfl, ?_, fun q => ?_, rfl⟩
        · cases decide (n + 1 < 12) <;> rfl
        · cases hz : decide (n + 1 < 12) <;> rw [hz] at q <;> cases q
      · rw [h3, h4, show yN (τ 1) P * 256 / 4096 = yN (τ 1) P / 16 by omega, kdM_nI h h1, if_pos (nI_pos' (by omega)), szO_eq, lenO_nI (by omega), h2, if_pos rfl, nI_1, if_pos ((e1024 _ (by omega)).mpr (by omega))]
        refine ⟨rfl, ?_, fun _ => rfl, rfl⟩
        congr 1
        simp only [e0 _ (show yN (τ 1) P / 16 < 2 ^ 31 by omega), e7 _ (show yN (τ 1) P / 16 < 2 ^ 31 by omega), enN, show ¬ yN (τ 1) P / 16 = 16 by omega, if_false]
        by_cases g0 : yN (τ 1) P / 16 = 0
        · simp [g0]
        · by_cases g7 : yN (τ 1) P / 16 = 7
          · simp [g7]
          · by_cases g12 : 12 ≤ yN (τ 1) P / 16
            · simp [g0, g7, g12]
            · simp [g0, g7, g12]
      · have hk := one_f h2
        rw [h3, h4, show (yN (τ 1) P * 256 + yN (τ 1) (P + 1)) / 4096 = yN (τ 1) P / 16 by omega, kdM_nI h (by omega), if_pos (nI_pos' (by omega)), szO_eq, lenO_nI (by omega), h2, if_neg (show ¬ false = true by decide), show nI P + 2 = nI (P + 2) from nI_add P 2, if_pos ((e1024 _ (by omega)).mpr (by omega))]
        refine ⟨rfl, ?_, fun _ => rfl, rfl⟩
        congr 1
        simp only [e0 _ (show yN (τ 1) P / 16 < 2 ^ 31 by omega), e7 _ (show yN (τ 1) P / 16 < 2 ^ 31 by omega), enN, show ¬ yN (τ 1) P / 16 = 16 by omega, if_false]
        have g12 : ¬ 12 ≤ yN (τ 1) P / 16 := by omega
        by_cases g7 : yN (τ 1) P / 16 = 7
        · simp [g7]
        · simp [hk.1, g7, g12]
      · have hk := one_f h2
        rw [h3, h4, kdM_nI h (by omega), if_pos (nI_pos' (by omega)), szO_eq, lenO_nI (by omega), h2, if_neg (show ¬ false = true by decide), show nI P + 2 = nI (P + 2) from nI_add P 2]
        refine ⟨rfl, ?_, fun q => ?_, ?_⟩
        · simp [enN]
        · simp at q
        · rw [if_neg (fun q => by have := (e1024 _ (by omega)).mp q; omega), h1]; rfl
end
section
/-! the relation between the class's rows and the reference's -/
def HD (d e : Int32) (f g : Nat → Int32) : Prop := f 3 = g 3 ∧ f 4 = g 4 ∧ g 5 = bN (decide (f 5 = 0)) ∧ g 6 = bN (!decide (0 ≤ f 5)) ∧ f 6 = g 13 + d ∧ f 7 = g 14 ∧ f 8 = g 15 ∧ f 9 = g 16 ∧ f 10 + e = g 17 ∧ f 11 = g 18
section HDs
variable {d e : Int32} {f g : Nat → Int32}
theorem HD.p (h : HD d e f g) : f 3 = g 3 := h.1
theorem HD.s (h : HD d e f g) : f 4 = g 4 := h.2.1
theorem HD.z (h : HD d e f g) : g 5 = bN (decide (f 5 = 0)) := h.2.2.1
theorem HD.l (h : HD d e f g) : g 6 = bN (!decide (0 ≤ f 5)) := h.2.2.2.1
theorem HD.c6 (h : HD d e f g) : f 6 = g 13 + d := h.2.2.2.2.1
theorem HD.c7 (h : HD d e f g) : f 7 = g 14 := h.2.2.2.2.2.1
theorem HD.c8 (h : HD d e f g) : f 8 = g 15 := h.2.2.2.2.2.2.1
theorem HD.c9 (h : HD d e f g) : f 9 = g 16 := h.2.2.2.2.2.2.2.1
theorem HD.c10 (h : HD d e f g) : f 10 + e = g 17 := h.2.2.2.2.2.2.2.2.1
theorem HD.c11 (h : HD d e f g) : f 11 = g 18 := h.2.2.2.2.2.2.2.2.2
end HDs
def BOK (mem f g : Nat → Int32) : Prop := ∃ N : Nat, 1 ≤ N ∧ N ≤ 12 ∧ f 2 = nI N ∧ ((inM (f 1) = false ∧ N = 1 ∧ g 0 = 65536 ∧ f 3 = 0) ∨ ∃ B : Nat, B < 1024 ∧ f 1 = nI B ∧ (∀ w : Nat, w < N → g w = nI (wdN mem (PN mem B w))) ∧ (∀ w : Nat, w + 1 < N → enN (wdN mem (PN mem B w) / 4096) = false) ∧ f 3 = nI (PN mem B N - B))
def BR (mem f g : Nat → Int32) (a b c d : Int32) : Prop := (a = 1 ∧ b = f 1 ∧ c = f 2 ∧ d = f 3 ∧ BOK mem f g) ∨ (a = 0 ∧ f 2 = 0 ∧ f 3 = 0)
def BK (σ τ : St) : Prop := ∀ k : Nat, k < 32 → BR (σ 1) (σ (4 + 2 * k)) (σ (5 + 2 * k)) (τ 3 k) (τ 4 k) (τ 5 k) (τ 6 k)
def Rel (d e : Int32) (σ τ : St) : Prop := HD d e (σ 0) (τ 0) ∧ σ 1 = τ 1 ∧ σ 2 = τ 2 ∧ RB (σ 1) ∧ BK σ τ
section RLs
variable {d e : Int32} {σ τ : St}
theorem Rel.h (h : Rel d e σ τ) : HD d e (σ 0) (τ 0) := h.1
theorem Rel.m (h : Rel d e σ τ) : σ 1 = τ 1 := h.2.1
theorem Rel.r (h : Rel d e σ τ) : σ 2 = τ 2 := h.2.2.1
theorem Rel.y (h : Rel d e σ τ) : RB (σ 1) := h.2.2.2.1
theorem Rel.b (h : Rel d e σ τ) : BK σ τ := h.2.2.2.2
end RLs
theorem BK.cong {σ τ σ' τ' : St} (h : BK σ τ) (h1 : σ' 1 = σ 1) (hk : ∀ i : Nat, 4 ≤ i → σ' i = σ i) (h3 : τ' 3 = τ 3) (h4 : τ' 4 = τ 4) (h5 : τ' 5 = τ 5) (h6 : τ' 6 = τ 6) : BK σ' τ' := by
  intro k hk2
  rw [h1, hk _ (show 4 ≤ 4 + 2 * k by omega), hk _ (show 4 ≤ 5 + 2 * k by omega), h3, h4, h5, h6]
  exact h k hk2
theorem Rel.c {d e : Int32} {σ τ σ' τ' : St} {d' e' : Int32} (R : Rel d e σ τ) (h : HD d' e' (σ' 0) (τ' 0)) (h1 : σ' 1 = σ 1) (h2 : σ' 2 = τ' 2) (hk : ∀ i : Nat, 4 ≤ i → σ' i = σ i) (g1 : τ' 1 = τ 1) (h3 : τ' 3 = τ 3) (h4 : τ' 4 = τ 4) (h5 : τ' 5 = τ 5) (h6 : τ' 6 = τ 6) : Rel d' e' σ' τ' :=
  ⟨h, by rw [h1, g1]; exact R.m, h2, by rw [h1]; exact R.y, R.b.cong h1 hk h3 h4 h5 h6⟩
section RL
variable {d e : Int32} {σ τ : St}
theorem Rel.reg (R : Rel d e σ τ) (r : Nat) (v : Int32) : Rel d e (s2 σ 2 r v) (s2 τ 2 r v) := by
  refine R.c (by rw [s2_row _ _ _ (by decide), s2_row _ _ _ (by decide)]; exact R.h) (s2_row _ _ _ (by decide)) ?_ (fun i hi => s2_row _ _ _ (by omega)) (s2_row _ _ _ (by decide)) (s2_row _ _ _ (by decide)) (s2_row _ _ _ (by decide)) (s2_row _ _ _ (by decide)) (s2_row _ _ _ (by decide))
  rw [s2_self, s2_self, R.r]
theorem Rel.o (R : Rel d e σ τ) {d' e' : Int32} {i j : Nat} {v w : Int32} (h : HD d' e' (upd (σ 0) i v) (upd (τ 0) j w)) : Rel d' e' (s2 σ 0 i v) (s2 τ 0 j w) :=
  R.c (by rw [s2_self, s2_self]; exact h) (s2_row _ _ _ (by decide)) (by rw [s2_row _ _ _ (by decide), s2_row _ _ _ (by decide)]; exact R.r) (fun i hi => s2_row _ _ _ (by omega)) (s2_row _ _ _ (by decide)) (s2_row _ _ _ (by decide)) (s2_row _ _ _ (by decide)) (s2_row _ _ _ (by decide)) (s2_row _ _ _ (by decide))
theorem Rel.ol (R : Rel d e σ τ) {d' e' : Int32} {i : Nat} {v : Int32} (h : HD d' e' (upd (σ 0) i v) (τ 0)) : Rel d' e' (s2 σ 0 i v) τ :=
  R.c (by rw [s2_self]; exact h) (s2_row _ _ _ (by decide)) (by rw [s2_row _ _ _ (by decide)]; exact R.r) (fun i hi => s2_row _ _ _ (by omega)) rfl rfl rfl rfl rfl
theorem Rel.or (R : Rel d e σ τ) {d' e' : Int32} {j : Nat} {w : Int32} (h : HD d' e' (σ 0) (upd (τ 0) j w)) : Rel d' e' σ (s2 τ 0 j w) :=
  R.c (by rw [s2_self]; exact h) rfl (by rw [s2_row _ _ _ (by decide)]; exact R.r) (fun i hi => rfl) (s2_row _ _ _ (by decide)) (s2_row _ _ _ (by decide)) (s2_row _ _ _ (by decide)) (s2_row _ _ _ (by decide)) (s2_row _ _ _ (by decide))
theorem Rel.pl (R : Rel d e σ τ) (v : Int32) : Rel d e (s2 σ 0 3 v) (s2 τ 0 3 v) := R.o ⟨rfl, R.h.s, R.h.z, R.h.l, R.h.c6, R.h.c7, R.h.c8, R.h.c9, R.h.c10, R.h.c11⟩
theorem Rel.st (R : Rel d e σ τ) (v : Int32) : Rel d e (s2 σ 0 4 v) (s2 τ 0 4 v) := R.o ⟨R.h.p, rfl, R.h.z, R.h.l, R.h.c6, R.h.c7, R.h.c8, R.h.c9, R.h.c10, R.h.c11⟩
theorem Rel.st0 (R : Rel d e σ τ) {v : Int32} (h : τ 0 4 = v) : Rel d e (s2 σ 0 4 v) τ := R.ol ⟨R.h.p, h.symm, R.h.z, R.h.l, R.h.c6, R.h.c7, R.h.c8, R.h.c9, R.h.c10, R.h.c11⟩
theorem Rel.step (R : Rel d e σ τ) : Rel (d + 1) e (s2 σ 0 6 (σ 0 6 + 1)) τ := R.ol ⟨R.h.p, R.h.s, R.h.z, R.h.l, by rw [pk_us, R.h.c6, Int32.add_assoc], R.h.c7, R.h.c8, R.h.c9, R.h.c10, R.h.c11⟩
theorem Rel.hit (R : Rel d e σ τ) : Rel d e (s2 σ 0 8 (σ 0 8 + 1)) (s2 τ 0 15 (τ 0 15 + 1)) := R.o ⟨R.h.p, R.h.s, R.h.z, R.h.l, R.h.c6, R.h.c7, by rw [pk_us, pk_us, R.h.c8], R.h.c9, R.h.c10, R.h.c11⟩
theorem Rel.out (R : Rel d e σ τ) : HD d e (upd (σ 0) 9 (σ 0 9 + 1)) (upd (τ 0) 16 (τ 0 16 + 1)) := ⟨R.h.p, R.h.s, R.h.z, R.h.l, R.h.c6, R.h.c7, R.h.c8, by rw [pk_us, pk_us, R.h.c9], R.h.c10, R.h.c11⟩
theorem Rel.sto1 (R : Rel d e σ τ) : Rel d (e + 1) σ (s2 τ 0 17 (τ 0 17 + 1)) := R.or ⟨R.h.p, R.h.s, R.h.z, R.h.l, R.h.c6, R.h.c7, R.h.c8, R.h.c9, by rw [pk_us, ← R.h.c10, Int32.add_assoc], R.h.c11⟩
theorem Rel.sto2 (R : Rel d 1 σ τ) : Rel d 0 (s2 σ 0 10 (σ 0 10 + 1)) τ := R.ol ⟨R.h.p, R.h.s, R.h.z, R.h.l, R.h.c6, R.h.c7, R.h.c8, R.h.c9, by rw [pk_us, Int32.add_zero]; exact R.h.c10, R.h.c11⟩
theorem Rel.flag (R : Rel d e σ τ) (v : Int32) : Rel d e (s2 σ 0 5 v) (s2 (s2 τ 0 5 (bN (decide (v = 0)))) 0 6 (bN (!decide (0 ≤ v)))) := by
  refine R.c ?_ (s2_row _ _ _ (by decide)) (by rw [s2_row _ _ _ (by decide)]; exact R.r) (fun i hi => s2_row _ _ _ (by omega)) rfl rfl rfl rfl rfl
  exact ⟨R.h.p, R.h.s, rfl, rfl, R.h.c6, R.h.c7, R.h.c8, R.h.c9, R.h.c10, R.h.c11⟩
/-- slots of the reference that the relation doesn't see -/
theorem Rel.unseen (R : Rel d e σ τ) {j : Nat} (hj : j = 0 ∨ j = 11 ∨ j = 12) (v : Int32) : Rel d e σ (s2 τ 0 j v) := by
  refine R.or ?_
  rcases hj with rfl | rfl | rfl <;> exact ⟨R.h.p, R.h.s, R.h.z, R.h.l, R.h.c6, R.h.c7, R.h.c8, R.h.c9, R.h.c10, R.h.c11⟩
end RL
/-! a write -/
theorem wd_same {m1 m2 : Nat → Int32} {p : Nat} (h : ∀ q : Nat, p ≤ q → q < p + lnN m1 p → m2 q = m1 q) : wdN m2 p = wdN m1 p ∧ lnN m2 p = lnN m1 p := by
  unfold wdN
  rcases Nat.lt_or_ge p 1024 with z | z
  · have hl : 1 ≤ lnN m1 p := by
      unfold lnN
      rw [if_neg (show ¬ 1024 ≤ p by omega)]
      split
      · omega
      · split <;> omega
    have e1 : yN m2 p = yN m1 p := by unfold yN; rw [h p (Nat.le_refl p) (by omega)]
    rw [if_neg (show ¬ 1024 ≤ p by omega), if_neg (show ¬ 1024 ≤ p by omega), e1]
    have e2 : lnN m2 p = lnN m1 p := by unfold lnN; rw [e1]
    refine ⟨?_, e2⟩
    cases ho : one (yN m1 p / 16) with
    | true => rw [if_pos rfl, if_pos rfl]
    | false =>
      simp only [Bool.false_eq_true, if_false]
      rcases Nat.lt_or_ge (p + 1) 1024 with z2 | z2
      · have h2 : lnN m1 p = 2 := by
          unfold lnN
          rw [if_neg (show ¬ 1024 ≤ p by omega), ho, if_neg (by decide), if_pos z2]
        have e3 : yN m2 (p + 1) = yN m1 (p + 1) := by unfold yN; rw [h (p + 1) (by omega) (by omega)]
        rw [if_pos z2, if_pos z2, e3]
      · rw [if_neg (show ¬ p + 1 < 1024 by omega), if_neg (show ¬ p + 1 < 1024 by omega)]
  · unfold lnN
    rw [if_pos z, if_pos z, if_pos z, if_pos z]
    exact ⟨rfl, rfl⟩
theorem PN_mono (mem : Nat → Int32) (B : Nat) : ∀ (t u : Nat), t ≤ u → PN mem B t ≤ PN mem B u := by
  intro t u h
  induction u with
  | zero => have : t = 0 := by omega
            subst this; exact Nat.le_refl _
  | succ u ih =>
    rcases Nat.lt_or_ge t (u + 1) with z | z
    · exact Nat.le_trans (ih (by omega)) (show PN mem B u ≤ PN mem B u + lnN mem (PN mem B u) by omega)
    · have : t = u + 1 := by omega
      subst this; exact Nat.le_refl _
theorem PN_same {m1 m2 : Nat → Int32} {B N : Nat} (h : ∀ q : Nat, B ≤ q → q < PN m1 B N → m2 q = m1 q) : ∀ w : Nat, w ≤ N → PN m2 B w = PN m1 B w ∧ (w < N → wdN m2 (PN m1 B w) = wdN m1 (PN m1 B w)) := by
  have hB : ∀ w : Nat, B ≤ PN m1 B w := fun w => PN_mono m1 B 0 w (by omega)
  have key : ∀ w : Nat, w < N → wdN m2 (PN m1 B w) = wdN m1 (PN m1 B w) ∧ lnN m2 (PN m1 B w) = lnN m1 (PN m1 B w) := fun w hw => wd_same (fun q h1 h2 => h q (Nat.le_trans (hB w) h1) (Nat.lt_of_lt_of_le h2 (PN_mono m1 B (w + 1) N hw)))
  intro w
  induction w with
  | zero => exact fun _ => ⟨rfl, fun h => (key 0 h).1⟩
  | succ w ih =>
    intro hw
    obtain ⟨i1, -⟩ := ih (by omega)
    refine ⟨?_, fun h => (key _ h).1⟩
    show PN m2 B w + lnN m2 (PN m2 B w) = PN m1 B w + lnN m1 (PN m1 B w)
    rw [i1, (key w (by omega)).2]
theorem BOK.keep {mem f g : Nat → Int32} (h : BOK mem f g) {i : Nat} (hi : i < 1024) (v : Int32) (hn : nI i < f 1 ∨ f 1 + f 3 ≤ nI i) : BOK (upd mem i v) f g := by
  obtain ⟨N, h1, h2, h3, h4⟩ := h
  refine ⟨N, h1, h2, h3, ?_⟩
  rcases h4 with h4 | ⟨B, hB, e1, hw, he, e3⟩
  · exact Or.inl h4
  · right
    have hP := PN_le mem (Nat.le_of_lt hB) N
    rw [e1, e3, nI_add, show B + (PN mem B N - B) = PN mem B N by omega, nI_ltI (by omega) (by omega), nI_leI (by omega) (by omega)] at hn
    have key := PN_same (m1 := mem) (m2 := upd mem i v) (B := B) (N := N) (fun q a b => pk_un (by omega))
    refine ⟨B, hB, e1, fun w hw2 => ?_, fun w hw2 => ?_, ?_⟩
    · obtain ⟨k1, k2⟩ := key w (by omega)
      rw [k1, k2 hw2]
      exact hw w hw2
    · obtain ⟨k1, k2⟩ := key w (by omega)
      rw [k1, k2 (by omega)]
      exact he w hw2
    · rw [(key N (Nat.le_refl N)).1]
      exact e3
theorem BOK.kept {mem f g : Nat → Int32} (h : BOK mem f g) : ¬ f 2 ≤ 0 := by
  obtain ⟨N, h1, h2, h3, -⟩ := h
  rw [h3]
  exact nI_nle (by omega) (by omega)
theorem has_eq {σ τ : St} (h : BK σ τ) {k : Nat} (hk : k < 32) (x : Int32) : hasB σ k x = mHas τ k x ∧ keptB σ k = !decide (τ 3 k = 0) := by
  unfold hasB mHas keptB
  rcases h k hk with ⟨h1, h2, h3, h4, h5⟩ | ⟨h1, h2, h3⟩
  · have e : (!decide (σ (4 + 2 * k) 1 + σ (4 + 2 * k) 3 ≤ x)) = decide (x < σ (4 + 2 * k) 1 + σ (4 + 2 * k) 3) := by
      by_cases hx : x < σ (4 + 2 * k) 1 + σ (4 + 2 * k) 3
      · rw [decide_eq_true hx, decide_eq_false (Int32.not_le.mpr hx)]; rfl
      · rw [decide_eq_false hx, decide_eq_true (Int32.not_lt.mp hx)]; rfl
    rw [h1, h2, h4, decide_eq_false h5.kept, e]
    exact ⟨rfl, rfl⟩
  · rw [h1, h2]
    exact ⟨rfl, rfl⟩
end
