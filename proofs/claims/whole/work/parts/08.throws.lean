/-! methods that may throw: the world stays as it says, the exception is a new cell -/
abbrev gc_X (D : va_G) (cl : List vw_C) (tys : List (ClassId × FieldType)) (w0 : va_W) (px : String → va_W → Prop) (sz : Nat) : String → State → State → Prop := vx_X (fun u : String × va_W => px u.1 u.2) (fun E u t => E = u.1 ∧ gc_B D cl tys w0 sz u.2 t) (va_A w0 sz)
def GXi (l : Launch) (y : MethodName) (ws : List Cond) (rm : Room) (mc ms : Nat) (D : va_G) (cl : List vw_C) (tys : List (ClassId × FieldType)) (av : List Value) (w0 : va_W) (post : Int32 → va_W → Prop) (px : String → va_W → Prop) : Prop :=
  ∀ sz : Nat, vx_Met l y ws rm (gc_Pc D cl tys av w0 sz) (gc_Qi D cl tys w0 post sz) (gc_X D cl tys w0 px sz) mc ms (va_A w0 sz)
section GXB
variable {l : Launch} {y : MethodName} {ws ws' : List Cond} {rm : Room} {mc ms : Nat} {D : va_G} {cl : List vw_C} {tys : List (ClassId × FieldType)} {av : List Value} {w0 : va_W} {cc : ByteArray} {maxL : Nat} {ret : Option FieldType}
theorem gx_body {post : Int32 → va_W → Prop} {px : String → va_W → Prop} (hy : plainName y.cls = true) (hw : ws = Cond.code y cc maxL ret :: ws') (hv : ∀ v ∈ av, v.category = 1) (hl : (lg_sl av).length ≤ maxL)
    (body : ∀ (p : Program) (e : Env) (s : State) (m : MethodId) (args : Array Value) (below : List Frame) (meth : Method) (c : Code), GF p s m args meth c cc maxL ret y ws D cl tys w0 → (∀ x ∈ c.exceptionTable.toList, False) →
      GJ p l e (headSpec ws rm).room s m args below meth c D cl (va_A w0 s.heap.size) s.heap maxL (vx_MQ below (gc_Qi D cl tys w0 post s.heap.size) (gc_X D cl tys w0 px s.heap.size) args s mc ms (va_A w0 s.heap.size)) 0 0 w0 0 av []) :
    GXi l y ws rm mc ms D cl tys av w0 post px := by
  intro sz
  refine vx_ofW (cc := cc) (maxL := maxL) (ret := ret) hy hw ?_
  intro p e s m args below meth c s₁ B hml ht hv9
  obtain ⟨rfl, hsz, hP, hK, hD0, hE⟩ := hv9
  subst hsz
  rw [lg_entry_eq]
  exact body p e s m _ below meth c ⟨B.exec, B.bytes, hml, findClass_of_methodNamed B.named, atoms_spec (ws := ws) B.pre, B.returns, B.notSynchronized, hK, (name_of_methodNamed B.named B.method).1, hE⟩ ht _ _ _ (gl_entry av hv hl) hP (hD0.self (sz := s.heap.size)) va_S.rf
end GXB
section GXE
variable {p : Program} {l : Launch} {e : Env} {R : Room} {s : State} {m : MethodId} {args : Array Value} {below : List Frame} {meth : Method} {c : Code} {cells slots mc ms : Nat}
variable {D : va_G} {cl : List vw_C} {tys : List (ClassId × FieldType)} {n pc : Nat} {w w0 : va_W} {L : List Value} {cc : ByteArray} {y : MethodName} {Ts : List Cond} {ret : Option FieldType}
theorem gx_iret {post : Int32 → va_W → Prop} {px : String → va_W → Prop} {v : Int32} (F : GF p s m args meth c cc n (some .int) y Ts D cl tys w0) (hd : decode cc pc = .ok (.ireturn, 1)) (hc : cells ≤ mc) (hs : slots ≤ ms) (hp : post v w) :
    GJ p l e R s m args below meth c D cl (va_A w0 s.heap.size) s.heap n (vx_MQ below (gc_Qi D cl tys w0 post s.heap.size) (gc_X D cl tys w0 px s.heap.size) args s mc ms (va_A w0 s.heap.size)) cells slots w pc L [.int v] :=
  fun ls H locs h1 h2 h3 h4 => vx_ret (gj_iret F hd hc hs hp ls H locs h1 h2 h3 h4)
end GXE
