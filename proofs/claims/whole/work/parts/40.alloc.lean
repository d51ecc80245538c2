/-! what is made: arrays, objects, final fields, calls that make cells -/
theorem ra_int (U : State) (c : ClassId) (h : va_RA U c .int) : U.vm.findClass ("[" ++ (FieldType.int).toString) = some c := h
theorem ra_boo (U : State) (c : ClassId) (h : va_RA U c .boolean) : U.vm.findClass ("[" ++ (FieldType.boolean).toString) = some c := h
theorem ra_lon (U : State) (c : ClassId) (h : va_RA U c .long) : U.vm.findClass ("[" ++ (FieldType.long).toString) = some c := h
theorem ra_obj (C : String) (U : State) (c : ClassId) (h : va_RA U c (.object C)) : U.vm.findClass ("[" ++ (FieldType.object C).toString) = some c := by
  obtain ⟨_, _, _, _, _, h⟩ := h
  exact h
section AL
variable {p : Program} {l : Launch} {e : Env} {R : Room} {s : State} {m : MethodId} {args : Array Value} {below : List Frame} {meth : Method} {c : Code} {cells slots : Nat} {Q : State → Prop}
variable {D : va_G} {A : Nat → Prop} {n : Nat} {w w0 : va_W} {pc pc2 : Nat} {L rest : List Value} {cc : ByteArray} {ret : Option FieldType} {y : MethodName} {c0 : Cond} {cI cB cZ cJ : ClassId}
theorem gj_newa (F : GF p s m args meth c cc n ret y (c0 :: tbW) D vCl (TY cI cB cZ cJ) w0) {t : ArrayType} {ty : FieldType} (k0 : Nat) {cA : ClassId} (hk : (TY cI cB cZ cJ)[k0]? = some (cA, ty)) (hra : ∀ (U : State) (c : ClassId), va_RA U c ty → U.vm.findClass ("[" ++ ty.toString) = some c) (harr : Cond.arrayClass (newarray.typeOf t) ∈ tbW) (hty : newarray.typeOf t = ty) {N : Nat} {a0 : vp_A} (ha : ∀ c : ClassId, vp_cell c a0 = arrV c N (fun _ => defaultValue ty)) (hN : N < 2 ^ 31) (hby : N * componentBytes ty ≤ 536870912) (hc : cells + 1 ≤ R.cells) (hs : slots + N ≤ R.slots) (hA : ∀ q, s.heap.size ≤ q → A q) (hd : decode cc pc = .ok (.newarray t, 2)) (hp : pc + 2 = pc2)
    (kk : ∀ q : Nat, GJ p l e R s m args below meth c D vCl A s.heap n Q (cells + 1) (slots + N) (w ++ [(q, .inl (cA, a0))]) pc2 L (.ref q :: rest)) : GJ p l e R s m args below meth c D vCl A s.heap n Q cells slots w pc L (.int (nI N) :: rest) := by
  subst hp
  intro ls H locs g1 g2 g3 g4
  refine va_newa (D := D) (a0 := a0) (N' := N) F.1 F.2.1 (F.w harr) hty F.K g2 g3 g4 hA ha (nI_pos hN) (nI_clamp hN) hby hc hs hd (fun q cA' H1 kK kP kD kS => ?_)
  have h1 := (kK.2 4 (cA', ty) rfl).2
  have h2 := (F.K.2 k0 (cA, ty) hk).2
  have e1 : cA' = cA := Option.some.inj ((hra _ _ h1).symm.trans (hra _ _ h2))
  subst e1
  exact kk q ls H1 locs g1 kP kD kS
theorem gj_newq (F : GF p s m args meth c cc n ret y (c0 :: tbW) D vCl (TY cI cB cZ cJ) w0) {idx : Nat} (hcl : Cond.classLink y.cls idx rB ∈ tbW) {N : Nat} (hN : N < 2 ^ 31) (hby : N * 4 ≤ 536870912) (hc : cells + 1 ≤ R.cells) (hs : slots + N ≤ R.slots) (hA : ∀ q, s.heap.size ≤ q → A q) (hd : decode cc pc = .ok (.anewarray idx, 3)) (hp : pc + 3 = pc2)
    (kk : ∀ q : Nat, GJ p l e R s m args below meth c D vCl A s.heap n Q (cells + 1) (slots + N) (w ++ [(q, .inl (cB, N, .inr (.inr (.inr (.inr (fun _ => none))))))]) pc2 L (.ref q :: rest)) : GJ p l e R s m args below meth c D vCl A s.heap n Q cells slots w pc L (.int (nI N) :: rest) := by
  subst hp
  intro ls H locs g1 g2 g3 g4
  refine va_newq (D := D) (N' := N) F.1 F.2.1 F.2.2.2.1 (F.w hcl) (F.N (w := .arrayOver (.object rB)) (by decide +kernel)) F.K g2 g3 g4 hA (nI_pos hN) (nI_clamp hN) hby hc hs hd (fun q cA' H1 kK kP kD kS => ?_)
  have h1 := (kK.2 4 (cA', .object rB) rfl).2
  have h2 := (F.K.2 1 (cB, .object rB) rfl).2
  have e1 : cA' = cB := Option.some.inj ((ra_obj _ _ _ h1).symm.trans (ra_obj _ _ _ h2))
  subst e1
  exact kk q ls H1 locs g1 kP kD kS
theorem gj_new (F : GF p s m args meth c cc n ret y (c0 :: tbW) D vCl (TY cI cB cZ cJ) w0) {C : String} {T : u_T} {N ci idx : Nat} (ty : Nat → FieldType) (hty : ∀ k, k < N → parseFieldDescriptor (T k).2.2.1 = some (ty k)) (hin : ∀ w ∈ u_ws C T N, w ∈ tbW) (hcl : Cond.classLink y.cls idx C ∈ tbW) (hinst : Cond.instantiable C N ∈ tbW) (hini : Cond.initialized C ∈ tbW) (hci : vCl[ci]? = some (C, T, N)) {fs : List Value} (hfs : ∀ j, j < N → defaultValue (ty j) = vp_V fs j) (hc : cells + 1 ≤ R.cells) (hs : slots + N ≤ R.slots) (hA : ∀ q, s.heap.size ≤ q → A q) (hd : decode cc pc = .ok (.new idx, 3)) (hp : pc + 3 = pc2)
    (kk : ∀ q : Nat, GJ p l e R s m args below meth c D vCl A s.heap n Q (cells + 1) (slots + N) (w ++ [(q, .inr (ci, fs))]) pc2 L (.ref q :: rest)) : GJ p l e R s m args below meth c D vCl A s.heap n Q cells slots w pc L rest := by
  subst hp
  intro ls H locs g1 g2 g3 g4
  exact va_new (D := D) (T := T) (N := N) (C := C) (fs := fs) F.1 F.2.1 F.2.2.2.2.1 (fun w h => List.mem_cons_of_mem _ (hin w h)) ty hty F.2.2.2.1 (F.w hcl) (F.w hinst) (F.w hini) F.K g2 g3 g4 hA hci hfs hc hs hd (fun q H1 kP kD kS => kk q ls H1 locs g1 kP kD kS)
theorem gj_obj (F : GF p s m args meth c cc n ret y (c0 :: tbW) D vCl (TY cI cB cZ cJ) w0) {H0 : Heap} {idx b : Nat} (hl : Cond.methodLink y.cls idx Lib.objectInit ∈ tbW) (hfr : 1 ≤ R.frames) (hlo : 12 ≤ R.locals) (hrs : rest = []) (hd : decode cc pc = .ok (.invokespecial idx, 3)) (hp : pc + 3 = pc2)
    (kk : GJ p l e R s m args below meth c D vCl A H0 n Q cells slots w pc2 L rest) : GJ p l e R s m args below meth c D vCl A H0 n Q cells slots w pc L (.ref b :: rest) := by
  subst hp
  subst hrs
  intro ls H locs g1 g2 g3 g4
  exact W.objInit (rest := []) F.1 F.2.1 F.2.2.2.1 (F.w hl) (F.w q_16) (F.w q_17) rfl (g1.1.trans F.2.2.1.symm) rfl hd hfr hlo (kk ls H locs g1 g2 g3 g4)
theorem gj_putF (F : GF p s m args meth c cc n ret y (c0 :: tbW) D vCl (TY cI cB cZ cJ) w0) {H0 : Heap} {C : String} {T : u_T} {N ci idx b : Nat} (ty0 : Nat → FieldType) (hty : ∀ k, k < N → parseFieldDescriptor (T k).2.2.1 = some (ty0 k)) (hnm : ∀ a, a < N → ∀ b, b < N → a ≠ b → (T a).2.1 ≠ (T b).2.1) (hin : ∀ w ∈ u_ws C T N, w ∈ tbW) (q0 : Nat) {fs : List Value} (he : w[q0]? = some (b, .inr (ci, fs))) (hci : vCl[ci]? = some (C, T, N)) (k : Nat) (hk : k < N) (hT1 : (T k).1 = C) (hl : Cond.fieldLink y.cls idx C (T k).2.1 (T k).2.2.1 ∈ tbW) (hfin : (T k).2.2.2 = true) (hin2 : y.name = "<init>") (hdecl : (T k).1 = y.cls) {ty : FieldType} {v : Value} (hpd : parseFieldDescriptor (T k).2.2.1 = some ty) (hn : narrow ty v = v) (hfit : fits ty v = true) (hlen : k < fs.length) (hd : decode cc pc = .ok (.putfield idx, 3)) (hp : pc + 3 = pc2)
    (kk : GJ p l e R s m args below meth c D vCl A H0 n Q cells slots (w.set q0 (b, .inr (ci, fs.set k v))) pc2 L rest) : GJ p l e R s m args below meth c D vCl A H0 n Q cells slots w pc L (v :: .ref b :: rest) := by
  subst hp
  intro ls H locs g1 g2 g3 g4
  exact va_putF (D := D) (T := T) (N := N) (C := C) (ref := C) F.1 F.2.1 F.2.2.2.2.1 (fun w h => List.mem_cons_of_mem _ (hin w h)) ty0 hty hnm F.2.2.2.1 F.K g2 g3 g4 q0 he hci k hk (F.w hl) (fun _ h9 => by rw [hT1] at h9; exact h9) hfin (F.2.2.2.2.2.2.2.2.1.trans hin2) hdecl hpd hn hfit hlen hd (fun H1 locs1 k1 k2 k3 => kk ls H1 locs1 g1 k1 k2 k3)
end AL
/-! the constructors -/
def dB : List Value := [.null, .int 0, .int 0, .int 0]
def dX : List Value := [.null, .null, .null, .int 0, .int 0, .int 0, .int 0, .int 0, .int 0, .int 0, .int 0, .int 0]
def dM : List Value := [.int 0, .null, .null, .int 0, .int 0, .int 0, .int 0, .null, .null, .null, .null, .int 0, .int 0, .int 0, .int 0, .int 0, .int 0, .int 0, .int 0]
def z0 : Nat → Int32 := fun _ => 0
theorem z0_a (N : Nat) (c : ClassId) : vp_cell c (N, .inl z0) = arrV c N (fun _ => defaultValue .int) := rfl
theorem z0_z (N : Nat) (c : ClassId) : vp_cell c (N, .inl z0) = arrV c N (fun _ => defaultValue .boolean) := rfl
def wB (b q : Nat) (cI : ClassId) : va_W := [(b, .inr (kB, bw_b q z0)), (q, .inl (cI, 12, .inl z0))]
set_option maxHeartbeats 4000000 in
set_option maxRecDepth 100000 in
theorem ct_B_init {l : Launch} {D : va_G} {cI cB cZ cJ : ClassId} (b : Nat) : GCv l y_B_init (Cond.code y_B_init c_B_init 1 none :: tbW) ({ frames := 1, cells := 1, slots := 12, locals := 12 }) 1 12 D vCl (TY cI cB cZ cJ) [.ref b] [(b, .inr (kB, dB))] (fun u => ∃ q : Nat, u = wB b q cI) := by
  refine gc_body (Qc := gc_Qv D vCl (TY cI cB cZ cJ) [(b, .inr (kB, dB))] (fun u => ∃ q : Nat, u = wB b q cI)) (cc := c_B_init) (maxL := 1) (ret := none) (by decide) rfl (by simp [Value.category]) (Nat.le_of_ble_eq_true rfl) ?_
  intro p e s m args below meth c F
  have hx := F.1
  have hb := F.2.1
  refine gj_ld (i := 0) (pc2 := 1) rfl (fun _ _ _ h9 => lv_aload_n hx hb d_B_init_0 rfl h9) ?_
  refine gj_obj F q_24 (Nat.le_of_ble_eq_true rfl) (Nat.le_of_ble_eq_true rfl) rfl d_B_init_1 rfl ?_
  refine gj_ld (i := 0) (pc2 := 5) rfl (fun _ _ _ h9 => lv_aload_n hx hb d_B_init_4 rfl h9) ?_
  refine gj_l (pc2 := 7) (fun _ _ _ => lv_bipush (v := (12)) hx hb d_B_init_5 (by decide)) ?_
  refine gj_newa F (t := .int) 0 rfl ra_int q_42 rfl (N := 12) (z0_a 12) (by decide) (by decide) (Nat.le_of_ble_eq_true rfl) (Nat.le_of_ble_eq_true rfl) ga_A d_B_init_7 rfl (fun q => ?_)
  refine gj_putF F tB tB_ok nB iB 0 (ci := kB) (fs := dB) rfl rfl 0 (by decide) rfl q_25 rfl rfl rfl (ty := .array .int) (by decide +kernel) rfl rfl (by decide) d_B_init_9 rfl ?_
  exact gj_vret F d_B_init_12 (Nat.le_refl _) (Nat.le_refl _) ⟨q, rfl⟩
