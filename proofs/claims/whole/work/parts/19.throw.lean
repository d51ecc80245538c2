/-! throw new E("text"), over the judgement -/
abbrev xIo : String := "java/lang/IndexOutOfBoundsException"
abbrev xIa : String := "java/lang/IllegalArgumentException"
abbrev xNm : List String := ["java/lang/RuntimeException", "java/lang/Exception"]
theorem xh_Io1 : ∀ w ∈ (vx_atS rX 41 xIo xNm).filter goodWord, w ∈ tbW := by decide +kernel
theorem xh_Io2 : ∀ w ∈ (vx_atS rX 41 xIo xNm).filter (fun w => !goodWord w), w ∈ ev_N := by decide +kernel
theorem xh_Io3 : ∀ w ∈ Cond.classLink rX 37 xIo :: Cond.initialized xIo :: vx_atS rX 41 xIo xNm, vx_ot w = true := by decide +kernel
theorem xh_Ia1 : ∀ w ∈ (vx_atS rX 48 xIa xNm).filter goodWord, w ∈ tbW := by decide +kernel
theorem xh_Ia2 : ∀ w ∈ (vx_atS rX 48 xIa xNm).filter (fun w => !goodWord w), w ∈ ev_N := by decide +kernel
theorem xh_Ia3 : ∀ w ∈ Cond.classLink rX 44 xIa :: Cond.initialized xIa :: vx_atS rX 48 xIa xNm, vx_ot w = true := by decide +kernel
theorem xh_fit : Bundle.fit xIo = true ∧ Bundle.fit xIa = true ∧ ∀ n ∈ xNm, Bundle.fit n = true := by decide +kernel
theorem ev_use {w : Cond} (hk : ev_k w = true) {A : Array Value} {U : State} (h : va_Nw w U) : w.before A U = true := by
  cases w with
  | methodLinkNest a i x h9 => exact va_Nw.use rfl h
  | fieldLinkNest a i b n d h9 => exact va_Nw.use rfl h
  | arrayOver t =>
    cases t with
    | object C => exact va_AO.use h
    | _ => cases hk
  | castable a b => exact h
  | declares x => exact va_Nw.use rfl h
  | _ => cases hk
section GXT
variable {p : Program} {l : Launch} {e : Env} {R : Room} {s : State} {m : MethodId} {args : Array Value} {below : List Frame} {meth : Method} {c : Code} {cells slots mc ms : Nat}
variable {D : va_G} {n pc : Nat} {w w0 : va_W} {L rest : List Value} {cc : ByteArray} {y : MethodName} {c0 : Cond} {ret : Option FieldType} {cI cB cZ cJ : ClassId}
theorem gx_throw {post : Int32 → va_W → Prop} {px : String → va_W → Prop} {cls text : String} {ik is ic : Nat} (F : GF p s m args meth c cc n ret y (c0 :: tbW) D vCl (TY cI cB cZ cJ) w0) (ht : ∀ x ∈ c.exceptionTable.toList, False) (hl : l.stackTraces = false) (hy : y.cls = rX)
    (hcls : Bundle.fit cls = true) (hk : Cond.classLink rX ik cls ∈ tbW) (hini : Cond.initialized cls ∈ tbW) (hS : (rX, is, text) ∈ ev_S) (h1 : ∀ w ∈ (vx_atS rX ic cls xNm).filter goodWord, w ∈ tbW) (h2 : ∀ w ∈ (vx_atS rX ic cls xNm).filter (fun w => !goodWord w), w ∈ ev_N) (h3 : ∀ w ∈ Cond.classLink rX ik cls :: Cond.initialized cls :: vx_atS rX ic cls xNm, vx_ot w = true)
    (d0 : decode cc pc = .ok (.new ik, 3)) (d3 : decode cc (pc + 3) = .ok (.dup, 1)) (d4 : decode cc (pc + 4) = .ok (.ldc is, 2)) (d6 : decode cc (pc + 6) = .ok (.invokespecial ic, 3)) (d9 : decode cc (pc + 9) = .ok (.athrow, 1))
    (hRf : 5 < R.frames) (hRl : (rest.map fun v => v.category).sum + 82 ≤ R.locals) (hRc : cells + 1 ≤ R.cells) (hRs : slots + 6 ≤ R.slots) (hc : cells + 1 ≤ mc) (hs : slots + 6 ≤ ms) (hp : px cls w) :
    GJ p l e R s m args below meth c D vCl (va_A w0 s.heap.size) s.heap n (vx_MQ below (gc_Qi D vCl (TY cI cB cZ cJ) w0 post s.heap.size) (gc_X D vCl (TY cI cB cZ cJ) w0 px s.heap.size) args s mc ms (va_A w0 s.heap.size)) cells slots w pc L rest := by
  intro ls H locs g1 g2 g3 g4
  have hE := F.E
  obtain ⟨sa, hstr⟩ := hE.2.1 _ hS
  have hown : s.vm.findClass rX = some m.cls := by rw [← hy]; exact F.2.2.2.1
  have hat : ∀ w ∈ vx_atS rX ic cls xNm, w.before args s = true := vx_hat (B := ev_N) (fun w h => F.w (h1 w h)) h2 (fun w h => ev_use (ev_kN w h) (F.N h))
  refine vx_throwS (A := va_A w0 s.heap.size) (sa := sa) (text := text) (names := xNm) F.1 F.2.1 hl hown hcls xh_fit.2.2 (F.w hk) (F.w hini) hstr hat h3 hE.2.2.1 hE.2.2.2.1 g4 (g1.1.trans F.2.2.1.symm) d0 d3 d4 d6 d9 (fun x hx => (ht x hx).elim) hRf hRl hRc hRs F.2.2.2.2.2.2.1 (fun t hvm hz hk9 => ?_) g4.2.2 hc hs
  refine ⟨(cls, w), hp, ⟨rfl, g2.kept (fun k q hq => hk9 q.1 ((g2 k q hq).lt)), va_K.moved hvm F.K, g3⟩, Nat.le_trans g4.1 hz, fun q h5 h6 => ?_⟩
  rw [hk9 q (Nat.lt_of_lt_of_le h5 g4.1)]
  exact g4.2.1 q h5 h6
end GXT
