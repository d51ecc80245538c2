/-! GJ: the walk of a body with a list of locals and a world of cells, from any heap that holds them -/
/-- the locals: the list says what stands at 0, 1, 2, .. (no long among them) -/
def gl_h (ls : Array Slot) (n : Nat) (L : List Value) : Prop := ls.size = n ∧ lv_wf ls ∧ (∀ v ∈ L, v.category = 1) ∧ ∀ (k : Nat) (v : Value), L[k]? = some v → ls[k]? = some (.val v)
def gl_ix (L : List Value) : List (Nat × Value) := L.zipIdx.map (fun q => (q.2, q.1))
def gl_set : List Value → Nat → Value → List Value
  | [], _, v => [v]
  | _ :: t, 0, v => v :: t
  | a :: t, i + 1, v => a :: gl_set t i v
theorem gl_set_at : ∀ (L : List Value) (i : Nat) (x : Value), i ≤ L.length → ∀ (k : Nat) (v : Value), (gl_set L i x)[k]? = some v → (k = i ∧ v = x) ∨ (k ≠ i ∧ L[k]? = some v)
  | [], i, x, hi, k, v, hk => by
    have h0 : i = 0 := by simpa using hi
    subst h0
    cases k with
    | zero => exact Or.inl ⟨rfl, (Option.some.inj hk).symm⟩
    | succ k => simp [gl_set] at hk
  | b :: t, 0, x, hi, k, v, hk => by
    cases k with
    | zero => exact Or.inl ⟨rfl, (Option.some.inj hk).symm⟩
    | succ k => exact Or.inr ⟨by omega, hk⟩
  | b :: t, i + 1, x, hi, k, v, hk => by
    cases k with
    | zero => exact Or.inr ⟨by omega, hk⟩
    | succ k =>
      have hk2 : (gl_set t i x)[k]? = some v := hk
      rcases gl_set_at t i x (by simpa using hi) k v hk2 with ⟨h1, h2⟩ | ⟨h1, h2⟩
      · exact Or.inl ⟨by omega, h2⟩
      · exact Or.inr ⟨by omega, h2⟩
theorem gl_mem {L : List Value} {k : Nat} {v : Value} : (k, v) ∈ gl_ix L ↔ L[k]? = some v := by
  constructor
  · intro h
    obtain ⟨⟨v', k'⟩, hm, he⟩ := List.mem_map.mp h
    cases he
    exact List.mk_mem_zipIdx_iff_getElem?.mp hm
  · intro h
    exact List.mem_map.mpr ⟨(v, k), List.mk_mem_zipIdx_iff_getElem?.mpr h, rfl⟩
theorem gl_has {ls : Array Slot} {n : Nat} {L : List Value} (h : gl_h ls n L) : lv_has ls n (gl_ix L) := ⟨h.1, h.2.1, fun q hq => h.2.2.2 q.1 q.2 (gl_mem.mp hq)⟩
theorem gl_put {ls : Array Slot} {n i : Nat} {L : List Value} {x : Value} (hL : ∀ v ∈ L, v.category = 1) (hi : i ≤ L.length) (hx : x.category = 1)
    (h : lv_has ls n ((i, x) :: (gl_ix L).filter (fun q => !(q.1 == i) && !(q.1 + 1 == i && q.2.category == 2)))) : gl_h ls n (gl_set L i x) := by
  have key := gl_set_at L i x hi
  refine ⟨h.1, h.2.1, fun v hv => ?_, fun k v hk => ?_⟩
  · obtain ⟨k, hk⟩ := List.getElem?_of_mem hv
    rcases key k v hk with ⟨-, rfl⟩ | ⟨-, h2⟩
    · exact hx
    · exact hL v (List.mem_of_getElem? h2)
  · rcases key k v hk with ⟨rfl, rfl⟩ | ⟨h1, h2⟩
    · exact h.2.2 _ List.mem_cons_self
    · refine h.2.2 (k, v) (List.mem_cons_of_mem _ (List.mem_filter.mpr ⟨gl_mem.mpr h2, ?_⟩))
      have hc : v.category = 1 := hL v (List.mem_of_getElem? h2)
      simp [h1, hc]
theorem gl_take {ls : Array Slot} {n : Nat} {L : List Value} (k : Nat) (h : gl_h ls n L) : gl_h ls n (L.take k) := by
  refine ⟨h.1, h.2.1, fun v hv => h.2.2.1 v (List.mem_of_mem_take hv), fun j v hj => h.2.2.2 j v ?_⟩
  rw [List.getElem?_take] at hj
  split at hj
  · exact hj
  · cases hj
theorem gl_pre {ls : Array Slot} {n : Nat} {L L' : List Value} (h : gl_h ls n (L ++ L')) : gl_h ls n L := by
  refine ⟨h.1, h.2.1, fun v hv => h.2.2.1 v (List.mem_append_left _ hv), fun j v hj => h.2.2.2 j v ?_⟩
  rw [List.getElem?_append_left (List.getElem?_eq_some_iff.mp hj).1]
  exact hj
/-- the locals with which a method begins -/
theorem gl_entry (vs : List Value) (hc : ∀ v ∈ vs, v.category = 1) {n : Nat} (hn : (lg_sl vs).length ≤ n) : gl_h ((lg_sl vs ++ List.replicate (n - (lg_sl vs).length) Slot.unset).toArray) n vs := by
  have h := lv_entry vs hn
  have ha : ∀ (vs : List Value) (i : Nat), (∀ v ∈ vs, v.category = 1) → ∀ (k : Nat) (v : Value), vs[k]? = some v → (i + k, v) ∈ lv_args i vs := by
    intro vs
    induction vs with
    | nil => intro i _ k v hk; simp at hk
    | cons a t ih =>
      intro i hc k v hk
      have h1 : a.category = 1 := hc a List.mem_cons_self
      have e : lv_args i (a :: t) = (i, a) :: lv_args (i + 1) t := by simp [lv_args, h1]
      rw [e]
      cases k with
      | zero =>
        simp only [List.getElem?_cons_zero, Option.some.injEq] at hk
        subst hk
        exact List.mem_cons_self
      | succ k =>
        rw [List.getElem?_cons_succ] at hk
        have := ih (i + 1) (fun v hv => hc v (List.mem_cons_of_mem _ hv)) k v hk
        rw [show i + 1 + k = i + (k + 1) by omega] at this
        exact List.mem_cons_of_mem _ this
  refine ⟨h.1, h.2.1, hc, fun k v hk => ?_⟩
  have h2 := h.2.2 _ (ha vs 0 hc k v hk)
  rw [Nat.zero_add] at h2
  exact h2

section GJ
variable {p : Program} {l : Launch} {e : Env} {R : Room} {s : State} {m : MethodId} {args : Array Value} {below : List Frame} {meth : Method} {c : Code} {cells slots : Nat} {Q : State → Prop}
variable {D : va_G} {cl : List vw_C} {A : Nat → Prop} {H0 : Heap} {n : Nat} {w : va_W} {pc pc2 pc3 : Nat} {L L' st st2 : List Value}
def GJ (p : Program) (l : Launch) (e : Env) (R : Room) (s : State) (m : MethodId) (args : Array Value) (below : List Frame) (meth : Method) (c : Code) (D : va_G) (cl : List vw_C) (A : Nat → Prop) (H0 : Heap) (n : Nat) (Q : State → Prop) (cells slots : Nat) (w : va_W) (pc : Nat) (L st : List Value) : Prop :=
  ∀ (ls : Array Slot) (H : Heap) (locs : List Loc), gl_h ls n L → va_P D cl w H → va_D A w → va_S A H0 H locs → W p l e R s m args below meth c H locs cells slots Q (F0 m pc ls st)
/-- an instruction of the stack alone -/
theorem gj_l (r : ∀ (ls : Array Slot) (H : Heap) (locs : List Loc), W p l e R s m args below meth c H locs cells slots Q (F0 m pc2 ls st2) → W p l e R s m args below meth c H locs cells slots Q (F0 m pc ls st))
    (k : GJ p l e R s m args below meth c D cl A H0 n Q cells slots w pc2 L st2) : GJ p l e R s m args below meth c D cl A H0 n Q cells slots w pc L st := fun ls H locs h1 h2 h3 h4 => r ls H locs (k ls H locs h1 h2 h3 h4)
/-- a local is loaded -/
theorem gj_ld {i : Nat} {v : Value} (hv : L[i]? = some v) (r : ∀ (ls : Array Slot) (H : Heap) (locs : List Loc), ls[i]? = some (.val v) → W p l e R s m args below meth c H locs cells slots Q (F0 m pc2 ls st2) → W p l e R s m args below meth c H locs cells slots Q (F0 m pc ls st))
    (k : GJ p l e R s m args below meth c D cl A H0 n Q cells slots w pc2 L st2) : GJ p l e R s m args below meth c D cl A H0 n Q cells slots w pc L st := fun ls H locs h1 h2 h3 h4 => r ls H locs (h1.2.2.2 i v hv) (k ls H locs h1 h2 h3 h4)
/-- a branch -/
theorem gj_if {P P' : Prop} (r : ∀ (ls : Array Slot) (H : Heap) (locs : List Loc), (P → W p l e R s m args below meth c H locs cells slots Q (F0 m pc2 ls st2)) → (P' → W p l e R s m args below meth c H locs cells slots Q (F0 m pc3 ls st2)) → W p l e R s m args below meth c H locs cells slots Q (F0 m pc ls st))
    (kt : P → GJ p l e R s m args below meth c D cl A H0 n Q cells slots w pc2 L st2) (kf : P' → GJ p l e R s m args below meth c D cl A H0 n Q cells slots w pc3 L st2) : GJ p l e R s m args below meth c D cl A H0 n Q cells slots w pc L st :=
  fun ls H locs h1 h2 h3 h4 => r ls H locs (fun h => kt h ls H locs h1 h2 h3 h4) (fun h => kf h ls H locs h1 h2 h3 h4)
/-- a local is stored -/
theorem gj_st {i : Nat} {x : Value} (hi : i ≤ L.length) (hx : x.category = 1)
    (r : ∀ (ls : Array Slot) (H : Heap) (locs : List Loc) (lv lv' : List (Nat × Value)), lv_has ls n lv → (i, x) :: lv.filter (fun q => !(q.1 == i) && !(q.1 + 1 == i && q.2.category == 2)) = lv' → (∀ ls' : Array Slot, lv_has ls' n lv' → W p l e R s m args below meth c H locs cells slots Q (F0 m pc2 ls' st2)) → W p l e R s m args below meth c H locs cells slots Q (F0 m pc ls st))
    (k : GJ p l e R s m args below meth c D cl A H0 n Q cells slots w pc2 (gl_set L i x) st2) : GJ p l e R s m args below meth c D cl A H0 n Q cells slots w pc L st := by
  intro ls H locs h1 h2 h3 h4
  refine r ls H locs (gl_ix L) _ (gl_has h1) rfl (fun ls' h' => k ls' H locs ?_ h2 h3 h4)
  exact gl_put h1.2.2.1 hi hx h'
theorem gj_iinc {cc : ByteArray} {i : Nat} {z : Int} {x v : Int32} (hexec : p.tables.exec = Jvm.exec) (hb : c.code = cc) (hdg : decode cc pc = .ok (.iinc i z, 3)) (hn : i < n) (hx : L[i]? = some (.int x)) (hv : x + Int32.ofInt z = v) (hp : pc + 3 = pc2)
    (k : GJ p l e R s m args below meth c D cl A H0 n Q cells slots w pc2 (gl_set L i (.int v)) st) : GJ p l e R s m args below meth c D cl A H0 n Q cells slots w pc L st := by
  intro ls H locs h1 h2 h3 h4
  have hk : (gl_ix L)[i]? = some (i, .int x) := by
    unfold gl_ix
    rw [List.getElem?_map, List.getElem?_zipIdx, hx]
    simp
  subst hp
  refine lv_iinc hexec hb hdg (gl_has h1) hk hv hn rfl (fun ls' h' => k ls' H locs ?_ h2 h3 h4)
  exact gl_put h1.2.2.1 (Nat.le_of_lt (List.getElem?_eq_some_iff.mp hx).1) rfl h'
/-- a read of the heap -/
theorem gj_m (r : ∀ (ls : Array Slot) (H : Heap) (locs : List Loc), va_P D cl w H → W p l e R s m args below meth c H locs cells slots Q (F0 m pc2 ls st2) → W p l e R s m args below meth c H locs cells slots Q (F0 m pc ls st))
    (k : GJ p l e R s m args below meth c D cl A H0 n Q cells slots w pc2 L st2) : GJ p l e R s m args below meth c D cl A H0 n Q cells slots w pc L st := fun ls H locs h1 h2 h3 h4 => r ls H locs h2 (k ls H locs h1 h2 h3 h4)
/-- a write of the heap -/
theorem gj_p {w2 : va_W} (r : ∀ (ls : Array Slot) (H : Heap) (locs : List Loc), va_P D cl w H → va_D A w → va_S A H0 H locs → (∀ (H1 : Heap) (locs1 : List Loc), va_P D cl w2 H1 → va_D A w2 → va_S A H0 H1 locs1 → W p l e R s m args below meth c H1 locs1 cells slots Q (F0 m pc2 ls st2)) → W p l e R s m args below meth c H locs cells slots Q (F0 m pc ls st))
    (k : GJ p l e R s m args below meth c D cl A H0 n Q cells slots w2 pc2 L st2) : GJ p l e R s m args below meth c D cl A H0 n Q cells slots w pc L st := fun ls H locs h1 h2 h3 h4 => r ls H locs h2 h3 h4 (fun H1 locs1 g2 g3 g4 => k ls H1 locs1 h1 g2 g3 g4)
/-- fewer locals -/
theorem gj_drop {L0 : List Value} (k : GJ p l e R s m args below meth c D cl A H0 n Q cells slots w pc L st) : GJ p l e R s m args below meth c D cl A H0 n Q cells slots w pc (L ++ L0) st := fun ls H locs h1 h2 h3 h4 => k ls H locs (gl_pre h1) h2 h3 h4
theorem gj_eq {w2 : va_W} {L2 st3 : List Value} (hw : w = w2) (hL : L = L2) (hs : st = st3) (k : GJ p l e R s m args below meth c D cl A H0 n Q cells slots w2 pc L2 st3) : GJ p l e R s m args below meth c D cl A H0 n Q cells slots w pc L st := by
  subst hw; subst hL; subst hs; exact k
theorem gj_wide {k9 n9 : Nat} (h1 : cells ≤ k9) (h2 : slots ≤ n9) (k : GJ p l e R s m args below meth c D cl A H0 n Q k9 n9 w pc L st) : GJ p l e R s m args below meth c D cl A H0 n Q cells slots w pc L st := fun ls H locs g1 g2 g3 g4 => W.widen h1 h2 (k ls H locs g1 g2 g3 g4)
end GJ
