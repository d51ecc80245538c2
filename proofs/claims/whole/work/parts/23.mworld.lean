/-! the world of the reference: 7 cells. 0: the object, 1: memory, 2: registers, 3: kept, 4: places, 5: words, 6: bytes -/
def mw_f (a : Nat → Nat) (r : Nat → Int32) : List Value := [.int (r 0), .ref (a 1), .ref (a 2), .int (r 3), .int (r 4), .int (r 5), .int (r 6), .ref (a 3), .ref (a 4), .ref (a 5), .ref (a 6), .int (r 11), .int (r 12), .int (r 13), .int (r 14), .int (r 15), .int (r 16), .int (r 17), .int (r 18)]
def mw_e (a : Nat → Nat) (cI cZ : ClassId) (τ : St) (i : Nat) : va_E := match i with
  | 0 => .inr (kM, mw_f a (τ 0))
  | 1 => .inl (cI, 1024, .inl (τ 1))
  | 2 => .inl (cI, 8, .inl (τ 2))
  | 3 => .inl (cZ, 32, .inl (τ 3))
  | i + 4 => .inl (cI, 32, .inl (τ (i + 4)))
def mw (a : Nat → Nat) (cI cZ : ClassId) (τ : St) : va_W := (List.range 7).map (fun i => (a i, mw_e a cI cZ τ i))
theorem fM_1 (k : Nat) : (fM k).1 = rM := by unfold fM; split <;> rfl
section MW
variable {a : Nat → Nat} {cI cZ : ClassId} {τ : St}
theorem mw_at {i : Nat} (h : i < 7) : (mw a cI cZ τ)[i]? = some (a i, mw_e a cI cZ τ i) := by
  unfold mw
  rw [List.getElem?_map, List.getElem?_range h]
  rfl
theorem mw_e_up {i k : Nat} {f : Nat → Int32} (h : k ≠ i) : mw_e a cI cZ (va_up τ i f) k = mw_e a cI cZ τ k := by
  have e : va_up τ i f k = τ k := va_up_ne _ _ h
  match k, e with
  | 0, e => simp only [mw_e, e]
  | 1, e => simp only [mw_e, e]
  | 2, e => simp only [mw_e, e]
  | 3, e => simp only [mw_e, e]
  | k + 4, e => simp only [mw_e, e]
theorem mw_set {i : Nat} {f : Nat → Int32} {x : va_E} (h : i < 7) (hx : mw_e a cI cZ (va_up τ i f) i = x) : (mw a cI cZ τ).set i (a i, x) = mw a cI cZ (va_up τ i f) := by
  subst hx
  have hl : (mw a cI cZ τ).length = 7 := by simp [mw]
  apply List.ext_getElem?
  intro k
  by_cases hk : k = i
  · subst hk
    rw [List.getElem?_set_self (by omega), mw_at h]
  · rw [List.getElem?_set_ne (Ne.symm hk)]
    by_cases hl2 : k < 7
    · rw [mw_at hl2, mw_at hl2, mw_e_up hk]
    · rw [List.getElem?_eq_none (by omega), List.getElem?_eq_none (by simp [mw]; omega)]
end MW
def mI (k : Nat) : Bool := k == 0 || k == 3 || k == 4 || k == 11 || k == 13 || k == 14 || k == 15 || k == 16 || k == 17 || k == 18
def mZ (k : Nat) : Bool := k == 5 || k == 6 || k == 12
def mR (k : Nat) : Nat := if k = 1 then 1 else if k = 2 then 2 else k - 4
theorem mI_c {k : Nat} (h : mI k = true) : k = 0 ∨ k = 3 ∨ k = 4 ∨ k = 11 ∨ k = 13 ∨ k = 14 ∨ k = 15 ∨ k = 16 ∨ k = 17 ∨ k = 18 := by
  simp only [mI, Bool.or_eq_true, beq_iff_eq] at h
  omega
theorem mZ_c {k : Nat} (h : mZ k = true) : k = 5 ∨ k = 6 ∨ k = 12 := by
  simp only [mZ, Bool.or_eq_true, beq_iff_eq] at h
  omega
theorem mw_f_get {a : Nat → Nat} {r : Nat → Int32} {k : Nat} (h : (mI k || mZ k) = true) : (mw_f a r)[k]? = some (.int (r k)) := by
  rcases (Bool.or_eq_true _ _ ▸ h : mI k = true ∨ mZ k = true) with h | h
  · rcases mI_c h with rfl | rfl | rfl | rfl | rfl | rfl | rfl | rfl | rfl | rfl <;> rfl
  · rcases mZ_c h with rfl | rfl | rfl <;> rfl
theorem mw_f_put {a : Nat → Nat} {r : Nat → Int32} {k : Nat} {v : Int32} (h : (mI k || mZ k) = true) : (mw_f a r).set k (.int v) = mw_f a (upd r k v) := by
  rcases (Bool.or_eq_true _ _ ▸ h : mI k = true ∨ mZ k = true) with h | h
  · rcases mI_c h with rfl | rfl | rfl | rfl | rfl | rfl | rfl | rfl | rfl | rfl <;> simp [mw_f, upd]
  · rcases mZ_c h with rfl | rfl | rfl <;> simp [mw_f, upd]
section MJ
variable {p : Program} {l : Launch} {e : Env} {R : Room} {s : State} {m : MethodId} {args : Array Value} {below : List Frame} {meth : Method} {c : Code} {cells slots : Nat} {Q : State → Prop}
variable {D : va_G} {A : Nat → Prop} {H0 : Heap} {n : Nat} {w0 : va_W} {pc pc2 : Nat} {L rest : List Value} {cc : ByteArray} {ret : Option FieldType} {y : MethodName} {c0 : Cond} {cI cB cZ cJ : ClassId} {a : Nat → Nat} {τ : St}
theorem mj_gr (F : GF p s m args meth c cc n ret y (c0 :: tbW) D vCl (TY cI cB cZ cJ) w0) {idx : Nat} (k : Nat) (hk : (k == 1 || k == 2 || k == 7 || k == 8 || k == 9 || k == 10) = true) (hd : decode cc pc = .ok (.getfield idx, 3)) (hl : Cond.fieldLink y.cls idx rM (fM k).2.1 (fM k).2.2.1 ∈ tbW) (hp : pc + 3 = pc2)
    (kk : GJ p l e R s m args below meth c D vCl A H0 n Q cells slots (mw a cI cZ τ) pc2 L (.ref (a (mR k)) :: rest)) : GJ p l e R s m args below meth c D vCl A H0 n Q cells slots (mw a cI cZ τ) pc L (.ref (a 0) :: rest) := by
  subst hp
  simp only [Bool.or_eq_true, beq_iff_eq] at hk
  refine gj_m (fun ls H locs hP => va_get (D := D) (ci := kM) (v := .ref (a (mR k))) (C := rM) (T := fM) (N := 19) F.1 F.2.1 F.2.2.2.2.1 (fun w h => List.mem_cons_of_mem _ (iM w h)) F.2.2.2.1 F.K hP 0 (mw_at (by omega)) rfl k (by omega) (F.w hl) (fun _ h9 => by rw [fM_1] at h9; exact h9) ?_ hd) kk
  rcases (show k = 1 ∨ k = 2 ∨ k = 7 ∨ k = 8 ∨ k = 9 ∨ k = 10 by omega) with rfl | rfl | rfl | rfl | rfl | rfl <;> rfl
theorem mj_gi (F : GF p s m args meth c cc n ret y (c0 :: tbW) D vCl (TY cI cB cZ cJ) w0) {idx : Nat} (k : Nat) (hk : (mI k || mZ k) = true) (hd : decode cc pc = .ok (.getfield idx, 3)) (hl : Cond.fieldLink y.cls idx rM (fM k).2.1 (fM k).2.2.1 ∈ tbW) (hp : pc + 3 = pc2)
    (kk : GJ p l e R s m args below meth c D vCl A H0 n Q cells slots (mw a cI cZ τ) pc2 L (.int (τ 0 k) :: rest)) : GJ p l e R s m args below meth c D vCl A H0 n Q cells slots (mw a cI cZ τ) pc L (.ref (a 0) :: rest) := by
  subst hp
  have hk9 : k < 19 := by
    rcases (Bool.or_eq_true _ _ ▸ hk : mI k = true ∨ mZ k = true) with h | h
    · have := mI_c h; omega
    · have := mZ_c h; omega
  exact gj_m (fun ls H locs hP => va_get (D := D) (ci := kM) (v := .int (τ 0 k)) (C := rM) (T := fM) (N := 19) F.1 F.2.1 F.2.2.2.2.1 (fun w h => List.mem_cons_of_mem _ (iM w h)) F.2.2.2.1 F.K hP 0 (mw_at (by omega)) rfl k hk9 (F.w hl) (fun _ h9 => by rw [fM_1] at h9; exact h9) (mw_f_get hk) hd) kk
theorem mj_set {k : Nat} {v : Int32} (hk : (mI k || mZ k) = true) : (mw a cI cZ τ).set 0 (a 0, .inr (kM, (mw_f a (τ 0)).set k (.int v))) = mw a cI cZ (s2 τ 0 k v) :=
  mw_set (by omega) (by rw [mw_f_put hk]; show Sum.inr (kM, mw_f a (va_up τ 0 (upd (τ 0) k v) 0)) = _; rw [va_up_self])
theorem mj_pi (F : GF p s m args meth c cc n ret y (c0 :: tbW) D vCl (TY cI cB cZ cJ) w0) {idx : Nat} (k : Nat) (hk : mI k = true) {v : Int32} (hd : decode cc pc = .ok (.putfield idx, 3)) (hl : Cond.fieldLink y.cls idx rM (fM k).2.1 (fM k).2.2.1 ∈ tbW) (hp : pc + 3 = pc2)
    (kk : GJ p l e R s m args below meth c D vCl A H0 n Q cells slots (mw a cI cZ (s2 τ 0 k v)) pc2 L rest) : GJ p l e R s m args below meth c D vCl A H0 n Q cells slots (mw a cI cZ τ) pc L (.int v :: .ref (a 0) :: rest) := by
  subst hp
  have h19 : k < 19 := by have := mI_c hk; omega
  have ef : (fM k).2.2.2 = false ∧ parseFieldDescriptor (fM k).2.2.1 = some .int := by
    rcases mI_c hk with rfl | rfl | rfl | rfl | rfl | rfl | rfl | rfl | rfl | rfl <;> decide +kernel
  refine gj_p (w2 := mw a cI cZ (s2 τ 0 k v)) (fun ls H locs hP hD hS kx => va_put (D := D) (ci := kM) (v := .int v) (ty := .int) (C := rM) (T := fM) (N := 19) F.1 F.2.1 F.2.2.2.2.1 (fun w h => List.mem_cons_of_mem _ (iM w h)) tM tM_ok nM F.2.2.2.1 F.K hP hD hS 0 (fs := mw_f a (τ 0)) (mw_at (by omega)) rfl k h19 (F.w hl) (fun _ h9 => by rw [fM_1] at h9; exact h9) ef.1 ef.2 rfl rfl (by show k < (mw_f a (τ 0)).length; exact h19) hd (fun H1 locs1 g1 g2 g3 => ?_)) kk
  rw [mj_set (by rw [hk]; rfl)] at g1 g2
  exact kx H1 locs1 g1 g2 g3
theorem mj_pz (F : GF p s m args meth c cc n ret y (c0 :: tbW) D vCl (TY cI cB cZ cJ) w0) {idx : Nat} (k : Nat) (hk : mZ k = true) {v : Int32} (hv : narrow .boolean (.int v) = .int v ∧ fits .boolean (.int v) = true) (hd : decode cc pc = .ok (.putfield idx, 3)) (hl : Cond.fieldLink y.cls idx rM (fM k).2.1 (fM k).2.2.1 ∈ tbW) (hp : pc + 3 = pc2)
    (kk : GJ p l e R s m args below meth c D vCl A H0 n Q cells slots (mw a cI cZ (s2 τ 0 k v)) pc2 L rest) : GJ p l e R s m args below meth c D vCl A H0 n Q cells slots (mw a cI cZ τ) pc L (.int v :: .ref (a 0) :: rest) := by
  subst hp
  have h19 : k < 19 := by have := mZ_c hk; omega
  have ef : (fM k).2.2.2 = false ∧ parseFieldDescriptor (fM k).2.2.1 = some .boolean := by
    rcases mZ_c hk with rfl | rfl | rfl <;> decide +kernel
  refine gj_p (w2 := mw a cI cZ (s2 τ 0 k v)) (fun ls H locs hP hD hS kx => va_put (D := D) (ci := kM) (v := .int v) (ty := .boolean) (C := rM) (T := fM) (N := 19) F.1 F.2.1 F.2.2.2.2.1 (fun w h => List.mem_cons_of_mem _ (iM w h)) tM tM_ok nM F.2.2.2.1 F.K hP hD hS 0 (fs := mw_f a (τ 0)) (mw_at (by omega)) rfl k h19 (F.w hl) (fun _ h9 => by rw [fM_1] at h9; exact h9) ef.1 ef.2 hv.1 hv.2 (by show k < (mw_f a (τ 0)).length; exact h19) hd (fun H1 locs1 g1 g2 g3 => ?_)) kk
  rw [mj_set (by rw [hk, Bool.or_true])] at g1 g2
  exact kx H1 locs1 g1 g2 g3
theorem mj_ld (F : GF p s m args meth c cc n ret y (c0 :: tbW) D vCl (TY cI cB cZ cJ) w0) (r N i : Nat) (hr : r < 7) (he : mw_e a cI cZ τ r = .inl (cI, N, .inl (τ r))) (hN : N < 2 ^ 31) {x : Int32} (hx : x = nI i) (hi : i < N) (hd : decode cc pc = .ok (.iaload, 1)) (hp : pc + 1 = pc2)
    (kk : GJ p l e R s m args below meth c D vCl A H0 n Q cells slots (mw a cI cZ τ) pc2 L (.int (τ r i) :: rest)) : GJ p l e R s m args below meth c D vCl A H0 n Q cells slots (mw a cI cZ τ) pc L (.int x :: .ref (a r) :: rest) := by
  subst hp; subst hx
  refine gj_m (fun ls H locs hP kx => ?_) kk
  refine va_iald (D := D) F.1 F.2.1 F.K hP r 0 (by rw [mw_at hr, he]) rfl (vp_in_nI hi hN) hd ?_
  rw [nI_clamp (by omega)]
  exact kx
theorem mj_st (F : GF p s m args meth c cc n ret y (c0 :: tbW) D vCl (TY cI cB cZ cJ) w0) (r N i : Nat) (hr : r < 7) (he : ∀ υ : St, mw_e a cI cZ υ r = .inl (cI, N, .inl (υ r))) (hN : N < 2 ^ 31) {x v : Int32} (hx : x = nI i) (hi : i < N) (hd : decode cc pc = .ok (.iastore, 1)) (hp : pc + 1 = pc2)
    (kk : GJ p l e R s m args below meth c D vCl A H0 n Q cells slots (mw a cI cZ (s2 τ r i v)) pc2 L rest) : GJ p l e R s m args below meth c D vCl A H0 n Q cells slots (mw a cI cZ τ) pc L (.int v :: .int x :: .ref (a r) :: rest) := by
  subst hp; subst hx
  have e : (mw a cI cZ τ).set r (a r, .inl (cI, N, .inl (upd (τ r) i v))) = mw a cI cZ (s2 τ r i v) := mw_set hr (by rw [he, va_up_self])
  refine gj_p (w2 := mw a cI cZ (s2 τ r i v)) (fun ls H locs hP hD hS kx => ?_) kk
  refine va_iast (D := D) F.1 F.2.1 F.K hP hD hS r 0 (by rw [mw_at hr, he]) rfl (vp_in_nI hi hN) hd (fun H1 locs1 g1 g2 g3 => ?_)
  rw [nI_clamp (by omega), e] at g1 g2
  exact kx H1 locs1 g1 g2 g3
theorem mj_zl (F : GF p s m args meth c cc n ret y (c0 :: tbW) D vCl (TY cI cB cZ cJ) w0) (i : Nat) {x : Int32} (hx : x = nI i) (hi : i < 32) (hd : decode cc pc = .ok (.baload, 1)) (hp : pc + 1 = pc2)
    (kk : GJ p l e R s m args below meth c D vCl A H0 n Q cells slots (mw a cI cZ τ) pc2 L (.int (τ 3 i) :: rest)) : GJ p l e R s m args below meth c D vCl A H0 n Q cells slots (mw a cI cZ τ) pc L (.int x :: .ref (a 3) :: rest) := by
  subst hp; subst hx
  refine gj_m (fun ls H locs hP kx => ?_) kk
  refine va_zald (D := D) F.1 F.2.1 F.K hP 3 2 (f := τ 3) (by rw [mw_at (by omega)]; rfl) rfl (vp_in_nI hi (by omega)) hd ?_
  rw [nI_clamp (by omega)]
  exact kx
theorem mj_zs (F : GF p s m args meth c cc n ret y (c0 :: tbW) D vCl (TY cI cB cZ cJ) w0) (i : Nat) {x v : Int32} (hx : x = nI i) (hi : i < 32) (hv : vp_nar .boolean v = v) (hd : decode cc pc = .ok (.bastore, 1)) (hp : pc + 1 = pc2)
    (kk : GJ p l e R s m args below meth c D vCl A H0 n Q cells slots (mw a cI cZ (s2 τ 3 i v)) pc2 L rest) : GJ p l e R s m args below meth c D vCl A H0 n Q cells slots (mw a cI cZ τ) pc L (.int v :: .int x :: .ref (a 3) :: rest) := by
  subst hp; subst hx
  have e : (mw a cI cZ τ).set 3 (a 3, .inl (cZ, 32, .inl (upd (τ 3) i v))) = mw a cI cZ (s2 τ 3 i v) := mw_set (by omega) (by show Sum.inl (cZ, 32, Sum.inl (va_up τ 3 (upd (τ 3) i v) 3)) = _; rw [va_up_self])
  refine gj_p (w2 := mw a cI cZ (s2 τ 3 i v)) (fun ls H locs hP hD hS kx => ?_) kk
  refine va_zast (D := D) F.1 F.2.1 F.K hP hD hS 3 2 (f := τ 3) (by rw [mw_at (by omega)]; rfl) rfl (vp_in_nI hi (by omega)) hd (fun H1 locs1 g1 g2 g3 => ?_)
  rw [nI_clamp (by omega), hv, e] at g1 g2
  exact kx H1 locs1 g1 g2 g3
end MJ
theorem bN_f (b : Bool) : narrow .boolean (.int (bN b)) = .int (bN b) ∧ fits .boolean (.int (bN b)) = true := by cases b <;> exact ⟨rfl, rfl⟩
