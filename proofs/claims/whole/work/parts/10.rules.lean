/-! the instructions that touch a BlockRows' cells, over its world -/
abbrev TY (cI cB cZ cJ : ClassId) : List (ClassId × FieldType) := [(cI, .int), (cB, .object rB), (cZ, .boolean), (cJ, .long)]
theorem fX_1 (k : Nat) : (fX k).1 = rX := by unfold fX; split <;> rfl
theorem fB_1 (k : Nat) : (fB k).1 = rB := by unfold fB; split <;> rfl
section BJ
variable {p : Program} {l : Launch} {e : Env} {R : Room} {s : State} {m : MethodId} {args : Array Value} {below : List Frame} {meth : Method} {c : Code} {cells slots : Nat} {Q : State → Prop}
variable {D : va_G} {A : Nat → Prop} {H0 : Heap} {n : Nat} {w0 : va_W} {pc pc2 : Nat} {L rest : List Value} {cc : ByteArray} {ret : Option FieldType} {y : MethodName} {c0 : Cond} {cI cB cZ cJ : ClassId} {a : Nat → Nat} {j : Nat} {σ : St}
theorem GF.w (F : GF p s m args meth c cc n ret y (c0 :: tbW) D vCl (TY cI cB cZ cJ) w0) {w : Cond} (h : w ∈ tbW) : w.before args s = true := F.2.2.2.2.1 w (List.mem_cons_of_mem _ h)
theorem GF.K (F : GF p s m args meth c cc n ret y (c0 :: tbW) D vCl (TY cI cB cZ cJ) w0) : va_K D vCl (TY cI cB cZ cJ) s := F.2.2.2.2.2.2.2.1
theorem GF.E (F : GF p s m args meth c cc n ret y (c0 :: tbW) D vCl (TY cI cB cZ cJ) w0) : EV (va_A w0 s.heap.size) s := F.2.2.2.2.2.2.2.2.2
theorem GF.N (F : GF p s m args meth c cc n ret y (c0 :: tbW) D vCl (TY cI cB cZ cJ) w0) {w : Cond} (h : w ∈ ev_N) : va_Nw w s := F.E.1 w h
theorem bj_gr (F : GF p s m args meth c cc n ret y (c0 :: tbW) D vCl (TY cI cB cZ cJ) w0) {idx : Nat} (k : Nat) (hk : k < 3) (hd : decode cc pc = .ok (.getfield idx, 3)) (hl : Cond.fieldLink y.cls idx rX (fX k).2.1 (fX k).2.2.1 ∈ tbW) (hp : pc + 3 = pc2)
    (kk : GJ p l e R s m args below meth c D vCl A H0 n Q cells slots (bw a cI cB j σ) pc2 L (.ref (a (k + 1)) :: rest)) : GJ p l e R s m args below meth c D vCl A H0 n Q cells slots (bw a cI cB j σ) pc L (.ref (a 0) :: rest) := by
  subst hp
  refine gj_m (fun ls H locs hP => va_get (D := D) (ci := kX) (v := .ref (a (k + 1))) (C := rX) (T := fX) (N := 12) F.1 F.2.1 F.2.2.2.2.1 (fun w h => List.mem_cons_of_mem _ (iX w h)) F.2.2.2.1 F.K hP 0 (bw_at (by omega)) rfl k (by omega) (F.w hl) (fun _ h9 => by rw [fX_1] at h9; exact h9) ?_ hd) kk
  rcases (show k = 0 ∨ k = 1 ∨ k = 2 by omega) with rfl | rfl | rfl <;> rfl
theorem bj_gi (F : GF p s m args meth c cc n ret y (c0 :: tbW) D vCl (TY cI cB cZ cJ) w0) {idx : Nat} (k : Nat) (h3 : 3 ≤ k) (hk : k < 12) (hd : decode cc pc = .ok (.getfield idx, 3)) (hl : Cond.fieldLink y.cls idx rX (fX k).2.1 (fX k).2.2.1 ∈ tbW) (hp : pc + 3 = pc2)
    (kk : GJ p l e R s m args below meth c D vCl A H0 n Q cells slots (bw a cI cB j σ) pc2 L (.int (σ 0 k) :: rest)) : GJ p l e R s m args below meth c D vCl A H0 n Q cells slots (bw a cI cB j σ) pc L (.ref (a 0) :: rest) := by
  subst hp
  exact gj_m (fun ls H locs hP => va_get (D := D) (ci := kX) (v := .int (σ 0 k)) (C := rX) (T := fX) (N := 12) F.1 F.2.1 F.2.2.2.2.1 (fun w h => List.mem_cons_of_mem _ (iX w h)) F.2.2.2.1 F.K hP 0 (bw_at (by omega)) rfl k (by omega) (F.w hl) (fun _ h9 => by rw [fX_1] at h9; exact h9) (bw_f_get h3 hk) hd) kk
theorem bj_pi (F : GF p s m args meth c cc n ret y (c0 :: tbW) D vCl (TY cI cB cZ cJ) w0) {idx : Nat} (k : Nat) (h3 : 3 ≤ k) (hk : k < 12) {v : Int32} (hd : decode cc pc = .ok (.putfield idx, 3)) (hl : Cond.fieldLink y.cls idx rX (fX k).2.1 (fX k).2.2.1 ∈ tbW) (hp : pc + 3 = pc2)
    (kk : GJ p l e R s m args below meth c D vCl A H0 n Q cells slots (bw a cI cB j (s2 σ 0 k v)) pc2 L rest) : GJ p l e R s m args below meth c D vCl A H0 n Q cells slots (bw a cI cB j σ) pc L (.int v :: .ref (a 0) :: rest) := by
  subst hp
  have ef : (fX k).2.2.2 = false ∧ parseFieldDescriptor (fX k).2.2.1 = some .int := by
    rcases (show k = 3 ∨ k = 4 ∨ k = 5 ∨ k = 6 ∨ k = 7 ∨ k = 8 ∨ k = 9 ∨ k = 10 ∨ k = 11 by omega) with rfl | rfl | rfl | rfl | rfl | rfl | rfl | rfl | rfl <;> decide +kernel
  have e : (bw a cI cB j σ).set 0 (a 0, .inr (kX, (bw_f a (σ 0)).set k (.int v))) = bw a cI cB j (s2 σ 0 k v) := bw_set (by omega) (by rw [bw_f_put h3 hk]; show Sum.inr (kX, bw_f a (va_up σ 0 (upd (σ 0) k v) 0)) = _; rw [va_up_self])
  refine gj_p (w2 := bw a cI cB j (s2 σ 0 k v)) (fun ls H locs hP hD hS kx => va_put (D := D) (ci := kX) (v := .int v) (ty := .int) (C := rX) (T := fX) (N := 12) F.1 F.2.1 F.2.2.2.2.1 (fun w h => List.mem_cons_of_mem _ (iX w h)) tX tX_ok nX F.2.2.2.1 F.K hP hD hS 0 (bw_at (by omega)) rfl k (by omega) (F.w hl) (fun _ h9 => by rw [fX_1] at h9; exact h9) ef.1 ef.2 rfl rfl (by show k < (bw_f a (σ 0)).length; exact hk) hd (fun H1 locs1 g1 g2 g3 => ?_)) kk
  have g1' : va_P D vCl ((bw a cI cB j σ).set 0 (a 0, .inr (kX, (bw_f a (σ 0)).set k (.int v)))) H1 := g1
  have g2' : va_D A ((bw a cI cB j σ).set 0 (a 0, .inr (kX, (bw_f a (σ 0)).set k (.int v)))) := g2
  rw [e] at g1' g2'
  exact kx H1 locs1 g1' g2' g3
/-- an int array of the world, read -/
theorem bj_ld (F : GF p s m args meth c cc n ret y (c0 :: tbW) D vCl (TY cI cB cZ cJ) w0) (r N i : Nat) (hr : r < 4 + 2 * j) (he : bw_e a cI cB j σ r = .inl (cI, N, .inl (σ r))) (hN : N < 2 ^ 31) {x : Int32} (hx : x = nI i) (hi : i < N) (hd : decode cc pc = .ok (.iaload, 1)) (hp : pc + 1 = pc2)
    (kk : GJ p l e R s m args below meth c D vCl A H0 n Q cells slots (bw a cI cB j σ) pc2 L (.int (σ r i) :: rest)) : GJ p l e R s m args below meth c D vCl A H0 n Q cells slots (bw a cI cB j σ) pc L (.int x :: .ref (a r) :: rest) := by
  subst hp; subst hx
  refine gj_m (fun ls H locs hP kx => ?_) kk
  refine va_iald (D := D) F.1 F.2.1 F.K hP r 0 (by rw [bw_at hr, he]) rfl (vp_in_nI hi hN) hd ?_
  rw [nI_clamp (by omega)]
  exact kx
/-- an int array of the world, written -/
theorem bj_st (F : GF p s m args meth c cc n ret y (c0 :: tbW) D vCl (TY cI cB cZ cJ) w0) (r N i : Nat) (hr : r < 4 + 2 * j) (he : ∀ τ : St, bw_e a cI cB j τ r = .inl (cI, N, .inl (τ r))) (hN : N < 2 ^ 31) {x v : Int32} (hx : x = nI i) (hi : i < N) (hd : decode cc pc = .ok (.iastore, 1)) (hp : pc + 1 = pc2)
    (kk : GJ p l e R s m args below meth c D vCl A H0 n Q cells slots (bw a cI cB j (s2 σ r i v)) pc2 L rest) : GJ p l e R s m args below meth c D vCl A H0 n Q cells slots (bw a cI cB j σ) pc L (.int v :: .int x :: .ref (a r) :: rest) := by
  subst hp; subst hx
  have e : (bw a cI cB j σ).set r (a r, .inl (cI, N, .inl (upd (σ r) i v))) = bw a cI cB j (s2 σ r i v) := bw_set hr (by rw [he, va_up_self])
  refine gj_p (w2 := bw a cI cB j (s2 σ r i v)) (fun ls H locs hP hD hS kx => ?_) kk
  refine va_iast (D := D) F.1 F.2.1 F.K hP hD hS r 0 (by rw [bw_at hr, he]) rfl (vp_in_nI hi hN) hd (fun H1 locs1 g1 g2 g3 => ?_)
  rw [nI_clamp (by omega), e] at g1 g2
  exact kx H1 locs1 g1 g2 g3
/-- the array of blocks, read -/
theorem bj_blk (F : GF p s m args meth c cc n ret y (c0 :: tbW) D vCl (TY cI cB cZ cJ) w0) (k : Nat) {x : Int32} (hx : x = nI k) (hk : k < 32) (hd : decode cc pc = .ok (.aaload, 1)) (hp : pc + 1 = pc2)
    (kk : GJ p l e R s m args below meth c D vCl A H0 n Q cells slots (bw a cI cB 32 σ) pc2 L (.ref (a (4 + 2 * k)) :: rest)) : GJ p l e R s m args below meth c D vCl A H0 n Q cells slots (bw a cI cB 32 σ) pc L (.int x :: .ref (a 3) :: rest) := by
  subst hp; subst hx
  refine gj_m (fun ls H locs hP kx => ?_) kk
  refine va_aldq (D := D) F.1 F.2.1 F.K hP 3 1 (f := fun k => if k < 32 then some (a (4 + 2 * k)) else none) (by rw [bw_at (by omega)]; rfl) rfl (vp_in_nI hk (by omega)) hd ?_
  rw [nI_clamp (by omega), if_pos hk]
  exact kx
/-- a block's fields, in its own class -/
theorem bj_bi (F : GF p s m args meth c cc n ret y (c0 :: tbW) D vCl (TY cI cB cZ cJ) w0) {idx : Nat} (k t : Nat) (hk : k < j) (h1 : 1 ≤ t) (ht : t < 4) (hd : decode cc pc = .ok (.getfield idx, 3)) (hl : Cond.fieldLink y.cls idx rB (fB t).2.1 (fB t).2.2.1 ∈ tbW) (hp : pc + 3 = pc2)
    (kk : GJ p l e R s m args below meth c D vCl A H0 n Q cells slots (bw a cI cB j σ) pc2 L (.int (σ (4 + 2 * k) t) :: rest)) : GJ p l e R s m args below meth c D vCl A H0 n Q cells slots (bw a cI cB j σ) pc L (.ref (a (4 + 2 * k)) :: rest) := by
  subst hp
  exact gj_m (fun ls H locs hP => va_get (D := D) (ci := kB) (v := .int (σ (4 + 2 * k) t)) (C := rB) (T := fB) (N := 4) F.1 F.2.1 F.2.2.2.2.1 (fun w h => List.mem_cons_of_mem _ (iB w h)) F.2.2.2.1 F.K hP (4 + 2 * k) (by rw [bw_at (by omega), bw_e_blk]) rfl t (by omega) (F.w hl) (fun _ h9 => by rw [fB_1] at h9; exact h9) (bw_b_get h1 ht) hd) kk
/-- .. read in BlockRows -/
theorem bj_biN (F : GF p s m args meth c cc n ret y (c0 :: tbW) D vCl (TY cI cB cZ cJ) w0) {idx : Nat} (k t : Nat) (hk : k < j) (h1 : 1 ≤ t) (ht : t < 4) (hd : decode cc pc = .ok (.getfield idx, 3)) (hl : Cond.fieldLinkNest y.cls idx rB (fB t).2.1 (fB t).2.2.1 rX ∈ ev_N) (hp : pc + 3 = pc2)
    (kk : GJ p l e R s m args below meth c D vCl A H0 n Q cells slots (bw a cI cB j σ) pc2 L (.int (σ (4 + 2 * k) t) :: rest)) : GJ p l e R s m args below meth c D vCl A H0 n Q cells slots (bw a cI cB j σ) pc L (.ref (a (4 + 2 * k)) :: rest) := by
  subst hp
  exact gj_m (fun ls H locs hP => va_getN (D := D) (ci := kB) (v := .int (σ (4 + 2 * k) t)) (C := rB) (T := fB) (N := 4) F.1 F.2.1 F.2.2.2.2.1 (fun w h => List.mem_cons_of_mem _ (iB w h)) F.2.2.2.1 F.K hP (4 + 2 * k) (by rw [bw_at (by omega), bw_e_blk]) rfl t (by omega) (va_Nw.use rfl (F.N hl)) (fun _ h9 => by rw [fB_1] at h9; exact h9) (bw_b_get h1 ht) hd) kk
theorem bj_bwN (F : GF p s m args meth c cc n ret y (c0 :: tbW) D vCl (TY cI cB cZ cJ) w0) {idx : Nat} (k : Nat) (hk : k < j) (hd : decode cc pc = .ok (.getfield idx, 3)) (hl : Cond.fieldLinkNest y.cls idx rB "words" "[I" rX ∈ ev_N) (hp : pc + 3 = pc2)
    (kk : GJ p l e R s m args below meth c D vCl A H0 n Q cells slots (bw a cI cB j σ) pc2 L (.ref (a (5 + 2 * k)) :: rest)) : GJ p l e R s m args below meth c D vCl A H0 n Q cells slots (bw a cI cB j σ) pc L (.ref (a (4 + 2 * k)) :: rest) := by
  subst hp
  exact gj_m (fun ls H locs hP => va_getN (D := D) (ci := kB) (v := .ref (a (5 + 2 * k))) (C := rB) (T := fB) (N := 4) F.1 F.2.1 F.2.2.2.2.1 (fun w h => List.mem_cons_of_mem _ (iB w h)) F.2.2.2.1 F.K hP (4 + 2 * k) (by rw [bw_at (by omega), bw_e_blk]) rfl 0 (by omega) (va_Nw.use rfl (F.N hl)) (fun _ h9 => by rw [fB_1] at h9; exact h9) rfl hd) kk
theorem bj_set {k t : Nat} {v : Int32} (hk : k < j) (h1 : 1 ≤ t) (ht : t < 4) : (bw a cI cB j σ).set (4 + 2 * k) (a (4 + 2 * k), .inr (kB, (bw_b (a (5 + 2 * k)) (σ (4 + 2 * k))).set t (.int v))) = bw a cI cB j (s2 σ (4 + 2 * k) t v) :=
  bw_set (by omega) (by rw [bw_b_put h1 ht, bw_e_blk, va_up_self])
theorem bj_bf {t : Nat} (h1 : 1 ≤ t) (ht : t < 4) : (fB t).2.2.2 = false ∧ parseFieldDescriptor (fB t).2.2.1 = some .int := by
  rcases (show t = 1 ∨ t = 2 ∨ t = 3 by omega) with rfl | rfl | rfl <;> decide +kernel
theorem bj_bp (F : GF p s m args meth c cc n ret y (c0 :: tbW) D vCl (TY cI cB cZ cJ) w0) {idx : Nat} (k t : Nat) (hk : k < j) (h1 : 1 ≤ t) (ht : t < 4) {v : Int32} (hd : decode cc pc = .ok (.putfield idx, 3)) (hl : Cond.fieldLink y.cls idx rB (fB t).2.1 (fB t).2.2.1 ∈ tbW) (hp : pc + 3 = pc2)
    (kk : GJ p l e R s m args below meth c D vCl A H0 n Q cells slots (bw a cI cB j (s2 σ (4 + 2 * k) t v)) pc2 L rest) : GJ p l e R s m args below meth c D vCl A H0 n Q cells slots (bw a cI cB j σ) pc L (.int v :: .ref (a (4 + 2 * k)) :: rest) := by
  subst hp
  refine gj_p (w2 := bw a cI cB j (s2 σ (4 + 2 * k) t v)) (fun ls H locs hP hD hS kx => va_put (D := D) (ci := kB) (v := .int v) (ty := .int) (C := rB) (T := fB) (N := 4) F.1 F.2.1 F.2.2.2.2.1 (fun w h => List.mem_cons_of_mem _ (iB w h)) tB tB_ok nB F.2.2.2.1 F.K hP hD hS (4 + 2 * k) (fs := bw_b (a (5 + 2 * k)) (σ (4 + 2 * k))) (by rw [bw_at (by omega), bw_e_blk]) rfl t (by omega) (F.w hl) (fun _ h9 => by rw [fB_1] at h9; exact h9) (bj_bf h1 ht).1 (bj_bf h1 ht).2 rfl rfl ht hd (fun H1 locs1 g1 g2 g3 => ?_)) kk
  rw [bj_set hk h1 ht] at g1 g2
  exact kx H1 locs1 g1 g2 g3
theorem bj_bpN (F : GF p s m args meth c cc n ret y (c0 :: tbW) D vCl (TY cI cB cZ cJ) w0) {idx : Nat} (k t : Nat) (hk : k < j) (h1 : 1 ≤ t) (ht : t < 4) {v : Int32} (hd : decode cc pc = .ok (.putfield idx, 3)) (hl : Cond.fieldLinkNest y.cls idx rB (fB t).2.1 (fB t).2.2.1 rX ∈ ev_N) (hp : pc + 3 = pc2)
    (kk : GJ p l e R s m args below meth c D vCl A H0 n Q cells slots (bw a cI cB j (s2 σ (4 + 2 * k) t v)) pc2 L rest) : GJ p l e R s m args below meth c D vCl A H0 n Q cells slots (bw a cI cB j σ) pc L (.int v :: .ref (a (4 + 2 * k)) :: rest) := by
  subst hp
  refine gj_p (w2 := bw a cI cB j (s2 σ (4 + 2 * k) t v)) (fun ls H locs hP hD hS kx => va_putN (D := D) (ci := kB) (v := .int v) (ty := .int) (C := rB) (T := fB) (N := 4) F.1 F.2.1 F.2.2.2.2.1 (fun w h => List.mem_cons_of_mem _ (iB w h)) tB tB_ok nB F.2.2.2.1 F.K hP hD hS (4 + 2 * k) (fs := bw_b (a (5 + 2 * k)) (σ (4 + 2 * k))) (by rw [bw_at (by omega), bw_e_blk]) rfl t (by omega) (va_Nw.use rfl (F.N hl)) (fun _ h9 => by rw [fB_1] at h9; exact h9) (bj_bf h1 ht).1 (bj_bf h1 ht).2 rfl rfl ht hd (fun H1 locs1 g1 g2 g3 => ?_)) kk
  rw [bj_set hk h1 ht] at g1 g2
  exact kx H1 locs1 g1 g2 g3
end BJ
