/-! what the helper's and the reference's answers say together -/
theorem mwl_0 (τ : St) (i : Nat) {j : Nat} (h12 : j ≠ 12) (h16 : j ≠ 16) : ∀ n : Nat, mWl τ i n 0 j = τ 0 j := by
  intro n
  induction n with
  | zero => rfl
  | succ n ih =>
    show mWs i (mWl τ i n) n 0 j = _
    unfold mWs
    split
    · rw [s2_ne _ _ _ h12, mTo_0, pk_un h16]; exact ih
    · exact ih
theorem mWr_0 (τ : St) (i : Nat) (v : Int32) {j : Nat} (h12 : j ≠ 12) (h16 : j ≠ 16) : mWr τ i v 0 j = τ 0 j := (mwl_0 _ _ h12 h16 _).trans (s2_o _ _ _ _ (by decide))
theorem m4L_0 (τ : St) (i : Nat) (v : Int32) : ∀ n : Nat, m4L τ i v n 0 0 = τ 0 0 := by
  intro n
  induction n with
  | zero => rfl
  | succ n ih => exact (mWr_0 _ _ _ (by decide) (by decide)).trans ih
theorem woM_0 (τ : St) (kd : Int32) (r : Nat) (sv nr : Int32) : woM τ kd r sv nr 0 0 = τ 0 0 := by
  unfold woM
  split
  · rfl
  split
  · rfl
  split
  · rfl
  split
  · rfl
  split
  · exact mWr_0 _ _ _ (by decide) (by decide)
  split
  · rfl
  split
  · rfl
  split
  · rfl
  split
  · rfl
  · rfl
theorem doM_0 (τ : St) : (doM τ).1 0 0 = τ 0 0 := by
  unfold doM
  split
  · rfl
  split
  · rfl
  split
  · rfl
  split
  · rfl
  · exact woM_0 _ _ _ _ _
theorem inL_0 (n : Nat) : ∀ (f d : Nat) (τ : St), (inL n f d τ).1 0 0 = τ 0 0 := by
  intro f
  induction f with
  | zero => exact fun d τ => rfl
  | succ f ih =>
    intro d τ
    rw [inL]
    split
    · exact (ih _ _).trans (doM_0 τ)
    · rfl
theorem ouL_0 (n : Nat) : ∀ (f d : Nat) (τ : St), (ouL n f d τ).1 0 0 = τ 0 0 := by
  intro f
  induction f with
  | zero => exact fun d τ => rfl
  | succ f ih =>
    intro d τ
    rw [ouL]
    split
    · refine (ih _ _).trans ((inL_0 _ _ _ _).trans ?_)
      exact (s2_ne _ _ _ (by decide)).trans (fiM_0 τ (by decide) (by decide) (by decide) (by decide))
    · rfl
theorem inR_t {x a b : Int32} (h1 : ¬ x < a) (h2 : x ≤ b) : inR x a b = true := by
  unfold inR
  rw [decide_eq_false h1, decide_eq_false (Int32.not_lt.mpr h2)]
  rfl
theorem inR_f {x a b : Int32} (h : inR x a b = false) : x < a ∨ ¬ x ≤ b := by
  by_cases h1 : x < a
  · exact Or.inl h1
  · right
    intro h2
    rw [inR_t h1 h2] at h
    cases h
theorem inR_tt {x a b : Int32} (h : inR x a b = true) : ¬ x < a ∧ x ≤ b := by
  unfold inR at h
  rw [Bool.and_eq_true, Bool.not_eq_true', Bool.not_eq_true', decide_eq_false_iff_not, decide_eq_false_iff_not] at h
  exact ⟨h.1, Int32.not_lt.mp h.2⟩
theorem lt8_le7 (x : Int32) : x < 8 ↔ x ≤ 7 := by
  rw [Int32.lt_iff_toInt_lt, Int32.le_iff_toInt_le]
  have e1 : (8 : Int32).toInt = 8 := by decide
  have e2 : (7 : Int32).toInt = 7 := by decide
  omega
theorem ge32 (x : Int32) : 32 ≤ x ↔ ¬ x ≤ 31 := by
  rw [Int32.le_iff_toInt_le, Int32.le_iff_toInt_le]
  have e1 : (32 : Int32).toInt = 32 := by decide
  have e2 : (31 : Int32).toInt = 31 := by decide
  omega
theorem nI_inj {a b : Nat} (ha : a < 2 ^ 31) (hb : b < 2 ^ 31) (h : nI a = nI b) : a = b := (nI_eq ha hb).mp h
theorem upL (f : Nat → Int64) (v : Int64) : vp_updL f 0 v 0 = v := by simp [vp_updL]
/-- both answers, the states behind -/
def CM (a am : Nat → Nat) (o : Nat) (cI cB cZ cJ : ClassId) (r rm : Int32) (u u2 : va_W) : Prop := ∃ (σ' τ' : St) (f' : Nat → Int64), u = bw a cI cB 32 σ' ++ [oC o cJ f'] ∧ u2 = mw am cI cZ τ' ∧ τ' 0 0 = r ∧ (r = 0 → f' 0 = rm.toInt64) ∧ RR σ' τ'
section CMs
variable {a am : Nat → Nat} {o : Nat} {cI cB cZ cJ : ClassId} {r rm : Int32} {u u2 : va_W} {σ τ : St} {f : Nat → Int64}
theorem cm_fail {n : Int32} (R : RR σ τ) (hn : ¬ n = 0) (hr : r = n) (hu : u = bw a cI cB 32 σ ++ [oC o cJ f]) (hu2 : u2 = mw am cI cZ (s2 τ 0 0 n)) : CM a am o cI cB cZ cJ r rm u u2 :=
  ⟨σ, s2 τ 0 0 n, f, hu, hu2, by rw [hr]; exact s2_at _ _ _ _, fun h => absurd (hr.symm.trans h) hn, R.z n⟩
theorem cm_ok {r1 : Int32} {σ' τ' : St} (hr : r = 0) (hu : u = bw a cI cB 32 σ' ++ [oC o cJ (vp_updL f 0 r1.toInt64)]) (hu2 : u2 = mw am cI cZ τ') (ht : τ' 0 0 = 0) (he : r1 = rm) (R : RR σ' τ') : CM a am o cI cB cZ cJ r rm u u2 :=
  ⟨σ', τ', _, hu, hu2, by rw [hr]; exact ht, fun _ => by rw [upL, he], R⟩
theorem cm_poke {x v : Int32} (R : RR σ τ) (h : hpR o cJ f (fun r u => ∃ i : Nat, i < 1024 ∧ x = nI i ∧ ¬ v < 0 ∧ v ≤ 255 ∧ r = σ 1 i ∧ u = bw a cI cB 32 (wrB σ i v)) (fun E u => u = (bw a cI cB 32 σ) ∧ ((E = xIo ∧ inM x = false) ∨ (E = xIa ∧ inM x = true ∧ (v < 0 ∨ ¬ v ≤ 255)))) (fun E => if E = xIo then 1 else 2) r u)
    (g : (inM x = false ∧ rm = 0 ∧ u2 = mw am cI cZ (s2 τ 0 0 1)) ∨ (inM x = true ∧ inR v 0 255 = false ∧ rm = 0 ∧ u2 = mw am cI cZ (s2 τ 0 0 2)) ∨ ∃ i : Nat, i < 1024 ∧ x = nI i ∧ inR v 0 255 = true ∧ rm = τ 1 i ∧ u2 = mw am cI cZ (mWr (s2 τ 0 0 0) i v)) : CM a am o cI cB cZ cJ r rm u u2 := by
  rcases h with ⟨r1, u1, ⟨i, hi, ex, hv0, hv1, er, eu⟩, hr, hu⟩ | ⟨E, u1, ⟨eu, hE⟩, hr, hu⟩
  · rcases g with ⟨g1, -⟩ | ⟨-, g2, -⟩ | ⟨i2, hi2, ex2, g2, grm, gu⟩
    · rw [ex, inM_nI hi] at g1; cases g1
    · rw [inR_t hv0 hv1] at g2; cases g2
    · have ei : i2 = i := nI_inj (by omega) (by omega) (ex2.symm.trans ex)
      subst ei
      obtain ⟨y, hy, ey⟩ := nI_of hv0
      have hb : ∃ y : Nat, y < 256 ∧ v = nI y := ⟨y, by rw [ey] at hv1; have := (nI_leI (b := 255) hy (by omega)).mp hv1; omega, ey⟩
      refine cm_ok hr (by rw [hu, eu]) gu ?_ (by rw [er, grm, R.m]) ((R.z 0).write hi hb)
      exact (mWr_0 _ _ _ (by decide) (by decide)).trans (s2_at _ _ _ _)
  · rcases hE with ⟨e1, e2⟩ | ⟨e1, e2, e3⟩
    · rcases g with ⟨-, -, gu⟩ | ⟨g1, -⟩ | ⟨i2, hi2, ex2, -⟩
      · exact cm_fail R (by decide) (by rw [hr, e1]; rfl) (by rw [hu, eu]) gu
      · rw [e2] at g1; cases g1
      · rw [ex2, inM_nI hi2] at e2; cases e2
    · rcases g with ⟨g1, -⟩ | ⟨-, -, -, gu⟩ | ⟨-, -, -, g2, -⟩
      · rw [e2] at g1; cases g1
      · exact cm_fail R (by decide) (by rw [hr, e1]; exact if_neg (by decide)) (by rw [hu, eu]) gu
      · obtain ⟨k1, k2⟩ := inR_tt g2
        rcases e3 with e3 | e3
        · exact absurd e3 k1
        · exact absurd k2 e3
theorem cm_pokeFour {x v : Int32} (R : RR σ τ) (h : hpR o cJ f (fun r u => ∃ i : Nat, i < 1024 ∧ x = nI i ∧ r = nI (p4N i) ∧ u = bw a cI cB 32 (p4L σ i v (p4N i))) (fun E u => E = xIo ∧ inM x = false ∧ u = (bw a cI cB 32 σ)) (fun _ => 1) r u)
    (g : (inM x = false ∧ rm = 0 ∧ u2 = mw am cI cZ (s2 τ 0 0 1)) ∨ ∃ i : Nat, i < 1024 ∧ x = nI i ∧ rm = nI (p4N i) ∧ u2 = mw am cI cZ (m4L (s2 τ 0 0 0) i v (p4N i))) : CM a am o cI cB cZ cJ r rm u u2 := by
  rcases h with ⟨r1, u1, ⟨i, hi, ex, er, eu⟩, hr, hu⟩ | ⟨E, u1, ⟨-, e2, eu⟩, hr, hu⟩
  · rcases g with ⟨g1, -⟩ | ⟨i2, hi2, ex2, grm, gu⟩
    · rw [ex, inM_nI hi] at g1; cases g1
    · have ei : i2 = i := nI_inj (by omega) (by omega) (ex2.symm.trans ex)
      subst ei
      refine cm_ok hr (by rw [hu, eu]) gu ((m4L_0 _ _ _ _).trans (s2_at _ _ _ _)) (by rw [er, grm]) ((R.z 0).p4 v (p4N i2) (Nat.min_le_left _ _) ?_)
      unfold p4N
      omega
  · rcases g with ⟨-, -, gu⟩ | ⟨i2, hi2, ex2, -⟩
    · exact cm_fail (n := 1) R (by decide) hr (by rw [hu, eu]) gu
    · rw [ex2, inM_nI hi2] at e2; cases e2
theorem cm_set {x v : Int32} (R : RR σ τ) (h : hpR o cJ f (fun r u => ∃ i : Nat, i < 8 ∧ x = nI i ∧ r = σ 2 i ∧ u = bw a cI cB 32 (s2 σ 2 i v)) (fun E u => E = xIo ∧ (x < 0 ∨ ¬ x < 8) ∧ u = (bw a cI cB 32 σ)) (fun _ => 1) r u)
    (g : (inR x 0 7 = false ∧ rm = 0 ∧ u2 = mw am cI cZ (s2 τ 0 0 1)) ∨ ∃ i : Nat, i < 8 ∧ x = nI i ∧ rm = τ 2 i ∧ u2 = mw am cI cZ (s2 (s2 τ 0 0 0) 2 i v)) : CM a am o cI cB cZ cJ r rm u u2 := by
  rcases h with ⟨r1, u1, ⟨i, hi, ex, er, eu⟩, hr, hu⟩ | ⟨E, u1, ⟨-, e2, eu⟩, hr, hu⟩
  · rcases g with ⟨g1, -⟩ | ⟨i2, hi2, ex2, grm, gu⟩
    · rw [ex, show inR (nI i) 0 7 = true from inR_t (nI_pos (by omega)) (nI_le (b := 7) (by omega) (by omega))] at g1; cases g1
    · have ei : i2 = i := nI_inj (by omega) (by omega) (ex2.symm.trans ex)
      subst ei
      exact cm_ok hr (by rw [hu, eu]) gu ((s2_o _ _ _ _ (by decide)).trans (s2_at _ _ _ _)) (by rw [er, grm, R.r]) ((R.z 0).reg i2 v)
  · rcases g with ⟨-, -, gu⟩ | ⟨i2, hi2, ex2, -⟩
    · exact cm_fail (n := 1) R (by decide) hr (by rw [hu, eu]) gu
    · rcases e2 with e2 | e2
      · rw [ex2] at e2; exact absurd e2 (nI_pos (by omega))
      · rw [ex2] at e2; exact absurd (nI_lt (b := 8) hi2 (by omega)) e2
theorem cm_go {x : Int32} (R : RR σ τ) (h : hpR o cJ f (fun r u => inM x = true ∧ r = σ 0 3 ∧ u = bw a cI cB 32 (s2 (s2 σ 0 3 x) 0 4 0)) (fun E u => E = xIo ∧ inM x = false ∧ u = (bw a cI cB 32 σ)) (fun _ => 1) r u)
    (g : (inM x = false ∧ rm = 0 ∧ u2 = mw am cI cZ (s2 τ 0 0 1)) ∨ (inM x = true ∧ rm = τ 0 3 ∧ u2 = mw am cI cZ (s2 (s2 (s2 τ 0 0 0) 0 3 x) 0 4 0))) : CM a am o cI cB cZ cJ r rm u u2 := by
  rcases h with ⟨r1, u1, ⟨ex, er, eu⟩, hr, hu⟩ | ⟨E, u1, ⟨-, e2, eu⟩, hr, hu⟩
  · rcases g with ⟨g1, -⟩ | ⟨-, grm, gu⟩
    · rw [ex] at g1; cases g1
    · exact cm_ok hr (by rw [hu, eu]) gu rfl (by rw [er, grm, R.h.p]) (((R.z 0).pl x).st 0)
  · rcases g with ⟨-, -, gu⟩ | ⟨g1, -⟩
    · exact cm_fail (n := 1) R (by decide) hr (by rw [hu, eu]) gu
    · rw [e2] at g1; cases g1
theorem cm_run {x : Int32} (R : RR σ τ) (h : hpR o cJ f (fun r u => ∃ n : Nat, 1 ≤ n ∧ n ≤ 100 ∧ x = nI n ∧ r = nI (ruL n n 0 σ).2 ∧ u = bw a cI cB 32 (ruL n n 0 σ).1) (fun E u => E = xIa ∧ (x < 1 ∨ ¬ x ≤ 100) ∧ u = (bw a cI cB 32 σ)) (fun _ => 1) r u)
    (g : (inR x 1 100 = false ∧ rm = 0 ∧ u2 = mw am cI cZ (s2 τ 0 0 1)) ∨ ∃ N : Nat, 1 ≤ N ∧ N ≤ 100 ∧ x = nI N ∧ rm = nI (ouL N N 0 (s2 τ 0 0 0)).2 ∧ u2 = mw am cI cZ (s2 (ouL N N 0 (s2 τ 0 0 0)).1 0 13 ((ouL N N 0 (s2 τ 0 0 0)).1 0 13 + nI (ouL N N 0 (s2 τ 0 0 0)).2))) : CM a am o cI cB cZ cJ r rm u u2 := by
  have h1 : ∀ n : Nat, 1 ≤ n → n ≤ 100 → ¬ nI n < 1 := fun n a b => nI_nlt (b := 1) a (by omega)
  have h2 : ∀ n : Nat, n ≤ 100 → nI n ≤ 100 := fun n b => nI_le (b := 100) b (by omega)
  rcases h with ⟨r1, u1, ⟨n, hn1, hn, ex, er, eu⟩, hr, hu⟩ | ⟨E, u1, ⟨-, e2, eu⟩, hr, hu⟩
  · rcases g with ⟨g1, -⟩ | ⟨n2, hn21, hn2, ex2, grm, gu⟩
    · rw [ex, inR_t (h1 n hn1 hn) (h2 n hn)] at g1; cases g1
    · have ei : n2 = n := nI_inj (by omega) (by omega) (ex2.symm.trans ex)
      subst ei
      obtain ⟨k1, k2⟩ := R.run hn
      refine cm_ok hr (by rw [hu, eu]) gu ?_ (by rw [er, grm, k1]) k2
      exact (s2_ne _ _ _ (by decide)).trans ((ouL_0 _ _ _ _).trans (s2_at _ _ _ _))
  · rcases g with ⟨-, -, gu⟩ | ⟨n2, hn21, hn2, ex2, -⟩
    · exact cm_fail (n := 1) R (by decide) hr (by rw [hu, eu]) gu
    · rcases e2 with e2 | e2
      · rw [ex2] at e2; exact absurd e2 (h1 n2 hn21 hn2)
      · rw [ex2] at e2; exact absurd (h2 n2 hn2) e2
theorem cm_memory {x : Int32} (R : RR σ τ) (h : hpR o cJ f (fun r u => ∃ i : Nat, i < 1024 ∧ x = nI i ∧ r = σ 1 i ∧ u = (bw a cI cB 32 σ)) (fun E u => E = xIo ∧ inM x = false ∧ u = (bw a cI cB 32 σ)) (fun _ => 1) r u)
    (g : (inM x = false ∧ rm = 0 ∧ u2 = mw am cI cZ (s2 τ 0 0 1)) ∨ ∃ i : Nat, i < 1024 ∧ x = nI i ∧ rm = τ 1 i ∧ u2 = mw am cI cZ (s2 τ 0 0 0)) : CM a am o cI cB cZ cJ r rm u u2 := by
  rcases h with ⟨r1, u1, ⟨i, hi, ex, er, eu⟩, hr, hu⟩ | ⟨E, u1, ⟨-, e2, eu⟩, hr, hu⟩
  · rcases g with ⟨g1, -⟩ | ⟨i2, hi2, ex2, grm, gu⟩
    · rw [ex, inM_nI hi] at g1; cases g1
    · have ei : i2 = i := nI_inj (by omega) (by omega) (ex2.symm.trans ex)
      subst ei
      exact cm_ok hr (by rw [hu, eu]) gu (s2_at _ _ _ _) (by rw [er, grm, R.m]) (R.z 0)
  · rcases g with ⟨-, -, gu⟩ | ⟨i2, hi2, ex2, -⟩
    · exact cm_fail (n := 1) R (by decide) hr (by rw [hu, eu]) gu
    · rw [ex2, inM_nI hi2] at e2; cases e2
theorem cm_register {x : Int32} (R : RR σ τ) (h : hpR o cJ f (fun r u => ¬ x < 0 ∧ x ≤ 11 ∧ r = rgV σ x ∧ u = (bw a cI cB 32 σ)) (fun E u => E = xIo ∧ (x < 0 ∨ ¬ x ≤ 11) ∧ u = (bw a cI cB 32 σ)) (fun _ => 1) r u)
    (g : (inR x 0 11 = false ∧ rm = 0 ∧ u2 = mw am cI cZ (s2 τ 0 0 1)) ∨ (inR x 0 11 = true ∧ rm = rgM τ x ∧ u2 = mw am cI cZ (s2 τ 0 0 0))) : CM a am o cI cB cZ cJ r rm u u2 := by
  rcases h with ⟨r1, u1, ⟨h0, h11, er, eu⟩, hr, hu⟩ | ⟨E, u1, ⟨-, e2, eu⟩, hr, hu⟩
  · rcases g with ⟨g1, -⟩ | ⟨-, grm, gu⟩
    · rw [inR_t h0 h11] at g1; cases g1
    · exact cm_ok hr (by rw [hu, eu]) gu (s2_at _ _ _ _) (by rw [er, grm, R.register h0 h11]) (R.z 0)
  · rcases g with ⟨-, -, gu⟩ | ⟨g1, -⟩
    · exact cm_fail (n := 1) R (by decide) hr (by rw [hu, eu]) gu
    · obtain ⟨k1, k2⟩ := inR_tt g1
      rcases e2 with e2 | e2
      · exact absurd e2 k1
      · exact absurd k2 e2
theorem cm_row {x z : Int32} (R : RR σ τ) (h : hpR o cJ f (fun r u => ∃ k : Nat, k < 32 ∧ x = nI k ∧ ¬ z < 0 ∧ z ≤ 2 ∧ r = rwV σ k z ∧ u = (bw a cI cB 32 σ)) (fun E u => E = xIo ∧ (x < 0 ∨ 32 ≤ x ∨ z < 0 ∨ ¬ z ≤ 2) ∧ u = (bw a cI cB 32 σ)) (fun _ => 1) r u)
    (g : ((inR x 0 31 = false ∨ inR z 0 2 = false) ∧ rm = 0 ∧ u2 = mw am cI cZ (s2 τ 0 0 1)) ∨ ∃ k : Nat, k < 32 ∧ x = nI k ∧ inR z 0 2 = true ∧ rm = rwM τ k z ∧ u2 = mw am cI cZ (s2 τ 0 0 0)) : CM a am o cI cB cZ cJ r rm u u2 := by
  rcases h with ⟨r1, u1, ⟨k, hk, ex, h0, h2, er, eu⟩, hr, hu⟩ | ⟨E, u1, ⟨-, e2, eu⟩, hr, hu⟩
  · rcases g with ⟨g1, -⟩ | ⟨k2, hk2, ex2, -, grm, gu⟩
    · rcases g1 with g1 | g1
      · rw [ex, show inR (nI k) 0 31 = true from inR_t (nI_pos (by omega)) (nI_le (b := 31) (by omega) (by omega))] at g1; cases g1
      · rw [inR_t h0 h2] at g1; cases g1
    · have ei : k2 = k := nI_inj (by omega) (by omega) (ex2.symm.trans ex)
      subst ei
      exact cm_ok hr (by rw [hu, eu]) gu (s2_at _ _ _ _) (by rw [er, grm, R.row hk h0 h2]) (R.z 0)
  · rcases g with ⟨-, -, gu⟩ | ⟨k2, hk2, ex2, g2, -⟩
    · exact cm_fail (n := 1) R (by decide) hr (by rw [hu, eu]) gu
    · obtain ⟨j1, j2⟩ := inR_tt g2
      rcases e2 with e2 | e2 | e2 | e2
      · rw [ex2] at e2; exact absurd e2 (nI_pos (by omega))
      · rw [ex2] at e2; have := nI_ge_of (N := 32) e2 (by omega) (by omega); omega
      · exact absurd e2 j1
      · exact absurd j2 e2
end CMs
/-- at the start -/
theorem RR_0 : RR sX (fun _ => z0) := by
  refine ⟨⟨rfl, rfl, rfl, rfl, rfl, rfl, rfl, rfl, rfl, rfl⟩, sX_hi (by decide), sX_hi (by decide), ?_, fun k hk => Or.inr ⟨rfl, ?_, ?_⟩⟩
  · rw [sX_hi (by decide)]
    exact fun i hi => ⟨0, by decide, rfl⟩
  · rw [sX_hi (by omega)]; rfl
  · rw [sX_hi (by omega)]; rfl
