/-! the relation between the class's rows and the reference's -/
def HD (d e : Int32) (f g : Nat → Int32) : Prop := f 3 = g 3 ∧ f 4 = g 4 ∧ g 5 = bN (decide (f 5 = 0)) ∧ g 6 = bN (!decide (0 ≤ f 5)) ∧ f 6 = g 13 + d ∧ f 7 = g 14 ∧ f 8 = g 15 ∧ f 9 = g 16 ∧ f 10 + e = g 17 ∧ f 11 = g 18
section HDs
variable {d e : Int32} {f g : Nat → Int32}
theorem HD.p (h : HD d e f g) : f 3 = g 3 := h.1
theorem HD.s (h : HD d e f g) : f 4 = g 4 := h.2.1
theorem HD.z (h : HD d e f g) : g 5 = bN (decide (f 5 = 0)) := h.2.2.1
theorem HD.l (h : HD d e f g) : g 6 = bN (!decide (0 ≤ f 5)) := h.2.2.2.1
theorem HD.c6 (h : HD d e f g) : f 6 = g 13 + d := h.2.2.2.2.1
theorem HD.c7 (h : HD d e f g) : f 7 = g 14 := h.2.2.2.2.2.1
theorem HD.c8 (h : HD d e f g) : f 8 = g 15 := h.2.2.2.2.2.2.1
theorem HD.c9 (h : HD d e f g) : f 9 = g 16 := h.2.2.2.2.2.2.2.1
theorem HD.c10 (h : HD d e f g) : f 10 + e = g 17 := h.2.2.2.2.2.2.2.2.1
theorem HD.c11 (h : HD d e f g) : f 11 = g 18 := h.2.2.2.2.2.2.2.2.2
end HDs
def BOK (mem f g : Nat → Int32) : Prop := ∃ N : Nat, 1 ≤ N ∧ N ≤ 12 ∧ f 2 = nI N ∧ ((inM (f 1) = false ∧ N = 1 ∧ g 0 = 65536 ∧ f 3 = 0) ∨ ∃ B : Nat, B < 1024 ∧ f 1 = nI B ∧ (∀ w : Nat, w < N → g w = nI (wdN mem (PN mem B w))) ∧ (∀ w : Nat, w + 1 < N → enN (wdN mem (PN mem B w) / 4096) = false) ∧ f 3 = nI (PN mem B N - B))
def BR (mem f g : Nat → Int32) (a b c d : Int32) : Prop := (a = 1 ∧ b = f 1 ∧ c = f 2 ∧ d = f 3 ∧ BOK mem f g) ∨ (a = 0 ∧ f 2 = 0 ∧ f 3 = 0)
def BK (σ τ : St) : Prop := ∀ k : Nat, k < 32 → BR (σ 1) (σ (4 + 2 * k)) (σ (5 + 2 * k)) (τ 3 k) (τ 4 k) (τ 5 k) (τ 6 k)
def Rel (d e : Int32) (σ τ : St) : Prop := HD d e (σ 0) (τ 0) ∧ σ 1 = τ 1 ∧ σ 2 = τ 2 ∧ RB (σ 1) ∧ BK σ τ
section RLs
variable {d e : Int32} {σ τ : St}
theorem Rel.h (h : Rel d e σ τ) : HD d e (σ 0) (τ 0) := h.1
theorem Rel.m (h : Rel d e σ τ) : σ 1 = τ 1 := h.2.1
theorem Rel.r (h : Rel d e σ τ) : σ 2 = τ 2 := h.2.2.1
theorem Rel.y (h : Rel d e σ τ) : RB (σ 1) := h.2.2.2.1
theorem Rel.b (h : Rel d e σ τ) : BK σ τ := h.2.2.2.2
end RLs
theorem BK.cong {σ τ σ' τ' : St} (h : BK σ τ) (h1 : σ' 1 = σ 1) (hk : ∀ i : Nat, 4 ≤ i → σ' i = σ i) (h3 : τ' 3 = τ 3) (h4 : τ' 4 = τ 4) (h5 : τ' 5 = τ 5) (h6 : τ' 6 = τ 6) : BK σ' τ' := by
  intro k hk2
  rw [h1, hk _ (show 4 ≤ 4 + 2 * k by omega), hk _ (show 4 ≤ 5 + 2 * k by omega), h3, h4, h5, h6]
  exact h k hk2
theorem Rel.c {d e : Int32} {σ τ σ' τ' : St} {d' e' : Int32} (R : Rel d e σ τ) (h : HD d' e' (σ' 0) (τ' 0)) (h1 : σ' 1 = σ 1) (h2 : σ' 2 = τ' 2) (hk : ∀ i : Nat, 4 ≤ i → σ' i = σ i) (g1 : τ' 1 = τ 1) (h3 : τ' 3 = τ 3) (h4 : τ' 4 = τ 4) (h5 : τ' 5 = τ 5) (h6 : τ' 6 = τ 6) : Rel d' e' σ' τ' :=
  ⟨h, by rw [h1, g1]; exact R.m, h2, by rw [h1]; exact R.y, R.b.cong h1 hk h3 h4 h5 h6⟩
section RL
variable {d e : Int32} {σ τ : St}
theorem Rel.reg (R : Rel d e σ τ) (r : Nat) (v : Int32) : Rel d e (s2 σ 2 r v) (s2 τ 2 r v) := by
  refine R.c (by rw [s2_row _ _ _ (by decide), s2_row _ _ _ (by decide)]; exact R.h) (s2_row _ _ _ (by decide)) ?_ (fun i hi => s2_row _ _ _ (by omega)) (s2_row _ _ _ (by decide)) (s2_row _ _ _ (by decide)) (s2_row _ _ _ (by decide)) (s2_row _ _ _ (by decide)) (s2_row _ _ _ (by decide))
  rw [s2_self, s2_self, R.r]
theorem Rel.o (R : Rel d e σ τ) {d' e' : Int32} {i j : Nat} {v w : Int32} (h : HD d' e' (upd (σ 0) i v) (upd (τ 0) j w)) : Rel d' e' (s2 σ 0 i v) (s2 τ 0 j w) :=
  R.c (by rw [s2_self, s2_self]; exact h) (s2_row _ _ _ (by decide)) (by rw [s2_row _ _ _ (by decide), s2_row _ _ _ (by decide)]; exact R.r) (fun i hi => s2_row _ _ _ (by omega)) (s2_row _ _ _ (by decide)) (s2_row _ _ _ (by decide)) (s2_row _ _ _ (by decide)) (s2_row _ _ _ (by decide)) (s2_row _ _ _ (by decide))
theorem Rel.ol (R : Rel d e σ τ) {d' e' : Int32} {i : Nat} {v : Int32} (h : HD d' e' (upd (σ 0) i v) (τ 0)) : Rel d' e' (s2 σ 0 i v) τ :=
  R.c (by rw [s2_self]; exact h) (s2_row _ _ _ (by decide)) (by rw [s2_row _ _ _ (by decide)]; exact R.r) (fun i hi => s2_row _ _ _ (by omega)) rfl rfl rfl rfl rfl
theorem Rel.or (R : Rel d e σ τ) {d' e' : Int32} {j : Nat} {w : Int32} (h : HD d' e' (σ 0) (upd (τ 0) j w)) : Rel d' e' σ (s2 τ 0 j w) :=
  R.c (by rw [s2_self]; exact h) rfl (by rw [s2_row _ _ _ (by decide)]; exact R.r) (fun i hi => rfl) (s2_row _ _ _ (by decide)) (s2_row _ _ _ (by decide)) (s2_row _ _ _ (by decide)) (s2_row _ _ _ (by decide)) (s2_row _ _ _ (by decide))
theorem Rel.pl (R : Rel d e σ τ) (v : Int32) : Rel d e (s2 σ 0 3 v) (s2 τ 0 3 v) := R.o ⟨rfl, R.h.s, R.h.z, R.h.l, R.h.c6, R.h.c7, R.h.c8, R.h.c9, R.h.c10, R.h.c11⟩
theorem Rel.st (R : Rel d e σ τ) (v : Int32) : Rel d e (s2 σ 0 4 v) (s2 τ 0 4 v) := R.o ⟨R.h.p, rfl, R.h.z, R.h.l, R.h.c6, R.h.c7, R.h.c8, R.h.c9, R.h.c10, R.h.c11⟩
theorem Rel.st0 (R : Rel d e σ τ) {v : Int32} (h : τ 0 4 = v) : Rel d e (s2 σ 0 4 v) τ := R.ol ⟨R.h.p, h.symm, R.h.z, R.h.l, R.h.c6, R.h.c7, R.h.c8, R.h.c9, R.h.c10, R.h.c11⟩
theorem Rel.step (R : Rel d e σ τ) : Rel (d + 1) e (s2 σ 0 6 (σ 0 6 + 1)) τ := R.ol ⟨R.h.p, R.h.s, R.h.z, R.h.l, by rw [pk_us, R.h.c6, Int32.add_assoc], R.h.c7, R.h.c8, R.h.c9, R.h.c10, R.h.c11⟩
theorem Rel.hit (R : Rel d e σ τ) : Rel d e (s2 σ 0 8 (σ 0 8 + 1)) (s2 τ 0 15 (τ 0 15 + 1)) := R.o ⟨R.h.p, R.h.s, R.h.z, R.h.l, R.h.c6, R.h.c7, by rw [pk_us, pk_us, R.h.c8], R.h.c9, R.h.c10, R.h.c11⟩
theorem Rel.out (R : Rel d e σ τ) : HD d e (upd (σ 0) 9 (σ 0 9 + 1)) (upd (τ 0) 16 (τ 0 16 + 1)) := ⟨R.h.p, R.h.s, R.h.z, R.h.l, R.h.c6, R.h.c7, R.h.c8, by rw [pk_us, pk_us, R.h.c9], R.h.c10, R.h.c11⟩
theorem Rel.sto1 (R : Rel d e σ τ) : Rel d (e + 1) σ (s2 τ 0 17 (τ 0 17 + 1)) := R.or ⟨R.h.p, R.h.s, R.h.z, R.h.l, R.h.c6, R.h.c7, R.h.c8, R.h.c9, by rw [pk_us, ← R.h.c10, Int32.add_assoc], R.h.c11⟩
theorem Rel.sto2 (R : Rel d 1 σ τ) : Rel d 0 (s2 σ 0 10 (σ 0 10 + 1)) τ := R.ol ⟨R.h.p, R.h.s, R.h.z, R.h.l, R.h.c6, R.h.c7, R.h.c8, R.h.c9, by rw [pk_us, Int32.add_zero]; exact R.h.c10, R.h.c11⟩
theorem Rel.flag (R : Rel d e σ τ) (v : Int32) : Rel d e (s2 σ 0 5 v) (s2 (s2 τ 0 5 (bN (decide (v = 0)))) 0 6 (bN (!decide (0 ≤ v)))) := by
  refine R.c ?_ (s2_row _ _ _ (by decide)) (by rw [s2_row _ _ _ (by decide)]; exact R.r) (fun i hi => s2_row _ _ _ (by omega)) rfl rfl rfl rfl rfl
  exact ⟨R.h.p, R.h.s, rfl, rfl, R.h.c6, R.h.c7, R.h.c8, R.h.c9, R.h.c10, R.h.c11⟩
/-- slots of the reference that the relation doesn't see -/
theorem Rel.unseen (R : Rel d e σ τ) {j : Nat} (hj : j = 0 ∨ j = 11 ∨ j = 12) (v : Int32) : Rel d e σ (s2 τ 0 j v) := by
  refine R.or ?_
  rcases hj with rfl | rfl | rfl <;> exact ⟨R.h.p, R.h.s, R.h.z, R.h.l, R.h.c6, R.h.c7, R.h.c8, R.h.c9, R.h.c10, R.h.c11⟩
end RL
/-! a write -/
theorem wd_same {m1 m2 : Nat → Int32} {p : Nat} (h : ∀ q : Nat, p ≤ q → q < p + lnN m1 p → m2 q = m1 q) : wdN m2 p = wdN m1 p ∧ lnN m2 p = lnN m1 p := by
  unfold wdN
  rcases Nat.lt_or_ge p 1024 with z | z
  · have hl : 1 ≤ lnN m1 p := by
      unfold lnN
      rw [if_neg (show ¬ 1024 ≤ p by omega)]
      split
      · omega
      · split <;> omega
    have e1 : yN m2 p = yN m1 p := by unfold yN; rw [h p (Nat.le_refl p) (by omega)]
    rw [if_neg (show ¬ 1024 ≤ p by omega), if_neg (show ¬ 1024 ≤ p by omega), e1]
    have e2 : lnN m2 p = lnN m1 p := by unfold lnN; rw [e1]
    refine ⟨?_, e2⟩
    cases ho : one (yN m1 p / 16) with
    | true => rw [if_pos rfl, if_pos rfl]
    | false =>
      simp only [Bool.false_eq_true, if_false]
      rcases Nat.lt_or_ge (p + 1) 1024 with z2 | z2
      · have h2 : lnN m1 p = 2 := by
          unfold lnN
          rw [if_neg (show ¬ 1024 ≤ p by omega), ho, if_neg (by decide), if_pos z2]
        have e3 : yN m2 (p + 1) = yN m1 (p + 1) := by unfold yN; rw [h (p + 1) (by omega) (by omega)]
        rw [if_pos z2, if_pos z2, e3]
      · rw [if_neg (show ¬ p + 1 < 1024 by omega), if_neg (show ¬ p + 1 < 1024 by omega)]
  · unfold lnN
    rw [if_pos z, if_pos z, if_pos z, if_pos z]
    exact ⟨rfl, rfl⟩
theorem PN_mono (mem : Nat → Int32) (B : Nat) : ∀ (t u : Nat), t ≤ u → PN mem B t ≤ PN mem B u := by
  intro t u h
  induction u with
  | zero => have : t = 0 := by omega
            subst this; exact Nat.le_refl _
  | succ u ih =>
    rcases Nat.lt_or_ge t (u + 1) with z | z
    · exact Nat.le_trans (ih (by omega)) (show PN mem B u ≤ PN mem B u + lnN mem (PN mem B u) by omega)
    · have : t = u + 1 := by omega
      subst this; exact Nat.le_refl _
theorem PN_same {m1 m2 : Nat → Int32} {B N : Nat} (h : ∀ q : Nat, B ≤ q → q < PN m1 B N → m2 q = m1 q) : ∀ w : Nat, w ≤ N → PN m2 B w = PN m1 B w ∧ (w < N → wdN m2 (PN m1 B w) = wdN m1 (PN m1 B w)) := by
  have hB : ∀ w : Nat, B ≤ PN m1 B w := fun w => PN_mono m1 B 0 w (by omega)
  have key : ∀ w : Nat, w < N → wdN m2 (PN m1 B w) = wdN m1 (PN m1 B w) ∧ lnN m2 (PN m1 B w) = lnN m1 (PN m1 B w) := fun w hw => wd_same (fun q h1 h2 => h q (Nat.le_trans (hB w) h1) (Nat.lt_of_lt_of_le h2 (PN_mono m1 B (w + 1) N hw)))
  intro w
  induction w with
  | zero => exact fun _ => ⟨rfl, fun h => (key 0 h).1⟩
  | succ w ih =>
    intro hw
    obtain ⟨i1, -⟩ := ih (by omega)
    refine ⟨?_, fun h => (key _ h).1⟩
    show PN m2 B w + lnN m2 (PN m2 B w) = PN m1 B w + lnN m1 (PN m1 B w)
    rw [i1, (key w (by omega)).2]
theorem BOK.keep {mem f g : Nat → Int32} (h : BOK mem f g) {i : Nat} (hi : i < 1024) (v : Int32) (hn : nI i < f 1 ∨ f 1 + f 3 ≤ nI i) : BOK (upd mem i v) f g := by
  obtain ⟨N, h1, h2, h3, h4⟩ := h
  refine ⟨N, h1, h2, h3, ?_⟩
  rcases h4 with h4 | ⟨B, hB, e1, hw, he, e3⟩
  · exact Or.inl h4
  · right
    have hP := PN_le mem (Nat.le_of_lt hB) N
    rw [e1, e3, nI_add, show B + (PN mem B N - B) = PN mem B N by omega, nI_ltI (by omega) (by omega), nI_leI (by omega) (by omega)] at hn
    have key := PN_same (m1 := mem) (m2 := upd mem i v) (B := B) (N := N) (fun q a b => pk_un (by omega))
    refine ⟨B, hB, e1, fun w hw2 => ?_, fun w hw2 => ?_, ?_⟩
    · obtain ⟨k1, k2⟩ := key w (by omega)
      rw [k1, k2 hw2]
      exact hw w hw2
    · obtain ⟨k1, k2⟩ := key w (by omega)
      rw [k1, k2 (by omega)]
      exact he w hw2
    · rw [(key N (Nat.le_refl N)).1]
      exact e3
theorem BOK.kept {mem f g : Nat → Int32} (h : BOK mem f g) : ¬ f 2 ≤ 0 := by
  obtain ⟨N, h1, h2, h3, -⟩ := h
  rw [h3]
  exact nI_nle (by omega) (by omega)
theorem has_eq {σ τ : St} (h : BK σ τ) {k : Nat} (hk : k < 32) (x : Int32) : hasB σ k x = mHas τ k x ∧ keptB σ k = !decide (τ 3 k = 0) := by
  unfold hasB mHas keptB
  rcases h k hk with ⟨h1, h2, h3, h4, h5⟩ | ⟨h1, h2, h3⟩
  · have e : (!decide (σ (4 + 2 * k) 1 + σ (4 + 2 * k) 3 ≤ x)) = decide (x < σ (4 + 2 * k) 1 + σ (4 + 2 * k) 3) := by
      by_cases hx : x < σ (4 + 2 * k) 1 + σ (4 + 2 * k) 3
      · rw [decide_eq_true hx, decide_eq_false (Int32.not_le.mpr hx)]; rfl
      · rw [decide_eq_false hx, decide_eq_true (Int32.not_lt.mp hx)]; rfl
    rw [h1, h2, h4, decide_eq_false h5.kept, e]
    exact ⟨rfl, rfl⟩
  · rw [h1, h2]
    exact ⟨rfl, rfl⟩
