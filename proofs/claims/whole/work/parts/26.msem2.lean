/-! facts on the reference's functions that its walks need -/
theorem ft0 {τ : St} {x : Int32} (h : ftM τ x ≤ 0) : inM x = true ∧ 0 ≤ kdM τ x ∧ kdM τ x ≤ 11 ∧ inM (x + szO (kdM τ x) - 1) = true := by
  unfold ftM at h
  split at h
  · exact absurd h (by decide)
  · next h1 =>
    split at h
    · exact absurd h (by decide)
    · next h2 =>
      split at h
      · next h3 =>
        have h1' : 0 ≤ kdM τ x := Decidable.not_not.mp h1
        refine ⟨?_, h1', Decidable.not_not.mp h2, h3⟩
        cases hz : inM x with
        | true => rfl
        | false =>
          exfalso
          have : kdM τ x = -1 := by unfold kdM; rw [hz]; rfl
          rw [this] at h1'
          exact absurd h1' (by decide)
      · exact absurd h (by decide)
theorem doM_1 {τ : St} (h : ¬ ftM τ (τ 0 3) ≤ 0) : doM τ = (s2 τ 0 4 (1 + ftM τ (τ 0 3)), false) := by unfold doM; rw [if_pos h]
theorem doM_2 {τ : St} (h : ftM τ (τ 0 3) ≤ 0) (hk : dKd τ = 0) : doM τ = (s2 τ 0 4 1, false) := by unfold doM; rw [if_neg (fun q => q h), if_pos hk]
theorem doM_3 {τ : St} (h : ftM τ (τ 0 3) ≤ 0) (hk : ¬ dKd τ = 0) (h4 : dKd τ = 4 ∨ dKd τ = 5) (hi : inM (dSv τ) = false) : doM τ = (s2 τ 0 4 (1 + 1), false) := by unfold doM; rw [if_neg (fun q => q h), if_neg hk, if_pos ⟨h4, hi⟩]
theorem doM_4 {τ : St} (h : ftM τ (τ 0 3) ≤ 0) (h7 : dKd τ = 7) : doM τ = (s2 (dPl τ) 0 3 (dPl τ 0 3 + (if hoM (dPl τ) (dCo τ) = 0 then 0 else dNr τ)), true) := by
  unfold doM
  rw [if_neg (fun q => q h), if_neg (by rw [h7]; decide), if_neg (fun q => by rw [h7] at q; exact absurd q.1 (by decide)), if_pos h7]
theorem doM_5 {τ : St} (h : ftM τ (τ 0 3) ≤ 0) (hk : ¬ dKd τ = 0) (hn : dKd τ = 4 ∨ dKd τ = 5 → inM (dSv τ) = true) (h7 : ¬ dKd τ = 7) : doM τ = (woM (dPl τ) (dKd τ) (lo3 (τ 1 (τ 0 3).toNatClampNeg)) (dSv τ) (dNr τ), true) := by
  unfold doM
  rw [if_neg (fun q => q h), if_neg hk, if_neg (fun q => by have := hn q.1; rw [q.2] at this; cases this), if_neg h7]
/-- the two flags are truth values -/
def ZB (τ : St) : Prop := (∃ b : Bool, τ 0 5 = bN b) ∧ ∃ b : Bool, τ 0 6 = bN b
theorem ZB.of {τ υ : St} (h : ZB τ) (h5 : υ 0 5 = τ 0 5) (h6 : υ 0 6 = τ 0 6) : ZB υ := by
  unfold ZB
  rw [h5, h6]
  exact h
/-- a kept row has 1 to 12 words -/
def MI (τ : St) : Prop := ∀ k : Nat, k < 32 → ¬ τ 3 k = 0 → ∃ W : Nat, 1 ≤ W ∧ W ≤ 12 ∧ τ 5 k = nI W
theorem mkT_n (τ : St) : ∀ t : Nat, (mkT τ t).2.2 ≤ t ∧ (1 ≤ t → 1 ≤ (mkT τ t).2.2) := by
  intro t
  induction t with
  | zero => exact ⟨Nat.le_refl 0, fun h => absurd h (by omega)⟩
  | succ t ih =>
    cases hz : (mkT τ t).2.1 with
    | true =>
      rw [mkT_on hz]
      exact ⟨by have := ih.1; dsimp only; omega, fun _ => by dsimp only; omega⟩
    | false =>
      have e : mkT τ (t + 1) = mkT τ t := mkT_off hz 1
      rw [e]
      refine ⟨by have := ih.1; omega, fun _ => ?_⟩
      cases t with
      | zero => exact absurd (show true = false from hz) (by decide)
      | succ t => exact ih.2 (by omega)
theorem ho_dPl (τ : St) (c : Int32) : dPl τ 0 5 = τ 0 5 ∧ dPl τ 0 6 = τ 0 6 := ⟨s2_ne _ _ _ (by decide), s2_ne _ _ _ (by decide)⟩
theorem ZB.dPl {τ : St} (h : ZB τ) : ZB (dPl τ) := h.of (ho_dPl τ 0).1 (ho_dPl τ 0).2
theorem add21 (x : Int32) : x + 2 - 1 = x + 1 := by
  rw [Int32.sub_eq_add_neg, Int32.add_assoc]
  rfl
