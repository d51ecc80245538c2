/-! what the reference's steps keep -/
def PR (τ υ : St) : Prop := υ 5 = τ 5 ∧ (∀ k : Nat, ¬ υ 3 k = 0 → ¬ τ 3 k = 0) ∧ υ 0 5 = τ 0 5 ∧ υ 0 6 = τ 0 6 ∧ υ 0 11 = τ 0 11
theorem pr_rf (τ : St) : PR τ τ := ⟨rfl, fun _ h => h, rfl, rfl, rfl⟩
theorem PR.tr {τ υ φ : St} (h : PR τ υ) (g : PR υ φ) : PR τ φ := ⟨g.1.trans h.1, fun k hk => h.2.1 k (g.2.1 k hk), g.2.2.1.trans h.2.2.1, g.2.2.2.1.trans h.2.2.2.1, g.2.2.2.2.trans h.2.2.2.2⟩
theorem pr_s2 {τ : St} {i j : Nat} {v : Int32} (h5 : i ≠ 5) (h3 : i ≠ 3) (h0 : i = 0 → j ≠ 5 ∧ j ≠ 6 ∧ j ≠ 11) : PR τ (s2 τ i j v) := by
  refine ⟨s2_row _ _ _ (Ne.symm h5), fun k hk => ?_, ?_, ?_, ?_⟩
  · rw [s2_row _ _ _ (Ne.symm h3)] at hk
    exact hk
  all_goals
    by_cases h : i = 0
    · subst h
      obtain ⟨a, b, d⟩ := h0 rfl
      exact s2_ne _ _ _ (by omega)
    · exact s2_o _ _ _ _ (Ne.symm h)
theorem pr_mTo (τ : St) (k : Nat) : PR τ (mTo τ k) := by
  have h1 : PR τ (s2 τ 3 k 0) := by
    refine ⟨s2_row _ _ _ (by decide), fun k2 hk => ?_, s2_o _ _ _ _ (by decide), s2_o _ _ _ _ (by decide), s2_o _ _ _ _ (by decide)⟩
    by_cases h : k2 = k
    · subst h
      rw [s2_at] at hk
      exact absurd rfl hk
    · rw [s2_ne _ _ _ h] at hk
      exact hk
  exact h1.tr (pr_s2 (by decide) (by decide) (fun _ => ⟨by decide, by decide, by decide⟩))
theorem pr_mWl (τ : St) (i : Nat) : ∀ n : Nat, PR τ (mWl τ i n) := by
  intro n
  induction n with
  | zero => exact pr_rf τ
  | succ n ih =>
    refine ih.tr ?_
    rw [mWl, mWs]
    split
    · exact (pr_mTo _ _).tr (pr_s2 (by decide) (by decide) (fun _ => ⟨by decide, by decide, by decide⟩))
    · exact pr_rf _
theorem pr_mWr (τ : St) (i : Nat) (v : Int32) : PR τ (mWr τ i v) := (pr_s2 (by decide) (by decide) (fun h => absurd h (by decide))).tr (pr_mWl _ _ _)
theorem MI.pr {τ υ : St} (h : MI τ) (p : PR τ υ) : MI υ := by
  intro k hk h3
  obtain ⟨W, a, b, e⟩ := h k hk (p.2.1 k h3)
  exact ⟨W, a, b, by rw [p.1]; exact e⟩
theorem ZB.pr {τ υ : St} (h : ZB τ) (p : PR τ υ) : ZB υ := h.of p.2.2.1 p.2.2.2.1
/-- what a state keeps where the flags may be set anew -/
def PZ (τ υ : St) : Prop := υ 5 = τ 5 ∧ (∀ k : Nat, ¬ υ 3 k = 0 → ¬ τ 3 k = 0) ∧ (ZB τ → ZB υ) ∧ υ 0 11 = τ 0 11
theorem PR.pz {τ υ : St} (p : PR τ υ) : PZ τ υ := ⟨p.1, p.2.1, fun h => h.pr p, p.2.2.2.2⟩
theorem PZ.tr {τ υ φ : St} (h : PZ τ υ) (g : PZ υ φ) : PZ τ φ := ⟨g.1.trans h.1, fun k hk => h.2.1 k (g.2.1 k hk), fun z => g.2.2.1 (h.2.2.1 z), g.2.2.2.trans h.2.2.2⟩
theorem pz_be (τ : St) (r : Nat) (v : Int32) : PZ τ (beM τ r v) := by
  refine ⟨?_, fun k hk => ?_, fun _ => ⟨⟨decide (v = 0), ?_⟩, ⟨!decide (0 ≤ v), ?_⟩⟩, ?_⟩
  · rfl
  · exact hk
  · exact (s2_ne _ _ _ (by decide)).trans (s2_at _ _ _ _)
  · exact s2_at _ _ _ _
  · rfl
theorem pz_wo (τ : St) (kd : Int32) (r : Nat) (sv nr : Int32) : PZ τ (woM τ kd r sv nr) := by
  have h2 : ∀ v : Int32, ∀ υ : St, PR υ (s2 υ 2 r v) := fun v υ => pr_s2 (by decide) (by decide) (fun h => absurd h (by decide))
  unfold woM
  split
  · exact (h2 _ _).pz
  split
  · exact pz_be _ _ _
  split
  · exact pz_be _ _ _
  split
  · exact (h2 _ _).pz
  split
  · exact ((pr_s2 (by decide) (by decide) (fun _ => ⟨by decide, by decide, by decide⟩)).tr (pr_mWr _ _ _)).pz
  split
  · exact pz_be _ _ _
  split
  · exact (h2 _ _).pz
  split
  · exact pz_be _ _ _
  split
  · exact pz_be _ _ _
  · exact (pz_be _ _ _).tr (h2 _ _).pz
theorem pz_pl (τ : St) : PR τ (dPl τ) := pr_s2 (by decide) (by decide) (fun _ => ⟨by decide, by decide, by decide⟩)
theorem pz_do (τ : St) : PZ τ (doM τ).1 := by
  have h4 : ∀ v : Int32, PR τ (s2 τ 0 4 v) := fun v => pr_s2 (by decide) (by decide) (fun _ => ⟨by decide, by decide, by decide⟩)
  unfold doM
  split
  · exact (h4 _).pz
  split
  · exact (h4 _).pz
  split
  · exact (h4 _).pz
  split
  · exact ((pz_pl τ).tr (pr_s2 (by decide) (by decide) (fun _ => ⟨by decide, by decide, by decide⟩))).pz
  · exact (pz_pl τ).pz.tr (pz_wo _ _ _ _ _)
theorem MI.pz {τ υ : St} (h : MI τ) (p : PZ τ υ) : MI υ := by
  intro k hk h3
  obtain ⟨W, a, b, e⟩ := h k hk (p.2.1 k h3)
  exact ⟨W, a, b, by rw [p.1]; exact e⟩
theorem ft_v (τ : St) (x : Int32) : ftM τ x = 0 ∨ ftM τ x = 2 ∨ ftM τ x = 3 := by
  unfold ftM
  split
  · exact Or.inr (Or.inr rfl)
  split
  · exact Or.inr (Or.inl rfl)
  split
  · exact Or.inl rfl
  · exact Or.inr (Or.inr rfl)
theorem do_st {τ : St} (h : (doM τ).2 = false) : ¬ (doM τ).1 0 4 = 0 := by
  unfold doM at h ⊢
  split
  · next h1 =>
    dsimp only
    rw [s2_at]
    rcases ft_v τ (τ 0 3) with e | e | e
    · rw [e] at h1; exact absurd (by decide) h1
    · rw [e]; decide
    · rw [e]; decide
  · next h1 =>
    rw [if_neg h1] at h
    split
    · dsimp only; rw [s2_at]; decide
    · next h2 =>
      rw [if_neg h2] at h
      split
      · dsimp only; rw [s2_at]; decide
      · next h3 =>
        rw [if_neg h3] at h
        split at h <;> cases h
def ouW (τ : St) : Nat := (ouS τ 5 (kAt (τ 0 3))).toNatClampNeg
def ouL (n : Nat) : Nat → Nat → St → St × Nat
  | 0, d, τ => (τ, d)
  | f + 1, d, τ => if τ 0 4 = 0 ∧ d < n then ouL n f (inL n (ouW τ) d (ouS τ)).2 (inL n (ouW τ) d (ouS τ)).1 else (τ, d)
theorem inL_le (n : Nat) : ∀ (f d : Nat) (τ : St), d ≤ n → d ≤ (inL n f d τ).2 ∧ (inL n f d τ).2 ≤ n := by
  intro f
  induction f with
  | zero => exact fun d τ h => ⟨Nat.le_refl d, h⟩
  | succ f ih =>
    intro d τ h
    rw [inL]
    split
    · next hc =>
      have h1 : d + (if (doM τ).2 then 1 else 0) ≤ n := by have := hc.2.1; split <;> omega
      have := ih _ (doM τ).1 h1
      exact ⟨by have h2 := this.1; omega, this.2⟩
    · exact ⟨Nat.le_refl d, h⟩
theorem inL_pz (n : Nat) : ∀ (f d : Nat) (τ : St), PZ τ (inL n f d τ).1 := by
  intro f
  induction f with
  | zero => exact fun d τ => (pr_rf τ).pz
  | succ f ih =>
    intro d τ
    rw [inL]
    split
    · exact (pz_do τ).tr (ih _ _)
    · exact (pr_rf τ).pz
theorem inL_go {n f d : Nat} {τ : St} (h0 : τ 0 4 = 0) (hd : d < n) (h12 : τ 0 12 = 0) (hr : (inL n (f + 1) d τ).1 0 4 = 0) : d + 1 ≤ (inL n (f + 1) d τ).2 := by
  rw [inL, if_pos ⟨h0, hd, h12⟩] at hr ⊢
  cases hz : (doM τ).2 with
  | true =>
    rw [hz] at hr
    exact (inL_le n f (d + 1) (doM τ).1 hd).1
  | false =>
    exfalso
    rw [hz] at hr
    have h1 := do_st hz
    cases f with
    | zero => exact h1 hr
    | succ f =>
      rw [inL, if_neg (fun h => h1 h.1)] at hr
      exact h1 hr
theorem mkT_12 (τ : St) : 1 ≤ (mkT τ 12).2.2 ∧ (mkT τ 12).2.2 ≤ 12 := ⟨(mkT_n τ 12).2 (by omega), (mkT_n τ 12).1⟩
theorem mkM_form (τ : St) (k : Nat) : ∃ (v : Int32) (b : Bool), mkM τ k = mkZ (if b then mkA τ k (mkT τ 12).2.2 v else s2 (mkA τ k (mkT τ 12).2.2 v) 6 k 0) (mkT τ 12).2.2 := ⟨_, _, rfl⟩
theorem mkM_r3 (τ : St) (k : Nat) : mkM τ k 3 = upd (τ 3) k 1 := by
  obtain ⟨v, b, e⟩ := mkM_form τ k
  rw [e]
  cases b <;> rfl
theorem mkM_r5 (τ : St) (k : Nat) : mkM τ k 5 = upd (τ 5) k (nI (mkT τ 12).2.2) := by
  obtain ⟨v, b, e⟩ := mkM_form τ k
  rw [e]
  cases b <;> rfl
theorem mkM_r0 (τ : St) (k : Nat) {j : Nat} (h14 : j ≠ 14) (h18 : j ≠ 18) : mkM τ k 0 j = τ 0 j := by
  obtain ⟨v, b, e⟩ := mkM_form τ k
  rw [e]
  have hz : ∀ (υ : St) (n : Nat), mkZ υ n 0 j = υ 0 j := fun υ n => (s2_ne _ _ _ h18).trans (s2_ne _ _ _ h14)
  rw [hz]
  cases b <;> rfl
theorem MI.mk {τ : St} (h : MI τ) (k : Nat) : MI (mkM τ k) := by
  intro k2 hk2 h3
  rw [mkM_r3] at h3
  rw [mkM_r5]
  by_cases e : k2 = k
  · subst e
    exact ⟨_, (mkT_12 τ).1, (mkT_12 τ).2, pk_us⟩
  · rw [pk_un e] at h3 ⊢
    exact h k2 hk2 h3
theorem fi_pr (τ : St) : fi1 τ 5 = τ 5 ∧ fi1 τ 3 = τ 3 ∧ fi1 τ 4 = τ 4 ∧ (∀ j : Nat, j ≠ 11 → fi1 τ 0 j = τ 0 j) := ⟨rfl, rfl, rfl, fun j h => s2_ne _ _ _ h⟩
theorem MI.fi {τ : St} (h : MI τ) : MI (fiM τ) ∧ ∃ W : Nat, 1 ≤ W ∧ W ≤ 12 ∧ fiM τ 5 (kAt (τ 0 3)) = nI W := by
  have h1 : MI (fi1 τ) := fun k hk h3 => h k hk h3
  unfold fiM
  split
  · next hc => exact ⟨fun k hk h3 => h k hk h3, h1 _ (kAt_lt _) hc.1⟩
  · refine ⟨h1.mk _, _, (mkT_12 (fi1 τ)).1, (mkT_12 (fi1 τ)).2, ?_⟩
    rw [mkM_r5]
    exact pk_us
theorem fiM_0 (τ : St) {j : Nat} (h11 : j ≠ 11) (h14 : j ≠ 14) (h15 : j ≠ 15) (h18 : j ≠ 18) : fiM τ 0 j = τ 0 j := by
  unfold fiM
  split
  · exact (s2_ne _ _ _ h15).trans (s2_ne _ _ _ h11)
  · exact (mkM_r0 _ _ h14 h18).trans (s2_ne _ _ _ h11)
theorem fiM_11 (τ : St) : fiM τ 0 11 = nI (kAt (τ 0 3)) := by
  unfold fiM
  split
  · exact ((s2_ne _ _ _ (by decide)).trans (s2_at _ _ _ _)).trans (kAt_eq _)
  · exact ((mkM_r0 _ _ (by decide) (by decide)).trans (s2_at _ _ _ _)).trans (kAt_eq _)
theorem ouS_f {τ : St} (h : MI τ) : MI (ouS τ) ∧ 1 ≤ ouW τ ∧ ouW τ ≤ 12 ∧ fiM τ 5 (kAt (τ 0 3)) = nI (ouW τ) ∧ ouS τ 0 4 = τ 0 4 ∧ ouS τ 0 12 = 0 ∧ (ZB τ → ZB (ouS τ)) := by
  obtain ⟨h1, W, a, b, e⟩ := h.fi
  have e5 : ouS τ 5 = fiM τ 5 := s2_row _ _ _ (by decide)
  have hW : ouW τ = W := by unfold ouW; rw [e5, e]; exact nI_clamp (by omega)
  refine ⟨fun k hk h3 => h1 k hk h3, by omega, by omega, by rw [hW]; exact e, ?_, s2_at _ _ _ _, fun z => z.of ?_ ?_⟩
  · exact (s2_ne _ _ _ (by decide)).trans (fiM_0 τ (by decide) (by decide) (by decide) (by decide))
  · exact (s2_ne _ _ _ (by decide)).trans (fiM_0 τ (by decide) (by decide) (by decide) (by decide))
  · exact (s2_ne _ _ _ (by decide)).trans (fiM_0 τ (by decide) (by decide) (by decide) (by decide))
