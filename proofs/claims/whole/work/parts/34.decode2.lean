/-! the reference's words; what both make of a place -/
theorem one_f {h : Nat} (e : one h = false) : h ≠ 0 ∧ h ≠ 10 ∧ h < 12 := by
  have := of_decide_eq_false (show decide (h = 0 ∨ h = 10 ∨ 12 ≤ h) = false from e)
  omega
theorem one_t {h : Nat} (e : one h = true) : h = 0 ∨ h = 10 ∨ 12 ≤ h := of_decide_eq_true (show decide (h = 0 ∨ h = 10 ∨ 12 ≤ h) = true from e)
theorem enN_f {h : Nat} (e : enN h = false) : h ≠ 0 ∧ h ≠ 7 ∧ h < 12 := by
  have := of_decide_eq_false (show decide (h = 0 ∨ h = 7 ∨ 12 ≤ h) = false from e)
  omega
theorem i12 (k : Int32) : (¬ k ≤ 11) ↔ 12 ≤ k := by
  rw [Int32.le_iff_toInt_le, Int32.le_iff_toInt_le]
  have e1 : (11 : Int32).toInt = 11 := by decide
  have e2 : (12 : Int32).toInt = 12 := by decide
  omega
theorem szO_eq (k : Int32) : szO k = lenO k := by
  unfold szO lenO
  simp only [i12]
theorem kdM_out {τ : St} {x : Int32} (h : inM x = false) : kdM τ x = -1 := by unfold kdM; rw [h]; rfl
theorem kdM_nI {τ : St} (h : RB (τ 1)) {p : Nat} (hp : p < 1024) : kdM τ (nI p) = nI (yN (τ 1) p / 16) := by
  obtain ⟨h1, h2⟩ := yN_eq h hp
  unfold kdM
  rw [if_pos (inM_nI hp), nI_clamp (by omega), h2, sh4 (by omega)]
theorem inM_1024 : inM (nI 1024) = false := by decide
theorem ft_out {τ : St} {x : Int32} (h : inM x = false) : ftM τ x = 3 := by
  unfold ftM
  rw [kdM_out h]
  rfl
theorem ft_nI {τ : St} (h : RB (τ 1)) {p : Nat} (hp : p ≤ 1024) : ftM τ (nI p) = if wdN (τ 1) p / 4096 = 16 then 3 else if 12 ≤ wdN (τ 1) p / 4096 then 2 else 0 := by
  have e11 : ∀ x : Nat, x < 2 ^ 31 → (nI x ≤ 11 ↔ x ≤ 11) := fun x hx => nI_leI (b := 11) hx (by omega)
  rcases wd_cases h hp with ⟨h1, h2, h3⟩ | ⟨h1, h2, h3, h4, h5⟩ | ⟨h1, h2, h3, h4, h5, h6⟩ | ⟨h1, h2, h3, h4, h5⟩
  · subst h1
    rw [ft_out inM_1024, h2]
    rfl
  · unfold ftM
    rw [kdM_nI h h1, h3, show yN (τ 1) p * 256 / 4096 = yN (τ 1) p / 16 by omega, if_neg (fun q => q (nI_pos' (by omega))), if_neg (show ¬ yN (τ 1) p / 16 = 16 by omega), szO_eq, lenO_nI (by omega), h2]
    rcases Nat.lt_or_ge (yN (τ 1) p / 16) 12 with z | z
    · rw [if_neg (fun q => q ((e11 _ (by omega)).mpr (by omega))), if_neg (show ¬ 12 ≤ yN (τ 1) p / 16 by omega)]
      have : nI p + 1 - 1 = nI p := by rw [nI_1]; exact nI_pred p
      rw [if_pos rfl, this, if_pos (inM_nI h1)]
    · rw [if_pos (fun q => by have := (e11 _ (by omega)).mp q; omega), if_pos z]
  · have hk := one_f h2
    unfold ftM
    rw [kdM_nI h (by omega), h3, show (yN (τ 1) p * 256 + yN (τ 1) (p + 1)) / 4096 = yN (τ 1) p / 16 by omega, if_neg (fun q => q (nI_pos' (by omega))), if_neg (show ¬ yN (τ 1) p / 16 = 16 by omega), szO_eq, lenO_nI (by omega), h2, if_neg (fun q => q ((e11 _ (by omega)).mpr (by omega))), if_neg (show ¬ 12 ≤ yN (τ 1) p / 16 by omega), if_neg (show ¬ false = true by decide), add21, nI_1, if_pos (inM_nI h1)]
  · have hk := one_f h2
    unfold ftM
    rw [kdM_nI h (by omega), h3, if_neg (fun q => q (nI_pos' (by omega))), szO_eq, lenO_nI (by omega), h2, if_neg (fun q => q ((e11 _ (by omega)).mpr (by omega))), if_neg (show ¬ false = true by decide), add21, nI_1, h1, inM_1024]
    rfl
/-- words so far, whether the block goes on -/
def bkN (mem : Nat → Int32) (B : Nat) : Nat → Nat × Bool
  | 0 => (0, true)
  | t + 1 => if (bkN mem B t).2 then ((bkN mem B t).1 + 1, !enN (wdN mem (PN mem B (bkN mem B t).1) / 4096)) else bkN mem B t
theorem bk_on {mem : Nat → Int32} {B t : Nat} (h : (bkN mem B t).2 = true) : bkN mem B (t + 1) = ((bkN mem B t).1 + 1, !enN (wdN mem (PN mem B (bkN mem B t).1) / 4096)) := by
  show (if (bkN mem B t).2 then _ else _) = _
  rw [if_pos h]
theorem bk_off {mem : Nat → Int32} {B t : Nat} (h : (bkN mem B t).2 = false) : bkN mem B (t + 1) = bkN mem B t := by
  show (if (bkN mem B t).2 then _ else _) = _
  rw [if_neg (by rw [h]; decide)]
theorem bk_f (mem : Nat → Int32) (B : Nat) : ∀ t : Nat, (bkN mem B t).1 ≤ t ∧ (1 ≤ t → 1 ≤ (bkN mem B t).1) ∧ ((bkN mem B t).2 = true → (bkN mem B t).1 = t ∧ ∀ w : Nat, w < t → enN (wdN mem (PN mem B w) / 4096) = false) ∧ ∀ w : Nat, w + 1 < (bkN mem B t).1 → enN (wdN mem (PN mem B w) / 4096) = false := by
  intro t
  induction t with
  | zero => exact ⟨Nat.le_refl 0, fun h => absurd h (by omega), fun _ => ⟨rfl, fun w h => absurd h (by omega)⟩, fun w h => absurd h (Nat.not_lt_zero _)⟩
  | succ t ih =>
    obtain ⟨i1, i2, i3, i4⟩ := ih
    cases hb : (bkN mem B t).2 with
    | true =>
      obtain ⟨j1, j2⟩ := i3 hb
      rw [bk_on hb, j1]
      refine ⟨Nat.le_refl _, fun _ => by dsimp only; omega, fun h => ⟨rfl, fun w hw => ?_⟩, fun w hw => j2 w (by dsimp only at hw; omega)⟩
      rcases Nat.lt_or_ge w t with z | z
      · exact j2 w z
      · have : w = t := by omega
        subst this
        dsimp only at h
        cases hz : enN (wdN mem (PN mem B w) / 4096) with
        | true => rw [hz] at h; cases h
        | false => rfl
    | false =>
      rw [bk_off hb]
      refine ⟨by omega, fun _ => ?_, fun h => (by rw [hb] at h; cases h), i4⟩
      cases t with
      | zero => cases hb
      | succ t => exact i2 (by omega)
theorem dl_s {σ : St} {k B : Nat} (h : RB (σ 1)) (hB : B < 1024) : ∀ t : Nat, (dlS σ k (nI B) t).2.1 = nI (PN (σ 1) B (bkN (σ 1) B t).1) ∧ (dlS σ k (nI B) t).2.2 = (bkN (σ 1) B t).2 ∧ (dlS σ k (nI B) t).1 (4 + 2 * k) 1 = nI B ∧ (dlS σ k (nI B) t).1 (4 + 2 * k) 2 = nI (bkN (σ 1) B t).1 ∧ (∀ w : Nat, w < (bkN (σ 1) B t).1 → (dlS σ k (nI B) t).1 (5 + 2 * k) w = nI (wdN (σ 1) (PN (σ 1) B w))) ∧ ∀ i : Nat, i ≠ 4 + 2 * k → i ≠ 5 + 2 * k → (dlS σ k (nI B) t).1 i = σ i := by
  intro t
  induction t with
  | zero =>
    refine ⟨rfl, rfl, ?_, ?_, fun w hw => absurd hw (Nat.not_lt_zero _), fun i h1 h2 => ?_⟩
    · show empB σ k (nI B) _ 1 = _
      unfold empB
      rw [s2_ne _ _ _ (by decide), s2_ne _ _ _ (by decide), s2_at]
    · show empB σ k (nI B) _ 2 = _
      unfold empB
      rw [s2_ne _ _ _ (by decide), s2_at]
      rfl
    · show empB σ k (nI B) i = _
      unfold empB
      rw [s2_row _ _ _ h1, s2_row _ _ _ h1, s2_row _ _ _ h1]
  | succ t ih =>
    obtain ⟨i1, i2, i3, i4, i5, i6⟩ := ih
    cases hb : (bkN (σ 1) B t).2 with
    | false =>
      rw [bk_off hb, show dlS σ k (nI B) (t + 1) = dlS σ k (nI B) t from dlS_off (i2.trans hb) 1]
      exact ⟨i1, i2, i3, i4, i5, i6⟩
    | true =>
      have hq := dlS_on (i2.trans hb)
      have hj := ((bk_f (σ 1) B t).2.2.1 hb).1
      have hP := (PN_le (σ 1) (Nat.le_of_lt hB) (bkN (σ 1) B t).1).2
      have hm : (dlS σ k (nI B) t).1 1 = σ 1 := i6 1 (by omega) (by omega)
      have hw : wdA (dlS σ k (nI B) t).1 (dlS σ k (nI B) t).2.1 = nI (wdN (σ 1) (PN (σ 1) B (bkN (σ 1) B t).1)) := by rw [wdA_m, hm, i1]; exact wdm_nI h hP
      have hlt := wdN_lt h (PN (σ 1) B (bkN (σ 1) B t).1)
      rw [hw, sh12 (by omega), i1, endO_nI (by omega), adv_c h hP] at hq
      rw [hq, bk_on hb]
      dsimp only
      refine ⟨rfl, rfl, ?_, ?_, fun w hw2 => ?_, fun i h1 h2 => ?_⟩
      · rw [s2_ne _ _ _ (by decide), s2_o _ _ _ _ (by omega), i3]
      · rw [s2_at, s2_o _ _ _ _ (by omega), i4, nI_1]
      · rw [s2_o _ _ _ _ (by omega)]
        by_cases e : w = t
        · rw [e, s2_at, hj]
        · rw [s2_ne _ _ _ e]
          exact i5 w (by omega)
      · rw [s2_row _ _ _ h1, s2_row _ _ _ h2]
        exact i6 i h1 h2
theorem mk_s {τ : St} {B : Nat} (h : RB (τ 1)) (hB : B < 1024) (hp : τ 0 3 = nI B) : ∀ t : Nat, t ≤ 12 → (mkT τ t).2.2 = (bkN (τ 1) B t).1 ∧ (mkT τ t).2.1 = ((bkN (τ 1) B t).2 && decide ((bkN (τ 1) B t).1 < 12)) ∧ ((mkT τ t).2.1 = true → (mkT τ t).1 = nI (PN (τ 1) B (bkN (τ 1) B t).1)) ∧ (if (mkT τ t).1 ≤ 1024 then (mkT τ t).1 else 1024) = nI (PN (τ 1) B (bkN (τ 1) B t).1) := by
  have e1024 : ∀ x : Nat, x < 2 ^ 31 → (nI x ≤ 1024 ↔ x ≤ 1024) := fun x hx => nI_leI (b := 1024) hx (by omega)
  intro t
  induction t with
  | zero =>
    intro _
    refine ⟨rfl, rfl, fun _ => hp, ?_⟩
    show (if τ 0 3 ≤ 1024 then τ 0 3 else 1024) = nI B
    rw [hp, if_pos ((e1024 B (by omega)).mpr (by omega))]
  | succ t ih =>
    intro ht
    obtain ⟨i1, i2, i3, i4⟩ := ih (by omega)
    cases hb : (bkN (τ 1) B t).2 with
    | false =>
      have hm : (mkT τ t).2.1 = false := by rw [i2, hb]; rfl
      rw [bk_off hb, show mkT τ (t + 1) = mkT τ t from mkT_off hm 1]
      exact ⟨i1, i2, i3, i4⟩
    | true =>
      have hj := ((bk_f (τ 1) B t).2.2.1 hb).1
      have hm : (mkT τ t).2.1 = true := by rw [i2, hb, hj, decide_eq_true (show t < 12 by omega)]; rfl
      have hq := mkT_on hm
      have hP := (PN_le (τ 1) (Nat.le_of_lt hB) (bkN (τ 1) B t).1).2
      rw [i3 hm, ft_nI h hP, i1] at hq
      rw [hq, bk_on hb]
      dsimp only
      have hd : (!decide (12 ≤ (bkN (τ 1) B t).1 + 1)) = decide ((bkN (τ 1) B t).1 + 1 < 12) := by
        rcases Nat.lt_or_ge ((bkN (τ 1) B t).1 + 1) 12 with z | z
        · rw [decide_eq_true z, decide_eq_false (show ¬ 12 ≤ (bkN (τ 1) B t).1 + 1 by omega)]; rfl
        · rw [decide_eq_true z, decide_eq_false (show ¬ (bkN (τ 1) B t).1 + 1 < 12 by omega)]; rfl
      have hPs : PN (τ 1) B ((bkN (τ 1) B t).1 + 1) = PN (τ 1) B (bkN (τ 1) B t).1 + lnN (τ 1) (PN (τ 1) B (bkN (τ 1) B t).1) := rfl
      rw [hPs]
      have e0 : ∀ x : Nat, x < 2 ^ 31 → (nI x = 0 ↔ x = 0) := fun x hx => nI_eq (b := 0) hx (by omega)
      have e7 : ∀ x : Nat, x < 2 ^ 31 → (nI x = 7 ↔ x = 7) := fun x hx => nI_eq (b := 7) hx (by omega)
      generalize PN (τ 1) B (bkN (τ 1) B t).1 = P at hP
      generalize (bkN (τ 1) B t).1 = n at hd
      rw [hd, Bool.and_comm _ (decide (n + 1 < 12))]
      rcases wd_cases h hP with ⟨h1, h2, h3⟩ | ⟨h1, h2, h3, h4, h5⟩ | ⟨h1, h2, h3, h4, h5, h6⟩ | ⟨h1, h2, h3, h4, h5⟩
      · rw [h2, h3, h1, kdM_out inM_1024]
        refine ⟨rfl, ?_, fun q => ?_, rfl⟩
        · cases decide (n + 1 < 12) <;> rfl
        · cases hz : decide (n + 1 < 12) <;> rw [hz] at q <;> cases q
      · rw [h3, h4, show yN (τ 1) P * 256 / 4096 = yN (τ 1) P / 16 by omega, kdM_nI h h1, if_pos (nI_pos' (by omega)), szO_eq, lenO_nI (by omega), h2, if_pos rfl, nI_1, if_pos ((e1024 _ (by omega)).mpr (by omega))]
        refine ⟨rfl, ?_, fun _ => rfl, rfl⟩
        congr 1
        simp only [e0 _ (show yN (τ 1) P / 16 < 2 ^ 31 by omega), e7 _ (show yN (τ 1) P / 16 < 2 ^ 31 by omega), enN, show ¬ yN (τ 1) P / 16 = 16 by omega, if_false]
        by_cases g0 : yN (τ 1) P / 16 = 0
        · simp [g0]
        · by_cases g7 : yN (τ 1) P / 16 = 7
          · simp [g7]
          · by_cases g12 : 12 ≤ yN (τ 1) P / 16
            · simp [g0, g7, g12]
            · simp [g0, g7, g12]
      · have hk := one_f h2
        rw [h3, h4, show (yN (τ 1) P * 256 + yN (τ 1) (P + 1)) / 4096 = yN (τ 1) P / 16 by omega, kdM_nI h (by omega), if_pos (nI_pos' (by omega)), szO_eq, lenO_nI (by omega), h2, if_neg (show ¬ false = true by decide), show nI P + 2 = nI (P + 2) from nI_add P 2, if_pos ((e1024 _ (by omega)).mpr (by omega))]
        refine ⟨rfl, ?_, fun _ => rfl, rfl⟩
        congr 1
        simp only [e0 _ (show yN (τ 1) P / 16 < 2 ^ 31 by omega), e7 _ (show yN (τ 1) P / 16 < 2 ^ 31 by omega), enN, show ¬ yN (τ 1) P / 16 = 16 by omega, if_false]
        have g12 : ¬ 12 ≤ yN (τ 1) P / 16 := by omega
        by_cases g7 : yN (τ 1) P / 16 = 7
        · simp [g7]
        · simp [hk.1, g7, g12]
      · have hk := one_f h2
        rw [h3, h4, kdM_nI h (by omega), if_pos (nI_pos' (by omega)), szO_eq, lenO_nI (by omega), h2, if_neg (show ¬ false = true by decide), show nI P + 2 = nI (P + 2) from nI_add P 2]
        refine ⟨rfl, ?_, fun q => ?_, ?_⟩
        · simp [enN]
        · simp at q
        · rw [if_neg (fun q => by have := (e1024 _ (by omega)).mp q; omega), h1]; rfl
