/-! words in memory, as natural numbers -/
def wdm (mem : Nat → Int32) (x : Int32) : Int32 := if inM x then (if lenO ((mem x.toNatClampNeg <<< ((8 : Int32) &&& 31)) >>> ((12 : Int32) &&& 31)) = 1 then mem x.toNatClampNeg <<< ((8 : Int32) &&& 31) else if inM (x + 1) then (mem x.toNatClampNeg <<< ((8 : Int32) &&& 31)) ||| mem (x + 1).toNatClampNeg else 65536) else 65536
theorem wdA_m (σ : St) (x : Int32) : wdA σ x = wdm (σ 1) x := rfl
def RB (mem : Nat → Int32) : Prop := ∀ i : Nat, i < 1024 → ∃ y : Nat, y < 256 ∧ mem i = nI y
def yN (mem : Nat → Int32) (p : Nat) : Nat := (mem p).toNatClampNeg
def one (h : Nat) : Bool := decide (h = 0 ∨ h = 10 ∨ 12 ≤ h)
def enN (h : Nat) : Bool := decide (h = 0 ∨ h = 7 ∨ 12 ≤ h)
def wdN (mem : Nat → Int32) (p : Nat) : Nat := if 1024 ≤ p then 65536 else if one (yN mem p / 16) then yN mem p * 256 else if p + 1 < 1024 then yN mem p * 256 + yN mem (p + 1) else 65536
def lnN (mem : Nat → Int32) (p : Nat) : Nat := if 1024 ≤ p then 0 else if one (yN mem p / 16) then 1 else if p + 1 < 1024 then 2 else 1
def PN (mem : Nat → Int32) (B : Nat) : Nat → Nat
  | 0 => B
  | t + 1 => PN mem B t + lnN mem (PN mem B t)
theorem yN_eq {mem : Nat → Int32} (h : RB mem) {p : Nat} (hp : p < 1024) : yN mem p < 256 ∧ mem p = nI (yN mem p) := by
  obtain ⟨y, h1, h2⟩ := h p hp
  unfold yN
  rw [h2, nI_clamp (by omega)]
  exact ⟨h1, rfl⟩
theorem lenO_nI {h : Nat} (hh : h < 2 ^ 31) : lenO (nI h) = if one h then 1 else 2 := by
  have e : (nI h = 0 ∨ nI h = 10 ∨ 12 ≤ nI h) ↔ (h = 0 ∨ h = 10 ∨ 12 ≤ h) := by
    have e0 : nI h = 0 ↔ h = 0 := nI_eq (b := 0) hh (by omega)
    have e1 : nI h = 10 ↔ h = 10 := nI_eq (b := 10) hh (by omega)
    have e2 : 12 ≤ nI h ↔ 12 ≤ h := nI_leI (a := 12) (by omega) hh
    rw [e0, e1, e2]
  unfold lenO one
  by_cases hc : h = 0 ∨ h = 10 ∨ 12 ≤ h
  · rw [if_pos (e.mpr hc), decide_eq_true hc]; rfl
  · rw [if_neg (fun q => hc (e.mp q)), decide_eq_false hc]; rfl
theorem endO_nI {h : Nat} (hh : h < 2 ^ 31) : endO (nI h) = enN h := by
  have e : (nI h = 0 ∨ nI h = 7 ∨ 12 ≤ nI h) ↔ (h = 0 ∨ h = 7 ∨ 12 ≤ h) := by
    have e0 : nI h = 0 ↔ h = 0 := nI_eq (b := 0) hh (by omega)
    have e1 : nI h = 7 ↔ h = 7 := nI_eq (b := 7) hh (by omega)
    have e2 : 12 ≤ nI h ↔ 12 ≤ h := nI_leI (a := 12) (by omega) hh
    rw [e0, e1, e2]
  unfold endO enN
  by_cases hc : h = 0 ∨ h = 7 ∨ 12 ≤ h
  · rw [decide_eq_true hc, decide_eq_true (e.mpr hc)]
  · rw [decide_eq_false hc, decide_eq_false (fun q => hc (e.mp q))]
theorem sh8 {y : Nat} (h : y < 256) : nI y <<< ((8 : Int32) &&& 31) = nI (y * 256) := pk_shlN (n := y) _ 8 (by decide) (by omega)
theorem sh12 {y : Nat} (h : y < 2 ^ 31) : nI y >>> ((12 : Int32) &&& 31) = nI (y / 4096) := pk_shrN h _ 12 (by decide)
theorem sh8r {y : Nat} (h : y < 2 ^ 31) : nI y >>> ((8 : Int32) &&& 31) = nI (y / 256) := pk_shrN h _ 8 (by decide)
theorem sh4 {y : Nat} (h : y < 2 ^ 31) : nI y >>> ((4 : Int32) &&& 31) = nI (y / 16) := pk_shrN h _ 4 (by decide)
theorem an15 {y : Nat} (h : y < 2 ^ 31) : nI y &&& 15 = nI (y % 16) := pk_andN (by omega) 4 (by decide)
theorem an255 {y : Nat} (h : y < 2 ^ 31) : nI y &&& 255 = nI (y % 256) := pk_andN (by omega) 8 (by decide)
theorem an7 {y : Nat} (h : y < 2 ^ 31) : nI y &&& 7 = nI (y % 8) := pk_andN (by omega) 3 (by decide)
theorem or8 {y z : Nat} (hy : y < 256) (hz : z < 256) : nI (y * 256) ||| nI z = nI (y * 256 + z) := by
  apply Int32.toBitVec_inj.mp
  rw [Int32.toBitVec_or]
  apply BitVec.eq_of_toNat_eq
  rw [BitVec.toNat_or, pk_tn (by omega), pk_tn (by omega), pk_tn (by omega)]
  have := Nat.shiftLeft_add_eq_or_of_lt (i := 8) hz y
  rw [Nat.shiftLeft_eq] at this
  exact this.symm
theorem wdm_nI {mem : Nat → Int32} (h : RB mem) {p : Nat} (hp : p ≤ 1024) : wdm mem (nI p) = nI (wdN mem p) := by
  unfold wdm wdN
  rcases Nat.lt_or_ge p 1024 with z | z
  · obtain ⟨h1, h2⟩ := yN_eq h z
    rw [if_pos (inM_nI z), if_neg (show ¬ 1024 ≤ p by omega), nI_clamp (by omega), h2, sh8 h1, sh12 (by omega), show yN mem p * 256 / 4096 = yN mem p / 16 by omega, lenO_nI (by omega)]
    cases ho : one (yN mem p / 16) with
    | true => simp
    | false =>
      simp only [Bool.false_eq_true, if_false]
      rw [if_neg (show ¬ (2 : Int32) = 1 by decide), nI_1]
      rcases Nat.lt_or_ge (p + 1) 1024 with z2 | z2
      · obtain ⟨h3, h4⟩ := yN_eq h z2
        rw [if_pos (inM_nI z2), if_pos z2, nI_clamp (by omega), h4, or8 h1 h3]
      · rw [if_neg (show ¬ p + 1 < 1024 by omega)]
        have : inM (nI (p + 1)) = false := by
          have e : p + 1 = 1024 := by omega
          rw [e]; decide
        rw [this]
        rfl
  · have e : p = 1024 := by omega
    subst e
    rfl
theorem wdN_lt {mem : Nat → Int32} (h : RB mem) (p : Nat) : wdN mem p ≤ 65536 := by
  unfold wdN
  split
  · omega
  · next z =>
    obtain ⟨h1, -⟩ := yN_eq h (show p < 1024 by omega)
    split
    · omega
    · split
      · next z2 =>
        obtain ⟨h3, -⟩ := yN_eq h z2
        omega
      · omega
theorem lnN_le (mem : Nat → Int32) {p : Nat} (hp : p ≤ 1024) : p + lnN mem p ≤ 1024 := by
  unfold lnN
  split
  · omega
  · split
    · omega
    · split <;> omega
theorem PN_le (mem : Nat → Int32) {B : Nat} (hB : B ≤ 1024) : ∀ t : Nat, B ≤ PN mem B t ∧ PN mem B t ≤ 1024 := by
  intro t
  induction t with
  | zero => exact ⟨Nat.le_refl B, hB⟩
  | succ t ih =>
    have := lnN_le mem ih.2
    show B ≤ PN mem B t + lnN mem (PN mem B t) ∧ PN mem B t + lnN mem (PN mem B t) ≤ 1024
    omega
/-- how far the class goes on behind a word -/
theorem wd_cases {mem : Nat → Int32} (h : RB mem) {p : Nat} (hp : p ≤ 1024) : (p = 1024 ∧ wdN mem p = 65536 ∧ lnN mem p = 0) ∨ (p < 1024 ∧ one (yN mem p / 16) = true ∧ wdN mem p = yN mem p * 256 ∧ lnN mem p = 1 ∧ yN mem p < 256) ∨ (p + 1 < 1024 ∧ one (yN mem p / 16) = false ∧ wdN mem p = yN mem p * 256 + yN mem (p + 1) ∧ lnN mem p = 2 ∧ yN mem p < 256 ∧ yN mem (p + 1) < 256) ∨ (p + 1 = 1024 ∧ one (yN mem p / 16) = false ∧ wdN mem p = 65536 ∧ lnN mem p = 1 ∧ yN mem p < 256) := by
  unfold wdN lnN
  rcases Nat.lt_or_ge p 1024 with z | z
  · obtain ⟨h1, -⟩ := yN_eq h z
    right
    rw [if_neg (show ¬ 1024 ≤ p by omega), if_neg (show ¬ 1024 ≤ p by omega)]
    cases ho : one (yN mem p / 16) with
    | true => left; exact ⟨z, rfl, rfl, rfl, h1⟩
    | false =>
      right
      simp only [Bool.false_eq_true, if_false]
      rcases Nat.lt_or_ge (p + 1) 1024 with z2 | z2
      · obtain ⟨h3, -⟩ := yN_eq h z2
        left
        rw [if_pos z2, if_pos z2]
        exact ⟨z2, trivial, rfl, rfl, h1, h3⟩
      · right
        rw [if_neg (show ¬ p + 1 < 1024 by omega), if_neg (show ¬ p + 1 < 1024 by omega)]
        exact ⟨by omega, trivial, rfl, rfl, h1⟩
  · left
    rw [if_pos z, if_pos z]
    exact ⟨by omega, rfl, rfl⟩
theorem adv_c {mem : Nat → Int32} (h : RB mem) {p : Nat} (hp : p ≤ 1024) : nI p + (if nI (wdN mem p / 4096) = 16 then bN (inM (nI p)) else lenO (nI (wdN mem p / 4096))) = nI (p + lnN mem p) := by
  have e16 : ∀ x : Nat, x < 2 ^ 31 → (nI x = 16 ↔ x = 16) := fun x hx => nI_eq (b := 16) hx (by omega)
  rw [← nI_add]
  congr 1
  rcases wd_cases h hp with ⟨h1, h2, h3⟩ | ⟨h1, h2, h3, h4, h5⟩ | ⟨h1, h2, h3, h4, h5, h6⟩ | ⟨h1, h2, h3, h4, h5⟩
  · rw [h2, h3, h1]; rfl
  · rw [h3, h4, show yN mem p * 256 / 4096 = yN mem p / 16 by omega, if_neg (fun q => by have := (e16 _ (by omega)).mp q; omega), lenO_nI (by omega), h2]; rfl
  · rw [h3, h4, show (yN mem p * 256 + yN mem (p + 1)) / 4096 = yN mem p / 16 by omega, if_neg (fun q => by have := (e16 _ (by omega)).mp q; omega), lenO_nI (by omega), h2]; rfl
  · rw [h3, h4, show 65536 / 4096 = 16 from rfl, if_pos ((e16 16 (by omega)).mpr rfl), inM_nI (by omega)]; rfl
