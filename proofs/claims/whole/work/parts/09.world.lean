abbrev kB : Nat := 0
abbrev kX : Nat := 1
abbrev kM : Nat := 2
/-! the world of a BlockRows: 4 + 2 j cells. 0: the object, 1: bytes, 2: registers, 3: the array of blocks, 4 + 2 k: block k, 5 + 2 k: its words. Cell i's numbers are the row σ i, by slot or place -/
abbrev St : Type := Nat → Nat → Int32
def s2 (σ : St) (i j : Nat) (v : Int32) : St := va_up σ i (upd (σ i) j v)
theorem s2_self (σ : St) (i j : Nat) (v : Int32) : s2 σ i j v i = upd (σ i) j v := va_up_self _ _ _
theorem s2_row (σ : St) {i k : Nat} (j : Nat) (v : Int32) (h : k ≠ i) : s2 σ i j v k = σ k := va_up_ne _ _ h
theorem s2_at (σ : St) (i j : Nat) (v : Int32) : s2 σ i j v i j = v := by rw [s2_self]; exact pk_us
theorem s2_ne (σ : St) (i : Nat) {j k : Nat} (v : Int32) (h : k ≠ j) : s2 σ i j v i k = σ i k := by rw [s2_self]; exact pk_un h
theorem s2_o (σ : St) {i k : Nat} (j t : Nat) (v : Int32) (h : k ≠ i) : s2 σ i j v k t = σ k t := by rw [s2_row σ j v h]
/-- the object's slots -/
def bw_f (a : Nat → Nat) (r : Nat → Int32) : List Value := [.ref (a 1), .ref (a 2), .ref (a 3), .int (r 3), .int (r 4), .int (r 5), .int (r 6), .int (r 7), .int (r 8), .int (r 9), .int (r 10), .int (r 11)]
def bw_b (q : Nat) (r : Nat → Int32) : List Value := [.ref q, .int (r 1), .int (r 2), .int (r 3)]
def bw_e (a : Nat → Nat) (cI cB : ClassId) (j : Nat) (σ : St) (i : Nat) : va_E := match i with
  | 0 => .inr (kX, bw_f a (σ 0))
  | 1 => .inl (cI, 1024, .inl (σ 1))
  | 2 => .inl (cI, 8, .inl (σ 2))
  | 3 => .inl (cB, 32, .inr (.inr (.inr (.inr (fun k => if k < j then some (a (4 + 2 * k)) else none)))))
  | i + 4 => if i % 2 = 0 then .inr (kB, bw_b (a (i + 5)) (σ (i + 4))) else .inl (cI, 12, .inl (σ (i + 4)))
def bw (a : Nat → Nat) (cI cB : ClassId) (j : Nat) (σ : St) : va_W := (List.range (4 + 2 * j)).map (fun i => (a i, bw_e a cI cB j σ i))
section BW
variable {a : Nat → Nat} {cI cB : ClassId} {j : Nat} {σ : St}
theorem bw_at {i : Nat} (h : i < 4 + 2 * j) : (bw a cI cB j σ)[i]? = some (a i, bw_e a cI cB j σ i) := by
  unfold bw
  rw [List.getElem?_map, List.getElem?_range h]
  rfl
theorem bw_e_blk (k : Nat) : bw_e a cI cB j σ (4 + 2 * k) = .inr (kB, bw_b (a (5 + 2 * k)) (σ (4 + 2 * k))) := by
  rw [show 4 + 2 * k = 2 * k + 4 by omega, show 5 + 2 * k = 2 * k + 5 by omega]
  show (if (2 * k) % 2 = 0 then _ else _) = _
  rw [if_pos (by omega)]
theorem bw_e_wrd (k : Nat) : bw_e a cI cB j σ (5 + 2 * k) = .inl (cI, 12, .inl (σ (5 + 2 * k))) := by
  rw [show 5 + 2 * k = (2 * k + 1) + 4 by omega]
  show (if (2 * k + 1) % 2 = 0 then _ else _) = _
  rw [if_neg (by omega)]
theorem bw_e_up {i k : Nat} {f : Nat → Int32} (h : k ≠ i) : bw_e a cI cB j (va_up σ i f) k = bw_e a cI cB j σ k := by
  have e : va_up σ i f k = σ k := va_up_ne _ _ h
  match k, e with
  | 0, e => simp only [bw_e, e]
  | 1, e => simp only [bw_e, e]
  | 2, e => simp only [bw_e, e]
  | 3, e => rfl
  | k + 4, e => simp only [bw_e, e]
theorem bw_set {i : Nat} {f : Nat → Int32} {x : va_E} (h : i < 4 + 2 * j) (hx : bw_e a cI cB j (va_up σ i f) i = x) : (bw a cI cB j σ).set i (a i, x) = bw a cI cB j (va_up σ i f) := by
  subst hx
  have hl : (bw a cI cB j σ).length = 4 + 2 * j := by simp [bw]
  apply List.ext_getElem?
  intro k
  by_cases hk : k = i
  · subst hk
    rw [List.getElem?_set_self (by omega), bw_at h]
  · rw [List.getElem?_set_ne (Ne.symm hk)]
    by_cases hl2 : k < 4 + 2 * j
    · rw [bw_at hl2, bw_at hl2, bw_e_up hk]
    · rw [List.getElem?_eq_none (by omega), List.getElem?_eq_none (by simp [bw]; omega)]
theorem bw_f_put {r : Nat → Int32} {k : Nat} {v : Int32} (h3 : 3 ≤ k) (h : k < 12) : (bw_f a r).set k (.int v) = bw_f a (upd r k v) := by
  rcases (show k = 3 ∨ k = 4 ∨ k = 5 ∨ k = 6 ∨ k = 7 ∨ k = 8 ∨ k = 9 ∨ k = 10 ∨ k = 11 by omega) with rfl | rfl | rfl | rfl | rfl | rfl | rfl | rfl | rfl <;> simp [bw_f, upd]
theorem bw_f_get {r : Nat → Int32} {k : Nat} (h3 : 3 ≤ k) (h : k < 12) : (bw_f a r)[k]? = some (.int (r k)) := by
  rcases (show k = 3 ∨ k = 4 ∨ k = 5 ∨ k = 6 ∨ k = 7 ∨ k = 8 ∨ k = 9 ∨ k = 10 ∨ k = 11 by omega) with rfl | rfl | rfl | rfl | rfl | rfl | rfl | rfl | rfl <;> rfl
theorem bw_b_put {q : Nat} {r : Nat → Int32} {k : Nat} {v : Int32} (h1 : 1 ≤ k) (h : k < 4) : (bw_b q r).set k (.int v) = bw_b q (upd r k v) := by
  rcases (show k = 1 ∨ k = 2 ∨ k = 3 by omega) with rfl | rfl | rfl <;> simp [bw_b, upd]
theorem bw_b_get {q : Nat} {r : Nat → Int32} {k : Nat} (h1 : 1 ≤ k) (h : k < 4) : (bw_b q r)[k]? = some (.int (r k)) := by
  rcases (show k = 1 ∨ k = 2 ∨ k = 3 by omega) with rfl | rfl | rfl <;> rfl
end BW
