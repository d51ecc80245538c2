/-! what the public methods answer -/
def by4 (v : Int32) (n : Nat) : Int32 := (v.toUInt32 >>> ((24 - 8 * nI n).toUInt32 &&& Int32.toUInt32 31)).toInt32 &&& 255
def p4L (σ : St) (i : Nat) (v : Int32) : Nat → St
  | 0 => σ
  | n + 1 => wrB (p4L σ i v n) (i + n) (by4 v n)
def p4N (i : Nat) : Nat := min 4 (1024 - i)
def rgV (σ : St) (x : Int32) : Int32 := if x = 8 then σ 0 3 else if x = 9 then bN (isZ σ) else if x = 10 then bN (isL σ) else if x = 11 then σ 0 4 else σ 2 (lo3 x)
def rwV (σ : St) (k : Nat) (w : Int32) : Int32 := if w = 0 then (if keptB σ k then σ (4 + 2 * k) 1 else -1) else if w = 1 then σ (4 + 2 * k) 2 else σ (4 + 2 * k) 3
def cnV (σ : St) (x : Int32) : Int32 := if x = 0 then σ 0 6 else if x = 1 then σ 0 7 else if x = 2 then σ 0 8 else if x = 3 then σ 0 9 else if x = 4 then kNt σ 32 else if x = 5 then σ 0 10 else if x = 6 then σ 0 11 else -1
theorem in8 {x : Int32} (h1 : ¬ x < 0) (h2 : x < 8) : ∃ i : Nat, i < 8 ∧ x = nI i := by
  obtain ⟨i, h3, rfl⟩ := nI_of h1
  exact ⟨i, (nI_ltI h3 (by omega)).mp h2, rfl⟩
theorem in32 {x : Int32} (h1 : ¬ x < 0) (h2 : ¬ 32 ≤ x) : ∃ i : Nat, i < 32 ∧ x = nI i := by
  obtain ⟨i, h3, rfl⟩ := nI_of h1
  exact ⟨i, nI_lt_of (N := 32) h2 h3, rfl⟩
theorem in100 {x : Int32} (h1 : ¬ x < 1) (h2 : x ≤ 100) : ∃ i : Nat, 1 ≤ i ∧ i ≤ 100 ∧ x = nI i := by
  have h0 : ¬ x < 0 := fun h => h1 (Int32.lt_trans h (by decide))
  obtain ⟨i, h3, rfl⟩ := nI_of h0
  refine ⟨i, ?_, (nI_leI h3 (by omega)).mp h2, rfl⟩
  rcases Nat.lt_or_ge i 1 with z | z
  · exact absurd ((nI_ltI h3 (by omega)).mpr z) h1
  · exact z
theorem p4_min {i : Nat} (h : i < 1024) : (if (1024 : Int32) - nI i < 4 then (1024 : Int32) - nI i else 4) = nI (p4N i) := by
  have e : (1024 : Int32) - nI i = nI (1024 - i) := pk_sub (a := 1024) (b := i) (by omega)
  rw [e]
  unfold p4N
  rcases Nat.lt_or_ge (1024 - i) 4 with z | z
  · rw [if_pos (show nI (1024 - i) < 4 from (nI_ltI (b := 4) (by omega) (by omega)).mpr z), show min 4 (1024 - i) = 1024 - i by omega]
  · rw [if_neg (show ¬ nI (1024 - i) < 4 from fun h9 => absurd ((nI_ltI (b := 4) (by omega) (by omega)).mp h9) (by omega)), show min 4 (1024 - i) = 4 by omega]
    rfl
theorem dbL_le (k m : Nat) (hm : m < 2 ^ 31) : ∀ (f w : Nat) (σ : St), w ≤ m → (dbL (nI m) k f w σ).2 ≤ m := by
  intro f
  induction f with
  | zero => exact fun w σ h => h
  | succ f ih =>
    intro w σ h
    rw [dbL]
    split
    · next hc =>
      split
      · exact ih _ _ ((nI_ltI (by omega) hm).mp hc.2)
      · exact h
    · exact h
theorem dbO_le (σ : St) {m : Nat} (hm : m < 2 ^ 31) : (dbO σ (nI m)).2 ≤ m := dbL_le _ m hm 12 0 _ (by omega)
section MN
variable {p : Program} {l : Launch} {e : Env} {R : Room} {s : State} {m : MethodId} {args : Array Value} {below : List Frame} {meth : Method} {c : Code} {cells slots : Nat} {Q : State → Prop}
variable {D : va_G} {A : Nat → Prop} {H0 : Heap} {n : Nat} {w w0 : va_W} {pc pc2 : Nat} {L rest : List Value} {cc : ByteArray} {ret : Option FieldType} {y : MethodName} {c0 : Cond} {cI cB cZ cJ : ClassId}
theorem bj_min {x z : Int32} {idx : Nat} (F : GF p s m args meth c cc n ret y (c0 :: tbW) D vCl (TY cI cB cZ cJ) w0) (hd : decode cc pc = .ok (.invokestatic idx, 3)) (hl : Cond.methodLink y.cls idx Lib.Math.min.name ∈ tbW) (hst : Cond.static Lib.Math.min.name ∈ tbW) (hini : Cond.initialized "java/lang/Math" ∈ tbW) (hco : Cond.code Lib.Math.min.name Lib.Math.min.code 2 (some .int) ∈ tbW) (hRf : 1 ≤ R.frames) (hRl : (rest.map fun v => v.category).sum + 13 ≤ R.locals) (hc : cells ≤ R.cells) (hs : slots ≤ R.slots) (hp : pc + 3 = pc2)
    (k : GJ p l e R s m args below meth c D vCl A H0 n Q cells slots w pc2 L (.int (if z < x then z else x) :: rest)) : GJ p l e R s m args below meth c D vCl A H0 n Q cells slots w pc L (.int z :: .int x :: rest) := by
  subst hp
  intro ls H locs g1 g2 g3 g4
  exact va_mmin F.1 F.2.1 (F.2.2.1.trans g1.1.symm) F.2.2.2.1 (F.w hl) (F.w hst) (F.w hini) (F.w hco) hRf hRl hc hs hd (k ls H locs g1 g2 g3 g4)
end MN
