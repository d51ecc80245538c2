/-! what the class's methods do, as functions of its rows of numbers -/
def bN (b : Bool) : Int32 := if b then 1 else 0
def inM (x : Int32) : Bool := !decide (x < 0) && !decide (1024 ≤ x)
def lenO (k : Int32) : Int32 := if k = 0 ∨ k = 10 ∨ 12 ≤ k then 1 else 2
def endO (k : Int32) : Bool := decide (k = 0 ∨ k = 7 ∨ 12 ≤ k)
def bzt (x : Int32) : Int32 := if 128 ≤ x then x - 256 else x
def wrk (k a b : Int32) : Int32 := if k = 2 then a + b else if k = 3 then a - b else if k = 6 then a &&& b else if k = 9 then a * b else a >>> ((1 : Int32) &&& 31)
def keptB (σ : St) (k : Nat) : Bool := !decide (σ (4 + 2 * k) 2 ≤ 0)
def begB (σ : St) (k : Nat) (x : Int32) : Bool := keptB σ k && decide (σ (4 + 2 * k) 1 = x)
def hasB (σ : St) (k : Nat) (x : Int32) : Bool := keptB σ k && (!decide (x < σ (4 + 2 * k) 1) && !decide (σ (4 + 2 * k) 1 + σ (4 + 2 * k) 3 ≤ x))
def empB (σ : St) (k : Nat) (b : Int32) : St := s2 (s2 (s2 σ (4 + 2 * k) 1 b) (4 + 2 * k) 2 0) (4 + 2 * k) 3 0
def tOut (σ : St) (k : Nat) : St := s2 (empB σ k 0) 0 9 (empB σ k 0 0 9 + 1)
def wrS (i : Nat) (τ : St) (k : Nat) : St := if hasB τ k (nI i) then tOut τ k else τ
def wrL (σ : St) (i : Nat) : Nat → St
  | 0 => σ
  | n + 1 => wrS i (wrL σ i n) n
def wrB (σ : St) (i : Nat) (v : Int32) : St := wrL (s2 σ 1 i v) i 32
def kNt (σ : St) : Nat → Int32
  | 0 => 0
  | n + 1 => if keptB σ n then kNt σ n + 1 else kNt σ n
def fgS (σ : St) : Nat → St
  | 0 => σ
  | n + 1 => if keptB (fgS σ n) n then tOut (fgS σ n) n else fgS σ n
def fgN (σ : St) : Nat → Int32
  | 0 => 0
  | n + 1 => if keptB (fgS σ n) n then fgN σ n + 1 else fgN σ n
def wdA (σ : St) (x : Int32) : Int32 := if inM x then (if lenO ((σ 1 x.toNatClampNeg <<< ((8 : Int32) &&& 31)) >>> ((12 : Int32) &&& 31)) = 1 then σ 1 x.toNatClampNeg <<< ((8 : Int32) &&& 31) else if inM (x + 1) then (σ 1 x.toNatClampNeg <<< ((8 : Int32) &&& 31)) ||| σ 1 (x + 1).toNatClampNeg else 65536) else 65536
def dlS (σ : St) (k : Nat) (b : Int32) : Nat → St × Int32 × Bool
  | 0 => (empB σ k b, b, true)
  | n + 1 => let q := dlS σ k b n
    if q.2.2 then
      let wd := wdA q.1 q.2.1
      let kd := wd >>> ((12 : Int32) &&& 31)
      let τ := s2 q.1 (5 + 2 * k) n wd
      (s2 τ (4 + 2 * k) 2 (τ (4 + 2 * k) 2 + 1), q.2.1 + (if kd = 16 then bN (inM q.2.1) else lenO kd), !endO kd)
    else q
def deB (σ : St) (k : Nat) (b : Int32) : St :=
  let q := dlS σ k b 12
  let τ := s2 q.1 (4 + 2 * k) 3 (q.2.1 - b)
  let υ := s2 τ 0 7 (τ 0 7 + 1)
  s2 υ 0 11 (υ 0 11 + υ (4 + 2 * k) 2)
def kAt (x : Int32) : Nat := (x &&& 31).toNatClampNeg
def blA (σ : St) (x : Int32) : St := if begB σ (kAt x) x then s2 σ 0 8 (σ 0 8 + 1) else deB σ (kAt x) x
def stB (σ : St) (kd : Int32) (i : Nat) : Int32 := if kd = 0 then 1 else if kd = 16 then 4 else if 12 ≤ kd then 3 else if (kd = 4 ∨ kd = 5) ∧ inM (σ 2 i) = false then 2 else 0
def isZ (σ : St) : Bool := decide (σ 0 5 = 0)
def isL (σ : St) : Bool := !decide (0 ≤ σ 0 5)
def hlD (σ : St) (c : Int32) : Bool := if c = 0 then true else if c = 1 then isZ σ else if c = 2 then !isZ σ else if c = 3 then isL σ else if c = 4 then !isL σ else false
def lo3 (x : Int32) : Nat := (x &&& 7).toNatClampNeg
def pfM (σ : St) (kd lo se : Int32) : St :=
  if kd = 1 then s2 σ 2 (lo3 lo) (bzt se)
  else if kd = 4 then s2 σ 2 (lo3 lo) (σ 1 (σ 2 (lo3 se)).toNatClampNeg)
  else if kd = 5 then s2 (wrB σ (σ 2 (lo3 se)).toNatClampNeg (σ 2 (lo3 lo) &&& 255)) 0 10 (wrB σ (σ 2 (lo3 se)).toNatClampNeg (σ 2 (lo3 lo) &&& 255) 0 10 + 1)
  else if kd = 7 then (if hlD σ lo then s2 σ 0 3 (σ 0 3 + bzt se) else σ)
  else if kd = 8 then s2 σ 2 (lo3 lo) (σ 2 (lo3 se))
  else if kd = 11 then s2 σ 0 5 (σ 2 (lo3 lo) - σ 2 (lo3 se))
  else s2 (s2 σ 0 5 (wrk kd (σ 2 (lo3 lo)) (σ 2 (lo3 se)))) 2 (lo3 lo) (wrk kd (σ 2 (lo3 lo)) (σ 2 (lo3 se)))
def wKd (wd : Int32) : Int32 := wd >>> ((12 : Int32) &&& 31)
def wLo (wd : Int32) : Int32 := (wd >>> ((8 : Int32) &&& 31)) &&& 15
def wSe (wd : Int32) : Int32 := wd &&& 255
def dwS (σ : St) (wd : Int32) : St := s2 σ 0 4 (stB σ (wKd wd) (lo3 (wSe wd)))
def dwP (σ : St) (wd : Int32) : St := s2 (dwS σ wd) 0 3 (dwS σ wd 0 3 + lenO (wKd wd))
def dwQ (σ : St) (wd : Int32) : St := pfM (dwP σ wd) (wKd wd) (wLo wd) (wSe wd)
def dwB (σ : St) (wd : Int32) : Bool := decide (stB σ (wKd wd) (lo3 (wSe wd)) = 0)
def dwO (σ : St) (wd : Int32) : St := if dwB σ wd then s2 (dwQ σ wd) 0 6 (dwQ σ wd 0 6 + 1) else dwS σ wd
def dbL (most : Int32) (k : Nat) : Nat → Nat → St → St × Nat
  | 0, w, σ => (σ, w)
  | f + 1, w, σ => if nI w < σ (4 + 2 * k) 2 ∧ nI w < most then (if dwB σ (σ (5 + 2 * k) w) then dbL most k f (w + 1) (dwO σ (σ (5 + 2 * k) w)) else (dwO σ (σ (5 + 2 * k) w), w)) else (σ, w)
def dbO (σ : St) (most : Int32) : St × Nat := dbL most (kAt (σ 0 3)) 12 0 (blA σ (σ 0 3))
/-- fuel, steps done so far -/
def ruL (n : Nat) : Nat → Nat → St → St × Nat
  | 0, d, σ => (σ, d)
  | f + 1, d, σ => if d < n ∧ σ 0 4 = 0 then ruL n f (d + (dbO σ (nI (n - d))).2) (dbO σ (nI (n - d))).1 else (σ, d)
theorem bw_blk {a : Nat → Nat} {cI cB : ClassId} {j k : Nat} {σ : St} (hk : k < j) : (bw a cI cB j σ)[4 + 2 * k]? = some (a (4 + 2 * k), .inr (kB, bw_b (a (5 + 2 * k)) (σ (4 + 2 * k)))) := by rw [bw_at (by omega), bw_e_blk]
theorem bN_z (b : Bool) : narrow .boolean (.int (bN b)) = .int (bN b) := by cases b <;> rfl
theorem bN_0 {b : Bool} : bN b = 0 ↔ b = false := by cases b <;> decide
theorem bN_n0 {b : Bool} : ¬ bN b = 0 ↔ b = true := by cases b <;> decide
theorem inM_of {x : Int32} (h : inM x = true) : ∃ i : Nat, i < 1024 ∧ x = nI i := by
  simp only [inM, Bool.and_eq_true, Bool.not_eq_true', decide_eq_false_iff_not] at h
  obtain ⟨i, h1, h2⟩ := nI_of h.1
  subst h2
  refine ⟨i, ?_, rfl⟩
  rcases Nat.lt_or_ge i 1024 with h3 | h3
  · exact h3
  · exact absurd (show (1024 : Int32) ≤ nI i from nI_le (a := 1024) h3 h1) h.2
theorem inM_nI {i : Nat} (h : i < 1024) : inM (nI i) = true := by
  simp only [inM, Bool.and_eq_true, Bool.not_eq_true', decide_eq_false_iff_not]
  exact ⟨nI_pos (by omega), nI_ge (b := 1024) h (by omega)⟩
theorem lo3_lt (x : Int32) : lo3 x < 8 := by
  obtain ⟨j, h1, h2⟩ := pk_andE x (m := 7) 3 (by decide)
  unfold lo3
  rw [h2, nI_clamp (by omega)]
  exact h1
theorem lo3_eq (x : Int32) : x &&& 7 = nI (lo3 x) := by
  obtain ⟨j, h1, h2⟩ := pk_andE x (m := 7) 3 (by decide)
  unfold lo3
  rw [h2, nI_clamp (by omega)]
theorem kAt_lt (x : Int32) : kAt x < 32 := by
  obtain ⟨j, h1, h2⟩ := pk_andE x (m := 31) 5 (by decide)
  unfold kAt
  rw [h2, nI_clamp (by omega)]
  exact h1
theorem kAt_eq (x : Int32) : x &&& 31 = nI (kAt x) := by
  obtain ⟨j, h1, h2⟩ := pk_andE x (m := 31) 5 (by decide)
  unfold kAt
  rw [h2, nI_clamp (by omega)]
