/-! what the reference's methods do, as functions of its rows of numbers -/
def inR (x a b : Int32) : Bool := !decide (x < a) && !decide (b < x)
def thN (o t : Int32) : Int32 := if o = 0 then (if t = 0 then 0 else 2) else 1
def mTo (τ : St) (k : Nat) : St := s2 (s2 τ 3 k 0) 0 16 (s2 τ 3 k 0 0 16 + 1)
def mHas (τ : St) (k : Nat) (x : Int32) : Bool := !decide (τ 3 k = 0) && (!decide (x < τ 4 k) && decide (x < τ 4 k + τ 6 k))
def mWs (i : Nat) (τ : St) (k : Nat) : St := if mHas τ k (nI i) then s2 (mTo τ k) 0 12 (bN (!decide (mTo τ k 0 12 = 0) || decide (nI k = mTo τ k 0 11))) else τ
def mWl (τ : St) (i : Nat) : Nat → St
  | 0 => τ
  | n + 1 => mWs i (mWl τ i n) n
def mWr (τ : St) (i : Nat) (v : Int32) : St := mWl (s2 τ 1 i v) i 32
def bm4 (v : Int32) (n : Nat) : Int32 := (v >>> ((24 - 8 * nI n) &&& 31)) &&& 255
def m4L (τ : St) (i : Nat) (v : Int32) : Nat → St
  | 0 => τ
  | n + 1 => mWr (m4L τ i v n) (i + n) (bm4 v n)
def szO (k : Int32) : Int32 := if k = 0 ∨ k = 10 ∨ ¬ k ≤ 11 then 1 else 2
def kdM (τ : St) (x : Int32) : Int32 := if inM x then τ 1 x.toNatClampNeg >>> ((4 : Int32) &&& 31) else -1
def ftM (τ : St) (x : Int32) : Int32 := if ¬ 0 ≤ kdM τ x then 3 else if ¬ kdM τ x ≤ 11 then 2 else if inM (x + szO (kdM τ x) - 1) then 0 else 3
/-- at, more, words so far -/
def mkT (τ : St) : Nat → Int32 × Bool × Nat
  | 0 => (τ 0 3, true, 0)
  | t + 1 => let q := mkT τ t
    if q.2.1 then (q.1 + (if 0 ≤ kdM τ q.1 then szO (kdM τ q.1) else 0), !decide (12 ≤ q.2.2 + 1) && (!decide (kdM τ q.1 = 0) && (!decide (kdM τ q.1 = 7) && decide (ftM τ q.1 = 0))), q.2.2 + 1) else q
def mkA (τ : St) (k n : Nat) (v : Int32) : St :=
  let τ1 := s2 τ 3 k 1
  let τ2 := s2 τ1 4 k (τ1 0 3)
  let τ3 := s2 τ2 5 k (nI n)
  s2 τ3 6 k (v - τ3 0 3)
def mkZ (τ : St) (n : Nat) : St :=
  let τ6 := s2 τ 0 14 (τ 0 14 + 1)
  s2 τ6 0 18 (τ6 0 18 + nI n)
def mkM (τ : St) (k : Nat) : St :=
  let q := mkT τ 12
  let A := mkA τ k q.2.2 (if q.1 ≤ 1024 then q.1 else 1024)
  mkZ (if inM (A 0 3) then A else s2 A 6 k 0) q.2.2
def fi1 (τ : St) : St := s2 τ 0 11 (τ 0 3 &&& 31)
def fiM (τ : St) : St := if ¬ fi1 τ 3 (kAt (τ 0 3)) = 0 ∧ fi1 τ 4 (kAt (τ 0 3)) = τ 0 3 then s2 (fi1 τ) 0 15 (fi1 τ 0 15 + 1) else mkM (fi1 τ) (kAt (τ 0 3))
def beM (τ : St) (r : Nat) (v : Int32) : St := s2 (s2 (s2 τ 2 r v) 0 5 (bN (decide (v = 0)))) 0 6 (bN (!decide (0 ≤ v)))
def hoM (τ : St) (c : Int32) : Int32 := if c = 0 then 1 else if c = 1 then τ 0 5 else if c = 2 then (if τ 0 5 = 0 then 1 else 0) else if c = 3 then τ 0 6 else if c = 4 then (if τ 0 6 = 0 then 1 else 0) else 0
def woM (τ : St) (kd : Int32) (r : Nat) (sv nr : Int32) : St :=
  if kd = 1 then s2 τ 2 r nr
  else if kd = 2 then beM τ r (τ 2 r + sv)
  else if kd = 3 then beM τ r (τ 2 r - sv)
  else if kd = 4 then s2 τ 2 r (τ 1 sv.toNatClampNeg)
  else if kd = 5 then mWr (s2 τ 0 17 (τ 0 17 + 1)) sv.toNatClampNeg (τ 2 r &&& 255)
  else if kd = 6 then beM τ r (τ 2 r &&& sv)
  else if kd = 8 then s2 τ 2 r sv
  else if kd = 9 then beM τ r (τ 2 r * sv)
  else if kd = 10 then beM τ r (τ 2 r >>> ((1 : Int32) &&& 31))
  else s2 (beM τ r (τ 2 r - sv)) 2 r (τ 2 r)
def dN (τ : St) : Int32 := if szO (kdM τ (τ 0 3)) = 2 then τ 1 (τ 0 3 + 1).toNatClampNeg else 0
def dSv (τ : St) : Int32 := τ 2 (lo3 (dN τ))
def dNr (τ : St) : Int32 := if dN τ ≤ 127 then dN τ else dN τ - 256
def dCo (τ : St) : Int32 := τ 1 (τ 0 3).toNatClampNeg &&& 15
def dKd (τ : St) : Int32 := kdM τ (τ 0 3)
def dPl (τ : St) : St := s2 τ 0 3 (τ 0 3 + szO (dKd τ))
/-- does(): the state behind it, whether it was a step -/
def doM (τ : St) : St × Bool :=
  if ¬ ftM τ (τ 0 3) ≤ 0 then (s2 τ 0 4 (1 + ftM τ (τ 0 3)), false)
  else if dKd τ = 0 then (s2 τ 0 4 1, false)
  else if (dKd τ = 4 ∨ dKd τ = 5) ∧ inM (dSv τ) = false then (s2 τ 0 4 (1 + 1), false)
  else if dKd τ = 7 then (s2 (dPl τ) 0 3 (dPl τ 0 3 + (if hoM (dPl τ) (dCo τ) = 0 then 0 else dNr τ)), true)
  else (woM (dPl τ) (dKd τ) (lo3 (τ 1 (τ 0 3).toNatClampNeg)) (dSv τ) (dNr τ), true)
/-- the inner loop: words left, steps done -/
def inL (n : Nat) : Nat → Nat → St → St × Nat
  | 0, d, τ => (τ, d)
  | f + 1, d, τ => if τ 0 4 = 0 ∧ d < n ∧ τ 0 12 = 0 then inL n f (d + (if (doM τ).2 then 1 else 0)) (doM τ).1 else (τ, d)
def ouS (τ : St) : St := s2 (fiM τ) 0 12 0
def rgM (τ : St) (x : Int32) : Int32 := if x < 8 then τ 2 (lo3 x) else if x = 8 then τ 0 3 else if x = 9 then (if τ 0 5 = 0 then 0 else 1) else if x = 10 then (if τ 0 6 = 0 then 0 else 1) else τ 0 4
def rwM (τ : St) (k : Nat) (z : Int32) : Int32 := if τ 3 k = 0 then (if z = 0 then -1 else 0) else if z = 0 then τ 4 k else if z = 1 then τ 5 k else τ 6 k
def mNt (τ : St) : Nat → Int32
  | 0 => 0
  | n + 1 => mNt τ n + (if τ 3 n = 0 then 0 else 1)
def mfS (τ : St) : Nat → St
  | 0 => τ
  | n + 1 => if mfS τ n 3 n = 0 then mfS τ n else mTo (mfS τ n) n
def mfN (τ : St) : Nat → Int32
  | 0 => 0
  | n + 1 => if mfS τ n 3 n = 0 then mfN τ n else mfN τ n + 1
def cnM (τ : St) (x : Int32) : Int32 := if x = 0 then τ 0 13 else if x = 1 then τ 0 14 else if x = 2 then τ 0 15 else if x = 3 then τ 0 16 else if x = 4 then mNt τ 32 else if x = 5 then τ 0 17 else if x = 6 then τ 0 18 else -1
theorem inR_inM (x : Int32) : inR x 0 1023 = inM x := by
  have h : (1023 : Int32) < x ↔ (1024 : Int32) ≤ x := by
    rw [Int32.lt_iff_toInt_lt, Int32.le_iff_toInt_le]
    have e1 : (1023 : Int32).toInt = 1023 := by decide
    have e2 : (1024 : Int32).toInt = 1024 := by decide
    omega
  simp only [inR, inM, h]
theorem mkT_on {τ : St} {t : Nat} (h : (mkT τ t).2.1 = true) : mkT τ (t + 1) = ((mkT τ t).1 + (if 0 ≤ kdM τ (mkT τ t).1 then szO (kdM τ (mkT τ t).1) else 0), !decide (12 ≤ (mkT τ t).2.2 + 1) && (!decide (kdM τ (mkT τ t).1 = 0) && (!decide (kdM τ (mkT τ t).1 = 7) && decide (ftM τ (mkT τ t).1 = 0))), (mkT τ t).2.2 + 1) := by
  show (if (mkT τ t).2.1 then _ else _) = _
  rw [if_pos h]
theorem mkT_off {τ : St} {t : Nat} (h : (mkT τ t).2.1 = false) : ∀ n : Nat, mkT τ (t + n) = mkT τ t := by
  intro n
  induction n with
  | zero => rfl
  | succ n ih =>
    show (if (mkT τ (t + n)).2.1 then _ else mkT τ (t + n)) = _
    rw [ih, if_neg (by rw [h]; decide)]
theorem szO_c (k : Int32) : szO k = 1 ∨ szO k = 2 := by unfold szO; split <;> simp
