theorem gj_fuel {T : Type} {p : Program} {l : Launch} {e : Env} {R : Room} {s : State} {m : MethodId} {args : Array Value} {below : List Frame} {meth : Method} {c : Code} {cells slots : Nat} {Q : State → Prop} {D : va_G} {cl : List vw_C} {A : Nat → Prop} {H0 : Heap} {n pc : Nat} {st : List Value} (I : T → va_W) (Lk : T → List Value) (inv : Nat → T → Prop)
    (step : ∀ (f : Nat) (t : T), inv f t → (∀ (g : Nat) (t2 : T), f = g + 1 → inv g t2 → GJ p l e R s m args below meth c D cl A H0 n Q cells slots (I t2) pc (Lk t2) st) → GJ p l e R s m args below meth c D cl A H0 n Q cells slots (I t) pc (Lk t) st) :
    ∀ (f : Nat) (t : T), inv f t → GJ p l e R s m args below meth c D cl A H0 n Q cells slots (I t) pc (Lk t) st := by
  intro f
  induction f with
  | zero => exact fun t h => step 0 t h (fun g t2 e _ => absurd e (by omega))
  | succ f ih => exact fun t h => step (f + 1) t h (fun g t2 e h2 => by
      have : f = g := by omega
      subst this
      exact ih t2 h2)
theorem dlS_on {σ : St} {k : Nat} {b : Int32} {t : Nat} (h : (dlS σ k b t).2.2 = true) : dlS σ k b (t + 1) = (s2 (s2 (dlS σ k b t).1 (5 + 2 * k) t (wdA (dlS σ k b t).1 (dlS σ k b t).2.1)) (4 + 2 * k) 2 (s2 (dlS σ k b t).1 (5 + 2 * k) t (wdA (dlS σ k b t).1 (dlS σ k b t).2.1) (4 + 2 * k) 2 + 1), (dlS σ k b t).2.1 + (if wdA (dlS σ k b t).1 (dlS σ k b t).2.1 >>> ((12 : Int32) &&& 31) = 16 then bN (inM (dlS σ k b t).2.1) else lenO (wdA (dlS σ k b t).1 (dlS σ k b t).2.1 >>> ((12 : Int32) &&& 31))), !endO (wdA (dlS σ k b t).1 (dlS σ k b t).2.1 >>> ((12 : Int32) &&& 31))) := by
  show (if (dlS σ k b t).2.2 then _ else _) = _
  rw [if_pos h]
theorem dlS_off {σ : St} {k : Nat} {b : Int32} {t : Nat} (h : (dlS σ k b t).2.2 = false) : ∀ n : Nat, dlS σ k b (t + n) = dlS σ k b t := by
  intro n
  induction n with
  | zero => rfl
  | succ n ih =>
    show (if (dlS σ k b (t + n)).2.2 then _ else dlS σ k b (t + n)) = _
    rw [ih, if_neg (by rw [h]; decide)]
theorem deB_eq {σ : St} {k : Nat} {b : Int32} {q : St × Int32 × Bool} (h : dlS σ k b 12 = q) : deB σ k b = s2 (s2 (s2 q.1 (4 + 2 * k) 3 (q.2.1 - b)) 0 7 (s2 q.1 (4 + 2 * k) 3 (q.2.1 - b) 0 7 + 1)) 0 11 (s2 (s2 q.1 (4 + 2 * k) 3 (q.2.1 - b)) 0 7 (s2 q.1 (4 + 2 * k) 3 (q.2.1 - b) 0 7 + 1) 0 11 + s2 (s2 q.1 (4 + 2 * k) 3 (q.2.1 - b)) 0 7 (s2 q.1 (4 + 2 * k) 3 (q.2.1 - b) 0 7 + 1) (4 + 2 * k) 2) := by
  subst h; rfl
theorem stB_mem {σ : St} {kd : Int32} {i : Nat} (h : stB σ kd i = 0) (hk : kd = 4 ∨ kd = 5) : inM (σ 2 i) = true := by
  unfold stB at h
  rcases hk with rfl | rfl
  · rw [if_neg (by decide), if_neg (by decide), if_neg (by decide)] at h
    cases hz : inM (σ 2 i) with
    | true => rfl
    | false => rw [hz, if_pos ⟨Or.inl rfl, rfl⟩] at h; exact absurd h (by decide)
  · rw [if_neg (by decide), if_neg (by decide), if_neg (by decide)] at h
    cases hz : inM (σ 2 i) with
    | true => rfl
    | false => rw [hz, if_pos ⟨Or.inr rfl, rfl⟩] at h; exact absurd h (by decide)
