/-! a loop that counts up -/
theorem gj_loop {p : Program} {l : Launch} {e : Env} {R : Room} {s : State} {m : MethodId} {args : Array Value} {below : List Frame} {meth : Method} {c : Code} {cells slots : Nat} {Q : State → Prop} {D : va_G} {cl : List vw_C} {A : Nat → Prop} {H0 : Heap} {n pc : Nat} {st : List Value} (N : Nat) (I : Nat → va_W) (Lk : Nat → List Value)
    (step : ∀ k : Nat, k ≤ N → (k < N → GJ p l e R s m args below meth c D cl A H0 n Q cells slots (I (k + 1)) pc (Lk (k + 1)) st) → GJ p l e R s m args below meth c D cl A H0 n Q cells slots (I k) pc (Lk k) st) :
    GJ p l e R s m args below meth c D cl A H0 n Q cells slots (I 0) pc (Lk 0) st := by
  have h : ∀ f k : Nat, k + f = N → GJ p l e R s m args below meth c D cl A H0 n Q cells slots (I k) pc (Lk k) st := by
    intro f
    induction f with
    | zero => exact fun k hk => step k (by omega) (fun h => absurd h (by omega))
    | succ f ih => exact fun k hk => step k (by omega) (fun _ => ih (k + 1) (by omega))
  exact h N 0 (by omega)
theorem nI_lt_of {k N : Nat} (h : ¬ nI N ≤ nI k) (hk : k < 2 ^ 31) : k < N := by
  rcases Nat.lt_or_ge k N with z | z
  · exact z
  · exact absurd (nI_le z hk) h
theorem nI_ge_of {k N : Nat} (h : nI N ≤ nI k) (hk : k < 2 ^ 31) (hN : N < 2 ^ 31) : N ≤ k := (nI_leI hN hk).mp h
theorem gj_aret {p : Program} {l : Launch} {e : Env} {R : Room} {s : State} {m : MethodId} {args : Array Value} {below : List Frame} {meth : Method} {c : Code} {cells slots mc ms : Nat} {D : va_G} {cl : List vw_C} {tys : List (ClassId × FieldType)} {n pc : Nat} {w w0 : va_W} {L : List Value} {cc : ByteArray} {y : MethodName} {Ts : List Cond} {rt : String}
    {post : Nat → va_W → Prop} {v : Nat} (F : GF p s m args meth c cc n (some (.object rt)) y Ts D cl tys w0) (hd : decode cc pc = .ok (.areturn, 1)) (hc : cells ≤ mc) (hs : slots ≤ ms) (hp : post v w) :
    GJ p l e R s m args below meth c D cl (va_A w0 s.heap.size) s.heap n (MQ below (gc_Qr D cl tys w0 post s.heap.size) args s mc ms (va_A w0 s.heap.size)) cells slots w pc L [.ref v] := by
  intro ls H locs h1 h2 h3 h4
  obtain ⟨hx, hb, hml, hown, hts, hr, hlk, hK, hnm, hE⟩ := F
  refine W.widen hc hs ?_
  exact W.aret (v := .ref v) hx hb hr (Or.inl ⟨rt, rfl⟩) (Or.inr ⟨v, rfl⟩) (fun t ht hW => ⟨⟨(v, w), v, rfl, hp, rfl, by rw [ht]; exact h2, va_K.moved hW.alike hK, h3⟩, h4.F ht⟩) h4.2.2 hd hlk
