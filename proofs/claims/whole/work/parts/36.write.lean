/-! writes and throwings out, side by side -/
theorem HD.out {d e : Int32} {f g : Nat → Int32} (h : HD d e f g) : HD d e (upd f 9 (f 9 + 1)) (upd g 16 (g 16 + 1)) := ⟨h.p, h.s, h.z, h.l, h.c6, h.c7, h.c8, by rw [pk_us, pk_us, h.c9], h.c10, h.c11⟩
theorem HD.un {d e : Int32} {f g : Nat → Int32} (h : HD d e f g) (v : Int32) : HD d e f (upd g 12 v) := ⟨h.p, h.s, h.z, h.l, h.c6, h.c7, h.c8, h.c9, h.c10, h.c11⟩
theorem tOut_0 (σ : St) (k : Nat) : tOut σ k 0 = upd (σ 0) 9 (σ 0 9 + 1) := by
  have h : empB σ k 0 0 = σ 0 := by unfold empB; rw [s2_row _ _ _ (by omega), s2_row _ _ _ (by omega), s2_row _ _ _ (by omega)]
  unfold tOut
  rw [s2_self, h]
theorem tOut_k (σ : St) (k : Nat) : tOut σ k (4 + 2 * k) 2 = 0 ∧ tOut σ k (4 + 2 * k) 3 = 0 := by
  unfold tOut empB
  exact ⟨by rw [s2_o _ _ _ _ (by omega), s2_ne _ _ _ (by decide), s2_at], by rw [s2_o _ _ _ _ (by omega), s2_at]⟩
theorem tOut_ne (σ : St) (k : Nat) {i : Nat} (h0 : i ≠ 0) (hk : i ≠ 4 + 2 * k) : tOut σ k i = σ i := by
  unfold tOut empB
  rw [s2_row _ _ _ h0, s2_row _ _ _ hk, s2_row _ _ _ hk, s2_row _ _ _ hk]
theorem mTo_0 (τ : St) (k : Nat) : mTo τ k 0 = upd (τ 0) 16 (τ 0 16 + 1) := by
  have h : s2 τ 3 k 0 0 = τ 0 := s2_row _ _ _ (by decide)
  unfold mTo
  rw [s2_self, h]
theorem mTo_3 (τ : St) (k : Nat) : mTo τ k 3 = upd (τ 3) k 0 := by
  unfold mTo
  rw [s2_row _ _ _ (by decide), s2_self]
theorem mTo_ne (τ : St) (k : Nat) {i : Nat} (h0 : i ≠ 0) (h3 : i ≠ 3) : mTo τ k i = τ i := by
  unfold mTo
  rw [s2_row _ _ _ h0, s2_row _ _ _ h3]
theorem has_row {mem : Nat → Int32} {σ τ : St} {k : Nat} (h : BR mem (σ (4 + 2 * k)) (σ (5 + 2 * k)) (τ 3 k) (τ 4 k) (τ 5 k) (τ 6 k)) (x : Int32) : hasB σ k x = mHas τ k x ∧ keptB σ k = !decide (τ 3 k = 0) := by
  unfold hasB mHas keptB
  rcases h with ⟨h1, h2, h3, h4, h5⟩ | ⟨h1, h2, h3⟩
  · have e : (!decide (σ (4 + 2 * k) 1 + σ (4 + 2 * k) 3 ≤ x)) = decide (x < σ (4 + 2 * k) 1 + σ (4 + 2 * k) 3) := by
      by_cases hx : x < σ (4 + 2 * k) 1 + σ (4 + 2 * k) 3
      · rw [decide_eq_true hx, decide_eq_false (Int32.not_le.mpr hx)]; rfl
      · rw [decide_eq_false hx, decide_eq_true (Int32.not_lt.mp hx)]; rfl
    rw [h1, h2, h4, decide_eq_false h5.kept, e]
    exact ⟨rfl, rfl⟩
  · rw [h1, h2]
    exact ⟨rfl, rfl⟩
theorem has_f {mem : Nat → Int32} {σ τ : St} {k : Nat} {i : Nat} (hi : i < 1024) (v : Int32) (h : BR mem (σ (4 + 2 * k)) (σ (5 + 2 * k)) (τ 3 k) (τ 4 k) (τ 5 k) (τ 6 k)) (hn : hasB σ k (nI i) = false) : BR (upd mem i v) (σ (4 + 2 * k)) (σ (5 + 2 * k)) (τ 3 k) (τ 4 k) (τ 5 k) (τ 6 k) := by
  rcases h with ⟨h1, h2, h3, h4, h5⟩ | h
  · refine Or.inl ⟨h1, h2, h3, h4, h5.keep hi v ?_⟩
    unfold hasB keptB at hn
    rw [decide_eq_false h5.kept] at hn
    by_cases ha : nI i < σ (4 + 2 * k) 1
    · exact Or.inl ha
    · by_cases hb : σ (4 + 2 * k) 1 + σ (4 + 2 * k) 3 ≤ nI i
      · exact Or.inr hb
      · rw [decide_eq_false ha, decide_eq_false hb] at hn
        cases hn
  · exact Or.inr h
theorem wr_sim {d e : Int32} {σ τ : St} {mem : Nat → Int32} {i : Nat} {v : Int32} (hi : i < 1024) (hm : σ 1 = upd mem i v) (hh : HD d e (σ 0) (τ 0)) (hb : ∀ k : Nat, k < 32 → BR mem (σ (4 + 2 * k)) (σ (5 + 2 * k)) (τ 3 k) (τ 4 k) (τ 5 k) (τ 6 k)) :
    ∀ n : Nat, n ≤ 32 → HD d e (wrL σ i n 0) (mWl τ i n 0) ∧ wrL σ i n 1 = σ 1 ∧ wrL σ i n 2 = σ 2 ∧ mWl τ i n 1 = τ 1 ∧ mWl τ i n 2 = τ 2 ∧ ∀ k : Nat, k < 32 → BR (if k < n then σ 1 else mem) (wrL σ i n (4 + 2 * k)) (wrL σ i n (5 + 2 * k)) (mWl τ i n 3 k) (mWl τ i n 4 k) (mWl τ i n 5 k) (mWl τ i n 6 k) := by
  intro n
  induction n with
  | zero => exact fun _ => ⟨hh, rfl, rfl, rfl, rfl, fun k hk => by rw [if_neg (by omega)]; exact hb k hk⟩
  | succ n ih =>
    intro hn
    obtain ⟨i0, i1, i2, j1, j2, ib⟩ := ih (by omega)
    show HD d e (wrS i (wrL σ i n) n 0) (mWs i (mWl τ i n) n 0) ∧ wrS i (wrL σ i n) n 1 = σ 1 ∧ wrS i (wrL σ i n) n 2 = σ 2 ∧ mWs i (mWl τ i n) n 1 = τ 1 ∧ mWs i (mWl τ i n) n 2 = τ 2 ∧ ∀ k : Nat, k < 32 → BR (if k < n + 1 then σ 1 else mem) (wrS i (wrL σ i n) n (4 + 2 * k)) (wrS i (wrL σ i n) n (5 + 2 * k)) (mWs i (mWl τ i n) n 3 k) (mWs i (mWl τ i n) n 4 k) (mWs i (mWl τ i n) n 5 k) (mWs i (mWl τ i n) n 6 k)
    have hr := ib n (by omega)
    rw [if_neg (show ¬ n < n by omega)] at hr
    generalize wrL σ i n = S at i0 i1 i2 ib hr
    generalize mWl τ i n = T at i0 j1 j2 ib hr
    unfold wrS mWs
    rw [(has_row hr (nI i)).1]
    cases hz : mHas T n (nI i) with
    | true =>
      rw [if_pos rfl, if_pos rfl]
      refine ⟨?_, ?_, ?_, ?_, ?_, fun k hk => ?_⟩
      · rw [tOut_0, s2_self, mTo_0]
        exact i0.out.un _
      · rw [tOut_ne _ _ (by omega) (by omega)]; exact i1
      · rw [tOut_ne _ _ (by omega) (by omega)]; exact i2
      · rw [s2_row _ _ _ (by decide), mTo_ne _ _ (by decide) (by decide)]; exact j1
      · rw [s2_row _ _ _ (by decide), mTo_ne _ _ (by decide) (by decide)]; exact j2
      · rw [s2_row _ _ _ (by decide), s2_row _ _ _ (by decide), s2_row _ _ _ (by decide), s2_row _ _ _ (by decide), mTo_3, mTo_ne _ _ (by decide) (by decide), mTo_ne _ _ (by decide) (by decide), mTo_ne _ _ (by decide) (by decide), tOut_ne S n (i := 5 + 2 * k) (by omega) (by omega)]
        by_cases ek : k = n
        · subst ek
          exact Or.inr ⟨pk_us, (tOut_k S k).1, (tOut_k S k).2⟩
        · rw [pk_un ek, tOut_ne S n (by omega) (by omega)]
          have := ib k hk
          rcases Nat.lt_or_ge k n with z | z
          · rw [if_pos (show k < n + 1 by omega)]; rw [if_pos z] at this; exact this
          · rw [if_neg (show ¬ k < n + 1 by omega)]; rw [if_neg (show ¬ k < n by omega)] at this; exact this
    | false =>
      rw [if_neg (by decide), if_neg (by decide)]
      refine ⟨i0, i1, i2, j1, j2, fun k hk => ?_⟩
      by_cases ek : k = n
      · subst ek
        rw [if_pos (show k < k + 1 by omega), hm]
        exact has_f hi v hr ((has_row hr (nI i)).1.trans hz)
      · have := ib k hk
        rcases Nat.lt_or_ge k n with z | z
        · rw [if_pos (show k < n + 1 by omega)]; rw [if_pos z] at this; exact this
        · rw [if_neg (show ¬ k < n + 1 by omega)]; rw [if_neg (show ¬ k < n by omega)] at this; exact this
theorem RB.upd {mem : Nat → Int32} (h : RB mem) (i : Nat) {v : Int32} (hv : ∃ y : Nat, y < 256 ∧ v = nI y) : RB (upd mem i v) := by
  intro j hj
  by_cases e : j = i
  · subst e
    rw [pk_us]; exact hv
  · rw [pk_un e]; exact h j hj
theorem Rel.write {d e : Int32} {σ τ : St} (R : Rel d e σ τ) {i : Nat} (hi : i < 1024) {v : Int32} (hv : ∃ y : Nat, y < 256 ∧ v = nI y) : Rel d e (wrB σ i v) (mWr τ i v) := by
  have h := wr_sim (σ := s2 σ 1 i v) (τ := s2 τ 1 i v) (mem := σ 1) hi (s2_self _ _ _ _) (by rw [s2_row _ _ _ (by decide), s2_row _ _ _ (by decide)]; exact R.h) (fun k hk => by
    rw [s2_row _ _ _ (by omega), s2_row _ _ _ (by omega), s2_row _ _ _ (by decide), s2_row _ _ _ (by decide), s2_row _ _ _ (by decide), s2_row _ _ _ (by decide)]
    exact R.b k hk) 32 (Nat.le_refl 32)
  obtain ⟨h0, h1, h2, g1, g2, hb⟩ := h
  have e1 : wrB σ i v 1 = upd (σ 1) i v := h1.trans (s2_self _ _ _ _)
  refine ⟨h0, ?_, ?_, ?_, fun k hk => ?_⟩
  · rw [e1, R.m]; exact (g1.trans (s2_self _ _ _ _)).symm
  · have a : wrB σ i v 2 = σ 2 := h2.trans (s2_row _ _ _ (by decide))
    have b : mWr τ i v 2 = τ 2 := g2.trans (s2_row _ _ _ (by decide))
    rw [a, b]; exact R.r
  · rw [e1]; exact R.y.upd i hv
  · have := hb k hk
    rw [if_pos hk, s2_self] at this
    rw [e1]
    exact this
theorem Rel.to {d e : Int32} {σ τ : St} (R : Rel d e σ τ) (k : Nat) : Rel d e (tOut σ k) (mTo τ k) := by
  refine ⟨by rw [tOut_0, mTo_0]; exact R.h.out, ?_, ?_, ?_, fun j hj => ?_⟩
  · rw [tOut_ne _ _ (by omega) (by omega), mTo_ne _ _ (by decide) (by decide)]; exact R.m
  · rw [tOut_ne _ _ (by omega) (by omega), mTo_ne _ _ (by decide) (by decide)]; exact R.r
  · rw [tOut_ne _ _ (by omega) (by omega)]; exact R.y
  · rw [mTo_3, mTo_ne _ _ (by decide) (by decide), mTo_ne _ _ (by decide) (by decide), mTo_ne _ _ (by decide) (by decide), tOut_ne σ k (i := 5 + 2 * j) (by omega) (by omega), tOut_ne σ k (i := 1) (by omega) (by omega)]
    by_cases ek : j = k
    · subst ek
      exact Or.inr ⟨pk_us, (tOut_k σ j).1, (tOut_k σ j).2⟩
    · rw [pk_un ek, tOut_ne σ k (by omega) (by omega)]
      exact R.b j hj
theorem fg_sim {d e : Int32} {σ τ : St} (R : Rel d e σ τ) : ∀ n : Nat, n ≤ 32 → Rel d e (fgS σ n) (mfS τ n) ∧ fgN σ n = mfN τ n := by
  intro n
  induction n with
  | zero => exact fun _ => ⟨R, rfl⟩
  | succ n ih =>
    intro hn
    obtain ⟨i1, i2⟩ := ih (by omega)
    have hk := (has_row (i1.b n (by omega)) 0).2
    show Rel d e (if keptB (fgS σ n) n then tOut (fgS σ n) n else fgS σ n) (if mfS τ n 3 n = 0 then mfS τ n else mTo (mfS τ n) n) ∧ (if keptB (fgS σ n) n then fgN σ n + 1 else fgN σ n) = (if mfS τ n 3 n = 0 then mfN τ n else mfN τ n + 1)
    rw [hk, i2]
    by_cases hz : mfS τ n 3 n = 0
    · rw [decide_eq_true hz, if_pos hz, if_pos hz, if_neg (by decide), if_neg (by decide)]
      exact ⟨i1, rfl⟩
    · rw [decide_eq_false hz, if_neg hz, if_neg hz, if_pos (by decide), if_pos (by decide)]
      exact ⟨i1.to n, rfl⟩
theorem nt_sim {d e : Int32} {σ τ : St} (R : Rel d e σ τ) : ∀ n : Nat, n ≤ 32 → kNt σ n = mNt τ n := by
  intro n
  induction n with
  | zero => exact fun _ => rfl
  | succ n ih =>
    intro hn
    have hk := (has_row (R.b n (by omega)) 0).2
    show (if keptB σ n then kNt σ n + 1 else kNt σ n) = mNt τ n + (if τ 3 n = 0 then 0 else 1)
    rw [hk, ih (by omega)]
    by_cases hz : τ 3 n = 0
    · rw [decide_eq_true hz, if_pos hz, if_neg (by decide), Int32.add_zero]
    · rw [decide_eq_false hz, if_neg hz, if_pos (by decide)]
/-- the row that is being run: thrown out exactly where the reference says 'is written' -/
def CU (τ : St) (k : Nat) : Prop := τ 0 11 = nI k ∧ ((τ 0 12 = 0 ∧ ¬ τ 3 k = 0) ∨ (¬ τ 0 12 = 0 ∧ τ 3 k = 0))
theorem CU.c {τ υ : St} {k : Nat} (h : CU τ k) (h11 : υ 0 11 = τ 0 11) (h12 : υ 0 12 = τ 0 12) (h3 : υ 3 = τ 3) : CU υ k := by
  unfold CU
  rw [h11, h12, h3]
  exact h
theorem CU.wl {τ : St} {k : Nat} (hk : k < 32) (h : CU τ k) (i : Nat) : ∀ n : Nat, n ≤ 32 → CU (mWl τ i n) k := by
  intro n
  induction n with
  | zero => exact fun _ => h
  | succ n ih =>
    intro hn
    have i1 := ih (by omega)
    show CU (mWs i (mWl τ i n) n) k
    generalize mWl τ i n = T at i1
    unfold mWs
    split
    · obtain ⟨h11, hc⟩ := i1
      have e11 : mTo T n 0 11 = T 0 11 := by rw [mTo_0]; exact pk_un (by decide)
      have e12 : mTo T n 0 12 = T 0 12 := by rw [mTo_0]; exact pk_un (by decide)
      refine ⟨?_, ?_⟩
      · rw [s2_ne _ _ _ (by decide), e11]; exact h11
      · rw [s2_at, s2_row _ _ _ (by decide), mTo_3, e11, e12, h11]
        by_cases ek : k = n
        · subst ek
          rw [pk_us, decide_eq_true (show nI k = nI k from rfl), Bool.or_true]
          exact Or.inr ⟨by decide, rfl⟩
        · rw [pk_un ek, decide_eq_false (fun q => ek ((nI_eq (by omega) (by omega)).mp q).symm), Bool.or_false]
          rcases hc with ⟨a, b⟩ | ⟨a, b⟩
          · rw [decide_eq_true a]
            exact Or.inl ⟨rfl, b⟩
          · rw [decide_eq_false a]
            exact Or.inr ⟨by decide, b⟩
    · exact i1
theorem CU.wr {τ : St} {k : Nat} (hk : k < 32) (h : CU τ k) (i : Nat) (v : Int32) : CU (mWr τ i v) k := CU.wl hk (h.c (s2_o _ _ _ _ (by decide)) (s2_o _ _ _ _ (by decide)) (s2_row _ _ _ (by decide))) i 32 (Nat.le_refl 32)
theorem CU.s {τ : St} {k : Nat} (h : CU τ k) {i j : Nat} (v : Int32) (hi : i = 1 ∨ i = 2 ∨ (i = 0 ∧ j ≠ 11 ∧ j ≠ 12)) : CU (s2 τ i j v) k := by
  rcases hi with rfl | rfl | ⟨rfl, a, b⟩
  · exact h.c (s2_o _ _ _ _ (by decide)) (s2_o _ _ _ _ (by decide)) (s2_row _ _ _ (by decide))
  · exact h.c (s2_o _ _ _ _ (by decide)) (s2_o _ _ _ _ (by decide)) (s2_row _ _ _ (by decide))
  · exact h.c (s2_ne _ _ _ (Ne.symm a)) (s2_ne _ _ _ (Ne.symm b)) (s2_row _ _ _ (by decide))
theorem CU.be {τ : St} {k : Nat} (h : CU τ k) (r : Nat) (v : Int32) : CU (beM τ r v) k := ((h.s _ (Or.inr (Or.inl rfl))).s _ (Or.inr (Or.inr ⟨rfl, by decide, by decide⟩))).s _ (Or.inr (Or.inr ⟨rfl, by decide, by decide⟩))
theorem CU.do {τ : St} {k : Nat} (hk : k < 32) (h : CU τ k) : CU (doM τ).1 k := by
  have h0 : ∀ (υ : St) (j : Nat) (v : Int32), CU υ k → j ≠ 11 → j ≠ 12 → CU (s2 υ 0 j v) k := fun υ j v q a b => q.s v (Or.inr (Or.inr ⟨rfl, a, b⟩))
  have h2 : ∀ (υ : St) (j : Nat) (v : Int32), CU υ k → CU (s2 υ 2 j v) k := fun υ j v q => q.s v (Or.inr (Or.inl rfl))
  have hp : CU (dPl τ) k := h0 _ _ _ h (by decide) (by decide)
  unfold doM
  split
  · exact h0 _ _ _ h (by decide) (by decide)
  split
  · exact h0 _ _ _ h (by decide) (by decide)
  split
  · exact h0 _ _ _ h (by decide) (by decide)
  split
  · exact h0 _ _ _ hp (by decide) (by decide)
  · dsimp only
    unfold woM
    split
    · exact h2 _ _ _ hp
    split
    · exact hp.be _ _
    split
    · exact hp.be _ _
    split
    · exact h2 _ _ _ hp
    split
    · exact CU.wr hk (h0 _ _ _ hp (by decide) (by decide)) _ _
    split
    · exact hp.be _ _
    split
    · exact h2 _ _ _ hp
    split
    · exact hp.be _ _
    split
    · exact hp.be _ _
    · exact h2 _ _ _ (hp.be _ _)
/-! what a write leaves of the class's rows -/
theorem wl_w (σ : St) (i k : Nat) : ∀ n : Nat, wrL σ i n (5 + 2 * k) = σ (5 + 2 * k) := by
  intro n
  induction n with
  | zero => rfl
  | succ n ih =>
    show wrS i (wrL σ i n) n (5 + 2 * k) = _
    unfold wrS
    split
    · rw [tOut_ne _ _ (by omega) (by omega)]; exact ih
    · exact ih
theorem wl_b (σ : St) (i k : Nat) : ∀ n : Nat, wrL σ i n (4 + 2 * k) = σ (4 + 2 * k) ∨ wrL σ i n (4 + 2 * k) 2 = 0 := by
  intro n
  induction n with
  | zero => exact Or.inl rfl
  | succ n ih =>
    show wrS i (wrL σ i n) n (4 + 2 * k) = _ ∨ wrS i (wrL σ i n) n (4 + 2 * k) 2 = 0
    unfold wrS
    split
    · by_cases e : k = n
      · subst e
        exact Or.inr (tOut_k _ _).1
      · rw [tOut_ne _ _ (by omega) (by omega)]; exact ih
    · exact ih
theorem wl_0 (σ : St) (i : Nat) {j : Nat} (hj : j ≠ 9) : ∀ n : Nat, wrL σ i n 0 j = σ 0 j := by
  intro n
  induction n with
  | zero => rfl
  | succ n ih =>
    show wrS i (wrL σ i n) n 0 j = _
    unfold wrS
    split
    · rw [tOut_0, pk_un hj]; exact ih
    · exact ih
theorem wrB_w (σ : St) (i k : Nat) (v : Int32) : wrB σ i v (5 + 2 * k) = σ (5 + 2 * k) := (wl_w _ _ _ _).trans (s2_row _ _ _ (by omega))
theorem wrB_b (σ : St) (i k : Nat) (v : Int32) : wrB σ i v (4 + 2 * k) = σ (4 + 2 * k) ∨ wrB σ i v (4 + 2 * k) 2 = 0 := by
  rcases wl_b (s2 σ 1 i v) i k 32 with h | h
  · exact Or.inl (h.trans (s2_row _ _ _ (by omega)))
  · exact Or.inr h
theorem wrB_0 (σ : St) (i : Nat) (v : Int32) {j : Nat} (hj : j ≠ 9) : wrB σ i v 0 j = σ 0 j := (wl_0 _ _ hj _).trans (s2_o _ _ _ _ (by decide))
