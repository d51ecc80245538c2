/-! a block found or made, and the runs, side by side -/
theorem mkM_rows (τ : St) (k : Nat) : mkM τ k 0 = upd (upd (τ 0) 14 (τ 0 14 + 1)) 18 (τ 0 18 + nI (mkT τ 12).2.2) ∧ mkM τ k 1 = τ 1 ∧ mkM τ k 2 = τ 2 ∧ mkM τ k 4 = upd (τ 4) k (τ 0 3) ∧ ∀ j : Nat, mkM τ k 6 j = if j = k then (if inM (τ 0 3) then (if (mkT τ 12).1 ≤ 1024 then (mkT τ 12).1 else 1024) - τ 0 3 else 0) else τ 6 j := by
  have hA : mkA τ k (mkT τ 12).2.2 (if (mkT τ 12).1 ≤ 1024 then (mkT τ 12).1 else 1024) 0 3 = τ 0 3 := rfl
  unfold mkM
  rw [hA]
  cases inM (τ 0 3) with
  | true =>
    refine ⟨rfl, rfl, rfl, rfl, fun j => ?_⟩
    show upd (τ 6) k ((if (mkT τ 12).1 ≤ 1024 then (mkT τ 12).1 else 1024) - τ 0 3) j = _
    unfold upd
    rfl
  | false =>
    refine ⟨rfl, rfl, rfl, rfl, fun j => ?_⟩
    show upd (upd (τ 6) k ((if (mkT τ 12).1 ≤ 1024 then (mkT τ 12).1 else 1024) - τ 0 3)) k 0 j = _
    unfold upd
    by_cases h : j = k
    · rw [if_pos h, if_pos h]; rfl
    · rw [if_neg h, if_neg h, if_neg h]
theorem deB_rows {σ : St} {k : Nat} {x : Int32} {q : St × Int32 × Bool} (h : dlS σ k x 12 = q) (ho : ∀ i : Nat, i ≠ 4 + 2 * k → i ≠ 5 + 2 * k → q.1 i = σ i) : deB σ k x 0 = upd (upd (σ 0) 7 (σ 0 7 + 1)) 11 (σ 0 11 + q.1 (4 + 2 * k) 2) ∧ (∀ i : Nat, i ≠ 0 → i ≠ 4 + 2 * k → i ≠ 5 + 2 * k → deB σ k x i = σ i) ∧ deB σ k x (4 + 2 * k) = upd (q.1 (4 + 2 * k)) 3 (q.2.1 - x) ∧ deB σ k x (5 + 2 * k) = q.1 (5 + 2 * k) := by
  have h0 := ho 0 (by omega) (by omega)
  rw [deB_eq h]
  refine ⟨?_, fun i a b c => ?_, ?_, ?_⟩
  · rw [s2_self, s2_self, s2_row _ _ _ (show 0 ≠ 4 + 2 * k by omega), h0, s2_o _ _ _ _ (show 4 + 2 * k ≠ 0 by omega), s2_ne _ _ _ (show 2 ≠ 3 by decide), pk_un (show 11 ≠ 7 by decide)]
  · rw [s2_row _ _ _ a, s2_row _ _ _ a, s2_row _ _ _ b, ho i b c]
  · rw [s2_row _ _ _ (by omega), s2_row _ _ _ (by omega), s2_self]
  · rw [s2_row _ _ _ (by omega), s2_row _ _ _ (by omega), s2_row _ _ _ (by omega)]
theorem mk_rel {d e : Int32} {σ τ D M : St} {k N : Nat} {x b : Int32} (R : Rel d e σ τ) (d0 : D 0 = upd (upd (σ 0) 7 (σ 0 7 + 1)) 11 (σ 0 11 + nI N)) (dn : ∀ i : Nat, i ≠ 0 → i ≠ 4 + 2 * k → i ≠ 5 + 2 * k → D i = σ i) (b1 : D (4 + 2 * k) 1 = x) (b2 : D (4 + 2 * k) 2 = nI N) (b3 : D (4 + 2 * k) 3 = b) (hb : BOK (σ 1) (D (4 + 2 * k)) (D (5 + 2 * k)))
    (m0 : M 0 = upd (upd (τ 0) 14 (τ 0 14 + 1)) 18 (τ 0 18 + nI N)) (m1 : M 1 = τ 1) (m2 : M 2 = τ 2) (m3 : M 3 = upd (τ 3) k 1) (m4 : M 4 = upd (τ 4) k x) (m5 : M 5 = upd (τ 5) k (nI N)) (m6 : ∀ j : Nat, M 6 j = if j = k then b else τ 6 j) : Rel d e D M := by
  have e1 : D 1 = σ 1 := dn 1 (by omega) (by omega) (by omega)
  refine ⟨?_, by rw [e1, m1]; exact R.m, by rw [dn 2 (by omega) (by omega) (by omega), m2]; exact R.r, by rw [e1]; exact R.y, fun j hj => ?_⟩
  · rw [d0, m0]
    refine ⟨R.h.p, R.h.s, R.h.z, R.h.l, R.h.c6, ?_, R.h.c8, R.h.c9, R.h.c10, ?_⟩
    · show σ 0 7 + 1 = τ 0 14 + 1
      rw [R.h.c7]
    · show σ 0 11 + nI N = τ 0 18 + nI N
      rw [R.h.c11]
  · rw [e1, m3, m4, m5, m6 j]
    by_cases h : j = k
    · subst h
      rw [pk_us, pk_us, pk_us, if_pos rfl]
      exact Or.inl ⟨rfl, b1.symm, b2.symm, b3.symm, hb⟩
    · rw [pk_un h, pk_un h, pk_un h, if_neg h, dn _ (by omega) (by omega) (by omega), dn _ (by omega) (by omega) (by omega)]
      exact R.b j hj
theorem de_sim {d e : Int32} {σ τ : St} (R : Rel d e σ τ) (k : Nat) : Rel d e (deB σ k (σ 0 3)) (mkM τ k) ∧ PI (deB σ k (σ 0 3)) k 0 ∧ deB σ k (σ 0 3) 0 3 = σ 0 3 := by
  have hRB : RB (τ 1) := by rw [← R.m]; exact R.y
  obtain ⟨m0, m1, m2, m4, m6⟩ := mkM_rows τ k
  have m3 := mkM_r3 τ k
  have m5 := mkM_r5 τ k
  rw [← R.h.p] at m4 m6
  cases hx : inM (σ 0 3) with
  | true =>
    obtain ⟨B, hB, eB⟩ := inM_of hx
    rw [hx] at m6
    simp only [if_true] at m6
    rw [eB] at m4 m6 ⊢
    obtain ⟨s1, s2', s3, s4, s5, s6⟩ := dl_s (k := k) R.y hB 12
    obtain ⟨t1, t2, t3, t4⟩ := mk_s hRB hB (R.h.p.symm.trans eB) 12 (Nat.le_refl 12)
    obtain ⟨f1, f2, f3, f4⟩ := bk_f (σ 1) B 12
    obtain ⟨q1, q2, q3, q4⟩ := deB_rows rfl s6
    have hP := PN_le (σ 1) (Nat.le_of_lt hB) (bkN (σ 1) B 12).1
    rw [← R.m] at t1 t4
    rw [t1] at m0 m5
    rw [t4, pk_sub hP.1] at m6
    rw [s4] at q1
    rw [s1, pk_sub hP.1] at q3
    have hb : BOK (σ 1) (deB σ k (nI B) (4 + 2 * k)) (deB σ k (nI B) (5 + 2 * k)) := by
      rw [q3, q4]
      exact ⟨(bkN (σ 1) B 12).1, f2 (by omega), f1, s4, Or.inr ⟨B, hB, s3, s5, f4, rfl⟩⟩
    refine ⟨mk_rel (x := nI B) R q1 q2 (by rw [q3]; exact s3) (by rw [q3]; exact s4) (by rw [q3]; exact pk_us) hb m0 m1 m2 m3 m4 m5 m6, ?_, ?_⟩
    · intro N hN g2 gw
      right
      refine ⟨B, hB, by rw [q3]; exact s3, ?_⟩
      rw [q1]
      exact eB
    · rw [q1]; exact eB
  | false =>
    have hw : wdA (empB σ k (σ 0 3)) (σ 0 3) = 65536 := by unfold wdA; rw [hx]; rfl
    have h0 : (dlS σ k (σ 0 3) 0).2.2 = true := rfl
    have h1 : dlS σ k (σ 0 3) 1 = (s2 (s2 (empB σ k (σ 0 3)) (5 + 2 * k) 0 65536) (4 + 2 * k) 2 (s2 (empB σ k (σ 0 3)) (5 + 2 * k) 0 65536 (4 + 2 * k) 2 + 1), σ 0 3, false) := by
      rw [dlS_on h0]
      show (s2 (s2 (empB σ k (σ 0 3)) (5 + 2 * k) 0 (wdA (empB σ k (σ 0 3)) (σ 0 3))) (4 + 2 * k) 2 (s2 (empB σ k (σ 0 3)) (5 + 2 * k) 0 (wdA (empB σ k (σ 0 3)) (σ 0 3)) (4 + 2 * k) 2 + 1), σ 0 3 + (if wdA (empB σ k (σ 0 3)) (σ 0 3) >>> ((12 : Int32) &&& 31) = 16 then bN (inM (σ 0 3)) else lenO (wdA (empB σ k (σ 0 3)) (σ 0 3) >>> ((12 : Int32) &&& 31))), !endO (wdA (empB σ k (σ 0 3)) (σ 0 3) >>> ((12 : Int32) &&& 31))) = _
      rw [hw, hx, if_pos (show (65536 : Int32) >>> ((12 : Int32) &&& 31) = 16 by decide), show bN false = 0 from rfl, Int32.add_zero, show endO ((65536 : Int32) >>> ((12 : Int32) &&& 31)) = true by decide]
      rfl
    have h12 : dlS σ k (σ 0 3) 12 = (s2 (s2 (empB σ k (σ 0 3)) (5 + 2 * k) 0 65536) (4 + 2 * k) 2 (s2 (empB σ k (σ 0 3)) (5 + 2 * k) 0 65536 (4 + 2 * k) 2 + 1), σ 0 3, false) := (dlS_off (t := 1) (by rw [h1]) 11).trans h1
    have hg : (mkT τ 1) = (τ 0 3, false, 1) := by
      have e : kdM τ (τ 0 3) = -1 := kdM_out (by rw [← R.h.p]; exact hx)
      have e3 : ftM τ (τ 0 3) = 3 := ft_out (by rw [← R.h.p]; exact hx)
      rw [mkT_on (show (mkT τ 0).2.1 = true from rfl)]
      show (τ 0 3 + (if 0 ≤ kdM τ (τ 0 3) then szO (kdM τ (τ 0 3)) else 0), !decide (12 ≤ 0 + 1) && (!decide (kdM τ (τ 0 3) = 0) && (!decide (kdM τ (τ 0 3) = 7) && decide (ftM τ (τ 0 3) = 0))), 0 + 1) = _
      rw [e, e3, if_neg (by decide), Int32.add_zero]
      rfl
    have hg12 : mkT τ 12 = (τ 0 3, false, 1) := (mkT_off (t := 1) (by rw [hg]) 11).trans hg
    rw [hg12] at m0 m5
    rw [hx] at m6
    simp only [Bool.false_eq_true, if_false] at m6
    obtain ⟨q1, q2, q3, q4⟩ := deB_rows h12 (fun i a b => by
      dsimp only
      unfold empB
      rw [s2_row _ _ _ a, s2_row _ _ _ b, s2_row _ _ _ a, s2_row _ _ _ a, s2_row _ _ _ a])
    dsimp only at q1 q3 q4
    have w1 : s2 (s2 (empB σ k (σ 0 3)) (5 + 2 * k) 0 65536) (4 + 2 * k) 2 (s2 (empB σ k (σ 0 3)) (5 + 2 * k) 0 65536 (4 + 2 * k) 2 + 1) (4 + 2 * k) 1 = σ 0 3 := by
      unfold empB
      rw [s2_ne _ _ _ (by decide), s2_o _ _ _ _ (by omega), s2_ne _ _ _ (by decide), s2_ne _ _ _ (by decide), s2_at]
    have w2 : s2 (s2 (empB σ k (σ 0 3)) (5 + 2 * k) 0 65536) (4 + 2 * k) 2 (s2 (empB σ k (σ 0 3)) (5 + 2 * k) 0 65536 (4 + 2 * k) 2 + 1) (4 + 2 * k) 2 = nI 1 := by
      unfold empB
      rw [s2_at, s2_o _ _ _ _ (by omega), s2_ne _ _ _ (by decide), s2_at]
      rfl
    have w5 : s2 (s2 (empB σ k (σ 0 3)) (5 + 2 * k) 0 65536) (4 + 2 * k) 2 (s2 (empB σ k (σ 0 3)) (5 + 2 * k) 0 65536 (4 + 2 * k) 2 + 1) (5 + 2 * k) 0 = 65536 := by
      rw [s2_o _ _ _ _ (by omega), s2_at]
    rw [w2] at q1
    have hs : σ 0 3 - σ 0 3 = 0 := Int32.sub_self _
    rw [hs] at q3
    have b1 : deB σ k (σ 0 3) (4 + 2 * k) 1 = σ 0 3 := by rw [q3, pk_un (by decide)]; exact w1
    have b2 : deB σ k (σ 0 3) (4 + 2 * k) 2 = nI 1 := by rw [q3, pk_un (by decide)]; exact w2
    have b3 : deB σ k (σ 0 3) (4 + 2 * k) 3 = 0 := by rw [q3]; exact pk_us
    have b5 : deB σ k (σ 0 3) (5 + 2 * k) 0 = 65536 := by rw [q4]; exact w5
    refine ⟨mk_rel R q1 q2 b1 b2 b3 ⟨1, by omega, by omega, b2, Or.inl ⟨by rw [b1]; exact hx, rfl, b5, b3⟩⟩ m0 m1 m2 m3 m4 m5 m6, ?_, ?_⟩
    · intro N hN g2 gw
      left
      rw [b1, q1]
      exact ⟨hx, rfl, rfl⟩
    · rw [q1]; rfl
theorem fi_sim {d e : Int32} {σ τ : St} (R : Rel d e σ τ) : Rel d e (blA σ (σ 0 3)) (ouS τ) ∧ CU (ouS τ) (kAt (σ 0 3)) ∧ PI (blA σ (σ 0 3)) (kAt (σ 0 3)) 0 := by
  have hk := kAt_lt (σ 0 3)
  have R1 : Rel d e σ (fi1 τ) := R.unseen (Or.inr (Or.inl rfl)) _
  have e3 : fi1 τ 3 = τ 3 := rfl
  have e4 : fi1 τ 4 = τ 4 := rfl
  have h11 : fiM τ 0 11 = nI (kAt (σ 0 3)) := by rw [fiM_11, R.h.p]
  have hrow := R.b (kAt (σ 0 3)) hk
  have hkept := (has_row hrow 0).2
  have hcond : begB σ (kAt (σ 0 3)) (σ 0 3) = true ↔ (¬ fi1 τ 3 (kAt (τ 0 3)) = 0 ∧ fi1 τ 4 (kAt (τ 0 3)) = τ 0 3) := by
    unfold begB
    rw [e3, e4, ← R.h.p, hkept, Bool.and_eq_true, Bool.not_eq_true', decide_eq_false_iff_not, decide_eq_true_iff]
    constructor
    · intro ⟨a, b⟩
      refine ⟨a, ?_⟩
      rcases hrow with ⟨r1, r2, -⟩ | ⟨r1, -⟩
      · rw [r2]; exact b
      · exact absurd r1 a
    · intro ⟨a, b⟩
      refine ⟨a, ?_⟩
      rcases hrow with ⟨r1, r2, -⟩ | ⟨r1, -⟩
      · rw [← r2]; exact b
      · exact absurd r1 a
  by_cases hc : begB σ (kAt (σ 0 3)) (σ 0 3) = true
  · have hc2 := hcond.mp hc
    have eM : fiM τ = s2 (fi1 τ) 0 15 (fi1 τ 0 15 + 1) := by unfold fiM; rw [if_pos hc2]
    have eB : blA σ (σ 0 3) = s2 σ 0 8 (σ 0 8 + 1) := by unfold blA; rw [if_pos hc]
    refine ⟨?_, ⟨?_, Or.inl ⟨s2_at _ _ _ _, ?_⟩⟩, ?_⟩
    · unfold ouS
      rw [eB, eM]
      exact R1.hit.unseen (Or.inr (Or.inr rfl)) _
    · unfold ouS
      rw [s2_ne _ _ _ (by decide)]; exact h11
    · unfold ouS
      rw [s2_row _ _ _ (by decide), eM, s2_row _ _ _ (by decide), e3, R.h.p]
      exact hc2.1
    · rw [eB]
      intro N hN g2 gw
      rw [s2_row _ _ _ (by omega)] at g2 ⊢
      have hbx : σ (4 + 2 * kAt (σ 0 3)) 1 = σ 0 3 := by
        unfold begB at hc
        rw [Bool.and_eq_true, decide_eq_true_iff] at hc
        exact hc.2
      rw [s2_ne _ _ _ (by decide), s2_row _ _ _ (by decide), hbx]
      cases hx : inM (σ 0 3) with
      | false => exact Or.inl ⟨rfl, rfl, rfl⟩
      | true =>
        obtain ⟨B, hB, eB2⟩ := inM_of hx
        exact Or.inr ⟨B, hB, eB2, eB2⟩
  · have eM : fiM τ = mkM (fi1 τ) (kAt (τ 0 3)) := by unfold fiM; rw [if_neg (fun q => hc (hcond.mpr q))]
    have eB : blA σ (σ 0 3) = deB σ (kAt (σ 0 3)) (σ 0 3) := by unfold blA; rw [if_neg hc]
    obtain ⟨g1, g2, g3⟩ := de_sim R1 (kAt (σ 0 3))
    rw [← R.h.p] at eM
    refine ⟨?_, ⟨?_, Or.inl ⟨s2_at _ _ _ _, ?_⟩⟩, ?_⟩
    · unfold ouS
      rw [eB, eM]
      exact g1.unseen (Or.inr (Or.inr rfl)) _
    · unfold ouS
      rw [s2_ne _ _ _ (by decide)]; exact h11
    · unfold ouS
      rw [s2_row _ _ _ (by decide), eM, mkM_r3, pk_us]
      decide
    · rw [eB]; exact g2
theorem Rel.mi {d e : Int32} {σ τ : St} (R : Rel d e σ τ) : MI τ := by
  intro k hk h3
  rcases R.b k hk with ⟨r1, r2, r3, r4, N, n1, n2, n3, -⟩ | ⟨r1, -⟩
  · exact ⟨N, n1, n2, r3.trans n3⟩
  · exact absurd r1 h3
theorem Rel.zb {d e : Int32} {σ τ : St} (R : Rel d e σ τ) : ZB τ := ⟨⟨_, R.h.z⟩, ⟨_, R.h.l⟩⟩
theorem ou_sim {n : Nat} (hn : n ≤ 100) : ∀ (f d : Nat) (σ τ : St), d ≤ n → Rel (nI d) 0 σ τ → (ruL n f d σ).2 = (ouL n f d τ).2 ∧ Rel (nI (ouL n f d τ).2) 0 (ruL n f d σ).1 (ouL n f d τ).1 := by
  intro f
  induction f with
  | zero => exact fun d σ τ _ R => ⟨rfl, R⟩
  | succ f ih =>
    intro d σ τ hd R
    by_cases hc : d < n ∧ σ 0 4 = 0
    · have h4 : τ 0 4 = 0 := R.h.s.symm.trans hc.2
      have eR : ruL n (f + 1) d σ = ruL n f (d + (dbO σ (nI (n - d))).2) (dbO σ (nI (n - d))).1 := by rw [ruL, if_pos hc]
      have eO : ouL n (f + 1) d τ = ouL n f (inL n (ouW τ) d (ouS τ)).2 (inL n (ouW τ) d (ouS τ)).1 := by rw [ouL, if_pos ⟨h4, hc.1⟩]
      obtain ⟨o1, o2, o3, o4, o5, o6, -⟩ := ouS_f R.mi
      obtain ⟨g1, g2, g3⟩ := fi_sim R
      have e5 : ouS τ 5 (kAt (σ 0 3)) = nI (ouW τ) := by
        have : ouS τ 5 = fiM τ 5 := s2_row _ _ _ (by decide)
        rw [this, R.h.p]; exact o4
      obtain ⟨i1, i2⟩ := in_sim (k := kAt (σ 0 3)) (n := n) (d0 := d) (N := ouW τ) (kAt_lt _) hn o2 o3 12 0 _ _ rfl (by omega) hd g1 (o5.trans h4) e5 g2 g3
      have i1' : (dbO σ (nI (n - d))).2 + d = (inL n (ouW τ) d (ouS τ)).2 := i1
      have i2' : Rel (nI (inL n (ouW τ) d (ouS τ)).2) 0 (dbO σ (nI (n - d))).1 (inL n (ouW τ) d (ouS τ)).1 := i2
      rw [eR, eO, Nat.add_comm d, i1']
      exact ih _ _ _ (inL_le n _ d _ hd).2 i2'
    · have eR : ruL n (f + 1) d σ = (σ, d) := by rw [ruL, if_neg hc]
      have eO : ouL n (f + 1) d τ = (τ, d) := by rw [ouL, if_neg (fun q => hc ⟨q.2, R.h.s.trans q.1⟩)]
      rw [eR, eO]
      exact ⟨rfl, R⟩
/-! the calls, side by side -/
abbrev RR (σ τ : St) : Prop := Rel 0 0 σ τ
theorem RR.z {σ τ : St} (R : RR σ τ) (v : Int32) : RR σ (s2 τ 0 0 v) := R.unseen (Or.inl rfl) v
theorem RR.run {n : Nat} (hn : n ≤ 100) {σ τ : St} (R : RR σ τ) : (ruL n n 0 σ).2 = (ouL n n 0 (s2 τ 0 0 0)).2 ∧ RR (ruL n n 0 σ).1 (s2 (ouL n n 0 (s2 τ 0 0 0)).1 0 13 ((ouL n n 0 (s2 τ 0 0 0)).1 0 13 + nI (ouL n n 0 (s2 τ 0 0 0)).2)) := by
  obtain ⟨h1, h2⟩ := ou_sim hn n 0 σ (s2 τ 0 0 0) (Nat.zero_le n) (R.z 0)
  exact ⟨h1, h2.or ⟨h2.h.p, h2.h.s, h2.h.z, h2.h.l, by rw [pk_us, Int32.add_zero]; exact h2.h.c6, h2.h.c7, h2.h.c8, h2.h.c9, h2.h.c10, h2.h.c11⟩⟩
theorem sh_bits (v : BitVec 32) (s : Nat) (hs : s ≤ 24) : (v >>> s) &&& 255#32 = (v.sshiftRight s) &&& 255#32 := by
  apply BitVec.eq_of_getLsbD_eq
  intro i hi
  rw [BitVec.getLsbD_and, BitVec.getLsbD_and, BitVec.getLsbD_ushiftRight, BitVec.getLsbD_sshiftRight]
  by_cases h : i < 8
  · have h1 : s + i < 32 := by omega
    have h2 : ¬ 32 ≤ i := by omega
    simp [h1, h2]
  · have h3 : (255#32).getLsbD i = false := (by decide : ∀ i : Fin 32, ¬ i.1 < 8 → (255#32).getLsbD i.1 = false) ⟨i, hi⟩ h
    rw [h3, Bool.and_false, Bool.and_false]
theorem by4_eq (v : Int32) {n : Nat} (h : n < 4) : by4 v n = bm4 v n := by
  unfold by4 bm4
  rcases (show n = 0 ∨ n = 1 ∨ n = 2 ∨ n = 3 by omega) with rfl | rfl | rfl | rfl
  · rw [show ((24 : Int32) - 8 * nI 0).toUInt32 &&& Int32.toUInt32 31 = 24 by decide, show ((24 : Int32) - 8 * nI 0) &&& 31 = 24 by decide]
    exact Int32.toBitVec_inj.mp (sh_bits v.toBitVec 24 (by decide))
  · rw [show ((24 : Int32) - 8 * nI 1).toUInt32 &&& Int32.toUInt32 31 = 16 by decide, show ((24 : Int32) - 8 * nI 1) &&& 31 = 16 by decide]
    exact Int32.toBitVec_inj.mp (sh_bits v.toBitVec 16 (by decide))
  · rw [show ((24 : Int32) - 8 * nI 2).toUInt32 &&& Int32.toUInt32 31 = 8 by decide, show ((24 : Int32) - 8 * nI 2) &&& 31 = 8 by decide]
    exact Int32.toBitVec_inj.mp (sh_bits v.toBitVec 8 (by decide))
  · rw [show ((24 : Int32) - 8 * nI 3).toUInt32 &&& Int32.toUInt32 31 = 0 by decide, show ((24 : Int32) - 8 * nI 3) &&& 31 = 0 by decide]
    exact Int32.toBitVec_inj.mp (sh_bits v.toBitVec 0 (by decide))
theorem RR.p4 {σ τ : St} (R : RR σ τ) {i : Nat} (v : Int32) : ∀ n : Nat, n ≤ 4 → i + n ≤ 1024 → RR (p4L σ i v n) (m4L τ i v n) := by
  intro n
  induction n with
  | zero => exact fun _ _ => R
  | succ n ih =>
    intro h4 hi
    have hb : by4 v n = bm4 v n := by4_eq v (by omega)
    show RR (wrB (p4L σ i v n) (i + n) (by4 v n)) (mWr (m4L τ i v n) (i + n) (bm4 v n))
    rw [hb]
    exact (ih (by omega) (by omega)).write (by omega) (byt _)
theorem RR.register {σ τ : St} (R : RR σ τ) {x : Int32} (h0 : ¬ x < 0) (h11 : x ≤ 11) : rgV σ x = rgM τ x := by
  obtain ⟨j, hj, rfl⟩ := nI_of h0
  have hj2 : j ≤ 11 := (nI_leI (b := 11) hj (by omega)).mp h11
  have hz : τ 0 5 = bN (isZ σ) := R.h.z
  have hl : τ 0 6 = bN (isL σ) := R.h.l
  have hn : ∀ b : Bool, (if bN b = 0 then (0 : Int32) else 1) = bN b := fun b => by cases b <;> rfl
  unfold rgV rgM
  rw [hz, hl, hn, hn, ← R.h.p, ← R.h.s, ← R.r]
  rcases (show j < 8 ∨ j = 8 ∨ j = 9 ∨ j = 10 ∨ j = 11 by omega) with h | rfl | rfl | rfl | rfl
  · have q : ∀ b : Nat, 8 ≤ b → b < 2 ^ 31 → ¬ nI j = nI b := fun b a c e => by have := (nI_eq hj c).mp e; omega
    rw [if_neg (show ¬ nI j = 8 from q 8 (by omega) (by omega)), if_neg (show ¬ nI j = 9 from q 9 (by omega) (by omega)), if_neg (show ¬ nI j = 10 from q 10 (by omega) (by omega)), if_neg (show ¬ nI j = 11 from q 11 (by omega) (by omega)), if_pos (show nI j < 8 from (nI_ltI (b := 8) hj (by omega)).mpr h)]
  · rfl
  · rfl
  · rfl
  · rfl
theorem RR.row {σ τ : St} (R : RR σ τ) {k : Nat} (hk : k < 32) {z : Int32} (h0 : ¬ z < 0) (h2 : z ≤ 2) : rwV σ k z = rwM τ k z := by
  obtain ⟨j, hj, rfl⟩ := nI_of h0
  have hj2 : j ≤ 2 := (nI_leI (b := 2) hj (by omega)).mp h2
  have hkept := (has_row (R.b k hk) 0).2
  unfold rwV rwM
  rw [hkept]
  rcases R.b k hk with ⟨r1, r2, r3, r4, r5⟩ | ⟨r1, r2, r3⟩
  · rw [r1, r2, r3, r4, if_neg (show ¬ (1 : Int32) = 0 by decide)]
    rfl
  · rw [r1, r2, r3]
    rcases (show j = 0 ∨ j = 1 ∨ j = 2 by omega) with rfl | rfl | rfl <;> rfl
theorem RR.count {σ τ : St} (R : RR σ τ) (x : Int32) : cnV σ x = cnM τ x := by
  unfold cnV cnM
  have h6 : σ 0 6 = τ 0 13 := by have := R.h.c6; rw [Int32.add_zero] at this; exact this
  have h10 : σ 0 10 = τ 0 17 := by have := R.h.c10; rw [Int32.add_zero] at this; exact this
  rw [h6, h10, R.h.c7, R.h.c8, R.h.c9, R.h.c11, nt_sim R 32 (Nat.le_refl 32)]
