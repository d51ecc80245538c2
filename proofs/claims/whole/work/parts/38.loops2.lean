/-! the loops, side by side -/
theorem pf_rows (σ : St) (kd lo se : Int32) (k : Nat) : pfM σ kd lo se (5 + 2 * k) = σ (5 + 2 * k) ∧ (pfM σ kd lo se (4 + 2 * k) = σ (4 + 2 * k) ∨ pfM σ kd lo se (4 + 2 * k) 2 = 0) ∧ (¬ kd = 7 → pfM σ kd lo se 0 3 = σ 0 3) ∧ pfM σ kd lo se 0 4 = σ 0 4 := by
  have h2 : ∀ (j : Nat) (v : Int32), s2 σ 2 j v (5 + 2 * k) = σ (5 + 2 * k) ∧ (s2 σ 2 j v (4 + 2 * k) = σ (4 + 2 * k) ∨ s2 σ 2 j v (4 + 2 * k) 2 = 0) ∧ (¬ kd = 7 → s2 σ 2 j v 0 3 = σ 0 3) ∧ s2 σ 2 j v 0 4 = σ 0 4 := fun j v => ⟨s2_row _ _ _ (by omega), Or.inl (s2_row _ _ _ (by omega)), fun _ => s2_o _ _ _ _ (by decide), s2_o _ _ _ _ (by decide)⟩
  unfold pfM
  split
  · exact h2 _ _
  split
  · exact h2 _ _
  split
  · refine ⟨?_, ?_, fun _ => ?_, ?_⟩
    · rw [s2_row _ _ _ (by omega)]; exact wrB_w _ _ _ _
    · rw [s2_row _ _ _ (by omega)]; exact wrB_b _ _ _ _
    · rw [s2_ne _ _ _ (by decide)]; exact wrB_0 _ _ _ (by decide)
    · rw [s2_ne _ _ _ (by decide)]; exact wrB_0 _ _ _ (by decide)
  split
  · next h7 =>
    split
    · exact ⟨s2_row _ _ _ (by omega), Or.inl (s2_row _ _ _ (by omega)), fun q => absurd h7 q, s2_ne _ _ _ (by decide)⟩
    · exact ⟨rfl, Or.inl rfl, fun _ => rfl, rfl⟩
  split
  · exact h2 _ _
  split
  · exact ⟨s2_row _ _ _ (by omega), Or.inl (s2_row _ _ _ (by omega)), fun _ => s2_ne _ _ _ (by decide), s2_ne _ _ _ (by decide)⟩
  · refine ⟨?_, Or.inl ?_, fun _ => ?_, ?_⟩
    · rw [s2_row _ _ _ (by omega), s2_row _ _ _ (by omega)]
    · rw [s2_row _ _ _ (by omega), s2_row _ _ _ (by omega)]
    · rw [s2_o _ _ _ _ (by decide), s2_ne _ _ _ (by decide)]
    · rw [s2_o _ _ _ _ (by decide), s2_ne _ _ _ (by decide)]
theorem dwO_rows {σ : St} {wd : Int32} (h : dwB σ wd = true) (k : Nat) : dwO σ wd (5 + 2 * k) = σ (5 + 2 * k) ∧ (dwO σ wd (4 + 2 * k) = σ (4 + 2 * k) ∨ dwO σ wd (4 + 2 * k) 2 = 0) ∧ (¬ wKd wd = 7 → dwO σ wd 0 3 = σ 0 3 + lenO (wKd wd)) ∧ dwO σ wd 0 4 = 0 := by
  have hs : stB σ (wKd wd) (lo3 (wSe wd)) = 0 := of_decide_eq_true h
  have e := (dw_yes hs).2
  obtain ⟨p1, p2, p3, p4⟩ := pf_rows (dwP σ wd) (wKd wd) (wLo wd) (wSe wd) k
  have hP : ∀ i : Nat, i ≠ 0 → dwP σ wd i = σ i := fun i hi => by unfold dwP dwS; rw [s2_row _ _ _ hi, s2_row _ _ _ hi]
  rw [e]
  refine ⟨?_, ?_, fun h7 => ?_, ?_⟩
  · rw [s2_row _ _ _ (by omega)]; exact p1.trans (hP _ (by omega))
  · rw [s2_row _ _ _ (by omega)]
    rcases p2 with p2 | p2
    · exact Or.inl (p2.trans (hP _ (by omega)))
    · exact Or.inr p2
  · rw [s2_ne _ _ _ (by decide)]
    refine (p3 h7).trans ?_
    unfold dwP dwS
    rw [s2_at, s2_ne _ _ _ (by decide)]
  · rw [s2_ne _ _ _ (by decide)]
    refine p4.trans ?_
    unfold dwP dwS
    rw [s2_ne _ _ _ (by decide), s2_at]
    exact hs
/-- where the place stands in the block that is being run -/
def PI (σ : St) (k w : Nat) : Prop := ∀ N : Nat, N ≤ 12 → σ (4 + 2 * k) 2 = nI N → w < N → (inM (σ (4 + 2 * k) 1) = false ∧ w = 0 ∧ σ 0 3 = σ (4 + 2 * k) 1) ∨ ∃ B : Nat, B < 1024 ∧ σ (4 + 2 * k) 1 = nI B ∧ σ 0 3 = nI (PN (σ 1) B w)
theorem pi_word {σ : St} {k w N : Nat} (hy : RB (σ 1)) (hb : BOK (σ 1) (σ (4 + 2 * k)) (σ (5 + 2 * k))) (hp : PI σ k w) (hN : N ≤ 12) (e2 : σ (4 + 2 * k) 2 = nI N) (hw : w < N) : σ (5 + 2 * k) w = wdm (σ 1) (σ 0 3) := by
  obtain ⟨N', h1, h2, h3, h4⟩ := hb
  have hNN : N' = N := (nI_eq (by omega) (by omega)).mp (h3.symm.trans e2)
  subst hNN
  rcases h4 with ⟨a1, a2, a3, a4⟩ | ⟨B, b1, b2, b3, b4, b5⟩
  · rcases hp N' h2 e2 hw with ⟨c1, c2, c3⟩ | ⟨B', c1, c2, c3⟩
    · subst c2
      rw [a3, c3]
      unfold wdm
      rw [c1]
      rfl
    · rw [c2, inM_nI c1] at a1; cases a1
  · rcases hp N' h2 e2 hw with ⟨c1, c2, c3⟩ | ⟨B', c1, c2, c3⟩
    · rw [b2, inM_nI b1] at c1; cases c1
    · have hBB : B' = B := (nI_eq (by omega) (by omega)).mp (c2.symm.trans b2)
      subst hBB
      rw [b3 w hw, c3]
      exact (wdm_nI hy (PN_le (σ 1) (Nat.le_of_lt c1) w).2).symm
theorem ln_word {mem : Nat → Int32} (h : RB mem) {p : Nat} (hp : p ≤ 1024) (he : enN (wdN mem p / 4096) = false) : lnN mem p = if one (wdN mem p / 4096) then 1 else 2 := by
  rcases wd_cases h hp with ⟨h1, h2, h3⟩ | ⟨h1, h2, h3, h4, h5⟩ | ⟨h1, h2, h3, h4, h5, h6⟩ | ⟨h1, h2, h3, h4, h5⟩
  · rw [h2] at he; exact absurd he (by decide)
  · rw [h4, h3, show yN mem p * 256 / 4096 = yN mem p / 16 by omega, h2]; rfl
  · rw [h4, h3, show (yN mem p * 256 + yN mem (p + 1)) / 4096 = yN mem p / 16 by omega, h2]; rfl
  · rw [h3] at he; exact absurd he (by decide)
theorem PN_words {m1 m2 : Nat → Int32} (y1 : RB m1) (y2 : RB m2) {B N : Nat} (hB : B < 1024) (hw : ∀ w : Nat, w < N → nI (wdN m1 (PN m1 B w)) = nI (wdN m2 (PN m2 B w))) (he : ∀ w : Nat, w + 1 < N → enN (wdN m1 (PN m1 B w) / 4096) = false) : ∀ w : Nat, w < N → PN m2 B w = PN m1 B w := by
  intro w
  induction w with
  | zero => exact fun _ => rfl
  | succ w ih =>
    intro h
    have i1 := ih (by omega)
    have hl1 := wdN_lt y1 (PN m1 B w)
    have hl2 := wdN_lt y2 (PN m2 B w)
    have e := (nI_eq (by omega) (by omega)).mp (hw w (by omega))
    have en := he w h
    show PN m2 B w + lnN m2 (PN m2 B w) = PN m1 B w + lnN m1 (PN m1 B w)
    rw [ln_word y1 (PN_le m1 (Nat.le_of_lt hB) w).2 en, ln_word y2 (PN_le m2 (Nat.le_of_lt hB) w).2 (by rw [← e]; exact en), ← e, i1]
theorem pi_next {σ σ' : St} {k w N : Nat} (y : RB (σ 1)) (y' : RB (σ' 1)) (hb : BOK (σ 1) (σ (4 + 2 * k)) (σ (5 + 2 * k))) (hb' : BOK (σ' 1) (σ' (4 + 2 * k)) (σ' (5 + 2 * k))) (e4 : σ' (4 + 2 * k) = σ (4 + 2 * k)) (e5 : σ' (5 + 2 * k) = σ (5 + 2 * k)) (hp : PI σ k w) (hN : N ≤ 12) (e2 : σ (4 + 2 * k) 2 = nI N) (hw : w + 1 < N) (h3 : ¬ wKd (σ (5 + 2 * k) w) = 7 → σ' 0 3 = σ 0 3 + lenO (wKd (σ (5 + 2 * k) w))) : PI σ' k (w + 1) := by
  intro N2 hN2 g2 gw
  rw [e4] at g2
  have hNN : N2 = N := (nI_eq (by omega) (by omega)).mp (g2.symm.trans e2)
  subst hNN
  obtain ⟨N', h1, h2, h3', h4⟩ := hb
  have hNN : N' = N2 := (nI_eq (by omega) (by omega)).mp (h3'.symm.trans e2)
  subst hNN
  rcases h4 with ⟨a1, a2, a3, a4⟩ | ⟨B, b1, b2, b3, b4, b5⟩
  · omega
  · obtain ⟨N3, k1, k2, k3, k4⟩ := hb'
    rw [e4] at k3 k4
    rw [e5] at k4
    have hNN : N3 = N' := (nI_eq (by omega) (by omega)).mp (k3.symm.trans h3')
    subst hNN
    rcases k4 with ⟨a1, a2, a3, a4⟩ | ⟨B', c1, c2, c3, c4, c5⟩
    · omega
    · have hBB : B' = B := (nI_eq (by omega) (by omega)).mp (c2.symm.trans b2)
      subst hBB
      rcases hp N3 h2 e2 (by omega) with ⟨d1, d2, d3⟩ | ⟨B2, d1, d2, d3⟩
      · rw [b2, inM_nI b1] at d1; cases d1
      · have hBB : B2 = B' := (nI_eq (by omega) (by omega)).mp (d2.symm.trans b2)
        subst hBB
        right
        refine ⟨B2, b1, by rw [e4]; exact b2, ?_⟩
        have hPP := PN_words y y' b1 (N := N3) (fun w hw => (b3 w hw).symm.trans (c3 w hw)) b4 (w + 1) gw
        have en := b4 w hw
        have hlt := wdN_lt y (PN (σ 1) B2 w)
        have hl := ln_word y (PN_le (σ 1) (Nat.le_of_lt b1) w).2 en
        have ek : wKd (σ (5 + 2 * k) w) = nI (wdN (σ 1) (PN (σ 1) B2 w) / 4096) := by rw [b3 w (by omega)]; exact sh12 (by omega)
        have h7 := enN_f en
        rw [h3 (by rw [ek]; exact fun q => h7.2.1 ((nI_eq (b := 7) (by omega) (by omega)).mp q)), d3, hPP, ek, lenO_nI (by omega)]
        show _ = nI (PN (σ 1) B2 w + lnN (σ 1) (PN (σ 1) B2 w))
        rw [hl]
        cases one (wdN (σ 1) (PN (σ 1) B2 w) / 4096)
        · exact nI_add _ 2
        · exact nI_add _ 1
theorem inL_stop {n : Nat} {τ : St} (h : ¬ τ 0 4 = 0) (f d : Nat) : inL n f d τ = (τ, d) := by
  cases f with
  | zero => rfl
  | succ f => rw [inL, if_neg (fun q => h q.1)]
theorem in_sim {k n d0 N : Nat} (hk : k < 32) (hn : n ≤ 100) (hN1 : 1 ≤ N) (hN : N ≤ 12) : ∀ (f w : Nat) (σ τ : St), f + w = 12 → w ≤ N → d0 + w ≤ n → Rel (nI (d0 + w)) 0 σ τ → τ 0 4 = 0 → τ 5 k = nI N → CU τ k → PI σ k w → (dbL (nI (n - d0)) k f w σ).2 + d0 = (inL n (N - w) (d0 + w) τ).2 ∧ Rel (nI (inL n (N - w) (d0 + w) τ).2) 0 (dbL (nI (n - d0)) k f w σ).1 (inL n (N - w) (d0 + w) τ).1 := by
  intro f
  induction f with
  | zero =>
    intro w σ τ hf hw hd R _ _ _ _
    have : N - w = 0 := by omega
    rw [this]
    exact ⟨Nat.add_comm _ _, R⟩
  | succ f ih =>
    intro w σ τ hf hw hd R h4 h5 hc hp
    have hrow := R.b k hk
    have stop : ¬ (nI w < σ (4 + 2 * k) 2 ∧ nI w < nI (n - d0)) → inL n (N - w) (d0 + w) τ = (τ, d0 + w) → (dbL (nI (n - d0)) k (f + 1) w σ).2 + d0 = (inL n (N - w) (d0 + w) τ).2 ∧ Rel (nI (inL n (N - w) (d0 + w) τ).2) 0 (dbL (nI (n - d0)) k (f + 1) w σ).1 (inL n (N - w) (d0 + w) τ).1 := by
      intro a b
      rw [b, dbL, if_neg a]
      exact ⟨Nat.add_comm _ _, R⟩
    rcases hc.2 with ⟨c1, c2⟩ | ⟨c1, c2⟩
    · rcases hrow with ⟨r1, r2, r3, r4, r5⟩ | ⟨r1, -, -⟩
      · have e2 : σ (4 + 2 * k) 2 = nI N := r3.symm.trans h5
        rcases Nat.lt_or_ge w N with z | z
        · rcases Nat.lt_or_ge (d0 + w) n with zd | zd
          · have hwd := pi_word R.y r5 hp hN e2 z
            obtain ⟨g1, g2⟩ := do_sim R h4
            rw [← hwd] at g1 g2
            have eD : dbL (nI (n - d0)) k (f + 1) w σ = if dwB σ (σ (5 + 2 * k) w) then dbL (nI (n - d0)) k f (w + 1) (dwO σ (σ (5 + 2 * k) w)) else (dwO σ (σ (5 + 2 * k) w), w) := by
              rw [dbL, if_pos (show nI w < σ (4 + 2 * k) 2 ∧ nI w < nI (n - d0) from ⟨by rw [e2]; exact nI_lt z (by omega), nI_lt (by omega) (by omega)⟩)]
            have eI : inL n (N - w) (d0 + w) τ = inL n (N - (w + 1)) (d0 + w + (if (doM τ).2 then 1 else 0)) (doM τ).1 := by
              rw [show N - w = (N - (w + 1)) + 1 by omega, inL, if_pos (show τ 0 4 = 0 ∧ d0 + w < n ∧ τ 0 12 = 0 from ⟨h4, zd, c1⟩)]
            rw [eD, eI, g1]
            cases hB : dwB σ (σ (5 + 2 * k) w) with
            | true =>
              rw [if_pos rfl, if_pos rfl]
              rw [hB, if_pos rfl, nI_1] at g2
              obtain ⟨q1, q2, q3, q4⟩ := dwO_rows hB k
              refine ih (w + 1) _ _ (by omega) (by omega) (by omega) g2 (g2.h.s.symm.trans q4) (by rw [(pz_do τ).1]; exact h5) (CU.do hk hc) ?_
              rcases Nat.lt_or_ge (w + 1) N with zw | zw
              · rcases g2.b k hk with ⟨s1, s2', s3, s4, s5⟩ | ⟨s1, s2', s3⟩
                · rcases q2 with q2 | q2
                  · exact pi_next R.y g2.y r5 s5 q2 q1 hp hN e2 zw q3
                  · exact absurd (by rw [q2]; decide) s5.kept
                · intro N2 hN2 gg gw
                  rw [s2'] at gg
                  have : 0 = N2 := (nI_eq (a := 0) (by omega) (by omega)).mp gg
                  omega
              · intro N2 hN2 gg gw
                rcases q2 with q2 | q2
                · rw [q2, e2] at gg
                  have : N = N2 := (nI_eq (by omega) (by omega)).mp gg
                  omega
                · rw [q2] at gg
                  have : 0 = N2 := (nI_eq (a := 0) (by omega) (by omega)).mp gg
                  omega
            | false =>
              rw [hB] at g1
              rw [hB, if_neg (by decide)] at g2
              rw [if_neg (show ¬ false = true by decide), if_neg (show ¬ false = true by decide), inL_stop (do_st g1)]
              exact ⟨Nat.add_comm _ _, g2⟩
          · refine stop (fun q => by have := (nI_ltI (by omega) (by omega)).mp q.2; omega) ?_
            rw [show N - w = (N - (w + 1)) + 1 by omega, inL, if_neg (fun q => by have := q.2.1; omega)]
        · refine stop (fun q => by rw [e2] at q; have := (nI_ltI (by omega) (by omega)).mp q.1; omega) ?_
          rw [show N - w = 0 by omega]
          rfl
      · exact absurd r1 c2
    · have e2 : σ (4 + 2 * k) 2 = 0 := by
        rcases hrow with ⟨r1, -⟩ | ⟨-, r2, -⟩
        · rw [r1] at c2; exact absurd c2 (by decide)
        · exact r2
      refine stop (fun q => by rw [e2] at q; exact nI_pos (by omega) q.1) ?_
      cases hz : N - w with
      | zero => rfl
      | succ g => rw [inL, if_neg (fun q => c1 q.2.2)]
