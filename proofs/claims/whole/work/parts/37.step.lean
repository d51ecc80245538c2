/-! a step, side by side -/
theorem i128 (k : Int32) : (¬ k ≤ 127) ↔ 128 ≤ k := by
  rw [Int32.le_iff_toInt_le, Int32.le_iff_toInt_le]
  have e1 : (127 : Int32).toInt = 127 := by decide
  have e2 : (128 : Int32).toInt = 128 := by decide
  omega
theorem near_eq (τ : St) : dNr τ = bzt (dN τ) := by
  unfold dNr bzt
  by_cases h : dN τ ≤ 127
  · rw [if_pos h, if_neg (fun q => (i128 _).mpr q h)]
  · rw [if_neg h, if_pos ((i128 _).mp h)]
theorem byt (x : Int32) : ∃ y : Nat, y < 256 ∧ x &&& 255 = nI y := by
  obtain ⟨j, h1, h2⟩ := pk_andE x (m := 255) 8 (by decide)
  exact ⟨j, h1, h2⟩
theorem ho_eq {d e : Int32} {σ τ : St} (R : Rel d e σ τ) (c : Int32) : hoM τ c = bN (hlD σ c) := by
  have hz : τ 0 5 = bN (isZ σ) := R.h.z
  have hl : τ 0 6 = bN (isL σ) := R.h.l
  have hn : ∀ b : Bool, (if bN b = 0 then (1 : Int32) else 0) = bN (!b) := fun b => by cases b <;> rfl
  unfold hoM hlD
  rw [hz, hl, hn, hn]
  split
  · rfl
  split
  · rfl
  split
  · rfl
  split
  · rfl
  split
  · rfl
  · rfl
theorem Rel.be {d e : Int32} {σ τ : St} (R : Rel d e σ τ) (r : Nat) (v : Int32) : Rel d e (s2 (s2 σ 0 5 v) 2 r v) (beM τ r v) := by
  refine R.c ?_ rfl ?_ (fun i hi => by rw [s2_row _ _ _ (by omega), s2_row _ _ _ (by omega)]) rfl rfl rfl rfl rfl
  · exact ⟨R.h.p, R.h.s, rfl, rfl, R.h.c6, R.h.c7, R.h.c8, R.h.c9, R.h.c10, R.h.c11⟩
  · show upd (σ 2) r v = upd (τ 2) r v
    rw [R.r]
theorem Rel.cmp {d e : Int32} {σ τ : St} (R : Rel d e σ τ) (r : Nat) (v : Int32) : Rel d e (s2 σ 0 5 v) (s2 (beM τ r v) 2 r (τ 2 r)) := by
  refine R.c ?_ rfl ?_ (fun i hi => by rw [s2_row _ _ _ (by omega)]) rfl rfl rfl rfl rfl
  · exact ⟨R.h.p, R.h.s, rfl, rfl, R.h.c6, R.h.c7, R.h.c8, R.h.c9, R.h.c10, R.h.c11⟩
  · show σ 2 = upd (upd (τ 2) r v) r (τ 2 r)
    rw [R.r]
    funext j
    by_cases hj : j = r
    · subst hj; rw [pk_us]
    · rw [pk_un hj, pk_un hj]
theorem pf_wo {d : Int32} {σ τ : St} (R : Rel d 0 σ τ) {h : Nat} (h0 : h ≠ 0) (h7 : h ≠ 7) (h12 : h < 12) (lo se : Int32) (hs : h = 4 ∨ h = 5 → inM (σ 2 (lo3 se)) = true) : Rel d 0 (pfM σ (nI h) lo se) (woM τ (nI h) (lo3 lo) (σ 2 (lo3 se)) (bzt se)) := by
  have e2 : τ 2 = σ 2 := R.r.symm
  have e1 : τ 1 = σ 1 := R.m.symm
  rcases (show h = 1 ∨ h = 2 ∨ h = 3 ∨ h = 4 ∨ h = 5 ∨ h = 6 ∨ h = 8 ∨ h = 9 ∨ h = 10 ∨ h = 11 by omega) with rfl | rfl | rfl | rfl | rfl | rfl | rfl | rfl | rfl | rfl
  · show Rel d 0 (s2 σ 2 (lo3 lo) (bzt se)) (s2 τ 2 (lo3 lo) (bzt se))
    exact R.reg _ _
  · show Rel d 0 (s2 (s2 σ 0 5 (σ 2 (lo3 lo) + σ 2 (lo3 se))) 2 (lo3 lo) (σ 2 (lo3 lo) + σ 2 (lo3 se))) (beM τ (lo3 lo) (τ 2 (lo3 lo) + σ 2 (lo3 se)))
    rw [e2]; exact R.be _ _
  · show Rel d 0 (s2 (s2 σ 0 5 (σ 2 (lo3 lo) - σ 2 (lo3 se))) 2 (lo3 lo) (σ 2 (lo3 lo) - σ 2 (lo3 se))) (beM τ (lo3 lo) (τ 2 (lo3 lo) - σ 2 (lo3 se)))
    rw [e2]; exact R.be _ _
  · show Rel d 0 (s2 σ 2 (lo3 lo) (σ 1 (σ 2 (lo3 se)).toNatClampNeg)) (s2 τ 2 (lo3 lo) (τ 1 (σ 2 (lo3 se)).toNatClampNeg))
    rw [e1]; exact R.reg _ _
  · have a5 : pfM σ (nI 5) lo se = s2 (wrB σ (σ 2 (lo3 se)).toNatClampNeg (σ 2 (lo3 lo) &&& 255)) 0 10 (wrB σ (σ 2 (lo3 se)).toNatClampNeg (σ 2 (lo3 lo) &&& 255) 0 10 + 1) := by
      unfold pfM
      rw [if_neg (show ¬ nI 5 = 1 by decide), if_neg (show ¬ nI 5 = 4 by decide), if_pos (show nI 5 = 5 by decide)]
    have b5 : woM τ (nI 5) (lo3 lo) (σ 2 (lo3 se)) (bzt se) = mWr (s2 τ 0 17 (τ 0 17 + 1)) (σ 2 (lo3 se)).toNatClampNeg (τ 2 (lo3 lo) &&& 255) := by
      unfold woM
      rw [if_neg (show ¬ nI 5 = 1 by decide), if_neg (show ¬ nI 5 = 2 by decide), if_neg (show ¬ nI 5 = 3 by decide), if_neg (show ¬ nI 5 = 4 by decide), if_pos (show nI 5 = 5 by decide)]
    rw [a5, b5]
    rw [e2]
    obtain ⟨i, hi, ei⟩ := inM_of (hs (Or.inr rfl))
    rw [ei, nI_clamp (by omega)]
    have R2 : Rel d 1 σ (s2 τ 0 17 (τ 0 17 + 1)) := by have := R.sto1; rw [Int32.zero_add] at this; exact this
    exact (R2.write hi (byt _)).sto2
  · show Rel d 0 (s2 (s2 σ 0 5 (σ 2 (lo3 lo) &&& σ 2 (lo3 se))) 2 (lo3 lo) (σ 2 (lo3 lo) &&& σ 2 (lo3 se))) (beM τ (lo3 lo) (τ 2 (lo3 lo) &&& σ 2 (lo3 se)))
    rw [e2]; exact R.be _ _
  · show Rel d 0 (s2 σ 2 (lo3 lo) (σ 2 (lo3 se))) (s2 τ 2 (lo3 lo) (σ 2 (lo3 se)))
    exact R.reg _ _
  · show Rel d 0 (s2 (s2 σ 0 5 (σ 2 (lo3 lo) * σ 2 (lo3 se))) 2 (lo3 lo) (σ 2 (lo3 lo) * σ 2 (lo3 se))) (beM τ (lo3 lo) (τ 2 (lo3 lo) * σ 2 (lo3 se)))
    rw [e2]; exact R.be _ _
  · show Rel d 0 (s2 (s2 σ 0 5 (σ 2 (lo3 lo) >>> ((1 : Int32) &&& 31))) 2 (lo3 lo) (σ 2 (lo3 lo) >>> ((1 : Int32) &&& 31))) (beM τ (lo3 lo) (τ 2 (lo3 lo) >>> ((1 : Int32) &&& 31)))
    rw [e2]; exact R.be _ _
  · show Rel d 0 (s2 σ 0 5 (σ 2 (lo3 lo) - σ 2 (lo3 se))) (s2 (beM τ (lo3 lo) (τ 2 (lo3 lo) - σ 2 (lo3 se))) 2 (lo3 lo) (τ 2 (lo3 lo)))
    rw [show σ 2 (lo3 lo) - σ 2 (lo3 se) = τ 2 (lo3 lo) - σ 2 (lo3 se) by rw [e2]]
    exact R.cmp _ _
theorem dw_no {σ : St} {wd c : Int32} (h : stB σ (wKd wd) (lo3 (wSe wd)) = c) (hc : ¬ c = 0) : dwB σ wd = false ∧ dwO σ wd = s2 σ 0 4 c := by
  have hb : dwB σ wd = false := by unfold dwB; rw [h]; exact decide_eq_false hc
  refine ⟨hb, ?_⟩
  unfold dwO dwS
  rw [hb, if_neg (by decide), h]
theorem dw_yes {σ : St} {wd : Int32} (h : stB σ (wKd wd) (lo3 (wSe wd)) = 0) : dwB σ wd = true ∧ dwO σ wd = s2 (dwQ σ wd) 0 6 (dwQ σ wd 0 6 + 1) := by
  have hb : dwB σ wd = true := by unfold dwB; rw [h]; rfl
  refine ⟨hb, ?_⟩
  unfold dwO
  rw [hb, if_pos rfl]
theorem lo3_mod {y : Nat} (h : y < 2 ^ 31) : lo3 (nI y) = y % 8 := by
  unfold lo3
  rw [an7 h, nI_clamp (by omega)]
theorem wd_low {τ : St} (h : RB (τ 1)) {p : Nat} (hp : p < 1024) (h3 : τ 0 3 = nI p) (hk : wdN (τ 1) p / 4096 < 12) : dKd τ = nI (wdN (τ 1) p / 4096) ∧ dN τ = nI (wdN (τ 1) p % 256) ∧ dCo τ = nI (wdN (τ 1) p / 256 % 16) ∧ lo3 (τ 1 (τ 0 3).toNatClampNeg) = lo3 (nI (wdN (τ 1) p / 256 % 16)) := by
  unfold dN dCo dKd
  rw [h3, kdM_nI h hp, nI_clamp (by omega), szO_eq, lenO_nI (by have := (yN_eq h hp).1; omega), (yN_eq h hp).2, an15 (by have := (yN_eq h hp).1; omega), lo3_mod (by have := (yN_eq h hp).1; omega), lo3_mod (by omega)]
  rcases wd_cases h (Nat.le_of_lt hp) with ⟨h1, h2, h4⟩ | ⟨h1, h2, h4, h5, h6⟩ | ⟨h1, h2, h4, h5, h6, h7⟩ | ⟨h1, h2, h4, h5, h6⟩
  · omega
  · rw [h2, h4, show yN (τ 1) p * 256 / 4096 = yN (τ 1) p / 16 by omega, show yN (τ 1) p * 256 % 256 = 0 by omega, show yN (τ 1) p * 256 / 256 = yN (τ 1) p by omega]
    exact ⟨rfl, rfl, rfl, by omega⟩
  · rw [h2, h4, show (yN (τ 1) p * 256 + yN (τ 1) (p + 1)) / 4096 = yN (τ 1) p / 16 by omega, show (yN (τ 1) p * 256 + yN (τ 1) (p + 1)) % 256 = yN (τ 1) (p + 1) by omega, show (yN (τ 1) p * 256 + yN (τ 1) (p + 1)) / 256 = yN (τ 1) p by omega, nI_1, nI_clamp (by omega), ← (yN_eq h h1).2]
    exact ⟨rfl, rfl, rfl, by omega⟩
  · rw [h4] at hk; omega
theorem do_sim {d : Int32} {σ τ : St} (R : Rel d 0 σ τ) (h4 : τ 0 4 = 0) : (doM τ).2 = dwB σ (wdm (σ 1) (σ 0 3)) ∧ Rel (if dwB σ (wdm (σ 1) (σ 0 3)) then d + 1 else d) 0 (dwO σ (wdm (σ 1) (σ 0 3))) (doM τ).1 := by
  have hRB : RB (τ 1) := by rw [← R.m]; exact R.y
  have outside : wdm (σ 1) (σ 0 3) = 65536 → ftM τ (τ 0 3) = 3 → (doM τ).2 = dwB σ (wdm (σ 1) (σ 0 3)) ∧ Rel (if dwB σ (wdm (σ 1) (σ 0 3)) then d + 1 else d) 0 (dwO σ (wdm (σ 1) (σ 0 3))) (doM τ).1 := by
    intro e1 e2
    have hs : stB σ (wKd (wdm (σ 1) (σ 0 3))) (lo3 (wSe (wdm (σ 1) (σ 0 3)))) = 4 := by
      rw [e1, show wKd 65536 = 16 by decide]
      unfold stB
      rw [if_neg (by decide), if_pos rfl]
    obtain ⟨a, b⟩ := dw_no hs (by decide)
    rw [a, b, doM_1 (by rw [e2]; decide), e2, if_neg (by decide)]
    exact ⟨rfl, R.st _⟩
  cases hx : inM (σ 0 3) with
  | false => exact outside (by unfold wdm; rw [hx]; rfl) (by rw [← R.h.p]; exact ft_out hx)
  | true =>
    obtain ⟨p, hp, ep⟩ := inM_of hx
    have ep2 : τ 0 3 = nI p := R.h.p.symm.trans ep
    have hW := wdN_lt hRB p
    have ew : wdm (σ 1) (σ 0 3) = nI (wdN (τ 1) p) := by rw [ep, R.m]; exact wdm_nI hRB (Nat.le_of_lt hp)
    have hf := ft_nI hRB (Nat.le_of_lt hp)
    by_cases h16 : wdN (τ 1) p / 4096 = 16
    · have : wdN (τ 1) p = 65536 := by omega
      exact outside (by rw [ew, this]; rfl) (by rw [ep2, hf, if_pos h16])
    · rw [if_neg h16] at hf
      have eK : wKd (wdm (σ 1) (σ 0 3)) = nI (wdN (τ 1) p / 4096) := by rw [ew]; exact sh12 (by omega)
      have eL : wLo (wdm (σ 1) (σ 0 3)) = nI (wdN (τ 1) p / 256 % 16) := by rw [ew]; unfold wLo; rw [sh8r (by omega), an15 (by omega)]
      have eS : wSe (wdm (σ 1) (σ 0 3)) = nI (wdN (τ 1) p % 256) := by rw [ew]; exact an255 (by omega)
      have q0 : nI (wdN (τ 1) p / 4096) = 0 ↔ wdN (τ 1) p / 4096 = 0 := nI_eq (b := 0) (by omega) (by omega)
      have q4 : nI (wdN (τ 1) p / 4096) = 4 ↔ wdN (τ 1) p / 4096 = 4 := nI_eq (b := 4) (by omega) (by omega)
      have q5 : nI (wdN (τ 1) p / 4096) = 5 ↔ wdN (τ 1) p / 4096 = 5 := nI_eq (b := 5) (by omega) (by omega)
      have q7 : nI (wdN (τ 1) p / 4096) = 7 ↔ wdN (τ 1) p / 4096 = 7 := nI_eq (b := 7) (by omega) (by omega)
      have q16 : nI (wdN (τ 1) p / 4096) = 16 ↔ wdN (τ 1) p / 4096 = 16 := nI_eq (b := 16) (by omega) (by omega)
      have q12 : 12 ≤ nI (wdN (τ 1) p / 4096) ↔ 12 ≤ wdN (τ 1) p / 4096 := nI_leI (a := 12) (by omega) (by omega)
      by_cases h12 : 12 ≤ wdN (τ 1) p / 4096
      · rw [if_pos h12, ← ep2] at hf
        have hs : stB σ (wKd (wdm (σ 1) (σ 0 3))) (lo3 (wSe (wdm (σ 1) (σ 0 3)))) = 3 := by
          rw [eK]
          unfold stB
          rw [if_neg (fun q => by have := q0.mp q; omega), if_neg (fun q => h16 (q16.mp q)), if_pos (q12.mpr h12)]
        obtain ⟨a, b⟩ := dw_no hs (by decide)
        rw [a, b, doM_1 (by rw [hf]; decide), hf, if_neg (by decide)]
        exact ⟨rfl, R.st _⟩
      · rw [if_neg h12, ← ep2] at hf
        have hf' : ftM τ (τ 0 3) ≤ 0 := by rw [hf]; decide
        obtain ⟨k1, k2, k3, k4⟩ := wd_low hRB hp ep2 (by omega)
        have kS : dSv τ = σ 2 (lo3 (wSe (wdm (σ 1) (σ 0 3)))) := by unfold dSv; rw [k2, ← eS, R.r]
        have kR : dNr τ = bzt (wSe (wdm (σ 1) (σ 0 3))) := by rw [near_eq, k2, ← eS]
        rw [← eL] at k3 k4
        by_cases h0 : wdN (τ 1) p / 4096 = 0
        · have hs : stB σ (wKd (wdm (σ 1) (σ 0 3))) (lo3 (wSe (wdm (σ 1) (σ 0 3)))) = 1 := by
            rw [eK]
            unfold stB
            rw [if_pos (q0.mpr h0)]
          obtain ⟨a, b⟩ := dw_no hs (by decide)
          rw [a, b, doM_2 hf' (by rw [k1]; exact q0.mpr h0), if_neg (by decide)]
          exact ⟨rfl, R.st _⟩
        · have hk0 : ¬ dKd τ = 0 := by rw [k1]; exact fun q => h0 (q0.mp q)
          by_cases hc : (wdN (τ 1) p / 4096 = 4 ∨ wdN (τ 1) p / 4096 = 5) ∧ inM (σ 2 (lo3 (wSe (wdm (σ 1) (σ 0 3))))) = false
          · have hs : stB σ (wKd (wdm (σ 1) (σ 0 3))) (lo3 (wSe (wdm (σ 1) (σ 0 3)))) = 2 := by
              rw [eK]
              unfold stB
              rw [if_neg (fun q => h0 (q0.mp q)), if_neg (fun q => h16 (q16.mp q)), if_neg (fun q => h12 (q12.mp q)), if_pos ⟨hc.1.imp q4.mpr q5.mpr, hc.2⟩]
            obtain ⟨a, b⟩ := dw_no hs (by decide)
            rw [a, b, doM_3 hf' hk0 (by rw [k1]; exact hc.1.imp q4.mpr q5.mpr) (by rw [kS]; exact hc.2), if_neg (by decide)]
            exact ⟨rfl, R.st _⟩
          · have hs : stB σ (wKd (wdm (σ 1) (σ 0 3))) (lo3 (wSe (wdm (σ 1) (σ 0 3)))) = 0 := by
              rw [eK]
              unfold stB
              rw [if_neg (fun q => h0 (q0.mp q)), if_neg (fun q => h16 (q16.mp q)), if_neg (fun q => h12 (q12.mp q)), if_neg (fun q => hc ⟨q.1.imp q4.mp q5.mp, q.2⟩)]
            obtain ⟨a, b⟩ := dw_yes hs
            have hin : wdN (τ 1) p / 4096 = 4 ∨ wdN (τ 1) p / 4096 = 5 → inM (σ 2 (lo3 (wSe (wdm (σ 1) (σ 0 3))))) = true := fun q => by
              cases hz : inM (σ 2 (lo3 (wSe (wdm (σ 1) (σ 0 3))))) with
              | true => rfl
              | false => exact absurd ⟨q, hz⟩ hc
            rw [a, b, if_pos rfl]
            have R1 : Rel d 0 (dwS σ (wdm (σ 1) (σ 0 3))) τ := by unfold dwS; rw [hs]; exact R.st0 h4
            have R2 : Rel d 0 (dwP σ (wdm (σ 1) (σ 0 3))) (dPl τ) := by
              unfold dwP dPl
              rw [k1, ← eK, szO_eq, ← R1.h.p]
              exact R1.pl _
            have eS2 : dwP σ (wdm (σ 1) (σ 0 3)) 2 = σ 2 := rfl
            unfold dwQ
            by_cases h7 : wdN (τ 1) p / 4096 = 7
            · rw [doM_4 hf' (by rw [k1]; exact q7.mpr h7)]
              refine ⟨rfl, ?_⟩
              have e7 : pfM (dwP σ (wdm (σ 1) (σ 0 3))) (wKd (wdm (σ 1) (σ 0 3))) (wLo (wdm (σ 1) (σ 0 3))) (wSe (wdm (σ 1) (σ 0 3))) = if hlD (dwP σ (wdm (σ 1) (σ 0 3))) (wLo (wdm (σ 1) (σ 0 3))) then s2 (dwP σ (wdm (σ 1) (σ 0 3))) 0 3 (dwP σ (wdm (σ 1) (σ 0 3)) 0 3 + bzt (wSe (wdm (σ 1) (σ 0 3)))) else dwP σ (wdm (σ 1) (σ 0 3)) := by
                rw [eK, q7.mpr h7]; rfl
              rw [e7, k3, kR, ho_eq R2]
              cases hl : hlD (dwP σ (wdm (σ 1) (σ 0 3))) (wLo (wdm (σ 1) (σ 0 3))) with
              | true =>
                rw [if_pos rfl, if_neg (by decide), ← R2.h.p]
                exact (R2.pl _).step
              | false =>
                rw [if_neg (by decide), if_pos (show bN false = 0 from rfl), Int32.add_zero]
                have R3 : Rel d 0 (dwP σ (wdm (σ 1) (σ 0 3))) (s2 (dPl τ) 0 3 (dPl τ 0 3)) := R2.or ⟨R2.h.p, R2.h.s, R2.h.z, R2.h.l, R2.h.c6, R2.h.c7, R2.h.c8, R2.h.c9, R2.h.c10, R2.h.c11⟩
                exact R3.step
            · rw [doM_5 hf' hk0 (by rw [k1, kS]; exact fun q => hin (q.imp q4.mp q5.mp)) (by rw [k1]; exact fun q => h7 (q7.mp q)), k1, k4, kS, kR, eK]
              refine ⟨rfl, ?_⟩
              have := pf_wo R2 h0 h7 (by omega) (wLo (wdm (σ 1) (σ 0 3))) (wSe (wdm (σ 1) (σ 0 3))) (by rw [eS2]; exact hin)
              rw [eS2] at this
              exact this.step
