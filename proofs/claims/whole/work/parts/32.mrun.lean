theorem k_M_run : CKV y_M_run c_M_run 4 (some .int) 1 := ⟨q_430, q_3, q_428, q_429, ⟨by decide +kernel, by decide +kernel, by decide +kernel⟩⟩
set_option maxHeartbeats 4000000 in
set_option maxRecDepth 100000 in
theorem ct_M_run {l : Launch} {D : va_G} {cI cB cZ cJ : ClassId} {a : Nat → Nat} {τ : St} (hZ : ZB τ) (hM : MI τ) (x : Int32) : GCi l y_M_run (Cond.code y_M_run c_M_run 4 (some .int) :: tbW) ({ frames := 6, cells := 0, slots := 0, locals := 130 }) 0 0 D vCl (TY cI cB cZ cJ) [.ref (a 0), .int x] (mw a cI cZ τ) (fun r u => (inR x 1 100 = false ∧ r = 0 ∧ u = mw a cI cZ (s2 τ 0 0 1)) ∨ ∃ N : Nat, 1 ≤ N ∧ N ≤ 100 ∧ x = nI N ∧ r = nI (ouL N N 0 (s2 τ 0 0 0)).2 ∧ u = mw a cI cZ (s2 (ouL N N 0 (s2 τ 0 0 0)).1 0 13 ((ouL N N 0 (s2 τ 0 0 0)).1 0 13 + nI (ouL N N 0 (s2 τ 0 0 0)).2))) := by
  refine gc_body (Qc := gc_Qi D vCl (TY cI cB cZ cJ) (mw a cI cZ τ) (fun r u => (inR x 1 100 = false ∧ r = 0 ∧ u = mw a cI cZ (s2 τ 0 0 1)) ∨ ∃ N : Nat, 1 ≤ N ∧ N ≤ 100 ∧ x = nI N ∧ r = nI (ouL N N 0 (s2 τ 0 0 0)).2 ∧ u = mw a cI cZ (s2 (ouL N N 0 (s2 τ 0 0 0)).1 0 13 ((ouL N N 0 (s2 τ 0 0 0)).1 0 13 + nI (ouL N N 0 (s2 τ 0 0 0)).2)))) (cc := c_M_run) (maxL := 4) (ret := (some .int)) (by decide) rfl (by simp [Value.category]) (Nat.le_of_ble_eq_true rfl) ?_
  intro p e s m args below meth c F
  have hx := F.1
  have hb := F.2.1
  refine gj_ld (i := 0) (pc2 := 1) rfl (fun _ _ _ h9 => lv_aload_n hx hb d_M_run_0 rfl h9) ?_
  refine gj_ld (i := 1) (pc2 := 2) rfl (fun _ _ _ h9 => lv_iload_n hx hb d_M_run_1 rfl h9) ?_
  refine gj_l (pc2 := 3) (fun _ _ _ => lv_iconst (v := 1) hx hb d_M_run_2 (by decide)) ?_
  refine gj_l (pc2 := 5) (fun _ _ _ => lv_bipush (v := (100)) hx hb d_M_run_3 (by decide)) ?_
  refine bj_s F k_M_in d_M_run_5 q_400 (ct_M_in _ _ _) (rmo rfl) rfl rfl (Nat.le_of_ble_eq_true rfl) (Nat.zero_le _) (Nat.zero_le _) rfl (fun r9 e9 => ?_)
  subst e9
  refine gj_if (pc2 := 15) (pc3 := 11) (fun _ _ _ => lv_if_ne (tgt := 15) hx hb d_M_run_8 (by decide)) (fun h8 => ?_) (fun h8 => ?_)
  · refine gj_l (pc2 := 16) (fun _ _ _ => lv_iconst (v := 0) hx hb d_M_run_15 (by decide)) ?_
    refine gj_l (pc2 := 17) (fun _ _ _ => lv_iconst (v := 0) hx hb d_M_run_16 (by decide)) ?_
    refine bj_vi F k_M_throwing d_M_run_17 q_403 (mw_at (i := 0) (by omega)) rfl (ct_M_throwing _ _) (rmo rfl) rfl rfl (Nat.le_of_ble_eq_true rfl) (Nat.zero_le _) (Nat.zero_le _) rfl (fun r9 u9 e9 => ?_)
    obtain ⟨rfl, rfl⟩ := e9
    refine gj_if (pc2 := 25) (pc3 := 23) (fun _ _ _ => lv_if_eq (tgt := 25) hx hb d_M_run_20 (by decide)) (fun h20 => ?_) (fun h20 => ?_)
    · obtain ⟨N, hN1, hN2, rfl⟩ := inR_100 (bN_n0.mp h8)
      refine gj_l (pc2 := 26) (fun _ _ _ => lv_iconst (v := 0) hx hb d_M_run_25 (by decide)) ?_
      refine gj_st (i := 2) (pc2 := 27) (Nat.le_of_ble_eq_true rfl) rfl (fun _ _ _ _ _ h9 l9 => lv_istore_n hx hb d_M_run_26 rfl h9 (Nat.le_of_ble_eq_true rfl) l9) ?_
      refine gj_fuel (T := Nat × St) (fun t => mw a cI cZ t.2) (fun t => [.ref (a 0), .int (nI N), .int (nI t.1)]) (fun f t => ouL N f t.1 t.2 = (ouL N N 0 (s2 τ 0 0 0)) ∧ t.1 ≤ N ∧ ZB t.2 ∧ MI t.2 ∧ (t.2 0 4 = 0 → N ≤ t.1 + f)) (fun f t hv ih => ?_) N (0, s2 τ 0 0 0) ⟨rfl, Nat.zero_le N, hZ.of rfl rfl, fun k hk h3 => hM k hk h3, fun _ => by dsimp only; omega⟩
      obtain ⟨d, φ⟩ := t
      obtain ⟨hR, hd9, hZ1, hM1, hF⟩ := hv
      dsimp only at hR hd9 hZ1 hM1 hF ⊢
      refine gj_ld (i := 0) (pc2 := 28) rfl (fun _ _ _ h9 => lv_aload_n hx hb d_M_run_27 rfl h9) ?_
      refine mj_gi F 4 rfl d_M_run_28 q_334 rfl ?_
      refine gj_if (pc2 := 105) (pc3 := 34) (fun _ _ _ => lv_if_ne (tgt := 105) hx hb d_M_run_31 (by decide)) (fun h31 => ?_) (fun h31 => ?_)
      · have hR0 : (φ, d) = (ouL N N 0 (s2 τ 0 0 0)) := by cases f with | zero => exact hR | succ f => rw [ouL, if_neg (fun h => h31 h.1)] at hR; exact hR
        refine gj_ld (i := 0) (pc2 := 106) rfl (fun _ _ _ h9 => lv_aload_n hx hb d_M_run_105 rfl h9) ?_
        refine gj_l (pc2 := 107) (fun _ _ _ => lv_dup hx hb d_M_run_106 rfl) ?_
        refine mj_gi F 13 rfl d_M_run_107 q_343 rfl ?_
        refine gj_ld (i := 2) (pc2 := 111) rfl (fun _ _ _ h9 => lv_iload_n hx hb d_M_run_110 rfl h9) ?_
        refine gj_l (pc2 := 112) (fun _ _ _ => lv_iadd hx hb d_M_run_111) ?_
        refine mj_pi F 13 rfl d_M_run_112 q_343 rfl ?_
        refine gj_ld (i := 2) (pc2 := 116) rfl (fun _ _ _ h9 => lv_iload_n hx hb d_M_run_115 rfl h9) ?_
        exact gj_iret F d_M_run_116 (Nat.le_refl _) (Nat.le_refl _) (Or.inr ⟨N, hN1, hN2, rfl, by rw [← hR0], by rw [← hR0]⟩)
      · refine gj_ld (i := 2) (pc2 := 35) rfl (fun _ _ _ h9 => lv_iload_n hx hb d_M_run_34 rfl h9) ?_
        refine gj_ld (i := 1) (pc2 := 36) rfl (fun _ _ _ h9 => lv_iload_n hx hb d_M_run_35 rfl h9) ?_
        refine gj_if (pc2 := 105) (pc3 := 39) (fun _ _ _ => lv_icmp_ge (tgt := 105) hx hb d_M_run_36 (by decide)) (fun h36 => ?_) (fun h36 => ?_)
        · have h37 := nI_ge_of h36 (by omega) (by omega)
          have hR0 : (φ, d) = (ouL N N 0 (s2 τ 0 0 0)) := by cases f with | zero => exact hR | succ f => rw [ouL, if_neg (fun h => absurd h.2 (by omega))] at hR; exact hR
          refine gj_ld (i := 0) (pc2 := 106) rfl (fun _ _ _ h9 => lv_aload_n hx hb d_M_run_105 rfl h9) ?_
          refine gj_l (pc2 := 107) (fun _ _ _ => lv_dup hx hb d_M_run_106 rfl) ?_
          refine mj_gi F 13 rfl d_M_run_107 q_343 rfl ?_
          refine gj_ld (i := 2) (pc2 := 111) rfl (fun _ _ _ h9 => lv_iload_n hx hb d_M_run_110 rfl h9) ?_
          refine gj_l (pc2 := 112) (fun _ _ _ => lv_iadd hx hb d_M_run_111) ?_
          refine mj_pi F 13 rfl d_M_run_112 q_343 rfl ?_
          refine gj_ld (i := 2) (pc2 := 116) rfl (fun _ _ _ h9 => lv_iload_n hx hb d_M_run_115 rfl h9) ?_
          exact gj_iret F d_M_run_116 (Nat.le_refl _) (Nat.le_refl _) (Or.inr ⟨N, hN1, hN2, rfl, by rw [← hR0], by rw [← hR0]⟩)
        · have hdN := nI_lt_of h36 (by omega)
          have hfN := hF h31
          obtain ⟨g, rfl⟩ : ∃ g, f = g + 1 := ⟨f - 1, by omega⟩
          rw [ouL, if_pos ⟨h31, hdN⟩] at hR
          obtain ⟨hS1, hS2, hS3, hS5, hS4, hS12, hSZ⟩ := ouS_f hM1
          refine gj_ld (i := 0) (pc2 := 40) rfl (fun _ _ _ h9 => lv_aload_n hx hb d_M_run_39 rfl h9) ?_
          refine bj_vv F k_M_find d_M_run_40 q_431 (mw_at (i := 0) (by omega)) rfl ct_M_find (rmo rfl) rfl rfl (Nat.le_of_ble_eq_true rfl) (Nat.zero_le _) (Nat.zero_le _) rfl (fun u9 e9 => ?_)
          subst e9
          refine gj_ld (i := 0) (pc2 := 44) rfl (fun _ _ _ h9 => lv_aload_n hx hb d_M_run_43 rfl h9) ?_
          refine mj_gr F 9 rfl d_M_run_44 q_339 rfl ?_
          refine gj_ld (i := 0) (pc2 := 48) rfl (fun _ _ _ h9 => lv_aload_n hx hb d_M_run_47 rfl h9) ?_
          refine mj_gi F 11 rfl d_M_run_48 q_341 rfl ?_
          refine mj_ld F 5 32 (kAt (φ 0 3)) (by omega) rfl (by decide) (fiM_11 φ) (kAt_lt _) d_M_run_51 rfl ?_
          rw [hS5]
          refine gj_st (i := 3) (pc2 := 53) (Nat.le_of_ble_eq_true rfl) rfl (fun _ _ _ _ _ h9 l9 => lv_istore_n hx hb d_M_run_52 rfl h9 (Nat.le_of_ble_eq_true rfl) l9) ?_
          refine gj_ld (i := 0) (pc2 := 54) rfl (fun _ _ _ h9 => lv_aload_n hx hb d_M_run_53 rfl h9) ?_
          refine gj_l (pc2 := 55) (fun _ _ _ => lv_iconst (v := 0) hx hb d_M_run_54 (by decide)) ?_
          refine mj_pz F 12 rfl (by first | exact ⟨rfl, rfl⟩ | exact bN_f _) d_M_run_55 q_342 rfl ?_
          refine gj_fuel (T := Nat × Nat × St) (fun t => mw a cI cZ t.2.2) (fun t => [.ref (a 0), .int (nI N), .int (nI t.2.1), .int (nI t.1)]) (fun f t => t.1 = f ∧ f ≤ 12 ∧ inL N f t.2.1 t.2.2 = inL N (ouW φ) d (ouS φ) ∧ t.2.1 ≤ N ∧ ZB t.2.2 ∧ MI t.2.2) (fun f2 t2 hv2 ih2 => ?_) (ouW φ) (ouW φ, d, ouS φ) ⟨rfl, hS3, rfl, hd9, hSZ hZ1, hS1⟩
          obtain ⟨g2, d2, υ⟩ := t2
          obtain ⟨rfl, hg12, hR1, hd2, hZ2, hM2⟩ := hv2
          dsimp only at hg12 hR1 hd2 hZ2 hM2 ⊢
          refine gj_ld (i := 3) (pc2 := 59) rfl (fun _ _ _ h9 => lv_iload_n hx hb d_M_run_58 rfl h9) ?_
          refine gj_if (pc2 := 102) (pc3 := 62) (fun _ _ _ => lv_if_le (tgt := 102) hx hb d_M_run_59 (by decide)) (fun h59 => ?_) (fun h59 => ?_)
          · have hg0 : g2 = 0 := by
              rcases Nat.lt_or_ge 0 g2 with z | z
              · exact absurd h59 (nI_nle z (by omega))
              · omega
            subst hg0
            rw [inL] at hR1
            refine gj_l (pc2 := 27) (fun _ _ _ => lv_goto (tgt := 27) hx hb d_M_run_102 (by decide)) ?_
            refine gj_eq (L2 := [.ref (a 0), .int (nI N), .int (nI d2)] ++ [.int (nI 0)]) rfl rfl rfl (gj_drop (ih g (d2, υ) rfl ⟨?_, ?_, ?_, ?_, ?_⟩))
            · dsimp only
              rw [← hR, ← hR1]
            · have := inL_le N (ouW φ) d (ouS φ) hd9
              rw [← hR1] at this
              exact this.2
            · exact hZ2
            · exact hM2
            · intro h0
              have := inL_go (n := N) (f := ouW φ - 1) (d := d) (τ := ouS φ) (by rw [hS4]; exact h31) hdN hS12
              rw [show ouW φ - 1 + 1 = ouW φ by omega, ← hR1] at this
              have h5 := this h0
              dsimp only at h5 ⊢
              omega
          · obtain ⟨g3, rfl⟩ : ∃ g3, g2 = g3 + 1 := ⟨g2 - 1, by
              rcases Nat.lt_or_ge 0 g2 with z | z
              · omega
              · have : g2 = 0 := by omega
                subst this
                exact absurd (show nI 0 ≤ 0 from by decide) h59⟩
            refine gj_ld (i := 0) (pc2 := 63) rfl (fun _ _ _ h9 => lv_aload_n hx hb d_M_run_62 rfl h9) ?_
            refine mj_gi F 4 rfl d_M_run_63 q_334 rfl ?_
            refine gj_if (pc2 := 102) (pc3 := 69) (fun _ _ _ => lv_if_ne (tgt := 102) hx hb d_M_run_66 (by decide)) (fun h66 => ?_) (fun h66 => ?_)
            · rw [inL, if_neg (fun h => h66 h.1)] at hR1
              refine gj_l (pc2 := 27) (fun _ _ _ => lv_goto (tgt := 27) hx hb d_M_run_102 (by decide)) ?_
              refine gj_eq (L2 := [.ref (a 0), .int (nI N), .int (nI d2)] ++ [.int (nI (g3 + 1))]) rfl rfl rfl (gj_drop (ih g (d2, υ) rfl ⟨?_, ?_, ?_, ?_, ?_⟩))
              · dsimp only
                rw [← hR, ← hR1]
              · have := inL_le N (ouW φ) d (ouS φ) hd9
                rw [← hR1] at this
                exact this.2
              · exact hZ2
              · exact hM2
              · intro h0
                have := inL_go (n := N) (f := ouW φ - 1) (d := d) (τ := ouS φ) (by rw [hS4]; exact h31) hdN hS12
                rw [show ouW φ - 1 + 1 = ouW φ by omega, ← hR1] at this
                have h5 := this h0
                dsimp only at h5 ⊢
                omega
            · refine gj_ld (i := 2) (pc2 := 70) rfl (fun _ _ _ h9 => lv_iload_n hx hb d_M_run_69 rfl h9) ?_
              refine gj_ld (i := 1) (pc2 := 71) rfl (fun _ _ _ h9 => lv_iload_n hx hb d_M_run_70 rfl h9) ?_
              refine gj_if (pc2 := 102) (pc3 := 74) (fun _ _ _ => lv_icmp_ge (tgt := 102) hx hb d_M_run_71 (by decide)) (fun h71 => ?_) (fun h71 => ?_)
              · have h72 := nI_ge_of h71 (by omega) (by omega)
                rw [inL, if_neg (fun h => absurd h.2.1 (by omega))] at hR1
                refine gj_l (pc2 := 27) (fun _ _ _ => lv_goto (tgt := 27) hx hb d_M_run_102 (by decide)) ?_
                refine gj_eq (L2 := [.ref (a 0), .int (nI N), .int (nI d2)] ++ [.int (nI (g3 + 1))]) rfl rfl rfl (gj_drop (ih g (d2, υ) rfl ⟨?_, ?_, ?_, ?_, ?_⟩))
                · dsimp only
                  rw [← hR, ← hR1]
                · have := inL_le N (ouW φ) d (ouS φ) hd9
                  rw [← hR1] at this
                  exact this.2
                · exact hZ2
                · exact hM2
                · intro h0
                  have := inL_go (n := N) (f := ouW φ - 1) (d := d) (τ := ouS φ) (by rw [hS4]; exact h31) hdN hS12
                  rw [show ouW φ - 1 + 1 = ouW φ by omega, ← hR1] at this
                  have h5 := this h0
                  dsimp only at h5 ⊢
                  omega
              · have hd3 := nI_lt_of h71 (by omega)
                refine gj_ld (i := 0) (pc2 := 75) rfl (fun _ _ _ h9 => lv_aload_n hx hb d_M_run_74 rfl h9) ?_
                refine mj_gi F 12 rfl d_M_run_75 q_342 rfl ?_
                refine gj_if (pc2 := 102) (pc3 := 81) (fun _ _ _ => lv_if_ne (tgt := 102) hx hb d_M_run_78 (by decide)) (fun h78 => ?_) (fun h78 => ?_)
                · rw [inL, if_neg (fun h => h78 h.2.2)] at hR1
                  refine gj_l (pc2 := 27) (fun _ _ _ => lv_goto (tgt := 27) hx hb d_M_run_102 (by decide)) ?_
                  refine gj_eq (L2 := [.ref (a 0), .int (nI N), .int (nI d2)] ++ [.int (nI (g3 + 1))]) rfl rfl rfl (gj_drop (ih g (d2, υ) rfl ⟨?_, ?_, ?_, ?_, ?_⟩))
                  · dsimp only
                    rw [← hR, ← hR1]
                  · have := inL_le N (ouW φ) d (ouS φ) hd9
                    rw [← hR1] at this
                    exact this.2
                  · exact hZ2
                  · exact hM2
                  · intro h0
                    have := inL_go (n := N) (f := ouW φ - 1) (d := d) (τ := ouS φ) (by rw [hS4]; exact h31) hdN hS12
                    rw [show ouW φ - 1 + 1 = ouW φ by omega, ← hR1] at this
                    have h5 := this h0
                    dsimp only at h5 ⊢
                    omega
                · rw [inL, if_pos ⟨h66, hd3, h78⟩] at hR1
                  refine gj_ld (i := 2) (pc2 := 82) rfl (fun _ _ _ h9 => lv_iload_n hx hb d_M_run_81 rfl h9) ?_
                  refine gj_ld (i := 0) (pc2 := 83) rfl (fun _ _ _ h9 => lv_aload_n hx hb d_M_run_82 rfl h9) ?_
                  refine bj_vi F k_M_does d_M_run_83 q_450 (mw_at (i := 0) (by omega)) rfl (ct_M_does hZ2) (rmo rfl) rfl rfl (Nat.le_of_ble_eq_true rfl) (Nat.zero_le _) (Nat.zero_le _) rfl (fun r9 u9 e9 => ?_)
                  obtain ⟨rfl, rfl⟩ := e9
                  refine gj_if (pc2 := 93) (pc3 := 89) (fun _ _ _ => lv_if_eq (tgt := 93) hx hb d_M_run_86 (by decide)) (fun h86 => ?_) (fun h86 => ?_)
                  · have hB := bN_0.mp h86
                    rw [hB] at hR1
                    refine gj_l (pc2 := 94) (fun _ _ _ => lv_iconst (v := 0) hx hb d_M_run_93 (by decide)) ?_
                    refine gj_l (pc2 := 95) (fun _ _ _ => lv_iadd hx hb d_M_run_94) ?_
                    refine gj_st (i := 2) (pc2 := 96) (Nat.le_of_ble_eq_true rfl) rfl (fun _ _ _ _ _ h9 l9 => lv_istore_n hx hb d_M_run_95 rfl h9 (Nat.le_of_ble_eq_true rfl) l9) ?_
                    refine gj_iinc (pc2 := 99) hx hb d_M_run_96 (Nat.le_of_ble_eq_true rfl) rfl (pk_m1 g3) rfl ?_
                    refine gj_l (pc2 := 58) (fun _ _ _ => lv_goto (tgt := 58) hx hb d_M_run_99 (by decide)) ?_
                    exact gj_eq (L2 := [.ref (a 0), .int (nI N), .int (nI (d2 + 0)), .int (nI g3)]) rfl (by rw [show nI (d2 + 0) = nI d2 + 0 from (Int32.add_zero _).symm]; rfl) rfl (ih2 g3 (g3, d2 + 0, (doM υ).1) rfl ⟨rfl, by omega, hR1, by dsimp only; omega, (pz_do υ).2.2.1 hZ2, hM2.pz (pz_do υ)⟩)
                  · have hB := bN_n0.mp h86
                    rw [hB] at hR1
                    refine gj_l (pc2 := 90) (fun _ _ _ => lv_iconst (v := 1) hx hb d_M_run_89 (by decide)) ?_
                    refine gj_l (pc2 := 94) (fun _ _ _ => lv_goto (tgt := 94) hx hb d_M_run_90 (by decide)) ?_
                    refine gj_l (pc2 := 95) (fun _ _ _ => lv_iadd hx hb d_M_run_94) ?_
                    refine gj_st (i := 2) (pc2 := 96) (Nat.le_of_ble_eq_true rfl) rfl (fun _ _ _ _ _ h9 l9 => lv_istore_n hx hb d_M_run_95 rfl h9 (Nat.le_of_ble_eq_true rfl) l9) ?_
                    refine gj_iinc (pc2 := 99) hx hb d_M_run_96 (Nat.le_of_ble_eq_true rfl) rfl (pk_m1 g3) rfl ?_
                    refine gj_l (pc2 := 58) (fun _ _ _ => lv_goto (tgt := 58) hx hb d_M_run_99 (by decide)) ?_
                    exact gj_eq (L2 := [.ref (a 0), .int (nI N), .int (nI (d2 + 1)), .int (nI g3)]) rfl (by rw [show nI (d2 + 1) = nI d2 + 1 from (nI_1 d2).symm]; rfl) rfl (ih2 g3 (g3, d2 + 1, (doM υ).1) rfl ⟨rfl, by omega, hR1, by dsimp only; omega, (pz_do υ).2.2.1 hZ2, hM2.pz (pz_do υ)⟩)
    · exact absurd h20 (by decide)
  · refine gj_l (pc2 := 12) (fun _ _ _ => lv_iconst (v := 1) hx hb d_M_run_11 (by decide)) ?_
    refine gj_l (pc2 := 16) (fun _ _ _ => lv_goto (tgt := 16) hx hb d_M_run_12 (by decide)) ?_
    refine gj_l (pc2 := 17) (fun _ _ _ => lv_iconst (v := 0) hx hb d_M_run_16 (by decide)) ?_
    refine bj_vi F k_M_throwing d_M_run_17 q_403 (mw_at (i := 0) (by omega)) rfl (ct_M_throwing _ _) (rmo rfl) rfl rfl (Nat.le_of_ble_eq_true rfl) (Nat.zero_le _) (Nat.zero_le _) rfl (fun r9 u9 e9 => ?_)
    obtain ⟨rfl, rfl⟩ := e9
    refine gj_if (pc2 := 25) (pc3 := 23) (fun _ _ _ => lv_if_eq (tgt := 25) hx hb d_M_run_20 (by decide)) (fun h20 => ?_) (fun h20 => ?_)
    · exact absurd h20 (by decide)
    · refine gj_l (pc2 := 24) (fun _ _ _ => lv_iconst (v := 0) hx hb d_M_run_23 (by decide)) ?_
      exact gj_iret F d_M_run_24 (Nat.le_refl _) (Nat.le_refl _) (Or.inl ⟨bN_0.mp h8, rfl, rfl⟩)
