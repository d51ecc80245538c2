theorem inR_8 {x : Int32} (h : inR x 0 11 = true) (h8 : ¬ 8 ≤ x) : ∃ i : Nat, i < 8 ∧ x = nI i := by
  simp only [inR, Bool.and_eq_true, Bool.not_eq_true', decide_eq_false_iff_not] at h
  obtain ⟨i, h3, rfl⟩ := nI_of h.1
  exact ⟨i, nI_lt_of (N := 8) h8 h3, rfl⟩
theorem inR_31 {x : Int32} (h : inR x 0 31 = true) : ∃ i : Nat, i < 32 ∧ x = nI i := by
  simp only [inR, Bool.and_eq_true, Bool.not_eq_true', decide_eq_false_iff_not] at h
  obtain ⟨i, h3, rfl⟩ := nI_of h.1
  exact ⟨i, by
    rcases Nat.lt_or_ge i 32 with z | z
    · exact z
    · exact absurd (nI_lt (a := 31) (b := i) (by omega) h3) h.2, rfl⟩
theorem inR_100 {x : Int32} (h : inR x 1 100 = true) : ∃ i : Nat, 1 ≤ i ∧ i ≤ 100 ∧ x = nI i := by
  simp only [inR, Bool.and_eq_true, Bool.not_eq_true', decide_eq_false_iff_not] at h
  exact in100 h.1 (Int32.not_lt.mp h.2)
theorem lo3_nI {i : Nat} (h : i < 8) : lo3 (nI i) = i := by
  have h1 : nI i &&& 7 = nI (i % 2 ^ 3) := pk_andN (by omega) 3 (by decide)
  unfold lo3
  rw [h1, nI_clamp (by omega)]
  omega

theorem k_M_register : CKV y_M_register c_M_register 2 (some .int) 1 := ⟨q_477, q_3, q_475, q_476, ⟨by decide +kernel, by decide +kernel, by decide +kernel⟩⟩
set_option maxHeartbeats 4000000 in
set_option maxRecDepth 100000 in
theorem ct_M_register {l : Launch} {D : va_G} {cI cB cZ cJ : ClassId} {a : Nat → Nat} {τ : St} (x : Int32) : GCi l y_M_register (Cond.code y_M_register c_M_register 2 (some .int) :: tbW) ({ frames := 1, cells := 0, slots := 0, locals := 22 }) 0 0 D vCl (TY cI cB cZ cJ) [.ref (a 0), .int x] (mw a cI cZ τ) (fun r u => (inR x 0 11 = false ∧ r = 0 ∧ u = mw a cI cZ (s2 τ 0 0 1)) ∨ (inR x 0 11 = true ∧ r = rgM τ x ∧ u = mw a cI cZ (s2 τ 0 0 0))) := by
  refine gc_body (Qc := gc_Qi D vCl (TY cI cB cZ cJ) (mw a cI cZ τ) (fun r u => (inR x 0 11 = false ∧ r = 0 ∧ u = mw a cI cZ (s2 τ 0 0 1)) ∨ (inR x 0 11 = true ∧ r = rgM τ x ∧ u = mw a cI cZ (s2 τ 0 0 0)))) (cc := c_M_register) (maxL := 2) (ret := (some .int)) (by decide) rfl (by simp [Value.category]) (Nat.le_of_ble_eq_true rfl) ?_
  intro p e s m args below meth c F
  have hx := F.1
  have hb := F.2.1
  refine gj_ld (i := 0) (pc2 := 1) rfl (fun _ _ _ h9 => lv_aload_n hx hb d_M_register_0 rfl h9) ?_
  refine gj_ld (i := 1) (pc2 := 2) rfl (fun _ _ _ h9 => lv_iload_n hx hb d_M_register_1 rfl h9) ?_
  refine gj_l (pc2 := 3) (fun _ _ _ => lv_iconst (v := 0) hx hb d_M_register_2 (by decide)) ?_
  refine gj_l (pc2 := 5) (fun _ _ _ => lv_bipush (v := (11)) hx hb d_M_register_3 (by decide)) ?_
  refine bj_s F k_M_in d_M_register_5 q_400 (ct_M_in _ _ _) (rmo rfl) rfl rfl (Nat.le_of_ble_eq_true rfl) (Nat.zero_le _) (Nat.zero_le _) rfl (fun r9 e9 => ?_)
  subst e9
  refine gj_if (pc2 := 15) (pc3 := 11) (fun _ _ _ => lv_if_ne (tgt := 15) hx hb d_M_register_8 (by decide)) (fun h8 => ?_) (fun h8 => ?_)
  · refine gj_l (pc2 := 16) (fun _ _ _ => lv_iconst (v := 0) hx hb d_M_register_15 (by decide)) ?_
    refine gj_l (pc2 := 17) (fun _ _ _ => lv_iconst (v := 0) hx hb d_M_register_16 (by decide)) ?_
    refine bj_vi F k_M_throwing d_M_register_17 q_403 (mw_at (i := 0) (by omega)) rfl (ct_M_throwing _ _) (rmo rfl) rfl rfl (Nat.le_of_ble_eq_true rfl) (Nat.zero_le _) (Nat.zero_le _) rfl (fun r9 u9 e9 => ?_)
    obtain ⟨rfl, rfl⟩ := e9
    refine gj_if (pc2 := 25) (pc3 := 23) (fun _ _ _ => lv_if_eq (tgt := 25) hx hb d_M_register_20 (by decide)) (fun h20 => ?_) (fun h20 => ?_)
    · refine gj_ld (i := 1) (pc2 := 26) rfl (fun _ _ _ h9 => lv_iload_n hx hb d_M_register_25 rfl h9) ?_
      refine gj_l (pc2 := 28) (fun _ _ _ => lv_bipush (v := (8)) hx hb d_M_register_26 (by decide)) ?_
      refine gj_if (pc2 := 38) (pc3 := 31) (fun _ _ _ => lv_icmp_ge (tgt := 38) hx hb d_M_register_28 (by decide)) (fun h28 => ?_) (fun h28 => ?_)
      · refine gj_ld (i := 1) (pc2 := 39) rfl (fun _ _ _ h9 => lv_iload_n hx hb d_M_register_38 rfl h9) ?_
        refine gj_l (pc2 := 41) (fun _ _ _ => lv_bipush (v := (8)) hx hb d_M_register_39 (by decide)) ?_
        refine gj_if (pc2 := 51) (pc3 := 44) (fun _ _ _ => lv_icmp_ne (tgt := 51) hx hb d_M_register_41 (by decide)) (fun h41 => ?_) (fun h41 => ?_)
        · refine gj_ld (i := 1) (pc2 := 52) rfl (fun _ _ _ h9 => lv_iload_n hx hb d_M_register_51 rfl h9) ?_
          refine gj_l (pc2 := 54) (fun _ _ _ => lv_bipush (v := (9)) hx hb d_M_register_52 (by decide)) ?_
          refine gj_if (pc2 := 72) (pc3 := 57) (fun _ _ _ => lv_icmp_ne (tgt := 72) hx hb d_M_register_54 (by decide)) (fun h54 => ?_) (fun h54 => ?_)
          · refine gj_ld (i := 1) (pc2 := 73) rfl (fun _ _ _ h9 => lv_iload_n hx hb d_M_register_72 rfl h9) ?_
            refine gj_l (pc2 := 75) (fun _ _ _ => lv_bipush (v := (10)) hx hb d_M_register_73 (by decide)) ?_
            refine gj_if (pc2 := 93) (pc3 := 78) (fun _ _ _ => lv_icmp_ne (tgt := 93) hx hb d_M_register_75 (by decide)) (fun h75 => ?_) (fun h75 => ?_)
            · refine gj_ld (i := 0) (pc2 := 94) rfl (fun _ _ _ h9 => lv_aload_n hx hb d_M_register_93 rfl h9) ?_
              refine mj_gi F 4 rfl d_M_register_94 q_334 rfl ?_
              exact gj_iret F d_M_register_97 (Nat.le_refl _) (Nat.le_refl _) (Or.inr ⟨bN_n0.mp h8, by unfold rgM; rw [if_neg (Int32.not_lt.mpr h28), if_neg h41, if_neg h54, if_neg h75]; rfl, rfl⟩)
            · refine gj_ld (i := 0) (pc2 := 79) rfl (fun _ _ _ h9 => lv_aload_n hx hb d_M_register_78 rfl h9) ?_
              refine mj_gi F 6 rfl d_M_register_79 q_336 rfl ?_
              refine gj_if (pc2 := 89) (pc3 := 85) (fun _ _ _ => lv_if_eq (tgt := 89) hx hb d_M_register_82 (by decide)) (fun h82 => ?_) (fun h82 => ?_)
              · refine gj_l (pc2 := 90) (fun _ _ _ => lv_iconst (v := 0) hx hb d_M_register_89 (by decide)) ?_
                refine gj_l (pc2 := 97) (fun _ _ _ => lv_goto (tgt := 97) hx hb d_M_register_90 (by decide)) ?_
                exact gj_iret F d_M_register_97 (Nat.le_refl _) (Nat.le_refl _) (Or.inr ⟨bN_n0.mp h8, by unfold rgM; rw [if_neg (Int32.not_lt.mpr h28), if_neg h41, if_neg h54, if_pos h75, if_pos (show τ 0 6 = 0 from h82)], rfl⟩)
              · refine gj_l (pc2 := 86) (fun _ _ _ => lv_iconst (v := 1) hx hb d_M_register_85 (by decide)) ?_
                refine gj_l (pc2 := 97) (fun _ _ _ => lv_goto (tgt := 97) hx hb d_M_register_86 (by decide)) ?_
                exact gj_iret F d_M_register_97 (Nat.le_refl _) (Nat.le_refl _) (Or.inr ⟨bN_n0.mp h8, by unfold rgM; rw [if_neg (Int32.not_lt.mpr h28), if_neg h41, if_neg h54, if_pos h75, if_neg (show ¬ τ 0 6 = 0 from h82)], rfl⟩)
          · refine gj_ld (i := 0) (pc2 := 58) rfl (fun _ _ _ h9 => lv_aload_n hx hb d_M_register_57 rfl h9) ?_
            refine mj_gi F 5 rfl d_M_register_58 q_335 rfl ?_
            refine gj_if (pc2 := 68) (pc3 := 64) (fun _ _ _ => lv_if_eq (tgt := 68) hx hb d_M_register_61 (by decide)) (fun h61 => ?_) (fun h61 => ?_)
            · refine gj_l (pc2 := 69) (fun _ _ _ => lv_iconst (v := 0) hx hb d_M_register_68 (by decide)) ?_
              refine gj_l (pc2 := 97) (fun _ _ _ => lv_goto (tgt := 97) hx hb d_M_register_69 (by decide)) ?_
              exact gj_iret F d_M_register_97 (Nat.le_refl _) (Nat.le_refl _) (Or.inr ⟨bN_n0.mp h8, by unfold rgM; rw [if_neg (Int32.not_lt.mpr h28), if_neg h41, if_pos h54, if_pos (show τ 0 5 = 0 from h61)], rfl⟩)
            · refine gj_l (pc2 := 65) (fun _ _ _ => lv_iconst (v := 1) hx hb d_M_register_64 (by decide)) ?_
              refine gj_l (pc2 := 97) (fun _ _ _ => lv_goto (tgt := 97) hx hb d_M_register_65 (by decide)) ?_
              exact gj_iret F d_M_register_97 (Nat.le_refl _) (Nat.le_refl _) (Or.inr ⟨bN_n0.mp h8, by unfold rgM; rw [if_neg (Int32.not_lt.mpr h28), if_neg h41, if_pos h54, if_neg (show ¬ τ 0 5 = 0 from h61)], rfl⟩)
        · refine gj_ld (i := 0) (pc2 := 45) rfl (fun _ _ _ h9 => lv_aload_n hx hb d_M_register_44 rfl h9) ?_
          refine mj_gi F 3 rfl d_M_register_45 q_333 rfl ?_
          refine gj_l (pc2 := 97) (fun _ _ _ => lv_goto (tgt := 97) hx hb d_M_register_48 (by decide)) ?_
          exact gj_iret F d_M_register_97 (Nat.le_refl _) (Nat.le_refl _) (Or.inr ⟨bN_n0.mp h8, by unfold rgM; rw [if_neg (Int32.not_lt.mpr h28), if_pos h41]; rfl, rfl⟩)
      · have h9 := bN_n0.mp h8
        obtain ⟨i, hi, rfl⟩ := inR_8 h9 h28
        have hlo : lo3 (nI i) = i := lo3_nI hi
        refine gj_ld (i := 0) (pc2 := 32) rfl (fun _ _ _ h9 => lv_aload_n hx hb d_M_register_31 rfl h9) ?_
        refine mj_gr F 2 rfl d_M_register_32 q_332 rfl ?_
        refine gj_ld (i := 1) (pc2 := 36) rfl (fun _ _ _ h9 => lv_iload_n hx hb d_M_register_35 rfl h9) ?_
        refine mj_ld F 2 8 i (by omega) rfl (by decide) rfl hi d_M_register_36 rfl ?_
        exact gj_iret F d_M_register_37 (Nat.le_refl _) (Nat.le_refl _) (Or.inr ⟨h9, by unfold rgM; rw [if_pos (Int32.not_le.mp h28), hlo]; rfl, rfl⟩)
    · exact absurd h20 (by decide)
  · refine gj_l (pc2 := 12) (fun _ _ _ => lv_iconst (v := 1) hx hb d_M_register_11 (by decide)) ?_
    refine gj_l (pc2 := 16) (fun _ _ _ => lv_goto (tgt := 16) hx hb d_M_register_12 (by decide)) ?_
    refine gj_l (pc2 := 17) (fun _ _ _ => lv_iconst (v := 0) hx hb d_M_register_16 (by decide)) ?_
    refine bj_vi F k_M_throwing d_M_register_17 q_403 (mw_at (i := 0) (by omega)) rfl (ct_M_throwing _ _) (rmo rfl) rfl rfl (Nat.le_of_ble_eq_true rfl) (Nat.zero_le _) (Nat.zero_le _) rfl (fun r9 u9 e9 => ?_)
    obtain ⟨rfl, rfl⟩ := e9
    refine gj_if (pc2 := 25) (pc3 := 23) (fun _ _ _ => lv_if_eq (tgt := 25) hx hb d_M_register_20 (by decide)) (fun h20 => ?_) (fun h20 => ?_)
    · exact absurd h20 (by decide)
    · refine gj_l (pc2 := 24) (fun _ _ _ => lv_iconst (v := 0) hx hb d_M_register_23 (by decide)) ?_
      exact gj_iret F d_M_register_24 (Nat.le_refl _) (Nat.le_refl _) (Or.inl ⟨bN_0.mp h8, rfl, rfl⟩)

theorem k_M_row : CKV y_M_row c_M_row 3 (some .int) 2 := ⟨q_481, q_3, q_479, q_480, ⟨by decide +kernel, by decide +kernel, by decide +kernel⟩⟩
set_option maxHeartbeats 4000000 in
set_option maxRecDepth 100000 in
theorem ct_M_row {l : Launch} {D : va_G} {cI cB cZ cJ : ClassId} {a : Nat → Nat} {τ : St} (x z : Int32) : GCi l y_M_row (Cond.code y_M_row c_M_row 3 (some .int) :: tbW) ({ frames := 1, cells := 0, slots := 0, locals := 22 }) 0 0 D vCl (TY cI cB cZ cJ) [.ref (a 0), .int x, .int z] (mw a cI cZ τ) (fun r u => ((inR x 0 31 = false ∨ inR z 0 2 = false) ∧ r = 0 ∧ u = mw a cI cZ (s2 τ 0 0 1)) ∨ ∃ k : Nat, k < 32 ∧ x = nI k ∧ inR z 0 2 = true ∧ r = rwM τ k z ∧ u = mw a cI cZ (s2 τ 0 0 0)) := by
  refine gc_body (Qc := gc_Qi D vCl (TY cI cB cZ cJ) (mw a cI cZ τ) (fun r u => ((inR x 0 31 = false ∨ inR z 0 2 = false) ∧ r = 0 ∧ u = mw a cI cZ (s2 τ 0 0 1)) ∨ ∃ k : Nat, k < 32 ∧ x = nI k ∧ inR z 0 2 = true ∧ r = rwM τ k z ∧ u = mw a cI cZ (s2 τ 0 0 0))) (cc := c_M_row) (maxL := 3) (ret := (some .int)) (by decide) rfl (by simp [Value.category]) (Nat.le_of_ble_eq_true rfl) ?_
  intro p e s m args below meth c F
  have hx := F.1
  have hb := F.2.1
  refine gj_ld (i := 0) (pc2 := 1) rfl (fun _ _ _ h9 => lv_aload_n hx hb d_M_row_0 rfl h9) ?_
  refine gj_ld (i := 1) (pc2 := 2) rfl (fun _ _ _ h9 => lv_iload_n hx hb d_M_row_1 rfl h9) ?_
  refine gj_l (pc2 := 3) (fun _ _ _ => lv_iconst (v := 0) hx hb d_M_row_2 (by decide)) ?_
  refine gj_l (pc2 := 5) (fun _ _ _ => lv_bipush (v := (31)) hx hb d_M_row_3 (by decide)) ?_
  refine bj_s F k_M_in d_M_row_5 q_400 (ct_M_in _ _ _) (rmo rfl) rfl rfl (Nat.le_of_ble_eq_true rfl) (Nat.zero_le _) (Nat.zero_le _) rfl (fun r9 e9 => ?_)
  subst e9
  refine gj_if (pc2 := 20) (pc3 := 11) (fun _ _ _ => lv_if_eq (tgt := 20) hx hb d_M_row_8 (by decide)) (fun h8 => ?_) (fun h8 => ?_)
  · refine gj_l (pc2 := 21) (fun _ _ _ => lv_iconst (v := 1) hx hb d_M_row_20 (by decide)) ?_
    refine gj_l (pc2 := 25) (fun _ _ _ => lv_goto (tgt := 25) hx hb d_M_row_21 (by decide)) ?_
    refine gj_l (pc2 := 26) (fun _ _ _ => lv_iconst (v := 0) hx hb d_M_row_25 (by decide)) ?_
    refine bj_vi F k_M_throwing d_M_row_26 q_403 (mw_at (i := 0) (by omega)) rfl (ct_M_throwing _ _) (rmo rfl) rfl rfl (Nat.le_of_ble_eq_true rfl) (Nat.zero_le _) (Nat.zero_le _) rfl (fun r9 u9 e9 => ?_)
    obtain ⟨rfl, rfl⟩ := e9
    refine gj_if (pc2 := 34) (pc3 := 32) (fun _ _ _ => lv_if_eq (tgt := 34) hx hb d_M_row_29 (by decide)) (fun h29 => ?_) (fun h29 => ?_)
    · exact absurd h29 (by decide)
    · refine gj_l (pc2 := 33) (fun _ _ _ => lv_iconst (v := 0) hx hb d_M_row_32 (by decide)) ?_
      exact gj_iret F d_M_row_33 (Nat.le_refl _) (Nat.le_refl _) (Or.inl ⟨Or.inl (bN_0.mp h8), rfl, rfl⟩)
  · refine gj_ld (i := 2) (pc2 := 12) rfl (fun _ _ _ h9 => lv_iload_n hx hb d_M_row_11 rfl h9) ?_
    refine gj_l (pc2 := 13) (fun _ _ _ => lv_iconst (v := 0) hx hb d_M_row_12 (by decide)) ?_
    refine gj_l (pc2 := 14) (fun _ _ _ => lv_iconst (v := 2) hx hb d_M_row_13 (by decide)) ?_
    refine bj_s F k_M_in d_M_row_14 q_400 (ct_M_in _ _ _) (rmo rfl) rfl rfl (Nat.le_of_ble_eq_true rfl) (Nat.zero_le _) (Nat.zero_le _) rfl (fun r9 e9 => ?_)
    subst e9
    refine gj_if (pc2 := 24) (pc3 := 20) (fun _ _ _ => lv_if_ne (tgt := 24) hx hb d_M_row_17 (by decide)) (fun h17 => ?_) (fun h17 => ?_)
    · refine gj_l (pc2 := 25) (fun _ _ _ => lv_iconst (v := 0) hx hb d_M_row_24 (by decide)) ?_
      refine gj_l (pc2 := 26) (fun _ _ _ => lv_iconst (v := 0) hx hb d_M_row_25 (by decide)) ?_
      refine bj_vi F k_M_throwing d_M_row_26 q_403 (mw_at (i := 0) (by omega)) rfl (ct_M_throwing _ _) (rmo rfl) rfl rfl (Nat.le_of_ble_eq_true rfl) (Nat.zero_le _) (Nat.zero_le _) rfl (fun r9 u9 e9 => ?_)
      obtain ⟨rfl, rfl⟩ := e9
      refine gj_if (pc2 := 34) (pc3 := 32) (fun _ _ _ => lv_if_eq (tgt := 34) hx hb d_M_row_29 (by decide)) (fun h29 => ?_) (fun h29 => ?_)
      · obtain ⟨k, hk, rfl⟩ := inR_31 (bN_n0.mp h8)
        have hz := bN_n0.mp h17
        refine gj_ld (i := 0) (pc2 := 35) rfl (fun _ _ _ h9 => lv_aload_n hx hb d_M_row_34 rfl h9) ?_
        refine mj_gr F 7 rfl d_M_row_35 q_337 rfl ?_
        refine gj_ld (i := 1) (pc2 := 39) rfl (fun _ _ _ h9 => lv_iload_n hx hb d_M_row_38 rfl h9) ?_
        refine mj_zl F k rfl hk d_M_row_39 rfl ?_
        refine gj_if (pc2 := 53) (pc3 := 43) (fun _ _ _ => lv_if_ne (tgt := 53) hx hb d_M_row_40 (by decide)) (fun h40 => ?_) (fun h40 => ?_)
        · refine gj_ld (i := 2) (pc2 := 54) rfl (fun _ _ _ h9 => lv_iload_n hx hb d_M_row_53 rfl h9) ?_
          refine gj_if (pc2 := 66) (pc3 := 57) (fun _ _ _ => lv_if_ne (tgt := 66) hx hb d_M_row_54 (by decide)) (fun h54 => ?_) (fun h54 => ?_)
          · refine gj_ld (i := 2) (pc2 := 67) rfl (fun _ _ _ h9 => lv_iload_n hx hb d_M_row_66 rfl h9) ?_
            refine gj_l (pc2 := 68) (fun _ _ _ => lv_iconst (v := 1) hx hb d_M_row_67 (by decide)) ?_
            refine gj_if (pc2 := 80) (pc3 := 71) (fun _ _ _ => lv_icmp_ne (tgt := 80) hx hb d_M_row_68 (by decide)) (fun h68 => ?_) (fun h68 => ?_)
            · refine gj_ld (i := 0) (pc2 := 81) rfl (fun _ _ _ h9 => lv_aload_n hx hb d_M_row_80 rfl h9) ?_
              refine mj_gr F 10 rfl d_M_row_81 q_340 rfl ?_
              refine gj_ld (i := 1) (pc2 := 85) rfl (fun _ _ _ h9 => lv_iload_n hx hb d_M_row_84 rfl h9) ?_
              refine mj_ld F 6 32 k (by omega) rfl (by decide) rfl hk d_M_row_85 rfl ?_
              exact gj_iret F d_M_row_86 (Nat.le_refl _) (Nat.le_refl _) (Or.inr ⟨k, hk, rfl, hz, by unfold rwM; rw [if_neg (show ¬ τ 3 k = 0 from h40), if_neg h54, if_neg h68]; rfl, rfl⟩)
            · refine gj_ld (i := 0) (pc2 := 72) rfl (fun _ _ _ h9 => lv_aload_n hx hb d_M_row_71 rfl h9) ?_
              refine mj_gr F 9 rfl d_M_row_72 q_339 rfl ?_
              refine gj_ld (i := 1) (pc2 := 76) rfl (fun _ _ _ h9 => lv_iload_n hx hb d_M_row_75 rfl h9) ?_
              refine mj_ld F 5 32 k (by omega) rfl (by decide) rfl hk d_M_row_76 rfl ?_
              refine gj_l (pc2 := 86) (fun _ _ _ => lv_goto (tgt := 86) hx hb d_M_row_77 (by decide)) ?_
              exact gj_iret F d_M_row_86 (Nat.le_refl _) (Nat.le_refl _) (Or.inr ⟨k, hk, rfl, hz, by unfold rwM; rw [if_neg (show ¬ τ 3 k = 0 from h40), if_neg h54, if_pos h68]; rfl, rfl⟩)
          · refine gj_ld (i := 0) (pc2 := 58) rfl (fun _ _ _ h9 => lv_aload_n hx hb d_M_row_57 rfl h9) ?_
            refine mj_gr F 8 rfl d_M_row_58 q_338 rfl ?_
            refine gj_ld (i := 1) (pc2 := 62) rfl (fun _ _ _ h9 => lv_iload_n hx hb d_M_row_61 rfl h9) ?_
            refine mj_ld F 4 32 k (by omega) rfl (by decide) rfl hk d_M_row_62 rfl ?_
            refine gj_l (pc2 := 86) (fun _ _ _ => lv_goto (tgt := 86) hx hb d_M_row_63 (by decide)) ?_
            exact gj_iret F d_M_row_86 (Nat.le_refl _) (Nat.le_refl _) (Or.inr ⟨k, hk, rfl, hz, by unfold rwM; rw [if_neg (show ¬ τ 3 k = 0 from h40), if_pos h54]; rfl, rfl⟩)
        · refine gj_ld (i := 2) (pc2 := 44) rfl (fun _ _ _ h9 => lv_iload_n hx hb d_M_row_43 rfl h9) ?_
          refine gj_if (pc2 := 51) (pc3 := 47) (fun _ _ _ => lv_if_ne (tgt := 51) hx hb d_M_row_44 (by decide)) (fun h44 => ?_) (fun h44 => ?_)
          · refine gj_l (pc2 := 52) (fun _ _ _ => lv_iconst (v := 0) hx hb d_M_row_51 (by decide)) ?_
            exact gj_iret F d_M_row_52 (Nat.le_refl _) (Nat.le_refl _) (Or.inr ⟨k, hk, rfl, hz, by unfold rwM; rw [if_pos (show τ 3 k = 0 from h40), if_neg h44], rfl⟩)
          · refine gj_l (pc2 := 48) (fun _ _ _ => lv_iconst (v := (-1)) hx hb d_M_row_47 (by decide)) ?_
            refine gj_l (pc2 := 52) (fun _ _ _ => lv_goto (tgt := 52) hx hb d_M_row_48 (by decide)) ?_
            exact gj_iret F d_M_row_52 (Nat.le_refl _) (Nat.le_refl _) (Or.inr ⟨k, hk, rfl, hz, by unfold rwM; rw [if_pos (show τ 3 k = 0 from h40), if_pos h44], rfl⟩)
      · exact absurd h29 (by decide)
    · refine gj_l (pc2 := 21) (fun _ _ _ => lv_iconst (v := 1) hx hb d_M_row_20 (by decide)) ?_
      refine gj_l (pc2 := 25) (fun _ _ _ => lv_goto (tgt := 25) hx hb d_M_row_21 (by decide)) ?_
      refine gj_l (pc2 := 26) (fun _ _ _ => lv_iconst (v := 0) hx hb d_M_row_25 (by decide)) ?_
      refine bj_vi F k_M_throwing d_M_row_26 q_403 (mw_at (i := 0) (by omega)) rfl (ct_M_throwing _ _) (rmo rfl) rfl rfl (Nat.le_of_ble_eq_true rfl) (Nat.zero_le _) (Nat.zero_le _) rfl (fun r9 u9 e9 => ?_)
      obtain ⟨rfl, rfl⟩ := e9
      refine gj_if (pc2 := 34) (pc3 := 32) (fun _ _ _ => lv_if_eq (tgt := 34) hx hb d_M_row_29 (by decide)) (fun h29 => ?_) (fun h29 => ?_)
      · exact absurd h29 (by decide)
      · refine gj_l (pc2 := 33) (fun _ _ _ => lv_iconst (v := 0) hx hb d_M_row_32 (by decide)) ?_
        exact gj_iret F d_M_row_33 (Nat.le_refl _) (Nat.le_refl _) (Or.inl ⟨Or.inr (bN_0.mp h17), rfl, rfl⟩)

theorem k_M_forget : CKV y_M_forget c_M_forget 3 (some .int) 0 := ⟨q_485, q_3, q_483, q_484, ⟨by decide +kernel, by decide +kernel, by decide +kernel⟩⟩
set_option maxHeartbeats 4000000 in
set_option maxRecDepth 100000 in
theorem ct_M_forget {l : Launch} {D : va_G} {cI cB cZ cJ : ClassId} {a : Nat → Nat} {τ : St}  : GCi l y_M_forget (Cond.code y_M_forget c_M_forget 3 (some .int) :: tbW) ({ frames := 1, cells := 0, slots := 0, locals := 21 }) 0 0 D vCl (TY cI cB cZ cJ) [.ref (a 0)] (mw a cI cZ τ) (fun r u => r = mfN (s2 τ 0 0 0) 32 ∧ u = mw a cI cZ (mfS (s2 τ 0 0 0) 32)) := by
  refine gc_body (Qc := gc_Qi D vCl (TY cI cB cZ cJ) (mw a cI cZ τ) (fun r u => r = mfN (s2 τ 0 0 0) 32 ∧ u = mw a cI cZ (mfS (s2 τ 0 0 0) 32))) (cc := c_M_forget) (maxL := 3) (ret := (some .int)) (by decide) rfl (by simp [Value.category]) (Nat.le_of_ble_eq_true rfl) ?_
  intro p e s m args below meth c F
  have hx := F.1
  have hb := F.2.1
  refine gj_ld (i := 0) (pc2 := 1) rfl (fun _ _ _ h9 => lv_aload_n hx hb d_M_forget_0 rfl h9) ?_
  refine gj_l (pc2 := 2) (fun _ _ _ => lv_iconst (v := 0) hx hb d_M_forget_1 (by decide)) ?_
  refine mj_pi F 0 rfl d_M_forget_2 q_330 rfl ?_
  refine gj_l (pc2 := 6) (fun _ _ _ => lv_iconst (v := 0) hx hb d_M_forget_5 (by decide)) ?_
  refine gj_st (i := 1) (pc2 := 7) (Nat.le_of_ble_eq_true rfl) rfl (fun _ _ _ _ _ h9 l9 => lv_istore_n hx hb d_M_forget_6 rfl h9 (Nat.le_of_ble_eq_true rfl) l9) ?_
  refine gj_l (pc2 := 8) (fun _ _ _ => lv_iconst (v := 0) hx hb d_M_forget_7 (by decide)) ?_
  refine gj_st (i := 2) (pc2 := 9) (Nat.le_of_ble_eq_true rfl) rfl (fun _ _ _ _ _ h9 l9 => lv_istore_n hx hb d_M_forget_8 rfl h9 (Nat.le_of_ble_eq_true rfl) l9) ?_
  refine gj_loop 32 (fun k => mw a cI cZ (mfS (s2 τ 0 0 0) k)) (fun k => [.ref (a 0), .int (mfN (s2 τ 0 0 0) k), .int (nI k)]) (fun k hk ih => ?_)
  refine gj_ld (i := 2) (pc2 := 10) rfl (fun _ _ _ h9 => lv_iload_n hx hb d_M_forget_9 rfl h9) ?_
  refine gj_l (pc2 := 12) (fun _ _ _ => lv_bipush (v := (32)) hx hb d_M_forget_10 (by decide)) ?_
  refine gj_if (pc2 := 41) (pc3 := 15) (fun _ _ _ => lv_icmp_ge (tgt := 41) hx hb d_M_forget_12 (by decide)) (fun h12 => ?_) (fun h12 => ?_)
  · have hk9 : 32 ≤ k := nI_ge_of h12 (by omega) (by omega)
    have hk8 : k = 32 := by omega
    subst hk8
    refine gj_ld (i := 1) (pc2 := 42) rfl (fun _ _ _ h9 => lv_iload_n hx hb d_M_forget_41 rfl h9) ?_
    exact gj_iret F d_M_forget_42 (Nat.le_refl _) (Nat.le_refl _) ⟨rfl, rfl⟩
  · have hlt : k < 32 := nI_lt_of h12 (by omega)
    refine gj_ld (i := 0) (pc2 := 16) rfl (fun _ _ _ h9 => lv_aload_n hx hb d_M_forget_15 rfl h9) ?_
    refine mj_gr F 7 rfl d_M_forget_16 q_337 rfl ?_
    refine gj_ld (i := 2) (pc2 := 20) rfl (fun _ _ _ h9 => lv_iload_n hx hb d_M_forget_19 rfl h9) ?_
    refine mj_zl F k rfl hlt d_M_forget_20 rfl ?_
    refine gj_if (pc2 := 27) (pc3 := 24) (fun _ _ _ => lv_if_ne (tgt := 27) hx hb d_M_forget_21 (by decide)) (fun h21 => ?_) (fun h21 => ?_)
    · refine gj_ld (i := 0) (pc2 := 28) rfl (fun _ _ _ h9 => lv_aload_n hx hb d_M_forget_27 rfl h9) ?_
      refine gj_ld (i := 2) (pc2 := 29) rfl (fun _ _ _ h9 => lv_iload_n hx hb d_M_forget_28 rfl h9) ?_
      refine bj_vv F k_M_throwOut d_M_forget_29 q_411 (mw_at (i := 0) (by omega)) rfl (ct_M_throwOut hlt) (rmo rfl) rfl rfl (Nat.le_of_ble_eq_true rfl) (Nat.zero_le _) (Nat.zero_le _) rfl (fun u9 e9 => ?_)
      subst e9
      refine gj_iinc (pc2 := 35) hx hb d_M_forget_32 (Nat.le_of_ble_eq_true rfl) rfl rfl rfl ?_
      refine gj_iinc (pc2 := 38) hx hb d_M_forget_35 (Nat.le_of_ble_eq_true rfl) rfl (nI_1 k) rfl ?_
      refine gj_l (pc2 := 9) (fun _ _ _ => lv_goto (tgt := 9) hx hb d_M_forget_38 (by decide)) ?_
      exact gj_eq (w2 := mw a cI cZ (mfS (s2 τ 0 0 0) (k + 1))) (L2 := [.ref (a 0), .int (mfN (s2 τ 0 0 0) (k + 1)), .int (nI (k + 1))]) (by rw [mfS, if_neg h21]) (by rw [mfN, if_neg h21]; rfl) rfl (ih hlt)
    · refine gj_l (pc2 := 35) (fun _ _ _ => lv_goto (tgt := 35) hx hb d_M_forget_24 (by decide)) ?_
      refine gj_iinc (pc2 := 38) hx hb d_M_forget_35 (Nat.le_of_ble_eq_true rfl) rfl (nI_1 k) rfl ?_
      refine gj_l (pc2 := 9) (fun _ _ _ => lv_goto (tgt := 9) hx hb d_M_forget_38 (by decide)) ?_
      exact gj_eq (w2 := mw a cI cZ (mfS (s2 τ 0 0 0) (k + 1))) (L2 := [.ref (a 0), .int (mfN (s2 τ 0 0 0) (k + 1)), .int (nI (k + 1))]) (by rw [mfS, if_pos h21]) (by rw [mfN, if_pos h21]; rfl) rfl (ih hlt)

theorem k_M_count : CKV y_M_count c_M_count 4 (some .int) 1 := ⟨q_489, q_3, q_487, q_488, ⟨by decide +kernel, by decide +kernel, by decide +kernel⟩⟩
set_option maxHeartbeats 4000000 in
set_option maxRecDepth 100000 in
theorem ct_M_count {l : Launch} {D : va_G} {cI cB cZ cJ : ClassId} {a : Nat → Nat} {τ : St} (x : Int32) : GCi l y_M_count (Cond.code y_M_count c_M_count 4 (some .int) :: tbW) ({ frames := 0, cells := 0, slots := 0, locals := 0 }) 0 0 D vCl (TY cI cB cZ cJ) [.ref (a 0), .int x] (mw a cI cZ τ) (fun r u => r = cnM τ x ∧ u = mw a cI cZ (s2 τ 0 0 0)) := by
  refine gc_body (Qc := gc_Qi D vCl (TY cI cB cZ cJ) (mw a cI cZ τ) (fun r u => r = cnM τ x ∧ u = mw a cI cZ (s2 τ 0 0 0))) (cc := c_M_count) (maxL := 4) (ret := (some .int)) (by decide) rfl (by simp [Value.category]) (Nat.le_of_ble_eq_true rfl) ?_
  intro p e s m args below meth c F
  have hx := F.1
  have hb := F.2.1
  refine gj_ld (i := 0) (pc2 := 1) rfl (fun _ _ _ h9 => lv_aload_n hx hb d_M_count_0 rfl h9) ?_
  refine gj_l (pc2 := 2) (fun _ _ _ => lv_iconst (v := 0) hx hb d_M_count_1 (by decide)) ?_
  refine mj_pi F 0 rfl d_M_count_2 q_330 rfl ?_
  refine gj_l (pc2 := 6) (fun _ _ _ => lv_iconst (v := 0) hx hb d_M_count_5 (by decide)) ?_
  refine gj_st (i := 2) (pc2 := 7) (Nat.le_of_ble_eq_true rfl) rfl (fun _ _ _ _ _ h9 l9 => lv_istore_n hx hb d_M_count_6 rfl h9 (Nat.le_of_ble_eq_true rfl) l9) ?_
  refine gj_l (pc2 := 8) (fun _ _ _ => lv_iconst (v := 0) hx hb d_M_count_7 (by decide)) ?_
  refine gj_st (i := 3) (pc2 := 9) (Nat.le_of_ble_eq_true rfl) rfl (fun _ _ _ _ _ h9 l9 => lv_istore_n hx hb d_M_count_8 rfl h9 (Nat.le_of_ble_eq_true rfl) l9) ?_
  refine gj_loop 32 (fun k => mw a cI cZ (s2 τ 0 0 0)) (fun k => [.ref (a 0), .int x, .int (mNt τ k), .int (nI k)]) (fun k hk ih => ?_)
  refine gj_ld (i := 3) (pc2 := 10) rfl (fun _ _ _ h9 => lv_iload_n hx hb d_M_count_9 rfl h9) ?_
  refine gj_l (pc2 := 12) (fun _ _ _ => lv_bipush (v := (32)) hx hb d_M_count_10 (by decide)) ?_
  refine gj_if (pc2 := 38) (pc3 := 15) (fun _ _ _ => lv_icmp_ge (tgt := 38) hx hb d_M_count_12 (by decide)) (fun h12 => ?_) (fun h12 => ?_)
  · have hk9 : 32 ≤ k := nI_ge_of h12 (by omega) (by omega)
    have hk8 : k = 32 := by omega
    subst hk8
    refine gj_ld (i := 1) (pc2 := 39) rfl (fun _ _ _ h9 => lv_iload_n hx hb d_M_count_38 rfl h9) ?_
    by_cases h39_0 : x = 0
    · rw [h39_0]
      refine gj_l (pc2 := 80) (fun _ _ _ => lv_tableIn (tgt := 80) hx hb d_M_count_39 (by decide) (by decide) rfl (by decide)) ?_
      refine gj_ld (i := 0) (pc2 := 81) rfl (fun _ _ _ h9 => lv_aload_n hx hb d_M_count_80 rfl h9) ?_
      refine mj_gi F 13 rfl d_M_count_81 q_343 rfl ?_
      exact gj_iret F d_M_count_84 (Nat.le_refl _) (Nat.le_refl _) ⟨by unfold cnM; rw [if_pos rfl]; first | done | rfl, rfl⟩
    by_cases h39_1 : x = 1
    · rw [h39_1]
      refine gj_l (pc2 := 85) (fun _ _ _ => lv_tableIn (tgt := 85) hx hb d_M_count_39 (by decide) (by decide) rfl (by decide)) ?_
      refine gj_ld (i := 0) (pc2 := 86) rfl (fun _ _ _ h9 => lv_aload_n hx hb d_M_count_85 rfl h9) ?_
      refine mj_gi F 14 rfl d_M_count_86 q_344 rfl ?_
      exact gj_iret F d_M_count_89 (Nat.le_refl _) (Nat.le_refl _) ⟨by unfold cnM; rw [if_neg (by first | exact h39_0 | decide), if_pos rfl]; first | done | rfl, rfl⟩
    by_cases h39_2 : x = 2
    · rw [h39_2]
      refine gj_l (pc2 := 90) (fun _ _ _ => lv_tableIn (tgt := 90) hx hb d_M_count_39 (by decide) (by decide) rfl (by decide)) ?_
      refine gj_ld (i := 0) (pc2 := 91) rfl (fun _ _ _ h9 => lv_aload_n hx hb d_M_count_90 rfl h9) ?_
      refine mj_gi F 15 rfl d_M_count_91 q_345 rfl ?_
      exact gj_iret F d_M_count_94 (Nat.le_refl _) (Nat.le_refl _) ⟨by unfold cnM; rw [if_neg (by first | exact h39_0 | decide), if_neg (by first | exact h39_1 | decide), if_pos rfl]; first | done | rfl, rfl⟩
    by_cases h39_3 : x = 3
    · rw [h39_3]
      refine gj_l (pc2 := 95) (fun _ _ _ => lv_tableIn (tgt := 95) hx hb d_M_count_39 (by decide) (by decide) rfl (by decide)) ?_
      refine gj_ld (i := 0) (pc2 := 96) rfl (fun _ _ _ h9 => lv_aload_n hx hb d_M_count_95 rfl h9) ?_
      refine mj_gi F 16 rfl d_M_count_96 q_346 rfl ?_
      exact gj_iret F d_M_count_99 (Nat.le_refl _) (Nat.le_refl _) ⟨by unfold cnM; rw [if_neg (by first | exact h39_0 | decide), if_neg (by first | exact h39_1 | decide), if_neg (by first | exact h39_2 | decide), if_pos rfl]; first | done | rfl, rfl⟩
    by_cases h39_4 : x = 4
    · rw [h39_4]
      refine gj_l (pc2 := 100) (fun _ _ _ => lv_tableIn (tgt := 100) hx hb d_M_count_39 (by decide) (by decide) rfl (by decide)) ?_
      refine gj_ld (i := 2) (pc2 := 101) rfl (fun _ _ _ h9 => lv_iload_n hx hb d_M_count_100 rfl h9) ?_
      exact gj_iret F d_M_count_101 (Nat.le_refl _) (Nat.le_refl _) ⟨by unfold cnM; rw [if_neg (by first | exact h39_0 | decide), if_neg (by first | exact h39_1 | decide), if_neg (by first | exact h39_2 | decide), if_neg (by first | exact h39_3 | decide), if_pos rfl]; first | done | rfl, rfl⟩
    by_cases h39_5 : x = 5
    · rw [h39_5]
      refine gj_l (pc2 := 102) (fun _ _ _ => lv_tableIn (tgt := 102) hx hb d_M_count_39 (by decide) (by decide) rfl (by decide)) ?_
      refine gj_ld (i := 0) (pc2 := 103) rfl (fun _ _ _ h9 => lv_aload_n hx hb d_M_count_102 rfl h9) ?_
      refine mj_gi F 17 rfl d_M_count_103 q_347 rfl ?_
      exact gj_iret F d_M_count_106 (Nat.le_refl _) (Nat.le_refl _) ⟨by unfold cnM; rw [if_neg (by first | exact h39_0 | decide), if_neg (by first | exact h39_1 | decide), if_neg (by first | exact h39_2 | decide), if_neg (by first | exact h39_3 | decide), if_neg (by first | exact h39_4 | decide), if_pos rfl]; first | done | rfl, rfl⟩
    by_cases h39_6 : x = 6
    · rw [h39_6]
      refine gj_l (pc2 := 107) (fun _ _ _ => lv_tableIn (tgt := 107) hx hb d_M_count_39 (by decide) (by decide) rfl (by decide)) ?_
      refine gj_ld (i := 0) (pc2 := 108) rfl (fun _ _ _ h9 => lv_aload_n hx hb d_M_count_107 rfl h9) ?_
      refine mj_gi F 18 rfl d_M_count_108 q_348 rfl ?_
      exact gj_iret F d_M_count_111 (Nat.le_refl _) (Nat.le_refl _) ⟨by unfold cnM; rw [if_neg (by first | exact h39_0 | decide), if_neg (by first | exact h39_1 | decide), if_neg (by first | exact h39_2 | decide), if_neg (by first | exact h39_3 | decide), if_neg (by first | exact h39_4 | decide), if_neg (by first | exact h39_5 | decide), if_pos rfl]; first | done | rfl, rfl⟩
    have hsw : (x).toInt < 0 ∨ 6 < (x).toInt := by
      by_cases z : (x).toInt < 0
      · exact Or.inl z
      by_cases z2 : 6 < (x).toInt
      · exact Or.inr z2
      exfalso
      rcases (show (x).toInt = 0 ∨ (x).toInt = 1 ∨ (x).toInt = 2 ∨ (x).toInt = 3 ∨ (x).toInt = 4 ∨ (x).toInt = 5 ∨ (x).toInt = 6 by omega) with z3 | z3 | z3 | z3 | z3 | z3 | z3
      · exact h39_0 (Int32.toInt_inj.mp (z3.trans (by decide)))
      · exact h39_1 (Int32.toInt_inj.mp (z3.trans (by decide)))
      · exact h39_2 (Int32.toInt_inj.mp (z3.trans (by decide)))
      · exact h39_3 (Int32.toInt_inj.mp (z3.trans (by decide)))
      · exact h39_4 (Int32.toInt_inj.mp (z3.trans (by decide)))
      · exact h39_5 (Int32.toInt_inj.mp (z3.trans (by decide)))
      · exact h39_6 (Int32.toInt_inj.mp (z3.trans (by decide)))
    refine gj_l (pc2 := 112) (fun _ _ _ => lv_tableOut (tgt := 112) hx hb d_M_count_39 hsw (by decide)) ?_
    refine gj_l (pc2 := 113) (fun _ _ _ => lv_iconst (v := (-1)) hx hb d_M_count_112 (by decide)) ?_
    exact gj_iret F d_M_count_113 (Nat.le_refl _) (Nat.le_refl _) ⟨by unfold cnM; rw [if_neg (by first | exact h39_0 | decide), if_neg (by first | exact h39_1 | decide), if_neg (by first | exact h39_2 | decide), if_neg (by first | exact h39_3 | decide), if_neg (by first | exact h39_4 | decide), if_neg (by first | exact h39_5 | decide), if_neg (by first | exact h39_6 | decide)]; first | done | rfl, rfl⟩
  · have hlt : k < 32 := nI_lt_of h12 (by omega)
    refine gj_ld (i := 2) (pc2 := 16) rfl (fun _ _ _ h9 => lv_iload_n hx hb d_M_count_15 rfl h9) ?_
    refine gj_ld (i := 0) (pc2 := 17) rfl (fun _ _ _ h9 => lv_aload_n hx hb d_M_count_16 rfl h9) ?_
    refine mj_gr F 7 rfl d_M_count_17 q_337 rfl ?_
    refine gj_ld (i := 3) (pc2 := 21) rfl (fun _ _ _ h9 => lv_iload_n hx hb d_M_count_20 rfl h9) ?_
    refine mj_zl F k rfl hlt d_M_count_21 rfl ?_
    refine gj_if (pc2 := 29) (pc3 := 25) (fun _ _ _ => lv_if_eq (tgt := 29) hx hb d_M_count_22 (by decide)) (fun h22 => ?_) (fun h22 => ?_)
    · refine gj_l (pc2 := 30) (fun _ _ _ => lv_iconst (v := 0) hx hb d_M_count_29 (by decide)) ?_
      refine gj_l (pc2 := 31) (fun _ _ _ => lv_iadd hx hb d_M_count_30) ?_
      refine gj_st (i := 2) (pc2 := 32) (Nat.le_of_ble_eq_true rfl) rfl (fun _ _ _ _ _ h9 l9 => lv_istore_n hx hb d_M_count_31 rfl h9 (Nat.le_of_ble_eq_true rfl) l9) ?_
      refine gj_iinc (pc2 := 35) hx hb d_M_count_32 (Nat.le_of_ble_eq_true rfl) rfl (nI_1 k) rfl ?_
      refine gj_l (pc2 := 9) (fun _ _ _ => lv_goto (tgt := 9) hx hb d_M_count_35 (by decide)) ?_
      exact gj_eq (L2 := [.ref (a 0), .int x, .int (mNt τ (k + 1)), .int (nI (k + 1))]) rfl (by rw [mNt, if_pos (show τ 3 k = 0 from h22)]; rfl) rfl (ih hlt)
    · refine gj_l (pc2 := 26) (fun _ _ _ => lv_iconst (v := 1) hx hb d_M_count_25 (by decide)) ?_
      refine gj_l (pc2 := 30) (fun _ _ _ => lv_goto (tgt := 30) hx hb d_M_count_26 (by decide)) ?_
      refine gj_l (pc2 := 31) (fun _ _ _ => lv_iadd hx hb d_M_count_30) ?_
      refine gj_st (i := 2) (pc2 := 32) (Nat.le_of_ble_eq_true rfl) rfl (fun _ _ _ _ _ h9 l9 => lv_istore_n hx hb d_M_count_31 rfl h9 (Nat.le_of_ble_eq_true rfl) l9) ?_
      refine gj_iinc (pc2 := 35) hx hb d_M_count_32 (Nat.le_of_ble_eq_true rfl) rfl (nI_1 k) rfl ?_
      refine gj_l (pc2 := 9) (fun _ _ _ => lv_goto (tgt := 9) hx hb d_M_count_35 (by decide)) ?_
      exact gj_eq (L2 := [.ref (a 0), .int x, .int (mNt τ (k + 1)), .int (nI (k + 1))]) rfl (by rw [mNt, if_neg (show ¬ τ 3 k = 0 from h22)]; rfl) rfl (ih hlt)
