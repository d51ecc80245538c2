theorem inR_7 {x : Int32} (h : inR x 0 7 = true) : ∃ i : Nat, i < 8 ∧ x = nI i := by
  simp only [inR, Bool.and_eq_true, Bool.not_eq_true', decide_eq_false_iff_not] at h
  obtain ⟨i, h3, rfl⟩ := nI_of h.1
  exact ⟨i, by
    rcases Nat.lt_or_ge i 8 with z | z
    · exact z
    · exact absurd (nI_lt (a := 7) (b := i) (by omega) h3) h.2, rfl⟩

theorem k_M_in : CKS y_M_in c_M_in 3 (some .boolean) 3 := ⟨q_402, q_3, q_401, ⟨by decide +kernel, by decide +kernel, by decide +kernel⟩⟩
set_option maxHeartbeats 4000000 in
set_option maxRecDepth 100000 in
theorem ct_M_in {l : Launch} {D : va_G} {cI cB cZ cJ : ClassId} (x y z : Int32) : GCi l y_M_in (Cond.code y_M_in c_M_in 3 (some .boolean) :: tbW) ({ frames := 0, cells := 0, slots := 0, locals := 0 }) 0 0 D vCl (TY cI cB cZ cJ) [.int x, .int y, .int z] [] (fun r u => r = bN (inR x y z) ∧ u = []) := by
  refine gc_body (Qc := gc_Qi D vCl (TY cI cB cZ cJ) [] (fun r u => r = bN (inR x y z) ∧ u = [])) (cc := c_M_in) (maxL := 3) (ret := (some .boolean)) (by decide) rfl (by simp [Value.category]) (Nat.le_of_ble_eq_true rfl) ?_
  intro p e s m args below meth c F
  have hx := F.1
  have hb := F.2.1
  refine gj_ld (i := 0) (pc2 := 1) rfl (fun _ _ _ h9 => lv_iload_n hx hb d_M_in_0 rfl h9) ?_
  refine gj_ld (i := 1) (pc2 := 2) rfl (fun _ _ _ h9 => lv_iload_n hx hb d_M_in_1 rfl h9) ?_
  refine gj_if (pc2 := 14) (pc3 := 5) (fun _ _ _ => lv_icmp_lt (tgt := 14) hx hb d_M_in_2 (by decide)) (fun h2 => ?_) (fun h2 => ?_)
  · refine gj_l (pc2 := 15) (fun _ _ _ => lv_iconst (v := 0) hx hb d_M_in_14 (by decide)) ?_
    exact gj_zret F d_M_in_15 (by first | rfl | exact bN_z _ | decide) (Nat.le_refl _) (Nat.le_refl _) ⟨by simp [inR, bN, h2], rfl⟩
  · refine gj_ld (i := 0) (pc2 := 6) rfl (fun _ _ _ h9 => lv_iload_n hx hb d_M_in_5 rfl h9) ?_
    refine gj_ld (i := 2) (pc2 := 7) rfl (fun _ _ _ h9 => lv_iload_n hx hb d_M_in_6 rfl h9) ?_
    refine gj_if (pc2 := 14) (pc3 := 10) (fun _ _ _ => lv_icmp_gt (tgt := 14) hx hb d_M_in_7 (by decide)) (fun h7 => ?_) (fun h7 => ?_)
    · refine gj_l (pc2 := 15) (fun _ _ _ => lv_iconst (v := 0) hx hb d_M_in_14 (by decide)) ?_
      exact gj_zret F d_M_in_15 (by first | rfl | exact bN_z _ | decide) (Nat.le_refl _) (Nat.le_refl _) ⟨by simp [inR, bN, h2, h7], rfl⟩
    · refine gj_l (pc2 := 11) (fun _ _ _ => lv_iconst (v := 1) hx hb d_M_in_10 (by decide)) ?_
      refine gj_l (pc2 := 15) (fun _ _ _ => lv_goto (tgt := 15) hx hb d_M_in_11 (by decide)) ?_
      exact gj_zret F d_M_in_15 (by first | rfl | exact bN_z _ | decide) (Nat.le_refl _) (Nat.le_refl _) ⟨by simp [inR, bN, h2, h7], rfl⟩

theorem k_M_isThere : CKS y_M_isThere c_M_isThere 1 (some .boolean) 1 := ⟨q_399, q_3, q_398, ⟨by decide +kernel, by decide +kernel, by decide +kernel⟩⟩
set_option maxHeartbeats 4000000 in
set_option maxRecDepth 100000 in
theorem ct_M_isThere {l : Launch} {D : va_G} {cI cB cZ cJ : ClassId} (x : Int32) : GCi l y_M_isThere (Cond.code y_M_isThere c_M_isThere 1 (some .boolean) :: tbW) ({ frames := 1, cells := 0, slots := 0, locals := 22 }) 0 0 D vCl (TY cI cB cZ cJ) [.int x] [] (fun r u => r = bN (inM x) ∧ u = []) := by
  refine gc_body (Qc := gc_Qi D vCl (TY cI cB cZ cJ) [] (fun r u => r = bN (inM x) ∧ u = [])) (cc := c_M_isThere) (maxL := 1) (ret := (some .boolean)) (by decide) rfl (by simp [Value.category]) (Nat.le_of_ble_eq_true rfl) ?_
  intro p e s m args below meth c F
  have hx := F.1
  have hb := F.2.1
  refine gj_ld (i := 0) (pc2 := 1) rfl (fun _ _ _ h9 => lv_iload_n hx hb d_M_isThere_0 rfl h9) ?_
  refine gj_l (pc2 := 2) (fun _ _ _ => lv_iconst (v := 0) hx hb d_M_isThere_1 (by decide)) ?_
  refine gj_l (pc2 := 5) (fun _ _ _ => lv_sipush (v := (1023)) hx hb d_M_isThere_2 (by decide)) ?_
  refine bj_s F k_M_in d_M_isThere_5 q_400 (ct_M_in _ _ _) (rmo rfl) rfl rfl (Nat.le_of_ble_eq_true rfl) (Nat.zero_le _) (Nat.zero_le _) rfl (fun r9 e9 => ?_)
  subst e9
  exact gj_zret F d_M_isThere_8 (by first | rfl | exact bN_z _ | decide) (Nat.le_refl _) (Nat.le_refl _) ⟨by rw [inR_inM], rfl⟩

theorem k_M_sizeOf : CKS y_M_sizeOf c_M_sizeOf 1 (some .int) 1 := ⟨q_449, q_3, q_448, ⟨by decide +kernel, by decide +kernel, by decide +kernel⟩⟩
set_option maxHeartbeats 4000000 in
set_option maxRecDepth 100000 in
theorem ct_M_sizeOf {l : Launch} {D : va_G} {cI cB cZ cJ : ClassId} (x : Int32) : GCi l y_M_sizeOf (Cond.code y_M_sizeOf c_M_sizeOf 1 (some .int) :: tbW) ({ frames := 0, cells := 0, slots := 0, locals := 0 }) 0 0 D vCl (TY cI cB cZ cJ) [.int x] [] (fun r u => r = szO x ∧ u = []) := by
  refine gc_body (Qc := gc_Qi D vCl (TY cI cB cZ cJ) [] (fun r u => r = szO x ∧ u = [])) (cc := c_M_sizeOf) (maxL := 1) (ret := (some .int)) (by decide) rfl (by simp [Value.category]) (Nat.le_of_ble_eq_true rfl) ?_
  intro p e s m args below meth c F
  have hx := F.1
  have hb := F.2.1
  refine gj_ld (i := 0) (pc2 := 1) rfl (fun _ _ _ h9 => lv_iload_n hx hb d_M_sizeOf_0 rfl h9) ?_
  refine gj_if (pc2 := 16) (pc3 := 4) (fun _ _ _ => lv_if_eq (tgt := 16) hx hb d_M_sizeOf_1 (by decide)) (fun h1 => ?_) (fun h1 => ?_)
  · refine gj_l (pc2 := 17) (fun _ _ _ => lv_iconst (v := 1) hx hb d_M_sizeOf_16 (by decide)) ?_
    refine gj_l (pc2 := 21) (fun _ _ _ => lv_goto (tgt := 21) hx hb d_M_sizeOf_17 (by decide)) ?_
    exact gj_iret F d_M_sizeOf_21 (Nat.le_refl _) (Nat.le_refl _) ⟨by simp [szO, h1], rfl⟩
  · refine gj_ld (i := 0) (pc2 := 5) rfl (fun _ _ _ h9 => lv_iload_n hx hb d_M_sizeOf_4 rfl h9) ?_
    refine gj_l (pc2 := 7) (fun _ _ _ => lv_bipush (v := (10)) hx hb d_M_sizeOf_5 (by decide)) ?_
    refine gj_if (pc2 := 16) (pc3 := 10) (fun _ _ _ => lv_icmp_eq (tgt := 16) hx hb d_M_sizeOf_7 (by decide)) (fun h7 => ?_) (fun h7 => ?_)
    · refine gj_l (pc2 := 17) (fun _ _ _ => lv_iconst (v := 1) hx hb d_M_sizeOf_16 (by decide)) ?_
      refine gj_l (pc2 := 21) (fun _ _ _ => lv_goto (tgt := 21) hx hb d_M_sizeOf_17 (by decide)) ?_
      exact gj_iret F d_M_sizeOf_21 (Nat.le_refl _) (Nat.le_refl _) ⟨by simp [szO, h1, h7], rfl⟩
    · refine gj_ld (i := 0) (pc2 := 11) rfl (fun _ _ _ h9 => lv_iload_n hx hb d_M_sizeOf_10 rfl h9) ?_
      refine gj_l (pc2 := 13) (fun _ _ _ => lv_bipush (v := (11)) hx hb d_M_sizeOf_11 (by decide)) ?_
      refine gj_if (pc2 := 20) (pc3 := 16) (fun _ _ _ => lv_icmp_le (tgt := 20) hx hb d_M_sizeOf_13 (by decide)) (fun h13 => ?_) (fun h13 => ?_)
      · refine gj_l (pc2 := 21) (fun _ _ _ => lv_iconst (v := 2) hx hb d_M_sizeOf_20 (by decide)) ?_
        exact gj_iret F d_M_sizeOf_21 (Nat.le_refl _) (Nat.le_refl _) ⟨by simp [szO, h1, h7, h13], rfl⟩
      · refine gj_l (pc2 := 17) (fun _ _ _ => lv_iconst (v := 1) hx hb d_M_sizeOf_16 (by decide)) ?_
        refine gj_l (pc2 := 21) (fun _ _ _ => lv_goto (tgt := 21) hx hb d_M_sizeOf_17 (by decide)) ?_
        exact gj_iret F d_M_sizeOf_21 (Nat.le_refl _) (Nat.le_refl _) ⟨by simp [szO, h1, h7, h13], rfl⟩

theorem k_M_thrown : CKV y_M_thrown c_M_thrown 1 (some .int) 0 := ⟨q_392, q_3, q_390, q_391, ⟨by decide +kernel, by decide +kernel, by decide +kernel⟩⟩
set_option maxHeartbeats 4000000 in
set_option maxRecDepth 100000 in
theorem ct_M_thrown {l : Launch} {D : va_G} {cI cB cZ cJ : ClassId} {a : Nat → Nat} {τ : St}  : GCi l y_M_thrown (Cond.code y_M_thrown c_M_thrown 1 (some .int) :: tbW) ({ frames := 0, cells := 0, slots := 0, locals := 0 }) 0 0 D vCl (TY cI cB cZ cJ) [.ref (a 0)] (mw a cI cZ τ) (fun r u => r = τ 0 0 ∧ u = (mw a cI cZ τ)) := by
  refine gc_body (Qc := gc_Qi D vCl (TY cI cB cZ cJ) (mw a cI cZ τ) (fun r u => r = τ 0 0 ∧ u = (mw a cI cZ τ))) (cc := c_M_thrown) (maxL := 1) (ret := (some .int)) (by decide) rfl (by simp [Value.category]) (Nat.le_of_ble_eq_true rfl) ?_
  intro p e s m args below meth c F
  have hx := F.1
  have hb := F.2.1
  refine gj_ld (i := 0) (pc2 := 1) rfl (fun _ _ _ h9 => lv_aload_n hx hb d_M_thrown_0 rfl h9) ?_
  refine mj_gi F 0 rfl d_M_thrown_1 q_330 rfl ?_
  exact gj_iret F d_M_thrown_4 (Nat.le_refl _) (Nat.le_refl _) ⟨rfl, rfl⟩

theorem k_M_throwing : CKV y_M_throwing c_M_throwing 3 (some .boolean) 2 := ⟨q_406, q_3, q_405, sl_M_throwing, ⟨by decide +kernel, by decide +kernel, by decide +kernel⟩⟩
set_option maxHeartbeats 4000000 in
set_option maxRecDepth 100000 in
theorem ct_M_throwing {l : Launch} {D : va_G} {cI cB cZ cJ : ClassId} {a : Nat → Nat} {τ : St} (o t : Int32) : GCi l y_M_throwing (Cond.code y_M_throwing c_M_throwing 3 (some .boolean) :: tbW) ({ frames := 0, cells := 0, slots := 0, locals := 0 }) 0 0 D vCl (TY cI cB cZ cJ) [.ref (a 0), .int o, .int t] (mw a cI cZ τ) (fun r u => r = bN (!decide (thN o t = 0)) ∧ u = mw a cI cZ (s2 τ 0 0 (thN o t))) := by
  refine gc_body (Qc := gc_Qi D vCl (TY cI cB cZ cJ) (mw a cI cZ τ) (fun r u => r = bN (!decide (thN o t = 0)) ∧ u = mw a cI cZ (s2 τ 0 0 (thN o t)))) (cc := c_M_throwing) (maxL := 3) (ret := (some .boolean)) (by decide) rfl (by simp [Value.category]) (Nat.le_of_ble_eq_true rfl) ?_
  intro p e s m args below meth c F
  have hx := F.1
  have hb := F.2.1
  refine gj_ld (i := 0) (pc2 := 1) rfl (fun _ _ _ h9 => lv_aload_n hx hb d_M_throwing_0 rfl h9) ?_
  refine gj_ld (i := 1) (pc2 := 2) rfl (fun _ _ _ h9 => lv_iload_n hx hb d_M_throwing_1 rfl h9) ?_
  refine gj_if (pc2 := 9) (pc3 := 5) (fun _ _ _ => lv_if_eq (tgt := 9) hx hb d_M_throwing_2 (by decide)) (fun h2 => ?_) (fun h2 => ?_)
  · refine gj_ld (i := 2) (pc2 := 10) rfl (fun _ _ _ h9 => lv_iload_n hx hb d_M_throwing_9 rfl h9) ?_
    refine gj_if (pc2 := 17) (pc3 := 13) (fun _ _ _ => lv_if_eq (tgt := 17) hx hb d_M_throwing_10 (by decide)) (fun h10 => ?_) (fun h10 => ?_)
    · refine gj_l (pc2 := 18) (fun _ _ _ => lv_iconst (v := 0) hx hb d_M_throwing_17 (by decide)) ?_
      refine mj_pi F 0 rfl d_M_throwing_18 q_330 rfl ?_
      refine gj_ld (i := 0) (pc2 := 22) rfl (fun _ _ _ h9 => lv_aload_n hx hb d_M_throwing_21 rfl h9) ?_
      refine mj_gi F 0 rfl d_M_throwing_22 q_330 rfl ?_
      refine gj_if (pc2 := 32) (pc3 := 28) (fun _ _ _ => lv_if_le (tgt := 32) hx hb d_M_throwing_25 (by decide)) (fun h25 => ?_) (fun h25 => ?_)
      · refine gj_l (pc2 := 33) (fun _ _ _ => lv_iconst (v := 0) hx hb d_M_throwing_32 (by decide)) ?_
        exact gj_zret F d_M_throwing_33 (by first | rfl | exact bN_z _ | decide) (Nat.le_refl _) (Nat.le_refl _) ⟨by rw [s2_at] at h25; first | exact absurd h25 (by decide) | (simp [thN, bN, h2, h10, h25]; done), by simp [thN, h2, h10, h25]⟩
      · refine gj_l (pc2 := 29) (fun _ _ _ => lv_iconst (v := 1) hx hb d_M_throwing_28 (by decide)) ?_
        refine gj_l (pc2 := 33) (fun _ _ _ => lv_goto (tgt := 33) hx hb d_M_throwing_29 (by decide)) ?_
        exact gj_zret F d_M_throwing_33 (by first | rfl | exact bN_z _ | decide) (Nat.le_refl _) (Nat.le_refl _) ⟨by rw [s2_at] at h25; first | exact absurd h25 (by decide) | (simp [thN, bN, h2, h10, h25]; done), by simp [thN, h2, h10, h25]⟩
    · refine gj_l (pc2 := 14) (fun _ _ _ => lv_iconst (v := 2) hx hb d_M_throwing_13 (by decide)) ?_
      refine gj_l (pc2 := 18) (fun _ _ _ => lv_goto (tgt := 18) hx hb d_M_throwing_14 (by decide)) ?_
      refine mj_pi F 0 rfl d_M_throwing_18 q_330 rfl ?_
      refine gj_ld (i := 0) (pc2 := 22) rfl (fun _ _ _ h9 => lv_aload_n hx hb d_M_throwing_21 rfl h9) ?_
      refine mj_gi F 0 rfl d_M_throwing_22 q_330 rfl ?_
      refine gj_if (pc2 := 32) (pc3 := 28) (fun _ _ _ => lv_if_le (tgt := 32) hx hb d_M_throwing_25 (by decide)) (fun h25 => ?_) (fun h25 => ?_)
      · refine gj_l (pc2 := 33) (fun _ _ _ => lv_iconst (v := 0) hx hb d_M_throwing_32 (by decide)) ?_
        exact gj_zret F d_M_throwing_33 (by first | rfl | exact bN_z _ | decide) (Nat.le_refl _) (Nat.le_refl _) ⟨by rw [s2_at] at h25; first | exact absurd h25 (by decide) | (simp [thN, bN, h2, h10, h25]; done), by simp [thN, h2, h10, h25]⟩
      · refine gj_l (pc2 := 29) (fun _ _ _ => lv_iconst (v := 1) hx hb d_M_throwing_28 (by decide)) ?_
        refine gj_l (pc2 := 33) (fun _ _ _ => lv_goto (tgt := 33) hx hb d_M_throwing_29 (by decide)) ?_
        exact gj_zret F d_M_throwing_33 (by first | rfl | exact bN_z _ | decide) (Nat.le_refl _) (Nat.le_refl _) ⟨by rw [s2_at] at h25; first | exact absurd h25 (by decide) | (simp [thN, bN, h2, h10, h25]; done), by simp [thN, h2, h10, h25]⟩
  · refine gj_l (pc2 := 6) (fun _ _ _ => lv_iconst (v := 1) hx hb d_M_throwing_5 (by decide)) ?_
    refine gj_l (pc2 := 18) (fun _ _ _ => lv_goto (tgt := 18) hx hb d_M_throwing_6 (by decide)) ?_
    refine mj_pi F 0 rfl d_M_throwing_18 q_330 rfl ?_
    refine gj_ld (i := 0) (pc2 := 22) rfl (fun _ _ _ h9 => lv_aload_n hx hb d_M_throwing_21 rfl h9) ?_
    refine mj_gi F 0 rfl d_M_throwing_22 q_330 rfl ?_
    refine gj_if (pc2 := 32) (pc3 := 28) (fun _ _ _ => lv_if_le (tgt := 32) hx hb d_M_throwing_25 (by decide)) (fun h25 => ?_) (fun h25 => ?_)
    · refine gj_l (pc2 := 33) (fun _ _ _ => lv_iconst (v := 0) hx hb d_M_throwing_32 (by decide)) ?_
      exact gj_zret F d_M_throwing_33 (by first | rfl | exact bN_z _ | decide) (Nat.le_refl _) (Nat.le_refl _) ⟨by rw [s2_at] at h25; first | exact absurd h25 (by decide) | (simp [thN, bN, h2, h25]; done), by simp [thN, h2, h25]⟩
    · refine gj_l (pc2 := 29) (fun _ _ _ => lv_iconst (v := 1) hx hb d_M_throwing_28 (by decide)) ?_
      refine gj_l (pc2 := 33) (fun _ _ _ => lv_goto (tgt := 33) hx hb d_M_throwing_29 (by decide)) ?_
      exact gj_zret F d_M_throwing_33 (by first | rfl | exact bN_z _ | decide) (Nat.le_refl _) (Nat.le_refl _) ⟨by rw [s2_at] at h25; first | exact absurd h25 (by decide) | (simp [thN, bN, h2, h25]; done), by simp [thN, h2, h25]⟩

theorem k_M_throwOut : CKV y_M_throwOut c_M_throwOut 2 none 1 := ⟨q_414, q_3, q_413, sl_M_throwOut, ⟨by decide +kernel, by decide +kernel, by decide +kernel⟩⟩
set_option maxHeartbeats 4000000 in
set_option maxRecDepth 100000 in
theorem ct_M_throwOut {l : Launch} {D : va_G} {cI cB cZ cJ : ClassId} {a : Nat → Nat} {τ : St} {k : Nat} (hk : k < 32) : GCv l y_M_throwOut (Cond.code y_M_throwOut c_M_throwOut 2 none :: tbW) ({ frames := 0, cells := 0, slots := 0, locals := 0 }) 0 0 D vCl (TY cI cB cZ cJ) [.ref (a 0), .int (nI k)] (mw a cI cZ τ) (fun u => u = mw a cI cZ (mTo τ k)) := by
  refine gc_body (Qc := gc_Qv D vCl (TY cI cB cZ cJ) (mw a cI cZ τ) (fun u => u = mw a cI cZ (mTo τ k))) (cc := c_M_throwOut) (maxL := 2) (ret := none) (by decide) rfl (by simp [Value.category]) (Nat.le_of_ble_eq_true rfl) ?_
  intro p e s m args below meth c F
  have hx := F.1
  have hb := F.2.1
  refine gj_ld (i := 0) (pc2 := 1) rfl (fun _ _ _ h9 => lv_aload_n hx hb d_M_throwOut_0 rfl h9) ?_
  refine mj_gr F 7 rfl d_M_throwOut_1 q_337 rfl ?_
  refine gj_ld (i := 1) (pc2 := 5) rfl (fun _ _ _ h9 => lv_iload_n hx hb d_M_throwOut_4 rfl h9) ?_
  refine gj_l (pc2 := 6) (fun _ _ _ => lv_iconst (v := 0) hx hb d_M_throwOut_5 (by decide)) ?_
  refine mj_zs F k rfl hk rfl d_M_throwOut_6 rfl ?_
  refine gj_ld (i := 0) (pc2 := 8) rfl (fun _ _ _ h9 => lv_aload_n hx hb d_M_throwOut_7 rfl h9) ?_
  refine gj_l (pc2 := 9) (fun _ _ _ => lv_dup hx hb d_M_throwOut_8 rfl) ?_
  refine mj_gi F 16 rfl d_M_throwOut_9 q_346 rfl ?_
  refine gj_l (pc2 := 13) (fun _ _ _ => lv_iconst (v := 1) hx hb d_M_throwOut_12 (by decide)) ?_
  refine gj_l (pc2 := 14) (fun _ _ _ => lv_iadd hx hb d_M_throwOut_13) ?_
  refine mj_pi F 16 rfl d_M_throwOut_14 q_346 rfl ?_
  exact gj_vret F d_M_throwOut_17 (Nat.le_refl _) (Nat.le_refl _) rfl

theorem k_M_write : CKV y_M_write c_M_write 4 none 2 := ⟨q_410, q_3, q_409, sl_M_write, ⟨by decide +kernel, by decide +kernel, by decide +kernel⟩⟩
set_option maxHeartbeats 4000000 in
set_option maxRecDepth 100000 in
theorem ct_M_write {l : Launch} {D : va_G} {cI cB cZ cJ : ClassId} {a : Nat → Nat} {τ : St} {i : Nat} (hi : i < 1024) (v : Int32) : GCv l y_M_write (Cond.code y_M_write c_M_write 4 none :: tbW) ({ frames := 1, cells := 0, slots := 0, locals := 21 }) 0 0 D vCl (TY cI cB cZ cJ) [.ref (a 0), .int (nI i), .int v] (mw a cI cZ τ) (fun u => u = mw a cI cZ (mWr τ i v)) := by
  refine gc_body (Qc := gc_Qv D vCl (TY cI cB cZ cJ) (mw a cI cZ τ) (fun u => u = mw a cI cZ (mWr τ i v))) (cc := c_M_write) (maxL := 4) (ret := none) (by decide) rfl (by simp [Value.category]) (Nat.le_of_ble_eq_true rfl) ?_
  intro p e s m args below meth c F
  have hx := F.1
  have hb := F.2.1
  refine gj_ld (i := 0) (pc2 := 1) rfl (fun _ _ _ h9 => lv_aload_n hx hb d_M_write_0 rfl h9) ?_
  refine mj_gr F 1 rfl d_M_write_1 q_331 rfl ?_
  refine gj_ld (i := 1) (pc2 := 5) rfl (fun _ _ _ h9 => lv_iload_n hx hb d_M_write_4 rfl h9) ?_
  refine gj_ld (i := 2) (pc2 := 6) rfl (fun _ _ _ h9 => lv_iload_n hx hb d_M_write_5 rfl h9) ?_
  refine mj_st F 1 1024 i (by omega) (fun _ => rfl) (by decide) rfl hi d_M_write_6 rfl ?_
  refine gj_l (pc2 := 8) (fun _ _ _ => lv_iconst (v := 0) hx hb d_M_write_7 (by decide)) ?_
  refine gj_st (i := 3) (pc2 := 9) (Nat.le_of_ble_eq_true rfl) rfl (fun _ _ _ _ _ h9 l9 => lv_istore_n hx hb d_M_write_8 rfl h9 (Nat.le_of_ble_eq_true rfl) l9) ?_
  refine gj_loop 32 (fun k => mw a cI cZ (mWl (s2 τ 1 i v) i k)) (fun k => [.ref (a 0), .int (nI i), .int v, .int (nI k)]) (fun k hk ih => ?_)
  refine gj_ld (i := 3) (pc2 := 10) rfl (fun _ _ _ h9 => lv_iload_n hx hb d_M_write_9 rfl h9) ?_
  refine gj_l (pc2 := 12) (fun _ _ _ => lv_bipush (v := (32)) hx hb d_M_write_10 (by decide)) ?_
  refine gj_if (pc2 := 89) (pc3 := 15) (fun _ _ _ => lv_icmp_ge (tgt := 89) hx hb d_M_write_12 (by decide)) (fun h12 => ?_) (fun h12 => ?_)
  · have hk9 : 32 ≤ k := nI_ge_of h12 (by omega) (by omega)
    have hk8 : k = 32 := by omega
    subst hk8
    exact gj_vret F d_M_write_89 (Nat.le_refl _) (Nat.le_refl _) rfl
  · have hlt : k < 32 := nI_lt_of h12 (by omega)
    refine gj_ld (i := 0) (pc2 := 16) rfl (fun _ _ _ h9 => lv_aload_n hx hb d_M_write_15 rfl h9) ?_
    refine mj_gr F 7 rfl d_M_write_16 q_337 rfl ?_
    refine gj_ld (i := 3) (pc2 := 20) rfl (fun _ _ _ h9 => lv_iload_n hx hb d_M_write_19 rfl h9) ?_
    refine mj_zl F k rfl hlt d_M_write_20 rfl ?_
    refine gj_if (pc2 := 83) (pc3 := 24) (fun _ _ _ => lv_if_eq (tgt := 83) hx hb d_M_write_21 (by decide)) (fun h21 => ?_) (fun h21 => ?_)
    · refine gj_iinc (pc2 := 86) hx hb d_M_write_83 (Nat.le_of_ble_eq_true rfl) rfl (nI_1 k) rfl ?_
      refine gj_l (pc2 := 9) (fun _ _ _ => lv_goto (tgt := 9) hx hb d_M_write_86 (by decide)) ?_
      exact gj_eq (w2 := mw a cI cZ (mWl (s2 τ 1 i v) i (k + 1))) (by rw [mWl, mWs, if_neg (by simp [mHas, h21])]) rfl rfl (ih hlt)
    · refine gj_ld (i := 1) (pc2 := 25) rfl (fun _ _ _ h9 => lv_iload_n hx hb d_M_write_24 rfl h9) ?_
      refine gj_ld (i := 0) (pc2 := 26) rfl (fun _ _ _ h9 => lv_aload_n hx hb d_M_write_25 rfl h9) ?_
      refine mj_gr F 8 rfl d_M_write_26 q_338 rfl ?_
      refine gj_ld (i := 3) (pc2 := 30) rfl (fun _ _ _ h9 => lv_iload_n hx hb d_M_write_29 rfl h9) ?_
      refine mj_ld F 4 32 k (by omega) rfl (by decide) rfl hlt d_M_write_30 rfl ?_
      refine gj_if (pc2 := 83) (pc3 := 34) (fun _ _ _ => lv_icmp_lt (tgt := 83) hx hb d_M_write_31 (by decide)) (fun h31 => ?_) (fun h31 => ?_)
      · refine gj_iinc (pc2 := 86) hx hb d_M_write_83 (Nat.le_of_ble_eq_true rfl) rfl (nI_1 k) rfl ?_
        refine gj_l (pc2 := 9) (fun _ _ _ => lv_goto (tgt := 9) hx hb d_M_write_86 (by decide)) ?_
        exact gj_eq (w2 := mw a cI cZ (mWl (s2 τ 1 i v) i (k + 1))) (by rw [mWl, mWs, if_neg (by simp [mHas, h21, h31])]) rfl rfl (ih hlt)
      · refine gj_ld (i := 1) (pc2 := 35) rfl (fun _ _ _ h9 => lv_iload_n hx hb d_M_write_34 rfl h9) ?_
        refine gj_ld (i := 0) (pc2 := 36) rfl (fun _ _ _ h9 => lv_aload_n hx hb d_M_write_35 rfl h9) ?_
        refine mj_gr F 8 rfl d_M_write_36 q_338 rfl ?_
        refine gj_ld (i := 3) (pc2 := 40) rfl (fun _ _ _ h9 => lv_iload_n hx hb d_M_write_39 rfl h9) ?_
        refine mj_ld F 4 32 k (by omega) rfl (by decide) rfl hlt d_M_write_40 rfl ?_
        refine gj_ld (i := 0) (pc2 := 42) rfl (fun _ _ _ h9 => lv_aload_n hx hb d_M_write_41 rfl h9) ?_
        refine mj_gr F 10 rfl d_M_write_42 q_340 rfl ?_
        refine gj_ld (i := 3) (pc2 := 46) rfl (fun _ _ _ h9 => lv_iload_n hx hb d_M_write_45 rfl h9) ?_
        refine mj_ld F 6 32 k (by omega) rfl (by decide) rfl hlt d_M_write_46 rfl ?_
        refine gj_l (pc2 := 48) (fun _ _ _ => lv_iadd hx hb d_M_write_47) ?_
        refine gj_if (pc2 := 54) (pc3 := 51) (fun _ _ _ => lv_icmp_lt (tgt := 54) hx hb d_M_write_48 (by decide)) (fun h48 => ?_) (fun h48 => ?_)
        · refine gj_ld (i := 0) (pc2 := 55) rfl (fun _ _ _ h9 => lv_aload_n hx hb d_M_write_54 rfl h9) ?_
          refine gj_ld (i := 3) (pc2 := 56) rfl (fun _ _ _ h9 => lv_iload_n hx hb d_M_write_55 rfl h9) ?_
          refine bj_vv F k_M_throwOut d_M_write_56 q_411 (mw_at (i := 0) (by omega)) rfl (ct_M_throwOut hlt) (rmo rfl) rfl rfl (Nat.le_of_ble_eq_true rfl) (Nat.zero_le _) (Nat.zero_le _) rfl (fun u9 e9 => ?_)
          subst e9
          refine gj_ld (i := 0) (pc2 := 60) rfl (fun _ _ _ h9 => lv_aload_n hx hb d_M_write_59 rfl h9) ?_
          refine gj_ld (i := 0) (pc2 := 61) rfl (fun _ _ _ h9 => lv_aload_n hx hb d_M_write_60 rfl h9) ?_
          refine mj_gi F 12 rfl d_M_write_61 q_342 rfl ?_
          refine gj_if (pc2 := 75) (pc3 := 67) (fun _ _ _ => lv_if_ne (tgt := 75) hx hb d_M_write_64 (by decide)) (fun h64 => ?_) (fun h64 => ?_)
          · refine gj_l (pc2 := 76) (fun _ _ _ => lv_iconst (v := 1) hx hb d_M_write_75 (by decide)) ?_
            refine gj_l (pc2 := 80) (fun _ _ _ => lv_goto (tgt := 80) hx hb d_M_write_76 (by decide)) ?_
            refine mj_pz F 12 rfl (by first | exact ⟨rfl, rfl⟩ | exact bN_f _) d_M_write_80 q_342 rfl ?_
            refine gj_iinc (pc2 := 86) hx hb d_M_write_83 (Nat.le_of_ble_eq_true rfl) rfl (nI_1 k) rfl ?_
            refine gj_l (pc2 := 9) (fun _ _ _ => lv_goto (tgt := 9) hx hb d_M_write_86 (by decide)) ?_
            exact gj_eq (w2 := mw a cI cZ (mWl (s2 τ 1 i v) i (k + 1))) (by rw [mWl, mWs, if_pos (by simp [mHas, h21, h31, h48])]; simp [bN, h64]) rfl rfl (ih hlt)
          · refine gj_ld (i := 3) (pc2 := 68) rfl (fun _ _ _ h9 => lv_iload_n hx hb d_M_write_67 rfl h9) ?_
            refine gj_ld (i := 0) (pc2 := 69) rfl (fun _ _ _ h9 => lv_aload_n hx hb d_M_write_68 rfl h9) ?_
            refine mj_gi F 11 rfl d_M_write_69 q_341 rfl ?_
            refine gj_if (pc2 := 79) (pc3 := 75) (fun _ _ _ => lv_icmp_ne (tgt := 79) hx hb d_M_write_72 (by decide)) (fun h72 => ?_) (fun h72 => ?_)
            · refine gj_l (pc2 := 80) (fun _ _ _ => lv_iconst (v := 0) hx hb d_M_write_79 (by decide)) ?_
              refine mj_pz F 12 rfl (by first | exact ⟨rfl, rfl⟩ | exact bN_f _) d_M_write_80 q_342 rfl ?_
              refine gj_iinc (pc2 := 86) hx hb d_M_write_83 (Nat.le_of_ble_eq_true rfl) rfl (nI_1 k) rfl ?_
              refine gj_l (pc2 := 9) (fun _ _ _ => lv_goto (tgt := 9) hx hb d_M_write_86 (by decide)) ?_
              exact gj_eq (w2 := mw a cI cZ (mWl (s2 τ 1 i v) i (k + 1))) (by rw [mWl, mWs, if_pos (by simp [mHas, h21, h31, h48])]; simp [bN, h64, h72]) rfl rfl (ih hlt)
            · refine gj_l (pc2 := 76) (fun _ _ _ => lv_iconst (v := 1) hx hb d_M_write_75 (by decide)) ?_
              refine gj_l (pc2 := 80) (fun _ _ _ => lv_goto (tgt := 80) hx hb d_M_write_76 (by decide)) ?_
              refine mj_pz F 12 rfl (by first | exact ⟨rfl, rfl⟩ | exact bN_f _) d_M_write_80 q_342 rfl ?_
              refine gj_iinc (pc2 := 86) hx hb d_M_write_83 (Nat.le_of_ble_eq_true rfl) rfl (nI_1 k) rfl ?_
              refine gj_l (pc2 := 9) (fun _ _ _ => lv_goto (tgt := 9) hx hb d_M_write_86 (by decide)) ?_
              exact gj_eq (w2 := mw a cI cZ (mWl (s2 τ 1 i v) i (k + 1))) (by rw [mWl, mWs, if_pos (by simp [mHas, h21, h31, h48])]; simp [bN, h64, h72]) rfl rfl (ih hlt)
        · refine gj_l (pc2 := 83) (fun _ _ _ => lv_goto (tgt := 83) hx hb d_M_write_51 (by decide)) ?_
          refine gj_iinc (pc2 := 86) hx hb d_M_write_83 (Nat.le_of_ble_eq_true rfl) rfl (nI_1 k) rfl ?_
          refine gj_l (pc2 := 9) (fun _ _ _ => lv_goto (tgt := 9) hx hb d_M_write_86 (by decide)) ?_
          exact gj_eq (w2 := mw a cI cZ (mWl (s2 τ 1 i v) i (k + 1))) (by rw [mWl, mWs, if_neg (by simp [mHas, h21, h31, h48])]) rfl rfl (ih hlt)

theorem k_M_poke : CKV y_M_poke c_M_poke 4 (some .int) 2 := ⟨q_396, q_3, q_394, q_395, ⟨by decide +kernel, by decide +kernel, by decide +kernel⟩⟩
set_option maxHeartbeats 4000000 in
set_option maxRecDepth 100000 in
theorem ct_M_poke {l : Launch} {D : va_G} {cI cB cZ cJ : ClassId} {a : Nat → Nat} {τ : St} (x v : Int32) : GCi l y_M_poke (Cond.code y_M_poke c_M_poke 4 (some .int) :: tbW) ({ frames := 2, cells := 0, slots := 0, locals := 44 }) 0 0 D vCl (TY cI cB cZ cJ) [.ref (a 0), .int x, .int v] (mw a cI cZ τ) (fun r u => (inM x = false ∧ r = 0 ∧ u = mw a cI cZ (s2 τ 0 0 1)) ∨ (inM x = true ∧ inR v 0 255 = false ∧ r = 0 ∧ u = mw a cI cZ (s2 τ 0 0 2)) ∨ ∃ i : Nat, i < 1024 ∧ x = nI i ∧ inR v 0 255 = true ∧ r = τ 1 i ∧ u = mw a cI cZ (mWr (s2 τ 0 0 0) i v)) := by
  refine gc_body (Qc := gc_Qi D vCl (TY cI cB cZ cJ) (mw a cI cZ τ) (fun r u => (inM x = false ∧ r = 0 ∧ u = mw a cI cZ (s2 τ 0 0 1)) ∨ (inM x = true ∧ inR v 0 255 = false ∧ r = 0 ∧ u = mw a cI cZ (s2 τ 0 0 2)) ∨ ∃ i : Nat, i < 1024 ∧ x = nI i ∧ inR v 0 255 = true ∧ r = τ 1 i ∧ u = mw a cI cZ (mWr (s2 τ 0 0 0) i v))) (cc := c_M_poke) (maxL := 4) (ret := (some .int)) (by decide) rfl (by simp [Value.category]) (Nat.le_of_ble_eq_true rfl) ?_
  intro p e s m args below meth c F
  have hx := F.1
  have hb := F.2.1
  refine gj_ld (i := 0) (pc2 := 1) rfl (fun _ _ _ h9 => lv_aload_n hx hb d_M_poke_0 rfl h9) ?_
  refine gj_ld (i := 1) (pc2 := 2) rfl (fun _ _ _ h9 => lv_iload_n hx hb d_M_poke_1 rfl h9) ?_
  refine bj_s F k_M_isThere d_M_poke_2 q_397 (ct_M_isThere _) (rmo rfl) rfl rfl (Nat.le_of_ble_eq_true rfl) (Nat.zero_le _) (Nat.zero_le _) rfl (fun r9 e9 => ?_)
  subst e9
  refine gj_if (pc2 := 12) (pc3 := 8) (fun _ _ _ => lv_if_ne (tgt := 12) hx hb d_M_poke_5 (by decide)) (fun h5 => ?_) (fun h5 => ?_)
  · refine gj_l (pc2 := 13) (fun _ _ _ => lv_iconst (v := 0) hx hb d_M_poke_12 (by decide)) ?_
    refine gj_ld (i := 2) (pc2 := 14) rfl (fun _ _ _ h9 => lv_iload_n hx hb d_M_poke_13 rfl h9) ?_
    refine gj_l (pc2 := 15) (fun _ _ _ => lv_iconst (v := 0) hx hb d_M_poke_14 (by decide)) ?_
    refine gj_l (pc2 := 18) (fun _ _ _ => lv_sipush (v := (255)) hx hb d_M_poke_15 (by decide)) ?_
    refine bj_s F k_M_in d_M_poke_18 q_400 (ct_M_in _ _ _) (rmo rfl) rfl rfl (Nat.le_of_ble_eq_true rfl) (Nat.zero_le _) (Nat.zero_le _) rfl (fun r9 e9 => ?_)
    subst e9
    refine gj_if (pc2 := 28) (pc3 := 24) (fun _ _ _ => lv_if_ne (tgt := 28) hx hb d_M_poke_21 (by decide)) (fun h21 => ?_) (fun h21 => ?_)
    · refine gj_l (pc2 := 29) (fun _ _ _ => lv_iconst (v := 0) hx hb d_M_poke_28 (by decide)) ?_
      refine bj_vi F k_M_throwing d_M_poke_29 q_403 (mw_at (i := 0) (by omega)) rfl (ct_M_throwing _ _) (rmo rfl) rfl rfl (Nat.le_of_ble_eq_true rfl) (Nat.zero_le _) (Nat.zero_le _) rfl (fun r9 u9 e9 => ?_)
      obtain ⟨rfl, rfl⟩ := e9
      refine gj_if (pc2 := 37) (pc3 := 35) (fun _ _ _ => lv_if_eq (tgt := 37) hx hb d_M_poke_32 (by decide)) (fun h32 => ?_) (fun h32 => ?_)
      · obtain ⟨i, hi, rfl⟩ := inM_of (bN_n0.mp h5)
        have hin := inM_nI hi
        refine gj_ld (i := 0) (pc2 := 38) rfl (fun _ _ _ h9 => lv_aload_n hx hb d_M_poke_37 rfl h9) ?_
        refine mj_gr F 1 rfl d_M_poke_38 q_331 rfl ?_
        refine gj_ld (i := 1) (pc2 := 42) rfl (fun _ _ _ h9 => lv_iload_n hx hb d_M_poke_41 rfl h9) ?_
        refine mj_ld F 1 1024 i (by omega) rfl (by decide) rfl hi d_M_poke_42 rfl ?_
        refine gj_st (i := 3) (pc2 := 44) (Nat.le_of_ble_eq_true rfl) rfl (fun _ _ _ _ _ h9 l9 => lv_istore_n hx hb d_M_poke_43 rfl h9 (Nat.le_of_ble_eq_true rfl) l9) ?_
        refine gj_ld (i := 0) (pc2 := 45) rfl (fun _ _ _ h9 => lv_aload_n hx hb d_M_poke_44 rfl h9) ?_
        refine gj_ld (i := 1) (pc2 := 46) rfl (fun _ _ _ h9 => lv_iload_n hx hb d_M_poke_45 rfl h9) ?_
        refine gj_ld (i := 2) (pc2 := 47) rfl (fun _ _ _ h9 => lv_iload_n hx hb d_M_poke_46 rfl h9) ?_
        refine bj_vv F k_M_write d_M_poke_47 q_407 (mw_at (i := 0) (by omega)) rfl (ct_M_write hi _) (rmo rfl) rfl rfl (Nat.le_of_ble_eq_true rfl) (Nat.zero_le _) (Nat.zero_le _) rfl (fun u9 e9 => ?_)
        subst e9
        refine gj_ld (i := 3) (pc2 := 51) rfl (fun _ _ _ h9 => lv_iload_n hx hb d_M_poke_50 rfl h9) ?_
        exact gj_iret F d_M_poke_51 (Nat.le_refl _) (Nat.le_refl _) (Or.inr (Or.inr ⟨i, hi, rfl, bN_n0.mp h21, rfl, rfl⟩))
      · exact absurd h32 (by decide)
    · refine gj_l (pc2 := 25) (fun _ _ _ => lv_iconst (v := 1) hx hb d_M_poke_24 (by decide)) ?_
      refine gj_l (pc2 := 29) (fun _ _ _ => lv_goto (tgt := 29) hx hb d_M_poke_25 (by decide)) ?_
      refine bj_vi F k_M_throwing d_M_poke_29 q_403 (mw_at (i := 0) (by omega)) rfl (ct_M_throwing _ _) (rmo rfl) rfl rfl (Nat.le_of_ble_eq_true rfl) (Nat.zero_le _) (Nat.zero_le _) rfl (fun r9 u9 e9 => ?_)
      obtain ⟨rfl, rfl⟩ := e9
      refine gj_if (pc2 := 37) (pc3 := 35) (fun _ _ _ => lv_if_eq (tgt := 37) hx hb d_M_poke_32 (by decide)) (fun h32 => ?_) (fun h32 => ?_)
      · exact absurd h32 (by decide)
      · refine gj_l (pc2 := 36) (fun _ _ _ => lv_iconst (v := 0) hx hb d_M_poke_35 (by decide)) ?_
        exact gj_iret F d_M_poke_36 (Nat.le_refl _) (Nat.le_refl _) (by first | exact Or.inl ⟨bN_0.mp h5, rfl, rfl⟩ | exact Or.inr (Or.inl ⟨bN_n0.mp h5, bN_0.mp h21, rfl, rfl⟩))
  · refine gj_l (pc2 := 9) (fun _ _ _ => lv_iconst (v := 1) hx hb d_M_poke_8 (by decide)) ?_
    refine gj_l (pc2 := 13) (fun _ _ _ => lv_goto (tgt := 13) hx hb d_M_poke_9 (by decide)) ?_
    refine gj_ld (i := 2) (pc2 := 14) rfl (fun _ _ _ h9 => lv_iload_n hx hb d_M_poke_13 rfl h9) ?_
    refine gj_l (pc2 := 15) (fun _ _ _ => lv_iconst (v := 0) hx hb d_M_poke_14 (by decide)) ?_
    refine gj_l (pc2 := 18) (fun _ _ _ => lv_sipush (v := (255)) hx hb d_M_poke_15 (by decide)) ?_
    refine bj_s F k_M_in d_M_poke_18 q_400 (ct_M_in _ _ _) (rmo rfl) rfl rfl (Nat.le_of_ble_eq_true rfl) (Nat.zero_le _) (Nat.zero_le _) rfl (fun r9 e9 => ?_)
    subst e9
    refine gj_if (pc2 := 28) (pc3 := 24) (fun _ _ _ => lv_if_ne (tgt := 28) hx hb d_M_poke_21 (by decide)) (fun h21 => ?_) (fun h21 => ?_)
    · refine gj_l (pc2 := 29) (fun _ _ _ => lv_iconst (v := 0) hx hb d_M_poke_28 (by decide)) ?_
      refine bj_vi F k_M_throwing d_M_poke_29 q_403 (mw_at (i := 0) (by omega)) rfl (ct_M_throwing _ _) (rmo rfl) rfl rfl (Nat.le_of_ble_eq_true rfl) (Nat.zero_le _) (Nat.zero_le _) rfl (fun r9 u9 e9 => ?_)
      obtain ⟨rfl, rfl⟩ := e9
      refine gj_if (pc2 := 37) (pc3 := 35) (fun _ _ _ => lv_if_eq (tgt := 37) hx hb d_M_poke_32 (by decide)) (fun h32 => ?_) (fun h32 => ?_)
      · exact absurd h32 (by decide)
      · refine gj_l (pc2 := 36) (fun _ _ _ => lv_iconst (v := 0) hx hb d_M_poke_35 (by decide)) ?_
        exact gj_iret F d_M_poke_36 (Nat.le_refl _) (Nat.le_refl _) (by first | exact Or.inl ⟨bN_0.mp h5, rfl, rfl⟩ | exact Or.inr (Or.inl ⟨bN_n0.mp h5, bN_0.mp h21, rfl, rfl⟩))
    · refine gj_l (pc2 := 25) (fun _ _ _ => lv_iconst (v := 1) hx hb d_M_poke_24 (by decide)) ?_
      refine gj_l (pc2 := 29) (fun _ _ _ => lv_goto (tgt := 29) hx hb d_M_poke_25 (by decide)) ?_
      refine bj_vi F k_M_throwing d_M_poke_29 q_403 (mw_at (i := 0) (by omega)) rfl (ct_M_throwing _ _) (rmo rfl) rfl rfl (Nat.le_of_ble_eq_true rfl) (Nat.zero_le _) (Nat.zero_le _) rfl (fun r9 u9 e9 => ?_)
      obtain ⟨rfl, rfl⟩ := e9
      refine gj_if (pc2 := 37) (pc3 := 35) (fun _ _ _ => lv_if_eq (tgt := 37) hx hb d_M_poke_32 (by decide)) (fun h32 => ?_) (fun h32 => ?_)
      · exact absurd h32 (by decide)
      · refine gj_l (pc2 := 36) (fun _ _ _ => lv_iconst (v := 0) hx hb d_M_poke_35 (by decide)) ?_
        exact gj_iret F d_M_poke_36 (Nat.le_refl _) (Nat.le_refl _) (by first | exact Or.inl ⟨bN_0.mp h5, rfl, rfl⟩ | exact Or.inr (Or.inl ⟨bN_n0.mp h5, bN_0.mp h21, rfl, rfl⟩))

theorem k_M_pokeFour : CKV y_M_pokeFour c_M_pokeFour 5 (some .int) 2 := ⟨q_418, q_3, q_416, q_417, ⟨by decide +kernel, by decide +kernel, by decide +kernel⟩⟩
set_option maxHeartbeats 4000000 in
set_option maxRecDepth 100000 in
theorem ct_M_pokeFour {l : Launch} {D : va_G} {cI cB cZ cJ : ClassId} {a : Nat → Nat} {τ : St} (x v : Int32) : GCi l y_M_pokeFour (Cond.code y_M_pokeFour c_M_pokeFour 5 (some .int) :: tbW) ({ frames := 2, cells := 0, slots := 0, locals := 44 }) 0 0 D vCl (TY cI cB cZ cJ) [.ref (a 0), .int x, .int v] (mw a cI cZ τ) (fun r u => (inM x = false ∧ r = 0 ∧ u = mw a cI cZ (s2 τ 0 0 1)) ∨ ∃ i : Nat, i < 1024 ∧ x = nI i ∧ r = nI (p4N i) ∧ u = mw a cI cZ (m4L (s2 τ 0 0 0) i v (p4N i))) := by
  refine gc_body (Qc := gc_Qi D vCl (TY cI cB cZ cJ) (mw a cI cZ τ) (fun r u => (inM x = false ∧ r = 0 ∧ u = mw a cI cZ (s2 τ 0 0 1)) ∨ ∃ i : Nat, i < 1024 ∧ x = nI i ∧ r = nI (p4N i) ∧ u = mw a cI cZ (m4L (s2 τ 0 0 0) i v (p4N i)))) (cc := c_M_pokeFour) (maxL := 5) (ret := (some .int)) (by decide) rfl (by simp [Value.category]) (Nat.le_of_ble_eq_true rfl) ?_
  intro p e s m args below meth c F
  have hx := F.1
  have hb := F.2.1
  refine gj_ld (i := 0) (pc2 := 1) rfl (fun _ _ _ h9 => lv_aload_n hx hb d_M_pokeFour_0 rfl h9) ?_
  refine gj_ld (i := 1) (pc2 := 2) rfl (fun _ _ _ h9 => lv_iload_n hx hb d_M_pokeFour_1 rfl h9) ?_
  refine bj_s F k_M_isThere d_M_pokeFour_2 q_397 (ct_M_isThere _) (rmo rfl) rfl rfl (Nat.le_of_ble_eq_true rfl) (Nat.zero_le _) (Nat.zero_le _) rfl (fun r9 e9 => ?_)
  subst e9
  refine gj_if (pc2 := 12) (pc3 := 8) (fun _ _ _ => lv_if_ne (tgt := 12) hx hb d_M_pokeFour_5 (by decide)) (fun h5 => ?_) (fun h5 => ?_)
  · refine gj_l (pc2 := 13) (fun _ _ _ => lv_iconst (v := 0) hx hb d_M_pokeFour_12 (by decide)) ?_
    refine gj_l (pc2 := 14) (fun _ _ _ => lv_iconst (v := 0) hx hb d_M_pokeFour_13 (by decide)) ?_
    refine bj_vi F k_M_throwing d_M_pokeFour_14 q_403 (mw_at (i := 0) (by omega)) rfl (ct_M_throwing _ _) (rmo rfl) rfl rfl (Nat.le_of_ble_eq_true rfl) (Nat.zero_le _) (Nat.zero_le _) rfl (fun r9 u9 e9 => ?_)
    obtain ⟨rfl, rfl⟩ := e9
    refine gj_if (pc2 := 22) (pc3 := 20) (fun _ _ _ => lv_if_eq (tgt := 22) hx hb d_M_pokeFour_17 (by decide)) (fun h17 => ?_) (fun h17 => ?_)
    · obtain ⟨i, hi, rfl⟩ := inM_of (bN_n0.mp h5)
      have hin := inM_nI hi
      refine gj_l (pc2 := 23) (fun _ _ _ => lv_iconst (v := 0) hx hb d_M_pokeFour_22 (by decide)) ?_
      refine gj_st (i := 3) (pc2 := 24) (Nat.le_of_ble_eq_true rfl) rfl (fun _ _ _ _ _ h9 l9 => lv_istore_n hx hb d_M_pokeFour_23 rfl h9 (Nat.le_of_ble_eq_true rfl) l9) ?_
      refine gj_l (pc2 := 25) (fun _ _ _ => lv_iconst (v := 0) hx hb d_M_pokeFour_24 (by decide)) ?_
      refine gj_st (i := 4) (pc2 := 27) (Nat.le_of_ble_eq_true rfl) rfl (fun _ _ _ _ _ h9 l9 => lv_istore hx hb d_M_pokeFour_25 h9 (Nat.le_of_ble_eq_true rfl) l9) ?_
      have hp4 : p4N i ≤ 4 ∧ i + p4N i ≤ 1024 ∧ (p4N i = 4 ∨ i + p4N i = 1024) := by unfold p4N; omega
      refine gj_loop (p4N i) (fun k => mw a cI cZ (m4L (s2 τ 0 0 0) i v k)) (fun k => [.ref (a 0), .int (nI i), .int v, .int (nI k), .int (nI k)]) (fun k hk ih => ?_)
      refine gj_ld (i := 4) (pc2 := 29) rfl (fun _ _ _ h9 => lv_iload hx hb d_M_pokeFour_27 h9) ?_
      refine gj_l (pc2 := 30) (fun _ _ _ => lv_iconst (v := 4) hx hb d_M_pokeFour_29 (by decide)) ?_
      refine gj_if (pc2 := 74) (pc3 := 33) (fun _ _ _ => lv_icmp_ge (tgt := 74) hx hb d_M_pokeFour_30 (by decide)) (fun h30 => ?_) (fun h30 => ?_)
      · have hk9 : 4 ≤ k := nI_ge_of h30 (by omega) (by omega)
        have hk8 : k = p4N i := by omega
        subst hk8
        refine gj_ld (i := 3) (pc2 := 75) rfl (fun _ _ _ h9 => lv_iload_n hx hb d_M_pokeFour_74 rfl h9) ?_
        exact gj_iret F d_M_pokeFour_75 (Nat.le_refl _) (Nat.le_refl _) (Or.inr ⟨i, hi, rfl, rfl, rfl⟩)
      · have hk4 : k < 4 := nI_lt_of h30 (by omega)
        refine gj_ld (i := 1) (pc2 := 34) rfl (fun _ _ _ h9 => lv_iload_n hx hb d_M_pokeFour_33 rfl h9) ?_
        refine gj_ld (i := 4) (pc2 := 36) rfl (fun _ _ _ h9 => lv_iload hx hb d_M_pokeFour_34 h9) ?_
        refine gj_l (pc2 := 37) (fun _ _ _ => lv_iadd hx hb d_M_pokeFour_36) ?_
        rw [nI_add]
        refine bj_s F k_M_isThere d_M_pokeFour_37 q_397 (ct_M_isThere _) (rmo rfl) rfl rfl (Nat.le_of_ble_eq_true rfl) (Nat.zero_le _) (Nat.zero_le _) rfl (fun r9 e9 => ?_)
        subst e9
        refine gj_if (pc2 := 74) (pc3 := 43) (fun _ _ _ => lv_if_eq (tgt := 74) hx hb d_M_pokeFour_40 (by decide)) (fun h40 => ?_) (fun h40 => ?_)
        · have hk8 : k = p4N i := by
            rcases Nat.lt_or_ge (i + k) 1024 with z | z
            · exact absurd (inM_nI z) (by rw [bN_0.mp h40]; decide)
            · omega
          subst hk8
          refine gj_ld (i := 3) (pc2 := 75) rfl (fun _ _ _ h9 => lv_iload_n hx hb d_M_pokeFour_74 rfl h9) ?_
          exact gj_iret F d_M_pokeFour_75 (Nat.le_refl _) (Nat.le_refl _) (Or.inr ⟨i, hi, rfl, rfl, rfl⟩)
        · have hlt : k < p4N i := by
            obtain ⟨j9, h8, h9⟩ := inM_of (bN_n0.mp h40)
            have := (nI_eq (a := i + k) (b := j9) (by omega) (by omega)).mp h9
            omega
          refine gj_ld (i := 0) (pc2 := 44) rfl (fun _ _ _ h9 => lv_aload_n hx hb d_M_pokeFour_43 rfl h9) ?_
          refine gj_ld (i := 1) (pc2 := 45) rfl (fun _ _ _ h9 => lv_iload_n hx hb d_M_pokeFour_44 rfl h9) ?_
          refine gj_ld (i := 4) (pc2 := 47) rfl (fun _ _ _ h9 => lv_iload hx hb d_M_pokeFour_45 h9) ?_
          refine gj_l (pc2 := 48) (fun _ _ _ => lv_iadd hx hb d_M_pokeFour_47) ?_
          refine gj_ld (i := 2) (pc2 := 49) rfl (fun _ _ _ h9 => lv_iload_n hx hb d_M_pokeFour_48 rfl h9) ?_
          refine gj_l (pc2 := 51) (fun _ _ _ => lv_bipush (v := (24)) hx hb d_M_pokeFour_49 (by decide)) ?_
          refine gj_l (pc2 := 53) (fun _ _ _ => lv_bipush (v := (8)) hx hb d_M_pokeFour_51 (by decide)) ?_
          refine gj_ld (i := 4) (pc2 := 55) rfl (fun _ _ _ h9 => lv_iload hx hb d_M_pokeFour_53 h9) ?_
          refine gj_l (pc2 := 56) (fun _ _ _ => lv_imul hx hb d_M_pokeFour_55) ?_
          refine gj_l (pc2 := 57) (fun _ _ _ => lv_isub hx hb d_M_pokeFour_56) ?_
          refine gj_l (pc2 := 58) (fun _ _ _ => lv_ishr hx hb d_M_pokeFour_57) ?_
          refine gj_l (pc2 := 61) (fun _ _ _ => lv_sipush (v := (255)) hx hb d_M_pokeFour_58 (by decide)) ?_
          refine gj_l (pc2 := 62) (fun _ _ _ => lv_iand hx hb d_M_pokeFour_61) ?_
          rw [nI_add]
          refine bj_vv F k_M_write d_M_pokeFour_62 q_407 (mw_at (i := 0) (by omega)) rfl (ct_M_write (i := i + k) (by omega) (bm4 v k)) (rmo rfl) rfl rfl (Nat.le_of_ble_eq_true rfl) (Nat.zero_le _) (Nat.zero_le _) rfl (fun u9 e9 => ?_)
          subst e9
          refine gj_iinc (pc2 := 68) hx hb d_M_pokeFour_65 (Nat.le_of_ble_eq_true rfl) rfl (nI_1 k) rfl ?_
          refine gj_iinc (pc2 := 71) hx hb d_M_pokeFour_68 (Nat.le_of_ble_eq_true rfl) rfl (nI_1 k) rfl ?_
          refine gj_l (pc2 := 27) (fun _ _ _ => lv_goto (tgt := 27) hx hb d_M_pokeFour_71 (by decide)) ?_
          exact ih hlt
    · exact absurd h17 (by decide)
  · refine gj_l (pc2 := 9) (fun _ _ _ => lv_iconst (v := 1) hx hb d_M_pokeFour_8 (by decide)) ?_
    refine gj_l (pc2 := 13) (fun _ _ _ => lv_goto (tgt := 13) hx hb d_M_pokeFour_9 (by decide)) ?_
    refine gj_l (pc2 := 14) (fun _ _ _ => lv_iconst (v := 0) hx hb d_M_pokeFour_13 (by decide)) ?_
    refine bj_vi F k_M_throwing d_M_pokeFour_14 q_403 (mw_at (i := 0) (by omega)) rfl (ct_M_throwing _ _) (rmo rfl) rfl rfl (Nat.le_of_ble_eq_true rfl) (Nat.zero_le _) (Nat.zero_le _) rfl (fun r9 u9 e9 => ?_)
    obtain ⟨rfl, rfl⟩ := e9
    refine gj_if (pc2 := 22) (pc3 := 20) (fun _ _ _ => lv_if_eq (tgt := 22) hx hb d_M_pokeFour_17 (by decide)) (fun h17 => ?_) (fun h17 => ?_)
    · exact absurd h17 (by decide)
    · refine gj_l (pc2 := 21) (fun _ _ _ => lv_iconst (v := 0) hx hb d_M_pokeFour_20 (by decide)) ?_
      exact gj_iret F d_M_pokeFour_21 (Nat.le_refl _) (Nat.le_refl _) (Or.inl ⟨bN_0.mp h5, rfl, rfl⟩)

theorem k_M_set : CKV y_M_set c_M_set 4 (some .int) 2 := ⟨q_422, q_3, q_420, q_421, ⟨by decide +kernel, by decide +kernel, by decide +kernel⟩⟩
set_option maxHeartbeats 4000000 in
set_option maxRecDepth 100000 in
theorem ct_M_set {l : Launch} {D : va_G} {cI cB cZ cJ : ClassId} {a : Nat → Nat} {τ : St} (x v : Int32) : GCi l y_M_set (Cond.code y_M_set c_M_set 4 (some .int) :: tbW) ({ frames := 1, cells := 0, slots := 0, locals := 22 }) 0 0 D vCl (TY cI cB cZ cJ) [.ref (a 0), .int x, .int v] (mw a cI cZ τ) (fun r u => (inR x 0 7 = false ∧ r = 0 ∧ u = mw a cI cZ (s2 τ 0 0 1)) ∨ ∃ i : Nat, i < 8 ∧ x = nI i ∧ r = τ 2 i ∧ u = mw a cI cZ (s2 (s2 τ 0 0 0) 2 i v)) := by
  refine gc_body (Qc := gc_Qi D vCl (TY cI cB cZ cJ) (mw a cI cZ τ) (fun r u => (inR x 0 7 = false ∧ r = 0 ∧ u = mw a cI cZ (s2 τ 0 0 1)) ∨ ∃ i : Nat, i < 8 ∧ x = nI i ∧ r = τ 2 i ∧ u = mw a cI cZ (s2 (s2 τ 0 0 0) 2 i v))) (cc := c_M_set) (maxL := 4) (ret := (some .int)) (by decide) rfl (by simp [Value.category]) (Nat.le_of_ble_eq_true rfl) ?_
  intro p e s m args below meth c F
  have hx := F.1
  have hb := F.2.1
  refine gj_ld (i := 0) (pc2 := 1) rfl (fun _ _ _ h9 => lv_aload_n hx hb d_M_set_0 rfl h9) ?_
  refine gj_ld (i := 1) (pc2 := 2) rfl (fun _ _ _ h9 => lv_iload_n hx hb d_M_set_1 rfl h9) ?_
  refine gj_l (pc2 := 3) (fun _ _ _ => lv_iconst (v := 0) hx hb d_M_set_2 (by decide)) ?_
  refine gj_l (pc2 := 5) (fun _ _ _ => lv_bipush (v := (7)) hx hb d_M_set_3 (by decide)) ?_
  refine bj_s F k_M_in d_M_set_5 q_400 (ct_M_in _ _ _) (rmo rfl) rfl rfl (Nat.le_of_ble_eq_true rfl) (Nat.zero_le _) (Nat.zero_le _) rfl (fun r9 e9 => ?_)
  subst e9
  refine gj_if (pc2 := 15) (pc3 := 11) (fun _ _ _ => lv_if_ne (tgt := 15) hx hb d_M_set_8 (by decide)) (fun h8 => ?_) (fun h8 => ?_)
  · refine gj_l (pc2 := 16) (fun _ _ _ => lv_iconst (v := 0) hx hb d_M_set_15 (by decide)) ?_
    refine gj_l (pc2 := 17) (fun _ _ _ => lv_iconst (v := 0) hx hb d_M_set_16 (by decide)) ?_
    refine bj_vi F k_M_throwing d_M_set_17 q_403 (mw_at (i := 0) (by omega)) rfl (ct_M_throwing _ _) (rmo rfl) rfl rfl (Nat.le_of_ble_eq_true rfl) (Nat.zero_le _) (Nat.zero_le _) rfl (fun r9 u9 e9 => ?_)
    obtain ⟨rfl, rfl⟩ := e9
    refine gj_if (pc2 := 25) (pc3 := 23) (fun _ _ _ => lv_if_eq (tgt := 25) hx hb d_M_set_20 (by decide)) (fun h20 => ?_) (fun h20 => ?_)
    · obtain ⟨i, hi, rfl⟩ := inR_7 (bN_n0.mp h8)
      refine gj_ld (i := 0) (pc2 := 26) rfl (fun _ _ _ h9 => lv_aload_n hx hb d_M_set_25 rfl h9) ?_
      refine mj_gr F 2 rfl d_M_set_26 q_332 rfl ?_
      refine gj_ld (i := 1) (pc2 := 30) rfl (fun _ _ _ h9 => lv_iload_n hx hb d_M_set_29 rfl h9) ?_
      refine mj_ld F 2 8 i (by omega) rfl (by decide) rfl hi d_M_set_30 rfl ?_
      refine gj_st (i := 3) (pc2 := 32) (Nat.le_of_ble_eq_true rfl) rfl (fun _ _ _ _ _ h9 l9 => lv_istore_n hx hb d_M_set_31 rfl h9 (Nat.le_of_ble_eq_true rfl) l9) ?_
      refine gj_ld (i := 0) (pc2 := 33) rfl (fun _ _ _ h9 => lv_aload_n hx hb d_M_set_32 rfl h9) ?_
      refine mj_gr F 2 rfl d_M_set_33 q_332 rfl ?_
      refine gj_ld (i := 1) (pc2 := 37) rfl (fun _ _ _ h9 => lv_iload_n hx hb d_M_set_36 rfl h9) ?_
      refine gj_ld (i := 2) (pc2 := 38) rfl (fun _ _ _ h9 => lv_iload_n hx hb d_M_set_37 rfl h9) ?_
      refine mj_st F 2 8 i (by omega) (fun _ => rfl) (by decide) rfl hi d_M_set_38 rfl ?_
      refine gj_ld (i := 3) (pc2 := 40) rfl (fun _ _ _ h9 => lv_iload_n hx hb d_M_set_39 rfl h9) ?_
      exact gj_iret F d_M_set_40 (Nat.le_refl _) (Nat.le_refl _) (Or.inr ⟨i, hi, rfl, rfl, rfl⟩)
    · exact absurd h20 (by decide)
  · refine gj_l (pc2 := 12) (fun _ _ _ => lv_iconst (v := 1) hx hb d_M_set_11 (by decide)) ?_
    refine gj_l (pc2 := 16) (fun _ _ _ => lv_goto (tgt := 16) hx hb d_M_set_12 (by decide)) ?_
    refine gj_l (pc2 := 17) (fun _ _ _ => lv_iconst (v := 0) hx hb d_M_set_16 (by decide)) ?_
    refine bj_vi F k_M_throwing d_M_set_17 q_403 (mw_at (i := 0) (by omega)) rfl (ct_M_throwing _ _) (rmo rfl) rfl rfl (Nat.le_of_ble_eq_true rfl) (Nat.zero_le _) (Nat.zero_le _) rfl (fun r9 u9 e9 => ?_)
    obtain ⟨rfl, rfl⟩ := e9
    refine gj_if (pc2 := 25) (pc3 := 23) (fun _ _ _ => lv_if_eq (tgt := 25) hx hb d_M_set_20 (by decide)) (fun h20 => ?_) (fun h20 => ?_)
    · exact absurd h20 (by decide)
    · refine gj_l (pc2 := 24) (fun _ _ _ => lv_iconst (v := 0) hx hb d_M_set_23 (by decide)) ?_
      exact gj_iret F d_M_set_24 (Nat.le_refl _) (Nat.le_refl _) (Or.inl ⟨bN_0.mp h8, rfl, rfl⟩)

theorem k_M_go : CKV y_M_go c_M_go 3 (some .int) 1 := ⟨q_426, q_3, q_424, q_425, ⟨by decide +kernel, by decide +kernel, by decide +kernel⟩⟩
set_option maxHeartbeats 4000000 in
set_option maxRecDepth 100000 in
theorem ct_M_go {l : Launch} {D : va_G} {cI cB cZ cJ : ClassId} {a : Nat → Nat} {τ : St} (x : Int32) : GCi l y_M_go (Cond.code y_M_go c_M_go 3 (some .int) :: tbW) ({ frames := 2, cells := 0, slots := 0, locals := 42 }) 0 0 D vCl (TY cI cB cZ cJ) [.ref (a 0), .int x] (mw a cI cZ τ) (fun r u => (inM x = false ∧ r = 0 ∧ u = mw a cI cZ (s2 τ 0 0 1)) ∨ (inM x = true ∧ r = τ 0 3 ∧ u = mw a cI cZ (s2 (s2 (s2 τ 0 0 0) 0 3 x) 0 4 0))) := by
  refine gc_body (Qc := gc_Qi D vCl (TY cI cB cZ cJ) (mw a cI cZ τ) (fun r u => (inM x = false ∧ r = 0 ∧ u = mw a cI cZ (s2 τ 0 0 1)) ∨ (inM x = true ∧ r = τ 0 3 ∧ u = mw a cI cZ (s2 (s2 (s2 τ 0 0 0) 0 3 x) 0 4 0)))) (cc := c_M_go) (maxL := 3) (ret := (some .int)) (by decide) rfl (by simp [Value.category]) (Nat.le_of_ble_eq_true rfl) ?_
  intro p e s m args below meth c F
  have hx := F.1
  have hb := F.2.1
  refine gj_ld (i := 0) (pc2 := 1) rfl (fun _ _ _ h9 => lv_aload_n hx hb d_M_go_0 rfl h9) ?_
  refine gj_ld (i := 1) (pc2 := 2) rfl (fun _ _ _ h9 => lv_iload_n hx hb d_M_go_1 rfl h9) ?_
  refine bj_s F k_M_isThere d_M_go_2 q_397 (ct_M_isThere _) (rmo rfl) rfl rfl (Nat.le_of_ble_eq_true rfl) (Nat.zero_le _) (Nat.zero_le _) rfl (fun r9 e9 => ?_)
  subst e9
  refine gj_if (pc2 := 12) (pc3 := 8) (fun _ _ _ => lv_if_ne (tgt := 12) hx hb d_M_go_5 (by decide)) (fun h5 => ?_) (fun h5 => ?_)
  · refine gj_l (pc2 := 13) (fun _ _ _ => lv_iconst (v := 0) hx hb d_M_go_12 (by decide)) ?_
    refine gj_l (pc2 := 14) (fun _ _ _ => lv_iconst (v := 0) hx hb d_M_go_13 (by decide)) ?_
    refine bj_vi F k_M_throwing d_M_go_14 q_403 (mw_at (i := 0) (by omega)) rfl (ct_M_throwing _ _) (rmo rfl) rfl rfl (Nat.le_of_ble_eq_true rfl) (Nat.zero_le _) (Nat.zero_le _) rfl (fun r9 u9 e9 => ?_)
    obtain ⟨rfl, rfl⟩ := e9
    refine gj_if (pc2 := 22) (pc3 := 20) (fun _ _ _ => lv_if_eq (tgt := 22) hx hb d_M_go_17 (by decide)) (fun h17 => ?_) (fun h17 => ?_)
    · refine gj_ld (i := 0) (pc2 := 23) rfl (fun _ _ _ h9 => lv_aload_n hx hb d_M_go_22 rfl h9) ?_
      refine mj_gi F 3 rfl d_M_go_23 q_333 rfl ?_
      refine gj_st (i := 2) (pc2 := 27) (Nat.le_of_ble_eq_true rfl) rfl (fun _ _ _ _ _ h9 l9 => lv_istore_n hx hb d_M_go_26 rfl h9 (Nat.le_of_ble_eq_true rfl) l9) ?_
      refine gj_ld (i := 0) (pc2 := 28) rfl (fun _ _ _ h9 => lv_aload_n hx hb d_M_go_27 rfl h9) ?_
      refine gj_ld (i := 1) (pc2 := 29) rfl (fun _ _ _ h9 => lv_iload_n hx hb d_M_go_28 rfl h9) ?_
      refine mj_pi F 3 rfl d_M_go_29 q_333 rfl ?_
      refine gj_ld (i := 0) (pc2 := 33) rfl (fun _ _ _ h9 => lv_aload_n hx hb d_M_go_32 rfl h9) ?_
      refine gj_l (pc2 := 34) (fun _ _ _ => lv_iconst (v := 0) hx hb d_M_go_33 (by decide)) ?_
      refine mj_pi F 4 rfl d_M_go_34 q_334 rfl ?_
      refine gj_ld (i := 2) (pc2 := 38) rfl (fun _ _ _ h9 => lv_iload_n hx hb d_M_go_37 rfl h9) ?_
      exact gj_iret F d_M_go_38 (Nat.le_refl _) (Nat.le_refl _) (Or.inr ⟨bN_n0.mp h5, rfl, rfl⟩)
    · exact absurd h17 (by decide)
  · refine gj_l (pc2 := 9) (fun _ _ _ => lv_iconst (v := 1) hx hb d_M_go_8 (by decide)) ?_
    refine gj_l (pc2 := 13) (fun _ _ _ => lv_goto (tgt := 13) hx hb d_M_go_9 (by decide)) ?_
    refine gj_l (pc2 := 14) (fun _ _ _ => lv_iconst (v := 0) hx hb d_M_go_13 (by decide)) ?_
    refine bj_vi F k_M_throwing d_M_go_14 q_403 (mw_at (i := 0) (by omega)) rfl (ct_M_throwing _ _) (rmo rfl) rfl rfl (Nat.le_of_ble_eq_true rfl) (Nat.zero_le _) (Nat.zero_le _) rfl (fun r9 u9 e9 => ?_)
    obtain ⟨rfl, rfl⟩ := e9
    refine gj_if (pc2 := 22) (pc3 := 20) (fun _ _ _ => lv_if_eq (tgt := 22) hx hb d_M_go_17 (by decide)) (fun h17 => ?_) (fun h17 => ?_)
    · exact absurd h17 (by decide)
    · refine gj_l (pc2 := 21) (fun _ _ _ => lv_iconst (v := 0) hx hb d_M_go_20 (by decide)) ?_
      exact gj_iret F d_M_go_21 (Nat.le_refl _) (Nat.le_refl _) (Or.inl ⟨bN_0.mp h5, rfl, rfl⟩)

theorem k_M_memory : CKV y_M_memory c_M_memory 2 (some .int) 1 := ⟨q_473, q_3, q_471, q_472, ⟨by decide +kernel, by decide +kernel, by decide +kernel⟩⟩
set_option maxHeartbeats 4000000 in
set_option maxRecDepth 100000 in
theorem ct_M_memory {l : Launch} {D : va_G} {cI cB cZ cJ : ClassId} {a : Nat → Nat} {τ : St} (x : Int32) : GCi l y_M_memory (Cond.code y_M_memory c_M_memory 2 (some .int) :: tbW) ({ frames := 2, cells := 0, slots := 0, locals := 42 }) 0 0 D vCl (TY cI cB cZ cJ) [.ref (a 0), .int x] (mw a cI cZ τ) (fun r u => (inM x = false ∧ r = 0 ∧ u = mw a cI cZ (s2 τ 0 0 1)) ∨ ∃ i : Nat, i < 1024 ∧ x = nI i ∧ r = τ 1 i ∧ u = mw a cI cZ (s2 τ 0 0 0)) := by
  refine gc_body (Qc := gc_Qi D vCl (TY cI cB cZ cJ) (mw a cI cZ τ) (fun r u => (inM x = false ∧ r = 0 ∧ u = mw a cI cZ (s2 τ 0 0 1)) ∨ ∃ i : Nat, i < 1024 ∧ x = nI i ∧ r = τ 1 i ∧ u = mw a cI cZ (s2 τ 0 0 0))) (cc := c_M_memory) (maxL := 2) (ret := (some .int)) (by decide) rfl (by simp [Value.category]) (Nat.le_of_ble_eq_true rfl) ?_
  intro p e s m args below meth c F
  have hx := F.1
  have hb := F.2.1
  refine gj_ld (i := 0) (pc2 := 1) rfl (fun _ _ _ h9 => lv_aload_n hx hb d_M_memory_0 rfl h9) ?_
  refine gj_ld (i := 1) (pc2 := 2) rfl (fun _ _ _ h9 => lv_iload_n hx hb d_M_memory_1 rfl h9) ?_
  refine bj_s F k_M_isThere d_M_memory_2 q_397 (ct_M_isThere _) (rmo rfl) rfl rfl (Nat.le_of_ble_eq_true rfl) (Nat.zero_le _) (Nat.zero_le _) rfl (fun r9 e9 => ?_)
  subst e9
  refine gj_if (pc2 := 12) (pc3 := 8) (fun _ _ _ => lv_if_ne (tgt := 12) hx hb d_M_memory_5 (by decide)) (fun h5 => ?_) (fun h5 => ?_)
  · refine gj_l (pc2 := 13) (fun _ _ _ => lv_iconst (v := 0) hx hb d_M_memory_12 (by decide)) ?_
    refine gj_l (pc2 := 14) (fun _ _ _ => lv_iconst (v := 0) hx hb d_M_memory_13 (by decide)) ?_
    refine bj_vi F k_M_throwing d_M_memory_14 q_403 (mw_at (i := 0) (by omega)) rfl (ct_M_throwing _ _) (rmo rfl) rfl rfl (Nat.le_of_ble_eq_true rfl) (Nat.zero_le _) (Nat.zero_le _) rfl (fun r9 u9 e9 => ?_)
    obtain ⟨rfl, rfl⟩ := e9
    refine gj_if (pc2 := 24) (pc3 := 20) (fun _ _ _ => lv_if_eq (tgt := 24) hx hb d_M_memory_17 (by decide)) (fun h17 => ?_) (fun h17 => ?_)
    · obtain ⟨i, hi, rfl⟩ := inM_of (bN_n0.mp h5)
      have hin := inM_nI hi
      refine gj_ld (i := 0) (pc2 := 25) rfl (fun _ _ _ h9 => lv_aload_n hx hb d_M_memory_24 rfl h9) ?_
      refine mj_gr F 1 rfl d_M_memory_25 q_331 rfl ?_
      refine gj_ld (i := 1) (pc2 := 29) rfl (fun _ _ _ h9 => lv_iload_n hx hb d_M_memory_28 rfl h9) ?_
      refine mj_ld F 1 1024 i (by omega) rfl (by decide) rfl hi d_M_memory_29 rfl ?_
      exact gj_iret F d_M_memory_30 (Nat.le_refl _) (Nat.le_refl _) (by first | exact Or.inl ⟨bN_0.mp h5, rfl, rfl⟩ | exact Or.inr ⟨i, hi, rfl, rfl, rfl⟩)
    · exact absurd h17 (by decide)
  · refine gj_l (pc2 := 9) (fun _ _ _ => lv_iconst (v := 1) hx hb d_M_memory_8 (by decide)) ?_
    refine gj_l (pc2 := 13) (fun _ _ _ => lv_goto (tgt := 13) hx hb d_M_memory_9 (by decide)) ?_
    refine gj_l (pc2 := 14) (fun _ _ _ => lv_iconst (v := 0) hx hb d_M_memory_13 (by decide)) ?_
    refine bj_vi F k_M_throwing d_M_memory_14 q_403 (mw_at (i := 0) (by omega)) rfl (ct_M_throwing _ _) (rmo rfl) rfl rfl (Nat.le_of_ble_eq_true rfl) (Nat.zero_le _) (Nat.zero_le _) rfl (fun r9 u9 e9 => ?_)
    obtain ⟨rfl, rfl⟩ := e9
    refine gj_if (pc2 := 24) (pc3 := 20) (fun _ _ _ => lv_if_eq (tgt := 24) hx hb d_M_memory_17 (by decide)) (fun h17 => ?_) (fun h17 => ?_)
    · exact absurd h17 (by decide)
    · refine gj_l (pc2 := 21) (fun _ _ _ => lv_iconst (v := 0) hx hb d_M_memory_20 (by decide)) ?_
      refine gj_l (pc2 := 30) (fun _ _ _ => lv_goto (tgt := 30) hx hb d_M_memory_21 (by decide)) ?_
      exact gj_iret F d_M_memory_30 (Nat.le_refl _) (Nat.le_refl _) (by first | exact Or.inl ⟨bN_0.mp h5, rfl, rfl⟩ | exact Or.inr ⟨i, hi, rfl, rfl, rfl⟩)

theorem k_M_kindAt : CKV y_M_kindAt c_M_kindAt 2 (some .int) 1 := ⟨q_442, q_3, q_441, sl_M_kindAt, ⟨by decide +kernel, by decide +kernel, by decide +kernel⟩⟩
set_option maxHeartbeats 4000000 in
set_option maxRecDepth 100000 in
theorem ct_M_kindAt {l : Launch} {D : va_G} {cI cB cZ cJ : ClassId} {a : Nat → Nat} {τ : St} (x : Int32) : GCi l y_M_kindAt (Cond.code y_M_kindAt c_M_kindAt 2 (some .int) :: tbW) ({ frames := 2, cells := 0, slots := 0, locals := 42 }) 0 0 D vCl (TY cI cB cZ cJ) [.ref (a 0), .int x] (mw a cI cZ τ) (fun r u => r = kdM τ x ∧ u = (mw a cI cZ τ)) := by
  refine gc_body (Qc := gc_Qi D vCl (TY cI cB cZ cJ) (mw a cI cZ τ) (fun r u => r = kdM τ x ∧ u = (mw a cI cZ τ))) (cc := c_M_kindAt) (maxL := 2) (ret := (some .int)) (by decide) rfl (by simp [Value.category]) (Nat.le_of_ble_eq_true rfl) ?_
  intro p e s m args below meth c F
  have hx := F.1
  have hb := F.2.1
  refine gj_ld (i := 1) (pc2 := 1) rfl (fun _ _ _ h9 => lv_iload_n hx hb d_M_kindAt_0 rfl h9) ?_
  refine bj_s F k_M_isThere d_M_kindAt_1 q_397 (ct_M_isThere _) (rmo rfl) rfl rfl (Nat.le_of_ble_eq_true rfl) (Nat.zero_le _) (Nat.zero_le _) rfl (fun r9 e9 => ?_)
  subst e9
  refine gj_if (pc2 := 18) (pc3 := 7) (fun _ _ _ => lv_if_eq (tgt := 18) hx hb d_M_kindAt_4 (by decide)) (fun h4 => ?_) (fun h4 => ?_)
  · refine gj_l (pc2 := 19) (fun _ _ _ => lv_iconst (v := (-1)) hx hb d_M_kindAt_18 (by decide)) ?_
    exact gj_iret F d_M_kindAt_19 (Nat.le_refl _) (Nat.le_refl _) ⟨by first | (simp only [kdM, hin, hcl, if_true]; done) | (simp [kdM, bN_0.mp h4]; done), rfl⟩
  · obtain ⟨i, hi, rfl⟩ := inM_of (bN_n0.mp h4)
    have hin := inM_nI hi
    have hcl : (nI i).toNatClampNeg = i := nI_clamp (by omega)
    refine gj_ld (i := 0) (pc2 := 8) rfl (fun _ _ _ h9 => lv_aload_n hx hb d_M_kindAt_7 rfl h9) ?_
    refine mj_gr F 1 rfl d_M_kindAt_8 q_331 rfl ?_
    refine gj_ld (i := 1) (pc2 := 12) rfl (fun _ _ _ h9 => lv_iload_n hx hb d_M_kindAt_11 rfl h9) ?_
    refine mj_ld F 1 1024 i (by omega) rfl (by decide) rfl hi d_M_kindAt_12 rfl ?_
    refine gj_l (pc2 := 14) (fun _ _ _ => lv_iconst (v := 4) hx hb d_M_kindAt_13 (by decide)) ?_
    refine gj_l (pc2 := 15) (fun _ _ _ => lv_ishr hx hb d_M_kindAt_14) ?_
    refine gj_l (pc2 := 19) (fun _ _ _ => lv_goto (tgt := 19) hx hb d_M_kindAt_15 (by decide)) ?_
    exact gj_iret F d_M_kindAt_19 (Nat.le_refl _) (Nat.le_refl _) ⟨by first | (simp only [kdM, hin, hcl, if_true]; done) | (simp [kdM, bN_0.mp h4]; done), rfl⟩

theorem k_M_faultAt : CKV y_M_faultAt c_M_faultAt 3 (some .int) 1 := ⟨q_446, q_3, q_445, sl_M_faultAt, ⟨by decide +kernel, by decide +kernel, by decide +kernel⟩⟩
set_option maxHeartbeats 4000000 in
set_option maxRecDepth 100000 in
theorem ct_M_faultAt {l : Launch} {D : va_G} {cI cB cZ cJ : ClassId} {a : Nat → Nat} {τ : St} (x : Int32) : GCi l y_M_faultAt (Cond.code y_M_faultAt c_M_faultAt 3 (some .int) :: tbW) ({ frames := 3, cells := 0, slots := 0, locals := 63 }) 0 0 D vCl (TY cI cB cZ cJ) [.ref (a 0), .int x] (mw a cI cZ τ) (fun r u => r = ftM τ x ∧ u = (mw a cI cZ τ)) := by
  refine gc_body (Qc := gc_Qi D vCl (TY cI cB cZ cJ) (mw a cI cZ τ) (fun r u => r = ftM τ x ∧ u = (mw a cI cZ τ))) (cc := c_M_faultAt) (maxL := 3) (ret := (some .int)) (by decide) rfl (by simp [Value.category]) (Nat.le_of_ble_eq_true rfl) ?_
  intro p e s m args below meth c F
  have hx := F.1
  have hb := F.2.1
  refine gj_ld (i := 0) (pc2 := 1) rfl (fun _ _ _ h9 => lv_aload_n hx hb d_M_faultAt_0 rfl h9) ?_
  refine gj_ld (i := 1) (pc2 := 2) rfl (fun _ _ _ h9 => lv_iload_n hx hb d_M_faultAt_1 rfl h9) ?_
  refine bj_vi F k_M_kindAt d_M_faultAt_2 q_439 (mw_at (i := 0) (by omega)) rfl (ct_M_kindAt _) (rmo rfl) rfl rfl (Nat.le_of_ble_eq_true rfl) (Nat.zero_le _) (Nat.zero_le _) rfl (fun r9 u9 e9 => ?_)
  obtain ⟨rfl, rfl⟩ := e9
  refine gj_st (i := 2) (pc2 := 6) (Nat.le_of_ble_eq_true rfl) rfl (fun _ _ _ _ _ h9 l9 => lv_istore_n hx hb d_M_faultAt_5 rfl h9 (Nat.le_of_ble_eq_true rfl) l9) ?_
  refine gj_ld (i := 2) (pc2 := 7) rfl (fun _ _ _ h9 => lv_iload_n hx hb d_M_faultAt_6 rfl h9) ?_
  refine gj_if (pc2 := 12) (pc3 := 10) (fun _ _ _ => lv_if_ge (tgt := 12) hx hb d_M_faultAt_7 (by decide)) (fun h7 => ?_) (fun h7 => ?_)
  · refine gj_ld (i := 2) (pc2 := 13) rfl (fun _ _ _ h9 => lv_iload_n hx hb d_M_faultAt_12 rfl h9) ?_
    refine gj_l (pc2 := 15) (fun _ _ _ => lv_bipush (v := (11)) hx hb d_M_faultAt_13 (by decide)) ?_
    refine gj_if (pc2 := 20) (pc3 := 18) (fun _ _ _ => lv_icmp_le (tgt := 20) hx hb d_M_faultAt_15 (by decide)) (fun h15 => ?_) (fun h15 => ?_)
    · refine gj_ld (i := 1) (pc2 := 21) rfl (fun _ _ _ h9 => lv_iload_n hx hb d_M_faultAt_20 rfl h9) ?_
      refine gj_ld (i := 2) (pc2 := 22) rfl (fun _ _ _ h9 => lv_iload_n hx hb d_M_faultAt_21 rfl h9) ?_
      refine bj_s F k_M_sizeOf d_M_faultAt_22 q_447 (ct_M_sizeOf _) (rmo rfl) rfl rfl (Nat.le_of_ble_eq_true rfl) (Nat.zero_le _) (Nat.zero_le _) rfl (fun r9 e9 => ?_)
      subst e9
      refine gj_l (pc2 := 26) (fun _ _ _ => lv_iadd hx hb d_M_faultAt_25) ?_
      refine gj_l (pc2 := 27) (fun _ _ _ => lv_iconst (v := 1) hx hb d_M_faultAt_26 (by decide)) ?_
      refine gj_l (pc2 := 28) (fun _ _ _ => lv_isub hx hb d_M_faultAt_27) ?_
      refine bj_s F k_M_isThere d_M_faultAt_28 q_397 (ct_M_isThere _) (rmo rfl) rfl rfl (Nat.le_of_ble_eq_true rfl) (Nat.zero_le _) (Nat.zero_le _) rfl (fun r9 e9 => ?_)
      subst e9
      refine gj_if (pc2 := 38) (pc3 := 34) (fun _ _ _ => lv_if_eq (tgt := 38) hx hb d_M_faultAt_31 (by decide)) (fun h31 => ?_) (fun h31 => ?_)
      · refine gj_l (pc2 := 39) (fun _ _ _ => lv_iconst (v := 3) hx hb d_M_faultAt_38 (by decide)) ?_
        exact gj_iret F d_M_faultAt_39 (Nat.le_refl _) (Nat.le_refl _) ⟨by first | (simp [bN_0] at h31; simp [ftM, h7, h15, h31]; done) | (simp [ftM, h7, h15, h31]; done), rfl⟩
      · refine gj_l (pc2 := 35) (fun _ _ _ => lv_iconst (v := 0) hx hb d_M_faultAt_34 (by decide)) ?_
        refine gj_l (pc2 := 39) (fun _ _ _ => lv_goto (tgt := 39) hx hb d_M_faultAt_35 (by decide)) ?_
        exact gj_iret F d_M_faultAt_39 (Nat.le_refl _) (Nat.le_refl _) ⟨by first | (simp [bN_0] at h31; simp [ftM, h7, h15, h31]; done) | (simp [ftM, h7, h15, h31]; done), rfl⟩
    · refine gj_l (pc2 := 19) (fun _ _ _ => lv_iconst (v := 2) hx hb d_M_faultAt_18 (by decide)) ?_
      exact gj_iret F d_M_faultAt_19 (Nat.le_refl _) (Nat.le_refl _) ⟨by first | (simp [bN_0] at h31; simp [ftM, h7, h15]; done) | (simp [ftM, h7, h15]; done), rfl⟩
  · refine gj_l (pc2 := 11) (fun _ _ _ => lv_iconst (v := 3) hx hb d_M_faultAt_10 (by decide)) ?_
    exact gj_iret F d_M_faultAt_11 (Nat.le_refl _) (Nat.le_refl _) ⟨by first | (simp [bN_0] at h31; simp [ftM, h7]; done) | (simp [ftM, h7]; done), rfl⟩
