theorem k_X_inMemory : CKS y_X_inMemory c_X_inMemory 1 (some .boolean) 1 := ⟨q_115, q_1, q_114, ⟨by decide +kernel, by decide +kernel, by decide +kernel⟩⟩
set_option maxHeartbeats 4000000 in
set_option maxRecDepth 100000 in
theorem ct_X_inMemory {l : Launch} {D : va_G} {cI cB cZ cJ : ClassId} (x : Int32) : GCi l y_X_inMemory (Cond.code y_X_inMemory c_X_inMemory 1 (some .boolean) :: tbW) ({ frames := 0, cells := 0, slots := 0, locals := 0 }) 0 0 D vCl (TY cI cB cZ cJ) [.int x] [] (fun r u => r = bN (inM x) ∧ u = []) := by
  refine gc_body (Qc := gc_Qi D vCl (TY cI cB cZ cJ) [] (fun r u => r = bN (inM x) ∧ u = [])) (cc := c_X_inMemory) (maxL := 1) (ret := (some .boolean)) (by decide) rfl (by simp [Value.category]) (Nat.le_of_ble_eq_true rfl) ?_
  intro p e s m args below meth c F
  have hx := F.1
  have hb := F.2.1
  refine gj_ld (i := 0) (pc2 := 1) rfl (fun _ _ _ h9 => lv_iload_n hx hb d_X_inMemory_0 rfl h9) ?_
  refine gj_if (pc2 := 15) (pc3 := 4) (fun _ _ _ => lv_if_lt (tgt := 15) hx hb d_X_inMemory_1 (by decide)) (fun h1 => ?_) (fun h1 => ?_)
  · refine gj_l (pc2 := 16) (fun _ _ _ => lv_iconst (v := 0) hx hb d_X_inMemory_15 (by decide)) ?_
    exact gj_zret F d_X_inMemory_16 (by first | rfl | exact bN_z _ | decide) (Nat.le_refl _) (Nat.le_refl _) ⟨by simp [inM, bN, h1], rfl⟩
  · refine gj_ld (i := 0) (pc2 := 5) rfl (fun _ _ _ h9 => lv_iload_n hx hb d_X_inMemory_4 rfl h9) ?_
    refine gj_l (pc2 := 8) (fun _ _ _ => lv_sipush (v := (1024)) hx hb d_X_inMemory_5 (by decide)) ?_
    refine gj_if (pc2 := 15) (pc3 := 11) (fun _ _ _ => lv_icmp_ge (tgt := 15) hx hb d_X_inMemory_8 (by decide)) (fun h8 => ?_) (fun h8 => ?_)
    · refine gj_l (pc2 := 16) (fun _ _ _ => lv_iconst (v := 0) hx hb d_X_inMemory_15 (by decide)) ?_
      exact gj_zret F d_X_inMemory_16 (by first | rfl | exact bN_z _ | decide) (Nat.le_refl _) (Nat.le_refl _) ⟨by simp [inM, bN, h1, h8], rfl⟩
    · refine gj_l (pc2 := 12) (fun _ _ _ => lv_iconst (v := 1) hx hb d_X_inMemory_11 (by decide)) ?_
      refine gj_l (pc2 := 16) (fun _ _ _ => lv_goto (tgt := 16) hx hb d_X_inMemory_12 (by decide)) ?_
      exact gj_zret F d_X_inMemory_16 (by first | rfl | exact bN_z _ | decide) (Nat.le_refl _) (Nat.le_refl _) ⟨by simp [inM, bN, h1, h8], rfl⟩

theorem k_X_bytesOfOutside : CKS y_X_bytesOfOutside c_X_bytesOfOutside 1 (some .int) 1 := ⟨q_268, q_1, q_267, ⟨by decide +kernel, by decide +kernel, by decide +kernel⟩⟩
set_option maxHeartbeats 4000000 in
set_option maxRecDepth 100000 in
theorem ct_X_bytesOfOutside {l : Launch} {D : va_G} {cI cB cZ cJ : ClassId} (x : Int32) : GCi l y_X_bytesOfOutside (Cond.code y_X_bytesOfOutside c_X_bytesOfOutside 1 (some .int) :: tbW) ({ frames := 1, cells := 0, slots := 0, locals := 20 }) 0 0 D vCl (TY cI cB cZ cJ) [.int x] [] (fun r u => r = bN (inM x) ∧ u = []) := by
  refine gc_body (Qc := gc_Qi D vCl (TY cI cB cZ cJ) [] (fun r u => r = bN (inM x) ∧ u = [])) (cc := c_X_bytesOfOutside) (maxL := 1) (ret := (some .int)) (by decide) rfl (by simp [Value.category]) (Nat.le_of_ble_eq_true rfl) ?_
  intro p e s m args below meth c F
  have hx := F.1
  have hb := F.2.1
  refine gj_ld (i := 0) (pc2 := 1) rfl (fun _ _ _ h9 => lv_iload_n hx hb d_X_bytesOfOutside_0 rfl h9) ?_
  refine bj_s F k_X_inMemory d_X_bytesOfOutside_1 q_113 (ct_X_inMemory _) (rmo rfl) rfl rfl (Nat.le_of_ble_eq_true rfl) (Nat.zero_le _) (Nat.zero_le _) rfl (fun r9 e9 => ?_)
  subst e9
  refine gj_if (pc2 := 11) (pc3 := 7) (fun _ _ _ => lv_if_eq (tgt := 11) hx hb d_X_bytesOfOutside_4 (by decide)) (fun h4 => ?_) (fun h4 => ?_)
  · refine gj_l (pc2 := 12) (fun _ _ _ => lv_iconst (v := 0) hx hb d_X_bytesOfOutside_11 (by decide)) ?_
    exact gj_iret F d_X_bytesOfOutside_12 (Nat.le_refl _) (Nat.le_refl _) ⟨by simp [bN_0] at h4; simp [bN, h4], rfl⟩
  · refine gj_l (pc2 := 8) (fun _ _ _ => lv_iconst (v := 1) hx hb d_X_bytesOfOutside_7 (by decide)) ?_
    refine gj_l (pc2 := 12) (fun _ _ _ => lv_goto (tgt := 12) hx hb d_X_bytesOfOutside_8 (by decide)) ?_
    exact gj_iret F d_X_bytesOfOutside_12 (Nat.le_refl _) (Nat.le_refl _) ⟨by simp [bN_0] at h4; simp [bN, h4], rfl⟩

theorem k_X_lengthOf : CKS y_X_lengthOf c_X_lengthOf 1 (some .int) 1 := ⟨q_265, q_1, q_264, ⟨by decide +kernel, by decide +kernel, by decide +kernel⟩⟩
set_option maxHeartbeats 4000000 in
set_option maxRecDepth 100000 in
theorem ct_X_lengthOf {l : Launch} {D : va_G} {cI cB cZ cJ : ClassId} (x : Int32) : GCi l y_X_lengthOf (Cond.code y_X_lengthOf c_X_lengthOf 1 (some .int) :: tbW) ({ frames := 0, cells := 0, slots := 0, locals := 0 }) 0 0 D vCl (TY cI cB cZ cJ) [.int x] [] (fun r u => r = lenO x ∧ u = []) := by
  refine gc_body (Qc := gc_Qi D vCl (TY cI cB cZ cJ) [] (fun r u => r = lenO x ∧ u = [])) (cc := c_X_lengthOf) (maxL := 1) (ret := (some .int)) (by decide) rfl (by simp [Value.category]) (Nat.le_of_ble_eq_true rfl) ?_
  intro p e s m args below meth c F
  have hx := F.1
  have hb := F.2.1
  refine gj_ld (i := 0) (pc2 := 1) rfl (fun _ _ _ h9 => lv_iload_n hx hb d_X_lengthOf_0 rfl h9) ?_
  refine gj_if (pc2 := 16) (pc3 := 4) (fun _ _ _ => lv_if_eq (tgt := 16) hx hb d_X_lengthOf_1 (by decide)) (fun h1 => ?_) (fun h1 => ?_)
  · refine gj_l (pc2 := 17) (fun _ _ _ => lv_iconst (v := 1) hx hb d_X_lengthOf_16 (by decide)) ?_
    refine gj_l (pc2 := 21) (fun _ _ _ => lv_goto (tgt := 21) hx hb d_X_lengthOf_17 (by decide)) ?_
    exact gj_iret F d_X_lengthOf_21 (Nat.le_refl _) (Nat.le_refl _) ⟨by simp [lenO, h1] <;> first | done | (simp at *; done) | omega, rfl⟩
  · refine gj_ld (i := 0) (pc2 := 5) rfl (fun _ _ _ h9 => lv_iload_n hx hb d_X_lengthOf_4 rfl h9) ?_
    refine gj_l (pc2 := 7) (fun _ _ _ => lv_bipush (v := (10)) hx hb d_X_lengthOf_5 (by decide)) ?_
    refine gj_if (pc2 := 16) (pc3 := 10) (fun _ _ _ => lv_icmp_eq (tgt := 16) hx hb d_X_lengthOf_7 (by decide)) (fun h7 => ?_) (fun h7 => ?_)
    · refine gj_l (pc2 := 17) (fun _ _ _ => lv_iconst (v := 1) hx hb d_X_lengthOf_16 (by decide)) ?_
      refine gj_l (pc2 := 21) (fun _ _ _ => lv_goto (tgt := 21) hx hb d_X_lengthOf_17 (by decide)) ?_
      exact gj_iret F d_X_lengthOf_21 (Nat.le_refl _) (Nat.le_refl _) ⟨by simp [lenO, h1, h7] <;> first | done | (simp at *; done) | omega, rfl⟩
    · refine gj_ld (i := 0) (pc2 := 11) rfl (fun _ _ _ h9 => lv_iload_n hx hb d_X_lengthOf_10 rfl h9) ?_
      refine gj_l (pc2 := 13) (fun _ _ _ => lv_bipush (v := (12)) hx hb d_X_lengthOf_11 (by decide)) ?_
      refine gj_if (pc2 := 20) (pc3 := 16) (fun _ _ _ => lv_icmp_lt (tgt := 20) hx hb d_X_lengthOf_13 (by decide)) (fun h13 => ?_) (fun h13 => ?_)
      · refine gj_l (pc2 := 21) (fun _ _ _ => lv_iconst (v := 2) hx hb d_X_lengthOf_20 (by decide)) ?_
        exact gj_iret F d_X_lengthOf_21 (Nat.le_refl _) (Nat.le_refl _) ⟨by simp [lenO, h1, h7, h13] <;> first | done | (simp at *; done) | omega, rfl⟩
      · refine gj_l (pc2 := 17) (fun _ _ _ => lv_iconst (v := 1) hx hb d_X_lengthOf_16 (by decide)) ?_
        refine gj_l (pc2 := 21) (fun _ _ _ => lv_goto (tgt := 21) hx hb d_X_lengthOf_17 (by decide)) ?_
        exact gj_iret F d_X_lengthOf_21 (Nat.le_refl _) (Nat.le_refl _) ⟨by simp [lenO, h1, h7, h13] <;> first | done | (simp at *; done) | omega, rfl⟩

theorem k_X_endsBlock : CKS y_X_endsBlock c_X_endsBlock 1 (some .boolean) 1 := ⟨q_271, q_1, q_270, ⟨by decide +kernel, by decide +kernel, by decide +kernel⟩⟩
set_option maxHeartbeats 4000000 in
set_option maxRecDepth 100000 in
theorem ct_X_endsBlock {l : Launch} {D : va_G} {cI cB cZ cJ : ClassId} (x : Int32) : GCi l y_X_endsBlock (Cond.code y_X_endsBlock c_X_endsBlock 1 (some .boolean) :: tbW) ({ frames := 0, cells := 0, slots := 0, locals := 0 }) 0 0 D vCl (TY cI cB cZ cJ) [.int x] [] (fun r u => r = bN (endO x) ∧ u = []) := by
  refine gc_body (Qc := gc_Qi D vCl (TY cI cB cZ cJ) [] (fun r u => r = bN (endO x) ∧ u = [])) (cc := c_X_endsBlock) (maxL := 1) (ret := (some .boolean)) (by decide) rfl (by simp [Value.category]) (Nat.le_of_ble_eq_true rfl) ?_
  intro p e s m args below meth c F
  have hx := F.1
  have hb := F.2.1
  refine gj_ld (i := 0) (pc2 := 1) rfl (fun _ _ _ h9 => lv_iload_n hx hb d_X_endsBlock_0 rfl h9) ?_
  refine gj_if (pc2 := 16) (pc3 := 4) (fun _ _ _ => lv_if_eq (tgt := 16) hx hb d_X_endsBlock_1 (by decide)) (fun h1 => ?_) (fun h1 => ?_)
  · refine gj_l (pc2 := 17) (fun _ _ _ => lv_iconst (v := 1) hx hb d_X_endsBlock_16 (by decide)) ?_
    refine gj_l (pc2 := 21) (fun _ _ _ => lv_goto (tgt := 21) hx hb d_X_endsBlock_17 (by decide)) ?_
    exact gj_zret F d_X_endsBlock_21 (by first | rfl | exact bN_z _ | decide) (Nat.le_refl _) (Nat.le_refl _) ⟨by simp [endO, bN, h1], rfl⟩
  · refine gj_ld (i := 0) (pc2 := 5) rfl (fun _ _ _ h9 => lv_iload_n hx hb d_X_endsBlock_4 rfl h9) ?_
    refine gj_l (pc2 := 7) (fun _ _ _ => lv_bipush (v := (7)) hx hb d_X_endsBlock_5 (by decide)) ?_
    refine gj_if (pc2 := 16) (pc3 := 10) (fun _ _ _ => lv_icmp_eq (tgt := 16) hx hb d_X_endsBlock_7 (by decide)) (fun h7 => ?_) (fun h7 => ?_)
    · refine gj_l (pc2 := 17) (fun _ _ _ => lv_iconst (v := 1) hx hb d_X_endsBlock_16 (by decide)) ?_
      refine gj_l (pc2 := 21) (fun _ _ _ => lv_goto (tgt := 21) hx hb d_X_endsBlock_17 (by decide)) ?_
      exact gj_zret F d_X_endsBlock_21 (by first | rfl | exact bN_z _ | decide) (Nat.le_refl _) (Nat.le_refl _) ⟨by simp [endO, bN, h1, h7], rfl⟩
    · refine gj_ld (i := 0) (pc2 := 11) rfl (fun _ _ _ h9 => lv_iload_n hx hb d_X_endsBlock_10 rfl h9) ?_
      refine gj_l (pc2 := 13) (fun _ _ _ => lv_bipush (v := (12)) hx hb d_X_endsBlock_11 (by decide)) ?_
      refine gj_if (pc2 := 20) (pc3 := 16) (fun _ _ _ => lv_icmp_lt (tgt := 20) hx hb d_X_endsBlock_13 (by decide)) (fun h13 => ?_) (fun h13 => ?_)
      · refine gj_l (pc2 := 21) (fun _ _ _ => lv_iconst (v := 0) hx hb d_X_endsBlock_20 (by decide)) ?_
        exact gj_zret F d_X_endsBlock_21 (by first | rfl | exact bN_z _ | decide) (Nat.le_refl _) (Nat.le_refl _) ⟨by simp [endO, bN, h1, h7, h13], rfl⟩
      · refine gj_l (pc2 := 17) (fun _ _ _ => lv_iconst (v := 1) hx hb d_X_endsBlock_16 (by decide)) ?_
        refine gj_l (pc2 := 21) (fun _ _ _ => lv_goto (tgt := 21) hx hb d_X_endsBlock_17 (by decide)) ?_
        exact gj_zret F d_X_endsBlock_21 (by first | rfl | exact bN_z _ | decide) (Nat.le_refl _) (Nat.le_refl _) ⟨by simp [endO, bN, h1, h7, h13], rfl⟩

theorem k_X_belowZeroToo : CKS y_X_belowZeroToo c_X_belowZeroToo 1 (some .int) 1 := ⟨q_286, q_1, q_285, ⟨by decide +kernel, by decide +kernel, by decide +kernel⟩⟩
set_option maxHeartbeats 4000000 in
set_option maxRecDepth 100000 in
theorem ct_X_belowZeroToo {l : Launch} {D : va_G} {cI cB cZ cJ : ClassId} (x : Int32) : GCi l y_X_belowZeroToo (Cond.code y_X_belowZeroToo c_X_belowZeroToo 1 (some .int) :: tbW) ({ frames := 0, cells := 0, slots := 0, locals := 0 }) 0 0 D vCl (TY cI cB cZ cJ) [.int x] [] (fun r u => r = bzt x ∧ u = []) := by
  refine gc_body (Qc := gc_Qi D vCl (TY cI cB cZ cJ) [] (fun r u => r = bzt x ∧ u = [])) (cc := c_X_belowZeroToo) (maxL := 1) (ret := (some .int)) (by decide) rfl (by simp [Value.category]) (Nat.le_of_ble_eq_true rfl) ?_
  intro p e s m args below meth c F
  have hx := F.1
  have hb := F.2.1
  refine gj_ld (i := 0) (pc2 := 1) rfl (fun _ _ _ h9 => lv_iload_n hx hb d_X_belowZeroToo_0 rfl h9) ?_
  refine gj_l (pc2 := 4) (fun _ _ _ => lv_sipush (v := (128)) hx hb d_X_belowZeroToo_1 (by decide)) ?_
  refine gj_if (pc2 := 11) (pc3 := 7) (fun _ _ _ => lv_icmp_ge (tgt := 11) hx hb d_X_belowZeroToo_4 (by decide)) (fun h4 => ?_) (fun h4 => ?_)
  · refine gj_ld (i := 0) (pc2 := 12) rfl (fun _ _ _ h9 => lv_iload_n hx hb d_X_belowZeroToo_11 rfl h9) ?_
    refine gj_l (pc2 := 15) (fun _ _ _ => lv_sipush (v := (256)) hx hb d_X_belowZeroToo_12 (by decide)) ?_
    refine gj_l (pc2 := 16) (fun _ _ _ => lv_isub hx hb d_X_belowZeroToo_15) ?_
    exact gj_iret F d_X_belowZeroToo_16 (Nat.le_refl _) (Nat.le_refl _) ⟨by simp [bzt, h4], rfl⟩
  · refine gj_ld (i := 0) (pc2 := 8) rfl (fun _ _ _ h9 => lv_iload_n hx hb d_X_belowZeroToo_7 rfl h9) ?_
    refine gj_l (pc2 := 16) (fun _ _ _ => lv_goto (tgt := 16) hx hb d_X_belowZeroToo_8 (by decide)) ?_
    exact gj_iret F d_X_belowZeroToo_16 (Nat.le_refl _) (Nat.le_refl _) ⟨by simp [bzt, h4], rfl⟩

theorem k_X_worked : CKS y_X_worked c_X_worked 3 (some .int) 3 := ⟨q_301, q_1, q_300, ⟨by decide +kernel, by decide +kernel, by decide +kernel⟩⟩
set_option maxHeartbeats 4000000 in
set_option maxRecDepth 100000 in
theorem ct_X_worked {l : Launch} {D : va_G} {cI cB cZ cJ : ClassId} (x y z : Int32) : GCi l y_X_worked (Cond.code y_X_worked c_X_worked 3 (some .int) :: tbW) ({ frames := 0, cells := 0, slots := 0, locals := 0 }) 0 0 D vCl (TY cI cB cZ cJ) [.int x, .int y, .int z] [] (fun r u => r = wrk x y z ∧ u = []) := by
  refine gc_body (Qc := gc_Qi D vCl (TY cI cB cZ cJ) [] (fun r u => r = wrk x y z ∧ u = [])) (cc := c_X_worked) (maxL := 3) (ret := (some .int)) (by decide) rfl (by simp [Value.category]) (Nat.le_of_ble_eq_true rfl) ?_
  intro p e s m args below meth c F
  have hx := F.1
  have hb := F.2.1
  refine gj_ld (i := 0) (pc2 := 1) rfl (fun _ _ _ h9 => lv_iload_n hx hb d_X_worked_0 rfl h9) ?_
  by_cases h1_2 : x = 2
  · rw [h1_2]
    refine gj_l (pc2 := 48) (fun _ _ _ => lv_tableIn (tgt := 48) hx hb d_X_worked_1 (by decide) (by decide) rfl (by decide)) ?_
    refine gj_ld (i := 1) (pc2 := 49) rfl (fun _ _ _ h9 => lv_iload_n hx hb d_X_worked_48 rfl h9) ?_
    refine gj_ld (i := 2) (pc2 := 50) rfl (fun _ _ _ h9 => lv_iload_n hx hb d_X_worked_49 rfl h9) ?_
    refine gj_l (pc2 := 51) (fun _ _ _ => lv_iadd hx hb d_X_worked_50) ?_
    exact gj_iret F d_X_worked_51 (Nat.le_refl _) (Nat.le_refl _) ⟨by simp [wrk, h1_2], rfl⟩
  by_cases h1_3 : x = 3
  · rw [h1_3]
    refine gj_l (pc2 := 52) (fun _ _ _ => lv_tableIn (tgt := 52) hx hb d_X_worked_1 (by decide) (by decide) rfl (by decide)) ?_
    refine gj_ld (i := 1) (pc2 := 53) rfl (fun _ _ _ h9 => lv_iload_n hx hb d_X_worked_52 rfl h9) ?_
    refine gj_ld (i := 2) (pc2 := 54) rfl (fun _ _ _ h9 => lv_iload_n hx hb d_X_worked_53 rfl h9) ?_
    refine gj_l (pc2 := 55) (fun _ _ _ => lv_isub hx hb d_X_worked_54) ?_
    exact gj_iret F d_X_worked_55 (Nat.le_refl _) (Nat.le_refl _) ⟨by simp [wrk, h1_2, h1_3], rfl⟩
  by_cases h1_4 : x = 4
  · rw [h1_4]
    refine gj_l (pc2 := 64) (fun _ _ _ => lv_tableIn (tgt := 64) hx hb d_X_worked_1 (by decide) (by decide) rfl (by decide)) ?_
    refine gj_ld (i := 1) (pc2 := 65) rfl (fun _ _ _ h9 => lv_iload_n hx hb d_X_worked_64 rfl h9) ?_
    refine gj_l (pc2 := 66) (fun _ _ _ => lv_iconst (v := 1) hx hb d_X_worked_65 (by decide)) ?_
    refine gj_l (pc2 := 67) (fun _ _ _ => lv_ishr hx hb d_X_worked_66) ?_
    exact gj_iret F d_X_worked_67 (Nat.le_refl _) (Nat.le_refl _) ⟨by simp [wrk, h1_2, h1_3, h1_4], rfl⟩
  by_cases h1_5 : x = 5
  · rw [h1_5]
    refine gj_l (pc2 := 64) (fun _ _ _ => lv_tableIn (tgt := 64) hx hb d_X_worked_1 (by decide) (by decide) rfl (by decide)) ?_
    refine gj_ld (i := 1) (pc2 := 65) rfl (fun _ _ _ h9 => lv_iload_n hx hb d_X_worked_64 rfl h9) ?_
    refine gj_l (pc2 := 66) (fun _ _ _ => lv_iconst (v := 1) hx hb d_X_worked_65 (by decide)) ?_
    refine gj_l (pc2 := 67) (fun _ _ _ => lv_ishr hx hb d_X_worked_66) ?_
    exact gj_iret F d_X_worked_67 (Nat.le_refl _) (Nat.le_refl _) ⟨by simp [wrk, h1_2, h1_3, h1_4, h1_5], rfl⟩
  by_cases h1_6 : x = 6
  · rw [h1_6]
    refine gj_l (pc2 := 56) (fun _ _ _ => lv_tableIn (tgt := 56) hx hb d_X_worked_1 (by decide) (by decide) rfl (by decide)) ?_
    refine gj_ld (i := 1) (pc2 := 57) rfl (fun _ _ _ h9 => lv_iload_n hx hb d_X_worked_56 rfl h9) ?_
    refine gj_ld (i := 2) (pc2 := 58) rfl (fun _ _ _ h9 => lv_iload_n hx hb d_X_worked_57 rfl h9) ?_
    refine gj_l (pc2 := 59) (fun _ _ _ => lv_iand hx hb d_X_worked_58) ?_
    exact gj_iret F d_X_worked_59 (Nat.le_refl _) (Nat.le_refl _) ⟨by simp [wrk, h1_2, h1_3, h1_4, h1_5, h1_6], rfl⟩
  by_cases h1_7 : x = 7
  · rw [h1_7]
    refine gj_l (pc2 := 64) (fun _ _ _ => lv_tableIn (tgt := 64) hx hb d_X_worked_1 (by decide) (by decide) rfl (by decide)) ?_
    refine gj_ld (i := 1) (pc2 := 65) rfl (fun _ _ _ h9 => lv_iload_n hx hb d_X_worked_64 rfl h9) ?_
    refine gj_l (pc2 := 66) (fun _ _ _ => lv_iconst (v := 1) hx hb d_X_worked_65 (by decide)) ?_
    refine gj_l (pc2 := 67) (fun _ _ _ => lv_ishr hx hb d_X_worked_66) ?_
    exact gj_iret F d_X_worked_67 (Nat.le_refl _) (Nat.le_refl _) ⟨by simp [wrk, h1_2, h1_3, h1_4, h1_5, h1_6, h1_7], rfl⟩
  by_cases h1_8 : x = 8
  · rw [h1_8]
    refine gj_l (pc2 := 64) (fun _ _ _ => lv_tableIn (tgt := 64) hx hb d_X_worked_1 (by decide) (by decide) rfl (by decide)) ?_
    refine gj_ld (i := 1) (pc2 := 65) rfl (fun _ _ _ h9 => lv_iload_n hx hb d_X_worked_64 rfl h9) ?_
    refine gj_l (pc2 := 66) (fun _ _ _ => lv_iconst (v := 1) hx hb d_X_worked_65 (by decide)) ?_
    refine gj_l (pc2 := 67) (fun _ _ _ => lv_ishr hx hb d_X_worked_66) ?_
    exact gj_iret F d_X_worked_67 (Nat.le_refl _) (Nat.le_refl _) ⟨by simp [wrk, h1_2, h1_3, h1_4, h1_5, h1_6, h1_7, h1_8], rfl⟩
  by_cases h1_9 : x = 9
  · rw [h1_9]
    refine gj_l (pc2 := 60) (fun _ _ _ => lv_tableIn (tgt := 60) hx hb d_X_worked_1 (by decide) (by decide) rfl (by decide)) ?_
    refine gj_ld (i := 1) (pc2 := 61) rfl (fun _ _ _ h9 => lv_iload_n hx hb d_X_worked_60 rfl h9) ?_
    refine gj_ld (i := 2) (pc2 := 62) rfl (fun _ _ _ h9 => lv_iload_n hx hb d_X_worked_61 rfl h9) ?_
    refine gj_l (pc2 := 63) (fun _ _ _ => lv_imul hx hb d_X_worked_62) ?_
    exact gj_iret F d_X_worked_63 (Nat.le_refl _) (Nat.le_refl _) ⟨by simp [wrk, h1_2, h1_3, h1_4, h1_5, h1_6, h1_7, h1_8, h1_9], rfl⟩
  have hsw : (x).toInt < 2 ∨ 9 < (x).toInt := by
    by_cases z : (x).toInt < 2
    · exact Or.inl z
    by_cases z2 : 9 < (x).toInt
    · exact Or.inr z2
    exfalso
    rcases (show (x).toInt = 2 ∨ (x).toInt = 3 ∨ (x).toInt = 4 ∨ (x).toInt = 5 ∨ (x).toInt = 6 ∨ (x).toInt = 7 ∨ (x).toInt = 8 ∨ (x).toInt = 9 by omega) with z3 | z3 | z3 | z3 | z3 | z3 | z3 | z3
    · exact h1_2 (Int32.toInt_inj.mp (z3.trans (by decide)))
    · exact h1_3 (Int32.toInt_inj.mp (z3.trans (by decide)))
    · exact h1_4 (Int32.toInt_inj.mp (z3.trans (by decide)))
    · exact h1_5 (Int32.toInt_inj.mp (z3.trans (by decide)))
    · exact h1_6 (Int32.toInt_inj.mp (z3.trans (by decide)))
    · exact h1_7 (Int32.toInt_inj.mp (z3.trans (by decide)))
    · exact h1_8 (Int32.toInt_inj.mp (z3.trans (by decide)))
    · exact h1_9 (Int32.toInt_inj.mp (z3.trans (by decide)))
  refine gj_l (pc2 := 64) (fun _ _ _ => lv_tableOut (tgt := 64) hx hb d_X_worked_1 hsw (by decide)) ?_
  refine gj_ld (i := 1) (pc2 := 65) rfl (fun _ _ _ h9 => lv_iload_n hx hb d_X_worked_64 rfl h9) ?_
  refine gj_l (pc2 := 66) (fun _ _ _ => lv_iconst (v := 1) hx hb d_X_worked_65 (by decide)) ?_
  refine gj_l (pc2 := 67) (fun _ _ _ => lv_ishr hx hb d_X_worked_66) ?_
  exact gj_iret F d_X_worked_67 (Nat.le_refl _) (Nat.le_refl _) ⟨by simp [wrk, h1_2, h1_3, h1_4, h1_5, h1_6, h1_7, h1_8, h1_9], rfl⟩

theorem k_B_isKept : CKV y_B_isKept c_B_isKept 1 (some .boolean) 0 := ⟨q_87, q_2, q_86, sl_B_isKept, ⟨by decide +kernel, by decide +kernel, by decide +kernel⟩⟩
set_option maxHeartbeats 4000000 in
set_option maxRecDepth 100000 in
theorem ct_B_isKept {l : Launch} {D : va_G} {cI cB cZ cJ : ClassId} {a : Nat → Nat} {σ : St} {k : Nat} (hk : k < 32) : GCi l y_B_isKept (Cond.code y_B_isKept c_B_isKept 1 (some .boolean) :: tbW) ({ frames := 0, cells := 0, slots := 0, locals := 0 }) 0 0 D vCl (TY cI cB cZ cJ) [.ref (a (4 + 2 * k))] (bw a cI cB 32 σ) (fun r u => r = bN (keptB σ k) ∧ u = (bw a cI cB 32 σ)) := by
  refine gc_body (Qc := gc_Qi D vCl (TY cI cB cZ cJ) (bw a cI cB 32 σ) (fun r u => r = bN (keptB σ k) ∧ u = (bw a cI cB 32 σ))) (cc := c_B_isKept) (maxL := 1) (ret := (some .boolean)) (by decide) rfl (by simp [Value.category]) (Nat.le_of_ble_eq_true rfl) ?_
  intro p e s m args below meth c F
  have hx := F.1
  have hb := F.2.1
  refine gj_ld (i := 0) (pc2 := 1) rfl (fun _ _ _ h9 => lv_aload_n hx hb d_B_isKept_0 rfl h9) ?_
  refine bj_bi F _ 2 hk (by decide) (by decide) d_B_isKept_1 q_29 rfl ?_
  refine gj_if (pc2 := 11) (pc3 := 7) (fun _ _ _ => lv_if_le (tgt := 11) hx hb d_B_isKept_4 (by decide)) (fun h4 => ?_) (fun h4 => ?_)
  · refine gj_l (pc2 := 12) (fun _ _ _ => lv_iconst (v := 0) hx hb d_B_isKept_11 (by decide)) ?_
    exact gj_zret F d_B_isKept_12 (by first | rfl | exact bN_z _ | decide) (Nat.le_refl _) (Nat.le_refl _) ⟨by simp [keptB, bN, h4], rfl⟩
  · refine gj_l (pc2 := 8) (fun _ _ _ => lv_iconst (v := 1) hx hb d_B_isKept_7 (by decide)) ?_
    refine gj_l (pc2 := 12) (fun _ _ _ => lv_goto (tgt := 12) hx hb d_B_isKept_8 (by decide)) ?_
    exact gj_zret F d_B_isKept_12 (by first | rfl | exact bN_z _ | decide) (Nat.le_refl _) (Nat.le_refl _) ⟨by simp [keptB, bN, h4], rfl⟩

theorem k_B_beginsAt : CKV y_B_beginsAt c_B_beginsAt 2 (some .boolean) 1 := ⟨q_253, q_2, q_252, sl_B_beginsAt, ⟨by decide +kernel, by decide +kernel, by decide +kernel⟩⟩
set_option maxHeartbeats 4000000 in
set_option maxRecDepth 100000 in
theorem ct_B_beginsAt {l : Launch} {D : va_G} {cI cB cZ cJ : ClassId} {a : Nat → Nat} {σ : St} {k : Nat} (hk : k < 32) (x : Int32) : GCi l y_B_beginsAt (Cond.code y_B_beginsAt c_B_beginsAt 2 (some .boolean) :: tbW) ({ frames := 1, cells := 0, slots := 0, locals := 20 }) 0 0 D vCl (TY cI cB cZ cJ) [.ref (a (4 + 2 * k)), .int x] (bw a cI cB 32 σ) (fun r u => r = bN (begB σ k x) ∧ u = (bw a cI cB 32 σ)) := by
  refine gc_body (Qc := gc_Qi D vCl (TY cI cB cZ cJ) (bw a cI cB 32 σ) (fun r u => r = bN (begB σ k x) ∧ u = (bw a cI cB 32 σ))) (cc := c_B_beginsAt) (maxL := 2) (ret := (some .boolean)) (by decide) rfl (by simp [Value.category]) (Nat.le_of_ble_eq_true rfl) ?_
  intro p e s m args below meth c F
  have hx := F.1
  have hb := F.2.1
  refine gj_ld (i := 0) (pc2 := 1) rfl (fun _ _ _ h9 => lv_aload_n hx hb d_B_beginsAt_0 rfl h9) ?_
  refine bj_vi F k_B_isKept d_B_beginsAt_1 q_207 (bw_blk hk) rfl (ct_B_isKept hk) (rmo rfl) rfl rfl (Nat.le_of_ble_eq_true rfl) (Nat.zero_le _) (Nat.zero_le _) rfl (fun r9 u9 e9 => ?_)
  obtain ⟨rfl, rfl⟩ := e9
  refine gj_if (pc2 := 19) (pc3 := 7) (fun _ _ _ => lv_if_eq (tgt := 19) hx hb d_B_beginsAt_4 (by decide)) (fun h4 => ?_) (fun h4 => ?_)
  · refine gj_l (pc2 := 20) (fun _ _ _ => lv_iconst (v := 0) hx hb d_B_beginsAt_19 (by decide)) ?_
    exact gj_zret F d_B_beginsAt_20 (by first | rfl | exact bN_z _ | decide) (Nat.le_refl _) (Nat.le_refl _) ⟨by simp [bN_0] at h4; simp [begB, bN, h4], rfl⟩
  · refine gj_ld (i := 0) (pc2 := 8) rfl (fun _ _ _ h9 => lv_aload_n hx hb d_B_beginsAt_7 rfl h9) ?_
    refine bj_bi F _ 1 hk (by decide) (by decide) d_B_beginsAt_8 q_27 rfl ?_
    refine gj_ld (i := 1) (pc2 := 12) rfl (fun _ _ _ h9 => lv_iload_n hx hb d_B_beginsAt_11 rfl h9) ?_
    refine gj_if (pc2 := 19) (pc3 := 15) (fun _ _ _ => lv_icmp_ne (tgt := 19) hx hb d_B_beginsAt_12 (by decide)) (fun h12 => ?_) (fun h12 => ?_)
    · refine gj_l (pc2 := 20) (fun _ _ _ => lv_iconst (v := 0) hx hb d_B_beginsAt_19 (by decide)) ?_
      exact gj_zret F d_B_beginsAt_20 (by first | rfl | exact bN_z _ | decide) (Nat.le_refl _) (Nat.le_refl _) ⟨by simp [bN_0] at h4; simp [begB, bN, h4, h12], rfl⟩
    · refine gj_l (pc2 := 16) (fun _ _ _ => lv_iconst (v := 1) hx hb d_B_beginsAt_15 (by decide)) ?_
      refine gj_l (pc2 := 20) (fun _ _ _ => lv_goto (tgt := 20) hx hb d_B_beginsAt_16 (by decide)) ?_
      exact gj_zret F d_B_beginsAt_20 (by first | rfl | exact bN_z _ | decide) (Nat.le_refl _) (Nat.le_refl _) ⟨by simp [bN_0] at h4; simp [begB, bN, h4, h12], rfl⟩

theorem k_B_hasByte : CKV y_B_hasByte c_B_hasByte 2 (some .boolean) 1 := ⟨q_206, q_2, q_205, sl_B_hasByte, ⟨by decide +kernel, by decide +kernel, by decide +kernel⟩⟩
set_option maxHeartbeats 4000000 in
set_option maxRecDepth 100000 in
theorem ct_B_hasByte {l : Launch} {D : va_G} {cI cB cZ cJ : ClassId} {a : Nat → Nat} {σ : St} {k : Nat} (hk : k < 32) (x : Int32) : GCi l y_B_hasByte (Cond.code y_B_hasByte c_B_hasByte 2 (some .boolean) :: tbW) ({ frames := 1, cells := 0, slots := 0, locals := 20 }) 0 0 D vCl (TY cI cB cZ cJ) [.ref (a (4 + 2 * k)), .int x] (bw a cI cB 32 σ) (fun r u => r = bN (hasB σ k x) ∧ u = (bw a cI cB 32 σ)) := by
  refine gc_body (Qc := gc_Qi D vCl (TY cI cB cZ cJ) (bw a cI cB 32 σ) (fun r u => r = bN (hasB σ k x) ∧ u = (bw a cI cB 32 σ))) (cc := c_B_hasByte) (maxL := 2) (ret := (some .boolean)) (by decide) rfl (by simp [Value.category]) (Nat.le_of_ble_eq_true rfl) ?_
  intro p e s m args below meth c F
  have hx := F.1
  have hb := F.2.1
  refine gj_ld (i := 0) (pc2 := 1) rfl (fun _ _ _ h9 => lv_aload_n hx hb d_B_hasByte_0 rfl h9) ?_
  refine bj_vi F k_B_isKept d_B_hasByte_1 q_207 (bw_blk hk) rfl (ct_B_isKept hk) (rmo rfl) rfl rfl (Nat.le_of_ble_eq_true rfl) (Nat.zero_le _) (Nat.zero_le _) rfl (fun r9 u9 e9 => ?_)
  obtain ⟨rfl, rfl⟩ := e9
  refine gj_if (pc2 := 32) (pc3 := 7) (fun _ _ _ => lv_if_eq (tgt := 32) hx hb d_B_hasByte_4 (by decide)) (fun h4 => ?_) (fun h4 => ?_)
  · refine gj_l (pc2 := 33) (fun _ _ _ => lv_iconst (v := 0) hx hb d_B_hasByte_32 (by decide)) ?_
    exact gj_zret F d_B_hasByte_33 (by first | rfl | exact bN_z _ | decide) (Nat.le_refl _) (Nat.le_refl _) ⟨by simp [bN_0] at h4; simp [hasB, bN, h4], rfl⟩
  · refine gj_ld (i := 1) (pc2 := 8) rfl (fun _ _ _ h9 => lv_iload_n hx hb d_B_hasByte_7 rfl h9) ?_
    refine gj_ld (i := 0) (pc2 := 9) rfl (fun _ _ _ h9 => lv_aload_n hx hb d_B_hasByte_8 rfl h9) ?_
    refine bj_bi F _ 1 hk (by decide) (by decide) d_B_hasByte_9 q_27 rfl ?_
    refine gj_if (pc2 := 32) (pc3 := 15) (fun _ _ _ => lv_icmp_lt (tgt := 32) hx hb d_B_hasByte_12 (by decide)) (fun h12 => ?_) (fun h12 => ?_)
    · refine gj_l (pc2 := 33) (fun _ _ _ => lv_iconst (v := 0) hx hb d_B_hasByte_32 (by decide)) ?_
      exact gj_zret F d_B_hasByte_33 (by first | rfl | exact bN_z _ | decide) (Nat.le_refl _) (Nat.le_refl _) ⟨by simp [bN_0] at h4; simp [hasB, bN, h4, h12], rfl⟩
    · refine gj_ld (i := 1) (pc2 := 16) rfl (fun _ _ _ h9 => lv_iload_n hx hb d_B_hasByte_15 rfl h9) ?_
      refine gj_ld (i := 0) (pc2 := 17) rfl (fun _ _ _ h9 => lv_aload_n hx hb d_B_hasByte_16 rfl h9) ?_
      refine bj_bi F _ 1 hk (by decide) (by decide) d_B_hasByte_17 q_27 rfl ?_
      refine gj_ld (i := 0) (pc2 := 21) rfl (fun _ _ _ h9 => lv_aload_n hx hb d_B_hasByte_20 rfl h9) ?_
      refine bj_bi F _ 3 hk (by decide) (by decide) d_B_hasByte_21 q_31 rfl ?_
      refine gj_l (pc2 := 25) (fun _ _ _ => lv_iadd hx hb d_B_hasByte_24) ?_
      refine gj_if (pc2 := 32) (pc3 := 28) (fun _ _ _ => lv_icmp_ge (tgt := 32) hx hb d_B_hasByte_25 (by decide)) (fun h25 => ?_) (fun h25 => ?_)
      · refine gj_l (pc2 := 33) (fun _ _ _ => lv_iconst (v := 0) hx hb d_B_hasByte_32 (by decide)) ?_
        exact gj_zret F d_B_hasByte_33 (by first | rfl | exact bN_z _ | decide) (Nat.le_refl _) (Nat.le_refl _) ⟨by simp [bN_0] at h4; simp [hasB, bN, h4, h12, h25], rfl⟩
      · refine gj_l (pc2 := 29) (fun _ _ _ => lv_iconst (v := 1) hx hb d_B_hasByte_28 (by decide)) ?_
        refine gj_l (pc2 := 33) (fun _ _ _ => lv_goto (tgt := 33) hx hb d_B_hasByte_29 (by decide)) ?_
        exact gj_zret F d_B_hasByte_33 (by first | rfl | exact bN_z _ | decide) (Nat.le_refl _) (Nat.le_refl _) ⟨by simp [bN_0] at h4; simp [hasB, bN, h4, h12, h25], rfl⟩

theorem k_B_empty : CKV y_B_empty c_B_empty 2 none 1 := ⟨q_95, q_2, q_94, sl_B_empty, ⟨by decide +kernel, by decide +kernel, by decide +kernel⟩⟩
set_option maxHeartbeats 4000000 in
set_option maxRecDepth 100000 in
theorem ct_B_empty {l : Launch} {D : va_G} {cI cB cZ cJ : ClassId} {a : Nat → Nat} {σ : St} {k : Nat} (hk : k < 32) (x : Int32) : GCv l y_B_empty (Cond.code y_B_empty c_B_empty 2 none :: tbW) ({ frames := 0, cells := 0, slots := 0, locals := 0 }) 0 0 D vCl (TY cI cB cZ cJ) [.ref (a (4 + 2 * k)), .int x] (bw a cI cB 32 σ) (fun u => u = bw a cI cB 32 (empB σ k x)) := by
  refine gc_body (Qc := gc_Qv D vCl (TY cI cB cZ cJ) (bw a cI cB 32 σ) (fun u => u = bw a cI cB 32 (empB σ k x))) (cc := c_B_empty) (maxL := 2) (ret := none) (by decide) rfl (by simp [Value.category]) (Nat.le_of_ble_eq_true rfl) ?_
  intro p e s m args below meth c F
  have hx := F.1
  have hb := F.2.1
  refine gj_ld (i := 0) (pc2 := 1) rfl (fun _ _ _ h9 => lv_aload_n hx hb d_B_empty_0 rfl h9) ?_
  refine gj_ld (i := 1) (pc2 := 2) rfl (fun _ _ _ h9 => lv_iload_n hx hb d_B_empty_1 rfl h9) ?_
  refine bj_bp F _ 1 hk (by decide) (by decide) d_B_empty_2 q_27 rfl ?_
  refine gj_ld (i := 0) (pc2 := 6) rfl (fun _ _ _ h9 => lv_aload_n hx hb d_B_empty_5 rfl h9) ?_
  refine gj_l (pc2 := 7) (fun _ _ _ => lv_iconst (v := 0) hx hb d_B_empty_6 (by decide)) ?_
  refine bj_bp F _ 2 hk (by decide) (by decide) d_B_empty_7 q_29 rfl ?_
  refine gj_ld (i := 0) (pc2 := 11) rfl (fun _ _ _ h9 => lv_aload_n hx hb d_B_empty_10 rfl h9) ?_
  refine gj_l (pc2 := 12) (fun _ _ _ => lv_iconst (v := 0) hx hb d_B_empty_11 (by decide)) ?_
  refine bj_bp F _ 3 hk (by decide) (by decide) d_B_empty_12 q_31 rfl ?_
  exact gj_vret F d_B_empty_15 (Nat.le_refl _) (Nat.le_refl _) rfl

theorem k_X_isZero : CKV y_X_isZero c_X_isZero 1 (some .boolean) 0 := ⟨q_294, q_1, q_293, sl_X_isZero, ⟨by decide +kernel, by decide +kernel, by decide +kernel⟩⟩
set_option maxHeartbeats 4000000 in
set_option maxRecDepth 100000 in
theorem ct_X_isZero {l : Launch} {D : va_G} {cI cB cZ cJ : ClassId} {a : Nat → Nat} {σ : St}  : GCi l y_X_isZero (Cond.code y_X_isZero c_X_isZero 1 (some .boolean) :: tbW) ({ frames := 0, cells := 0, slots := 0, locals := 0 }) 0 0 D vCl (TY cI cB cZ cJ) [.ref (a 0)] (bw a cI cB 32 σ) (fun r u => r = bN (isZ σ) ∧ u = (bw a cI cB 32 σ)) := by
  refine gc_body (Qc := gc_Qi D vCl (TY cI cB cZ cJ) (bw a cI cB 32 σ) (fun r u => r = bN (isZ σ) ∧ u = (bw a cI cB 32 σ))) (cc := c_X_isZero) (maxL := 1) (ret := (some .boolean)) (by decide) rfl (by simp [Value.category]) (Nat.le_of_ble_eq_true rfl) ?_
  intro p e s m args below meth c F
  have hx := F.1
  have hb := F.2.1
  refine gj_ld (i := 0) (pc2 := 1) rfl (fun _ _ _ h9 => lv_aload_n hx hb d_X_isZero_0 rfl h9) ?_
  refine bj_gi F 5 (by decide) (by decide) d_X_isZero_1 q_48 rfl ?_
  refine gj_if (pc2 := 11) (pc3 := 7) (fun _ _ _ => lv_if_ne (tgt := 11) hx hb d_X_isZero_4 (by decide)) (fun h4 => ?_) (fun h4 => ?_)
  · refine gj_l (pc2 := 12) (fun _ _ _ => lv_iconst (v := 0) hx hb d_X_isZero_11 (by decide)) ?_
    exact gj_zret F d_X_isZero_12 (by first | rfl | exact bN_z _ | decide) (Nat.le_refl _) (Nat.le_refl _) ⟨by simp [isZ, bN, h4], rfl⟩
  · refine gj_l (pc2 := 8) (fun _ _ _ => lv_iconst (v := 1) hx hb d_X_isZero_7 (by decide)) ?_
    refine gj_l (pc2 := 12) (fun _ _ _ => lv_goto (tgt := 12) hx hb d_X_isZero_8 (by decide)) ?_
    exact gj_zret F d_X_isZero_12 (by first | rfl | exact bN_z _ | decide) (Nat.le_refl _) (Nat.le_refl _) ⟨by simp [isZ, bN, h4], rfl⟩

theorem k_X_isBelow : CKV y_X_isBelow c_X_isBelow 1 (some .boolean) 0 := ⟨q_298, q_1, q_297, sl_X_isBelow, ⟨by decide +kernel, by decide +kernel, by decide +kernel⟩⟩
set_option maxHeartbeats 4000000 in
set_option maxRecDepth 100000 in
theorem ct_X_isBelow {l : Launch} {D : va_G} {cI cB cZ cJ : ClassId} {a : Nat → Nat} {σ : St}  : GCi l y_X_isBelow (Cond.code y_X_isBelow c_X_isBelow 1 (some .boolean) :: tbW) ({ frames := 0, cells := 0, slots := 0, locals := 0 }) 0 0 D vCl (TY cI cB cZ cJ) [.ref (a 0)] (bw a cI cB 32 σ) (fun r u => r = bN (isL σ) ∧ u = (bw a cI cB 32 σ)) := by
  refine gc_body (Qc := gc_Qi D vCl (TY cI cB cZ cJ) (bw a cI cB 32 σ) (fun r u => r = bN (isL σ) ∧ u = (bw a cI cB 32 σ))) (cc := c_X_isBelow) (maxL := 1) (ret := (some .boolean)) (by decide) rfl (by simp [Value.category]) (Nat.le_of_ble_eq_true rfl) ?_
  intro p e s m args below meth c F
  have hx := F.1
  have hb := F.2.1
  refine gj_ld (i := 0) (pc2 := 1) rfl (fun _ _ _ h9 => lv_aload_n hx hb d_X_isBelow_0 rfl h9) ?_
  refine bj_gi F 5 (by decide) (by decide) d_X_isBelow_1 q_48 rfl ?_
  refine gj_if (pc2 := 11) (pc3 := 7) (fun _ _ _ => lv_if_ge (tgt := 11) hx hb d_X_isBelow_4 (by decide)) (fun h4 => ?_) (fun h4 => ?_)
  · refine gj_l (pc2 := 12) (fun _ _ _ => lv_iconst (v := 0) hx hb d_X_isBelow_11 (by decide)) ?_
    exact gj_zret F d_X_isBelow_12 (by first | rfl | exact bN_z _ | decide) (Nat.le_refl _) (Nat.le_refl _) ⟨by simp [isL, bN, h4], rfl⟩
  · refine gj_l (pc2 := 8) (fun _ _ _ => lv_iconst (v := 1) hx hb d_X_isBelow_7 (by decide)) ?_
    refine gj_l (pc2 := 12) (fun _ _ _ => lv_goto (tgt := 12) hx hb d_X_isBelow_8 (by decide)) ?_
    exact gj_zret F d_X_isBelow_12 (by first | rfl | exact bN_z _ | decide) (Nat.le_refl _) (Nat.le_refl _) ⟨by simp [isL, bN, h4], rfl⟩

theorem k_X_throwOut : CKV y_X_throwOut c_X_throwOut 2 none 1 := ⟨q_91, q_1, q_90, sl_X_throwOut, ⟨by decide +kernel, by decide +kernel, by decide +kernel⟩⟩
set_option maxHeartbeats 4000000 in
set_option maxRecDepth 100000 in
theorem ct_X_throwOut {l : Launch} {D : va_G} {cI cB cZ cJ : ClassId} {a : Nat → Nat} {σ : St} {k : Nat} (hk : k < 32) : GCv l y_X_throwOut (Cond.code y_X_throwOut c_X_throwOut 2 none :: tbW) ({ frames := 1, cells := 0, slots := 0, locals := 21 }) 0 0 D vCl (TY cI cB cZ cJ) [.ref (a 0), .ref (a (4 + 2 * k))] (bw a cI cB 32 σ) (fun u => u = bw a cI cB 32 (tOut σ k)) := by
  refine gc_body (Qc := gc_Qv D vCl (TY cI cB cZ cJ) (bw a cI cB 32 σ) (fun u => u = bw a cI cB 32 (tOut σ k))) (cc := c_X_throwOut) (maxL := 2) (ret := none) (by decide) rfl (by simp [Value.category]) (Nat.le_of_ble_eq_true rfl) ?_
  intro p e s m args below meth c F
  have hx := F.1
  have hb := F.2.1
  refine gj_ld (i := 1) (pc2 := 1) rfl (fun _ _ _ h9 => lv_aload_n hx hb d_X_throwOut_0 rfl h9) ?_
  refine gj_l (pc2 := 2) (fun _ _ _ => lv_iconst (v := 0) hx hb d_X_throwOut_1 (by decide)) ?_
  refine bj_nv F k_B_empty d_X_throwOut_2 (by decide +kernel) (bw_blk hk) rfl (ct_B_empty hk _) (rmo rfl) rfl rfl (Nat.le_of_ble_eq_true rfl) (Nat.zero_le _) (Nat.zero_le _) rfl (fun u9 e9 => ?_)
  subst e9
  refine gj_ld (i := 0) (pc2 := 6) rfl (fun _ _ _ h9 => lv_aload_n hx hb d_X_throwOut_5 rfl h9) ?_
  refine gj_l (pc2 := 7) (fun _ _ _ => lv_dup hx hb d_X_throwOut_6 rfl) ?_
  refine bj_gi F 9 (by decide) (by decide) d_X_throwOut_7 q_52 rfl ?_
  refine gj_l (pc2 := 11) (fun _ _ _ => lv_iconst (v := 1) hx hb d_X_throwOut_10 (by decide)) ?_
  refine gj_l (pc2 := 12) (fun _ _ _ => lv_iadd hx hb d_X_throwOut_11) ?_
  refine bj_pi F 9 (by decide) (by decide) d_X_throwOut_12 q_52 rfl ?_
  exact gj_vret F d_X_throwOut_15 (Nat.le_refl _) (Nat.le_refl _) rfl
