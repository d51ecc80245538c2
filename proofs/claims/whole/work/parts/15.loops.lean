theorem k_X_write : CKV y_X_write c_X_write 4 none 2 := ⟨q_202, q_1, q_201, sl_X_write, ⟨by decide +kernel, by decide +kernel, by decide +kernel⟩⟩
set_option maxHeartbeats 4000000 in
set_option maxRecDepth 100000 in
theorem ct_X_write {l : Launch} {D : va_G} {cI cB cZ cJ : ClassId} {a : Nat → Nat} {σ : St} {i : Nat} (hi : i < 1024) (v : Int32) : GCv l y_X_write (Cond.code y_X_write c_X_write 4 none :: tbW) ({ frames := 2, cells := 0, slots := 0, locals := 42 }) 0 0 D vCl (TY cI cB cZ cJ) [.ref (a 0), .int (nI i), .int v] (bw a cI cB 32 σ) (fun u => u = bw a cI cB 32 (wrB σ i v)) := by
  refine gc_body (Qc := gc_Qv D vCl (TY cI cB cZ cJ) (bw a cI cB 32 σ) (fun u => u = bw a cI cB 32 (wrB σ i v))) (cc := c_X_write) (maxL := 4) (ret := none) (by decide) rfl (by simp [Value.category]) (Nat.le_of_ble_eq_true rfl) ?_
  intro p e s m args below meth c F
  have hx := F.1
  have hb := F.2.1
  refine gj_ld (i := 0) (pc2 := 1) rfl (fun _ _ _ h9 => lv_aload_n hx hb d_X_write_0 rfl h9) ?_
  refine bj_gr F 0 (by decide) d_X_write_1 q_43 rfl ?_
  refine gj_ld (i := 1) (pc2 := 5) rfl (fun _ _ _ h9 => lv_iload_n hx hb d_X_write_4 rfl h9) ?_
  refine gj_ld (i := 2) (pc2 := 6) rfl (fun _ _ _ h9 => lv_iload_n hx hb d_X_write_5 rfl h9) ?_
  refine bj_st F 1 1024 i (by omega) (fun _ => rfl) (by decide) rfl hi d_X_write_6 rfl ?_
  refine gj_l (pc2 := 8) (fun _ _ _ => lv_iconst (v := 0) hx hb d_X_write_7 (by decide)) ?_
  refine gj_st (i := 3) (pc2 := 9) (Nat.le_of_ble_eq_true rfl) rfl (fun _ _ _ _ _ h9 l9 => lv_istore_n hx hb d_X_write_8 rfl h9 (Nat.le_of_ble_eq_true rfl) l9) ?_
  refine gj_loop 32 (fun k => bw a cI cB 32 (wrL (s2 σ 1 i v) i k)) (fun k => [.ref (a 0), .int (nI i), .int v, .int (nI k)]) (fun k hk ih => ?_)
  refine gj_ld (i := 3) (pc2 := 10) rfl (fun _ _ _ h9 => lv_iload_n hx hb d_X_write_9 rfl h9) ?_
  refine gj_l (pc2 := 12) (fun _ _ _ => lv_bipush (v := (32)) hx hb d_X_write_10 (by decide)) ?_
  refine gj_if (pc2 := 44) (pc3 := 15) (fun _ _ _ => lv_icmp_ge (tgt := 44) hx hb d_X_write_12 (by decide)) (fun h12 => ?_) (fun h12 => ?_)
  · have hk9 : 32 ≤ k := nI_ge_of h12 (by omega) (by omega)
    have hk8 : k = 32 := by omega
    subst hk8
    exact gj_vret F d_X_write_44 (Nat.le_refl _) (Nat.le_refl _) rfl
  · have hlt : k < 32 := nI_lt_of h12 (by omega)
    refine gj_ld (i := 0) (pc2 := 16) rfl (fun _ _ _ h9 => lv_aload_n hx hb d_X_write_15 rfl h9) ?_
    refine bj_gr F 2 (by decide) d_X_write_16 q_45 rfl ?_
    refine gj_ld (i := 3) (pc2 := 20) rfl (fun _ _ _ h9 => lv_iload_n hx hb d_X_write_19 rfl h9) ?_
    refine bj_blk F k rfl hlt d_X_write_20 rfl ?_
    refine gj_ld (i := 1) (pc2 := 22) rfl (fun _ _ _ h9 => lv_iload_n hx hb d_X_write_21 rfl h9) ?_
    refine bj_ni F k_B_hasByte d_X_write_22 (by decide +kernel) (bw_blk hlt) rfl (ct_B_hasByte hlt _) (rmo rfl) rfl rfl (Nat.le_of_ble_eq_true rfl) (Nat.zero_le _) (Nat.zero_le _) rfl (fun r9 u9 e9 => ?_)
    obtain ⟨rfl, rfl⟩ := e9
    refine gj_if (pc2 := 38) (pc3 := 28) (fun _ _ _ => lv_if_eq (tgt := 38) hx hb d_X_write_25 (by decide)) (fun h25 => ?_) (fun h25 => ?_)
    · refine gj_iinc (pc2 := 41) hx hb d_X_write_38 (Nat.le_of_ble_eq_true rfl) rfl (nI_1 k) rfl ?_
      refine gj_l (pc2 := 9) (fun _ _ _ => lv_goto (tgt := 9) hx hb d_X_write_41 (by decide)) ?_
      exact gj_eq (w2 := bw a cI cB 32 (wrL (s2 σ 1 i v) i (k + 1))) (by rw [wrL, wrS, if_neg (by rw [bN_0.mp h25]; decide)]) rfl rfl (ih hlt)
    · refine gj_ld (i := 0) (pc2 := 29) rfl (fun _ _ _ h9 => lv_aload_n hx hb d_X_write_28 rfl h9) ?_
      refine gj_ld (i := 0) (pc2 := 30) rfl (fun _ _ _ h9 => lv_aload_n hx hb d_X_write_29 rfl h9) ?_
      refine bj_gr F 2 (by decide) d_X_write_30 q_45 rfl ?_
      refine gj_ld (i := 3) (pc2 := 34) rfl (fun _ _ _ h9 => lv_iload_n hx hb d_X_write_33 rfl h9) ?_
      refine bj_blk F k rfl hlt d_X_write_34 rfl ?_
      refine bj_vv F k_X_throwOut d_X_write_35 q_88 (bw_at (i := 0) (by omega)) rfl (ct_X_throwOut hlt) (rmo rfl) rfl rfl (Nat.le_of_ble_eq_true rfl) (Nat.zero_le _) (Nat.zero_le _) rfl (fun u9 e9 => ?_)
      subst e9
      refine gj_iinc (pc2 := 41) hx hb d_X_write_38 (Nat.le_of_ble_eq_true rfl) rfl (nI_1 k) rfl ?_
      refine gj_l (pc2 := 9) (fun _ _ _ => lv_goto (tgt := 9) hx hb d_X_write_41 (by decide)) ?_
      exact gj_eq (w2 := bw a cI cB 32 (wrL (s2 σ 1 i v) i (k + 1))) (by rw [wrL, wrS, if_pos (bN_n0.mp h25)]) rfl rfl (ih hlt)

theorem k_X_keptNow : CKV y_X_keptNow c_X_keptNow 3 (some .int) 0 := ⟨q_103, q_1, q_102, sl_X_keptNow, ⟨by decide +kernel, by decide +kernel, by decide +kernel⟩⟩
set_option maxHeartbeats 4000000 in
set_option maxRecDepth 100000 in
theorem ct_X_keptNow {l : Launch} {D : va_G} {cI cB cZ cJ : ClassId} {a : Nat → Nat} {σ : St}  : GCi l y_X_keptNow (Cond.code y_X_keptNow c_X_keptNow 3 (some .int) :: tbW) ({ frames := 1, cells := 0, slots := 0, locals := 20 }) 0 0 D vCl (TY cI cB cZ cJ) [.ref (a 0)] (bw a cI cB 32 σ) (fun r u => r = kNt σ 32 ∧ u = (bw a cI cB 32 σ)) := by
  refine gc_body (Qc := gc_Qi D vCl (TY cI cB cZ cJ) (bw a cI cB 32 σ) (fun r u => r = kNt σ 32 ∧ u = (bw a cI cB 32 σ))) (cc := c_X_keptNow) (maxL := 3) (ret := (some .int)) (by decide) rfl (by simp [Value.category]) (Nat.le_of_ble_eq_true rfl) ?_
  intro p e s m args below meth c F
  have hx := F.1
  have hb := F.2.1
  refine gj_l (pc2 := 1) (fun _ _ _ => lv_iconst (v := 0) hx hb d_X_keptNow_0 (by decide)) ?_
  refine gj_st (i := 1) (pc2 := 2) (Nat.le_of_ble_eq_true rfl) rfl (fun _ _ _ _ _ h9 l9 => lv_istore_n hx hb d_X_keptNow_1 rfl h9 (Nat.le_of_ble_eq_true rfl) l9) ?_
  refine gj_l (pc2 := 3) (fun _ _ _ => lv_iconst (v := 0) hx hb d_X_keptNow_2 (by decide)) ?_
  refine gj_st (i := 2) (pc2 := 4) (Nat.le_of_ble_eq_true rfl) rfl (fun _ _ _ _ _ h9 l9 => lv_istore_n hx hb d_X_keptNow_3 rfl h9 (Nat.le_of_ble_eq_true rfl) l9) ?_
  refine gj_loop 32 (fun k => (bw a cI cB 32 σ)) (fun k => [.ref (a 0), .int (kNt σ k), .int (nI k)]) (fun k hk ih => ?_)
  refine gj_ld (i := 2) (pc2 := 5) rfl (fun _ _ _ h9 => lv_iload_n hx hb d_X_keptNow_4 rfl h9) ?_
  refine gj_l (pc2 := 7) (fun _ _ _ => lv_bipush (v := (32)) hx hb d_X_keptNow_5 (by decide)) ?_
  refine gj_if (pc2 := 31) (pc3 := 10) (fun _ _ _ => lv_icmp_ge (tgt := 31) hx hb d_X_keptNow_7 (by decide)) (fun h7 => ?_) (fun h7 => ?_)
  · have hk9 : 32 ≤ k := nI_ge_of h7 (by omega) (by omega)
    have hk8 : k = 32 := by omega
    subst hk8
    refine gj_ld (i := 1) (pc2 := 32) rfl (fun _ _ _ h9 => lv_iload_n hx hb d_X_keptNow_31 rfl h9) ?_
    exact gj_iret F d_X_keptNow_32 (Nat.le_refl _) (Nat.le_refl _) ⟨rfl, rfl⟩
  · have hlt : k < 32 := nI_lt_of h7 (by omega)
    refine gj_ld (i := 0) (pc2 := 11) rfl (fun _ _ _ h9 => lv_aload_n hx hb d_X_keptNow_10 rfl h9) ?_
    refine bj_gr F 2 (by decide) d_X_keptNow_11 q_45 rfl ?_
    refine gj_ld (i := 2) (pc2 := 15) rfl (fun _ _ _ h9 => lv_iload_n hx hb d_X_keptNow_14 rfl h9) ?_
    refine bj_blk F k rfl hlt d_X_keptNow_15 rfl ?_
    refine bj_ni F k_B_isKept d_X_keptNow_16 (by decide +kernel) (bw_blk hlt) rfl (ct_B_isKept hlt) (rmo rfl) rfl rfl (Nat.le_of_ble_eq_true rfl) (Nat.zero_le _) (Nat.zero_le _) rfl (fun r9 u9 e9 => ?_)
    obtain ⟨rfl, rfl⟩ := e9
    refine gj_if (pc2 := 25) (pc3 := 22) (fun _ _ _ => lv_if_eq (tgt := 25) hx hb d_X_keptNow_19 (by decide)) (fun h19 => ?_) (fun h19 => ?_)
    · refine gj_iinc (pc2 := 28) hx hb d_X_keptNow_25 (Nat.le_of_ble_eq_true rfl) rfl (nI_1 k) rfl ?_
      refine gj_l (pc2 := 4) (fun _ _ _ => lv_goto (tgt := 4) hx hb d_X_keptNow_28 (by decide)) ?_
      exact gj_eq (L2 := [.ref (a 0), .int (kNt σ (k + 1)), .int (nI (k + 1))]) rfl (by rw [kNt, if_neg (by rw [bN_0.mp h19]; decide)]; rfl) rfl (ih hlt)
    · refine gj_iinc (pc2 := 25) hx hb d_X_keptNow_22 (Nat.le_of_ble_eq_true rfl) rfl rfl rfl ?_
      refine gj_iinc (pc2 := 28) hx hb d_X_keptNow_25 (Nat.le_of_ble_eq_true rfl) rfl (nI_1 k) rfl ?_
      refine gj_l (pc2 := 4) (fun _ _ _ => lv_goto (tgt := 4) hx hb d_X_keptNow_28 (by decide)) ?_
      exact gj_eq (L2 := [.ref (a 0), .int (kNt σ (k + 1)), .int (nI (k + 1))]) rfl (by rw [kNt, if_pos (bN_n0.mp h19)]; rfl) rfl (ih hlt)

theorem k_X_forget : CKV y_X_forget c_X_forget 3 (some .int) 0 := ⟨q_83, q_1, q_81, q_82, ⟨by decide +kernel, by decide +kernel, by decide +kernel⟩⟩
set_option maxHeartbeats 4000000 in
set_option maxRecDepth 100000 in
theorem ct_X_forget {l : Launch} {D : va_G} {cI cB cZ cJ : ClassId} {a : Nat → Nat} {σ : St}  : GCi l y_X_forget (Cond.code y_X_forget c_X_forget 3 (some .int) :: tbW) ({ frames := 2, cells := 0, slots := 0, locals := 42 }) 0 0 D vCl (TY cI cB cZ cJ) [.ref (a 0)] (bw a cI cB 32 σ) (fun r u => r = fgN σ 32 ∧ u = bw a cI cB 32 (fgS σ 32)) := by
  refine gc_body (Qc := gc_Qi D vCl (TY cI cB cZ cJ) (bw a cI cB 32 σ) (fun r u => r = fgN σ 32 ∧ u = bw a cI cB 32 (fgS σ 32))) (cc := c_X_forget) (maxL := 3) (ret := (some .int)) (by decide) rfl (by simp [Value.category]) (Nat.le_of_ble_eq_true rfl) ?_
  intro p e s m args below meth c F
  have hx := F.1
  have hb := F.2.1
  refine gj_l (pc2 := 1) (fun _ _ _ => lv_iconst (v := 0) hx hb d_X_forget_0 (by decide)) ?_
  refine gj_st (i := 1) (pc2 := 2) (Nat.le_of_ble_eq_true rfl) rfl (fun _ _ _ _ _ h9 l9 => lv_istore_n hx hb d_X_forget_1 rfl h9 (Nat.le_of_ble_eq_true rfl) l9) ?_
  refine gj_l (pc2 := 3) (fun _ _ _ => lv_iconst (v := 0) hx hb d_X_forget_2 (by decide)) ?_
  refine gj_st (i := 2) (pc2 := 4) (Nat.le_of_ble_eq_true rfl) rfl (fun _ _ _ _ _ h9 l9 => lv_istore_n hx hb d_X_forget_3 rfl h9 (Nat.le_of_ble_eq_true rfl) l9) ?_
  refine gj_loop 32 (fun k => bw a cI cB 32 (fgS σ k)) (fun k => [.ref (a 0), .int (fgN σ k), .int (nI k)]) (fun k hk ih => ?_)
  refine gj_ld (i := 2) (pc2 := 5) rfl (fun _ _ _ h9 => lv_iload_n hx hb d_X_forget_4 rfl h9) ?_
  refine gj_l (pc2 := 7) (fun _ _ _ => lv_bipush (v := (32)) hx hb d_X_forget_5 (by decide)) ?_
  refine gj_if (pc2 := 41) (pc3 := 10) (fun _ _ _ => lv_icmp_ge (tgt := 41) hx hb d_X_forget_7 (by decide)) (fun h7 => ?_) (fun h7 => ?_)
  · have hk9 : 32 ≤ k := nI_ge_of h7 (by omega) (by omega)
    have hk8 : k = 32 := by omega
    subst hk8
    refine gj_ld (i := 1) (pc2 := 42) rfl (fun _ _ _ h9 => lv_iload_n hx hb d_X_forget_41 rfl h9) ?_
    exact gj_iret F d_X_forget_42 (Nat.le_refl _) (Nat.le_refl _) ⟨rfl, rfl⟩
  · have hlt : k < 32 := nI_lt_of h7 (by omega)
    refine gj_ld (i := 0) (pc2 := 11) rfl (fun _ _ _ h9 => lv_aload_n hx hb d_X_forget_10 rfl h9) ?_
    refine bj_gr F 2 (by decide) d_X_forget_11 q_45 rfl ?_
    refine gj_ld (i := 2) (pc2 := 15) rfl (fun _ _ _ h9 => lv_iload_n hx hb d_X_forget_14 rfl h9) ?_
    refine bj_blk F k rfl hlt d_X_forget_15 rfl ?_
    refine bj_ni F k_B_isKept d_X_forget_16 (by decide +kernel) (bw_blk hlt) rfl (ct_B_isKept hlt) (rmo rfl) rfl rfl (Nat.le_of_ble_eq_true rfl) (Nat.zero_le _) (Nat.zero_le _) rfl (fun r9 u9 e9 => ?_)
    obtain ⟨rfl, rfl⟩ := e9
    refine gj_if (pc2 := 35) (pc3 := 22) (fun _ _ _ => lv_if_eq (tgt := 35) hx hb d_X_forget_19 (by decide)) (fun h19 => ?_) (fun h19 => ?_)
    · refine gj_iinc (pc2 := 38) hx hb d_X_forget_35 (Nat.le_of_ble_eq_true rfl) rfl (nI_1 k) rfl ?_
      refine gj_l (pc2 := 4) (fun _ _ _ => lv_goto (tgt := 4) hx hb d_X_forget_38 (by decide)) ?_
      have hf : ¬ keptB (fgS σ k) k = true := by rw [bN_0.mp h19]; decide
      exact gj_eq (w2 := bw a cI cB 32 (fgS σ (k + 1))) (L2 := [.ref (a 0), .int (fgN σ (k + 1)), .int (nI (k + 1))]) (by rw [fgS, if_neg hf]) (by rw [fgN, if_neg hf]; rfl) rfl (ih hlt)
    · refine gj_ld (i := 0) (pc2 := 23) rfl (fun _ _ _ h9 => lv_aload_n hx hb d_X_forget_22 rfl h9) ?_
      refine gj_ld (i := 0) (pc2 := 24) rfl (fun _ _ _ h9 => lv_aload_n hx hb d_X_forget_23 rfl h9) ?_
      refine bj_gr F 2 (by decide) d_X_forget_24 q_45 rfl ?_
      refine gj_ld (i := 2) (pc2 := 28) rfl (fun _ _ _ h9 => lv_iload_n hx hb d_X_forget_27 rfl h9) ?_
      refine bj_blk F k rfl hlt d_X_forget_28 rfl ?_
      refine bj_vv F k_X_throwOut d_X_forget_29 q_88 (bw_at (i := 0) (by omega)) rfl (ct_X_throwOut hlt) (rmo rfl) rfl rfl (Nat.le_of_ble_eq_true rfl) (Nat.zero_le _) (Nat.zero_le _) rfl (fun u9 e9 => ?_)
      subst e9
      refine gj_iinc (pc2 := 35) hx hb d_X_forget_32 (Nat.le_of_ble_eq_true rfl) rfl rfl rfl ?_
      refine gj_iinc (pc2 := 38) hx hb d_X_forget_35 (Nat.le_of_ble_eq_true rfl) rfl (nI_1 k) rfl ?_
      refine gj_l (pc2 := 4) (fun _ _ _ => lv_goto (tgt := 4) hx hb d_X_forget_38 (by decide)) ?_
      have hf : keptB (fgS σ k) k = true := bN_n0.mp h19
      exact gj_eq (w2 := bw a cI cB 32 (fgS σ (k + 1))) (L2 := [.ref (a 0), .int (fgN σ (k + 1)), .int (nI (k + 1))]) (by rw [fgS, if_pos hf]) (by rw [fgN, if_pos hf]; rfl) rfl (ih hlt)

theorem k_X_wordAt : CKV y_X_wordAt c_X_wordAt 3 (some .int) 1 := ⟨q_261, q_1, q_260, sl_X_wordAt, ⟨by decide +kernel, by decide +kernel, by decide +kernel⟩⟩
set_option maxHeartbeats 4000000 in
set_option maxRecDepth 100000 in
theorem ct_X_wordAt {l : Launch} {D : va_G} {cI cB cZ cJ : ClassId} {a : Nat → Nat} {σ : St} (x : Int32) : GCi l y_X_wordAt (Cond.code y_X_wordAt c_X_wordAt 3 (some .int) :: tbW) ({ frames := 1, cells := 0, slots := 0, locals := 20 }) 0 0 D vCl (TY cI cB cZ cJ) [.ref (a 0), .int x] (bw a cI cB 32 σ) (fun r u => r = wdA σ x ∧ u = (bw a cI cB 32 σ)) := by
  refine gc_body (Qc := gc_Qi D vCl (TY cI cB cZ cJ) (bw a cI cB 32 σ) (fun r u => r = wdA σ x ∧ u = (bw a cI cB 32 σ))) (cc := c_X_wordAt) (maxL := 3) (ret := (some .int)) (by decide) rfl (by simp [Value.category]) (Nat.le_of_ble_eq_true rfl) ?_
  intro p e s m args below meth c F
  have hx := F.1
  have hb := F.2.1
  refine gj_ld (i := 1) (pc2 := 1) rfl (fun _ _ _ h9 => lv_iload_n hx hb d_X_wordAt_0 rfl h9) ?_
  refine bj_s F k_X_inMemory d_X_wordAt_1 q_113 (ct_X_inMemory _) (rmo rfl) rfl rfl (Nat.le_of_ble_eq_true rfl) (Nat.zero_le _) (Nat.zero_le _) rfl (fun r9 e9 => ?_)
  subst e9
  refine gj_if (pc2 := 10) (pc3 := 7) (fun _ _ _ => lv_if_ne (tgt := 10) hx hb d_X_wordAt_4 (by decide)) (fun h4 => ?_) (fun h4 => ?_)
  · obtain ⟨i, hi, rfl⟩ := inM_of (bN_n0.mp h4)
    have hcl : (nI i).toNatClampNeg = i := nI_clamp (by omega)
    have hin := inM_nI hi
    refine gj_ld (i := 0) (pc2 := 11) rfl (fun _ _ _ h9 => lv_aload_n hx hb d_X_wordAt_10 rfl h9) ?_
    refine bj_gr F 0 (by decide) d_X_wordAt_11 q_43 rfl ?_
    refine gj_ld (i := 1) (pc2 := 15) rfl (fun _ _ _ h9 => lv_iload_n hx hb d_X_wordAt_14 rfl h9) ?_
    refine bj_ld F 1 1024 i (by omega) rfl (by decide) rfl hi d_X_wordAt_15 rfl ?_
    refine gj_l (pc2 := 18) (fun _ _ _ => lv_bipush (v := (8)) hx hb d_X_wordAt_16 (by decide)) ?_
    refine gj_l (pc2 := 19) (fun _ _ _ => lv_ishl hx hb d_X_wordAt_18) ?_
    refine gj_st (i := 2) (pc2 := 20) (Nat.le_of_ble_eq_true rfl) rfl (fun _ _ _ _ _ h9 l9 => lv_istore_n hx hb d_X_wordAt_19 rfl h9 (Nat.le_of_ble_eq_true rfl) l9) ?_
    refine gj_ld (i := 2) (pc2 := 21) rfl (fun _ _ _ h9 => lv_iload_n hx hb d_X_wordAt_20 rfl h9) ?_
    refine gj_l (pc2 := 23) (fun _ _ _ => lv_bipush (v := (12)) hx hb d_X_wordAt_21 (by decide)) ?_
    refine gj_l (pc2 := 24) (fun _ _ _ => lv_ishr hx hb d_X_wordAt_23) ?_
    refine bj_s F k_X_lengthOf d_X_wordAt_24 q_263 (ct_X_lengthOf _) (rmo rfl) rfl rfl (Nat.le_of_ble_eq_true rfl) (Nat.zero_le _) (Nat.zero_le _) rfl (fun r9 e9 => ?_)
    subst e9
    refine gj_l (pc2 := 28) (fun _ _ _ => lv_iconst (v := 1) hx hb d_X_wordAt_27 (by decide)) ?_
    refine gj_if (pc2 := 33) (pc3 := 31) (fun _ _ _ => lv_icmp_ne (tgt := 33) hx hb d_X_wordAt_28 (by decide)) (fun h28 => ?_) (fun h28 => ?_)
    · refine gj_ld (i := 1) (pc2 := 34) rfl (fun _ _ _ h9 => lv_iload_n hx hb d_X_wordAt_33 rfl h9) ?_
      refine gj_l (pc2 := 35) (fun _ _ _ => lv_iconst (v := 1) hx hb d_X_wordAt_34 (by decide)) ?_
      refine gj_l (pc2 := 36) (fun _ _ _ => lv_iadd hx hb d_X_wordAt_35) ?_
      refine bj_s F k_X_inMemory d_X_wordAt_36 q_113 (ct_X_inMemory _) (rmo rfl) rfl rfl (Nat.le_of_ble_eq_true rfl) (Nat.zero_le _) (Nat.zero_le _) rfl (fun r9 e9 => ?_)
      subst e9
      refine gj_if (pc2 := 45) (pc3 := 42) (fun _ _ _ => lv_if_ne (tgt := 45) hx hb d_X_wordAt_39 (by decide)) (fun h39 => ?_) (fun h39 => ?_)
      · have h40 := bN_n0.mp h39
        obtain ⟨i2, hi2, e2⟩ := inM_of h40
        have hc2 : (nI i + 1).toNatClampNeg = i2 := by rw [e2]; exact nI_clamp (by omega)
        refine gj_ld (i := 2) (pc2 := 46) rfl (fun _ _ _ h9 => lv_iload_n hx hb d_X_wordAt_45 rfl h9) ?_
        refine gj_ld (i := 0) (pc2 := 47) rfl (fun _ _ _ h9 => lv_aload_n hx hb d_X_wordAt_46 rfl h9) ?_
        refine bj_gr F 0 (by decide) d_X_wordAt_47 q_43 rfl ?_
        refine gj_ld (i := 1) (pc2 := 51) rfl (fun _ _ _ h9 => lv_iload_n hx hb d_X_wordAt_50 rfl h9) ?_
        refine gj_l (pc2 := 52) (fun _ _ _ => lv_iconst (v := 1) hx hb d_X_wordAt_51 (by decide)) ?_
        refine gj_l (pc2 := 53) (fun _ _ _ => lv_iadd hx hb d_X_wordAt_52) ?_
        refine bj_ld F 1 1024 i2 (by omega) rfl (by decide) e2 hi2 d_X_wordAt_53 rfl ?_
        refine gj_l (pc2 := 55) (fun _ _ _ => lv_ior hx hb d_X_wordAt_54) ?_
        exact gj_iret F d_X_wordAt_55 (Nat.le_refl _) (Nat.le_refl _) ⟨by simp only [wdA, hin, hcl, hc2, h40, if_true, if_neg h28], rfl⟩
      · have h40 := bN_0.mp h39
        refine gj_l (pc2 := 44) (fun _ _ _ => lv_ldc (v := 65536) hx hb F.2.2.2.1 (F.w q_262) d_X_wordAt_42) ?_
        exact gj_iret F d_X_wordAt_44 (Nat.le_refl _) (Nat.le_refl _) ⟨by simp only [wdA, hin, hcl, h40, if_true, if_neg h28]; rfl, rfl⟩
    · refine gj_ld (i := 2) (pc2 := 32) rfl (fun _ _ _ h9 => lv_iload_n hx hb d_X_wordAt_31 rfl h9) ?_
      exact gj_iret F d_X_wordAt_32 (Nat.le_refl _) (Nat.le_refl _) ⟨by simp only [wdA, hin, hcl, h28, if_true], rfl⟩
  · refine gj_l (pc2 := 9) (fun _ _ _ => lv_ldc (v := 65536) hx hb F.2.2.2.1 (F.w q_262) d_X_wordAt_7) ?_
    exact gj_iret F d_X_wordAt_9 (Nat.le_refl _) (Nat.le_refl _) ⟨by simp [wdA, bN_0.mp h4], rfl⟩

theorem k_X_stateBefore : CKV y_X_stateBefore c_X_stateBefore 3 (some .int) 2 := ⟨q_279, q_1, q_278, sl_X_stateBefore, ⟨by decide +kernel, by decide +kernel, by decide +kernel⟩⟩
set_option maxHeartbeats 4000000 in
set_option maxRecDepth 100000 in
theorem ct_X_stateBefore {l : Launch} {D : va_G} {cI cB cZ cJ : ClassId} {a : Nat → Nat} {σ : St} (x : Int32) {i : Nat} (hi : i < 8) : GCi l y_X_stateBefore (Cond.code y_X_stateBefore c_X_stateBefore 3 (some .int) :: tbW) ({ frames := 1, cells := 0, slots := 0, locals := 20 }) 0 0 D vCl (TY cI cB cZ cJ) [.ref (a 0), .int x, .int (nI i)] (bw a cI cB 32 σ) (fun r u => r = stB σ x i ∧ u = (bw a cI cB 32 σ)) := by
  refine gc_body (Qc := gc_Qi D vCl (TY cI cB cZ cJ) (bw a cI cB 32 σ) (fun r u => r = stB σ x i ∧ u = (bw a cI cB 32 σ))) (cc := c_X_stateBefore) (maxL := 3) (ret := (some .int)) (by decide) rfl (by simp [Value.category]) (Nat.le_of_ble_eq_true rfl) ?_
  intro p e s m args below meth c F
  have hx := F.1
  have hb := F.2.1
  refine gj_ld (i := 1) (pc2 := 1) rfl (fun _ _ _ h9 => lv_iload_n hx hb d_X_stateBefore_0 rfl h9) ?_
  refine gj_if (pc2 := 6) (pc3 := 4) (fun _ _ _ => lv_if_ne (tgt := 6) hx hb d_X_stateBefore_1 (by decide)) (fun h1 => ?_) (fun h1 => ?_)
  · refine gj_ld (i := 1) (pc2 := 7) rfl (fun _ _ _ h9 => lv_iload_n hx hb d_X_stateBefore_6 rfl h9) ?_
    refine gj_l (pc2 := 9) (fun _ _ _ => lv_bipush (v := (16)) hx hb d_X_stateBefore_7 (by decide)) ?_
    refine gj_if (pc2 := 14) (pc3 := 12) (fun _ _ _ => lv_icmp_ne (tgt := 14) hx hb d_X_stateBefore_9 (by decide)) (fun h9 => ?_) (fun h9 => ?_)
    · refine gj_ld (i := 1) (pc2 := 15) rfl (fun _ _ _ h9 => lv_iload_n hx hb d_X_stateBefore_14 rfl h9) ?_
      refine gj_l (pc2 := 17) (fun _ _ _ => lv_bipush (v := (12)) hx hb d_X_stateBefore_15 (by decide)) ?_
      refine gj_if (pc2 := 22) (pc3 := 20) (fun _ _ _ => lv_icmp_lt (tgt := 22) hx hb d_X_stateBefore_17 (by decide)) (fun h17 => ?_) (fun h17 => ?_)
      · refine gj_ld (i := 1) (pc2 := 23) rfl (fun _ _ _ h9 => lv_iload_n hx hb d_X_stateBefore_22 rfl h9) ?_
        refine gj_l (pc2 := 24) (fun _ _ _ => lv_iconst (v := 4) hx hb d_X_stateBefore_23 (by decide)) ?_
        refine gj_if (pc2 := 32) (pc3 := 27) (fun _ _ _ => lv_icmp_eq (tgt := 32) hx hb d_X_stateBefore_24 (by decide)) (fun h24 => ?_) (fun h24 => ?_)
        · refine gj_ld (i := 0) (pc2 := 33) rfl (fun _ _ _ h9 => lv_aload_n hx hb d_X_stateBefore_32 rfl h9) ?_
          refine bj_gr F 1 (by decide) d_X_stateBefore_33 q_44 rfl ?_
          refine gj_ld (i := 2) (pc2 := 37) rfl (fun _ _ _ h9 => lv_iload_n hx hb d_X_stateBefore_36 rfl h9) ?_
          refine bj_ld F 2 8 i (by omega) rfl (by decide) rfl hi d_X_stateBefore_37 rfl ?_
          refine bj_s F k_X_inMemory d_X_stateBefore_38 q_113 (ct_X_inMemory _) (rmo rfl) rfl rfl (Nat.le_of_ble_eq_true rfl) (Nat.zero_le _) (Nat.zero_le _) rfl (fun r9 e9 => ?_)
          subst e9
          refine gj_if (pc2 := 46) (pc3 := 44) (fun _ _ _ => lv_if_ne (tgt := 46) hx hb d_X_stateBefore_41 (by decide)) (fun h41 => ?_) (fun h41 => ?_)
          · refine gj_l (pc2 := 47) (fun _ _ _ => lv_iconst (v := 0) hx hb d_X_stateBefore_46 (by decide)) ?_
            exact gj_iret F d_X_stateBefore_47 (Nat.le_refl _) (Nat.le_refl _) ⟨by first | (simp [bN_0] at h41; simp [stB, h1, h9, h17, h24, h41]) | simp [stB, h1, h9, h17, h24, h41], rfl⟩
          · refine gj_l (pc2 := 45) (fun _ _ _ => lv_iconst (v := 2) hx hb d_X_stateBefore_44 (by decide)) ?_
            exact gj_iret F d_X_stateBefore_45 (Nat.le_refl _) (Nat.le_refl _) ⟨by first | (simp [bN_0] at h41; simp [stB, h1, h9, h17, h24, h41]) | simp [stB, h1, h9, h17, h24, h41], rfl⟩
        · refine gj_ld (i := 1) (pc2 := 28) rfl (fun _ _ _ h9 => lv_iload_n hx hb d_X_stateBefore_27 rfl h9) ?_
          refine gj_l (pc2 := 29) (fun _ _ _ => lv_iconst (v := 5) hx hb d_X_stateBefore_28 (by decide)) ?_
          refine gj_if (pc2 := 46) (pc3 := 32) (fun _ _ _ => lv_icmp_ne (tgt := 46) hx hb d_X_stateBefore_29 (by decide)) (fun h29 => ?_) (fun h29 => ?_)
          · refine gj_l (pc2 := 47) (fun _ _ _ => lv_iconst (v := 0) hx hb d_X_stateBefore_46 (by decide)) ?_
            exact gj_iret F d_X_stateBefore_47 (Nat.le_refl _) (Nat.le_refl _) ⟨by first | (simp [bN_0] at h41; simp [stB, h1, h9, h17, h24, h29]) | simp [stB, h1, h9, h17, h24, h29], rfl⟩
          · refine gj_ld (i := 0) (pc2 := 33) rfl (fun _ _ _ h9 => lv_aload_n hx hb d_X_stateBefore_32 rfl h9) ?_
            refine bj_gr F 1 (by decide) d_X_stateBefore_33 q_44 rfl ?_
            refine gj_ld (i := 2) (pc2 := 37) rfl (fun _ _ _ h9 => lv_iload_n hx hb d_X_stateBefore_36 rfl h9) ?_
            refine bj_ld F 2 8 i (by omega) rfl (by decide) rfl hi d_X_stateBefore_37 rfl ?_
            refine bj_s F k_X_inMemory d_X_stateBefore_38 q_113 (ct_X_inMemory _) (rmo rfl) rfl rfl (Nat.le_of_ble_eq_true rfl) (Nat.zero_le _) (Nat.zero_le _) rfl (fun r9 e9 => ?_)
            subst e9
            refine gj_if (pc2 := 46) (pc3 := 44) (fun _ _ _ => lv_if_ne (tgt := 46) hx hb d_X_stateBefore_41 (by decide)) (fun h41 => ?_) (fun h41 => ?_)
            · refine gj_l (pc2 := 47) (fun _ _ _ => lv_iconst (v := 0) hx hb d_X_stateBefore_46 (by decide)) ?_
              exact gj_iret F d_X_stateBefore_47 (Nat.le_refl _) (Nat.le_refl _) ⟨by first | (simp [bN_0] at h41; simp [stB, h1, h9, h17, h24, h29, h41]) | simp [stB, h1, h9, h17, h24, h29, h41], rfl⟩
            · refine gj_l (pc2 := 45) (fun _ _ _ => lv_iconst (v := 2) hx hb d_X_stateBefore_44 (by decide)) ?_
              exact gj_iret F d_X_stateBefore_45 (Nat.le_refl _) (Nat.le_refl _) ⟨by first | (simp [bN_0] at h41; simp [stB, h1, h9, h17, h24, h29, h41]) | simp [stB, h1, h9, h17, h24, h29, h41], rfl⟩
      · refine gj_l (pc2 := 21) (fun _ _ _ => lv_iconst (v := 3) hx hb d_X_stateBefore_20 (by decide)) ?_
        exact gj_iret F d_X_stateBefore_21 (Nat.le_refl _) (Nat.le_refl _) ⟨by first | (simp [bN_0] at h41; simp [stB, h1, h9, h17]) | simp [stB, h1, h9, h17], rfl⟩
    · refine gj_l (pc2 := 13) (fun _ _ _ => lv_iconst (v := 4) hx hb d_X_stateBefore_12 (by decide)) ?_
      exact gj_iret F d_X_stateBefore_13 (Nat.le_refl _) (Nat.le_refl _) ⟨by first | (simp [bN_0] at h41; simp [stB, h1, h9]) | simp [stB, h1, h9], rfl⟩
  · refine gj_l (pc2 := 5) (fun _ _ _ => lv_iconst (v := 1) hx hb d_X_stateBefore_4 (by decide)) ?_
    exact gj_iret F d_X_stateBefore_5 (Nat.le_refl _) (Nat.le_refl _) ⟨by first | (simp [bN_0] at h41; simp [stB, h1]) | simp [stB, h1], rfl⟩

theorem k_X_holds : CKV y_X_holds c_X_holds 2 (some .boolean) 1 := ⟨q_290, q_1, q_289, sl_X_holds, ⟨by decide +kernel, by decide +kernel, by decide +kernel⟩⟩
set_option maxHeartbeats 4000000 in
set_option maxRecDepth 100000 in
theorem ct_X_holds {l : Launch} {D : va_G} {cI cB cZ cJ : ClassId} {a : Nat → Nat} {σ : St} (x : Int32) : GCi l y_X_holds (Cond.code y_X_holds c_X_holds 2 (some .boolean) :: tbW) ({ frames := 1, cells := 0, slots := 0, locals := 20 }) 0 0 D vCl (TY cI cB cZ cJ) [.ref (a 0), .int x] (bw a cI cB 32 σ) (fun r u => r = bN (hlD σ x) ∧ u = (bw a cI cB 32 σ)) := by
  refine gc_body (Qc := gc_Qi D vCl (TY cI cB cZ cJ) (bw a cI cB 32 σ) (fun r u => r = bN (hlD σ x) ∧ u = (bw a cI cB 32 σ))) (cc := c_X_holds) (maxL := 2) (ret := (some .boolean)) (by decide) rfl (by simp [Value.category]) (Nat.le_of_ble_eq_true rfl) ?_
  intro p e s m args below meth c F
  have hx := F.1
  have hb := F.2.1
  refine gj_ld (i := 1) (pc2 := 1) rfl (fun _ _ _ h9 => lv_iload_n hx hb d_X_holds_0 rfl h9) ?_
  by_cases h1_0 : x = 0
  · rw [h1_0]
    refine gj_l (pc2 := 36) (fun _ _ _ => lv_tableIn (tgt := 36) hx hb d_X_holds_1 (by decide) (by decide) rfl (by decide)) ?_
    refine gj_l (pc2 := 37) (fun _ _ _ => lv_iconst (v := 1) hx hb d_X_holds_36 (by decide)) ?_
    exact gj_zret F d_X_holds_37 (by first | rfl | exact bN_z _ | decide) (Nat.le_refl _) (Nat.le_refl _) ⟨by first | (simp [bN_0] at h47; simp [hlD, bN, h1_0]; done) | (simp [bN_0] at h65; simp [hlD, bN, h1_0]; done) | (simp [hlD, bN, h1_0]; done), rfl⟩
  by_cases h1_1 : x = 1
  · rw [h1_1]
    refine gj_l (pc2 := 38) (fun _ _ _ => lv_tableIn (tgt := 38) hx hb d_X_holds_1 (by decide) (by decide) rfl (by decide)) ?_
    refine gj_ld (i := 0) (pc2 := 39) rfl (fun _ _ _ h9 => lv_aload_n hx hb d_X_holds_38 rfl h9) ?_
    refine bj_vi F k_X_isZero d_X_holds_39 q_291 (bw_at (i := 0) (by omega)) rfl (ct_X_isZero) (rmo rfl) rfl rfl (Nat.le_of_ble_eq_true rfl) (Nat.zero_le _) (Nat.zero_le _) rfl (fun r9 u9 e9 => ?_)
    obtain ⟨rfl, rfl⟩ := e9
    exact gj_zret F d_X_holds_42 (by first | rfl | exact bN_z _ | decide) (Nat.le_refl _) (Nat.le_refl _) ⟨by first | (simp [bN_0] at h47; simp [hlD, bN, h1_0, h1_1]; done) | (simp [bN_0] at h65; simp [hlD, bN, h1_0, h1_1]; done) | (simp [hlD, bN, h1_0, h1_1]; done), rfl⟩
  by_cases h1_2 : x = 2
  · rw [h1_2]
    refine gj_l (pc2 := 43) (fun _ _ _ => lv_tableIn (tgt := 43) hx hb d_X_holds_1 (by decide) (by decide) rfl (by decide)) ?_
    refine gj_ld (i := 0) (pc2 := 44) rfl (fun _ _ _ h9 => lv_aload_n hx hb d_X_holds_43 rfl h9) ?_
    refine bj_vi F k_X_isZero d_X_holds_44 q_291 (bw_at (i := 0) (by omega)) rfl (ct_X_isZero) (rmo rfl) rfl rfl (Nat.le_of_ble_eq_true rfl) (Nat.zero_le _) (Nat.zero_le _) rfl (fun r9 u9 e9 => ?_)
    obtain ⟨rfl, rfl⟩ := e9
    refine gj_if (pc2 := 54) (pc3 := 50) (fun _ _ _ => lv_if_ne (tgt := 54) hx hb d_X_holds_47 (by decide)) (fun h47 => ?_) (fun h47 => ?_)
    · refine gj_l (pc2 := 55) (fun _ _ _ => lv_iconst (v := 0) hx hb d_X_holds_54 (by decide)) ?_
      exact gj_zret F d_X_holds_55 (by first | rfl | exact bN_z _ | decide) (Nat.le_refl _) (Nat.le_refl _) ⟨by first | (simp [bN_0] at h47; simp [hlD, bN, h1_0, h1_1, h1_2, h47]; done) | (simp [bN_0] at h65; simp [hlD, bN, h1_0, h1_1, h1_2, h47]; done) | (simp [hlD, bN, h1_0, h1_1, h1_2, h47]; done), rfl⟩
    · refine gj_l (pc2 := 51) (fun _ _ _ => lv_iconst (v := 1) hx hb d_X_holds_50 (by decide)) ?_
      refine gj_l (pc2 := 55) (fun _ _ _ => lv_goto (tgt := 55) hx hb d_X_holds_51 (by decide)) ?_
      exact gj_zret F d_X_holds_55 (by first | rfl | exact bN_z _ | decide) (Nat.le_refl _) (Nat.le_refl _) ⟨by first | (simp [bN_0] at h47; simp [hlD, bN, h1_0, h1_1, h1_2, h47]; done) | (simp [bN_0] at h65; simp [hlD, bN, h1_0, h1_1, h1_2, h47]; done) | (simp [hlD, bN, h1_0, h1_1, h1_2, h47]; done), rfl⟩
  by_cases h1_3 : x = 3
  · rw [h1_3]
    refine gj_l (pc2 := 56) (fun _ _ _ => lv_tableIn (tgt := 56) hx hb d_X_holds_1 (by decide) (by decide) rfl (by decide)) ?_
    refine gj_ld (i := 0) (pc2 := 57) rfl (fun _ _ _ h9 => lv_aload_n hx hb d_X_holds_56 rfl h9) ?_
    refine bj_vi F k_X_isBelow d_X_holds_57 q_295 (bw_at (i := 0) (by omega)) rfl (ct_X_isBelow) (rmo rfl) rfl rfl (Nat.le_of_ble_eq_true rfl) (Nat.zero_le _) (Nat.zero_le _) rfl (fun r9 u9 e9 => ?_)
    obtain ⟨rfl, rfl⟩ := e9
    exact gj_zret F d_X_holds_60 (by first | rfl | exact bN_z _ | decide) (Nat.le_refl _) (Nat.le_refl _) ⟨by first | (simp [bN_0] at h47; simp [hlD, bN, h1_0, h1_1, h1_2, h1_3]; done) | (simp [bN_0] at h65; simp [hlD, bN, h1_0, h1_1, h1_2, h1_3]; done) | (simp [hlD, bN, h1_0, h1_1, h1_2, h1_3]; done), rfl⟩
  by_cases h1_4 : x = 4
  · rw [h1_4]
    refine gj_l (pc2 := 61) (fun _ _ _ => lv_tableIn (tgt := 61) hx hb d_X_holds_1 (by decide) (by decide) rfl (by decide)) ?_
    refine gj_ld (i := 0) (pc2 := 62) rfl (fun _ _ _ h9 => lv_aload_n hx hb d_X_holds_61 rfl h9) ?_
    refine bj_vi F k_X_isBelow d_X_holds_62 q_295 (bw_at (i := 0) (by omega)) rfl (ct_X_isBelow) (rmo rfl) rfl rfl (Nat.le_of_ble_eq_true rfl) (Nat.zero_le _) (Nat.zero_le _) rfl (fun r9 u9 e9 => ?_)
    obtain ⟨rfl, rfl⟩ := e9
    refine gj_if (pc2 := 72) (pc3 := 68) (fun _ _ _ => lv_if_ne (tgt := 72) hx hb d_X_holds_65 (by decide)) (fun h65 => ?_) (fun h65 => ?_)
    · refine gj_l (pc2 := 73) (fun _ _ _ => lv_iconst (v := 0) hx hb d_X_holds_72 (by decide)) ?_
      exact gj_zret F d_X_holds_73 (by first | rfl | exact bN_z _ | decide) (Nat.le_refl _) (Nat.le_refl _) ⟨by first | (simp [bN_0] at h47; simp [hlD, bN, h1_0, h1_1, h1_2, h1_3, h1_4, h65]; done) | (simp [bN_0] at h65; simp [hlD, bN, h1_0, h1_1, h1_2, h1_3, h1_4, h65]; done) | (simp [hlD, bN, h1_0, h1_1, h1_2, h1_3, h1_4, h65]; done), rfl⟩
    · refine gj_l (pc2 := 69) (fun _ _ _ => lv_iconst (v := 1) hx hb d_X_holds_68 (by decide)) ?_
      refine gj_l (pc2 := 73) (fun _ _ _ => lv_goto (tgt := 73) hx hb d_X_holds_69 (by decide)) ?_
      exact gj_zret F d_X_holds_73 (by first | rfl | exact bN_z _ | decide) (Nat.le_refl _) (Nat.le_refl _) ⟨by first | (simp [bN_0] at h47; simp [hlD, bN, h1_0, h1_1, h1_2, h1_3, h1_4, h65]; done) | (simp [bN_0] at h65; simp [hlD, bN, h1_0, h1_1, h1_2, h1_3, h1_4, h65]; done) | (simp [hlD, bN, h1_0, h1_1, h1_2, h1_3, h1_4, h65]; done), rfl⟩
  have hsw : (x).toInt < 0 ∨ 4 < (x).toInt := by
    by_cases z : (x).toInt < 0
    · exact Or.inl z
    by_cases z2 : 4 < (x).toInt
    · exact Or.inr z2
    exfalso
    rcases (show (x).toInt = 0 ∨ (x).toInt = 1 ∨ (x).toInt = 2 ∨ (x).toInt = 3 ∨ (x).toInt = 4 by omega) with z3 | z3 | z3 | z3 | z3
    · exact h1_0 (Int32.toInt_inj.mp (z3.trans (by decide)))
    · exact h1_1 (Int32.toInt_inj.mp (z3.trans (by decide)))
    · exact h1_2 (Int32.toInt_inj.mp (z3.trans (by decide)))
    · exact h1_3 (Int32.toInt_inj.mp (z3.trans (by decide)))
    · exact h1_4 (Int32.toInt_inj.mp (z3.trans (by decide)))
  refine gj_l (pc2 := 74) (fun _ _ _ => lv_tableOut (tgt := 74) hx hb d_X_holds_1 hsw (by decide)) ?_
  refine gj_l (pc2 := 75) (fun _ _ _ => lv_iconst (v := 0) hx hb d_X_holds_74 (by decide)) ?_
  exact gj_zret F d_X_holds_75 (by first | rfl | exact bN_z _ | decide) (Nat.le_refl _) (Nat.le_refl _) ⟨by first | (simp [bN_0] at h47; simp [hlD, bN, h1_0, h1_1, h1_2, h1_3, h1_4]; done) | (simp [bN_0] at h65; simp [hlD, bN, h1_0, h1_1, h1_2, h1_3, h1_4]; done) | (simp [hlD, bN, h1_0, h1_1, h1_2, h1_3, h1_4]; done), rfl⟩
