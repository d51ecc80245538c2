theorem k_X_doBlock : CKV y_X_doBlock c_X_doBlock 5 (some .int) 1 := ⟨q_245, q_1, q_244, sl_X_doBlock, ⟨by decide +kernel, by decide +kernel, by decide +kernel⟩⟩
set_option maxHeartbeats 4000000 in
set_option maxRecDepth 100000 in
theorem ct_X_doBlock {l : Launch} {D : va_G} {cI cB cZ cJ : ClassId} {a : Nat → Nat} {σ : St} (most : Int32) : GCi l y_X_doBlock (Cond.code y_X_doBlock c_X_doBlock 5 (some .int) :: tbW) ({ frames := 5, cells := 0, slots := 0, locals := 114 }) 0 0 D vCl (TY cI cB cZ cJ) [.ref (a 0), .int most] (bw a cI cB 32 σ) (fun r u => r = nI (dbO σ most).2 ∧ u = bw a cI cB 32 (dbO σ most).1) := by
  refine gc_body (Qc := gc_Qi D vCl (TY cI cB cZ cJ) (bw a cI cB 32 σ) (fun r u => r = nI (dbO σ most).2 ∧ u = bw a cI cB 32 (dbO σ most).1)) (cc := c_X_doBlock) (maxL := 5) (ret := (some .int)) (by decide) rfl (by simp [Value.category]) (Nat.le_of_ble_eq_true rfl) ?_
  intro p e s m args below meth c F
  have hx := F.1
  have hb := F.2.1
  refine gj_ld (i := 0) (pc2 := 1) rfl (fun _ _ _ h9 => lv_aload_n hx hb d_X_doBlock_0 rfl h9) ?_
  refine gj_ld (i := 0) (pc2 := 2) rfl (fun _ _ _ h9 => lv_aload_n hx hb d_X_doBlock_1 rfl h9) ?_
  refine bj_gi F 3 (by decide) (by decide) d_X_doBlock_2 q_46 rfl ?_
  refine bj_vr F k_X_blockAt d_X_doBlock_5 q_246 (bw_at (i := 0) (by omega)) rfl (ct_X_blockAt _) (rmo rfl) rfl rfl (Nat.le_of_ble_eq_true rfl) (Nat.zero_le _) (Nat.zero_le _) rfl (fun r9 u9 e9 => ?_)
  obtain ⟨rfl, rfl⟩ := e9
  refine gj_st (i := 2) (pc2 := 9) (Nat.le_of_ble_eq_true rfl) rfl (fun _ _ _ _ _ h9 l9 => lv_astore_n hx hb d_X_doBlock_8 rfl h9 (Nat.le_of_ble_eq_true rfl) l9) ?_
  refine gj_l (pc2 := 10) (fun _ _ _ => lv_iconst (v := 0) hx hb d_X_doBlock_9 (by decide)) ?_
  refine gj_st (i := 3) (pc2 := 11) (Nat.le_of_ble_eq_true rfl) rfl (fun _ _ _ _ _ h9 l9 => lv_istore_n hx hb d_X_doBlock_10 rfl h9 (Nat.le_of_ble_eq_true rfl) l9) ?_
  refine gj_l (pc2 := 12) (fun _ _ _ => lv_iconst (v := 0) hx hb d_X_doBlock_11 (by decide)) ?_
  refine gj_st (i := 4) (pc2 := 14) (Nat.le_of_ble_eq_true rfl) rfl (fun _ _ _ _ _ h9 l9 => lv_istore hx hb d_X_doBlock_12 h9 (Nat.le_of_ble_eq_true rfl) l9) ?_
  refine gj_fuel (T := Nat × St) (fun t => bw a cI cB 32 t.2) (fun t => [.ref (a 0), .int most, .ref (a (4 + 2 * (kAt (σ 0 3)))), .int (nI t.1), .int (nI t.1)]) (fun f t => t.1 + f = 12 ∧ dbL most (kAt (σ 0 3)) f t.1 t.2 = dbO σ most) (fun f t hv ih => ?_) 12 (0, blA σ (σ 0 3)) ⟨rfl, rfl⟩
  obtain ⟨w, τ⟩ := t
  obtain ⟨hw, hR⟩ := hv
  dsimp only at hw hR ⊢
  refine gj_ld (i := 4) (pc2 := 16) rfl (fun _ _ _ h9 => lv_iload hx hb d_X_doBlock_14 h9) ?_
  refine gj_l (pc2 := 18) (fun _ _ _ => lv_bipush (v := (12)) hx hb d_X_doBlock_16 (by decide)) ?_
  refine gj_if (pc2 := 61) (pc3 := 21) (fun _ _ _ => lv_icmp_ge (tgt := 61) hx hb d_X_doBlock_18 (by decide)) (fun h18 => ?_) (fun h18 => ?_)
  · have hw9 : 12 ≤ w := nI_ge_of h18 (by omega) (by omega)
    have hf : f = 0 := by omega
    subst hf
    rw [dbL] at hR
    refine gj_ld (i := 3) (pc2 := 62) rfl (fun _ _ _ h9 => lv_iload_n hx hb d_X_doBlock_61 rfl h9) ?_
    exact gj_iret F d_X_doBlock_62 (Nat.le_refl _) (Nat.le_refl _) ⟨by rw [← hR], by rw [← hR]⟩
  · have hlt : w < 12 := nI_lt_of h18 (by omega)
    obtain ⟨g, rfl⟩ : ∃ g, f = g + 1 := ⟨f - 1, by omega⟩
    refine gj_ld (i := 4) (pc2 := 23) rfl (fun _ _ _ h9 => lv_iload hx hb d_X_doBlock_21 h9) ?_
    refine gj_ld (i := 2) (pc2 := 24) rfl (fun _ _ _ h9 => lv_aload_n hx hb d_X_doBlock_23 rfl h9) ?_
    refine bj_biN F _ 2 (kAt_lt _) (by decide) (by decide) d_X_doBlock_24 (by decide +kernel) rfl ?_
    refine gj_if (pc2 := 61) (pc3 := 30) (fun _ _ _ => lv_icmp_ge (tgt := 61) hx hb d_X_doBlock_27 (by decide)) (fun h27 => ?_) (fun h27 => ?_)
    · rw [dbL, if_neg (fun h => absurd h.1 (Int32.not_lt.mpr h27))] at hR
      refine gj_ld (i := 3) (pc2 := 62) rfl (fun _ _ _ h9 => lv_iload_n hx hb d_X_doBlock_61 rfl h9) ?_
      exact gj_iret F d_X_doBlock_62 (Nat.le_refl _) (Nat.le_refl _) ⟨by rw [← hR], by rw [← hR]⟩
    · refine gj_ld (i := 3) (pc2 := 31) rfl (fun _ _ _ h9 => lv_iload_n hx hb d_X_doBlock_30 rfl h9) ?_
      refine gj_ld (i := 1) (pc2 := 32) rfl (fun _ _ _ h9 => lv_iload_n hx hb d_X_doBlock_31 rfl h9) ?_
      refine gj_if (pc2 := 61) (pc3 := 35) (fun _ _ _ => lv_icmp_ge (tgt := 61) hx hb d_X_doBlock_32 (by decide)) (fun h32 => ?_) (fun h32 => ?_)
      · rw [dbL, if_neg (fun h => absurd h.2 (Int32.not_lt.mpr h32))] at hR
        refine gj_ld (i := 3) (pc2 := 62) rfl (fun _ _ _ h9 => lv_iload_n hx hb d_X_doBlock_61 rfl h9) ?_
        exact gj_iret F d_X_doBlock_62 (Nat.le_refl _) (Nat.le_refl _) ⟨by rw [← hR], by rw [← hR]⟩
      · refine gj_ld (i := 0) (pc2 := 36) rfl (fun _ _ _ h9 => lv_aload_n hx hb d_X_doBlock_35 rfl h9) ?_
        refine gj_ld (i := 2) (pc2 := 37) rfl (fun _ _ _ h9 => lv_aload_n hx hb d_X_doBlock_36 rfl h9) ?_
        refine bj_bwN F _ (kAt_lt _) d_X_doBlock_37 (by decide +kernel) rfl ?_
        refine gj_ld (i := 4) (pc2 := 42) rfl (fun _ _ _ h9 => lv_iload hx hb d_X_doBlock_40 h9) ?_
        refine bj_ld F (5 + 2 * (kAt (σ 0 3))) 12 w (by have := kAt_lt (σ 0 3); omega) (bw_e_wrd _) (by decide) rfl hlt d_X_doBlock_42 rfl ?_
        refine bj_vi F k_X_doWord d_X_doBlock_43 q_272 (bw_at (i := 0) (by omega)) rfl (ct_X_doWord _) (rmo rfl) rfl rfl (Nat.le_of_ble_eq_true rfl) (Nat.zero_le _) (Nat.zero_le _) rfl (fun r9 u9 e9 => ?_)
        obtain ⟨rfl, rfl⟩ := e9
        refine gj_if (pc2 := 52) (pc3 := 49) (fun _ _ _ => lv_if_ne (tgt := 52) hx hb d_X_doBlock_46 (by decide)) (fun h46 => ?_) (fun h46 => ?_)
        · have hB := bN_n0.mp h46
          rw [dbL, if_pos ⟨Int32.not_le.mp h27, Int32.not_le.mp h32⟩, if_pos hB] at hR
          refine gj_iinc (pc2 := 55) hx hb d_X_doBlock_52 (Nat.le_of_ble_eq_true rfl) rfl (nI_1 w) rfl ?_
          refine gj_iinc (pc2 := 58) hx hb d_X_doBlock_55 (Nat.le_of_ble_eq_true rfl) rfl (nI_1 w) rfl ?_
          refine gj_l (pc2 := 14) (fun _ _ _ => lv_goto (tgt := 14) hx hb d_X_doBlock_58 (by decide)) ?_
          exact ih g (w + 1, dwO τ (τ (5 + 2 * (kAt (σ 0 3))) w)) rfl ⟨by dsimp only; omega, hR⟩
        · have hB := bN_0.mp h46
          rw [dbL, if_pos ⟨Int32.not_le.mp h27, Int32.not_le.mp h32⟩, if_neg (by rw [hB]; decide)] at hR
          refine gj_l (pc2 := 61) (fun _ _ _ => lv_goto (tgt := 61) hx hb d_X_doBlock_49 (by decide)) ?_
          refine gj_ld (i := 3) (pc2 := 62) rfl (fun _ _ _ h9 => lv_iload_n hx hb d_X_doBlock_61 rfl h9) ?_
          exact gj_iret F d_X_doBlock_62 (Nat.le_refl _) (Nat.le_refl _) ⟨by rw [← hR], by rw [← hR]⟩
