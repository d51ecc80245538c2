theorem k_X_poke : CKV y_X_poke c_X_poke 4 (some .int) 2 := ⟨q_112, q_1, q_110, q_111, ⟨by decide +kernel, by decide +kernel, by decide +kernel⟩⟩
set_option maxHeartbeats 4000000 in
set_option maxRecDepth 100000 in
theorem ct_X_poke {l : Launch} {D : va_G} {cI cB cZ cJ : ClassId} {a : Nat → Nat} {σ : St} (hl : l.stackTraces = false) (x v : Int32) : GXi l y_X_poke (Cond.code y_X_poke c_X_poke 4 (some .int) :: tbW) ({ frames := 6, cells := 1, slots := 6, locals := 90 }) 1 6 D vCl (TY cI cB cZ cJ) [.ref (a 0), .int x, .int v] (bw a cI cB 32 σ) (fun r u => ∃ i : Nat, i < 1024 ∧ x = nI i ∧ ¬ v < 0 ∧ v ≤ 255 ∧ r = σ 1 i ∧ u = bw a cI cB 32 (wrB σ i v)) (fun E u => u = (bw a cI cB 32 σ) ∧ ((E = xIo ∧ inM x = false) ∨ (E = xIa ∧ inM x = true ∧ (v < 0 ∨ ¬ v ≤ 255)))) := by
  refine gx_body (post := fun r u => ∃ i : Nat, i < 1024 ∧ x = nI i ∧ ¬ v < 0 ∧ v ≤ 255 ∧ r = σ 1 i ∧ u = bw a cI cB 32 (wrB σ i v)) (px := fun E u => u = (bw a cI cB 32 σ) ∧ ((E = xIo ∧ inM x = false) ∨ (E = xIa ∧ inM x = true ∧ (v < 0 ∨ ¬ v ≤ 255)))) (cc := c_X_poke) (maxL := 4) (ret := (some .int)) (by decide) rfl (by simp [Value.category]) (Nat.le_of_ble_eq_true rfl) ?_
  intro p e s m args below meth c F ht
  have hx := F.1
  have hb := F.2.1
  refine gj_ld (i := 1) (pc2 := 1) rfl (fun _ _ _ h9 => lv_iload_n hx hb d_X_poke_0 rfl h9) ?_
  refine bj_s F k_X_inMemory d_X_poke_1 q_113 (ct_X_inMemory _) (rmo rfl) rfl rfl (Nat.le_of_ble_eq_true rfl) (Nat.zero_le _) (Nat.zero_le _) rfl (fun r9 e9 => ?_)
  subst e9
  refine gj_if (pc2 := 17) (pc3 := 7) (fun _ _ _ => lv_if_ne (tgt := 17) hx hb d_X_poke_4 (by decide)) (fun h4 => ?_) (fun h4 => ?_)
  · obtain ⟨i, hi, rfl⟩ := inM_of (bN_n0.mp h4)
    have hin := inM_nI hi
    refine gj_ld (i := 2) (pc2 := 18) rfl (fun _ _ _ h9 => lv_iload_n hx hb d_X_poke_17 rfl h9) ?_
    refine gj_if (pc2 := 28) (pc3 := 21) (fun _ _ _ => lv_if_lt (tgt := 28) hx hb d_X_poke_18 (by decide)) (fun h18 => ?_) (fun h18 => ?_)
    · exact gx_throw (text := "not a byte") F ht hl rfl xh_fit.2.1 q_183 q_8 (by decide +kernel) xh_Ia1 xh_Ia2 xh_Ia3 d_X_poke_28 d_X_poke_31 d_X_poke_32 d_X_poke_34 d_X_poke_37 (Nat.le_of_ble_eq_true rfl) (Nat.le_of_ble_eq_true rfl) (Nat.le_of_ble_eq_true rfl) (Nat.le_of_ble_eq_true rfl) (Nat.le_of_ble_eq_true rfl) (Nat.le_of_ble_eq_true rfl) ⟨rfl, Or.inr ⟨rfl, hin, by first | exact Or.inl h18 | exact Or.inr h25⟩⟩
    · refine gj_ld (i := 2) (pc2 := 22) rfl (fun _ _ _ h9 => lv_iload_n hx hb d_X_poke_21 rfl h9) ?_
      refine gj_l (pc2 := 25) (fun _ _ _ => lv_sipush (v := (255)) hx hb d_X_poke_22 (by decide)) ?_
      refine gj_if (pc2 := 38) (pc3 := 28) (fun _ _ _ => lv_icmp_le (tgt := 38) hx hb d_X_poke_25 (by decide)) (fun h25 => ?_) (fun h25 => ?_)
      · refine gj_ld (i := 0) (pc2 := 39) rfl (fun _ _ _ h9 => lv_aload_n hx hb d_X_poke_38 rfl h9) ?_
        refine bj_gr F 0 (by decide) d_X_poke_39 q_43 rfl ?_
        refine gj_ld (i := 1) (pc2 := 43) rfl (fun _ _ _ h9 => lv_iload_n hx hb d_X_poke_42 rfl h9) ?_
        refine bj_ld F 1 1024 i (by omega) rfl (by decide) rfl hi d_X_poke_43 rfl ?_
        refine gj_st (i := 3) (pc2 := 45) (Nat.le_of_ble_eq_true rfl) rfl (fun _ _ _ _ _ h9 l9 => lv_istore_n hx hb d_X_poke_44 rfl h9 (Nat.le_of_ble_eq_true rfl) l9) ?_
        refine gj_ld (i := 0) (pc2 := 46) rfl (fun _ _ _ h9 => lv_aload_n hx hb d_X_poke_45 rfl h9) ?_
        refine gj_ld (i := 1) (pc2 := 47) rfl (fun _ _ _ h9 => lv_iload_n hx hb d_X_poke_46 rfl h9) ?_
        refine gj_ld (i := 2) (pc2 := 48) rfl (fun _ _ _ h9 => lv_iload_n hx hb d_X_poke_47 rfl h9) ?_
        refine bj_vv F k_X_write d_X_poke_48 q_199 (bw_at (i := 0) (by omega)) rfl (ct_X_write hi _) (rmo rfl) rfl rfl (Nat.le_of_ble_eq_true rfl) (Nat.zero_le _) (Nat.zero_le _) rfl (fun u9 e9 => ?_)
        subst e9
        refine gj_ld (i := 3) (pc2 := 52) rfl (fun _ _ _ h9 => lv_iload_n hx hb d_X_poke_51 rfl h9) ?_
        exact gx_iret F d_X_poke_52 (Nat.zero_le _) (Nat.zero_le _) ⟨i, hi, rfl, h18, h25, rfl, rfl⟩
      · exact gx_throw (text := "not a byte") F ht hl rfl xh_fit.2.1 q_183 q_8 (by decide +kernel) xh_Ia1 xh_Ia2 xh_Ia3 d_X_poke_28 d_X_poke_31 d_X_poke_32 d_X_poke_34 d_X_poke_37 (Nat.le_of_ble_eq_true rfl) (Nat.le_of_ble_eq_true rfl) (Nat.le_of_ble_eq_true rfl) (Nat.le_of_ble_eq_true rfl) (Nat.le_of_ble_eq_true rfl) (Nat.le_of_ble_eq_true rfl) ⟨rfl, Or.inr ⟨rfl, hin, by first | exact Or.inl h18 | exact Or.inr h25⟩⟩
  · exact gx_throw (text := "no such byte") F ht hl rfl xh_fit.1 q_116 q_7 (by decide +kernel) xh_Io1 xh_Io2 xh_Io3 d_X_poke_7 d_X_poke_10 d_X_poke_11 d_X_poke_13 d_X_poke_16 (Nat.le_of_ble_eq_true rfl) (Nat.le_of_ble_eq_true rfl) (Nat.le_of_ble_eq_true rfl) (Nat.le_of_ble_eq_true rfl) (Nat.le_of_ble_eq_true rfl) (Nat.le_of_ble_eq_true rfl) ⟨rfl, Or.inl ⟨rfl, bN_0.mp h4⟩⟩

theorem k_X_pokeFour : CKV y_X_pokeFour c_X_pokeFour 5 (some .int) 2 := ⟨q_214, q_1, q_212, q_213, ⟨by decide +kernel, by decide +kernel, by decide +kernel⟩⟩
set_option maxHeartbeats 4000000 in
set_option maxRecDepth 100000 in
theorem ct_X_pokeFour {l : Launch} {D : va_G} {cI cB cZ cJ : ClassId} {a : Nat → Nat} {σ : St} (hl : l.stackTraces = false) (x v : Int32) : GXi l y_X_pokeFour (Cond.code y_X_pokeFour c_X_pokeFour 5 (some .int) :: tbW) ({ frames := 6, cells := 1, slots := 6, locals := 90 }) 1 6 D vCl (TY cI cB cZ cJ) [.ref (a 0), .int x, .int v] (bw a cI cB 32 σ) (fun r u => ∃ i : Nat, i < 1024 ∧ x = nI i ∧ r = nI (p4N i) ∧ u = bw a cI cB 32 (p4L σ i v (p4N i))) (fun E u => E = xIo ∧ inM x = false ∧ u = (bw a cI cB 32 σ)) := by
  refine gx_body (post := fun r u => ∃ i : Nat, i < 1024 ∧ x = nI i ∧ r = nI (p4N i) ∧ u = bw a cI cB 32 (p4L σ i v (p4N i))) (px := fun E u => E = xIo ∧ inM x = false ∧ u = (bw a cI cB 32 σ)) (cc := c_X_pokeFour) (maxL := 5) (ret := (some .int)) (by decide) rfl (by simp [Value.category]) (Nat.le_of_ble_eq_true rfl) ?_
  intro p e s m args below meth c F ht
  have hx := F.1
  have hb := F.2.1
  refine gj_ld (i := 1) (pc2 := 1) rfl (fun _ _ _ h9 => lv_iload_n hx hb d_X_pokeFour_0 rfl h9) ?_
  refine bj_s F k_X_inMemory d_X_pokeFour_1 q_113 (ct_X_inMemory _) (rmo rfl) rfl rfl (Nat.le_of_ble_eq_true rfl) (Nat.zero_le _) (Nat.zero_le _) rfl (fun r9 e9 => ?_)
  subst e9
  refine gj_if (pc2 := 17) (pc3 := 7) (fun _ _ _ => lv_if_ne (tgt := 17) hx hb d_X_pokeFour_4 (by decide)) (fun h4 => ?_) (fun h4 => ?_)
  · obtain ⟨i, hi, rfl⟩ := inM_of (bN_n0.mp h4)
    have hin := inM_nI hi
    refine gj_l (pc2 := 18) (fun _ _ _ => lv_iconst (v := 4) hx hb d_X_pokeFour_17 (by decide)) ?_
    refine gj_l (pc2 := 21) (fun _ _ _ => lv_sipush (v := (1024)) hx hb d_X_pokeFour_18 (by decide)) ?_
    refine gj_ld (i := 1) (pc2 := 22) rfl (fun _ _ _ h9 => lv_iload_n hx hb d_X_pokeFour_21 rfl h9) ?_
    refine gj_l (pc2 := 23) (fun _ _ _ => lv_isub hx hb d_X_pokeFour_22) ?_
    refine bj_min F d_X_pokeFour_23 q_216 q_217 q_9 q_218 (Nat.le_of_ble_eq_true rfl) (Nat.le_of_ble_eq_true rfl) (Nat.zero_le _) (Nat.zero_le _) rfl ?_
    rw [p4_min hi]
    refine gj_st (i := 3) (pc2 := 27) (Nat.le_of_ble_eq_true rfl) rfl (fun _ _ _ _ _ h9 l9 => lv_istore_n hx hb d_X_pokeFour_26 rfl h9 (Nat.le_of_ble_eq_true rfl) l9) ?_
    refine gj_l (pc2 := 28) (fun _ _ _ => lv_iconst (v := 0) hx hb d_X_pokeFour_27 (by decide)) ?_
    refine gj_st (i := 4) (pc2 := 30) (Nat.le_of_ble_eq_true rfl) rfl (fun _ _ _ _ _ h9 l9 => lv_istore hx hb d_X_pokeFour_28 h9 (Nat.le_of_ble_eq_true rfl) l9) ?_
    have hp4 : p4N i ≤ 4 ∧ i + p4N i ≤ 1024 := by unfold p4N; omega
    refine gj_loop (p4N i) (fun k => bw a cI cB 32 (p4L σ i v k)) (fun k => [.ref (a 0), .int (nI i), .int v, .int (nI (p4N i)), .int (nI k)]) (fun k hk ih => ?_)
    refine gj_ld (i := 4) (pc2 := 32) rfl (fun _ _ _ h9 => lv_iload hx hb d_X_pokeFour_30 h9) ?_
    refine gj_ld (i := 3) (pc2 := 33) rfl (fun _ _ _ h9 => lv_iload_n hx hb d_X_pokeFour_32 rfl h9) ?_
    refine gj_if (pc2 := 64) (pc3 := 36) (fun _ _ _ => lv_icmp_ge (tgt := 64) hx hb d_X_pokeFour_33 (by decide)) (fun h33 => ?_) (fun h33 => ?_)
    · have hk9 := nI_ge_of h33 (by omega) (by omega)
      have hk8 : k = p4N i := by omega
      subst hk8
      refine gj_ld (i := 3) (pc2 := 65) rfl (fun _ _ _ h9 => lv_iload_n hx hb d_X_pokeFour_64 rfl h9) ?_
      exact gx_iret F d_X_pokeFour_65 (Nat.zero_le _) (Nat.zero_le _) ⟨i, hi, rfl, rfl, rfl⟩
    · have hlt := nI_lt_of h33 (by omega)
      refine gj_ld (i := 0) (pc2 := 37) rfl (fun _ _ _ h9 => lv_aload_n hx hb d_X_pokeFour_36 rfl h9) ?_
      refine gj_ld (i := 1) (pc2 := 38) rfl (fun _ _ _ h9 => lv_iload_n hx hb d_X_pokeFour_37 rfl h9) ?_
      refine gj_ld (i := 4) (pc2 := 40) rfl (fun _ _ _ h9 => lv_iload hx hb d_X_pokeFour_38 h9) ?_
      refine gj_l (pc2 := 41) (fun _ _ _ => lv_iadd hx hb d_X_pokeFour_40) ?_
      refine gj_ld (i := 2) (pc2 := 42) rfl (fun _ _ _ h9 => lv_iload_n hx hb d_X_pokeFour_41 rfl h9) ?_
      refine gj_l (pc2 := 44) (fun _ _ _ => lv_bipush (v := (24)) hx hb d_X_pokeFour_42 (by decide)) ?_
      refine gj_l (pc2 := 46) (fun _ _ _ => lv_bipush (v := (8)) hx hb d_X_pokeFour_44 (by decide)) ?_
      refine gj_ld (i := 4) (pc2 := 48) rfl (fun _ _ _ h9 => lv_iload hx hb d_X_pokeFour_46 h9) ?_
      refine gj_l (pc2 := 49) (fun _ _ _ => lv_imul hx hb d_X_pokeFour_48) ?_
      refine gj_l (pc2 := 50) (fun _ _ _ => lv_isub hx hb d_X_pokeFour_49) ?_
      refine gj_l (pc2 := 51) (fun _ _ _ => lv_iushr hx hb d_X_pokeFour_50 rfl) ?_
      refine gj_l (pc2 := 54) (fun _ _ _ => lv_sipush (v := (255)) hx hb d_X_pokeFour_51 (by decide)) ?_
      refine gj_l (pc2 := 55) (fun _ _ _ => lv_iand hx hb d_X_pokeFour_54) ?_
      rw [nI_add]
      refine bj_vv F k_X_write d_X_pokeFour_55 q_199 (bw_at (i := 0) (by omega)) rfl (ct_X_write (i := i + k) (by omega) (by4 v k)) (rmo rfl) rfl rfl (Nat.le_of_ble_eq_true rfl) (Nat.zero_le _) (Nat.zero_le _) rfl (fun u9 e9 => ?_)
      subst e9
      refine gj_iinc (pc2 := 61) hx hb d_X_pokeFour_58 (Nat.le_of_ble_eq_true rfl) rfl (nI_1 k) rfl ?_
      refine gj_l (pc2 := 30) (fun _ _ _ => lv_goto (tgt := 30) hx hb d_X_pokeFour_61 (by decide)) ?_
      exact ih hlt
  · exact gx_throw (text := "no such place") F ht hl rfl xh_fit.1 q_116 q_7 (by decide +kernel) xh_Io1 xh_Io2 xh_Io3 d_X_pokeFour_7 d_X_pokeFour_10 d_X_pokeFour_11 d_X_pokeFour_13 d_X_pokeFour_16 (Nat.le_of_ble_eq_true rfl) (Nat.le_of_ble_eq_true rfl) (Nat.le_of_ble_eq_true rfl) (Nat.le_of_ble_eq_true rfl) (Nat.le_of_ble_eq_true rfl) (Nat.le_of_ble_eq_true rfl) ⟨rfl, bN_0.mp h4, rfl⟩

theorem k_X_set : CKV y_X_set c_X_set 4 (some .int) 2 := ⟨q_225, q_1, q_223, q_224, ⟨by decide +kernel, by decide +kernel, by decide +kernel⟩⟩
set_option maxHeartbeats 4000000 in
set_option maxRecDepth 100000 in
theorem ct_X_set {l : Launch} {D : va_G} {cI cB cZ cJ : ClassId} {a : Nat → Nat} {σ : St} (hl : l.stackTraces = false) (x v : Int32) : GXi l y_X_set (Cond.code y_X_set c_X_set 4 (some .int) :: tbW) ({ frames := 6, cells := 1, slots := 6, locals := 90 }) 1 6 D vCl (TY cI cB cZ cJ) [.ref (a 0), .int x, .int v] (bw a cI cB 32 σ) (fun r u => ∃ i : Nat, i < 8 ∧ x = nI i ∧ r = σ 2 i ∧ u = bw a cI cB 32 (s2 σ 2 i v)) (fun E u => E = xIo ∧ (x < 0 ∨ ¬ x < 8) ∧ u = (bw a cI cB 32 σ)) := by
  refine gx_body (post := fun r u => ∃ i : Nat, i < 8 ∧ x = nI i ∧ r = σ 2 i ∧ u = bw a cI cB 32 (s2 σ 2 i v)) (px := fun E u => E = xIo ∧ (x < 0 ∨ ¬ x < 8) ∧ u = (bw a cI cB 32 σ)) (cc := c_X_set) (maxL := 4) (ret := (some .int)) (by decide) rfl (by simp [Value.category]) (Nat.le_of_ble_eq_true rfl) ?_
  intro p e s m args below meth c F ht
  have hx := F.1
  have hb := F.2.1
  refine gj_ld (i := 1) (pc2 := 1) rfl (fun _ _ _ h9 => lv_iload_n hx hb d_X_set_0 rfl h9) ?_
  refine gj_if (pc2 := 10) (pc3 := 4) (fun _ _ _ => lv_if_lt (tgt := 10) hx hb d_X_set_1 (by decide)) (fun h1 => ?_) (fun h1 => ?_)
  · exact gx_throw (text := "no such register") F ht hl rfl xh_fit.1 q_116 q_7 (by decide +kernel) xh_Io1 xh_Io2 xh_Io3 d_X_set_10 d_X_set_13 d_X_set_14 d_X_set_16 d_X_set_19 (Nat.le_of_ble_eq_true rfl) (Nat.le_of_ble_eq_true rfl) (Nat.le_of_ble_eq_true rfl) (Nat.le_of_ble_eq_true rfl) (Nat.le_of_ble_eq_true rfl) (Nat.le_of_ble_eq_true rfl) ⟨rfl, by first | exact Or.inl h1 | exact Or.inr h7, rfl⟩
  · refine gj_ld (i := 1) (pc2 := 5) rfl (fun _ _ _ h9 => lv_iload_n hx hb d_X_set_4 rfl h9) ?_
    refine gj_l (pc2 := 7) (fun _ _ _ => lv_bipush (v := (8)) hx hb d_X_set_5 (by decide)) ?_
    refine gj_if (pc2 := 20) (pc3 := 10) (fun _ _ _ => lv_icmp_lt (tgt := 20) hx hb d_X_set_7 (by decide)) (fun h7 => ?_) (fun h7 => ?_)
    · obtain ⟨i, hi, rfl⟩ := in8 h1 h7
      refine gj_ld (i := 0) (pc2 := 21) rfl (fun _ _ _ h9 => lv_aload_n hx hb d_X_set_20 rfl h9) ?_
      refine bj_gr F 1 (by decide) d_X_set_21 q_44 rfl ?_
      refine gj_ld (i := 1) (pc2 := 25) rfl (fun _ _ _ h9 => lv_iload_n hx hb d_X_set_24 rfl h9) ?_
      refine bj_ld F 2 8 i (by omega) rfl (by decide) rfl hi d_X_set_25 rfl ?_
      refine gj_st (i := 3) (pc2 := 27) (Nat.le_of_ble_eq_true rfl) rfl (fun _ _ _ _ _ h9 l9 => lv_istore_n hx hb d_X_set_26 rfl h9 (Nat.le_of_ble_eq_true rfl) l9) ?_
      refine gj_ld (i := 0) (pc2 := 28) rfl (fun _ _ _ h9 => lv_aload_n hx hb d_X_set_27 rfl h9) ?_
      refine bj_gr F 1 (by decide) d_X_set_28 q_44 rfl ?_
      refine gj_ld (i := 1) (pc2 := 32) rfl (fun _ _ _ h9 => lv_iload_n hx hb d_X_set_31 rfl h9) ?_
      refine gj_ld (i := 2) (pc2 := 33) rfl (fun _ _ _ h9 => lv_iload_n hx hb d_X_set_32 rfl h9) ?_
      refine bj_st F 2 8 i (by omega) (fun _ => rfl) (by decide) rfl hi d_X_set_33 rfl ?_
      refine gj_ld (i := 3) (pc2 := 35) rfl (fun _ _ _ h9 => lv_iload_n hx hb d_X_set_34 rfl h9) ?_
      exact gx_iret F d_X_set_35 (Nat.zero_le _) (Nat.zero_le _) ⟨i, hi, rfl, rfl, rfl⟩
    · exact gx_throw (text := "no such register") F ht hl rfl xh_fit.1 q_116 q_7 (by decide +kernel) xh_Io1 xh_Io2 xh_Io3 d_X_set_10 d_X_set_13 d_X_set_14 d_X_set_16 d_X_set_19 (Nat.le_of_ble_eq_true rfl) (Nat.le_of_ble_eq_true rfl) (Nat.le_of_ble_eq_true rfl) (Nat.le_of_ble_eq_true rfl) (Nat.le_of_ble_eq_true rfl) (Nat.le_of_ble_eq_true rfl) ⟨rfl, by first | exact Or.inl h1 | exact Or.inr h7, rfl⟩

theorem k_X_go : CKV y_X_go c_X_go 3 (some .int) 1 := ⟨q_233, q_1, q_231, q_232, ⟨by decide +kernel, by decide +kernel, by decide +kernel⟩⟩
set_option maxHeartbeats 4000000 in
set_option maxRecDepth 100000 in
theorem ct_X_go {l : Launch} {D : va_G} {cI cB cZ cJ : ClassId} {a : Nat → Nat} {σ : St} (hl : l.stackTraces = false) (x : Int32) : GXi l y_X_go (Cond.code y_X_go c_X_go 3 (some .int) :: tbW) ({ frames := 6, cells := 1, slots := 6, locals := 90 }) 1 6 D vCl (TY cI cB cZ cJ) [.ref (a 0), .int x] (bw a cI cB 32 σ) (fun r u => inM x = true ∧ r = σ 0 3 ∧ u = bw a cI cB 32 (s2 (s2 σ 0 3 x) 0 4 0)) (fun E u => E = xIo ∧ inM x = false ∧ u = (bw a cI cB 32 σ)) := by
  refine gx_body (post := fun r u => inM x = true ∧ r = σ 0 3 ∧ u = bw a cI cB 32 (s2 (s2 σ 0 3 x) 0 4 0)) (px := fun E u => E = xIo ∧ inM x = false ∧ u = (bw a cI cB 32 σ)) (cc := c_X_go) (maxL := 3) (ret := (some .int)) (by decide) rfl (by simp [Value.category]) (Nat.le_of_ble_eq_true rfl) ?_
  intro p e s m args below meth c F ht
  have hx := F.1
  have hb := F.2.1
  refine gj_ld (i := 1) (pc2 := 1) rfl (fun _ _ _ h9 => lv_iload_n hx hb d_X_go_0 rfl h9) ?_
  refine bj_s F k_X_inMemory d_X_go_1 q_113 (ct_X_inMemory _) (rmo rfl) rfl rfl (Nat.le_of_ble_eq_true rfl) (Nat.zero_le _) (Nat.zero_le _) rfl (fun r9 e9 => ?_)
  subst e9
  refine gj_if (pc2 := 17) (pc3 := 7) (fun _ _ _ => lv_if_ne (tgt := 17) hx hb d_X_go_4 (by decide)) (fun h4 => ?_) (fun h4 => ?_)
  · refine gj_ld (i := 0) (pc2 := 18) rfl (fun _ _ _ h9 => lv_aload_n hx hb d_X_go_17 rfl h9) ?_
    refine bj_gi F 3 (by decide) (by decide) d_X_go_18 q_46 rfl ?_
    refine gj_st (i := 2) (pc2 := 22) (Nat.le_of_ble_eq_true rfl) rfl (fun _ _ _ _ _ h9 l9 => lv_istore_n hx hb d_X_go_21 rfl h9 (Nat.le_of_ble_eq_true rfl) l9) ?_
    refine gj_ld (i := 0) (pc2 := 23) rfl (fun _ _ _ h9 => lv_aload_n hx hb d_X_go_22 rfl h9) ?_
    refine gj_ld (i := 1) (pc2 := 24) rfl (fun _ _ _ h9 => lv_iload_n hx hb d_X_go_23 rfl h9) ?_
    refine bj_pi F 3 (by decide) (by decide) d_X_go_24 q_46 rfl ?_
    refine gj_ld (i := 0) (pc2 := 28) rfl (fun _ _ _ h9 => lv_aload_n hx hb d_X_go_27 rfl h9) ?_
    refine gj_l (pc2 := 29) (fun _ _ _ => lv_iconst (v := 0) hx hb d_X_go_28 (by decide)) ?_
    refine bj_pi F 4 (by decide) (by decide) d_X_go_29 q_47 rfl ?_
    refine gj_ld (i := 2) (pc2 := 33) rfl (fun _ _ _ h9 => lv_iload_n hx hb d_X_go_32 rfl h9) ?_
    exact gx_iret F d_X_go_33 (Nat.zero_le _) (Nat.zero_le _) ⟨bN_n0.mp h4, rfl, rfl⟩
  · exact gx_throw (text := "no such place") F ht hl rfl xh_fit.1 q_116 q_7 (by decide +kernel) xh_Io1 xh_Io2 xh_Io3 d_X_go_7 d_X_go_10 d_X_go_11 d_X_go_13 d_X_go_16 (Nat.le_of_ble_eq_true rfl) (Nat.le_of_ble_eq_true rfl) (Nat.le_of_ble_eq_true rfl) (Nat.le_of_ble_eq_true rfl) (Nat.le_of_ble_eq_true rfl) (Nat.le_of_ble_eq_true rfl) ⟨rfl, bN_0.mp h4, rfl⟩

theorem k_X_memory : CKV y_X_memory c_X_memory 2 (some .int) 1 := ⟨q_308, q_1, q_306, q_307, ⟨by decide +kernel, by decide +kernel, by decide +kernel⟩⟩
set_option maxHeartbeats 4000000 in
set_option maxRecDepth 100000 in
theorem ct_X_memory {l : Launch} {D : va_G} {cI cB cZ cJ : ClassId} {a : Nat → Nat} {σ : St} (hl : l.stackTraces = false) (x : Int32) : GXi l y_X_memory (Cond.code y_X_memory c_X_memory 2 (some .int) :: tbW) ({ frames := 6, cells := 1, slots := 6, locals := 90 }) 1 6 D vCl (TY cI cB cZ cJ) [.ref (a 0), .int x] (bw a cI cB 32 σ) (fun r u => ∃ i : Nat, i < 1024 ∧ x = nI i ∧ r = σ 1 i ∧ u = (bw a cI cB 32 σ)) (fun E u => E = xIo ∧ inM x = false ∧ u = (bw a cI cB 32 σ)) := by
  refine gx_body (post := fun r u => ∃ i : Nat, i < 1024 ∧ x = nI i ∧ r = σ 1 i ∧ u = (bw a cI cB 32 σ)) (px := fun E u => E = xIo ∧ inM x = false ∧ u = (bw a cI cB 32 σ)) (cc := c_X_memory) (maxL := 2) (ret := (some .int)) (by decide) rfl (by simp [Value.category]) (Nat.le_of_ble_eq_true rfl) ?_
  intro p e s m args below meth c F ht
  have hx := F.1
  have hb := F.2.1
  refine gj_ld (i := 1) (pc2 := 1) rfl (fun _ _ _ h9 => lv_iload_n hx hb d_X_memory_0 rfl h9) ?_
  refine bj_s F k_X_inMemory d_X_memory_1 q_113 (ct_X_inMemory _) (rmo rfl) rfl rfl (Nat.le_of_ble_eq_true rfl) (Nat.zero_le _) (Nat.zero_le _) rfl (fun r9 e9 => ?_)
  subst e9
  refine gj_if (pc2 := 17) (pc3 := 7) (fun _ _ _ => lv_if_ne (tgt := 17) hx hb d_X_memory_4 (by decide)) (fun h4 => ?_) (fun h4 => ?_)
  · obtain ⟨i, hi, rfl⟩ := inM_of (bN_n0.mp h4)
    have hin := inM_nI hi
    refine gj_ld (i := 0) (pc2 := 18) rfl (fun _ _ _ h9 => lv_aload_n hx hb d_X_memory_17 rfl h9) ?_
    refine bj_gr F 0 (by decide) d_X_memory_18 q_43 rfl ?_
    refine gj_ld (i := 1) (pc2 := 22) rfl (fun _ _ _ h9 => lv_iload_n hx hb d_X_memory_21 rfl h9) ?_
    refine bj_ld F 1 1024 i (by omega) rfl (by decide) rfl hi d_X_memory_22 rfl ?_
    exact gx_iret F d_X_memory_23 (Nat.zero_le _) (Nat.zero_le _) ⟨i, hi, rfl, rfl, rfl⟩
  · exact gx_throw (text := "no such byte") F ht hl rfl xh_fit.1 q_116 q_7 (by decide +kernel) xh_Io1 xh_Io2 xh_Io3 d_X_memory_7 d_X_memory_10 d_X_memory_11 d_X_memory_13 d_X_memory_16 (Nat.le_of_ble_eq_true rfl) (Nat.le_of_ble_eq_true rfl) (Nat.le_of_ble_eq_true rfl) (Nat.le_of_ble_eq_true rfl) (Nat.le_of_ble_eq_true rfl) (Nat.le_of_ble_eq_true rfl) ⟨rfl, bN_0.mp h4, rfl⟩

theorem k_X_register : CKV y_X_register c_X_register 2 (some .int) 1 := ⟨q_315, q_1, q_313, q_314, ⟨by decide +kernel, by decide +kernel, by decide +kernel⟩⟩
set_option maxHeartbeats 4000000 in
set_option maxRecDepth 100000 in
theorem ct_X_register {l : Launch} {D : va_G} {cI cB cZ cJ : ClassId} {a : Nat → Nat} {σ : St} (hl : l.stackTraces = false) (x : Int32) : GXi l y_X_register (Cond.code y_X_register c_X_register 2 (some .int) :: tbW) ({ frames := 6, cells := 1, slots := 6, locals := 90 }) 1 6 D vCl (TY cI cB cZ cJ) [.ref (a 0), .int x] (bw a cI cB 32 σ) (fun r u => ¬ x < 0 ∧ x ≤ 11 ∧ r = rgV σ x ∧ u = (bw a cI cB 32 σ)) (fun E u => E = xIo ∧ (x < 0 ∨ ¬ x ≤ 11) ∧ u = (bw a cI cB 32 σ)) := by
  refine gx_body (post := fun r u => ¬ x < 0 ∧ x ≤ 11 ∧ r = rgV σ x ∧ u = (bw a cI cB 32 σ)) (px := fun E u => E = xIo ∧ (x < 0 ∨ ¬ x ≤ 11) ∧ u = (bw a cI cB 32 σ)) (cc := c_X_register) (maxL := 2) (ret := (some .int)) (by decide) rfl (by simp [Value.category]) (Nat.le_of_ble_eq_true rfl) ?_
  intro p e s m args below meth c F ht
  have hx := F.1
  have hb := F.2.1
  refine gj_ld (i := 1) (pc2 := 1) rfl (fun _ _ _ h9 => lv_iload_n hx hb d_X_register_0 rfl h9) ?_
  refine gj_if (pc2 := 10) (pc3 := 4) (fun _ _ _ => lv_if_lt (tgt := 10) hx hb d_X_register_1 (by decide)) (fun h1 => ?_) (fun h1 => ?_)
  · exact gx_throw (text := "no such register") F ht hl rfl xh_fit.1 q_116 q_7 (by decide +kernel) xh_Io1 xh_Io2 xh_Io3 d_X_register_10 d_X_register_13 d_X_register_14 d_X_register_16 d_X_register_19 (Nat.le_of_ble_eq_true rfl) (Nat.le_of_ble_eq_true rfl) (Nat.le_of_ble_eq_true rfl) (Nat.le_of_ble_eq_true rfl) (Nat.le_of_ble_eq_true rfl) (Nat.le_of_ble_eq_true rfl) ⟨rfl, by first | exact Or.inl h1 | exact Or.inr h7, rfl⟩
  · refine gj_ld (i := 1) (pc2 := 5) rfl (fun _ _ _ h9 => lv_iload_n hx hb d_X_register_4 rfl h9) ?_
    refine gj_l (pc2 := 7) (fun _ _ _ => lv_bipush (v := (11)) hx hb d_X_register_5 (by decide)) ?_
    refine gj_if (pc2 := 20) (pc3 := 10) (fun _ _ _ => lv_icmp_le (tgt := 20) hx hb d_X_register_7 (by decide)) (fun h7 => ?_) (fun h7 => ?_)
    · refine gj_ld (i := 1) (pc2 := 21) rfl (fun _ _ _ h9 => lv_iload_n hx hb d_X_register_20 rfl h9) ?_
      by_cases h21_8 : x = 8
      · rw [h21_8]
        refine gj_l (pc2 := 52) (fun _ _ _ => lv_tableIn (tgt := 52) hx hb d_X_register_21 (by decide) (by decide) rfl (by decide)) ?_
        refine gj_ld (i := 0) (pc2 := 53) rfl (fun _ _ _ h9 => lv_aload_n hx hb d_X_register_52 rfl h9) ?_
        refine bj_gi F 3 (by decide) (by decide) d_X_register_53 q_46 rfl ?_
        exact gx_iret F d_X_register_56 (Nat.zero_le _) (Nat.zero_le _) ⟨by first | exact h1 | decide, by first | exact h7 | decide, by first | (simp [bN_0] at h61; simp [rgV, bN, h1, h7, h21_8]; done) | (simp [bN_0] at h74; simp [rgV, bN, h1, h7, h21_8]; done) | (simp [rgV, h1, h7, h21_8]; done), rfl⟩
      by_cases h21_9 : x = 9
      · rw [h21_9]
        refine gj_l (pc2 := 57) (fun _ _ _ => lv_tableIn (tgt := 57) hx hb d_X_register_21 (by decide) (by decide) rfl (by decide)) ?_
        refine gj_ld (i := 0) (pc2 := 58) rfl (fun _ _ _ h9 => lv_aload_n hx hb d_X_register_57 rfl h9) ?_
        refine bj_vi F k_X_isZero d_X_register_58 q_291 (bw_at (i := 0) (by omega)) rfl (ct_X_isZero) (rmo rfl) rfl rfl (Nat.le_of_ble_eq_true rfl) (Nat.zero_le _) (Nat.zero_le _) rfl (fun r9 u9 e9 => ?_)
        obtain ⟨rfl, rfl⟩ := e9
        refine gj_if (pc2 := 68) (pc3 := 64) (fun _ _ _ => lv_if_eq (tgt := 68) hx hb d_X_register_61 (by decide)) (fun h61 => ?_) (fun h61 => ?_)
        · refine gj_l (pc2 := 69) (fun _ _ _ => lv_iconst (v := 0) hx hb d_X_register_68 (by decide)) ?_
          exact gx_iret F d_X_register_69 (Nat.zero_le _) (Nat.zero_le _) ⟨by first | exact h1 | decide, by first | exact h7 | decide, by first | (simp [bN_0] at h61; simp [rgV, bN, h1, h7, h21_8, h21_9, h61]; done) | (simp [bN_0] at h74; simp [rgV, bN, h1, h7, h21_8, h21_9, h61]; done) | (simp [rgV, h1, h7, h21_8, h21_9, h61]; done), rfl⟩
        · refine gj_l (pc2 := 65) (fun _ _ _ => lv_iconst (v := 1) hx hb d_X_register_64 (by decide)) ?_
          refine gj_l (pc2 := 69) (fun _ _ _ => lv_goto (tgt := 69) hx hb d_X_register_65 (by decide)) ?_
          exact gx_iret F d_X_register_69 (Nat.zero_le _) (Nat.zero_le _) ⟨by first | exact h1 | decide, by first | exact h7 | decide, by first | (simp [bN_0] at h61; simp [rgV, bN, h1, h7, h21_8, h21_9, h61]; done) | (simp [bN_0] at h74; simp [rgV, bN, h1, h7, h21_8, h21_9, h61]; done) | (simp [rgV, h1, h7, h21_8, h21_9, h61]; done), rfl⟩
      by_cases h21_10 : x = 10
      · rw [h21_10]
        refine gj_l (pc2 := 70) (fun _ _ _ => lv_tableIn (tgt := 70) hx hb d_X_register_21 (by decide) (by decide) rfl (by decide)) ?_
        refine gj_ld (i := 0) (pc2 := 71) rfl (fun _ _ _ h9 => lv_aload_n hx hb d_X_register_70 rfl h9) ?_
        refine bj_vi F k_X_isBelow d_X_register_71 q_295 (bw_at (i := 0) (by omega)) rfl (ct_X_isBelow) (rmo rfl) rfl rfl (Nat.le_of_ble_eq_true rfl) (Nat.zero_le _) (Nat.zero_le _) rfl (fun r9 u9 e9 => ?_)
        obtain ⟨rfl, rfl⟩ := e9
        refine gj_if (pc2 := 81) (pc3 := 77) (fun _ _ _ => lv_if_eq (tgt := 81) hx hb d_X_register_74 (by decide)) (fun h74 => ?_) (fun h74 => ?_)
        · refine gj_l (pc2 := 82) (fun _ _ _ => lv_iconst (v := 0) hx hb d_X_register_81 (by decide)) ?_
          exact gx_iret F d_X_register_82 (Nat.zero_le _) (Nat.zero_le _) ⟨by first | exact h1 | decide, by first | exact h7 | decide, by first | (simp [bN_0] at h61; simp [rgV, bN, h1, h7, h21_8, h21_9, h21_10, h74]; done) | (simp [bN_0] at h74; simp [rgV, bN, h1, h7, h21_8, h21_9, h21_10, h74]; done) | (simp [rgV, h1, h7, h21_8, h21_9, h21_10, h74]; done), rfl⟩
        · refine gj_l (pc2 := 78) (fun _ _ _ => lv_iconst (v := 1) hx hb d_X_register_77 (by decide)) ?_
          refine gj_l (pc2 := 82) (fun _ _ _ => lv_goto (tgt := 82) hx hb d_X_register_78 (by decide)) ?_
          exact gx_iret F d_X_register_82 (Nat.zero_le _) (Nat.zero_le _) ⟨by first | exact h1 | decide, by first | exact h7 | decide, by first | (simp [bN_0] at h61; simp [rgV, bN, h1, h7, h21_8, h21_9, h21_10, h74]; done) | (simp [bN_0] at h74; simp [rgV, bN, h1, h7, h21_8, h21_9, h21_10, h74]; done) | (simp [rgV, h1, h7, h21_8, h21_9, h21_10, h74]; done), rfl⟩
      by_cases h21_11 : x = 11
      · rw [h21_11]
        refine gj_l (pc2 := 83) (fun _ _ _ => lv_tableIn (tgt := 83) hx hb d_X_register_21 (by decide) (by decide) rfl (by decide)) ?_
        refine gj_ld (i := 0) (pc2 := 84) rfl (fun _ _ _ h9 => lv_aload_n hx hb d_X_register_83 rfl h9) ?_
        refine bj_gi F 4 (by decide) (by decide) d_X_register_84 q_47 rfl ?_
        exact gx_iret F d_X_register_87 (Nat.zero_le _) (Nat.zero_le _) ⟨by first | exact h1 | decide, by first | exact h7 | decide, by first | (simp [bN_0] at h61; simp [rgV, bN, h1, h7, h21_8, h21_9, h21_10, h21_11]; done) | (simp [bN_0] at h74; simp [rgV, bN, h1, h7, h21_8, h21_9, h21_10, h21_11]; done) | (simp [rgV, h1, h7, h21_8, h21_9, h21_10, h21_11]; done), rfl⟩
      have hsw : (x).toInt < 8 ∨ 11 < (x).toInt := by
        by_cases z : (x).toInt < 8
        · exact Or.inl z
        by_cases z2 : 11 < (x).toInt
        · exact Or.inr z2
        exfalso
        rcases (show (x).toInt = 8 ∨ (x).toInt = 9 ∨ (x).toInt = 10 ∨ (x).toInt = 11 by omega) with z3 | z3 | z3 | z3
        · exact h21_8 (Int32.toInt_inj.mp (z3.trans (by decide)))
        · exact h21_9 (Int32.toInt_inj.mp (z3.trans (by decide)))
        · exact h21_10 (Int32.toInt_inj.mp (z3.trans (by decide)))
        · exact h21_11 (Int32.toInt_inj.mp (z3.trans (by decide)))
      refine gj_l (pc2 := 88) (fun _ _ _ => lv_tableOut (tgt := 88) hx hb d_X_register_21 hsw (by decide)) ?_
      refine gj_ld (i := 0) (pc2 := 89) rfl (fun _ _ _ h9 => lv_aload_n hx hb d_X_register_88 rfl h9) ?_
      refine bj_gr F 1 (by decide) d_X_register_89 q_44 rfl ?_
      refine gj_ld (i := 1) (pc2 := 93) rfl (fun _ _ _ h9 => lv_iload_n hx hb d_X_register_92 rfl h9) ?_
      refine gj_l (pc2 := 95) (fun _ _ _ => lv_bipush (v := (7)) hx hb d_X_register_93 (by decide)) ?_
      refine gj_l (pc2 := 96) (fun _ _ _ => lv_iand hx hb d_X_register_95) ?_
      refine bj_ld F 2 8 (lo3 x) (by omega) rfl (by decide) (lo3_eq x) (lo3_lt x) d_X_register_96 rfl ?_
      exact gx_iret F d_X_register_97 (Nat.zero_le _) (Nat.zero_le _) ⟨by first | exact h1 | decide, by first | exact h7 | decide, by first | (simp [bN_0] at h61; simp [rgV, bN, h1, h7, h21_8, h21_9, h21_10, h21_11]; done) | (simp [bN_0] at h74; simp [rgV, bN, h1, h7, h21_8, h21_9, h21_10, h21_11]; done) | (simp [rgV, h1, h7, h21_8, h21_9, h21_10, h21_11]; done), rfl⟩
    · exact gx_throw (text := "no such register") F ht hl rfl xh_fit.1 q_116 q_7 (by decide +kernel) xh_Io1 xh_Io2 xh_Io3 d_X_register_10 d_X_register_13 d_X_register_14 d_X_register_16 d_X_register_19 (Nat.le_of_ble_eq_true rfl) (Nat.le_of_ble_eq_true rfl) (Nat.le_of_ble_eq_true rfl) (Nat.le_of_ble_eq_true rfl) (Nat.le_of_ble_eq_true rfl) (Nat.le_of_ble_eq_true rfl) ⟨rfl, by first | exact Or.inl h1 | exact Or.inr h7, rfl⟩

theorem k_X_row : CKV y_X_row c_X_row 4 (some .int) 2 := ⟨q_322, q_1, q_320, q_321, ⟨by decide +kernel, by decide +kernel, by decide +kernel⟩⟩
set_option maxHeartbeats 4000000 in
set_option maxRecDepth 100000 in
theorem ct_X_row {l : Launch} {D : va_G} {cI cB cZ cJ : ClassId} {a : Nat → Nat} {σ : St} (hl : l.stackTraces = false) (x z : Int32) : GXi l y_X_row (Cond.code y_X_row c_X_row 4 (some .int) :: tbW) ({ frames := 6, cells := 1, slots := 6, locals := 90 }) 1 6 D vCl (TY cI cB cZ cJ) [.ref (a 0), .int x, .int z] (bw a cI cB 32 σ) (fun r u => ∃ k : Nat, k < 32 ∧ x = nI k ∧ ¬ z < 0 ∧ z ≤ 2 ∧ r = rwV σ k z ∧ u = (bw a cI cB 32 σ)) (fun E u => E = xIo ∧ (x < 0 ∨ 32 ≤ x ∨ z < 0 ∨ ¬ z ≤ 2) ∧ u = (bw a cI cB 32 σ)) := by
  refine gx_body (post := fun r u => ∃ k : Nat, k < 32 ∧ x = nI k ∧ ¬ z < 0 ∧ z ≤ 2 ∧ r = rwV σ k z ∧ u = (bw a cI cB 32 σ)) (px := fun E u => E = xIo ∧ (x < 0 ∨ 32 ≤ x ∨ z < 0 ∨ ¬ z ≤ 2) ∧ u = (bw a cI cB 32 σ)) (cc := c_X_row) (maxL := 4) (ret := (some .int)) (by decide) rfl (by simp [Value.category]) (Nat.le_of_ble_eq_true rfl) ?_
  intro p e s m args below meth c F ht
  have hx := F.1
  have hb := F.2.1
  refine gj_ld (i := 1) (pc2 := 1) rfl (fun _ _ _ h9 => lv_iload_n hx hb d_X_row_0 rfl h9) ?_
  refine gj_if (pc2 := 19) (pc3 := 4) (fun _ _ _ => lv_if_lt (tgt := 19) hx hb d_X_row_1 (by decide)) (fun h1 => ?_) (fun h1 => ?_)
  · exact gx_throw (text := "no such row or what") F ht hl rfl xh_fit.1 q_116 q_7 (by decide +kernel) xh_Io1 xh_Io2 xh_Io3 d_X_row_19 d_X_row_22 d_X_row_23 d_X_row_25 d_X_row_28 (Nat.le_of_ble_eq_true rfl) (Nat.le_of_ble_eq_true rfl) (Nat.le_of_ble_eq_true rfl) (Nat.le_of_ble_eq_true rfl) (Nat.le_of_ble_eq_true rfl) (Nat.le_of_ble_eq_true rfl) ⟨rfl, by first | exact Or.inl h1 | exact Or.inr (Or.inl h7) | exact Or.inr (Or.inr (Or.inl h11)) | exact Or.inr (Or.inr (Or.inr h16)), rfl⟩
  · refine gj_ld (i := 1) (pc2 := 5) rfl (fun _ _ _ h9 => lv_iload_n hx hb d_X_row_4 rfl h9) ?_
    refine gj_l (pc2 := 7) (fun _ _ _ => lv_bipush (v := (32)) hx hb d_X_row_5 (by decide)) ?_
    refine gj_if (pc2 := 19) (pc3 := 10) (fun _ _ _ => lv_icmp_ge (tgt := 19) hx hb d_X_row_7 (by decide)) (fun h7 => ?_) (fun h7 => ?_)
    · exact gx_throw (text := "no such row or what") F ht hl rfl xh_fit.1 q_116 q_7 (by decide +kernel) xh_Io1 xh_Io2 xh_Io3 d_X_row_19 d_X_row_22 d_X_row_23 d_X_row_25 d_X_row_28 (Nat.le_of_ble_eq_true rfl) (Nat.le_of_ble_eq_true rfl) (Nat.le_of_ble_eq_true rfl) (Nat.le_of_ble_eq_true rfl) (Nat.le_of_ble_eq_true rfl) (Nat.le_of_ble_eq_true rfl) ⟨rfl, by first | exact Or.inl h1 | exact Or.inr (Or.inl h7) | exact Or.inr (Or.inr (Or.inl h11)) | exact Or.inr (Or.inr (Or.inr h16)), rfl⟩
    · refine gj_ld (i := 2) (pc2 := 11) rfl (fun _ _ _ h9 => lv_iload_n hx hb d_X_row_10 rfl h9) ?_
      refine gj_if (pc2 := 19) (pc3 := 14) (fun _ _ _ => lv_if_lt (tgt := 19) hx hb d_X_row_11 (by decide)) (fun h11 => ?_) (fun h11 => ?_)
      · exact gx_throw (text := "no such row or what") F ht hl rfl xh_fit.1 q_116 q_7 (by decide +kernel) xh_Io1 xh_Io2 xh_Io3 d_X_row_19 d_X_row_22 d_X_row_23 d_X_row_25 d_X_row_28 (Nat.le_of_ble_eq_true rfl) (Nat.le_of_ble_eq_true rfl) (Nat.le_of_ble_eq_true rfl) (Nat.le_of_ble_eq_true rfl) (Nat.le_of_ble_eq_true rfl) (Nat.le_of_ble_eq_true rfl) ⟨rfl, by first | exact Or.inl h1 | exact Or.inr (Or.inl h7) | exact Or.inr (Or.inr (Or.inl h11)) | exact Or.inr (Or.inr (Or.inr h16)), rfl⟩
      · refine gj_ld (i := 2) (pc2 := 15) rfl (fun _ _ _ h9 => lv_iload_n hx hb d_X_row_14 rfl h9) ?_
        refine gj_l (pc2 := 16) (fun _ _ _ => lv_iconst (v := 2) hx hb d_X_row_15 (by decide)) ?_
        refine gj_if (pc2 := 29) (pc3 := 19) (fun _ _ _ => lv_icmp_le (tgt := 29) hx hb d_X_row_16 (by decide)) (fun h16 => ?_) (fun h16 => ?_)
        · obtain ⟨k, hk, rfl⟩ := in32 h1 h7
          refine gj_ld (i := 0) (pc2 := 30) rfl (fun _ _ _ h9 => lv_aload_n hx hb d_X_row_29 rfl h9) ?_
          refine bj_gr F 2 (by decide) d_X_row_30 q_45 rfl ?_
          refine gj_ld (i := 1) (pc2 := 34) rfl (fun _ _ _ h9 => lv_iload_n hx hb d_X_row_33 rfl h9) ?_
          refine bj_blk F k rfl hk d_X_row_34 rfl ?_
          refine gj_st (i := 3) (pc2 := 36) (Nat.le_of_ble_eq_true rfl) rfl (fun _ _ _ _ _ h9 l9 => lv_astore_n hx hb d_X_row_35 rfl h9 (Nat.le_of_ble_eq_true rfl) l9) ?_
          refine gj_ld (i := 2) (pc2 := 37) rfl (fun _ _ _ h9 => lv_iload_n hx hb d_X_row_36 rfl h9) ?_
          by_cases h37_0 : z = 0
          · rw [h37_0]
            refine gj_l (pc2 := 64) (fun _ _ _ => lv_lookup (tgt := 64) (off := 27) hx hb d_X_row_37 (by decide) (by decide) (by decide)) ?_
            refine gj_ld (i := 3) (pc2 := 65) rfl (fun _ _ _ h9 => lv_aload_n hx hb d_X_row_64 rfl h9) ?_
            refine bj_ni F k_B_isKept d_X_row_65 (by decide +kernel) (bw_blk hk) rfl (ct_B_isKept hk) (rmo rfl) rfl rfl (Nat.le_of_ble_eq_true rfl) (Nat.zero_le _) (Nat.zero_le _) rfl (fun r9 u9 e9 => ?_)
            obtain ⟨rfl, rfl⟩ := e9
            refine gj_if (pc2 := 78) (pc3 := 71) (fun _ _ _ => lv_if_eq (tgt := 78) hx hb d_X_row_68 (by decide)) (fun h68 => ?_) (fun h68 => ?_)
            · refine gj_l (pc2 := 79) (fun _ _ _ => lv_iconst (v := (-1)) hx hb d_X_row_78 (by decide)) ?_
              exact gx_iret F d_X_row_79 (Nat.zero_le _) (Nat.zero_le _) ⟨k, hk, rfl, by first | exact h11 | decide, by first | exact h16 | decide, by first | (simp [bN_0] at h68; simp [rwV, h1, h7, h11, h16, h37_0, h68]; done) | (simp [rwV, h1, h7, h11, h16, h37_0, h68]; done), rfl⟩
            · refine gj_ld (i := 3) (pc2 := 72) rfl (fun _ _ _ h9 => lv_aload_n hx hb d_X_row_71 rfl h9) ?_
              refine bj_biN F _ 1 hk (by decide) (by decide) d_X_row_72 (by decide +kernel) rfl ?_
              refine gj_l (pc2 := 79) (fun _ _ _ => lv_goto (tgt := 79) hx hb d_X_row_75 (by decide)) ?_
              exact gx_iret F d_X_row_79 (Nat.zero_le _) (Nat.zero_le _) ⟨k, hk, rfl, by first | exact h11 | decide, by first | exact h16 | decide, by first | (simp [bN_0] at h68; simp [rwV, h1, h7, h11, h16, h37_0, h68]; done) | (simp [rwV, h1, h7, h11, h16, h37_0, h68]; done), rfl⟩
          by_cases h37_1 : z = 1
          · rw [h37_1]
            refine gj_l (pc2 := 80) (fun _ _ _ => lv_lookup (tgt := 80) (off := 43) hx hb d_X_row_37 (by decide) (by decide) (by decide)) ?_
            refine gj_ld (i := 3) (pc2 := 81) rfl (fun _ _ _ h9 => lv_aload_n hx hb d_X_row_80 rfl h9) ?_
            refine bj_biN F _ 2 hk (by decide) (by decide) d_X_row_81 (by decide +kernel) rfl ?_
            exact gx_iret F d_X_row_84 (Nat.zero_le _) (Nat.zero_le _) ⟨k, hk, rfl, by first | exact h11 | decide, by first | exact h16 | decide, by first | (simp [bN_0] at h68; simp [rwV, h1, h7, h11, h16, h37_0, h37_1]; done) | (simp [rwV, h1, h7, h11, h16, h37_0, h37_1]; done), rfl⟩
          have hz2 : z = 2 := by
            obtain ⟨j9, h8, rfl⟩ := nI_of h11
            have h9 : j9 ≤ 2 := (nI_leI h8 (by omega)).mp h16
            rcases (show j9 = 0 ∨ j9 = 1 ∨ j9 = 2 by omega) with rfl | rfl | rfl
            · exact absurd rfl h37_0
            · exact absurd rfl h37_1
            · rfl
          rw [hz2]
          refine gj_l (pc2 := 85) (fun _ _ _ => lv_lookup (tgt := 85) (off := 48) hx hb d_X_row_37 (by decide) (by decide) (by decide)) ?_
          refine gj_ld (i := 3) (pc2 := 86) rfl (fun _ _ _ h9 => lv_aload_n hx hb d_X_row_85 rfl h9) ?_
          refine bj_biN F _ 3 hk (by decide) (by decide) d_X_row_86 (by decide +kernel) rfl ?_
          exact gx_iret F d_X_row_89 (Nat.zero_le _) (Nat.zero_le _) ⟨k, hk, rfl, by first | exact h11 | decide, by first | exact h16 | decide, by first | (simp [bN_0] at h68; simp [rwV, h1, h7, h11, h16, hz2]; done) | (simp [rwV, h1, h7, h11, h16, hz2]; done), rfl⟩
        · exact gx_throw (text := "no such row or what") F ht hl rfl xh_fit.1 q_116 q_7 (by decide +kernel) xh_Io1 xh_Io2 xh_Io3 d_X_row_19 d_X_row_22 d_X_row_23 d_X_row_25 d_X_row_28 (Nat.le_of_ble_eq_true rfl) (Nat.le_of_ble_eq_true rfl) (Nat.le_of_ble_eq_true rfl) (Nat.le_of_ble_eq_true rfl) (Nat.le_of_ble_eq_true rfl) (Nat.le_of_ble_eq_true rfl) ⟨rfl, by first | exact Or.inl h1 | exact Or.inr (Or.inl h7) | exact Or.inr (Or.inr (Or.inl h11)) | exact Or.inr (Or.inr (Or.inr h16)), rfl⟩

theorem k_X_count : CKV y_X_count c_X_count 2 (some .int) 1 := ⟨q_99, q_1, q_97, q_98, ⟨by decide +kernel, by decide +kernel, by decide +kernel⟩⟩
set_option maxHeartbeats 4000000 in
set_option maxRecDepth 100000 in
theorem ct_X_count {l : Launch} {D : va_G} {cI cB cZ cJ : ClassId} {a : Nat → Nat} {σ : St} (x : Int32) : GCi l y_X_count (Cond.code y_X_count c_X_count 2 (some .int) :: tbW) ({ frames := 2, cells := 0, slots := 0, locals := 42 }) 0 0 D vCl (TY cI cB cZ cJ) [.ref (a 0), .int x] (bw a cI cB 32 σ) (fun r u => r = cnV σ x ∧ u = (bw a cI cB 32 σ)) := by
  refine gc_body (Qc := gc_Qi D vCl (TY cI cB cZ cJ) (bw a cI cB 32 σ) (fun r u => r = cnV σ x ∧ u = (bw a cI cB 32 σ))) (cc := c_X_count) (maxL := 2) (ret := (some .int)) (by decide) rfl (by simp [Value.category]) (Nat.le_of_ble_eq_true rfl) ?_
  intro p e s m args below meth c F
  have hx := F.1
  have hb := F.2.1
  refine gj_ld (i := 1) (pc2 := 1) rfl (fun _ _ _ h9 => lv_iload_n hx hb d_X_count_0 rfl h9) ?_
  by_cases h1_0 : x = 0
  · rw [h1_0]
    refine gj_l (pc2 := 44) (fun _ _ _ => lv_tableIn (tgt := 44) hx hb d_X_count_1 (by decide) (by decide) rfl (by decide)) ?_
    refine gj_ld (i := 0) (pc2 := 45) rfl (fun _ _ _ h9 => lv_aload_n hx hb d_X_count_44 rfl h9) ?_
    refine bj_gi F 6 (by decide) (by decide) d_X_count_45 q_49 rfl ?_
    exact gj_iret F d_X_count_48 (Nat.le_refl _) (Nat.le_refl _) ⟨by simp [cnV, h1_0], rfl⟩
  by_cases h1_1 : x = 1
  · rw [h1_1]
    refine gj_l (pc2 := 49) (fun _ _ _ => lv_tableIn (tgt := 49) hx hb d_X_count_1 (by decide) (by decide) rfl (by decide)) ?_
    refine gj_ld (i := 0) (pc2 := 50) rfl (fun _ _ _ h9 => lv_aload_n hx hb d_X_count_49 rfl h9) ?_
    refine bj_gi F 7 (by decide) (by decide) d_X_count_50 q_50 rfl ?_
    exact gj_iret F d_X_count_53 (Nat.le_refl _) (Nat.le_refl _) ⟨by simp [cnV, h1_0, h1_1], rfl⟩
  by_cases h1_2 : x = 2
  · rw [h1_2]
    refine gj_l (pc2 := 54) (fun _ _ _ => lv_tableIn (tgt := 54) hx hb d_X_count_1 (by decide) (by decide) rfl (by decide)) ?_
    refine gj_ld (i := 0) (pc2 := 55) rfl (fun _ _ _ h9 => lv_aload_n hx hb d_X_count_54 rfl h9) ?_
    refine bj_gi F 8 (by decide) (by decide) d_X_count_55 q_51 rfl ?_
    exact gj_iret F d_X_count_58 (Nat.le_refl _) (Nat.le_refl _) ⟨by simp [cnV, h1_0, h1_1, h1_2], rfl⟩
  by_cases h1_3 : x = 3
  · rw [h1_3]
    refine gj_l (pc2 := 59) (fun _ _ _ => lv_tableIn (tgt := 59) hx hb d_X_count_1 (by decide) (by decide) rfl (by decide)) ?_
    refine gj_ld (i := 0) (pc2 := 60) rfl (fun _ _ _ h9 => lv_aload_n hx hb d_X_count_59 rfl h9) ?_
    refine bj_gi F 9 (by decide) (by decide) d_X_count_60 q_52 rfl ?_
    exact gj_iret F d_X_count_63 (Nat.le_refl _) (Nat.le_refl _) ⟨by simp [cnV, h1_0, h1_1, h1_2, h1_3], rfl⟩
  by_cases h1_4 : x = 4
  · rw [h1_4]
    refine gj_l (pc2 := 64) (fun _ _ _ => lv_tableIn (tgt := 64) hx hb d_X_count_1 (by decide) (by decide) rfl (by decide)) ?_
    refine gj_ld (i := 0) (pc2 := 65) rfl (fun _ _ _ h9 => lv_aload_n hx hb d_X_count_64 rfl h9) ?_
    refine bj_vi F k_X_keptNow d_X_count_65 q_100 (bw_at (i := 0) (by omega)) rfl (ct_X_keptNow) (rmo rfl) rfl rfl (Nat.le_of_ble_eq_true rfl) (Nat.zero_le _) (Nat.zero_le _) rfl (fun r9 u9 e9 => ?_)
    obtain ⟨rfl, rfl⟩ := e9
    exact gj_iret F d_X_count_68 (Nat.le_refl _) (Nat.le_refl _) ⟨by simp [cnV, h1_0, h1_1, h1_2, h1_3, h1_4], rfl⟩
  by_cases h1_5 : x = 5
  · rw [h1_5]
    refine gj_l (pc2 := 69) (fun _ _ _ => lv_tableIn (tgt := 69) hx hb d_X_count_1 (by decide) (by decide) rfl (by decide)) ?_
    refine gj_ld (i := 0) (pc2 := 70) rfl (fun _ _ _ h9 => lv_aload_n hx hb d_X_count_69 rfl h9) ?_
    refine bj_gi F 10 (by decide) (by decide) d_X_count_70 q_53 rfl ?_
    exact gj_iret F d_X_count_73 (Nat.le_refl _) (Nat.le_refl _) ⟨by simp [cnV, h1_0, h1_1, h1_2, h1_3, h1_4, h1_5], rfl⟩
  by_cases h1_6 : x = 6
  · rw [h1_6]
    refine gj_l (pc2 := 74) (fun _ _ _ => lv_tableIn (tgt := 74) hx hb d_X_count_1 (by decide) (by decide) rfl (by decide)) ?_
    refine gj_ld (i := 0) (pc2 := 75) rfl (fun _ _ _ h9 => lv_aload_n hx hb d_X_count_74 rfl h9) ?_
    refine bj_gi F 11 (by decide) (by decide) d_X_count_75 q_54 rfl ?_
    exact gj_iret F d_X_count_78 (Nat.le_refl _) (Nat.le_refl _) ⟨by simp [cnV, h1_0, h1_1, h1_2, h1_3, h1_4, h1_5, h1_6], rfl⟩
  have hsw : (x).toInt < 0 ∨ 6 < (x).toInt := by
    by_cases z : (x).toInt < 0
    · exact Or.inl z
    by_cases z2 : 6 < (x).toInt
    · exact Or.inr z2
    exfalso
    rcases (show (x).toInt = 0 ∨ (x).toInt = 1 ∨ (x).toInt = 2 ∨ (x).toInt = 3 ∨ (x).toInt = 4 ∨ (x).toInt = 5 ∨ (x).toInt = 6 by omega) with z3 | z3 | z3 | z3 | z3 | z3 | z3
    · exact h1_0 (Int32.toInt_inj.mp (z3.trans (by decide)))
    · exact h1_1 (Int32.toInt_inj.mp (z3.trans (by decide)))
    · exact h1_2 (Int32.toInt_inj.mp (z3.trans (by decide)))
    · exact h1_3 (Int32.toInt_inj.mp (z3.trans (by decide)))
    · exact h1_4 (Int32.toInt_inj.mp (z3.trans (by decide)))
    · exact h1_5 (Int32.toInt_inj.mp (z3.trans (by decide)))
    · exact h1_6 (Int32.toInt_inj.mp (z3.trans (by decide)))
  refine gj_l (pc2 := 79) (fun _ _ _ => lv_tableOut (tgt := 79) hx hb d_X_count_1 hsw (by decide)) ?_
  refine gj_l (pc2 := 80) (fun _ _ _ => lv_iconst (v := (-1)) hx hb d_X_count_79 (by decide)) ?_
  exact gj_iret F d_X_count_80 (Nat.le_refl _) (Nat.le_refl _) ⟨by simp [cnV, h1_0, h1_1, h1_2, h1_3, h1_4, h1_5, h1_6], rfl⟩

theorem k_X_run : CKV y_X_run c_X_run 4 (some .int) 1 := ⟨q_240, q_1, q_238, q_239, ⟨by decide +kernel, by decide +kernel, by decide +kernel⟩⟩
set_option maxHeartbeats 4000000 in
set_option maxRecDepth 100000 in
theorem ct_X_run {l : Launch} {D : va_G} {cI cB cZ cJ : ClassId} {a : Nat → Nat} {σ : St} (hl : l.stackTraces = false) (x : Int32) : GXi l y_X_run (Cond.code y_X_run c_X_run 4 (some .int) :: tbW) ({ frames := 6, cells := 1, slots := 6, locals := 138 }) 1 6 D vCl (TY cI cB cZ cJ) [.ref (a 0), .int x] (bw a cI cB 32 σ) (fun r u => ∃ n : Nat, 1 ≤ n ∧ n ≤ 100 ∧ x = nI n ∧ r = nI (ruL n n 0 σ).2 ∧ u = bw a cI cB 32 (ruL n n 0 σ).1) (fun E u => E = xIa ∧ (x < 1 ∨ ¬ x ≤ 100) ∧ u = (bw a cI cB 32 σ)) := by
  refine gx_body (post := fun r u => ∃ n : Nat, 1 ≤ n ∧ n ≤ 100 ∧ x = nI n ∧ r = nI (ruL n n 0 σ).2 ∧ u = bw a cI cB 32 (ruL n n 0 σ).1) (px := fun E u => E = xIa ∧ (x < 1 ∨ ¬ x ≤ 100) ∧ u = (bw a cI cB 32 σ)) (cc := c_X_run) (maxL := 4) (ret := (some .int)) (by decide) rfl (by simp [Value.category]) (Nat.le_of_ble_eq_true rfl) ?_
  intro p e s m args below meth c F ht
  have hx := F.1
  have hb := F.2.1
  refine gj_ld (i := 1) (pc2 := 1) rfl (fun _ _ _ h9 => lv_iload_n hx hb d_X_run_0 rfl h9) ?_
  refine gj_l (pc2 := 2) (fun _ _ _ => lv_iconst (v := 1) hx hb d_X_run_1 (by decide)) ?_
  refine gj_if (pc2 := 11) (pc3 := 5) (fun _ _ _ => lv_icmp_lt (tgt := 11) hx hb d_X_run_2 (by decide)) (fun h2 => ?_) (fun h2 => ?_)
  · exact gx_throw (text := "not 1 to 100 steps") F ht hl rfl xh_fit.2.1 q_183 q_8 (by decide +kernel) xh_Ia1 xh_Ia2 xh_Ia3 d_X_run_11 d_X_run_14 d_X_run_15 d_X_run_17 d_X_run_20 (Nat.le_of_ble_eq_true rfl) (Nat.le_of_ble_eq_true rfl) (Nat.le_of_ble_eq_true rfl) (Nat.le_of_ble_eq_true rfl) (Nat.le_of_ble_eq_true rfl) (Nat.le_of_ble_eq_true rfl) ⟨rfl, by first | exact Or.inl h2 | exact Or.inr h8, rfl⟩
  · refine gj_ld (i := 1) (pc2 := 6) rfl (fun _ _ _ h9 => lv_iload_n hx hb d_X_run_5 rfl h9) ?_
    refine gj_l (pc2 := 8) (fun _ _ _ => lv_bipush (v := (100)) hx hb d_X_run_6 (by decide)) ?_
    refine gj_if (pc2 := 21) (pc3 := 11) (fun _ _ _ => lv_icmp_le (tgt := 21) hx hb d_X_run_8 (by decide)) (fun h8 => ?_) (fun h8 => ?_)
    · obtain ⟨N, hN1, hN2, rfl⟩ := in100 h2 h8
      refine gj_l (pc2 := 22) (fun _ _ _ => lv_iconst (v := 0) hx hb d_X_run_21 (by decide)) ?_
      refine gj_st (i := 2) (pc2 := 23) (Nat.le_of_ble_eq_true rfl) rfl (fun _ _ _ _ _ h9 l9 => lv_istore_n hx hb d_X_run_22 rfl h9 (Nat.le_of_ble_eq_true rfl) l9) ?_
      refine gj_l (pc2 := 24) (fun _ _ _ => lv_iconst (v := 0) hx hb d_X_run_23 (by decide)) ?_
      refine gj_st (i := 3) (pc2 := 25) (Nat.le_of_ble_eq_true rfl) rfl (fun _ _ _ _ _ h9 l9 => lv_istore_n hx hb d_X_run_24 rfl h9 (Nat.le_of_ble_eq_true rfl) l9) ?_
      refine gj_fuel (T := Nat × Nat × St) (fun t => bw a cI cB 32 t.2.2) (fun t => [.ref (a 0), .int (nI N), .int (nI t.2.1), .int (nI t.1)]) (fun f t => t.1 + f = N ∧ t.2.1 ≤ N ∧ ruL N f t.2.1 t.2.2 = ruL N N 0 σ) (fun f t hv ih => ?_) N (0, 0, σ) ⟨Nat.zero_add N, Nat.zero_le N, rfl⟩
      obtain ⟨q, d, τ⟩ := t
      obtain ⟨hq, hd9, hR⟩ := hv
      dsimp only at hq hd9 hR ⊢
      refine gj_ld (i := 3) (pc2 := 26) rfl (fun _ _ _ h9 => lv_iload_n hx hb d_X_run_25 rfl h9) ?_
      refine gj_ld (i := 1) (pc2 := 27) rfl (fun _ _ _ h9 => lv_iload_n hx hb d_X_run_26 rfl h9) ?_
      refine gj_if (pc2 := 58) (pc3 := 30) (fun _ _ _ => lv_icmp_ge (tgt := 58) hx hb d_X_run_27 (by decide)) (fun h27 => ?_) (fun h27 => ?_)
      · have h28 := nI_ge_of h27 (by omega) (by omega)
        have hf : f = 0 := by omega
        subst hf
        rw [ruL] at hR
        refine gj_ld (i := 2) (pc2 := 59) rfl (fun _ _ _ h9 => lv_iload_n hx hb d_X_run_58 rfl h9) ?_
        exact gx_iret F d_X_run_59 (Nat.zero_le _) (Nat.zero_le _) ⟨N, hN1, hN2, rfl, by rw [← hR], by rw [← hR]⟩
      · have hqN := nI_lt_of h27 (by omega)
        obtain ⟨g, rfl⟩ : ∃ g, f = g + 1 := ⟨f - 1, by omega⟩
        refine gj_ld (i := 2) (pc2 := 31) rfl (fun _ _ _ h9 => lv_iload_n hx hb d_X_run_30 rfl h9) ?_
        refine gj_ld (i := 1) (pc2 := 32) rfl (fun _ _ _ h9 => lv_iload_n hx hb d_X_run_31 rfl h9) ?_
        refine gj_if (pc2 := 58) (pc3 := 35) (fun _ _ _ => lv_icmp_ge (tgt := 58) hx hb d_X_run_32 (by decide)) (fun h32 => ?_) (fun h32 => ?_)
        · have h33 := nI_ge_of h32 (by omega) (by omega)
          rw [ruL, if_neg (fun h => absurd h.1 (by omega))] at hR
          refine gj_ld (i := 2) (pc2 := 59) rfl (fun _ _ _ h9 => lv_iload_n hx hb d_X_run_58 rfl h9) ?_
          exact gx_iret F d_X_run_59 (Nat.zero_le _) (Nat.zero_le _) ⟨N, hN1, hN2, rfl, by rw [← hR], by rw [← hR]⟩
        · have hdN := nI_lt_of h32 (by omega)
          refine gj_ld (i := 0) (pc2 := 36) rfl (fun _ _ _ h9 => lv_aload_n hx hb d_X_run_35 rfl h9) ?_
          refine bj_gi F 4 (by decide) (by decide) d_X_run_36 q_47 rfl ?_
          refine gj_if (pc2 := 58) (pc3 := 42) (fun _ _ _ => lv_if_ne (tgt := 58) hx hb d_X_run_39 (by decide)) (fun h39 => ?_) (fun h39 => ?_)
          · rw [ruL, if_neg (fun h => h39 h.2)] at hR
            refine gj_ld (i := 2) (pc2 := 59) rfl (fun _ _ _ h9 => lv_iload_n hx hb d_X_run_58 rfl h9) ?_
            exact gx_iret F d_X_run_59 (Nat.zero_le _) (Nat.zero_le _) ⟨N, hN1, hN2, rfl, by rw [← hR], by rw [← hR]⟩
          · rw [ruL, if_pos ⟨hdN, h39⟩] at hR
            refine gj_ld (i := 2) (pc2 := 43) rfl (fun _ _ _ h9 => lv_iload_n hx hb d_X_run_42 rfl h9) ?_
            refine gj_ld (i := 0) (pc2 := 44) rfl (fun _ _ _ h9 => lv_aload_n hx hb d_X_run_43 rfl h9) ?_
            refine gj_ld (i := 1) (pc2 := 45) rfl (fun _ _ _ h9 => lv_iload_n hx hb d_X_run_44 rfl h9) ?_
            refine gj_ld (i := 2) (pc2 := 46) rfl (fun _ _ _ h9 => lv_iload_n hx hb d_X_run_45 rfl h9) ?_
            refine gj_l (pc2 := 47) (fun _ _ _ => lv_isub hx hb d_X_run_46) ?_
            rw [pk_sub (a := N) (b := d) (by omega)]
            refine bj_vi F k_X_doBlock d_X_run_47 q_242 (bw_at (i := 0) (by omega)) rfl (ct_X_doBlock _) (rmo rfl) rfl rfl (Nat.le_of_ble_eq_true rfl) (Nat.zero_le _) (Nat.zero_le _) rfl (fun r9 u9 e9 => ?_)
            obtain ⟨rfl, rfl⟩ := e9
            refine gj_l (pc2 := 51) (fun _ _ _ => lv_iadd hx hb d_X_run_50) ?_
            rw [nI_add]
            refine gj_st (i := 2) (pc2 := 52) (Nat.le_of_ble_eq_true rfl) rfl (fun _ _ _ _ _ h9 l9 => lv_istore_n hx hb d_X_run_51 rfl h9 (Nat.le_of_ble_eq_true rfl) l9) ?_
            refine gj_iinc (pc2 := 55) hx hb d_X_run_52 (Nat.le_of_ble_eq_true rfl) rfl (nI_1 q) rfl ?_
            refine gj_l (pc2 := 25) (fun _ _ _ => lv_goto (tgt := 25) hx hb d_X_run_55 (by decide)) ?_
            exact ih g (q + 1, d + (dbO τ (nI (N - d))).2, (dbO τ (nI (N - d))).1) rfl ⟨by dsimp only; omega, by have := dbO_le τ (m := N - d) (by omega); dsimp only; omega, hR⟩
    · exact gx_throw (text := "not 1 to 100 steps") F ht hl rfl xh_fit.2.1 q_183 q_8 (by decide +kernel) xh_Ia1 xh_Ia2 xh_Ia3 d_X_run_11 d_X_run_14 d_X_run_15 d_X_run_17 d_X_run_20 (Nat.le_of_ble_eq_true rfl) (Nat.le_of_ble_eq_true rfl) (Nat.le_of_ble_eq_true rfl) (Nat.le_of_ble_eq_true rfl) (Nat.le_of_ble_eq_true rfl) (Nat.le_of_ble_eq_true rfl) ⟨rfl, by first | exact Or.inl h2 | exact Or.inr h8, rfl⟩
