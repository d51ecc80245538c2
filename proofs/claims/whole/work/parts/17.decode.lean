theorem k_X_decode : CKV y_X_decode c_X_decode 8 none 2 := ⟨q_257, q_1, q_256, sl_X_decode, ⟨by decide +kernel, by decide +kernel, by decide +kernel⟩⟩
set_option maxHeartbeats 4000000 in
set_option maxRecDepth 100000 in
theorem ct_X_decode {l : Launch} {D : va_G} {cI cB cZ cJ : ClassId} {a : Nat → Nat} {σ : St} {k : Nat} (hk : k < 32) (b : Int32) : GCv l y_X_decode (Cond.code y_X_decode c_X_decode 8 none :: tbW) ({ frames := 2, cells := 0, slots := 0, locals := 42 }) 0 0 D vCl (TY cI cB cZ cJ) [.ref (a 0), .ref (a (4 + 2 * k)), .int b] (bw a cI cB 32 σ) (fun u => u = bw a cI cB 32 (deB σ k b)) := by
  refine gc_body (Qc := gc_Qv D vCl (TY cI cB cZ cJ) (bw a cI cB 32 σ) (fun u => u = bw a cI cB 32 (deB σ k b))) (cc := c_X_decode) (maxL := 8) (ret := none) (by decide) rfl (by simp [Value.category]) (Nat.le_of_ble_eq_true rfl) ?_
  intro p e s m args below meth c F
  have hx := F.1
  have hb := F.2.1
  refine gj_ld (i := 1) (pc2 := 1) rfl (fun _ _ _ h9 => lv_aload_n hx hb d_X_decode_0 rfl h9) ?_
  refine gj_ld (i := 2) (pc2 := 2) rfl (fun _ _ _ h9 => lv_iload_n hx hb d_X_decode_1 rfl h9) ?_
  refine bj_nv F k_B_empty d_X_decode_2 (by decide +kernel) (bw_blk hk) rfl (ct_B_empty hk _) (rmo rfl) rfl rfl (Nat.le_of_ble_eq_true rfl) (Nat.zero_le _) (Nat.zero_le _) rfl (fun u9 e9 => ?_)
  subst e9
  refine gj_ld (i := 2) (pc2 := 6) rfl (fun _ _ _ h9 => lv_iload_n hx hb d_X_decode_5 rfl h9) ?_
  refine gj_st (i := 3) (pc2 := 7) (Nat.le_of_ble_eq_true rfl) rfl (fun _ _ _ _ _ h9 l9 => lv_istore_n hx hb d_X_decode_6 rfl h9 (Nat.le_of_ble_eq_true rfl) l9) ?_
  refine gj_l (pc2 := 8) (fun _ _ _ => lv_iconst (v := 1) hx hb d_X_decode_7 (by decide)) ?_
  refine gj_st (i := 4) (pc2 := 10) (Nat.le_of_ble_eq_true rfl) rfl (fun _ _ _ _ _ h9 l9 => lv_istore hx hb d_X_decode_8 h9 (Nat.le_of_ble_eq_true rfl) l9) ?_
  refine gj_l (pc2 := 11) (fun _ _ _ => lv_iconst (v := 0) hx hb d_X_decode_10 (by decide)) ?_
  refine gj_st (i := 5) (pc2 := 13) (Nat.le_of_ble_eq_true rfl) rfl (fun _ _ _ _ _ h9 l9 => lv_istore hx hb d_X_decode_11 h9 (Nat.le_of_ble_eq_true rfl) l9) ?_
  refine gj_loop 12 (fun t => bw a cI cB 32 (dlS σ k b t).1) (fun t => [.ref (a 0), .ref (a (4 + 2 * k)), .int b, .int (dlS σ k b t).2.1, .int (bN (dlS σ k b t).2.2), .int (nI t)]) (fun t ht ih => ?_)
  refine gj_ld (i := 5) (pc2 := 15) rfl (fun _ _ _ h9 => lv_iload hx hb d_X_decode_13 h9) ?_
  refine gj_l (pc2 := 17) (fun _ _ _ => lv_bipush (v := (12)) hx hb d_X_decode_15 (by decide)) ?_
  refine gj_if (pc2 := 101) (pc3 := 20) (fun _ _ _ => lv_icmp_ge (tgt := 101) hx hb d_X_decode_17 (by decide)) (fun h17 => ?_) (fun h17 => ?_)
  · have ht9 : 12 ≤ t := nI_ge_of h17 (by omega) (by omega)
    have ht8 : t = 12 := by omega
    subst ht8
    have hq : dlS σ k b 12 = dlS σ k b 12 := rfl
    refine gj_ld (i := 1) (pc2 := 102) rfl (fun _ _ _ h9 => lv_aload_n hx hb d_X_decode_101 rfl h9) ?_
    refine gj_ld (i := 3) (pc2 := 103) rfl (fun _ _ _ h9 => lv_iload_n hx hb d_X_decode_102 rfl h9) ?_
    refine gj_ld (i := 2) (pc2 := 104) rfl (fun _ _ _ h9 => lv_iload_n hx hb d_X_decode_103 rfl h9) ?_
    refine gj_l (pc2 := 105) (fun _ _ _ => lv_isub hx hb d_X_decode_104) ?_
    refine bj_bpN F _ 3 hk (by decide) (by decide) d_X_decode_105 (by decide +kernel) rfl ?_
    refine gj_ld (i := 0) (pc2 := 109) rfl (fun _ _ _ h9 => lv_aload_n hx hb d_X_decode_108 rfl h9) ?_
    refine gj_l (pc2 := 110) (fun _ _ _ => lv_dup hx hb d_X_decode_109 rfl) ?_
    refine bj_gi F 7 (by decide) (by decide) d_X_decode_110 q_50 rfl ?_
    refine gj_l (pc2 := 114) (fun _ _ _ => lv_iconst (v := 1) hx hb d_X_decode_113 (by decide)) ?_
    refine gj_l (pc2 := 115) (fun _ _ _ => lv_iadd hx hb d_X_decode_114) ?_
    refine bj_pi F 7 (by decide) (by decide) d_X_decode_115 q_50 rfl ?_
    refine gj_ld (i := 0) (pc2 := 119) rfl (fun _ _ _ h9 => lv_aload_n hx hb d_X_decode_118 rfl h9) ?_
    refine gj_l (pc2 := 120) (fun _ _ _ => lv_dup hx hb d_X_decode_119 rfl) ?_
    refine bj_gi F 11 (by decide) (by decide) d_X_decode_120 q_54 rfl ?_
    refine gj_ld (i := 1) (pc2 := 124) rfl (fun _ _ _ h9 => lv_aload_n hx hb d_X_decode_123 rfl h9) ?_
    refine bj_biN F _ 2 hk (by decide) (by decide) d_X_decode_124 (by decide +kernel) rfl ?_
    refine gj_l (pc2 := 128) (fun _ _ _ => lv_iadd hx hb d_X_decode_127) ?_
    refine bj_pi F 11 (by decide) (by decide) d_X_decode_128 q_54 rfl ?_
    exact gj_vret F d_X_decode_131 (Nat.le_refl _) (Nat.le_refl _) (by rw [deB_eq hq])
  · have hlt : t < 12 := nI_lt_of h17 (by omega)
    refine gj_ld (i := 4) (pc2 := 22) rfl (fun _ _ _ h9 => lv_iload hx hb d_X_decode_20 h9) ?_
    refine gj_if (pc2 := 101) (pc3 := 25) (fun _ _ _ => lv_if_eq (tgt := 101) hx hb d_X_decode_22 (by decide)) (fun h22 => ?_) (fun h22 => ?_)
    · have hq : dlS σ k b 12 = dlS σ k b t := by have := dlS_off (bN_0.mp h22) (12 - t); rwa [show t + (12 - t) = 12 by omega] at this
      refine gj_ld (i := 1) (pc2 := 102) rfl (fun _ _ _ h9 => lv_aload_n hx hb d_X_decode_101 rfl h9) ?_
      refine gj_ld (i := 3) (pc2 := 103) rfl (fun _ _ _ h9 => lv_iload_n hx hb d_X_decode_102 rfl h9) ?_
      refine gj_ld (i := 2) (pc2 := 104) rfl (fun _ _ _ h9 => lv_iload_n hx hb d_X_decode_103 rfl h9) ?_
      refine gj_l (pc2 := 105) (fun _ _ _ => lv_isub hx hb d_X_decode_104) ?_
      refine bj_bpN F _ 3 hk (by decide) (by decide) d_X_decode_105 (by decide +kernel) rfl ?_
      refine gj_ld (i := 0) (pc2 := 109) rfl (fun _ _ _ h9 => lv_aload_n hx hb d_X_decode_108 rfl h9) ?_
      refine gj_l (pc2 := 110) (fun _ _ _ => lv_dup hx hb d_X_decode_109 rfl) ?_
      refine bj_gi F 7 (by decide) (by decide) d_X_decode_110 q_50 rfl ?_
      refine gj_l (pc2 := 114) (fun _ _ _ => lv_iconst (v := 1) hx hb d_X_decode_113 (by decide)) ?_
      refine gj_l (pc2 := 115) (fun _ _ _ => lv_iadd hx hb d_X_decode_114) ?_
      refine bj_pi F 7 (by decide) (by decide) d_X_decode_115 q_50 rfl ?_
      refine gj_ld (i := 0) (pc2 := 119) rfl (fun _ _ _ h9 => lv_aload_n hx hb d_X_decode_118 rfl h9) ?_
      refine gj_l (pc2 := 120) (fun _ _ _ => lv_dup hx hb d_X_decode_119 rfl) ?_
      refine bj_gi F 11 (by decide) (by decide) d_X_decode_120 q_54 rfl ?_
      refine gj_ld (i := 1) (pc2 := 124) rfl (fun _ _ _ h9 => lv_aload_n hx hb d_X_decode_123 rfl h9) ?_
      refine bj_biN F _ 2 hk (by decide) (by decide) d_X_decode_124 (by decide +kernel) rfl ?_
      refine gj_l (pc2 := 128) (fun _ _ _ => lv_iadd hx hb d_X_decode_127) ?_
      refine bj_pi F 11 (by decide) (by decide) d_X_decode_128 q_54 rfl ?_
      exact gj_vret F d_X_decode_131 (Nat.le_refl _) (Nat.le_refl _) (by rw [deB_eq hq])
    · have hop := bN_n0.mp h22
      refine gj_ld (i := 0) (pc2 := 26) rfl (fun _ _ _ h9 => lv_aload_n hx hb d_X_decode_25 rfl h9) ?_
      refine gj_ld (i := 3) (pc2 := 27) rfl (fun _ _ _ h9 => lv_iload_n hx hb d_X_decode_26 rfl h9) ?_
      refine bj_vi F k_X_wordAt d_X_decode_27 q_258 (bw_at (i := 0) (by omega)) rfl (ct_X_wordAt _) (rmo rfl) rfl rfl (Nat.le_of_ble_eq_true rfl) (Nat.zero_le _) (Nat.zero_le _) rfl (fun r9 u9 e9 => ?_)
      obtain ⟨rfl, rfl⟩ := e9
      refine gj_st (i := 6) (pc2 := 32) (Nat.le_of_ble_eq_true rfl) rfl (fun _ _ _ _ _ h9 l9 => lv_istore hx hb d_X_decode_30 h9 (Nat.le_of_ble_eq_true rfl) l9) ?_
      refine gj_ld (i := 6) (pc2 := 34) rfl (fun _ _ _ h9 => lv_iload hx hb d_X_decode_32 h9) ?_
      refine gj_l (pc2 := 36) (fun _ _ _ => lv_bipush (v := (12)) hx hb d_X_decode_34 (by decide)) ?_
      refine gj_l (pc2 := 37) (fun _ _ _ => lv_ishr hx hb d_X_decode_36) ?_
      refine gj_st (i := 7) (pc2 := 39) (Nat.le_of_ble_eq_true rfl) rfl (fun _ _ _ _ _ h9 l9 => lv_istore hx hb d_X_decode_37 h9 (Nat.le_of_ble_eq_true rfl) l9) ?_
      refine gj_ld (i := 1) (pc2 := 40) rfl (fun _ _ _ h9 => lv_aload_n hx hb d_X_decode_39 rfl h9) ?_
      refine bj_bwN F _ hk d_X_decode_40 (by decide +kernel) rfl ?_
      refine gj_ld (i := 5) (pc2 := 45) rfl (fun _ _ _ h9 => lv_iload hx hb d_X_decode_43 h9) ?_
      refine gj_ld (i := 6) (pc2 := 47) rfl (fun _ _ _ h9 => lv_iload hx hb d_X_decode_45 h9) ?_
      refine bj_st F (5 + 2 * k) 12 t (by omega) (fun _ => bw_e_wrd k) (by decide) rfl hlt d_X_decode_47 rfl ?_
      refine gj_ld (i := 1) (pc2 := 49) rfl (fun _ _ _ h9 => lv_aload_n hx hb d_X_decode_48 rfl h9) ?_
      refine gj_l (pc2 := 50) (fun _ _ _ => lv_dup hx hb d_X_decode_49 rfl) ?_
      refine bj_biN F _ 2 hk (by decide) (by decide) d_X_decode_50 (by decide +kernel) rfl ?_
      refine gj_l (pc2 := 54) (fun _ _ _ => lv_iconst (v := 1) hx hb d_X_decode_53 (by decide)) ?_
      refine gj_l (pc2 := 55) (fun _ _ _ => lv_iadd hx hb d_X_decode_54) ?_
      refine bj_bpN F _ 2 hk (by decide) (by decide) d_X_decode_55 (by decide +kernel) rfl ?_
      refine gj_ld (i := 3) (pc2 := 59) rfl (fun _ _ _ h9 => lv_iload_n hx hb d_X_decode_58 rfl h9) ?_
      refine gj_ld (i := 7) (pc2 := 61) rfl (fun _ _ _ h9 => lv_iload hx hb d_X_decode_59 h9) ?_
      refine gj_l (pc2 := 63) (fun _ _ _ => lv_bipush (v := (16)) hx hb d_X_decode_61 (by decide)) ?_
      refine gj_if (pc2 := 73) (pc3 := 66) (fun _ _ _ => lv_icmp_ne (tgt := 73) hx hb d_X_decode_63 (by decide)) (fun h63 => ?_) (fun h63 => ?_)
      · refine gj_ld (i := 7) (pc2 := 75) rfl (fun _ _ _ h9 => lv_iload hx hb d_X_decode_73 h9) ?_
        refine bj_s F k_X_lengthOf d_X_decode_75 q_263 (ct_X_lengthOf _) (rmo rfl) rfl rfl (Nat.le_of_ble_eq_true rfl) (Nat.zero_le _) (Nat.zero_le _) rfl (fun r9 e9 => ?_)
        subst e9
        refine gj_l (pc2 := 79) (fun _ _ _ => lv_iadd hx hb d_X_decode_78) ?_
        refine gj_st (i := 3) (pc2 := 80) (Nat.le_of_ble_eq_true rfl) rfl (fun _ _ _ _ _ h9 l9 => lv_istore_n hx hb d_X_decode_79 rfl h9 (Nat.le_of_ble_eq_true rfl) l9) ?_
        refine gj_ld (i := 7) (pc2 := 82) rfl (fun _ _ _ h9 => lv_iload hx hb d_X_decode_80 h9) ?_
        refine bj_s F k_X_endsBlock d_X_decode_82 q_269 (ct_X_endsBlock _) (rmo rfl) rfl rfl (Nat.le_of_ble_eq_true rfl) (Nat.zero_le _) (Nat.zero_le _) rfl (fun r9 e9 => ?_)
        subst e9
        refine gj_if (pc2 := 92) (pc3 := 88) (fun _ _ _ => lv_if_ne (tgt := 92) hx hb d_X_decode_85 (by decide)) (fun h85 => ?_) (fun h85 => ?_)
        · have he : endO ((wdA (dlS σ k b t).1 (dlS σ k b t).2.1) >>> ((12 : Int32) &&& 31)) = true := bN_n0.mp h85
          refine gj_l (pc2 := 93) (fun _ _ _ => lv_iconst (v := 0) hx hb d_X_decode_92 (by decide)) ?_
          refine gj_st (i := 4) (pc2 := 95) (Nat.le_of_ble_eq_true rfl) rfl (fun _ _ _ _ _ h9 l9 => lv_istore hx hb d_X_decode_93 h9 (Nat.le_of_ble_eq_true rfl) l9) ?_
          refine gj_iinc (pc2 := 98) hx hb d_X_decode_95 (Nat.le_of_ble_eq_true rfl) rfl (nI_1 t) rfl ?_
          refine gj_l (pc2 := 13) (fun _ _ _ => lv_goto (tgt := 13) hx hb d_X_decode_98 (by decide)) ?_
          refine gj_eq (w2 := bw a cI cB 32 (dlS σ k b (t + 1)).1) (L2 := [.ref (a 0), .ref (a (4 + 2 * k)), .int b, .int (dlS σ k b (t + 1)).2.1, .int (bN (dlS σ k b (t + 1)).2.2), .int (nI (t + 1))] ++ [.int (wdA (dlS σ k b t).1 (dlS σ k b t).2.1), .int ((wdA (dlS σ k b t).1 (dlS σ k b t).2.1) >>> ((12 : Int32) &&& 31))]) (by rw [dlS_on hop]) (by rw [dlS_on hop]; simp only [if_neg h63, he]; rfl) rfl (gj_drop (ih hlt))
        · have he : endO ((wdA (dlS σ k b t).1 (dlS σ k b t).2.1) >>> ((12 : Int32) &&& 31)) = false := bN_0.mp h85
          refine gj_l (pc2 := 89) (fun _ _ _ => lv_iconst (v := 1) hx hb d_X_decode_88 (by decide)) ?_
          refine gj_l (pc2 := 93) (fun _ _ _ => lv_goto (tgt := 93) hx hb d_X_decode_89 (by decide)) ?_
          refine gj_st (i := 4) (pc2 := 95) (Nat.le_of_ble_eq_true rfl) rfl (fun _ _ _ _ _ h9 l9 => lv_istore hx hb d_X_decode_93 h9 (Nat.le_of_ble_eq_true rfl) l9) ?_
          refine gj_iinc (pc2 := 98) hx hb d_X_decode_95 (Nat.le_of_ble_eq_true rfl) rfl (nI_1 t) rfl ?_
          refine gj_l (pc2 := 13) (fun _ _ _ => lv_goto (tgt := 13) hx hb d_X_decode_98 (by decide)) ?_
          refine gj_eq (w2 := bw a cI cB 32 (dlS σ k b (t + 1)).1) (L2 := [.ref (a 0), .ref (a (4 + 2 * k)), .int b, .int (dlS σ k b (t + 1)).2.1, .int (bN (dlS σ k b (t + 1)).2.2), .int (nI (t + 1))] ++ [.int (wdA (dlS σ k b t).1 (dlS σ k b t).2.1), .int ((wdA (dlS σ k b t).1 (dlS σ k b t).2.1) >>> ((12 : Int32) &&& 31))]) (by rw [dlS_on hop]) (by rw [dlS_on hop]; simp only [if_neg h63, he]; rfl) rfl (gj_drop (ih hlt))
      · refine gj_ld (i := 3) (pc2 := 67) rfl (fun _ _ _ h9 => lv_iload_n hx hb d_X_decode_66 rfl h9) ?_
        refine bj_s F k_X_bytesOfOutside d_X_decode_67 q_266 (ct_X_bytesOfOutside _) (rmo rfl) rfl rfl (Nat.le_of_ble_eq_true rfl) (Nat.zero_le _) (Nat.zero_le _) rfl (fun r9 e9 => ?_)
        subst e9
        refine gj_l (pc2 := 78) (fun _ _ _ => lv_goto (tgt := 78) hx hb d_X_decode_70 (by decide)) ?_
        refine gj_l (pc2 := 79) (fun _ _ _ => lv_iadd hx hb d_X_decode_78) ?_
        refine gj_st (i := 3) (pc2 := 80) (Nat.le_of_ble_eq_true rfl) rfl (fun _ _ _ _ _ h9 l9 => lv_istore_n hx hb d_X_decode_79 rfl h9 (Nat.le_of_ble_eq_true rfl) l9) ?_
        refine gj_ld (i := 7) (pc2 := 82) rfl (fun _ _ _ h9 => lv_iload hx hb d_X_decode_80 h9) ?_
        refine bj_s F k_X_endsBlock d_X_decode_82 q_269 (ct_X_endsBlock _) (rmo rfl) rfl rfl (Nat.le_of_ble_eq_true rfl) (Nat.zero_le _) (Nat.zero_le _) rfl (fun r9 e9 => ?_)
        subst e9
        refine gj_if (pc2 := 92) (pc3 := 88) (fun _ _ _ => lv_if_ne (tgt := 92) hx hb d_X_decode_85 (by decide)) (fun h85 => ?_) (fun h85 => ?_)
        · have he : endO ((wdA (dlS σ k b t).1 (dlS σ k b t).2.1) >>> ((12 : Int32) &&& 31)) = true := bN_n0.mp h85
          refine gj_l (pc2 := 93) (fun _ _ _ => lv_iconst (v := 0) hx hb d_X_decode_92 (by decide)) ?_
          refine gj_st (i := 4) (pc2 := 95) (Nat.le_of_ble_eq_true rfl) rfl (fun _ _ _ _ _ h9 l9 => lv_istore hx hb d_X_decode_93 h9 (Nat.le_of_ble_eq_true rfl) l9) ?_
          refine gj_iinc (pc2 := 98) hx hb d_X_decode_95 (Nat.le_of_ble_eq_true rfl) rfl (nI_1 t) rfl ?_
          refine gj_l (pc2 := 13) (fun _ _ _ => lv_goto (tgt := 13) hx hb d_X_decode_98 (by decide)) ?_
          refine gj_eq (w2 := bw a cI cB 32 (dlS σ k b (t + 1)).1) (L2 := [.ref (a 0), .ref (a (4 + 2 * k)), .int b, .int (dlS σ k b (t + 1)).2.1, .int (bN (dlS σ k b (t + 1)).2.2), .int (nI (t + 1))] ++ [.int (wdA (dlS σ k b t).1 (dlS σ k b t).2.1), .int ((wdA (dlS σ k b t).1 (dlS σ k b t).2.1) >>> ((12 : Int32) &&& 31))]) (by rw [dlS_on hop]) (by rw [dlS_on hop]; simp only [if_pos h63, he]; rfl) rfl (gj_drop (ih hlt))
        · have he : endO ((wdA (dlS σ k b t).1 (dlS σ k b t).2.1) >>> ((12 : Int32) &&& 31)) = false := bN_0.mp h85
          refine gj_l (pc2 := 89) (fun _ _ _ => lv_iconst (v := 1) hx hb d_X_decode_88 (by decide)) ?_
          refine gj_l (pc2 := 93) (fun _ _ _ => lv_goto (tgt := 93) hx hb d_X_decode_89 (by decide)) ?_
          refine gj_st (i := 4) (pc2 := 95) (Nat.le_of_ble_eq_true rfl) rfl (fun _ _ _ _ _ h9 l9 => lv_istore hx hb d_X_decode_93 h9 (Nat.le_of_ble_eq_true rfl) l9) ?_
          refine gj_iinc (pc2 := 98) hx hb d_X_decode_95 (Nat.le_of_ble_eq_true rfl) rfl (nI_1 t) rfl ?_
          refine gj_l (pc2 := 13) (fun _ _ _ => lv_goto (tgt := 13) hx hb d_X_decode_98 (by decide)) ?_
          refine gj_eq (w2 := bw a cI cB 32 (dlS σ k b (t + 1)).1) (L2 := [.ref (a 0), .ref (a (4 + 2 * k)), .int b, .int (dlS σ k b (t + 1)).2.1, .int (bN (dlS σ k b (t + 1)).2.2), .int (nI (t + 1))] ++ [.int (wdA (dlS σ k b t).1 (dlS σ k b t).2.1), .int ((wdA (dlS σ k b t).1 (dlS σ k b t).2.1) >>> ((12 : Int32) &&& 31))]) (by rw [dlS_on hop]) (by rw [dlS_on hop]; simp only [if_pos h63, he]; rfl) rfl (gj_drop (ih hlt))

theorem k_X_blockAt : CKV y_X_blockAt c_X_blockAt 3 (some (.object "BlockRows$Block")) 1 := ⟨q_249, q_1, q_248, sl_X_blockAt, ⟨by decide +kernel, by decide +kernel, by decide +kernel⟩⟩
set_option maxHeartbeats 4000000 in
set_option maxRecDepth 100000 in
theorem ct_X_blockAt {l : Launch} {D : va_G} {cI cB cZ cJ : ClassId} {a : Nat → Nat} {σ : St} (x : Int32) : GCr l y_X_blockAt (Cond.code y_X_blockAt c_X_blockAt 3 (some (.object "BlockRows$Block")) :: tbW) ({ frames := 3, cells := 0, slots := 0, locals := 69 }) 0 0 D vCl (TY cI cB cZ cJ) [.ref (a 0), .int x] (bw a cI cB 32 σ) (fun r u => r = a (4 + 2 * kAt x) ∧ u = bw a cI cB 32 (blA σ x)) := by
  refine gc_body (Qc := gc_Qr D vCl (TY cI cB cZ cJ) (bw a cI cB 32 σ) (fun r u => r = a (4 + 2 * kAt x) ∧ u = bw a cI cB 32 (blA σ x))) (cc := c_X_blockAt) (maxL := 3) (ret := (some (.object "BlockRows$Block"))) (by decide) rfl (by simp [Value.category]) (Nat.le_of_ble_eq_true rfl) ?_
  intro p e s m args below meth c F
  have hx := F.1
  have hb := F.2.1
  refine gj_ld (i := 0) (pc2 := 1) rfl (fun _ _ _ h9 => lv_aload_n hx hb d_X_blockAt_0 rfl h9) ?_
  refine bj_gr F 2 (by decide) d_X_blockAt_1 q_45 rfl ?_
  refine gj_ld (i := 1) (pc2 := 5) rfl (fun _ _ _ h9 => lv_iload_n hx hb d_X_blockAt_4 rfl h9) ?_
  refine gj_l (pc2 := 7) (fun _ _ _ => lv_bipush (v := (31)) hx hb d_X_blockAt_5 (by decide)) ?_
  refine gj_l (pc2 := 8) (fun _ _ _ => lv_iand hx hb d_X_blockAt_7) ?_
  refine bj_blk F (kAt x) (kAt_eq x) (kAt_lt x) d_X_blockAt_8 rfl ?_
  refine gj_st (i := 2) (pc2 := 10) (Nat.le_of_ble_eq_true rfl) rfl (fun _ _ _ _ _ h9 l9 => lv_astore_n hx hb d_X_blockAt_9 rfl h9 (Nat.le_of_ble_eq_true rfl) l9) ?_
  refine gj_ld (i := 2) (pc2 := 11) rfl (fun _ _ _ h9 => lv_aload_n hx hb d_X_blockAt_10 rfl h9) ?_
  refine gj_ld (i := 1) (pc2 := 12) rfl (fun _ _ _ h9 => lv_iload_n hx hb d_X_blockAt_11 rfl h9) ?_
  refine bj_ni F k_B_beginsAt d_X_blockAt_12 (by decide +kernel) (bw_blk (kAt_lt x)) rfl (ct_B_beginsAt (kAt_lt x) _) (rmo rfl) rfl rfl (Nat.le_of_ble_eq_true rfl) (Nat.zero_le _) (Nat.zero_le _) rfl (fun r9 u9 e9 => ?_)
  obtain ⟨rfl, rfl⟩ := e9
  refine gj_if (pc2 := 31) (pc3 := 18) (fun _ _ _ => lv_if_eq (tgt := 31) hx hb d_X_blockAt_15 (by decide)) (fun h15 => ?_) (fun h15 => ?_)
  · refine gj_ld (i := 0) (pc2 := 32) rfl (fun _ _ _ h9 => lv_aload_n hx hb d_X_blockAt_31 rfl h9) ?_
    refine gj_ld (i := 2) (pc2 := 33) rfl (fun _ _ _ h9 => lv_aload_n hx hb d_X_blockAt_32 rfl h9) ?_
    refine gj_ld (i := 1) (pc2 := 34) rfl (fun _ _ _ h9 => lv_iload_n hx hb d_X_blockAt_33 rfl h9) ?_
    refine bj_vv F k_X_decode d_X_blockAt_34 q_254 (bw_at (i := 0) (by omega)) rfl (ct_X_decode (kAt_lt x) _) (rmo rfl) rfl rfl (Nat.le_of_ble_eq_true rfl) (Nat.zero_le _) (Nat.zero_le _) rfl (fun u9 e9 => ?_)
    subst e9
    refine gj_ld (i := 2) (pc2 := 38) rfl (fun _ _ _ h9 => lv_aload_n hx hb d_X_blockAt_37 rfl h9) ?_
    exact gj_aret F d_X_blockAt_38 (Nat.le_refl _) (Nat.le_refl _) ⟨rfl, by first | rw [blA, if_pos (bN_n0.mp h15)] | rw [blA, if_neg (by rw [bN_0.mp h15]; decide)]⟩
  · refine gj_ld (i := 0) (pc2 := 19) rfl (fun _ _ _ h9 => lv_aload_n hx hb d_X_blockAt_18 rfl h9) ?_
    refine gj_l (pc2 := 20) (fun _ _ _ => lv_dup hx hb d_X_blockAt_19 rfl) ?_
    refine bj_gi F 8 (by decide) (by decide) d_X_blockAt_20 q_51 rfl ?_
    refine gj_l (pc2 := 24) (fun _ _ _ => lv_iconst (v := 1) hx hb d_X_blockAt_23 (by decide)) ?_
    refine gj_l (pc2 := 25) (fun _ _ _ => lv_iadd hx hb d_X_blockAt_24) ?_
    refine bj_pi F 8 (by decide) (by decide) d_X_blockAt_25 q_51 rfl ?_
    refine gj_l (pc2 := 37) (fun _ _ _ => lv_goto (tgt := 37) hx hb d_X_blockAt_28 (by decide)) ?_
    refine gj_ld (i := 2) (pc2 := 38) rfl (fun _ _ _ h9 => lv_aload_n hx hb d_X_blockAt_37 rfl h9) ?_
    exact gj_aret F d_X_blockAt_38 (Nat.le_refl _) (Nat.le_refl _) ⟨rfl, by first | rw [blA, if_pos (bN_n0.mp h15)] | rw [blA, if_neg (by rw [bN_0.mp h15]; decide)]⟩
