theorem k_M_make : CKV y_M_make c_M_make 6 none 1 := ⟨q_438, q_3, q_437, sl_M_make, ⟨by decide +kernel, by decide +kernel, by decide +kernel⟩⟩
set_option maxHeartbeats 4000000 in
set_option maxRecDepth 100000 in
theorem ct_M_make {l : Launch} {D : va_G} {cI cB cZ cJ : ClassId} {a : Nat → Nat} {τ : St} {k : Nat} (hk : k < 32) : GCv l y_M_make (Cond.code y_M_make c_M_make 6 none :: tbW) ({ frames := 4, cells := 0, slots := 0, locals := 85 }) 0 0 D vCl (TY cI cB cZ cJ) [.ref (a 0), .int (nI k)] (mw a cI cZ τ) (fun u => u = mw a cI cZ (mkM τ k)) := by
  refine gc_body (Qc := gc_Qv D vCl (TY cI cB cZ cJ) (mw a cI cZ τ) (fun u => u = mw a cI cZ (mkM τ k))) (cc := c_M_make) (maxL := 6) (ret := none) (by decide) rfl (by simp [Value.category]) (Nat.le_of_ble_eq_true rfl) ?_
  intro p e s m args below meth c F
  have hx := F.1
  have hb := F.2.1
  refine gj_ld (i := 0) (pc2 := 1) rfl (fun _ _ _ h9 => lv_aload_n hx hb d_M_make_0 rfl h9) ?_
  refine mj_gi F 3 rfl d_M_make_1 q_333 rfl ?_
  refine gj_st (i := 2) (pc2 := 5) (Nat.le_of_ble_eq_true rfl) rfl (fun _ _ _ _ _ h9 l9 => lv_istore_n hx hb d_M_make_4 rfl h9 (Nat.le_of_ble_eq_true rfl) l9) ?_
  refine gj_l (pc2 := 6) (fun _ _ _ => lv_iconst (v := 0) hx hb d_M_make_5 (by decide)) ?_
  refine gj_st (i := 3) (pc2 := 7) (Nat.le_of_ble_eq_true rfl) rfl (fun _ _ _ _ _ h9 l9 => lv_istore_n hx hb d_M_make_6 rfl h9 (Nat.le_of_ble_eq_true rfl) l9) ?_
  refine gj_l (pc2 := 8) (fun _ _ _ => lv_iconst (v := 1) hx hb d_M_make_7 (by decide)) ?_
  refine gj_st (i := 4) (pc2 := 10) (Nat.le_of_ble_eq_true rfl) rfl (fun _ _ _ _ _ h9 l9 => lv_istore hx hb d_M_make_8 h9 (Nat.le_of_ble_eq_true rfl) l9) ?_
  refine gj_fuel (T := Nat) (fun _ => mw a cI cZ τ) (fun t => [.ref (a 0), .int (nI k), .int (mkT τ t).1, .int (nI t), .int (bN (mkT τ t).2.1)]) (fun f t => t + f = 12 ∧ (mkT τ t).2.2 = t) (fun f t hv ih => ?_) 12 0 ⟨rfl, rfl⟩
  obtain ⟨htf, ht2⟩ := hv
  refine gj_ld (i := 4) (pc2 := 12) rfl (fun _ _ _ h9 => lv_iload hx hb d_M_make_10 h9) ?_
  refine gj_if (pc2 := 78) (pc3 := 15) (fun _ _ _ => lv_if_eq (tgt := 78) hx hb d_M_make_12 (by decide)) (fun h12 => ?_) (fun h12 => ?_)
  · have hq : mkT τ 12 = mkT τ t := by have := mkT_off (bN_0.mp h12) (12 - t); rwa [show t + (12 - t) = 12 by omega] at this
    refine gj_ld (i := 0) (pc2 := 79) rfl (fun _ _ _ h9 => lv_aload_n hx hb d_M_make_78 rfl h9) ?_
    refine mj_gr F 7 rfl d_M_make_79 q_337 rfl ?_
    refine gj_ld (i := 1) (pc2 := 83) rfl (fun _ _ _ h9 => lv_iload_n hx hb d_M_make_82 rfl h9) ?_
    refine gj_l (pc2 := 84) (fun _ _ _ => lv_iconst (v := 1) hx hb d_M_make_83 (by decide)) ?_
    refine mj_zs F k rfl hk rfl d_M_make_84 rfl ?_
    refine gj_ld (i := 0) (pc2 := 86) rfl (fun _ _ _ h9 => lv_aload_n hx hb d_M_make_85 rfl h9) ?_
    refine mj_gr F 8 rfl d_M_make_86 q_338 rfl ?_
    refine gj_ld (i := 1) (pc2 := 90) rfl (fun _ _ _ h9 => lv_iload_n hx hb d_M_make_89 rfl h9) ?_
    refine gj_ld (i := 0) (pc2 := 91) rfl (fun _ _ _ h9 => lv_aload_n hx hb d_M_make_90 rfl h9) ?_
    refine mj_gi F 3 rfl d_M_make_91 q_333 rfl ?_
    refine mj_st F 4 32 k (by omega) (fun _ => rfl) (by decide) rfl hk d_M_make_94 rfl ?_
    refine gj_ld (i := 0) (pc2 := 96) rfl (fun _ _ _ h9 => lv_aload_n hx hb d_M_make_95 rfl h9) ?_
    refine mj_gr F 9 rfl d_M_make_96 q_339 rfl ?_
    refine gj_ld (i := 1) (pc2 := 100) rfl (fun _ _ _ h9 => lv_iload_n hx hb d_M_make_99 rfl h9) ?_
    refine gj_ld (i := 3) (pc2 := 101) rfl (fun _ _ _ h9 => lv_iload_n hx hb d_M_make_100 rfl h9) ?_
    refine mj_st F 5 32 k (by omega) (fun _ => rfl) (by decide) rfl hk d_M_make_101 rfl ?_
    refine gj_ld (i := 0) (pc2 := 103) rfl (fun _ _ _ h9 => lv_aload_n hx hb d_M_make_102 rfl h9) ?_
    refine mj_gr F 10 rfl d_M_make_103 q_340 rfl ?_
    refine gj_ld (i := 1) (pc2 := 107) rfl (fun _ _ _ h9 => lv_iload_n hx hb d_M_make_106 rfl h9) ?_
    refine gj_ld (i := 2) (pc2 := 108) rfl (fun _ _ _ h9 => lv_iload_n hx hb d_M_make_107 rfl h9) ?_
    refine gj_l (pc2 := 111) (fun _ _ _ => lv_sipush (v := (1024)) hx hb d_M_make_108 (by decide)) ?_
    refine gj_if (pc2 := 120) (pc3 := 114) (fun _ _ _ => lv_icmp_le (tgt := 120) hx hb d_M_make_111 (by decide)) (fun h111 => ?_) (fun h111 => ?_)
    · refine gj_ld (i := 2) (pc2 := 121) rfl (fun _ _ _ h9 => lv_iload_n hx hb d_M_make_120 rfl h9) ?_
      refine gj_ld (i := 0) (pc2 := 122) rfl (fun _ _ _ h9 => lv_aload_n hx hb d_M_make_121 rfl h9) ?_
      refine mj_gi F 3 rfl d_M_make_122 q_333 rfl ?_
      refine gj_l (pc2 := 126) (fun _ _ _ => lv_isub hx hb d_M_make_125) ?_
      refine mj_st F 6 32 k (by omega) (fun _ => rfl) (by decide) rfl hk d_M_make_126 rfl ?_
      refine gj_ld (i := 0) (pc2 := 128) rfl (fun _ _ _ h9 => lv_aload_n hx hb d_M_make_127 rfl h9) ?_
      refine mj_gi F 3 rfl d_M_make_128 q_333 rfl ?_
      refine bj_s F k_M_isThere d_M_make_131 q_397 (ct_M_isThere _) (rmo rfl) rfl rfl (Nat.le_of_ble_eq_true rfl) (Nat.zero_le _) (Nat.zero_le _) rfl (fun r9 e9 => ?_)
      subst e9
      refine gj_if (pc2 := 144) (pc3 := 137) (fun _ _ _ => lv_if_ne (tgt := 144) hx hb d_M_make_134 (by decide)) (fun h134 => ?_) (fun h134 => ?_)
      · refine gj_ld (i := 0) (pc2 := 145) rfl (fun _ _ _ h9 => lv_aload_n hx hb d_M_make_144 rfl h9) ?_
        refine gj_l (pc2 := 146) (fun _ _ _ => lv_dup hx hb d_M_make_145 rfl) ?_
        refine mj_gi F 14 rfl d_M_make_146 q_344 rfl ?_
        refine gj_l (pc2 := 150) (fun _ _ _ => lv_iconst (v := 1) hx hb d_M_make_149 (by decide)) ?_
        refine gj_l (pc2 := 151) (fun _ _ _ => lv_iadd hx hb d_M_make_150) ?_
        refine mj_pi F 14 rfl d_M_make_151 q_344 rfl ?_
        refine gj_ld (i := 0) (pc2 := 155) rfl (fun _ _ _ h9 => lv_aload_n hx hb d_M_make_154 rfl h9) ?_
        refine gj_l (pc2 := 156) (fun _ _ _ => lv_dup hx hb d_M_make_155 rfl) ?_
        refine mj_gi F 18 rfl d_M_make_156 q_348 rfl ?_
        refine gj_ld (i := 3) (pc2 := 160) rfl (fun _ _ _ h9 => lv_iload_n hx hb d_M_make_159 rfl h9) ?_
        refine gj_l (pc2 := 161) (fun _ _ _ => lv_iadd hx hb d_M_make_160) ?_
        refine mj_pi F 18 rfl d_M_make_161 q_348 rfl ?_
        exact gj_vret F d_M_make_164 (Nat.le_refl _) (Nat.le_refl _) (congrArg _ (mkM_1 hq ht2 h111 (bN_n0.mp h134)).symm)
      · refine gj_ld (i := 0) (pc2 := 138) rfl (fun _ _ _ h9 => lv_aload_n hx hb d_M_make_137 rfl h9) ?_
        refine mj_gr F 10 rfl d_M_make_138 q_340 rfl ?_
        refine gj_ld (i := 1) (pc2 := 142) rfl (fun _ _ _ h9 => lv_iload_n hx hb d_M_make_141 rfl h9) ?_
        refine gj_l (pc2 := 143) (fun _ _ _ => lv_iconst (v := 0) hx hb d_M_make_142 (by decide)) ?_
        refine mj_st F 6 32 k (by omega) (fun _ => rfl) (by decide) rfl hk d_M_make_143 rfl ?_
        refine gj_ld (i := 0) (pc2 := 145) rfl (fun _ _ _ h9 => lv_aload_n hx hb d_M_make_144 rfl h9) ?_
        refine gj_l (pc2 := 146) (fun _ _ _ => lv_dup hx hb d_M_make_145 rfl) ?_
        refine mj_gi F 14 rfl d_M_make_146 q_344 rfl ?_
        refine gj_l (pc2 := 150) (fun _ _ _ => lv_iconst (v := 1) hx hb d_M_make_149 (by decide)) ?_
        refine gj_l (pc2 := 151) (fun _ _ _ => lv_iadd hx hb d_M_make_150) ?_
        refine mj_pi F 14 rfl d_M_make_151 q_344 rfl ?_
        refine gj_ld (i := 0) (pc2 := 155) rfl (fun _ _ _ h9 => lv_aload_n hx hb d_M_make_154 rfl h9) ?_
        refine gj_l (pc2 := 156) (fun _ _ _ => lv_dup hx hb d_M_make_155 rfl) ?_
        refine mj_gi F 18 rfl d_M_make_156 q_348 rfl ?_
        refine gj_ld (i := 3) (pc2 := 160) rfl (fun _ _ _ h9 => lv_iload_n hx hb d_M_make_159 rfl h9) ?_
        refine gj_l (pc2 := 161) (fun _ _ _ => lv_iadd hx hb d_M_make_160) ?_
        refine mj_pi F 18 rfl d_M_make_161 q_348 rfl ?_
        exact gj_vret F d_M_make_164 (Nat.le_refl _) (Nat.le_refl _) (congrArg _ (mkM_3 hq ht2 h111 (bN_0.mp h134)).symm)
    · refine gj_l (pc2 := 117) (fun _ _ _ => lv_sipush (v := (1024)) hx hb d_M_make_114 (by decide)) ?_
      refine gj_l (pc2 := 121) (fun _ _ _ => lv_goto (tgt := 121) hx hb d_M_make_117 (by decide)) ?_
      refine gj_ld (i := 0) (pc2 := 122) rfl (fun _ _ _ h9 => lv_aload_n hx hb d_M_make_121 rfl h9) ?_
      refine mj_gi F 3 rfl d_M_make_122 q_333 rfl ?_
      refine gj_l (pc2 := 126) (fun _ _ _ => lv_isub hx hb d_M_make_125) ?_
      refine mj_st F 6 32 k (by omega) (fun _ => rfl) (by decide) rfl hk d_M_make_126 rfl ?_
      refine gj_ld (i := 0) (pc2 := 128) rfl (fun _ _ _ h9 => lv_aload_n hx hb d_M_make_127 rfl h9) ?_
      refine mj_gi F 3 rfl d_M_make_128 q_333 rfl ?_
      refine bj_s F k_M_isThere d_M_make_131 q_397 (ct_M_isThere _) (rmo rfl) rfl rfl (Nat.le_of_ble_eq_true rfl) (Nat.zero_le _) (Nat.zero_le _) rfl (fun r9 e9 => ?_)
      subst e9
      refine gj_if (pc2 := 144) (pc3 := 137) (fun _ _ _ => lv_if_ne (tgt := 144) hx hb d_M_make_134 (by decide)) (fun h134 => ?_) (fun h134 => ?_)
      · refine gj_ld (i := 0) (pc2 := 145) rfl (fun _ _ _ h9 => lv_aload_n hx hb d_M_make_144 rfl h9) ?_
        refine gj_l (pc2 := 146) (fun _ _ _ => lv_dup hx hb d_M_make_145 rfl) ?_
        refine mj_gi F 14 rfl d_M_make_146 q_344 rfl ?_
        refine gj_l (pc2 := 150) (fun _ _ _ => lv_iconst (v := 1) hx hb d_M_make_149 (by decide)) ?_
        refine gj_l (pc2 := 151) (fun _ _ _ => lv_iadd hx hb d_M_make_150) ?_
        refine mj_pi F 14 rfl d_M_make_151 q_344 rfl ?_
        refine gj_ld (i := 0) (pc2 := 155) rfl (fun _ _ _ h9 => lv_aload_n hx hb d_M_make_154 rfl h9) ?_
        refine gj_l (pc2 := 156) (fun _ _ _ => lv_dup hx hb d_M_make_155 rfl) ?_
        refine mj_gi F 18 rfl d_M_make_156 q_348 rfl ?_
        refine gj_ld (i := 3) (pc2 := 160) rfl (fun _ _ _ h9 => lv_iload_n hx hb d_M_make_159 rfl h9) ?_
        refine gj_l (pc2 := 161) (fun _ _ _ => lv_iadd hx hb d_M_make_160) ?_
        refine mj_pi F 18 rfl d_M_make_161 q_348 rfl ?_
        exact gj_vret F d_M_make_164 (Nat.le_refl _) (Nat.le_refl _) (congrArg _ (mkM_2 hq ht2 h111 (bN_n0.mp h134)).symm)
      · refine gj_ld (i := 0) (pc2 := 138) rfl (fun _ _ _ h9 => lv_aload_n hx hb d_M_make_137 rfl h9) ?_
        refine mj_gr F 10 rfl d_M_make_138 q_340 rfl ?_
        refine gj_ld (i := 1) (pc2 := 142) rfl (fun _ _ _ h9 => lv_iload_n hx hb d_M_make_141 rfl h9) ?_
        refine gj_l (pc2 := 143) (fun _ _ _ => lv_iconst (v := 0) hx hb d_M_make_142 (by decide)) ?_
        refine mj_st F 6 32 k (by omega) (fun _ => rfl) (by decide) rfl hk d_M_make_143 rfl ?_
        refine gj_ld (i := 0) (pc2 := 145) rfl (fun _ _ _ h9 => lv_aload_n hx hb d_M_make_144 rfl h9) ?_
        refine gj_l (pc2 := 146) (fun _ _ _ => lv_dup hx hb d_M_make_145 rfl) ?_
        refine mj_gi F 14 rfl d_M_make_146 q_344 rfl ?_
        refine gj_l (pc2 := 150) (fun _ _ _ => lv_iconst (v := 1) hx hb d_M_make_149 (by decide)) ?_
        refine gj_l (pc2 := 151) (fun _ _ _ => lv_iadd hx hb d_M_make_150) ?_
        refine mj_pi F 14 rfl d_M_make_151 q_344 rfl ?_
        refine gj_ld (i := 0) (pc2 := 155) rfl (fun _ _ _ h9 => lv_aload_n hx hb d_M_make_154 rfl h9) ?_
        refine gj_l (pc2 := 156) (fun _ _ _ => lv_dup hx hb d_M_make_155 rfl) ?_
        refine mj_gi F 18 rfl d_M_make_156 q_348 rfl ?_
        refine gj_ld (i := 3) (pc2 := 160) rfl (fun _ _ _ h9 => lv_iload_n hx hb d_M_make_159 rfl h9) ?_
        refine gj_l (pc2 := 161) (fun _ _ _ => lv_iadd hx hb d_M_make_160) ?_
        refine mj_pi F 18 rfl d_M_make_161 q_348 rfl ?_
        exact gj_vret F d_M_make_164 (Nat.le_refl _) (Nat.le_refl _) (congrArg _ (mkM_4 hq ht2 h111 (bN_0.mp h134)).symm)
  · have hop := bN_n0.mp h12
    have htl : t < 12 := by
      rcases Nat.lt_or_ge t 12 with z | z
      · exact z
      · exfalso
        have h12t : t = 12 := by omega
        subst h12t
        exact absurd hop (by rw [mk_12 ht2]; decide)
    obtain ⟨g, rfl⟩ : ∃ g, f = g + 1 := ⟨f - 1, by omega⟩
    refine gj_iinc (pc2 := 18) hx hb d_M_make_15 (Nat.le_of_ble_eq_true rfl) rfl (nI_1 t) rfl ?_
    refine gj_ld (i := 0) (pc2 := 19) rfl (fun _ _ _ h9 => lv_aload_n hx hb d_M_make_18 rfl h9) ?_
    refine gj_ld (i := 2) (pc2 := 20) rfl (fun _ _ _ h9 => lv_iload_n hx hb d_M_make_19 rfl h9) ?_
    refine bj_vi F k_M_kindAt d_M_make_20 q_439 (mw_at (i := 0) (by omega)) rfl (ct_M_kindAt _) (rmo rfl) rfl rfl (Nat.le_of_ble_eq_true rfl) (Nat.zero_le _) (Nat.zero_le _) rfl (fun r9 u9 e9 => ?_)
    obtain ⟨rfl, rfl⟩ := e9
    refine gj_st (i := 5) (pc2 := 25) (Nat.le_of_ble_eq_true rfl) rfl (fun _ _ _ _ _ h9 l9 => lv_istore hx hb d_M_make_23 h9 (Nat.le_of_ble_eq_true rfl) l9) ?_
    refine gj_ld (i := 3) (pc2 := 26) rfl (fun _ _ _ h9 => lv_iload_n hx hb d_M_make_25 rfl h9) ?_
    refine gj_l (pc2 := 28) (fun _ _ _ => lv_bipush (v := (12)) hx hb d_M_make_26 (by decide)) ?_
    refine gj_if (pc2 := 55) (pc3 := 31) (fun _ _ _ => lv_icmp_ge (tgt := 55) hx hb d_M_make_28 (by decide)) (fun h28 => ?_) (fun h28 => ?_)
    · have hn12 : 12 ≤ t + 1 := nI_ge_of h28 (by omega) (by omega)
      refine gj_l (pc2 := 56) (fun _ _ _ => lv_iconst (v := 0) hx hb d_M_make_55 (by decide)) ?_
      refine gj_st (i := 4) (pc2 := 58) (Nat.le_of_ble_eq_true rfl) rfl (fun _ _ _ _ _ h9 l9 => lv_istore hx hb d_M_make_56 h9 (Nat.le_of_ble_eq_true rfl) l9) ?_
      refine gj_ld (i := 2) (pc2 := 59) rfl (fun _ _ _ h9 => lv_iload_n hx hb d_M_make_58 rfl h9) ?_
      refine gj_ld (i := 5) (pc2 := 61) rfl (fun _ _ _ h9 => lv_iload hx hb d_M_make_59 h9) ?_
      refine gj_if (pc2 := 68) (pc3 := 64) (fun _ _ _ => lv_if_ge (tgt := 68) hx hb d_M_make_61 (by decide)) (fun h61 => ?_) (fun h61 => ?_)
      · refine gj_ld (i := 5) (pc2 := 70) rfl (fun _ _ _ h9 => lv_iload hx hb d_M_make_68 h9) ?_
        refine bj_s F k_M_sizeOf d_M_make_70 q_447 (ct_M_sizeOf _) (rmo rfl) rfl rfl (Nat.le_of_ble_eq_true rfl) (Nat.zero_le _) (Nat.zero_le _) rfl (fun r9 e9 => ?_)
        subst e9
        refine gj_l (pc2 := 74) (fun _ _ _ => lv_iadd hx hb d_M_make_73) ?_
        refine gj_st (i := 2) (pc2 := 75) (Nat.le_of_ble_eq_true rfl) rfl (fun _ _ _ _ _ h9 l9 => lv_istore_n hx hb d_M_make_74 rfl h9 (Nat.le_of_ble_eq_true rfl) l9) ?_
        refine gj_l (pc2 := 10) (fun _ _ _ => lv_goto (tgt := 10) hx hb d_M_make_75 (by decide)) ?_
        refine gj_eq (L2 := [.ref (a 0), .int (nI k), .int (mkT τ (t + 1)).1, .int (nI (t + 1)), .int (bN (mkT τ (t + 1)).2.1)] ++ [.int (kdM τ (mkT τ t).1)]) rfl (by rw [mkT_on hop, ht2]; simp [bN, hn12, h61]; rfl) rfl (gj_drop (ih g (t + 1) rfl ⟨by omega, by rw [mkT_on hop, ht2]⟩))
      · refine gj_l (pc2 := 65) (fun _ _ _ => lv_iconst (v := 0) hx hb d_M_make_64 (by decide)) ?_
        refine gj_l (pc2 := 73) (fun _ _ _ => lv_goto (tgt := 73) hx hb d_M_make_65 (by decide)) ?_
        refine gj_l (pc2 := 74) (fun _ _ _ => lv_iadd hx hb d_M_make_73) ?_
        refine gj_st (i := 2) (pc2 := 75) (Nat.le_of_ble_eq_true rfl) rfl (fun _ _ _ _ _ h9 l9 => lv_istore_n hx hb d_M_make_74 rfl h9 (Nat.le_of_ble_eq_true rfl) l9) ?_
        refine gj_l (pc2 := 10) (fun _ _ _ => lv_goto (tgt := 10) hx hb d_M_make_75 (by decide)) ?_
        refine gj_eq (L2 := [.ref (a 0), .int (nI k), .int (mkT τ (t + 1)).1, .int (nI (t + 1)), .int (bN (mkT τ (t + 1)).2.1)] ++ [.int (kdM τ (mkT τ t).1)]) rfl (by rw [mkT_on hop, ht2]; simp [bN, hn12, h61]; rfl) rfl (gj_drop (ih g (t + 1) rfl ⟨by omega, by rw [mkT_on hop, ht2]⟩))
    · have hn12 : ¬ 12 ≤ t + 1 := by have := nI_lt_of (N := 12) h28 (by omega); omega
      refine gj_ld (i := 5) (pc2 := 33) rfl (fun _ _ _ h9 => lv_iload hx hb d_M_make_31 h9) ?_
      refine gj_if (pc2 := 55) (pc3 := 36) (fun _ _ _ => lv_if_eq (tgt := 55) hx hb d_M_make_33 (by decide)) (fun h33 => ?_) (fun h33 => ?_)
      · refine gj_l (pc2 := 56) (fun _ _ _ => lv_iconst (v := 0) hx hb d_M_make_55 (by decide)) ?_
        refine gj_st (i := 4) (pc2 := 58) (Nat.le_of_ble_eq_true rfl) rfl (fun _ _ _ _ _ h9 l9 => lv_istore hx hb d_M_make_56 h9 (Nat.le_of_ble_eq_true rfl) l9) ?_
        refine gj_ld (i := 2) (pc2 := 59) rfl (fun _ _ _ h9 => lv_iload_n hx hb d_M_make_58 rfl h9) ?_
        refine gj_ld (i := 5) (pc2 := 61) rfl (fun _ _ _ h9 => lv_iload hx hb d_M_make_59 h9) ?_
        refine gj_if (pc2 := 68) (pc3 := 64) (fun _ _ _ => lv_if_ge (tgt := 68) hx hb d_M_make_61 (by decide)) (fun h61 => ?_) (fun h61 => ?_)
        · refine gj_ld (i := 5) (pc2 := 70) rfl (fun _ _ _ h9 => lv_iload hx hb d_M_make_68 h9) ?_
          refine bj_s F k_M_sizeOf d_M_make_70 q_447 (ct_M_sizeOf _) (rmo rfl) rfl rfl (Nat.le_of_ble_eq_true rfl) (Nat.zero_le _) (Nat.zero_le _) rfl (fun r9 e9 => ?_)
          subst e9
          refine gj_l (pc2 := 74) (fun _ _ _ => lv_iadd hx hb d_M_make_73) ?_
          refine gj_st (i := 2) (pc2 := 75) (Nat.le_of_ble_eq_true rfl) rfl (fun _ _ _ _ _ h9 l9 => lv_istore_n hx hb d_M_make_74 rfl h9 (Nat.le_of_ble_eq_true rfl) l9) ?_
          refine gj_l (pc2 := 10) (fun _ _ _ => lv_goto (tgt := 10) hx hb d_M_make_75 (by decide)) ?_
          refine gj_eq (L2 := [.ref (a 0), .int (nI k), .int (mkT τ (t + 1)).1, .int (nI (t + 1)), .int (bN (mkT τ (t + 1)).2.1)] ++ [.int (kdM τ (mkT τ t).1)]) rfl (by rw [mkT_on hop, ht2]; simp [bN, hn12, h33, h61]; rfl) rfl (gj_drop (ih g (t + 1) rfl ⟨by omega, by rw [mkT_on hop, ht2]⟩))
        · refine gj_l (pc2 := 65) (fun _ _ _ => lv_iconst (v := 0) hx hb d_M_make_64 (by decide)) ?_
          refine gj_l (pc2 := 73) (fun _ _ _ => lv_goto (tgt := 73) hx hb d_M_make_65 (by decide)) ?_
          refine gj_l (pc2 := 74) (fun _ _ _ => lv_iadd hx hb d_M_make_73) ?_
          refine gj_st (i := 2) (pc2 := 75) (Nat.le_of_ble_eq_true rfl) rfl (fun _ _ _ _ _ h9 l9 => lv_istore_n hx hb d_M_make_74 rfl h9 (Nat.le_of_ble_eq_true rfl) l9) ?_
          exact absurd (by rw [h33]; decide) h61
      · refine gj_ld (i := 5) (pc2 := 38) rfl (fun _ _ _ h9 => lv_iload hx hb d_M_make_36 h9) ?_
        refine gj_l (pc2 := 40) (fun _ _ _ => lv_bipush (v := (7)) hx hb d_M_make_38 (by decide)) ?_
        refine gj_if (pc2 := 55) (pc3 := 43) (fun _ _ _ => lv_icmp_eq (tgt := 55) hx hb d_M_make_40 (by decide)) (fun h40 => ?_) (fun h40 => ?_)
        · refine gj_l (pc2 := 56) (fun _ _ _ => lv_iconst (v := 0) hx hb d_M_make_55 (by decide)) ?_
          refine gj_st (i := 4) (pc2 := 58) (Nat.le_of_ble_eq_true rfl) rfl (fun _ _ _ _ _ h9 l9 => lv_istore hx hb d_M_make_56 h9 (Nat.le_of_ble_eq_true rfl) l9) ?_
          refine gj_ld (i := 2) (pc2 := 59) rfl (fun _ _ _ h9 => lv_iload_n hx hb d_M_make_58 rfl h9) ?_
          refine gj_ld (i := 5) (pc2 := 61) rfl (fun _ _ _ h9 => lv_iload hx hb d_M_make_59 h9) ?_
          refine gj_if (pc2 := 68) (pc3 := 64) (fun _ _ _ => lv_if_ge (tgt := 68) hx hb d_M_make_61 (by decide)) (fun h61 => ?_) (fun h61 => ?_)
          · refine gj_ld (i := 5) (pc2 := 70) rfl (fun _ _ _ h9 => lv_iload hx hb d_M_make_68 h9) ?_
            refine bj_s F k_M_sizeOf d_M_make_70 q_447 (ct_M_sizeOf _) (rmo rfl) rfl rfl (Nat.le_of_ble_eq_true rfl) (Nat.zero_le _) (Nat.zero_le _) rfl (fun r9 e9 => ?_)
            subst e9
            refine gj_l (pc2 := 74) (fun _ _ _ => lv_iadd hx hb d_M_make_73) ?_
            refine gj_st (i := 2) (pc2 := 75) (Nat.le_of_ble_eq_true rfl) rfl (fun _ _ _ _ _ h9 l9 => lv_istore_n hx hb d_M_make_74 rfl h9 (Nat.le_of_ble_eq_true rfl) l9) ?_
            refine gj_l (pc2 := 10) (fun _ _ _ => lv_goto (tgt := 10) hx hb d_M_make_75 (by decide)) ?_
            refine gj_eq (L2 := [.ref (a 0), .int (nI k), .int (mkT τ (t + 1)).1, .int (nI (t + 1)), .int (bN (mkT τ (t + 1)).2.1)] ++ [.int (kdM τ (mkT τ t).1)]) rfl (by rw [mkT_on hop, ht2]; simp [bN, hn12, h33, h40, h61]; rfl) rfl (gj_drop (ih g (t + 1) rfl ⟨by omega, by rw [mkT_on hop, ht2]⟩))
          · refine gj_l (pc2 := 65) (fun _ _ _ => lv_iconst (v := 0) hx hb d_M_make_64 (by decide)) ?_
            refine gj_l (pc2 := 73) (fun _ _ _ => lv_goto (tgt := 73) hx hb d_M_make_65 (by decide)) ?_
            refine gj_l (pc2 := 74) (fun _ _ _ => lv_iadd hx hb d_M_make_73) ?_
            refine gj_st (i := 2) (pc2 := 75) (Nat.le_of_ble_eq_true rfl) rfl (fun _ _ _ _ _ h9 l9 => lv_istore_n hx hb d_M_make_74 rfl h9 (Nat.le_of_ble_eq_true rfl) l9) ?_
            exact absurd (by rw [h40]; decide) h61
        · refine gj_ld (i := 0) (pc2 := 44) rfl (fun _ _ _ h9 => lv_aload_n hx hb d_M_make_43 rfl h9) ?_
          refine gj_ld (i := 2) (pc2 := 45) rfl (fun _ _ _ h9 => lv_iload_n hx hb d_M_make_44 rfl h9) ?_
          refine bj_vi F k_M_faultAt d_M_make_45 q_443 (mw_at (i := 0) (by omega)) rfl (ct_M_faultAt _) (rmo rfl) rfl rfl (Nat.le_of_ble_eq_true rfl) (Nat.zero_le _) (Nat.zero_le _) rfl (fun r9 u9 e9 => ?_)
          obtain ⟨rfl, rfl⟩ := e9
          refine gj_if (pc2 := 55) (pc3 := 51) (fun _ _ _ => lv_if_ne (tgt := 55) hx hb d_M_make_48 (by decide)) (fun h48 => ?_) (fun h48 => ?_)
          · refine gj_l (pc2 := 56) (fun _ _ _ => lv_iconst (v := 0) hx hb d_M_make_55 (by decide)) ?_
            refine gj_st (i := 4) (pc2 := 58) (Nat.le_of_ble_eq_true rfl) rfl (fun _ _ _ _ _ h9 l9 => lv_istore hx hb d_M_make_56 h9 (Nat.le_of_ble_eq_true rfl) l9) ?_
            refine gj_ld (i := 2) (pc2 := 59) rfl (fun _ _ _ h9 => lv_iload_n hx hb d_M_make_58 rfl h9) ?_
            refine gj_ld (i := 5) (pc2 := 61) rfl (fun _ _ _ h9 => lv_iload hx hb d_M_make_59 h9) ?_
            refine gj_if (pc2 := 68) (pc3 := 64) (fun _ _ _ => lv_if_ge (tgt := 68) hx hb d_M_make_61 (by decide)) (fun h61 => ?_) (fun h61 => ?_)
            · refine gj_ld (i := 5) (pc2 := 70) rfl (fun _ _ _ h9 => lv_iload hx hb d_M_make_68 h9) ?_
              refine bj_s F k_M_sizeOf d_M_make_70 q_447 (ct_M_sizeOf _) (rmo rfl) rfl rfl (Nat.le_of_ble_eq_true rfl) (Nat.zero_le _) (Nat.zero_le _) rfl (fun r9 e9 => ?_)
              subst e9
              refine gj_l (pc2 := 74) (fun _ _ _ => lv_iadd hx hb d_M_make_73) ?_
              refine gj_st (i := 2) (pc2 := 75) (Nat.le_of_ble_eq_true rfl) rfl (fun _ _ _ _ _ h9 l9 => lv_istore_n hx hb d_M_make_74 rfl h9 (Nat.le_of_ble_eq_true rfl) l9) ?_
              refine gj_l (pc2 := 10) (fun _ _ _ => lv_goto (tgt := 10) hx hb d_M_make_75 (by decide)) ?_
              refine gj_eq (L2 := [.ref (a 0), .int (nI k), .int (mkT τ (t + 1)).1, .int (nI (t + 1)), .int (bN (mkT τ (t + 1)).2.1)] ++ [.int (kdM τ (mkT τ t).1)]) rfl (by rw [mkT_on hop, ht2]; simp [bN, hn12, h33, h40, h48, h61]; rfl) rfl (gj_drop (ih g (t + 1) rfl ⟨by omega, by rw [mkT_on hop, ht2]⟩))
            · refine gj_l (pc2 := 65) (fun _ _ _ => lv_iconst (v := 0) hx hb d_M_make_64 (by decide)) ?_
              refine gj_l (pc2 := 73) (fun _ _ _ => lv_goto (tgt := 73) hx hb d_M_make_65 (by decide)) ?_
              refine gj_l (pc2 := 74) (fun _ _ _ => lv_iadd hx hb d_M_make_73) ?_
              refine gj_st (i := 2) (pc2 := 75) (Nat.le_of_ble_eq_true rfl) rfl (fun _ _ _ _ _ h9 l9 => lv_istore_n hx hb d_M_make_74 rfl h9 (Nat.le_of_ble_eq_true rfl) l9) ?_
              refine gj_l (pc2 := 10) (fun _ _ _ => lv_goto (tgt := 10) hx hb d_M_make_75 (by decide)) ?_
              refine gj_eq (L2 := [.ref (a 0), .int (nI k), .int (mkT τ (t + 1)).1, .int (nI (t + 1)), .int (bN (mkT τ (t + 1)).2.1)] ++ [.int (kdM τ (mkT τ t).1)]) rfl (by rw [mkT_on hop, ht2]; simp [bN, hn12, h33, h40, h48, h61]; rfl) rfl (gj_drop (ih g (t + 1) rfl ⟨by omega, by rw [mkT_on hop, ht2]⟩))
          · refine gj_l (pc2 := 52) (fun _ _ _ => lv_iconst (v := 1) hx hb d_M_make_51 (by decide)) ?_
            refine gj_l (pc2 := 56) (fun _ _ _ => lv_goto (tgt := 56) hx hb d_M_make_52 (by decide)) ?_
            refine gj_st (i := 4) (pc2 := 58) (Nat.le_of_ble_eq_true rfl) rfl (fun _ _ _ _ _ h9 l9 => lv_istore hx hb d_M_make_56 h9 (Nat.le_of_ble_eq_true rfl) l9) ?_
            refine gj_ld (i := 2) (pc2 := 59) rfl (fun _ _ _ h9 => lv_iload_n hx hb d_M_make_58 rfl h9) ?_
            refine gj_ld (i := 5) (pc2 := 61) rfl (fun _ _ _ h9 => lv_iload hx hb d_M_make_59 h9) ?_
            refine gj_if (pc2 := 68) (pc3 := 64) (fun _ _ _ => lv_if_ge (tgt := 68) hx hb d_M_make_61 (by decide)) (fun h61 => ?_) (fun h61 => ?_)
            · refine gj_ld (i := 5) (pc2 := 70) rfl (fun _ _ _ h9 => lv_iload hx hb d_M_make_68 h9) ?_
              refine bj_s F k_M_sizeOf d_M_make_70 q_447 (ct_M_sizeOf _) (rmo rfl) rfl rfl (Nat.le_of_ble_eq_true rfl) (Nat.zero_le _) (Nat.zero_le _) rfl (fun r9 e9 => ?_)
              subst e9
              refine gj_l (pc2 := 74) (fun _ _ _ => lv_iadd hx hb d_M_make_73) ?_
              refine gj_st (i := 2) (pc2 := 75) (Nat.le_of_ble_eq_true rfl) rfl (fun _ _ _ _ _ h9 l9 => lv_istore_n hx hb d_M_make_74 rfl h9 (Nat.le_of_ble_eq_true rfl) l9) ?_
              refine gj_l (pc2 := 10) (fun _ _ _ => lv_goto (tgt := 10) hx hb d_M_make_75 (by decide)) ?_
              refine gj_eq (L2 := [.ref (a 0), .int (nI k), .int (mkT τ (t + 1)).1, .int (nI (t + 1)), .int (bN (mkT τ (t + 1)).2.1)] ++ [.int (kdM τ (mkT τ t).1)]) rfl (by rw [mkT_on hop, ht2]; simp [bN, hn12, h33, h40, h48, h61]; rfl) rfl (gj_drop (ih g (t + 1) rfl ⟨by omega, by rw [mkT_on hop, ht2]⟩))
            · refine gj_l (pc2 := 65) (fun _ _ _ => lv_iconst (v := 0) hx hb d_M_make_64 (by decide)) ?_
              refine gj_l (pc2 := 73) (fun _ _ _ => lv_goto (tgt := 73) hx hb d_M_make_65 (by decide)) ?_
              refine gj_l (pc2 := 74) (fun _ _ _ => lv_iadd hx hb d_M_make_73) ?_
              refine gj_st (i := 2) (pc2 := 75) (Nat.le_of_ble_eq_true rfl) rfl (fun _ _ _ _ _ h9 l9 => lv_istore_n hx hb d_M_make_74 rfl h9 (Nat.le_of_ble_eq_true rfl) l9) ?_
              refine gj_l (pc2 := 10) (fun _ _ _ => lv_goto (tgt := 10) hx hb d_M_make_75 (by decide)) ?_
              refine gj_eq (L2 := [.ref (a 0), .int (nI k), .int (mkT τ (t + 1)).1, .int (nI (t + 1)), .int (bN (mkT τ (t + 1)).2.1)] ++ [.int (kdM τ (mkT τ t).1)]) rfl (by rw [mkT_on hop, ht2]; simp [bN, hn12, h33, h40, h48, h61]; rfl) rfl (gj_drop (ih g (t + 1) rfl ⟨by omega, by rw [mkT_on hop, ht2]⟩))

theorem k_M_find : CKV y_M_find c_M_find 1 none 0 := ⟨q_434, q_3, q_433, sl_M_find, ⟨by decide +kernel, by decide +kernel, by decide +kernel⟩⟩
set_option maxHeartbeats 4000000 in
set_option maxRecDepth 100000 in
theorem ct_M_find {l : Launch} {D : va_G} {cI cB cZ cJ : ClassId} {a : Nat → Nat} {τ : St}  : GCv l y_M_find (Cond.code y_M_find c_M_find 1 none :: tbW) ({ frames := 5, cells := 0, slots := 0, locals := 110 }) 0 0 D vCl (TY cI cB cZ cJ) [.ref (a 0)] (mw a cI cZ τ) (fun u => u = mw a cI cZ (fiM τ)) := by
  refine gc_body (Qc := gc_Qv D vCl (TY cI cB cZ cJ) (mw a cI cZ τ) (fun u => u = mw a cI cZ (fiM τ))) (cc := c_M_find) (maxL := 1) (ret := none) (by decide) rfl (by simp [Value.category]) (Nat.le_of_ble_eq_true rfl) ?_
  intro p e s m args below meth c F
  have hx := F.1
  have hb := F.2.1
  refine gj_ld (i := 0) (pc2 := 1) rfl (fun _ _ _ h9 => lv_aload_n hx hb d_M_find_0 rfl h9) ?_
  refine gj_ld (i := 0) (pc2 := 2) rfl (fun _ _ _ h9 => lv_aload_n hx hb d_M_find_1 rfl h9) ?_
  refine mj_gi F 3 rfl d_M_find_2 q_333 rfl ?_
  refine gj_l (pc2 := 7) (fun _ _ _ => lv_bipush (v := (31)) hx hb d_M_find_5 (by decide)) ?_
  refine gj_l (pc2 := 8) (fun _ _ _ => lv_iand hx hb d_M_find_7) ?_
  refine mj_pi F 11 rfl d_M_find_8 q_341 rfl ?_
  refine gj_ld (i := 0) (pc2 := 12) rfl (fun _ _ _ h9 => lv_aload_n hx hb d_M_find_11 rfl h9) ?_
  refine mj_gr F 7 rfl d_M_find_12 q_337 rfl ?_
  refine gj_ld (i := 0) (pc2 := 16) rfl (fun _ _ _ h9 => lv_aload_n hx hb d_M_find_15 rfl h9) ?_
  refine mj_gi F 11 rfl d_M_find_16 q_341 rfl ?_
  refine mj_zl F (kAt (τ 0 3)) (by rw [s2_at]; exact kAt_eq _) (kAt_lt _) d_M_find_19 rfl ?_
  refine gj_if (pc2 := 52) (pc3 := 23) (fun _ _ _ => lv_if_eq (tgt := 52) hx hb d_M_find_20 (by decide)) (fun h20 => ?_) (fun h20 => ?_)
  · refine gj_ld (i := 0) (pc2 := 53) rfl (fun _ _ _ h9 => lv_aload_n hx hb d_M_find_52 rfl h9) ?_
    refine gj_ld (i := 0) (pc2 := 54) rfl (fun _ _ _ h9 => lv_aload_n hx hb d_M_find_53 rfl h9) ?_
    refine mj_gi F 11 rfl d_M_find_54 q_341 rfl ?_
    refine gj_eq (st3 := [.int (nI (kAt (τ 0 3))), .ref (a 0)]) rfl rfl (by rw [s2_at, kAt_eq]) ?_
    refine bj_vv F k_M_make d_M_find_57 q_435 (mw_at (i := 0) (by omega)) rfl (ct_M_make (τ := fi1 τ) (kAt_lt _)) (rmo rfl) rfl rfl (Nat.le_of_ble_eq_true rfl) (Nat.zero_le _) (Nat.zero_le _) rfl (fun u9 e9 => ?_)
    subst e9
    exact gj_vret F d_M_find_60 (Nat.le_refl _) (Nat.le_refl _) (congrArg _ (fiM_3 h20).symm)
  · refine gj_ld (i := 0) (pc2 := 24) rfl (fun _ _ _ h9 => lv_aload_n hx hb d_M_find_23 rfl h9) ?_
    refine mj_gr F 8 rfl d_M_find_24 q_338 rfl ?_
    refine gj_ld (i := 0) (pc2 := 28) rfl (fun _ _ _ h9 => lv_aload_n hx hb d_M_find_27 rfl h9) ?_
    refine mj_gi F 11 rfl d_M_find_28 q_341 rfl ?_
    refine mj_ld F 4 32 (kAt (τ 0 3)) (by omega) rfl (by decide) (by rw [s2_at]; exact kAt_eq _) (kAt_lt _) d_M_find_31 rfl ?_
    refine gj_ld (i := 0) (pc2 := 33) rfl (fun _ _ _ h9 => lv_aload_n hx hb d_M_find_32 rfl h9) ?_
    refine mj_gi F 3 rfl d_M_find_33 q_333 rfl ?_
    refine gj_if (pc2 := 52) (pc3 := 39) (fun _ _ _ => lv_icmp_ne (tgt := 52) hx hb d_M_find_36 (by decide)) (fun h36 => ?_) (fun h36 => ?_)
    · refine gj_ld (i := 0) (pc2 := 53) rfl (fun _ _ _ h9 => lv_aload_n hx hb d_M_find_52 rfl h9) ?_
      refine gj_ld (i := 0) (pc2 := 54) rfl (fun _ _ _ h9 => lv_aload_n hx hb d_M_find_53 rfl h9) ?_
      refine mj_gi F 11 rfl d_M_find_54 q_341 rfl ?_
      refine gj_eq (st3 := [.int (nI (kAt (τ 0 3))), .ref (a 0)]) rfl rfl (by rw [s2_at, kAt_eq]) ?_
      refine bj_vv F k_M_make d_M_find_57 q_435 (mw_at (i := 0) (by omega)) rfl (ct_M_make (τ := fi1 τ) (kAt_lt _)) (rmo rfl) rfl rfl (Nat.le_of_ble_eq_true rfl) (Nat.zero_le _) (Nat.zero_le _) rfl (fun u9 e9 => ?_)
      subst e9
      exact gj_vret F d_M_find_60 (Nat.le_refl _) (Nat.le_refl _) (congrArg _ (fiM_2 h20 h36).symm)
    · refine gj_ld (i := 0) (pc2 := 40) rfl (fun _ _ _ h9 => lv_aload_n hx hb d_M_find_39 rfl h9) ?_
      refine gj_l (pc2 := 41) (fun _ _ _ => lv_dup hx hb d_M_find_40 rfl) ?_
      refine mj_gi F 15 rfl d_M_find_41 q_345 rfl ?_
      refine gj_l (pc2 := 45) (fun _ _ _ => lv_iconst (v := 1) hx hb d_M_find_44 (by decide)) ?_
      refine gj_l (pc2 := 46) (fun _ _ _ => lv_iadd hx hb d_M_find_45) ?_
      refine mj_pi F 15 rfl d_M_find_46 q_345 rfl ?_
      refine gj_l (pc2 := 60) (fun _ _ _ => lv_goto (tgt := 60) hx hb d_M_find_49 (by decide)) ?_
      exact gj_vret F d_M_find_60 (Nat.le_refl _) (Nat.le_refl _) (congrArg _ (fiM_1 h20 h36).symm)
