theorem k_X_perform : CKV y_X_perform c_X_perform 6 none 3 := ⟨q_283, q_1, q_282, sl_X_perform, ⟨by decide +kernel, by decide +kernel, by decide +kernel⟩⟩
set_option maxHeartbeats 4000000 in
set_option maxRecDepth 100000 in
theorem ct_X_perform {l : Launch} {D : va_G} {cI cB cZ cJ : ClassId} {a : Nat → Nat} {σ : St} (kd lo se : Int32) (hm : kd = 4 ∨ kd = 5 → inM (σ 2 (lo3 se)) = true) : GCv l y_X_perform (Cond.code y_X_perform c_X_perform 6 none :: tbW) ({ frames := 3, cells := 0, slots := 0, locals := 65 }) 0 0 D vCl (TY cI cB cZ cJ) [.ref (a 0), .int kd, .int lo, .int se] (bw a cI cB 32 σ) (fun u => u = bw a cI cB 32 (pfM σ kd lo se)) := by
  refine gc_body (Qc := gc_Qv D vCl (TY cI cB cZ cJ) (bw a cI cB 32 σ) (fun u => u = bw a cI cB 32 (pfM σ kd lo se))) (cc := c_X_perform) (maxL := 6) (ret := none) (by decide) rfl (by simp [Value.category]) (Nat.le_of_ble_eq_true rfl) ?_
  intro p e s m args below meth c F
  have hx := F.1
  have hb := F.2.1
  refine gj_ld (i := 2) (pc2 := 1) rfl (fun _ _ _ h9 => lv_iload_n hx hb d_X_perform_0 rfl h9) ?_
  refine gj_l (pc2 := 3) (fun _ _ _ => lv_bipush (v := (7)) hx hb d_X_perform_1 (by decide)) ?_
  refine gj_l (pc2 := 4) (fun _ _ _ => lv_iand hx hb d_X_perform_3) ?_
  refine gj_st (i := 4) (pc2 := 6) (Nat.le_of_ble_eq_true rfl) rfl (fun _ _ _ _ _ h9 l9 => lv_istore hx hb d_X_perform_4 h9 (Nat.le_of_ble_eq_true rfl) l9) ?_
  refine gj_ld (i := 3) (pc2 := 7) rfl (fun _ _ _ h9 => lv_iload_n hx hb d_X_perform_6 rfl h9) ?_
  refine gj_l (pc2 := 9) (fun _ _ _ => lv_bipush (v := (7)) hx hb d_X_perform_7 (by decide)) ?_
  refine gj_l (pc2 := 10) (fun _ _ _ => lv_iand hx hb d_X_perform_9) ?_
  refine gj_st (i := 5) (pc2 := 12) (Nat.le_of_ble_eq_true rfl) rfl (fun _ _ _ _ _ h9 l9 => lv_istore hx hb d_X_perform_10 h9 (Nat.le_of_ble_eq_true rfl) l9) ?_
  refine gj_ld (i := 1) (pc2 := 13) rfl (fun _ _ _ h9 => lv_iload_n hx hb d_X_perform_12 rfl h9) ?_
  by_cases h13_1 : kd = 1
  · rw [h13_1]
    refine gj_l (pc2 := 72) (fun _ _ _ => lv_tableIn (tgt := 72) hx hb d_X_perform_13 (by decide) (by decide) rfl (by decide)) ?_
    refine gj_ld (i := 0) (pc2 := 73) rfl (fun _ _ _ h9 => lv_aload_n hx hb d_X_perform_72 rfl h9) ?_
    refine bj_gr F 1 (by decide) d_X_perform_73 q_44 rfl ?_
    refine gj_ld (i := 4) (pc2 := 78) rfl (fun _ _ _ h9 => lv_iload hx hb d_X_perform_76 h9) ?_
    refine gj_ld (i := 3) (pc2 := 79) rfl (fun _ _ _ h9 => lv_iload_n hx hb d_X_perform_78 rfl h9) ?_
    refine bj_s F k_X_belowZeroToo d_X_perform_79 q_284 (ct_X_belowZeroToo _) (rmo rfl) rfl rfl (Nat.le_of_ble_eq_true rfl) (Nat.zero_le _) (Nat.zero_le _) rfl (fun r9 e9 => ?_)
    subst e9
    refine bj_st F 2 8 (lo3 lo) (by omega) (fun _ => rfl) (by decide) (lo3_eq lo) (lo3_lt lo) d_X_perform_82 rfl ?_
    refine gj_l (pc2 := 239) (fun _ _ _ => lv_goto (tgt := 239) hx hb d_X_perform_83 (by decide)) ?_
    exact gj_vret F d_X_perform_239 (Nat.le_refl _) (Nat.le_refl _) (by first | (simp [pfM, s2_at, h13_1]; done) | (simp [pfM, s2_at, ei, hcl]; done) | (simp [bN_0] at h148; simp [pfM, h148]; done))
  by_cases h13_2 : kd = 2
  · rw [h13_2]
    refine gj_l (pc2 := 206) (fun _ _ _ => lv_tableIn (tgt := 206) hx hb d_X_perform_13 (by decide) (by decide) rfl (by decide)) ?_
    refine gj_ld (i := 0) (pc2 := 207) rfl (fun _ _ _ h9 => lv_aload_n hx hb d_X_perform_206 rfl h9) ?_
    refine gj_ld (i := 1) (pc2 := 208) rfl (fun _ _ _ h9 => lv_iload_n hx hb d_X_perform_207 rfl h9) ?_
    refine gj_ld (i := 0) (pc2 := 209) rfl (fun _ _ _ h9 => lv_aload_n hx hb d_X_perform_208 rfl h9) ?_
    refine bj_gr F 1 (by decide) d_X_perform_209 q_44 rfl ?_
    refine gj_ld (i := 4) (pc2 := 214) rfl (fun _ _ _ h9 => lv_iload hx hb d_X_perform_212 h9) ?_
    refine bj_ld F 2 8 (lo3 lo) (by omega) rfl (by decide) (lo3_eq lo) (lo3_lt lo) d_X_perform_214 rfl ?_
    refine gj_ld (i := 0) (pc2 := 216) rfl (fun _ _ _ h9 => lv_aload_n hx hb d_X_perform_215 rfl h9) ?_
    refine bj_gr F 1 (by decide) d_X_perform_216 q_44 rfl ?_
    refine gj_ld (i := 5) (pc2 := 221) rfl (fun _ _ _ h9 => lv_iload hx hb d_X_perform_219 h9) ?_
    refine bj_ld F 2 8 (lo3 se) (by omega) rfl (by decide) (lo3_eq se) (lo3_lt se) d_X_perform_221 rfl ?_
    refine bj_s F k_X_worked d_X_perform_222 q_299 (ct_X_worked _ _ _) (rmo rfl) rfl rfl (Nat.le_of_ble_eq_true rfl) (Nat.zero_le _) (Nat.zero_le _) rfl (fun r9 e9 => ?_)
    subst e9
    refine bj_pi F 5 (by decide) (by decide) d_X_perform_225 q_48 rfl ?_
    refine gj_ld (i := 0) (pc2 := 229) rfl (fun _ _ _ h9 => lv_aload_n hx hb d_X_perform_228 rfl h9) ?_
    refine bj_gr F 1 (by decide) d_X_perform_229 q_44 rfl ?_
    refine gj_ld (i := 4) (pc2 := 234) rfl (fun _ _ _ h9 => lv_iload hx hb d_X_perform_232 h9) ?_
    refine gj_ld (i := 0) (pc2 := 235) rfl (fun _ _ _ h9 => lv_aload_n hx hb d_X_perform_234 rfl h9) ?_
    refine bj_gi F 5 (by decide) (by decide) d_X_perform_235 q_48 rfl ?_
    refine bj_st F 2 8 (lo3 lo) (by omega) (fun _ => rfl) (by decide) (lo3_eq lo) (lo3_lt lo) d_X_perform_238 rfl ?_
    exact gj_vret F d_X_perform_239 (Nat.le_refl _) (Nat.le_refl _) (by first | (simp [pfM, s2_at, h13_1, h13_2]; done) | (simp [pfM, s2_at, ei, hcl]; done) | (simp [bN_0] at h148; simp [pfM, h148]; done))
  by_cases h13_3 : kd = 3
  · rw [h13_3]
    refine gj_l (pc2 := 206) (fun _ _ _ => lv_tableIn (tgt := 206) hx hb d_X_perform_13 (by decide) (by decide) rfl (by decide)) ?_
    refine gj_ld (i := 0) (pc2 := 207) rfl (fun _ _ _ h9 => lv_aload_n hx hb d_X_perform_206 rfl h9) ?_
    refine gj_ld (i := 1) (pc2 := 208) rfl (fun _ _ _ h9 => lv_iload_n hx hb d_X_perform_207 rfl h9) ?_
    refine gj_ld (i := 0) (pc2 := 209) rfl (fun _ _ _ h9 => lv_aload_n hx hb d_X_perform_208 rfl h9) ?_
    refine bj_gr F 1 (by decide) d_X_perform_209 q_44 rfl ?_
    refine gj_ld (i := 4) (pc2 := 214) rfl (fun _ _ _ h9 => lv_iload hx hb d_X_perform_212 h9) ?_
    refine bj_ld F 2 8 (lo3 lo) (by omega) rfl (by decide) (lo3_eq lo) (lo3_lt lo) d_X_perform_214 rfl ?_
    refine gj_ld (i := 0) (pc2 := 216) rfl (fun _ _ _ h9 => lv_aload_n hx hb d_X_perform_215 rfl h9) ?_
    refine bj_gr F 1 (by decide) d_X_perform_216 q_44 rfl ?_
    refine gj_ld (i := 5) (pc2 := 221) rfl (fun _ _ _ h9 => lv_iload hx hb d_X_perform_219 h9) ?_
    refine bj_ld F 2 8 (lo3 se) (by omega) rfl (by decide) (lo3_eq se) (lo3_lt se) d_X_perform_221 rfl ?_
    refine bj_s F k_X_worked d_X_perform_222 q_299 (ct_X_worked _ _ _) (rmo rfl) rfl rfl (Nat.le_of_ble_eq_true rfl) (Nat.zero_le _) (Nat.zero_le _) rfl (fun r9 e9 => ?_)
    subst e9
    refine bj_pi F 5 (by decide) (by decide) d_X_perform_225 q_48 rfl ?_
    refine gj_ld (i := 0) (pc2 := 229) rfl (fun _ _ _ h9 => lv_aload_n hx hb d_X_perform_228 rfl h9) ?_
    refine bj_gr F 1 (by decide) d_X_perform_229 q_44 rfl ?_
    refine gj_ld (i := 4) (pc2 := 234) rfl (fun _ _ _ h9 => lv_iload hx hb d_X_perform_232 h9) ?_
    refine gj_ld (i := 0) (pc2 := 235) rfl (fun _ _ _ h9 => lv_aload_n hx hb d_X_perform_234 rfl h9) ?_
    refine bj_gi F 5 (by decide) (by decide) d_X_perform_235 q_48 rfl ?_
    refine bj_st F 2 8 (lo3 lo) (by omega) (fun _ => rfl) (by decide) (lo3_eq lo) (lo3_lt lo) d_X_perform_238 rfl ?_
    exact gj_vret F d_X_perform_239 (Nat.le_refl _) (Nat.le_refl _) (by first | (simp [pfM, s2_at, h13_1, h13_2, h13_3]; done) | (simp [pfM, s2_at, ei, hcl]; done) | (simp [bN_0] at h148; simp [pfM, h148]; done))
  by_cases h13_4 : kd = 4
  · rw [h13_4]
    refine gj_l (pc2 := 86) (fun _ _ _ => lv_tableIn (tgt := 86) hx hb d_X_perform_13 (by decide) (by decide) rfl (by decide)) ?_
    obtain ⟨i, hi, ei⟩ := inM_of (hm (by rw [h13_4]; decide))
    have hcl : (nI i).toNatClampNeg = i := nI_clamp (by omega)
    refine gj_ld (i := 0) (pc2 := 87) rfl (fun _ _ _ h9 => lv_aload_n hx hb d_X_perform_86 rfl h9) ?_
    refine bj_gr F 1 (by decide) d_X_perform_87 q_44 rfl ?_
    refine gj_ld (i := 4) (pc2 := 92) rfl (fun _ _ _ h9 => lv_iload hx hb d_X_perform_90 h9) ?_
    refine gj_ld (i := 0) (pc2 := 93) rfl (fun _ _ _ h9 => lv_aload_n hx hb d_X_perform_92 rfl h9) ?_
    refine bj_gr F 0 (by decide) d_X_perform_93 q_43 rfl ?_
    refine gj_ld (i := 0) (pc2 := 97) rfl (fun _ _ _ h9 => lv_aload_n hx hb d_X_perform_96 rfl h9) ?_
    refine bj_gr F 1 (by decide) d_X_perform_97 q_44 rfl ?_
    refine gj_ld (i := 5) (pc2 := 102) rfl (fun _ _ _ h9 => lv_iload hx hb d_X_perform_100 h9) ?_
    refine bj_ld F 2 8 (lo3 se) (by omega) rfl (by decide) (lo3_eq se) (lo3_lt se) d_X_perform_102 rfl ?_
    refine bj_ld F 1 1024 i (by omega) rfl (by decide) ei hi d_X_perform_103 rfl ?_
    refine bj_st F 2 8 (lo3 lo) (by omega) (fun _ => rfl) (by decide) (lo3_eq lo) (lo3_lt lo) d_X_perform_104 rfl ?_
    refine gj_l (pc2 := 239) (fun _ _ _ => lv_goto (tgt := 239) hx hb d_X_perform_105 (by decide)) ?_
    exact gj_vret F d_X_perform_239 (Nat.le_refl _) (Nat.le_refl _) (by first | (simp [pfM, s2_at, h13_1, h13_2, h13_3, h13_4]; done) | (simp [pfM, s2_at, ei, hcl]; done) | (simp [bN_0] at h148; simp [pfM, h148]; done))
  by_cases h13_5 : kd = 5
  · rw [h13_5]
    refine gj_l (pc2 := 108) (fun _ _ _ => lv_tableIn (tgt := 108) hx hb d_X_perform_13 (by decide) (by decide) rfl (by decide)) ?_
    obtain ⟨i, hi, ei⟩ := inM_of (hm (by rw [h13_5]; decide))
    have hcl : (nI i).toNatClampNeg = i := nI_clamp (by omega)
    refine gj_ld (i := 0) (pc2 := 109) rfl (fun _ _ _ h9 => lv_aload_n hx hb d_X_perform_108 rfl h9) ?_
    refine gj_ld (i := 0) (pc2 := 110) rfl (fun _ _ _ h9 => lv_aload_n hx hb d_X_perform_109 rfl h9) ?_
    refine bj_gr F 1 (by decide) d_X_perform_110 q_44 rfl ?_
    refine gj_ld (i := 5) (pc2 := 115) rfl (fun _ _ _ h9 => lv_iload hx hb d_X_perform_113 h9) ?_
    refine bj_ld F 2 8 (lo3 se) (by omega) rfl (by decide) (lo3_eq se) (lo3_lt se) d_X_perform_115 rfl ?_
    refine gj_ld (i := 0) (pc2 := 117) rfl (fun _ _ _ h9 => lv_aload_n hx hb d_X_perform_116 rfl h9) ?_
    refine bj_gr F 1 (by decide) d_X_perform_117 q_44 rfl ?_
    refine gj_ld (i := 4) (pc2 := 122) rfl (fun _ _ _ h9 => lv_iload hx hb d_X_perform_120 h9) ?_
    refine bj_ld F 2 8 (lo3 lo) (by omega) rfl (by decide) (lo3_eq lo) (lo3_lt lo) d_X_perform_122 rfl ?_
    refine gj_l (pc2 := 126) (fun _ _ _ => lv_sipush (v := (255)) hx hb d_X_perform_123 (by decide)) ?_
    refine gj_l (pc2 := 127) (fun _ _ _ => lv_iand hx hb d_X_perform_126) ?_
    rw [ei]
    refine bj_vv F k_X_write d_X_perform_127 q_199 (bw_at (i := 0) (by omega)) rfl (ct_X_write hi _) (rmo rfl) rfl rfl (Nat.le_of_ble_eq_true rfl) (Nat.zero_le _) (Nat.zero_le _) rfl (fun u9 e9 => ?_)
    subst e9
    refine gj_ld (i := 0) (pc2 := 131) rfl (fun _ _ _ h9 => lv_aload_n hx hb d_X_perform_130 rfl h9) ?_
    refine gj_l (pc2 := 132) (fun _ _ _ => lv_dup hx hb d_X_perform_131 rfl) ?_
    refine bj_gi F 10 (by decide) (by decide) d_X_perform_132 q_53 rfl ?_
    refine gj_l (pc2 := 136) (fun _ _ _ => lv_iconst (v := 1) hx hb d_X_perform_135 (by decide)) ?_
    refine gj_l (pc2 := 137) (fun _ _ _ => lv_iadd hx hb d_X_perform_136) ?_
    refine bj_pi F 10 (by decide) (by decide) d_X_perform_137 q_53 rfl ?_
    refine gj_l (pc2 := 239) (fun _ _ _ => lv_goto (tgt := 239) hx hb d_X_perform_140 (by decide)) ?_
    exact gj_vret F d_X_perform_239 (Nat.le_refl _) (Nat.le_refl _) (by first | (simp [pfM, s2_at, h13_1, h13_2, h13_3, h13_4, h13_5]; done) | (simp [pfM, s2_at, ei, hcl]; done) | (simp [bN_0] at h148; simp [pfM, h148]; done))
  by_cases h13_6 : kd = 6
  · rw [h13_6]
    refine gj_l (pc2 := 206) (fun _ _ _ => lv_tableIn (tgt := 206) hx hb d_X_perform_13 (by decide) (by decide) rfl (by decide)) ?_
    refine gj_ld (i := 0) (pc2 := 207) rfl (fun _ _ _ h9 => lv_aload_n hx hb d_X_perform_206 rfl h9) ?_
    refine gj_ld (i := 1) (pc2 := 208) rfl (fun _ _ _ h9 => lv_iload_n hx hb d_X_perform_207 rfl h9) ?_
    refine gj_ld (i := 0) (pc2 := 209) rfl (fun _ _ _ h9 => lv_aload_n hx hb d_X_perform_208 rfl h9) ?_
    refine bj_gr F 1 (by decide) d_X_perform_209 q_44 rfl ?_
    refine gj_ld (i := 4) (pc2 := 214) rfl (fun _ _ _ h9 => lv_iload hx hb d_X_perform_212 h9) ?_
    refine bj_ld F 2 8 (lo3 lo) (by omega) rfl (by decide) (lo3_eq lo) (lo3_lt lo) d_X_perform_214 rfl ?_
    refine gj_ld (i := 0) (pc2 := 216) rfl (fun _ _ _ h9 => lv_aload_n hx hb d_X_perform_215 rfl h9) ?_
    refine bj_gr F 1 (by decide) d_X_perform_216 q_44 rfl ?_
    refine gj_ld (i := 5) (pc2 := 221) rfl (fun _ _ _ h9 => lv_iload hx hb d_X_perform_219 h9) ?_
    refine bj_ld F 2 8 (lo3 se) (by omega) rfl (by decide) (lo3_eq se) (lo3_lt se) d_X_perform_221 rfl ?_
    refine bj_s F k_X_worked d_X_perform_222 q_299 (ct_X_worked _ _ _) (rmo rfl) rfl rfl (Nat.le_of_ble_eq_true rfl) (Nat.zero_le _) (Nat.zero_le _) rfl (fun r9 e9 => ?_)
    subst e9
    refine bj_pi F 5 (by decide) (by decide) d_X_perform_225 q_48 rfl ?_
    refine gj_ld (i := 0) (pc2 := 229) rfl (fun _ _ _ h9 => lv_aload_n hx hb d_X_perform_228 rfl h9) ?_
    refine bj_gr F 1 (by decide) d_X_perform_229 q_44 rfl ?_
    refine gj_ld (i := 4) (pc2 := 234) rfl (fun _ _ _ h9 => lv_iload hx hb d_X_perform_232 h9) ?_
    refine gj_ld (i := 0) (pc2 := 235) rfl (fun _ _ _ h9 => lv_aload_n hx hb d_X_perform_234 rfl h9) ?_
    refine bj_gi F 5 (by decide) (by decide) d_X_perform_235 q_48 rfl ?_
    refine bj_st F 2 8 (lo3 lo) (by omega) (fun _ => rfl) (by decide) (lo3_eq lo) (lo3_lt lo) d_X_perform_238 rfl ?_
    exact gj_vret F d_X_perform_239 (Nat.le_refl _) (Nat.le_refl _) (by first | (simp [pfM, s2_at, h13_1, h13_2, h13_3, h13_4, h13_5, h13_6]; done) | (simp [pfM, s2_at, ei, hcl]; done) | (simp [bN_0] at h148; simp [pfM, h148]; done))
  by_cases h13_7 : kd = 7
  · rw [h13_7]
    refine gj_l (pc2 := 143) (fun _ _ _ => lv_tableIn (tgt := 143) hx hb d_X_perform_13 (by decide) (by decide) rfl (by decide)) ?_
    refine gj_ld (i := 0) (pc2 := 144) rfl (fun _ _ _ h9 => lv_aload_n hx hb d_X_perform_143 rfl h9) ?_
    refine gj_ld (i := 2) (pc2 := 145) rfl (fun _ _ _ h9 => lv_iload_n hx hb d_X_perform_144 rfl h9) ?_
    refine bj_vi F k_X_holds d_X_perform_145 q_287 (bw_at (i := 0) (by omega)) rfl (ct_X_holds _) (rmo rfl) rfl rfl (Nat.le_of_ble_eq_true rfl) (Nat.zero_le _) (Nat.zero_le _) rfl (fun r9 u9 e9 => ?_)
    obtain ⟨rfl, rfl⟩ := e9
    refine gj_if (pc2 := 239) (pc3 := 151) (fun _ _ _ => lv_if_eq (tgt := 239) hx hb d_X_perform_148 (by decide)) (fun h148 => ?_) (fun h148 => ?_)
    · exact gj_vret F d_X_perform_239 (Nat.le_refl _) (Nat.le_refl _) (by first | (simp [pfM, s2_at, h13_1, h13_2, h13_3, h13_4, h13_5, h13_6, h13_7, h148]; done) | (simp [pfM, s2_at, ei, hcl]; done) | (simp [bN_0] at h148; simp [pfM, h148]; done))
    · refine gj_ld (i := 0) (pc2 := 152) rfl (fun _ _ _ h9 => lv_aload_n hx hb d_X_perform_151 rfl h9) ?_
      refine gj_l (pc2 := 153) (fun _ _ _ => lv_dup hx hb d_X_perform_152 rfl) ?_
      refine bj_gi F 3 (by decide) (by decide) d_X_perform_153 q_46 rfl ?_
      refine gj_ld (i := 3) (pc2 := 157) rfl (fun _ _ _ h9 => lv_iload_n hx hb d_X_perform_156 rfl h9) ?_
      refine bj_s F k_X_belowZeroToo d_X_perform_157 q_284 (ct_X_belowZeroToo _) (rmo rfl) rfl rfl (Nat.le_of_ble_eq_true rfl) (Nat.zero_le _) (Nat.zero_le _) rfl (fun r9 e9 => ?_)
      subst e9
      refine gj_l (pc2 := 161) (fun _ _ _ => lv_iadd hx hb d_X_perform_160) ?_
      refine bj_pi F 3 (by decide) (by decide) d_X_perform_161 q_46 rfl ?_
      refine gj_l (pc2 := 239) (fun _ _ _ => lv_goto (tgt := 239) hx hb d_X_perform_164 (by decide)) ?_
      exact gj_vret F d_X_perform_239 (Nat.le_refl _) (Nat.le_refl _) (by first | (simp [pfM, s2_at, h13_1, h13_2, h13_3, h13_4, h13_5, h13_6, h13_7, h148]; done) | (simp [pfM, s2_at, ei, hcl]; done) | (simp [bN_0] at h148; simp [pfM, h148]; done))
  by_cases h13_8 : kd = 8
  · rw [h13_8]
    refine gj_l (pc2 := 167) (fun _ _ _ => lv_tableIn (tgt := 167) hx hb d_X_perform_13 (by decide) (by decide) rfl (by decide)) ?_
    refine gj_ld (i := 0) (pc2 := 168) rfl (fun _ _ _ h9 => lv_aload_n hx hb d_X_perform_167 rfl h9) ?_
    refine bj_gr F 1 (by decide) d_X_perform_168 q_44 rfl ?_
    refine gj_ld (i := 4) (pc2 := 173) rfl (fun _ _ _ h9 => lv_iload hx hb d_X_perform_171 h9) ?_
    refine gj_ld (i := 0) (pc2 := 174) rfl (fun _ _ _ h9 => lv_aload_n hx hb d_X_perform_173 rfl h9) ?_
    refine bj_gr F 1 (by decide) d_X_perform_174 q_44 rfl ?_
    refine gj_ld (i := 5) (pc2 := 179) rfl (fun _ _ _ h9 => lv_iload hx hb d_X_perform_177 h9) ?_
    refine bj_ld F 2 8 (lo3 se) (by omega) rfl (by decide) (lo3_eq se) (lo3_lt se) d_X_perform_179 rfl ?_
    refine bj_st F 2 8 (lo3 lo) (by omega) (fun _ => rfl) (by decide) (lo3_eq lo) (lo3_lt lo) d_X_perform_180 rfl ?_
    refine gj_l (pc2 := 239) (fun _ _ _ => lv_goto (tgt := 239) hx hb d_X_perform_181 (by decide)) ?_
    exact gj_vret F d_X_perform_239 (Nat.le_refl _) (Nat.le_refl _) (by first | (simp [pfM, s2_at, h13_1, h13_2, h13_3, h13_4, h13_5, h13_6, h13_7, h13_8]; done) | (simp [pfM, s2_at, ei, hcl]; done) | (simp [bN_0] at h148; simp [pfM, h148]; done))
  by_cases h13_9 : kd = 9
  · rw [h13_9]
    refine gj_l (pc2 := 206) (fun _ _ _ => lv_tableIn (tgt := 206) hx hb d_X_perform_13 (by decide) (by decide) rfl (by decide)) ?_
    refine gj_ld (i := 0) (pc2 := 207) rfl (fun _ _ _ h9 => lv_aload_n hx hb d_X_perform_206 rfl h9) ?_
    refine gj_ld (i := 1) (pc2 := 208) rfl (fun _ _ _ h9 => lv_iload_n hx hb d_X_perform_207 rfl h9) ?_
    refine gj_ld (i := 0) (pc2 := 209) rfl (fun _ _ _ h9 => lv_aload_n hx hb d_X_perform_208 rfl h9) ?_
    refine bj_gr F 1 (by decide) d_X_perform_209 q_44 rfl ?_
    refine gj_ld (i := 4) (pc2 := 214) rfl (fun _ _ _ h9 => lv_iload hx hb d_X_perform_212 h9) ?_
    refine bj_ld F 2 8 (lo3 lo) (by omega) rfl (by decide) (lo3_eq lo) (lo3_lt lo) d_X_perform_214 rfl ?_
    refine gj_ld (i := 0) (pc2 := 216) rfl (fun _ _ _ h9 => lv_aload_n hx hb d_X_perform_215 rfl h9) ?_
    refine bj_gr F 1 (by decide) d_X_perform_216 q_44 rfl ?_
    refine gj_ld (i := 5) (pc2 := 221) rfl (fun _ _ _ h9 => lv_iload hx hb d_X_perform_219 h9) ?_
    refine bj_ld F 2 8 (lo3 se) (by omega) rfl (by decide) (lo3_eq se) (lo3_lt se) d_X_perform_221 rfl ?_
    refine bj_s F k_X_worked d_X_perform_222 q_299 (ct_X_worked _ _ _) (rmo rfl) rfl rfl (Nat.le_of_ble_eq_true rfl) (Nat.zero_le _) (Nat.zero_le _) rfl (fun r9 e9 => ?_)
    subst e9
    refine bj_pi F 5 (by decide) (by decide) d_X_perform_225 q_48 rfl ?_
    refine gj_ld (i := 0) (pc2 := 229) rfl (fun _ _ _ h9 => lv_aload_n hx hb d_X_perform_228 rfl h9) ?_
    refine bj_gr F 1 (by decide) d_X_perform_229 q_44 rfl ?_
    refine gj_ld (i := 4) (pc2 := 234) rfl (fun _ _ _ h9 => lv_iload hx hb d_X_perform_232 h9) ?_
    refine gj_ld (i := 0) (pc2 := 235) rfl (fun _ _ _ h9 => lv_aload_n hx hb d_X_perform_234 rfl h9) ?_
    refine bj_gi F 5 (by decide) (by decide) d_X_perform_235 q_48 rfl ?_
    refine bj_st F 2 8 (lo3 lo) (by omega) (fun _ => rfl) (by decide) (lo3_eq lo) (lo3_lt lo) d_X_perform_238 rfl ?_
    exact gj_vret F d_X_perform_239 (Nat.le_refl _) (Nat.le_refl _) (by first | (simp [pfM, s2_at, h13_1, h13_2, h13_3, h13_4, h13_5, h13_6, h13_7, h13_8, h13_9]; done) | (simp [pfM, s2_at, ei, hcl]; done) | (simp [bN_0] at h148; simp [pfM, h148]; done))
  by_cases h13_10 : kd = 10
  · rw [h13_10]
    refine gj_l (pc2 := 206) (fun _ _ _ => lv_tableIn (tgt := 206) hx hb d_X_perform_13 (by decide) (by decide) rfl (by decide)) ?_
    refine gj_ld (i := 0) (pc2 := 207) rfl (fun _ _ _ h9 => lv_aload_n hx hb d_X_perform_206 rfl h9) ?_
    refine gj_ld (i := 1) (pc2 := 208) rfl (fun _ _ _ h9 => lv_iload_n hx hb d_X_perform_207 rfl h9) ?_
    refine gj_ld (i := 0) (pc2 := 209) rfl (fun _ _ _ h9 => lv_aload_n hx hb d_X_perform_208 rfl h9) ?_
    refine bj_gr F 1 (by decide) d_X_perform_209 q_44 rfl ?_
    refine gj_ld (i := 4) (pc2 := 214) rfl (fun _ _ _ h9 => lv_iload hx hb d_X_perform_212 h9) ?_
    refine bj_ld F 2 8 (lo3 lo) (by omega) rfl (by decide) (lo3_eq lo) (lo3_lt lo) d_X_perform_214 rfl ?_
    refine gj_ld (i := 0) (pc2 := 216) rfl (fun _ _ _ h9 => lv_aload_n hx hb d_X_perform_215 rfl h9) ?_
    refine bj_gr F 1 (by decide) d_X_perform_216 q_44 rfl ?_
    refine gj_ld (i := 5) (pc2 := 221) rfl (fun _ _ _ h9 => lv_iload hx hb d_X_perform_219 h9) ?_
    refine bj_ld F 2 8 (lo3 se) (by omega) rfl (by decide) (lo3_eq se) (lo3_lt se) d_X_perform_221 rfl ?_
    refine bj_s F k_X_worked d_X_perform_222 q_299 (ct_X_worked _ _ _) (rmo rfl) rfl rfl (Nat.le_of_ble_eq_true rfl) (Nat.zero_le _) (Nat.zero_le _) rfl (fun r9 e9 => ?_)
    subst e9
    refine bj_pi F 5 (by decide) (by decide) d_X_perform_225 q_48 rfl ?_
    refine gj_ld (i := 0) (pc2 := 229) rfl (fun _ _ _ h9 => lv_aload_n hx hb d_X_perform_228 rfl h9) ?_
    refine bj_gr F 1 (by decide) d_X_perform_229 q_44 rfl ?_
    refine gj_ld (i := 4) (pc2 := 234) rfl (fun _ _ _ h9 => lv_iload hx hb d_X_perform_232 h9) ?_
    refine gj_ld (i := 0) (pc2 := 235) rfl (fun _ _ _ h9 => lv_aload_n hx hb d_X_perform_234 rfl h9) ?_
    refine bj_gi F 5 (by decide) (by decide) d_X_perform_235 q_48 rfl ?_
    refine bj_st F 2 8 (lo3 lo) (by omega) (fun _ => rfl) (by decide) (lo3_eq lo) (lo3_lt lo) d_X_perform_238 rfl ?_
    exact gj_vret F d_X_perform_239 (Nat.le_refl _) (Nat.le_refl _) (by first | (simp [pfM, s2_at, h13_1, h13_2, h13_3, h13_4, h13_5, h13_6, h13_7, h13_8, h13_9, h13_10]; done) | (simp [pfM, s2_at, ei, hcl]; done) | (simp [bN_0] at h148; simp [pfM, h148]; done))
  by_cases h13_11 : kd = 11
  · rw [h13_11]
    refine gj_l (pc2 := 184) (fun _ _ _ => lv_tableIn (tgt := 184) hx hb d_X_perform_13 (by decide) (by decide) rfl (by decide)) ?_
    refine gj_ld (i := 0) (pc2 := 185) rfl (fun _ _ _ h9 => lv_aload_n hx hb d_X_perform_184 rfl h9) ?_
    refine gj_ld (i := 0) (pc2 := 186) rfl (fun _ _ _ h9 => lv_aload_n hx hb d_X_perform_185 rfl h9) ?_
    refine bj_gr F 1 (by decide) d_X_perform_186 q_44 rfl ?_
    refine gj_ld (i := 4) (pc2 := 191) rfl (fun _ _ _ h9 => lv_iload hx hb d_X_perform_189 h9) ?_
    refine bj_ld F 2 8 (lo3 lo) (by omega) rfl (by decide) (lo3_eq lo) (lo3_lt lo) d_X_perform_191 rfl ?_
    refine gj_ld (i := 0) (pc2 := 193) rfl (fun _ _ _ h9 => lv_aload_n hx hb d_X_perform_192 rfl h9) ?_
    refine bj_gr F 1 (by decide) d_X_perform_193 q_44 rfl ?_
    refine gj_ld (i := 5) (pc2 := 198) rfl (fun _ _ _ h9 => lv_iload hx hb d_X_perform_196 h9) ?_
    refine bj_ld F 2 8 (lo3 se) (by omega) rfl (by decide) (lo3_eq se) (lo3_lt se) d_X_perform_198 rfl ?_
    refine gj_l (pc2 := 200) (fun _ _ _ => lv_isub hx hb d_X_perform_199) ?_
    refine bj_pi F 5 (by decide) (by decide) d_X_perform_200 q_48 rfl ?_
    refine gj_l (pc2 := 239) (fun _ _ _ => lv_goto (tgt := 239) hx hb d_X_perform_203 (by decide)) ?_
    exact gj_vret F d_X_perform_239 (Nat.le_refl _) (Nat.le_refl _) (by first | (simp [pfM, s2_at, h13_1, h13_2, h13_3, h13_4, h13_5, h13_6, h13_7, h13_8, h13_9, h13_10, h13_11]; done) | (simp [pfM, s2_at, ei, hcl]; done) | (simp [bN_0] at h148; simp [pfM, h148]; done))
  have hsw : (kd).toInt < 1 ∨ 11 < (kd).toInt := by
    by_cases z : (kd).toInt < 1
    · exact Or.inl z
    by_cases z2 : 11 < (kd).toInt
    · exact Or.inr z2
    exfalso
    rcases (show (kd).toInt = 1 ∨ (kd).toInt = 2 ∨ (kd).toInt = 3 ∨ (kd).toInt = 4 ∨ (kd).toInt = 5 ∨ (kd).toInt = 6 ∨ (kd).toInt = 7 ∨ (kd).toInt = 8 ∨ (kd).toInt = 9 ∨ (kd).toInt = 10 ∨ (kd).toInt = 11 by omega) with z3 | z3 | z3 | z3 | z3 | z3 | z3 | z3 | z3 | z3 | z3
    · exact h13_1 (Int32.toInt_inj.mp (z3.trans (by decide)))
    · exact h13_2 (Int32.toInt_inj.mp (z3.trans (by decide)))
    · exact h13_3 (Int32.toInt_inj.mp (z3.trans (by decide)))
    · exact h13_4 (Int32.toInt_inj.mp (z3.trans (by decide)))
    · exact h13_5 (Int32.toInt_inj.mp (z3.trans (by decide)))
    · exact h13_6 (Int32.toInt_inj.mp (z3.trans (by decide)))
    · exact h13_7 (Int32.toInt_inj.mp (z3.trans (by decide)))
    · exact h13_8 (Int32.toInt_inj.mp (z3.trans (by decide)))
    · exact h13_9 (Int32.toInt_inj.mp (z3.trans (by decide)))
    · exact h13_10 (Int32.toInt_inj.mp (z3.trans (by decide)))
    · exact h13_11 (Int32.toInt_inj.mp (z3.trans (by decide)))
  refine gj_l (pc2 := 206) (fun _ _ _ => lv_tableOut (tgt := 206) hx hb d_X_perform_13 hsw (by decide)) ?_
  refine gj_ld (i := 0) (pc2 := 207) rfl (fun _ _ _ h9 => lv_aload_n hx hb d_X_perform_206 rfl h9) ?_
  refine gj_ld (i := 1) (pc2 := 208) rfl (fun _ _ _ h9 => lv_iload_n hx hb d_X_perform_207 rfl h9) ?_
  refine gj_ld (i := 0) (pc2 := 209) rfl (fun _ _ _ h9 => lv_aload_n hx hb d_X_perform_208 rfl h9) ?_
  refine bj_gr F 1 (by decide) d_X_perform_209 q_44 rfl ?_
  refine gj_ld (i := 4) (pc2 := 214) rfl (fun _ _ _ h9 => lv_iload hx hb d_X_perform_212 h9) ?_
  refine bj_ld F 2 8 (lo3 lo) (by omega) rfl (by decide) (lo3_eq lo) (lo3_lt lo) d_X_perform_214 rfl ?_
  refine gj_ld (i := 0) (pc2 := 216) rfl (fun _ _ _ h9 => lv_aload_n hx hb d_X_perform_215 rfl h9) ?_
  refine bj_gr F 1 (by decide) d_X_perform_216 q_44 rfl ?_
  refine gj_ld (i := 5) (pc2 := 221) rfl (fun _ _ _ h9 => lv_iload hx hb d_X_perform_219 h9) ?_
  refine bj_ld F 2 8 (lo3 se) (by omega) rfl (by decide) (lo3_eq se) (lo3_lt se) d_X_perform_221 rfl ?_
  refine bj_s F k_X_worked d_X_perform_222 q_299 (ct_X_worked _ _ _) (rmo rfl) rfl rfl (Nat.le_of_ble_eq_true rfl) (Nat.zero_le _) (Nat.zero_le _) rfl (fun r9 e9 => ?_)
  subst e9
  refine bj_pi F 5 (by decide) (by decide) d_X_perform_225 q_48 rfl ?_
  refine gj_ld (i := 0) (pc2 := 229) rfl (fun _ _ _ h9 => lv_aload_n hx hb d_X_perform_228 rfl h9) ?_
  refine bj_gr F 1 (by decide) d_X_perform_229 q_44 rfl ?_
  refine gj_ld (i := 4) (pc2 := 234) rfl (fun _ _ _ h9 => lv_iload hx hb d_X_perform_232 h9) ?_
  refine gj_ld (i := 0) (pc2 := 235) rfl (fun _ _ _ h9 => lv_aload_n hx hb d_X_perform_234 rfl h9) ?_
  refine bj_gi F 5 (by decide) (by decide) d_X_perform_235 q_48 rfl ?_
  refine bj_st F 2 8 (lo3 lo) (by omega) (fun _ => rfl) (by decide) (lo3_eq lo) (lo3_lt lo) d_X_perform_238 rfl ?_
  exact gj_vret F d_X_perform_239 (Nat.le_refl _) (Nat.le_refl _) (by first | (simp [pfM, s2_at, h13_1, h13_2, h13_3, h13_4, h13_5, h13_6, h13_7, h13_8, h13_9, h13_10, h13_11]; done) | (simp [pfM, s2_at, ei, hcl]; done) | (simp [bN_0] at h148; simp [pfM, h148]; done))

theorem k_X_doWord : CKV y_X_doWord c_X_doWord 5 (some .boolean) 1 := ⟨q_275, q_1, q_274, sl_X_doWord, ⟨by decide +kernel, by decide +kernel, by decide +kernel⟩⟩
set_option maxHeartbeats 4000000 in
set_option maxRecDepth 100000 in
theorem ct_X_doWord {l : Launch} {D : va_G} {cI cB cZ cJ : ClassId} {a : Nat → Nat} {σ : St} (wd : Int32) : GCi l y_X_doWord (Cond.code y_X_doWord c_X_doWord 5 (some .boolean) :: tbW) ({ frames := 4, cells := 0, slots := 0, locals := 90 }) 0 0 D vCl (TY cI cB cZ cJ) [.ref (a 0), .int wd] (bw a cI cB 32 σ) (fun r u => r = bN (dwB σ wd) ∧ u = bw a cI cB 32 (dwO σ wd)) := by
  refine gc_body (Qc := gc_Qi D vCl (TY cI cB cZ cJ) (bw a cI cB 32 σ) (fun r u => r = bN (dwB σ wd) ∧ u = bw a cI cB 32 (dwO σ wd))) (cc := c_X_doWord) (maxL := 5) (ret := (some .boolean)) (by decide) rfl (by simp [Value.category]) (Nat.le_of_ble_eq_true rfl) ?_
  intro p e s m args below meth c F
  have hx := F.1
  have hb := F.2.1
  refine gj_ld (i := 1) (pc2 := 1) rfl (fun _ _ _ h9 => lv_iload_n hx hb d_X_doWord_0 rfl h9) ?_
  refine gj_l (pc2 := 3) (fun _ _ _ => lv_bipush (v := (12)) hx hb d_X_doWord_1 (by decide)) ?_
  refine gj_l (pc2 := 4) (fun _ _ _ => lv_ishr hx hb d_X_doWord_3) ?_
  refine gj_st (i := 2) (pc2 := 5) (Nat.le_of_ble_eq_true rfl) rfl (fun _ _ _ _ _ h9 l9 => lv_istore_n hx hb d_X_doWord_4 rfl h9 (Nat.le_of_ble_eq_true rfl) l9) ?_
  refine gj_ld (i := 1) (pc2 := 6) rfl (fun _ _ _ h9 => lv_iload_n hx hb d_X_doWord_5 rfl h9) ?_
  refine gj_l (pc2 := 8) (fun _ _ _ => lv_bipush (v := (8)) hx hb d_X_doWord_6 (by decide)) ?_
  refine gj_l (pc2 := 9) (fun _ _ _ => lv_ishr hx hb d_X_doWord_8) ?_
  refine gj_l (pc2 := 11) (fun _ _ _ => lv_bipush (v := (15)) hx hb d_X_doWord_9 (by decide)) ?_
  refine gj_l (pc2 := 12) (fun _ _ _ => lv_iand hx hb d_X_doWord_11) ?_
  refine gj_st (i := 3) (pc2 := 13) (Nat.le_of_ble_eq_true rfl) rfl (fun _ _ _ _ _ h9 l9 => lv_istore_n hx hb d_X_doWord_12 rfl h9 (Nat.le_of_ble_eq_true rfl) l9) ?_
  refine gj_ld (i := 1) (pc2 := 14) rfl (fun _ _ _ h9 => lv_iload_n hx hb d_X_doWord_13 rfl h9) ?_
  refine gj_l (pc2 := 17) (fun _ _ _ => lv_sipush (v := (255)) hx hb d_X_doWord_14 (by decide)) ?_
  refine gj_l (pc2 := 18) (fun _ _ _ => lv_iand hx hb d_X_doWord_17) ?_
  refine gj_st (i := 4) (pc2 := 20) (Nat.le_of_ble_eq_true rfl) rfl (fun _ _ _ _ _ h9 l9 => lv_istore hx hb d_X_doWord_18 h9 (Nat.le_of_ble_eq_true rfl) l9) ?_
  refine gj_ld (i := 0) (pc2 := 21) rfl (fun _ _ _ h9 => lv_aload_n hx hb d_X_doWord_20 rfl h9) ?_
  refine gj_ld (i := 0) (pc2 := 22) rfl (fun _ _ _ h9 => lv_aload_n hx hb d_X_doWord_21 rfl h9) ?_
  refine gj_ld (i := 2) (pc2 := 23) rfl (fun _ _ _ h9 => lv_iload_n hx hb d_X_doWord_22 rfl h9) ?_
  refine gj_ld (i := 4) (pc2 := 25) rfl (fun _ _ _ h9 => lv_iload hx hb d_X_doWord_23 h9) ?_
  refine gj_l (pc2 := 27) (fun _ _ _ => lv_bipush (v := (7)) hx hb d_X_doWord_25 (by decide)) ?_
  refine gj_l (pc2 := 28) (fun _ _ _ => lv_iand hx hb d_X_doWord_27) ?_
  rw [lo3_eq]
  refine bj_vi F k_X_stateBefore d_X_doWord_28 q_276 (bw_at (i := 0) (by omega)) rfl (ct_X_stateBefore _ (lo3_lt _)) (rmo rfl) rfl rfl (Nat.le_of_ble_eq_true rfl) (Nat.zero_le _) (Nat.zero_le _) rfl (fun r9 u9 e9 => ?_)
  obtain ⟨rfl, rfl⟩ := e9
  refine bj_pi F 4 (by decide) (by decide) d_X_doWord_31 q_47 rfl ?_
  refine gj_ld (i := 0) (pc2 := 35) rfl (fun _ _ _ h9 => lv_aload_n hx hb d_X_doWord_34 rfl h9) ?_
  refine bj_gi F 4 (by decide) (by decide) d_X_doWord_35 q_47 rfl ?_
  refine gj_if (pc2 := 43) (pc3 := 41) (fun _ _ _ => lv_if_eq (tgt := 43) hx hb d_X_doWord_38 (by decide)) (fun h38 => ?_) (fun h38 => ?_)
  · rw [s2_at] at h38
    have hB : dwB σ wd = true := decide_eq_true h38
    refine gj_ld (i := 0) (pc2 := 44) rfl (fun _ _ _ h9 => lv_aload_n hx hb d_X_doWord_43 rfl h9) ?_
    refine gj_l (pc2 := 45) (fun _ _ _ => lv_dup hx hb d_X_doWord_44 rfl) ?_
    refine bj_gi F 3 (by decide) (by decide) d_X_doWord_45 q_46 rfl ?_
    refine gj_ld (i := 2) (pc2 := 49) rfl (fun _ _ _ h9 => lv_iload_n hx hb d_X_doWord_48 rfl h9) ?_
    refine bj_s F k_X_lengthOf d_X_doWord_49 q_263 (ct_X_lengthOf _) (rmo rfl) rfl rfl (Nat.le_of_ble_eq_true rfl) (Nat.zero_le _) (Nat.zero_le _) rfl (fun r9 e9 => ?_)
    subst e9
    refine gj_l (pc2 := 53) (fun _ _ _ => lv_iadd hx hb d_X_doWord_52) ?_
    refine bj_pi F 3 (by decide) (by decide) d_X_doWord_53 q_46 rfl ?_
    refine gj_ld (i := 0) (pc2 := 57) rfl (fun _ _ _ h9 => lv_aload_n hx hb d_X_doWord_56 rfl h9) ?_
    refine gj_ld (i := 2) (pc2 := 58) rfl (fun _ _ _ h9 => lv_iload_n hx hb d_X_doWord_57 rfl h9) ?_
    refine gj_ld (i := 3) (pc2 := 59) rfl (fun _ _ _ h9 => lv_iload_n hx hb d_X_doWord_58 rfl h9) ?_
    refine gj_ld (i := 4) (pc2 := 61) rfl (fun _ _ _ h9 => lv_iload hx hb d_X_doWord_59 h9) ?_
    refine bj_vv F k_X_perform d_X_doWord_61 q_280 (bw_at (i := 0) (by omega)) rfl (ct_X_perform _ _ _ (fun h9 => stB_mem h38 h9)) (rmo rfl) rfl rfl (Nat.le_of_ble_eq_true rfl) (Nat.zero_le _) (Nat.zero_le _) rfl (fun u9 e9 => ?_)
    subst e9
    refine gj_ld (i := 0) (pc2 := 65) rfl (fun _ _ _ h9 => lv_aload_n hx hb d_X_doWord_64 rfl h9) ?_
    refine gj_l (pc2 := 66) (fun _ _ _ => lv_dup hx hb d_X_doWord_65 rfl) ?_
    refine bj_gi F 6 (by decide) (by decide) d_X_doWord_66 q_49 rfl ?_
    refine gj_l (pc2 := 70) (fun _ _ _ => lv_iconst (v := 1) hx hb d_X_doWord_69 (by decide)) ?_
    refine gj_l (pc2 := 71) (fun _ _ _ => lv_iadd hx hb d_X_doWord_70) ?_
    refine bj_pi F 6 (by decide) (by decide) d_X_doWord_71 q_49 rfl ?_
    refine gj_l (pc2 := 75) (fun _ _ _ => lv_iconst (v := 1) hx hb d_X_doWord_74 (by decide)) ?_
    exact gj_zret F d_X_doWord_75 (by first | rfl | exact bN_z _ | decide) (Nat.le_refl _) (Nat.le_refl _) ⟨by rw [hB]; rfl, by unfold dwO; rw [hB]; rfl⟩
  · rw [s2_at] at h38
    have hB : dwB σ wd = false := decide_eq_false h38
    refine gj_l (pc2 := 42) (fun _ _ _ => lv_iconst (v := 0) hx hb d_X_doWord_41 (by decide)) ?_
    exact gj_zret F d_X_doWord_42 (by first | rfl | exact bN_z _ | decide) (Nat.le_refl _) (Nat.le_refl _) ⟨by rw [hB]; rfl, by unfold dwO; rw [hB]; rfl⟩
