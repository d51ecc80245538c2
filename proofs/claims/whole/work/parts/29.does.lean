theorem k_M_does : CKV y_M_does c_M_does 8 (some .boolean) 0 := ⟨q_453, q_3, q_452, sl_M_does, ⟨by decide +kernel, by decide +kernel, by decide +kernel⟩⟩
set_option maxHeartbeats 4000000 in
set_option maxRecDepth 100000 in
theorem ct_M_does {l : Launch} {D : va_G} {cI cB cZ cJ : ClassId} {a : Nat → Nat} {τ : St} (hZ : ZB τ) : GCi l y_M_does (Cond.code y_M_does c_M_does 8 (some .boolean) :: tbW) ({ frames := 4, cells := 0, slots := 0, locals := 85 }) 0 0 D vCl (TY cI cB cZ cJ) [.ref (a 0)] (mw a cI cZ τ) (fun r u => r = bN (doM τ).2 ∧ u = mw a cI cZ (doM τ).1) := by
  refine gc_body (Qc := gc_Qi D vCl (TY cI cB cZ cJ) (mw a cI cZ τ) (fun r u => r = bN (doM τ).2 ∧ u = mw a cI cZ (doM τ).1)) (cc := c_M_does) (maxL := 8) (ret := (some .boolean)) (by decide) rfl (by simp [Value.category]) (Nat.le_of_ble_eq_true rfl) ?_
  intro p e s m args below meth c F
  have hx := F.1
  have hb := F.2.1
  refine gj_ld (i := 0) (pc2 := 1) rfl (fun _ _ _ h9 => lv_aload_n hx hb d_M_does_0 rfl h9) ?_
  refine gj_ld (i := 0) (pc2 := 2) rfl (fun _ _ _ h9 => lv_aload_n hx hb d_M_does_1 rfl h9) ?_
  refine mj_gi F 3 rfl d_M_does_2 q_333 rfl ?_
  refine bj_vi F k_M_faultAt d_M_does_5 q_443 (mw_at (i := 0) (by omega)) rfl (ct_M_faultAt _) (rmo rfl) rfl rfl (Nat.le_of_ble_eq_true rfl) (Nat.zero_le _) (Nat.zero_le _) rfl (fun r9 u9 e9 => ?_)
  obtain ⟨rfl, rfl⟩ := e9
  refine gj_st (i := 1) (pc2 := 9) (Nat.le_of_ble_eq_true rfl) rfl (fun _ _ _ _ _ h9 l9 => lv_istore_n hx hb d_M_does_8 rfl h9 (Nat.le_of_ble_eq_true rfl) l9) ?_
  refine gj_ld (i := 1) (pc2 := 10) rfl (fun _ _ _ h9 => lv_iload_n hx hb d_M_does_9 rfl h9) ?_
  refine gj_if (pc2 := 20) (pc3 := 13) (fun _ _ _ => lv_if_le (tgt := 20) hx hb d_M_does_10 (by decide)) (fun h10 => ?_) (fun h10 => ?_)
  · obtain ⟨hp1, hp2, hp3, hp4⟩ := ft0 h10
    obtain ⟨i, hi, ei⟩ := inM_of hp1
    have hcl : (nI i).toNatClampNeg = i := nI_clamp (by omega)
    have hpi : (τ 0 3).toNatClampNeg = i := by rw [ei, hcl]
    refine gj_ld (i := 0) (pc2 := 21) rfl (fun _ _ _ h9 => lv_aload_n hx hb d_M_does_20 rfl h9) ?_
    refine gj_ld (i := 0) (pc2 := 22) rfl (fun _ _ _ h9 => lv_aload_n hx hb d_M_does_21 rfl h9) ?_
    refine mj_gi F 3 rfl d_M_does_22 q_333 rfl ?_
    refine bj_vi F k_M_kindAt d_M_does_25 q_439 (mw_at (i := 0) (by omega)) rfl (ct_M_kindAt _) (rmo rfl) rfl rfl (Nat.le_of_ble_eq_true rfl) (Nat.zero_le _) (Nat.zero_le _) rfl (fun r9 u9 e9 => ?_)
    obtain ⟨rfl, rfl⟩ := e9
    refine gj_st (i := 2) (pc2 := 29) (Nat.le_of_ble_eq_true rfl) rfl (fun _ _ _ _ _ h9 l9 => lv_istore_n hx hb d_M_does_28 rfl h9 (Nat.le_of_ble_eq_true rfl) l9) ?_
    refine gj_ld (i := 0) (pc2 := 30) rfl (fun _ _ _ h9 => lv_aload_n hx hb d_M_does_29 rfl h9) ?_
    refine mj_gr F 1 rfl d_M_does_30 q_331 rfl ?_
    refine gj_ld (i := 0) (pc2 := 34) rfl (fun _ _ _ h9 => lv_aload_n hx hb d_M_does_33 rfl h9) ?_
    refine mj_gi F 3 rfl d_M_does_34 q_333 rfl ?_
    refine mj_ld F 1 1024 i (by omega) rfl (by decide) ei hi d_M_does_37 rfl ?_
    refine gj_l (pc2 := 40) (fun _ _ _ => lv_bipush (v := (7)) hx hb d_M_does_38 (by decide)) ?_
    refine gj_l (pc2 := 41) (fun _ _ _ => lv_iand hx hb d_M_does_40) ?_
    refine gj_st (i := 3) (pc2 := 42) (Nat.le_of_ble_eq_true rfl) rfl (fun _ _ _ _ _ h9 l9 => lv_istore_n hx hb d_M_does_41 rfl h9 (Nat.le_of_ble_eq_true rfl) l9) ?_
    refine gj_ld (i := 2) (pc2 := 43) rfl (fun _ _ _ h9 => lv_iload_n hx hb d_M_does_42 rfl h9) ?_
    refine bj_s F k_M_sizeOf d_M_does_43 q_447 (ct_M_sizeOf _) (rmo rfl) rfl rfl (Nat.le_of_ble_eq_true rfl) (Nat.zero_le _) (Nat.zero_le _) rfl (fun r9 e9 => ?_)
    subst e9
    refine gj_l (pc2 := 47) (fun _ _ _ => lv_iconst (v := 2) hx hb d_M_does_46 (by decide)) ?_
    refine gj_if (pc2 := 64) (pc3 := 50) (fun _ _ _ => lv_icmp_ne (tgt := 64) hx hb d_M_does_47 (by decide)) (fun h47 => ?_) (fun h47 => ?_)
    · refine gj_l (pc2 := 65) (fun _ _ _ => lv_iconst (v := 0) hx hb d_M_does_64 (by decide)) ?_
      refine gj_eq (st3 := [.int (dN τ)]) rfl rfl (by unfold dN; rw [if_neg h47]) ?_
      refine gj_st (i := 4) (pc2 := 67) (Nat.le_of_ble_eq_true rfl) rfl (fun _ _ _ _ _ h9 l9 => lv_istore hx hb d_M_does_65 h9 (Nat.le_of_ble_eq_true rfl) l9) ?_
      refine gj_ld (i := 0) (pc2 := 68) rfl (fun _ _ _ h9 => lv_aload_n hx hb d_M_does_67 rfl h9) ?_
      refine mj_gr F 2 rfl d_M_does_68 q_332 rfl ?_
      refine gj_ld (i := 4) (pc2 := 73) rfl (fun _ _ _ h9 => lv_iload hx hb d_M_does_71 h9) ?_
      refine gj_l (pc2 := 75) (fun _ _ _ => lv_bipush (v := (7)) hx hb d_M_does_73 (by decide)) ?_
      refine gj_l (pc2 := 76) (fun _ _ _ => lv_iand hx hb d_M_does_75) ?_
      refine mj_ld F 2 8 (lo3 (dN τ)) (by omega) rfl (by decide) (lo3_eq _) (lo3_lt _) d_M_does_76 rfl ?_
      refine gj_st (i := 5) (pc2 := 79) (Nat.le_of_ble_eq_true rfl) rfl (fun _ _ _ _ _ h9 l9 => lv_istore hx hb d_M_does_77 h9 (Nat.le_of_ble_eq_true rfl) l9) ?_
      refine gj_ld (i := 2) (pc2 := 80) rfl (fun _ _ _ h9 => lv_iload_n hx hb d_M_does_79 rfl h9) ?_
      refine gj_if (pc2 := 90) (pc3 := 83) (fun _ _ _ => lv_if_ne (tgt := 90) hx hb d_M_does_80 (by decide)) (fun h80 => ?_) (fun h80 => ?_)
      · refine gj_ld (i := 2) (pc2 := 91) rfl (fun _ _ _ h9 => lv_iload_n hx hb d_M_does_90 rfl h9) ?_
        refine gj_l (pc2 := 92) (fun _ _ _ => lv_iconst (v := 4) hx hb d_M_does_91 (by decide)) ?_
        refine gj_if (pc2 := 100) (pc3 := 95) (fun _ _ _ => lv_icmp_eq (tgt := 100) hx hb d_M_does_92 (by decide)) (fun h92 => ?_) (fun h92 => ?_)
        · refine gj_ld (i := 5) (pc2 := 102) rfl (fun _ _ _ h9 => lv_iload hx hb d_M_does_100 h9) ?_
          refine bj_s F k_M_isThere d_M_does_102 q_397 (ct_M_isThere _) (rmo rfl) rfl rfl (Nat.le_of_ble_eq_true rfl) (Nat.zero_le _) (Nat.zero_le _) rfl (fun r9 e9 => ?_)
          subst e9
          refine gj_if (pc2 := 115) (pc3 := 108) (fun _ _ _ => lv_if_ne (tgt := 115) hx hb d_M_does_105 (by decide)) (fun h105 => ?_) (fun h105 => ?_)
          · refine gj_ld (i := 4) (pc2 := 117) rfl (fun _ _ _ h9 => lv_iload hx hb d_M_does_115 h9) ?_
            refine gj_l (pc2 := 119) (fun _ _ _ => lv_bipush (v := (127)) hx hb d_M_does_117 (by decide)) ?_
            refine gj_if (pc2 := 131) (pc3 := 122) (fun _ _ _ => lv_icmp_le (tgt := 131) hx hb d_M_does_119 (by decide)) (fun h119 => ?_) (fun h119 => ?_)
            · refine gj_ld (i := 4) (pc2 := 133) rfl (fun _ _ _ h9 => lv_iload hx hb d_M_does_131 h9) ?_
              refine gj_eq (st3 := [.int (dNr τ)]) rfl rfl (by unfold dNr; rw [if_pos h119]) ?_
              refine gj_st (i := 6) (pc2 := 135) (Nat.le_of_ble_eq_true rfl) rfl (fun _ _ _ _ _ h9 l9 => lv_istore hx hb d_M_does_133 h9 (Nat.le_of_ble_eq_true rfl) l9) ?_
              refine gj_ld (i := 0) (pc2 := 136) rfl (fun _ _ _ h9 => lv_aload_n hx hb d_M_does_135 rfl h9) ?_
              refine mj_gr F 1 rfl d_M_does_136 q_331 rfl ?_
              refine gj_ld (i := 0) (pc2 := 140) rfl (fun _ _ _ h9 => lv_aload_n hx hb d_M_does_139 rfl h9) ?_
              refine mj_gi F 3 rfl d_M_does_140 q_333 rfl ?_
              refine mj_ld F 1 1024 i (by omega) rfl (by decide) ei hi d_M_does_143 rfl ?_
              refine gj_l (pc2 := 146) (fun _ _ _ => lv_bipush (v := (15)) hx hb d_M_does_144 (by decide)) ?_
              refine gj_l (pc2 := 147) (fun _ _ _ => lv_iand hx hb d_M_does_146) ?_
              refine gj_st (i := 7) (pc2 := 149) (Nat.le_of_ble_eq_true rfl) rfl (fun _ _ _ _ _ h9 l9 => lv_istore hx hb d_M_does_147 h9 (Nat.le_of_ble_eq_true rfl) l9) ?_
              refine gj_ld (i := 0) (pc2 := 150) rfl (fun _ _ _ h9 => lv_aload_n hx hb d_M_does_149 rfl h9) ?_
              refine gj_l (pc2 := 151) (fun _ _ _ => lv_dup hx hb d_M_does_150 rfl) ?_
              refine mj_gi F 3 rfl d_M_does_151 q_333 rfl ?_
              refine gj_ld (i := 2) (pc2 := 155) rfl (fun _ _ _ h9 => lv_iload_n hx hb d_M_does_154 rfl h9) ?_
              refine bj_s F k_M_sizeOf d_M_does_155 q_447 (ct_M_sizeOf _) (rmo rfl) rfl rfl (Nat.le_of_ble_eq_true rfl) (Nat.zero_le _) (Nat.zero_le _) rfl (fun r9 e9 => ?_)
              subst e9
              refine gj_l (pc2 := 159) (fun _ _ _ => lv_iadd hx hb d_M_does_158) ?_
              refine mj_pi F 3 rfl d_M_does_159 q_333 rfl ?_
              refine gj_ld (i := 2) (pc2 := 163) rfl (fun _ _ _ h9 => lv_iload_n hx hb d_M_does_162 rfl h9) ?_
              refine gj_l (pc2 := 165) (fun _ _ _ => lv_bipush (v := (7)) hx hb d_M_does_163 (by decide)) ?_
              refine gj_if (pc2 := 195) (pc3 := 168) (fun _ _ _ => lv_icmp_ne (tgt := 195) hx hb d_M_does_165 (by decide)) (fun h165 => ?_) (fun h165 => ?_)
              · refine gj_ld (i := 0) (pc2 := 196) rfl (fun _ _ _ h9 => lv_aload_n hx hb d_M_does_195 rfl h9) ?_
                refine gj_ld (i := 2) (pc2 := 197) rfl (fun _ _ _ h9 => lv_iload_n hx hb d_M_does_196 rfl h9) ?_
                refine gj_ld (i := 3) (pc2 := 198) rfl (fun _ _ _ h9 => lv_iload_n hx hb d_M_does_197 rfl h9) ?_
                refine gj_ld (i := 5) (pc2 := 200) rfl (fun _ _ _ h9 => lv_iload hx hb d_M_does_198 h9) ?_
                refine gj_ld (i := 6) (pc2 := 202) rfl (fun _ _ _ h9 => lv_iload hx hb d_M_does_200 h9) ?_
                rw [lo3_eq]
                refine bj_vv F k_M_work d_M_does_202 q_462 (mw_at (i := 0) (by omega)) rfl (ct_M_work (τ := dPl τ) (kdM τ (τ 0 3)) (lo3_lt (τ 1 i)) (dSv τ) (dNr τ) (fun _ => bN_n0.mp h105)) (rmo rfl) rfl rfl (Nat.le_of_ble_eq_true rfl) (Nat.zero_le _) (Nat.zero_le _) rfl (fun u9 e9 => ?_)
                subst e9
                have hD := doM_5 h10 h80 (fun _ => bN_n0.mp h105) h165
                rw [hpi] at hD
                refine gj_l (pc2 := 206) (fun _ _ _ => lv_iconst (v := 1) hx hb d_M_does_205 (by decide)) ?_
                exact gj_zret F d_M_does_206 (by first | rfl | exact bN_z _ | decide) (Nat.le_refl _) (Nat.le_refl _) ⟨by rw [hD]; first | done | rfl, by rw [hD]; first | done | rfl⟩
              · have hD := doM_4 h10 h165
                have hCo : dCo τ = τ 1 i &&& 15 := by unfold dCo; rw [hpi]
                rw [hCo] at hD
                refine gj_ld (i := 0) (pc2 := 169) rfl (fun _ _ _ h9 => lv_aload_n hx hb d_M_does_168 rfl h9) ?_
                refine gj_l (pc2 := 170) (fun _ _ _ => lv_dup hx hb d_M_does_169 rfl) ?_
                refine mj_gi F 3 rfl d_M_does_170 q_333 rfl ?_
                refine gj_ld (i := 0) (pc2 := 174) rfl (fun _ _ _ h9 => lv_aload_n hx hb d_M_does_173 rfl h9) ?_
                refine gj_ld (i := 7) (pc2 := 176) rfl (fun _ _ _ h9 => lv_iload hx hb d_M_does_174 h9) ?_
                refine bj_vi F k_M_holds d_M_does_176 q_458 (mw_at (i := 0) (by omega)) rfl (ct_M_holds (τ := dPl τ) hZ.dPl _) (rmo rfl) rfl rfl (Nat.le_of_ble_eq_true rfl) (Nat.zero_le _) (Nat.zero_le _) rfl (fun r9 u9 e9 => ?_)
                obtain ⟨rfl, rfl⟩ := e9
                refine gj_if (pc2 := 187) (pc3 := 182) (fun _ _ _ => lv_if_eq (tgt := 187) hx hb d_M_does_179 (by decide)) (fun h179 => ?_) (fun h179 => ?_)
                · rw [if_pos h179] at hD
                  refine gj_l (pc2 := 188) (fun _ _ _ => lv_iconst (v := 0) hx hb d_M_does_187 (by decide)) ?_
                  refine gj_l (pc2 := 189) (fun _ _ _ => lv_iadd hx hb d_M_does_188) ?_
                  refine mj_pi F 3 rfl d_M_does_189 q_333 rfl ?_
                  refine gj_l (pc2 := 205) (fun _ _ _ => lv_goto (tgt := 205) hx hb d_M_does_192 (by decide)) ?_
                  refine gj_l (pc2 := 206) (fun _ _ _ => lv_iconst (v := 1) hx hb d_M_does_205 (by decide)) ?_
                  exact gj_zret F d_M_does_206 (by first | rfl | exact bN_z _ | decide) (Nat.le_refl _) (Nat.le_refl _) ⟨by rw [hD]; first | done | rfl, by rw [hD]; first | done | rfl⟩
                · rw [if_neg h179] at hD
                  refine gj_ld (i := 6) (pc2 := 184) rfl (fun _ _ _ h9 => lv_iload hx hb d_M_does_182 h9) ?_
                  refine gj_l (pc2 := 188) (fun _ _ _ => lv_goto (tgt := 188) hx hb d_M_does_184 (by decide)) ?_
                  refine gj_l (pc2 := 189) (fun _ _ _ => lv_iadd hx hb d_M_does_188) ?_
                  refine mj_pi F 3 rfl d_M_does_189 q_333 rfl ?_
                  refine gj_l (pc2 := 205) (fun _ _ _ => lv_goto (tgt := 205) hx hb d_M_does_192 (by decide)) ?_
                  refine gj_l (pc2 := 206) (fun _ _ _ => lv_iconst (v := 1) hx hb d_M_does_205 (by decide)) ?_
                  exact gj_zret F d_M_does_206 (by first | rfl | exact bN_z _ | decide) (Nat.le_refl _) (Nat.le_refl _) ⟨by rw [hD]; first | done | rfl, by rw [hD]; first | done | rfl⟩
            · refine gj_ld (i := 4) (pc2 := 124) rfl (fun _ _ _ h9 => lv_iload hx hb d_M_does_122 h9) ?_
              refine gj_l (pc2 := 127) (fun _ _ _ => lv_sipush (v := (256)) hx hb d_M_does_124 (by decide)) ?_
              refine gj_l (pc2 := 128) (fun _ _ _ => lv_isub hx hb d_M_does_127) ?_
              refine gj_l (pc2 := 133) (fun _ _ _ => lv_goto (tgt := 133) hx hb d_M_does_128 (by decide)) ?_
              refine gj_eq (st3 := [.int (dNr τ)]) rfl rfl (by unfold dNr; rw [if_neg h119]) ?_
              refine gj_st (i := 6) (pc2 := 135) (Nat.le_of_ble_eq_true rfl) rfl (fun _ _ _ _ _ h9 l9 => lv_istore hx hb d_M_does_133 h9 (Nat.le_of_ble_eq_true rfl) l9) ?_
              refine gj_ld (i := 0) (pc2 := 136) rfl (fun _ _ _ h9 => lv_aload_n hx hb d_M_does_135 rfl h9) ?_
              refine mj_gr F 1 rfl d_M_does_136 q_331 rfl ?_
              refine gj_ld (i := 0) (pc2 := 140) rfl (fun _ _ _ h9 => lv_aload_n hx hb d_M_does_139 rfl h9) ?_
              refine mj_gi F 3 rfl d_M_does_140 q_333 rfl ?_
              refine mj_ld F 1 1024 i (by omega) rfl (by decide) ei hi d_M_does_143 rfl ?_
              refine gj_l (pc2 := 146) (fun _ _ _ => lv_bipush (v := (15)) hx hb d_M_does_144 (by decide)) ?_
              refine gj_l (pc2 := 147) (fun _ _ _ => lv_iand hx hb d_M_does_146) ?_
              refine gj_st (i := 7) (pc2 := 149) (Nat.le_of_ble_eq_true rfl) rfl (fun _ _ _ _ _ h9 l9 => lv_istore hx hb d_M_does_147 h9 (Nat.le_of_ble_eq_true rfl) l9) ?_
              refine gj_ld (i := 0) (pc2 := 150) rfl (fun _ _ _ h9 => lv_aload_n hx hb d_M_does_149 rfl h9) ?_
              refine gj_l (pc2 := 151) (fun _ _ _ => lv_dup hx hb d_M_does_150 rfl) ?_
              refine mj_gi F 3 rfl d_M_does_151 q_333 rfl ?_
              refine gj_ld (i := 2) (pc2 := 155) rfl (fun _ _ _ h9 => lv_iload_n hx hb d_M_does_154 rfl h9) ?_
              refine bj_s F k_M_sizeOf d_M_does_155 q_447 (ct_M_sizeOf _) (rmo rfl) rfl rfl (Nat.le_of_ble_eq_true rfl) (Nat.zero_le _) (Nat.zero_le _) rfl (fun r9 e9 => ?_)
              subst e9
              refine gj_l (pc2 := 159) (fun _ _ _ => lv_iadd hx hb d_M_does_158) ?_
              refine mj_pi F 3 rfl d_M_does_159 q_333 rfl ?_
              refine gj_ld (i := 2) (pc2 := 163) rfl (fun _ _ _ h9 => lv_iload_n hx hb d_M_does_162 rfl h9) ?_
              refine gj_l (pc2 := 165) (fun _ _ _ => lv_bipush (v := (7)) hx hb d_M_does_163 (by decide)) ?_
              refine gj_if (pc2 := 195) (pc3 := 168) (fun _ _ _ => lv_icmp_ne (tgt := 195) hx hb d_M_does_165 (by decide)) (fun h165 => ?_) (fun h165 => ?_)
              · refine gj_ld (i := 0) (pc2 := 196) rfl (fun _ _ _ h9 => lv_aload_n hx hb d_M_does_195 rfl h9) ?_
                refine gj_ld (i := 2) (pc2 := 197) rfl (fun _ _ _ h9 => lv_iload_n hx hb d_M_does_196 rfl h9) ?_
                refine gj_ld (i := 3) (pc2 := 198) rfl (fun _ _ _ h9 => lv_iload_n hx hb d_M_does_197 rfl h9) ?_
                refine gj_ld (i := 5) (pc2 := 200) rfl (fun _ _ _ h9 => lv_iload hx hb d_M_does_198 h9) ?_
                refine gj_ld (i := 6) (pc2 := 202) rfl (fun _ _ _ h9 => lv_iload hx hb d_M_does_200 h9) ?_
                rw [lo3_eq]
                refine bj_vv F k_M_work d_M_does_202 q_462 (mw_at (i := 0) (by omega)) rfl (ct_M_work (τ := dPl τ) (kdM τ (τ 0 3)) (lo3_lt (τ 1 i)) (dSv τ) (dNr τ) (fun _ => bN_n0.mp h105)) (rmo rfl) rfl rfl (Nat.le_of_ble_eq_true rfl) (Nat.zero_le _) (Nat.zero_le _) rfl (fun u9 e9 => ?_)
                subst e9
                have hD := doM_5 h10 h80 (fun _ => bN_n0.mp h105) h165
                rw [hpi] at hD
                refine gj_l (pc2 := 206) (fun _ _ _ => lv_iconst (v := 1) hx hb d_M_does_205 (by decide)) ?_
                exact gj_zret F d_M_does_206 (by first | rfl | exact bN_z _ | decide) (Nat.le_refl _) (Nat.le_refl _) ⟨by rw [hD]; first | done | rfl, by rw [hD]; first | done | rfl⟩
              · have hD := doM_4 h10 h165
                have hCo : dCo τ = τ 1 i &&& 15 := by unfold dCo; rw [hpi]
                rw [hCo] at hD
                refine gj_ld (i := 0) (pc2 := 169) rfl (fun _ _ _ h9 => lv_aload_n hx hb d_M_does_168 rfl h9) ?_
                refine gj_l (pc2 := 170) (fun _ _ _ => lv_dup hx hb d_M_does_169 rfl) ?_
                refine mj_gi F 3 rfl d_M_does_170 q_333 rfl ?_
                refine gj_ld (i := 0) (pc2 := 174) rfl (fun _ _ _ h9 => lv_aload_n hx hb d_M_does_173 rfl h9) ?_
                refine gj_ld (i := 7) (pc2 := 176) rfl (fun _ _ _ h9 => lv_iload hx hb d_M_does_174 h9) ?_
                refine bj_vi F k_M_holds d_M_does_176 q_458 (mw_at (i := 0) (by omega)) rfl (ct_M_holds (τ := dPl τ) hZ.dPl _) (rmo rfl) rfl rfl (Nat.le_of_ble_eq_true rfl) (Nat.zero_le _) (Nat.zero_le _) rfl (fun r9 u9 e9 => ?_)
                obtain ⟨rfl, rfl⟩ := e9
                refine gj_if (pc2 := 187) (pc3 := 182) (fun _ _ _ => lv_if_eq (tgt := 187) hx hb d_M_does_179 (by decide)) (fun h179 => ?_) (fun h179 => ?_)
                · rw [if_pos h179] at hD
                  refine gj_l (pc2 := 188) (fun _ _ _ => lv_iconst (v := 0) hx hb d_M_does_187 (by decide)) ?_
                  refine gj_l (pc2 := 189) (fun _ _ _ => lv_iadd hx hb d_M_does_188) ?_
                  refine mj_pi F 3 rfl d_M_does_189 q_333 rfl ?_
                  refine gj_l (pc2 := 205) (fun _ _ _ => lv_goto (tgt := 205) hx hb d_M_does_192 (by decide)) ?_
                  refine gj_l (pc2 := 206) (fun _ _ _ => lv_iconst (v := 1) hx hb d_M_does_205 (by decide)) ?_
                  exact gj_zret F d_M_does_206 (by first | rfl | exact bN_z _ | decide) (Nat.le_refl _) (Nat.le_refl _) ⟨by rw [hD]; first | done | rfl, by rw [hD]; first | done | rfl⟩
                · rw [if_neg h179] at hD
                  refine gj_ld (i := 6) (pc2 := 184) rfl (fun _ _ _ h9 => lv_iload hx hb d_M_does_182 h9) ?_
                  refine gj_l (pc2 := 188) (fun _ _ _ => lv_goto (tgt := 188) hx hb d_M_does_184 (by decide)) ?_
                  refine gj_l (pc2 := 189) (fun _ _ _ => lv_iadd hx hb d_M_does_188) ?_
                  refine mj_pi F 3 rfl d_M_does_189 q_333 rfl ?_
                  refine gj_l (pc2 := 205) (fun _ _ _ => lv_goto (tgt := 205) hx hb d_M_does_192 (by decide)) ?_
                  refine gj_l (pc2 := 206) (fun _ _ _ => lv_iconst (v := 1) hx hb d_M_does_205 (by decide)) ?_
                  exact gj_zret F d_M_does_206 (by first | rfl | exact bN_z _ | decide) (Nat.le_refl _) (Nat.le_refl _) ⟨by rw [hD]; first | done | rfl, by rw [hD]; first | done | rfl⟩
          · have hD := doM_3 h10 h80 (Or.inl h92) (bN_0.mp h105)
            refine gj_ld (i := 0) (pc2 := 109) rfl (fun _ _ _ h9 => lv_aload_n hx hb d_M_does_108 rfl h9) ?_
            refine gj_l (pc2 := 110) (fun _ _ _ => lv_iconst (v := 1) hx hb d_M_does_109 (by decide)) ?_
            refine bj_vv F k_M_fault d_M_does_110 q_454 (mw_at (i := 0) (by omega)) rfl (ct_M_fault _) (rmo rfl) rfl rfl (Nat.le_of_ble_eq_true rfl) (Nat.zero_le _) (Nat.zero_le _) rfl (fun u9 e9 => ?_)
            subst e9
            refine gj_l (pc2 := 114) (fun _ _ _ => lv_iconst (v := 0) hx hb d_M_does_113 (by decide)) ?_
            exact gj_zret F d_M_does_114 (by first | rfl | exact bN_z _ | decide) (Nat.le_refl _) (Nat.le_refl _) ⟨by rw [hD]; first | done | rfl, by rw [hD]; first | done | rfl⟩
        · refine gj_ld (i := 2) (pc2 := 96) rfl (fun _ _ _ h9 => lv_iload_n hx hb d_M_does_95 rfl h9) ?_
          refine gj_l (pc2 := 97) (fun _ _ _ => lv_iconst (v := 5) hx hb d_M_does_96 (by decide)) ?_
          refine gj_if (pc2 := 115) (pc3 := 100) (fun _ _ _ => lv_icmp_ne (tgt := 115) hx hb d_M_does_97 (by decide)) (fun h97 => ?_) (fun h97 => ?_)
          · refine gj_ld (i := 4) (pc2 := 117) rfl (fun _ _ _ h9 => lv_iload hx hb d_M_does_115 h9) ?_
            refine gj_l (pc2 := 119) (fun _ _ _ => lv_bipush (v := (127)) hx hb d_M_does_117 (by decide)) ?_
            refine gj_if (pc2 := 131) (pc3 := 122) (fun _ _ _ => lv_icmp_le (tgt := 131) hx hb d_M_does_119 (by decide)) (fun h119 => ?_) (fun h119 => ?_)
            · refine gj_ld (i := 4) (pc2 := 133) rfl (fun _ _ _ h9 => lv_iload hx hb d_M_does_131 h9) ?_
              refine gj_eq (st3 := [.int (dNr τ)]) rfl rfl (by unfold dNr; rw [if_pos h119]) ?_
              refine gj_st (i := 6) (pc2 := 135) (Nat.le_of_ble_eq_true rfl) rfl (fun _ _ _ _ _ h9 l9 => lv_istore hx hb d_M_does_133 h9 (Nat.le_of_ble_eq_true rfl) l9) ?_
              refine gj_ld (i := 0) (pc2 := 136) rfl (fun _ _ _ h9 => lv_aload_n hx hb d_M_does_135 rfl h9) ?_
              refine mj_gr F 1 rfl d_M_does_136 q_331 rfl ?_
              refine gj_ld (i := 0) (pc2 := 140) rfl (fun _ _ _ h9 => lv_aload_n hx hb d_M_does_139 rfl h9) ?_
              refine mj_gi F 3 rfl d_M_does_140 q_333 rfl ?_
              refine mj_ld F 1 1024 i (by omega) rfl (by decide) ei hi d_M_does_143 rfl ?_
              refine gj_l (pc2 := 146) (fun _ _ _ => lv_bipush (v := (15)) hx hb d_M_does_144 (by decide)) ?_
              refine gj_l (pc2 := 147) (fun _ _ _ => lv_iand hx hb d_M_does_146) ?_
              refine gj_st (i := 7) (pc2 := 149) (Nat.le_of_ble_eq_true rfl) rfl (fun _ _ _ _ _ h9 l9 => lv_istore hx hb d_M_does_147 h9 (Nat.le_of_ble_eq_true rfl) l9) ?_
              refine gj_ld (i := 0) (pc2 := 150) rfl (fun _ _ _ h9 => lv_aload_n hx hb d_M_does_149 rfl h9) ?_
              refine gj_l (pc2 := 151) (fun _ _ _ => lv_dup hx hb d_M_does_150 rfl) ?_
              refine mj_gi F 3 rfl d_M_does_151 q_333 rfl ?_
              refine gj_ld (i := 2) (pc2 := 155) rfl (fun _ _ _ h9 => lv_iload_n hx hb d_M_does_154 rfl h9) ?_
              refine bj_s F k_M_sizeOf d_M_does_155 q_447 (ct_M_sizeOf _) (rmo rfl) rfl rfl (Nat.le_of_ble_eq_true rfl) (Nat.zero_le _) (Nat.zero_le _) rfl (fun r9 e9 => ?_)
              subst e9
              refine gj_l (pc2 := 159) (fun _ _ _ => lv_iadd hx hb d_M_does_158) ?_
              refine mj_pi F 3 rfl d_M_does_159 q_333 rfl ?_
              refine gj_ld (i := 2) (pc2 := 163) rfl (fun _ _ _ h9 => lv_iload_n hx hb d_M_does_162 rfl h9) ?_
              refine gj_l (pc2 := 165) (fun _ _ _ => lv_bipush (v := (7)) hx hb d_M_does_163 (by decide)) ?_
              refine gj_if (pc2 := 195) (pc3 := 168) (fun _ _ _ => lv_icmp_ne (tgt := 195) hx hb d_M_does_165 (by decide)) (fun h165 => ?_) (fun h165 => ?_)
              · refine gj_ld (i := 0) (pc2 := 196) rfl (fun _ _ _ h9 => lv_aload_n hx hb d_M_does_195 rfl h9) ?_
                refine gj_ld (i := 2) (pc2 := 197) rfl (fun _ _ _ h9 => lv_iload_n hx hb d_M_does_196 rfl h9) ?_
                refine gj_ld (i := 3) (pc2 := 198) rfl (fun _ _ _ h9 => lv_iload_n hx hb d_M_does_197 rfl h9) ?_
                refine gj_ld (i := 5) (pc2 := 200) rfl (fun _ _ _ h9 => lv_iload hx hb d_M_does_198 h9) ?_
                refine gj_ld (i := 6) (pc2 := 202) rfl (fun _ _ _ h9 => lv_iload hx hb d_M_does_200 h9) ?_
                rw [lo3_eq]
                refine bj_vv F k_M_work d_M_does_202 q_462 (mw_at (i := 0) (by omega)) rfl (ct_M_work (τ := dPl τ) (kdM τ (τ 0 3)) (lo3_lt (τ 1 i)) (dSv τ) (dNr τ) (fun h9 => by rcases h9 with h9 | h9 <;> first | exact absurd h9 h92 | exact absurd h9 h97)) (rmo rfl) rfl rfl (Nat.le_of_ble_eq_true rfl) (Nat.zero_le _) (Nat.zero_le _) rfl (fun u9 e9 => ?_)
                subst e9
                have hD := doM_5 h10 h80 (fun h9 => by rcases h9 with h9 | h9 <;> first | exact absurd h9 h92 | exact absurd h9 h97) h165
                rw [hpi] at hD
                refine gj_l (pc2 := 206) (fun _ _ _ => lv_iconst (v := 1) hx hb d_M_does_205 (by decide)) ?_
                exact gj_zret F d_M_does_206 (by first | rfl | exact bN_z _ | decide) (Nat.le_refl _) (Nat.le_refl _) ⟨by rw [hD]; first | done | rfl, by rw [hD]; first | done | rfl⟩
              · have hD := doM_4 h10 h165
                have hCo : dCo τ = τ 1 i &&& 15 := by unfold dCo; rw [hpi]
                rw [hCo] at hD
                refine gj_ld (i := 0) (pc2 := 169) rfl (fun _ _ _ h9 => lv_aload_n hx hb d_M_does_168 rfl h9) ?_
                refine gj_l (pc2 := 170) (fun _ _ _ => lv_dup hx hb d_M_does_169 rfl) ?_
                refine mj_gi F 3 rfl d_M_does_170 q_333 rfl ?_
                refine gj_ld (i := 0) (pc2 := 174) rfl (fun _ _ _ h9 => lv_aload_n hx hb d_M_does_173 rfl h9) ?_
                refine gj_ld (i := 7) (pc2 := 176) rfl (fun _ _ _ h9 => lv_iload hx hb d_M_does_174 h9) ?_
                refine bj_vi F k_M_holds d_M_does_176 q_458 (mw_at (i := 0) (by omega)) rfl (ct_M_holds (τ := dPl τ) hZ.dPl _) (rmo rfl) rfl rfl (Nat.le_of_ble_eq_true rfl) (Nat.zero_le _) (Nat.zero_le _) rfl (fun r9 u9 e9 => ?_)
                obtain ⟨rfl, rfl⟩ := e9
                refine gj_if (pc2 := 187) (pc3 := 182) (fun _ _ _ => lv_if_eq (tgt := 187) hx hb d_M_does_179 (by decide)) (fun h179 => ?_) (fun h179 => ?_)
                · rw [if_pos h179] at hD
                  refine gj_l (pc2 := 188) (fun _ _ _ => lv_iconst (v := 0) hx hb d_M_does_187 (by decide)) ?_
                  refine gj_l (pc2 := 189) (fun _ _ _ => lv_iadd hx hb d_M_does_188) ?_
                  refine mj_pi F 3 rfl d_M_does_189 q_333 rfl ?_
                  refine gj_l (pc2 := 205) (fun _ _ _ => lv_goto (tgt := 205) hx hb d_M_does_192 (by decide)) ?_
                  refine gj_l (pc2 := 206) (fun _ _ _ => lv_iconst (v := 1) hx hb d_M_does_205 (by decide)) ?_
                  exact gj_zret F d_M_does_206 (by first | rfl | exact bN_z _ | decide) (Nat.le_refl _) (Nat.le_refl _) ⟨by rw [hD]; first | done | rfl, by rw [hD]; first | done | rfl⟩
                · rw [if_neg h179] at hD
                  refine gj_ld (i := 6) (pc2 := 184) rfl (fun _ _ _ h9 => lv_iload hx hb d_M_does_182 h9) ?_
                  refine gj_l (pc2 := 188) (fun _ _ _ => lv_goto (tgt := 188) hx hb d_M_does_184 (by decide)) ?_
                  refine gj_l (pc2 := 189) (fun _ _ _ => lv_iadd hx hb d_M_does_188) ?_
                  refine mj_pi F 3 rfl d_M_does_189 q_333 rfl ?_
                  refine gj_l (pc2 := 205) (fun _ _ _ => lv_goto (tgt := 205) hx hb d_M_does_192 (by decide)) ?_
                  refine gj_l (pc2 := 206) (fun _ _ _ => lv_iconst (v := 1) hx hb d_M_does_205 (by decide)) ?_
                  exact gj_zret F d_M_does_206 (by first | rfl | exact bN_z _ | decide) (Nat.le_refl _) (Nat.le_refl _) ⟨by rw [hD]; first | done | rfl, by rw [hD]; first | done | rfl⟩
            · refine gj_ld (i := 4) (pc2 := 124) rfl (fun _ _ _ h9 => lv_iload hx hb d_M_does_122 h9) ?_
              refine gj_l (pc2 := 127) (fun _ _ _ => lv_sipush (v := (256)) hx hb d_M_does_124 (by decide)) ?_
              refine gj_l (pc2 := 128) (fun _ _ _ => lv_isub hx hb d_M_does_127) ?_
              refine gj_l (pc2 := 133) (fun _ _ _ => lv_goto (tgt := 133) hx hb d_M_does_128 (by decide)) ?_
              refine gj_eq (st3 := [.int (dNr τ)]) rfl rfl (by unfold dNr; rw [if_neg h119]) ?_
              refine gj_st (i := 6) (pc2 := 135) (Nat.le_of_ble_eq_true rfl) rfl (fun _ _ _ _ _ h9 l9 => lv_istore hx hb d_M_does_133 h9 (Nat.le_of_ble_eq_true rfl) l9) ?_
              refine gj_ld (i := 0) (pc2 := 136) rfl (fun _ _ _ h9 => lv_aload_n hx hb d_M_does_135 rfl h9) ?_
              refine mj_gr F 1 rfl d_M_does_136 q_331 rfl ?_
              refine gj_ld (i := 0) (pc2 := 140) rfl (fun _ _ _ h9 => lv_aload_n hx hb d_M_does_139 rfl h9) ?_
              refine mj_gi F 3 rfl d_M_does_140 q_333 rfl ?_
              refine mj_ld F 1 1024 i (by omega) rfl (by decide) ei hi d_M_does_143 rfl ?_
              refine gj_l (pc2 := 146) (fun _ _ _ => lv_bipush (v := (15)) hx hb d_M_does_144 (by decide)) ?_
              refine gj_l (pc2 := 147) (fun _ _ _ => lv_iand hx hb d_M_does_146) ?_
              refine gj_st (i := 7) (pc2 := 149) (Nat.le_of_ble_eq_true rfl) rfl (fun _ _ _ _ _ h9 l9 => lv_istore hx hb d_M_does_147 h9 (Nat.le_of_ble_eq_true rfl) l9) ?_
              refine gj_ld (i := 0) (pc2 := 150) rfl (fun _ _ _ h9 => lv_aload_n hx hb d_M_does_149 rfl h9) ?_
              refine gj_l (pc2 := 151) (fun _ _ _ => lv_dup hx hb d_M_does_150 rfl) ?_
              refine mj_gi F 3 rfl d_M_does_151 q_333 rfl ?_
              refine gj_ld (i := 2) (pc2 := 155) rfl (fun _ _ _ h9 => lv_iload_n hx hb d_M_does_154 rfl h9) ?_
              refine bj_s F k_M_sizeOf d_M_does_155 q_447 (ct_M_sizeOf _) (rmo rfl) rfl rfl (Nat.le_of_ble_eq_true rfl) (Nat.zero_le _) (Nat.zero_le _) rfl (fun r9 e9 => ?_)
              subst e9
              refine gj_l (pc2 := 159) (fun _ _ _ => lv_iadd hx hb d_M_does_158) ?_
              refine mj_pi F 3 rfl d_M_does_159 q_333 rfl ?_
              refine gj_ld (i := 2) (pc2 := 163) rfl (fun _ _ _ h9 => lv_iload_n hx hb d_M_does_162 rfl h9) ?_
              refine gj_l (pc2 := 165) (fun _ _ _ => lv_bipush (v := (7)) hx hb d_M_does_163 (by decide)) ?_
              refine gj_if (pc2 := 195) (pc3 := 168) (fun _ _ _ => lv_icmp_ne (tgt := 195) hx hb d_M_does_165 (by decide)) (fun h165 => ?_) (fun h165 => ?_)
              · refine gj_ld (i := 0) (pc2 := 196) rfl (fun _ _ _ h9 => lv_aload_n hx hb d_M_does_195 rfl h9) ?_
                refine gj_ld (i := 2) (pc2 := 197) rfl (fun _ _ _ h9 => lv_iload_n hx hb d_M_does_196 rfl h9) ?_
                refine gj_ld (i := 3) (pc2 := 198) rfl (fun _ _ _ h9 => lv_iload_n hx hb d_M_does_197 rfl h9) ?_
                refine gj_ld (i := 5) (pc2 := 200) rfl (fun _ _ _ h9 => lv_iload hx hb d_M_does_198 h9) ?_
                refine gj_ld (i := 6) (pc2 := 202) rfl (fun _ _ _ h9 => lv_iload hx hb d_M_does_200 h9) ?_
                rw [lo3_eq]
                refine bj_vv F k_M_work d_M_does_202 q_462 (mw_at (i := 0) (by omega)) rfl (ct_M_work (τ := dPl τ) (kdM τ (τ 0 3)) (lo3_lt (τ 1 i)) (dSv τ) (dNr τ) (fun h9 => by rcases h9 with h9 | h9 <;> first | exact absurd h9 h92 | exact absurd h9 h97)) (rmo rfl) rfl rfl (Nat.le_of_ble_eq_true rfl) (Nat.zero_le _) (Nat.zero_le _) rfl (fun u9 e9 => ?_)
                subst e9
                have hD := doM_5 h10 h80 (fun h9 => by rcases h9 with h9 | h9 <;> first | exact absurd h9 h92 | exact absurd h9 h97) h165
                rw [hpi] at hD
                refine gj_l (pc2 := 206) (fun _ _ _ => lv_iconst (v := 1) hx hb d_M_does_205 (by decide)) ?_
                exact gj_zret F d_M_does_206 (by first | rfl | exact bN_z _ | decide) (Nat.le_refl _) (Nat.le_refl _) ⟨by rw [hD]; first | done | rfl, by rw [hD]; first | done | rfl⟩
              · have hD := doM_4 h10 h165
                have hCo : dCo τ = τ 1 i &&& 15 := by unfold dCo; rw [hpi]
                rw [hCo] at hD
                refine gj_ld (i := 0) (pc2 := 169) rfl (fun _ _ _ h9 => lv_aload_n hx hb d_M_does_168 rfl h9) ?_
                refine gj_l (pc2 := 170) (fun _ _ _ => lv_dup hx hb d_M_does_169 rfl) ?_
                refine mj_gi F 3 rfl d_M_does_170 q_333 rfl ?_
                refine gj_ld (i := 0) (pc2 := 174) rfl (fun _ _ _ h9 => lv_aload_n hx hb d_M_does_173 rfl h9) ?_
                refine gj_ld (i := 7) (pc2 := 176) rfl (fun _ _ _ h9 => lv_iload hx hb d_M_does_174 h9) ?_
                refine bj_vi F k_M_holds d_M_does_176 q_458 (mw_at (i := 0) (by omega)) rfl (ct_M_holds (τ := dPl τ) hZ.dPl _) (rmo rfl) rfl rfl (Nat.le_of_ble_eq_true rfl) (Nat.zero_le _) (Nat.zero_le _) rfl (fun r9 u9 e9 => ?_)
                obtain ⟨rfl, rfl⟩ := e9
                refine gj_if (pc2 := 187) (pc3 := 182) (fun _ _ _ => lv_if_eq (tgt := 187) hx hb d_M_does_179 (by decide)) (fun h179 => ?_) (fun h179 => ?_)
                · rw [if_pos h179] at hD
                  refine gj_l (pc2 := 188) (fun _ _ _ => lv_iconst (v := 0) hx hb d_M_does_187 (by decide)) ?_
                  refine gj_l (pc2 := 189) (fun _ _ _ => lv_iadd hx hb d_M_does_188) ?_
                  refine mj_pi F 3 rfl d_M_does_189 q_333 rfl ?_
                  refine gj_l (pc2 := 205) (fun _ _ _ => lv_goto (tgt := 205) hx hb d_M_does_192 (by decide)) ?_
                  refine gj_l (pc2 := 206) (fun _ _ _ => lv_iconst (v := 1) hx hb d_M_does_205 (by decide)) ?_
                  exact gj_zret F d_M_does_206 (by first | rfl | exact bN_z _ | decide) (Nat.le_refl _) (Nat.le_refl _) ⟨by rw [hD]; first | done | rfl, by rw [hD]; first | done | rfl⟩
                · rw [if_neg h179] at hD
                  refine gj_ld (i := 6) (pc2 := 184) rfl (fun _ _ _ h9 => lv_iload hx hb d_M_does_182 h9) ?_
                  refine gj_l (pc2 := 188) (fun _ _ _ => lv_goto (tgt := 188) hx hb d_M_does_184 (by decide)) ?_
                  refine gj_l (pc2 := 189) (fun _ _ _ => lv_iadd hx hb d_M_does_188) ?_
                  refine mj_pi F 3 rfl d_M_does_189 q_333 rfl ?_
                  refine gj_l (pc2 := 205) (fun _ _ _ => lv_goto (tgt := 205) hx hb d_M_does_192 (by decide)) ?_
                  refine gj_l (pc2 := 206) (fun _ _ _ => lv_iconst (v := 1) hx hb d_M_does_205 (by decide)) ?_
                  exact gj_zret F d_M_does_206 (by first | rfl | exact bN_z _ | decide) (Nat.le_refl _) (Nat.le_refl _) ⟨by rw [hD]; first | done | rfl, by rw [hD]; first | done | rfl⟩
          · refine gj_ld (i := 5) (pc2 := 102) rfl (fun _ _ _ h9 => lv_iload hx hb d_M_does_100 h9) ?_
            refine bj_s F k_M_isThere d_M_does_102 q_397 (ct_M_isThere _) (rmo rfl) rfl rfl (Nat.le_of_ble_eq_true rfl) (Nat.zero_le _) (Nat.zero_le _) rfl (fun r9 e9 => ?_)
            subst e9
            refine gj_if (pc2 := 115) (pc3 := 108) (fun _ _ _ => lv_if_ne (tgt := 115) hx hb d_M_does_105 (by decide)) (fun h105 => ?_) (fun h105 => ?_)
            · refine gj_ld (i := 4) (pc2 := 117) rfl (fun _ _ _ h9 => lv_iload hx hb d_M_does_115 h9) ?_
              refine gj_l (pc2 := 119) (fun _ _ _ => lv_bipush (v := (127)) hx hb d_M_does_117 (by decide)) ?_
              refine gj_if (pc2 := 131) (pc3 := 122) (fun _ _ _ => lv_icmp_le (tgt := 131) hx hb d_M_does_119 (by decide)) (fun h119 => ?_) (fun h119 => ?_)
              · refine gj_ld (i := 4) (pc2 := 133) rfl (fun _ _ _ h9 => lv_iload hx hb d_M_does_131 h9) ?_
                refine gj_eq (st3 := [.int (dNr τ)]) rfl rfl (by unfold dNr; rw [if_pos h119]) ?_
                refine gj_st (i := 6) (pc2 := 135) (Nat.le_of_ble_eq_true rfl) rfl (fun _ _ _ _ _ h9 l9 => lv_istore hx hb d_M_does_133 h9 (Nat.le_of_ble_eq_true rfl) l9) ?_
                refine gj_ld (i := 0) (pc2 := 136) rfl (fun _ _ _ h9 => lv_aload_n hx hb d_M_does_135 rfl h9) ?_
                refine mj_gr F 1 rfl d_M_does_136 q_331 rfl ?_
                refine gj_ld (i := 0) (pc2 := 140) rfl (fun _ _ _ h9 => lv_aload_n hx hb d_M_does_139 rfl h9) ?_
                refine mj_gi F 3 rfl d_M_does_140 q_333 rfl ?_
                refine mj_ld F 1 1024 i (by omega) rfl (by decide) ei hi d_M_does_143 rfl ?_
                refine gj_l (pc2 := 146) (fun _ _ _ => lv_bipush (v := (15)) hx hb d_M_does_144 (by decide)) ?_
                refine gj_l (pc2 := 147) (fun _ _ _ => lv_iand hx hb d_M_does_146) ?_
                refine gj_st (i := 7) (pc2 := 149) (Nat.le_of_ble_eq_true rfl) rfl (fun _ _ _ _ _ h9 l9 => lv_istore hx hb d_M_does_147 h9 (Nat.le_of_ble_eq_true rfl) l9) ?_
                refine gj_ld (i := 0) (pc2 := 150) rfl (fun _ _ _ h9 => lv_aload_n hx hb d_M_does_149 rfl h9) ?_
                refine gj_l (pc2 := 151) (fun _ _ _ => lv_dup hx hb d_M_does_150 rfl) ?_
                refine mj_gi F 3 rfl d_M_does_151 q_333 rfl ?_
                refine gj_ld (i := 2) (pc2 := 155) rfl (fun _ _ _ h9 => lv_iload_n hx hb d_M_does_154 rfl h9) ?_
                refine bj_s F k_M_sizeOf d_M_does_155 q_447 (ct_M_sizeOf _) (rmo rfl) rfl rfl (Nat.le_of_ble_eq_true rfl) (Nat.zero_le _) (Nat.zero_le _) rfl (fun r9 e9 => ?_)
                subst e9
                refine gj_l (pc2 := 159) (fun _ _ _ => lv_iadd hx hb d_M_does_158) ?_
                refine mj_pi F 3 rfl d_M_does_159 q_333 rfl ?_
                refine gj_ld (i := 2) (pc2 := 163) rfl (fun _ _ _ h9 => lv_iload_n hx hb d_M_does_162 rfl h9) ?_
                refine gj_l (pc2 := 165) (fun _ _ _ => lv_bipush (v := (7)) hx hb d_M_does_163 (by decide)) ?_
                refine gj_if (pc2 := 195) (pc3 := 168) (fun _ _ _ => lv_icmp_ne (tgt := 195) hx hb d_M_does_165 (by decide)) (fun h165 => ?_) (fun h165 => ?_)
                · refine gj_ld (i := 0) (pc2 := 196) rfl (fun _ _ _ h9 => lv_aload_n hx hb d_M_does_195 rfl h9) ?_
                  refine gj_ld (i := 2) (pc2 := 197) rfl (fun _ _ _ h9 => lv_iload_n hx hb d_M_does_196 rfl h9) ?_
                  refine gj_ld (i := 3) (pc2 := 198) rfl (fun _ _ _ h9 => lv_iload_n hx hb d_M_does_197 rfl h9) ?_
                  refine gj_ld (i := 5) (pc2 := 200) rfl (fun _ _ _ h9 => lv_iload hx hb d_M_does_198 h9) ?_
                  refine gj_ld (i := 6) (pc2 := 202) rfl (fun _ _ _ h9 => lv_iload hx hb d_M_does_200 h9) ?_
                  rw [lo3_eq]
                  refine bj_vv F k_M_work d_M_does_202 q_462 (mw_at (i := 0) (by omega)) rfl (ct_M_work (τ := dPl τ) (kdM τ (τ 0 3)) (lo3_lt (τ 1 i)) (dSv τ) (dNr τ) (fun _ => bN_n0.mp h105)) (rmo rfl) rfl rfl (Nat.le_of_ble_eq_true rfl) (Nat.zero_le _) (Nat.zero_le _) rfl (fun u9 e9 => ?_)
                  subst e9
                  have hD := doM_5 h10 h80 (fun _ => bN_n0.mp h105) h165
                  rw [hpi] at hD
                  refine gj_l (pc2 := 206) (fun _ _ _ => lv_iconst (v := 1) hx hb d_M_does_205 (by decide)) ?_
                  exact gj_zret F d_M_does_206 (by first | rfl | exact bN_z _ | decide) (Nat.le_refl _) (Nat.le_refl _) ⟨by rw [hD]; first | done | rfl, by rw [hD]; first | done | rfl⟩
                · have hD := doM_4 h10 h165
                  have hCo : dCo τ = τ 1 i &&& 15 := by unfold dCo; rw [hpi]
                  rw [hCo] at hD
                  refine gj_ld (i := 0) (pc2 := 169) rfl (fun _ _ _ h9 => lv_aload_n hx hb d_M_does_168 rfl h9) ?_
                  refine gj_l (pc2 := 170) (fun _ _ _ => lv_dup hx hb d_M_does_169 rfl) ?_
                  refine mj_gi F 3 rfl d_M_does_170 q_333 rfl ?_
                  refine gj_ld (i := 0) (pc2 := 174) rfl (fun _ _ _ h9 => lv_aload_n hx hb d_M_does_173 rfl h9) ?_
                  refine gj_ld (i := 7) (pc2 := 176) rfl (fun _ _ _ h9 => lv_iload hx hb d_M_does_174 h9) ?_
                  refine bj_vi F k_M_holds d_M_does_176 q_458 (mw_at (i := 0) (by omega)) rfl (ct_M_holds (τ := dPl τ) hZ.dPl _) (rmo rfl) rfl rfl (Nat.le_of_ble_eq_true rfl) (Nat.zero_le _) (Nat.zero_le _) rfl (fun r9 u9 e9 => ?_)
                  obtain ⟨rfl, rfl⟩ := e9
                  refine gj_if (pc2 := 187) (pc3 := 182) (fun _ _ _ => lv_if_eq (tgt := 187) hx hb d_M_does_179 (by decide)) (fun h179 => ?_) (fun h179 => ?_)
                  · rw [if_pos h179] at hD
                    refine gj_l (pc2 := 188) (fun _ _ _ => lv_iconst (v := 0) hx hb d_M_does_187 (by decide)) ?_
                    refine gj_l (pc2 := 189) (fun _ _ _ => lv_iadd hx hb d_M_does_188) ?_
                    refine mj_pi F 3 rfl d_M_does_189 q_333 rfl ?_
                    refine gj_l (pc2 := 205) (fun _ _ _ => lv_goto (tgt := 205) hx hb d_M_does_192 (by decide)) ?_
                    refine gj_l (pc2 := 206) (fun _ _ _ => lv_iconst (v := 1) hx hb d_M_does_205 (by decide)) ?_
                    exact gj_zret F d_M_does_206 (by first | rfl | exact bN_z _ | decide) (Nat.le_refl _) (Nat.le_refl _) ⟨by rw [hD]; first | done | rfl, by rw [hD]; first | done | rfl⟩
                  · rw [if_neg h179] at hD
                    refine gj_ld (i := 6) (pc2 := 184) rfl (fun _ _ _ h9 => lv_iload hx hb d_M_does_182 h9) ?_
                    refine gj_l (pc2 := 188) (fun _ _ _ => lv_goto (tgt := 188) hx hb d_M_does_184 (by decide)) ?_
                    refine gj_l (pc2 := 189) (fun _ _ _ => lv_iadd hx hb d_M_does_188) ?_
                    refine mj_pi F 3 rfl d_M_does_189 q_333 rfl ?_
                    refine gj_l (pc2 := 205) (fun _ _ _ => lv_goto (tgt := 205) hx hb d_M_does_192 (by decide)) ?_
                    refine gj_l (pc2 := 206) (fun _ _ _ => lv_iconst (v := 1) hx hb d_M_does_205 (by decide)) ?_
                    exact gj_zret F d_M_does_206 (by first | rfl | exact bN_z _ | decide) (Nat.le_refl _) (Nat.le_refl _) ⟨by rw [hD]; first | done | rfl, by rw [hD]; first | done | rfl⟩
              · refine gj_ld (i := 4) (pc2 := 124) rfl (fun _ _ _ h9 => lv_iload hx hb d_M_does_122 h9) ?_
                refine gj_l (pc2 := 127) (fun _ _ _ => lv_sipush (v := (256)) hx hb d_M_does_124 (by decide)) ?_
                refine gj_l (pc2 := 128) (fun _ _ _ => lv_isub hx hb d_M_does_127) ?_
                refine gj_l (pc2 := 133) (fun _ _ _ => lv_goto (tgt := 133) hx hb d_M_does_128 (by decide)) ?_
                refine gj_eq (st3 := [.int (dNr τ)]) rfl rfl (by unfold dNr; rw [if_neg h119]) ?_
                refine gj_st (i := 6) (pc2 := 135) (Nat.le_of_ble_eq_true rfl) rfl (fun _ _ _ _ _ h9 l9 => lv_istore hx hb d_M_does_133 h9 (Nat.le_of_ble_eq_true rfl) l9) ?_
                refine gj_ld (i := 0) (pc2 := 136) rfl (fun _ _ _ h9 => lv_aload_n hx hb d_M_does_135 rfl h9) ?_
                refine mj_gr F 1 rfl d_M_does_136 q_331 rfl ?_
                refine gj_ld (i := 0) (pc2 := 140) rfl (fun _ _ _ h9 => lv_aload_n hx hb d_M_does_139 rfl h9) ?_
                refine mj_gi F 3 rfl d_M_does_140 q_333 rfl ?_
                refine mj_ld F 1 1024 i (by omega) rfl (by decide) ei hi d_M_does_143 rfl ?_
                refine gj_l (pc2 := 146) (fun _ _ _ => lv_bipush (v := (15)) hx hb d_M_does_144 (by decide)) ?_
                refine gj_l (pc2 := 147) (fun _ _ _ => lv_iand hx hb d_M_does_146) ?_
                refine gj_st (i := 7) (pc2 := 149) (Nat.le_of_ble_eq_true rfl) rfl (fun _ _ _ _ _ h9 l9 => lv_istore hx hb d_M_does_147 h9 (Nat.le_of_ble_eq_true rfl) l9) ?_
                refine gj_ld (i := 0) (pc2 := 150) rfl (fun _ _ _ h9 => lv_aload_n hx hb d_M_does_149 rfl h9) ?_
                refine gj_l (pc2 := 151) (fun _ _ _ => lv_dup hx hb d_M_does_150 rfl) ?_
                refine mj_gi F 3 rfl d_M_does_151 q_333 rfl ?_
                refine gj_ld (i := 2) (pc2 := 155) rfl (fun _ _ _ h9 => lv_iload_n hx hb d_M_does_154 rfl h9) ?_
                refine bj_s F k_M_sizeOf d_M_does_155 q_447 (ct_M_sizeOf _) (rmo rfl) rfl rfl (Nat.le_of_ble_eq_true rfl) (Nat.zero_le _) (Nat.zero_le _) rfl (fun r9 e9 => ?_)
                subst e9
                refine gj_l (pc2 := 159) (fun _ _ _ => lv_iadd hx hb d_M_does_158) ?_
                refine mj_pi F 3 rfl d_M_does_159 q_333 rfl ?_
                refine gj_ld (i := 2) (pc2 := 163) rfl (fun _ _ _ h9 => lv_iload_n hx hb d_M_does_162 rfl h9) ?_
                refine gj_l (pc2 := 165) (fun _ _ _ => lv_bipush (v := (7)) hx hb d_M_does_163 (by decide)) ?_
                refine gj_if (pc2 := 195) (pc3 := 168) (fun _ _ _ => lv_icmp_ne (tgt := 195) hx hb d_M_does_165 (by decide)) (fun h165 => ?_) (fun h165 => ?_)
                · refine gj_ld (i := 0) (pc2 := 196) rfl (fun _ _ _ h9 => lv_aload_n hx hb d_M_does_195 rfl h9) ?_
                  refine gj_ld (i := 2) (pc2 := 197) rfl (fun _ _ _ h9 => lv_iload_n hx hb d_M_does_196 rfl h9) ?_
                  refine gj_ld (i := 3) (pc2 := 198) rfl (fun _ _ _ h9 => lv_iload_n hx hb d_M_does_197 rfl h9) ?_
                  refine gj_ld (i := 5) (pc2 := 200) rfl (fun _ _ _ h9 => lv_iload hx hb d_M_does_198 h9) ?_
                  refine gj_ld (i := 6) (pc2 := 202) rfl (fun _ _ _ h9 => lv_iload hx hb d_M_does_200 h9) ?_
                  rw [lo3_eq]
                  refine bj_vv F k_M_work d_M_does_202 q_462 (mw_at (i := 0) (by omega)) rfl (ct_M_work (τ := dPl τ) (kdM τ (τ 0 3)) (lo3_lt (τ 1 i)) (dSv τ) (dNr τ) (fun _ => bN_n0.mp h105)) (rmo rfl) rfl rfl (Nat.le_of_ble_eq_true rfl) (Nat.zero_le _) (Nat.zero_le _) rfl (fun u9 e9 => ?_)
                  subst e9
                  have hD := doM_5 h10 h80 (fun _ => bN_n0.mp h105) h165
                  rw [hpi] at hD
                  refine gj_l (pc2 := 206) (fun _ _ _ => lv_iconst (v := 1) hx hb d_M_does_205 (by decide)) ?_
                  exact gj_zret F d_M_does_206 (by first | rfl | exact bN_z _ | decide) (Nat.le_refl _) (Nat.le_refl _) ⟨by rw [hD]; first | done | rfl, by rw [hD]; first | done | rfl⟩
                · have hD := doM_4 h10 h165
                  have hCo : dCo τ = τ 1 i &&& 15 := by unfold dCo; rw [hpi]
                  rw [hCo] at hD
                  refine gj_ld (i := 0) (pc2 := 169) rfl (fun _ _ _ h9 => lv_aload_n hx hb d_M_does_168 rfl h9) ?_
                  refine gj_l (pc2 := 170) (fun _ _ _ => lv_dup hx hb d_M_does_169 rfl) ?_
                  refine mj_gi F 3 rfl d_M_does_170 q_333 rfl ?_
                  refine gj_ld (i := 0) (pc2 := 174) rfl (fun _ _ _ h9 => lv_aload_n hx hb d_M_does_173 rfl h9) ?_
                  refine gj_ld (i := 7) (pc2 := 176) rfl (fun _ _ _ h9 => lv_iload hx hb d_M_does_174 h9) ?_
                  refine bj_vi F k_M_holds d_M_does_176 q_458 (mw_at (i := 0) (by omega)) rfl (ct_M_holds (τ := dPl τ) hZ.dPl _) (rmo rfl) rfl rfl (Nat.le_of_ble_eq_true rfl) (Nat.zero_le _) (Nat.zero_le _) rfl (fun r9 u9 e9 => ?_)
                  obtain ⟨rfl, rfl⟩ := e9
                  refine gj_if (pc2 := 187) (pc3 := 182) (fun _ _ _ => lv_if_eq (tgt := 187) hx hb d_M_does_179 (by decide)) (fun h179 => ?_) (fun h179 => ?_)
                  · rw [if_pos h179] at hD
                    refine gj_l (pc2 := 188) (fun _ _ _ => lv_iconst (v := 0) hx hb d_M_does_187 (by decide)) ?_
                    refine gj_l (pc2 := 189) (fun _ _ _ => lv_iadd hx hb d_M_does_188) ?_
                    refine mj_pi F 3 rfl d_M_does_189 q_333 rfl ?_
                    refine gj_l (pc2 := 205) (fun _ _ _ => lv_goto (tgt := 205) hx hb d_M_does_192 (by decide)) ?_
                    refine gj_l (pc2 := 206) (fun _ _ _ => lv_iconst (v := 1) hx hb d_M_does_205 (by decide)) ?_
                    exact gj_zret F d_M_does_206 (by first | rfl | exact bN_z _ | decide) (Nat.le_refl _) (Nat.le_refl _) ⟨by rw [hD]; first | done | rfl, by rw [hD]; first | done | rfl⟩
                  · rw [if_neg h179] at hD
                    refine gj_ld (i := 6) (pc2 := 184) rfl (fun _ _ _ h9 => lv_iload hx hb d_M_does_182 h9) ?_
                    refine gj_l (pc2 := 188) (fun _ _ _ => lv_goto (tgt := 188) hx hb d_M_does_184 (by decide)) ?_
                    refine gj_l (pc2 := 189) (fun _ _ _ => lv_iadd hx hb d_M_does_188) ?_
                    refine mj_pi F 3 rfl d_M_does_189 q_333 rfl ?_
                    refine gj_l (pc2 := 205) (fun _ _ _ => lv_goto (tgt := 205) hx hb d_M_does_192 (by decide)) ?_
                    refine gj_l (pc2 := 206) (fun _ _ _ => lv_iconst (v := 1) hx hb d_M_does_205 (by decide)) ?_
                    exact gj_zret F d_M_does_206 (by first | rfl | exact bN_z _ | decide) (Nat.le_refl _) (Nat.le_refl _) ⟨by rw [hD]; first | done | rfl, by rw [hD]; first | done | rfl⟩
            · have hD := doM_3 h10 h80 (Or.inr h97) (bN_0.mp h105)
              refine gj_ld (i := 0) (pc2 := 109) rfl (fun _ _ _ h9 => lv_aload_n hx hb d_M_does_108 rfl h9) ?_
              refine gj_l (pc2 := 110) (fun _ _ _ => lv_iconst (v := 1) hx hb d_M_does_109 (by decide)) ?_
              refine bj_vv F k_M_fault d_M_does_110 q_454 (mw_at (i := 0) (by omega)) rfl (ct_M_fault _) (rmo rfl) rfl rfl (Nat.le_of_ble_eq_true rfl) (Nat.zero_le _) (Nat.zero_le _) rfl (fun u9 e9 => ?_)
              subst e9
              refine gj_l (pc2 := 114) (fun _ _ _ => lv_iconst (v := 0) hx hb d_M_does_113 (by decide)) ?_
              exact gj_zret F d_M_does_114 (by first | rfl | exact bN_z _ | decide) (Nat.le_refl _) (Nat.le_refl _) ⟨by rw [hD]; first | done | rfl, by rw [hD]; first | done | rfl⟩
      · have hD := doM_2 h10 h80
        refine gj_ld (i := 0) (pc2 := 84) rfl (fun _ _ _ h9 => lv_aload_n hx hb d_M_does_83 rfl h9) ?_
        refine gj_l (pc2 := 85) (fun _ _ _ => lv_iconst (v := 1) hx hb d_M_does_84 (by decide)) ?_
        refine mj_pi F 4 rfl d_M_does_85 q_334 rfl ?_
        refine gj_l (pc2 := 89) (fun _ _ _ => lv_iconst (v := 0) hx hb d_M_does_88 (by decide)) ?_
        exact gj_zret F d_M_does_89 (by first | rfl | exact bN_z _ | decide) (Nat.le_refl _) (Nat.le_refl _) ⟨by rw [hD]; first | done | rfl, by rw [hD]; first | done | rfl⟩
    · have hp5 : inM (τ 0 3 + 1) = true := by rw [h47, add21] at hp4; exact hp4
      obtain ⟨i2, hi2, e2⟩ := inM_of hp5
      have hc2 : (τ 0 3 + 1).toNatClampNeg = i2 := by rw [e2]; exact nI_clamp (by omega)
      refine gj_ld (i := 0) (pc2 := 51) rfl (fun _ _ _ h9 => lv_aload_n hx hb d_M_does_50 rfl h9) ?_
      refine mj_gr F 1 rfl d_M_does_51 q_331 rfl ?_
      refine gj_ld (i := 0) (pc2 := 55) rfl (fun _ _ _ h9 => lv_aload_n hx hb d_M_does_54 rfl h9) ?_
      refine mj_gi F 3 rfl d_M_does_55 q_333 rfl ?_
      refine gj_l (pc2 := 59) (fun _ _ _ => lv_iconst (v := 1) hx hb d_M_does_58 (by decide)) ?_
      refine gj_l (pc2 := 60) (fun _ _ _ => lv_iadd hx hb d_M_does_59) ?_
      refine mj_ld F 1 1024 i2 (by omega) rfl (by decide) e2 hi2 d_M_does_60 rfl ?_
      refine gj_l (pc2 := 65) (fun _ _ _ => lv_goto (tgt := 65) hx hb d_M_does_61 (by decide)) ?_
      refine gj_eq (st3 := [.int (dN τ)]) rfl rfl (by unfold dN; rw [if_pos h47, hc2]) ?_
      refine gj_st (i := 4) (pc2 := 67) (Nat.le_of_ble_eq_true rfl) rfl (fun _ _ _ _ _ h9 l9 => lv_istore hx hb d_M_does_65 h9 (Nat.le_of_ble_eq_true rfl) l9) ?_
      refine gj_ld (i := 0) (pc2 := 68) rfl (fun _ _ _ h9 => lv_aload_n hx hb d_M_does_67 rfl h9) ?_
      refine mj_gr F 2 rfl d_M_does_68 q_332 rfl ?_
      refine gj_ld (i := 4) (pc2 := 73) rfl (fun _ _ _ h9 => lv_iload hx hb d_M_does_71 h9) ?_
      refine gj_l (pc2 := 75) (fun _ _ _ => lv_bipush (v := (7)) hx hb d_M_does_73 (by decide)) ?_
      refine gj_l (pc2 := 76) (fun _ _ _ => lv_iand hx hb d_M_does_75) ?_
      refine mj_ld F 2 8 (lo3 (dN τ)) (by omega) rfl (by decide) (lo3_eq _) (lo3_lt _) d_M_does_76 rfl ?_
      refine gj_st (i := 5) (pc2 := 79) (Nat.le_of_ble_eq_true rfl) rfl (fun _ _ _ _ _ h9 l9 => lv_istore hx hb d_M_does_77 h9 (Nat.le_of_ble_eq_true rfl) l9) ?_
      refine gj_ld (i := 2) (pc2 := 80) rfl (fun _ _ _ h9 => lv_iload_n hx hb d_M_does_79 rfl h9) ?_
      refine gj_if (pc2 := 90) (pc3 := 83) (fun _ _ _ => lv_if_ne (tgt := 90) hx hb d_M_does_80 (by decide)) (fun h80 => ?_) (fun h80 => ?_)
      · refine gj_ld (i := 2) (pc2 := 91) rfl (fun _ _ _ h9 => lv_iload_n hx hb d_M_does_90 rfl h9) ?_
        refine gj_l (pc2 := 92) (fun _ _ _ => lv_iconst (v := 4) hx hb d_M_does_91 (by decide)) ?_
        refine gj_if (pc2 := 100) (pc3 := 95) (fun _ _ _ => lv_icmp_eq (tgt := 100) hx hb d_M_does_92 (by decide)) (fun h92 => ?_) (fun h92 => ?_)
        · refine gj_ld (i := 5) (pc2 := 102) rfl (fun _ _ _ h9 => lv_iload hx hb d_M_does_100 h9) ?_
          refine bj_s F k_M_isThere d_M_does_102 q_397 (ct_M_isThere _) (rmo rfl) rfl rfl (Nat.le_of_ble_eq_true rfl) (Nat.zero_le _) (Nat.zero_le _) rfl (fun r9 e9 => ?_)
          subst e9
          refine gj_if (pc2 := 115) (pc3 := 108) (fun _ _ _ => lv_if_ne (tgt := 115) hx hb d_M_does_105 (by decide)) (fun h105 => ?_) (fun h105 => ?_)
          · refine gj_ld (i := 4) (pc2 := 117) rfl (fun _ _ _ h9 => lv_iload hx hb d_M_does_115 h9) ?_
            refine gj_l (pc2 := 119) (fun _ _ _ => lv_bipush (v := (127)) hx hb d_M_does_117 (by decide)) ?_
            refine gj_if (pc2 := 131) (pc3 := 122) (fun _ _ _ => lv_icmp_le (tgt := 131) hx hb d_M_does_119 (by decide)) (fun h119 => ?_) (fun h119 => ?_)
            · refine gj_ld (i := 4) (pc2 := 133) rfl (fun _ _ _ h9 => lv_iload hx hb d_M_does_131 h9) ?_
              refine gj_eq (st3 := [.int (dNr τ)]) rfl rfl (by unfold dNr; rw [if_pos h119]) ?_
              refine gj_st (i := 6) (pc2 := 135) (Nat.le_of_ble_eq_true rfl) rfl (fun _ _ _ _ _ h9 l9 => lv_istore hx hb d_M_does_133 h9 (Nat.le_of_ble_eq_true rfl) l9) ?_
              refine gj_ld (i := 0) (pc2 := 136) rfl (fun _ _ _ h9 => lv_aload_n hx hb d_M_does_135 rfl h9) ?_
              refine mj_gr F 1 rfl d_M_does_136 q_331 rfl ?_
              refine gj_ld (i := 0) (pc2 := 140) rfl (fun _ _ _ h9 => lv_aload_n hx hb d_M_does_139 rfl h9) ?_
              refine mj_gi F 3 rfl d_M_does_140 q_333 rfl ?_
              refine mj_ld F 1 1024 i (by omega) rfl (by decide) ei hi d_M_does_143 rfl ?_
              refine gj_l (pc2 := 146) (fun _ _ _ => lv_bipush (v := (15)) hx hb d_M_does_144 (by decide)) ?_
              refine gj_l (pc2 := 147) (fun _ _ _ => lv_iand hx hb d_M_does_146) ?_
              refine gj_st (i := 7) (pc2 := 149) (Nat.le_of_ble_eq_true rfl) rfl (fun _ _ _ _ _ h9 l9 => lv_istore hx hb d_M_does_147 h9 (Nat.le_of_ble_eq_true rfl) l9) ?_
              refine gj_ld (i := 0) (pc2 := 150) rfl (fun _ _ _ h9 => lv_aload_n hx hb d_M_does_149 rfl h9) ?_
              refine gj_l (pc2 := 151) (fun _ _ _ => lv_dup hx hb d_M_does_150 rfl) ?_
              refine mj_gi F 3 rfl d_M_does_151 q_333 rfl ?_
              refine gj_ld (i := 2) (pc2 := 155) rfl (fun _ _ _ h9 => lv_iload_n hx hb d_M_does_154 rfl h9) ?_
              refine bj_s F k_M_sizeOf d_M_does_155 q_447 (ct_M_sizeOf _) (rmo rfl) rfl rfl (Nat.le_of_ble_eq_true rfl) (Nat.zero_le _) (Nat.zero_le _) rfl (fun r9 e9 => ?_)
              subst e9
              refine gj_l (pc2 := 159) (fun _ _ _ => lv_iadd hx hb d_M_does_158) ?_
              refine mj_pi F 3 rfl d_M_does_159 q_333 rfl ?_
              refine gj_ld (i := 2) (pc2 := 163) rfl (fun _ _ _ h9 => lv_iload_n hx hb d_M_does_162 rfl h9) ?_
              refine gj_l (pc2 := 165) (fun _ _ _ => lv_bipush (v := (7)) hx hb d_M_does_163 (by decide)) ?_
              refine gj_if (pc2 := 195) (pc3 := 168) (fun _ _ _ => lv_icmp_ne (tgt := 195) hx hb d_M_does_165 (by decide)) (fun h165 => ?_) (fun h165 => ?_)
              · refine gj_ld (i := 0) (pc2 := 196) rfl (fun _ _ _ h9 => lv_aload_n hx hb d_M_does_195 rfl h9) ?_
                refine gj_ld (i := 2) (pc2 := 197) rfl (fun _ _ _ h9 => lv_iload_n hx hb d_M_does_196 rfl h9) ?_
                refine gj_ld (i := 3) (pc2 := 198) rfl (fun _ _ _ h9 => lv_iload_n hx hb d_M_does_197 rfl h9) ?_
                refine gj_ld (i := 5) (pc2 := 200) rfl (fun _ _ _ h9 => lv_iload hx hb d_M_does_198 h9) ?_
                refine gj_ld (i := 6) (pc2 := 202) rfl (fun _ _ _ h9 => lv_iload hx hb d_M_does_200 h9) ?_
                rw [lo3_eq]
                refine bj_vv F k_M_work d_M_does_202 q_462 (mw_at (i := 0) (by omega)) rfl (ct_M_work (τ := dPl τ) (kdM τ (τ 0 3)) (lo3_lt (τ 1 i)) (dSv τ) (dNr τ) (fun _ => bN_n0.mp h105)) (rmo rfl) rfl rfl (Nat.le_of_ble_eq_true rfl) (Nat.zero_le _) (Nat.zero_le _) rfl (fun u9 e9 => ?_)
                subst e9
                have hD := doM_5 h10 h80 (fun _ => bN_n0.mp h105) h165
                rw [hpi] at hD
                refine gj_l (pc2 := 206) (fun _ _ _ => lv_iconst (v := 1) hx hb d_M_does_205 (by decide)) ?_
                exact gj_zret F d_M_does_206 (by first | rfl | exact bN_z _ | decide) (Nat.le_refl _) (Nat.le_refl _) ⟨by rw [hD]; first | done | rfl, by rw [hD]; first | done | rfl⟩
              · have hD := doM_4 h10 h165
                have hCo : dCo τ = τ 1 i &&& 15 := by unfold dCo; rw [hpi]
                rw [hCo] at hD
                refine gj_ld (i := 0) (pc2 := 169) rfl (fun _ _ _ h9 => lv_aload_n hx hb d_M_does_168 rfl h9) ?_
                refine gj_l (pc2 := 170) (fun _ _ _ => lv_dup hx hb d_M_does_169 rfl) ?_
                refine mj_gi F 3 rfl d_M_does_170 q_333 rfl ?_
                refine gj_ld (i := 0) (pc2 := 174) rfl (fun _ _ _ h9 => lv_aload_n hx hb d_M_does_173 rfl h9) ?_
                refine gj_ld (i := 7) (pc2 := 176) rfl (fun _ _ _ h9 => lv_iload hx hb d_M_does_174 h9) ?_
                refine bj_vi F k_M_holds d_M_does_176 q_458 (mw_at (i := 0) (by omega)) rfl (ct_M_holds (τ := dPl τ) hZ.dPl _) (rmo rfl) rfl rfl (Nat.le_of_ble_eq_true rfl) (Nat.zero_le _) (Nat.zero_le _) rfl (fun r9 u9 e9 => ?_)
                obtain ⟨rfl, rfl⟩ := e9
                refine gj_if (pc2 := 187) (pc3 := 182) (fun _ _ _ => lv_if_eq (tgt := 187) hx hb d_M_does_179 (by decide)) (fun h179 => ?_) (fun h179 => ?_)
                · rw [if_pos h179] at hD
                  refine gj_l (pc2 := 188) (fun _ _ _ => lv_iconst (v := 0) hx hb d_M_does_187 (by decide)) ?_
                  refine gj_l (pc2 := 189) (fun _ _ _ => lv_iadd hx hb d_M_does_188) ?_
                  refine mj_pi F 3 rfl d_M_does_189 q_333 rfl ?_
                  refine gj_l (pc2 := 205) (fun _ _ _ => lv_goto (tgt := 205) hx hb d_M_does_192 (by decide)) ?_
                  refine gj_l (pc2 := 206) (fun _ _ _ => lv_iconst (v := 1) hx hb d_M_does_205 (by decide)) ?_
                  exact gj_zret F d_M_does_206 (by first | rfl | exact bN_z _ | decide) (Nat.le_refl _) (Nat.le_refl _) ⟨by rw [hD]; first | done | rfl, by rw [hD]; first | done | rfl⟩
                · rw [if_neg h179] at hD
                  refine gj_ld (i := 6) (pc2 := 184) rfl (fun _ _ _ h9 => lv_iload hx hb d_M_does_182 h9) ?_
                  refine gj_l (pc2 := 188) (fun _ _ _ => lv_goto (tgt := 188) hx hb d_M_does_184 (by decide)) ?_
                  refine gj_l (pc2 := 189) (fun _ _ _ => lv_iadd hx hb d_M_does_188) ?_
                  refine mj_pi F 3 rfl d_M_does_189 q_333 rfl ?_
                  refine gj_l (pc2 := 205) (fun _ _ _ => lv_goto (tgt := 205) hx hb d_M_does_192 (by decide)) ?_
                  refine gj_l (pc2 := 206) (fun _ _ _ => lv_iconst (v := 1) hx hb d_M_does_205 (by decide)) ?_
                  exact gj_zret F d_M_does_206 (by first | rfl | exact bN_z _ | decide) (Nat.le_refl _) (Nat.le_refl _) ⟨by rw [hD]; first | done | rfl, by rw [hD]; first | done | rfl⟩
            · refine gj_ld (i := 4) (pc2 := 124) rfl (fun _ _ _ h9 => lv_iload hx hb d_M_does_122 h9) ?_
              refine gj_l (pc2 := 127) (fun _ _ _ => lv_sipush (v := (256)) hx hb d_M_does_124 (by decide)) ?_
              refine gj_l (pc2 := 128) (fun _ _ _ => lv_isub hx hb d_M_does_127) ?_
              refine gj_l (pc2 := 133) (fun _ _ _ => lv_goto (tgt := 133) hx hb d_M_does_128 (by decide)) ?_
              refine gj_eq (st3 := [.int (dNr τ)]) rfl rfl (by unfold dNr; rw [if_neg h119]) ?_
              refine gj_st (i := 6) (pc2 := 135) (Nat.le_of_ble_eq_true rfl) rfl (fun _ _ _ _ _ h9 l9 => lv_istore hx hb d_M_does_133 h9 (Nat.le_of_ble_eq_true rfl) l9) ?_
              refine gj_ld (i := 0) (pc2 := 136) rfl (fun _ _ _ h9 => lv_aload_n hx hb d_M_does_135 rfl h9) ?_
              refine mj_gr F 1 rfl d_M_does_136 q_331 rfl ?_
              refine gj_ld (i := 0) (pc2 := 140) rfl (fun _ _ _ h9 => lv_aload_n hx hb d_M_does_139 rfl h9) ?_
              refine mj_gi F 3 rfl d_M_does_140 q_333 rfl ?_
              refine mj_ld F 1 1024 i (by omega) rfl (by decide) ei hi d_M_does_143 rfl ?_
              refine gj_l (pc2 := 146) (fun _ _ _ => lv_bipush (v := (15)) hx hb d_M_does_144 (by decide)) ?_
              refine gj_l (pc2 := 147) (fun _ _ _ => lv_iand hx hb d_M_does_146) ?_
              refine gj_st (i := 7) (pc2 := 149) (Nat.le_of_ble_eq_true rfl) rfl (fun _ _ _ _ _ h9 l9 => lv_istore hx hb d_M_does_147 h9 (Nat.le_of_ble_eq_true rfl) l9) ?_
              refine gj_ld (i := 0) (pc2 := 150) rfl (fun _ _ _ h9 => lv_aload_n hx hb d_M_does_149 rfl h9) ?_
              refine gj_l (pc2 := 151) (fun _ _ _ => lv_dup hx hb d_M_does_150 rfl) ?_
              refine mj_gi F 3 rfl d_M_does_151 q_333 rfl ?_
              refine gj_ld (i := 2) (pc2 := 155) rfl (fun _ _ _ h9 => lv_iload_n hx hb d_M_does_154 rfl h9) ?_
              refine bj_s F k_M_sizeOf d_M_does_155 q_447 (ct_M_sizeOf _) (rmo rfl) rfl rfl (Nat.le_of_ble_eq_true rfl) (Nat.zero_le _) (Nat.zero_le _) rfl (fun r9 e9 => ?_)
              subst e9
              refine gj_l (pc2 := 159) (fun _ _ _ => lv_iadd hx hb d_M_does_158) ?_
              refine mj_pi F 3 rfl d_M_does_159 q_333 rfl ?_
              refine gj_ld (i := 2) (pc2 := 163) rfl (fun _ _ _ h9 => lv_iload_n hx hb d_M_does_162 rfl h9) ?_
              refine gj_l (pc2 := 165) (fun _ _ _ => lv_bipush (v := (7)) hx hb d_M_does_163 (by decide)) ?_
              refine gj_if (pc2 := 195) (pc3 := 168) (fun _ _ _ => lv_icmp_ne (tgt := 195) hx hb d_M_does_165 (by decide)) (fun h165 => ?_) (fun h165 => ?_)
              · refine gj_ld (i := 0) (pc2 := 196) rfl (fun _ _ _ h9 => lv_aload_n hx hb d_M_does_195 rfl h9) ?_
                refine gj_ld (i := 2) (pc2 := 197) rfl (fun _ _ _ h9 => lv_iload_n hx hb d_M_does_196 rfl h9) ?_
                refine gj_ld (i := 3) (pc2 := 198) rfl (fun _ _ _ h9 => lv_iload_n hx hb d_M_does_197 rfl h9) ?_
                refine gj_ld (i := 5) (pc2 := 200) rfl (fun _ _ _ h9 => lv_iload hx hb d_M_does_198 h9) ?_
                refine gj_ld (i := 6) (pc2 := 202) rfl (fun _ _ _ h9 => lv_iload hx hb d_M_does_200 h9) ?_
                rw [lo3_eq]
                refine bj_vv F k_M_work d_M_does_202 q_462 (mw_at (i := 0) (by omega)) rfl (ct_M_work (τ := dPl τ) (kdM τ (τ 0 3)) (lo3_lt (τ 1 i)) (dSv τ) (dNr τ) (fun _ => bN_n0.mp h105)) (rmo rfl) rfl rfl (Nat.le_of_ble_eq_true rfl) (Nat.zero_le _) (Nat.zero_le _) rfl (fun u9 e9 => ?_)
                subst e9
                have hD := doM_5 h10 h80 (fun _ => bN_n0.mp h105) h165
                rw [hpi] at hD
                refine gj_l (pc2 := 206) (fun _ _ _ => lv_iconst (v := 1) hx hb d_M_does_205 (by decide)) ?_
                exact gj_zret F d_M_does_206 (by first | rfl | exact bN_z _ | decide) (Nat.le_refl _) (Nat.le_refl _) ⟨by rw [hD]; first | done | rfl, by rw [hD]; first | done | rfl⟩
              · have hD := doM_4 h10 h165
                have hCo : dCo τ = τ 1 i &&& 15 := by unfold dCo; rw [hpi]
                rw [hCo] at hD
                refine gj_ld (i := 0) (pc2 := 169) rfl (fun _ _ _ h9 => lv_aload_n hx hb d_M_does_168 rfl h9) ?_
                refine gj_l (pc2 := 170) (fun _ _ _ => lv_dup hx hb d_M_does_169 rfl) ?_
                refine mj_gi F 3 rfl d_M_does_170 q_333 rfl ?_
                refine gj_ld (i := 0) (pc2 := 174) rfl (fun _ _ _ h9 => lv_aload_n hx hb d_M_does_173 rfl h9) ?_
                refine gj_ld (i := 7) (pc2 := 176) rfl (fun _ _ _ h9 => lv_iload hx hb d_M_does_174 h9) ?_
                refine bj_vi F k_M_holds d_M_does_176 q_458 (mw_at (i := 0) (by omega)) rfl (ct_M_holds (τ := dPl τ) hZ.dPl _) (rmo rfl) rfl rfl (Nat.le_of_ble_eq_true rfl) (Nat.zero_le _) (Nat.zero_le _) rfl (fun r9 u9 e9 => ?_)
                obtain ⟨rfl, rfl⟩ := e9
                refine gj_if (pc2 := 187) (pc3 := 182) (fun _ _ _ => lv_if_eq (tgt := 187) hx hb d_M_does_179 (by decide)) (fun h179 => ?_) (fun h179 => ?_)
                · rw [if_pos h179] at hD
                  refine gj_l (pc2 := 188) (fun _ _ _ => lv_iconst (v := 0) hx hb d_M_does_187 (by decide)) ?_
                  refine gj_l (pc2 := 189) (fun _ _ _ => lv_iadd hx hb d_M_does_188) ?_
                  refine mj_pi F 3 rfl d_M_does_189 q_333 rfl ?_
                  refine gj_l (pc2 := 205) (fun _ _ _ => lv_goto (tgt := 205) hx hb d_M_does_192 (by decide)) ?_
                  refine gj_l (pc2 := 206) (fun _ _ _ => lv_iconst (v := 1) hx hb d_M_does_205 (by decide)) ?_
                  exact gj_zret F d_M_does_206 (by first | rfl | exact bN_z _ | decide) (Nat.le_refl _) (Nat.le_refl _) ⟨by rw [hD]; first | done | rfl, by rw [hD]; first | done | rfl⟩
                · rw [if_neg h179] at hD
                  refine gj_ld (i := 6) (pc2 := 184) rfl (fun _ _ _ h9 => lv_iload hx hb d_M_does_182 h9) ?_
                  refine gj_l (pc2 := 188) (fun _ _ _ => lv_goto (tgt := 188) hx hb d_M_does_184 (by decide)) ?_
                  refine gj_l (pc2 := 189) (fun _ _ _ => lv_iadd hx hb d_M_does_188) ?_
                  refine mj_pi F 3 rfl d_M_does_189 q_333 rfl ?_
                  refine gj_l (pc2 := 205) (fun _ _ _ => lv_goto (tgt := 205) hx hb d_M_does_192 (by decide)) ?_
                  refine gj_l (pc2 := 206) (fun _ _ _ => lv_iconst (v := 1) hx hb d_M_does_205 (by decide)) ?_
                  exact gj_zret F d_M_does_206 (by first | rfl | exact bN_z _ | decide) (Nat.le_refl _) (Nat.le_refl _) ⟨by rw [hD]; first | done | rfl, by rw [hD]; first | done | rfl⟩
          · have hD := doM_3 h10 h80 (Or.inl h92) (bN_0.mp h105)
            refine gj_ld (i := 0) (pc2 := 109) rfl (fun _ _ _ h9 => lv_aload_n hx hb d_M_does_108 rfl h9) ?_
            refine gj_l (pc2 := 110) (fun _ _ _ => lv_iconst (v := 1) hx hb d_M_does_109 (by decide)) ?_
            refine bj_vv F k_M_fault d_M_does_110 q_454 (mw_at (i := 0) (by omega)) rfl (ct_M_fault _) (rmo rfl) rfl rfl (Nat.le_of_ble_eq_true rfl) (Nat.zero_le _) (Nat.zero_le _) rfl (fun u9 e9 => ?_)
            subst e9
            refine gj_l (pc2 := 114) (fun _ _ _ => lv_iconst (v := 0) hx hb d_M_does_113 (by decide)) ?_
            exact gj_zret F d_M_does_114 (by first | rfl | exact bN_z _ | decide) (Nat.le_refl _) (Nat.le_refl _) ⟨by rw [hD]; first | done | rfl, by rw [hD]; first | done | rfl⟩
        · refine gj_ld (i := 2) (pc2 := 96) rfl (fun _ _ _ h9 => lv_iload_n hx hb d_M_does_95 rfl h9) ?_
          refine gj_l (pc2 := 97) (fun _ _ _ => lv_iconst (v := 5) hx hb d_M_does_96 (by decide)) ?_
          refine gj_if (pc2 := 115) (pc3 := 100) (fun _ _ _ => lv_icmp_ne (tgt := 115) hx hb d_M_does_97 (by decide)) (fun h97 => ?_) (fun h97 => ?_)
          · refine gj_ld (i := 4) (pc2 := 117) rfl (fun _ _ _ h9 => lv_iload hx hb d_M_does_115 h9) ?_
            refine gj_l (pc2 := 119) (fun _ _ _ => lv_bipush (v := (127)) hx hb d_M_does_117 (by decide)) ?_
            refine gj_if (pc2 := 131) (pc3 := 122) (fun _ _ _ => lv_icmp_le (tgt := 131) hx hb d_M_does_119 (by decide)) (fun h119 => ?_) (fun h119 => ?_)
            · refine gj_ld (i := 4) (pc2 := 133) rfl (fun _ _ _ h9 => lv_iload hx hb d_M_does_131 h9) ?_
              refine gj_eq (st3 := [.int (dNr τ)]) rfl rfl (by unfold dNr; rw [if_pos h119]) ?_
              refine gj_st (i := 6) (pc2 := 135) (Nat.le_of_ble_eq_true rfl) rfl (fun _ _ _ _ _ h9 l9 => lv_istore hx hb d_M_does_133 h9 (Nat.le_of_ble_eq_true rfl) l9) ?_
              refine gj_ld (i := 0) (pc2 := 136) rfl (fun _ _ _ h9 => lv_aload_n hx hb d_M_does_135 rfl h9) ?_
              refine mj_gr F 1 rfl d_M_does_136 q_331 rfl ?_
              refine gj_ld (i := 0) (pc2 := 140) rfl (fun _ _ _ h9 => lv_aload_n hx hb d_M_does_139 rfl h9) ?_
              refine mj_gi F 3 rfl d_M_does_140 q_333 rfl ?_
              refine mj_ld F 1 1024 i (by omega) rfl (by decide) ei hi d_M_does_143 rfl ?_
              refine gj_l (pc2 := 146) (fun _ _ _ => lv_bipush (v := (15)) hx hb d_M_does_144 (by decide)) ?_
              refine gj_l (pc2 := 147) (fun _ _ _ => lv_iand hx hb d_M_does_146) ?_
              refine gj_st (i := 7) (pc2 := 149) (Nat.le_of_ble_eq_true rfl) rfl (fun _ _ _ _ _ h9 l9 => lv_istore hx hb d_M_does_147 h9 (Nat.le_of_ble_eq_true rfl) l9) ?_
              refine gj_ld (i := 0) (pc2 := 150) rfl (fun _ _ _ h9 => lv_aload_n hx hb d_M_does_149 rfl h9) ?_
              refine gj_l (pc2 := 151) (fun _ _ _ => lv_dup hx hb d_M_does_150 rfl) ?_
              refine mj_gi F 3 rfl d_M_does_151 q_333 rfl ?_
              refine gj_ld (i := 2) (pc2 := 155) rfl (fun _ _ _ h9 => lv_iload_n hx hb d_M_does_154 rfl h9) ?_
              refine bj_s F k_M_sizeOf d_M_does_155 q_447 (ct_M_sizeOf _) (rmo rfl) rfl rfl (Nat.le_of_ble_eq_true rfl) (Nat.zero_le _) (Nat.zero_le _) rfl (fun r9 e9 => ?_)
              subst e9
              refine gj_l (pc2 := 159) (fun _ _ _ => lv_iadd hx hb d_M_does_158) ?_
              refine mj_pi F 3 rfl d_M_does_159 q_333 rfl ?_
              refine gj_ld (i := 2) (pc2 := 163) rfl (fun _ _ _ h9 => lv_iload_n hx hb d_M_does_162 rfl h9) ?_
              refine gj_l (pc2 := 165) (fun _ _ _ => lv_bipush (v := (7)) hx hb d_M_does_163 (by decide)) ?_
              refine gj_if (pc2 := 195) (pc3 := 168) (fun _ _ _ => lv_icmp_ne (tgt := 195) hx hb d_M_does_165 (by decide)) (fun h165 => ?_) (fun h165 => ?_)
              · refine gj_ld (i := 0) (pc2 := 196) rfl (fun _ _ _ h9 => lv_aload_n hx hb d_M_does_195 rfl h9) ?_
                refine gj_ld (i := 2) (pc2 := 197) rfl (fun _ _ _ h9 => lv_iload_n hx hb d_M_does_196 rfl h9) ?_
                refine gj_ld (i := 3) (pc2 := 198) rfl (fun _ _ _ h9 => lv_iload_n hx hb d_M_does_197 rfl h9) ?_
                refine gj_ld (i := 5) (pc2 := 200) rfl (fun _ _ _ h9 => lv_iload hx hb d_M_does_198 h9) ?_
                refine gj_ld (i := 6) (pc2 := 202) rfl (fun _ _ _ h9 => lv_iload hx hb d_M_does_200 h9) ?_
                rw [lo3_eq]
                refine bj_vv F k_M_work d_M_does_202 q_462 (mw_at (i := 0) (by omega)) rfl (ct_M_work (τ := dPl τ) (kdM τ (τ 0 3)) (lo3_lt (τ 1 i)) (dSv τ) (dNr τ) (fun h9 => by rcases h9 with h9 | h9 <;> first | exact absurd h9 h92 | exact absurd h9 h97)) (rmo rfl) rfl rfl (Nat.le_of_ble_eq_true rfl) (Nat.zero_le _) (Nat.zero_le _) rfl (fun u9 e9 => ?_)
                subst e9
                have hD := doM_5 h10 h80 (fun h9 => by rcases h9 with h9 | h9 <;> first | exact absurd h9 h92 | exact absurd h9 h97) h165
                rw [hpi] at hD
                refine gj_l (pc2 := 206) (fun _ _ _ => lv_iconst (v := 1) hx hb d_M_does_205 (by decide)) ?_
                exact gj_zret F d_M_does_206 (by first | rfl | exact bN_z _ | decide) (Nat.le_refl _) (Nat.le_refl _) ⟨by rw [hD]; first | done | rfl, by rw [hD]; first | done | rfl⟩
              · have hD := doM_4 h10 h165
                have hCo : dCo τ = τ 1 i &&& 15 := by unfold dCo; rw [hpi]
                rw [hCo] at hD
                refine gj_ld (i := 0) (pc2 := 169) rfl (fun _ _ _ h9 => lv_aload_n hx hb d_M_does_168 rfl h9) ?_
                refine gj_l (pc2 := 170) (fun _ _ _ => lv_dup hx hb d_M_does_169 rfl) ?_
                refine mj_gi F 3 rfl d_M_does_170 q_333 rfl ?_
                refine gj_ld (i := 0) (pc2 := 174) rfl (fun _ _ _ h9 => lv_aload_n hx hb d_M_does_173 rfl h9) ?_
                refine gj_ld (i := 7) (pc2 := 176) rfl (fun _ _ _ h9 => lv_iload hx hb d_M_does_174 h9) ?_
                refine bj_vi F k_M_holds d_M_does_176 q_458 (mw_at (i := 0) (by omega)) rfl (ct_M_holds (τ := dPl τ) hZ.dPl _) (rmo rfl) rfl rfl (Nat.le_of_ble_eq_true rfl) (Nat.zero_le _) (Nat.zero_le _) rfl (fun r9 u9 e9 => ?_)
                obtain ⟨rfl, rfl⟩ := e9
                refine gj_if (pc2 := 187) (pc3 := 182) (fun _ _ _ => lv_if_eq (tgt := 187) hx hb d_M_does_179 (by decide)) (fun h179 => ?_) (fun h179 => ?_)
                · rw [if_pos h179] at hD
                  refine gj_l (pc2 := 188) (fun _ _ _ => lv_iconst (v := 0) hx hb d_M_does_187 (by decide)) ?_
                  refine gj_l (pc2 := 189) (fun _ _ _ => lv_iadd hx hb d_M_does_188) ?_
                  refine mj_pi F 3 rfl d_M_does_189 q_333 rfl ?_
                  refine gj_l (pc2 := 205) (fun _ _ _ => lv_goto (tgt := 205) hx hb d_M_does_192 (by decide)) ?_
                  refine gj_l (pc2 := 206) (fun _ _ _ => lv_iconst (v := 1) hx hb d_M_does_205 (by decide)) ?_
                  exact gj_zret F d_M_does_206 (by first | rfl | exact bN_z _ | decide) (Nat.le_refl _) (Nat.le_refl _) ⟨by rw [hD]; first | done | rfl, by rw [hD]; first | done | rfl⟩
                · rw [if_neg h179] at hD
                  refine gj_ld (i := 6) (pc2 := 184) rfl (fun _ _ _ h9 => lv_iload hx hb d_M_does_182 h9) ?_
                  refine gj_l (pc2 := 188) (fun _ _ _ => lv_goto (tgt := 188) hx hb d_M_does_184 (by decide)) ?_
                  refine gj_l (pc2 := 189) (fun _ _ _ => lv_iadd hx hb d_M_does_188) ?_
                  refine mj_pi F 3 rfl d_M_does_189 q_333 rfl ?_
                  refine gj_l (pc2 := 205) (fun _ _ _ => lv_goto (tgt := 205) hx hb d_M_does_192 (by decide)) ?_
                  refine gj_l (pc2 := 206) (fun _ _ _ => lv_iconst (v := 1) hx hb d_M_does_205 (by decide)) ?_
                  exact gj_zret F d_M_does_206 (by first | rfl | exact bN_z _ | decide) (Nat.le_refl _) (Nat.le_refl _) ⟨by rw [hD]; first | done | rfl, by rw [hD]; first | done | rfl⟩
            · refine gj_ld (i := 4) (pc2 := 124) rfl (fun _ _ _ h9 => lv_iload hx hb d_M_does_122 h9) ?_
              refine gj_l (pc2 := 127) (fun _ _ _ => lv_sipush (v := (256)) hx hb d_M_does_124 (by decide)) ?_
              refine gj_l (pc2 := 128) (fun _ _ _ => lv_isub hx hb d_M_does_127) ?_
              refine gj_l (pc2 := 133) (fun _ _ _ => lv_goto (tgt := 133) hx hb d_M_does_128 (by decide)) ?_
              refine gj_eq (st3 := [.int (dNr τ)]) rfl rfl (by unfold dNr; rw [if_neg h119]) ?_
              refine gj_st (i := 6) (pc2 := 135) (Nat.le_of_ble_eq_true rfl) rfl (fun _ _ _ _ _ h9 l9 => lv_istore hx hb d_M_does_133 h9 (Nat.le_of_ble_eq_true rfl) l9) ?_
              refine gj_ld (i := 0) (pc2 := 136) rfl (fun _ _ _ h9 => lv_aload_n hx hb d_M_does_135 rfl h9) ?_
              refine mj_gr F 1 rfl d_M_does_136 q_331 rfl ?_
              refine gj_ld (i := 0) (pc2 := 140) rfl (fun _ _ _ h9 => lv_aload_n hx hb d_M_does_139 rfl h9) ?_
              refine mj_gi F 3 rfl d_M_does_140 q_333 rfl ?_
              refine mj_ld F 1 1024 i (by omega) rfl (by decide) ei hi d_M_does_143 rfl ?_
              refine gj_l (pc2 := 146) (fun _ _ _ => lv_bipush (v := (15)) hx hb d_M_does_144 (by decide)) ?_
              refine gj_l (pc2 := 147) (fun _ _ _ => lv_iand hx hb d_M_does_146) ?_
              refine gj_st (i := 7) (pc2 := 149) (Nat.le_of_ble_eq_true rfl) rfl (fun _ _ _ _ _ h9 l9 => lv_istore hx hb d_M_does_147 h9 (Nat.le_of_ble_eq_true rfl) l9) ?_
              refine gj_ld (i := 0) (pc2 := 150) rfl (fun _ _ _ h9 => lv_aload_n hx hb d_M_does_149 rfl h9) ?_
              refine gj_l (pc2 := 151) (fun _ _ _ => lv_dup hx hb d_M_does_150 rfl) ?_
              refine mj_gi F 3 rfl d_M_does_151 q_333 rfl ?_
              refine gj_ld (i := 2) (pc2 := 155) rfl (fun _ _ _ h9 => lv_iload_n hx hb d_M_does_154 rfl h9) ?_
              refine bj_s F k_M_sizeOf d_M_does_155 q_447 (ct_M_sizeOf _) (rmo rfl) rfl rfl (Nat.le_of_ble_eq_true rfl) (Nat.zero_le _) (Nat.zero_le _) rfl (fun r9 e9 => ?_)
              subst e9
              refine gj_l (pc2 := 159) (fun _ _ _ => lv_iadd hx hb d_M_does_158) ?_
              refine mj_pi F 3 rfl d_M_does_159 q_333 rfl ?_
              refine gj_ld (i := 2) (pc2 := 163) rfl (fun _ _ _ h9 => lv_iload_n hx hb d_M_does_162 rfl h9) ?_
              refine gj_l (pc2 := 165) (fun _ _ _ => lv_bipush (v := (7)) hx hb d_M_does_163 (by decide)) ?_
              refine gj_if (pc2 := 195) (pc3 := 168) (fun _ _ _ => lv_icmp_ne (tgt := 195) hx hb d_M_does_165 (by decide)) (fun h165 => ?_) (fun h165 => ?_)
              · refine gj_ld (i := 0) (pc2 := 196) rfl (fun _ _ _ h9 => lv_aload_n hx hb d_M_does_195 rfl h9) ?_
                refine gj_ld (i := 2) (pc2 := 197) rfl (fun _ _ _ h9 => lv_iload_n hx hb d_M_does_196 rfl h9) ?_
                refine gj_ld (i := 3) (pc2 := 198) rfl (fun _ _ _ h9 => lv_iload_n hx hb d_M_does_197 rfl h9) ?_
                refine gj_ld (i := 5) (pc2 := 200) rfl (fun _ _ _ h9 => lv_iload hx hb d_M_does_198 h9) ?_
                refine gj_ld (i := 6) (pc2 := 202) rfl (fun _ _ _ h9 => lv_iload hx hb d_M_does_200 h9) ?_
                rw [lo3_eq]
                refine bj_vv F k_M_work d_M_does_202 q_462 (mw_at (i := 0) (by omega)) rfl (ct_M_work (τ := dPl τ) (kdM τ (τ 0 3)) (lo3_lt (τ 1 i)) (dSv τ) (dNr τ) (fun h9 => by rcases h9 with h9 | h9 <;> first | exact absurd h9 h92 | exact absurd h9 h97)) (rmo rfl) rfl rfl (Nat.le_of_ble_eq_true rfl) (Nat.zero_le _) (Nat.zero_le _) rfl (fun u9 e9 => ?_)
                subst e9
                have hD := doM_5 h10 h80 (fun h9 => by rcases h9 with h9 | h9 <;> first | exact absurd h9 h92 | exact absurd h9 h97) h165
                rw [hpi] at hD
                refine gj_l (pc2 := 206) (fun _ _ _ => lv_iconst (v := 1) hx hb d_M_does_205 (by decide)) ?_
                exact gj_zret F d_M_does_206 (by first | rfl | exact bN_z _ | decide) (Nat.le_refl _) (Nat.le_refl _) ⟨by rw [hD]; first | done | rfl, by rw [hD]; first | done | rfl⟩
              · have hD := doM_4 h10 h165
                have hCo : dCo τ = τ 1 i &&& 15 := by unfold dCo; rw [hpi]
                rw [hCo] at hD
                refine gj_ld (i := 0) (pc2 := 169) rfl (fun _ _ _ h9 => lv_aload_n hx hb d_M_does_168 rfl h9) ?_
                refine gj_l (pc2 := 170) (fun _ _ _ => lv_dup hx hb d_M_does_169 rfl) ?_
                refine mj_gi F 3 rfl d_M_does_170 q_333 rfl ?_
                refine gj_ld (i := 0) (pc2 := 174) rfl (fun _ _ _ h9 => lv_aload_n hx hb d_M_does_173 rfl h9) ?_
                refine gj_ld (i := 7) (pc2 := 176) rfl (fun _ _ _ h9 => lv_iload hx hb d_M_does_174 h9) ?_
                refine bj_vi F k_M_holds d_M_does_176 q_458 (mw_at (i := 0) (by omega)) rfl (ct_M_holds (τ := dPl τ) hZ.dPl _) (rmo rfl) rfl rfl (Nat.le_of_ble_eq_true rfl) (Nat.zero_le _) (Nat.zero_le _) rfl (fun r9 u9 e9 => ?_)
                obtain ⟨rfl, rfl⟩ := e9
                refine gj_if (pc2 := 187) (pc3 := 182) (fun _ _ _ => lv_if_eq (tgt := 187) hx hb d_M_does_179 (by decide)) (fun h179 => ?_) (fun h179 => ?_)
                · rw [if_pos h179] at hD
                  refine gj_l (pc2 := 188) (fun _ _ _ => lv_iconst (v := 0) hx hb d_M_does_187 (by decide)) ?_
                  refine gj_l (pc2 := 189) (fun _ _ _ => lv_iadd hx hb d_M_does_188) ?_
                  refine mj_pi F 3 rfl d_M_does_189 q_333 rfl ?_
                  refine gj_l (pc2 := 205) (fun _ _ _ => lv_goto (tgt := 205) hx hb d_M_does_192 (by decide)) ?_
                  refine gj_l (pc2 := 206) (fun _ _ _ => lv_iconst (v := 1) hx hb d_M_does_205 (by decide)) ?_
                  exact gj_zret F d_M_does_206 (by first | rfl | exact bN_z _ | decide) (Nat.le_refl _) (Nat.le_refl _) ⟨by rw [hD]; first | done | rfl, by rw [hD]; first | done | rfl⟩
                · rw [if_neg h179] at hD
                  refine gj_ld (i := 6) (pc2 := 184) rfl (fun _ _ _ h9 => lv_iload hx hb d_M_does_182 h9) ?_
                  refine gj_l (pc2 := 188) (fun _ _ _ => lv_goto (tgt := 188) hx hb d_M_does_184 (by decide)) ?_
                  refine gj_l (pc2 := 189) (fun _ _ _ => lv_iadd hx hb d_M_does_188) ?_
                  refine mj_pi F 3 rfl d_M_does_189 q_333 rfl ?_
                  refine gj_l (pc2 := 205) (fun _ _ _ => lv_goto (tgt := 205) hx hb d_M_does_192 (by decide)) ?_
                  refine gj_l (pc2 := 206) (fun _ _ _ => lv_iconst (v := 1) hx hb d_M_does_205 (by decide)) ?_
                  exact gj_zret F d_M_does_206 (by first | rfl | exact bN_z _ | decide) (Nat.le_refl _) (Nat.le_refl _) ⟨by rw [hD]; first | done | rfl, by rw [hD]; first | done | rfl⟩
          · refine gj_ld (i := 5) (pc2 := 102) rfl (fun _ _ _ h9 => lv_iload hx hb d_M_does_100 h9) ?_
            refine bj_s F k_M_isThere d_M_does_102 q_397 (ct_M_isThere _) (rmo rfl) rfl rfl (Nat.le_of_ble_eq_true rfl) (Nat.zero_le _) (Nat.zero_le _) rfl (fun r9 e9 => ?_)
            subst e9
            refine gj_if (pc2 := 115) (pc3 := 108) (fun _ _ _ => lv_if_ne (tgt := 115) hx hb d_M_does_105 (by decide)) (fun h105 => ?_) (fun h105 => ?_)
            · refine gj_ld (i := 4) (pc2 := 117) rfl (fun _ _ _ h9 => lv_iload hx hb d_M_does_115 h9) ?_
              refine gj_l (pc2 := 119) (fun _ _ _ => lv_bipush (v := (127)) hx hb d_M_does_117 (by decide)) ?_
              refine gj_if (pc2 := 131) (pc3 := 122) (fun _ _ _ => lv_icmp_le (tgt := 131) hx hb d_M_does_119 (by decide)) (fun h119 => ?_) (fun h119 => ?_)
              · refine gj_ld (i := 4) (pc2 := 133) rfl (fun _ _ _ h9 => lv_iload hx hb d_M_does_131 h9) ?_
                refine gj_eq (st3 := [.int (dNr τ)]) rfl rfl (by unfold dNr; rw [if_pos h119]) ?_
                refine gj_st (i := 6) (pc2 := 135) (Nat.le_of_ble_eq_true rfl) rfl (fun _ _ _ _ _ h9 l9 => lv_istore hx hb d_M_does_133 h9 (Nat.le_of_ble_eq_true rfl) l9) ?_
                refine gj_ld (i := 0) (pc2 := 136) rfl (fun _ _ _ h9 => lv_aload_n hx hb d_M_does_135 rfl h9) ?_
                refine mj_gr F 1 rfl d_M_does_136 q_331 rfl ?_
                refine gj_ld (i := 0) (pc2 := 140) rfl (fun _ _ _ h9 => lv_aload_n hx hb d_M_does_139 rfl h9) ?_
                refine mj_gi F 3 rfl d_M_does_140 q_333 rfl ?_
                refine mj_ld F 1 1024 i (by omega) rfl (by decide) ei hi d_M_does_143 rfl ?_
                refine gj_l (pc2 := 146) (fun _ _ _ => lv_bipush (v := (15)) hx hb d_M_does_144 (by decide)) ?_
                refine gj_l (pc2 := 147) (fun _ _ _ => lv_iand hx hb d_M_does_146) ?_
                refine gj_st (i := 7) (pc2 := 149) (Nat.le_of_ble_eq_true rfl) rfl (fun _ _ _ _ _ h9 l9 => lv_istore hx hb d_M_does_147 h9 (Nat.le_of_ble_eq_true rfl) l9) ?_
                refine gj_ld (i := 0) (pc2 := 150) rfl (fun _ _ _ h9 => lv_aload_n hx hb d_M_does_149 rfl h9) ?_
                refine gj_l (pc2 := 151) (fun _ _ _ => lv_dup hx hb d_M_does_150 rfl) ?_
                refine mj_gi F 3 rfl d_M_does_151 q_333 rfl ?_
                refine gj_ld (i := 2) (pc2 := 155) rfl (fun _ _ _ h9 => lv_iload_n hx hb d_M_does_154 rfl h9) ?_
                refine bj_s F k_M_sizeOf d_M_does_155 q_447 (ct_M_sizeOf _) (rmo rfl) rfl rfl (Nat.le_of_ble_eq_true rfl) (Nat.zero_le _) (Nat.zero_le _) rfl (fun r9 e9 => ?_)
                subst e9
                refine gj_l (pc2 := 159) (fun _ _ _ => lv_iadd hx hb d_M_does_158) ?_
                refine mj_pi F 3 rfl d_M_does_159 q_333 rfl ?_
                refine gj_ld (i := 2) (pc2 := 163) rfl (fun _ _ _ h9 => lv_iload_n hx hb d_M_does_162 rfl h9) ?_
                refine gj_l (pc2 := 165) (fun _ _ _ => lv_bipush (v := (7)) hx hb d_M_does_163 (by decide)) ?_
                refine gj_if (pc2 := 195) (pc3 := 168) (fun _ _ _ => lv_icmp_ne (tgt := 195) hx hb d_M_does_165 (by decide)) (fun h165 => ?_) (fun h165 => ?_)
                · refine gj_ld (i := 0) (pc2 := 196) rfl (fun _ _ _ h9 => lv_aload_n hx hb d_M_does_195 rfl h9) ?_
                  refine gj_ld (i := 2) (pc2 := 197) rfl (fun _ _ _ h9 => lv_iload_n hx hb d_M_does_196 rfl h9) ?_
                  refine gj_ld (i := 3) (pc2 := 198) rfl (fun _ _ _ h9 => lv_iload_n hx hb d_M_does_197 rfl h9) ?_
                  refine gj_ld (i := 5) (pc2 := 200) rfl (fun _ _ _ h9 => lv_iload hx hb d_M_does_198 h9) ?_
                  refine gj_ld (i := 6) (pc2 := 202) rfl (fun _ _ _ h9 => lv_iload hx hb d_M_does_200 h9) ?_
                  rw [lo3_eq]
                  refine bj_vv F k_M_work d_M_does_202 q_462 (mw_at (i := 0) (by omega)) rfl (ct_M_work (τ := dPl τ) (kdM τ (τ 0 3)) (lo3_lt (τ 1 i)) (dSv τ) (dNr τ) (fun _ => bN_n0.mp h105)) (rmo rfl) rfl rfl (Nat.le_of_ble_eq_true rfl) (Nat.zero_le _) (Nat.zero_le _) rfl (fun u9 e9 => ?_)
                  subst e9
                  have hD := doM_5 h10 h80 (fun _ => bN_n0.mp h105) h165
                  rw [hpi] at hD
                  refine gj_l (pc2 := 206) (fun _ _ _ => lv_iconst (v := 1) hx hb d_M_does_205 (by decide)) ?_
                  exact gj_zret F d_M_does_206 (by first | rfl | exact bN_z _ | decide) (Nat.le_refl _) (Nat.le_refl _) ⟨by rw [hD]; first | done | rfl, by rw [hD]; first | done | rfl⟩
                · have hD := doM_4 h10 h165
                  have hCo : dCo τ = τ 1 i &&& 15 := by unfold dCo; rw [hpi]
                  rw [hCo] at hD
                  refine gj_ld (i := 0) (pc2 := 169) rfl (fun _ _ _ h9 => lv_aload_n hx hb d_M_does_168 rfl h9) ?_
                  refine gj_l (pc2 := 170) (fun _ _ _ => lv_dup hx hb d_M_does_169 rfl) ?_
                  refine mj_gi F 3 rfl d_M_does_170 q_333 rfl ?_
                  refine gj_ld (i := 0) (pc2 := 174) rfl (fun _ _ _ h9 => lv_aload_n hx hb d_M_does_173 rfl h9) ?_
                  refine gj_ld (i := 7) (pc2 := 176) rfl (fun _ _ _ h9 => lv_iload hx hb d_M_does_174 h9) ?_
                  refine bj_vi F k_M_holds d_M_does_176 q_458 (mw_at (i := 0) (by omega)) rfl (ct_M_holds (τ := dPl τ) hZ.dPl _) (rmo rfl) rfl rfl (Nat.le_of_ble_eq_true rfl) (Nat.zero_le _) (Nat.zero_le _) rfl (fun r9 u9 e9 => ?_)
                  obtain ⟨rfl, rfl⟩ := e9
                  refine gj_if (pc2 := 187) (pc3 := 182) (fun _ _ _ => lv_if_eq (tgt := 187) hx hb d_M_does_179 (by decide)) (fun h179 => ?_) (fun h179 => ?_)
                  · rw [if_pos h179] at hD
                    refine gj_l (pc2 := 188) (fun _ _ _ => lv_iconst (v := 0) hx hb d_M_does_187 (by decide)) ?_
                    refine gj_l (pc2 := 189) (fun _ _ _ => lv_iadd hx hb d_M_does_188) ?_
                    refine mj_pi F 3 rfl d_M_does_189 q_333 rfl ?_
                    refine gj_l (pc2 := 205) (fun _ _ _ => lv_goto (tgt := 205) hx hb d_M_does_192 (by decide)) ?_
                    refine gj_l (pc2 := 206) (fun _ _ _ => lv_iconst (v := 1) hx hb d_M_does_205 (by decide)) ?_
                    exact gj_zret F d_M_does_206 (by first | rfl | exact bN_z _ | decide) (Nat.le_refl _) (Nat.le_refl _) ⟨by rw [hD]; first | done | rfl, by rw [hD]; first | done | rfl⟩
                  · rw [if_neg h179] at hD
                    refine gj_ld (i := 6) (pc2 := 184) rfl (fun _ _ _ h9 => lv_iload hx hb d_M_does_182 h9) ?_
                    refine gj_l (pc2 := 188) (fun _ _ _ => lv_goto (tgt := 188) hx hb d_M_does_184 (by decide)) ?_
                    refine gj_l (pc2 := 189) (fun _ _ _ => lv_iadd hx hb d_M_does_188) ?_
                    refine mj_pi F 3 rfl d_M_does_189 q_333 rfl ?_
                    refine gj_l (pc2 := 205) (fun _ _ _ => lv_goto (tgt := 205) hx hb d_M_does_192 (by decide)) ?_
                    refine gj_l (pc2 := 206) (fun _ _ _ => lv_iconst (v := 1) hx hb d_M_does_205 (by decide)) ?_
                    exact gj_zret F d_M_does_206 (by first | rfl | exact bN_z _ | decide) (Nat.le_refl _) (Nat.le_refl _) ⟨by rw [hD]; first | done | rfl, by rw [hD]; first | done | rfl⟩
              · refine gj_ld (i := 4) (pc2 := 124) rfl (fun _ _ _ h9 => lv_iload hx hb d_M_does_122 h9) ?_
                refine gj_l (pc2 := 127) (fun _ _ _ => lv_sipush (v := (256)) hx hb d_M_does_124 (by decide)) ?_
                refine gj_l (pc2 := 128) (fun _ _ _ => lv_isub hx hb d_M_does_127) ?_
                refine gj_l (pc2 := 133) (fun _ _ _ => lv_goto (tgt := 133) hx hb d_M_does_128 (by decide)) ?_
                refine gj_eq (st3 := [.int (dNr τ)]) rfl rfl (by unfold dNr; rw [if_neg h119]) ?_
                refine gj_st (i := 6) (pc2 := 135) (Nat.le_of_ble_eq_true rfl) rfl (fun _ _ _ _ _ h9 l9 => lv_istore hx hb d_M_does_133 h9 (Nat.le_of_ble_eq_true rfl) l9) ?_
                refine gj_ld (i := 0) (pc2 := 136) rfl (fun _ _ _ h9 => lv_aload_n hx hb d_M_does_135 rfl h9) ?_
                refine mj_gr F 1 rfl d_M_does_136 q_331 rfl ?_
                refine gj_ld (i := 0) (pc2 := 140) rfl (fun _ _ _ h9 => lv_aload_n hx hb d_M_does_139 rfl h9) ?_
                refine mj_gi F 3 rfl d_M_does_140 q_333 rfl ?_
                refine mj_ld F 1 1024 i (by omega) rfl (by decide) ei hi d_M_does_143 rfl ?_
                refine gj_l (pc2 := 146) (fun _ _ _ => lv_bipush (v := (15)) hx hb d_M_does_144 (by decide)) ?_
                refine gj_l (pc2 := 147) (fun _ _ _ => lv_iand hx hb d_M_does_146) ?_
                refine gj_st (i := 7) (pc2 := 149) (Nat.le_of_ble_eq_true rfl) rfl (fun _ _ _ _ _ h9 l9 => lv_istore hx hb d_M_does_147 h9 (Nat.le_of_ble_eq_true rfl) l9) ?_
                refine gj_ld (i := 0) (pc2 := 150) rfl (fun _ _ _ h9 => lv_aload_n hx hb d_M_does_149 rfl h9) ?_
                refine gj_l (pc2 := 151) (fun _ _ _ => lv_dup hx hb d_M_does_150 rfl) ?_
                refine mj_gi F 3 rfl d_M_does_151 q_333 rfl ?_
                refine gj_ld (i := 2) (pc2 := 155) rfl (fun _ _ _ h9 => lv_iload_n hx hb d_M_does_154 rfl h9) ?_
                refine bj_s F k_M_sizeOf d_M_does_155 q_447 (ct_M_sizeOf _) (rmo rfl) rfl rfl (Nat.le_of_ble_eq_true rfl) (Nat.zero_le _) (Nat.zero_le _) rfl (fun r9 e9 => ?_)
                subst e9
                refine gj_l (pc2 := 159) (fun _ _ _ => lv_iadd hx hb d_M_does_158) ?_
                refine mj_pi F 3 rfl d_M_does_159 q_333 rfl ?_
                refine gj_ld (i := 2) (pc2 := 163) rfl (fun _ _ _ h9 => lv_iload_n hx hb d_M_does_162 rfl h9) ?_
                refine gj_l (pc2 := 165) (fun _ _ _ => lv_bipush (v := (7)) hx hb d_M_does_163 (by decide)) ?_
                refine gj_if (pc2 := 195) (pc3 := 168) (fun _ _ _ => lv_icmp_ne (tgt := 195) hx hb d_M_does_165 (by decide)) (fun h165 => ?_) (fun h165 => ?_)
                · refine gj_ld (i := 0) (pc2 := 196) rfl (fun _ _ _ h9 => lv_aload_n hx hb d_M_does_195 rfl h9) ?_
                  refine gj_ld (i := 2) (pc2 := 197) rfl (fun _ _ _ h9 => lv_iload_n hx hb d_M_does_196 rfl h9) ?_
                  refine gj_ld (i := 3) (pc2 := 198) rfl (fun _ _ _ h9 => lv_iload_n hx hb d_M_does_197 rfl h9) ?_
                  refine gj_ld (i := 5) (pc2 := 200) rfl (fun _ _ _ h9 => lv_iload hx hb d_M_does_198 h9) ?_
                  refine gj_ld (i := 6) (pc2 := 202) rfl (fun _ _ _ h9 => lv_iload hx hb d_M_does_200 h9) ?_
                  rw [lo3_eq]
                  refine bj_vv F k_M_work d_M_does_202 q_462 (mw_at (i := 0) (by omega)) rfl (ct_M_work (τ := dPl τ) (kdM τ (τ 0 3)) (lo3_lt (τ 1 i)) (dSv τ) (dNr τ) (fun _ => bN_n0.mp h105)) (rmo rfl) rfl rfl (Nat.le_of_ble_eq_true rfl) (Nat.zero_le _) (Nat.zero_le _) rfl (fun u9 e9 => ?_)
                  subst e9
                  have hD := doM_5 h10 h80 (fun _ => bN_n0.mp h105) h165
                  rw [hpi] at hD
                  refine gj_l (pc2 := 206) (fun _ _ _ => lv_iconst (v := 1) hx hb d_M_does_205 (by decide)) ?_
                  exact gj_zret F d_M_does_206 (by first | rfl | exact bN_z _ | decide) (Nat.le_refl _) (Nat.le_refl _) ⟨by rw [hD]; first | done | rfl, by rw [hD]; first | done | rfl⟩
                · have hD := doM_4 h10 h165
                  have hCo : dCo τ = τ 1 i &&& 15 := by unfold dCo; rw [hpi]
                  rw [hCo] at hD
                  refine gj_ld (i := 0) (pc2 := 169) rfl (fun _ _ _ h9 => lv_aload_n hx hb d_M_does_168 rfl h9) ?_
                  refine gj_l (pc2 := 170) (fun _ _ _ => lv_dup hx hb d_M_does_169 rfl) ?_
                  refine mj_gi F 3 rfl d_M_does_170 q_333 rfl ?_
                  refine gj_ld (i := 0) (pc2 := 174) rfl (fun _ _ _ h9 => lv_aload_n hx hb d_M_does_173 rfl h9) ?_
                  refine gj_ld (i := 7) (pc2 := 176) rfl (fun _ _ _ h9 => lv_iload hx hb d_M_does_174 h9) ?_
                  refine bj_vi F k_M_holds d_M_does_176 q_458 (mw_at (i := 0) (by omega)) rfl (ct_M_holds (τ := dPl τ) hZ.dPl _) (rmo rfl) rfl rfl (Nat.le_of_ble_eq_true rfl) (Nat.zero_le _) (Nat.zero_le _) rfl (fun r9 u9 e9 => ?_)
                  obtain ⟨rfl, rfl⟩ := e9
                  refine gj_if (pc2 := 187) (pc3 := 182) (fun _ _ _ => lv_if_eq (tgt := 187) hx hb d_M_does_179 (by decide)) (fun h179 => ?_) (fun h179 => ?_)
                  · rw [if_pos h179] at hD
                    refine gj_l (pc2 := 188) (fun _ _ _ => lv_iconst (v := 0) hx hb d_M_does_187 (by decide)) ?_
                    refine gj_l (pc2 := 189) (fun _ _ _ => lv_iadd hx hb d_M_does_188) ?_
                    refine mj_pi F 3 rfl d_M_does_189 q_333 rfl ?_
                    refine gj_l (pc2 := 205) (fun _ _ _ => lv_goto (tgt := 205) hx hb d_M_does_192 (by decide)) ?_
                    refine gj_l (pc2 := 206) (fun _ _ _ => lv_iconst (v := 1) hx hb d_M_does_205 (by decide)) ?_
                    exact gj_zret F d_M_does_206 (by first | rfl | exact bN_z _ | decide) (Nat.le_refl _) (Nat.le_refl _) ⟨by rw [hD]; first | done | rfl, by rw [hD]; first | done | rfl⟩
                  · rw [if_neg h179] at hD
                    refine gj_ld (i := 6) (pc2 := 184) rfl (fun _ _ _ h9 => lv_iload hx hb d_M_does_182 h9) ?_
                    refine gj_l (pc2 := 188) (fun _ _ _ => lv_goto (tgt := 188) hx hb d_M_does_184 (by decide)) ?_
                    refine gj_l (pc2 := 189) (fun _ _ _ => lv_iadd hx hb d_M_does_188) ?_
                    refine mj_pi F 3 rfl d_M_does_189 q_333 rfl ?_
                    refine gj_l (pc2 := 205) (fun _ _ _ => lv_goto (tgt := 205) hx hb d_M_does_192 (by decide)) ?_
                    refine gj_l (pc2 := 206) (fun _ _ _ => lv_iconst (v := 1) hx hb d_M_does_205 (by decide)) ?_
                    exact gj_zret F d_M_does_206 (by first | rfl | exact bN_z _ | decide) (Nat.le_refl _) (Nat.le_refl _) ⟨by rw [hD]; first | done | rfl, by rw [hD]; first | done | rfl⟩
            · have hD := doM_3 h10 h80 (Or.inr h97) (bN_0.mp h105)
              refine gj_ld (i := 0) (pc2 := 109) rfl (fun _ _ _ h9 => lv_aload_n hx hb d_M_does_108 rfl h9) ?_
              refine gj_l (pc2 := 110) (fun _ _ _ => lv_iconst (v := 1) hx hb d_M_does_109 (by decide)) ?_
              refine bj_vv F k_M_fault d_M_does_110 q_454 (mw_at (i := 0) (by omega)) rfl (ct_M_fault _) (rmo rfl) rfl rfl (Nat.le_of_ble_eq_true rfl) (Nat.zero_le _) (Nat.zero_le _) rfl (fun u9 e9 => ?_)
              subst e9
              refine gj_l (pc2 := 114) (fun _ _ _ => lv_iconst (v := 0) hx hb d_M_does_113 (by decide)) ?_
              exact gj_zret F d_M_does_114 (by first | rfl | exact bN_z _ | decide) (Nat.le_refl _) (Nat.le_refl _) ⟨by rw [hD]; first | done | rfl, by rw [hD]; first | done | rfl⟩
      · have hD := doM_2 h10 h80
        refine gj_ld (i := 0) (pc2 := 84) rfl (fun _ _ _ h9 => lv_aload_n hx hb d_M_does_83 rfl h9) ?_
        refine gj_l (pc2 := 85) (fun _ _ _ => lv_iconst (v := 1) hx hb d_M_does_84 (by decide)) ?_
        refine mj_pi F 4 rfl d_M_does_85 q_334 rfl ?_
        refine gj_l (pc2 := 89) (fun _ _ _ => lv_iconst (v := 0) hx hb d_M_does_88 (by decide)) ?_
        exact gj_zret F d_M_does_89 (by first | rfl | exact bN_z _ | decide) (Nat.le_refl _) (Nat.le_refl _) ⟨by rw [hD]; first | done | rfl, by rw [hD]; first | done | rfl⟩
  · have hD := doM_1 h10
    refine gj_ld (i := 0) (pc2 := 14) rfl (fun _ _ _ h9 => lv_aload_n hx hb d_M_does_13 rfl h9) ?_
    refine gj_ld (i := 1) (pc2 := 15) rfl (fun _ _ _ h9 => lv_iload_n hx hb d_M_does_14 rfl h9) ?_
    refine bj_vv F k_M_fault d_M_does_15 q_454 (mw_at (i := 0) (by omega)) rfl (ct_M_fault _) (rmo rfl) rfl rfl (Nat.le_of_ble_eq_true rfl) (Nat.zero_le _) (Nat.zero_le _) rfl (fun u9 e9 => ?_)
    subst e9
    refine gj_l (pc2 := 19) (fun _ _ _ => lv_iconst (v := 0) hx hb d_M_does_18 (by decide)) ?_
    exact gj_zret F d_M_does_19 (by first | rfl | exact bN_z _ | decide) (Nat.le_refl _) (Nat.le_refl _) ⟨by rw [hD]; first | done | rfl, by rw [hD]; first | done | rfl⟩
