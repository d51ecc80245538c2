theorem mk_12 {τ : St} (h : (mkT τ 12).2.2 = 12) : (mkT τ 12).2.1 = false := by
  cases hz : (mkT τ 11).2.1 with
  | true =>
    rw [mkT_on hz] at h ⊢
    dsimp only at h ⊢
    rw [decide_eq_true (by omega : 12 ≤ (mkT τ 11).2.2 + 1)]
    rfl
  | false =>
    have e : mkT τ 12 = mkT τ 11 := mkT_off hz 1
    rw [e]
    exact hz
theorem mkM_1 {τ : St} {k t : Nat} (hq : mkT τ 12 = mkT τ t) (ht : (mkT τ t).2.2 = t) (h1 : (mkT τ t).1 ≤ 1024) (h2 : inM ((mkA τ k t (mkT τ t).1) 0 3) = true) : mkM τ k = mkZ (mkA τ k t (mkT τ t).1) t := by
  show mkZ (if inM (mkA τ k (mkT τ 12).2.2 (if (mkT τ 12).1 ≤ 1024 then (mkT τ 12).1 else 1024) 0 3) then _ else _) (mkT τ 12).2.2 = _
  rw [hq, ht, if_pos h1, if_pos h2]
theorem mkM_2 {τ : St} {k t : Nat} (hq : mkT τ 12 = mkT τ t) (ht : (mkT τ t).2.2 = t) (h1 : ¬ (mkT τ t).1 ≤ 1024) (h2 : inM ((mkA τ k t 1024) 0 3) = true) : mkM τ k = mkZ (mkA τ k t 1024) t := by
  show mkZ (if inM (mkA τ k (mkT τ 12).2.2 (if (mkT τ 12).1 ≤ 1024 then (mkT τ 12).1 else 1024) 0 3) then _ else _) (mkT τ 12).2.2 = _
  rw [hq, ht, if_neg h1, if_pos h2]
theorem mkM_3 {τ : St} {k t : Nat} (hq : mkT τ 12 = mkT τ t) (ht : (mkT τ t).2.2 = t) (h1 : (mkT τ t).1 ≤ 1024) (h2 : inM ((mkA τ k t (mkT τ t).1) 0 3) = false) : mkM τ k = mkZ (s2 (mkA τ k t (mkT τ t).1) 6 k 0) t := by
  show mkZ (if inM (mkA τ k (mkT τ 12).2.2 (if (mkT τ 12).1 ≤ 1024 then (mkT τ 12).1 else 1024) 0 3) then _ else _) (mkT τ 12).2.2 = _
  rw [hq, ht, if_pos h1, if_neg (by rw [h2]; decide)]
theorem mkM_4 {τ : St} {k t : Nat} (hq : mkT τ 12 = mkT τ t) (ht : (mkT τ t).2.2 = t) (h1 : ¬ (mkT τ t).1 ≤ 1024) (h2 : inM ((mkA τ k t 1024) 0 3) = false) : mkM τ k = mkZ (s2 (mkA τ k t 1024) 6 k 0) t := by
  show mkZ (if inM (mkA τ k (mkT τ 12).2.2 (if (mkT τ 12).1 ≤ 1024 then (mkT τ 12).1 else 1024) 0 3) then _ else _) (mkT τ 12).2.2 = _
  rw [hq, ht, if_neg h1, if_neg (by rw [h2]; decide)]
theorem fiM_1 {τ : St} (h1 : ¬ fi1 τ 3 (kAt (τ 0 3)) = 0) (h2 : fi1 τ 4 (kAt (τ 0 3)) = τ 0 3) : fiM τ = s2 (fi1 τ) 0 15 (fi1 τ 0 15 + 1) := by unfold fiM; rw [if_pos ⟨h1, h2⟩]
theorem fiM_2 {τ : St} (h1 : ¬ fi1 τ 3 (kAt (τ 0 3)) = 0) (h2 : ¬ fi1 τ 4 (kAt (τ 0 3)) = τ 0 3) : fiM τ = mkM (fi1 τ) (kAt (τ 0 3)) := by unfold fiM; rw [if_neg (fun h => h2 h.2)]
theorem fiM_3 {τ : St} (h1 : fi1 τ 3 (kAt (τ 0 3)) = 0) : fiM τ = mkM (fi1 τ) (kAt (τ 0 3)) := by unfold fiM; rw [if_neg (fun h => h.1 h1)]

theorem k_M_become : CKV y_M_become c_M_become 3 none 2 := ⟨q_469, q_3, q_468, sl_M_become, ⟨by decide +kernel, by decide +kernel, by decide +kernel⟩⟩
set_option maxHeartbeats 4000000 in
set_option maxRecDepth 100000 in
theorem ct_M_become {l : Launch} {D : va_G} {cI cB cZ cJ : ClassId} {a : Nat → Nat} {τ : St} {r : Nat} (hr : r < 8) (v : Int32) : GCv l y_M_become (Cond.code y_M_become c_M_become 3 none :: tbW) ({ frames := 0, cells := 0, slots := 0, locals := 0 }) 0 0 D vCl (TY cI cB cZ cJ) [.ref (a 0), .int (nI r), .int v] (mw a cI cZ τ) (fun u => u = mw a cI cZ (beM τ r v)) := by
  refine gc_body (Qc := gc_Qv D vCl (TY cI cB cZ cJ) (mw a cI cZ τ) (fun u => u = mw a cI cZ (beM τ r v))) (cc := c_M_become) (maxL := 3) (ret := none) (by decide) rfl (by simp [Value.category]) (Nat.le_of_ble_eq_true rfl) ?_
  intro p e s m args below meth c F
  have hx := F.1
  have hb := F.2.1
  refine gj_ld (i := 0) (pc2 := 1) rfl (fun _ _ _ h9 => lv_aload_n hx hb d_M_become_0 rfl h9) ?_
  refine mj_gr F 2 rfl d_M_become_1 q_332 rfl ?_
  refine gj_ld (i := 1) (pc2 := 5) rfl (fun _ _ _ h9 => lv_iload_n hx hb d_M_become_4 rfl h9) ?_
  refine gj_ld (i := 2) (pc2 := 6) rfl (fun _ _ _ h9 => lv_iload_n hx hb d_M_become_5 rfl h9) ?_
  refine mj_st F 2 8 r (by omega) (fun _ => rfl) (by decide) rfl hr d_M_become_6 rfl ?_
  refine gj_ld (i := 0) (pc2 := 8) rfl (fun _ _ _ h9 => lv_aload_n hx hb d_M_become_7 rfl h9) ?_
  refine gj_ld (i := 2) (pc2 := 9) rfl (fun _ _ _ h9 => lv_iload_n hx hb d_M_become_8 rfl h9) ?_
  refine gj_if (pc2 := 16) (pc3 := 12) (fun _ _ _ => lv_if_ne (tgt := 16) hx hb d_M_become_9 (by decide)) (fun h9 => ?_) (fun h9 => ?_)
  · refine gj_l (pc2 := 17) (fun _ _ _ => lv_iconst (v := 0) hx hb d_M_become_16 (by decide)) ?_
    refine mj_pz F 5 rfl (by first | exact ⟨rfl, rfl⟩ | exact bN_f _) d_M_become_17 q_335 rfl ?_
    refine gj_ld (i := 0) (pc2 := 21) rfl (fun _ _ _ h9 => lv_aload_n hx hb d_M_become_20 rfl h9) ?_
    refine gj_ld (i := 2) (pc2 := 22) rfl (fun _ _ _ h9 => lv_iload_n hx hb d_M_become_21 rfl h9) ?_
    refine gj_if (pc2 := 29) (pc3 := 25) (fun _ _ _ => lv_if_ge (tgt := 29) hx hb d_M_become_22 (by decide)) (fun h22 => ?_) (fun h22 => ?_)
    · refine gj_l (pc2 := 30) (fun _ _ _ => lv_iconst (v := 0) hx hb d_M_become_29 (by decide)) ?_
      refine mj_pz F 6 rfl (by first | exact ⟨rfl, rfl⟩ | exact bN_f _) d_M_become_30 q_336 rfl ?_
      exact gj_vret F d_M_become_33 (Nat.le_refl _) (Nat.le_refl _) (by first | (simp [beM, bN, h9, h22]; done) | (subst h9; exact absurd h22 (by decide)))
    · refine gj_l (pc2 := 26) (fun _ _ _ => lv_iconst (v := 1) hx hb d_M_become_25 (by decide)) ?_
      refine gj_l (pc2 := 30) (fun _ _ _ => lv_goto (tgt := 30) hx hb d_M_become_26 (by decide)) ?_
      refine mj_pz F 6 rfl (by first | exact ⟨rfl, rfl⟩ | exact bN_f _) d_M_become_30 q_336 rfl ?_
      exact gj_vret F d_M_become_33 (Nat.le_refl _) (Nat.le_refl _) (by first | (simp [beM, bN, h9, h22]; done) | (subst h9; exact absurd h22 (by decide)))
  · refine gj_l (pc2 := 13) (fun _ _ _ => lv_iconst (v := 1) hx hb d_M_become_12 (by decide)) ?_
    refine gj_l (pc2 := 17) (fun _ _ _ => lv_goto (tgt := 17) hx hb d_M_become_13 (by decide)) ?_
    refine mj_pz F 5 rfl (by first | exact ⟨rfl, rfl⟩ | exact bN_f _) d_M_become_17 q_335 rfl ?_
    refine gj_ld (i := 0) (pc2 := 21) rfl (fun _ _ _ h9 => lv_aload_n hx hb d_M_become_20 rfl h9) ?_
    refine gj_ld (i := 2) (pc2 := 22) rfl (fun _ _ _ h9 => lv_iload_n hx hb d_M_become_21 rfl h9) ?_
    refine gj_if (pc2 := 29) (pc3 := 25) (fun _ _ _ => lv_if_ge (tgt := 29) hx hb d_M_become_22 (by decide)) (fun h22 => ?_) (fun h22 => ?_)
    · refine gj_l (pc2 := 30) (fun _ _ _ => lv_iconst (v := 0) hx hb d_M_become_29 (by decide)) ?_
      refine mj_pz F 6 rfl (by first | exact ⟨rfl, rfl⟩ | exact bN_f _) d_M_become_30 q_336 rfl ?_
      exact gj_vret F d_M_become_33 (Nat.le_refl _) (Nat.le_refl _) (by first | (simp [beM, bN, h9, h22]; done) | (subst h9; exact absurd h22 (by decide)))
    · refine gj_l (pc2 := 26) (fun _ _ _ => lv_iconst (v := 1) hx hb d_M_become_25 (by decide)) ?_
      refine gj_l (pc2 := 30) (fun _ _ _ => lv_goto (tgt := 30) hx hb d_M_become_26 (by decide)) ?_
      refine mj_pz F 6 rfl (by first | exact ⟨rfl, rfl⟩ | exact bN_f _) d_M_become_30 q_336 rfl ?_
      exact gj_vret F d_M_become_33 (Nat.le_refl _) (Nat.le_refl _) (by first | (simp [beM, bN, h9, h22]; done) | (subst h9; exact absurd h22 (by decide)))

theorem k_M_holds : CKV y_M_holds c_M_holds 2 (some .boolean) 1 := ⟨q_461, q_3, q_460, sl_M_holds, ⟨by decide +kernel, by decide +kernel, by decide +kernel⟩⟩
set_option maxHeartbeats 4000000 in
set_option maxRecDepth 100000 in
theorem ct_M_holds {l : Launch} {D : va_G} {cI cB cZ cJ : ClassId} {a : Nat → Nat} {τ : St} (hZ : ZB τ) (x : Int32) : GCi l y_M_holds (Cond.code y_M_holds c_M_holds 2 (some .boolean) :: tbW) ({ frames := 0, cells := 0, slots := 0, locals := 0 }) 0 0 D vCl (TY cI cB cZ cJ) [.ref (a 0), .int x] (mw a cI cZ τ) (fun r u => r = hoM τ x ∧ u = (mw a cI cZ τ)) := by
  refine gc_body (Qc := gc_Qi D vCl (TY cI cB cZ cJ) (mw a cI cZ τ) (fun r u => r = hoM τ x ∧ u = (mw a cI cZ τ))) (cc := c_M_holds) (maxL := 2) (ret := (some .boolean)) (by decide) rfl (by simp [Value.category]) (Nat.le_of_ble_eq_true rfl) ?_
  intro p e s m args below meth c F
  have hx := F.1
  have hb := F.2.1
  refine gj_ld (i := 1) (pc2 := 1) rfl (fun _ _ _ h9 => lv_iload_n hx hb d_M_holds_0 rfl h9) ?_
  by_cases h1_0 : x = 0
  · rw [h1_0]
    refine gj_l (pc2 := 36) (fun _ _ _ => lv_tableIn (tgt := 36) hx hb d_M_holds_1 (by decide) (by decide) rfl (by decide)) ?_
    refine gj_l (pc2 := 37) (fun _ _ _ => lv_iconst (v := 1) hx hb d_M_holds_36 (by decide)) ?_
    exact gj_zret F d_M_holds_37 (by first | rfl | (obtain ⟨⟨b9, e9⟩, -⟩ := hZ; rw [e9]; exact bN_z b9) | (obtain ⟨-, b9, e9⟩ := hZ; rw [e9]; exact bN_z b9)) (Nat.le_refl _) (Nat.le_refl _) ⟨by simp [hoM, h1_0], rfl⟩
  by_cases h1_1 : x = 1
  · rw [h1_1]
    refine gj_l (pc2 := 38) (fun _ _ _ => lv_tableIn (tgt := 38) hx hb d_M_holds_1 (by decide) (by decide) rfl (by decide)) ?_
    refine gj_ld (i := 0) (pc2 := 39) rfl (fun _ _ _ h9 => lv_aload_n hx hb d_M_holds_38 rfl h9) ?_
    refine mj_gi F 5 rfl d_M_holds_39 q_335 rfl ?_
    exact gj_zret F d_M_holds_42 (by first | rfl | (obtain ⟨⟨b9, e9⟩, -⟩ := hZ; rw [e9]; exact bN_z b9) | (obtain ⟨-, b9, e9⟩ := hZ; rw [e9]; exact bN_z b9)) (Nat.le_refl _) (Nat.le_refl _) ⟨by simp [hoM, h1_0, h1_1], rfl⟩
  by_cases h1_2 : x = 2
  · rw [h1_2]
    refine gj_l (pc2 := 43) (fun _ _ _ => lv_tableIn (tgt := 43) hx hb d_M_holds_1 (by decide) (by decide) rfl (by decide)) ?_
    refine gj_ld (i := 0) (pc2 := 44) rfl (fun _ _ _ h9 => lv_aload_n hx hb d_M_holds_43 rfl h9) ?_
    refine mj_gi F 5 rfl d_M_holds_44 q_335 rfl ?_
    refine gj_if (pc2 := 54) (pc3 := 50) (fun _ _ _ => lv_if_ne (tgt := 54) hx hb d_M_holds_47 (by decide)) (fun h47 => ?_) (fun h47 => ?_)
    · refine gj_l (pc2 := 55) (fun _ _ _ => lv_iconst (v := 0) hx hb d_M_holds_54 (by decide)) ?_
      exact gj_zret F d_M_holds_55 (by first | rfl | (obtain ⟨⟨b9, e9⟩, -⟩ := hZ; rw [e9]; exact bN_z b9) | (obtain ⟨-, b9, e9⟩ := hZ; rw [e9]; exact bN_z b9)) (Nat.le_refl _) (Nat.le_refl _) ⟨by simp [hoM, h1_0, h1_1, h1_2, h47], rfl⟩
    · refine gj_l (pc2 := 51) (fun _ _ _ => lv_iconst (v := 1) hx hb d_M_holds_50 (by decide)) ?_
      refine gj_l (pc2 := 55) (fun _ _ _ => lv_goto (tgt := 55) hx hb d_M_holds_51 (by decide)) ?_
      exact gj_zret F d_M_holds_55 (by first | rfl | (obtain ⟨⟨b9, e9⟩, -⟩ := hZ; rw [e9]; exact bN_z b9) | (obtain ⟨-, b9, e9⟩ := hZ; rw [e9]; exact bN_z b9)) (Nat.le_refl _) (Nat.le_refl _) ⟨by simp [hoM, h1_0, h1_1, h1_2, h47], rfl⟩
  by_cases h1_3 : x = 3
  · rw [h1_3]
    refine gj_l (pc2 := 56) (fun _ _ _ => lv_tableIn (tgt := 56) hx hb d_M_holds_1 (by decide) (by decide) rfl (by decide)) ?_
    refine gj_ld (i := 0) (pc2 := 57) rfl (fun _ _ _ h9 => lv_aload_n hx hb d_M_holds_56 rfl h9) ?_
    refine mj_gi F 6 rfl d_M_holds_57 q_336 rfl ?_
    exact gj_zret F d_M_holds_60 (by first | rfl | (obtain ⟨⟨b9, e9⟩, -⟩ := hZ; rw [e9]; exact bN_z b9) | (obtain ⟨-, b9, e9⟩ := hZ; rw [e9]; exact bN_z b9)) (Nat.le_refl _) (Nat.le_refl _) ⟨by simp [hoM, h1_0, h1_1, h1_2, h1_3], rfl⟩
  by_cases h1_4 : x = 4
  · rw [h1_4]
    refine gj_l (pc2 := 61) (fun _ _ _ => lv_tableIn (tgt := 61) hx hb d_M_holds_1 (by decide) (by decide) rfl (by decide)) ?_
    refine gj_ld (i := 0) (pc2 := 62) rfl (fun _ _ _ h9 => lv_aload_n hx hb d_M_holds_61 rfl h9) ?_
    refine mj_gi F 6 rfl d_M_holds_62 q_336 rfl ?_
    refine gj_if (pc2 := 72) (pc3 := 68) (fun _ _ _ => lv_if_ne (tgt := 72) hx hb d_M_holds_65 (by decide)) (fun h65 => ?_) (fun h65 => ?_)
    · refine gj_l (pc2 := 73) (fun _ _ _ => lv_iconst (v := 0) hx hb d_M_holds_72 (by decide)) ?_
      exact gj_zret F d_M_holds_73 (by first | rfl | (obtain ⟨⟨b9, e9⟩, -⟩ := hZ; rw [e9]; exact bN_z b9) | (obtain ⟨-, b9, e9⟩ := hZ; rw [e9]; exact bN_z b9)) (Nat.le_refl _) (Nat.le_refl _) ⟨by simp [hoM, h1_0, h1_1, h1_2, h1_3, h1_4, h65], rfl⟩
    · refine gj_l (pc2 := 69) (fun _ _ _ => lv_iconst (v := 1) hx hb d_M_holds_68 (by decide)) ?_
      refine gj_l (pc2 := 73) (fun _ _ _ => lv_goto (tgt := 73) hx hb d_M_holds_69 (by decide)) ?_
      exact gj_zret F d_M_holds_73 (by first | rfl | (obtain ⟨⟨b9, e9⟩, -⟩ := hZ; rw [e9]; exact bN_z b9) | (obtain ⟨-, b9, e9⟩ := hZ; rw [e9]; exact bN_z b9)) (Nat.le_refl _) (Nat.le_refl _) ⟨by simp [hoM, h1_0, h1_1, h1_2, h1_3, h1_4, h65], rfl⟩
  have hsw : (x).toInt < 0 ∨ 4 < (x).toInt := by
    by_cases z : (x).toInt < 0
    · exact Or.inl z
    by_cases z2 : 4 < (x).toInt
    · exact Or.inr z2
    exfalso
    rcases (show (x).toInt = 0 ∨ (x).toInt = 1 ∨ (x).toInt = 2 ∨ (x).toInt = 3 ∨ (x).toInt = 4 by omega) with z3 | z3 | z3 | z3 | z3
    · exact h1_0 (Int32.toInt_inj.mp (z3.trans (by decide)))
    · exact h1_1 (Int32.toInt_inj.mp (z3.trans (by decide)))
    · exact h1_2 (Int32.toInt_inj.mp (z3.trans (by decide)))
    · exact h1_3 (Int32.toInt_inj.mp (z3.trans (by decide)))
    · exact h1_4 (Int32.toInt_inj.mp (z3.trans (by decide)))
  refine gj_l (pc2 := 74) (fun _ _ _ => lv_tableOut (tgt := 74) hx hb d_M_holds_1 hsw (by decide)) ?_
  refine gj_l (pc2 := 75) (fun _ _ _ => lv_iconst (v := 0) hx hb d_M_holds_74 (by decide)) ?_
  exact gj_zret F d_M_holds_75 (by first | rfl | (obtain ⟨⟨b9, e9⟩, -⟩ := hZ; rw [e9]; exact bN_z b9) | (obtain ⟨-, b9, e9⟩ := hZ; rw [e9]; exact bN_z b9)) (Nat.le_refl _) (Nat.le_refl _) ⟨by simp [hoM, h1_0, h1_1, h1_2, h1_3, h1_4], rfl⟩

theorem k_M_fault : CKV y_M_fault c_M_fault 2 none 1 := ⟨q_457, q_3, q_456, sl_M_fault, ⟨by decide +kernel, by decide +kernel, by decide +kernel⟩⟩
set_option maxHeartbeats 4000000 in
set_option maxRecDepth 100000 in
theorem ct_M_fault {l : Launch} {D : va_G} {cI cB cZ cJ : ClassId} {a : Nat → Nat} {τ : St} (x : Int32) : GCv l y_M_fault (Cond.code y_M_fault c_M_fault 2 none :: tbW) ({ frames := 0, cells := 0, slots := 0, locals := 0 }) 0 0 D vCl (TY cI cB cZ cJ) [.ref (a 0), .int x] (mw a cI cZ τ) (fun u => u = mw a cI cZ (s2 τ 0 4 (1 + x))) := by
  refine gc_body (Qc := gc_Qv D vCl (TY cI cB cZ cJ) (mw a cI cZ τ) (fun u => u = mw a cI cZ (s2 τ 0 4 (1 + x)))) (cc := c_M_fault) (maxL := 2) (ret := none) (by decide) rfl (by simp [Value.category]) (Nat.le_of_ble_eq_true rfl) ?_
  intro p e s m args below meth c F
  have hx := F.1
  have hb := F.2.1
  refine gj_ld (i := 0) (pc2 := 1) rfl (fun _ _ _ h9 => lv_aload_n hx hb d_M_fault_0 rfl h9) ?_
  refine gj_l (pc2 := 2) (fun _ _ _ => lv_iconst (v := 1) hx hb d_M_fault_1 (by decide)) ?_
  refine gj_ld (i := 1) (pc2 := 3) rfl (fun _ _ _ h9 => lv_iload_n hx hb d_M_fault_2 rfl h9) ?_
  refine gj_l (pc2 := 4) (fun _ _ _ => lv_iadd hx hb d_M_fault_3) ?_
  refine mj_pi F 4 rfl d_M_fault_4 q_334 rfl ?_
  exact gj_vret F d_M_fault_7 (Nat.le_refl _) (Nat.le_refl _) rfl

theorem k_M_work : CKV y_M_work c_M_work 6 none 4 := ⟨q_465, q_3, q_464, sl_M_work, ⟨by decide +kernel, by decide +kernel, by decide +kernel⟩⟩
set_option maxHeartbeats 4000000 in
set_option maxRecDepth 100000 in
theorem ct_M_work {l : Launch} {D : va_G} {cI cB cZ cJ : ClassId} {a : Nat → Nat} {τ : St} (kd : Int32) {r : Nat} (hr : r < 8) (sv nr : Int32) (hm : kd = 4 ∨ kd = 5 → inM sv = true) : GCv l y_M_work (Cond.code y_M_work c_M_work 6 none :: tbW) ({ frames := 2, cells := 0, slots := 0, locals := 44 }) 0 0 D vCl (TY cI cB cZ cJ) [.ref (a 0), .int kd, .int (nI r), .int sv, .int nr] (mw a cI cZ τ) (fun u => u = mw a cI cZ (woM τ kd r sv nr)) := by
  refine gc_body (Qc := gc_Qv D vCl (TY cI cB cZ cJ) (mw a cI cZ τ) (fun u => u = mw a cI cZ (woM τ kd r sv nr))) (cc := c_M_work) (maxL := 6) (ret := none) (by decide) rfl (by simp [Value.category]) (Nat.le_of_ble_eq_true rfl) ?_
  intro p e s m args below meth c F
  have hx := F.1
  have hb := F.2.1
  refine gj_ld (i := 0) (pc2 := 1) rfl (fun _ _ _ h9 => lv_aload_n hx hb d_M_work_0 rfl h9) ?_
  refine mj_gr F 2 rfl d_M_work_1 q_332 rfl ?_
  refine gj_ld (i := 2) (pc2 := 5) rfl (fun _ _ _ h9 => lv_iload_n hx hb d_M_work_4 rfl h9) ?_
  refine mj_ld F 2 8 r (by omega) rfl (by decide) rfl hr d_M_work_5 rfl ?_
  refine gj_st (i := 5) (pc2 := 8) (Nat.le_of_ble_eq_true rfl) rfl (fun _ _ _ _ _ h9 l9 => lv_istore hx hb d_M_work_6 h9 (Nat.le_of_ble_eq_true rfl) l9) ?_
  refine gj_ld (i := 1) (pc2 := 9) rfl (fun _ _ _ h9 => lv_iload_n hx hb d_M_work_8 rfl h9) ?_
  by_cases h9_1 : kd = 1
  · rw [h9_1]
    refine gj_l (pc2 := 64) (fun _ _ _ => lv_tableIn (tgt := 64) hx hb d_M_work_9 (by decide) (by decide) rfl (by decide)) ?_
    refine gj_ld (i := 0) (pc2 := 65) rfl (fun _ _ _ h9 => lv_aload_n hx hb d_M_work_64 rfl h9) ?_
    refine mj_gr F 2 rfl d_M_work_65 q_332 rfl ?_
    refine gj_ld (i := 2) (pc2 := 69) rfl (fun _ _ _ h9 => lv_iload_n hx hb d_M_work_68 rfl h9) ?_
    refine gj_ld (i := 4) (pc2 := 71) rfl (fun _ _ _ h9 => lv_iload hx hb d_M_work_69 h9) ?_
    refine mj_st F 2 8 r (by omega) (fun _ => rfl) (by decide) rfl hr d_M_work_71 rfl ?_
    refine gj_l (pc2 := 201) (fun _ _ _ => lv_goto (tgt := 201) hx hb d_M_work_72 (by decide)) ?_
    exact gj_vret F d_M_work_201 (Nat.le_refl _) (Nat.le_refl _) (by first | (simp [woM, h9_1]; done) | (simp [woM, hcl]; done))
  by_cases h9_2 : kd = 2
  · rw [h9_2]
    refine gj_l (pc2 := 75) (fun _ _ _ => lv_tableIn (tgt := 75) hx hb d_M_work_9 (by decide) (by decide) rfl (by decide)) ?_
    refine gj_ld (i := 0) (pc2 := 76) rfl (fun _ _ _ h9 => lv_aload_n hx hb d_M_work_75 rfl h9) ?_
    refine gj_ld (i := 2) (pc2 := 77) rfl (fun _ _ _ h9 => lv_iload_n hx hb d_M_work_76 rfl h9) ?_
    refine gj_ld (i := 5) (pc2 := 79) rfl (fun _ _ _ h9 => lv_iload hx hb d_M_work_77 h9) ?_
    refine gj_ld (i := 3) (pc2 := 80) rfl (fun _ _ _ h9 => lv_iload_n hx hb d_M_work_79 rfl h9) ?_
    refine gj_l (pc2 := 81) (fun _ _ _ => lv_iadd hx hb d_M_work_80) ?_
    refine bj_vv F k_M_become d_M_work_81 q_466 (mw_at (i := 0) (by omega)) rfl (ct_M_become hr _) (rmo rfl) rfl rfl (Nat.le_of_ble_eq_true rfl) (Nat.zero_le _) (Nat.zero_le _) rfl (fun u9 e9 => ?_)
    subst e9
    refine gj_l (pc2 := 201) (fun _ _ _ => lv_goto (tgt := 201) hx hb d_M_work_84 (by decide)) ?_
    exact gj_vret F d_M_work_201 (Nat.le_refl _) (Nat.le_refl _) (by first | (simp [woM, h9_1, h9_2]; done) | (simp [woM, hcl]; done))
  by_cases h9_3 : kd = 3
  · rw [h9_3]
    refine gj_l (pc2 := 87) (fun _ _ _ => lv_tableIn (tgt := 87) hx hb d_M_work_9 (by decide) (by decide) rfl (by decide)) ?_
    refine gj_ld (i := 0) (pc2 := 88) rfl (fun _ _ _ h9 => lv_aload_n hx hb d_M_work_87 rfl h9) ?_
    refine gj_ld (i := 2) (pc2 := 89) rfl (fun _ _ _ h9 => lv_iload_n hx hb d_M_work_88 rfl h9) ?_
    refine gj_ld (i := 5) (pc2 := 91) rfl (fun _ _ _ h9 => lv_iload hx hb d_M_work_89 h9) ?_
    refine gj_ld (i := 3) (pc2 := 92) rfl (fun _ _ _ h9 => lv_iload_n hx hb d_M_work_91 rfl h9) ?_
    refine gj_l (pc2 := 93) (fun _ _ _ => lv_isub hx hb d_M_work_92) ?_
    refine bj_vv F k_M_become d_M_work_93 q_466 (mw_at (i := 0) (by omega)) rfl (ct_M_become hr _) (rmo rfl) rfl rfl (Nat.le_of_ble_eq_true rfl) (Nat.zero_le _) (Nat.zero_le _) rfl (fun u9 e9 => ?_)
    subst e9
    refine gj_l (pc2 := 201) (fun _ _ _ => lv_goto (tgt := 201) hx hb d_M_work_96 (by decide)) ?_
    exact gj_vret F d_M_work_201 (Nat.le_refl _) (Nat.le_refl _) (by first | (simp [woM, h9_1, h9_2, h9_3]; done) | (simp [woM, hcl]; done))
  by_cases h9_4 : kd = 4
  · rw [h9_4]
    refine gj_l (pc2 := 99) (fun _ _ _ => lv_tableIn (tgt := 99) hx hb d_M_work_9 (by decide) (by decide) rfl (by decide)) ?_
    obtain ⟨i, hi, rfl⟩ := inM_of (hm (by rw [h9_4]; decide))
    have hcl : (nI i).toNatClampNeg = i := nI_clamp (by omega)
    refine gj_ld (i := 0) (pc2 := 100) rfl (fun _ _ _ h9 => lv_aload_n hx hb d_M_work_99 rfl h9) ?_
    refine mj_gr F 2 rfl d_M_work_100 q_332 rfl ?_
    refine gj_ld (i := 2) (pc2 := 104) rfl (fun _ _ _ h9 => lv_iload_n hx hb d_M_work_103 rfl h9) ?_
    refine gj_ld (i := 0) (pc2 := 105) rfl (fun _ _ _ h9 => lv_aload_n hx hb d_M_work_104 rfl h9) ?_
    refine mj_gr F 1 rfl d_M_work_105 q_331 rfl ?_
    refine gj_ld (i := 3) (pc2 := 109) rfl (fun _ _ _ h9 => lv_iload_n hx hb d_M_work_108 rfl h9) ?_
    refine mj_ld F 1 1024 i (by omega) rfl (by decide) rfl hi d_M_work_109 rfl ?_
    refine mj_st F 2 8 r (by omega) (fun _ => rfl) (by decide) rfl hr d_M_work_110 rfl ?_
    refine gj_l (pc2 := 201) (fun _ _ _ => lv_goto (tgt := 201) hx hb d_M_work_111 (by decide)) ?_
    exact gj_vret F d_M_work_201 (Nat.le_refl _) (Nat.le_refl _) (by first | (simp [woM, h9_1, h9_2, h9_3, h9_4]; done) | (simp [woM, hcl]; done))
  by_cases h9_5 : kd = 5
  · rw [h9_5]
    refine gj_l (pc2 := 114) (fun _ _ _ => lv_tableIn (tgt := 114) hx hb d_M_work_9 (by decide) (by decide) rfl (by decide)) ?_
    obtain ⟨i, hi, rfl⟩ := inM_of (hm (by rw [h9_5]; decide))
    have hcl : (nI i).toNatClampNeg = i := nI_clamp (by omega)
    refine gj_ld (i := 0) (pc2 := 115) rfl (fun _ _ _ h9 => lv_aload_n hx hb d_M_work_114 rfl h9) ?_
    refine gj_l (pc2 := 116) (fun _ _ _ => lv_dup hx hb d_M_work_115 rfl) ?_
    refine mj_gi F 17 rfl d_M_work_116 q_347 rfl ?_
    refine gj_l (pc2 := 120) (fun _ _ _ => lv_iconst (v := 1) hx hb d_M_work_119 (by decide)) ?_
    refine gj_l (pc2 := 121) (fun _ _ _ => lv_iadd hx hb d_M_work_120) ?_
    refine mj_pi F 17 rfl d_M_work_121 q_347 rfl ?_
    refine gj_ld (i := 0) (pc2 := 125) rfl (fun _ _ _ h9 => lv_aload_n hx hb d_M_work_124 rfl h9) ?_
    refine gj_ld (i := 3) (pc2 := 126) rfl (fun _ _ _ h9 => lv_iload_n hx hb d_M_work_125 rfl h9) ?_
    refine gj_ld (i := 5) (pc2 := 128) rfl (fun _ _ _ h9 => lv_iload hx hb d_M_work_126 h9) ?_
    refine gj_l (pc2 := 131) (fun _ _ _ => lv_sipush (v := (255)) hx hb d_M_work_128 (by decide)) ?_
    refine gj_l (pc2 := 132) (fun _ _ _ => lv_iand hx hb d_M_work_131) ?_
    refine bj_vv F k_M_write d_M_work_132 q_407 (mw_at (i := 0) (by omega)) rfl (ct_M_write hi _) (rmo rfl) rfl rfl (Nat.le_of_ble_eq_true rfl) (Nat.zero_le _) (Nat.zero_le _) rfl (fun u9 e9 => ?_)
    subst e9
    refine gj_l (pc2 := 201) (fun _ _ _ => lv_goto (tgt := 201) hx hb d_M_work_135 (by decide)) ?_
    exact gj_vret F d_M_work_201 (Nat.le_refl _) (Nat.le_refl _) (by first | (simp [woM, h9_1, h9_2, h9_3, h9_4, h9_5]; done) | (simp [woM, hcl]; done))
  by_cases h9_6 : kd = 6
  · rw [h9_6]
    refine gj_l (pc2 := 138) (fun _ _ _ => lv_tableIn (tgt := 138) hx hb d_M_work_9 (by decide) (by decide) rfl (by decide)) ?_
    refine gj_ld (i := 0) (pc2 := 139) rfl (fun _ _ _ h9 => lv_aload_n hx hb d_M_work_138 rfl h9) ?_
    refine gj_ld (i := 2) (pc2 := 140) rfl (fun _ _ _ h9 => lv_iload_n hx hb d_M_work_139 rfl h9) ?_
    refine gj_ld (i := 5) (pc2 := 142) rfl (fun _ _ _ h9 => lv_iload hx hb d_M_work_140 h9) ?_
    refine gj_ld (i := 3) (pc2 := 143) rfl (fun _ _ _ h9 => lv_iload_n hx hb d_M_work_142 rfl h9) ?_
    refine gj_l (pc2 := 144) (fun _ _ _ => lv_iand hx hb d_M_work_143) ?_
    refine bj_vv F k_M_become d_M_work_144 q_466 (mw_at (i := 0) (by omega)) rfl (ct_M_become hr _) (rmo rfl) rfl rfl (Nat.le_of_ble_eq_true rfl) (Nat.zero_le _) (Nat.zero_le _) rfl (fun u9 e9 => ?_)
    subst e9
    refine gj_l (pc2 := 201) (fun _ _ _ => lv_goto (tgt := 201) hx hb d_M_work_147 (by decide)) ?_
    exact gj_vret F d_M_work_201 (Nat.le_refl _) (Nat.le_refl _) (by first | (simp [woM, h9_1, h9_2, h9_3, h9_4, h9_5, h9_6]; done) | (simp [woM, hcl]; done))
  by_cases h9_7 : kd = 7
  · rw [h9_7]
    refine gj_l (pc2 := 184) (fun _ _ _ => lv_tableIn (tgt := 184) hx hb d_M_work_9 (by decide) (by decide) rfl (by decide)) ?_
    refine gj_ld (i := 0) (pc2 := 185) rfl (fun _ _ _ h9 => lv_aload_n hx hb d_M_work_184 rfl h9) ?_
    refine gj_ld (i := 2) (pc2 := 186) rfl (fun _ _ _ h9 => lv_iload_n hx hb d_M_work_185 rfl h9) ?_
    refine gj_ld (i := 5) (pc2 := 188) rfl (fun _ _ _ h9 => lv_iload hx hb d_M_work_186 h9) ?_
    refine gj_ld (i := 3) (pc2 := 189) rfl (fun _ _ _ h9 => lv_iload_n hx hb d_M_work_188 rfl h9) ?_
    refine gj_l (pc2 := 190) (fun _ _ _ => lv_isub hx hb d_M_work_189) ?_
    refine bj_vv F k_M_become d_M_work_190 q_466 (mw_at (i := 0) (by omega)) rfl (ct_M_become hr _) (rmo rfl) rfl rfl (Nat.le_of_ble_eq_true rfl) (Nat.zero_le _) (Nat.zero_le _) rfl (fun u9 e9 => ?_)
    subst e9
    refine gj_ld (i := 0) (pc2 := 194) rfl (fun _ _ _ h9 => lv_aload_n hx hb d_M_work_193 rfl h9) ?_
    refine mj_gr F 2 rfl d_M_work_194 q_332 rfl ?_
    refine gj_ld (i := 2) (pc2 := 198) rfl (fun _ _ _ h9 => lv_iload_n hx hb d_M_work_197 rfl h9) ?_
    refine gj_ld (i := 5) (pc2 := 200) rfl (fun _ _ _ h9 => lv_iload hx hb d_M_work_198 h9) ?_
    refine mj_st F 2 8 r (by omega) (fun _ => rfl) (by decide) rfl hr d_M_work_200 rfl ?_
    exact gj_vret F d_M_work_201 (Nat.le_refl _) (Nat.le_refl _) (by first | (simp [woM, h9_1, h9_2, h9_3, h9_4, h9_5, h9_6, h9_7]; done) | (simp [woM, hcl]; done))
  by_cases h9_8 : kd = 8
  · rw [h9_8]
    refine gj_l (pc2 := 150) (fun _ _ _ => lv_tableIn (tgt := 150) hx hb d_M_work_9 (by decide) (by decide) rfl (by decide)) ?_
    refine gj_ld (i := 0) (pc2 := 151) rfl (fun _ _ _ h9 => lv_aload_n hx hb d_M_work_150 rfl h9) ?_
    refine mj_gr F 2 rfl d_M_work_151 q_332 rfl ?_
    refine gj_ld (i := 2) (pc2 := 155) rfl (fun _ _ _ h9 => lv_iload_n hx hb d_M_work_154 rfl h9) ?_
    refine gj_ld (i := 3) (pc2 := 156) rfl (fun _ _ _ h9 => lv_iload_n hx hb d_M_work_155 rfl h9) ?_
    refine mj_st F 2 8 r (by omega) (fun _ => rfl) (by decide) rfl hr d_M_work_156 rfl ?_
    refine gj_l (pc2 := 201) (fun _ _ _ => lv_goto (tgt := 201) hx hb d_M_work_157 (by decide)) ?_
    exact gj_vret F d_M_work_201 (Nat.le_refl _) (Nat.le_refl _) (by first | (simp [woM, h9_1, h9_2, h9_3, h9_4, h9_5, h9_6, h9_7, h9_8]; done) | (simp [woM, hcl]; done))
  by_cases h9_9 : kd = 9
  · rw [h9_9]
    refine gj_l (pc2 := 160) (fun _ _ _ => lv_tableIn (tgt := 160) hx hb d_M_work_9 (by decide) (by decide) rfl (by decide)) ?_
    refine gj_ld (i := 0) (pc2 := 161) rfl (fun _ _ _ h9 => lv_aload_n hx hb d_M_work_160 rfl h9) ?_
    refine gj_ld (i := 2) (pc2 := 162) rfl (fun _ _ _ h9 => lv_iload_n hx hb d_M_work_161 rfl h9) ?_
    refine gj_ld (i := 5) (pc2 := 164) rfl (fun _ _ _ h9 => lv_iload hx hb d_M_work_162 h9) ?_
    refine gj_ld (i := 3) (pc2 := 165) rfl (fun _ _ _ h9 => lv_iload_n hx hb d_M_work_164 rfl h9) ?_
    refine gj_l (pc2 := 166) (fun _ _ _ => lv_imul hx hb d_M_work_165) ?_
    refine bj_vv F k_M_become d_M_work_166 q_466 (mw_at (i := 0) (by omega)) rfl (ct_M_become hr _) (rmo rfl) rfl rfl (Nat.le_of_ble_eq_true rfl) (Nat.zero_le _) (Nat.zero_le _) rfl (fun u9 e9 => ?_)
    subst e9
    refine gj_l (pc2 := 201) (fun _ _ _ => lv_goto (tgt := 201) hx hb d_M_work_169 (by decide)) ?_
    exact gj_vret F d_M_work_201 (Nat.le_refl _) (Nat.le_refl _) (by first | (simp [woM, h9_1, h9_2, h9_3, h9_4, h9_5, h9_6, h9_7, h9_8, h9_9]; done) | (simp [woM, hcl]; done))
  by_cases h9_10 : kd = 10
  · rw [h9_10]
    refine gj_l (pc2 := 172) (fun _ _ _ => lv_tableIn (tgt := 172) hx hb d_M_work_9 (by decide) (by decide) rfl (by decide)) ?_
    refine gj_ld (i := 0) (pc2 := 173) rfl (fun _ _ _ h9 => lv_aload_n hx hb d_M_work_172 rfl h9) ?_
    refine gj_ld (i := 2) (pc2 := 174) rfl (fun _ _ _ h9 => lv_iload_n hx hb d_M_work_173 rfl h9) ?_
    refine gj_ld (i := 5) (pc2 := 176) rfl (fun _ _ _ h9 => lv_iload hx hb d_M_work_174 h9) ?_
    refine gj_l (pc2 := 177) (fun _ _ _ => lv_iconst (v := 1) hx hb d_M_work_176 (by decide)) ?_
    refine gj_l (pc2 := 178) (fun _ _ _ => lv_ishr hx hb d_M_work_177) ?_
    refine bj_vv F k_M_become d_M_work_178 q_466 (mw_at (i := 0) (by omega)) rfl (ct_M_become hr _) (rmo rfl) rfl rfl (Nat.le_of_ble_eq_true rfl) (Nat.zero_le _) (Nat.zero_le _) rfl (fun u9 e9 => ?_)
    subst e9
    refine gj_l (pc2 := 201) (fun _ _ _ => lv_goto (tgt := 201) hx hb d_M_work_181 (by decide)) ?_
    exact gj_vret F d_M_work_201 (Nat.le_refl _) (Nat.le_refl _) (by first | (simp [woM, h9_1, h9_2, h9_3, h9_4, h9_5, h9_6, h9_7, h9_8, h9_9, h9_10]; done) | (simp [woM, hcl]; done))
  have hsw : (kd).toInt < 1 ∨ 10 < (kd).toInt := by
    by_cases z : (kd).toInt < 1
    · exact Or.inl z
    by_cases z2 : 10 < (kd).toInt
    · exact Or.inr z2
    exfalso
    rcases (show (kd).toInt = 1 ∨ (kd).toInt = 2 ∨ (kd).toInt = 3 ∨ (kd).toInt = 4 ∨ (kd).toInt = 5 ∨ (kd).toInt = 6 ∨ (kd).toInt = 7 ∨ (kd).toInt = 8 ∨ (kd).toInt = 9 ∨ (kd).toInt = 10 by omega) with z3 | z3 | z3 | z3 | z3 | z3 | z3 | z3 | z3 | z3
    · exact h9_1 (Int32.toInt_inj.mp (z3.trans (by decide)))
    · exact h9_2 (Int32.toInt_inj.mp (z3.trans (by decide)))
    · exact h9_3 (Int32.toInt_inj.mp (z3.trans (by decide)))
    · exact h9_4 (Int32.toInt_inj.mp (z3.trans (by decide)))
    · exact h9_5 (Int32.toInt_inj.mp (z3.trans (by decide)))
    · exact h9_6 (Int32.toInt_inj.mp (z3.trans (by decide)))
    · exact h9_7 (Int32.toInt_inj.mp (z3.trans (by decide)))
    · exact h9_8 (Int32.toInt_inj.mp (z3.trans (by decide)))
    · exact h9_9 (Int32.toInt_inj.mp (z3.trans (by decide)))
    · exact h9_10 (Int32.toInt_inj.mp (z3.trans (by decide)))
  refine gj_l (pc2 := 184) (fun _ _ _ => lv_tableOut (tgt := 184) hx hb d_M_work_9 hsw (by decide)) ?_
  refine gj_ld (i := 0) (pc2 := 185) rfl (fun _ _ _ h9 => lv_aload_n hx hb d_M_work_184 rfl h9) ?_
  refine gj_ld (i := 2) (pc2 := 186) rfl (fun _ _ _ h9 => lv_iload_n hx hb d_M_work_185 rfl h9) ?_
  refine gj_ld (i := 5) (pc2 := 188) rfl (fun _ _ _ h9 => lv_iload hx hb d_M_work_186 h9) ?_
  refine gj_ld (i := 3) (pc2 := 189) rfl (fun _ _ _ h9 => lv_iload_n hx hb d_M_work_188 rfl h9) ?_
  refine gj_l (pc2 := 190) (fun _ _ _ => lv_isub hx hb d_M_work_189) ?_
  refine bj_vv F k_M_become d_M_work_190 q_466 (mw_at (i := 0) (by omega)) rfl (ct_M_become hr _) (rmo rfl) rfl rfl (Nat.le_of_ble_eq_true rfl) (Nat.zero_le _) (Nat.zero_le _) rfl (fun u9 e9 => ?_)
  subst e9
  refine gj_ld (i := 0) (pc2 := 194) rfl (fun _ _ _ h9 => lv_aload_n hx hb d_M_work_193 rfl h9) ?_
  refine mj_gr F 2 rfl d_M_work_194 q_332 rfl ?_
  refine gj_ld (i := 2) (pc2 := 198) rfl (fun _ _ _ h9 => lv_iload_n hx hb d_M_work_197 rfl h9) ?_
  refine gj_ld (i := 5) (pc2 := 200) rfl (fun _ _ _ h9 => lv_iload hx hb d_M_work_198 h9) ?_
  refine mj_st F 2 8 r (by omega) (fun _ => rfl) (by decide) rfl hr d_M_work_200 rfl ?_
  exact gj_vret F d_M_work_201 (Nat.le_refl _) (Nat.le_refl _) (by first | (simp [woM, h9_1, h9_2, h9_3, h9_4, h9_5, h9_6, h9_7, h9_8, h9_9, h9_10]; done) | (simp [woM, hcl]; done))
