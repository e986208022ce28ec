set_option maxRecDepth 100000 in
set_option maxHeartbeats 4000000 in
theorem c_X4_within (l : Launch) (G : gG) (S : Mem) (x a b : Int32) : mm_C l G yX4_within cX4_within 3 (some .boolean) (mm_rm 0 0) [.int x, .int a, .int b] S (mm_Qi G (fun r S2 => S2 = S ∧ r = sp_in x a b)) := by
  refine mm_ofV (own := RX4) (by decide +kernel) rfl (Nat.le_of_ble_eq_true rfl) (ls0 := [(0, .int x), (1, .int a), (2, .int b)]) rfl ?_
  refine vv_iload_n (pc := 0) 0 dX4_within_0 rfl rfl ?_
  refine vv_iload_n (pc := 1) 1 dX4_within_1 rfl rfl ?_
  refine vv_icmp_lt (pc := 2) (tgt := 14) dX4_within_2 (by decide) (fun c2 => ?_) (fun c2 => ?_)
  -- t@2 path t
  · refine vv_iconst (pc := 14) (v := 0) dX4_within_14 (by decide) ?_
    refine vr_z (pc := 15) dX4_within_15 (by first | exact Or.inl rfl | exact Or.inr rfl | assumption) ?_
    refine ⟨rfl, ?_⟩
    unfold sp_in
    split <;> first | rfl | (exfalso; simp only [Int32.lt_iff_toInt_lt, Int32.le_iff_toInt_le, ← Int32.toInt_inj, ne_eq] at *; omega)
  -- f@2 path f
  · refine vv_iload_n (pc := 5) 0 dX4_within_5 rfl rfl ?_
    refine vv_iload_n (pc := 6) 2 dX4_within_6 rfl rfl ?_
    refine vv_icmp_gt (pc := 7) (tgt := 14) dX4_within_7 (by decide) (fun c7 => ?_) (fun c7 => ?_)
    -- t@7 path ft
    · refine vv_iconst (pc := 14) (v := 0) dX4_within_14 (by decide) ?_
      refine vr_z (pc := 15) dX4_within_15 (by first | exact Or.inl rfl | exact Or.inr rfl | assumption) ?_
      refine ⟨rfl, ?_⟩
      unfold sp_in
      split <;> first | rfl | (exfalso; simp only [Int32.lt_iff_toInt_lt, Int32.le_iff_toInt_le, ← Int32.toInt_inj, ne_eq] at *; omega)
    -- f@7 path ff
    · refine vv_iconst (pc := 10) (v := 1) dX4_within_10 (by decide) ?_
      refine vv_goto (pc := 11) (tgt := 15) dX4_within_11 (by decide) ?_
      refine vr_z (pc := 15) dX4_within_15 (by first | exact Or.inl rfl | exact Or.inr rfl | assumption) ?_
      refine ⟨rfl, ?_⟩
      unfold sp_in
      split <;> first | rfl | (exfalso; simp only [Int32.lt_iff_toInt_lt, Int32.le_iff_toInt_le, ← Int32.toInt_inj, ne_eq] at *; omega)
set_option maxRecDepth 100000 in
set_option maxHeartbeats 4000000 in
theorem c_X4_isError (l : Launch) (G : gG) (S : Mem) (x : Int32) : mm_C l G yX4_isError cX4_isError 1 (some .boolean) (mm_rm 0 0) [.int x] S (mm_Qi G (fun r S2 => S2 = S ∧ r = sp_err x)) := by
  refine mm_ofV (own := RX4) (by decide +kernel) rfl (Nat.le_of_ble_eq_true rfl) (ls0 := [(0, .int x)]) rfl ?_
  refine vv_iload_n (pc := 0) 0 dX4_isError_0 rfl rfl ?_
  refine vv_if_ge (pc := 1) (tgt := 14) dX4_isError_1 (by decide) (fun c1 => ?_) (fun c1 => ?_)
  -- t@1 path t
  · refine vv_iconst (pc := 14) (v := 0) dX4_isError_14 (by decide) ?_
    refine vr_z (pc := 15) dX4_isError_15 (by first | exact Or.inl rfl | exact Or.inr rfl | assumption) ?_
    refine ⟨rfl, ?_⟩
    unfold sp_err
    split <;> first | rfl | (exfalso; simp only [Int32.lt_iff_toInt_lt, Int32.le_iff_toInt_le, ← Int32.toInt_inj, ne_eq] at *; omega)
  -- f@1 path f
  · refine vv_iload_n (pc := 4) 0 dX4_isError_4 rfl rfl ?_
    refine vv_bipush (pc := 5) (v := (-6)) dX4_isError_5 (by decide) ?_
    refine vv_icmp_eq (pc := 7) (tgt := 14) dX4_isError_7 (by decide) (fun c7 => ?_) (fun c7 => ?_)
    -- t@7 path ft
    · refine vv_iconst (pc := 14) (v := 0) dX4_isError_14 (by decide) ?_
      refine vr_z (pc := 15) dX4_isError_15 (by first | exact Or.inl rfl | exact Or.inr rfl | assumption) ?_
      refine ⟨rfl, ?_⟩
      unfold sp_err
      split <;> first | rfl | (exfalso; simp only [Int32.lt_iff_toInt_lt, Int32.le_iff_toInt_le, ← Int32.toInt_inj, ne_eq] at *; omega)
    -- f@7 path ff
    · refine vv_iconst (pc := 10) (v := 1) dX4_isError_10 (by decide) ?_
      refine vv_goto (pc := 11) (tgt := 15) dX4_isError_11 (by decide) ?_
      refine vr_z (pc := 15) dX4_isError_15 (by first | exact Or.inl rfl | exact Or.inr rfl | assumption) ?_
      refine ⟨rfl, ?_⟩
      unfold sp_err
      split <;> first | rfl | (exfalso; simp only [Int32.lt_iff_toInt_lt, Int32.le_iff_toInt_le, ← Int32.toInt_inj, ne_eq] at *; omega)
set_option maxRecDepth 100000 in
set_option maxHeartbeats 4000000 in
theorem c_X4_oneIf (l : Launch) (G : gG) (S : Mem) (x : Int32) : mm_C l G yX4_oneIf cX4_oneIf 1 (some .int) (mm_rm 0 0) [.int x] S (mm_Qi G (fun r S2 => S2 = S ∧ r = sp_one x)) := by
  refine mm_ofV (own := RX4) (by decide +kernel) rfl (Nat.le_of_ble_eq_true rfl) (ls0 := [(0, .int x)]) rfl ?_
  refine vv_iload_n (pc := 0) 0 dX4_oneIf_0 rfl rfl ?_
  refine vv_if_eq (pc := 1) (tgt := 8) dX4_oneIf_1 (by decide) (fun c1 => ?_) (fun c1 => ?_)
  -- t@1 path t
  · refine vv_iconst (pc := 8) (v := 0) dX4_oneIf_8 (by decide) ?_
    refine vr_i (pc := 9) dX4_oneIf_9 ?_
    exact ⟨rfl, by unfold sp_one; simp_all⟩
  -- f@1 path f
  · refine vv_iconst (pc := 4) (v := 1) dX4_oneIf_4 (by decide) ?_
    refine vv_goto (pc := 5) (tgt := 9) dX4_oneIf_5 (by decide) ?_
    refine vr_i (pc := 9) dX4_oneIf_9 ?_
    exact ⟨rfl, by unfold sp_one; simp_all⟩
set_option maxRecDepth 100000 in
set_option maxHeartbeats 4000000 in
theorem c_X4_crept (l : Launch) (G : gG) (S : Mem) (t c : Int32) : mm_C l G yX4_crept cX4_crept 2 (some .int) (mm_rm 0 0) [.int t, .int c] S (mm_Qi G (fun r S2 => S2 = S ∧ r = sp_crept t c)) := by
  refine mm_ofV (own := RX4) (by decide +kernel) rfl (Nat.le_of_ble_eq_true rfl) (ls0 := [(0, .int t), (1, .int c)]) rfl ?_
  refine vv_iload_n (pc := 0) 0 dX4_crept_0 rfl rfl ?_
  refine vv_iload_n (pc := 1) 0 dX4_crept_1 rfl rfl ?_
  refine vv_iload_n (pc := 2) 1 dX4_crept_2 rfl rfl ?_
  refine vv_imul (pc := 3) dX4_crept_3 ?_
  refine vv_sipush (pc := 4) (v := 999) dX4_crept_4 (by decide) ?_
  refine vv_iadd (pc := 7) dX4_crept_7 ?_
  refine vv_sipush (pc := 8) (v := 1000) dX4_crept_8 (by decide) ?_
  refine vv_idiv (pc := 11) dX4_crept_11 (by decide) ?_
  refine vv_isub (pc := 12) dX4_crept_12 ?_
  refine vr_i (pc := 13) dX4_crept_13 ?_
  exact ⟨rfl, rfl⟩
set_option maxRecDepth 100000 in
set_option maxHeartbeats 4000000 in
theorem c_X3_weight (l : Launch) (G : gG) {b w : Nat} (hb : b < 11) (hw : w < 8) (S : Mem) : mm_C l G yX3_weight cX3_weight 1 (some .long) (mm_rm 0 0) [.ref (gad G (mm_W b w))] S (mm_Ql G (fun r S2 => S2 = S ∧ r = sp_wt (S (mm_W b w) 1) (S (mm_W b w) 2))) := by
  refine mm_ofV (own := RX3) (by decide +kernel) rfl (Nat.le_of_ble_eq_true rfl) (ls0 := [(0, .ref (gad G (mm_W b w)))]) rfl ?_
  refine vv_aload_n (pc := 0) 0 dX3_weight_0 rfl rfl ?_
  refine vg_X3_length (pc := 1) (by assumption) (by assumption) mw_F_X3_15 dX3_weight_1 ?_
  refine vv_i2l (pc := 4) dX3_weight_4 ?_
  refine vv_aload_n (pc := 5) 0 dX3_weight_5 rfl rfl ?_
  refine vg_X3_length (pc := 6) (by assumption) (by assumption) mw_F_X3_15 dX3_weight_6 ?_
  refine vv_i2l (pc := 9) dX3_weight_9 ?_
  refine vv_lmul (pc := 10) dX3_weight_10 ?_
  refine vv_aload_n (pc := 11) 0 dX3_weight_11 rfl rfl ?_
  refine vg_X3_mass (pc := 12) (by assumption) (by assumption) mw_F_X3_18 dX3_weight_12 ?_
  refine vv_i2l (pc := 15) dX3_weight_15 ?_
  refine vv_lmul (pc := 16) dX3_weight_16 ?_
  refine vr_l (pc := 17) dX3_weight_17 ?_
  exact ⟨rfl, rfl⟩
set_option maxRecDepth 100000 in
set_option maxHeartbeats 4000000 in
theorem c_X3_snap (l : Launch) (G : gG) {b w : Nat} (hb : b < 11) (hw : w < 8) (S : Mem) (x1 : Int32) : mm_C l G yX3_snap cX3_snap 2 (none) (mm_rm 0 0) [.ref (gad G (mm_W b w)), .int x1] S (mm_Qv G (fun S2 => S2 = mm_wr (mm_wr (mm_wr S (mm_W b w) 6 1) (mm_W b w) 7 x1) (mm_W b w) 4 0)) := by
  refine mm_ofV (own := RX3) (by decide +kernel) rfl (Nat.le_of_ble_eq_true rfl) (ls0 := [(0, .ref (gad G (mm_W b w))), (1, .int x1)]) rfl ?_
  refine vv_aload_n (pc := 0) 0 dX3_snap_0 rfl rfl ?_
  refine vv_iconst (pc := 1) (v := 1) dX3_snap_1 (by decide) ?_
  refine vp_X3_broken (pc := 2) (by assumption) (by assumption) (by first | exact Or.inl rfl | exact Or.inr rfl | assumption) mw_F_X3_30 dX3_snap_2 ?_
  refine vv_aload_n (pc := 5) 0 dX3_snap_5 rfl rfl ?_
  refine vv_iload_n (pc := 6) 1 dX3_snap_6 rfl rfl ?_
  refine vp_X3_brokeOn (pc := 7) (by assumption) (by assumption) mw_F_X3_34 dX3_snap_7 ?_
  refine vv_aload_n (pc := 10) 0 dX3_snap_10 rfl rfl ?_
  refine vv_iconst (pc := 11) (v := 0) dX3_snap_11 (by decide) ?_
  refine vp_X3_tension (pc := 12) (by assumption) (by assumption) mw_F_X3_24 dX3_snap_12 ?_
  refine vr_v (pc := 15) dX3_snap_15 ?_
  rfl
set_option maxRecDepth 100000 in
set_option maxHeartbeats 4000000 in
theorem c_X3_pull (l : Launch) (G : gG) {b w : Nat} (hb : b < 11) (hw : w < 8) (S : Mem) (x1 x2 : Int32) : mm_C l G yX3_pull cX3_pull 3 (none) (mm_rm 0 0) [.ref (gad G (mm_W b w)), .int x1, .int x2] S (mm_Qv G (fun S2 => S2 = mm_wr (mm_wr (mm_wr (mm_wr S (mm_W b w) 4 x1) (mm_W b w) 9 x1) (mm_W b w) 10 x1) (mm_W b w) 8 x2)) := by
  refine mm_ofV (own := RX3) (by decide +kernel) rfl (Nat.le_of_ble_eq_true rfl) (ls0 := [(0, .ref (gad G (mm_W b w))), (1, .int x1), (2, .int x2)]) rfl ?_
  refine vv_aload_n (pc := 0) 0 dX3_pull_0 rfl rfl ?_
  refine vv_iload_n (pc := 1) 1 dX3_pull_1 rfl rfl ?_
  refine vp_X3_tension (pc := 2) (by assumption) (by assumption) mw_F_X3_24 dX3_pull_2 ?_
  refine vv_aload_n (pc := 5) 0 dX3_pull_5 rfl rfl ?_
  refine vv_iload_n (pc := 6) 1 dX3_pull_6 rfl rfl ?_
  refine vp_X3_low (pc := 7) (by assumption) (by assumption) mw_F_X3_40 dX3_pull_7 ?_
  refine vv_aload_n (pc := 10) 0 dX3_pull_10 rfl rfl ?_
  refine vv_iload_n (pc := 11) 1 dX3_pull_11 rfl rfl ?_
  refine vp_X3_high (pc := 12) (by assumption) (by assumption) mw_F_X3_43 dX3_pull_12 ?_
  refine vv_aload_n (pc := 15) 0 dX3_pull_15 rfl rfl ?_
  refine vv_iload_n (pc := 16) 2 dX3_pull_16 rfl rfl ?_
  refine vp_X3_heardOn (pc := 17) (by assumption) (by assumption) mw_F_X3_37 dX3_pull_17 ?_
  refine vr_v (pc := 20) dX3_pull_20 ?_
  rfl
set_option maxRecDepth 100000 in
set_option maxHeartbeats 4000000 in
theorem c_X3_isKnown (l : Launch) (G : gG) {b w : Nat} (hb : b < 11) (hw : w < 8) (S : Mem) : mm_C l G yX3_isKnown cX3_isKnown 1 (some .boolean) (mm_rm 0 0) [.ref (gad G (mm_W b w))] S (mm_Qi G (fun r S2 => S2 = S ∧ r = sp_wKn (S (mm_W b w)))) := by
  refine mm_ofV (own := RX3) (by decide +kernel) rfl (Nat.le_of_ble_eq_true rfl) (ls0 := [(0, .ref (gad G (mm_W b w)))]) rfl ?_
  refine vv_aload_n (pc := 0) 0 dX3_isKnown_0 rfl rfl ?_
  refine vg_X3_heardOn (pc := 1) (by assumption) (by assumption) mw_F_X3_37 dX3_isKnown_1 ?_
  refine vv_bipush (pc := 4) (v := (-6)) dX3_isKnown_4 (by decide) ?_
  refine vv_icmp_eq (pc := 6) (tgt := 13) dX3_isKnown_6 (by decide) (fun c6 => ?_) (fun c6 => ?_)
  -- t@6 path t
  · refine vv_iconst (pc := 13) (v := 0) dX3_isKnown_13 (by decide) ?_
    refine vr_z (pc := 14) dX3_isKnown_14 (by first | exact Or.inl rfl | exact Or.inr rfl | assumption) ?_
    refine ⟨rfl, ?_⟩
    unfold sp_wKn
    split <;> first | rfl | (exfalso; simp_all; done) | (exfalso; simp only [Int32.lt_iff_toInt_lt, Int32.le_iff_toInt_le, ← Int32.toInt_inj, ne_eq] at *; omega)
  -- f@6 path f
  · refine vv_iconst (pc := 9) (v := 1) dX3_isKnown_9 (by decide) ?_
    refine vv_goto (pc := 10) (tgt := 14) dX3_isKnown_10 (by decide) ?_
    refine vr_z (pc := 14) dX3_isKnown_14 (by first | exact Or.inl rfl | exact Or.inr rfl | assumption) ?_
    refine ⟨rfl, ?_⟩
    unfold sp_wKn
    split <;> first | rfl | (exfalso; simp_all; done) | (exfalso; simp only [Int32.lt_iff_toInt_lt, Int32.le_iff_toInt_le, ← Int32.toInt_inj, ne_eq] at *; omega)
set_option maxRecDepth 100000 in
set_option maxHeartbeats 4000000 in
theorem c_X3_isSlack (l : Launch) (G : gG) {b w : Nat} (hb : b < 11) (hw : w < 8) (S : Mem) : mm_C l G yX3_isSlack cX3_isSlack 1 (some .boolean) (mm_rm 0 0) [.ref (gad G (mm_W b w))] S (mm_Qi G (fun r S2 => S2 = S ∧ r = sp_wSl (S (mm_W b w)))) := by
  refine mm_ofV (own := RX3) (by decide +kernel) rfl (Nat.le_of_ble_eq_true rfl) (ls0 := [(0, .ref (gad G (mm_W b w)))]) rfl ?_
  refine vv_aload_n (pc := 0) 0 dX3_isSlack_0 rfl rfl ?_
  refine vg_X3_broken (pc := 1) (by assumption) (by assumption) mw_F_X3_30 dX3_isSlack_1 ?_
  refine vv_if_ne (pc := 4) (tgt := 22) dX3_isSlack_4 (by decide) (fun c4 => ?_) (fun c4 => ?_)
  -- t@4 path t
  · refine vv_iconst (pc := 22) (v := 0) dX3_isSlack_22 (by decide) ?_
    refine vr_z (pc := 23) dX3_isSlack_23 (by first | exact Or.inl rfl | exact Or.inr rfl | assumption) ?_
    refine ⟨rfl, ?_⟩
    unfold sp_wSl
    split <;> first | rfl | (exfalso; simp_all; done) | (exfalso; simp only [Int32.lt_iff_toInt_lt, Int32.le_iff_toInt_le, ← Int32.toInt_inj, ne_eq] at *; omega)
  -- f@4 path f
  · refine vv_aload_n (pc := 7) 0 dX3_isSlack_7 rfl rfl ?_
    refine vg_X3_tension (pc := 8) (by assumption) (by assumption) mw_F_X3_24 dX3_isSlack_8 ?_
    refine vv_aload_n (pc := 11) 0 dX3_isSlack_11 rfl rfl ?_
    refine vg_X3_task (pc := 12) (by assumption) (by assumption) mw_F_X3_27 dX3_isSlack_12 ?_
    refine vv_icmp_ge (pc := 15) (tgt := 22) dX3_isSlack_15 (by decide) (fun c15 => ?_) (fun c15 => ?_)
    -- t@15 path ft
    · refine vv_iconst (pc := 22) (v := 0) dX3_isSlack_22 (by decide) ?_
      refine vr_z (pc := 23) dX3_isSlack_23 (by first | exact Or.inl rfl | exact Or.inr rfl | assumption) ?_
      refine ⟨rfl, ?_⟩
      unfold sp_wSl
      split <;> first | rfl | (exfalso; simp_all; done) | (exfalso; simp only [Int32.lt_iff_toInt_lt, Int32.le_iff_toInt_le, ← Int32.toInt_inj, ne_eq] at *; omega)
    -- f@15 path ff
    · refine vv_iconst (pc := 18) (v := 1) dX3_isSlack_18 (by decide) ?_
      refine vv_goto (pc := 19) (tgt := 23) dX3_isSlack_19 (by decide) ?_
      refine vr_z (pc := 23) dX3_isSlack_23 (by first | exact Or.inl rfl | exact Or.inr rfl | assumption) ?_
      refine ⟨rfl, ?_⟩
      unfold sp_wSl
      split <;> first | rfl | (exfalso; simp_all; done) | (exfalso; simp only [Int32.lt_iff_toInt_lt, Int32.le_iff_toInt_le, ← Int32.toInt_inj, ne_eq] at *; omega)
set_option maxRecDepth 100000 in
set_option maxHeartbeats 4000000 in
theorem c_X3_leastTension (l : Launch) (G : gG) {b w : Nat} (hb : b < 11) (hw : w < 8) (S : Mem) (x1 : Int64) : mm_C l G yX3_leastTension cX3_leastTension 3 (some .long) (mm_rm 1 20) [.ref (gad G (mm_W b w)), .long x1] S (mm_Ql G (fun r S2 => S2 = S ∧ r = sp_ls x1 (S (mm_W b w) 1) (S (mm_W b w) 2))) := by
  refine mm_ofV (own := RX3) (by decide +kernel) rfl (Nat.le_of_ble_eq_true rfl) (ls0 := [(0, .ref (gad G (mm_W b w))), (1, .long x1)]) rfl ?_
  refine vv_lload_n (pc := 0) 1 dX3_leastTension_0 rfl rfl ?_
  refine vv_lload_n (pc := 1) 1 dX3_leastTension_1 rfl rfl ?_
  refine vv_lmul (pc := 2) dX3_leastTension_2 ?_
  refine vv_aload_n (pc := 3) 0 dX3_leastTension_3 rfl rfl ?_
  refine vc_Vl (pc := 4) (c_X3_weight l G (by assumption) (by assumption) _) mw_M_X3_51 my_X3_weight (mm_rv_W (by assumption) (by assumption)) ⟨by decide, by decide⟩ rfl rfl (Nat.le_of_ble_eq_true rfl) dX3_leastTension_4 (fun r4 S4 h4 => ?_)
  obtain ⟨qS4, h4⟩ := h4
  replace qS4 := qS4.symm
  subst qS4
  subst h4
  refine vv_lmul (pc := 7) dX3_leastTension_7 ?_
  refine vv_ldc2 (pc := 8) mw_L_X3_49 dX3_leastTension_8 ?_
  refine vv_ladd (pc := 11) dX3_leastTension_11 ?_
  refine vv_lconst (pc := 12) (v := 1) dX3_leastTension_12 (by decide) ?_
  refine vv_lsub (pc := 13) dX3_leastTension_13 ?_
  refine vv_ldc2 (pc := 14) mw_L_X3_49 dX3_leastTension_14 ?_
  refine vv_ldiv (pc := 17) dX3_leastTension_17 (by decide) ?_
  refine vr_l (pc := 18) dX3_leastTension_18 ?_
  exact ⟨rfl, rfl⟩
set_option maxRecDepth 100000 in
set_option maxHeartbeats 4000000 in
theorem c_X3_isTooTight (l : Launch) (G : gG) {b w : Nat} (hb : b < 11) (hw : w < 8) (S : Mem) (x1 : Int32) : mm_C l G yX3_isTooTight cX3_isTooTight 2 (some .boolean) (mm_rm 0 0) [.ref (gad G (mm_W b w)), .int x1] S (mm_Qi G (fun r S2 => S2 = S ∧ r = sp_wTt (S (mm_W b w)) x1)) := by
  refine mm_ofV (own := RX3) (by decide +kernel) rfl (Nat.le_of_ble_eq_true rfl) (ls0 := [(0, .ref (gad G (mm_W b w))), (1, .int x1)]) rfl ?_
  refine vv_aload_n (pc := 0) 0 dX3_isTooTight_0 rfl rfl ?_
  refine vg_X3_broken (pc := 1) (by assumption) (by assumption) mw_F_X3_30 dX3_isTooTight_1 ?_
  refine vv_if_ne (pc := 4) (tgt := 42) dX3_isTooTight_4 (by decide) (fun c4 => ?_) (fun c4 => ?_)
  -- t@4 path t
  · refine vv_iconst (pc := 42) (v := 0) dX3_isTooTight_42 (by decide) ?_
    refine vr_z (pc := 43) dX3_isTooTight_43 (by first | exact Or.inl rfl | exact Or.inr rfl | assumption) ?_
    refine ⟨rfl, ?_⟩
    unfold sp_wTt
    split <;> first | rfl | (exfalso; simp_all; done) | (exfalso; simp only [Int32.lt_iff_toInt_lt, Int32.le_iff_toInt_le, ← Int32.toInt_inj, ne_eq] at *; omega)
  -- f@4 path f
  · refine vv_aload_n (pc := 7) 0 dX3_isTooTight_7 rfl rfl ?_
    refine vg_X3_tension (pc := 8) (by assumption) (by assumption) mw_F_X3_24 dX3_isTooTight_8 ?_
    refine vv_sipush (pc := 11) (v := 1000) dX3_isTooTight_11 (by decide) ?_
    refine vv_icmp_le (pc := 14) (tgt := 42) dX3_isTooTight_14 (by decide) (fun c14 => ?_) (fun c14 => ?_)
    -- t@14 path ft
    · refine vv_iconst (pc := 42) (v := 0) dX3_isTooTight_42 (by decide) ?_
      refine vr_z (pc := 43) dX3_isTooTight_43 (by first | exact Or.inl rfl | exact Or.inr rfl | assumption) ?_
      refine ⟨rfl, ?_⟩
      unfold sp_wTt
      split <;> first | rfl | (exfalso; simp_all; done) | (exfalso; simp only [Int32.lt_iff_toInt_lt, Int32.le_iff_toInt_le, ← Int32.toInt_inj, ne_eq] at *; omega)
    -- f@14 path ff
    · refine vv_aload_n (pc := 17) 0 dX3_isTooTight_17 rfl rfl ?_
      refine vg_X3_tension (pc := 18) (by assumption) (by assumption) mw_F_X3_24 dX3_isTooTight_18 ?_
      refine vv_aload_n (pc := 21) 0 dX3_isTooTight_21 rfl rfl ?_
      refine vg_X3_task (pc := 22) (by assumption) (by assumption) mw_F_X3_27 dX3_isTooTight_22 ?_
      refine vv_aload_n (pc := 25) 0 dX3_isTooTight_25 rfl rfl ?_
      refine vg_X3_task (pc := 26) (by assumption) (by assumption) mw_F_X3_27 dX3_isTooTight_26 ?_
      refine vv_iload_n (pc := 29) 1 dX3_isTooTight_29 rfl rfl ?_
      refine vv_imul (pc := 30) dX3_isTooTight_30 ?_
      refine vv_bipush (pc := 31) (v := 100) dX3_isTooTight_31 (by decide) ?_
      refine vv_idiv (pc := 33) dX3_isTooTight_33 (by decide) ?_
      refine vv_iadd (pc := 34) dX3_isTooTight_34 ?_
      refine vv_icmp_le (pc := 35) (tgt := 42) dX3_isTooTight_35 (by decide) (fun c35 => ?_) (fun c35 => ?_)
      -- t@35 path fft
      · refine vv_iconst (pc := 42) (v := 0) dX3_isTooTight_42 (by decide) ?_
        refine vr_z (pc := 43) dX3_isTooTight_43 (by first | exact Or.inl rfl | exact Or.inr rfl | assumption) ?_
        refine ⟨rfl, ?_⟩
        unfold sp_wTt
        split <;> first | rfl | (exfalso; simp_all; done) | (exfalso; simp only [Int32.lt_iff_toInt_lt, Int32.le_iff_toInt_le, ← Int32.toInt_inj, ne_eq] at *; omega)
      -- f@35 path fff
      · refine vv_iconst (pc := 38) (v := 1) dX3_isTooTight_38 (by decide) ?_
        refine vv_goto (pc := 39) (tgt := 43) dX3_isTooTight_39 (by decide) ?_
        refine vr_z (pc := 43) dX3_isTooTight_43 (by first | exact Or.inl rfl | exact Or.inr rfl | assumption) ?_
        refine ⟨rfl, ?_⟩
        unfold sp_wTt
        split <;> first | rfl | (exfalso; simp_all; done) | (exfalso; simp only [Int32.lt_iff_toInt_lt, Int32.le_iff_toInt_le, ← Int32.toInt_inj, ne_eq] at *; omega)
set_option maxRecDepth 100000 in
set_option maxHeartbeats 4000000 in
theorem c_X3_isSurelySlack (l : Launch) (G : gG) {b w : Nat} (hb : b < 11) (hw : w < 8) (S : Mem) : mm_C l G yX3_isSurelySlack cX3_isSurelySlack 1 (some .boolean) (mm_rm 1 20) [.ref (gad G (mm_W b w))] S (mm_Qi G (fun r S2 => S2 = S ∧ r = sp_wSs (S (mm_W b w)))) := by
  refine mm_ofV (own := RX3) (by decide +kernel) rfl (Nat.le_of_ble_eq_true rfl) (ls0 := [(0, .ref (gad G (mm_W b w)))]) rfl ?_
  refine vv_aload_n (pc := 0) 0 dX3_isSurelySlack_0 rfl rfl ?_
  refine vc_Vi (pc := 1) (c_X3_isKnown l G (by assumption) (by assumption) _) mw_M_X3_79 my_X3_isKnown (mm_rv_W (by assumption) (by assumption)) ⟨by decide, by decide⟩ rfl rfl (Nat.le_of_ble_eq_true rfl) dX3_isSurelySlack_1 (fun r1 S1 h1 => ?_)
  obtain ⟨qS1, h1⟩ := h1
  replace qS1 := qS1.symm
  subst qS1
  refine vv_if_eq (pc := 4) (tgt := 22) dX3_isSurelySlack_4 (by decide) (fun c4 => ?_) (fun c4 => ?_)
  -- t@4 path t
  · refine vv_iconst (pc := 22) (v := 0) dX3_isSurelySlack_22 (by decide) ?_
    refine vr_z (pc := 23) dX3_isSurelySlack_23 (by first | exact Or.inl rfl | exact Or.inr rfl | assumption) ?_
    unfold sp_wKn at h1
    refine ⟨rfl, ?_⟩
    unfold sp_wSs
    split <;> first | rfl | (exfalso; simp_all; done) | (exfalso; simp only [Int32.lt_iff_toInt_lt, Int32.le_iff_toInt_le, ← Int32.toInt_inj, ne_eq] at *; omega)
  -- f@4 path f
  · refine vv_aload_n (pc := 7) 0 dX3_isSurelySlack_7 rfl rfl ?_
    refine vg_X3_high (pc := 8) (by assumption) (by assumption) mw_F_X3_43 dX3_isSurelySlack_8 ?_
    refine vv_aload_n (pc := 11) 0 dX3_isSurelySlack_11 rfl rfl ?_
    refine vg_X3_task (pc := 12) (by assumption) (by assumption) mw_F_X3_27 dX3_isSurelySlack_12 ?_
    refine vv_icmp_ge (pc := 15) (tgt := 22) dX3_isSurelySlack_15 (by decide) (fun c15 => ?_) (fun c15 => ?_)
    -- t@15 path ft
    · refine vv_iconst (pc := 22) (v := 0) dX3_isSurelySlack_22 (by decide) ?_
      refine vr_z (pc := 23) dX3_isSurelySlack_23 (by first | exact Or.inl rfl | exact Or.inr rfl | assumption) ?_
      unfold sp_wKn at h1
      refine ⟨rfl, ?_⟩
      unfold sp_wSs
      split <;> first | rfl | (exfalso; simp_all; done) | (exfalso; simp only [Int32.lt_iff_toInt_lt, Int32.le_iff_toInt_le, ← Int32.toInt_inj, ne_eq] at *; omega)
    -- f@15 path ff
    · refine vv_iconst (pc := 18) (v := 1) dX3_isSurelySlack_18 (by decide) ?_
      refine vv_goto (pc := 19) (tgt := 23) dX3_isSurelySlack_19 (by decide) ?_
      refine vr_z (pc := 23) dX3_isSurelySlack_23 (by first | exact Or.inl rfl | exact Or.inr rfl | assumption) ?_
      unfold sp_wKn at h1
      refine ⟨rfl, ?_⟩
      unfold sp_wSs
      split <;> first | rfl | (exfalso; simp_all; done) | (exfalso; simp only [Int32.lt_iff_toInt_lt, Int32.le_iff_toInt_le, ← Int32.toInt_inj, ne_eq] at *; omega)
set_option maxRecDepth 100000 in
set_option maxHeartbeats 4000000 in
theorem c_X3_maybeSlack (l : Launch) (G : gG) {b w : Nat} (hb : b < 11) (hw : w < 8) (S : Mem) : mm_C l G yX3_maybeSlack cX3_maybeSlack 1 (some .boolean) (mm_rm 2 40) [.ref (gad G (mm_W b w))] S (mm_Qi G (fun r S2 => S2 = S ∧ r = sp_wMs (S (mm_W b w)))) := by
  refine mm_ofV (own := RX3) (by decide +kernel) rfl (Nat.le_of_ble_eq_true rfl) (ls0 := [(0, .ref (gad G (mm_W b w)))]) rfl ?_
  refine vv_aload_n (pc := 0) 0 dX3_maybeSlack_0 rfl rfl ?_
  refine vg_X3_heardBroken (pc := 1) (by assumption) (by assumption) mw_F_X3_46 dX3_maybeSlack_1 ?_
  refine vv_if_ne (pc := 4) (tgt := 36) dX3_maybeSlack_4 (by decide) (fun c4 => ?_) (fun c4 => ?_)
  -- t@4 path t
  · refine vv_iconst (pc := 36) (v := 0) dX3_maybeSlack_36 (by decide) ?_
    refine vr_z (pc := 37) dX3_maybeSlack_37 (by first | exact Or.inl rfl | exact Or.inr rfl | assumption) ?_
    try unfold sp_wSs at h8
    try unfold sp_wKn at h15
    refine ⟨rfl, ?_⟩
    unfold sp_wMs
    try simp only [← Int32.not_lt] at *
    by_cases g1 : S (mm_W b w) 8 = -6 <;> by_cases g2 : S (mm_W b w) 10 < S (mm_W b w) 5 <;> by_cases g3 : S (mm_W b w) 9 < S (mm_W b w) 5 <;> simp_all
  -- f@4 path f
  · refine vv_aload_n (pc := 7) 0 dX3_maybeSlack_7 rfl rfl ?_
    refine vc_Vi (pc := 8) (c_X3_isSurelySlack l G (by assumption) (by assumption) _) mw_M_X3_83 my_X3_isSurelySlack (mm_rv_W (by assumption) (by assumption)) ⟨by decide, by decide⟩ rfl rfl (Nat.le_of_ble_eq_true rfl) dX3_maybeSlack_8 (fun r8 S8 h8 => ?_)
    obtain ⟨qS8, h8⟩ := h8
    replace qS8 := qS8.symm
    subst qS8
    refine vv_if_ne (pc := 11) (tgt := 36) dX3_maybeSlack_11 (by decide) (fun c11 => ?_) (fun c11 => ?_)
    -- t@11 path ft
    · refine vv_iconst (pc := 36) (v := 0) dX3_maybeSlack_36 (by decide) ?_
      refine vr_z (pc := 37) dX3_maybeSlack_37 (by first | exact Or.inl rfl | exact Or.inr rfl | assumption) ?_
      try unfold sp_wSs at h8
      try unfold sp_wKn at h15
      refine ⟨rfl, ?_⟩
      unfold sp_wMs
      try simp only [← Int32.not_lt] at *
      by_cases g1 : S (mm_W b w) 8 = -6 <;> by_cases g2 : S (mm_W b w) 10 < S (mm_W b w) 5 <;> by_cases g3 : S (mm_W b w) 9 < S (mm_W b w) 5 <;> simp_all
    -- f@11 path ff
    · refine vv_aload_n (pc := 14) 0 dX3_maybeSlack_14 rfl rfl ?_
      refine vc_Vi (pc := 15) (c_X3_isKnown l G (by assumption) (by assumption) _) mw_M_X3_79 my_X3_isKnown (mm_rv_W (by assumption) (by assumption)) ⟨by decide, by decide⟩ rfl rfl (Nat.le_of_ble_eq_true rfl) dX3_maybeSlack_15 (fun r15 S15 h15 => ?_)
      obtain ⟨qS15, h15⟩ := h15
      replace qS15 := qS15.symm
      subst qS15
      refine vv_if_eq (pc := 18) (tgt := 32) dX3_maybeSlack_18 (by decide) (fun c18 => ?_) (fun c18 => ?_)
      -- t@18 path fft
      · refine vv_iconst (pc := 32) (v := 1) dX3_maybeSlack_32 (by decide) ?_
        refine vv_goto (pc := 33) (tgt := 37) dX3_maybeSlack_33 (by decide) ?_
        refine vr_z (pc := 37) dX3_maybeSlack_37 (by first | exact Or.inl rfl | exact Or.inr rfl | assumption) ?_
        try unfold sp_wSs at h8
        try unfold sp_wKn at h15
        refine ⟨rfl, ?_⟩
        unfold sp_wMs
        try simp only [← Int32.not_lt] at *
        by_cases g1 : S (mm_W b w) 8 = -6 <;> by_cases g2 : S (mm_W b w) 10 < S (mm_W b w) 5 <;> by_cases g3 : S (mm_W b w) 9 < S (mm_W b w) 5 <;> simp_all
      -- f@18 path fff
      · refine vv_aload_n (pc := 21) 0 dX3_maybeSlack_21 rfl rfl ?_
        refine vg_X3_low (pc := 22) (by assumption) (by assumption) mw_F_X3_40 dX3_maybeSlack_22 ?_
        refine vv_aload_n (pc := 25) 0 dX3_maybeSlack_25 rfl rfl ?_
        refine vg_X3_task (pc := 26) (by assumption) (by assumption) mw_F_X3_27 dX3_maybeSlack_26 ?_
        refine vv_icmp_ge (pc := 29) (tgt := 36) dX3_maybeSlack_29 (by decide) (fun c29 => ?_) (fun c29 => ?_)
        -- t@29 path ffft
        · refine vv_iconst (pc := 36) (v := 0) dX3_maybeSlack_36 (by decide) ?_
          refine vr_z (pc := 37) dX3_maybeSlack_37 (by first | exact Or.inl rfl | exact Or.inr rfl | assumption) ?_
          try unfold sp_wSs at h8
          try unfold sp_wKn at h15
          refine ⟨rfl, ?_⟩
          unfold sp_wMs
          try simp only [← Int32.not_lt] at *
          by_cases g1 : S (mm_W b w) 8 = -6 <;> by_cases g2 : S (mm_W b w) 10 < S (mm_W b w) 5 <;> by_cases g3 : S (mm_W b w) 9 < S (mm_W b w) 5 <;> simp_all
        -- f@29 path ffff
        · refine vv_iconst (pc := 32) (v := 1) dX3_maybeSlack_32 (by decide) ?_
          refine vv_goto (pc := 33) (tgt := 37) dX3_maybeSlack_33 (by decide) ?_
          refine vr_z (pc := 37) dX3_maybeSlack_37 (by first | exact Or.inl rfl | exact Or.inr rfl | assumption) ?_
          try unfold sp_wSs at h8
          try unfold sp_wKn at h15
          refine ⟨rfl, ?_⟩
          unfold sp_wMs
          try simp only [← Int32.not_lt] at *
          by_cases g1 : S (mm_W b w) 8 = -6 <;> by_cases g2 : S (mm_W b w) 10 < S (mm_W b w) 5 <;> by_cases g3 : S (mm_W b w) 9 < S (mm_W b w) 5 <;> simp_all
set_option maxRecDepth 100000 in
set_option maxHeartbeats 4000000 in
theorem c_X3_makeNew (l : Launch) (G : gG) {b w : Nat} (hb : b < 11) (hw : w < 8) (S : Mem) (x1 x2 x3 x4 x5 : Int32) : mm_C l G yX3_makeNew cX3_makeNew 6 (none) (mm_rm 0 0) [.ref (gad G (mm_W b w)), .int x1, .int x2, .int x3, .int x4, .int x5] S (mm_Qv G (fun S2 => S2 = mm_mk S (mm_W b w) x1 x2 x3 x4 x5)) := by
  refine mm_ofV (own := RX3) (by decide +kernel) rfl (Nat.le_of_ble_eq_true rfl) (ls0 := [(0, .ref (gad G (mm_W b w))), (1, .int x1), (2, .int x2), (3, .int x3), (4, .int x4), (5, .int x5)]) rfl ?_
  refine vv_aload_n (pc := 0) 0 dX3_makeNew_0 rfl rfl ?_
  refine vv_iload_n (pc := 1) 1 dX3_makeNew_1 rfl rfl ?_
  refine vp_X3_place (pc := 2) (by assumption) (by assumption) mw_F_X3_9 dX3_makeNew_2 ?_
  refine vv_aload_n (pc := 5) 0 dX3_makeNew_5 rfl rfl ?_
  refine vv_iload_n (pc := 6) 2 dX3_makeNew_6 rfl rfl ?_
  refine vp_X3_length (pc := 7) (by assumption) (by assumption) mw_F_X3_15 dX3_makeNew_7 ?_
  refine vv_aload_n (pc := 10) 0 dX3_makeNew_10 rfl rfl ?_
  refine vv_iload_n (pc := 11) 3 dX3_makeNew_11 rfl rfl ?_
  refine vp_X3_mass (pc := 12) (by assumption) (by assumption) mw_F_X3_18 dX3_makeNew_12 ?_
  refine vv_aload_n (pc := 15) 0 dX3_makeNew_15 rfl rfl ?_
  refine vv_iload (pc := 16) 4 dX3_makeNew_16 rfl ?_
  refine vp_X3_strength (pc := 18) (by assumption) (by assumption) mw_F_X3_21 dX3_makeNew_18 ?_
  refine vv_aload_n (pc := 21) 0 dX3_makeNew_21 rfl rfl ?_
  refine vv_iload (pc := 22) 5 dX3_makeNew_22 rfl ?_
  refine vp_X3_tension (pc := 24) (by assumption) (by assumption) mw_F_X3_24 dX3_makeNew_24 ?_
  refine vv_aload_n (pc := 27) 0 dX3_makeNew_27 rfl rfl ?_
  refine vv_iconst (pc := 28) (v := 0) dX3_makeNew_28 (by decide) ?_
  refine vp_X3_task (pc := 29) (by assumption) (by assumption) mw_F_X3_27 dX3_makeNew_29 ?_
  refine vv_aload_n (pc := 32) 0 dX3_makeNew_32 rfl rfl ?_
  refine vv_iconst (pc := 33) (v := 0) dX3_makeNew_33 (by decide) ?_
  refine vp_X3_broken (pc := 34) (by assumption) (by assumption) (by first | exact Or.inl rfl | exact Or.inr rfl | assumption) mw_F_X3_30 dX3_makeNew_34 ?_
  refine vv_aload_n (pc := 37) 0 dX3_makeNew_37 rfl rfl ?_
  refine vv_bipush (pc := 38) (v := (-6)) dX3_makeNew_38 (by decide) ?_
  refine vp_X3_brokeOn (pc := 40) (by assumption) (by assumption) mw_F_X3_34 dX3_makeNew_40 ?_
  refine vv_aload_n (pc := 43) 0 dX3_makeNew_43 rfl rfl ?_
  refine vv_bipush (pc := 44) (v := (-6)) dX3_makeNew_44 (by decide) ?_
  refine vp_X3_heardOn (pc := 46) (by assumption) (by assumption) mw_F_X3_37 dX3_makeNew_46 ?_
  refine vv_aload_n (pc := 49) 0 dX3_makeNew_49 rfl rfl ?_
  refine vv_iconst (pc := 50) (v := 0) dX3_makeNew_50 (by decide) ?_
  refine vp_X3_low (pc := 51) (by assumption) (by assumption) mw_F_X3_40 dX3_makeNew_51 ?_
  refine vv_aload_n (pc := 54) 0 dX3_makeNew_54 rfl rfl ?_
  refine vv_iconst (pc := 55) (v := 0) dX3_makeNew_55 (by decide) ?_
  refine vp_X3_high (pc := 56) (by assumption) (by assumption) mw_F_X3_43 dX3_makeNew_56 ?_
  refine vv_aload_n (pc := 59) 0 dX3_makeNew_59 rfl rfl ?_
  refine vv_iconst (pc := 60) (v := 0) dX3_makeNew_60 (by decide) ?_
  refine vp_X3_heardBroken (pc := 61) (by assumption) (by assumption) (by first | exact Or.inl rfl | exact Or.inr rfl | assumption) mw_F_X3_46 dX3_makeNew_61 ?_
  refine vr_v (pc := 64) dX3_makeNew_64 ?_
  funext i k
  simp only [mm_wr_eq, mm_mk]
  by_cases hi : i = mm_W b w
  · subst hi
    simp only [true_and, if_true]
    by_cases hk : k < 12
    · rcases (by omega : k = 0 ∨ k = 1 ∨ k = 2 ∨ k = 3 ∨ k = 4 ∨ k = 5 ∨ k = 6 ∨ k = 7 ∨ k = 8 ∨ k = 9 ∨ k = 10 ∨ k = 11) with rfl | rfl | rfl | rfl | rfl | rfl | rfl | rfl | rfl | rfl | rfl | rfl <;> simp
    · repeat rw [if_neg (by omega : ¬ k = _)]
  · simp [hi]
set_option maxRecDepth 100000 in
set_option maxHeartbeats 4000000 in
theorem c_X3_loosen (l : Launch) (G : gG) {b w : Nat} (hb : b < 11) (hw : w < 8) (S : Mem) (x1 : Int32) : mm_C l G yX3_loosen cX3_loosen 2 (none) (mm_rm 1 21) [.ref (gad G (mm_W b w)), .int x1] S (mm_Qv G (fun S2 => S2 = mm_wr (mm_wr (mm_wr S (mm_W b w) 4 (sp_crept (S (mm_W b w) 4) x1)) (mm_W b w) 9 (sp_crept (S (mm_W b w) 9) x1)) (mm_W b w) 10 (sp_crept (S (mm_W b w) 10) x1))) := by
  refine mm_ofV (own := RX3) (by decide +kernel) rfl (Nat.le_of_ble_eq_true rfl) (ls0 := [(0, .ref (gad G (mm_W b w))), (1, .int x1)]) rfl ?_
  refine vv_aload_n (pc := 0) 0 dX3_loosen_0 rfl rfl ?_
  refine vv_aload_n (pc := 1) 0 dX3_loosen_1 rfl rfl ?_
  refine vg_X3_tension (pc := 2) (by assumption) (by assumption) mw_F_X3_24 dX3_loosen_2 ?_
  refine vv_iload_n (pc := 5) 1 dX3_loosen_5 rfl rfl ?_
  refine vc_Ni (pc := 6) (c_X4_crept l G _ _ _) (host := RX4) (by decide +kernel) my_X4_crept ⟨by decide, by decide⟩ rfl rfl (Nat.le_of_ble_eq_true rfl) dX3_loosen_6 (fun r6 S6 h6 => ?_)
  obtain ⟨qS6, h6⟩ := h6
  replace qS6 := qS6.symm
  subst qS6
  refine vp_X3_tension (pc := 9) (by assumption) (by assumption) mw_F_X3_24 dX3_loosen_9 ?_
  refine vv_aload_n (pc := 12) 0 dX3_loosen_12 rfl rfl ?_
  refine vv_aload_n (pc := 13) 0 dX3_loosen_13 rfl rfl ?_
  refine vg_X3_low (pc := 14) (by assumption) (by assumption) mw_F_X3_40 dX3_loosen_14 ?_
  refine vv_iload_n (pc := 17) 1 dX3_loosen_17 rfl rfl ?_
  refine vc_Ni (pc := 18) (c_X4_crept l G _ _ _) (host := RX4) (by decide +kernel) my_X4_crept ⟨by decide, by decide⟩ rfl rfl (Nat.le_of_ble_eq_true rfl) dX3_loosen_18 (fun r18 S18 h18 => ?_)
  obtain ⟨qS18, h18⟩ := h18
  replace qS18 := qS18.symm
  subst qS18
  refine vp_X3_low (pc := 21) (by assumption) (by assumption) mw_F_X3_40 dX3_loosen_21 ?_
  refine vv_aload_n (pc := 24) 0 dX3_loosen_24 rfl rfl ?_
  refine vv_aload_n (pc := 25) 0 dX3_loosen_25 rfl rfl ?_
  refine vg_X3_high (pc := 26) (by assumption) (by assumption) mw_F_X3_43 dX3_loosen_26 ?_
  refine vv_iload_n (pc := 29) 1 dX3_loosen_29 rfl rfl ?_
  refine vc_Ni (pc := 30) (c_X4_crept l G _ _ _) (host := RX4) (by decide +kernel) my_X4_crept ⟨by decide, by decide⟩ rfl rfl (Nat.le_of_ble_eq_true rfl) dX3_loosen_30 (fun r30 S30 h30 => ?_)
  obtain ⟨qS30, h30⟩ := h30
  replace qS30 := qS30.symm
  subst qS30
  refine vp_X3_high (pc := 33) (by assumption) (by assumption) mw_F_X3_43 dX3_loosen_33 ?_
  refine vr_v (pc := 36) dX3_loosen_36 ?_
  rw [h6, h18, h30]
  simp [mm_wr_eq]
set_option maxRecDepth 100000 in
set_option maxHeartbeats 4000000 in
theorem c_X3_takeFrom (l : Launch) (G : gG) {b w b2 w2 : Nat} (hb : b < 11) (hw : w < 8) (hb2 : b2 < 11) (hw2 : w2 < 8) (hne : b ≠ b2) (S : Mem) : mm_C l G yX3_takeFrom cX3_takeFrom 2 (none) (mm_rm 0 0) [.ref (gad G (mm_W b w)), .ref (gad G (mm_W b2 w2))] S (mm_Qv G (fun S2 => S2 = mm_cp S (mm_W b2 w2) (mm_W b w) 12)) := by
  have hne2 : mm_W b2 w2 ≠ mm_W b w := fun q => mm_W_ne hne hw hw2 q.symm
  refine mm_ofV (own := RX3) (by decide +kernel) rfl (Nat.le_of_ble_eq_true rfl) (ls0 := [(0, .ref (gad G (mm_W b w))), (1, .ref (gad G (mm_W b2 w2)))]) rfl ?_
  refine vv_okS (fun hok => ?_)
  have hok6 := mm_bW6 hok b2 hw2
  have hok11 := mm_bW11 hok b2 hw2
  refine vv_aload_n (pc := 0) 0 dX3_takeFrom_0 rfl rfl ?_
  refine vv_aload_n (pc := 1) 1 dX3_takeFrom_1 rfl rfl ?_
  refine vg_X3_place (pc := 2) (by assumption) (by assumption) mw_F_X3_9 dX3_takeFrom_2 ?_
  refine vp_X3_place (pc := 5) (by assumption) (by assumption) mw_F_X3_9 dX3_takeFrom_5 ?_
  refine vv_aload_n (pc := 8) 0 dX3_takeFrom_8 rfl rfl ?_
  refine vv_aload_n (pc := 9) 1 dX3_takeFrom_9 rfl rfl ?_
  refine vg_X3_length (pc := 10) (by assumption) (by assumption) mw_F_X3_15 dX3_takeFrom_10 ?_
  refine vp_X3_length (pc := 13) (by assumption) (by assumption) mw_F_X3_15 dX3_takeFrom_13 ?_
  refine vv_aload_n (pc := 16) 0 dX3_takeFrom_16 rfl rfl ?_
  refine vv_aload_n (pc := 17) 1 dX3_takeFrom_17 rfl rfl ?_
  refine vg_X3_mass (pc := 18) (by assumption) (by assumption) mw_F_X3_18 dX3_takeFrom_18 ?_
  refine vp_X3_mass (pc := 21) (by assumption) (by assumption) mw_F_X3_18 dX3_takeFrom_21 ?_
  refine vv_aload_n (pc := 24) 0 dX3_takeFrom_24 rfl rfl ?_
  refine vv_aload_n (pc := 25) 1 dX3_takeFrom_25 rfl rfl ?_
  refine vg_X3_strength (pc := 26) (by assumption) (by assumption) mw_F_X3_21 dX3_takeFrom_26 ?_
  refine vp_X3_strength (pc := 29) (by assumption) (by assumption) mw_F_X3_21 dX3_takeFrom_29 ?_
  refine vv_aload_n (pc := 32) 0 dX3_takeFrom_32 rfl rfl ?_
  refine vv_aload_n (pc := 33) 1 dX3_takeFrom_33 rfl rfl ?_
  refine vg_X3_tension (pc := 34) (by assumption) (by assumption) mw_F_X3_24 dX3_takeFrom_34 ?_
  refine vp_X3_tension (pc := 37) (by assumption) (by assumption) mw_F_X3_24 dX3_takeFrom_37 ?_
  refine vv_aload_n (pc := 40) 0 dX3_takeFrom_40 rfl rfl ?_
  refine vv_aload_n (pc := 41) 1 dX3_takeFrom_41 rfl rfl ?_
  refine vg_X3_task (pc := 42) (by assumption) (by assumption) mw_F_X3_27 dX3_takeFrom_42 ?_
  refine vp_X3_task (pc := 45) (by assumption) (by assumption) mw_F_X3_27 dX3_takeFrom_45 ?_
  refine vv_aload_n (pc := 48) 0 dX3_takeFrom_48 rfl rfl ?_
  refine vv_aload_n (pc := 49) 1 dX3_takeFrom_49 rfl rfl ?_
  refine vg_X3_broken (pc := 50) (by assumption) (by assumption) mw_F_X3_30 dX3_takeFrom_50 ?_
  refine vp_X3_broken (pc := 53) (by assumption) (by assumption) (by simpa [mm_wr_eq, hne2] using hok6) mw_F_X3_30 dX3_takeFrom_53 ?_
  refine vv_aload_n (pc := 56) 0 dX3_takeFrom_56 rfl rfl ?_
  refine vv_aload_n (pc := 57) 1 dX3_takeFrom_57 rfl rfl ?_
  refine vg_X3_brokeOn (pc := 58) (by assumption) (by assumption) mw_F_X3_34 dX3_takeFrom_58 ?_
  refine vp_X3_brokeOn (pc := 61) (by assumption) (by assumption) mw_F_X3_34 dX3_takeFrom_61 ?_
  refine vv_aload_n (pc := 64) 0 dX3_takeFrom_64 rfl rfl ?_
  refine vv_aload_n (pc := 65) 1 dX3_takeFrom_65 rfl rfl ?_
  refine vg_X3_heardOn (pc := 66) (by assumption) (by assumption) mw_F_X3_37 dX3_takeFrom_66 ?_
  refine vp_X3_heardOn (pc := 69) (by assumption) (by assumption) mw_F_X3_37 dX3_takeFrom_69 ?_
  refine vv_aload_n (pc := 72) 0 dX3_takeFrom_72 rfl rfl ?_
  refine vv_aload_n (pc := 73) 1 dX3_takeFrom_73 rfl rfl ?_
  refine vg_X3_low (pc := 74) (by assumption) (by assumption) mw_F_X3_40 dX3_takeFrom_74 ?_
  refine vp_X3_low (pc := 77) (by assumption) (by assumption) mw_F_X3_40 dX3_takeFrom_77 ?_
  refine vv_aload_n (pc := 80) 0 dX3_takeFrom_80 rfl rfl ?_
  refine vv_aload_n (pc := 81) 1 dX3_takeFrom_81 rfl rfl ?_
  refine vg_X3_high (pc := 82) (by assumption) (by assumption) mw_F_X3_43 dX3_takeFrom_82 ?_
  refine vp_X3_high (pc := 85) (by assumption) (by assumption) mw_F_X3_43 dX3_takeFrom_85 ?_
  refine vv_aload_n (pc := 88) 0 dX3_takeFrom_88 rfl rfl ?_
  refine vv_aload_n (pc := 89) 1 dX3_takeFrom_89 rfl rfl ?_
  refine vg_X3_heardBroken (pc := 90) (by assumption) (by assumption) mw_F_X3_46 dX3_takeFrom_90 ?_
  refine vp_X3_heardBroken (pc := 93) (by assumption) (by assumption) (by simpa [mm_wr_eq, hne2] using hok11) mw_F_X3_46 dX3_takeFrom_93 ?_
  refine vr_v (pc := 96) dX3_takeFrom_96 ?_
  funext i k
  simp only [mm_wr_eq, mm_cp]
  by_cases hi : i = mm_W b w
  · subst hi
    simp only [true_and, if_true, hne2, false_and, if_false]
    by_cases hk : k < 12
    · rcases (by omega : k = 0 ∨ k = 1 ∨ k = 2 ∨ k = 3 ∨ k = 4 ∨ k = 5 ∨ k = 6 ∨ k = 7 ∨ k = 8 ∨ k = 9 ∨ k = 10 ∨ k = 11) with rfl | rfl | rfl | rfl | rfl | rfl | rfl | rfl | rfl | rfl | rfl | rfl <;> simp
    · simp only [hk, if_false]
      repeat rw [if_neg (by omega)]
  · simp [hi]
set_option maxRecDepth 100000 in
set_option maxHeartbeats 4000000 in
theorem c_X3_pitchWith (l : Launch) (G : gG) {b w : Nat} (hb : b < 11) (hw : w < 8) (S : Mem) (t : Int32) (hr : sp_rg (S (mm_W b w) 1) (S (mm_W b w) 2) t) : mm_C l G yX3_pitchWith cX3_pitchWith 10 (some .int) (mm_rm 1 20) [.ref (gad G (mm_W b w)), .int t] S (mm_Qi G (fun r S2 => S2 = S ∧ r = sp_pt (S (mm_W b w) 1) (S (mm_W b w) 2) t)) := by
  refine mm_ofV (own := RX3) (by decide +kernel) rfl (Nat.le_of_ble_eq_true rfl) (ls0 := [(0, .ref (gad G (mm_W b w))), (1, .int t)]) rfl ?_
  refine vv_iload_n (pc := 0) 1 dX3_pitchWith_0 rfl rfl ?_
  refine vv_i2l (pc := 1) dX3_pitchWith_1 ?_
  refine vv_ldc2 (pc := 2) mw_L_X3_49 dX3_pitchWith_2 ?_
  refine vv_lmul (pc := 5) dX3_pitchWith_5 ?_
  refine vv_topl (fun x2p6 e2p6 => ?_)
  refine vv_lstore_n (pc := 6) (i := 2) (ls' := [(2, .long x2p6), (0, .ref (gad G (mm_W b w))), (1, .int t)]) dX3_pitchWith_6 rfl (by decide) rfl ?_
  refine vv_aload_n (pc := 7) 1 dX3_pitchWith_7 rfl rfl ?_
  refine vc_Vl (pc := 8) (c_X3_weight l G (by assumption) (by assumption) _) mw_M_X3_51 my_X3_weight (mm_rv_W (by assumption) (by assumption)) ⟨by decide, by decide⟩ rfl rfl (Nat.le_of_ble_eq_true rfl) dX3_pitchWith_8 (fun r8 S8 h8 => ?_)
  obtain ⟨qS8, h8⟩ := h8
  replace qS8 := qS8.symm
  subst qS8
  refine vv_topl (fun x4p11 e4p11 => ?_)
  refine vv_lstore (pc := 11) (i := 4) (ls' := [(4, .long x4p11), (2, .long x2p6), (0, .ref (gad G (mm_W b w))), (1, .int t)]) dX3_pitchWith_11 (by decide) rfl ?_
  refine vv_lconst (pc := 13) (v := 0) dX3_pitchWith_13 (by decide) ?_
  refine vv_topl (fun x6p14 e6p14 => ?_)
  refine vv_lstore (pc := 14) (i := 6) (ls' := [(6, .long x6p14), (4, .long x4p11), (2, .long x2p6), (0, .ref (gad G (mm_W b w))), (1, .int t)]) dX3_pitchWith_14 (by decide) rfl ?_
  refine vv_ldc2 (pc := 16) mw_L_X3_55 dX3_pitchWith_16 ?_
  refine vv_topl (fun x8p19 e8p19 => ?_)
  refine vv_lstore (pc := 19) (i := 8) (ls' := [(8, .long x8p19), (6, .long x6p14), (4, .long x4p11), (2, .long x2p6), (0, .ref (gad G (mm_W b w))), (1, .int t)]) dX3_pitchWith_19 (by decide) rfl ?_
  obtain ⟨hr1, hr2, hr3, hr4, hr5, hr6⟩ := hr
  obtain ⟨F, eF⟩ : ∃ z, z = sp_pf (t.toNatClampNeg * 1000000) ((S (mm_W b w) 1).toNatClampNeg * (S (mm_W b w) 1).toNatClampNeg * (S (mm_W b w) 2).toNatClampNeg) 15 0 := ⟨_, rfl⟩
  obtain ⟨m0, em⟩ : ∃ z, z = t.toNatClampNeg * 1000000 := ⟨_, rfl⟩
  obtain ⟨w0, ew⟩ : ∃ z, z = (S (mm_W b w) 1).toNatClampNeg * (S (mm_W b w) 1).toNatClampNeg * (S (mm_W b w) 2).toNatClampNeg := ⟨_, rfl⟩
  have hl1 := sp_cl (x := S (mm_W b w) 1) (by omega)
  have hl2 := sp_cl (x := S (mm_W b w) 2) (by omega)
  have hl3 := sp_cl (x := t) (by omega)
  have em2 : x2p6 = lN m0 := by rw [e2p6, sp_toL (by omega), em]; exact lN_mul _ 1000000
  have ew2 : x4p11 = lN w0 := by rw [e4p11, h8, sp_wtN (by omega) (by omega), ew]
  have hm0 : m0 ≤ 50000000000 := by rw [em]; omega
  have hw0 : w0 ≤ 800000 := by rw [ew]; exact Nat.mul_le_mul (Nat.mul_le_mul (by omega : _ ≤ 200) (by omega : _ ≤ 200)) (by omega : _ ≤ 20)
  rw [← em, ← ew] at eF
  have lp21 : ∀ (n : Nat) (kk q : Nat) (x6 x8 : Int64), kk + 1 ≤ n → kk ≤ 15 → q + 2 ^ kk ≤ 32768 → x6 = lN q → x8 = lN (2 ^ kk / 2) → sp_pf m0 w0 kk q = F → mm_V l G RX3 cX3_pitchWith 10 (some .int) (mm_rm 1 20) 0 0 (fun _ => True) (fun _ => mm_F G) (mm_Qf G (mm_Qi G (fun r S2 => S2 = S ∧ r = sp_pt (S (mm_W b w) 1) (S (mm_W b w) 2) t))) S 21 [(0, .ref (gad G (mm_W b w))), (1, .int t), (2, .long x2p6), (4, .long x4p11), (6, .long x6), (8, .long x8)] [] := by
    intro n
    induction n with
    | zero =>
      intro kk q x6 x8 hn hk hq e6 e8 hF
      exact absurd hn (by omega)
    | succ n ih =>
      intro kk q x6 x8 hn hk hq e6 e8 hF
      refine vv_lload (pc := 21) 5 dX3_pitchWith_21 rfl ?_
      refine vv_lconst (pc := 23) (v := 0) dX3_pitchWith_23 (by decide) ?_
      refine vv_lcmp (pc := 24) dX3_pitchWith_24 ?_
      refine vv_if_le (pc := 25) (tgt := 65) dX3_pitchWith_25 (by decide) (fun c25 => ?_) (fun c25 => ?_)
      -- t@25 path L21t
      · refine vv_lload (pc := 65) 4 dX3_pitchWith_65 rfl ?_
        refine vv_l2i (pc := 67) dX3_pitchWith_67 ?_
        refine vr_i (pc := 68) dX3_pitchWith_68 ?_
        have hk0 : kk = 0 := by
          rcases kk with _ | k1
          · rfl
          · exfalso
            rw [lg_cmp_le, e8, Nat.pow_succ, Nat.mul_div_cancel _ (by decide)] at c25
            have h9 : (2 : Nat) ^ k1 ≤ 2 ^ 14 := Nat.pow_le_pow_right (by decide) (by omega)
            have h10 : 0 < (2 : Nat) ^ k1 := Nat.pow_pos (by decide)
            have := (pk_lLE (a := 2 ^ k1) (b := 0) (by omega) (by decide)).mp c25
            omega
        subst hk0
        refine ⟨rfl, ?_⟩
        unfold sp_pt
        rw [← em, ← ew, ← eF, ← hF, sp_pf, e6, lN_i]
      -- f@25 path L21f
      · obtain ⟨k1, rfl⟩ : ∃ k1, kk = k1 + 1 := by
          rcases kk with _ | k1
          · exact absurd ((lg_cmp_le _ _).mpr (by rw [e8]; decide)) c25
          · exact ⟨k1, rfl⟩
        have e81 : x8 = lN (2 ^ k1) := by rw [e8, Nat.pow_succ, Nat.mul_div_cancel _ (by decide)]
        have hk2 : 2 ^ (k1 + 1) = 2 * 2 ^ k1 := by rw [Nat.pow_succ]; omega
        have hcmp : (0 < lg_cmp ((x6 + x8) * (x6 + x8) * x4p11) x2p6) ↔ ¬ ((q + 2 ^ k1) * (q + 2 ^ k1) * w0 ≤ m0) := by
          rw [lg_cmp_gt, e6, e81, ew2, em2, lN_add, lN_mul, lN_mul, pk_lLT (by omega) ?_]
          · omega
          · have h9 : (q + 2 ^ k1) * (q + 2 ^ k1) * w0 ≤ 32768 * 32768 * 800000 := Nat.mul_le_mul (Nat.mul_le_mul (by omega) (by omega)) hw0
            omega
        refine vv_lload (pc := 28) 4 dX3_pitchWith_28 rfl ?_
        refine vv_lload (pc := 30) 5 dX3_pitchWith_30 rfl ?_
        refine vv_ladd (pc := 32) dX3_pitchWith_32 ?_
        refine vv_lload (pc := 33) 4 dX3_pitchWith_33 rfl ?_
        refine vv_lload (pc := 35) 5 dX3_pitchWith_35 rfl ?_
        refine vv_ladd (pc := 37) dX3_pitchWith_37 ?_
        refine vv_lmul (pc := 38) dX3_pitchWith_38 ?_
        refine vv_lload (pc := 39) 3 dX3_pitchWith_39 rfl ?_
        refine vv_lmul (pc := 41) dX3_pitchWith_41 ?_
        refine vv_lload_n (pc := 42) 2 dX3_pitchWith_42 rfl rfl ?_
        refine vv_lcmp (pc := 43) dX3_pitchWith_43 ?_
        refine vv_if_gt (pc := 44) (tgt := 54) dX3_pitchWith_44 (by decide) (fun c44 => ?_) (fun c44 => ?_)
        -- t@44 path L21ft
        · refine vv_lload (pc := 54) 5 dX3_pitchWith_54 rfl ?_
          refine vv_ldc2 (pc := 56) mw_L_X3_57 dX3_pitchWith_56 ?_
          refine vv_ldiv (pc := 59) dX3_pitchWith_59 (by decide) ?_
          refine vv_topl (fun x8p60 e8p60 => ?_)
          refine vv_lstore (pc := 60) (i := 8) (ls' := [(8, .long x8p60), (0, .ref (gad G (mm_W b w))), (1, .int t), (2, .long x2p6), (4, .long x4p11), (6, .long x6)]) dX3_pitchWith_60 (by decide) rfl ?_
          refine vv_goto (pc := 62) (tgt := 21) dX3_pitchWith_62 (by decide) ?_
          have e8n : x8p60 = lN (2 ^ k1 / 2) := by rw [e8p60, e81]; exact pk_lDiv (by omega) (by decide) (by decide)
          rw [sp_pf, if_neg (hcmp.mp c44)] at hF
          refine vv_sub [1, 2, 3, 4, 5, 0] (ls' := [(0, _), (1, _), (2, _), (4, _), (6, _), (8, _)]) rfl ?_
          exact ih k1 q x6 x8p60 (by omega) (by omega) (by omega) e6 e8n hF
        -- f@44 path L21ff
        · refine vv_lload (pc := 47) 4 dX3_pitchWith_47 rfl ?_
          refine vv_lload (pc := 49) 5 dX3_pitchWith_49 rfl ?_
          refine vv_ladd (pc := 51) dX3_pitchWith_51 ?_
          refine vv_topl (fun x6p52 e6p52 => ?_)
          refine vv_lstore (pc := 52) (i := 6) (ls' := [(6, .long x6p52), (0, .ref (gad G (mm_W b w))), (1, .int t), (2, .long x2p6), (4, .long x4p11), (8, .long x8)]) dX3_pitchWith_52 (by decide) rfl ?_
          refine vv_lload (pc := 54) 5 dX3_pitchWith_54 rfl ?_
          refine vv_ldc2 (pc := 56) mw_L_X3_57 dX3_pitchWith_56 ?_
          refine vv_ldiv (pc := 59) dX3_pitchWith_59 (by decide) ?_
          refine vv_topl (fun x8p60 e8p60 => ?_)
          refine vv_lstore (pc := 60) (i := 8) (ls' := [(8, .long x8p60), (6, .long x6p52), (0, .ref (gad G (mm_W b w))), (1, .int t), (2, .long x2p6), (4, .long x4p11)]) dX3_pitchWith_60 (by decide) rfl ?_
          refine vv_goto (pc := 62) (tgt := 21) dX3_pitchWith_62 (by decide) ?_
          have e8n : x8p60 = lN (2 ^ k1 / 2) := by rw [e8p60, e81]; exact pk_lDiv (by omega) (by decide) (by decide)
          rw [sp_pf, if_pos (Decidable.not_not.mp (fun h => c44 (hcmp.mpr h)))] at hF
          refine vv_sub [2, 3, 4, 5, 1, 0] (ls' := [(0, _), (1, _), (2, _), (4, _), (6, _), (8, _)]) rfl ?_
          exact ih k1 (q + 2 ^ k1) x6p52 x8p60 (by omega) (by omega) (by omega) (by rw [e6p52, e6, e81, lN_add]) e8n hF
  refine vv_sub [4, 5, 3, 2, 1, 0] (ls' := [(0, _), (1, _), (2, _), (4, _), (6, _), (8, _)]) rfl ?_
  exact lp21 16 15 0 x6p14 x8p19 (by omega) (by omega) (by decide) e6p14 (by rw [e8p19]; rfl) eF.symm
set_option maxRecDepth 100000 in
set_option maxHeartbeats 4000000 in
theorem c_X3_sing (l : Launch) (G : gG) {b w : Nat} (hb : b < 11) (hw : w < 8) (S : Mem) (x1 : Int32) (hr : sp_rg (S (mm_W b w) 1) (S (mm_W b w) 2) (S (mm_W b w) 4)) : mm_C l G yX3_sing cX3_sing 3 (some .int) (mm_rm 2 49) [.ref (gad G (mm_W b w)), .int x1] S (mm_Qi G (fun r S2 => if S (mm_W b w) 6 = 0 then r = sp_pt (S (mm_W b w) 1) (S (mm_W b w) 2) (S (mm_W b w) 4) ∧ S2 = mm_wr (mm_wr (mm_wr S (mm_W b w) 8 x1) (mm_W b w) 9 (sp_ls r.toInt64 (S (mm_W b w) 1) (S (mm_W b w) 2)).toInt32) (mm_W b w) 10 (sp_hi r (S (mm_W b w) 1) (S (mm_W b w) 2)) else r = -6 ∧ S2 = mm_wr (mm_wr (mm_wr (mm_wr S (mm_W b w) 8 x1) (mm_W b w) 11 1) (mm_W b w) 9 0) (mm_W b w) 10 0)) := by
  refine mm_ofV (own := RX3) (by decide +kernel) rfl (Nat.le_of_ble_eq_true rfl) (ls0 := [(0, .ref (gad G (mm_W b w))), (1, .int x1)]) rfl ?_
  refine vv_aload_n (pc := 0) 0 dX3_sing_0 rfl rfl ?_
  refine vv_iload_n (pc := 1) 1 dX3_sing_1 rfl rfl ?_
  refine vp_X3_heardOn (pc := 2) (by assumption) (by assumption) mw_F_X3_37 dX3_sing_2 ?_
  refine vv_mem (fun S2 eS2 => ?_)
  refine vv_aload_n (pc := 5) 0 dX3_sing_5 rfl rfl ?_
  refine vg_X3_broken (pc := 6) (by assumption) (by assumption) mw_F_X3_30 dX3_sing_6 ?_
  have c0 : S2 (mm_W b w) 6 = S (mm_W b w) 6 := by subst eS2; simp [mm_wr_eq]
  refine vv_if_eq (pc := 9) (tgt := 30) dX3_sing_9 (by decide) (fun c9 => ?_) (fun c9 => ?_)
  -- t@9 path t
  · refine vv_aload_n (pc := 30) 0 dX3_sing_30 rfl rfl ?_
    refine vv_aload_n (pc := 31) 0 dX3_sing_31 rfl rfl ?_
    refine vg_X3_tension (pc := 32) (by assumption) (by assumption) mw_F_X3_24 dX3_sing_32 ?_
    refine vc_Vi (pc := 35) (c_X3_pitchWith l G (by assumption) (by assumption) _ _ (by subst eS2; simpa [mm_wr_eq] using hr)) mw_M_X3_59 my_X3_pitchWith (mm_rv_W (by assumption) (by assumption)) ⟨by decide, by decide⟩ rfl rfl (Nat.le_of_ble_eq_true rfl) dX3_sing_35 (fun r35 S35 h35 => ?_)
    obtain ⟨qS35, h35⟩ := h35
    replace qS35 := qS35.symm
    subst qS35
    refine vv_topi (fun x2p38 e2p38 => ?_)
    refine vv_istore_n (pc := 38) (i := 2) (ls' := [(2, .int x2p38), (0, .ref (gad G (mm_W b w))), (1, .int x1)]) dX3_sing_38 rfl (by decide) rfl ?_
    refine vv_aload_n (pc := 39) 1 dX3_sing_39 rfl rfl ?_
    refine vv_aload_n (pc := 40) 1 dX3_sing_40 rfl rfl ?_
    refine vv_iload_n (pc := 41) 0 dX3_sing_41 rfl rfl ?_
    refine vv_i2l (pc := 42) dX3_sing_42 ?_
    refine vc_Vl (pc := 43) (c_X3_leastTension l G (by assumption) (by assumption) _ _) mw_M_X3_63 my_X3_leastTension (mm_rv_W (by assumption) (by assumption)) ⟨by decide, by decide⟩ rfl rfl (Nat.le_of_ble_eq_true rfl) dX3_sing_43 (fun r43 S43 h43 => ?_)
    obtain ⟨qS43, h43⟩ := h43
    replace qS43 := qS43.symm
    subst qS43
    refine vv_l2i (pc := 46) dX3_sing_46 ?_
    refine vp_X3_low (pc := 47) (by assumption) (by assumption) mw_F_X3_40 dX3_sing_47 ?_
    refine vv_mem (fun S47 eS47 => ?_)
    refine vv_aload_n (pc := 50) 1 dX3_sing_50 rfl rfl ?_
    refine vv_aload_n (pc := 51) 1 dX3_sing_51 rfl rfl ?_
    refine vv_iload_n (pc := 52) 0 dX3_sing_52 rfl rfl ?_
    refine vv_iconst (pc := 53) (v := 1) dX3_sing_53 (by decide) ?_
    refine vv_iadd (pc := 54) dX3_sing_54 ?_
    refine vv_i2l (pc := 55) dX3_sing_55 ?_
    refine vc_Vl (pc := 56) (c_X3_leastTension l G (by assumption) (by assumption) _ _) mw_M_X3_63 my_X3_leastTension (mm_rv_W (by assumption) (by assumption)) ⟨by decide, by decide⟩ rfl rfl (Nat.le_of_ble_eq_true rfl) dX3_sing_56 (fun r56 S56 h56 => ?_)
    obtain ⟨qS56, h56⟩ := h56
    replace qS56 := qS56.symm
    subst qS56
    refine vv_lconst (pc := 59) (v := 1) dX3_sing_59 (by decide) ?_
    refine vv_lsub (pc := 60) dX3_sing_60 ?_
    refine vv_ldc2 (pc := 61) mw_L_X3_67 dX3_sing_61 ?_
    refine vv_lmin (pc := 64) mw_M_X3_69 mw_T_J9_min_f86c9 mw_C_J9_min_f86c9 (Nat.le_of_ble_eq_true rfl) (Nat.le_of_ble_eq_true rfl) dX3_sing_64 ?_
    refine vv_l2i (pc := 67) dX3_sing_67 ?_
    refine vp_X3_high (pc := 68) (by assumption) (by assumption) mw_F_X3_43 dX3_sing_68 ?_
    refine vv_mem (fun S68 eS68 => ?_)
    refine vv_iload_n (pc := 71) 0 dX3_sing_71 rfl rfl ?_
    refine vr_i (pc := 72) dX3_sing_72 ?_
    rw [if_pos (by rw [← c0]; exact c9)]
    have g1 : S2 (mm_W b w) 1 = S (mm_W b w) 1 := by subst eS2; simp [mm_wr_eq]
    have g2 : S2 (mm_W b w) 2 = S (mm_W b w) 2 := by subst eS2; simp [mm_wr_eq]
    have g4 : S2 (mm_W b w) 4 = S (mm_W b w) 4 := by subst eS2; simp [mm_wr_eq]
    have k1 : S47 (mm_W b w) 1 = S (mm_W b w) 1 := by subst eS47; simp [mm_wr_eq, g1]
    have k2 : S47 (mm_W b w) 2 = S (mm_W b w) 2 := by subst eS47; simp [mm_wr_eq, g2]
    subst e2p38
    refine ⟨by rw [h35, g1, g2, g4], ?_⟩
    rw [eS68, eS47, h43, h56, eS2]
    rw [eS2] at g1 g2
    rw [g1, g2, k1, k2]
    congr 1
    unfold sp_hi
    split <;> rfl
  -- f@9 path f
  · refine vv_aload_n (pc := 12) 0 dX3_sing_12 rfl rfl ?_
    refine vv_iconst (pc := 13) (v := 1) dX3_sing_13 (by decide) ?_
    refine vp_X3_heardBroken (pc := 14) (by assumption) (by assumption) (by first | exact Or.inl rfl | exact Or.inr rfl | assumption) mw_F_X3_46 dX3_sing_14 ?_
    refine vv_mem (fun S14 eS14 => ?_)
    refine vv_aload_n (pc := 17) 0 dX3_sing_17 rfl rfl ?_
    refine vv_iconst (pc := 18) (v := 0) dX3_sing_18 (by decide) ?_
    refine vp_X3_low (pc := 19) (by assumption) (by assumption) mw_F_X3_40 dX3_sing_19 ?_
    refine vv_mem (fun S19 eS19 => ?_)
    refine vv_aload_n (pc := 22) 0 dX3_sing_22 rfl rfl ?_
    refine vv_iconst (pc := 23) (v := 0) dX3_sing_23 (by decide) ?_
    refine vp_X3_high (pc := 24) (by assumption) (by assumption) mw_F_X3_43 dX3_sing_24 ?_
    refine vv_mem (fun S24 eS24 => ?_)
    refine vv_bipush (pc := 27) (v := (-6)) dX3_sing_27 (by decide) ?_
    refine vr_i (pc := 29) dX3_sing_29 ?_
    rw [if_neg (by rw [← c0]; exact c9)]
    refine ⟨rfl, ?_⟩
    subst eS2 eS14 eS19 eS24
    rfl
