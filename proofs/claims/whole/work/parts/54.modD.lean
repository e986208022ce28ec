theorem i01 {P : Prop} [Decidable P] : (if P then (1 : Int32) else 0) = 0 ↔ ¬ P := by
  split <;> simp_all
/-- the last wire at a place, as the other program looks for it -/
def wat (z : Nat → Int32) (p : Nat) : Nat → Int32
  | 0 => -6
  | c + 1 => if sp_at z c = p then nI c else wat z p c
set_option maxRecDepth 100000 in
set_option maxHeartbeats 4000000 in
theorem c_X5_weight (l : Launch) (G : gG) (S : Mem) {w : Nat} {x : Int32} (hx : x = nI w) (hw : w < 8) : mm_C l G yX5_weight cX5_weight 2 (some .long) (mm_rm 1 22) [.ref (gad G 7), .int x] S (mm_Ql G (fun r S2 => S2 = S ∧ r = sp_wt (sp_f (S 8) w 1) (sp_f (S 8) w 2))) := by
  refine mm_ofV (own := RX5) (by decide +kernel) rfl (Nat.le_of_ble_eq_true rfl) (ls0 := [(0, .ref (gad G 7)), (1, .int x)]) rfl ?_
  refine vv_aload_n (pc := 0) 0 dX5_weight_0 rfl rfl ?_
  refine vv_iload_n (pc := 1) 1 dX5_weight_1 rfl rfl ?_
  refine vv_iconst (pc := 2) (v := 1) dX5_weight_2 (by decide) ?_
  refine vc_Vi (pc := 3) (c_X5_of l G _ (by assumption) rfl (by assumption) (by decide)) mw_M_X5_47 my_X5_of mm_rv_X5 ⟨by decide, by decide⟩ rfl rfl (Nat.le_of_ble_eq_true rfl) dX5_weight_3 (fun r3 S3 h3 => ?_)
  obtain ⟨qS3, h3⟩ := h3
  replace qS3 := qS3.symm
  subst qS3
  refine vv_i2l (pc := 6) dX5_weight_6 ?_
  refine vv_aload_n (pc := 7) 0 dX5_weight_7 rfl rfl ?_
  refine vv_iload_n (pc := 8) 1 dX5_weight_8 rfl rfl ?_
  refine vv_iconst (pc := 9) (v := 1) dX5_weight_9 (by decide) ?_
  refine vc_Vi (pc := 10) (c_X5_of l G _ (by assumption) rfl (by assumption) (by decide)) mw_M_X5_47 my_X5_of mm_rv_X5 ⟨by decide, by decide⟩ rfl rfl (Nat.le_of_ble_eq_true rfl) dX5_weight_10 (fun r10 S10 h10 => ?_)
  obtain ⟨qS10, h10⟩ := h10
  replace qS10 := qS10.symm
  subst qS10
  refine vv_i2l (pc := 13) dX5_weight_13 ?_
  refine vv_lmul (pc := 14) dX5_weight_14 ?_
  refine vv_aload_n (pc := 15) 0 dX5_weight_15 rfl rfl ?_
  refine vv_iload_n (pc := 16) 1 dX5_weight_16 rfl rfl ?_
  refine vv_iconst (pc := 17) (v := 2) dX5_weight_17 (by decide) ?_
  refine vc_Vi (pc := 18) (c_X5_of l G _ (by assumption) rfl (by assumption) (by decide)) mw_M_X5_47 my_X5_of mm_rv_X5 ⟨by decide, by decide⟩ rfl rfl (Nat.le_of_ble_eq_true rfl) dX5_weight_18 (fun r18 S18 h18 => ?_)
  obtain ⟨qS18, h18⟩ := h18
  replace qS18 := qS18.symm
  subst qS18
  refine vv_i2l (pc := 21) dX5_weight_21 ?_
  refine vv_lmul (pc := 22) dX5_weight_22 ?_
  refine vr_l (pc := 23) dX5_weight_23 ?_
  exact ⟨rfl, by rw [h3, h10, h18]; rfl⟩
set_option maxRecDepth 100000 in
set_option maxHeartbeats 4000000 in
theorem c_X5_leastFor (l : Launch) (G : gG) (S : Mem) {w : Nat} {x : Int32} (hx : x = nI w) (hw : w < 8) (p : Int32) : mm_C l G yX5_leastFor cX5_leastFor 3 (some .long) (mm_rm 2 43) [.ref (gad G 7), .int x, .int p] S (mm_Ql G (fun r S2 => S2 = S ∧ r = sp_ls p.toInt64 (sp_f (S 8) w 1) (sp_f (S 8) w 2))) := by
  refine mm_ofV (own := RX5) (by decide +kernel) rfl (Nat.le_of_ble_eq_true rfl) (ls0 := [(0, .ref (gad G 7)), (1, .int x), (2, .int p)]) rfl ?_
  refine vv_iload_n (pc := 0) 2 dX5_leastFor_0 rfl rfl ?_
  refine vv_i2l (pc := 1) dX5_leastFor_1 ?_
  refine vv_iload_n (pc := 2) 2 dX5_leastFor_2 rfl rfl ?_
  refine vv_i2l (pc := 3) dX5_leastFor_3 ?_
  refine vv_lmul (pc := 4) dX5_leastFor_4 ?_
  refine vv_aload_n (pc := 5) 0 dX5_leastFor_5 rfl rfl ?_
  refine vv_iload_n (pc := 6) 1 dX5_leastFor_6 rfl rfl ?_
  refine vc_Vl (pc := 7) (c_X5_weight l G _ (by assumption) (by assumption)) mw_M_X5_53 my_X5_weight mm_rv_X5 ⟨by decide, by decide⟩ rfl rfl (Nat.le_of_ble_eq_true rfl) dX5_leastFor_7 (fun r7 S7 h7 => ?_)
  obtain ⟨qS7, h7⟩ := h7
  replace qS7 := qS7.symm
  subst qS7
  refine vv_lmul (pc := 10) dX5_leastFor_10 ?_
  refine vv_ldc2 (pc := 11) mw_L_X5_51 dX5_leastFor_11 ?_
  refine vv_ladd (pc := 14) dX5_leastFor_14 ?_
  refine vv_lconst (pc := 15) (v := 1) dX5_leastFor_15 (by decide) ?_
  refine vv_lsub (pc := 16) dX5_leastFor_16 ?_
  refine vv_ldc2 (pc := 17) mw_L_X5_51 dX5_leastFor_17 ?_
  refine vv_ldiv (pc := 20) dX5_leastFor_20 (by decide) ?_
  refine vr_l (pc := 21) dX5_leastFor_21 ?_
  exact ⟨rfl, by rw [h7]; rfl⟩
set_option maxRecDepth 100000 in
set_option maxHeartbeats 4000000 in
theorem c_X5_isSlack (l : Launch) (G : gG) (S : Mem) {w : Nat} {x : Int32} (hx : x = nI w) (hw : w < 8) : mm_C l G yX5_isSlack cX5_isSlack 2 (some .boolean) (mm_rm 2 43) [.ref (gad G 7), .int x] S (mm_Qi G (fun r S2 => S2 = S ∧ r = if sp_f (S 8) w 5 = 0 ∧ sp_f (S 8) w 4 < S 14 w then 1 else 0)) := by
  refine mm_ofV (own := RX5) (by decide +kernel) rfl (Nat.le_of_ble_eq_true rfl) (ls0 := [(0, .ref (gad G 7)), (1, .int x)]) rfl ?_
  refine vv_aload_n (pc := 0) 0 dX5_isSlack_0 rfl rfl ?_
  refine vv_iload_n (pc := 1) 1 dX5_isSlack_1 rfl rfl ?_
  refine vc_Vi (pc := 2) (c_X5_isWhole l G _ (by assumption) (by assumption)) mw_M_X5_69 my_X5_isWhole mm_rv_X5 ⟨by decide, by decide⟩ rfl rfl (Nat.le_of_ble_eq_true rfl) dX5_isSlack_2 (fun r2 S2 h2 => ?_)
  obtain ⟨qS2, h2⟩ := h2
  replace qS2 := qS2.symm
  subst qS2
  refine vv_if_eq (pc := 5) (tgt := 27) dX5_isSlack_5 (by decide) (fun c5 => ?_) (fun c5 => ?_)
  -- t@5 path t
  · refine vv_iconst (pc := 27) (v := 0) dX5_isSlack_27 (by decide) ?_
    refine vr_z (pc := 28) dX5_isSlack_28 (by first | exact Or.inl rfl | exact Or.inr rfl | assumption) ?_
    rw [h2, i01] at c5
    exact ⟨rfl, (if_neg (fun h => c5 h.1)).symm⟩
  -- f@5 path f
  · refine vv_aload_n (pc := 8) 0 dX5_isSlack_8 rfl rfl ?_
    refine vv_iload_n (pc := 9) 1 dX5_isSlack_9 rfl rfl ?_
    refine vv_iconst (pc := 10) (v := 4) dX5_isSlack_10 (by decide) ?_
    refine vc_Vi (pc := 11) (c_X5_of l G _ (by assumption) rfl (by assumption) (by decide)) mw_M_X5_47 my_X5_of mm_rv_X5 ⟨by decide, by decide⟩ rfl rfl (Nat.le_of_ble_eq_true rfl) dX5_isSlack_11 (fun r11 S11 h11 => ?_)
    obtain ⟨qS11, h11⟩ := h11
    replace qS11 := qS11.symm
    subst qS11
    refine vv_aload_n (pc := 14) 0 dX5_isSlack_14 rfl rfl ?_
    refine vg_X5_task (pc := 15) mw_F_X5_29 dX5_isSlack_15 ?_
    refine vv_iload_n (pc := 18) 1 dX5_isSlack_18 rfl rfl ?_
    refine vl_14 (pc := 19) (by rw [hx]; exact vp_8 hw) dX5_isSlack_19 ?_
    refine vv_icmp_ge (pc := 20) (tgt := 27) dX5_isSlack_20 (by decide) (fun c20 => ?_) (fun c20 => ?_)
    -- t@20 path ft
    · refine vv_iconst (pc := 27) (v := 0) dX5_isSlack_27 (by decide) ?_
      refine vr_z (pc := 28) dX5_isSlack_28 (by first | exact Or.inl rfl | exact Or.inr rfl | assumption) ?_
      rw [h11, hx, cl_n (show w < 1000 by omega)] at c20
      exact ⟨rfl, (if_neg (fun h => absurd c20 (Int32.not_le.mpr h.2))).symm⟩
    -- f@20 path ff
    · refine vv_iconst (pc := 23) (v := 1) dX5_isSlack_23 (by decide) ?_
      refine vv_goto (pc := 24) (tgt := 28) dX5_isSlack_24 (by decide) ?_
      refine vr_z (pc := 28) dX5_isSlack_28 (by first | exact Or.inl rfl | exact Or.inr rfl | assumption) ?_
      rw [h2, i01] at c5
      rw [h11, hx, cl_n (show w < 1000 by omega)] at c20
      exact ⟨rfl, (if_pos ⟨Classical.not_not.mp c5, Int32.not_le.mp c20⟩).symm⟩
set_option maxRecDepth 100000 in
set_option maxHeartbeats 4000000 in
theorem c_X5_isTight (l : Launch) (G : gG) (S : Mem) {w : Nat} {x : Int32} (hx : x = nI w) (hw : w < 8) : mm_C l G yX5_isTight cX5_isTight 3 (some .boolean) (mm_rm 2 43) [.ref (gad G 7), .int x] S (mm_Qi G (fun r S2 => S2 = S ∧ r = if sp_f (S 8) w 5 = 0 ∧ S 14 w + S 14 w * S 8 1 / 100 < sp_f (S 8) w 4 ∧ 1000 < sp_f (S 8) w 4 then 1 else 0)) := by
  refine mm_ofV (own := RX5) (by decide +kernel) rfl (Nat.le_of_ble_eq_true rfl) (ls0 := [(0, .ref (gad G 7)), (1, .int x)]) rfl ?_
  refine vv_aload_n (pc := 0) 0 dX5_isTight_0 rfl rfl ?_
  refine vg_X5_task (pc := 1) mw_F_X5_29 dX5_isTight_1 ?_
  refine vv_iload_n (pc := 4) 1 dX5_isTight_4 rfl rfl ?_
  refine vl_14 (pc := 5) (by rw [hx]; exact vp_8 hw) dX5_isTight_5 ?_
  refine vv_aload_n (pc := 6) 0 dX5_isTight_6 rfl rfl ?_
  refine vg_X5_task (pc := 7) mw_F_X5_29 dX5_isTight_7 ?_
  refine vv_iload_n (pc := 10) 1 dX5_isTight_10 rfl rfl ?_
  refine vl_14 (pc := 11) (by rw [hx]; exact vp_8 hw) dX5_isTight_11 ?_
  refine vv_aload_n (pc := 12) 0 dX5_isTight_12 rfl rfl ?_
  refine vg_X5_now (pc := 13) mw_F_X5_7 dX5_isTight_13 ?_
  refine vv_iconst (pc := 16) (v := 1) dX5_isTight_16 (by decide) ?_
  refine vl_8 (pc := 17) (vp_in_nI (n := 1) (by decide) (by decide)) dX5_isTight_17 ?_
  refine vv_imul (pc := 18) dX5_isTight_18 ?_
  refine vv_bipush (pc := 19) (v := 100) dX5_isTight_19 (by decide) ?_
  refine vv_idiv (pc := 21) dX5_isTight_21 (by decide) ?_
  refine vv_iadd (pc := 22) dX5_isTight_22 ?_
  refine vv_topi (fun x2p23 e2p23 => ?_)
  refine vv_istore_n (pc := 23) (i := 2) (ls' := [(2, .int x2p23), (0, .ref (gad G 7)), (1, .int x)]) dX5_isTight_23 rfl (by decide) rfl ?_
  rw [hx, cl_n (show w < 1000 by omega), show (1 : Int32).toNatClampNeg = 1 from by decide] at e2p23
  refine vv_aload_n (pc := 24) 1 dX5_isTight_24 rfl rfl ?_
  refine vv_iload_n (pc := 25) 2 dX5_isTight_25 rfl rfl ?_
  refine vc_Vi (pc := 26) (c_X5_isWhole l G _ (by assumption) (by assumption)) mw_M_X5_69 my_X5_isWhole mm_rv_X5 ⟨by decide, by decide⟩ rfl rfl (Nat.le_of_ble_eq_true rfl) dX5_isTight_26 (fun r26 S26 h26 => ?_)
  obtain ⟨qS26, h26⟩ := h26
  replace qS26 := qS26.symm
  subst qS26
  refine vv_if_eq (pc := 29) (tgt := 58) dX5_isTight_29 (by decide) (fun c29 => ?_) (fun c29 => ?_)
  -- t@29 path t
  · refine vv_iconst (pc := 58) (v := 0) dX5_isTight_58 (by decide) ?_
    refine vr_z (pc := 59) dX5_isTight_59 (by first | exact Or.inl rfl | exact Or.inr rfl | assumption) ?_
    rw [h26, i01] at c29
    exact ⟨rfl, (if_neg (fun h => c29 h.1)).symm⟩
  -- f@29 path f
  · refine vv_aload_n (pc := 32) 1 dX5_isTight_32 rfl rfl ?_
    refine vv_iload_n (pc := 33) 2 dX5_isTight_33 rfl rfl ?_
    refine vv_iconst (pc := 34) (v := 4) dX5_isTight_34 (by decide) ?_
    refine vc_Vi (pc := 35) (c_X5_of l G _ (by assumption) rfl (by assumption) (by decide)) mw_M_X5_47 my_X5_of mm_rv_X5 ⟨by decide, by decide⟩ rfl rfl (Nat.le_of_ble_eq_true rfl) dX5_isTight_35 (fun r35 S35 h35 => ?_)
    obtain ⟨qS35, h35⟩ := h35
    replace qS35 := qS35.symm
    subst qS35
    refine vv_iload_n (pc := 38) 0 dX5_isTight_38 rfl rfl ?_
    refine vv_icmp_le (pc := 39) (tgt := 58) dX5_isTight_39 (by decide) (fun c39 => ?_) (fun c39 => ?_)
    -- t@39 path ft
    · refine vv_iconst (pc := 58) (v := 0) dX5_isTight_58 (by decide) ?_
      refine vr_z (pc := 59) dX5_isTight_59 (by first | exact Or.inl rfl | exact Or.inr rfl | assumption) ?_
      rw [h35, e2p23] at c39
      exact ⟨rfl, (if_neg (fun h => absurd c39 (Int32.not_le.mpr h.2.1))).symm⟩
    -- f@39 path ff
    · refine vv_aload_n (pc := 42) 1 dX5_isTight_42 rfl rfl ?_
      refine vv_iload_n (pc := 43) 2 dX5_isTight_43 rfl rfl ?_
      refine vv_iconst (pc := 44) (v := 4) dX5_isTight_44 (by decide) ?_
      refine vc_Vi (pc := 45) (c_X5_of l G _ (by assumption) rfl (by assumption) (by decide)) mw_M_X5_47 my_X5_of mm_rv_X5 ⟨by decide, by decide⟩ rfl rfl (Nat.le_of_ble_eq_true rfl) dX5_isTight_45 (fun r45 S45 h45 => ?_)
      obtain ⟨qS45, h45⟩ := h45
      replace qS45 := qS45.symm
      subst qS45
      refine vv_sipush (pc := 48) (v := 1000) dX5_isTight_48 (by decide) ?_
      refine vv_icmp_le (pc := 51) (tgt := 58) dX5_isTight_51 (by decide) (fun c51 => ?_) (fun c51 => ?_)
      -- t@51 path fft
      · refine vv_iconst (pc := 58) (v := 0) dX5_isTight_58 (by decide) ?_
        refine vr_z (pc := 59) dX5_isTight_59 (by first | exact Or.inl rfl | exact Or.inr rfl | assumption) ?_
        rw [h45] at c51
        exact ⟨rfl, (if_neg (fun h => absurd c51 (Int32.not_le.mpr h.2.2))).symm⟩
      -- f@51 path fff
      · refine vv_iconst (pc := 54) (v := 1) dX5_isTight_54 (by decide) ?_
        refine vv_goto (pc := 55) (tgt := 59) dX5_isTight_55 (by decide) ?_
        refine vr_z (pc := 59) dX5_isTight_59 (by first | exact Or.inl rfl | exact Or.inr rfl | assumption) ?_
        rw [h26, i01] at c29
        rw [h35, e2p23] at c39
        rw [h45] at c51
        exact ⟨rfl, (if_pos ⟨Classical.not_not.mp c29, Int32.not_le.mp c39, Int32.not_le.mp c51⟩).symm⟩
set_option maxRecDepth 100000 in
set_option maxHeartbeats 4000000 in
theorem c_X5_isSurely (l : Launch) (G : gG) (S : Mem) {w : Nat} {x : Int32} (hx : x = nI w) (hw : w < 8) : mm_C l G yX5_isSurely cX5_isSurely 2 (some .boolean) (mm_rm 1 22) [.ref (gad G 7), .int x] S (mm_Qi G (fun r S2 => S2 = S ∧ r = if ¬ sp_f (S 8) w 7 < 0 ∧ sp_f (S 8) w 9 < S 14 w then 1 else 0)) := by
  refine mm_ofV (own := RX5) (by decide +kernel) rfl (Nat.le_of_ble_eq_true rfl) (ls0 := [(0, .ref (gad G 7)), (1, .int x)]) rfl ?_
  refine vv_aload_n (pc := 0) 0 dX5_isSurely_0 rfl rfl ?_
  refine vv_iload_n (pc := 1) 1 dX5_isSurely_1 rfl rfl ?_
  refine vv_bipush (pc := 2) (v := 7) dX5_isSurely_2 (by decide) ?_
  refine vc_Vi (pc := 4) (c_X5_of l G _ (by assumption) rfl (by assumption) (by decide)) mw_M_X5_47 my_X5_of mm_rv_X5 ⟨by decide, by decide⟩ rfl rfl (Nat.le_of_ble_eq_true rfl) dX5_isSurely_4 (fun r4 S4 h4 => ?_)
  obtain ⟨qS4, h4⟩ := h4
  replace qS4 := qS4.symm
  subst qS4
  refine vv_if_lt (pc := 7) (tgt := 30) dX5_isSurely_7 (by decide) (fun c7 => ?_) (fun c7 => ?_)
  -- t@7 path t
  · refine vv_iconst (pc := 30) (v := 0) dX5_isSurely_30 (by decide) ?_
    refine vr_z (pc := 31) dX5_isSurely_31 (by first | exact Or.inl rfl | exact Or.inr rfl | assumption) ?_
    rw [h4] at c7
    exact ⟨rfl, (if_neg (fun h => h.1 c7)).symm⟩
  -- f@7 path f
  · refine vv_aload_n (pc := 10) 0 dX5_isSurely_10 rfl rfl ?_
    refine vv_iload_n (pc := 11) 1 dX5_isSurely_11 rfl rfl ?_
    refine vv_bipush (pc := 12) (v := 9) dX5_isSurely_12 (by decide) ?_
    refine vc_Vi (pc := 14) (c_X5_of l G _ (by assumption) rfl (by assumption) (by decide)) mw_M_X5_47 my_X5_of mm_rv_X5 ⟨by decide, by decide⟩ rfl rfl (Nat.le_of_ble_eq_true rfl) dX5_isSurely_14 (fun r14 S14 h14 => ?_)
    obtain ⟨qS14, h14⟩ := h14
    replace qS14 := qS14.symm
    subst qS14
    refine vv_aload_n (pc := 17) 0 dX5_isSurely_17 rfl rfl ?_
    refine vg_X5_task (pc := 18) mw_F_X5_29 dX5_isSurely_18 ?_
    refine vv_iload_n (pc := 21) 1 dX5_isSurely_21 rfl rfl ?_
    refine vl_14 (pc := 22) (by rw [hx]; exact vp_8 hw) dX5_isSurely_22 ?_
    refine vv_icmp_ge (pc := 23) (tgt := 30) dX5_isSurely_23 (by decide) (fun c23 => ?_) (fun c23 => ?_)
    -- t@23 path ft
    · refine vv_iconst (pc := 30) (v := 0) dX5_isSurely_30 (by decide) ?_
      refine vr_z (pc := 31) dX5_isSurely_31 (by first | exact Or.inl rfl | exact Or.inr rfl | assumption) ?_
      rw [h14, hx, cl_n (show w < 1000 by omega)] at c23
      exact ⟨rfl, (if_neg (fun h => absurd c23 (Int32.not_le.mpr h.2))).symm⟩
    -- f@23 path ff
    · refine vv_iconst (pc := 26) (v := 1) dX5_isSurely_26 (by decide) ?_
      refine vv_goto (pc := 27) (tgt := 31) dX5_isSurely_27 (by decide) ?_
      refine vr_z (pc := 31) dX5_isSurely_31 (by first | exact Or.inl rfl | exact Or.inr rfl | assumption) ?_
      rw [h4] at c7
      rw [h14, hx, cl_n (show w < 1000 by omega)] at c23
      exact ⟨rfl, (if_pos ⟨c7, Int32.not_le.mp c23⟩).symm⟩
set_option maxRecDepth 100000 in
set_option maxHeartbeats 4000000 in
theorem c_X5_mayBe (l : Launch) (G : gG) (S : Mem) {w : Nat} {x : Int32} (hx : x = nI w) (hw : w < 8) : mm_C l G yX5_mayBe cX5_mayBe 2 (some .boolean) (mm_rm 2 43) [.ref (gad G 7), .int x] S (mm_Qi G (fun r S2 => S2 = S ∧ r = if ¬ (¬ sp_f (S 8) w 7 < 0 ∧ sp_f (S 8) w 9 < S 14 w) ∧ (sp_f (S 8) w 7 < 0 ∨ sp_f (S 8) w 8 < S 14 w) then 1 else 0)) := by
  refine mm_ofV (own := RX5) (by decide +kernel) rfl (Nat.le_of_ble_eq_true rfl) (ls0 := [(0, .ref (gad G 7)), (1, .int x)]) rfl ?_
  refine vv_aload_n (pc := 0) 0 dX5_mayBe_0 rfl rfl ?_
  refine vv_iload_n (pc := 1) 1 dX5_mayBe_1 rfl rfl ?_
  refine vc_Vi (pc := 2) (c_X5_isSurely l G _ (by assumption) (by assumption)) mw_M_X5_121 my_X5_isSurely mm_rv_X5 ⟨by decide, by decide⟩ rfl rfl (Nat.le_of_ble_eq_true rfl) dX5_mayBe_2 (fun r2 S2 h2 => ?_)
  obtain ⟨qS2, h2⟩ := h2
  replace qS2 := qS2.symm
  subst qS2
  refine vv_if_ne (pc := 5) (tgt := 38) dX5_mayBe_5 (by decide) (fun c5 => ?_) (fun c5 => ?_)
  -- t@5 path t
  · refine vv_iconst (pc := 38) (v := 0) dX5_mayBe_38 (by decide) ?_
    refine vr_z (pc := 39) dX5_mayBe_39 (by first | exact Or.inl rfl | exact Or.inr rfl | assumption) ?_
    rw [h2, i01] at c5
    exact ⟨rfl, (if_neg (fun h => c5 h.1)).symm⟩
  -- f@5 path f
  · refine vv_aload_n (pc := 8) 0 dX5_mayBe_8 rfl rfl ?_
    refine vv_iload_n (pc := 9) 1 dX5_mayBe_9 rfl rfl ?_
    refine vv_bipush (pc := 10) (v := 7) dX5_mayBe_10 (by decide) ?_
    refine vc_Vi (pc := 12) (c_X5_of l G _ (by assumption) rfl (by assumption) (by decide)) mw_M_X5_47 my_X5_of mm_rv_X5 ⟨by decide, by decide⟩ rfl rfl (Nat.le_of_ble_eq_true rfl) dX5_mayBe_12 (fun r12 S12 h12 => ?_)
    obtain ⟨qS12, h12⟩ := h12
    replace qS12 := qS12.symm
    subst qS12
    refine vv_if_lt (pc := 15) (tgt := 34) dX5_mayBe_15 (by decide) (fun c15 => ?_) (fun c15 => ?_)
    -- t@15 path ft
    · refine vv_iconst (pc := 34) (v := 1) dX5_mayBe_34 (by decide) ?_
      refine vv_goto (pc := 35) (tgt := 39) dX5_mayBe_35 (by decide) ?_
      refine vr_z (pc := 39) dX5_mayBe_39 (by first | exact Or.inl rfl | exact Or.inr rfl | assumption) ?_
      rw [h2, i01] at c5
      rw [h12] at c15
      exact ⟨rfl, (if_pos ⟨c5, Or.inl c15⟩).symm⟩
    -- f@15 path ff
    · refine vv_aload_n (pc := 18) 0 dX5_mayBe_18 rfl rfl ?_
      refine vv_iload_n (pc := 19) 1 dX5_mayBe_19 rfl rfl ?_
      refine vv_bipush (pc := 20) (v := 8) dX5_mayBe_20 (by decide) ?_
      refine vc_Vi (pc := 22) (c_X5_of l G _ (by assumption) rfl (by assumption) (by decide)) mw_M_X5_47 my_X5_of mm_rv_X5 ⟨by decide, by decide⟩ rfl rfl (Nat.le_of_ble_eq_true rfl) dX5_mayBe_22 (fun r22 S22 h22 => ?_)
      obtain ⟨qS22, h22⟩ := h22
      replace qS22 := qS22.symm
      subst qS22
      refine vv_aload_n (pc := 25) 0 dX5_mayBe_25 rfl rfl ?_
      refine vg_X5_task (pc := 26) mw_F_X5_29 dX5_mayBe_26 ?_
      refine vv_iload_n (pc := 29) 1 dX5_mayBe_29 rfl rfl ?_
      refine vl_14 (pc := 30) (by rw [hx]; exact vp_8 hw) dX5_mayBe_30 ?_
      refine vv_icmp_ge (pc := 31) (tgt := 38) dX5_mayBe_31 (by decide) (fun c31 => ?_) (fun c31 => ?_)
      -- t@31 path fft
      · refine vv_iconst (pc := 38) (v := 0) dX5_mayBe_38 (by decide) ?_
        refine vr_z (pc := 39) dX5_mayBe_39 (by first | exact Or.inl rfl | exact Or.inr rfl | assumption) ?_
        rw [h12] at c15
        rw [h22, hx, cl_n (show w < 1000 by omega)] at c31
        exact ⟨rfl, (if_neg (fun h => h.2.elim c15 (fun h => absurd c31 (Int32.not_le.mpr h)))).symm⟩
      -- f@31 path fff
      · refine vv_iconst (pc := 34) (v := 1) dX5_mayBe_34 (by decide) ?_
        refine vv_goto (pc := 35) (tgt := 39) dX5_mayBe_35 (by decide) ?_
        refine vr_z (pc := 39) dX5_mayBe_39 (by first | exact Or.inl rfl | exact Or.inr rfl | assumption) ?_
        rw [h2, i01] at c5
        rw [h22, hx, cl_n (show w < 1000 by omega)] at c31
        exact ⟨rfl, (if_pos ⟨c5, Or.inr (Int32.not_le.mp c31)⟩).symm⟩
set_option maxRecDepth 100000 in
set_option maxHeartbeats 4000000 in
theorem c_X5_loosened (l : Launch) (G : gG) (S : Mem) (t : Int32) : mm_C l G yX5_loosened cX5_loosened 2 (some .int) (mm_rm 0 0) [.ref (gad G 7), .int t] S (mm_Qi G (fun r S2 => S2 = S ∧ r = sp_lz t (S 8 0))) := by
  refine mm_ofV (own := RX5) (by decide +kernel) rfl (Nat.le_of_ble_eq_true rfl) (ls0 := [(0, .ref (gad G 7)), (1, .int t)]) rfl ?_
  refine vv_iload_n (pc := 0) 1 dX5_loosened_0 rfl rfl ?_
  refine vv_if_ge (pc := 1) (tgt := 8) dX5_loosened_1 (by decide) (fun c1 => ?_) (fun c1 => ?_)
  -- t@1 path t
  · refine vv_iload_n (pc := 8) 1 dX5_loosened_8 rfl rfl ?_
    refine vv_iload_n (pc := 9) 1 dX5_loosened_9 rfl rfl ?_
    refine vv_aload_n (pc := 10) 0 dX5_loosened_10 rfl rfl ?_
    refine vg_X5_now (pc := 11) mw_F_X5_7 dX5_loosened_11 ?_
    refine vv_iconst (pc := 14) (v := 0) dX5_loosened_14 (by decide) ?_
    refine vl_8 (pc := 15) (vp_in_nI (n := 0) (by decide) (by decide)) dX5_loosened_15 ?_
    refine vv_imul (pc := 16) dX5_loosened_16 ?_
    refine vv_sipush (pc := 17) (v := 999) dX5_loosened_17 (by decide) ?_
    refine vv_iadd (pc := 20) dX5_loosened_20 ?_
    refine vv_sipush (pc := 21) (v := 1000) dX5_loosened_21 (by decide) ?_
    refine vv_idiv (pc := 24) dX5_loosened_24 (by decide) ?_
    refine vv_isub (pc := 25) dX5_loosened_25 ?_
    refine vr_i (pc := 26) dX5_loosened_26 ?_
    exact ⟨rfl, by unfold sp_lz sp_crept; rw [if_neg (Int32.not_lt.mpr c1)]; rfl⟩
  -- f@1 path f
  · refine vv_iload_n (pc := 4) 1 dX5_loosened_4 rfl rfl ?_
    refine vv_goto (pc := 5) (tgt := 26) dX5_loosened_5 (by decide) ?_
    refine vr_i (pc := 26) dX5_loosened_26 ?_
    exact ⟨rfl, by unfold sp_lz; rw [if_pos (Int32.not_le.mp c1)]⟩
set_option maxRecDepth 100000 in
set_option maxHeartbeats 4000000 in
theorem c_X5_know (l : Launch) (G : gG) (S : Mem) {w : Nat} {x : Int32} (hx : x = nI w) (hw : w < 8) (lo hi : Int32) : mm_C l G yX5_know cX5_know 4 (none) (mm_rm 1 23) [.ref (gad G 7), .int x, .int lo, .int hi] S (mm_Qv G (fun S2 => S2 = mR S 8 (sp_kn (S 8) w lo hi))) := by
  refine mm_ofV (own := RX5) (by decide +kernel) rfl (Nat.le_of_ble_eq_true rfl) (ls0 := [(0, .ref (gad G 7)), (1, .int x), (2, .int lo), (3, .int hi)]) rfl ?_
  refine vv_aload_n (pc := 0) 0 dX5_know_0 rfl rfl ?_
  refine vv_iload_n (pc := 1) 1 dX5_know_1 rfl rfl ?_
  refine vv_bipush (pc := 2) (v := 7) dX5_know_2 (by decide) ?_
  refine vv_aload_n (pc := 4) 0 dX5_know_4 rfl rfl ?_
  refine vg_X5_now (pc := 5) mw_F_X5_7 dX5_know_5 ?_
  refine vv_iconst (pc := 8) (v := 2) dX5_know_8 (by decide) ?_
  refine vl_8 (pc := 9) (vp_in_nI (n := 2) (by decide) (by decide)) dX5_know_9 ?_
  refine vc_Vv (pc := 10) (c_X5_book l G _ (by assumption) rfl (by assumption) (by decide) _) mw_M_X5_73 my_X5_book mm_rv_X5 ⟨by decide, by decide⟩ rfl rfl (Nat.le_of_ble_eq_true rfl) dX5_know_10 (fun S10 h10 => ?_)
  refine vv_aload_n (pc := 13) 0 dX5_know_13 rfl rfl ?_
  refine vv_iload_n (pc := 14) 1 dX5_know_14 rfl rfl ?_
  refine vv_bipush (pc := 15) (v := 8) dX5_know_15 (by decide) ?_
  refine vv_iload_n (pc := 17) 2 dX5_know_17 rfl rfl ?_
  refine vc_Vv (pc := 18) (c_X5_book l G _ (by assumption) rfl (by assumption) (by decide) _) mw_M_X5_73 my_X5_book mm_rv_X5 ⟨by decide, by decide⟩ rfl rfl (Nat.le_of_ble_eq_true rfl) dX5_know_18 (fun S18 h18 => ?_)
  refine vv_aload_n (pc := 21) 0 dX5_know_21 rfl rfl ?_
  refine vv_iload_n (pc := 22) 1 dX5_know_22 rfl rfl ?_
  refine vv_bipush (pc := 23) (v := 9) dX5_know_23 (by decide) ?_
  refine vv_iload_n (pc := 25) 3 dX5_know_25 rfl rfl ?_
  refine vc_Vv (pc := 26) (c_X5_book l G _ (by assumption) rfl (by assumption) (by decide) _) mw_M_X5_73 my_X5_book mm_rv_X5 ⟨by decide, by decide⟩ rfl rfl (Nat.le_of_ble_eq_true rfl) dX5_know_26 (fun S26 h26 => ?_)
  refine vr_v (pc := 29) dX5_know_29 ?_
  rw [h26, h18, h10]
  simp only [mR_s, mR_mR]
  rfl
set_option maxRecDepth 100000 in
set_option maxHeartbeats 4000000 in
theorem c_X5_wireAt (l : Launch) (G : gG) (S : Mem) {C p : Nat} {x : Int32} (hws : sp_ws C (S 8)) (hx : x = nI p) (hp : p < 1000) : mm_C l G yX5_wireAt cX5_wireAt 4 (some .int) (mm_rm 1 22) [.ref (gad G 7), .int x] S (mm_Qi G (fun r S2 => S2 = S ∧ r = wat (S 8) p C)) := by
  obtain ⟨hC, hn3, hat, hinj⟩ := id hws
  refine mm_ofV (own := RX5) (by decide +kernel) rfl (Nat.le_of_ble_eq_true rfl) (ls0 := [(0, .ref (gad G 7)), (1, .int x)]) rfl ?_
  refine vv_bipush (pc := 0) (v := (-6)) dX5_wireAt_0 (by decide) ?_
  refine vv_topi (fun x2p2 e2p2 => ?_)
  refine vv_istore_n (pc := 2) (i := 2) (ls' := [(2, .int x2p2), (0, .ref (gad G 7)), (1, .int x)]) dX5_wireAt_2 rfl (by decide) rfl ?_
  refine vv_iconst (pc := 3) (v := 0) dX5_wireAt_3 (by decide) ?_
  refine vv_topi (fun x3p4 e3p4 => ?_)
  refine vv_istore_n (pc := 4) (i := 3) (ls' := [(3, .int x3p4), (2, .int x2p2), (0, .ref (gad G 7)), (1, .int x)]) dX5_wireAt_4 rfl (by decide) rfl ?_
  have lp5 : ∀ (n : Nat) (k : Nat) (x2 x3 : Int32), 9 ≤ n + k → k ≤ C → x3 = nI k → x2 = wat (S 8) p k → mm_V l G RX5 cX5_wireAt 4 (some .int) (mm_rm 1 22) 0 0 (fun _ => True) (fun _ => mm_F G) (mm_Qf G (mm_Qi G (fun r S2 => S2 = S ∧ r = wat (S 8) p C))) S 5 [(0, .ref (gad G 7)), (1, .int x), (2, .int x2), (3, .int x3)] [] := by
    intro n
    induction n with
    | zero =>
      intro k x2 x3 hn hkl e3 e2
      exact absurd hn (by omega)
    | succ n ih =>
      intro k x2 x3 hn hkl e3 e2
      refine vv_iload_n (pc := 5) 3 dX5_wireAt_5 rfl rfl ?_
      refine vv_aload_n (pc := 6) 0 dX5_wireAt_6 rfl rfl ?_
      refine vg_X5_now (pc := 7) mw_F_X5_7 dX5_wireAt_7 ?_
      refine vv_iconst (pc := 10) (v := 3) dX5_wireAt_10 (by decide) ?_
      refine vl_8 (pc := 11) (vp_in_nI (n := 3) (by decide) (by decide)) dX5_wireAt_11 ?_
      rw [show S 8 (Int32.toNatClampNeg 3) = nI C from hn3]
      refine vv_icmp_ge (pc := 12) (tgt := 37) dX5_wireAt_12 (by decide) (fun c12 => ?_) (fun c12 => ?_)
      -- t@12 path L5t
      · refine vv_iload_n (pc := 37) 2 dX5_wireAt_37 rfl rfl ?_
        refine vr_i (pc := 38) dX5_wireAt_38 ?_
        have hkC := sp_geN (by omega) hkl e3 c12
        subst hkC
        exact ⟨rfl, e2⟩
      -- f@12 path L5f
      · have hkC : k < C := sp_ltN (by omega) hkl e3 c12
        have hk8 : k < 8 := by omega
        have hk20 := (hat k hkC).2
        refine vv_aload_n (pc := 15) 0 dX5_wireAt_15 rfl rfl ?_
        refine vv_iload_n (pc := 16) 3 dX5_wireAt_16 rfl rfl ?_
        refine vv_iconst (pc := 17) (v := 0) dX5_wireAt_17 (by decide) ?_
        refine vc_Vi (pc := 18) (c_X5_of l G _ (by assumption) rfl (by assumption) (by decide)) mw_M_X5_47 my_X5_of mm_rv_X5 ⟨by decide, by decide⟩ rfl rfl (Nat.le_of_ble_eq_true rfl) dX5_wireAt_18 (fun r18 S18 h18 => ?_)
        obtain ⟨qS18, h18⟩ := h18
        replace qS18 := qS18.symm
        subst qS18
        refine vv_iload_n (pc := 21) 1 dX5_wireAt_21 rfl rfl ?_
        refine vv_icmp_ne (pc := 22) (tgt := 29) dX5_wireAt_22 (by decide) (fun c22 => ?_) (fun c22 => ?_)
        -- t@22 path L5ft
        · refine vv_iload_n (pc := 29) 2 dX5_wireAt_29 rfl rfl ?_
          refine vv_topi (fun x2p30 e2p30 => ?_)
          refine vv_istore_n (pc := 30) (i := 2) (ls' := [(2, .int x2p30), (0, .ref (gad G 7)), (1, .int x), (3, .int x3)]) dX5_wireAt_30 rfl (by decide) rfl ?_
          rw [h18, (hat k hkC).1, hx] at c22
          have he : x2p30 = wat (S 8) p (k + 1) := by rw [wat, if_neg (fun h => c22 (by rw [h])), e2p30, e2]
          obtain ⟨x3p31, e3p31⟩ : ∃ y : Int32, y = x3 + 1 := ⟨_, rfl⟩
          refine vv_iinc (pc := 31) (q := 3) (v := x3p31) (ls' := [(3, .int x3p31), (2, .int x2p30), (0, .ref (gad G 7)), (1, .int x)]) dX5_wireAt_31 rfl (by rw [e3p31]; rfl) (by decide) rfl ?_
          refine vv_goto (pc := 34) (tgt := 5) dX5_wireAt_34 (by decide) ?_
          refine vv_sub [2, 3, 1, 0] (ls' := [(0, _), (1, _), (2, _), (3, _)]) rfl ?_
          exact ih (k + 1) x2p30 x3p31 (by omega) (by omega) (by rw [e3p31, e3, nI_1]) he
        -- f@22 path L5ff
        · refine vv_iload_n (pc := 25) 3 dX5_wireAt_25 rfl rfl ?_
          refine vv_goto (pc := 26) (tgt := 30) dX5_wireAt_26 (by decide) ?_
          refine vv_topi (fun x2p30 e2p30 => ?_)
          refine vv_istore_n (pc := 30) (i := 2) (ls' := [(2, .int x2p30), (0, .ref (gad G 7)), (1, .int x), (3, .int x3)]) dX5_wireAt_30 rfl (by decide) rfl ?_
          rw [h18, (hat k hkC).1, hx, nI_eq (by omega) (by omega)] at c22
          have he : x2p30 = wat (S 8) p (k + 1) := by rw [wat, if_pos c22, e2p30, e3]
          obtain ⟨x3p31, e3p31⟩ : ∃ y : Int32, y = x3 + 1 := ⟨_, rfl⟩
          refine vv_iinc (pc := 31) (q := 3) (v := x3p31) (ls' := [(3, .int x3p31), (2, .int x2p30), (0, .ref (gad G 7)), (1, .int x)]) dX5_wireAt_31 rfl (by rw [e3p31]; rfl) (by decide) rfl ?_
          refine vv_goto (pc := 34) (tgt := 5) dX5_wireAt_34 (by decide) ?_
          refine vv_sub [2, 3, 1, 0] (ls' := [(0, _), (1, _), (2, _), (3, _)]) rfl ?_
          exact ih (k + 1) x2p30 x3p31 (by omega) (by omega) (by rw [e3p31, e3, nI_1]) he
  refine vv_sub [2, 3, 1, 0] (ls' := [(0, _), (1, _), (2, _), (3, _)]) rfl ?_
  exact lp5 9 0 x2p2 x3p4 (by omega) (Nat.zero_le _) e3p4 e2p2
set_option maxRecDepth 100000 in
set_option maxHeartbeats 4000000 in
theorem c_X5_loads (l : Launch) (G : gG) (S : Mem) : mm_C l G yX5_loads cX5_loads 3 (some .int) (mm_rm 0 0) [.ref (gad G 7)] S (mm_Qi G (fun r S2 => S2 = S ∧ r = sp_sum (S 8) 20)) := by
  refine mm_ofV (own := RX5) (by decide +kernel) rfl (Nat.le_of_ble_eq_true rfl) (ls0 := [(0, .ref (gad G 7))]) rfl ?_
  refine vv_iconst (pc := 0) (v := 0) dX5_loads_0 (by decide) ?_
  refine vv_topi (fun x1p1 e1p1 => ?_)
  refine vv_istore_n (pc := 1) (i := 1) (ls' := [(1, .int x1p1), (0, .ref (gad G 7))]) dX5_loads_1 rfl (by decide) rfl ?_
  refine vv_iconst (pc := 2) (v := 0) dX5_loads_2 (by decide) ?_
  refine vv_topi (fun x2p3 e2p3 => ?_)
  refine vv_istore_n (pc := 3) (i := 2) (ls' := [(2, .int x2p3), (1, .int x1p1), (0, .ref (gad G 7))]) dX5_loads_3 rfl (by decide) rfl ?_
  have lp4 : ∀ (n : Nat) (k : Nat) (x1 x2 : Int32), 21 ≤ n + k → k ≤ 20 → x2 = nI k → x1 = sp_sum (S 8) k → mm_V l G RX5 cX5_loads 3 (some .int) (mm_rm 0 0) 0 0 (fun _ => True) (fun _ => mm_F G) (mm_Qf G (mm_Qi G (fun r S2 => S2 = S ∧ r = sp_sum (S 8) 20))) S 4 [(0, .ref (gad G 7)), (1, .int x1), (2, .int x2)] [] := by
    intro n
    induction n with
    | zero =>
      intro k x1 x2 hn hkl e2 e1
      exact absurd hn (by omega)
    | succ n ih =>
      intro k x1 x2 hn hkl e2 e1
      refine vv_iload_n (pc := 4) 2 dX5_loads_4 rfl rfl ?_
      refine vv_bipush (pc := 5) (v := 20) dX5_loads_5 (by decide) ?_
      refine vv_icmp_ge (pc := 7) (tgt := 28) dX5_loads_7 (by decide) (fun c7 => ?_) (fun c7 => ?_)
      -- t@7 path L4t
      · refine vv_iload_n (pc := 28) 1 dX5_loads_28 rfl rfl ?_
        refine vr_i (pc := 29) dX5_loads_29 ?_
        have hkC := sp_geN (N := 20) (by decide) hkl e2 c7
        subst hkC
        exact ⟨rfl, e1⟩
      -- f@7 path L4f
      · have hk20 : k < 20 := sp_ltN (N := 20) (by decide) hkl e2 c7
        refine vv_iload_n (pc := 10) 1 dX5_loads_10 rfl rfl ?_
        refine vv_aload_n (pc := 11) 0 dX5_loads_11 rfl rfl ?_
        refine vg_X5_now (pc := 12) mw_F_X5_7 dX5_loads_12 ?_
        refine vv_bipush (pc := 15) (v := 10) dX5_loads_15 (by decide) ?_
        refine vv_iload_n (pc := 17) 2 dX5_loads_17 rfl rfl ?_
        refine vv_iadd (pc := 18) dX5_loads_18 ?_
        rw [show (10 : Int32) + x2 = nI (10 + k) from by rw [e2]; exact nI_add 10 k]
        refine vl_8 (pc := 19) (vp_in_nI (by omega) (by decide)) dX5_loads_19 ?_
        rw [cl_n (by omega)]
        refine vv_iadd (pc := 20) dX5_loads_20 ?_
        refine vv_topi (fun x1p21 e1p21 => ?_)
        refine vv_istore_n (pc := 21) (i := 1) (ls' := [(1, .int x1p21), (0, .ref (gad G 7)), (2, .int x2)]) dX5_loads_21 rfl (by decide) rfl ?_
        obtain ⟨x2p22, e2p22⟩ : ∃ y : Int32, y = x2 + 1 := ⟨_, rfl⟩
        refine vv_iinc (pc := 22) (q := 2) (v := x2p22) (ls' := [(2, .int x2p22), (1, .int x1p21), (0, .ref (gad G 7))]) dX5_loads_22 rfl (by rw [e2p22]; rfl) (by decide) rfl ?_
        refine vv_goto (pc := 25) (tgt := 4) dX5_loads_25 (by decide) ?_
        refine vv_sub [2, 1, 0] (ls' := [(0, _), (1, _), (2, _)]) rfl ?_
        exact ih (k + 1) x1p21 x2p22 (by omega) (by omega) (by rw [e2p22, e2, nI_1]) (by rw [e1p21, e1, sp_sum])
  refine vv_sub [2, 1, 0] (ls' := [(0, _), (1, _), (2, _)]) rfl ?_
  exact lp4 21 0 x1p1 x2p3 (by omega) (by omega) e2p3 e1p1
set_option maxRecDepth 100000 in
set_option maxHeartbeats 4000000 in
theorem c_X5_burst (l : Launch) (G : gG) (S : Mem) {C : Nat} (hws : sp_ws C (S 8)) : mm_C l G yX5_burst cX5_burst 5 (some .int) (mm_rm 3 75) [.ref (gad G 7)] S (mm_Qi G (fun r S2 => r = enc (sp_bu (S 8) C) ∧ ∃ T, (∀ w, w < C → T w = sp_tk (S 8) 5 C w) ∧ S2 = mR S 14 T)) := by
  obtain ⟨hC, hn3, hat, hinj⟩ := id hws
  refine mm_ofV (own := RX5) (by decide +kernel) rfl (Nat.le_of_ble_eq_true rfl) (ls0 := [(0, .ref (gad G 7))]) rfl ?_
  refine vv_aload_n (pc := 0) 0 dX5_burst_0 rfl rfl ?_
  refine vv_aload_n (pc := 1) 0 dX5_burst_1 rfl rfl ?_
  refine vv_iconst (pc := 2) (v := 0) dX5_burst_2 (by decide) ?_
  refine vc_Vi (pc := 3) (c_X5_wholeBy l G _ hC hn3 (Or.inl ⟨rfl, rfl⟩)) mw_M_X5_61 my_X5_wholeBy mm_rv_X5 ⟨by decide, by decide⟩ rfl rfl (Nat.le_of_ble_eq_true rfl) dX5_burst_3 (fun r3 S3 h3 => ?_)
  obtain ⟨qS3, h3⟩ := h3
  replace qS3 := qS3.symm
  subst qS3
  refine vc_Vv (pc := 6) (c_X5_layTasks l G _ (C := C) (g := 5) hws (by rw [h3]; exact msk_b hC)) mw_M_X5_65 my_X5_layTasks mm_rv_X5 ⟨by decide, by decide⟩ rfl rfl (Nat.le_of_ble_eq_true rfl) dX5_burst_6 (fun S6 h6 => ?_)
  obtain ⟨T, hT, eS6⟩ := h6
  have h8 : S6 8 = S 8 := by rw [eS6]; exact mR_o S T (by decide)
  have h14 : S6 14 = T := by rw [eS6, mR_s]
  refine vv_bipush (pc := 9) (v := (-6)) dX5_burst_9 (by decide) ?_
  refine vv_topi (fun x1p11 e1p11 => ?_)
  refine vv_istore_n (pc := 11) (i := 1) (ls' := [(1, .int x1p11), (0, .ref (gad G 7))]) dX5_burst_11 rfl (by decide) rfl ?_
  refine vv_iconst (pc := 12) (v := 0) dX5_burst_12 (by decide) ?_
  refine vv_topi (fun x2p13 e2p13 => ?_)
  refine vv_istore_n (pc := 13) (i := 2) (ls' := [(2, .int x2p13), (1, .int x1p11), (0, .ref (gad G 7))]) dX5_burst_13 rfl (by decide) rfl ?_
  refine vv_iconst (pc := 14) (v := 0) dX5_burst_14 (by decide) ?_
  refine vv_topi (fun x3p15 e3p15 => ?_)
  refine vv_istore_n (pc := 15) (i := 3) (ls' := [(3, .int x3p15), (2, .int x2p13), (1, .int x1p11), (0, .ref (gad G 7))]) dX5_burst_15 rfl (by decide) rfl ?_
  have lp16 : ∀ (n : Nat) (k : Nat) (x1 x2 x3 : Int32), 9 ≤ n + k → k ≤ C → x3 = nI k → x1 = enc (sp_bs (S 8) C k).1 → x2 = (sp_bs (S 8) C k).2 → mm_V l G RX5 cX5_burst 5 (some .int) (mm_rm 3 75) 0 0 (fun _ => True) (fun _ => mm_F G) (mm_Qf G (mm_Qi G (fun r S2 => r = enc (sp_bu (S 8) C) ∧ ∃ T, (∀ w, w < C → T w = sp_tk (S 8) 5 C w) ∧ S2 = mR S 14 T))) S6 16 [(0, .ref (gad G 7)), (1, .int x1), (2, .int x2), (3, .int x3)] [] := by
    intro n
    induction n with
    | zero =>
      intro k x1 x2 x3 hn hkl e3 e1 e2
      exact absurd hn (by omega)
    | succ n ih =>
      intro k x1 x2 x3 hn hkl e3 e1 e2
      refine vv_iload_n (pc := 16) 3 dX5_burst_16 rfl rfl ?_
      refine vv_aload_n (pc := 17) 0 dX5_burst_17 rfl rfl ?_
      refine vg_X5_now (pc := 18) mw_F_X5_7 dX5_burst_18 ?_
      refine vv_iconst (pc := 21) (v := 3) dX5_burst_21 (by decide) ?_
      refine vl_8 (pc := 22) (vp_in_nI (n := 3) (by decide) (by decide)) dX5_burst_22 ?_
      rw [show S6 8 (Int32.toNatClampNeg 3) = nI C from by rw [h8]; exact hn3]
      refine vv_icmp_ge (pc := 23) (tgt := 70) dX5_burst_23 (by decide) (fun c23 => ?_) (fun c23 => ?_)
      -- t@23 path L16t
      · refine vv_iload_n (pc := 70) 1 dX5_burst_70 rfl rfl ?_
        refine vr_i (pc := 71) dX5_burst_71 ?_
        have hkC := sp_geN (by omega) hkl e3 c23
        subst hkC
        exact ⟨e1, T, hT, eS6⟩
      -- f@23 path L16f
      · have hkC : k < C := sp_ltN (by omega) hkl e3 c23
        have hk8 : k < 8 := by omega
        refine vv_aload_n (pc := 26) 0 dX5_burst_26 rfl rfl ?_
        refine vv_iload_n (pc := 27) 3 dX5_burst_27 rfl rfl ?_
        refine vc_Vi (pc := 28) (c_X5_isWhole l G _ e3 hk8) mw_M_X5_69 my_X5_isWhole mm_rv_X5 ⟨by decide, by decide⟩ rfl rfl (Nat.le_of_ble_eq_true rfl) dX5_burst_28 (fun r28 S28 h28 => ?_)
        obtain ⟨qS28, h28⟩ := h28
        replace qS28 := qS28.symm
        subst qS28
        refine vv_if_eq (pc := 31) (tgt := 50) dX5_burst_31 (by decide) (fun c31 => ?_) (fun c31 => ?_)
        -- t@31 path L16ft
        · refine vv_iconst (pc := 50) (v := 0) dX5_burst_50 (by decide) ?_
          refine vv_topi (fun x4p51 e4p51 => ?_)
          refine vv_istore (pc := 51) (i := 4) (ls' := [(4, .int x4p51), (0, .ref (gad G 7)), (1, .int x1), (2, .int x2), (3, .int x3)]) dX5_burst_51 (by decide) rfl ?_
          rw [h28, i01, h8] at c31
          have ho : x4p51 = sp_ov (S 8) C k := by rw [e4p51, sp_ov, if_neg c31]
          refine vv_iload (pc := 53) 0 dX5_burst_53 rfl ?_
          refine vv_iload_n (pc := 55) 3 dX5_burst_55 rfl rfl ?_
          refine vv_icmp_le (pc := 56) (tgt := 64) dX5_burst_56 (by decide) (fun c56 => ?_) (fun c56 => ?_)
          -- t@56 path L16ftt
          · rw [ho, e2] at c56
            have he1 : x1 = enc (sp_bs (S 8) C (k + 1)).1 := by rw [sp_bs, if_neg (fun h => absurd c56 (Int32.not_le.mpr h)), e1]
            have he2 : x2 = (sp_bs (S 8) C (k + 1)).2 := by rw [sp_bs, if_neg (fun h => absurd c56 (Int32.not_le.mpr h)), e2]
            obtain ⟨x3p64, e3p64⟩ : ∃ y : Int32, y = x3 + 1 := ⟨_, rfl⟩
            refine vv_iinc (pc := 64) (q := 4) (v := x3p64) (ls' := [(3, .int x3p64), (4, .int x4p51), (0, .ref (gad G 7)), (1, .int x1), (2, .int x2)]) dX5_burst_64 rfl (by rw [e3p64]; rfl) (by decide) rfl ?_
            refine vv_goto (pc := 67) (tgt := 16) dX5_burst_67 (by decide) ?_
            refine vv_sub [2, 3, 4, 0] (ls' := [(0, _), (1, _), (2, _), (3, _)]) rfl ?_
            exact ih (k + 1) _ _ x3p64 (by omega) (by omega) (by rw [e3p64, e3, nI_1]) he1 he2
          -- f@56 path L16ftf
          · refine vv_iload_n (pc := 59) 4 dX5_burst_59 rfl rfl ?_
            refine vv_topi (fun x1p60 e1p60 => ?_)
            refine vv_istore_n (pc := 60) (i := 1) (ls' := [(1, .int x1p60), (4, .int x4p51), (0, .ref (gad G 7)), (2, .int x2), (3, .int x3)]) dX5_burst_60 rfl (by decide) rfl ?_
            refine vv_iload (pc := 61) 1 dX5_burst_61 rfl ?_
            refine vv_topi (fun x2p63 e2p63 => ?_)
            refine vv_istore_n (pc := 63) (i := 2) (ls' := [(2, .int x2p63), (1, .int x1p60), (4, .int x4p51), (0, .ref (gad G 7)), (3, .int x3)]) dX5_burst_63 rfl (by decide) rfl ?_
            rw [ho, e2] at c56
            have he1 : x1p60 = enc (sp_bs (S 8) C (k + 1)).1 := by rw [sp_bs, if_pos (Int32.not_le.mp c56), e1p60, e3, enc_n (by dsimp only; omega)]
            have he2 : x2p63 = (sp_bs (S 8) C (k + 1)).2 := by rw [sp_bs, if_pos (Int32.not_le.mp c56), e2p63, ho]
            obtain ⟨x3p64, e3p64⟩ : ∃ y : Int32, y = x3 + 1 := ⟨_, rfl⟩
            refine vv_iinc (pc := 64) (q := 4) (v := x3p64) (ls' := [(3, .int x3p64), (2, .int x2p63), (1, .int x1p60), (4, .int x4p51), (0, .ref (gad G 7))]) dX5_burst_64 rfl (by rw [e3p64]; rfl) (by decide) rfl ?_
            refine vv_goto (pc := 67) (tgt := 16) dX5_burst_67 (by decide) ?_
            refine vv_sub [4, 2, 1, 0] (ls' := [(0, _), (1, _), (2, _), (3, _)]) rfl ?_
            exact ih (k + 1) _ _ x3p64 (by omega) (by omega) (by rw [e3p64, e3, nI_1]) he1 he2
        -- f@31 path L16ff
        · rw [h28, i01, h8] at c31
          have h50 := Classical.not_not.mp c31
          refine vv_aload_n (pc := 34) 0 dX5_burst_34 rfl rfl ?_
          refine vg_X5_task (pc := 35) mw_F_X5_29 dX5_burst_35 ?_
          refine vv_iload_n (pc := 38) 3 dX5_burst_38 rfl rfl ?_
          refine vl_14 (pc := 39) (by rw [e3]; exact vp_8 hk8) dX5_burst_39 ?_
          refine vv_aload_n (pc := 40) 0 dX5_burst_40 rfl rfl ?_
          refine vv_iload_n (pc := 41) 3 dX5_burst_41 rfl rfl ?_
          refine vv_iconst (pc := 42) (v := 3) dX5_burst_42 (by decide) ?_
          refine vc_Vi (pc := 43) (c_X5_of l G _ e3 rfl hk8 (by decide)) mw_M_X5_47 my_X5_of mm_rv_X5 ⟨by decide, by decide⟩ rfl rfl (Nat.le_of_ble_eq_true rfl) dX5_burst_43 (fun r43 S43 h43 => ?_)
          obtain ⟨qS43, h43⟩ := h43
          replace qS43 := qS43.symm
          subst qS43
          refine vv_isub (pc := 46) dX5_burst_46 ?_
          refine vv_goto (pc := 47) (tgt := 51) dX5_burst_47 (by decide) ?_
          refine vv_topi (fun x4p51 e4p51 => ?_)
          refine vv_istore (pc := 51) (i := 4) (ls' := [(4, .int x4p51), (0, .ref (gad G 7)), (1, .int x1), (2, .int x2), (3, .int x3)]) dX5_burst_51 (by decide) rfl ?_
          rw [h43, h8, h14, e3, cl_n (by omega), hT k hkC] at e4p51
          have ho : x4p51 = sp_ov (S 8) C k := by rw [e4p51, sp_ov, if_pos h50]
          refine vv_iload (pc := 53) 0 dX5_burst_53 rfl ?_
          refine vv_iload_n (pc := 55) 3 dX5_burst_55 rfl rfl ?_
          refine vv_icmp_le (pc := 56) (tgt := 64) dX5_burst_56 (by decide) (fun c56 => ?_) (fun c56 => ?_)
          -- t@56 path L16fft
          · rw [ho, e2] at c56
            have he1 : x1 = enc (sp_bs (S 8) C (k + 1)).1 := by rw [sp_bs, if_neg (fun h => absurd c56 (Int32.not_le.mpr h)), e1]
            have he2 : x2 = (sp_bs (S 8) C (k + 1)).2 := by rw [sp_bs, if_neg (fun h => absurd c56 (Int32.not_le.mpr h)), e2]
            obtain ⟨x3p64, e3p64⟩ : ∃ y : Int32, y = x3 + 1 := ⟨_, rfl⟩
            refine vv_iinc (pc := 64) (q := 4) (v := x3p64) (ls' := [(3, .int x3p64), (4, .int x4p51), (0, .ref (gad G 7)), (1, .int x1), (2, .int x2)]) dX5_burst_64 rfl (by rw [e3p64]; rfl) (by decide) rfl ?_
            refine vv_goto (pc := 67) (tgt := 16) dX5_burst_67 (by decide) ?_
            refine vv_sub [2, 3, 4, 0] (ls' := [(0, _), (1, _), (2, _), (3, _)]) rfl ?_
            exact ih (k + 1) _ _ x3p64 (by omega) (by omega) (by rw [e3p64, e3, nI_1]) he1 he2
          -- f@56 path L16fff
          · refine vv_iload_n (pc := 59) 4 dX5_burst_59 rfl rfl ?_
            refine vv_topi (fun x1p60 e1p60 => ?_)
            refine vv_istore_n (pc := 60) (i := 1) (ls' := [(1, .int x1p60), (4, .int x4p51), (0, .ref (gad G 7)), (2, .int x2), (3, .int x3)]) dX5_burst_60 rfl (by decide) rfl ?_
            refine vv_iload (pc := 61) 1 dX5_burst_61 rfl ?_
            refine vv_topi (fun x2p63 e2p63 => ?_)
            refine vv_istore_n (pc := 63) (i := 2) (ls' := [(2, .int x2p63), (1, .int x1p60), (4, .int x4p51), (0, .ref (gad G 7)), (3, .int x3)]) dX5_burst_63 rfl (by decide) rfl ?_
            rw [ho, e2] at c56
            have he1 : x1p60 = enc (sp_bs (S 8) C (k + 1)).1 := by rw [sp_bs, if_pos (Int32.not_le.mp c56), e1p60, e3, enc_n (by dsimp only; omega)]
            have he2 : x2p63 = (sp_bs (S 8) C (k + 1)).2 := by rw [sp_bs, if_pos (Int32.not_le.mp c56), e2p63, ho]
            obtain ⟨x3p64, e3p64⟩ : ∃ y : Int32, y = x3 + 1 := ⟨_, rfl⟩
            refine vv_iinc (pc := 64) (q := 4) (v := x3p64) (ls' := [(3, .int x3p64), (2, .int x2p63), (1, .int x1p60), (4, .int x4p51), (0, .ref (gad G 7))]) dX5_burst_64 rfl (by rw [e3p64]; rfl) (by decide) rfl ?_
            refine vv_goto (pc := 67) (tgt := 16) dX5_burst_67 (by decide) ?_
            refine vv_sub [4, 2, 1, 0] (ls' := [(0, _), (1, _), (2, _), (3, _)]) rfl ?_
            exact ih (k + 1) _ _ x3p64 (by omega) (by omega) (by rw [e3p64, e3, nI_1]) he1 he2
  refine vv_sub [3, 2, 1, 0] (ls' := [(0, _), (1, _), (2, _), (3, _)]) rfl ?_
  exact lp16 9 0 x1p11 x2p13 x3p15 (by omega) (Nat.zero_le _) e3p15 e1p11 e2p13
