set_option maxRecDepth 100000 in
set_option maxHeartbeats 4000000 in
theorem c_J6_bitCount_0f7a4 (l : Launch) (G : gG) (S : Mem) (x : Int32) : mm_C l G yJ6_bitCount_0f7a4 cJ6_bitCount_0f7a4 1 (some .int) (mm_rm 0 0) [.int x] S (mm_Qi G (fun r S2 => S2 = S ∧ r = sp_bc x)) := by
  refine mm_ofV (own := RJ6) (by decide +kernel) rfl (Nat.le_of_ble_eq_true rfl) (ls0 := [(0, .int x)]) rfl ?_
  refine vv_iload_n (pc := 0) 0 dJ6_bitCount_0f7a4_0 rfl rfl ?_
  refine vv_iload_n (pc := 1) 0 dJ6_bitCount_0f7a4_1 rfl rfl ?_
  refine vv_iconst (pc := 2) (v := 1) dJ6_bitCount_0f7a4_2 (by decide) ?_
  refine vv_iushr (pc := 3) dJ6_bitCount_0f7a4_3 rfl ?_
  refine vv_ldcw (pc := 4) mw_K_J6_265 dJ6_bitCount_0f7a4_4 ?_
  refine vv_iand (pc := 7) dJ6_bitCount_0f7a4_7 ?_
  refine vv_isub (pc := 8) dJ6_bitCount_0f7a4_8 ?_
  refine vv_topi (fun x0p9 e0p9 => ?_)
  refine vv_istore_n (pc := 9) (i := 0) (ls' := [(0, .int x0p9)]) dJ6_bitCount_0f7a4_9 rfl (by decide) rfl ?_
  refine vv_iload_n (pc := 10) 0 dJ6_bitCount_0f7a4_10 rfl rfl ?_
  refine vv_ldcw (pc := 11) mw_K_J6_266 dJ6_bitCount_0f7a4_11 ?_
  refine vv_iand (pc := 14) dJ6_bitCount_0f7a4_14 ?_
  refine vv_iload_n (pc := 15) 0 dJ6_bitCount_0f7a4_15 rfl rfl ?_
  refine vv_iconst (pc := 16) (v := 2) dJ6_bitCount_0f7a4_16 (by decide) ?_
  refine vv_iushr (pc := 17) dJ6_bitCount_0f7a4_17 rfl ?_
  refine vv_ldcw (pc := 18) mw_K_J6_266 dJ6_bitCount_0f7a4_18 ?_
  refine vv_iand (pc := 21) dJ6_bitCount_0f7a4_21 ?_
  refine vv_iadd (pc := 22) dJ6_bitCount_0f7a4_22 ?_
  refine vv_topi (fun x0p23 e0p23 => ?_)
  refine vv_istore_n (pc := 23) (i := 0) (ls' := [(0, .int x0p23)]) dJ6_bitCount_0f7a4_23 rfl (by decide) rfl ?_
  refine vv_iload_n (pc := 24) 0 dJ6_bitCount_0f7a4_24 rfl rfl ?_
  refine vv_iload_n (pc := 25) 0 dJ6_bitCount_0f7a4_25 rfl rfl ?_
  refine vv_iconst (pc := 26) (v := 4) dJ6_bitCount_0f7a4_26 (by decide) ?_
  refine vv_iushr (pc := 27) dJ6_bitCount_0f7a4_27 rfl ?_
  refine vv_iadd (pc := 28) dJ6_bitCount_0f7a4_28 ?_
  refine vv_ldcw (pc := 29) mw_K_J6_267 dJ6_bitCount_0f7a4_29 ?_
  refine vv_iand (pc := 32) dJ6_bitCount_0f7a4_32 ?_
  refine vv_topi (fun x0p33 e0p33 => ?_)
  refine vv_istore_n (pc := 33) (i := 0) (ls' := [(0, .int x0p33)]) dJ6_bitCount_0f7a4_33 rfl (by decide) rfl ?_
  refine vv_iload_n (pc := 34) 0 dJ6_bitCount_0f7a4_34 rfl rfl ?_
  refine vv_iload_n (pc := 35) 0 dJ6_bitCount_0f7a4_35 rfl rfl ?_
  refine vv_bipush (pc := 36) (v := 8) dJ6_bitCount_0f7a4_36 (by decide) ?_
  refine vv_iushr (pc := 38) dJ6_bitCount_0f7a4_38 rfl ?_
  refine vv_iadd (pc := 39) dJ6_bitCount_0f7a4_39 ?_
  refine vv_topi (fun x0p40 e0p40 => ?_)
  refine vv_istore_n (pc := 40) (i := 0) (ls' := [(0, .int x0p40)]) dJ6_bitCount_0f7a4_40 rfl (by decide) rfl ?_
  refine vv_iload_n (pc := 41) 0 dJ6_bitCount_0f7a4_41 rfl rfl ?_
  refine vv_iload_n (pc := 42) 0 dJ6_bitCount_0f7a4_42 rfl rfl ?_
  refine vv_bipush (pc := 43) (v := 16) dJ6_bitCount_0f7a4_43 (by decide) ?_
  refine vv_iushr (pc := 45) dJ6_bitCount_0f7a4_45 rfl ?_
  refine vv_iadd (pc := 46) dJ6_bitCount_0f7a4_46 ?_
  refine vv_topi (fun x0p47 e0p47 => ?_)
  refine vv_istore_n (pc := 47) (i := 0) (ls' := [(0, .int x0p47)]) dJ6_bitCount_0f7a4_47 rfl (by decide) rfl ?_
  refine vv_iload_n (pc := 48) 0 dJ6_bitCount_0f7a4_48 rfl rfl ?_
  refine vv_bipush (pc := 49) (v := 63) dJ6_bitCount_0f7a4_49 (by decide) ?_
  refine vv_iand (pc := 51) dJ6_bitCount_0f7a4_51 ?_
  refine vr_i (pc := 52) dJ6_bitCount_0f7a4_52 ?_
  refine ⟨rfl, ?_⟩
  subst e0p9 e0p23 e0p33 e0p40 e0p47
  rfl
set_option maxRecDepth 100000 in
set_option maxHeartbeats 4000000 in
theorem c_X0_goTo (l : Launch) (G : gG) {C b : Nat} {z : Nat → Int32} (hb : b < 11) (S : Mem) (hwf : sp_wf C z) (hr : rb C S b z) (ht : rt_ C S b z) (x : Int32) : mm_C l G yX0_goTo cX0_goTo 3 (some .int) (mm_rm 1 23) [.ref (gad G (mm_B b)), .int x] S (mm_Qi G (fun r S2 => sp_res C b S S2 r (op_walk z x))) := by
  obtain ⟨g1, g2, g3, g4, g5, g6, g7, g8, g9⟩ := id hr
  have hw := hwf.1
  have hC := hw.1
  refine mm_ofV (own := RX0) (by decide +kernel) rfl (Nat.le_of_ble_eq_true rfl) (ls0 := [(0, .ref (gad G (mm_B b))), (1, .int x)]) rfl ?_
  refine vv_iload_n (pc := 0) 1 dX0_goTo_0 rfl rfl ?_
  refine vv_iconst (pc := 1) (v := 0) dX0_goTo_1 (by decide) ?_
  refine vv_bipush (pc := 2) (v := 19) dX0_goTo_2 (by decide) ?_
  refine vc_Ni (pc := 4) (c_X4_within l G _ _ _ _) (host := RX4) (by decide +kernel) my_X4_within ⟨by decide, by decide⟩ rfl rfl (Nat.le_of_ble_eq_true rfl) dX0_goTo_4 (fun r4 S4 h4 => ?_)
  obtain ⟨qS4, h4⟩ := h4
  replace qS4 := qS4.symm
  subst qS4
  refine vv_if_ne (pc := 7) (tgt := 12) dX0_goTo_7 (by decide) (fun c7 => ?_) (fun c7 => ?_)
  -- t@7 path t
  · refine vv_iload_n (pc := 12) 1 dX0_goTo_12 rfl rfl ?_
    refine vv_aload_n (pc := 13) 0 dX0_goTo_13 rfl rfl ?_
    refine vg_X0_place (pc := 14) (by assumption) mw_F_X0_48 dX0_goTo_14 ?_
    refine vv_isub (pc := 17) dX0_goTo_17 ?_
    refine vv_abs (pc := 18) mw_M_X0_90 mw_T_J9_abs_0f7a4 mw_C_J9_abs_0f7a4 (Nat.le_of_ble_eq_true rfl) (Nat.le_of_ble_eq_true rfl) dX0_goTo_18 ?_
    refine vv_topi (fun x2p21 e2p21 => ?_)
    refine vv_istore_n (pc := 21) (i := 2) (ls' := [(2, .int x2p21), (0, .ref (gad G (mm_B b))), (1, .int x)]) dX0_goTo_21 rfl (by decide) rfl ?_
    refine vv_aload_n (pc := 22) 1 dX0_goTo_22 rfl rfl ?_
    refine vv_iload_n (pc := 23) 2 dX0_goTo_23 rfl rfl ?_
    refine vp_X0_place (pc := 24) (by assumption) mw_F_X0_48 dX0_goTo_24 ?_
    refine vv_aload_n (pc := 27) 1 dX0_goTo_27 rfl rfl ?_
    refine vv_dup (pc := 28) dX0_goTo_28 rfl ?_
    refine vg_X0_walked (pc := 29) (by assumption) mw_F_X0_51 dX0_goTo_29 ?_
    refine vv_iload_n (pc := 32) 0 dX0_goTo_32 rfl rfl ?_
    refine vv_iadd (pc := 33) dX0_goTo_33 ?_
    refine vp_X0_walked (pc := 34) (by assumption) mw_F_X0_51 dX0_goTo_34 ?_
    refine vv_iload_n (pc := 37) 0 dX0_goTo_37 rfl rfl ?_
    refine vr_i (pc := 38) dX0_goTo_38 ?_
    unfold sp_res op_walk
    rw [← h4, if_neg c7]
    have e2 : x2p21 = sp_far x (z 4) := by rw [e2p21, g5]; rfl
    have hr1 := rb_hd (x := x) hr hC 4 7 (by omega)
    have ht1 := rt_hd (b := b) (x := x) ht hC 4 7 (by omega)
    have e3 : mm_wr S (mm_B b) 7 x (mm_B b) 8 + x2p21 = z 5 + sp_far x (z 4) := by rw [mm_wr_n S x (Or.inr (by decide)), g6, e2]
    rw [e3]
    exact ⟨e2, rb_hd hr1 hC 5 8 (by omega), rt_hd ht1 hC 5 8 (by omega), fr_trans fr_B fr_B⟩
  -- f@7 path f
  · refine vv_iconst (pc := 10) (v := (-1)) dX0_goTo_10 (by decide) ?_
    refine vr_i (pc := 11) dX0_goTo_11 ?_
    exact ⟨by unfold op_walk; rw [← h4, if_pos c7], by unfold op_walk; rw [← h4, if_pos c7]; exact hr, by unfold op_walk; rw [← h4, if_pos c7]; exact ht, fr_refl b S⟩
set_option maxRecDepth 100000 in
set_option maxHeartbeats 4000000 in
theorem c_X0_changeSetting (l : Launch) (G : gG) {C b : Nat} {z : Nat → Int32} (hb : b < 11) (S : Mem) (hwf : sp_wf C z) (hr : rb C S b z) (ht : rt_ C S b z) (x v : Int32) : mm_C l G yX0_changeSetting cX0_changeSetting 4 (some .int) (mm_rm 1 22) [.ref (gad G (mm_B b)), .int x, .int v] S (mm_Qi G (fun r S2 => sp_res C b S S2 r (op_set z x v))) := by
  obtain ⟨g1, g2, g3, g4, g5, g6, g7, g8, g9⟩ := id hr
  have hw := hwf.1
  have hC := hw.1
  refine mm_ofV (own := RX0) (by decide +kernel) rfl (Nat.le_of_ble_eq_true rfl) (ls0 := [(0, .ref (gad G (mm_B b))), (1, .int x), (2, .int v)]) rfl ?_
  refine vv_iload_n (pc := 0) 2 dX0_changeSetting_0 rfl rfl ?_
  refine vv_iconst (pc := 1) (v := 0) dX0_changeSetting_1 (by decide) ?_
  refine vv_bipush (pc := 2) (v := 100) dX0_changeSetting_2 (by decide) ?_
  refine vc_Ni (pc := 4) (c_X4_within l G _ _ _ _) (host := RX4) (by decide +kernel) my_X4_within ⟨by decide, by decide⟩ rfl rfl (Nat.le_of_ble_eq_true rfl) dX0_changeSetting_4 (fun r4 S4 h4 => ?_)
  obtain ⟨qS4, h4⟩ := h4
  replace qS4 := qS4.symm
  subst qS4
  refine vv_if_ne (pc := 7) (tgt := 13) dX0_changeSetting_7 (by decide) (fun c7 => ?_) (fun c7 => ?_)
  -- t@7 path t
  · refine vv_iload_n (pc := 13) 1 dX0_changeSetting_13 rfl rfl ?_
    refine vv_if_ne (pc := 14) (tgt := 29) dX0_changeSetting_14 (by decide) (fun c14 => ?_) (fun c14 => ?_)
    -- t@14 path tt
    · refine vv_iload_n (pc := 29) 1 dX0_changeSetting_29 rfl rfl ?_
      refine vv_iconst (pc := 30) (v := 1) dX0_changeSetting_30 (by decide) ?_
      refine vv_icmp_ne (pc := 31) (tgt := 46) dX0_changeSetting_31 (by decide) (fun c31 => ?_) (fun c31 => ?_)
      -- t@31 path ttt
      · refine vv_bipush (pc := 46) (v := (-2)) dX0_changeSetting_46 (by decide) ?_
        refine vr_i (pc := 48) dX0_changeSetting_48 ?_
        unfold sp_res op_set
        rw [← h4, if_neg c7, if_neg c14, if_neg c31]
        exact ⟨rfl, hr, ht, fr_refl b S⟩
      -- f@31 path ttf
      · refine vv_aload_n (pc := 34) 0 dX0_changeSetting_34 rfl rfl ?_
        refine vg_X0_spare (pc := 35) (by assumption) mw_F_X0_29 dX0_changeSetting_35 ?_
        refine vv_topi (fun x3p38 e3p38 => ?_)
        refine vv_istore_n (pc := 38) (i := 3) (ls' := [(3, .int x3p38), (0, .ref (gad G (mm_B b))), (1, .int x), (2, .int v)]) dX0_changeSetting_38 rfl (by decide) rfl ?_
        refine vv_aload_n (pc := 39) 1 dX0_changeSetting_39 rfl rfl ?_
        refine vv_iload_n (pc := 40) 3 dX0_changeSetting_40 rfl rfl ?_
        refine vp_X0_spare (pc := 41) (by assumption) mw_F_X0_29 dX0_changeSetting_41 ?_
        refine vv_iload_n (pc := 44) 0 dX0_changeSetting_44 rfl rfl ?_
        refine vr_i (pc := 45) dX0_changeSetting_45 ?_
        unfold sp_res op_set
        rw [← h4, if_neg c7, if_neg c14, if_pos c31]
        exact ⟨e3p38.trans g3, rb_hd hr hC 1 5 (by omega), rt_hd ht hC 1 5 (by omega), fr_B⟩
    -- f@14 path tf
    · refine vv_aload_n (pc := 17) 0 dX0_changeSetting_17 rfl rfl ?_
      refine vg_X0_creep (pc := 18) (by assumption) mw_F_X0_25 dX0_changeSetting_18 ?_
      refine vv_topi (fun x3p21 e3p21 => ?_)
      refine vv_istore_n (pc := 21) (i := 3) (ls' := [(3, .int x3p21), (0, .ref (gad G (mm_B b))), (1, .int x), (2, .int v)]) dX0_changeSetting_21 rfl (by decide) rfl ?_
      refine vv_aload_n (pc := 22) 1 dX0_changeSetting_22 rfl rfl ?_
      refine vv_iload_n (pc := 23) 3 dX0_changeSetting_23 rfl rfl ?_
      refine vp_X0_creep (pc := 24) (by assumption) mw_F_X0_25 dX0_changeSetting_24 ?_
      refine vv_iload_n (pc := 27) 0 dX0_changeSetting_27 rfl rfl ?_
      refine vr_i (pc := 28) dX0_changeSetting_28 ?_
      unfold sp_res op_set
      rw [← h4, if_neg c7, if_pos c14]
      exact ⟨e3p21.trans g2, rb_hd hr hC 0 4 (by omega), rt_hd ht hC 0 4 (by omega), fr_B⟩
  -- f@7 path f
  · refine vv_bipush (pc := 10) (v := (-2)) dX0_changeSetting_10 (by decide) ?_
    refine vr_i (pc := 12) dX0_changeSetting_12 ?_
    unfold sp_res op_set
    rw [← h4, if_pos c7]
    exact ⟨rfl, hr, ht, fr_refl b S⟩
set_option maxRecDepth 100000 in
set_option maxHeartbeats 4000000 in
theorem c_X0_changeLoad (l : Launch) (G : gG) {C b : Nat} {z : Nat → Int32} (hb : b < 11) (S : Mem) (hwf : sp_wf C z) (hr : rb C S b z) (ht : rt_ C S b z) (x v : Int32) : mm_C l G yX0_changeLoad cX0_changeLoad 4 (some .int) (mm_rm 3 72) [.ref (gad G (mm_B b)), .int x, .int v] S (mm_Qi G (fun r S2 => sp_res C b S S2 r (op_load C z x v))) := by
  obtain ⟨g1, g2, g3, g4, g5, g6, g7, g8, g9⟩ := id hr
  have hw := hwf.1
  have hC := hw.1
  refine mm_ofV (own := RX0) (by decide +kernel) rfl (Nat.le_of_ble_eq_true rfl) (ls0 := [(0, .ref (gad G (mm_B b))), (1, .int x), (2, .int v)]) rfl ?_
  refine vv_iload_n (pc := 0) 1 dX0_changeLoad_0 rfl rfl ?_
  refine vv_iconst (pc := 1) (v := 0) dX0_changeLoad_1 (by decide) ?_
  refine vv_bipush (pc := 2) (v := 19) dX0_changeLoad_2 (by decide) ?_
  refine vc_Ni (pc := 4) (c_X4_within l G _ _ _ _) (host := RX4) (by decide +kernel) my_X4_within ⟨by decide, by decide⟩ rfl rfl (Nat.le_of_ble_eq_true rfl) dX0_changeLoad_4 (fun r4 S4 h4 => ?_)
  obtain ⟨qS4, h4⟩ := h4
  replace qS4 := qS4.symm
  subst qS4
  refine vv_if_ne (pc := 7) (tgt := 12) dX0_changeLoad_7 (by decide) (fun c7 => ?_) (fun c7 => ?_)
  -- t@7 path t
  · refine vv_iload_n (pc := 12) 2 dX0_changeLoad_12 rfl rfl ?_
    refine vv_iconst (pc := 13) (v := 0) dX0_changeLoad_13 (by decide) ?_
    refine vv_sipush (pc := 14) (v := 1000) dX0_changeLoad_14 (by decide) ?_
    refine vc_Ni (pc := 17) (c_X4_within l G _ _ _ _) (host := RX4) (by decide +kernel) my_X4_within ⟨by decide, by decide⟩ rfl rfl (Nat.le_of_ble_eq_true rfl) dX0_changeLoad_17 (fun r17 S17 h17 => ?_)
    obtain ⟨qS17, h17⟩ := h17
    replace qS17 := qS17.symm
    subst qS17
    refine vv_if_ne (pc := 20) (tgt := 26) dX0_changeLoad_20 (by decide) (fun c20 => ?_) (fun c20 => ?_)
    -- t@20 path tt
    · rw [h4, sp_in_iff] at c7
      rw [h17, sp_in_iff] at c20
      have i0 : (0 : Int32).toInt = 0 := (by decide)
      have i19 : (19 : Int32).toInt = 19 := (by decide)
      have i1000 : (1000 : Int32).toInt = 1000 := (by decide)
      have hx : x = nI x.toNatClampNeg := sp_nI (by omega)
      have hx2 := sp_cl (x := x) (by omega)
      have hx20 : x.toNatClampNeg < 20 := by omega
      have hwf1 : sp_wf C (upd z (10 + x.toNatClampNeg) v) := sp_wf_low hwf (fun k f => sp_f_upd z (by omega) v k f) (upd_n z v (by omega)) (fun p hp => if e : p = x.toNatClampNeg then (by rw [e, upd_s]; omega) else (by rw [upd_n z v (by omega)]; exact hwf.2.2.1 p hp)) (by rw [upd_n z v (by omega)]; exact hwf.2.2.2.1) (by rw [upd_n z v (by omega)]; exact hwf.2.2.2.2.1) (by rw [upd_n z v (by omega)]; exact hwf.2.2.2.2.2.1) (by rw [upd_n z v (by omega)]; exact hwf.2.2.2.2.2.2.1)
      refine vv_aload_n (pc := 26) 0 dX0_changeLoad_26 rfl rfl ?_
      refine vg_X0_loads (pc := 27) (by assumption) mw_F_X0_9 dX0_changeLoad_27 ?_
      refine vv_iload_n (pc := 30) 1 dX0_changeLoad_30 rfl rfl ?_
      refine vl_L (pc := 31) (by assumption) (sp_vin hx hx20 (by decide)) dX0_changeLoad_31 ?_
      refine vv_topi (fun x3p32 e3p32 => ?_)
      refine vv_istore_n (pc := 32) (i := 3) (ls' := [(3, .int x3p32), (0, .ref (gad G (mm_B b))), (1, .int x), (2, .int v)]) dX0_changeLoad_32 rfl (by decide) rfl ?_
      refine vv_aload_n (pc := 33) 1 dX0_changeLoad_33 rfl rfl ?_
      refine vg_X0_loads (pc := 34) (by assumption) mw_F_X0_9 dX0_changeLoad_34 ?_
      refine vv_iload_n (pc := 37) 2 dX0_changeLoad_37 rfl rfl ?_
      refine vv_iload_n (pc := 38) 3 dX0_changeLoad_38 rfl rfl ?_
      refine vs_L (pc := 39) (by assumption) (sp_vin hx hx20 (by decide)) dX0_changeLoad_39 ?_
      have hr1 := rb_ld (p := x.toNatClampNeg) (x := v) hr hC hx20
      refine vv_aload_n (pc := 40) 1 dX0_changeLoad_40 rfl rfl ?_
      refine vc_Vv (pc := 41) (c_X0_reckon l G (by assumption) _ hwf1.1 hr1) mw_M_X0_64 my_X0_reckon (mm_rv_B (by assumption)) ⟨by decide, by decide⟩ rfl rfl (Nat.le_of_ble_eq_true rfl) dX0_changeLoad_41 (fun S41 h41 => ?_)
      refine vv_aload_n (pc := 44) 1 dX0_changeLoad_44 rfl rfl ?_
      refine vc_Vi (pc := 45) (c_X0_settle l G (by assumption) _ hwf1 (f5_rb hC h41.1 hr1) h41.2) mw_M_X0_76 my_X0_settle (mm_rv_B (by assumption)) ⟨by decide, by decide⟩ rfl rfl (Nat.le_of_ble_eq_true rfl) dX0_changeLoad_45 (fun r45 S45 h45 => ?_)
      refine vv_pop (pc := 48) dX0_changeLoad_48 rfl ?_
      refine vv_iload_n (pc := 49) 0 dX0_changeLoad_49 rfl rfl ?_
      refine vr_i (pc := 50) dX0_changeLoad_50 ?_
      unfold sp_res op_load
      rw [← sp_in_iff] at c7 c20
      rw [if_neg c7, if_neg c20]
      exact ⟨by rw [e3p32]; exact g7 _ hx20, h45.2.1, h45.2.2.1, fr_trans fr_L (fr_trans (f5_fr hC h41.1) h45.2.2.2)⟩
    -- f@20 path tf
    · refine vv_bipush (pc := 23) (v := (-2)) dX0_changeLoad_23 (by decide) ?_
      refine vr_i (pc := 25) dX0_changeLoad_25 ?_
      unfold sp_res op_load
      rw [← h4, ← h17, if_neg c7, if_pos c20]
      exact ⟨rfl, hr, ht, fr_refl b S⟩
  -- f@7 path f
  · refine vv_iconst (pc := 10) (v := (-1)) dX0_changeLoad_10 (by decide) ?_
    refine vr_i (pc := 11) dX0_changeLoad_11 ?_
    unfold sp_res op_load
    rw [← h4, if_pos c7]
    exact ⟨rfl, hr, ht, fr_refl b S⟩
set_option maxRecDepth 100000 in
set_option maxHeartbeats 4000000 in
theorem c_X0_wireHere (l : Launch) (G : gG) {C b : Nat} {z : Nat → Int32} (hb : b < 11) (S : Mem) (hwf : sp_wf C z) (hr : rb C S b z) (ht : rt_ C S b z) : mm_C l G yX0_wireHere cX0_wireHere 1 (some (.object "SingingWires$Wire")) (mm_rm 1 22) [.ref (gad G (mm_B b))] S (mm_Qq G (fun r S2 => S2 = S ∧ r = sp_rf G b (sp_hw z C))) := by
  obtain ⟨g1, g2, g3, g4, g5, g6, g7, g8, g9⟩ := id hr
  have hw := hwf.1
  have hC := hw.1
  have h4r := hwf.2.2.2.1
  have hx2 := sp_cl (x := z 4) (by omega)
  have hx : z 4 = nI (z 4).toNatClampNeg := sp_nI (by omega)
  have hx20 : (z 4).toNatClampNeg < 20 := by omega
  refine mm_ofV (own := RX0) (by decide +kernel) rfl (Nat.le_of_ble_eq_true rfl) (ls0 := [(0, .ref (gad G (mm_B b)))]) rfl ?_
  refine vv_aload_n (pc := 0) 0 dX0_wireHere_0 rfl rfl ?_
  refine vg_X0_place (pc := 1) (by assumption) mw_F_X0_48 dX0_wireHere_1 ?_
  rw [g5]
  refine vv_iconst (pc := 4) (v := 0) dX0_wireHere_4 (by decide) ?_
  refine vv_bipush (pc := 5) (v := 19) dX0_wireHere_5 (by decide) ?_
  refine vc_Ni (pc := 7) (c_X4_within l G _ _ _ _) (host := RX4) (by decide +kernel) my_X4_within ⟨by decide, by decide⟩ rfl rfl (Nat.le_of_ble_eq_true rfl) dX0_wireHere_7 (fun r7 S7 h7 => ?_)
  obtain ⟨qS7, h7⟩ := h7
  replace qS7 := qS7.symm
  subst qS7
  refine vv_if_eq (pc := 10) (tgt := 29) dX0_wireHere_10 (by decide) (fun c10 => ?_) (fun c10 => ?_)
  -- t@10 path t
  · exact absurd (c10.symm.trans h7).symm (by rw [sp_in_iff, show (0 : Int32).toInt = 0 by decide, show (19 : Int32).toInt = 19 by decide]; omega)
  -- f@10 path f
  · refine vv_aload_n (pc := 13) 0 dX0_wireHere_13 rfl rfl ?_
    refine vv_aload_n (pc := 14) 0 dX0_wireHere_14 rfl rfl ?_
    refine vg_X0_wireAt (pc := 15) (by assumption) mw_F_X0_15 dX0_wireHere_15 ?_
    refine vv_aload_n (pc := 18) 0 dX0_wireHere_18 rfl rfl ?_
    refine vg_X0_place (pc := 19) (by assumption) mw_F_X0_48 dX0_wireHere_19 ?_
    rw [g5]
    refine vl_A (pc := 22) (by assumption) (sp_vin hx hx20 (by decide)) dX0_wireHere_22 ?_
    refine vc_Vq (pc := 23) (c_X0_wireNumbered l G (by assumption) _ hC (g1.trans hw.2.1) _) mw_M_X0_95 my_X0_wireNumbered (mm_rv_B (by assumption)) ⟨by decide, by decide⟩ rfl rfl (Nat.le_of_ble_eq_true rfl) dX0_wireHere_23 (fun r23 S23 h23 => ?_)
    obtain ⟨qS23, h23⟩ := h23
    replace qS23 := qS23.symm
    subst qS23
    refine vv_goto (pc := 26) (tgt := 30) dX0_wireHere_26 (by decide) ?_
    refine vr_qo (pc := 30) dX0_wireHere_30 ?_
    exact ⟨rfl, by rw [h23, g8 _ hx20]; rfl⟩
set_option maxRecDepth 100000 in
set_option maxHeartbeats 4000000 in
theorem c_X0_takeFrom (l : Launch) (G : gG) {C b b2 : Nat} {z : Nat → Int32} (hb : b < 11) (hb2 : b2 < 11) (hne : b ≠ b2) (S : Mem) (hC : C ≤ 8) (h3 : z 3 = nI C) (hr : rb C S b2 z) : mm_C l G yX0_takeFrom cX0_takeFrom 3 (none) (mm_rm 1 40) [.ref (gad G (mm_B b)), .ref (gad G (mm_B b2))] S (mm_Qv G (fun S2 => rb C S2 b z ∧ (∀ k, k < C → S2 (mm_W b k) 5 = S (mm_W b2 k) 5) ∧ fr_ b S S2)) := by
  refine mm_ofV (own := RX0) (by decide +kernel) rfl (Nat.le_of_ble_eq_true rfl) (ls0 := [(0, .ref (gad G (mm_B b))), (1, .ref (gad G (mm_B b2)))]) rfl ?_
  refine vv_aload_n (pc := 0) 1 dX0_takeFrom_0 rfl rfl ?_
  refine vg_X0_loads (pc := 1) (by assumption) mw_F_X0_9 dX0_takeFrom_1 ?_
  refine vv_iconst (pc := 4) (v := 0) dX0_takeFrom_4 (by decide) ?_
  refine vv_aload_n (pc := 5) 0 dX0_takeFrom_5 rfl rfl ?_
  refine vg_X0_loads (pc := 6) (by assumption) mw_F_X0_9 dX0_takeFrom_6 ?_
  refine vv_iconst (pc := 9) (v := 0) dX0_takeFrom_9 (by decide) ?_
  refine vv_bipush (pc := 10) (v := 20) dX0_takeFrom_10 (by decide) ?_
  refine vv_copy20 (pc := 12) (mm_lt_L hb2) (mm_lt_L hb) (fun r => mm_enc_L G b2 r) (fun r => mm_enc_L G b r) (fun k => mm_ty_L b k) mw_M_X0_32 (Nat.le_of_ble_eq_true rfl) (Nat.le_of_ble_eq_true rfl) dX0_takeFrom_12 ?_
  refine vv_mem (fun Sa eSa => ?_)
  have hfa : fr_ b S Sa := by intro j hj; rw [eSa, mm_cp_o S (by unfold mm_L mm_B at *; omega)]
  refine vv_aload_n (pc := 15) 1 dX0_takeFrom_15 rfl rfl ?_
  refine vg_X0_wireAt (pc := 16) (by assumption) mw_F_X0_15 dX0_takeFrom_16 ?_
  refine vv_iconst (pc := 19) (v := 0) dX0_takeFrom_19 (by decide) ?_
  refine vv_aload_n (pc := 20) 0 dX0_takeFrom_20 rfl rfl ?_
  refine vg_X0_wireAt (pc := 21) (by assumption) mw_F_X0_15 dX0_takeFrom_21 ?_
  refine vv_iconst (pc := 24) (v := 0) dX0_takeFrom_24 (by decide) ?_
  refine vv_bipush (pc := 25) (v := 20) dX0_takeFrom_25 (by decide) ?_
  refine vv_copy20 (pc := 27) (mm_lt_A hb2) (mm_lt_A hb) (fun r => mm_enc_A G b2 r) (fun r => mm_enc_A G b r) (fun k => mm_ty_A b k) mw_M_X0_32 (Nat.le_of_ble_eq_true rfl) (Nat.le_of_ble_eq_true rfl) dX0_takeFrom_27 ?_
  refine vv_mem (fun Sb eSb => ?_)
  have hfb : fr_ b S Sb := by intro j hj; rw [eSb, mm_cp_o Sa (by unfold mm_A mm_B at *; omega)]; exact hfa j hj
  refine vv_aload_n (pc := 30) 0 dX0_takeFrom_30 rfl rfl ?_
  refine vv_aload_n (pc := 31) 1 dX0_takeFrom_31 rfl rfl ?_
  refine vg_X0_wireCount (pc := 32) (by assumption) mw_F_X0_38 dX0_takeFrom_32 ?_
  refine vp_X0_wireCount (pc := 35) (by assumption) mw_F_X0_38 dX0_takeFrom_35 ?_
  refine vv_mem (fun Sc eSc => ?_)
  have hfc : fr_ b S Sc := by intro j hj; rw [eSc, mm_wr_orow _ _ (by omega)]; exact hfb j hj
  have eB3 : Sc (mm_B b) 3 = nI C := by rw [eSc, mm_wr_s, hfb (mm_B b2) (by unfold mm_B; omega)]; exact hr.1.trans h3
  have eL : ∀ p, p < 20 → Sc (mm_L b) p = z (10 + p) := by intro p hp; rw [eSc, mm_wr_orow _ _ (Ne.symm (mm_BL b)), eSb, mm_cp_o Sa (mm_LA b), eSa, mm_cp_in S hp]; exact hr.2.2.2.2.2.2.1 p hp
  have eA : ∀ p, p < 20 → Sc (mm_A b) p = sp_wa z p C := by intro p hp; rw [eSc, mm_wr_orow _ _ (Ne.symm (mm_BA b)), eSb, mm_cp_in Sa hp, hfa (mm_A b2) (by unfold mm_A mm_B; omega)]; exact hr.2.2.2.2.2.2.2.1 p hp
  refine vv_iconst (pc := 38) (v := 0) dX0_takeFrom_38 (by decide) ?_
  refine vv_topi (fun x2p39 e2p39 => ?_)
  refine vv_istore_n (pc := 39) (i := 2) (ls' := [(2, .int x2p39), (0, .ref (gad G (mm_B b))), (1, .ref (gad G (mm_B b2)))]) dX0_takeFrom_39 rfl (by decide) rfl ?_
  have lp40 : ∀ (n : Nat) (q : Nat) (x2 : Int32) (S1 : Mem), 9 ≤ n + q → q ≤ C → x2 = nI q → (∀ j, (∀ w, w < 8 → j ≠ mm_W b w) → S1 j = Sc j) → (∀ k, k < q → ∀ f, f < 12 → S1 (mm_W b k) f = S (mm_W b2 k) f) → mm_V l G RX0 cX0_takeFrom 3 (none) (mm_rm 1 40) 0 0 (fun _ => True) (fun _ => mm_F G) (mm_Qf G (mm_Qv G (fun S2 => rb C S2 b z ∧ (∀ k, k < C → S2 (mm_W b k) 5 = S (mm_W b2 k) 5) ∧ fr_ b S S2))) S1 40 [(0, .ref (gad G (mm_B b))), (1, .ref (gad G (mm_B b2))), (2, .int x2)] [] := by
    intro n
    induction n with
    | zero =>
      intro q x2 S1 hn hq e2 hfd hrow
      exact absurd hn (by omega)
    | succ n ih =>
      intro q x2 S1 hn hq e2 hfd hrow
      refine vv_iload_n (pc := 40) 2 dX0_takeFrom_40 rfl rfl ?_
      refine vv_aload_n (pc := 41) 0 dX0_takeFrom_41 rfl rfl ?_
      refine vg_X0_wireCount (pc := 42) (by assumption) mw_F_X0_38 dX0_takeFrom_42 ?_
      refine vv_icmp_ge (pc := 45) (tgt := 69) dX0_takeFrom_45 (by decide) (fun c45 => ?_) (fun c45 => ?_)
      -- t@45 path L40t
      · rw [hfd (mm_B b) (by intro w hw; exact mm_BW b w), eB3] at c45
        have hqC := sp_geN (N := C) (by omega) hq e2 c45
        subst hqC
        refine vv_aload_n (pc := 69) 0 dX0_takeFrom_69 rfl rfl ?_
        refine vv_aload_n (pc := 70) 1 dX0_takeFrom_70 rfl rfl ?_
        refine vg_X0_creep (pc := 71) (by assumption) mw_F_X0_25 dX0_takeFrom_71 ?_
        refine vp_X0_creep (pc := 74) (by assumption) mw_F_X0_25 dX0_takeFrom_74 ?_
        refine vv_aload_n (pc := 77) 0 dX0_takeFrom_77 rfl rfl ?_
        refine vv_aload_n (pc := 78) 1 dX0_takeFrom_78 rfl rfl ?_
        refine vg_X0_spare (pc := 79) (by assumption) mw_F_X0_29 dX0_takeFrom_79 ?_
        refine vp_X0_spare (pc := 82) (by assumption) mw_F_X0_29 dX0_takeFrom_82 ?_
        refine vv_aload_n (pc := 85) 0 dX0_takeFrom_85 rfl rfl ?_
        refine vv_aload_n (pc := 86) 1 dX0_takeFrom_86 rfl rfl ?_
        refine vg_X0_day (pc := 87) (by assumption) mw_F_X0_45 dX0_takeFrom_87 ?_
        refine vp_X0_day (pc := 90) (by assumption) mw_F_X0_45 dX0_takeFrom_90 ?_
        refine vv_aload_n (pc := 93) 0 dX0_takeFrom_93 rfl rfl ?_
        refine vv_aload_n (pc := 94) 1 dX0_takeFrom_94 rfl rfl ?_
        refine vg_X0_place (pc := 95) (by assumption) mw_F_X0_48 dX0_takeFrom_95 ?_
        refine vp_X0_place (pc := 98) (by assumption) mw_F_X0_48 dX0_takeFrom_98 ?_
        refine vv_aload_n (pc := 101) 0 dX0_takeFrom_101 rfl rfl ?_
        refine vv_aload_n (pc := 102) 1 dX0_takeFrom_102 rfl rfl ?_
        refine vg_X0_walked (pc := 103) (by assumption) mw_F_X0_51 dX0_takeFrom_103 ?_
        refine vp_X0_walked (pc := 106) (by assumption) mw_F_X0_51 dX0_takeFrom_106 ?_
        refine vr_v (pc := 109) dX0_takeFrom_109 ?_
        have hB2 : ∀ f, S1 (mm_B b2) f = S (mm_B b2) f := fun f => by rw [hfd (mm_B b2) (fun w hw => by unfold mm_B mm_W; omega), hfc (mm_B b2) (by unfold mm_B; omega)]
        have hBB : mm_B b2 ≠ mm_B b := by unfold mm_B; omega
        simp only [mm_wr_n _ _ (Or.inl hBB), hB2]
        obtain ⟨g1, g2, g3, g4, g5, g6, g7, g8, g9⟩ := id hr
        have hO : ∀ j, j ≠ mm_B b → mm_wr (mm_wr (mm_wr (mm_wr (mm_wr S1 (mm_B b) 4 (S (mm_B b2) 4)) (mm_B b) 5 (S (mm_B b2) 5)) (mm_B b) 6 (S (mm_B b2) 6)) (mm_B b) 7 (S (mm_B b2) 7)) (mm_B b) 8 (S (mm_B b2) 8) j = S1 j := fun j hj => by rw [mm_wr_orow _ _ hj, mm_wr_orow _ _ hj, mm_wr_orow _ _ hj, mm_wr_orow _ _ hj, mm_wr_orow _ _ hj]
        refine ⟨⟨?_, ?_, ?_, ?_, ?_, ?_, fun p hp => ?_, fun p hp => ?_, fun k hk => ?_⟩, fun k hk => ?_, fun j hj => ?_⟩
        · simp only [mm_wr_eq]; simp; rw [hfd (mm_B b) (by intro w hw; exact mm_BW b w), eB3, h3]
        · simp only [mm_wr_eq]; simp [g2]
        · simp only [mm_wr_eq]; simp [g3]
        · simp only [mm_wr_eq]; simp [g4]
        · simp only [mm_wr_eq]; simp [g5]
        · simp only [mm_wr_eq]; simp [g6]
        · rw [hO _ (Ne.symm (mm_BL b)), hfd (mm_L b) (fun w hw => mm_LW b w)]; exact eL p hp
        · rw [hO _ (Ne.symm (mm_BA b)), hfd (mm_A b) (fun w hw => mm_AW b w)]; exact eA p hp
        · rw [hO _ (Ne.symm (mm_BW b k))]
          rw [hrow k hk 0 (by decide), hrow k hk 1 (by decide), hrow k hk 2 (by decide), hrow k hk 3 (by decide), hrow k hk 4 (by decide), hrow k hk 6 (by decide), hrow k hk 7 (by decide), hrow k hk 8 (by decide), hrow k hk 9 (by decide), hrow k hk 10 (by decide), hrow k hk 11 (by decide)]
          exact g9 k hk
        · rw [hO _ (Ne.symm (mm_BW b k))]; exact hrow k hk 5 (by decide)
        · rw [hO _ (by unfold mm_B at *; omega), hfd j (fun w hw => by unfold mm_B mm_W at *; omega)]; exact hfc j hj
      -- f@45 path L40f
      · rw [hfd (mm_B b) (by intro w hw; exact mm_BW b w), eB3] at c45
        have hqC : q < C := sp_ltN (N := C) (by omega) hq e2 c45
        have hx2 : x2.toNatClampNeg = q := by rw [e2, cl_n (by omega)]
        refine vv_aload_n (pc := 48) 0 dX0_takeFrom_48 rfl rfl ?_
        refine vg_X0_wires (pc := 49) (by assumption) mw_F_X0_20 dX0_takeFrom_49 ?_
        refine vv_iload_n (pc := 52) 2 dX0_takeFrom_52 rfl rfl ?_
        refine vl_R (pc := 53) (by assumption) (by rw [e2]; exact vp_8 (by omega)) dX0_takeFrom_53 ?_
        rw [hx2]
        refine vv_aload_n (pc := 54) 1 dX0_takeFrom_54 rfl rfl ?_
        refine vg_X0_wires (pc := 55) (by assumption) mw_F_X0_20 dX0_takeFrom_55 ?_
        refine vv_iload_n (pc := 58) 2 dX0_takeFrom_58 rfl rfl ?_
        refine vl_R (pc := 59) (by assumption) (by rw [e2]; exact vp_8 (by omega)) dX0_takeFrom_59 ?_
        rw [hx2]
        refine vc_Vv (pc := 60) (c_X3_takeFrom l G (by assumption) (by omega) (by assumption) (by omega) hne _) mw_M_X0_41 my_X3_takeFrom (mm_rv_W (by assumption) (by omega)) ⟨by decide, by decide⟩ rfl rfl (Nat.le_of_ble_eq_true rfl) dX0_takeFrom_60 (fun S60 h60 => ?_)
        obtain ⟨x2p63, e2p63⟩ : ∃ y : Int32, y = x2 + 1 := ⟨_, rfl⟩
        refine vv_iinc (pc := 63) (q := 2) (v := x2p63) (ls' := [(2, .int x2p63), (0, .ref (gad G (mm_B b))), (1, .ref (gad G (mm_B b2)))]) dX0_takeFrom_63 rfl (by rw [e2p63]; rfl) (by decide) rfl ?_
        refine vv_goto (pc := 66) (tgt := 40) dX0_takeFrom_66 (by decide) ?_
        have hW2 : ∀ w, w < 8 → S1 (mm_W b2 w) = S (mm_W b2 w) := fun w hw => by rw [hfd (mm_W b2 w) (fun w2 hw2 => mm_W_ne (fun h => hne h.symm) hw hw2)]; exact hfc _ (by unfold mm_W mm_B; omega)
        refine vv_sub [1, 2, 0] (ls' := [(0, _), (1, _), (2, _)]) rfl ?_
        exact ih (q + 1) x2p63 S60 (by omega) (by omega) (by rw [e2p63, e2]; exact nI_1 q) (fun j hj => by rw [h60, mm_cp_o S1 (hj q (by omega))]; exact hfd j hj) (fun k hk f hf => if e : k = q then (by subst e; rw [h60, mm_cp_in S1 hf, hW2 k (by omega)]) else (by rw [h60, mm_cp_o S1 (mm_W_ne2 e)]; exact hrow k (by omega) f hf))
  refine vv_sub [1, 2, 0] (ls' := [(0, _), (1, _), (2, _)]) rfl ?_
  exact lp40 9 0 x2p39 Sc (by omega) (by omega) e2p39 (fun _ _ => rfl) (fun k h => absurd h (Nat.not_lt_zero k))
