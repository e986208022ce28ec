set_option maxRecDepth 100000 in
set_option maxHeartbeats 4000000 in
theorem c_X4_set (l : Launch) (G : gG) {q : St} {kk : Nat} {hs : Nat → St} (S : Mem) (hg : gd q) (hq : bo S 0 q) (hh : ch S kk kk hs) (x1 x2 : Int32) : mm_C l G yX4_set cX4_set 3 (some .int) (mm_rm 3 83) [.ref (gad G 0), .int x1, .int x2] S (mm_Qi G (fun r S2 => mx S S2 q kk hs r (os_set q x1 x2))) := by
  refine mm_ofV (own := RX4) (by decide +kernel) rfl (Nat.le_of_ble_eq_true rfl) (ls0 := [(0, .ref (gad G 0)), (1, .int x1), (2, .int x2)]) rfl ?_
  refine vv_aload_n (pc := 0) 0 dX4_set_0 rfl rfl ?_
  refine vg_X4_history (pc := 1) mw_F_X4_22 dX4_set_1 ?_
  refine vv_aload_n (pc := 4) 0 dX4_set_4 rfl rfl ?_
  refine vg_X4_bridge (pc := 5) mw_F_X4_10 dX4_set_5 ?_
  refine vc_Vv (pc := 8) (c_X1_note l G (b2 := 0) (C := q.1) (z := q.2) _ (by decide) hh hq) mw_M_X4_41 my_X1_note mm_rv_X1 ⟨by decide, by decide⟩ rfl rfl (Nat.le_of_ble_eq_true rfl) dX4_set_8 (fun S8 h8 => ?_)
  have hq8 := note_bo (b := 0) (by decide) hq h8.2
  refine vv_aload_n (pc := 11) 0 dX4_set_11 rfl rfl ?_
  refine vg_X4_history (pc := 12) mw_F_X4_22 dX4_set_12 ?_
  refine vv_aload_n (pc := 15) 0 dX4_set_15 rfl rfl ?_
  refine vg_X4_bridge (pc := 16) mw_F_X4_10 dX4_set_16 ?_
  refine vv_iload_n (pc := 19) 1 dX4_set_19 rfl rfl ?_
  refine vv_iload_n (pc := 20) 2 dX4_set_20 rfl rfl ?_
  refine vc_Vi (pc := 21) (c_X0_changeSetting l G (b := 0) (C := q.1) (z := q.2) (by decide) _ hg.1 hq8.2.2.1 hq8.2.2.2 _ _) mw_M_X4_45 my_X0_changeSetting (mm_rv_B (by decide)) ⟨by decide, by decide⟩ rfl rfl (Nat.le_of_ble_eq_true rfl) dX4_set_21 (fun r21 S21 h21 => ?_)
  refine vc_Vi (pc := 24) (c_X1_keepUnlessError l G _ (note_ch h8.1 h21.2.2.2) _) mw_M_X4_49 my_X1_keepUnlessError mm_rv_X1 ⟨by decide, by decide⟩ rfl rfl (Nat.le_of_ble_eq_true rfl) dX4_set_24 (fun r24 S24 h24 => ?_)
  refine vr_i (pc := 27) dX4_set_27 ?_
  exact mx_of (o := os_set q x1 x2) h8 h21.1 ⟨hq.1, op_set_3 hq.2.1, h21.2.1, h21.2.2.1⟩ h21.2.2.2 h24
set_option maxRecDepth 100000 in
set_option maxHeartbeats 4000000 in
theorem c_X4_load (l : Launch) (G : gG) {q : St} {kk : Nat} {hs : Nat → St} (S : Mem) (hg : gd q) (hq : bo S 0 q) (hh : ch S kk kk hs) (x1 x2 : Int32) : mm_C l G yX4_load cX4_load 3 (some .int) (mm_rm 4 95) [.ref (gad G 0), .int x1, .int x2] S (mm_Qi G (fun r S2 => mx S S2 q kk hs r (os_load q x1 x2))) := by
  refine mm_ofV (own := RX4) (by decide +kernel) rfl (Nat.le_of_ble_eq_true rfl) (ls0 := [(0, .ref (gad G 0)), (1, .int x1), (2, .int x2)]) rfl ?_
  refine vv_aload_n (pc := 0) 0 dX4_load_0 rfl rfl ?_
  refine vg_X4_history (pc := 1) mw_F_X4_22 dX4_load_1 ?_
  refine vv_aload_n (pc := 4) 0 dX4_load_4 rfl rfl ?_
  refine vg_X4_bridge (pc := 5) mw_F_X4_10 dX4_load_5 ?_
  refine vc_Vv (pc := 8) (c_X1_note l G (b2 := 0) (C := q.1) (z := q.2) _ (by decide) hh hq) mw_M_X4_41 my_X1_note mm_rv_X1 ⟨by decide, by decide⟩ rfl rfl (Nat.le_of_ble_eq_true rfl) dX4_load_8 (fun S8 h8 => ?_)
  have hq8 := note_bo (b := 0) (by decide) hq h8.2
  refine vv_aload_n (pc := 11) 0 dX4_load_11 rfl rfl ?_
  refine vg_X4_history (pc := 12) mw_F_X4_22 dX4_load_12 ?_
  refine vv_aload_n (pc := 15) 0 dX4_load_15 rfl rfl ?_
  refine vg_X4_bridge (pc := 16) mw_F_X4_10 dX4_load_16 ?_
  refine vv_iload_n (pc := 19) 1 dX4_load_19 rfl rfl ?_
  refine vv_iload_n (pc := 20) 2 dX4_load_20 rfl rfl ?_
  refine vc_Vi (pc := 21) (c_X0_changeLoad l G (b := 0) (C := q.1) (z := q.2) (by decide) _ hg.1 hq8.2.2.1 hq8.2.2.2 _ _) mw_M_X4_57 my_X0_changeLoad (mm_rv_B (by decide)) ⟨by decide, by decide⟩ rfl rfl (Nat.le_of_ble_eq_true rfl) dX4_load_21 (fun r21 S21 h21 => ?_)
  refine vc_Vi (pc := 24) (c_X1_keepUnlessError l G _ (note_ch h8.1 h21.2.2.2) _) mw_M_X4_49 my_X1_keepUnlessError mm_rv_X1 ⟨by decide, by decide⟩ rfl rfl (Nat.le_of_ble_eq_true rfl) dX4_load_24 (fun r24 S24 h24 => ?_)
  refine vr_i (pc := 27) dX4_load_27 ?_
  exact mx_of (o := os_load q x1 x2) h8 h21.1 ⟨hq.1, op_load_3 hq.2.1, h21.2.1, h21.2.2.1⟩ h21.2.2.2 h24
set_option maxRecDepth 100000 in
set_option maxHeartbeats 4000000 in
theorem c_X4_days (l : Launch) (G : gG) {q : St} {kk : Nat} {hs : Nat → St} (S : Mem) (hg : gd q) (hq : bo S 0 q) (hh : ch S kk kk hs) (hday : (q.2 2).toInt ≤ 1000000000) (x1 : Int32) : mm_C l G yX4_days cX4_days 2 (some .int) (mm_rm 4 96) [.ref (gad G 0), .int x1] S (mm_Qi G (fun r S2 => mx S S2 q kk hs r (os_days q x1))) := by
  refine mm_ofV (own := RX4) (by decide +kernel) rfl (Nat.le_of_ble_eq_true rfl) (ls0 := [(0, .ref (gad G 0)), (1, .int x1)]) rfl ?_
  refine vv_aload_n (pc := 0) 0 dX4_days_0 rfl rfl ?_
  refine vg_X4_history (pc := 1) mw_F_X4_22 dX4_days_1 ?_
  refine vv_aload_n (pc := 4) 0 dX4_days_4 rfl rfl ?_
  refine vg_X4_bridge (pc := 5) mw_F_X4_10 dX4_days_5 ?_
  refine vc_Vv (pc := 8) (c_X1_note l G (b2 := 0) (C := q.1) (z := q.2) _ (by decide) hh hq) mw_M_X4_41 my_X1_note mm_rv_X1 ⟨by decide, by decide⟩ rfl rfl (Nat.le_of_ble_eq_true rfl) dX4_days_8 (fun S8 h8 => ?_)
  have hq8 := note_bo (b := 0) (by decide) hq h8.2
  refine vv_aload_n (pc := 11) 0 dX4_days_11 rfl rfl ?_
  refine vg_X4_history (pc := 12) mw_F_X4_22 dX4_days_12 ?_
  refine vv_aload_n (pc := 15) 0 dX4_days_15 rfl rfl ?_
  refine vg_X4_bridge (pc := 16) mw_F_X4_10 dX4_days_16 ?_
  refine vv_iload_n (pc := 19) 1 dX4_days_19 rfl rfl ?_
  refine vc_Vi (pc := 20) (c_X0_letPass l G (b := 0) (C := q.1) (z := q.2) (by decide) _ hg.1 hq8.2.2.1 hq8.2.2.2 hg.2 hday _) mw_M_X4_60 my_X0_letPass (mm_rv_B (by decide)) ⟨by decide, by decide⟩ rfl rfl (Nat.le_of_ble_eq_true rfl) dX4_days_20 (fun r20 S20 h20 => ?_)
  refine vc_Vi (pc := 23) (c_X1_keepUnlessError l G _ (note_ch h8.1 h20.2.2.2) _) mw_M_X4_49 my_X1_keepUnlessError mm_rv_X1 ⟨by decide, by decide⟩ rfl rfl (Nat.le_of_ble_eq_true rfl) dX4_days_23 (fun r23 S23 h23 => ?_)
  refine vr_i (pc := 26) dX4_days_26 ?_
  exact mx_of (o := os_days q x1) h8 h20.1 ⟨hq.1, op_days_3 hq.2.1, h20.2.1, h20.2.2.1⟩ h20.2.2.2 h23
set_option maxRecDepth 100000 in
set_option maxHeartbeats 4000000 in
theorem c_X4_walk (l : Launch) (G : gG) {q : St} {kk : Nat} {hs : Nat → St} (S : Mem) (hg : gd q) (hq : bo S 0 q) (hh : ch S kk kk hs) (x1 : Int32) : mm_C l G yX4_walk cX4_walk 2 (some .int) (mm_rm 3 83) [.ref (gad G 0), .int x1] S (mm_Qi G (fun r S2 => mx S S2 q kk hs r (os_walk q x1))) := by
  refine mm_ofV (own := RX4) (by decide +kernel) rfl (Nat.le_of_ble_eq_true rfl) (ls0 := [(0, .ref (gad G 0)), (1, .int x1)]) rfl ?_
  refine vv_aload_n (pc := 0) 0 dX4_walk_0 rfl rfl ?_
  refine vg_X4_history (pc := 1) mw_F_X4_22 dX4_walk_1 ?_
  refine vv_aload_n (pc := 4) 0 dX4_walk_4 rfl rfl ?_
  refine vg_X4_bridge (pc := 5) mw_F_X4_10 dX4_walk_5 ?_
  refine vc_Vv (pc := 8) (c_X1_note l G (b2 := 0) (C := q.1) (z := q.2) _ (by decide) hh hq) mw_M_X4_41 my_X1_note mm_rv_X1 ⟨by decide, by decide⟩ rfl rfl (Nat.le_of_ble_eq_true rfl) dX4_walk_8 (fun S8 h8 => ?_)
  have hq8 := note_bo (b := 0) (by decide) hq h8.2
  refine vv_aload_n (pc := 11) 0 dX4_walk_11 rfl rfl ?_
  refine vg_X4_history (pc := 12) mw_F_X4_22 dX4_walk_12 ?_
  refine vv_aload_n (pc := 15) 0 dX4_walk_15 rfl rfl ?_
  refine vg_X4_bridge (pc := 16) mw_F_X4_10 dX4_walk_16 ?_
  refine vv_iload_n (pc := 19) 1 dX4_walk_19 rfl rfl ?_
  refine vc_Vi (pc := 20) (c_X0_goTo l G (b := 0) (C := q.1) (z := q.2) (by decide) _ hg.1 hq8.2.2.1 hq8.2.2.2 _) mw_M_X4_63 my_X0_goTo (mm_rv_B (by decide)) ⟨by decide, by decide⟩ rfl rfl (Nat.le_of_ble_eq_true rfl) dX4_walk_20 (fun r20 S20 h20 => ?_)
  refine vc_Vi (pc := 23) (c_X1_keepUnlessError l G _ (note_ch h8.1 h20.2.2.2) _) mw_M_X4_49 my_X1_keepUnlessError mm_rv_X1 ⟨by decide, by decide⟩ rfl rfl (Nat.le_of_ble_eq_true rfl) dX4_walk_23 (fun r23 S23 h23 => ?_)
  refine vr_i (pc := 26) dX4_walk_26 ?_
  exact mx_of (o := os_walk q x1) h8 h20.1 ⟨hq.1, op_walk_3 hq.2.1, h20.2.1, h20.2.2.1⟩ h20.2.2.2 h23
set_option maxRecDepth 100000 in
set_option maxHeartbeats 4000000 in
theorem c_X4_hear (l : Launch) (G : gG) {q : St} {kk : Nat} {hs : Nat → St} (S : Mem) (hg : gd q) (hq : bo S 0 q) (hh : ch S kk kk hs) : mm_C l G yX4_hear cX4_hear 1 (some .int) (mm_rm 4 92) [.ref (gad G 0)] S (mm_Qi G (fun r S2 => mx S S2 q kk hs r (os_hear q))) := by
  refine mm_ofV (own := RX4) (by decide +kernel) rfl (Nat.le_of_ble_eq_true rfl) (ls0 := [(0, .ref (gad G 0))]) rfl ?_
  refine vv_aload_n (pc := 0) 0 dX4_hear_0 rfl rfl ?_
  refine vg_X4_history (pc := 1) mw_F_X4_22 dX4_hear_1 ?_
  refine vv_aload_n (pc := 4) 0 dX4_hear_4 rfl rfl ?_
  refine vg_X4_bridge (pc := 5) mw_F_X4_10 dX4_hear_5 ?_
  refine vc_Vv (pc := 8) (c_X1_note l G (b2 := 0) (C := q.1) (z := q.2) _ (by decide) hh hq) mw_M_X4_41 my_X1_note mm_rv_X1 ⟨by decide, by decide⟩ rfl rfl (Nat.le_of_ble_eq_true rfl) dX4_hear_8 (fun S8 h8 => ?_)
  have hq8 := note_bo (b := 0) (by decide) hq h8.2
  refine vv_aload_n (pc := 11) 0 dX4_hear_11 rfl rfl ?_
  refine vg_X4_history (pc := 12) mw_F_X4_22 dX4_hear_12 ?_
  refine vv_aload_n (pc := 15) 0 dX4_hear_15 rfl rfl ?_
  refine vg_X4_bridge (pc := 16) mw_F_X4_10 dX4_hear_16 ?_
  refine vc_Vi (pc := 19) (c_X0_listen l G (b := 0) (C := q.1) (z := q.2) (by decide) _ hg.1 hq8.2.2.1 hq8.2.2.2) mw_M_X4_66 my_X0_listen (mm_rv_B (by decide)) ⟨by decide, by decide⟩ rfl rfl (Nat.le_of_ble_eq_true rfl) dX4_hear_19 (fun r19 S19 h19 => ?_)
  refine vc_Vi (pc := 22) (c_X1_keepUnlessError l G _ (note_ch h8.1 h19.2.2.2) _) mw_M_X4_49 my_X1_keepUnlessError mm_rv_X1 ⟨by decide, by decide⟩ rfl rfl (Nat.le_of_ble_eq_true rfl) dX4_hear_22 (fun r22 S22 h22 => ?_)
  refine vr_i (pc := 25) dX4_hear_25 ?_
  exact mx_of (o := os_hear q) h8 h19.1 ⟨hq.1, op_hear_3 hq.2.1, h19.2.1, h19.2.2.1⟩ h19.2.2.2 h22
set_option maxRecDepth 100000 in
set_option maxHeartbeats 4000000 in
theorem c_X4_tighten (l : Launch) (G : gG) {q : St} {kk : Nat} {hs : Nat → St} (S : Mem) (hg : gd q) (hq : bo S 0 q) (hh : ch S kk kk hs) (x1 : Int32) : mm_C l G yX4_tighten cX4_tighten 2 (some .int) (mm_rm 3 83) [.ref (gad G 0), .int x1] S (mm_Qi G (fun r S2 => mx S S2 q kk hs r (os_tight q x1))) := by
  refine mm_ofV (own := RX4) (by decide +kernel) rfl (Nat.le_of_ble_eq_true rfl) (ls0 := [(0, .ref (gad G 0)), (1, .int x1)]) rfl ?_
  refine vv_aload_n (pc := 0) 0 dX4_tighten_0 rfl rfl ?_
  refine vg_X4_history (pc := 1) mw_F_X4_22 dX4_tighten_1 ?_
  refine vv_aload_n (pc := 4) 0 dX4_tighten_4 rfl rfl ?_
  refine vg_X4_bridge (pc := 5) mw_F_X4_10 dX4_tighten_5 ?_
  refine vc_Vv (pc := 8) (c_X1_note l G (b2 := 0) (C := q.1) (z := q.2) _ (by decide) hh hq) mw_M_X4_41 my_X1_note mm_rv_X1 ⟨by decide, by decide⟩ rfl rfl (Nat.le_of_ble_eq_true rfl) dX4_tighten_8 (fun S8 h8 => ?_)
  have hq8 := note_bo (b := 0) (by decide) hq h8.2
  refine vv_aload_n (pc := 11) 0 dX4_tighten_11 rfl rfl ?_
  refine vg_X4_history (pc := 12) mw_F_X4_22 dX4_tighten_12 ?_
  refine vv_aload_n (pc := 15) 0 dX4_tighten_15 rfl rfl ?_
  refine vg_X4_bridge (pc := 16) mw_F_X4_10 dX4_tighten_16 ?_
  refine vv_iload_n (pc := 19) 1 dX4_tighten_19 rfl rfl ?_
  refine vc_Vi (pc := 20) (c_X0_changeTension l G (b := 0) (C := q.1) (z := q.2) (by decide) _ hg.1 hq8.2.2.1 hq8.2.2.2 _) mw_M_X4_70 my_X0_changeTension (mm_rv_B (by decide)) ⟨by decide, by decide⟩ rfl rfl (Nat.le_of_ble_eq_true rfl) dX4_tighten_20 (fun r20 S20 h20 => ?_)
  refine vc_Vi (pc := 23) (c_X1_keepUnlessError l G _ (note_ch h8.1 h20.2.2.2) _) mw_M_X4_49 my_X1_keepUnlessError mm_rv_X1 ⟨by decide, by decide⟩ rfl rfl (Nat.le_of_ble_eq_true rfl) dX4_tighten_23 (fun r23 S23 h23 => ?_)
  refine vr_i (pc := 26) dX4_tighten_26 ?_
  exact mx_of (o := os_tight q x1) h8 h20.1 ⟨hq.1, op_tight_3 hq.2.1, h20.2.1, h20.2.2.1⟩ h20.2.2.2 h23
set_option maxRecDepth 100000 in
set_option maxHeartbeats 4000000 in
theorem c_X4_wire (l : Launch) (G : gG) {q : St} {kk : Nat} {hs : Nat → St} (S : Mem) (hg : gd q) (hq : bo S 0 q) (hh : ch S kk kk hs) (x1 x2 x3 x4 x5 : Int32) : mm_C l G yX4_wire cX4_wire 6 (some .int) (mm_rm 4 98) [.ref (gad G 0), .int x1, .int x2, .int x3, .int x4, .int x5] S (mm_Qi G (fun r S2 => mx S S2 q kk hs r (os_wire q x1 x2 x3 x4 x5))) := by
  refine mm_ofV (own := RX4) (by decide +kernel) rfl (Nat.le_of_ble_eq_true rfl) (ls0 := [(0, .ref (gad G 0)), (1, .int x1), (2, .int x2), (3, .int x3), (4, .int x4), (5, .int x5)]) rfl ?_
  refine vv_aload_n (pc := 0) 0 dX4_wire_0 rfl rfl ?_
  refine vg_X4_history (pc := 1) mw_F_X4_22 dX4_wire_1 ?_
  refine vv_aload_n (pc := 4) 0 dX4_wire_4 rfl rfl ?_
  refine vg_X4_bridge (pc := 5) mw_F_X4_10 dX4_wire_5 ?_
  refine vc_Vv (pc := 8) (c_X1_note l G (b2 := 0) (C := q.1) (z := q.2) _ (by decide) hh hq) mw_M_X4_41 my_X1_note mm_rv_X1 ⟨by decide, by decide⟩ rfl rfl (Nat.le_of_ble_eq_true rfl) dX4_wire_8 (fun S8 h8 => ?_)
  have hq8 := note_bo (b := 0) (by decide) hq h8.2
  refine vv_aload_n (pc := 11) 0 dX4_wire_11 rfl rfl ?_
  refine vg_X4_history (pc := 12) mw_F_X4_22 dX4_wire_12 ?_
  refine vv_aload_n (pc := 15) 0 dX4_wire_15 rfl rfl ?_
  refine vg_X4_bridge (pc := 16) mw_F_X4_10 dX4_wire_16 ?_
  refine vv_iload_n (pc := 19) 1 dX4_wire_19 rfl rfl ?_
  refine vv_iload_n (pc := 20) 2 dX4_wire_20 rfl rfl ?_
  refine vv_iload_n (pc := 21) 3 dX4_wire_21 rfl rfl ?_
  refine vv_iload (pc := 22) 4 dX4_wire_22 rfl ?_
  refine vv_iload (pc := 24) 5 dX4_wire_24 rfl ?_
  refine vc_Vi (pc := 26) (c_X0_hang l G (b := 0) (C := q.1) (z := q.2) (by decide) _ hg.1 hq8.2.2.1 hq8.2.2.2 _ _ _ _ _) mw_M_X4_53 my_X0_hang (mm_rv_B (by decide)) ⟨by decide, by decide⟩ rfl rfl (Nat.le_of_ble_eq_true rfl) dX4_wire_26 (fun r26 S26 h26 => ?_)
  have hres : r26 = (os_wire q x1 x2 x3 x4 x5).1 ∧ bo S26 0 (os_wire q x1 x2 x3 x4 x5).2 ∧ fr_ 0 S8 S26 := by
    unfold os_wire
    by_cases e : op_wbad q.1 q.2 x1 x2 x3 x4 x5 = 0
    · rw [if_pos e]
      obtain ⟨e1, e2, e3, e4⟩ := h26.2 e
      have hC7 : q.1 < 8 := by
        have := hg.1.1.1
        rcases Nat.lt_or_ge q.1 8 with h | h
        · exact h
        · exfalso
          have h8 : q.1 = 8 := by omega
          unfold op_wbad at e
          rw [if_pos h8] at e
          split at e <;> exact absurd e (by decide)
      exact ⟨e1, ⟨by show q.1 + 1 ≤ 8; omega, (stl_3 8 _ (by decide)).trans ((sp_new_low _ _ _ _ _ _ _ (by decide)).trans rfl), e2, e3⟩, e4⟩
    · rw [if_neg e]
      obtain ⟨e1, e2, e3, e4⟩ := h26.1 e
      exact ⟨e1, ⟨hq.1, hq.2.1, e2, e3⟩, e4⟩
  refine vc_Vi (pc := 29) (c_X1_keepUnlessError l G _ (note_ch h8.1 hres.2.2) _) mw_M_X4_49 my_X1_keepUnlessError mm_rv_X1 ⟨by decide, by decide⟩ rfl rfl (Nat.le_of_ble_eq_true rfl) dX4_wire_29 (fun r29 S29 h29 => ?_)
  refine vr_i (pc := 32) dX4_wire_32 ?_
  exact mx_of (o := os_wire q x1 x2 x3 x4 x5) h8 hres.1 hres.2.1 hres.2.2 h29
set_option maxRecDepth 100000 in
set_option maxHeartbeats 4000000 in
theorem c_X4_undo (l : Launch) (G : gG) {kk : Nat} {hs : Nat → St} (S : Mem) (hh : ch S kk kk hs) : mm_C l G yX4_undo cX4_undo 1 (some .int) (mm_rm 3 83) [.ref (gad G 0)] S (mm_Qi G (fun r S2 => (kk = 0 → r = -5 ∧ S2 = S) ∧ (∀ k, kk = k + 1 → r = nI k ∧ ch S2 k k hs ∧ bo S2 0 (hs k) ∧ fX S S2))) := by
  refine mm_ofV (own := RX4) (by decide +kernel) rfl (Nat.le_of_ble_eq_true rfl) (ls0 := [(0, .ref (gad G 0))]) rfl ?_
  refine vv_aload_n (pc := 0) 0 dX4_undo_0 rfl rfl ?_
  refine vg_X4_history (pc := 1) mw_F_X4_22 dX4_undo_1 ?_
  refine vv_aload_n (pc := 4) 0 dX4_undo_4 rfl rfl ?_
  refine vg_X4_bridge (pc := 5) mw_F_X4_10 dX4_undo_5 ?_
  refine vc_Vi (pc := 8) (c_X1_giveBack l G (b := 0) _ (by decide) hh) mw_M_X4_222 my_X1_giveBack mm_rv_X1 ⟨by decide, by decide⟩ rfl rfl (Nat.le_of_ble_eq_true rfl) dX4_undo_8 (fun r8 S8 h8 => ?_)
  refine vr_i (pc := 11) dX4_undo_11 ?_
  refine ⟨h8.1, fun k hk => ?_⟩
  obtain ⟨a1, a2, a3, a4⟩ := h8.2 k hk
  exact ⟨a1, a2, a3, fun j hj => a4 j (by unfold mm_B at *; omega) (by unfold mm_B at *; omega)⟩
set_option maxRecDepth 100000 in
set_option maxHeartbeats 4000000 in
theorem c_X4_save (l : Launch) (G : gG) {q : St} (S : Mem) (hq : bo S 0 q) (x : Int32) : mm_C l G yX4_save cX4_save 2 (some .int) (mm_rm 2 62) [.ref (gad G 0), .int x] S (mm_Qi G (fun r S2 => (sp_in x 0 1 = 0 → r = -2 ∧ S2 = S) ∧ (sp_in x 0 1 ≠ 0 → r = q.2 2 ∧ bo S2 (2 + x.toNatClampNeg) q ∧ S2 2 x.toNatClampNeg = 1 ∧ (∀ j k, (j ≠ 2 ∨ k ≠ x.toNatClampNeg) → (j < mm_B (2 + x.toNatClampNeg) ∨ mm_B (2 + x.toNatClampNeg) + 12 ≤ j) → S2 j k = S j k)))) := by
  refine mm_ofV (own := RX4) (by decide +kernel) rfl (Nat.le_of_ble_eq_true rfl) (ls0 := [(0, .ref (gad G 0)), (1, .int x)]) rfl ?_
  refine vv_iload_n (pc := 0) 1 dX4_save_0 rfl rfl ?_
  refine vv_iconst (pc := 1) (v := 0) dX4_save_1 (by decide) ?_
  refine vv_iconst (pc := 2) (v := 1) dX4_save_2 (by decide) ?_
  refine vc_Si (pc := 3) (c_X4_within l G _ _ _ _) mw_M_X4_177 my_X4_within ⟨by decide, by decide⟩ rfl rfl (Nat.le_of_ble_eq_true rfl) dX4_save_3 (fun r3 S3 h3 => ?_)
  obtain ⟨qS3, h3⟩ := h3
  replace qS3 := qS3.symm
  subst qS3
  refine vv_if_ne (pc := 6) (tgt := 12) dX4_save_6 (by decide) (fun c6 => ?_) (fun c6 => ?_)
  -- t@6 path t
  · have c6b := c6
    rw [h3, sp_in_iff, show (0 : Int32).toInt = 0 by decide, show (1 : Int32).toInt = 1 by decide] at c6b
    have hx : x = nI x.toNatClampNeg := sp_nI (by omega)
    have hxl := sp_cl (x := x) (by omega)
    have hx2 : x.toNatClampNeg < 2 := by omega
    have hx11 : 2 + x.toNatClampNeg < 11 := by omega
    refine vv_aload_n (pc := 12) 0 dX4_save_12 rfl rfl ?_
    refine vg_X4_slots (pc := 13) mw_F_X4_26 dX4_save_13 ?_
    refine vv_iload_n (pc := 16) 1 dX4_save_16 rfl rfl ?_
    refine vl_1 (pc := 17) (sp_vin hx hx2 (by decide)) dX4_save_17 ?_
    refine vv_aload_n (pc := 18) 0 dX4_save_18 rfl rfl ?_
    refine vg_X4_bridge (pc := 19) mw_F_X4_10 dX4_save_19 ?_
    refine vc_Vv (pc := 22) (c_X0_takeFrom l G (b2 := 0) (by assumption) (by decide) (by omega) _ hq.1 hq.2.1 hq.2.2.1) mw_M_X4_191 my_X0_takeFrom (mm_rv_B (by assumption)) ⟨by decide, by decide⟩ rfl rfl (Nat.le_of_ble_eq_true rfl) dX4_save_22 (fun S22 h22 => ?_)
    refine vv_aload_n (pc := 25) 0 dX4_save_25 rfl rfl ?_
    refine vg_X4_saved (pc := 26) mw_F_X4_30 dX4_save_26 ?_
    refine vv_iload_n (pc := 29) 1 dX4_save_29 rfl rfl ?_
    refine vv_iconst (pc := 30) (v := 1) dX4_save_30 (by decide) ?_
    refine vs_2 (pc := 31) (Or.inr rfl) (sp_vin hx hx2 (by decide)) dX4_save_31 ?_
    refine vv_aload_n (pc := 32) 0 dX4_save_32 rfl rfl ?_
    refine vg_X4_bridge (pc := 33) mw_F_X4_10 dX4_save_33 ?_
    refine vg_X0_day (pc := 36) (by decide) mw_F_X4_147 dX4_save_36 ?_
    refine vr_i (pc := 39) dX4_save_39 ?_
    refine ⟨fun h => absurd (h3.trans h) c6, fun _ => ?_⟩
    obtain ⟨t1, t2, t3⟩ := h22
    have e0 : mm_wr S22 2 x.toNatClampNeg 1 (mm_B 0) = S (mm_B 0) := by rw [mm_wr_orow _ _ (by unfold mm_B; omega)]; exact t3 _ (by unfold mm_B; omega)
    refine ⟨by rw [e0]; exact hq.2.2.1.2.2.2.1, bo_eq (S := S22) ⟨hq.1, hq.2.1, t1, fun k hk => (t2 k hk).trans (hq.2.2.2 k hk)⟩ (fun j hj _ => mm_wr_orow _ _ (by unfold mm_B at hj; omega)), mm_wr_s _ _ _ _, fun j k hj hj2 => by rw [mm_wr_n _ _ hj, t3 j hj2]⟩
  -- f@6 path f
  · refine vv_bipush (pc := 9) (v := (-2)) dX4_save_9 (by decide) ?_
    refine vr_i (pc := 11) dX4_save_11 ?_
    exact ⟨fun _ => ⟨rfl, rfl⟩, fun h => absurd (h3.symm.trans c6) h⟩
set_option maxRecDepth 100000 in
set_option maxHeartbeats 4000000 in
theorem c_X4_restore (l : Launch) (G : gG) {q q2 : St} {kk : Nat} {hs : Nat → St} (S : Mem) (hq : bo S 0 q) (hh : ch S kk kk hs) (x : Int32) (hs2 : sp_in x 0 1 ≠ 0 → S 2 x.toNatClampNeg ≠ 0 → bo S (2 + x.toNatClampNeg) q2 ∧ sp_err (q2.2 2) = 0) : mm_C l G yX4_restore cX4_restore 2 (some .int) (mm_rm 3 83) [.ref (gad G 0), .int x] S (mm_Qi G (fun r S2 => (sp_in x 0 1 = 0 → r = -2 ∧ S2 = S) ∧ (sp_in x 0 1 ≠ 0 → (S 2 x.toNatClampNeg = 0 → r = -5 ∧ S2 = S) ∧ (S 2 x.toNatClampNeg ≠ 0 → mx S S2 q kk hs r (q2.2 2, q2))))) := by
  refine mm_ofV (own := RX4) (by decide +kernel) rfl (Nat.le_of_ble_eq_true rfl) (ls0 := [(0, .ref (gad G 0)), (1, .int x)]) rfl ?_
  refine vv_iload_n (pc := 0) 1 dX4_restore_0 rfl rfl ?_
  refine vv_iconst (pc := 1) (v := 0) dX4_restore_1 (by decide) ?_
  refine vv_iconst (pc := 2) (v := 1) dX4_restore_2 (by decide) ?_
  refine vc_Si (pc := 3) (c_X4_within l G _ _ _ _) mw_M_X4_177 my_X4_within ⟨by decide, by decide⟩ rfl rfl (Nat.le_of_ble_eq_true rfl) dX4_restore_3 (fun r3 S3 h3 => ?_)
  obtain ⟨qS3, h3⟩ := h3
  replace qS3 := qS3.symm
  subst qS3
  refine vv_if_ne (pc := 6) (tgt := 12) dX4_restore_6 (by decide) (fun c6 => ?_) (fun c6 => ?_)
  -- t@6 path t
  · have c6b := c6
    rw [h3, sp_in_iff, show (0 : Int32).toInt = 0 by decide, show (1 : Int32).toInt = 1 by decide] at c6b
    have hx : x = nI x.toNatClampNeg := sp_nI (by omega)
    have hxl := sp_cl (x := x) (by omega)
    have hx2 : x.toNatClampNeg < 2 := by omega
    have hx11 : 2 + x.toNatClampNeg < 11 := by omega
    refine vv_aload_n (pc := 12) 0 dX4_restore_12 rfl rfl ?_
    refine vg_X4_saved (pc := 13) mw_F_X4_30 dX4_restore_13 ?_
    refine vv_iload_n (pc := 16) 1 dX4_restore_16 rfl rfl ?_
    refine vl_2 (pc := 17) (sp_vin hx hx2 (by decide)) dX4_restore_17 ?_
    refine vv_if_ne (pc := 18) (tgt := 24) dX4_restore_18 (by decide) (fun c18 => ?_) (fun c18 => ?_)
    -- t@18 path tt
    · obtain ⟨hq2, he2⟩ := hs2 (fun h => c6 (h3.trans h)) c18
      refine vv_aload_n (pc := 24) 0 dX4_restore_24 rfl rfl ?_
      refine vg_X4_history (pc := 25) mw_F_X4_22 dX4_restore_25 ?_
      refine vv_aload_n (pc := 28) 0 dX4_restore_28 rfl rfl ?_
      refine vg_X4_bridge (pc := 29) mw_F_X4_10 dX4_restore_29 ?_
      refine vc_Vv (pc := 32) (c_X1_note l G (b2 := 0) (C := q.1) (z := q.2) _ (by decide) hh hq) mw_M_X4_41 my_X1_note mm_rv_X1 ⟨by decide, by decide⟩ rfl rfl (Nat.le_of_ble_eq_true rfl) dX4_restore_32 (fun S32 h32 => ?_)
      have hq32 := note_bo (b := 2 + x.toNatClampNeg) (by omega) hq2 h32.2
      refine vv_aload_n (pc := 35) 0 dX4_restore_35 rfl rfl ?_
      refine vg_X4_bridge (pc := 36) mw_F_X4_10 dX4_restore_36 ?_
      refine vv_aload_n (pc := 39) 0 dX4_restore_39 rfl rfl ?_
      refine vg_X4_slots (pc := 40) mw_F_X4_26 dX4_restore_40 ?_
      refine vv_iload_n (pc := 43) 1 dX4_restore_43 rfl rfl ?_
      refine vl_1 (pc := 44) (sp_vin hx hx2 (by decide)) dX4_restore_44 ?_
      refine vc_Vv (pc := 45) (c_X0_takeFrom l G (b := 0) (by decide) (by assumption) (by omega) _ hq32.1 hq32.2.1 hq32.2.2.1) mw_M_X4_191 my_X0_takeFrom (mm_rv_B (by decide)) ⟨by decide, by decide⟩ rfl rfl (Nat.le_of_ble_eq_true rfl) dX4_restore_45 (fun S45 h45 => ?_)
      have hb48 : bo S45 0 q2 := ⟨hq2.1, hq2.2.1, h45.1, fun k hk => (h45.2.1 k hk).trans (hq32.2.2.2 k hk)⟩
      refine vv_aload_n (pc := 48) 0 dX4_restore_48 rfl rfl ?_
      refine vg_X4_history (pc := 49) mw_F_X4_22 dX4_restore_49 ?_
      refine vv_aload_n (pc := 52) 0 dX4_restore_52 rfl rfl ?_
      refine vg_X4_bridge (pc := 53) mw_F_X4_10 dX4_restore_53 ?_
      refine vg_X0_day (pc := 56) (by decide) mw_F_X4_147 dX4_restore_56 ?_
      rw [hb48.2.2.1.2.2.2.1]
      refine vc_Vi (pc := 59) (c_X1_keepUnlessError l G _ (note_ch h32.1 h45.2.2) _) mw_M_X4_49 my_X1_keepUnlessError mm_rv_X1 ⟨by decide, by decide⟩ rfl rfl (Nat.le_of_ble_eq_true rfl) dX4_restore_59 (fun r59 S59 h59 => ?_)
      refine vr_i (pc := 62) dX4_restore_62 ?_
      exact ⟨fun h => absurd (h3.trans h) c6, fun _ => ⟨fun h => absurd h c18, fun _ => mx_of (o := (q2.2 2, q2)) h32 rfl hb48 h45.2.2 h59⟩⟩
    -- f@18 path tf
    · refine vv_bipush (pc := 21) (v := (-5)) dX4_restore_21 (by decide) ?_
      refine vr_i (pc := 23) dX4_restore_23 ?_
      exact ⟨fun h => absurd (h3.trans h) c6, fun _ => ⟨fun _ => ⟨rfl, rfl⟩, fun h => absurd c18 h⟩⟩
  -- f@6 path f
  · refine vv_bipush (pc := 9) (v := (-2)) dX4_restore_9 (by decide) ?_
    refine vr_i (pc := 11) dX4_restore_11 ?_
    exact ⟨fun _ => ⟨rfl, rfl⟩, fun h => absurd (h3.symm.trans c6) h⟩
