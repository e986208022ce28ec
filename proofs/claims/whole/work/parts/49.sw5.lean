theorem lk_ans {x : Int32} (h1 : ¬ x = 100) (h2 : ¬ x = 103) (h3 : ¬ x = 104) (h4 : ¬ x = 112) (h5 : ¬ x = 116) : Op.lookupswitch.offset [(100, 87), (103, 51), (104, 60), (112, 77), (116, 68)] 96 x.toInt = 96 := by
  have n : ∀ j : Int32, ¬ x = j → ¬ x.toInt = j.toInt := fun j h e => h (Int32.toInt_inj.mp e)
  have a1 := n _ h1
  have a2 := n _ h2
  have a3 := n _ h3
  have a4 := n _ h4
  have a5 := n _ h5
  rw [show (100 : Int32).toInt = 100 by decide] at a1
  rw [show (103 : Int32).toInt = 103 by decide] at a2
  rw [show (104 : Int32).toInt = 104 by decide] at a3
  rw [show (112 : Int32).toInt = 112 by decide] at a4
  rw [show (116 : Int32).toInt = 116 by decide] at a5
  simp [Op.lookupswitch.offset, Ne.symm a1, Ne.symm a2, Ne.symm a3, Ne.symm a4, Ne.symm a5, a1, a2, a3, a4, a5]
set_option maxRecDepth 100000 in
set_option maxHeartbeats 4000000 in
theorem c_X4_put (l : Launch) (G : gG) (S : Mem) {u L : Nat} {x : Int64} (hx : x = lN u) (hu : u < 2 ^ 64) (hL : S 5 1 = nI L) (hL60 : L ≤ 60) : mm_C l G yX4_put cX4_put 3 (some .int) (mm_rm 3 69) [.ref (gad G 0), .long x] S (mm_Qi G (fun r S2 => r = op_put (S 6) L u ∧ (sp_err r ≠ 0 → S2 = S) ∧ (sp_err r = 0 → S2 5 1 = nI (L + sp_nch u 8 0) ∧ S2 6 = sp_put (S 6) L u (sp_nch u 8 0) ∧ L + sp_nch u 8 0 ≤ 60 ∧ sp_nch u 8 0 ≠ 0) ∧ ∀ j k, (j ≠ 5 ∨ k ≠ 1) → j ≠ 6 → S2 j k = S j k)) := by
  refine mm_ofV (own := RX4) (by decide +kernel) rfl (Nat.le_of_ble_eq_true rfl) (ls0 := [(0, .ref (gad G 0)), (1, .long x)]) rfl ?_
  refine vv_aload_n (pc := 0) 0 dX4_put_0 rfl rfl ?_
  refine vg_X4_pad (pc := 1) mw_F_X4_37 dX4_put_1 ?_
  refine vv_lload_n (pc := 4) 1 dX4_put_4 rfl rfl ?_
  refine vc_Vi (pc := 5) (c_X2_append l G _ (by assumption) (by assumption) (by assumption) (by assumption)) mw_M_X4_209 my_X2_append mm_rv_X2 ⟨by decide, by decide⟩ rfl rfl (Nat.le_of_ble_eq_true rfl) dX4_put_5 (fun r5 S5 h5 => ?_)
  refine vr_i (pc := 8) dX4_put_8 ?_
  exact h5
set_option maxRecDepth 100000 in
set_option maxHeartbeats 4000000 in
theorem c_X4_wipe (l : Launch) (G : gG) (S : Mem) : mm_C l G yX4_wipe cX4_wipe 1 (some .int) (mm_rm 1 21) [.ref (gad G 0)] S (mm_Qi G (fun r S2 => r = S 5 1 ∧ S2 = mm_wr S 5 1 0)) := by
  refine mm_ofV (own := RX4) (by decide +kernel) rfl (Nat.le_of_ble_eq_true rfl) (ls0 := [(0, .ref (gad G 0))]) rfl ?_
  refine vv_aload_n (pc := 0) 0 dX4_wipe_0 rfl rfl ?_
  refine vg_X4_pad (pc := 1) mw_F_X4_37 dX4_wipe_1 ?_
  refine vc_Vi (pc := 4) (c_X2_empty l G _) mw_M_X4_213 my_X2_empty mm_rv_X2 ⟨by decide, by decide⟩ rfl rfl (Nat.le_of_ble_eq_true rfl) dX4_wipe_4 (fun r4 S4 h4 => ?_)
  refine vr_i (pc := 7) dX4_wipe_7 ?_
  exact h4
set_option maxRecDepth 100000 in
set_option maxHeartbeats 4000000 in
theorem c_X4_fault (l : Launch) (G : gG) (S : Mem) {L : Nat} (hL : S 5 1 = nI L) (hL60 : L ≤ 60) : mm_C l G yX4_fault cX4_fault 1 (some .int) (mm_rm 4 84) [.ref (gad G 0)] S (mm_Qi G (fun r S2 => r = op_ff (S 6) L (S 5 8) ∧ ∃ d e v, S2 = mm_pd S d e v)) := by
  refine mm_ofV (own := RX4) (by decide +kernel) rfl (Nat.le_of_ble_eq_true rfl) (ls0 := [(0, .ref (gad G 0))]) rfl ?_
  refine vv_aload_n (pc := 0) 0 dX4_fault_0 rfl rfl ?_
  refine vg_X4_pad (pc := 1) mw_F_X4_37 dX4_fault_1 ?_
  refine vc_Vi (pc := 4) (c_X2_firstFault l G _ (by assumption) (by assumption)) mw_M_X4_216 my_X2_firstFault mm_rv_X2 ⟨by decide, by decide⟩ rfl rfl (Nat.le_of_ble_eq_true rfl) dX4_fault_4 (fun r4 S4 h4 => ?_)
  refine vr_i (pc := 7) dX4_fault_7 ?_
  exact h4
set_option maxRecDepth 100000 in
set_option maxHeartbeats 4000000 in
theorem c_X4_answerTo (l : Launch) (G : gG) {q : St} (S : Mem) (hg : gd q) (hq : bo S 0 q) (hday : (q.2 2).toInt ≤ 1000000000) (x1 x2 x3 : Int32) : mm_C l G yX4_answerTo cX4_answerTo 4 (some .int) (mm_rm 4 96) [.ref (gad G 0), .int x1, .int x2, .int x3] S (mm_Qi G (fun r S2 => r = (ord q x1 x2 x3).1 ∧ bo S2 0 (ord q x1 x2 x3).2 ∧ fr_ 0 S S2)) := by
  refine mm_ofV (own := RX4) (by decide +kernel) rfl (Nat.le_of_ble_eq_true rfl) (ls0 := [(0, .ref (gad G 0)), (1, .int x1), (2, .int x2), (3, .int x3)]) rfl ?_
  refine vv_iload_n (pc := 0) 1 dX4_answerTo_0 rfl rfl ?_
  refine vv_topi (fun sw1 esw1 => ?_)
  by_cases qsw1_100 : sw1 = 100
  · refine vv_lookup (pc := 1) (off := 87) (tgt := 88) dX4_answerTo_1 (by decide +kernel) (by rw [qsw1_100]; decide +kernel) (by decide) ?_
    -- path <100>
    refine vv_aload_n (pc := 88) 0 dX4_answerTo_88 rfl rfl ?_
    refine vg_X4_bridge (pc := 89) mw_F_X4_10 dX4_answerTo_89 ?_
    refine vv_iload_n (pc := 92) 2 dX4_answerTo_92 rfl rfl ?_
    refine vc_Vi (pc := 93) (c_X0_letPass l G (b := 0) (C := q.1) (z := q.2) (by decide) _ hg.1 hq.2.2.1 hq.2.2.2 hg.2 hday _) mw_M_X4_60 my_X0_letPass (mm_rv_B (by decide)) ⟨by decide, by decide⟩ rfl rfl (Nat.le_of_ble_eq_true rfl) dX4_answerTo_93 (fun r93 S93 h93 => ?_)
    refine vr_i (pc := 96) dX4_answerTo_96 ?_
    have hk : x1 = 100 := esw1 ▸ qsw1_100
    rw [show ord q x1 x2 x3 = os_days q x2 from by rw [hk]; rfl]
    exact ⟨h93.1, ⟨hq.1, op_days_3 hq.2.1, h93.2.1, h93.2.2.1⟩, h93.2.2.2⟩
  by_cases qsw1_103 : sw1 = 103
  · refine vv_lookup (pc := 1) (off := 51) (tgt := 52) dX4_answerTo_1 (by decide +kernel) (by rw [qsw1_103]; decide +kernel) (by decide) ?_
    -- path <103>
    refine vv_aload_n (pc := 52) 0 dX4_answerTo_52 rfl rfl ?_
    refine vg_X4_bridge (pc := 53) mw_F_X4_10 dX4_answerTo_53 ?_
    refine vv_iload_n (pc := 56) 2 dX4_answerTo_56 rfl rfl ?_
    refine vc_Vi (pc := 57) (c_X0_goTo l G (b := 0) (C := q.1) (z := q.2) (by decide) _ hg.1 hq.2.2.1 hq.2.2.2 _) mw_M_X4_63 my_X0_goTo (mm_rv_B (by decide)) ⟨by decide, by decide⟩ rfl rfl (Nat.le_of_ble_eq_true rfl) dX4_answerTo_57 (fun r57 S57 h57 => ?_)
    refine vr_i (pc := 60) dX4_answerTo_60 ?_
    have hk : x1 = 103 := esw1 ▸ qsw1_103
    rw [show ord q x1 x2 x3 = os_walk q x2 from by rw [hk]; rfl]
    exact ⟨h57.1, ⟨hq.1, op_walk_3 hq.2.1, h57.2.1, h57.2.2.1⟩, h57.2.2.2⟩
  by_cases qsw1_104 : sw1 = 104
  · refine vv_lookup (pc := 1) (off := 60) (tgt := 61) dX4_answerTo_1 (by decide +kernel) (by rw [qsw1_104]; decide +kernel) (by decide) ?_
    -- path <104>
    refine vv_aload_n (pc := 61) 0 dX4_answerTo_61 rfl rfl ?_
    refine vg_X4_bridge (pc := 62) mw_F_X4_10 dX4_answerTo_62 ?_
    refine vc_Vi (pc := 65) (c_X0_listen l G (b := 0) (C := q.1) (z := q.2) (by decide) _ hg.1 hq.2.2.1 hq.2.2.2) mw_M_X4_66 my_X0_listen (mm_rv_B (by decide)) ⟨by decide, by decide⟩ rfl rfl (Nat.le_of_ble_eq_true rfl) dX4_answerTo_65 (fun r65 S65 h65 => ?_)
    refine vr_i (pc := 68) dX4_answerTo_68 ?_
    have hk : x1 = 104 := esw1 ▸ qsw1_104
    rw [show ord q x1 x2 x3 = os_hear q from by rw [hk]; rfl]
    exact ⟨h65.1, ⟨hq.1, op_hear_3 hq.2.1, h65.2.1, h65.2.2.1⟩, h65.2.2.2⟩
  by_cases qsw1_112 : sw1 = 112
  · refine vv_lookup (pc := 1) (off := 77) (tgt := 78) dX4_answerTo_1 (by decide +kernel) (by rw [qsw1_112]; decide +kernel) (by decide) ?_
    -- path <112>
    refine vv_aload_n (pc := 78) 0 dX4_answerTo_78 rfl rfl ?_
    refine vg_X4_bridge (pc := 79) mw_F_X4_10 dX4_answerTo_79 ?_
    refine vv_iload_n (pc := 82) 2 dX4_answerTo_82 rfl rfl ?_
    refine vv_iload_n (pc := 83) 3 dX4_answerTo_83 rfl rfl ?_
    refine vc_Vi (pc := 84) (c_X0_changeLoad l G (b := 0) (C := q.1) (z := q.2) (by decide) _ hg.1 hq.2.2.1 hq.2.2.2 _ _) mw_M_X4_57 my_X0_changeLoad (mm_rv_B (by decide)) ⟨by decide, by decide⟩ rfl rfl (Nat.le_of_ble_eq_true rfl) dX4_answerTo_84 (fun r84 S84 h84 => ?_)
    refine vr_i (pc := 87) dX4_answerTo_87 ?_
    have hk : x1 = 112 := esw1 ▸ qsw1_112
    rw [show ord q x1 x2 x3 = os_load q x2 x3 from by rw [hk]; rfl]
    exact ⟨h84.1, ⟨hq.1, op_load_3 hq.2.1, h84.2.1, h84.2.2.1⟩, h84.2.2.2⟩
  by_cases qsw1_116 : sw1 = 116
  · refine vv_lookup (pc := 1) (off := 68) (tgt := 69) dX4_answerTo_1 (by decide +kernel) (by rw [qsw1_116]; decide +kernel) (by decide) ?_
    -- path <116>
    refine vv_aload_n (pc := 69) 0 dX4_answerTo_69 rfl rfl ?_
    refine vg_X4_bridge (pc := 70) mw_F_X4_10 dX4_answerTo_70 ?_
    refine vv_iload_n (pc := 73) 2 dX4_answerTo_73 rfl rfl ?_
    refine vc_Vi (pc := 74) (c_X0_changeTension l G (b := 0) (C := q.1) (z := q.2) (by decide) _ hg.1 hq.2.2.1 hq.2.2.2 _) mw_M_X4_70 my_X0_changeTension (mm_rv_B (by decide)) ⟨by decide, by decide⟩ rfl rfl (Nat.le_of_ble_eq_true rfl) dX4_answerTo_74 (fun r74 S74 h74 => ?_)
    refine vr_i (pc := 77) dX4_answerTo_77 ?_
    have hk : x1 = 116 := esw1 ▸ qsw1_116
    rw [show ord q x1 x2 x3 = os_tight q x2 from by rw [hk]; rfl]
    exact ⟨h74.1, ⟨hq.1, op_tight_3 hq.2.1, h74.2.1, h74.2.2.1⟩, h74.2.2.2⟩
  refine vv_lookup (pc := 1) (off := 96) (tgt := 97) dX4_answerTo_1 (by decide +kernel) (lk_ans qsw1_100 qsw1_103 qsw1_104 qsw1_112 qsw1_116) (by decide) ?_
  refine vv_bipush (pc := 97) (v := (-3)) dX4_answerTo_97 (by decide) ?_
  refine vr_i (pc := 99) dX4_answerTo_99 ?_
  rw [show ord q x1 x2 x3 = (-3, q) from by unfold ord; rw [if_neg (esw1 ▸ qsw1_100), if_neg (esw1 ▸ qsw1_103), if_neg (esw1 ▸ qsw1_104), if_neg (esw1 ▸ qsw1_112), if_neg (esw1 ▸ qsw1_116)]]
  exact ⟨rfl, hq, fr_refl _ _⟩
