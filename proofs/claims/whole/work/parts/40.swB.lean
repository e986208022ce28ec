set_option maxRecDepth 100000 in
set_option maxHeartbeats 4000000 in
theorem c_X4_ofWire (l : Launch) (G : gG) {q : St} (S : Mem) (hg : gd q) (hq : bo S 0 q) (x1 x2 : Int32) : mm_C l G yX4_ofWire cX4_ofWire 4 (some .int) (mm_rm 2 49) [.ref (gad G 0), .int x1, .int x2] S (mm_Qi G (fun r S2 => S2 = S ∧ r = rd_of q x1 x2)) := by
  obtain ⟨C, z⟩ := q
  obtain ⟨hwf, hcalm⟩ := id hg
  dsimp only at hwf hcalm
  obtain ⟨hC, h3, hr, ht⟩ := id hq
  dsimp only at hC h3 hr ht
  obtain ⟨g1, g2, g3, g4, g5, g6, g7, g8, g9⟩ := id hr
  refine mm_ofV (own := RX4) (by decide +kernel) rfl (Nat.le_of_ble_eq_true rfl) (ls0 := [(0, .ref (gad G 0)), (1, .int x1), (2, .int x2)]) rfl ?_
  refine vv_aload_n (pc := 0) 0 dX4_ofWire_0 rfl rfl ?_
  refine vg_X4_bridge (pc := 1) mw_F_X4_10 dX4_ofWire_1 ?_
  refine vv_iload_n (pc := 4) 1 dX4_ofWire_4 rfl rfl ?_
  refine vc_Vq (pc := 5) (c_X0_wireNumbered l G (by decide) _ hC (g1.trans h3) _) mw_M_X4_73 my_X0_wireNumbered (mm_rv_B (by decide)) ⟨by decide, by decide⟩ rfl rfl (Nat.le_of_ble_eq_true rfl) dX4_ofWire_5 (fun r5 S5 h5 => ?_)
  obtain ⟨qS5, h5⟩ := h5
  replace qS5 := qS5.symm
  subst qS5
  rcases sp_rf_cases G 0 (sp_wi C x1) with ⟨gH, eH⟩ | ⟨gH, eH⟩ <;> rw [eH] at h5 <;> subst h5
  -- null@5 path n
  · refine vv_astore_nN (pc := 8) (i := 3) (ls' := [(3, .null), (0, .ref (gad G 0)), (1, .int x1), (2, .int x2)]) dX4_ofWire_8 rfl (by decide) rfl ?_
    refine vv_aload_nN (pc := 9) 0 dX4_ofWire_9 rfl rfl ?_
    refine vv_ifnonnullN (pc := 10) dX4_ofWire_10 ?_
    refine vv_iconst (pc := 13) (v := (-1)) dX4_ofWire_13 (by decide) ?_
    refine vr_i (pc := 14) dX4_ofWire_14 ?_
    exact ⟨rfl, by unfold rd_of; rw [if_pos gH]⟩
  -- ref@5 path r
  · obtain ⟨hi, hxi⟩ := sp_wi_lt hC gH
    have hi8 : sp_wi C x1 < 8 := by omega
    obtain ⟨a1, a2, a3, a4, a5, a6, a7, a8, a9, a10, a11⟩ := g9 _ hi
    have hww := hwf.2.1 _ hi
    refine vv_astore_n (pc := 8) (i := 3) (ls' := [(3, _), (0, .ref (gad G 0)), (1, .int x1), (2, .int x2)]) dX4_ofWire_8 rfl (by decide) rfl ?_
    refine vv_aload_n (pc := 9) 0 dX4_ofWire_9 rfl rfl ?_
    refine vv_ifnonnull (pc := 10) (tgt := 15) dX4_ofWire_10 (by decide) ?_
    refine vv_iload_n (pc := 15) 3 dX4_ofWire_15 rfl rfl ?_
    refine vv_topi (fun sw16 esw16 => ?_)
    by_cases qsw16 : sw16.toInt < 0 ∨ 10 < sw16.toInt
    · refine vv_tableOut (pc := 16) (tgt := 151) dX4_ofWire_16 qsw16 (by decide) ?_
      refine vv_bipush (pc := 151) (v := (-2)) dX4_ofWire_151 (by decide) ?_
      refine vr_i (pc := 153) dX4_ofWire_153 ?_
      refine ⟨rfl, ?_⟩
      unfold rd_of
      rw [if_neg gH]
      have hk : ∀ j : Int32, 0 ≤ j.toInt → j.toInt ≤ 10 → x2 ≠ j := fun j h0 h1 e => by rw [esw16, e] at qsw16; omega
      unfold rd_of1
      rw [if_neg (hk 0 (by decide) (by decide))]
      rw [if_neg (hk 1 (by decide) (by decide))]
      rw [if_neg (hk 2 (by decide) (by decide))]
      rw [if_neg (hk 3 (by decide) (by decide))]
      rw [if_neg (hk 4 (by decide) (by decide))]
      rw [if_neg (hk 5 (by decide) (by decide))]
      rw [if_neg (hk 6 (by decide) (by decide))]
      rw [if_neg (hk 7 (by decide) (by decide))]
      rw [if_neg (hk 8 (by decide) (by decide))]
      rw [if_neg (hk 9 (by decide) (by decide))]
      rw [if_neg (hk 10 (by decide) (by decide))]
    · have hsw16 : sw16.toInt = 0 ∨ sw16.toInt = 1 ∨ sw16.toInt = 2 ∨ sw16.toInt = 3 ∨ sw16.toInt = 4 ∨ sw16.toInt = 5 ∨ sw16.toInt = 6 ∨ sw16.toInt = 7 ∨ sw16.toInt = 8 ∨ sw16.toInt = 9 ∨ sw16.toInt = 10 := by omega
      rcases hsw16 with ksw16 | ksw16 | ksw16 | ksw16 | ksw16 | ksw16 | ksw16 | ksw16 | ksw16 | ksw16 | ksw16
      · refine vv_tableIn (pc := 16) (off := 60) (tgt := 76) dX4_ofWire_16 (by omega) (by omega) (by rw [ksw16]; rfl) (by decide) ?_
        -- path r<0>
        refine vv_aload_n (pc := 76) 0 dX4_ofWire_76 rfl rfl ?_
        refine vg_X3_place (pc := 77) (by first | assumption | decide) (by assumption) mw_F_X4_77 dX4_ofWire_77 ?_
        refine vr_i (pc := 80) dX4_ofWire_80 ?_
        have hk : x2 = 0 := i32_of (n := 0) 0 (by rw [← esw16]; exact ksw16) (by decide)
        subst hk
        refine ⟨rfl, ?_⟩
        unfold rd_of
        rw [if_neg gH]
        show _ = rd_of1 C z (sp_wi C x1) 0
        rw [show rd_of1 C z (sp_wi C x1) 0 = sp_f z (sp_wi C x1) 0 from rfl]
        exact a1
      · refine vv_tableIn (pc := 16) (off := 65) (tgt := 81) dX4_ofWire_16 (by omega) (by omega) (by rw [ksw16]; rfl) (by decide) ?_
        -- path r<1>
        refine vv_aload_n (pc := 81) 0 dX4_ofWire_81 rfl rfl ?_
        refine vg_X3_length (pc := 82) (by first | assumption | decide) (by assumption) mw_F_X4_83 dX4_ofWire_82 ?_
        refine vr_i (pc := 85) dX4_ofWire_85 ?_
        have hk : x2 = 1 := i32_of (n := 1) 1 (by rw [← esw16]; exact ksw16) (by decide)
        subst hk
        refine ⟨rfl, ?_⟩
        unfold rd_of
        rw [if_neg gH]
        show _ = rd_of1 C z (sp_wi C x1) 1
        rw [show rd_of1 C z (sp_wi C x1) 1 = sp_f z (sp_wi C x1) 1 from rfl]
        exact a2
      · refine vv_tableIn (pc := 16) (off := 70) (tgt := 86) dX4_ofWire_16 (by omega) (by omega) (by rw [ksw16]; rfl) (by decide) ?_
        -- path r<2>
        refine vv_aload_n (pc := 86) 0 dX4_ofWire_86 rfl rfl ?_
        refine vg_X3_mass (pc := 87) (by first | assumption | decide) (by assumption) mw_F_X4_86 dX4_ofWire_87 ?_
        refine vr_i (pc := 90) dX4_ofWire_90 ?_
        have hk : x2 = 2 := i32_of (n := 2) 2 (by rw [← esw16]; exact ksw16) (by decide)
        subst hk
        refine ⟨rfl, ?_⟩
        unfold rd_of
        rw [if_neg gH]
        show _ = rd_of1 C z (sp_wi C x1) 2
        rw [show rd_of1 C z (sp_wi C x1) 2 = sp_f z (sp_wi C x1) 2 from rfl]
        exact a3
      · refine vv_tableIn (pc := 16) (off := 75) (tgt := 91) dX4_ofWire_16 (by omega) (by omega) (by rw [ksw16]; rfl) (by decide) ?_
        -- path r<3>
        refine vv_aload_n (pc := 91) 0 dX4_ofWire_91 rfl rfl ?_
        refine vg_X3_strength (pc := 92) (by first | assumption | decide) (by assumption) mw_F_X4_89 dX4_ofWire_92 ?_
        refine vr_i (pc := 95) dX4_ofWire_95 ?_
        have hk : x2 = 3 := i32_of (n := 3) 3 (by rw [← esw16]; exact ksw16) (by decide)
        subst hk
        refine ⟨rfl, ?_⟩
        unfold rd_of
        rw [if_neg gH]
        show _ = rd_of1 C z (sp_wi C x1) 3
        rw [show rd_of1 C z (sp_wi C x1) 3 = sp_f z (sp_wi C x1) 3 from rfl]
        exact a4
      · refine vv_tableIn (pc := 16) (off := 80) (tgt := 96) dX4_ofWire_16 (by omega) (by omega) (by rw [ksw16]; rfl) (by decide) ?_
        -- path r<4>
        refine vv_aload_n (pc := 96) 0 dX4_ofWire_96 rfl rfl ?_
        refine vg_X3_tension (pc := 97) (by first | assumption | decide) (by assumption) mw_F_X4_92 dX4_ofWire_97 ?_
        refine vr_i (pc := 100) dX4_ofWire_100 ?_
        have hk : x2 = 4 := i32_of (n := 4) 4 (by rw [← esw16]; exact ksw16) (by decide)
        subst hk
        refine ⟨rfl, ?_⟩
        unfold rd_of
        rw [if_neg gH]
        show _ = rd_of1 C z (sp_wi C x1) 4
        rw [show rd_of1 C z (sp_wi C x1) 4 = sp_f z (sp_wi C x1) 4 from rfl]
        exact a5
      · refine vv_tableIn (pc := 16) (off := 85) (tgt := 101) dX4_ofWire_16 (by omega) (by omega) (by rw [ksw16]; rfl) (by decide) ?_
        -- path r<5>
        refine vv_aload_n (pc := 101) 0 dX4_ofWire_101 rfl rfl ?_
        refine vg_X3_broken (pc := 102) (by first | assumption | decide) (by assumption) mw_F_X4_95 dX4_ofWire_102 ?_
        refine vc_Si (pc := 105) (c_X4_oneIf l G _ _) mw_M_X4_99 my_X4_oneIf ⟨by decide, by decide⟩ rfl rfl (Nat.le_of_ble_eq_true rfl) dX4_ofWire_105 (fun r105 S105 h105 => ?_)
        obtain ⟨qS105, h105⟩ := h105
        replace qS105 := qS105.symm
        subst qS105
        refine vr_i (pc := 108) dX4_ofWire_108 ?_
        have hk : x2 = 5 := i32_of (n := 5) 5 (by rw [← esw16]; exact ksw16) (by decide)
        subst hk
        refine ⟨rfl, ?_⟩
        unfold rd_of
        rw [if_neg gH]
        show _ = rd_of1 C z (sp_wi C x1) 5
        rw [show rd_of1 C z (sp_wi C x1) 5 = sp_f z (sp_wi C x1) 5 from rfl]
        rw [h105, a6]; exact sp_one_b hww.2.2.2.2.2.2.2.2.2.2.1
      · refine vv_tableIn (pc := 16) (off := 93) (tgt := 109) dX4_ofWire_16 (by omega) (by omega) (by rw [ksw16]; rfl) (by decide) ?_
        -- path r<6>
        refine vv_aload_n (pc := 109) 0 dX4_ofWire_109 rfl rfl ?_
        refine vv_aload_n (pc := 110) 0 dX4_ofWire_110 rfl rfl ?_
        refine vg_X3_tension (pc := 111) (by first | assumption | decide) (by assumption) mw_F_X4_92 dX4_ofWire_111 ?_
        refine vc_Vi (pc := 114) (c_X3_pitchWith l G (by decide) (by assumption) _ _ (by rw [a2, a3, a5]; exact ⟨hww.2.2.1, hww.2.2.2.1, hww.2.2.2.2.1, hww.2.2.2.2.2.1, hww.2.2.2.2.2.2.2.2.1, hww.2.2.2.2.2.2.2.2.2.1⟩)) mw_M_X4_103 my_X3_pitchWith (mm_rv_W (by first | assumption | decide) (by assumption)) ⟨by decide, by decide⟩ rfl rfl (Nat.le_of_ble_eq_true rfl) dX4_ofWire_114 (fun r114 S114 h114 => ?_)
        obtain ⟨qS114, h114⟩ := h114
        replace qS114 := qS114.symm
        subst qS114
        refine vr_i (pc := 117) dX4_ofWire_117 ?_
        have hk : x2 = 6 := i32_of (n := 6) 6 (by rw [← esw16]; exact ksw16) (by decide)
        subst hk
        refine ⟨rfl, ?_⟩
        unfold rd_of
        rw [if_neg gH]
        show _ = rd_of1 C z (sp_wi C x1) 6
        rw [show rd_of1 C z (sp_wi C x1) 6 = sp_pt (sp_f z (sp_wi C x1) 1) (sp_f z (sp_wi C x1) 2) (sp_f z (sp_wi C x1) 4) from rfl]
        rw [h114, a2, a3, a5]
      · refine vv_tableIn (pc := 16) (off := 102) (tgt := 118) dX4_ofWire_16 (by omega) (by omega) (by rw [ksw16]; rfl) (by decide) ?_
        -- path r<7>
        refine vv_aload_n (pc := 118) 0 dX4_ofWire_118 rfl rfl ?_
        refine vg_X3_task (pc := 119) (by first | assumption | decide) (by assumption) mw_F_X4_106 dX4_ofWire_119 ?_
        refine vr_i (pc := 122) dX4_ofWire_122 ?_
        have hk : x2 = 7 := i32_of (n := 7) 7 (by rw [← esw16]; exact ksw16) (by decide)
        subst hk
        refine ⟨rfl, ?_⟩
        unfold rd_of
        rw [if_neg gH]
        show _ = rd_of1 C z (sp_wi C x1) 7
        rw [show rd_of1 C z (sp_wi C x1) 7 = sp_tk z 5 C (sp_wi C x1) from rfl]
        exact ht _ hi
      · refine vv_tableIn (pc := 16) (off := 107) (tgt := 123) dX4_ofWire_16 (by omega) (by omega) (by rw [ksw16]; rfl) (by decide) ?_
        -- path r<8>
        refine vv_aload_n (pc := 123) 0 dX4_ofWire_123 rfl rfl ?_
        refine vc_Vi (pc := 124) (c_X3_isSlack l G (by first | assumption | decide) (by assumption) _) mw_M_X4_109 my_X3_isSlack (mm_rv_W (by first | assumption | decide) (by assumption)) ⟨by decide, by decide⟩ rfl rfl (Nat.le_of_ble_eq_true rfl) dX4_ofWire_124 (fun r124 S124 h124 => ?_)
        obtain ⟨qS124, h124⟩ := h124
        replace qS124 := qS124.symm
        subst qS124
        refine vc_Si (pc := 127) (c_X4_oneIf l G _ _) mw_M_X4_99 my_X4_oneIf ⟨by decide, by decide⟩ rfl rfl (Nat.le_of_ble_eq_true rfl) dX4_ofWire_127 (fun r127 S127 h127 => ?_)
        obtain ⟨qS127, h127⟩ := h127
        replace qS127 := qS127.symm
        subst qS127
        refine vr_i (pc := 130) dX4_ofWire_130 ?_
        have hk : x2 = 8 := i32_of (n := 8) 8 (by rw [← esw16]; exact ksw16) (by decide)
        subst hk
        refine ⟨rfl, ?_⟩
        unfold rd_of
        rw [if_neg gH]
        show _ = rd_of1 C z (sp_wi C x1) 8
        rw [show rd_of1 C z (sp_wi C x1) 8 = sp_g1 z C (sp_wi C x1) from rfl]
        rw [h127, h124]; unfold sp_wSl; rw [a6, a5, ht _ hi]; exact sp_one_if _
      · refine vv_tableIn (pc := 16) (off := 115) (tgt := 131) dX4_ofWire_16 (by omega) (by omega) (by rw [ksw16]; rfl) (by decide) ?_
        -- path r<9>
        refine vv_aload_n (pc := 131) 0 dX4_ofWire_131 rfl rfl ?_
        refine vv_aload_n (pc := 132) 1 dX4_ofWire_132 rfl rfl ?_
        refine vg_X4_bridge (pc := 133) mw_F_X4_10 dX4_ofWire_133 ?_
        refine vg_X0_spare (pc := 136) (by decide) mw_F_X4_113 dX4_ofWire_136 ?_
        refine vc_Vi (pc := 139) (c_X3_isTooTight l G (by first | assumption | decide) (by assumption) _ _) mw_M_X4_116 my_X3_isTooTight (mm_rv_W (by first | assumption | decide) (by assumption)) ⟨by decide, by decide⟩ rfl rfl (Nat.le_of_ble_eq_true rfl) dX4_ofWire_139 (fun r139 S139 h139 => ?_)
        obtain ⟨qS139, h139⟩ := h139
        replace qS139 := qS139.symm
        subst qS139
        refine vc_Si (pc := 142) (c_X4_oneIf l G _ _) mw_M_X4_99 my_X4_oneIf ⟨by decide, by decide⟩ rfl rfl (Nat.le_of_ble_eq_true rfl) dX4_ofWire_142 (fun r142 S142 h142 => ?_)
        obtain ⟨qS142, h142⟩ := h142
        replace qS142 := qS142.symm
        subst qS142
        refine vr_i (pc := 145) dX4_ofWire_145 ?_
        have hk : x2 = 9 := i32_of (n := 9) 9 (by rw [← esw16]; exact ksw16) (by decide)
        subst hk
        refine ⟨rfl, ?_⟩
        unfold rd_of
        rw [if_neg gH]
        show _ = rd_of1 C z (sp_wi C x1) 9
        rw [show rd_of1 C z (sp_wi C x1) 9 = sp_g2 z C (sp_wi C x1) from rfl]
        rw [h142, h139]; unfold sp_wTt; rw [a6, a5, ht _ hi, g3]; exact sp_one_if _
      · refine vv_tableIn (pc := 16) (off := 130) (tgt := 146) dX4_ofWire_16 (by omega) (by omega) (by rw [ksw16]; rfl) (by decide) ?_
        -- path r<10>
        refine vv_aload_n (pc := 146) 0 dX4_ofWire_146 rfl rfl ?_
        refine vg_X3_brokeOn (pc := 147) (by first | assumption | decide) (by assumption) mw_F_X4_120 dX4_ofWire_147 ?_
        refine vr_i (pc := 150) dX4_ofWire_150 ?_
        have hk : x2 = 10 := i32_of (n := 10) 10 (by rw [← esw16]; exact ksw16) (by decide)
        subst hk
        refine ⟨rfl, ?_⟩
        unfold rd_of
        rw [if_neg gH]
        show _ = rd_of1 C z (sp_wi C x1) 10
        rw [show rd_of1 C z (sp_wi C x1) 10 = sp_f z (sp_wi C x1) 6 from rfl]
        exact a7
set_option maxRecDepth 100000 in
set_option maxHeartbeats 4000000 in
theorem c_X4_known (l : Launch) (G : gG) {q : St} (S : Mem) (hg : gd q) (hq : bo S 0 q) (x1 x2 : Int32) : mm_C l G yX4_known cX4_known 4 (some .int) (mm_rm 3 84) [.ref (gad G 0), .int x1, .int x2] S (mm_Qi G (fun r S2 => fr_ 1 S S2 ∧ r = rd_kn q x1 x2)) := by
  obtain ⟨C, z⟩ := q
  obtain ⟨hwf, hcalm⟩ := id hg
  dsimp only at hwf hcalm
  obtain ⟨hC, h3, hr, ht⟩ := id hq
  dsimp only at hC h3 hr ht
  obtain ⟨g1, g2, g3, g4, g5, g6, g7, g8, g9⟩ := id hr
  refine mm_ofV (own := RX4) (by decide +kernel) rfl (Nat.le_of_ble_eq_true rfl) (ls0 := [(0, .ref (gad G 0)), (1, .int x1), (2, .int x2)]) rfl ?_
  refine vv_aload_n (pc := 0) 0 dX4_known_0 rfl rfl ?_
  refine vg_X4_trial (pc := 1) mw_F_X4_16 dX4_known_1 ?_
  refine vv_aload_n (pc := 4) 0 dX4_known_4 rfl rfl ?_
  refine vg_X4_bridge (pc := 5) mw_F_X4_10 dX4_known_5 ?_
  refine vc_Vv (pc := 8) (c_X0_takeAsHeard l G (b := 1) (b2 := 0) (by decide) (by decide) (by decide) _ hwf hr) mw_M_X4_123 my_X0_takeAsHeard (mm_rv_B (by decide)) ⟨by decide, by decide⟩ rfl rfl (Nat.le_of_ble_eq_true rfl) dX4_known_8 (fun S8 h8 => ?_)
  refine vv_aload_n (pc := 11) 0 dX4_known_11 rfl rfl ?_
  refine vg_X4_trial (pc := 12) mw_F_X4_16 dX4_known_12 ?_
  refine vv_iload_n (pc := 15) 1 dX4_known_15 rfl rfl ?_
  refine vc_Vq (pc := 16) (c_X0_wireNumbered l G (by decide) _ hC (h8.1.1.trans ((sp_hd_low C z (by decide)).trans h3)) _) mw_M_X4_73 my_X0_wireNumbered (mm_rv_B (by decide)) ⟨by decide, by decide⟩ rfl rfl (Nat.le_of_ble_eq_true rfl) dX4_known_16 (fun r16 S16 h16 => ?_)
  obtain ⟨qS16, h16⟩ := h16
  replace qS16 := qS16.symm
  subst qS16
  rcases sp_rf_cases G 1 (sp_wi C x1) with ⟨gH, eH⟩ | ⟨gH, eH⟩ <;> rw [eH] at h16 <;> subst h16
  -- null@16 path n
  · refine vv_astore_nN (pc := 19) (i := 3) (ls' := [(3, .null), (0, .ref (gad G 0)), (1, .int x1), (2, .int x2)]) dX4_known_19 rfl (by decide) rfl ?_
    refine vv_aload_nN (pc := 20) 0 dX4_known_20 rfl rfl ?_
    refine vv_ifnonnullN (pc := 21) dX4_known_21 ?_
    refine vv_iconst (pc := 24) (v := (-1)) dX4_known_24 (by decide) ?_
    refine vr_i (pc := 25) dX4_known_25 ?_
    exact ⟨h8.2.2, by unfold rd_kn; rw [if_pos gH]⟩
  -- ref@16 path r
  · obtain ⟨hi, hxi⟩ := sp_wi_lt hC gH
    have hi8 : sp_wi C x1 < 8 := by omega
    obtain ⟨t1, t2, t3⟩ := h8
    obtain ⟨a1, a2, a3, a4, a5, a6, a7, a8, a9, a10, a11⟩ := t1.2.2.2.2.2.2.2.2 _ hi
    have hww := hwf.2.1 _ hi
    have eo : ∀ f, f < 14 → f ≠ 5 → sp_f (sp_hd C z) (sp_wi C x1) f = sp_f z (sp_wi C x1) f := fun f hf h5 => by rw [sp_hd_f C z hf, if_neg (by omega)]
    unfold sp_lw at a9 a10
    rw [eo 7 (by decide) (by decide)] at a8 a9 a10
    rw [eo 8 (by decide) (by decide)] at a9
    rw [eo 9 (by decide) (by decide)] at a10
    rw [eo 10 (by decide) (by decide)] at a11
    have a12 : S8 (mm_W 1 (sp_wi C x1)) 5 = sp_tk z 10 C (sp_wi C x1) := (t2 _ hi).trans (sp_hd_tk hC)
    have hms := sp_kn6_ms (S := S8) (b := 1) hC hi hww a12 a8 a9 a10 a11
    refine vv_astore_n (pc := 19) (i := 3) (ls' := [(3, _), (0, .ref (gad G 0)), (1, .int x1), (2, .int x2)]) dX4_known_19 rfl (by decide) rfl ?_
    refine vv_aload_n (pc := 20) 0 dX4_known_20 rfl rfl ?_
    refine vv_ifnonnull (pc := 21) (tgt := 26) dX4_known_21 (by decide) ?_
    refine vv_iload_n (pc := 26) 3 dX4_known_26 rfl rfl ?_
    refine vv_topi (fun sw27 esw27 => ?_)
    by_cases qsw27 : sw27.toInt < 0 ∨ 6 < sw27.toInt
    · refine vv_tableOut (pc := 27) (tgt := 136) dX4_known_27 qsw27 (by decide) ?_
      refine vv_bipush (pc := 136) (v := (-2)) dX4_known_136 (by decide) ?_
      refine vr_i (pc := 138) dX4_known_138 ?_
      refine ⟨t3, ?_⟩
      unfold rd_kn
      rw [if_neg gH]
      have hk : ∀ j : Int32, 0 ≤ j.toInt → j.toInt ≤ 6 → x2 ≠ j := fun j h0 h1 e => by rw [esw27, e] at qsw27; omega
      unfold rd_kn1
      rw [if_neg (hk 0 (by decide) (by decide))]
      rw [if_neg (hk 1 (by decide) (by decide))]
      rw [if_neg (hk 2 (by decide) (by decide))]
      rw [if_neg (hk 3 (by decide) (by decide))]
      rw [if_neg (hk 4 (by decide) (by decide))]
      rw [if_neg (hk 5 (by decide) (by decide))]
      rw [if_neg (hk 6 (by decide) (by decide))]
    · have hsw27 : sw27.toInt = 0 ∨ sw27.toInt = 1 ∨ sw27.toInt = 2 ∨ sw27.toInt = 3 ∨ sw27.toInt = 4 ∨ sw27.toInt = 5 ∨ sw27.toInt = 6 := by omega
      rcases hsw27 with ksw27 | ksw27 | ksw27 | ksw27 | ksw27 | ksw27 | ksw27
      · refine vv_tableIn (pc := 27) (off := 41) (tgt := 68) dX4_known_27 (by omega) (by omega) (by rw [ksw27]; rfl) (by decide) ?_
        -- path r<0>
        refine vv_aload_n (pc := 68) 0 dX4_known_68 rfl rfl ?_
        refine vg_X3_heardOn (pc := 69) (by first | assumption | decide) (by assumption) mw_F_X4_126 dX4_known_69 ?_
        refine vr_i (pc := 72) dX4_known_72 ?_
        have hk : x2 = 0 := i32_of (n := 0) 0 (by rw [← esw27]; exact ksw27) (by decide)
        subst hk
        refine ⟨t3, ?_⟩
        unfold rd_kn
        rw [if_neg gH]
        show _ = rd_kn1 C z (sp_wi C x1) 0
        rw [show rd_kn1 C z (sp_wi C x1) 0 = sp_f z (sp_wi C x1) 7 from rfl]
        exact a8
      · refine vv_tableIn (pc := 27) (off := 46) (tgt := 73) dX4_known_27 (by omega) (by omega) (by rw [ksw27]; rfl) (by decide) ?_
        -- path r<1>
        refine vv_aload_n (pc := 73) 0 dX4_known_73 rfl rfl ?_
        refine vc_Vi (pc := 74) (c_X3_isKnown l G (by first | assumption | decide) (by assumption) _) mw_M_X4_129 my_X3_isKnown (mm_rv_W (by first | assumption | decide) (by assumption)) ⟨by decide, by decide⟩ rfl rfl (Nat.le_of_ble_eq_true rfl) dX4_known_74 (fun r74 S74 h74 => ?_)
        obtain ⟨qS74, h74⟩ := h74
        replace qS74 := qS74.symm
        subst qS74
        refine vv_if_eq (pc := 77) (tgt := 87) dX4_known_77 (by decide) (fun c77 => ?_) (fun c77 => ?_)
        -- t@77 path r<1>t
        · refine vv_bipush (pc := 87) (v := (-6)) dX4_known_87 (by decide) ?_
          refine vr_i (pc := 89) dX4_known_89 ?_
          have e6 : sp_f z (sp_wi C x1) 7 = -6 := by
            rw [h74] at c77
            unfold sp_wKn at c77
            rw [a8] at c77
            by_cases e : sp_f z (sp_wi C x1) 7 = -6
            · exact e
            · rw [if_neg e] at c77; exact absurd c77 (by decide)
          have hk : x2 = 1 := i32_of (n := 1) 1 (by rw [← esw27]; exact ksw27) (by decide)
          subst hk
          refine ⟨t3, ?_⟩
          unfold rd_kn
          rw [if_neg gH]
          show _ = rd_kn1 C z (sp_wi C x1) 1
          rw [show rd_kn1 C z (sp_wi C x1) 1 = sp_f z (sp_wi C x1) 8 from rfl]
          rcases hww.2.2.2.2.2.2.2.2.2.2.2.2.2.2 with e | e <;> first | exact e.2.1.symm | (rw [e6] at e; exact absurd e.1 (by decide))
        -- f@77 path r<1>f
        · refine vv_aload_n (pc := 80) 0 dX4_known_80 rfl rfl ?_
          refine vg_X3_low (pc := 81) (by first | assumption | decide) (by assumption) mw_F_X4_132 dX4_known_81 ?_
          refine vv_goto (pc := 84) (tgt := 89) dX4_known_84 (by decide) ?_
          refine vr_i (pc := 89) dX4_known_89 ?_
          have hk : x2 = 1 := i32_of (n := 1) 1 (by rw [← esw27]; exact ksw27) (by decide)
          subst hk
          refine ⟨t3, ?_⟩
          unfold rd_kn
          rw [if_neg gH]
          show _ = rd_kn1 C z (sp_wi C x1) 1
          rw [show rd_kn1 C z (sp_wi C x1) 1 = sp_f z (sp_wi C x1) 8 from rfl]
          rw [a9, if_neg (fun e => c77 (by rw [h74]; unfold sp_wKn; rw [a8, if_pos e]))]
      · refine vv_tableIn (pc := 27) (off := 63) (tgt := 90) dX4_known_27 (by omega) (by omega) (by rw [ksw27]; rfl) (by decide) ?_
        -- path r<2>
        refine vv_aload_n (pc := 90) 0 dX4_known_90 rfl rfl ?_
        refine vc_Vi (pc := 91) (c_X3_isKnown l G (by first | assumption | decide) (by assumption) _) mw_M_X4_129 my_X3_isKnown (mm_rv_W (by first | assumption | decide) (by assumption)) ⟨by decide, by decide⟩ rfl rfl (Nat.le_of_ble_eq_true rfl) dX4_known_91 (fun r91 S91 h91 => ?_)
        obtain ⟨qS91, h91⟩ := h91
        replace qS91 := qS91.symm
        subst qS91
        refine vv_if_eq (pc := 94) (tgt := 104) dX4_known_94 (by decide) (fun c94 => ?_) (fun c94 => ?_)
        -- t@94 path r<2>t
        · refine vv_bipush (pc := 104) (v := (-6)) dX4_known_104 (by decide) ?_
          refine vr_i (pc := 106) dX4_known_106 ?_
          have e6 : sp_f z (sp_wi C x1) 7 = -6 := by
            rw [h91] at c94
            unfold sp_wKn at c94
            rw [a8] at c94
            by_cases e : sp_f z (sp_wi C x1) 7 = -6
            · exact e
            · rw [if_neg e] at c94; exact absurd c94 (by decide)
          have hk : x2 = 2 := i32_of (n := 2) 2 (by rw [← esw27]; exact ksw27) (by decide)
          subst hk
          refine ⟨t3, ?_⟩
          unfold rd_kn
          rw [if_neg gH]
          show _ = rd_kn1 C z (sp_wi C x1) 2
          rw [show rd_kn1 C z (sp_wi C x1) 2 = sp_f z (sp_wi C x1) 9 from rfl]
          rcases hww.2.2.2.2.2.2.2.2.2.2.2.2.2.2 with e | e <;> first | exact e.2.2.symm | (rw [e6] at e; exact absurd e.1 (by decide))
        -- f@94 path r<2>f
        · refine vv_aload_n (pc := 97) 0 dX4_known_97 rfl rfl ?_
          refine vg_X3_high (pc := 98) (by first | assumption | decide) (by assumption) mw_F_X4_135 dX4_known_98 ?_
          refine vv_goto (pc := 101) (tgt := 106) dX4_known_101 (by decide) ?_
          refine vr_i (pc := 106) dX4_known_106 ?_
          have hk : x2 = 2 := i32_of (n := 2) 2 (by rw [← esw27]; exact ksw27) (by decide)
          subst hk
          refine ⟨t3, ?_⟩
          unfold rd_kn
          rw [if_neg gH]
          show _ = rd_kn1 C z (sp_wi C x1) 2
          rw [show rd_kn1 C z (sp_wi C x1) 2 = sp_f z (sp_wi C x1) 9 from rfl]
          rw [a10, if_neg (fun e => c94 (by rw [h91]; unfold sp_wKn; rw [a8, if_pos e]))]
      · refine vv_tableIn (pc := 27) (off := 80) (tgt := 107) dX4_known_27 (by omega) (by omega) (by rw [ksw27]; rfl) (by decide) ?_
        -- path r<3>
        refine vv_aload_n (pc := 107) 0 dX4_known_107 rfl rfl ?_
        refine vg_X3_heardBroken (pc := 108) (by first | assumption | decide) (by assumption) mw_F_X4_138 dX4_known_108 ?_
        refine vc_Si (pc := 111) (c_X4_oneIf l G _ _) mw_M_X4_99 my_X4_oneIf ⟨by decide, by decide⟩ rfl rfl (Nat.le_of_ble_eq_true rfl) dX4_known_111 (fun r111 S111 h111 => ?_)
        obtain ⟨qS111, h111⟩ := h111
        replace qS111 := qS111.symm
        subst qS111
        refine vr_i (pc := 114) dX4_known_114 ?_
        have hk : x2 = 3 := i32_of (n := 3) 3 (by rw [← esw27]; exact ksw27) (by decide)
        subst hk
        refine ⟨t3, ?_⟩
        unfold rd_kn
        rw [if_neg gH]
        show _ = rd_kn1 C z (sp_wi C x1) 3
        rw [show rd_kn1 C z (sp_wi C x1) 3 = sp_f z (sp_wi C x1) 10 from rfl]
        rw [h111, a11]; exact sp_one_b hww.2.2.2.2.2.2.2.2.2.2.2.1
      · refine vv_tableIn (pc := 27) (off := 88) (tgt := 115) dX4_known_27 (by omega) (by omega) (by rw [ksw27]; rfl) (by decide) ?_
        -- path r<4>
        refine vv_aload_n (pc := 115) 0 dX4_known_115 rfl rfl ?_
        refine vg_X3_task (pc := 116) (by first | assumption | decide) (by assumption) mw_F_X4_106 dX4_known_116 ?_
        refine vr_i (pc := 119) dX4_known_119 ?_
        have hk : x2 = 4 := i32_of (n := 4) 4 (by rw [← esw27]; exact ksw27) (by decide)
        subst hk
        refine ⟨t3, ?_⟩
        unfold rd_kn
        rw [if_neg gH]
        show _ = rd_kn1 C z (sp_wi C x1) 4
        rw [show rd_kn1 C z (sp_wi C x1) 4 = sp_tk z 10 C (sp_wi C x1) from rfl]
        exact a12
      · refine vv_tableIn (pc := 27) (off := 93) (tgt := 120) dX4_known_27 (by omega) (by omega) (by rw [ksw27]; rfl) (by decide) ?_
        -- path r<5>
        refine vv_aload_n (pc := 120) 0 dX4_known_120 rfl rfl ?_
        refine vc_Vi (pc := 121) (c_X3_isSurelySlack l G (by first | assumption | decide) (by assumption) _) mw_M_X4_141 my_X3_isSurelySlack (mm_rv_W (by first | assumption | decide) (by assumption)) ⟨by decide, by decide⟩ rfl rfl (Nat.le_of_ble_eq_true rfl) dX4_known_121 (fun r121 S121 h121 => ?_)
        obtain ⟨qS121, h121⟩ := h121
        replace qS121 := qS121.symm
        subst qS121
        refine vc_Si (pc := 124) (c_X4_oneIf l G _ _) mw_M_X4_99 my_X4_oneIf ⟨by decide, by decide⟩ rfl rfl (Nat.le_of_ble_eq_true rfl) dX4_known_124 (fun r124 S124 h124 => ?_)
        obtain ⟨qS124, h124⟩ := h124
        replace qS124 := qS124.symm
        subst qS124
        refine vr_i (pc := 127) dX4_known_127 ?_
        have hk : x2 = 5 := i32_of (n := 5) 5 (by rw [← esw27]; exact ksw27) (by decide)
        subst hk
        refine ⟨t3, ?_⟩
        unfold rd_kn
        rw [if_neg gH]
        show _ = rd_kn1 C z (sp_wi C x1) 5
        rw [show rd_kn1 C z (sp_wi C x1) 5 = sp_kn5 z C (sp_wi C x1) from rfl]
        rw [h124, h121, hms.2]; exact sp_one_if _
      · refine vv_tableIn (pc := 27) (off := 101) (tgt := 128) dX4_known_27 (by omega) (by omega) (by rw [ksw27]; rfl) (by decide) ?_
        -- path r<6>
        refine vv_aload_n (pc := 128) 0 dX4_known_128 rfl rfl ?_
        refine vc_Vi (pc := 129) (c_X3_maybeSlack l G (by first | assumption | decide) (by assumption) _) mw_M_X4_144 my_X3_maybeSlack (mm_rv_W (by first | assumption | decide) (by assumption)) ⟨by decide, by decide⟩ rfl rfl (Nat.le_of_ble_eq_true rfl) dX4_known_129 (fun r129 S129 h129 => ?_)
        obtain ⟨qS129, h129⟩ := h129
        replace qS129 := qS129.symm
        subst qS129
        refine vc_Si (pc := 132) (c_X4_oneIf l G _ _) mw_M_X4_99 my_X4_oneIf ⟨by decide, by decide⟩ rfl rfl (Nat.le_of_ble_eq_true rfl) dX4_known_132 (fun r132 S132 h132 => ?_)
        obtain ⟨qS132, h132⟩ := h132
        replace qS132 := qS132.symm
        subst qS132
        refine vr_i (pc := 135) dX4_known_135 ?_
        have hk : x2 = 6 := i32_of (n := 6) 6 (by rw [← esw27]; exact ksw27) (by decide)
        subst hk
        refine ⟨t3, ?_⟩
        unfold rd_kn
        rw [if_neg gH]
        show _ = rd_kn1 C z (sp_wi C x1) 6
        rw [show rd_kn1 C z (sp_wi C x1) 6 = sp_kn6 z C (sp_wi C x1) from rfl]
        rw [h132, h129, hms.1]; exact sp_one_if _
set_option maxRecDepth 100000 in
set_option maxHeartbeats 4000000 in
theorem c_X4_count (l : Launch) (G : gG) {q : St} (S : Mem) (hg : gd q) (hq : bo S 0 q) (x1 : Int32) : mm_C l G yX4_count cX4_count 2 (some .int) (mm_rm 2 43) [.ref (gad G 0), .int x1] S (mm_Qi G (fun r S2 => S2 = S ∧ r = rd_ct q (S 5 1) (S 3 1) x1)) := by
  obtain ⟨C, z⟩ := q
  obtain ⟨hwf, hcalm⟩ := id hg
  dsimp only at hwf hcalm
  obtain ⟨hC, h3, hr, ht⟩ := id hq
  dsimp only at hC h3 hr ht
  obtain ⟨g1, g2, g3, g4, g5, g6, g7, g8, g9⟩ := id hr
  refine mm_ofV (own := RX4) (by decide +kernel) rfl (Nat.le_of_ble_eq_true rfl) (ls0 := [(0, .ref (gad G 0)), (1, .int x1)]) rfl ?_
  refine vv_iload_n (pc := 0) 1 dX4_count_0 rfl rfl ?_
  refine vv_topi (fun sw1 esw1 => ?_)
  by_cases qsw1 : sw1.toInt < 0 ∨ 12 < sw1.toInt
  · refine vv_tableOut (pc := 1) (tgt := 194) dX4_count_1 qsw1 (by decide) ?_
    refine vv_bipush (pc := 194) (v := (-2)) dX4_count_194 (by decide) ?_
    refine vr_i (pc := 196) dX4_count_196 ?_
    refine ⟨rfl, ?_⟩
    have hk : ∀ j : Int32, 0 ≤ j.toInt → j.toInt ≤ 12 → x1 ≠ j := fun j h0 h1 e => by rw [esw1, e] at qsw1; omega
    unfold rd_ct
    rw [if_neg (hk 0 (by decide) (by decide))]
    rw [if_neg (hk 1 (by decide) (by decide))]
    rw [if_neg (hk 2 (by decide) (by decide))]
    rw [if_neg (hk 3 (by decide) (by decide))]
    rw [if_neg (hk 4 (by decide) (by decide))]
    rw [if_neg (hk 5 (by decide) (by decide))]
    rw [if_neg (hk 6 (by decide) (by decide))]
    rw [if_neg (hk 7 (by decide) (by decide))]
    rw [if_neg (hk 8 (by decide) (by decide))]
    rw [if_neg (hk 9 (by decide) (by decide))]
    rw [if_neg (hk 10 (by decide) (by decide))]
    rw [if_neg (hk 11 (by decide) (by decide))]
    rw [if_neg (hk 12 (by decide) (by decide))]
  · have hsw1 : sw1.toInt = 0 ∨ sw1.toInt = 1 ∨ sw1.toInt = 2 ∨ sw1.toInt = 3 ∨ sw1.toInt = 4 ∨ sw1.toInt = 5 ∨ sw1.toInt = 6 ∨ sw1.toInt = 7 ∨ sw1.toInt = 8 ∨ sw1.toInt = 9 ∨ sw1.toInt = 10 ∨ sw1.toInt = 11 ∨ sw1.toInt = 12 := by omega
    rcases hsw1 with ksw1 | ksw1 | ksw1 | ksw1 | ksw1 | ksw1 | ksw1 | ksw1 | ksw1 | ksw1 | ksw1 | ksw1 | ksw1
    · refine vv_tableIn (pc := 1) (off := 67) (tgt := 68) dX4_count_1 (by omega) (by omega) (by rw [ksw1]; rfl) (by decide) ?_
      -- path <0>
      refine vv_aload_n (pc := 68) 0 dX4_count_68 rfl rfl ?_
      refine vg_X4_bridge (pc := 69) mw_F_X4_10 dX4_count_69 ?_
      refine vg_X0_day (pc := 72) (by decide) mw_F_X4_147 dX4_count_72 ?_
      refine vr_i (pc := 75) dX4_count_75 ?_
      have hk : x1 = 0 := i32_of (n := 0) 0 (by rw [← esw1]; exact ksw1) (by decide)
      subst hk
      refine ⟨rfl, ?_⟩
      show _ = z 2
      exact g4
    · refine vv_tableIn (pc := 1) (off := 75) (tgt := 76) dX4_count_1 (by omega) (by omega) (by rw [ksw1]; rfl) (by decide) ?_
      -- path <1>
      refine vv_aload_n (pc := 76) 0 dX4_count_76 rfl rfl ?_
      refine vg_X4_bridge (pc := 77) mw_F_X4_10 dX4_count_77 ?_
      refine vg_X0_wireCount (pc := 80) (by decide) mw_F_X4_150 dX4_count_80 ?_
      refine vr_i (pc := 83) dX4_count_83 ?_
      have hk : x1 = 1 := i32_of (n := 1) 1 (by rw [← esw1]; exact ksw1) (by decide)
      subst hk
      refine ⟨rfl, ?_⟩
      show _ = z 3
      exact g1
    · refine vv_tableIn (pc := 1) (off := 83) (tgt := 84) dX4_count_1 (by omega) (by omega) (by rw [ksw1]; rfl) (by decide) ?_
      -- path <2>
      refine vv_aload_n (pc := 84) 0 dX4_count_84 rfl rfl ?_
      refine vg_X4_bridge (pc := 85) mw_F_X4_10 dX4_count_85 ?_
      refine vg_X0_wireCount (pc := 88) (by decide) mw_F_X4_150 dX4_count_88 ?_
      refine vv_aload_n (pc := 91) 0 dX4_count_91 rfl rfl ?_
      refine vg_X4_bridge (pc := 92) mw_F_X4_10 dX4_count_92 ?_
      refine vc_Vi (pc := 95) (c_X0_wholeWires l G (by decide) _ hwf.1 hr) mw_M_X4_153 my_X0_wholeWires (mm_rv_B (by decide)) ⟨by decide, by decide⟩ rfl rfl (Nat.le_of_ble_eq_true rfl) dX4_count_95 (fun r95 S95 h95 => ?_)
      obtain ⟨qS95, h95⟩ := h95
      replace qS95 := qS95.symm
      subst qS95
      refine vv_isub (pc := 98) dX4_count_98 ?_
      refine vr_i (pc := 99) dX4_count_99 ?_
      have hk : x1 = 2 := i32_of (n := 2) 2 (by rw [← esw1]; exact ksw1) (by decide)
      subst hk
      refine ⟨rfl, ?_⟩
      show _ = z 3 - sp_cnt (sp_g0 z) C
      rw [h95, g1]
    · refine vv_tableIn (pc := 1) (off := 99) (tgt := 100) dX4_count_1 (by omega) (by omega) (by rw [ksw1]; rfl) (by decide) ?_
      -- path <3>
      refine vv_aload_n (pc := 100) 0 dX4_count_100 rfl rfl ?_
      refine vg_X4_bridge (pc := 101) mw_F_X4_10 dX4_count_101 ?_
      refine vg_X0_place (pc := 104) (by decide) mw_F_X4_156 dX4_count_104 ?_
      refine vr_i (pc := 107) dX4_count_107 ?_
      have hk : x1 = 3 := i32_of (n := 3) 3 (by rw [← esw1]; exact ksw1) (by decide)
      subst hk
      refine ⟨rfl, ?_⟩
      show _ = z 4
      exact g5
    · refine vv_tableIn (pc := 1) (off := 107) (tgt := 108) dX4_count_1 (by omega) (by omega) (by rw [ksw1]; rfl) (by decide) ?_
      -- path <4>
      refine vv_aload_n (pc := 108) 0 dX4_count_108 rfl rfl ?_
      refine vg_X4_bridge (pc := 109) mw_F_X4_10 dX4_count_109 ?_
      refine vg_X0_walked (pc := 112) (by decide) mw_F_X4_157 dX4_count_112 ?_
      refine vr_i (pc := 115) dX4_count_115 ?_
      have hk : x1 = 4 := i32_of (n := 4) 4 (by rw [← esw1]; exact ksw1) (by decide)
      subst hk
      refine ⟨rfl, ?_⟩
      show _ = z 5
      exact g6
    · refine vv_tableIn (pc := 1) (off := 115) (tgt := 116) dX4_count_1 (by omega) (by omega) (by rw [ksw1]; rfl) (by decide) ?_
      -- path <5>
      refine vv_aload_n (pc := 116) 0 dX4_count_116 rfl rfl ?_
      refine vg_X4_bridge (pc := 117) mw_F_X4_10 dX4_count_117 ?_
      refine vc_Vi (pc := 120) (c_X0_allLoads l G (by decide) _ hr) mw_M_X4_160 my_X0_allLoads (mm_rv_B (by decide)) ⟨by decide, by decide⟩ rfl rfl (Nat.le_of_ble_eq_true rfl) dX4_count_120 (fun r120 S120 h120 => ?_)
      obtain ⟨qS120, h120⟩ := h120
      replace qS120 := qS120.symm
      subst qS120
      refine vr_i (pc := 123) dX4_count_123 ?_
      have hk : x1 = 5 := i32_of (n := 5) 5 (by rw [← esw1]; exact ksw1) (by decide)
      subst hk
      refine ⟨rfl, ?_⟩
      show _ = sp_sum z 20
      exact h120
    · refine vv_tableIn (pc := 1) (off := 123) (tgt := 124) dX4_count_1 (by omega) (by omega) (by rw [ksw1]; rfl) (by decide) ?_
      -- path <6>
      refine vv_aload_n (pc := 124) 0 dX4_count_124 rfl rfl ?_
      refine vg_X4_bridge (pc := 125) mw_F_X4_10 dX4_count_125 ?_
      refine vc_Vi (pc := 128) (c_X0_wholeWires l G (by decide) _ hwf.1 hr) mw_M_X4_153 my_X0_wholeWires (mm_rv_B (by decide)) ⟨by decide, by decide⟩ rfl rfl (Nat.le_of_ble_eq_true rfl) dX4_count_128 (fun r128 S128 h128 => ?_)
      obtain ⟨qS128, h128⟩ := h128
      replace qS128 := qS128.symm
      subst qS128
      refine vv_if_ne (pc := 131) (tgt := 144) dX4_count_131 (by decide) (fun c131 => ?_) (fun c131 => ?_)
      -- t@131 path <6>t
      · refine vv_iconst (pc := 144) (v := 0) dX4_count_144 (by decide) ?_
        refine vr_i (pc := 145) dX4_count_145 ?_
        have hk : x1 = 6 := i32_of (n := 6) 6 (by rw [← esw1]; exact ksw1) (by decide)
        subst hk
        refine ⟨rfl, ?_⟩
        show _ = (if sp_cnt (sp_g0 z) C = 0 then sp_sum z 20 else 0)
        rw [if_neg (fun e => c131 (h128.trans e))]
      -- f@131 path <6>f
      · refine vv_aload_n (pc := 134) 0 dX4_count_134 rfl rfl ?_
        refine vg_X4_bridge (pc := 135) mw_F_X4_10 dX4_count_135 ?_
        refine vc_Vi (pc := 138) (c_X0_allLoads l G (by decide) _ hr) mw_M_X4_160 my_X0_allLoads (mm_rv_B (by decide)) ⟨by decide, by decide⟩ rfl rfl (Nat.le_of_ble_eq_true rfl) dX4_count_138 (fun r138 S138 h138 => ?_)
        obtain ⟨qS138, h138⟩ := h138
        replace qS138 := qS138.symm
        subst qS138
        refine vv_goto (pc := 141) (tgt := 145) dX4_count_141 (by decide) ?_
        refine vr_i (pc := 145) dX4_count_145 ?_
        have hk : x1 = 6 := i32_of (n := 6) 6 (by rw [← esw1]; exact ksw1) (by decide)
        subst hk
        refine ⟨rfl, ?_⟩
        show _ = (if sp_cnt (sp_g0 z) C = 0 then sp_sum z 20 else 0)
        rw [if_pos (h128.symm.trans c131)]
        exact h138
    · refine vv_tableIn (pc := 1) (off := 145) (tgt := 146) dX4_count_1 (by omega) (by omega) (by rw [ksw1]; rfl) (by decide) ?_
      -- path <7>
      refine vv_aload_n (pc := 146) 0 dX4_count_146 rfl rfl ?_
      refine vg_X4_bridge (pc := 147) mw_F_X4_10 dX4_count_147 ?_
      refine vc_Vi (pc := 150) (c_X0_slackWires l G (by decide) _ hwf hr ht) mw_M_X4_163 my_X0_slackWires (mm_rv_B (by decide)) ⟨by decide, by decide⟩ rfl rfl (Nat.le_of_ble_eq_true rfl) dX4_count_150 (fun r150 S150 h150 => ?_)
      obtain ⟨qS150, h150⟩ := h150
      replace qS150 := qS150.symm
      subst qS150
      refine vr_i (pc := 153) dX4_count_153 ?_
      have hk : x1 = 7 := i32_of (n := 7) 7 (by rw [← esw1]; exact ksw1) (by decide)
      subst hk
      refine ⟨rfl, ?_⟩
      show _ = sp_cnt (sp_g1 z C) C
      exact h150
    · refine vv_tableIn (pc := 1) (off := 153) (tgt := 154) dX4_count_1 (by omega) (by omega) (by rw [ksw1]; rfl) (by decide) ?_
      -- path <8>
      refine vv_aload_n (pc := 154) 0 dX4_count_154 rfl rfl ?_
      refine vg_X4_bridge (pc := 155) mw_F_X4_10 dX4_count_155 ?_
      refine vc_Vi (pc := 158) (c_X0_tooTightWires l G (by decide) _ hwf hr ht) mw_M_X4_166 my_X0_tooTightWires (mm_rv_B (by decide)) ⟨by decide, by decide⟩ rfl rfl (Nat.le_of_ble_eq_true rfl) dX4_count_158 (fun r158 S158 h158 => ?_)
      obtain ⟨qS158, h158⟩ := h158
      replace qS158 := qS158.symm
      subst qS158
      refine vr_i (pc := 161) dX4_count_161 ?_
      have hk : x1 = 8 := i32_of (n := 8) 8 (by rw [← esw1]; exact ksw1) (by decide)
      subst hk
      refine ⟨rfl, ?_⟩
      show _ = sp_cnt (sp_g2 z C) C
      exact h158
    · refine vv_tableIn (pc := 1) (off := 161) (tgt := 162) dX4_count_1 (by omega) (by omega) (by rw [ksw1]; rfl) (by decide) ?_
      -- path <9>
      refine vv_aload_n (pc := 162) 0 dX4_count_162 rfl rfl ?_
      refine vg_X4_pad (pc := 163) mw_F_X4_37 dX4_count_163 ?_
      refine vg_X2_length (pc := 166) mw_F_X4_169 dX4_count_166 ?_
      refine vr_i (pc := 169) dX4_count_169 ?_
      have hk : x1 = 9 := i32_of (n := 9) 9 (by rw [← esw1]; exact ksw1) (by decide)
      subst hk
      refine ⟨rfl, ?_⟩
      show _ = S 5 1
      rfl
    · refine vv_tableIn (pc := 1) (off := 169) (tgt := 170) dX4_count_1 (by omega) (by omega) (by rw [ksw1]; rfl) (by decide) ?_
      -- path <10>
      refine vv_aload_n (pc := 170) 0 dX4_count_170 rfl rfl ?_
      refine vg_X4_history (pc := 171) mw_F_X4_22 dX4_count_171 ?_
      refine vg_X1_kept (pc := 174) mw_F_X4_170 dX4_count_174 ?_
      refine vr_i (pc := 177) dX4_count_177 ?_
      have hk : x1 = 10 := i32_of (n := 10) 10 (by rw [← esw1]; exact ksw1) (by decide)
      subst hk
      refine ⟨rfl, ?_⟩
      show _ = S 3 1
      rfl
    · refine vv_tableIn (pc := 1) (off := 177) (tgt := 178) dX4_count_1 (by omega) (by omega) (by rw [ksw1]; rfl) (by decide) ?_
      -- path <11>
      refine vv_aload_n (pc := 178) 0 dX4_count_178 rfl rfl ?_
      refine vg_X4_bridge (pc := 179) mw_F_X4_10 dX4_count_179 ?_
      refine vg_X0_creep (pc := 182) (by decide) mw_F_X4_173 dX4_count_182 ?_
      refine vr_i (pc := 185) dX4_count_185 ?_
      have hk : x1 = 11 := i32_of (n := 11) 11 (by rw [← esw1]; exact ksw1) (by decide)
      subst hk
      refine ⟨rfl, ?_⟩
      show _ = z 0
      exact g2
    · refine vv_tableIn (pc := 1) (off := 185) (tgt := 186) dX4_count_1 (by omega) (by omega) (by rw [ksw1]; rfl) (by decide) ?_
      -- path <12>
      refine vv_aload_n (pc := 186) 0 dX4_count_186 rfl rfl ?_
      refine vg_X4_bridge (pc := 187) mw_F_X4_10 dX4_count_187 ?_
      refine vg_X0_spare (pc := 190) (by decide) mw_F_X4_113 dX4_count_190 ?_
      refine vr_i (pc := 193) dX4_count_193 ?_
      have hk : x1 = 12 := i32_of (n := 12) 12 (by rw [← esw1]; exact ksw1) (by decide)
      subst hk
      refine ⟨rfl, ?_⟩
      show _ = z 1
      exact g3
set_option maxRecDepth 100000 in
set_option maxHeartbeats 4000000 in
theorem c_X4_pitchAt (l : Launch) (G : gG) {q : St} (S : Mem) (hg : gd q) (hq : bo S 0 q) (x1 x2 : Int32) : mm_C l G yX4_pitchAt cX4_pitchAt 4 (some .int) (mm_rm 2 49) [.ref (gad G 0), .int x1, .int x2] S (mm_Qi G (fun r S2 => S2 = S ∧ r = rd_pa q x1 x2)) := by
  obtain ⟨C, z⟩ := q
  obtain ⟨hwf, hcalm⟩ := id hg
  dsimp only at hwf hcalm
  obtain ⟨hC, h3, hr, ht⟩ := id hq
  dsimp only at hC h3 hr ht
  obtain ⟨g1, g2, g3, g4, g5, g6, g7, g8, g9⟩ := id hr
  refine mm_ofV (own := RX4) (by decide +kernel) rfl (Nat.le_of_ble_eq_true rfl) (ls0 := [(0, .ref (gad G 0)), (1, .int x1), (2, .int x2)]) rfl ?_
  refine vv_aload_n (pc := 0) 0 dX4_pitchAt_0 rfl rfl ?_
  refine vg_X4_bridge (pc := 1) mw_F_X4_10 dX4_pitchAt_1 ?_
  refine vv_iload_n (pc := 4) 1 dX4_pitchAt_4 rfl rfl ?_
  refine vc_Vq (pc := 5) (c_X0_wireNumbered l G (by decide) _ hC (g1.trans h3) _) mw_M_X4_73 my_X0_wireNumbered (mm_rv_B (by decide)) ⟨by decide, by decide⟩ rfl rfl (Nat.le_of_ble_eq_true rfl) dX4_pitchAt_5 (fun r5 S5 h5 => ?_)
  obtain ⟨qS5, h5⟩ := h5
  replace qS5 := qS5.symm
  subst qS5
  rcases sp_rf_cases G 0 (sp_wi C x1) with ⟨gH, eH⟩ | ⟨gH, eH⟩ <;> rw [eH] at h5 <;> subst h5
  -- null@5 path n
  · refine vv_astore_nN (pc := 8) (i := 3) (ls' := [(3, .null), (0, .ref (gad G 0)), (1, .int x1), (2, .int x2)]) dX4_pitchAt_8 rfl (by decide) rfl ?_
    refine vv_aload_nN (pc := 9) 0 dX4_pitchAt_9 rfl rfl ?_
    refine vv_ifnonnullN (pc := 10) dX4_pitchAt_10 ?_
    refine vv_iconst (pc := 13) (v := (-1)) dX4_pitchAt_13 (by decide) ?_
    refine vr_i (pc := 14) dX4_pitchAt_14 ?_
    exact ⟨rfl, by unfold rd_pa; rw [if_pos gH]⟩
  -- ref@5 path r
  · obtain ⟨hi, hxi⟩ := sp_wi_lt hC gH
    have hi8 : sp_wi C x1 < 8 := by omega
    obtain ⟨a1, a2, a3, a4, a5, a6, a7, a8, a9, a10, a11⟩ := g9 _ hi
    have hww := hwf.2.1 _ hi
    refine vv_astore_n (pc := 8) (i := 3) (ls' := [(3, _), (0, .ref (gad G 0)), (1, .int x1), (2, .int x2)]) dX4_pitchAt_8 rfl (by decide) rfl ?_
    refine vv_aload_n (pc := 9) 0 dX4_pitchAt_9 rfl rfl ?_
    refine vv_ifnonnull (pc := 10) (tgt := 15) dX4_pitchAt_10 (by decide) ?_
    refine vv_iload_n (pc := 15) 3 dX4_pitchAt_15 rfl rfl ?_
    refine vv_iconst (pc := 16) (v := 0) dX4_pitchAt_16 (by decide) ?_
    refine vv_ldc (pc := 17) mw_K_X4_176 dX4_pitchAt_17 ?_
    refine vc_Si (pc := 19) (c_X4_within l G _ _ _ _) mw_M_X4_177 my_X4_within ⟨by decide, by decide⟩ rfl rfl (Nat.le_of_ble_eq_true rfl) dX4_pitchAt_19 (fun r19 S19 h19 => ?_)
    obtain ⟨qS19, h19⟩ := h19
    replace qS19 := qS19.symm
    subst qS19
    refine vv_if_ne (pc := 22) (tgt := 28) dX4_pitchAt_22 (by decide) (fun c22 => ?_) (fun c22 => ?_)
    -- t@22 path rt
    · have c22b := c22
      rw [h19, sp_in_iff, show (0 : Int32).toInt = 0 by decide, show (50000 : Int32).toInt = 50000 by decide] at c22b
      have hxr : 0 ≤ x2.toInt ∧ x2.toInt ≤ 50000 := by omega
      refine vv_aload_n (pc := 28) 0 dX4_pitchAt_28 rfl rfl ?_
      refine vv_iload_n (pc := 29) 3 dX4_pitchAt_29 rfl rfl ?_
      refine vc_Vi (pc := 30) (c_X3_pitchWith l G (by decide) (by assumption) _ _ (by rw [a2, a3]; exact ⟨hww.2.2.1, hww.2.2.2.1, hww.2.2.2.2.1, hww.2.2.2.2.2.1, hxr⟩)) mw_M_X4_103 my_X3_pitchWith (mm_rv_W (by first | assumption | decide) (by assumption)) ⟨by decide, by decide⟩ rfl rfl (Nat.le_of_ble_eq_true rfl) dX4_pitchAt_30 (fun r30 S30 h30 => ?_)
      obtain ⟨qS30, h30⟩ := h30
      replace qS30 := qS30.symm
      subst qS30
      refine vr_i (pc := 33) dX4_pitchAt_33 ?_
      exact ⟨rfl, by unfold rd_pa; rw [if_neg gH, if_neg (fun e => c22 (h19.trans e)), h30, a2, a3]⟩
    -- f@22 path rf
    · refine vv_bipush (pc := 25) (v := (-2)) dX4_pitchAt_25 (by decide) ?_
      refine vr_i (pc := 27) dX4_pitchAt_27 ?_
      exact ⟨rfl, by unfold rd_pa; rw [if_neg gH, if_pos (h19.symm.trans c22)]⟩
set_option maxRecDepth 100000 in
set_option maxHeartbeats 4000000 in
theorem c_X4_tensionFor (l : Launch) (G : gG) {q : St} (S : Mem) (hg : gd q) (hq : bo S 0 q) (x1 x2 : Int32) : mm_C l G yX4_tensionFor cX4_tensionFor 6 (some .int) (mm_rm 2 42) [.ref (gad G 0), .int x1, .int x2] S (mm_Qi G (fun r S2 => S2 = S ∧ r = rd_tf q x1 x2)) := by
  obtain ⟨C, z⟩ := q
  obtain ⟨hwf, hcalm⟩ := id hg
  dsimp only at hwf hcalm
  obtain ⟨hC, h3, hr, ht⟩ := id hq
  dsimp only at hC h3 hr ht
  obtain ⟨g1, g2, g3, g4, g5, g6, g7, g8, g9⟩ := id hr
  refine mm_ofV (own := RX4) (by decide +kernel) rfl (Nat.le_of_ble_eq_true rfl) (ls0 := [(0, .ref (gad G 0)), (1, .int x1), (2, .int x2)]) rfl ?_
  refine vv_aload_n (pc := 0) 0 dX4_tensionFor_0 rfl rfl ?_
  refine vg_X4_bridge (pc := 1) mw_F_X4_10 dX4_tensionFor_1 ?_
  refine vv_iload_n (pc := 4) 1 dX4_tensionFor_4 rfl rfl ?_
  refine vc_Vq (pc := 5) (c_X0_wireNumbered l G (by decide) _ hC (g1.trans h3) _) mw_M_X4_73 my_X0_wireNumbered (mm_rv_B (by decide)) ⟨by decide, by decide⟩ rfl rfl (Nat.le_of_ble_eq_true rfl) dX4_tensionFor_5 (fun r5 S5 h5 => ?_)
  obtain ⟨qS5, h5⟩ := h5
  replace qS5 := qS5.symm
  subst qS5
  rcases sp_rf_cases G 0 (sp_wi C x1) with ⟨gH, eH⟩ | ⟨gH, eH⟩ <;> rw [eH] at h5 <;> subst h5
  -- null@5 path n
  · refine vv_astore_nN (pc := 8) (i := 3) (ls' := [(3, .null), (0, .ref (gad G 0)), (1, .int x1), (2, .int x2)]) dX4_tensionFor_8 rfl (by decide) rfl ?_
    refine vv_aload_nN (pc := 9) 0 dX4_tensionFor_9 rfl rfl ?_
    refine vv_ifnonnullN (pc := 10) dX4_tensionFor_10 ?_
    refine vv_iconst (pc := 13) (v := (-1)) dX4_tensionFor_13 (by decide) ?_
    refine vr_i (pc := 14) dX4_tensionFor_14 ?_
    exact ⟨rfl, by unfold rd_tf; rw [if_pos gH]⟩
  -- ref@5 path r
  · obtain ⟨hi, hxi⟩ := sp_wi_lt hC gH
    have hi8 : sp_wi C x1 < 8 := by omega
    obtain ⟨a1, a2, a3, a4, a5, a6, a7, a8, a9, a10, a11⟩ := g9 _ hi
    have hww := hwf.2.1 _ hi
    refine vv_astore_n (pc := 8) (i := 3) (ls' := [(3, _), (0, .ref (gad G 0)), (1, .int x1), (2, .int x2)]) dX4_tensionFor_8 rfl (by decide) rfl ?_
    refine vv_aload_n (pc := 9) 0 dX4_tensionFor_9 rfl rfl ?_
    refine vv_ifnonnull (pc := 10) (tgt := 15) dX4_tensionFor_10 (by decide) ?_
    refine vv_iload_n (pc := 15) 3 dX4_tensionFor_15 rfl rfl ?_
    refine vv_iconst (pc := 16) (v := 0) dX4_tensionFor_16 (by decide) ?_
    refine vv_ldc (pc := 17) mw_K_X4_181 dX4_tensionFor_17 ?_
    refine vc_Si (pc := 19) (c_X4_within l G _ _ _ _) mw_M_X4_177 my_X4_within ⟨by decide, by decide⟩ rfl rfl (Nat.le_of_ble_eq_true rfl) dX4_tensionFor_19 (fun r19 S19 h19 => ?_)
    obtain ⟨qS19, h19⟩ := h19
    replace qS19 := qS19.symm
    subst qS19
    refine vv_if_ne (pc := 22) (tgt := 28) dX4_tensionFor_22 (by decide) (fun c22 => ?_) (fun c22 => ?_)
    -- t@22 path rt
    · refine vv_aload_n (pc := 28) 0 dX4_tensionFor_28 rfl rfl ?_
      refine vv_iload_n (pc := 29) 3 dX4_tensionFor_29 rfl rfl ?_
      refine vv_i2l (pc := 30) dX4_tensionFor_30 ?_
      refine vc_Vl (pc := 31) (c_X3_leastTension l G (by first | assumption | decide) (by assumption) _ _) mw_M_X4_182 my_X3_leastTension (mm_rv_W (by first | assumption | decide) (by assumption)) ⟨by decide, by decide⟩ rfl rfl (Nat.le_of_ble_eq_true rfl) dX4_tensionFor_31 (fun r31 S31 h31 => ?_)
      obtain ⟨qS31, h31⟩ := h31
      replace qS31 := qS31.symm
      subst qS31
      refine vv_topl (fun x4p34 e4p34 => ?_)
      refine vv_lstore (pc := 34) (i := 4) (ls' := [(4, .long x4p34), (3, _), (0, .ref (gad G 0)), (1, .int x1), (2, .int x2)]) dX4_tensionFor_34 (by decide) rfl ?_
      refine vv_lload (pc := 36) 0 dX4_tensionFor_36 rfl ?_
      refine vv_ldc2 (pc := 38) mw_L_X4_186 dX4_tensionFor_38 ?_
      refine vv_lcmp (pc := 41) dX4_tensionFor_41 ?_
      refine vv_if_le (pc := 42) (tgt := 50) dX4_tensionFor_42 (by decide) (fun c42 => ?_) (fun c42 => ?_)
      -- t@42 path rtt
      · refine vv_lload (pc := 50) 0 dX4_tensionFor_50 rfl ?_
        refine vv_l2i (pc := 52) dX4_tensionFor_52 ?_
        refine vr_i (pc := 53) dX4_tensionFor_53 ?_
        rw [a2, a3] at h31
        rw [e4p34, lg_cmp_le, h31] at c42
        exact ⟨rfl, by unfold rd_tf; rw [if_neg gH, if_neg (fun e => c22 (h19.trans e)), if_neg (Int64.not_lt.mpr c42), e4p34, h31]⟩
      -- f@42 path rtf
      · refine vv_bipush (pc := 45) (v := (-6)) dX4_tensionFor_45 (by decide) ?_
        refine vv_goto (pc := 47) (tgt := 53) dX4_tensionFor_47 (by decide) ?_
        refine vr_i (pc := 53) dX4_tensionFor_53 ?_
        rw [a2, a3] at h31
        rw [e4p34, lg_cmp_le, h31] at c42
        exact ⟨rfl, by unfold rd_tf; rw [if_neg gH, if_neg (fun e => c22 (h19.trans e)), if_pos (Int64.not_le.mp c42)]⟩
    -- f@22 path rf
    · refine vv_bipush (pc := 25) (v := (-2)) dX4_tensionFor_25 (by decide) ?_
      refine vr_i (pc := 27) dX4_tensionFor_27 ?_
      exact ⟨rfl, by unfold rd_tf; rw [if_neg gH, if_pos (h19.symm.trans c22)]⟩
