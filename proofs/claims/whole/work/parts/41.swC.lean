set_option maxRecDepth 100000 in
set_option maxHeartbeats 4000000 in
theorem c_X4_fallenWith (l : Launch) (G : gG) {q : St} (S : Mem) (hg : gd q) (hq : bo S 0 q) {w : Nat} {x1 : Int32} (hx : x1 = nI w) (hw : w < q.1) (hw5 : sp_f q.2 w 5 = 0) : mm_C l G yX4_fallenWith cX4_fallenWith 3 (some .int) (mm_rm 3 72) [.ref (gad G 0), .int x1] S (mm_Qi G (fun r S2 => fr_ 1 S S2 ∧ r = sp_fal q.1 q.2 w)) := by
  subst hx
  obtain ⟨C, z⟩ := q
  obtain ⟨hwf, hcalm⟩ := id hg
  dsimp only at hwf hcalm
  obtain ⟨hC, h3, hr, ht⟩ := id hq
  dsimp only at hC h3 hr ht
  obtain ⟨g1, g2, g3, g4, g5, g6, g7, g8, g9⟩ := id hr
  dsimp only at hw hw5
  have hw8 : w < 8 := by omega
  refine mm_ofV (own := RX4) (by decide +kernel) rfl (Nat.le_of_ble_eq_true rfl) (ls0 := [(0, .ref (gad G 0)), (1, .int (nI w))]) rfl ?_
  refine vv_aload_n (pc := 0) 0 dX4_fallenWith_0 rfl rfl ?_
  refine vg_X4_trial (pc := 1) mw_F_X4_16 dX4_fallenWith_1 ?_
  refine vv_aload_n (pc := 4) 0 dX4_fallenWith_4 rfl rfl ?_
  refine vg_X4_bridge (pc := 5) mw_F_X4_10 dX4_fallenWith_5 ?_
  refine vc_Vv (pc := 8) (c_X0_takeFrom l G (b := 1) (b2 := 0) (by decide) (by decide) (by decide) _ hC h3 hr) mw_M_X4_191 my_X0_takeFrom (mm_rv_B (by first | assumption | decide)) ⟨by decide, by decide⟩ rfl rfl (Nat.le_of_ble_eq_true rfl) dX4_fallenWith_8 (fun S8 h8 => ?_)
  refine vv_aload_n (pc := 11) 0 dX4_fallenWith_11 rfl rfl ?_
  refine vg_X4_trial (pc := 12) mw_F_X4_16 dX4_fallenWith_12 ?_
  refine vv_iload_n (pc := 15) 1 dX4_fallenWith_15 rfl rfl ?_
  refine vc_Vq (pc := 16) (c_X0_wireNumbered l G (b := 1) (by decide) _ hC (h8.1.1.trans h3) _) mw_M_X4_73 my_X0_wireNumbered (mm_rv_B (by decide)) ⟨by decide, by decide⟩ rfl rfl (Nat.le_of_ble_eq_true rfl) dX4_fallenWith_16 (fun r16 S16 h16 => ?_)
  obtain ⟨qS16, h16⟩ := h16
  replace qS16 := qS16.symm
  subst qS16
  have hwi : sp_wi C (nI w) = w := by rw [(sp_wi_in (C := C) hC (nI_pos (by omega)) (nI_ge hw (by omega))).1, cl_n (by omega)]
  rw [hwi] at h16
  unfold sp_rf at h16
  rw [if_neg (by omega)] at h16
  subst h16
  refine vv_astore_n (pc := 19) (i := 2) (ls' := [(2, _), (0, .ref (gad G 0)), (1, .int (nI w))]) dX4_fallenWith_19 rfl (by decide) rfl ?_
  refine vv_aload_n (pc := 20) 0 dX4_fallenWith_20 rfl rfl ?_
  refine vv_ifnonnull (pc := 21) (tgt := 26) dX4_fallenWith_21 (by decide) ?_
  obtain ⟨t1, t2, t3⟩ := h8
  refine vv_aload_n (pc := 26) 0 dX4_fallenWith_26 rfl rfl ?_
  refine vv_aload_n (pc := 27) 1 dX4_fallenWith_27 rfl rfl ?_
  refine vg_X4_trial (pc := 28) mw_F_X4_16 dX4_fallenWith_28 ?_
  refine vg_X0_day (pc := 31) (by first | assumption | decide) mw_F_X4_147 dX4_fallenWith_31 ?_
  refine vc_Vv (pc := 34) (c_X3_snap l G (by decide) hw8 _ _) mw_M_X4_226 my_X3_snap (mm_rv_W (by decide) hw8) ⟨by decide, by decide⟩ rfl rfl (Nat.le_of_ble_eq_true rfl) dX4_fallenWith_34 (fun S34 h34 => ?_)
  have hrs : rb C S34 1 (sp_brk z w) := by rw [h34]; exact rb_snap t1 hC hw t1.2.2.2.1
  have hfs : fr_ 1 S8 S34 := by rw [h34]; exact fr_snap hw8
  refine vv_aload_n (pc := 37) 1 dX4_fallenWith_37 rfl rfl ?_
  refine vg_X4_trial (pc := 38) mw_F_X4_16 dX4_fallenWith_38 ?_
  refine vc_Vv (pc := 41) (c_X0_reckon l G (b := 1) (by decide) _ (sp_brk_ws hwf.1 w) hrs) mw_M_X4_230 my_X0_reckon (mm_rv_B (by first | assumption | decide)) ⟨by decide, by decide⟩ rfl rfl (Nat.le_of_ble_eq_true rfl) dX4_fallenWith_41 (fun S41 h41 => ?_)
  refine vv_iconst (pc := 44) (v := 1) dX4_fallenWith_44 (by decide) ?_
  refine vv_iload_n (pc := 45) 2 dX4_fallenWith_45 rfl rfl ?_
  refine vv_ishl (pc := 46) dX4_fallenWith_46 ?_
  refine vv_aload_n (pc := 47) 1 dX4_fallenWith_47 rfl rfl ?_
  refine vg_X4_trial (pc := 48) mw_F_X4_16 dX4_fallenWith_48 ?_
  refine vc_Vi (pc := 51) (c_X0_settle l G (b := 1) (by decide) _ (sp_brk_wf hwf hw) (f5_rb hC h41.1 hrs) h41.2) mw_M_X4_233 my_X0_settle (mm_rv_B (by first | assumption | decide)) ⟨by decide, by decide⟩ rfl rfl (Nat.le_of_ble_eq_true rfl) dX4_fallenWith_51 (fun r51 S51 h51 => ?_)
  refine vv_ior (pc := 54) dX4_fallenWith_54 ?_
  refine vr_i (pc := 55) dX4_fallenWith_55 ?_
  refine ⟨fr_trans t3 (fr_trans hfs (fr_trans (f5_fr hC h41.1) h51.2.2.2)), ?_⟩
  unfold sp_fal
  rw [h51.1]
set_option maxRecDepth 100000 in
set_option maxHeartbeats 4000000 in
theorem c_X4_fallsWith (l : Launch) (G : gG) {q : St} (S : Mem) (hg : gd q) (hq : bo S 0 q) (x1 : Int32) : mm_C l G yX4_fallsWith cX4_fallsWith 3 (some .int) (mm_rm 4 94) [.ref (gad G 0), .int x1] S (mm_Qi G (fun r S2 => fr_ 1 S S2 ∧ r = rd_fw q x1)) := by
  obtain ⟨C, z⟩ := q
  obtain ⟨hwf, hcalm⟩ := id hg
  dsimp only at hwf hcalm
  obtain ⟨hC, h3, hr, ht⟩ := id hq
  dsimp only at hC h3 hr ht
  obtain ⟨g1, g2, g3, g4, g5, g6, g7, g8, g9⟩ := id hr
  refine mm_ofV (own := RX4) (by decide +kernel) rfl (Nat.le_of_ble_eq_true rfl) (ls0 := [(0, .ref (gad G 0)), (1, .int x1)]) rfl ?_
  refine vv_aload_n (pc := 0) 0 dX4_fallsWith_0 rfl rfl ?_
  refine vg_X4_bridge (pc := 1) mw_F_X4_10 dX4_fallsWith_1 ?_
  refine vv_iload_n (pc := 4) 1 dX4_fallsWith_4 rfl rfl ?_
  refine vc_Vq (pc := 5) (c_X0_wireNumbered l G (by decide) _ hC (g1.trans h3) _) mw_M_X4_73 my_X0_wireNumbered (mm_rv_B (by first | assumption | decide)) ⟨by decide, by decide⟩ rfl rfl (Nat.le_of_ble_eq_true rfl) dX4_fallsWith_5 (fun r5 S5 h5 => ?_)
  obtain ⟨qS5, h5⟩ := h5
  replace qS5 := qS5.symm
  subst qS5
  rcases sp_rf_cases G 0 (sp_wi C x1) with ⟨gH, eH⟩ | ⟨gH, eH⟩ <;> rw [eH] at h5 <;> subst h5
  -- null@5 path n
  · refine vv_astore_nN (pc := 8) (i := 2) (ls' := [(2, .null), (0, .ref (gad G 0)), (1, .int x1)]) dX4_fallsWith_8 rfl (by decide) rfl ?_
    refine vv_aload_nN (pc := 9) 0 dX4_fallsWith_9 rfl rfl ?_
    refine vv_ifnonnullN (pc := 10) dX4_fallsWith_10 ?_
    refine vv_iconst (pc := 13) (v := (-1)) dX4_fallsWith_13 (by decide) ?_
    refine vr_i (pc := 14) dX4_fallsWith_14 ?_
    exact ⟨fr_refl 1 S, by unfold rd_fw; rw [if_pos gH]⟩
  -- ref@5 path r
  · obtain ⟨hi, hxi⟩ := sp_wi_lt hC gH
    have hi8 : sp_wi C x1 < 8 := by omega
    obtain ⟨a1, a2, a3, a4, a5, a6, a7, a8, a9, a10, a11⟩ := g9 _ hi
    have hww := hwf.2.1 _ hi
    refine vv_astore_n (pc := 8) (i := 2) (ls' := [(2, _), (0, .ref (gad G 0)), (1, .int x1)]) dX4_fallsWith_8 rfl (by decide) rfl ?_
    refine vv_aload_n (pc := 9) 0 dX4_fallsWith_9 rfl rfl ?_
    refine vv_ifnonnull (pc := 10) (tgt := 15) dX4_fallsWith_10 (by decide) ?_
    refine vv_aload_n (pc := 15) 0 dX4_fallsWith_15 rfl rfl ?_
    refine vg_X3_broken (pc := 16) (by first | assumption | decide) (by assumption) mw_F_X4_95 dX4_fallsWith_16 ?_
    refine vv_if_eq (pc := 19) (tgt := 25) dX4_fallsWith_19 (by decide) (fun c19 => ?_) (fun c19 => ?_)
    -- t@19 path rt
    · refine vv_aload_n (pc := 25) 1 dX4_fallsWith_25 rfl rfl ?_
      refine vv_iload_n (pc := 26) 2 dX4_fallsWith_26 rfl rfl ?_
      refine vc_Vi (pc := 27) (c_X4_fallenWith l G _ hg hq hxi hi (a6.symm.trans c19)) mw_M_X4_188 my_X4_fallenWith mm_rv_X4 ⟨by decide, by decide⟩ rfl rfl (Nat.le_of_ble_eq_true rfl) dX4_fallsWith_27 (fun r27 S27 h27 => ?_)
      refine vr_i (pc := 30) dX4_fallsWith_30 ?_
      exact ⟨h27.1, by unfold rd_fw; rw [if_neg gH, if_pos (a6.symm.trans c19)]; exact h27.2⟩
    -- f@19 path rf
    · refine vv_bipush (pc := 22) (v := (-5)) dX4_fallsWith_22 (by decide) ?_
      refine vr_i (pc := 24) dX4_fallsWith_24 ?_
      exact ⟨fr_refl 1 S, by unfold rd_fw; rw [if_neg gH, if_neg (fun e => c19 (a6.trans e))]⟩
set_option maxRecDepth 100000 in
set_option maxHeartbeats 4000000 in
theorem c_X4_round (l : Launch) (G : gG) {q : St} (S : Mem) (hg : gd q) (hq : bo S 0 q) : mm_C l G yX4_round cX4_round 1 (some .int) (mm_rm 4 84) [.ref (gad G 0)] S (mm_Qi G (fun r S2 => fr_ 1 S S2 ∧ r = rd_ro q)) := by
  obtain ⟨C, z⟩ := q
  obtain ⟨hwf, hcalm⟩ := id hg
  dsimp only at hwf hcalm
  obtain ⟨hC, h3, hr, ht⟩ := id hq
  dsimp only at hC h3 hr ht
  obtain ⟨g1, g2, g3, g4, g5, g6, g7, g8, g9⟩ := id hr
  refine mm_ofV (own := RX4) (by decide +kernel) rfl (Nat.le_of_ble_eq_true rfl) (ls0 := [(0, .ref (gad G 0))]) rfl ?_
  refine vv_aload_n (pc := 0) 0 dX4_round_0 rfl rfl ?_
  refine vg_X4_trial (pc := 1) mw_F_X4_16 dX4_round_1 ?_
  refine vv_aload_n (pc := 4) 0 dX4_round_4 rfl rfl ?_
  refine vg_X4_bridge (pc := 5) mw_F_X4_10 dX4_round_5 ?_
  refine vc_Vv (pc := 8) (c_X0_takeAsHeard l G (b := 1) (b2 := 0) (by decide) (by decide) (by decide) _ hwf hr) mw_M_X4_123 my_X0_takeAsHeard (mm_rv_B (by first | assumption | decide)) ⟨by decide, by decide⟩ rfl rfl (Nat.le_of_ble_eq_true rfl) dX4_round_8 (fun S8 h8 => ?_)
  refine vv_aload_n (pc := 11) 0 dX4_round_11 rfl rfl ?_
  refine vg_X4_trial (pc := 12) mw_F_X4_16 dX4_round_12 ?_
  refine vc_Vi (pc := 15) (c_X0_walkToDoubtful l G (b := 1) (by decide) _ (sp_hd_wf hwf) h8.1 h8.2.1) mw_M_X4_201 my_X0_walkToDoubtful (mm_rv_B (by first | assumption | decide)) ⟨by decide, by decide⟩ rfl rfl (Nat.le_of_ble_eq_true rfl) dX4_round_15 (fun r15 S15 h15 => ?_)
  obtain ⟨qS15, h15⟩ := h15
  replace qS15 := qS15.symm
  subst qS15
  refine vr_i (pc := 18) dX4_round_18 ?_
  exact ⟨h8.2.2, by rw [h15]; unfold rd_ro; rw [sp_hd_low C z (by decide)]⟩
set_option maxRecDepth 100000 in
set_option maxHeartbeats 4000000 in
theorem c_X4_slackIn (l : Launch) (G : gG) {q : St} (S : Mem) (hg : gd q) (hq : bo S 0 q) (x1 : Int32) : mm_C l G yX4_slackIn cX4_slackIn 5 (some .int) (mm_rm 1 21) [.ref (gad G 0), .int x1] S (mm_Qi G (fun r S2 => S2 = S ∧ r = rd_si q x1)) := by
  obtain ⟨C, z⟩ := q
  obtain ⟨hwf, hcalm⟩ := id hg
  dsimp only at hwf hcalm
  obtain ⟨hC, h3, hr, ht⟩ := id hq
  dsimp only at hC h3 hr ht
  obtain ⟨g1, g2, g3, g4, g5, g6, g7, g8, g9⟩ := id hr
  refine mm_ofV (own := RX4) (by decide +kernel) rfl (Nat.le_of_ble_eq_true rfl) (ls0 := [(0, .ref (gad G 0)), (1, .int x1)]) rfl ?_
  refine vv_aload_n (pc := 0) 0 dX4_slackIn_0 rfl rfl ?_
  refine vg_X4_bridge (pc := 1) mw_F_X4_10 dX4_slackIn_1 ?_
  refine vv_iload_n (pc := 4) 1 dX4_slackIn_4 rfl rfl ?_
  refine vc_Vq (pc := 5) (c_X0_wireNumbered l G (by decide) _ hC (g1.trans h3) _) mw_M_X4_73 my_X0_wireNumbered (mm_rv_B (by first | assumption | decide)) ⟨by decide, by decide⟩ rfl rfl (Nat.le_of_ble_eq_true rfl) dX4_slackIn_5 (fun r5 S5 h5 => ?_)
  obtain ⟨qS5, h5⟩ := h5
  replace qS5 := qS5.symm
  subst qS5
  rcases sp_rf_cases G 0 (sp_wi C x1) with ⟨gH, eH⟩ | ⟨gH, eH⟩ <;> rw [eH] at h5 <;> subst h5
  -- null@5 path n
  · refine vv_astore_nN (pc := 8) (i := 2) (ls' := [(2, .null), (0, .ref (gad G 0)), (1, .int x1)]) dX4_slackIn_8 rfl (by decide) rfl ?_
    refine vv_aload_nN (pc := 9) 0 dX4_slackIn_9 rfl rfl ?_
    refine vv_ifnonnullN (pc := 10) dX4_slackIn_10 ?_
    refine vv_iconst (pc := 13) (v := (-1)) dX4_slackIn_13 (by decide) ?_
    refine vr_i (pc := 14) dX4_slackIn_14 ?_
    exact ⟨rfl, by unfold rd_si; rw [if_pos gH]⟩
  -- ref@5 path r
  · obtain ⟨hi, hxi⟩ := sp_wi_lt hC gH
    have hi8 : sp_wi C x1 < 8 := by omega
    obtain ⟨a1, a2, a3, a4, a5, a6, a7, a8, a9, a10, a11⟩ := g9 _ hi
    have hww := hwf.2.1 _ hi
    refine vv_astore_n (pc := 8) (i := 2) (ls' := [(2, _), (0, .ref (gad G 0)), (1, .int x1)]) dX4_slackIn_8 rfl (by decide) rfl ?_
    refine vv_aload_n (pc := 9) 0 dX4_slackIn_9 rfl rfl ?_
    refine vv_ifnonnull (pc := 10) (tgt := 15) dX4_slackIn_10 (by decide) ?_
    refine vv_aload_n (pc := 15) 0 dX4_slackIn_15 rfl rfl ?_
    refine vg_X3_broken (pc := 16) (by first | assumption | decide) (by assumption) mw_F_X4_95 dX4_slackIn_16 ?_
    refine vv_if_eq (pc := 19) (tgt := 25) dX4_slackIn_19 (by decide) (fun c19 => ?_) (fun c19 => ?_)
    -- t@19 path rt
    · refine vv_aload_n (pc := 25) 0 dX4_slackIn_25 rfl rfl ?_
      refine vg_X3_tension (pc := 26) (by first | assumption | decide) (by assumption) mw_F_X4_92 dX4_slackIn_26 ?_
      refine vv_topi (fun x3p29 e3p29 => ?_)
      refine vv_istore_n (pc := 29) (i := 3) (ls' := [(3, .int x3p29), (2, _), (0, .ref (gad G 0)), (1, .int x1)]) dX4_slackIn_29 rfl (by decide) rfl ?_
      refine vv_iconst (pc := 30) (v := 0) dX4_slackIn_30 (by decide) ?_
      refine vv_topi (fun x4p31 e4p31 => ?_)
      refine vv_istore (pc := 31) (i := 4) (ls' := [(4, .int x4p31), (3, .int x3p29), (2, _), (0, .ref (gad G 0)), (1, .int x1)]) dX4_slackIn_31 (by decide) rfl ?_
      obtain ⟨F, eF⟩ : ∃ F, F = sp_sl (z 0) (sp_tk z 5 C (sp_wi C x1)) 301 0 (sp_f z (sp_wi C x1) 4) := ⟨_, rfl⟩
      have lp33 : ∀ (n : Nat) (d kk : Nat) (x3 x4 : Int32), 303 ≤ n + d → d + kk = 301 → x4 = nI d → sp_sl (z 0) (sp_tk z 5 C (sp_wi C x1)) kk d x3 = F → mm_V l G RX4 cX4_slackIn 5 (some .int) (mm_rm 1 21) 0 0 (fun _ => True) (fun _ => mm_F G) (mm_Qf G (mm_Qi G (fun r S2 => S2 = S ∧ r = rd_si (C, z) x1))) S 33 [(0, .ref (gad G 0)), (1, .int x1), (2, .ref (gad G (mm_W 0 (sp_wi C x1)))), (3, .int x3), (4, .int x4)] [] := by
        intro n
        induction n with
        | zero =>
          intro d kk x3 x4 hn hd e4 hF
          exact absurd hn (by omega)
        | succ n ih =>
          intro d kk x3 x4 hn hd e4 hF
          refine vv_iload (pc := 33) 4 dX4_slackIn_33 rfl ?_
          refine vv_sipush (pc := 35) (v := 300) dX4_slackIn_35 (by decide) ?_
          refine vv_icmp_gt (pc := 38) (tgt := 70) dX4_slackIn_38 (by decide) (fun c38 => ?_) (fun c38 => ?_)
          -- t@38 path rtL33t
          · refine vv_bipush (pc := 70) (v := (-6)) dX4_slackIn_70 (by decide) ?_
            refine vr_i (pc := 72) dX4_slackIn_72 ?_
            have hd3 : kk = 0 := by
              rw [e4] at c38
              rcases Nat.lt_or_ge 300 d with h | h
              · omega
              · exact absurd c38 (nI_nlt (a := 300) (b := d) h (by decide))
            subst hd3
            refine ⟨rfl, ?_⟩
            unfold rd_si
            rw [if_neg gH, if_pos (a6.symm.trans c19)]
            dsimp only
            rw [← eF, ← hF]
            rfl
          -- f@38 path rtL33f
          · refine vv_iload_n (pc := 41) 3 dX4_slackIn_41 rfl rfl ?_
            refine vv_aload_n (pc := 42) 2 dX4_slackIn_42 rfl rfl ?_
            refine vg_X3_task (pc := 43) (by first | assumption | decide) (by assumption) mw_F_X4_106 dX4_slackIn_43 ?_
            refine vv_icmp_ge (pc := 46) (tgt := 52) dX4_slackIn_46 (by decide) (fun c46 => ?_) (fun c46 => ?_)
            -- t@46 path rtL33ft
            · obtain ⟨k1, rfl⟩ : ∃ k1, kk = k1 + 1 := by
                rcases kk with _ | k1
                · exfalso
                  have e1 : d = 301 := by omega
                  rw [e4, e1] at c38
                  exact c38 (by decide)
                · exact ⟨k1, rfl⟩
              rw [sp_sl, if_neg (by rw [← ht _ hi]; exact fun h => Int32.not_lt.mpr c46 h)] at hF
              refine vv_iload_n (pc := 52) 3 dX4_slackIn_52 rfl rfl ?_
              refine vv_aload_n (pc := 53) 0 dX4_slackIn_53 rfl rfl ?_
              refine vg_X4_bridge (pc := 54) mw_F_X4_10 dX4_slackIn_54 ?_
              refine vg_X0_creep (pc := 57) (by first | assumption | decide) mw_F_X4_173 dX4_slackIn_57 ?_
              refine vc_Si (pc := 60) (c_X4_crept l G _ _ _) mw_M_X4_198 my_X4_crept ⟨by decide, by decide⟩ rfl rfl (Nat.le_of_ble_eq_true rfl) dX4_slackIn_60 (fun r60 S60 h60 => ?_)
              obtain ⟨qS60, h60⟩ := h60
              replace qS60 := qS60.symm
              subst qS60
              refine vv_topi (fun x3p63 e3p63 => ?_)
              refine vv_istore_n (pc := 63) (i := 3) (ls' := [(3, .int x3p63), (0, .ref (gad G 0)), (1, .int x1), (2, .ref (gad G (mm_W 0 (sp_wi C x1)))), (4, .int x4)]) dX4_slackIn_63 rfl (by decide) rfl ?_
              obtain ⟨x4p64, e4p64⟩ : ∃ y : Int32, y = x4 + 1 := ⟨_, rfl⟩
              refine vv_iinc (pc := 64) (q := 4) (v := x4p64) (ls' := [(4, .int x4p64), (3, .int x3p63), (0, .ref (gad G 0)), (1, .int x1), (2, .ref (gad G (mm_W 0 (sp_wi C x1))))]) dX4_slackIn_64 rfl (by rw [e4p64]; rfl) (by decide) rfl ?_
              refine vv_goto (pc := 67) (tgt := 33) dX4_slackIn_67 (by decide) ?_
              refine vv_sub [2, 3, 4, 1, 0] (ls' := [(0, _), (1, _), (2, _), (3, _), (4, _)]) rfl ?_
              exact ih (d + 1) k1 x3p63 x4p64 (by omega) (by omega) (by rw [e4p64, e4]; exact nI_1 d) (by rw [e3p63, h60, g2]; exact hF)
            -- f@46 path rtL33ff
            · obtain ⟨k1, rfl⟩ : ∃ k1, kk = k1 + 1 := by
                rcases kk with _ | k1
                · exfalso
                  have e1 : d = 301 := by omega
                  rw [e4, e1] at c38
                  exact c38 (by decide)
                · exact ⟨k1, rfl⟩
              rw [sp_sl, if_pos (by rw [← ht _ hi]; exact Int32.not_le.mp c46)] at hF
              refine vv_iload (pc := 49) 4 dX4_slackIn_49 rfl ?_
              refine vr_i (pc := 51) dX4_slackIn_51 ?_
              refine ⟨rfl, ?_⟩
              unfold rd_si
              rw [if_neg gH, if_pos (a6.symm.trans c19)]
              dsimp only
              rw [← eF, ← hF, e4]
      refine vv_sub [3, 4, 2, 1, 0] (ls' := [(0, _), (1, _), (2, _), (3, _), (4, _)]) rfl ?_
      exact lp33 303 0 301 x3p29 x4p31 (by omega) (by omega) e4p31 (by rw [e3p29, a5]; exact eF.symm)
    -- f@19 path rf
    · refine vv_bipush (pc := 22) (v := (-6)) dX4_slackIn_22 (by decide) ?_
      refine vr_i (pc := 24) dX4_slackIn_24 ?_
      exact ⟨rfl, by unfold rd_si; rw [if_neg gH, if_neg (fun e => c19 (a6.trans e))]⟩
set_option maxRecDepth 100000 in
set_option maxHeartbeats 4000000 in
theorem c_X4_weakest (l : Launch) (G : gG) {q : St} (S : Mem) (hg : gd q) (hq : bo S 0 q) (x1 : Int32) : mm_C l G yX4_weakest cX4_weakest 7 (some .int) (mm_rm 4 94) [.ref (gad G 0), .int x1] S (mm_Qi G (fun r S2 => fr_ 1 S S2 ∧ r = rd_we q x1)) := by
  obtain ⟨C, z⟩ := q
  obtain ⟨hwf, hcalm⟩ := id hg
  dsimp only at hwf hcalm
  obtain ⟨hC, h3, hr, ht⟩ := id hq
  dsimp only at hC h3 hr ht
  obtain ⟨g1, g2, g3, g4, g5, g6, g7, g8, g9⟩ := id hr
  refine mm_ofV (own := RX4) (by decide +kernel) rfl (Nat.le_of_ble_eq_true rfl) (ls0 := [(0, .ref (gad G 0)), (1, .int x1)]) rfl ?_
  have cut12 : ∀ (hx01 : x1 = 0 ∨ x1 = 1), mm_V l G RX4 cX4_weakest 7 (some .int) (mm_rm 4 94) 0 0 (fun _ => True) (fun _ => mm_F G) (mm_Qf G (mm_Qi G (fun r S2 => fr_ 1 S S2 ∧ r = rd_we (C, z) x1))) S 12 [(0, .ref (gad G 0)), (1, .int x1)] [] := by
    intro hx01
    refine vv_bipush (pc := 12) (v := (-6)) dX4_weakest_12 (by decide) ?_
    refine vv_topi (fun x2p14 e2p14 => ?_)
    refine vv_istore_n (pc := 14) (i := 2) (ls' := [(2, .int x2p14), (0, .ref (gad G 0)), (1, .int x1)]) dX4_weakest_14 rfl (by decide) rfl ?_
    refine vv_bipush (pc := 15) (v := (-6)) dX4_weakest_15 (by decide) ?_
    refine vv_topi (fun x3p17 e3p17 => ?_)
    refine vv_istore_n (pc := 17) (i := 3) (ls' := [(3, .int x3p17), (2, .int x2p14), (0, .ref (gad G 0)), (1, .int x1)]) dX4_weakest_17 rfl (by decide) rfl ?_
    refine vv_iconst (pc := 18) (v := 0) dX4_weakest_18 (by decide) ?_
    refine vv_topi (fun x4p19 e4p19 => ?_)
    refine vv_istore (pc := 19) (i := 4) (ls' := [(4, .int x4p19), (3, .int x3p17), (2, .int x2p14), (0, .ref (gad G 0)), (1, .int x1)]) dX4_weakest_19 (by decide) rfl ?_
    have lp21 : ∀ (n : Nat) (c : Nat) (x2 x3 x4 : Int32) (S1 : Mem), 9 ≤ n + c → c ≤ C → x4 = nI c → x2 = (sp_wst C z c).1 → x3 = (sp_wst C z c).2 → fr_ 1 S S1 → mm_V l G RX4 cX4_weakest 7 (some .int) (mm_rm 4 94) 0 0 (fun _ => True) (fun _ => mm_F G) (mm_Qf G (mm_Qi G (fun r S2 => fr_ 1 S S2 ∧ r = rd_we (C, z) x1))) S1 21 [(0, .ref (gad G 0)), (1, .int x1), (2, .int x2), (3, .int x3), (4, .int x4)] [] := by
      intro n
      induction n with
      | zero =>
        intro c x2 x3 x4 S1 hn hc e4 e2 e3 hfr
        exact absurd hn (by omega)
      | succ n ih =>
        intro c x2 x3 x4 S1 hn hc e4 e2 e3 hfr
        have hq1 : bo S1 0 (C, z) := bo_eq hq (fun j hj hj2 => hfr j (by unfold mm_B at *; omega))
        obtain ⟨-, -, hr1, ht1⟩ := id hq1
        dsimp only at hr1 ht1
        refine vv_iload (pc := 21) 4 dX4_weakest_21 rfl ?_
        refine vv_aload_n (pc := 23) 0 dX4_weakest_23 rfl rfl ?_
        refine vg_X4_bridge (pc := 24) mw_F_X4_10 dX4_weakest_24 ?_
        refine vg_X0_wireCount (pc := 27) (by first | assumption | decide) mw_F_X4_150 dX4_weakest_27 ?_
        refine vv_icmp_ge (pc := 30) (tgt := 86) dX4_weakest_30 (by decide) (fun c30 => ?_) (fun c30 => ?_)
        -- t@30 path C12L21t
        · refine vv_iload_n (pc := 86) 1 dX4_weakest_86 rfl rfl ?_
          refine vv_if_ne (pc := 87) (tgt := 94) dX4_weakest_87 (by decide) (fun c87 => ?_) (fun c87 => ?_)
          -- t@87 path C12L21tt
          · refine vv_iload_n (pc := 94) 3 dX4_weakest_94 rfl rfl ?_
            refine vr_i (pc := 95) dX4_weakest_95 ?_
            rw [hr1.1, h3] at c30
            have hcC := sp_geN (N := C) (by omega) hc e4 c30
            subst hcC
            refine ⟨hfr, ?_⟩
            unfold rd_we
            rw [if_neg c87, if_pos (hx01.resolve_left c87)]
            exact e3
          -- f@87 path C12L21tf
          · refine vv_iload_n (pc := 90) 2 dX4_weakest_90 rfl rfl ?_
            refine vv_goto (pc := 91) (tgt := 95) dX4_weakest_91 (by decide) ?_
            refine vr_i (pc := 95) dX4_weakest_95 ?_
            rw [hr1.1, h3] at c30
            have hcC := sp_geN (N := C) (by omega) hc e4 c30
            subst hcC
            refine ⟨hfr, ?_⟩
            unfold rd_we
            rw [if_pos c87]
            exact e2
        -- f@30 path C12L21f
        · rw [hr1.1, h3] at c30
          have hcC : c < C := sp_ltN (N := C) (by omega) hc e4 c30
          have hc8 : c < 8 := by omega
          refine vv_aload_n (pc := 33) 0 dX4_weakest_33 rfl rfl ?_
          refine vg_X4_bridge (pc := 34) mw_F_X4_10 dX4_weakest_34 ?_
          refine vv_iload (pc := 37) 4 dX4_weakest_37 rfl ?_
          refine vc_Vq (pc := 39) (c_X0_wireNumbered l G (by decide) _ hC (hr1.1.trans h3) _) mw_M_X4_73 my_X0_wireNumbered (mm_rv_B (by first | assumption | decide)) ⟨by decide, by decide⟩ rfl rfl (Nat.le_of_ble_eq_true rfl) dX4_weakest_39 (fun r39 S39 h39 => ?_)
          obtain ⟨qS39, h39⟩ := h39
          replace qS39 := qS39.symm
          subst qS39
          have hwi : sp_wi C x4 = c := by rw [e4, (sp_wi_in (C := C) hC (nI_pos (by omega)) (nI_ge hcC (by omega))).1, cl_n (by omega)]
          rw [hwi] at h39
          unfold sp_rf at h39
          rw [if_neg (by omega)] at h39
          subst h39
          refine vv_astore (pc := 42) (i := 5) (ls' := [(5, _), (0, .ref (gad G 0)), (1, .int x1), (2, .int x2), (3, .int x3), (4, .int x4)]) dX4_weakest_42 (by decide) rfl ?_
          refine vv_aload (pc := 44) 0 dX4_weakest_44 rfl ?_
          refine vv_ifnull (pc := 46) dX4_weakest_46 ?_
          refine vv_aload (pc := 49) 0 dX4_weakest_49 rfl ?_
          refine vg_X3_broken (pc := 51) (by decide) hc8 mw_F_X4_95 dX4_weakest_51 ?_
          refine vv_if_ne (pc := 54) (tgt := 80) dX4_weakest_54 (by decide) (fun c54 => ?_) (fun c54 => ?_)
          -- t@54 path C12L21ft
          · obtain ⟨x4p80, e4p80⟩ : ∃ y : Int32, y = x4 + 1 := ⟨_, rfl⟩
            refine vv_iinc (pc := 80) (q := 5) (v := x4p80) (ls' := [(4, .int x4p80), (5, _), (0, .ref (gad G 0)), (1, .int x1), (2, .int x2), (3, .int x3)]) dX4_weakest_80 rfl (by rw [e4p80]; rfl) (by decide) rfl ?_
            refine vv_goto (pc := 83) (tgt := 21) dX4_weakest_83 (by decide) ?_
            have hst : sp_wst C z (c + 1) = sp_wst C z c := by rw [sp_wst, if_neg (fun h => c54 ((hr1.2.2.2.2.2.2.2.2 c hcC).2.2.2.2.2.1.trans h.1))]
            refine vv_sub [2, 3, 4, 5, 0] (ls' := [(0, _), (1, _), (2, _), (3, _), (4, _)]) rfl ?_
            exact ih (c + 1) x2 x3 x4p80 S1 (by omega) (by omega) (by rw [e4p80, e4]; exact nI_1 c) (by rw [hst]; exact e2) (by rw [hst]; exact e3) hfr
          -- f@54 path C12L21ff
          · refine vv_aload_n (pc := 57) 1 dX4_weakest_57 rfl rfl ?_
            refine vv_iload (pc := 58) 5 dX4_weakest_58 rfl ?_
            refine vc_Vi (pc := 60) (c_X4_fallenWith l G _ hg hq1 e4 hcC ((hr1.2.2.2.2.2.2.2.2 c hcC).2.2.2.2.2.1.symm.trans c54)) mw_M_X4_188 my_X4_fallenWith mm_rv_X4 ⟨by decide, by decide⟩ rfl rfl (Nat.le_of_ble_eq_true rfl) dX4_weakest_60 (fun r60 S60 h60 => ?_)
            refine vc_Si (pc := 63) (c_J6_bitCount_0f7a4 l G _ _) mw_M_X4_204 my_J6_bitCount_0f7a4 ⟨by decide, by decide⟩ rfl rfl (Nat.le_of_ble_eq_true rfl) dX4_weakest_63 (fun r63 S63 h63 => ?_)
            obtain ⟨qS63, h63⟩ := h63
            replace qS63 := qS63.symm
            subst qS63
            refine vv_topi (fun x6p66 e6p66 => ?_)
            refine vv_istore (pc := 66) (i := 6) (ls' := [(6, .int x6p66), (5, _), (0, .ref (gad G 0)), (1, .int x1), (2, .int x2), (3, .int x3), (4, .int x4)]) dX4_weakest_66 (by decide) rfl ?_
            rw [h60.2] at h63
            have h5 := (hr1.2.2.2.2.2.2.2.2 c hcC).2.2.2.2.2.1.symm.trans c54
            refine vv_iload (pc := 68) 0 dX4_weakest_68 rfl ?_
            refine vv_iload_n (pc := 70) 5 dX4_weakest_70 rfl rfl ?_
            refine vv_icmp_le (pc := 71) (tgt := 80) dX4_weakest_71 (by decide) (fun c71 => ?_) (fun c71 => ?_)
            -- t@71 path C12L21fft
            · obtain ⟨x4p80, e4p80⟩ : ∃ y : Int32, y = x4 + 1 := ⟨_, rfl⟩
              refine vv_iinc (pc := 80) (q := 6) (v := x4p80) (ls' := [(4, .int x4p80), (6, .int x6p66), (5, _), (0, .ref (gad G 0)), (1, .int x1), (2, .int x2), (3, .int x3)]) dX4_weakest_80 rfl (by rw [e4p80]; rfl) (by decide) rfl ?_
              refine vv_goto (pc := 83) (tgt := 21) dX4_weakest_83 (by decide) ?_
              have hst : sp_wst C z (c + 1) = sp_wst C z c := by rw [sp_wst, if_neg (fun h => Int32.not_lt.mpr c71 (by rw [e6p66, h63, e3]; exact h.2))]
              refine vv_sub [3, 4, 5, 6, 0] (ls' := [(0, _), (1, _), (2, _), (3, _), (4, _)]) rfl ?_
              exact ih (c + 1) x2 x3 x4p80 S60 (by omega) (by omega) (by rw [e4p80, e4]; exact nI_1 c) (by rw [hst]; exact e2) (by rw [hst]; exact e3) (fr_trans hfr h60.1)
            -- f@71 path C12L21fff
            · refine vv_iload (pc := 74) 0 dX4_weakest_74 rfl ?_
              refine vv_topi (fun x3p76 e3p76 => ?_)
              refine vv_istore_n (pc := 76) (i := 3) (ls' := [(3, .int x3p76), (6, .int x6p66), (5, _), (0, .ref (gad G 0)), (1, .int x1), (2, .int x2), (4, .int x4)]) dX4_weakest_76 rfl (by decide) rfl ?_
              refine vv_iload (pc := 77) 6 dX4_weakest_77 rfl ?_
              refine vv_topi (fun x2p79 e2p79 => ?_)
              refine vv_istore_n (pc := 79) (i := 2) (ls' := [(2, .int x2p79), (3, .int x3p76), (6, .int x6p66), (5, _), (0, .ref (gad G 0)), (1, .int x1), (4, .int x4)]) dX4_weakest_79 rfl (by decide) rfl ?_
              obtain ⟨x4p80, e4p80⟩ : ∃ y : Int32, y = x4 + 1 := ⟨_, rfl⟩
              refine vv_iinc (pc := 80) (q := 6) (v := x4p80) (ls' := [(4, .int x4p80), (2, .int x2p79), (3, .int x3p76), (6, .int x6p66), (5, _), (0, .ref (gad G 0)), (1, .int x1)]) dX4_weakest_80 rfl (by rw [e4p80]; rfl) (by decide) rfl ?_
              refine vv_goto (pc := 83) (tgt := 21) dX4_weakest_83 (by decide) ?_
              have hst : sp_wst C z (c + 1) = (nI c, sp_bc (sp_fal C z c)) := by rw [sp_wst, if_pos ⟨h5, by rw [← e3]; have := Int32.not_le.mp c71; rw [e6p66, h63] at this; exact this⟩]
              refine vv_sub [5, 6, 1, 2, 0] (ls' := [(0, _), (1, _), (2, _), (3, _), (4, _)]) rfl ?_
              exact ih (c + 1) x2p79 x3p76 x4p80 S60 (by omega) (by omega) (by rw [e4p80, e4]; exact nI_1 c) (by rw [hst, e2p79, e4]) (by rw [hst, e3p76, e6p66, h63]) (fr_trans hfr h60.1)
    refine vv_sub [3, 4, 2, 1, 0] (ls' := [(0, _), (1, _), (2, _), (3, _), (4, _)]) rfl ?_
    exact lp21 9 0 x2p14 x3p17 x4p19 S (by omega) (by omega) e4p19 e2p14 e3p17 (fr_refl 1 S)
  refine vv_iload_n (pc := 0) 1 dX4_weakest_0 rfl rfl ?_
  refine vv_if_eq (pc := 1) (tgt := 12) dX4_weakest_1 (by decide) (fun c1 => ?_) (fun c1 => ?_)
  -- t@1 path t
  · refine vv_sub [0, 1] (ls' := [(0, _), (1, _)]) rfl ?_
    exact cut12 (Or.inl c1)
  -- f@1 path f
  · refine vv_iload_n (pc := 4) 1 dX4_weakest_4 rfl rfl ?_
    refine vv_iconst (pc := 5) (v := 1) dX4_weakest_5 (by decide) ?_
    refine vv_icmp_eq (pc := 6) (tgt := 12) dX4_weakest_6 (by decide) (fun c6 => ?_) (fun c6 => ?_)
    -- t@6 path ft
    · refine vv_sub [0, 1] (ls' := [(0, _), (1, _)]) rfl ?_
      exact cut12 (Or.inr c6)
    -- f@6 path ff
    · refine vv_bipush (pc := 9) (v := (-2)) dX4_weakest_9 (by decide) ?_
      refine vr_i (pc := 11) dX4_weakest_11 ?_
      refine ⟨fr_refl 1 S, ?_⟩
      unfold rd_we
      rw [if_neg c1, if_neg c6]
set_option maxRecDepth 100000 in
set_option maxHeartbeats 4000000 in
theorem c_X4_mostAt (l : Launch) (G : gG) {q : St} (S : Mem) (hg : gd q) (hq : bo S 0 q) (x1 : Int32) : mm_C l G yX4_mostAt cX4_mostAt 4 (some .int) (mm_rm 3 71) [.ref (gad G 0), .int x1] S (mm_Qi G (fun r S2 => fr_ 1 S S2 ∧ r = rd_mo q x1)) := by
  obtain ⟨C, z⟩ := q
  obtain ⟨hwf, hcalm⟩ := id hg
  dsimp only at hwf hcalm
  obtain ⟨hC, h3, hr, ht⟩ := id hq
  dsimp only at hC h3 hr ht
  obtain ⟨g1, g2, g3, g4, g5, g6, g7, g8, g9⟩ := id hr
  refine mm_ofV (own := RX4) (by decide +kernel) rfl (Nat.le_of_ble_eq_true rfl) (ls0 := [(0, .ref (gad G 0)), (1, .int x1)]) rfl ?_
  refine vv_iload_n (pc := 0) 1 dX4_mostAt_0 rfl rfl ?_
  refine vv_iconst (pc := 1) (v := 0) dX4_mostAt_1 (by decide) ?_
  refine vv_bipush (pc := 2) (v := 19) dX4_mostAt_2 (by decide) ?_
  refine vc_Si (pc := 4) (c_X4_within l G _ _ _ _) mw_M_X4_177 my_X4_within ⟨by decide, by decide⟩ rfl rfl (Nat.le_of_ble_eq_true rfl) dX4_mostAt_4 (fun r4 S4 h4 => ?_)
  obtain ⟨qS4, h4⟩ := h4
  replace qS4 := qS4.symm
  subst qS4
  refine vv_if_ne (pc := 7) (tgt := 12) dX4_mostAt_7 (by decide) (fun c7 => ?_) (fun c7 => ?_)
  -- t@7 path t
  · have c7b := c7
    rw [h4, sp_in_iff, show (0 : Int32).toInt = 0 by decide, show (19 : Int32).toInt = 19 by decide] at c7b
    have hx : x1 = nI x1.toNatClampNeg := sp_nI (by omega)
    have hxl := sp_cl (x := x1) (by omega)
    have hx20 : x1.toNatClampNeg < 20 := by omega
    obtain ⟨p, hp⟩ : ∃ p, p = x1.toNatClampNeg := ⟨_, rfl⟩
    rw [← hp] at hx hx20
    refine vv_aload_n (pc := 12) 0 dX4_mostAt_12 rfl rfl ?_
    refine vg_X4_trial (pc := 13) mw_F_X4_16 dX4_mostAt_13 ?_
    refine vv_aload_n (pc := 16) 0 dX4_mostAt_16 rfl rfl ?_
    refine vg_X4_bridge (pc := 17) mw_F_X4_10 dX4_mostAt_17 ?_
    refine vc_Vv (pc := 20) (c_X0_takeFrom l G (b := 1) (b2 := 0) (by decide) (by decide) (by decide) _ hC h3 hr) mw_M_X4_191 my_X0_takeFrom (mm_rv_B (by decide)) ⟨by decide, by decide⟩ rfl rfl (Nat.le_of_ble_eq_true rfl) dX4_mostAt_20 (fun S20 h20 => ?_)
    have ht20 : rt_ C S20 1 z := fun k hk => (h20.2.1 k hk).trans (ht k hk)
    refine vv_aload_n (pc := 23) 0 dX4_mostAt_23 rfl rfl ?_
    refine vg_X4_trial (pc := 24) mw_F_X4_16 dX4_mostAt_24 ?_
    refine vv_iload_n (pc := 27) 1 dX4_mostAt_27 rfl rfl ?_
    refine vv_iconst (pc := 28) (v := 0) dX4_mostAt_28 (by decide) ?_
    refine vc_Vi (pc := 29) (c_X0_standsWith l G (b := 1) (by decide) _ hwf h20.1 ht20 hx hx20 (by decide)) mw_M_X4_194 my_X0_standsWith (mm_rv_B (by decide)) ⟨by decide, by decide⟩ rfl rfl (Nat.le_of_ble_eq_true rfl) dX4_mostAt_29 (fun r29 S29 h29 => ?_)
    refine vv_if_ne (pc := 32) (tgt := 38) dX4_mostAt_32 (by decide) (fun c32 => ?_) (fun c32 => ?_)
    -- t@32 path tt
    · have hb0 : sp_bu (upd z (10 + p) 0) C = 99 := by
        rcases Nat.decEq (sp_bu (upd z (10 + p) 0) C) 99 with e | e
        · rw [h29.1, if_neg e] at c32; exact absurd rfl c32
        · exact e
      obtain ⟨F, eF⟩ : ∃ F, F = sp_mo C z p 10 0 := ⟨_, rfl⟩
      refine vv_iconst (pc := 38) (v := 0) dX4_mostAt_38 (by decide) ?_
      refine vv_topi (fun x2p39 e2p39 => ?_)
      refine vv_istore_n (pc := 39) (i := 2) (ls' := [(2, .int x2p39), (0, .ref (gad G 0)), (1, .int x1)]) dX4_mostAt_39 rfl (by decide) rfl ?_
      refine vv_sipush (pc := 40) (v := 512) dX4_mostAt_40 (by decide) ?_
      refine vv_topi (fun x3p43 e3p43 => ?_)
      refine vv_istore_n (pc := 43) (i := 3) (ls' := [(3, .int x3p43), (2, .int x2p39), (0, .ref (gad G 0)), (1, .int x1)]) dX4_mostAt_43 rfl (by decide) rfl ?_
      have lp44 : ∀ (n : Nat) (kk m v : Nat) (x2 x3 : Int32) (S1 : Mem), kk + 1 ≤ n → kk ≤ 10 → m + 2 ^ kk ≤ 1024 → v ≤ 1000 → x2 = nI m → x3 = nI (2 ^ kk / 2) → rb C S1 1 (upd z (10 + p) (nI v)) → rt_ C S1 1 (upd z (10 + p) (nI v)) → fr_ 1 S S1 → sp_mo C z p kk m = F → mm_V l G RX4 cX4_mostAt 4 (some .int) (mm_rm 3 71) 0 0 (fun _ => True) (fun _ => mm_F G) (mm_Qf G (mm_Qi G (fun r S2 => fr_ 1 S S2 ∧ r = rd_mo (C, z) x1))) S1 44 [(0, .ref (gad G 0)), (1, .int x1), (2, .int x2), (3, .int x3)] [] := by
        intro n
        induction n with
        | zero =>
          intro kk m v x2 x3 S1 hn hk hm hv e2 e3 hr1 ht1 hfr hF
          exact absurd hn (by omega)
        | succ n ih =>
          intro kk m v x2 x3 S1 hn hk hm hv e2 e3 hr1 ht1 hfr hF
          refine vv_iload_n (pc := 44) 3 dX4_mostAt_44 rfl rfl ?_
          refine vv_if_le (pc := 45) (tgt := 82) dX4_mostAt_45 (by decide) (fun c45 => ?_) (fun c45 => ?_)
          -- t@45 path ttL44t
          · refine vv_iload_n (pc := 82) 2 dX4_mostAt_82 rfl rfl ?_
            refine vr_i (pc := 83) dX4_mostAt_83 ?_
            have hk0 : kk = 0 := by
              rcases kk with _ | k1
              · rfl
              · exfalso
                rw [e3, Nat.pow_succ, Nat.mul_div_cancel _ (by decide)] at c45
                have h9 : 2 ^ k1 ≤ 2 ^ 9 := Nat.pow_le_pow_right (by decide) (by omega)
                exact nI_nle (Nat.pow_pos (by decide)) (by omega) c45
            subst hk0
            refine ⟨hfr, ?_⟩
            unfold rd_mo
            rw [if_neg (fun e => c7 (h4.trans e))]
            dsimp only
            rw [← hp, if_pos hb0, ← eF, ← hF, e2]
            rfl
          -- f@45 path ttL44f
          · obtain ⟨k1, rfl⟩ : ∃ k1, kk = k1 + 1 := by
              rcases kk with _ | k1
              · rw [e3] at c45; exact absurd (by decide) c45
              · exact ⟨k1, rfl⟩
            have e31 : x3 = nI (2 ^ k1) := by rw [e3, Nat.pow_succ, Nat.mul_div_cancel _ (by decide)]
            have hpw : 2 ^ (k1 + 1) = 2 * 2 ^ k1 := by rw [Nat.pow_succ]; omega
            have hk9 : 2 ^ k1 ≤ 2 ^ 9 := Nat.pow_le_pow_right (by decide) (by omega)
            have hsum : x2 + x3 = nI (m + 2 ^ k1) := by rw [e2, e31]; exact nI_add _ _
            rw [sp_mo] at hF
            refine vv_iload_n (pc := 48) 2 dX4_mostAt_48 rfl rfl ?_
            refine vv_iload_n (pc := 49) 3 dX4_mostAt_49 rfl rfl ?_
            refine vv_iadd (pc := 50) dX4_mostAt_50 ?_
            refine vv_sipush (pc := 51) (v := 1000) dX4_mostAt_51 (by decide) ?_
            refine vv_icmp_gt (pc := 54) (tgt := 75) dX4_mostAt_54 (by decide) (fun c54 => ?_) (fun c54 => ?_)
            -- t@54 path ttL44ft
            · refine vv_iload_n (pc := 75) 3 dX4_mostAt_75 rfl rfl ?_
              refine vv_iconst (pc := 76) (v := 2) dX4_mostAt_76 (by decide) ?_
              refine vv_idiv (pc := 77) dX4_mostAt_77 (by decide) ?_
              refine vv_topi (fun x3p78 e3p78 => ?_)
              refine vv_istore_n (pc := 78) (i := 3) (ls' := [(3, .int x3p78), (0, .ref (gad G 0)), (1, .int x1), (2, .int x2)]) dX4_mostAt_78 rfl (by decide) rfl ?_
              refine vv_goto (pc := 79) (tgt := 44) dX4_mostAt_79 (by decide) ?_
              have e3n : x3p78 = nI (2 ^ k1 / 2) := by rw [e3p78, e31]; exact pk_div (d := 2) (by omega) (by decide) (by decide)
              have hgt : ¬ (m + 2 ^ k1 ≤ 1000) := by
                rw [hsum] at c54
                intro h
                exact nI_nlt (b := m + 2 ^ k1) (a := 1000) h (by decide) c54
              rw [if_neg (fun h => hgt h.1)] at hF
              refine vv_sub [1, 2, 3, 0] (ls' := [(0, _), (1, _), (2, _), (3, _)]) rfl ?_
              exact ih k1 m v x2 x3p78 S1 (by omega) (by omega) (by omega) hv e2 e3n hr1 ht1 hfr hF
            -- f@54 path ttL44ff
            · have hle : m + 2 ^ k1 ≤ 1000 := by
                rw [hsum] at c54
                rcases Nat.lt_or_ge 1000 (m + 2 ^ k1) with h | h
                · exact absurd (nI_lt (a := 1000) h (by omega)) c54
                · exact h
              refine vv_aload_n (pc := 57) 0 dX4_mostAt_57 rfl rfl ?_
              refine vg_X4_trial (pc := 58) mw_F_X4_16 dX4_mostAt_58 ?_
              refine vv_iload_n (pc := 61) 1 dX4_mostAt_61 rfl rfl ?_
              refine vv_iload_n (pc := 62) 2 dX4_mostAt_62 rfl rfl ?_
              refine vv_iload_n (pc := 63) 3 dX4_mostAt_63 rfl rfl ?_
              refine vv_iadd (pc := 64) dX4_mostAt_64 ?_
              refine vc_Vi (pc := 65) (c_X0_standsWith l G (b := 1) (by decide) _ (sp_load_wf hwf hx20 (by rw [nI_toInt (by omega)]; omega)) hr1 ht1 hx hx20 (by rw [hsum, nI_toInt (by omega)]; omega)) mw_M_X4_194 my_X0_standsWith (mm_rv_B (by decide)) ⟨by decide, by decide⟩ rfl rfl (Nat.le_of_ble_eq_true rfl) dX4_mostAt_65 (fun r65 S65 h65 => ?_)
              rw [upd_upd, hsum] at h65
              refine vv_if_eq (pc := 68) (tgt := 75) dX4_mostAt_68 (by decide) (fun c68 => ?_) (fun c68 => ?_)
              -- t@68 path ttL44fft
              · refine vv_iload_n (pc := 75) 3 dX4_mostAt_75 rfl rfl ?_
                refine vv_iconst (pc := 76) (v := 2) dX4_mostAt_76 (by decide) ?_
                refine vv_idiv (pc := 77) dX4_mostAt_77 (by decide) ?_
                refine vv_topi (fun x3p78 e3p78 => ?_)
                refine vv_istore_n (pc := 78) (i := 3) (ls' := [(3, .int x3p78), (0, .ref (gad G 0)), (1, .int x1), (2, .int x2)]) dX4_mostAt_78 rfl (by decide) rfl ?_
                refine vv_goto (pc := 79) (tgt := 44) dX4_mostAt_79 (by decide) ?_
                have e3n : x3p78 = nI (2 ^ k1 / 2) := by rw [e3p78, e31]; exact pk_div (d := 2) (by omega) (by decide) (by decide)
                have hno : sp_bu (upd z (10 + p) (nI (m + 2 ^ k1))) C ≠ 99 := fun e => by rw [h65.1, if_pos e] at c68; exact absurd c68 (by decide)
                rw [if_neg (fun h => hno h.2)] at hF
                refine vv_sub [1, 2, 3, 0] (ls' := [(0, _), (1, _), (2, _), (3, _)]) rfl ?_
                exact ih k1 m (m + 2 ^ k1) x2 x3p78 S65 (by omega) (by omega) (by omega) hle e2 e3n h65.2.1 h65.2.2.1 (fr_trans hfr h65.2.2.2) hF
              -- f@68 path ttL44fff
              · refine vv_iload_n (pc := 71) 2 dX4_mostAt_71 rfl rfl ?_
                refine vv_iload_n (pc := 72) 3 dX4_mostAt_72 rfl rfl ?_
                refine vv_iadd (pc := 73) dX4_mostAt_73 ?_
                refine vv_topi (fun x2p74 e2p74 => ?_)
                refine vv_istore_n (pc := 74) (i := 2) (ls' := [(2, .int x2p74), (0, .ref (gad G 0)), (1, .int x1), (3, .int x3)]) dX4_mostAt_74 rfl (by decide) rfl ?_
                refine vv_iload_n (pc := 75) 3 dX4_mostAt_75 rfl rfl ?_
                refine vv_iconst (pc := 76) (v := 2) dX4_mostAt_76 (by decide) ?_
                refine vv_idiv (pc := 77) dX4_mostAt_77 (by decide) ?_
                refine vv_topi (fun x3p78 e3p78 => ?_)
                refine vv_istore_n (pc := 78) (i := 3) (ls' := [(3, .int x3p78), (2, .int x2p74), (0, .ref (gad G 0)), (1, .int x1)]) dX4_mostAt_78 rfl (by decide) rfl ?_
                refine vv_goto (pc := 79) (tgt := 44) dX4_mostAt_79 (by decide) ?_
                have e3n : x3p78 = nI (2 ^ k1 / 2) := by rw [e3p78, e31]; exact pk_div (d := 2) (by omega) (by decide) (by decide)
                have hyes : sp_bu (upd z (10 + p) (nI (m + 2 ^ k1))) C = 99 := by
                  rcases Nat.decEq (sp_bu (upd z (10 + p) (nI (m + 2 ^ k1))) C) 99 with e | e
                  · rw [h65.1, if_neg e] at c68; exact absurd rfl c68
                  · exact e
                rw [if_pos ⟨hle, hyes⟩] at hF
                refine vv_sub [2, 3, 1, 0] (ls' := [(0, _), (1, _), (2, _), (3, _)]) rfl ?_
                exact ih k1 (m + 2 ^ k1) (m + 2 ^ k1) x2p74 x3p78 S65 (by omega) (by omega) (by omega) hle (by rw [e2p74, hsum]) e3n h65.2.1 h65.2.2.1 (fr_trans hfr h65.2.2.2) hF
      refine vv_sub [2, 3, 1, 0] (ls' := [(0, _), (1, _), (2, _), (3, _)]) rfl ?_
      exact lp44 11 10 0 0 x2p39 x3p43 S29 (by omega) (by omega) (by decide) (by omega) e2p39 (by rw [e3p43]; rfl) h29.2.1 h29.2.2.1 (fr_trans h20.2.2 h29.2.2.2) eF.symm
    -- f@32 path tf
    · refine vv_bipush (pc := 35) (v := (-6)) dX4_mostAt_35 (by decide) ?_
      refine vr_i (pc := 37) dX4_mostAt_37 ?_
      refine ⟨fr_trans h20.2.2 h29.2.2.2, ?_⟩
      unfold rd_mo
      rw [if_neg (fun e => c7 (h4.trans e))]
      dsimp only
      rw [← hp, if_neg (fun e => by rw [h29.1, if_pos e] at c32; exact absurd c32 (by decide))]
  -- f@7 path f
  · refine vv_iconst (pc := 10) (v := (-1)) dX4_mostAt_10 (by decide) ?_
    refine vr_i (pc := 11) dX4_mostAt_11 ?_
    exact ⟨fr_refl 1 S, by unfold rd_mo; rw [if_pos (h4.symm.trans c7)]⟩
