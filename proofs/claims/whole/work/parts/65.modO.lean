set_option maxRecDepth 100000 in
set_option maxHeartbeats 4000000 in
theorem c_X5_hear (l : Launch) (G : gG) {q : St} {kk : Nat} {hs : Nat → St} (S : Mem) (hg : gd q) (hz : q.2 = S 8) (hh : mh S kk hs) : mm_C l G yX5_hear cX5_hear 5 (some .int) (mm_rm 3 69) [.ref (gad G 7)] S (mm_Qi G (fun r S2 => md S S2 q kk hs r (os_hear q))) := by
  obtain ⟨hwf, hcalm⟩ := id hg
  rw [hz] at hwf hcalm
  have hz4 := hwf.2.2.2.1
  have hp40 := sp_cl (x := S 8 4) (by omega)
  have hp4 : S 8 4 = nI (S 8 4).toNatClampNeg := sp_nI (by omega)
  have hp41 : (S 8 4).toNatClampNeg < 1000 := by omega
  have hwat := wat_hw hwf.1
  obtain ⟨H, hH⟩ : ∃ H, H = sp_hw (S 8) q.1 := ⟨_, rfl⟩
  rw [← hH] at hwat
  refine mm_ofV (own := RX5) (by decide +kernel) rfl (Nat.le_of_ble_eq_true rfl) (ls0 := [(0, .ref (gad G 7))]) rfl ?_
  refine vv_aload_n (pc := 0) 0 dX5_hear_0 rfl rfl ?_
  refine vv_aload_n (pc := 1) 0 dX5_hear_1 rfl rfl ?_
  refine vg_X5_now (pc := 2) mw_F_X5_7 dX5_hear_2 ?_
  refine vv_iconst (pc := 5) (v := 4) dX5_hear_5 (by decide) ?_
  refine vl_8 (pc := 6) (vp_in_nI (n := 4) (by decide) (by decide)) dX5_hear_6 ?_
  refine vc_Vi (pc := 7) (c_X5_wireAt l G _ (C := q.1) (p := (S 8 4).toNatClampNeg) hwf.1 hp4 hp41) mw_M_X5_88 my_X5_wireAt mm_rv_X5 ⟨by decide, by decide⟩ rfl rfl (Nat.le_of_ble_eq_true rfl) dX5_hear_7 (fun r7 S7 h7 => ?_)
  obtain ⟨qS7, h7⟩ := h7
  replace qS7 := qS7.symm
  subst qS7
  refine vv_topi (fun x1p10 e1p10 => ?_)
  refine vv_istore_n (pc := 10) (i := 1) (ls' := [(1, .int x1p10), (0, .ref (gad G 7))]) dX5_hear_10 rfl (by decide) rfl ?_
  rw [h7, hwat] at e1p10
  refine vv_iload_n (pc := 11) 0 dX5_hear_11 rfl rfl ?_
  refine vv_if_ge (pc := 12) (tgt := 18) dX5_hear_12 (by decide) (fun c12 => ?_) (fun c12 => ?_)
  -- t@12 path t
  · have hH9 : H ≠ 99 := fun h => by rw [e1p10, h] at c12; exact absurd c12 (by decide)
    have hHl := sp_hw_lt (z := S 8) hwf.1.1 (by rw [← hH]; exact hH9)
    rw [← hH] at hHl
    have hC8 := hwf.1.1
    have hH8 : H < 8 := by omega
    have hx1 : x1p10 = nI H := by rw [e1p10, enc_n hH9]
    refine vv_aload_n (pc := 18) 1 dX5_hear_18 rfl rfl ?_
    refine vc_Vv (pc := 19) (c_X5_record l G _ hz hh) mw_M_X5_84 my_X5_record mm_rv_X5 ⟨by decide, by decide⟩ rfl rfl (Nat.le_of_ble_eq_true rfl) dX5_hear_19 (fun S19 h19 => ?_)
    have h8 := rec_o h19 8 (by decide) (by decide)
    refine vv_aload_n (pc := 22) 1 dX5_hear_22 rfl rfl ?_
    refine vv_iload_n (pc := 23) 0 dX5_hear_23 rfl rfl ?_
    refine vc_Vi (pc := 24) (c_X5_isWhole l G _ hx1 hH8) mw_M_X5_69 my_X5_isWhole mm_rv_X5 ⟨by decide, by decide⟩ rfl rfl (Nat.le_of_ble_eq_true rfl) dX5_hear_24 (fun r24 S24 h24 => ?_)
    obtain ⟨qS24, h24⟩ := h24
    replace qS24 := qS24.symm
    subst qS24
    refine vv_if_ne (pc := 27) (tgt := 48) dX5_hear_27 (by decide) (fun c27 => ?_) (fun c27 => ?_)
    -- t@27 path tt
    · have hw0 : sp_f (S 8) H 5 = 0 := by
        rw [h24, i01, h8] at c27
        exact Classical.not_not.mp c27
      have hww := hwf.2.1 H hHl.1
      refine vv_aload_n (pc := 48) 1 dX5_hear_48 rfl rfl ?_
      refine vv_iload_n (pc := 49) 0 dX5_hear_49 rfl rfl ?_
      refine vv_aload_n (pc := 50) 1 dX5_hear_50 rfl rfl ?_
      refine vv_iload_n (pc := 51) 0 dX5_hear_51 rfl rfl ?_
      refine vv_iconst (pc := 52) (v := 4) dX5_hear_52 (by decide) ?_
      refine vc_Vi (pc := 53) (c_X5_of l G _ hx1 rfl hH8 (by decide)) mw_M_X5_47 my_X5_of mm_rv_X5 ⟨by decide, by decide⟩ rfl rfl (Nat.le_of_ble_eq_true rfl) dX5_hear_53 (fun r53 S53 h53 => ?_)
      obtain ⟨qS53, h53⟩ := h53
      replace qS53 := qS53.symm
      subst qS53
      rw [h8] at h53
      have hrg : sp_rg (sp_f (S19 8) H 1) (sp_f (S19 8) H 2) r53 := by rw [h53, h8]; exact ⟨hww.2.2.1, hww.2.2.2.1, hww.2.2.2.2.1, hww.2.2.2.2.2.1, hww.2.2.2.2.2.2.2.2.1, hww.2.2.2.2.2.2.2.2.2.1⟩
      refine vc_Vi (pc := 56) (c_X5_pitch l G _ hx1 hH8 _ hrg) mw_M_X5_103 my_X5_pitch mm_rv_X5 ⟨by decide, by decide⟩ rfl rfl (Nat.le_of_ble_eq_true rfl) dX5_hear_56 (fun r56 S56 h56 => ?_)
      obtain ⟨qS56, h56⟩ := h56
      replace qS56 := qS56.symm
      subst qS56
      refine vv_topi (fun x2p59 e2p59 => ?_)
      refine vv_istore_n (pc := 59) (i := 2) (ls' := [(2, .int x2p59), (1, .int x1p10), (0, .ref (gad G 7))]) dX5_hear_59 rfl (by decide) rfl ?_
      have e2 : x2p59 = sp_pt (sp_f (S 8) H 1) (sp_f (S 8) H 2) (sp_f (S 8) H 4) := by rw [e2p59, h56, h53, h8]
      refine vv_aload_n (pc := 60) 2 dX5_hear_60 rfl rfl ?_
      refine vv_iload_n (pc := 61) 1 dX5_hear_61 rfl rfl ?_
      refine vv_iload_n (pc := 62) 0 dX5_hear_62 rfl rfl ?_
      refine vv_iconst (pc := 63) (v := 1) dX5_hear_63 (by decide) ?_
      refine vv_iadd (pc := 64) dX5_hear_64 ?_
      refine vc_Vl (pc := 65) (c_X5_leastFor l G _ hx1 hH8 _) mw_M_X5_106 my_X5_leastFor mm_rv_X5 ⟨by decide, by decide⟩ rfl rfl (Nat.le_of_ble_eq_true rfl) dX5_hear_65 (fun r65 S65 h65 => ?_)
      obtain ⟨qS65, h65⟩ := h65
      replace qS65 := qS65.symm
      subst qS65
      refine vv_lconst (pc := 68) (v := 1) dX5_hear_68 (by decide) ?_
      refine vv_lsub (pc := 69) dX5_hear_69 ?_
      refine vv_topl (fun x3p70 e3p70 => ?_)
      refine vv_lstore_n (pc := 70) (i := 3) (ls' := [(3, .long x3p70), (2, .int x2p59), (1, .int x1p10), (0, .ref (gad G 7))]) dX5_hear_70 rfl (by decide) rfl ?_
      refine vv_aload_n (pc := 71) 3 dX5_hear_71 rfl rfl ?_
      refine vv_iload_n (pc := 72) 2 dX5_hear_72 rfl rfl ?_
      refine vv_aload_n (pc := 73) 3 dX5_hear_73 rfl rfl ?_
      refine vv_iload_n (pc := 74) 2 dX5_hear_74 rfl rfl ?_
      refine vv_iload_n (pc := 75) 1 dX5_hear_75 rfl rfl ?_
      refine vc_Vl (pc := 76) (c_X5_leastFor l G _ hx1 hH8 _) mw_M_X5_106 my_X5_leastFor mm_rv_X5 ⟨by decide, by decide⟩ rfl rfl (Nat.le_of_ble_eq_true rfl) dX5_hear_76 (fun r76 S76 h76 => ?_)
      obtain ⟨qS76, h76⟩ := h76
      replace qS76 := qS76.symm
      subst qS76
      refine vv_l2i (pc := 79) dX5_hear_79 ?_
      refine vv_lload_n (pc := 80) 0 dX5_hear_80 rfl rfl ?_
      refine vv_ldc2 (pc := 81) mw_L_X5_110 dX5_hear_81 ?_
      refine vv_lcmp (pc := 84) dX5_hear_84 ?_
      refine vv_if_le (pc := 85) (tgt := 93) dX5_hear_85 (by decide) (fun c85 => ?_) (fun c85 => ?_)
      -- t@85 path ttt
      · refine vv_lload_n (pc := 93) 0 dX5_hear_93 rfl rfl ?_
        refine vv_l2i (pc := 94) dX5_hear_94 ?_
        refine vc_Vv (pc := 95) (c_X5_know l G _ hx1 hH8 _ _) mw_M_X5_100 my_X5_know mm_rv_X5 ⟨by decide, by decide⟩ rfl rfl (Nat.le_of_ble_eq_true rfl) dX5_hear_95 (fun S95 h95 => ?_)
        refine vv_iload_n (pc := 98) 1 dX5_hear_98 rfl rfl ?_
        refine vr_i (pc := 99) dX5_hear_99 ?_
        have ho : os_hear q = (sp_pt (sp_f (S 8) H 1) (sp_f (S 8) H 2) (sp_f (S 8) H 4), (q.1, sp_kn (S 8) H (sp_ls (sp_pt (sp_f (S 8) H 1) (sp_f (S 8) H 2) (sp_f (S 8) H 4)).toInt64 (sp_f (S 8) H 1) (sp_f (S 8) H 2)).toInt32 (sp_hi (sp_pt (sp_f (S 8) H 1) (sp_f (S 8) H 2) (sp_f (S 8) H 4)) (sp_f (S 8) H 1) (sp_f (S 8) H 2)))) := by rw [os_hear, op_hear, hz, ← hH, if_neg hH9, if_pos hw0]
        rw [ho]
        rw [h8, e2] at h65 h76
        rw [h65] at e3p70
        rw [lg_cmp_le] at c85
        have hhi : x3p70.toInt32 = sp_hi (sp_pt (sp_f (S 8) H 1) (sp_f (S 8) H 2) (sp_f (S 8) H 4)) (sp_f (S 8) H 1) (sp_f (S 8) H 2) := by
          unfold sp_hi
          rw [if_neg (fun g => absurd c85 (Int64.not_le.mpr (by rw [e3p70]; exact g))), e3p70]
        refine md_do h19 e2 (by rw [h95, mR_s, h8, h76, hhi]) (fun j hj _ => by rw [h95, mR_o _ _ hj]) ?_
        rw [h53] at hrg
        rw [h8] at hrg
        obtain ⟨P, hP, eP, -⟩ := sp_know_rng hrg
        rw [eP]
        exact sp_err_nI (by omega)
      -- f@85 path ttf
      · refine vv_ldc (pc := 88) mw_K_X5_87 dX5_hear_88 ?_
        refine vv_goto (pc := 90) (tgt := 95) dX5_hear_90 (by decide) ?_
        refine vc_Vv (pc := 95) (c_X5_know l G _ hx1 hH8 _ _) mw_M_X5_100 my_X5_know mm_rv_X5 ⟨by decide, by decide⟩ rfl rfl (Nat.le_of_ble_eq_true rfl) dX5_hear_95 (fun S95 h95 => ?_)
        refine vv_iload_n (pc := 98) 1 dX5_hear_98 rfl rfl ?_
        refine vr_i (pc := 99) dX5_hear_99 ?_
        have ho : os_hear q = (sp_pt (sp_f (S 8) H 1) (sp_f (S 8) H 2) (sp_f (S 8) H 4), (q.1, sp_kn (S 8) H (sp_ls (sp_pt (sp_f (S 8) H 1) (sp_f (S 8) H 2) (sp_f (S 8) H 4)).toInt64 (sp_f (S 8) H 1) (sp_f (S 8) H 2)).toInt32 (sp_hi (sp_pt (sp_f (S 8) H 1) (sp_f (S 8) H 2) (sp_f (S 8) H 4)) (sp_f (S 8) H 1) (sp_f (S 8) H 2)))) := by rw [os_hear, op_hear, hz, ← hH, if_neg hH9, if_pos hw0]
        rw [ho]
        rw [h8, e2] at h65 h76
        rw [h65] at e3p70
        rw [lg_cmp_le] at c85
        have hhi : (50000 : Int32) = sp_hi (sp_pt (sp_f (S 8) H 1) (sp_f (S 8) H 2) (sp_f (S 8) H 4)) (sp_f (S 8) H 1) (sp_f (S 8) H 2) := by
          unfold sp_hi
          rw [if_pos (by rw [← e3p70]; exact Int64.not_le.mp c85)]
        refine md_do h19 e2 (by rw [h95, mR_s, h8, h76, hhi]) (fun j hj _ => by rw [h95, mR_o _ _ hj]) ?_
        rw [h53] at hrg
        rw [h8] at hrg
        obtain ⟨P, hP, eP, -⟩ := sp_know_rng hrg
        rw [eP]
        exact sp_err_nI (by omega)
    -- f@27 path tf
    · refine vv_aload_n (pc := 30) 1 dX5_hear_30 rfl rfl ?_
      refine vv_iload_n (pc := 31) 0 dX5_hear_31 rfl rfl ?_
      refine vv_bipush (pc := 32) (v := 10) dX5_hear_32 (by decide) ?_
      refine vv_iconst (pc := 34) (v := 1) dX5_hear_34 (by decide) ?_
      refine vc_Vv (pc := 35) (c_X5_book l G _ hx1 rfl hH8 (by decide) _) mw_M_X5_73 my_X5_book mm_rv_X5 ⟨by decide, by decide⟩ rfl rfl (Nat.le_of_ble_eq_true rfl) dX5_hear_35 (fun S35 h35 => ?_)
      refine vv_aload_n (pc := 38) 1 dX5_hear_38 rfl rfl ?_
      refine vv_iload_n (pc := 39) 0 dX5_hear_39 rfl rfl ?_
      refine vv_iconst (pc := 40) (v := 0) dX5_hear_40 (by decide) ?_
      refine vv_iconst (pc := 41) (v := 0) dX5_hear_41 (by decide) ?_
      refine vc_Vv (pc := 42) (c_X5_know l G _ hx1 hH8 _ _) mw_M_X5_100 my_X5_know mm_rv_X5 ⟨by decide, by decide⟩ rfl rfl (Nat.le_of_ble_eq_true rfl) dX5_hear_42 (fun S42 h42 => ?_)
      refine vv_bipush (pc := 45) (v := (-6)) dX5_hear_45 (by decide) ?_
      refine vr_i (pc := 47) dX5_hear_47 ?_
      rw [h24, h8] at c27
      have hw0 : ¬ sp_f (S 8) H 5 = 0 := by first | exact i01.mp c27 | exact fun h => absurd c27 (by rw [if_pos h]; decide)
      have ho : os_hear q = (-6, (q.1, sp_kn (sp_up (S 8) H 10 1) H 0 0)) := by rw [os_hear, op_hear, hz, ← hH, if_neg hH9, if_neg hw0]
      rw [ho]
      exact md_do h19 rfl (by rw [h42, mR_s, h35, mR_s, h8]) (fun j hj _ => by rw [h42, mR_o _ _ hj, h35, mR_o _ _ hj]) (show sp_err (-6) = 0 by decide)
  -- f@12 path f
  · refine vv_bipush (pc := 15) (v := (-5)) dX5_hear_15 (by decide) ?_
    refine vr_i (pc := 17) dX5_hear_17 ?_
    have hH9 : H = 99 := by
      rcases Classical.em (H = 99) with h | h
      · exact h
      · have hHl := sp_hw_lt (z := S 8) hwf.1.1 (by rw [← hH]; exact h)
        have hC8 := hwf.1.1
        rw [← hH] at hHl
        rw [e1p10, enc_n h] at c12
        exact absurd (nI_pos' (by omega)) c12
    have ho : os_hear q = (-5, q) := by rw [os_hear, op_hear, hz, ← hH, if_pos hH9, ← hz]
    rw [ho]
    exact md_no hh rfl hz (show sp_err (-5) ≠ 0 by decide)
