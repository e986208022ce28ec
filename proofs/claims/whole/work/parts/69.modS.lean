/-! SLACK IN HOW MANY DAYS, AS THE MODEL FINDS IT -/
theorem day_low {C : Nat} {y : Nat → Int32} {i : Nat} (hi : i < 30) (h : i ≠ 2) : sp_day C y i = y i := by
  unfold sp_day
  rw [upd_n _ _ h, sp_lo_low C y hi]
theorem day_f {C : Nat} {y : Nat → Int32} (k f : Nat) : sp_f (sp_day C y) k f = sp_f (sp_lo C y) k f := sp_f_upd _ (by decide) _ k f
theorem day_f0 {C : Nat} {y : Nat → Int32} (k : Nat) {f : Nat} (hf : f < 14) (h4 : f ≠ 4) (h8 : f ≠ 8) (h9 : f ≠ 9) : sp_f (sp_day C y) k f = sp_f y k f := by rw [day_f, sp_lo_0 C y k hf h4 h8 h9]
theorem day_f4 {C w : Nat} {y : Nat → Int32} (hw : w < C) (h : 0 ≤ (sp_f y w 4).toInt) : sp_f (sp_day C y) w 4 = sp_crept (sp_f y w 4) (y 0) := by
  rw [day_f, sp_lo_f C y (by decide), if_pos ⟨hw, Or.inl rfl⟩]
  unfold sp_lz
  rw [if_neg (by rw [Int32.lt_iff_toInt_lt, show (0 : Int32).toInt = 0 by decide]; omega)]
theorem day_tk {C w : Nat} {y : Nat → Int32} (hC : C ≤ 8) : sp_tk (sp_day C y) 5 C w = sp_tk y 5 C w :=
  sp_tk_congr hC (fun k _ => ⟨day_f0 k (by decide) (by decide) (by decide) (by decide), by rw [day_f0 k (by decide) (by decide) (by decide) (by decide)]⟩) (fun p hp => day_low (by omega) (by omega))
theorem day_hi {C : Nat} {y : Nat → Int32} (hC : C ≤ 8) {i : Nat} (hi : 150 ≤ i) : sp_day C y i = y i := by
  unfold sp_day
  rw [upd_n _ _ (by omega)]
  unfold sp_lo
  rw [if_neg (by omega)]
/-- a state some days on -/
def slk (C w : Nat) (z y : Nat → Int32) (d : Nat) (R : Int32) : Prop := sp_wf C y ∧ sp_bu y C = 99 ∧ (y 2).toInt = (z 2).toInt + d ∧ y 0 = z 0 ∧ sp_f y w 5 = sp_f z w 5 ∧ sp_tk y 5 C w = sp_tk z 5 C w ∧ (∀ i, 150 ≤ i → y i = z i) ∧ (sp_f z w 5 = 0 → sp_sl (z 0) (sp_tk z 5 C w) (301 - d) d (sp_f y w 4) = R) ∧ (sp_f z w 5 ≠ 0 → R = -6)
theorem slk_s {C w d : Nat} {z y : Nat → Int32} {R : Int32} (hC : C ≤ 8) (hw : w < C) (h2 : (z 2).toInt ≤ 1000000000) (hz : 0 ≤ (z 2).toInt) (h : slk C w z y d R) (hd : d < 300) (hs : ¬ sp_f y w 4 < sp_tk z 5 C w) : slk C w z (sp_day C y) (d + 1) R := by
  obtain ⟨a1, a2, a3, a4, a5, a6, a7, a8, a9⟩ := h
  have hy := (a1.2.1 w hw).2.2.2.2.2.2.2.2.1
  refine ⟨sp_day_wf a1 (by omega), (sp_day_bu hC).trans a2, ?_, (day_low (by decide) (by decide)).trans a4, (day_f0 w (by decide) (by decide) (by decide) (by decide)).trans a5, (day_tk hC).trans a6, fun i hi => (day_hi hC hi).trans (a7 i hi), ?_, a9⟩
  · rw [sp_day_2 (by omega) (by omega), a3]
    omega
  · intro h5
    rw [day_f4 hw hy, a4, ← a8 h5, show 301 - d = (301 - (d + 1)) + 1 by omega, sp_sl, if_neg hs]
theorem slk_y {C w d : Nat} {z y : Nat → Int32} {R : Int32} (h : slk C w z y d R) (hd : d ≤ 300) (h5 : sp_f y w 5 = 0) (hs : sp_f y w 4 < sp_tk z 5 C w) : R = nI d := by
  obtain ⟨a1, a2, a3, a4, a5, a6, a7, a8, a9⟩ := h
  rw [← a8 (a5 ▸ h5), show 301 - d = (300 - d) + 1 by omega, sp_sl, if_pos hs]
theorem slk_n {C w : Nat} {z y : Nat → Int32} {R : Int32} (h : slk C w z y 300 R) (hs : ¬ (sp_f y w 5 = 0 ∧ sp_f y w 4 < sp_tk z 5 C w)) : R = -6 := by
  obtain ⟨a1, a2, a3, a4, a5, a6, a7, a8, a9⟩ := h
  by_cases h5 : sp_f z w 5 = 0
  · rw [← a8 h5, show 301 - 300 = 0 + 1 by rfl, sp_sl, if_neg (fun g => hs ⟨a5.trans h5, g⟩)]
    rfl
  · exact a9 h5
set_option maxRecDepth 100000 in
set_option maxHeartbeats 4000000 in
theorem c_X5_slackIn (l : Launch) (G : gG) {q : St} (S : Mem) (hg : gd q) (hz : q.2 = S 8) (h2d : (q.2 2).toInt ≤ 1000000000) (x1 : Int32) : mm_C l G yX5_slackIn cX5_slackIn 4 (some .int) (mm_rm 6 142) [.ref (gad G 7), .int x1] S (mm_Qi G (fun r S2 => rm S S2 ∧ r = rd_si q x1)) := by
  obtain ⟨C, z⟩ := q
  dsimp only at hz
  subst hz
  obtain ⟨hwf, hcalm⟩ := id hg
  dsimp only at hwf hcalm
  obtain ⟨hC, hn3, hat, hinj⟩ := id hwf.1
  dsimp only at h2d
  refine mm_ofV (own := RX5) (by decide +kernel) rfl (Nat.le_of_ble_eq_true rfl) (ls0 := [(0, .ref (gad G 7)), (1, .int x1)]) rfl ?_
  refine vv_aload_n (pc := 0) 0 dX5_slackIn_0 rfl rfl ?_
  refine vv_iload_n (pc := 1) 1 dX5_slackIn_1 rfl rfl ?_
  refine vc_Vi (pc := 2) (c_X5_isWire l G _ hC hn3 _) mw_M_X5_112 my_X5_isWire mm_rv_X5 ⟨by decide, by decide⟩ rfl rfl (Nat.le_of_ble_eq_true rfl) dX5_slackIn_2 (fun r2 S2 h2 => ?_)
  obtain ⟨qS2, h2⟩ := h2
  replace qS2 := qS2.symm
  subst qS2
  refine vv_if_ne (pc := 5) (tgt := 10) dX5_slackIn_5 (by decide) (fun c5 => ?_) (fun c5 => ?_)
  -- t@5 path t
  · rw [h2] at c5
    have gH : ¬ sp_wi C x1 = 99 := fun h => c5 (i10.mpr h)
    obtain ⟨hi, hxi⟩ := sp_wi_lt hC gH
    have hi8 : sp_wi C x1 < 8 := by omega
    have hww := hwf.2.1 _ hi
    obtain ⟨R, hR⟩ : ∃ R, R = rd_si (C, S 8) x1 := ⟨_, rfl⟩
    have h0 : slk C (sp_wi C x1) (S 8) (S 8) 0 R := by
      refine ⟨hwf, hcalm, by omega, rfl, rfl, rfl, fun _ _ => rfl, ?_, ?_⟩
      · intro h5
        rw [hR]; unfold rd_si
        rw [if_neg gH, if_pos h5]
      · intro h5
        rw [hR]; unfold rd_si
        rw [if_neg gH, if_neg h5]
    refine vv_aload_n (pc := 10) 0 dX5_slackIn_10 rfl rfl ?_
    refine vc_Vv (pc := 11) (c_X5_keep l G _) mw_M_X5_137 my_X5_keep mm_rv_X5 ⟨by decide, by decide⟩ rfl rfl (Nat.le_of_ble_eq_true rfl) dX5_slackIn_11 (fun S11 h11 => ?_)
    have h118 : S11 8 = S 8 := by rw [h11]; exact mR_o S _ (by decide)
    refine vv_iconst (pc := 14) (v := 0) dX5_slackIn_14 (by decide) ?_
    refine vv_topi (fun x2p15 e2p15 => ?_)
    refine vv_istore_n (pc := 15) (i := 2) (ls' := [(2, .int x2p15), (0, .ref (gad G 7)), (1, .int x1)]) dX5_slackIn_15 rfl (by decide) rfl ?_
    refine vv_aload_n (pc := 16) 1 dX5_slackIn_16 rfl rfl ?_
    refine vv_aload_n (pc := 17) 1 dX5_slackIn_17 rfl rfl ?_
    refine vv_iconst (pc := 18) (v := 0) dX5_slackIn_18 (by decide) ?_
    refine vc_Vi (pc := 19) (c_X5_wholeBy l G _ hC (by rw [h118]; exact hn3) (Or.inl ⟨rfl, rfl⟩)) mw_M_X5_61 my_X5_wholeBy mm_rv_X5 ⟨by decide, by decide⟩ rfl rfl (Nat.le_of_ble_eq_true rfl) dX5_slackIn_19 (fun r19 S19 h19 => ?_)
    obtain ⟨qS19, h19⟩ := h19
    replace qS19 := qS19.symm
    subst qS19
    refine vc_Vv (pc := 22) (c_X5_layTasks l G _ (C := C) (g := 5) (by rw [h118]; exact hwf.1) (by rw [h19]; exact msk_b hC)) mw_M_X5_65 my_X5_layTasks mm_rv_X5 ⟨by decide, by decide⟩ rfl rfl (Nat.le_of_ble_eq_true rfl) dX5_slackIn_22 (fun S22 h22 => ?_)
    obtain ⟨T, hT, eS22⟩ := h22
    have lp25 : ∀ (n : Nat) (d : Nat) (x2 : Int32) (Sd : Mem) (y : Nat → Int32), slk C (sp_wi C x1) (S 8) y d R → Sd 8 = y → Sd 9 = cp (S 8) (S 9) → (∀ j, j ≠ 8 → j ≠ 9 → j ≠ 14 → Sd j = S j) → (∀ w, w < C → Sd 14 w = sp_tk (S 8) 5 C w) → (∀ w, w < C → sp_tk y 5 C w = sp_tk (S 8) 5 C w) → 301 ≤ n + d → d ≤ 300 → x2 = nI d → mm_V l G RX5 cX5_slackIn 4 (some .int) (mm_rm 6 142) 0 0 (fun _ => True) (fun _ => mm_F G) (mm_Qf G (mm_Qi G (fun r S2 => rm S S2 ∧ r = rd_si (C, S 8) x1))) Sd 25 [(0, .ref (gad G 7)), (1, .int x1), (2, .int x2)] [] := by
      intro n
      induction n with
      | zero =>
        intro d x2 Sd y hslk hy8 hy9 hyo hyT hyk hn hdl e2
        exact absurd hn (by omega)
      | succ n ih =>
        intro d x2 Sd y hslk hy8 hy9 hyo hyT hyk hn hdl e2
        refine vv_iload_n (pc := 25) 2 dX5_slackIn_25 rfl rfl ?_
        refine vv_sipush (pc := 26) (v := 300) dX5_slackIn_26 (by decide) ?_
        refine vv_icmp_ge (pc := 29) (tgt := 68) dX5_slackIn_29 (by decide) (fun c29 => ?_) (fun c29 => ?_)
        -- t@29 path tL25t
        · refine vv_aload_n (pc := 68) 0 dX5_slackIn_68 rfl rfl ?_
          refine vv_iload_n (pc := 69) 1 dX5_slackIn_69 rfl rfl ?_
          refine vc_Vi (pc := 70) (c_X5_isSlack l G _ hxi hi8) mw_M_X5_115 my_X5_isSlack mm_rv_X5 ⟨by decide, by decide⟩ rfl rfl (Nat.le_of_ble_eq_true rfl) dX5_slackIn_70 (fun r70 S70 h70 => ?_)
          obtain ⟨qS70, h70⟩ := h70
          replace qS70 := qS70.symm
          subst qS70
          refine vv_if_eq (pc := 73) (tgt := 80) dX5_slackIn_73 (by decide) (fun c73 => ?_) (fun c73 => ?_)
          -- t@73 path tL25tt
          · refine vv_bipush (pc := 80) (v := (-6)) dX5_slackIn_80 (by decide) ?_
            refine vv_topi (fun x3p82 e3p82 => ?_)
            refine vv_istore_n (pc := 82) (i := 3) (ls' := [(3, .int x3p82), (0, .ref (gad G 7)), (1, .int x1), (2, .int x2)]) dX5_slackIn_82 rfl (by decide) rfl ?_
            refine vv_aload_n (pc := 83) 1 dX5_slackIn_83 rfl rfl ?_
            refine vc_Vv (pc := 84) (c_X5_comeBack l G _) mw_M_X5_140 my_X5_comeBack mm_rv_X5 ⟨by decide, by decide⟩ rfl rfl (Nat.le_of_ble_eq_true rfl) dX5_slackIn_84 (fun S84 h84 => ?_)
            refine vv_iload_n (pc := 87) 0 dX5_slackIn_87 rfl rfl ?_
            refine vr_i (pc := 88) dX5_slackIn_88 ?_
            refine ⟨?_, ?_⟩
            · rw [h84, hy9, hy8, cp_back hslk.2.2.2.2.2.2.1]
              intro j h9 h14
              by_cases h8 : j = 8
              · rw [h8, mR_s]
              · rw [mR_o _ _ h8, hyo j h8 h9 h14]
            · rw [← hR, e3p82]
              rw [h70, hy8, hyT _ hi, i01] at c73
              have hd := sp_geN (N := 300) (by decide) hdl e2 c29
              subst hd
              exact (slk_n hslk c73).symm
          -- f@73 path tL25tf
          · refine vv_iload_n (pc := 76) 2 dX5_slackIn_76 rfl rfl ?_
            refine vv_goto (pc := 77) (tgt := 82) dX5_slackIn_77 (by decide) ?_
            refine vv_topi (fun x3p82 e3p82 => ?_)
            refine vv_istore_n (pc := 82) (i := 3) (ls' := [(3, .int x3p82), (0, .ref (gad G 7)), (1, .int x1), (2, .int x2)]) dX5_slackIn_82 rfl (by decide) rfl ?_
            refine vv_aload_n (pc := 83) 1 dX5_slackIn_83 rfl rfl ?_
            refine vc_Vv (pc := 84) (c_X5_comeBack l G _) mw_M_X5_140 my_X5_comeBack mm_rv_X5 ⟨by decide, by decide⟩ rfl rfl (Nat.le_of_ble_eq_true rfl) dX5_slackIn_84 (fun S84 h84 => ?_)
            refine vv_iload_n (pc := 87) 0 dX5_slackIn_87 rfl rfl ?_
            refine vr_i (pc := 88) dX5_slackIn_88 ?_
            refine ⟨?_, ?_⟩
            · rw [h84, hy9, hy8, cp_back hslk.2.2.2.2.2.2.1]
              intro j h9 h14
              by_cases h8 : j = 8
              · rw [h8, mR_s]
              · rw [mR_o _ _ h8, hyo j h8 h9 h14]
            · rw [← hR, e3p82]
              rw [h70, hy8, hyT _ hi, i01] at c73
              have hP := Classical.not_not.mp c73
              rw [e2]
              exact (slk_y hslk hdl hP.1 hP.2).symm
        -- f@29 path tL25f
        · have hd300 : d < 300 := sp_ltN (N := 300) (by decide) hdl e2 c29
          refine vv_aload_n (pc := 32) 0 dX5_slackIn_32 rfl rfl ?_
          refine vv_iload_n (pc := 33) 1 dX5_slackIn_33 rfl rfl ?_
          refine vc_Vi (pc := 34) (c_X5_isWhole l G _ hxi hi8) mw_M_X5_69 my_X5_isWhole mm_rv_X5 ⟨by decide, by decide⟩ rfl rfl (Nat.le_of_ble_eq_true rfl) dX5_slackIn_34 (fun r34 S34 h34 => ?_)
          obtain ⟨qS34, h34⟩ := h34
          replace qS34 := qS34.symm
          subst qS34
          refine vv_if_eq (pc := 37) (tgt := 68) dX5_slackIn_37 (by decide) (fun c37 => ?_) (fun c37 => ?_)
          -- t@37 path tL25ft
          · refine vv_aload_n (pc := 68) 0 dX5_slackIn_68 rfl rfl ?_
            refine vv_iload_n (pc := 69) 1 dX5_slackIn_69 rfl rfl ?_
            refine vc_Vi (pc := 70) (c_X5_isSlack l G _ hxi hi8) mw_M_X5_115 my_X5_isSlack mm_rv_X5 ⟨by decide, by decide⟩ rfl rfl (Nat.le_of_ble_eq_true rfl) dX5_slackIn_70 (fun r70 S70 h70 => ?_)
            obtain ⟨qS70, h70⟩ := h70
            replace qS70 := qS70.symm
            subst qS70
            refine vv_if_eq (pc := 73) (tgt := 80) dX5_slackIn_73 (by decide) (fun c73 => ?_) (fun c73 => ?_)
            -- t@73 path tL25ftt
            · refine vv_bipush (pc := 80) (v := (-6)) dX5_slackIn_80 (by decide) ?_
              refine vv_topi (fun x3p82 e3p82 => ?_)
              refine vv_istore_n (pc := 82) (i := 3) (ls' := [(3, .int x3p82), (0, .ref (gad G 7)), (1, .int x1), (2, .int x2)]) dX5_slackIn_82 rfl (by decide) rfl ?_
              refine vv_aload_n (pc := 83) 1 dX5_slackIn_83 rfl rfl ?_
              refine vc_Vv (pc := 84) (c_X5_comeBack l G _) mw_M_X5_140 my_X5_comeBack mm_rv_X5 ⟨by decide, by decide⟩ rfl rfl (Nat.le_of_ble_eq_true rfl) dX5_slackIn_84 (fun S84 h84 => ?_)
              refine vv_iload_n (pc := 87) 0 dX5_slackIn_87 rfl rfl ?_
              refine vr_i (pc := 88) dX5_slackIn_88 ?_
              refine ⟨?_, ?_⟩
              · rw [h84, hy9, hy8, cp_back hslk.2.2.2.2.2.2.1]
                intro j h9 h14
                by_cases h8 : j = 8
                · rw [h8, mR_s]
                · rw [mR_o _ _ h8, hyo j h8 h9 h14]
              · rw [← hR, e3p82]
                rw [h34, hy8, i01] at c37
                exact (hslk.2.2.2.2.2.2.2.2 (fun g => c37 (hslk.2.2.2.2.1.trans g))).symm
            -- f@73 path tL25ftf
            · refine vv_iload_n (pc := 76) 2 dX5_slackIn_76 rfl rfl ?_
              refine vv_goto (pc := 77) (tgt := 82) dX5_slackIn_77 (by decide) ?_
              refine vv_topi (fun x3p82 e3p82 => ?_)
              refine vv_istore_n (pc := 82) (i := 3) (ls' := [(3, .int x3p82), (0, .ref (gad G 7)), (1, .int x1), (2, .int x2)]) dX5_slackIn_82 rfl (by decide) rfl ?_
              refine vv_aload_n (pc := 83) 1 dX5_slackIn_83 rfl rfl ?_
              refine vc_Vv (pc := 84) (c_X5_comeBack l G _) mw_M_X5_140 my_X5_comeBack mm_rv_X5 ⟨by decide, by decide⟩ rfl rfl (Nat.le_of_ble_eq_true rfl) dX5_slackIn_84 (fun S84 h84 => ?_)
              refine vv_iload_n (pc := 87) 0 dX5_slackIn_87 rfl rfl ?_
              refine vr_i (pc := 88) dX5_slackIn_88 ?_
              refine ⟨?_, ?_⟩
              · rw [h84, hy9, hy8, cp_back hslk.2.2.2.2.2.2.1]
                intro j h9 h14
                by_cases h8 : j = 8
                · rw [h8, mR_s]
                · rw [mR_o _ _ h8, hyo j h8 h9 h14]
              · rw [← hR, e3p82]
                rw [h70, hy8, hyT _ hi, i01] at c73
                have hP := Classical.not_not.mp c73
                rw [e2]
                exact (slk_y hslk hdl hP.1 hP.2).symm
          -- f@37 path tL25ff
          · refine vv_aload_n (pc := 40) 0 dX5_slackIn_40 rfl rfl ?_
            refine vv_iload_n (pc := 41) 1 dX5_slackIn_41 rfl rfl ?_
            refine vc_Vi (pc := 42) (c_X5_isSlack l G _ hxi hi8) mw_M_X5_115 my_X5_isSlack mm_rv_X5 ⟨by decide, by decide⟩ rfl rfl (Nat.le_of_ble_eq_true rfl) dX5_slackIn_42 (fun r42 S42 h42 => ?_)
            obtain ⟨qS42, h42⟩ := h42
            replace qS42 := qS42.symm
            subst qS42
            refine vv_if_ne (pc := 45) (tgt := 68) dX5_slackIn_45 (by decide) (fun c45 => ?_) (fun c45 => ?_)
            -- t@45 path tL25fft
            · refine vv_aload_n (pc := 68) 0 dX5_slackIn_68 rfl rfl ?_
              refine vv_iload_n (pc := 69) 1 dX5_slackIn_69 rfl rfl ?_
              refine vc_Vi (pc := 70) (c_X5_isSlack l G _ hxi hi8) mw_M_X5_115 my_X5_isSlack mm_rv_X5 ⟨by decide, by decide⟩ rfl rfl (Nat.le_of_ble_eq_true rfl) dX5_slackIn_70 (fun r70 S70 h70 => ?_)
              obtain ⟨qS70, h70⟩ := h70
              replace qS70 := qS70.symm
              subst qS70
              refine vv_if_eq (pc := 73) (tgt := 80) dX5_slackIn_73 (by decide) (fun c73 => ?_) (fun c73 => ?_)
              -- t@73 path tL25fftt
              · refine vv_bipush (pc := 80) (v := (-6)) dX5_slackIn_80 (by decide) ?_
                refine vv_topi (fun x3p82 e3p82 => ?_)
                refine vv_istore_n (pc := 82) (i := 3) (ls' := [(3, .int x3p82), (0, .ref (gad G 7)), (1, .int x1), (2, .int x2)]) dX5_slackIn_82 rfl (by decide) rfl ?_
                refine vv_aload_n (pc := 83) 1 dX5_slackIn_83 rfl rfl ?_
                refine vc_Vv (pc := 84) (c_X5_comeBack l G _) mw_M_X5_140 my_X5_comeBack mm_rv_X5 ⟨by decide, by decide⟩ rfl rfl (Nat.le_of_ble_eq_true rfl) dX5_slackIn_84 (fun S84 h84 => ?_)
                refine vv_iload_n (pc := 87) 0 dX5_slackIn_87 rfl rfl ?_
                refine vr_i (pc := 88) dX5_slackIn_88 ?_
                exact absurd (h70.symm.trans c73) (by rw [← h42]; exact c45)
              -- f@73 path tL25fftf
              · refine vv_iload_n (pc := 76) 2 dX5_slackIn_76 rfl rfl ?_
                refine vv_goto (pc := 77) (tgt := 82) dX5_slackIn_77 (by decide) ?_
                refine vv_topi (fun x3p82 e3p82 => ?_)
                refine vv_istore_n (pc := 82) (i := 3) (ls' := [(3, .int x3p82), (0, .ref (gad G 7)), (1, .int x1), (2, .int x2)]) dX5_slackIn_82 rfl (by decide) rfl ?_
                refine vv_aload_n (pc := 83) 1 dX5_slackIn_83 rfl rfl ?_
                refine vc_Vv (pc := 84) (c_X5_comeBack l G _) mw_M_X5_140 my_X5_comeBack mm_rv_X5 ⟨by decide, by decide⟩ rfl rfl (Nat.le_of_ble_eq_true rfl) dX5_slackIn_84 (fun S84 h84 => ?_)
                refine vv_iload_n (pc := 87) 0 dX5_slackIn_87 rfl rfl ?_
                refine vr_i (pc := 88) dX5_slackIn_88 ?_
                refine ⟨?_, ?_⟩
                · rw [h84, hy9, hy8, cp_back hslk.2.2.2.2.2.2.1]
                  intro j h9 h14
                  by_cases h8 : j = 8
                  · rw [h8, mR_s]
                  · rw [mR_o _ _ h8, hyo j h8 h9 h14]
                · rw [← hR, e3p82]
                  rw [h70, hy8, hyT _ hi, i01] at c73
                  have hP := Classical.not_not.mp c73
                  rw [e2]
                  exact (slk_y hslk hdl hP.1 hP.2).symm
            -- f@45 path tL25fff
            · rw [h42, hy8, hyT _ hi, i01] at c45
              rw [h34, hy8, i01] at c37
              have hns : ¬ sp_f y (sp_wi C x1) 4 < sp_tk (S 8) 5 C (sp_wi C x1) := fun g => c45 ⟨Classical.not_not.mp c37, g⟩
              have hslk2 := slk_s hC hi h2d (by have := hwf.2.2.2.2.2.2.1; omega) hslk hd300 hns
              refine vv_aload_n (pc := 48) 0 dX5_slackIn_48 rfl rfl ?_
              refine vc_Vi (pc := 49) (c_X5_pass l G _ (C := C) (by rw [hy8]; exact hslk.1) (by rw [hy8]; exact hslk.2.1)) mw_M_X5_97 my_X5_pass mm_rv_X5 ⟨by decide, by decide⟩ rfl rfl (Nat.le_of_ble_eq_true rfl) dX5_slackIn_49 (fun r49 S49 h49 => ?_)
              obtain ⟨-, T2, eS49⟩ := h49
              have hs8 : S49 8 = sp_day C y := by rw [eS49, mR_o _ _ (by decide), mR_s, hy8]
              have hs3 : sp_ws C (S49 8) := by rw [hs8]; exact hslk2.1.1
              refine vv_pop (pc := 52) dX5_slackIn_52 rfl ?_
              obtain ⟨x2p53, e2p53⟩ : ∃ y : Int32, y = x2 + 1 := ⟨_, rfl⟩
              refine vv_iinc (pc := 53) (q := 2) (v := x2p53) (ls' := [(2, .int x2p53), (0, .ref (gad G 7)), (1, .int x1)]) dX5_slackIn_53 rfl (by rw [e2p53]; rfl) (by decide) rfl ?_
              refine vv_aload_n (pc := 56) 1 dX5_slackIn_56 rfl rfl ?_
              refine vv_aload_n (pc := 57) 1 dX5_slackIn_57 rfl rfl ?_
              refine vv_iconst (pc := 58) (v := 0) dX5_slackIn_58 (by decide) ?_
              refine vc_Vi (pc := 59) (c_X5_wholeBy l G _ hC hs3.2.1 (Or.inl ⟨rfl, rfl⟩)) mw_M_X5_61 my_X5_wholeBy mm_rv_X5 ⟨by decide, by decide⟩ rfl rfl (Nat.le_of_ble_eq_true rfl) dX5_slackIn_59 (fun r59 S59 h59 => ?_)
              obtain ⟨qS59, h59⟩ := h59
              replace qS59 := qS59.symm
              subst qS59
              refine vc_Vv (pc := 62) (c_X5_layTasks l G _ (C := C) (g := 5) hs3 (by rw [h59]; exact msk_b hC)) mw_M_X5_65 my_X5_layTasks mm_rv_X5 ⟨by decide, by decide⟩ rfl rfl (Nat.le_of_ble_eq_true rfl) dX5_slackIn_62 (fun S62 h62 => ?_)
              obtain ⟨T3, hT3, eS62⟩ := h62
              refine vv_goto (pc := 65) (tgt := 25) dX5_slackIn_65 (by decide) ?_
              refine vv_sub [1, 2, 0] (ls' := [(0, _), (1, _), (2, _)]) rfl ?_
              exact ih (d + 1) _ _ _ hslk2 (by rw [eS62, mR_o _ _ (by decide), hs8]) (by rw [eS62, mR_o _ _ (by decide), eS49, mR_o _ _ (by decide), mR_o _ _ (by decide), hy9]) (fun j a b c => by rw [eS62, mR_o _ _ c, eS49, mR_o _ _ c, mR_o _ _ a, hyo j a b c]) (fun w hw => by rw [eS62, mR_s, hT3 w hw, hs8, day_tk hC, hyk w hw]) (fun w hw => (day_tk hC).trans (hyk w hw)) (by omega) (by omega) (by rw [e2p53, e2, nI_1])
    refine vv_sub [1, 2, 0] (ls' := [(0, _), (1, _), (2, _)]) rfl ?_
    exact lp25 301 0 _ _ _ h0 (by rw [eS22, mR_o _ _ (by decide), h118]) (by rw [eS22, mR_o _ _ (by decide), h11, mR_s]) (fun j a b c => by rw [eS22, mR_o _ _ c, h11, mR_o _ _ b]) (fun w hw => by rw [eS22, mR_s, hT w hw, h118]) (fun _ _ => rfl) (by omega) (by omega) e2p15
  -- f@5 path f
  · refine vv_iconst (pc := 8) (v := (-1)) dX5_slackIn_8 (by decide) ?_
    refine vr_i (pc := 9) dX5_slackIn_9 ?_
    rw [h2] at c5
    exact ⟨fun _ _ _ => rfl, by unfold rd_si; rw [if_pos (i10.mp c5)]⟩
