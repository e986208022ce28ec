set_option maxRecDepth 100000 in
set_option maxHeartbeats 4000000 in
theorem c_X0_hang (l : Launch) (G : gG) {C b : Nat} {z : Nat → Int32} (hb : b < 11) (S : Mem) (hwf : sp_wf C z) (hr : rb C S b z) (ht : rt_ C S b z) (x1 x2 x3 x4 x5 : Int32) : mm_C l G yX0_hang cX0_hang 7 (some .int) (mm_rm 3 72) [.ref (gad G (mm_B b)), .int x1, .int x2, .int x3, .int x4, .int x5] S (mm_Qi G (fun r S2 => (op_wbad C z x1 x2 x3 x4 x5 ≠ 0 → r = op_wbad C z x1 x2 x3 x4 x5 ∧ rb C S2 b z ∧ rt_ C S2 b z ∧ fr_ b S S2) ∧ (op_wbad C z x1 x2 x3 x4 x5 = 0 → r = nI C ∧ rb (C + 1) S2 b (sp_stl (C + 1) 8 (sp_new C z x1 x2 x3 x4 x5)) ∧ rt_ (C + 1) S2 b (sp_stl (C + 1) 8 (sp_new C z x1 x2 x3 x4 x5)) ∧ fr_ b S S2))) := by
  obtain ⟨g1, g2, g3, g4, g5, g6, g7, g8, g9⟩ := id hr
  have hw := hwf.1
  have hC := hw.1
  refine mm_ofV (own := RX0) (by decide +kernel) rfl (Nat.le_of_ble_eq_true rfl) (ls0 := [(0, .ref (gad G (mm_B b))), (1, .int x1), (2, .int x2), (3, .int x3), (4, .int x4), (5, .int x5)]) rfl ?_
  refine vv_iload_n (pc := 0) 1 dX0_hang_0 rfl rfl ?_
  refine vv_iconst (pc := 1) (v := 0) dX0_hang_1 (by decide) ?_
  refine vv_bipush (pc := 2) (v := 19) dX0_hang_2 (by decide) ?_
  refine vc_Ni (pc := 4) (c_X4_within l G _ _ _ _) (host := RX4) (by decide +kernel) my_X4_within ⟨by decide, by decide⟩ rfl rfl (Nat.le_of_ble_eq_true rfl) dX0_hang_4 (fun r4 S4 h4 => ?_)
  obtain ⟨qS4, h4⟩ := h4
  replace qS4 := qS4.symm
  subst qS4
  refine vv_if_eq (pc := 7) (tgt := 55) dX0_hang_7 (by decide) (fun c7 => ?_) (fun c7 => ?_)
  -- t@7 path t
  · refine vv_bipush (pc := 55) (v := (-2)) dX0_hang_55 (by decide) ?_
    refine vr_i (pc := 57) dX0_hang_57 ?_
    have hbad : op_wbad C z x1 x2 x3 x4 x5 = -2 := by
      unfold op_wbad
      rw [if_pos (Or.inl (h4.symm.trans c7))]
    rw [hbad]
    exact ⟨fun _ => ⟨rfl, hr, ht, fr_refl b S⟩, fun h => absurd h (by decide)⟩
  -- f@7 path f
  · refine vv_iload_n (pc := 10) 2 dX0_hang_10 rfl rfl ?_
    refine vv_bipush (pc := 11) (v := 10) dX0_hang_11 (by decide) ?_
    refine vv_sipush (pc := 13) (v := 200) dX0_hang_13 (by decide) ?_
    refine vc_Ni (pc := 16) (c_X4_within l G _ _ _ _) (host := RX4) (by decide +kernel) my_X4_within ⟨by decide, by decide⟩ rfl rfl (Nat.le_of_ble_eq_true rfl) dX0_hang_16 (fun r16 S16 h16 => ?_)
    obtain ⟨qS16, h16⟩ := h16
    replace qS16 := qS16.symm
    subst qS16
    refine vv_if_eq (pc := 19) (tgt := 55) dX0_hang_19 (by decide) (fun c19 => ?_) (fun c19 => ?_)
    -- t@19 path ft
    · refine vv_bipush (pc := 55) (v := (-2)) dX0_hang_55 (by decide) ?_
      refine vr_i (pc := 57) dX0_hang_57 ?_
      have hbad : op_wbad C z x1 x2 x3 x4 x5 = -2 := by
        unfold op_wbad
        rw [if_pos (Or.inr (Or.inl (h16.symm.trans c19)))]
      rw [hbad]
      exact ⟨fun _ => ⟨rfl, hr, ht, fr_refl b S⟩, fun h => absurd h (by decide)⟩
    -- f@19 path ff
    · refine vv_iload_n (pc := 22) 3 dX0_hang_22 rfl rfl ?_
      refine vv_iconst (pc := 23) (v := 1) dX0_hang_23 (by decide) ?_
      refine vv_bipush (pc := 24) (v := 20) dX0_hang_24 (by decide) ?_
      refine vc_Ni (pc := 26) (c_X4_within l G _ _ _ _) (host := RX4) (by decide +kernel) my_X4_within ⟨by decide, by decide⟩ rfl rfl (Nat.le_of_ble_eq_true rfl) dX0_hang_26 (fun r26 S26 h26 => ?_)
      obtain ⟨qS26, h26⟩ := h26
      replace qS26 := qS26.symm
      subst qS26
      refine vv_if_eq (pc := 29) (tgt := 55) dX0_hang_29 (by decide) (fun c29 => ?_) (fun c29 => ?_)
      -- t@29 path fft
      · refine vv_bipush (pc := 55) (v := (-2)) dX0_hang_55 (by decide) ?_
        refine vr_i (pc := 57) dX0_hang_57 ?_
        have hbad : op_wbad C z x1 x2 x3 x4 x5 = -2 := by
          unfold op_wbad
          rw [if_pos (Or.inr (Or.inr (Or.inl (h26.symm.trans c29))))]
        rw [hbad]
        exact ⟨fun _ => ⟨rfl, hr, ht, fr_refl b S⟩, fun h => absurd h (by decide)⟩
      -- f@29 path fff
      · refine vv_iload (pc := 32) 4 dX0_hang_32 rfl ?_
        refine vv_bipush (pc := 34) (v := 100) dX0_hang_34 (by decide) ?_
        refine vv_ldc (pc := 36) mw_K_X0_71 dX0_hang_36 ?_
        refine vc_Ni (pc := 38) (c_X4_within l G _ _ _ _) (host := RX4) (by decide +kernel) my_X4_within ⟨by decide, by decide⟩ rfl rfl (Nat.le_of_ble_eq_true rfl) dX0_hang_38 (fun r38 S38 h38 => ?_)
        obtain ⟨qS38, h38⟩ := h38
        replace qS38 := qS38.symm
        subst qS38
        refine vv_if_eq (pc := 41) (tgt := 55) dX0_hang_41 (by decide) (fun c41 => ?_) (fun c41 => ?_)
        -- t@41 path ffft
        · refine vv_bipush (pc := 55) (v := (-2)) dX0_hang_55 (by decide) ?_
          refine vr_i (pc := 57) dX0_hang_57 ?_
          have hbad : op_wbad C z x1 x2 x3 x4 x5 = -2 := by
            unfold op_wbad
            rw [if_pos (Or.inr (Or.inr (Or.inr (Or.inl (h38.symm.trans c41)))))]
          rw [hbad]
          exact ⟨fun _ => ⟨rfl, hr, ht, fr_refl b S⟩, fun h => absurd h (by decide)⟩
        -- f@41 path ffff
        · refine vv_iload (pc := 44) 5 dX0_hang_44 rfl ?_
          refine vv_iconst (pc := 46) (v := 0) dX0_hang_46 (by decide) ?_
          refine vv_ldc (pc := 47) mw_K_X0_71 dX0_hang_47 ?_
          refine vc_Ni (pc := 49) (c_X4_within l G _ _ _ _) (host := RX4) (by decide +kernel) my_X4_within ⟨by decide, by decide⟩ rfl rfl (Nat.le_of_ble_eq_true rfl) dX0_hang_49 (fun r49 S49 h49 => ?_)
          obtain ⟨qS49, h49⟩ := h49
          replace qS49 := qS49.symm
          subst qS49
          refine vv_if_ne (pc := 52) (tgt := 58) dX0_hang_52 (by decide) (fun c52 => ?_) (fun c52 => ?_)
          -- t@52 path fffft
          · rw [h4, sp_in_iff, show (0 : Int32).toInt = 0 by decide, show (19 : Int32).toInt = 19 by decide] at c7
            rw [h16, sp_in_iff, show (10 : Int32).toInt = 10 by decide, show (200 : Int32).toInt = 200 by decide] at c19
            rw [h26, sp_in_iff, show (1 : Int32).toInt = 1 by decide, show (20 : Int32).toInt = 20 by decide] at c29
            rw [h38, sp_in_iff, show (100 : Int32).toInt = 100 by decide, show (50000 : Int32).toInt = 50000 by decide] at c41
            rw [h49, sp_in_iff, show (0 : Int32).toInt = 0 by decide, show (50000 : Int32).toInt = 50000 by decide] at c52
            have hx : x1 = nI x1.toNatClampNeg := sp_nI (by omega)
            have hxl := sp_cl (x := x1) (by omega)
            have hx20 : x1.toNatClampNeg < 20 := by omega
            have hb0 : ¬ (sp_in x1 0 19 = 0 ∨ sp_in x2 10 200 = 0 ∨ sp_in x3 1 20 = 0 ∨ sp_in x4 100 50000 = 0 ∨ sp_in x5 0 50000 = 0) := by
              simp only [sp_in_iff, show (0 : Int32).toInt = 0 by decide, show (19 : Int32).toInt = 19 by decide, show (10 : Int32).toInt = 10 by decide, show (200 : Int32).toInt = 200 by decide, show (1 : Int32).toInt = 1 by decide, show (20 : Int32).toInt = 20 by decide, show (100 : Int32).toInt = 100 by decide, show (50000 : Int32).toInt = 50000 by decide]
              omega
            refine vv_aload_n (pc := 58) 0 dX0_hang_58 rfl rfl ?_
            refine vg_X0_wireCount (pc := 59) (by assumption) mw_F_X0_38 dX0_hang_59 ?_
            refine vv_bipush (pc := 62) (v := 8) dX0_hang_62 (by decide) ?_
            refine vv_icmp_lt (pc := 64) (tgt := 70) dX0_hang_64 (by decide) (fun c64 => ?_) (fun c64 => ?_)
            -- t@64 path fffftt
            · rw [g1, hw.2.1] at c64
              have hC8 : C < 8 := by
                rcases Nat.lt_or_ge C 8 with h | h
                · exact h
                · exact absurd c64 (nI_nlt (a := C) (b := 8) h (by omega))
              refine vv_aload_n (pc := 70) 0 dX0_hang_70 rfl rfl ?_
              refine vg_X0_wireAt (pc := 71) (by assumption) mw_F_X0_15 dX0_hang_71 ?_
              refine vv_iload_n (pc := 74) 1 dX0_hang_74 rfl rfl ?_
              refine vl_A (pc := 75) (by assumption) (sp_vin hx hx20 (by decide)) dX0_hang_75 ?_
              refine vv_iconst (pc := 76) (v := (-1)) dX0_hang_76 (by decide) ?_
              refine vv_icmp_ne (pc := 77) (tgt := 87) dX0_hang_77 (by decide) (fun c77 => ?_) (fun c77 => ?_)
              -- t@77 path ffffttt
              · refine vv_bipush (pc := 87) (v := (-5)) dX0_hang_87 (by decide) ?_
                refine vr_i (pc := 89) dX0_hang_89 ?_
                have hbad : op_wbad C z x1 x2 x3 x4 x5 = -5 := by
                  unfold op_wbad
                  rw [if_neg hb0, if_neg (by omega), if_pos (Or.inl (fun h => c77 ((g8 _ hx20).trans h)))]
                rw [hbad]
                exact ⟨fun _ => ⟨rfl, hr, ht, fr_refl b S⟩, fun h => absurd h (by decide)⟩
              -- f@77 path ffffttf
              · refine vv_iload (pc := 80) 5 dX0_hang_80 rfl ?_
                refine vv_iload (pc := 82) 4 dX0_hang_82 rfl ?_
                refine vv_icmp_le (pc := 84) (tgt := 90) dX0_hang_84 (by decide) (fun c84 => ?_) (fun c84 => ?_)
                -- t@84 path ffffttft
                · have hwa : sp_wa z x1.toNatClampNeg C = -1 := (g8 _ hx20).symm.trans c77
                  refine vv_aload_n (pc := 90) 0 dX0_hang_90 rfl rfl ?_
                  refine vg_X0_wireCount (pc := 91) (by assumption) mw_F_X0_38 dX0_hang_91 ?_
                  refine vv_topi (fun x6p94 e6p94 => ?_)
                  refine vv_istore (pc := 94) (i := 6) (ls' := [(6, .int x6p94), (0, .ref (gad G (mm_B b))), (1, .int x1), (2, .int x2), (3, .int x3), (4, .int x4), (5, .int x5)]) dX0_hang_94 (by decide) rfl ?_
                  have e6 : x6p94 = nI C := by rw [e6p94, g1, hw.2.1]
                  have hx6 : x6p94.toNatClampNeg = C := by rw [e6, cl_n (by omega)]
                  refine vv_aload_n (pc := 96) 1 dX0_hang_96 rfl rfl ?_
                  refine vg_X0_wires (pc := 97) (by assumption) mw_F_X0_20 dX0_hang_97 ?_
                  refine vv_iload (pc := 100) 0 dX0_hang_100 rfl ?_
                  refine vl_R (pc := 102) (by assumption) (by rw [e6]; exact vp_8 hC8) dX0_hang_102 ?_
                  rw [hx6]
                  refine vv_iload_n (pc := 103) 2 dX0_hang_103 rfl rfl ?_
                  refine vv_iload_n (pc := 104) 3 dX0_hang_104 rfl rfl ?_
                  refine vv_iload_n (pc := 105) 4 dX0_hang_105 rfl rfl ?_
                  refine vv_iload (pc := 106) 5 dX0_hang_106 rfl ?_
                  refine vv_iload (pc := 108) 6 dX0_hang_108 rfl ?_
                  refine vc_Vv (pc := 110) (c_X3_makeNew l G (by assumption) hC8 _ _ _ _ _ _) mw_M_X0_72 my_X3_makeNew (mm_rv_W (by assumption) hC8) ⟨by decide, by decide⟩ rfl rfl (Nat.le_of_ble_eq_true rfl) dX0_hang_110 (fun S110 h110 => ?_)
                  refine vv_aload_n (pc := 113) 1 dX0_hang_113 rfl rfl ?_
                  refine vg_X0_wireAt (pc := 114) (by assumption) mw_F_X0_15 dX0_hang_114 ?_
                  refine vv_iload_n (pc := 117) 2 dX0_hang_117 rfl rfl ?_
                  refine vv_iload (pc := 118) 0 dX0_hang_118 rfl ?_
                  refine vs_A (pc := 120) (by assumption) (sp_vin hx hx20 (by decide)) dX0_hang_120 ?_
                  refine vv_aload_n (pc := 121) 1 dX0_hang_121 rfl rfl ?_
                  refine vv_dup (pc := 122) dX0_hang_122 rfl ?_
                  refine vg_X0_wireCount (pc := 123) (by assumption) mw_F_X0_38 dX0_hang_123 ?_
                  refine vv_iconst (pc := 126) (v := 1) dX0_hang_126 (by decide) ?_
                  refine vv_iadd (pc := 127) dX0_hang_127 ?_
                  refine vp_X0_wireCount (pc := 128) (by assumption) mw_F_X0_38 dX0_hang_128 ?_
                  have hst : mm_mk S (mm_W b C) x1 x2 x3 x4 x5 (mm_B b) 3 + 1 = nI (C + 1) := by
                    have : mm_mk S (mm_W b C) x1 x2 x3 x4 x5 (mm_B b) 3 = S (mm_B b) 3 := by unfold mm_mk; rw [if_neg (mm_BW b C)]
                    rw [this, g1, hw.2.1]; exact nI_1 C
                  rw [h110, mm_wr_orow _ _ (mm_BA b), hst, e6]
                  have hwfn := sp_new_wf (a := x1) (b := x2) (c := x3) (d := x4) (e := x5) hwf hC8 (by omega) (by omega) (by omega) (by omega) (by omega) hwa
                  have hrn := rb_new (a := x1) (b := x2) (c := x3) (d := x4) (e := x5) hr hC8 (hwf.2.2.2.2.2.2.2 C 5 (Nat.le_refl _) hC8 (by decide)) (hwf.2.2.2.2.2.2.2 C 10 (Nat.le_refl _) hC8 (by decide)) (by omega)
                  refine vv_aload_n (pc := 131) 1 dX0_hang_131 rfl rfl ?_
                  refine vc_Vv (pc := 132) (c_X0_reckon l G (by assumption) _ hwfn.1 hrn) mw_M_X0_64 my_X0_reckon (mm_rv_B (by assumption)) ⟨by decide, by decide⟩ rfl rfl (Nat.le_of_ble_eq_true rfl) dX0_hang_132 (fun S132 h132 => ?_)
                  refine vv_aload_n (pc := 135) 1 dX0_hang_135 rfl rfl ?_
                  refine vc_Vi (pc := 136) (c_X0_settle l G (by assumption) _ hwfn (f5_rb (by omega) h132.1 hrn) h132.2) mw_M_X0_76 my_X0_settle (mm_rv_B (by assumption)) ⟨by decide, by decide⟩ rfl rfl (Nat.le_of_ble_eq_true rfl) dX0_hang_136 (fun r136 S136 h136 => ?_)
                  refine vv_pop (pc := 139) dX0_hang_139 rfl ?_
                  refine vv_iload (pc := 140) 0 dX0_hang_140 rfl ?_
                  refine vr_i (pc := 142) dX0_hang_142 ?_
                  have hbad : op_wbad C z x1 x2 x3 x4 x5 = 0 := by
                    unfold op_wbad
                    rw [if_neg hb0, if_neg (by omega), if_neg (fun h => h.elim (fun h => h hwa) (fun h => Int32.not_lt.mpr c84 h))]
                  rw [hbad]
                  exact ⟨fun h => absurd rfl h, fun _ => ⟨rfl, h136.2.1, h136.2.2.1, fr_trans (fr_new hC8) (fr_trans (f5_fr (by omega) h132.1) h136.2.2.2)⟩⟩
                -- f@84 path ffffttff
                · refine vv_bipush (pc := 87) (v := (-5)) dX0_hang_87 (by decide) ?_
                  refine vr_i (pc := 89) dX0_hang_89 ?_
                  have hbad : op_wbad C z x1 x2 x3 x4 x5 = -5 := by
                    unfold op_wbad
                    rw [if_neg hb0, if_neg (by omega), if_pos (Or.inr (Int32.not_le.mp c84))]
                  rw [hbad]
                  exact ⟨fun _ => ⟨rfl, hr, ht, fr_refl b S⟩, fun h => absurd h (by decide)⟩
            -- f@64 path fffftf
            · refine vv_bipush (pc := 67) (v := (-4)) dX0_hang_67 (by decide) ?_
              refine vr_i (pc := 69) dX0_hang_69 ?_
              have hbad : op_wbad C z x1 x2 x3 x4 x5 = -4 := by
                have h8 : C = 8 := by
                  rw [g1, hw.2.1] at c64
                  rcases Nat.lt_or_ge C 8 with h | h
                  · exact absurd (nI_lt (a := C) (b := 8) h (by decide)) c64
                  · omega
                unfold op_wbad
                rw [if_neg hb0, if_pos h8]
              rw [hbad]
              exact ⟨fun _ => ⟨rfl, hr, ht, fr_refl b S⟩, fun h => absurd h (by decide)⟩
          -- f@52 path fffff
          · refine vv_bipush (pc := 55) (v := (-2)) dX0_hang_55 (by decide) ?_
            refine vr_i (pc := 57) dX0_hang_57 ?_
            have hbad : op_wbad C z x1 x2 x3 x4 x5 = -2 := by
              unfold op_wbad
              rw [if_pos (Or.inr (Or.inr (Or.inr (Or.inr (h49.symm.trans c52)))))]
            rw [hbad]
            exact ⟨fun _ => ⟨rfl, hr, ht, fr_refl b S⟩, fun h => absurd h (by decide)⟩
set_option maxRecDepth 100000 in
set_option maxHeartbeats 4000000 in
theorem c_X0_changeTension (l : Launch) (G : gG) {C b : Nat} {z : Nat → Int32} (hb : b < 11) (S : Mem) (hwf : sp_wf C z) (hr : rb C S b z) (ht : rt_ C S b z) (x : Int32) : mm_C l G yX0_changeTension cX0_changeTension 4 (some .int) (mm_rm 2 42) [.ref (gad G (mm_B b)), .int x] S (mm_Qi G (fun r S2 => sp_res C b S S2 r (op_tight C z x))) := by
  obtain ⟨g1, g2, g3, g4, g5, g6, g7, g8, g9⟩ := id hr
  have hw := hwf.1
  have hC := hw.1
  refine mm_ofV (own := RX0) (by decide +kernel) rfl (Nat.le_of_ble_eq_true rfl) (ls0 := [(0, .ref (gad G (mm_B b))), (1, .int x)]) rfl ?_
  refine vv_iload_n (pc := 0) 1 dX0_changeTension_0 rfl rfl ?_
  refine vv_iconst (pc := 1) (v := 0) dX0_changeTension_1 (by decide) ?_
  refine vv_ldc (pc := 2) mw_K_X0_71 dX0_changeTension_2 ?_
  refine vc_Ni (pc := 4) (c_X4_within l G _ _ _ _) (host := RX4) (by decide +kernel) my_X4_within ⟨by decide, by decide⟩ rfl rfl (Nat.le_of_ble_eq_true rfl) dX0_changeTension_4 (fun r4 S4 h4 => ?_)
  obtain ⟨qS4, h4⟩ := h4
  replace qS4 := qS4.symm
  subst qS4
  refine vv_if_ne (pc := 7) (tgt := 13) dX0_changeTension_7 (by decide) (fun c7 => ?_) (fun c7 => ?_)
  -- t@7 path t
  · refine vv_aload_n (pc := 13) 0 dX0_changeTension_13 rfl rfl ?_
    refine vc_Vq (pc := 14) (c_X0_wireHere l G (by assumption) _ (by assumption) (by assumption) (by assumption)) mw_M_X0_99 my_X0_wireHere (mm_rv_B (by assumption)) ⟨by decide, by decide⟩ rfl rfl (Nat.le_of_ble_eq_true rfl) dX0_changeTension_14 (fun r14 S14 h14 => ?_)
    obtain ⟨qS14, h14⟩ := h14
    replace qS14 := qS14.symm
    subst qS14
    rcases sp_rf_cases G b (sp_hw z C) with ⟨gH, eH⟩ | ⟨gH, eH⟩ <;> rw [eH] at h14 <;> subst h14
    -- null@14 path tn
    · refine vv_astore_nN (pc := 17) (i := 2) (ls' := [(2, .null), (0, .ref (gad G (mm_B b))), (1, .int x)]) dX0_changeTension_17 rfl (by decide) rfl ?_
      refine vv_aload_nN (pc := 18) 0 dX0_changeTension_18 rfl rfl ?_
      refine vv_ifnullN (pc := 19) (tgt := 37) dX0_changeTension_19 (by decide) ?_
      refine vv_bipush (pc := 37) (v := (-5)) dX0_changeTension_37 (by decide) ?_
      refine vr_i (pc := 39) dX0_changeTension_39 ?_
      unfold sp_res op_tight
      rw [← h4, if_neg c7, if_pos gH]
      exact ⟨rfl, hr, ht, fr_refl b S⟩
    -- ref@14 path tr
    · obtain ⟨hk, -⟩ := sp_hw_lt hC gH
      have hk8 : sp_hw z C < 8 := by omega
      obtain ⟨a1, a2, a3, a4, a5, a6, a7, a8, a9, a10, a11⟩ := g9 _ hk
      refine vv_astore_n (pc := 17) (i := 2) (ls' := [(2, _), (0, .ref (gad G (mm_B b))), (1, .int x)]) dX0_changeTension_17 rfl (by decide) rfl ?_
      refine vv_aload_n (pc := 18) 0 dX0_changeTension_18 rfl rfl ?_
      refine vv_ifnull (pc := 19) dX0_changeTension_19 ?_
      refine vv_aload_n (pc := 22) 0 dX0_changeTension_22 rfl rfl ?_
      refine vg_X3_broken (pc := 23) (by assumption) (by assumption) mw_F_X0_61 dX0_changeTension_23 ?_
      refine vv_if_ne (pc := 26) (tgt := 37) dX0_changeTension_26 (by decide) (fun c26 => ?_) (fun c26 => ?_)
      -- t@26 path trt
      · refine vv_bipush (pc := 37) (v := (-5)) dX0_changeTension_37 (by decide) ?_
        refine vr_i (pc := 39) dX0_changeTension_39 ?_
        unfold sp_res op_tight
        rw [← h4, if_neg c7, if_neg gH, if_neg (fun h => c26 (a6.trans h.1))]
        exact ⟨rfl, hr, ht, fr_refl b S⟩
      -- f@26 path trf
      · refine vv_iload_n (pc := 29) 2 dX0_changeTension_29 rfl rfl ?_
        refine vv_aload_n (pc := 30) 0 dX0_changeTension_30 rfl rfl ?_
        refine vg_X3_strength (pc := 31) (by assumption) (by assumption) mw_F_X0_106 dX0_changeTension_31 ?_
        refine vv_icmp_le (pc := 34) (tgt := 40) dX0_changeTension_34 (by decide) (fun c34 => ?_) (fun c34 => ?_)
        -- t@34 path trft
        · refine vv_aload_n (pc := 40) 0 dX0_changeTension_40 rfl rfl ?_
          refine vg_X3_tension (pc := 41) (by assumption) (by assumption) mw_F_X0_109 dX0_changeTension_41 ?_
          refine vv_topi (fun x3p44 e3p44 => ?_)
          refine vv_istore_n (pc := 44) (i := 3) (ls' := [(3, .int x3p44), (2, _), (0, .ref (gad G (mm_B b))), (1, .int x)]) dX0_changeTension_44 rfl (by decide) rfl ?_
          refine vv_aload_n (pc := 45) 1 dX0_changeTension_45 rfl rfl ?_
          refine vv_iload_n (pc := 46) 3 dX0_changeTension_46 rfl rfl ?_
          refine vv_aload_n (pc := 47) 2 dX0_changeTension_47 rfl rfl ?_
          refine vg_X0_day (pc := 48) (by assumption) mw_F_X0_45 dX0_changeTension_48 ?_
          refine vc_Vv (pc := 51) (c_X3_pull l G (by assumption) (by assumption) _ _ _) mw_M_X0_112 my_X3_pull (mm_rv_W (by assumption) (by assumption)) ⟨by decide, by decide⟩ rfl rfl (Nat.le_of_ble_eq_true rfl) dX0_changeTension_51 (fun S51 h51 => ?_)
          refine vv_iload_n (pc := 54) 0 dX0_changeTension_54 rfl rfl ?_
          refine vr_i (pc := 55) dX0_changeTension_55 ?_
          have hd := hwf.2.2.2.2.2.2.1
          unfold sp_res op_tight
          rw [← h4, if_neg c7, if_neg gH, if_pos ⟨a6.symm.trans c26, by rw [← a4]; exact c34⟩]
          have hS : ∀ j, j ≠ mm_W b (sp_hw z C) → S51 j = S j := fun j hj => by rw [h51, mm_wr_orow _ _ hj]; exact mm_wr3_o j hj
          refine ⟨e3p44.trans a5, rb_know hr hC hk hS g4 hd (fun i hi => sp_up_lo _ _ _ _ hi) (fun i f hi hf => by rw [sp_up_f _ _ (by decide) hf, if_neg (by omega)]) (by rw [sp_up_f _ _ (by decide) (by decide), if_neg (by omega)]) ?_, rt_know ht hC hS (by rw [h51]; simp [mm_wr_eq]) (fun i hi => sp_up_lo _ _ _ _ hi) (fun i hi => ⟨by rw [sp_up_f _ _ (by decide) (by decide), if_neg (by omega)], by rw [sp_up_f _ _ (by decide) (by decide), if_neg (by omega)]⟩), fr_W hk8 hS⟩
          rw [h51]
          simp only [sp_up_f z _ (show 4 < 14 by decide) (show 0 < 14 by decide), sp_up_f z _ (show 4 < 14 by decide) (show 1 < 14 by decide), sp_up_f z _ (show 4 < 14 by decide) (show 2 < 14 by decide), sp_up_f z _ (show 4 < 14 by decide) (show 3 < 14 by decide), sp_up_f z _ (show 4 < 14 by decide) (show 4 < 14 by decide), sp_up_f z _ (show 4 < 14 by decide) (show 5 < 14 by decide), sp_up_f z _ (show 4 < 14 by decide) (show 6 < 14 by decide), sp_up_f z _ (show 4 < 14 by decide) (show 10 < 14 by decide), mm_wr_eq]
          simp [a1, a2, a3, a4, a5, a6, a7, a8, a11]
        -- f@34 path trff
        · refine vv_bipush (pc := 37) (v := (-5)) dX0_changeTension_37 (by decide) ?_
          refine vr_i (pc := 39) dX0_changeTension_39 ?_
          unfold sp_res op_tight
          rw [← h4, if_neg c7, if_neg gH, if_neg (fun h => c34 (by rw [a4]; exact h.2))]
          exact ⟨rfl, hr, ht, fr_refl b S⟩
  -- f@7 path f
  · refine vv_bipush (pc := 10) (v := (-2)) dX0_changeTension_10 (by decide) ?_
    refine vr_i (pc := 12) dX0_changeTension_12 ?_
    unfold sp_res op_tight
    rw [← h4, if_pos c7]
    exact ⟨rfl, hr, ht, fr_refl b S⟩
set_option maxRecDepth 100000 in
set_option maxHeartbeats 4000000 in
theorem c_X0_standsWith (l : Launch) (G : gG) {C b : Nat} {z : Nat → Int32} (hb : b < 11) (S : Mem) (hwf : sp_wf C z) (hr : rb C S b z) (ht : rt_ C S b z) {p : Nat} {x v : Int32} (hx : x = nI p) (hp : p < 20) (hv : 0 ≤ v.toInt ∧ v.toInt ≤ 1000) : mm_C l G yX0_standsWith cX0_standsWith 3 (some .boolean) (mm_rm 2 49) [.ref (gad G (mm_B b)), .int x, .int v] S (mm_Qi G (fun r S2 => r = (if sp_bu (upd z (10 + p) v) C = 99 then 1 else 0) ∧ rb C S2 b (upd z (10 + p) v) ∧ rt_ C S2 b (upd z (10 + p) v) ∧ fr_ b S S2)) := by
  subst hx
  obtain ⟨g1, g2, g3, g4, g5, g6, g7, g8, g9⟩ := id hr
  have hw := hwf.1
  have hC := hw.1
  have hwf1 := sp_load_wf hwf hp hv
  refine mm_ofV (own := RX0) (by decide +kernel) rfl (Nat.le_of_ble_eq_true rfl) (ls0 := [(0, .ref (gad G (mm_B b))), (1, .int (nI p)), (2, .int v)]) rfl ?_
  refine vv_iload_n (pc := 0) 1 dX0_standsWith_0 rfl rfl ?_
  refine vv_iconst (pc := 1) (v := 0) dX0_standsWith_1 (by decide) ?_
  refine vv_bipush (pc := 2) (v := 19) dX0_standsWith_2 (by decide) ?_
  refine vc_Ni (pc := 4) (c_X4_within l G _ _ _ _) (host := RX4) (by decide +kernel) my_X4_within ⟨by decide, by decide⟩ rfl rfl (Nat.le_of_ble_eq_true rfl) dX0_standsWith_4 (fun r4 S4 h4 => ?_)
  obtain ⟨qS4, h4⟩ := h4
  replace qS4 := qS4.symm
  subst qS4
  refine vv_if_ne (pc := 7) (tgt := 12) dX0_standsWith_7 (by decide) (fun c7 => ?_) (fun c7 => ?_)
  -- t@7 path t
  · refine vv_aload_n (pc := 12) 0 dX0_standsWith_12 rfl rfl ?_
    refine vg_X0_loads (pc := 13) (by assumption) mw_F_X0_9 dX0_standsWith_13 ?_
    refine vv_iload_n (pc := 16) 1 dX0_standsWith_16 rfl rfl ?_
    refine vv_iload_n (pc := 17) 2 dX0_standsWith_17 rfl rfl ?_
    refine vs_L (pc := 18) (by assumption) (vp_20 hp) dX0_standsWith_18 ?_
    rw [cl_n (by omega)]
    have hr1 := rb_ld (x := v) hr hC hp
    refine vv_aload_n (pc := 19) 0 dX0_standsWith_19 rfl rfl ?_
    refine vc_Vv (pc := 20) (c_X0_reckon l G (by assumption) _ hwf1.1 hr1) mw_M_X0_64 my_X0_reckon (mm_rv_B (by assumption)) ⟨by decide, by decide⟩ rfl rfl (Nat.le_of_ble_eq_true rfl) dX0_standsWith_20 (fun S20 h20 => ?_)
    refine vv_aload_n (pc := 23) 0 dX0_standsWith_23 rfl rfl ?_
    refine vc_Vi (pc := 24) (c_X0_worstBursting l G (by assumption) _ hwf1 (f5_rb hC h20.1 hr1) h20.2) mw_M_X0_116 my_X0_worstBursting (mm_rv_B (by assumption)) ⟨by decide, by decide⟩ rfl rfl (Nat.le_of_ble_eq_true rfl) dX0_standsWith_24 (fun r24 S24 h24 => ?_)
    obtain ⟨qS24, h24⟩ := h24
    replace qS24 := qS24.symm
    subst qS24
    refine vv_iconst (pc := 27) (v := (-1)) dX0_standsWith_27 (by decide) ?_
    refine vv_icmp_ne (pc := 28) (tgt := 35) dX0_standsWith_28 (by decide) (fun c28 => ?_) (fun c28 => ?_)
    -- t@28 path tt
    · refine vv_iconst (pc := 35) (v := 0) dX0_standsWith_35 (by decide) ?_
      refine vr_z (pc := 36) dX0_standsWith_36 (by first | exact Or.inl rfl | exact Or.inr rfl | assumption) ?_
      have hlt : sp_bu (upd z (10 + p) v) C < 1000 := by rcases Nat.decEq (sp_bu (upd z (10 + p) v) C) 99 with h | h <;> first | (have := (sp_bu_lt h).1; omega) | omega
      rw [h24, sp_ixm_m1 hlt] at c28
      rw [if_neg c28]
      exact ⟨rfl, f5_rb hC h20.1 hr1, h20.2, fr_trans fr_L (f5_fr hC h20.1)⟩
    -- f@28 path tf
    · refine vv_iconst (pc := 31) (v := 1) dX0_standsWith_31 (by decide) ?_
      refine vv_goto (pc := 32) (tgt := 36) dX0_standsWith_32 (by decide) ?_
      refine vr_z (pc := 36) dX0_standsWith_36 (by first | exact Or.inl rfl | exact Or.inr rfl | assumption) ?_
      have hlt : sp_bu (upd z (10 + p) v) C < 1000 := by rcases Nat.decEq (sp_bu (upd z (10 + p) v) C) 99 with h | h <;> first | (have := (sp_bu_lt h).1; omega) | omega
      rw [h24, sp_ixm_m1 hlt] at c28
      rw [if_pos c28]
      exact ⟨rfl, f5_rb hC h20.1 hr1, h20.2, fr_trans fr_L (f5_fr hC h20.1)⟩
  -- f@7 path f
  · exact absurd (h4.symm.trans c7) (by rw [sp_in_iff, nI_toInt (by omega), show (0 : Int32).toInt = 0 by decide, show (19 : Int32).toInt = 19 by decide]; omega)
set_option maxRecDepth 100000 in
set_option maxHeartbeats 4000000 in
theorem c_X0_allLoads (l : Launch) (G : gG) {C b : Nat} {z : Nat → Int32} (hb : b < 11) (S : Mem) (hr : rb C S b z) : mm_C l G yX0_allLoads cX0_allLoads 3 (some .int) (mm_rm 0 0) [.ref (gad G (mm_B b))] S (mm_Qi G (fun r S2 => S2 = S ∧ r = sp_sum z 20)) := by
  refine mm_ofV (own := RX0) (by decide +kernel) rfl (Nat.le_of_ble_eq_true rfl) (ls0 := [(0, .ref (gad G (mm_B b)))]) rfl ?_
  refine vv_iconst (pc := 0) (v := 0) dX0_allLoads_0 (by decide) ?_
  refine vv_topi (fun x1p1 e1p1 => ?_)
  refine vv_istore_n (pc := 1) (i := 1) (ls' := [(1, .int x1p1), (0, .ref (gad G (mm_B b)))]) dX0_allLoads_1 rfl (by decide) rfl ?_
  refine vv_iconst (pc := 2) (v := 0) dX0_allLoads_2 (by decide) ?_
  refine vv_topi (fun x2p3 e2p3 => ?_)
  refine vv_istore_n (pc := 3) (i := 2) (ls' := [(2, .int x2p3), (1, .int x1p1), (0, .ref (gad G (mm_B b)))]) dX0_allLoads_3 rfl (by decide) rfl ?_
  have lp4 : ∀ (n : Nat) (q : Nat) (x1 x2 : Int32), 21 ≤ n + q → q ≤ 20 → x2 = nI q → x1 = sp_sum z q → mm_V l G RX0 cX0_allLoads 3 (some .int) (mm_rm 0 0) 0 0 (fun _ => True) (fun _ => mm_F G) (mm_Qf G (mm_Qi G (fun r S2 => S2 = S ∧ r = sp_sum z 20))) S 4 [(0, .ref (gad G (mm_B b))), (1, .int x1), (2, .int x2)] [] := by
    intro n
    induction n with
    | zero =>
      intro q x1 x2 hn hq e2 e1
      exact absurd hn (by omega)
    | succ n ih =>
      intro q x1 x2 hn hq e2 e1
      refine vv_iload_n (pc := 4) 2 dX0_allLoads_4 rfl rfl ?_
      refine vv_bipush (pc := 5) (v := 20) dX0_allLoads_5 (by decide) ?_
      refine vv_icmp_ge (pc := 7) (tgt := 25) dX0_allLoads_7 (by decide) (fun c7 => ?_) (fun c7 => ?_)
      -- t@7 path L4t
      · refine vv_iload_n (pc := 25) 1 dX0_allLoads_25 rfl rfl ?_
        refine vr_i (pc := 26) dX0_allLoads_26 ?_
        have hq2 := sp_geN (N := 20) (by decide) hq e2 c7
        subst hq2
        exact ⟨rfl, e1⟩
      -- f@7 path L4f
      · have hq2 : q < 20 := sp_ltN (N := 20) (by decide) hq e2 c7
        refine vv_iload_n (pc := 10) 1 dX0_allLoads_10 rfl rfl ?_
        refine vv_aload_n (pc := 11) 0 dX0_allLoads_11 rfl rfl ?_
        refine vg_X0_loads (pc := 12) (by assumption) mw_F_X0_9 dX0_allLoads_12 ?_
        refine vv_iload_n (pc := 15) 2 dX0_allLoads_15 rfl rfl ?_
        refine vl_L (pc := 16) (by assumption) (by rw [e2]; exact vp_20 hq2) dX0_allLoads_16 ?_
        refine vv_iadd (pc := 17) dX0_allLoads_17 ?_
        refine vv_topi (fun x1p18 e1p18 => ?_)
        refine vv_istore_n (pc := 18) (i := 1) (ls' := [(1, .int x1p18), (0, .ref (gad G (mm_B b))), (2, .int x2)]) dX0_allLoads_18 rfl (by decide) rfl ?_
        obtain ⟨x2p19, e2p19⟩ : ∃ y : Int32, y = x2 + 1 := ⟨_, rfl⟩
        refine vv_iinc (pc := 19) (q := 2) (v := x2p19) (ls' := [(2, .int x2p19), (1, .int x1p18), (0, .ref (gad G (mm_B b)))]) dX0_allLoads_19 rfl (by rw [e2p19]; rfl) (by decide) rfl ?_
        refine vv_goto (pc := 22) (tgt := 4) dX0_allLoads_22 (by decide) ?_
        refine vv_sub [2, 1, 0] (ls' := [(0, _), (1, _), (2, _)]) rfl ?_
        exact ih (q + 1) x1p18 x2p19 (by omega) (by omega) (by rw [e2p19, e2]; exact nI_1 q) (by rw [e1p18, e1, e2, cl_n (by omega), hr.2.2.2.2.2.2.1 q hq2]; rfl)
  refine vv_sub [2, 1, 0] (ls' := [(0, _), (1, _), (2, _)]) rfl ?_
  exact lp4 21 0 x1p1 x2p3 (by omega) (by omega) e2p3 e1p1
set_option maxRecDepth 100000 in
set_option maxHeartbeats 4000000 in
theorem c_X0_wholeWires (l : Launch) (G : gG) {C b : Nat} {z : Nat → Int32} (hb : b < 11) (S : Mem) (hw : sp_ws C z) (hr : rb C S b z) : mm_C l G yX0_wholeWires cX0_wholeWires 3 (some .int) (mm_rm 1 20) [.ref (gad G (mm_B b))] S (mm_Qi G (fun r S2 => S2 = S ∧ r = sp_cnt (sp_g0 z) C)) := by
  obtain ⟨g1, g2, g3, g4, g5, g6, g7, g8, g9⟩ := id hr
  have hC := hw.1
  refine mm_ofV (own := RX0) (by decide +kernel) rfl (Nat.le_of_ble_eq_true rfl) (ls0 := [(0, .ref (gad G (mm_B b)))]) rfl ?_
  refine vv_iconst (pc := 0) (v := 0) dX0_wholeWires_0 (by decide) ?_
  refine vv_topi (fun x1p1 e1p1 => ?_)
  refine vv_istore_n (pc := 1) (i := 1) (ls' := [(1, .int x1p1), (0, .ref (gad G (mm_B b)))]) dX0_wholeWires_1 rfl (by decide) rfl ?_
  refine vv_iconst (pc := 2) (v := 0) dX0_wholeWires_2 (by decide) ?_
  refine vv_topi (fun x2p3 e2p3 => ?_)
  refine vv_istore_n (pc := 3) (i := 2) (ls' := [(2, .int x2p3), (1, .int x1p1), (0, .ref (gad G (mm_B b)))]) dX0_wholeWires_3 rfl (by decide) rfl ?_
  have lp4 : ∀ (n : Nat) (q : Nat) (x1 x2 : Int32), 9 ≤ n + q → q ≤ C → x2 = nI q → x1 = sp_cnt (sp_g0 z) q → mm_V l G RX0 cX0_wholeWires 3 (some .int) (mm_rm 1 20) 0 0 (fun _ => True) (fun _ => mm_F G) (mm_Qf G (mm_Qi G (fun r S2 => S2 = S ∧ r = sp_cnt (sp_g0 z) C))) S 4 [(0, .ref (gad G (mm_B b))), (1, .int x1), (2, .int x2)] [] := by
    intro n
    induction n with
    | zero =>
      intro q x1 x2 hn hq e2 e1
      exact absurd hn (by omega)
    | succ n ih =>
      intro q x1 x2 hn hq e2 e1
      refine vv_iload_n (pc := 4) 2 dX0_wholeWires_4 rfl rfl ?_
      refine vv_aload_n (pc := 5) 0 dX0_wholeWires_5 rfl rfl ?_
      refine vg_X0_wireCount (pc := 6) (by assumption) mw_F_X0_38 dX0_wholeWires_6 ?_
      refine vv_icmp_ge (pc := 9) (tgt := 41) dX0_wholeWires_9 (by decide) (fun c9 => ?_) (fun c9 => ?_)
      -- t@9 path L4t
      · refine vv_iload_n (pc := 41) 1 dX0_wholeWires_41 rfl rfl ?_
        refine vr_i (pc := 42) dX0_wholeWires_42 ?_
        rw [g1, hw.2.1] at c9
        have hqC := sp_geN (N := C) (by omega) hq e2 c9
        subst hqC
        exact ⟨rfl, e1⟩
      -- f@9 path L4f
      · rw [g1, hw.2.1] at c9
        have hqC : q < C := sp_ltN (N := C) (by omega) hq e2 c9
        have hx2 : x2.toNatClampNeg = q := by rw [e2, cl_n (by omega)]
        have hq8 : q < 8 := by omega
        refine vv_iload_n (pc := 12) 1 dX0_wholeWires_12 rfl rfl ?_
        refine vv_aload_n (pc := 13) 0 dX0_wholeWires_13 rfl rfl ?_
        refine vg_X0_wires (pc := 14) (by assumption) mw_F_X0_20 dX0_wholeWires_14 ?_
        refine vv_iload_n (pc := 17) 2 dX0_wholeWires_17 rfl rfl ?_
        refine vl_R (pc := 18) (by assumption) (by rw [e2]; exact vp_8 (by omega)) dX0_wholeWires_18 ?_
        rw [hx2]
        refine vg_X3_broken (pc := 19) (by assumption) (by assumption) mw_F_X0_61 dX0_wholeWires_19 ?_
        refine vv_if_ne (pc := 22) (tgt := 29) dX0_wholeWires_22 (by decide) (fun c22 => ?_) (fun c22 => ?_)
        -- t@22 path L4ft
        · refine vv_iconst (pc := 29) (v := 0) dX0_wholeWires_29 (by decide) ?_
          refine vc_Ni (pc := 30) (c_X4_oneIf l G _ _) (host := RX4) (by decide +kernel) my_X4_oneIf ⟨by decide, by decide⟩ rfl rfl (Nat.le_of_ble_eq_true rfl) dX0_wholeWires_30 (fun r30 S30 h30 => ?_)
          obtain ⟨qS30, h30⟩ := h30
          replace qS30 := qS30.symm
          subst qS30
          refine vv_iadd (pc := 33) dX0_wholeWires_33 ?_
          refine vv_topi (fun x1p34 e1p34 => ?_)
          refine vv_istore_n (pc := 34) (i := 1) (ls' := [(1, .int x1p34), (0, .ref (gad G (mm_B b))), (2, .int x2)]) dX0_wholeWires_34 rfl (by decide) rfl ?_
          obtain ⟨x2p35, e2p35⟩ : ∃ y : Int32, y = x2 + 1 := ⟨_, rfl⟩
          refine vv_iinc (pc := 35) (q := 2) (v := x2p35) (ls' := [(2, .int x2p35), (1, .int x1p34), (0, .ref (gad G (mm_B b)))]) dX0_wholeWires_35 rfl (by rw [e2p35]; rfl) (by decide) rfl ?_
          refine vv_goto (pc := 38) (tgt := 4) dX0_wholeWires_38 (by decide) ?_
          have hg : r30 = sp_g0 z q := by rw [h30]; unfold sp_g0; rw [if_neg (fun h => c22 ((g9 q hqC).2.2.2.2.2.1.trans h))]; rfl
          refine vv_sub [2, 1, 0] (ls' := [(0, _), (1, _), (2, _)]) rfl ?_
          exact ih (q + 1) x1p34 x2p35 (by omega) (by omega) (by rw [e2p35, e2]; exact nI_1 q) (by rw [e1p34, e1, hg]; rfl)
        -- f@22 path L4ff
        · refine vv_iconst (pc := 25) (v := 1) dX0_wholeWires_25 (by decide) ?_
          refine vv_goto (pc := 26) (tgt := 30) dX0_wholeWires_26 (by decide) ?_
          refine vc_Ni (pc := 30) (c_X4_oneIf l G _ _) (host := RX4) (by decide +kernel) my_X4_oneIf ⟨by decide, by decide⟩ rfl rfl (Nat.le_of_ble_eq_true rfl) dX0_wholeWires_30 (fun r30 S30 h30 => ?_)
          obtain ⟨qS30, h30⟩ := h30
          replace qS30 := qS30.symm
          subst qS30
          refine vv_iadd (pc := 33) dX0_wholeWires_33 ?_
          refine vv_topi (fun x1p34 e1p34 => ?_)
          refine vv_istore_n (pc := 34) (i := 1) (ls' := [(1, .int x1p34), (0, .ref (gad G (mm_B b))), (2, .int x2)]) dX0_wholeWires_34 rfl (by decide) rfl ?_
          obtain ⟨x2p35, e2p35⟩ : ∃ y : Int32, y = x2 + 1 := ⟨_, rfl⟩
          refine vv_iinc (pc := 35) (q := 2) (v := x2p35) (ls' := [(2, .int x2p35), (1, .int x1p34), (0, .ref (gad G (mm_B b)))]) dX0_wholeWires_35 rfl (by rw [e2p35]; rfl) (by decide) rfl ?_
          refine vv_goto (pc := 38) (tgt := 4) dX0_wholeWires_38 (by decide) ?_
          have hg : r30 = sp_g0 z q := by rw [h30]; unfold sp_g0; rw [if_pos ((g9 q hqC).2.2.2.2.2.1.symm.trans c22)]; rfl
          refine vv_sub [2, 1, 0] (ls' := [(0, _), (1, _), (2, _)]) rfl ?_
          exact ih (q + 1) x1p34 x2p35 (by omega) (by omega) (by rw [e2p35, e2]; exact nI_1 q) (by rw [e1p34, e1, hg]; rfl)
  refine vv_sub [2, 1, 0] (ls' := [(0, _), (1, _), (2, _)]) rfl ?_
  exact lp4 9 0 x1p1 x2p3 (by omega) (by omega) e2p3 e1p1
set_option maxRecDepth 100000 in
set_option maxHeartbeats 4000000 in
theorem c_X0_slackWires (l : Launch) (G : gG) {C b : Nat} {z : Nat → Int32} (hb : b < 11) (S : Mem) (hwf : sp_wf C z) (hr : rb C S b z) (ht : rt_ C S b z) : mm_C l G yX0_slackWires cX0_slackWires 3 (some .int) (mm_rm 1 20) [.ref (gad G (mm_B b))] S (mm_Qi G (fun r S2 => S2 = S ∧ r = sp_cnt (sp_g1 z C) C)) := by
  obtain ⟨g1, g2, g3, g4, g5, g6, g7, g8, g9⟩ := id hr
  have hw := hwf.1
  have hC := hw.1
  refine mm_ofV (own := RX0) (by decide +kernel) rfl (Nat.le_of_ble_eq_true rfl) (ls0 := [(0, .ref (gad G (mm_B b)))]) rfl ?_
  refine vv_iconst (pc := 0) (v := 0) dX0_slackWires_0 (by decide) ?_
  refine vv_topi (fun x1p1 e1p1 => ?_)
  refine vv_istore_n (pc := 1) (i := 1) (ls' := [(1, .int x1p1), (0, .ref (gad G (mm_B b)))]) dX0_slackWires_1 rfl (by decide) rfl ?_
  refine vv_iconst (pc := 2) (v := 0) dX0_slackWires_2 (by decide) ?_
  refine vv_topi (fun x2p3 e2p3 => ?_)
  refine vv_istore_n (pc := 3) (i := 2) (ls' := [(2, .int x2p3), (1, .int x1p1), (0, .ref (gad G (mm_B b)))]) dX0_slackWires_3 rfl (by decide) rfl ?_
  have lp4 : ∀ (n : Nat) (q : Nat) (x1 x2 : Int32), 9 ≤ n + q → q ≤ C → x2 = nI q → x1 = sp_cnt (sp_g1 z C) q → mm_V l G RX0 cX0_slackWires 3 (some .int) (mm_rm 1 20) 0 0 (fun _ => True) (fun _ => mm_F G) (mm_Qf G (mm_Qi G (fun r S2 => S2 = S ∧ r = sp_cnt (sp_g1 z C) C))) S 4 [(0, .ref (gad G (mm_B b))), (1, .int x1), (2, .int x2)] [] := by
    intro n
    induction n with
    | zero =>
      intro q x1 x2 hn hq e2 e1
      exact absurd hn (by omega)
    | succ n ih =>
      intro q x1 x2 hn hq e2 e1
      refine vv_iload_n (pc := 4) 2 dX0_slackWires_4 rfl rfl ?_
      refine vv_aload_n (pc := 5) 0 dX0_slackWires_5 rfl rfl ?_
      refine vg_X0_wireCount (pc := 6) (by assumption) mw_F_X0_38 dX0_slackWires_6 ?_
      refine vv_icmp_ge (pc := 9) (tgt := 33) dX0_slackWires_9 (by decide) (fun c9 => ?_) (fun c9 => ?_)
      -- t@9 path L4t
      · refine vv_iload_n (pc := 33) 1 dX0_slackWires_33 rfl rfl ?_
        refine vr_i (pc := 34) dX0_slackWires_34 ?_
        rw [g1, hw.2.1] at c9
        have hqC := sp_geN (N := C) (by omega) hq e2 c9
        subst hqC
        exact ⟨rfl, e1⟩
      -- f@9 path L4f
      · rw [g1, hw.2.1] at c9
        have hqC : q < C := sp_ltN (N := C) (by omega) hq e2 c9
        have hx2 : x2.toNatClampNeg = q := by rw [e2, cl_n (by omega)]
        have hq8 : q < 8 := by omega
        refine vv_iload_n (pc := 12) 1 dX0_slackWires_12 rfl rfl ?_
        refine vv_aload_n (pc := 13) 0 dX0_slackWires_13 rfl rfl ?_
        refine vg_X0_wires (pc := 14) (by assumption) mw_F_X0_20 dX0_slackWires_14 ?_
        refine vv_iload_n (pc := 17) 2 dX0_slackWires_17 rfl rfl ?_
        refine vl_R (pc := 18) (by assumption) (by rw [e2]; exact vp_8 (by omega)) dX0_slackWires_18 ?_
        rw [hx2]
        refine vc_Vi (pc := 19) (c_X3_isSlack l G (by assumption) (by assumption) _) mw_M_X0_151 my_X3_isSlack (mm_rv_W (by assumption) (by assumption)) ⟨by decide, by decide⟩ rfl rfl (Nat.le_of_ble_eq_true rfl) dX0_slackWires_19 (fun r19 S19 h19 => ?_)
        obtain ⟨qS19, h19⟩ := h19
        replace qS19 := qS19.symm
        subst qS19
        refine vc_Ni (pc := 22) (c_X4_oneIf l G _ _) (host := RX4) (by decide +kernel) my_X4_oneIf ⟨by decide, by decide⟩ rfl rfl (Nat.le_of_ble_eq_true rfl) dX0_slackWires_22 (fun r22 S22 h22 => ?_)
        obtain ⟨qS22, h22⟩ := h22
        replace qS22 := qS22.symm
        subst qS22
        refine vv_iadd (pc := 25) dX0_slackWires_25 ?_
        refine vv_topi (fun x1p26 e1p26 => ?_)
        refine vv_istore_n (pc := 26) (i := 1) (ls' := [(1, .int x1p26), (0, .ref (gad G (mm_B b))), (2, .int x2)]) dX0_slackWires_26 rfl (by decide) rfl ?_
        obtain ⟨x2p27, e2p27⟩ : ∃ y : Int32, y = x2 + 1 := ⟨_, rfl⟩
        refine vv_iinc (pc := 27) (q := 2) (v := x2p27) (ls' := [(2, .int x2p27), (1, .int x1p26), (0, .ref (gad G (mm_B b)))]) dX0_slackWires_27 rfl (by rw [e2p27]; rfl) (by decide) rfl ?_
        refine vv_goto (pc := 30) (tgt := 4) dX0_slackWires_30 (by decide) ?_
        have hg : r22 = sp_g1 z C q := by rw [h22, h19]; unfold sp_wSl sp_g1; rw [(g9 q hqC).2.2.2.2.2.1, (g9 q hqC).2.2.2.2.1, ht q hqC]; exact sp_one_if _
        refine vv_sub [2, 1, 0] (ls' := [(0, _), (1, _), (2, _)]) rfl ?_
        exact ih (q + 1) x1p26 x2p27 (by omega) (by omega) (by rw [e2p27, e2]; exact nI_1 q) (by rw [e1p26, e1, hg]; rfl)
  refine vv_sub [2, 1, 0] (ls' := [(0, _), (1, _), (2, _)]) rfl ?_
  exact lp4 9 0 x1p1 x2p3 (by omega) (by omega) e2p3 e1p1
set_option maxRecDepth 100000 in
set_option maxHeartbeats 4000000 in
theorem c_X0_tooTightWires (l : Launch) (G : gG) {C b : Nat} {z : Nat → Int32} (hb : b < 11) (S : Mem) (hwf : sp_wf C z) (hr : rb C S b z) (ht : rt_ C S b z) : mm_C l G yX0_tooTightWires cX0_tooTightWires 3 (some .int) (mm_rm 1 21) [.ref (gad G (mm_B b))] S (mm_Qi G (fun r S2 => S2 = S ∧ r = sp_cnt (sp_g2 z C) C)) := by
  obtain ⟨g1, g2, g3, g4, g5, g6, g7, g8, g9⟩ := id hr
  have hw := hwf.1
  have hC := hw.1
  refine mm_ofV (own := RX0) (by decide +kernel) rfl (Nat.le_of_ble_eq_true rfl) (ls0 := [(0, .ref (gad G (mm_B b)))]) rfl ?_
  refine vv_iconst (pc := 0) (v := 0) dX0_tooTightWires_0 (by decide) ?_
  refine vv_topi (fun x1p1 e1p1 => ?_)
  refine vv_istore_n (pc := 1) (i := 1) (ls' := [(1, .int x1p1), (0, .ref (gad G (mm_B b)))]) dX0_tooTightWires_1 rfl (by decide) rfl ?_
  refine vv_iconst (pc := 2) (v := 0) dX0_tooTightWires_2 (by decide) ?_
  refine vv_topi (fun x2p3 e2p3 => ?_)
  refine vv_istore_n (pc := 3) (i := 2) (ls' := [(2, .int x2p3), (1, .int x1p1), (0, .ref (gad G (mm_B b)))]) dX0_tooTightWires_3 rfl (by decide) rfl ?_
  have lp4 : ∀ (n : Nat) (q : Nat) (x1 x2 : Int32), 9 ≤ n + q → q ≤ C → x2 = nI q → x1 = sp_cnt (sp_g2 z C) q → mm_V l G RX0 cX0_tooTightWires 3 (some .int) (mm_rm 1 21) 0 0 (fun _ => True) (fun _ => mm_F G) (mm_Qf G (mm_Qi G (fun r S2 => S2 = S ∧ r = sp_cnt (sp_g2 z C) C))) S 4 [(0, .ref (gad G (mm_B b))), (1, .int x1), (2, .int x2)] [] := by
    intro n
    induction n with
    | zero =>
      intro q x1 x2 hn hq e2 e1
      exact absurd hn (by omega)
    | succ n ih =>
      intro q x1 x2 hn hq e2 e1
      refine vv_iload_n (pc := 4) 2 dX0_tooTightWires_4 rfl rfl ?_
      refine vv_aload_n (pc := 5) 0 dX0_tooTightWires_5 rfl rfl ?_
      refine vg_X0_wireCount (pc := 6) (by assumption) mw_F_X0_38 dX0_tooTightWires_6 ?_
      refine vv_icmp_ge (pc := 9) (tgt := 37) dX0_tooTightWires_9 (by decide) (fun c9 => ?_) (fun c9 => ?_)
      -- t@9 path L4t
      · refine vv_iload_n (pc := 37) 1 dX0_tooTightWires_37 rfl rfl ?_
        refine vr_i (pc := 38) dX0_tooTightWires_38 ?_
        rw [g1, hw.2.1] at c9
        have hqC := sp_geN (N := C) (by omega) hq e2 c9
        subst hqC
        exact ⟨rfl, e1⟩
      -- f@9 path L4f
      · rw [g1, hw.2.1] at c9
        have hqC : q < C := sp_ltN (N := C) (by omega) hq e2 c9
        have hx2 : x2.toNatClampNeg = q := by rw [e2, cl_n (by omega)]
        have hq8 : q < 8 := by omega
        refine vv_iload_n (pc := 12) 1 dX0_tooTightWires_12 rfl rfl ?_
        refine vv_aload_n (pc := 13) 0 dX0_tooTightWires_13 rfl rfl ?_
        refine vg_X0_wires (pc := 14) (by assumption) mw_F_X0_20 dX0_tooTightWires_14 ?_
        refine vv_iload_n (pc := 17) 2 dX0_tooTightWires_17 rfl rfl ?_
        refine vl_R (pc := 18) (by assumption) (by rw [e2]; exact vp_8 (by omega)) dX0_tooTightWires_18 ?_
        rw [hx2]
        refine vv_aload_n (pc := 19) 0 dX0_tooTightWires_19 rfl rfl ?_
        refine vg_X0_spare (pc := 20) (by assumption) mw_F_X0_29 dX0_tooTightWires_20 ?_
        refine vc_Vi (pc := 23) (c_X3_isTooTight l G (by assumption) (by assumption) _ _) mw_M_X0_154 my_X3_isTooTight (mm_rv_W (by assumption) (by assumption)) ⟨by decide, by decide⟩ rfl rfl (Nat.le_of_ble_eq_true rfl) dX0_tooTightWires_23 (fun r23 S23 h23 => ?_)
        obtain ⟨qS23, h23⟩ := h23
        replace qS23 := qS23.symm
        subst qS23
        refine vc_Ni (pc := 26) (c_X4_oneIf l G _ _) (host := RX4) (by decide +kernel) my_X4_oneIf ⟨by decide, by decide⟩ rfl rfl (Nat.le_of_ble_eq_true rfl) dX0_tooTightWires_26 (fun r26 S26 h26 => ?_)
        obtain ⟨qS26, h26⟩ := h26
        replace qS26 := qS26.symm
        subst qS26
        refine vv_iadd (pc := 29) dX0_tooTightWires_29 ?_
        refine vv_topi (fun x1p30 e1p30 => ?_)
        refine vv_istore_n (pc := 30) (i := 1) (ls' := [(1, .int x1p30), (0, .ref (gad G (mm_B b))), (2, .int x2)]) dX0_tooTightWires_30 rfl (by decide) rfl ?_
        obtain ⟨x2p31, e2p31⟩ : ∃ y : Int32, y = x2 + 1 := ⟨_, rfl⟩
        refine vv_iinc (pc := 31) (q := 2) (v := x2p31) (ls' := [(2, .int x2p31), (1, .int x1p30), (0, .ref (gad G (mm_B b)))]) dX0_tooTightWires_31 rfl (by rw [e2p31]; rfl) (by decide) rfl ?_
        refine vv_goto (pc := 34) (tgt := 4) dX0_tooTightWires_34 (by decide) ?_
        have hg : r26 = sp_g2 z C q := by rw [h26, h23]; unfold sp_wTt sp_g2; rw [(g9 q hqC).2.2.2.2.2.1, (g9 q hqC).2.2.2.2.1, ht q hqC, g3]; exact sp_one_if _
        refine vv_sub [2, 1, 0] (ls' := [(0, _), (1, _), (2, _)]) rfl ?_
        exact ih (q + 1) x1p30 x2p31 (by omega) (by omega) (by rw [e2p31, e2]; exact nI_1 q) (by rw [e1p30, e1, hg]; rfl)
  refine vv_sub [2, 1, 0] (ls' := [(0, _), (1, _), (2, _)]) rfl ?_
  exact lp4 9 0 x1p1 x2p3 (by omega) (by omega) e2p3 e1p1
set_option maxRecDepth 100000 in
set_option maxHeartbeats 4000000 in
theorem c_X0_walkToDoubtful (l : Launch) (G : gG) {C b : Nat} {z : Nat → Int32} (hb : b < 11) (S : Mem) (hwf : sp_wf C z) (hr : rb C S b z) (ht : rt_ C S b z) : mm_C l G yX0_walkToDoubtful cX0_walkToDoubtful 5 (some .int) (mm_rm 3 60) [.ref (gad G (mm_B b))] S (mm_Qi G (fun r S2 => S2 = S ∧ r = sp_rnd (sp_wk z C C).1 (sp_wk z C C).2 (z 4))) := by
  obtain ⟨g1, g2, g3, g4, g5, g6, g7, g8, g9⟩ := id hr
  have hw := hwf.1
  have hC := hw.1
  refine mm_ofV (own := RX0) (by decide +kernel) rfl (Nat.le_of_ble_eq_true rfl) (ls0 := [(0, .ref (gad G (mm_B b)))]) rfl ?_
  refine vv_bipush (pc := 0) (v := 20) dX0_walkToDoubtful_0 (by decide) ?_
  refine vv_topi (fun x1p2 e1p2 => ?_)
  refine vv_istore_n (pc := 2) (i := 1) (ls' := [(1, .int x1p2), (0, .ref (gad G (mm_B b)))]) dX0_walkToDoubtful_2 rfl (by decide) rfl ?_
  refine vv_iconst (pc := 3) (v := (-1)) dX0_walkToDoubtful_3 (by decide) ?_
  refine vv_topi (fun x2p4 e2p4 => ?_)
  refine vv_istore_n (pc := 4) (i := 2) (ls' := [(2, .int x2p4), (1, .int x1p2), (0, .ref (gad G (mm_B b)))]) dX0_walkToDoubtful_4 rfl (by decide) rfl ?_
  refine vv_iconst (pc := 5) (v := 0) dX0_walkToDoubtful_5 (by decide) ?_
  refine vv_topi (fun x3p6 e3p6 => ?_)
  refine vv_istore_n (pc := 6) (i := 3) (ls' := [(3, .int x3p6), (2, .int x2p4), (1, .int x1p2), (0, .ref (gad G (mm_B b)))]) dX0_walkToDoubtful_6 rfl (by decide) rfl ?_
  have lp7 : ∀ (n : Nat) (q : Nat) (x1 x2 x3 : Int32), 9 ≤ n + q → q ≤ C → x3 = nI q → x1 = (sp_wk z C q).1 → x2 = (sp_wk z C q).2 → mm_V l G RX0 cX0_walkToDoubtful 5 (some .int) (mm_rm 3 60) 0 0 (fun _ => True) (fun _ => mm_F G) (mm_Qf G (mm_Qi G (fun r S2 => S2 = S ∧ r = sp_rnd (sp_wk z C C).1 (sp_wk z C C).2 (z 4)))) S 7 [(0, .ref (gad G (mm_B b))), (1, .int x1), (2, .int x2), (3, .int x3)] [] := by
    intro n
    induction n with
    | zero =>
      intro q x1 x2 x3 hn hq e3 e1 e2
      exact absurd hn (by omega)
    | succ n ih =>
      intro q x1 x2 x3 hn hq e3 e1 e2
      refine vv_iload_n (pc := 7) 3 dX0_walkToDoubtful_7 rfl rfl ?_
      refine vv_aload_n (pc := 8) 0 dX0_walkToDoubtful_8 rfl rfl ?_
      refine vg_X0_wireCount (pc := 9) (by assumption) mw_F_X0_38 dX0_walkToDoubtful_9 ?_
      refine vv_icmp_ge (pc := 12) (tgt := 73) dX0_walkToDoubtful_12 (by decide) (fun c12 => ?_) (fun c12 => ?_)
      -- t@12 path L7t
      · refine vv_iload_n (pc := 73) 2 dX0_walkToDoubtful_73 rfl rfl ?_
        refine vv_iload_n (pc := 74) 1 dX0_walkToDoubtful_74 rfl rfl ?_
        refine vv_icmp_ge (pc := 75) (tgt := 80) dX0_walkToDoubtful_75 (by decide) (fun c75 => ?_) (fun c75 => ?_)
        -- t@75 path L7tt
        · refine vv_iload_n (pc := 80) 2 dX0_walkToDoubtful_80 rfl rfl ?_
          refine vv_iload_n (pc := 81) 1 dX0_walkToDoubtful_81 rfl rfl ?_
          refine vv_isub (pc := 82) dX0_walkToDoubtful_82 ?_
          refine vv_aload_n (pc := 83) 0 dX0_walkToDoubtful_83 rfl rfl ?_
          refine vg_X0_place (pc := 84) (by assumption) mw_F_X0_48 dX0_walkToDoubtful_84 ?_
          refine vv_iload_n (pc := 87) 1 dX0_walkToDoubtful_87 rfl rfl ?_
          refine vv_isub (pc := 88) dX0_walkToDoubtful_88 ?_
          refine vv_abs (pc := 89) mw_M_X0_90 mw_T_J9_abs_0f7a4 mw_C_J9_abs_0f7a4 (Nat.le_of_ble_eq_true rfl) (Nat.le_of_ble_eq_true rfl) dX0_walkToDoubtful_89 ?_
          refine vv_aload_n (pc := 92) 0 dX0_walkToDoubtful_92 rfl rfl ?_
          refine vg_X0_place (pc := 93) (by assumption) mw_F_X0_48 dX0_walkToDoubtful_93 ?_
          refine vv_iload_n (pc := 96) 2 dX0_walkToDoubtful_96 rfl rfl ?_
          refine vv_isub (pc := 97) dX0_walkToDoubtful_97 ?_
          refine vv_abs (pc := 98) mw_M_X0_90 mw_T_J9_abs_0f7a4 mw_C_J9_abs_0f7a4 (Nat.le_of_ble_eq_true rfl) (Nat.le_of_ble_eq_true rfl) dX0_walkToDoubtful_98 ?_
          refine vv_min (pc := 101) mw_M_X0_140 mw_T_J9_min_7cf53 mw_C_J9_min_7cf53 (Nat.le_of_ble_eq_true rfl) (Nat.le_of_ble_eq_true rfl) dX0_walkToDoubtful_101 ?_
          refine vv_iadd (pc := 104) dX0_walkToDoubtful_104 ?_
          refine vr_i (pc := 105) dX0_walkToDoubtful_105 ?_
          rw [g1, hw.2.1] at c12
          have hqC := sp_geN (N := C) (by omega) hq e3 c12
          subst hqC
          refine ⟨rfl, ?_⟩
          unfold sp_rnd
          rw [← e1, ← e2]
          rw [if_neg (Int32.not_lt.mpr c75), g5]
          rfl
        -- f@75 path L7tf
        · refine vv_iconst (pc := 78) (v := 0) dX0_walkToDoubtful_78 (by decide) ?_
          refine vr_i (pc := 79) dX0_walkToDoubtful_79 ?_
          rw [g1, hw.2.1] at c12
          have hqC := sp_geN (N := C) (by omega) hq e3 c12
          subst hqC
          refine ⟨rfl, ?_⟩
          unfold sp_rnd
          rw [← e1, ← e2]
          rw [if_pos (Int32.not_le.mp c75)]
      -- f@12 path L7f
      · rw [g1, hw.2.1] at c12
        have hqC : q < C := sp_ltN (N := C) (by omega) hq e3 c12
        have hx3 : x3.toNatClampNeg = q := by rw [e3, cl_n (by omega)]
        have hq8 : q < 8 := by omega
        have hdb := sp_db_iff (ht q hqC) (g9 q hqC)
        refine vv_aload_n (pc := 15) 0 dX0_walkToDoubtful_15 rfl rfl ?_
        refine vg_X0_wires (pc := 16) (by assumption) mw_F_X0_20 dX0_walkToDoubtful_16 ?_
        refine vv_iload_n (pc := 19) 3 dX0_walkToDoubtful_19 rfl rfl ?_
        refine vl_R (pc := 20) (by assumption) (by rw [e3]; exact vp_8 (by omega)) dX0_walkToDoubtful_20 ?_
        rw [hx3]
        refine vv_astore (pc := 21) (i := 4) (ls' := [(4, _), (0, .ref (gad G (mm_B b))), (1, .int x1), (2, .int x2), (3, .int x3)]) dX0_walkToDoubtful_21 (by decide) rfl ?_
        refine vv_aload (pc := 23) 0 dX0_walkToDoubtful_23 rfl ?_
        refine vg_X3_heardBroken (pc := 25) (by assumption) (by assumption) mw_F_X0_57 dX0_walkToDoubtful_25 ?_
        refine vv_if_ne (pc := 28) (tgt := 67) dX0_walkToDoubtful_28 (by decide) (fun c28 => ?_) (fun c28 => ?_)
        -- t@28 path L7ft
        · obtain ⟨x3p67, e3p67⟩ : ∃ y : Int32, y = x3 + 1 := ⟨_, rfl⟩
          refine vv_iinc (pc := 67) (q := 4) (v := x3p67) (ls' := [(3, .int x3p67), (4, _), (0, .ref (gad G (mm_B b))), (1, .int x1), (2, .int x2)]) dX0_walkToDoubtful_67 rfl (by rw [e3p67]; rfl) (by decide) rfl ?_
          refine vv_goto (pc := 70) (tgt := 7) dX0_walkToDoubtful_70 (by decide) ?_
          have hnd : ¬ sp_db z C q := fun h => c28 (hdb.mp h).1
          have hwk : sp_wk z C (q + 1) = sp_wk z C q := by rw [sp_wk, if_neg hnd]
          refine vv_sub [2, 3, 4, 0] (ls' := [(0, _), (1, _), (2, _), (3, _)]) rfl ?_
          exact ih (q + 1) x1 x2 x3p67 (by omega) (by omega) (by rw [e3p67, e3]; exact nI_1 q) (by rw [hwk]; exact e1) (by rw [hwk]; exact e2)
        -- f@28 path L7ff
        · refine vv_aload (pc := 31) 0 dX0_walkToDoubtful_31 rfl ?_
          refine vc_Vi (pc := 33) (c_X3_isSurelySlack l G (by assumption) (by assumption) _) mw_M_X0_133 my_X3_isSurelySlack (mm_rv_W (by assumption) (by assumption)) ⟨by decide, by decide⟩ rfl rfl (Nat.le_of_ble_eq_true rfl) dX0_walkToDoubtful_33 (fun r33 S33 h33 => ?_)
          obtain ⟨qS33, h33⟩ := h33
          replace qS33 := qS33.symm
          subst qS33
          refine vv_if_ne (pc := 36) (tgt := 47) dX0_walkToDoubtful_36 (by decide) (fun c36 => ?_) (fun c36 => ?_)
          -- t@36 path L7fft
          · refine vv_iload_n (pc := 47) 2 dX0_walkToDoubtful_47 rfl rfl ?_
            refine vv_aload (pc := 48) 0 dX0_walkToDoubtful_48 rfl ?_
            refine vg_X3_place (pc := 50) (by assumption) (by assumption) mw_F_X0_128 dX0_walkToDoubtful_50 ?_
            refine vv_min (pc := 53) mw_M_X0_140 mw_T_J9_min_7cf53 mw_C_J9_min_7cf53 (Nat.le_of_ble_eq_true rfl) (Nat.le_of_ble_eq_true rfl) dX0_walkToDoubtful_53 ?_
            refine vv_topi (fun x1p56 e1p56 => ?_)
            refine vv_istore_n (pc := 56) (i := 1) (ls' := [(1, .int x1p56), (4, _), (0, .ref (gad G (mm_B b))), (2, .int x2), (3, .int x3)]) dX0_walkToDoubtful_56 rfl (by decide) rfl ?_
            refine vv_iload_n (pc := 57) 3 dX0_walkToDoubtful_57 rfl rfl ?_
            refine vv_aload (pc := 58) 1 dX0_walkToDoubtful_58 rfl ?_
            refine vg_X3_place (pc := 60) (by assumption) (by assumption) mw_F_X0_128 dX0_walkToDoubtful_60 ?_
            refine vv_max (pc := 63) mw_M_X0_144 mw_T_J9_max_7cf53 mw_C_J9_max_7cf53 (Nat.le_of_ble_eq_true rfl) (Nat.le_of_ble_eq_true rfl) dX0_walkToDoubtful_63 ?_
            refine vv_topi (fun x2p66 e2p66 => ?_)
            refine vv_istore_n (pc := 66) (i := 2) (ls' := [(2, .int x2p66), (1, .int x1p56), (4, _), (0, .ref (gad G (mm_B b))), (3, .int x3)]) dX0_walkToDoubtful_66 rfl (by decide) rfl ?_
            obtain ⟨x3p67, e3p67⟩ : ∃ y : Int32, y = x3 + 1 := ⟨_, rfl⟩
            refine vv_iinc (pc := 67) (q := 4) (v := x3p67) (ls' := [(3, .int x3p67), (2, .int x2p66), (1, .int x1p56), (4, _), (0, .ref (gad G (mm_B b)))]) dX0_walkToDoubtful_67 rfl (by rw [e3p67]; rfl) (by decide) rfl ?_
            refine vv_goto (pc := 70) (tgt := 7) dX0_walkToDoubtful_70 (by decide) ?_
            have hd : sp_db z C q := hdb.mpr ⟨c28, Or.inl (fun h => c36 (h33.trans h))⟩
            have hwk : sp_wk z C (q + 1) = (if sp_f z q 0 < (sp_wk z C q).1 then sp_f z q 0 else (sp_wk z C q).1, if (sp_wk z C q).2 < sp_f z q 0 then sp_f z q 0 else (sp_wk z C q).2) := by rw [sp_wk, if_pos hd]
            refine vv_sub [4, 2, 1, 0] (ls' := [(0, _), (1, _), (2, _), (3, _)]) rfl ?_
            exact ih (q + 1) x1p56 x2p66 x3p67 (by omega) (by omega) (by rw [e3p67, e3]; exact nI_1 q) (by rw [hwk, e1p56, e1, (g9 q hqC).1]) (by rw [hwk, e2p66, e2, (g9 q hqC).1])
          -- f@36 path L7fff
          · refine vv_aload (pc := 39) 0 dX0_walkToDoubtful_39 rfl ?_
            refine vc_Vi (pc := 41) (c_X3_maybeSlack l G (by assumption) (by assumption) _) mw_M_X0_137 my_X3_maybeSlack (mm_rv_W (by assumption) (by assumption)) ⟨by decide, by decide⟩ rfl rfl (Nat.le_of_ble_eq_true rfl) dX0_walkToDoubtful_41 (fun r41 S41 h41 => ?_)
            obtain ⟨qS41, h41⟩ := h41
            replace qS41 := qS41.symm
            subst qS41
            refine vv_if_eq (pc := 44) (tgt := 67) dX0_walkToDoubtful_44 (by decide) (fun c44 => ?_) (fun c44 => ?_)
            -- t@44 path L7ffft
            · obtain ⟨x3p67, e3p67⟩ : ∃ y : Int32, y = x3 + 1 := ⟨_, rfl⟩
              refine vv_iinc (pc := 67) (q := 4) (v := x3p67) (ls' := [(3, .int x3p67), (4, _), (0, .ref (gad G (mm_B b))), (1, .int x1), (2, .int x2)]) dX0_walkToDoubtful_67 rfl (by rw [e3p67]; rfl) (by decide) rfl ?_
              refine vv_goto (pc := 70) (tgt := 7) dX0_walkToDoubtful_70 (by decide) ?_
              have hnd : ¬ sp_db z C q := fun h => (hdb.mp h).2.elim (fun g => g (h33.symm.trans c36)) (fun g => g (h41.symm.trans c44))
              have hwk : sp_wk z C (q + 1) = sp_wk z C q := by rw [sp_wk, if_neg hnd]
              refine vv_sub [2, 3, 4, 0] (ls' := [(0, _), (1, _), (2, _), (3, _)]) rfl ?_
              exact ih (q + 1) x1 x2 x3p67 (by omega) (by omega) (by rw [e3p67, e3]; exact nI_1 q) (by rw [hwk]; exact e1) (by rw [hwk]; exact e2)
            -- f@44 path L7ffff
            · refine vv_iload_n (pc := 47) 2 dX0_walkToDoubtful_47 rfl rfl ?_
              refine vv_aload (pc := 48) 0 dX0_walkToDoubtful_48 rfl ?_
              refine vg_X3_place (pc := 50) (by assumption) (by assumption) mw_F_X0_128 dX0_walkToDoubtful_50 ?_
              refine vv_min (pc := 53) mw_M_X0_140 mw_T_J9_min_7cf53 mw_C_J9_min_7cf53 (Nat.le_of_ble_eq_true rfl) (Nat.le_of_ble_eq_true rfl) dX0_walkToDoubtful_53 ?_
              refine vv_topi (fun x1p56 e1p56 => ?_)
              refine vv_istore_n (pc := 56) (i := 1) (ls' := [(1, .int x1p56), (4, _), (0, .ref (gad G (mm_B b))), (2, .int x2), (3, .int x3)]) dX0_walkToDoubtful_56 rfl (by decide) rfl ?_
              refine vv_iload_n (pc := 57) 3 dX0_walkToDoubtful_57 rfl rfl ?_
              refine vv_aload (pc := 58) 1 dX0_walkToDoubtful_58 rfl ?_
              refine vg_X3_place (pc := 60) (by assumption) (by assumption) mw_F_X0_128 dX0_walkToDoubtful_60 ?_
              refine vv_max (pc := 63) mw_M_X0_144 mw_T_J9_max_7cf53 mw_C_J9_max_7cf53 (Nat.le_of_ble_eq_true rfl) (Nat.le_of_ble_eq_true rfl) dX0_walkToDoubtful_63 ?_
              refine vv_topi (fun x2p66 e2p66 => ?_)
              refine vv_istore_n (pc := 66) (i := 2) (ls' := [(2, .int x2p66), (1, .int x1p56), (4, _), (0, .ref (gad G (mm_B b))), (3, .int x3)]) dX0_walkToDoubtful_66 rfl (by decide) rfl ?_
              obtain ⟨x3p67, e3p67⟩ : ∃ y : Int32, y = x3 + 1 := ⟨_, rfl⟩
              refine vv_iinc (pc := 67) (q := 4) (v := x3p67) (ls' := [(3, .int x3p67), (2, .int x2p66), (1, .int x1p56), (4, _), (0, .ref (gad G (mm_B b)))]) dX0_walkToDoubtful_67 rfl (by rw [e3p67]; rfl) (by decide) rfl ?_
              refine vv_goto (pc := 70) (tgt := 7) dX0_walkToDoubtful_70 (by decide) ?_
              have hd : sp_db z C q := hdb.mpr ⟨c28, Or.inr (fun h => c44 (h41.trans h))⟩
              have hwk : sp_wk z C (q + 1) = (if sp_f z q 0 < (sp_wk z C q).1 then sp_f z q 0 else (sp_wk z C q).1, if (sp_wk z C q).2 < sp_f z q 0 then sp_f z q 0 else (sp_wk z C q).2) := by rw [sp_wk, if_pos hd]
              refine vv_sub [4, 2, 1, 0] (ls' := [(0, _), (1, _), (2, _), (3, _)]) rfl ?_
              exact ih (q + 1) x1p56 x2p66 x3p67 (by omega) (by omega) (by rw [e3p67, e3]; exact nI_1 q) (by rw [hwk, e1p56, e1, (g9 q hqC).1]) (by rw [hwk, e2p66, e2, (g9 q hqC).1])
  refine vv_sub [3, 2, 1, 0] (ls' := [(0, _), (1, _), (2, _), (3, _)]) rfl ?_
  exact lp7 9 0 x1p2 x2p4 x3p6 (by omega) (by omega) e3p6 e1p2 e2p4
