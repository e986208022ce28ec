set_option maxRecDepth 100000 in
set_option maxHeartbeats 4000000 in
theorem c_X0_worstBursting (l : Launch) (G : gG) {C b : Nat} {z : Nat → Int32} (hb : b < 11) (S : Mem) (hwf : sp_wf C z) (hr : rb C S b z) (ht : rt_ C S b z) : mm_C l G yX0_worstBursting cX0_worstBursting 5 (some .int) (mm_rm 0 0) [.ref (gad G (mm_B b))] S (mm_Qi G (fun r S2 => S2 = S ∧ r = sp_ixm (sp_bu z C))) := by
  obtain ⟨g1, g2, g3, g4, g5, g6, g7, g8, g9⟩ := id hr
  have hw := hwf.1
  have hC := hw.1
  refine mm_ofV (own := RX0) (by decide +kernel) rfl (Nat.le_of_ble_eq_true rfl) (ls0 := [(0, .ref (gad G (mm_B b)))]) rfl ?_
  refine vv_iconst (pc := 0) (v := (-1)) dX0_worstBursting_0 (by decide) ?_
  refine vv_topi (fun x1p1 e1p1 => ?_)
  refine vv_istore_n (pc := 1) (i := 1) (ls' := [(1, .int x1p1), (0, .ref (gad G (mm_B b)))]) dX0_worstBursting_1 rfl (by decide) rfl ?_
  refine vv_iconst (pc := 2) (v := 0) dX0_worstBursting_2 (by decide) ?_
  refine vv_topi (fun x2p3 e2p3 => ?_)
  refine vv_istore_n (pc := 3) (i := 2) (ls' := [(2, .int x2p3), (1, .int x1p1), (0, .ref (gad G (mm_B b)))]) dX0_worstBursting_3 rfl (by decide) rfl ?_
  refine vv_iconst (pc := 4) (v := 0) dX0_worstBursting_4 (by decide) ?_
  refine vv_topi (fun x3p5 e3p5 => ?_)
  refine vv_istore_n (pc := 5) (i := 3) (ls' := [(3, .int x3p5), (2, .int x2p3), (1, .int x1p1), (0, .ref (gad G (mm_B b)))]) dX0_worstBursting_5 rfl (by decide) rfl ?_
  have lp6 : ∀ (n : Nat) (q : Nat) (x1 x2 x3 : Int32), 9 ≤ n + q → q ≤ C → x3 = nI q → x1 = sp_ixm (sp_bs z C q).1 → x2 = (sp_bs z C q).2 → mm_V l G RX0 cX0_worstBursting 5 (some .int) (mm_rm 0 0) 0 0 (fun _ => True) (fun _ => mm_F G) (mm_Qf G (mm_Qi G (fun r S2 => S2 = S ∧ r = sp_ixm (sp_bu z C)))) S 6 [(0, .ref (gad G (mm_B b))), (1, .int x1), (2, .int x2), (3, .int x3)] [] := by
    intro n
    induction n with
    | zero =>
      intro q x1 x2 x3 hn hq e3 e1 e2
      exact absurd hn (by omega)
    | succ n ih =>
      intro q x1 x2 x3 hn hq e3 e1 e2
      refine vv_iload_n (pc := 6) 3 dX0_worstBursting_6 rfl rfl ?_
      refine vv_aload_n (pc := 7) 0 dX0_worstBursting_7 rfl rfl ?_
      refine vg_X0_wireCount (pc := 8) (by assumption) mw_F_X0_38 dX0_worstBursting_8 ?_
      refine vv_icmp_ge (pc := 11) (tgt := 52) dX0_worstBursting_11 (by decide) (fun c11 => ?_) (fun c11 => ?_)
      -- t@11 path L6t
      · refine vv_iload_n (pc := 52) 1 dX0_worstBursting_52 rfl rfl ?_
        refine vr_i (pc := 53) dX0_worstBursting_53 ?_
        rw [g1, hw.2.1] at c11
        have hqC := sp_geN (N := C) (by omega) hq e3 c11
        subst hqC
        exact ⟨rfl, e1⟩
      -- f@11 path L6f
      · rw [g1, hw.2.1] at c11
        have hqC : q < C := sp_ltN (N := C) (by omega) hq e3 c11
        have hx3 : x3.toNatClampNeg = q := by rw [e3, cl_n (by omega)]
        have hq8 : q < 8 := by omega
        refine vv_aload_n (pc := 14) 0 dX0_worstBursting_14 rfl rfl ?_
        refine vg_X0_wires (pc := 15) (by assumption) mw_F_X0_20 dX0_worstBursting_15 ?_
        refine vv_iload_n (pc := 18) 3 dX0_worstBursting_18 rfl rfl ?_
        refine vl_R (pc := 19) (by assumption) (by rw [e3]; exact vp_8 (by omega)) dX0_worstBursting_19 ?_
        rw [hx3]
        refine vg_X3_task (pc := 20) (by assumption) (by assumption) mw_F_X0_122 dX0_worstBursting_20 ?_
        refine vv_aload_n (pc := 23) 0 dX0_worstBursting_23 rfl rfl ?_
        refine vg_X0_wires (pc := 24) (by assumption) mw_F_X0_20 dX0_worstBursting_24 ?_
        refine vv_iload_n (pc := 27) 3 dX0_worstBursting_27 rfl rfl ?_
        refine vl_R (pc := 28) (by assumption) (by rw [e3]; exact vp_8 (by omega)) dX0_worstBursting_28 ?_
        rw [hx3]
        refine vg_X3_strength (pc := 29) (by assumption) (by assumption) mw_F_X0_106 dX0_worstBursting_29 ?_
        refine vv_isub (pc := 32) dX0_worstBursting_32 ?_
        refine vv_topi (fun x4p33 e4p33 => ?_)
        refine vv_istore (pc := 33) (i := 4) (ls' := [(4, .int x4p33), (0, .ref (gad G (mm_B b))), (1, .int x1), (2, .int x2), (3, .int x3)]) dX0_worstBursting_33 (by decide) rfl ?_
        have hst := sp_bs_stp (C := C) (q := q) (x4 := x4p33) e2 (fun h => by rw [e4p33, ht q hqC, (g9 q hqC).2.2.2.1]; unfold sp_ov; rw [if_pos h]) (fun h => by rw [e4p33, ht q hqC, sp_tk_off hC h, (g9 q hqC).2.2.2.1]; exact sp_neg (hwf.2.1 q hqC).2.2.2.2.2.2.1)
        refine vv_iload (pc := 35) 0 dX0_worstBursting_35 rfl ?_
        refine vv_iload_n (pc := 37) 3 dX0_worstBursting_37 rfl rfl ?_
        refine vv_icmp_le (pc := 38) (tgt := 46) dX0_worstBursting_38 (by decide) (fun c38 => ?_) (fun c38 => ?_)
        -- t@38 path L6ft
        · obtain ⟨x3p46, e3p46⟩ : ∃ y : Int32, y = x3 + 1 := ⟨_, rfl⟩
          refine vv_iinc (pc := 46) (q := 4) (v := x3p46) (ls' := [(3, .int x3p46), (4, .int x4p33), (0, .ref (gad G (mm_B b))), (1, .int x1), (2, .int x2)]) dX0_worstBursting_46 rfl (by rw [e3p46]; rfl) (by decide) rfl ?_
          refine vv_goto (pc := 49) (tgt := 6) dX0_worstBursting_49 (by decide) ?_
          refine vv_sub [2, 3, 4, 0] (ls' := [(0, _), (1, _), (2, _), (3, _)]) rfl ?_
          exact ih (q + 1) x1 x2 x3p46 (by omega) (by omega) (by rw [e3p46, e3]; exact nI_1 q) (by rw [hst.1 c38]; exact e1) (by rw [hst.1 c38]; exact e2)
        -- f@38 path L6ff
        · refine vv_iload_n (pc := 41) 4 dX0_worstBursting_41 rfl rfl ?_
          refine vv_topi (fun x1p42 e1p42 => ?_)
          refine vv_istore_n (pc := 42) (i := 1) (ls' := [(1, .int x1p42), (4, .int x4p33), (0, .ref (gad G (mm_B b))), (2, .int x2), (3, .int x3)]) dX0_worstBursting_42 rfl (by decide) rfl ?_
          refine vv_iload (pc := 43) 1 dX0_worstBursting_43 rfl ?_
          refine vv_topi (fun x2p45 e2p45 => ?_)
          refine vv_istore_n (pc := 45) (i := 2) (ls' := [(2, .int x2p45), (1, .int x1p42), (4, .int x4p33), (0, .ref (gad G (mm_B b))), (3, .int x3)]) dX0_worstBursting_45 rfl (by decide) rfl ?_
          obtain ⟨x3p46, e3p46⟩ : ∃ y : Int32, y = x3 + 1 := ⟨_, rfl⟩
          refine vv_iinc (pc := 46) (q := 4) (v := x3p46) (ls' := [(3, .int x3p46), (2, .int x2p45), (1, .int x1p42), (4, .int x4p33), (0, .ref (gad G (mm_B b)))]) dX0_worstBursting_46 rfl (by rw [e3p46]; rfl) (by decide) rfl ?_
          refine vv_goto (pc := 49) (tgt := 6) dX0_worstBursting_49 (by decide) ?_
          refine vv_sub [4, 2, 1, 0] (ls' := [(0, _), (1, _), (2, _), (3, _)]) rfl ?_
          exact ih (q + 1) x1p42 x2p45 x3p46 (by omega) (by omega) (by rw [e3p46, e3]; exact nI_1 q) (by rw [hst.2 c38, e1p42, e3]; unfold sp_ixm; rw [if_neg (by omega)]) (by rw [hst.2 c38, e2p45])
  refine vv_sub [3, 2, 1, 0] (ls' := [(0, _), (1, _), (2, _), (3, _)]) rfl ?_
  exact lp6 9 0 x1p1 x2p3 x3p5 (by omega) (by omega) e3p5 e1p1 e2p3
set_option maxRecDepth 100000 in
set_option maxHeartbeats 4000000 in
theorem c_X0_settle (l : Launch) (G : gG) {C b : Nat} {z : Nat → Int32} (hb : b < 11) (S : Mem) (hwf : sp_wf C z) (hr : rb C S b z) (ht : rt_ C S b z) : mm_C l G yX0_settle cX0_settle 4 (some .int) (mm_rm 2 49) [.ref (gad G (mm_B b))] S (mm_Qi G (fun r S2 => r = sp_sto C 8 z 0 ∧ rb C S2 b (sp_stl C 8 z) ∧ rt_ C S2 b (sp_stl C 8 z) ∧ fr_ b S S2)) := by
  have hC := hwf.1.1
  refine mm_ofV (own := RX0) (by decide +kernel) rfl (Nat.le_of_ble_eq_true rfl) (ls0 := [(0, .ref (gad G (mm_B b)))]) rfl ?_
  refine vv_iconst (pc := 0) (v := 0) dX0_settle_0 (by decide) ?_
  refine vv_topi (fun x1p1 e1p1 => ?_)
  refine vv_istore_n (pc := 1) (i := 1) (ls' := [(1, .int x1p1), (0, .ref (gad G (mm_B b)))]) dX0_settle_1 rfl (by decide) rfl ?_
  refine vv_iconst (pc := 2) (v := 0) dX0_settle_2 (by decide) ?_
  refine vv_topi (fun x2p3 e2p3 => ?_)
  refine vv_istore_n (pc := 3) (i := 2) (ls' := [(2, .int x2p3), (1, .int x1p1), (0, .ref (gad G (mm_B b)))]) dX0_settle_3 rfl (by decide) rfl ?_
  obtain ⟨F, eF⟩ : ∃ F, F = sp_stl C 8 z := ⟨_, rfl⟩
  obtain ⟨M0, eM⟩ : ∃ F, F = sp_sto C 8 z 0 := ⟨_, rfl⟩
  have lp4 : ∀ (n : Nat) (q kk : Nat) (x1 x2 : Int32) (S1 : Mem) (z1 : Nat → Int32), 9 ≤ n + q → q + kk = 8 → x2 = nI q → sp_wf C z1 → rb C S1 b z1 → rt_ C S1 b z1 → fr_ b S S1 → sp_stl C kk z1 = F → sp_sto C kk z1 x1 = M0 → mm_V l G RX0 cX0_settle 4 (some .int) (mm_rm 2 49) 0 0 (fun _ => True) (fun _ => mm_F G) (mm_Qf G (mm_Qi G (fun r S2 => r = sp_sto C 8 z 0 ∧ rb C S2 b (sp_stl C 8 z) ∧ rt_ C S2 b (sp_stl C 8 z) ∧ fr_ b S S2))) S1 4 [(0, .ref (gad G (mm_B b))), (1, .int x1), (2, .int x2)] [] := by
    intro n
    induction n with
    | zero =>
      intro q kk x1 x2 S1 z1 hn hq e2 hwf1 hr1 ht1 hfr hsl hso
      exact absurd hn (by omega)
    | succ n ih =>
      intro q kk x1 x2 S1 z1 hn hq e2 hwf1 hr1 ht1 hfr hsl hso
      obtain ⟨g1, g2, g3, g4, g5, g6, g7, g8, g9⟩ := id hr1
      refine vv_iload_n (pc := 4) 2 dX0_settle_4 rfl rfl ?_
      refine vv_bipush (pc := 5) (v := 8) dX0_settle_5 (by decide) ?_
      refine vv_icmp_ge (pc := 7) (tgt := 51) dX0_settle_7 (by decide) (fun c7 => ?_) (fun c7 => ?_)
      -- t@7 path L4t
      · refine vv_iload_n (pc := 51) 1 dX0_settle_51 rfl rfl ?_
        refine vr_i (pc := 52) dX0_settle_52 ?_
        have hq8 := sp_geN (N := 8) (by decide) (by omega) e2 c7
        obtain rfl : kk = 0 := by omega
        unfold sp_stl at hsl
        unfold sp_sto at hso
        rw [← eF, ← eM, ← hsl]
        exact ⟨hso, hr1, ht1, hfr⟩
      -- f@7 path L4f
      · have hq8 : q < 8 := sp_ltN (N := 8) (by decide) (by omega) e2 c7
        refine vv_aload_n (pc := 10) 0 dX0_settle_10 rfl rfl ?_
        refine vc_Vi (pc := 11) (c_X0_worstBursting l G (by assumption) _ hwf1 hr1 ht1) mw_M_X0_116 my_X0_worstBursting (mm_rv_B (by assumption)) ⟨by decide, by decide⟩ rfl rfl (Nat.le_of_ble_eq_true rfl) dX0_settle_11 (fun r11 S11 h11 => ?_)
        obtain ⟨qS11, h11⟩ := h11
        replace qS11 := qS11.symm
        subst qS11
        refine vv_topi (fun x3p14 e3p14 => ?_)
        refine vv_istore_n (pc := 14) (i := 3) (ls' := [(3, .int x3p14), (0, .ref (gad G (mm_B b))), (1, .int x1), (2, .int x2)]) dX0_settle_14 rfl (by decide) rfl ?_
        rw [h11] at e3p14
        obtain ⟨k1, rfl⟩ : ∃ k1, kk = k1 + 1 := ⟨kk - 1, by omega⟩
        unfold sp_stl at hsl
        unfold sp_sto at hso
        refine vv_iload_n (pc := 15) 0 dX0_settle_15 rfl rfl ?_
        refine vv_iconst (pc := 16) (v := (-1)) dX0_settle_16 (by decide) ?_
        refine vv_icmp_ne (pc := 17) (tgt := 22) dX0_settle_17 (by decide) (fun c17 => ?_) (fun c17 => ?_)
        -- t@17 path L4ft
        · have hne : sp_bu z1 C ≠ 99 := fun h => c17 (by rw [e3p14, h]; rfl)
          have hbu := sp_bu_lt hne
          rw [if_neg hne] at hsl hso
          have hb8 : sp_bu z1 C < 8 := by omega
          have e3n : x3p14 = nI (sp_bu z1 C) := by rw [e3p14]; unfold sp_ixm; rw [if_neg hne]
          rw [← e3n] at hso
          have hx3 : x3p14.toNatClampNeg = sp_bu z1 C := by rw [e3n, cl_n (by omega)]
          refine vv_aload_n (pc := 22) 1 dX0_settle_22 rfl rfl ?_
          refine vg_X0_wires (pc := 23) (by assumption) mw_F_X0_20 dX0_settle_23 ?_
          refine vv_iload_n (pc := 26) 0 dX0_settle_26 rfl rfl ?_
          refine vl_R (pc := 27) (by assumption) (by rw [e3n]; exact vp_8 hb8) dX0_settle_27 ?_
          rw [hx3]
          refine vv_aload_n (pc := 28) 1 dX0_settle_28 rfl rfl ?_
          refine vg_X0_day (pc := 29) (by assumption) mw_F_X0_45 dX0_settle_29 ?_
          refine vc_Vv (pc := 32) (c_X3_snap l G (by assumption) (by assumption) _ _) mw_M_X0_119 my_X3_snap (mm_rv_W (by assumption) (by assumption)) ⟨by decide, by decide⟩ rfl rfl (Nat.le_of_ble_eq_true rfl) dX0_settle_32 (fun S32 h32 => ?_)
          have hr3 : rb C S32 b (sp_brk z1 (sp_bu z1 C)) := by rw [h32]; exact rb_snap hr1 hC hbu.1 g4
          have hfr3 : fr_ b S1 S32 := by rw [h32]; exact fr_snap hb8
          refine vv_iload_n (pc := 35) 2 dX0_settle_35 rfl rfl ?_
          refine vv_iconst (pc := 36) (v := 1) dX0_settle_36 (by decide) ?_
          refine vv_iload_n (pc := 37) 0 dX0_settle_37 rfl rfl ?_
          refine vv_ishl (pc := 38) dX0_settle_38 ?_
          refine vv_ior (pc := 39) dX0_settle_39 ?_
          refine vv_topi (fun x1p40 e1p40 => ?_)
          refine vv_istore_n (pc := 40) (i := 1) (ls' := [(1, .int x1p40), (3, .int x3p14), (0, .ref (gad G (mm_B b))), (2, .int x2)]) dX0_settle_40 rfl (by decide) rfl ?_
          rw [← e1p40] at hso
          refine vv_aload_n (pc := 41) 2 dX0_settle_41 rfl rfl ?_
          refine vc_Vv (pc := 42) (c_X0_reckon l G (by assumption) _ (sp_brk_ws hwf1.1 _) hr3) mw_M_X0_64 my_X0_reckon (mm_rv_B (by assumption)) ⟨by decide, by decide⟩ rfl rfl (Nat.le_of_ble_eq_true rfl) dX0_settle_42 (fun S42 h42 => ?_)
          obtain ⟨x2p45, e2p45⟩ : ∃ y : Int32, y = x2 + 1 := ⟨_, rfl⟩
          refine vv_iinc (pc := 45) (q := 3) (v := x2p45) (ls' := [(2, .int x2p45), (1, .int x1p40), (3, .int x3p14), (0, .ref (gad G (mm_B b)))]) dX0_settle_45 rfl (by rw [e2p45]; rfl) (by decide) rfl ?_
          refine vv_goto (pc := 48) (tgt := 4) dX0_settle_48 (by decide) ?_
          refine vv_sub [3, 1, 0] (ls' := [(0, _), (1, _), (2, _)]) rfl ?_
          exact ih (q + 1) k1 x1p40 x2p45 S42 (sp_brk z1 (sp_bu z1 C)) (by omega) (by omega) (by rw [e2p45, e2]; exact nI_1 q) (sp_brk_wf hwf1 hbu.1) (f5_rb hC h42.1 hr3) h42.2 (fr_trans hfr (fr_trans hfr3 (f5_fr hC h42.1))) hsl hso
        -- f@17 path L4ff
        · refine vv_iload_n (pc := 20) 2 dX0_settle_20 rfl rfl ?_
          refine vr_i (pc := 21) dX0_settle_21 ?_
          have h99 : sp_bu z1 C = 99 := by
            rcases Nat.decEq (sp_bu z1 C) 99 with h | h
            · exfalso
              rw [e3p14] at c17
              unfold sp_ixm at c17
              rw [if_neg h] at c17
              have := (sp_bu_lt h).1
              have h2 := congrArg Int32.toInt c17
              rw [nI_toInt (by omega)] at h2
              have h3 : (-1 : Int32).toInt = -1 := (by decide)
              omega
            · exact h
          rw [if_pos h99] at hsl hso
          rw [← eF, ← eM, ← hsl]
          exact ⟨hso, hr1, ht1, hfr⟩
  refine vv_sub [2, 1, 0] (ls' := [(0, _), (1, _), (2, _)]) rfl ?_
  exact lp4 9 0 8 x1p1 x2p3 S z (by omega) (by omega) e2p3 hwf hr ht (fr_refl b S) eF.symm (by rw [e1p1]; exact eM.symm)
