set_option maxRecDepth 100000 in
set_option maxHeartbeats 4000000 in
theorem c_X0_letPass (l : Launch) (G : gG) {C b : Nat} {z : Nat → Int32} (hb : b < 11) (S : Mem) (hwf : sp_wf C z) (hr : rb C S b z) (ht : rt_ C S b z) (hcalm : sp_bu z C = 99) (hday : (z 2).toInt ≤ 1000000000) (x : Int32) : mm_C l G yX0_letPass cX0_letPass 5 (some .int) (mm_rm 3 72) [.ref (gad G (mm_B b)), .int x] S (mm_Qi G (fun r S2 => sp_res C b S S2 r (op_days C z x))) := by
  have hC := hwf.1.1
  refine mm_ofV (own := RX0) (by decide +kernel) rfl (Nat.le_of_ble_eq_true rfl) (ls0 := [(0, .ref (gad G (mm_B b))), (1, .int x)]) rfl ?_
  refine vv_iload_n (pc := 0) 1 dX0_letPass_0 rfl rfl ?_
  refine vv_iconst (pc := 1) (v := 1) dX0_letPass_1 (by decide) ?_
  refine vv_bipush (pc := 2) (v := 100) dX0_letPass_2 (by decide) ?_
  refine vc_Ni (pc := 4) (c_X4_within l G _ _ _ _) (host := RX4) (by decide +kernel) my_X4_within ⟨by decide, by decide⟩ rfl rfl (Nat.le_of_ble_eq_true rfl) dX0_letPass_4 (fun r4 S4 h4 => ?_)
  obtain ⟨qS4, h4⟩ := h4
  replace qS4 := qS4.symm
  subst qS4
  refine vv_if_ne (pc := 7) (tgt := 13) dX0_letPass_7 (by decide) (fun c7 => ?_) (fun c7 => ?_)
  -- t@7 path t
  · rw [h4, sp_in_iff, show (1 : Int32).toInt = 1 by decide, show (100 : Int32).toInt = 100 by decide] at c7
    have hx : x = nI x.toNatClampNeg := sp_nI (by omega)
    have hx2 := sp_cl (x := x) (by omega)
    have hx100 : x.toNatClampNeg ≤ 100 := by omega
    refine vv_iconst (pc := 13) (v := 0) dX0_letPass_13 (by decide) ?_
    refine vv_topi (fun x2p14 e2p14 => ?_)
    refine vv_istore_n (pc := 14) (i := 2) (ls' := [(2, .int x2p14), (0, .ref (gad G (mm_B b))), (1, .int x)]) dX0_letPass_14 rfl (by decide) rfl ?_
    refine vv_iconst (pc := 15) (v := 0) dX0_letPass_15 (by decide) ?_
    refine vv_topi (fun x3p16 e3p16 => ?_)
    refine vv_istore_n (pc := 16) (i := 3) (ls' := [(3, .int x3p16), (2, .int x2p14), (0, .ref (gad G (mm_B b))), (1, .int x)]) dX0_letPass_16 rfl (by decide) rfl ?_
    obtain ⟨F, eF⟩ : ∃ F, F = sp_dz C x.toNatClampNeg z := ⟨_, rfl⟩
    have lp17 : ∀ (n : Nat) (q kk : Nat) (x2 x3 : Int32) (S1 : Mem) (z1 : Nat → Int32), 102 ≤ n + q → q + kk = x.toNatClampNeg → x3 = nI q → x2 = 0 → sp_wf C z1 → sp_bu z1 C = 99 → (z1 2).toInt + (kk : Int) ≤ 1000000100 → rb C S1 b z1 → rt_ C S1 b z1 → fr_ b S S1 → sp_dz C kk z1 = F → mm_V l G RX0 cX0_letPass 5 (some .int) (mm_rm 3 72) 0 0 (fun _ => True) (fun _ => mm_F G) (mm_Qf G (mm_Qi G (fun r S2 => sp_res C b S S2 r (op_days C z x)))) S1 17 [(0, .ref (gad G (mm_B b))), (1, .int x), (2, .int x2), (3, .int x3)] [] := by
      intro n
      induction n with
      | zero =>
        intro q kk x2 x3 S1 z1 hn hq e3 e2 hwf1 hcalm1 hdd hr1 ht1 hfr hF
        exact absurd hn (by omega)
      | succ n ih =>
        intro q kk x2 x3 S1 z1 hn hq e3 e2 hwf1 hcalm1 hdd hr1 ht1 hfr hF
        refine vv_iload_n (pc := 17) 3 dX0_letPass_17 rfl rfl ?_
        refine vv_iload_n (pc := 18) 1 dX0_letPass_18 rfl rfl ?_
        refine vv_icmp_ge (pc := 19) (tgt := 80) dX0_letPass_19 (by decide) (fun c19 => ?_) (fun c19 => ?_)
        -- t@19 path tL17t
        · refine vv_iload_n (pc := 80) 2 dX0_letPass_80 rfl rfl ?_
          refine vr_i (pc := 81) dX0_letPass_81 ?_
          have hqd : q = x.toNatClampNeg := by
            rw [hx] at c19
            exact sp_geN (N := x.toNatClampNeg) (by omega) (by omega) e3 c19
          obtain rfl : kk = 0 := by omega
          have hz : z1 = F := hF
          unfold sp_res op_days
          rw [if_neg (by rw [sp_in_iff, show (1 : Int32).toInt = 1 by decide, show (100 : Int32).toInt = 100 by decide]; exact c7), ← eF, ← hz]
          exact ⟨e2, hr1, ht1, hfr⟩
        -- f@19 path tL17f
        · have hqd : q < x.toNatClampNeg := by
            rw [hx] at c19
            exact sp_ltN (N := x.toNatClampNeg) (by omega) (by omega) e3 c19
          obtain ⟨k1, rfl⟩ : ∃ k1, kk = k1 + 1 := ⟨kk - 1, by omega⟩
          unfold sp_dz at hF
          refine vv_iconst (pc := 22) (v := 0) dX0_letPass_22 (by decide) ?_
          refine vv_topi (fun x4p23 e4p23 => ?_)
          refine vv_istore (pc := 23) (i := 4) (ls' := [(4, .int x4p23), (0, .ref (gad G (mm_B b))), (1, .int x), (2, .int x2), (3, .int x3)]) dX0_letPass_23 (by decide) rfl ?_
          have lp25 : ∀ (n2 : Nat) (w : Nat) (x4 : Int32) (Sw : Mem), 9 ≤ n2 + w → w ≤ C → x4 = nI w → rb C Sw b (sp_lo w z1) → rt_ C Sw b z1 → fr_ b S1 Sw → mm_V l G RX0 cX0_letPass 5 (some .int) (mm_rm 3 72) 0 0 (fun _ => True) (fun _ => mm_F G) (mm_Qf G (mm_Qi G (fun r S2 => sp_res C b S S2 r (op_days C z x)))) Sw 25 [(0, .ref (gad G (mm_B b))), (1, .int x), (2, .int x2), (3, .int x3), (4, .int x4)] [] := by
            intro n2
            induction n2 with
            | zero =>
              intro w x4 Sw hn2 hwq e4 hrw hrt hfw
              exact absurd hn2 (by omega)
            | succ n2 ih2 =>
              intro w x4 Sw hn2 hwq e4 hrw hrt hfw
              refine vv_iload (pc := 25) 4 dX0_letPass_25 rfl ?_
              refine vv_aload_n (pc := 27) 0 dX0_letPass_27 rfl rfl ?_
              refine vg_X0_wireCount (pc := 28) (by assumption) mw_F_X0_38 dX0_letPass_28 ?_
              refine vv_icmp_ge (pc := 31) (tgt := 54) dX0_letPass_31 (by decide) (fun c31 => ?_) (fun c31 => ?_)
              -- t@31 path tL17fL25t
              · rw [hrw.1, sp_lo_low w z1 (by decide), hwf1.1.2.1] at c31
                have hwC := sp_geN (N := C) (by omega) hwq e4 c31
                subst hwC
                have hbl : sp_bu (sp_lo w z1) w = 99 := (sp_lo_bu hC).trans hcalm1
                have htw : rt_ w Sw b (sp_lo w z1) := fun k hk => by rw [sp_tk_congr hC (fun i hi => ⟨sp_lo_0 w z1 i (by decide) (by decide) (by decide) (by decide), by rw [sp_lo_0 w z1 i (by decide) (by decide) (by decide) (by decide)]⟩) (fun p hp => sp_lo_low w z1 (by omega))]; exact hrt k hk
                refine vv_iload_n (pc := 54) 2 dX0_letPass_54 rfl rfl ?_
                refine vv_aload_n (pc := 55) 0 dX0_letPass_55 rfl rfl ?_
                refine vc_Vi (pc := 56) (c_X0_settle l G (by assumption) _ (sp_lo_wf hwf1) hrw htw) mw_M_X0_76 my_X0_settle (mm_rv_B (by assumption)) ⟨by decide, by decide⟩ rfl rfl (Nat.le_of_ble_eq_true rfl) dX0_letPass_56 (fun r56 S56 h56 => ?_)
                rw [sp_sto_calm hbl, sp_stl_calm hbl] at h56
                rw [h56.1]
                refine vc_Si (pc := 59) (c_J6_bitCount_0f7a4 l G _ _) mw_M_X0_84 my_J6_bitCount_0f7a4 ⟨by decide, by decide⟩ rfl rfl (Nat.le_of_ble_eq_true rfl) dX0_letPass_59 (fun r59 S59 h59 => ?_)
                obtain ⟨qS59, h59⟩ := h59
                replace qS59 := qS59.symm
                subst qS59
                refine vv_iadd (pc := 62) dX0_letPass_62 ?_
                refine vv_topi (fun x2p63 e2p63 => ?_)
                refine vv_istore_n (pc := 63) (i := 2) (ls' := [(2, .int x2p63), (0, .ref (gad G (mm_B b))), (1, .int x), (3, .int x3), (4, .int x4)]) dX0_letPass_63 rfl (by decide) rfl ?_
                have e2n : x2p63 = 0 := by rw [e2p63, h59, e2]; decide
                refine vv_aload_n (pc := 64) 1 dX0_letPass_64 rfl rfl ?_
                refine vv_dup (pc := 65) dX0_letPass_65 rfl ?_
                refine vg_X0_day (pc := 66) (by assumption) mw_F_X0_45 dX0_letPass_66 ?_
                refine vv_iconst (pc := 69) (v := 1) dX0_letPass_69 (by decide) ?_
                refine vv_iadd (pc := 70) dX0_letPass_70 ?_
                refine vp_X0_day (pc := 71) (by assumption) mw_F_X0_45 dX0_letPass_71 ?_
                have hrd := rb_hd (x := S56 (mm_B b) 6 + 1) h56.2.1 hC 2 6 (by omega)
                have htd := rt_hd (b := b) (x := S56 (mm_B b) 6 + 1) h56.2.2.1 hC 2 6 (by omega)
                have ed : S56 (mm_B b) 6 = z1 2 := h56.2.1.2.2.2.1.trans (sp_lo_low _ z1 (by decide))
                rw [ed] at hrd htd ⊢
                have hd0 := hwf1.2.2.2.2.2.2.1
                obtain ⟨x3p74, e3p74⟩ : ∃ y : Int32, y = x3 + 1 := ⟨_, rfl⟩
                refine vv_iinc (pc := 74) (q := 3) (v := x3p74) (ls' := [(3, .int x3p74), (2, .int x2p63), (0, .ref (gad G (mm_B b))), (1, .int x), (4, .int x4)]) dX0_letPass_74 rfl (by rw [e3p74]; rfl) (by decide) rfl ?_
                refine vv_goto (pc := 77) (tgt := 17) dX0_letPass_77 (by decide) ?_
                refine vv_sub [2, 3, 1, 0] (ls' := [(0, _), (1, _), (2, _), (3, _)]) rfl ?_
                exact ih (q + 1) k1 x2p63 x3p74 _ (sp_day _ z1) (by omega) (by omega) (by rw [e3p74, e3]; exact nI_1 q) e2n (sp_day_wf hwf1 (by omega)) ((sp_day_bu hC).trans hcalm1) (by rw [sp_day_2 hd0 (by omega)]; omega) hrd htd (fr_trans hfr (fr_trans hfw (fr_trans h56.2.2.2 fr_B))) hF
              -- f@31 path tL17fL25f
              · rw [hrw.1, sp_lo_low w z1 (by decide), hwf1.1.2.1] at c31
                have hwC : w < C := sp_ltN (N := C) (by omega) hwq e4 c31
                have hx4 : x4.toNatClampNeg = w := by rw [e4, cl_n (by omega)]
                refine vv_aload_n (pc := 34) 0 dX0_letPass_34 rfl rfl ?_
                refine vg_X0_wires (pc := 35) (by assumption) mw_F_X0_20 dX0_letPass_35 ?_
                refine vv_iload (pc := 38) 4 dX0_letPass_38 rfl ?_
                refine vl_R (pc := 40) (by assumption) (by rw [e4]; exact vp_8 (by omega)) dX0_letPass_40 ?_
                rw [hx4]
                refine vv_aload_n (pc := 41) 0 dX0_letPass_41 rfl rfl ?_
                refine vg_X0_creep (pc := 42) (by assumption) mw_F_X0_25 dX0_letPass_42 ?_
                refine vc_Vv (pc := 45) (c_X3_loosen l G (by assumption) (by omega) _ _) mw_M_X0_80 my_X3_loosen (mm_rv_W (by assumption) (by omega)) ⟨by decide, by decide⟩ rfl rfl (Nat.le_of_ble_eq_true rfl) dX0_letPass_45 (fun S45 h45 => ?_)
                obtain ⟨x4p48, e4p48⟩ : ∃ y : Int32, y = x4 + 1 := ⟨_, rfl⟩
                refine vv_iinc (pc := 48) (q := 4) (v := x4p48) (ls' := [(4, .int x4p48), (0, .ref (gad G (mm_B b))), (1, .int x), (2, .int x2), (3, .int x3)]) dX0_letPass_48 rfl (by rw [e4p48]; rfl) (by decide) rfl ?_
                refine vv_goto (pc := 51) (tgt := 25) dX0_letPass_51 (by decide) ?_
                have hw8 : w < 8 := by omega
                have ec : Sw (mm_B b) 4 = z1 0 := hrw.2.1.trans (sp_lo_low w z1 (by decide))
                have hS45 : ∀ j, j ≠ mm_W b w → S45 j = Sw j := fun j hj => by rw [h45]; exact mm_wr3_o j hj
                have h5 : S45 (mm_W b w) 5 = Sw (mm_W b w) 5 := by rw [h45]; simp [mm_wr_eq]
                refine vv_sub [1, 2, 3, 4, 0] (ls' := [(0, _), (1, _), (2, _), (3, _), (4, _)]) rfl ?_
                exact ih2 (w + 1) x4p48 S45 (by omega) (by omega) (by rw [e4p48, e4]; exact nI_1 w) (by rw [h45]; exact rb_loose hrw hC hwC (hwf1.2.1 w hwC) ec) (rt_wire hrt hC hS45 h5 (fun _ _ => rfl) (fun _ _ => ⟨rfl, Iff.rfl⟩)) (fr_trans hfw (fr_W hw8 hS45))
          refine vv_sub [1, 2, 3, 4, 0] (ls' := [(0, _), (1, _), (2, _), (3, _), (4, _)]) rfl ?_
          exact lp25 9 0 x4p23 S1 (by omega) (by omega) e4p23 (by rw [sp_lo_z]; exact hr1) ht1 (fr_refl b S1)
    refine vv_sub [2, 3, 1, 0] (ls' := [(0, _), (1, _), (2, _), (3, _)]) rfl ?_
    exact lp17 102 0 x.toNatClampNeg x2p14 x3p16 S z (by omega) (by omega) e3p16 e2p14 hwf hcalm (by omega) hr ht (fr_refl b S) eF.symm
  -- f@7 path f
  · refine vv_bipush (pc := 10) (v := (-2)) dX0_letPass_10 (by decide) ?_
    refine vr_i (pc := 12) dX0_letPass_12 ?_
    unfold sp_res op_days
    rw [← h4, if_pos c7]
    exact ⟨rfl, hr, ht, fr_refl b S⟩
set_option maxRecDepth 100000 in
set_option maxHeartbeats 4000000 in
theorem c_X0_takeAsHeard (l : Launch) (G : gG) {C b b2 : Nat} {z : Nat → Int32} (hb : b < 11) (hb2 : b2 < 11) (hne : b ≠ b2) (S : Mem) (hwf : sp_wf C z) (hr : rb C S b2 z) : mm_C l G yX0_takeAsHeard cX0_takeAsHeard 3 (none) (mm_rm 2 62) [.ref (gad G (mm_B b)), .ref (gad G (mm_B b2))] S (mm_Qv G (fun S2 => rb C S2 b (sp_hd C z) ∧ rt_ C S2 b (sp_hd C z) ∧ fr_ b S S2)) := by
  have hw := hwf.1
  have hC := hw.1
  refine mm_ofV (own := RX0) (by decide +kernel) rfl (Nat.le_of_ble_eq_true rfl) (ls0 := [(0, .ref (gad G (mm_B b))), (1, .ref (gad G (mm_B b2)))]) rfl ?_
  refine vv_aload_n (pc := 0) 0 dX0_takeAsHeard_0 rfl rfl ?_
  refine vv_aload_n (pc := 1) 1 dX0_takeAsHeard_1 rfl rfl ?_
  refine vc_Vv (pc := 2) (c_X0_takeFrom l G (by assumption) (by assumption) hne _ hC hw.2.1 hr) mw_M_X0_54 my_X0_takeFrom (mm_rv_B (by assumption)) ⟨by decide, by decide⟩ rfl rfl (Nat.le_of_ble_eq_true rfl) dX0_takeAsHeard_2 (fun S2 h2 => ?_)
  refine vv_iconst (pc := 5) (v := 0) dX0_takeAsHeard_5 (by decide) ?_
  refine vv_topi (fun x2p6 e2p6 => ?_)
  refine vv_istore_n (pc := 6) (i := 2) (ls' := [(2, .int x2p6), (0, .ref (gad G (mm_B b))), (1, .ref (gad G (mm_B b2)))]) dX0_takeAsHeard_6 rfl (by decide) rfl ?_
  have lp7 : ∀ (n : Nat) (q : Nat) (x2 : Int32) (S1 : Mem), 9 ≤ n + q → q ≤ C → x2 = nI q → rb C S1 b (sp_hd q z) → fr_ b S S1 → mm_V l G RX0 cX0_takeAsHeard 3 (none) (mm_rm 2 62) 0 0 (fun _ => True) (fun _ => mm_F G) (mm_Qf G (mm_Qv G (fun S2 => rb C S2 b (sp_hd C z) ∧ rt_ C S2 b (sp_hd C z) ∧ fr_ b S S2))) S1 7 [(0, .ref (gad G (mm_B b))), (1, .ref (gad G (mm_B b2))), (2, .int x2)] [] := by
    intro n
    induction n with
    | zero =>
      intro q x2 S1 hn hq e2 hr1 hfr
      exact absurd hn (by omega)
    | succ n ih =>
      intro q x2 S1 hn hq e2 hr1 hfr
      refine vv_iload_n (pc := 7) 2 dX0_takeAsHeard_7 rfl rfl ?_
      refine vv_aload_n (pc := 8) 0 dX0_takeAsHeard_8 rfl rfl ?_
      refine vg_X0_wireCount (pc := 9) (by assumption) mw_F_X0_38 dX0_takeAsHeard_9 ?_
      refine vv_icmp_ge (pc := 12) (tgt := 39) dX0_takeAsHeard_12 (by decide) (fun c12 => ?_) (fun c12 => ?_)
      -- t@12 path L7t
      · rw [hr1.1, sp_hd_low q z (by decide), hw.2.1] at c12
        have hqC := sp_geN (N := C) (by omega) hq e2 c12
        subst hqC
        refine vv_aload_n (pc := 39) 0 dX0_takeAsHeard_39 rfl rfl ?_
        refine vc_Vv (pc := 40) (c_X0_reckon l G (by assumption) _ (sp_hd_ws hw) hr1) mw_M_X0_64 my_X0_reckon (mm_rv_B (by assumption)) ⟨by decide, by decide⟩ rfl rfl (Nat.le_of_ble_eq_true rfl) dX0_takeAsHeard_40 (fun S40 h40 => ?_)
        refine vr_v (pc := 43) dX0_takeAsHeard_43 ?_
        exact ⟨f5_rb hC h40.1 hr1, h40.2, fr_trans hfr (f5_fr hC h40.1)⟩
      -- f@12 path L7f
      · rw [hr1.1, sp_hd_low q z (by decide), hw.2.1] at c12
        have hqC : q < C := sp_ltN (N := C) (by omega) hq e2 c12
        have hx2 : x2.toNatClampNeg = q := by rw [e2, cl_n (by omega)]
        refine vv_okS (fun hok => ?_)
        refine vv_aload_n (pc := 15) 0 dX0_takeAsHeard_15 rfl rfl ?_
        refine vg_X0_wires (pc := 16) (by assumption) mw_F_X0_20 dX0_takeAsHeard_16 ?_
        refine vv_iload_n (pc := 19) 2 dX0_takeAsHeard_19 rfl rfl ?_
        refine vl_R (pc := 20) (by assumption) (by rw [e2]; exact vp_8 (by omega)) dX0_takeAsHeard_20 ?_
        rw [hx2]
        refine vv_aload_n (pc := 21) 0 dX0_takeAsHeard_21 rfl rfl ?_
        refine vg_X0_wires (pc := 22) (by assumption) mw_F_X0_20 dX0_takeAsHeard_22 ?_
        refine vv_iload_n (pc := 25) 2 dX0_takeAsHeard_25 rfl rfl ?_
        refine vl_R (pc := 26) (by assumption) (by rw [e2]; exact vp_8 (by omega)) dX0_takeAsHeard_26 ?_
        rw [hx2]
        refine vg_X3_heardBroken (pc := 27) (by assumption) (by omega) mw_F_X0_57 dX0_takeAsHeard_27 ?_
        refine vp_X3_broken (pc := 30) (by assumption) (by omega) (mm_bW11 hok b (by omega)) mw_F_X0_61 dX0_takeAsHeard_30 ?_
        obtain ⟨x2p33, e2p33⟩ : ∃ y : Int32, y = x2 + 1 := ⟨_, rfl⟩
        refine vv_iinc (pc := 33) (q := 2) (v := x2p33) (ls' := [(2, .int x2p33), (0, .ref (gad G (mm_B b))), (1, .ref (gad G (mm_B b2)))]) dX0_takeAsHeard_33 rfl (by rw [e2p33]; rfl) (by decide) rfl ?_
        refine vv_goto (pc := 36) (tgt := 7) dX0_takeAsHeard_36 (by decide) ?_
        refine vv_sub [1, 2, 0] (ls' := [(0, _), (1, _), (2, _)]) rfl ?_
        exact ih (q + 1) x2p33 _ (by omega) (by omega) (by rw [e2p33, e2]; exact nI_1 q) (rb_heard hr1 hC hqC) (fr_trans hfr (fr_W (k := q) (by omega) (fun j hj => mm_wr_orow S1 _ hj)))
  refine vv_sub [1, 2, 0] (ls' := [(0, _), (1, _), (2, _)]) rfl ?_
  exact lp7 9 0 x2p6 S2 (by omega) (by omega) e2p6 (by rw [sp_hd_z]; exact h2.1) h2.2.2
set_option maxRecDepth 100000 in
set_option maxHeartbeats 4000000 in
theorem c_X0_listen (l : Launch) (G : gG) {C b : Nat} {z : Nat → Int32} (hb : b < 11) (S : Mem) (hwf : sp_wf C z) (hr : rb C S b z) (ht : rt_ C S b z) : mm_C l G yX0_listen cX0_listen 2 (some .int) (mm_rm 3 71) [.ref (gad G (mm_B b))] S (mm_Qi G (fun r S2 => sp_res C b S S2 r (op_hear C z))) := by
  obtain ⟨g1, g2, g3, g4, g5, g6, g7, g8, g9⟩ := id hr
  have hw := hwf.1
  have hC := hw.1
  refine mm_ofV (own := RX0) (by decide +kernel) rfl (Nat.le_of_ble_eq_true rfl) (ls0 := [(0, .ref (gad G (mm_B b)))]) rfl ?_
  refine vv_aload_n (pc := 0) 0 dX0_listen_0 rfl rfl ?_
  refine vc_Vq (pc := 1) (c_X0_wireHere l G (by assumption) _ (by assumption) (by assumption) (by assumption)) mw_M_X0_99 my_X0_wireHere (mm_rv_B (by assumption)) ⟨by decide, by decide⟩ rfl rfl (Nat.le_of_ble_eq_true rfl) dX0_listen_1 (fun r1 S1 h1 => ?_)
  obtain ⟨qS1, h1⟩ := h1
  replace qS1 := qS1.symm
  subst qS1
  rcases sp_rf_cases G b (sp_hw z C) with ⟨gH, eH⟩ | ⟨gH, eH⟩ <;> rw [eH] at h1 <;> subst h1
  -- null@1 path n
  · refine vv_astore_nN (pc := 4) (i := 1) (ls' := [(1, .null), (0, .ref (gad G (mm_B b)))]) dX0_listen_4 rfl (by decide) rfl ?_
    refine vv_aload_nN (pc := 5) 0 dX0_listen_5 rfl rfl ?_
    refine vv_ifnonnullN (pc := 6) dX0_listen_6 ?_
    refine vv_bipush (pc := 9) (v := (-5)) dX0_listen_9 (by decide) ?_
    refine vv_goto (pc := 11) (tgt := 22) dX0_listen_11 (by decide) ?_
    refine vr_i (pc := 22) dX0_listen_22 ?_
    unfold sp_res op_hear
    rw [if_pos gH]
    exact ⟨rfl, hr, ht, fr_refl b S⟩
  -- ref@1 path r
  · obtain ⟨hk, -⟩ := sp_hw_lt hC gH
    have hk8 : sp_hw z C < 8 := by omega
    have hww := hwf.2.1 _ hk
    obtain ⟨a1, a2, a3, a4, a5, a6, a7, a8, a9, a10, a11⟩ := g9 _ hk
    have hrg : sp_rg (S (mm_W b (sp_hw z C)) 1) (S (mm_W b (sp_hw z C)) 2) (S (mm_W b (sp_hw z C)) 4) := by rw [a2, a3, a5]; exact ⟨hww.2.2.1, hww.2.2.2.1, hww.2.2.2.2.1, hww.2.2.2.2.2.1, hww.2.2.2.2.2.2.2.2.1, hww.2.2.2.2.2.2.2.2.2.1⟩
    refine vv_astore_n (pc := 4) (i := 1) (ls' := [(1, _), (0, .ref (gad G (mm_B b)))]) dX0_listen_4 rfl (by decide) rfl ?_
    refine vv_aload_n (pc := 5) 0 dX0_listen_5 rfl rfl ?_
    refine vv_ifnonnull (pc := 6) (tgt := 14) dX0_listen_6 (by decide) ?_
    refine vv_aload_n (pc := 14) 0 dX0_listen_14 rfl rfl ?_
    refine vv_aload_n (pc := 15) 1 dX0_listen_15 rfl rfl ?_
    refine vg_X0_day (pc := 16) (by assumption) mw_F_X0_45 dX0_listen_16 ?_
    refine vc_Vi (pc := 19) (c_X3_sing l G (by assumption) (by assumption) _ _ hrg) mw_M_X0_103 my_X3_sing (mm_rv_W (by assumption) (by assumption)) ⟨by decide, by decide⟩ rfl rfl (Nat.le_of_ble_eq_true rfl) dX0_listen_19 (fun r19 S19 h19 => ?_)
    refine vr_i (pc := 22) dX0_listen_22 ?_
    have hd := hwf.2.2.2.2.2.2.1
    unfold sp_res op_hear
    rw [if_neg gH]
    rw [a6] at h19
    by_cases e : sp_f z (sp_hw z C) 5 = 0
    · rw [if_pos e] at h19 ⊢
      obtain ⟨hp, h19⟩ := h19
      rw [a2, a3, a5] at hp
      rw [a2, a3, hp] at h19
      have hS : ∀ j, j ≠ mm_W b (sp_hw z C) → S19 j = S j := fun j hj => by rw [h19]; exact mm_wr3_o j hj
      refine ⟨hp, rb_know hr hC hk hS g4 hd (fun _ _ => rfl) (fun _ _ _ _ => rfl) rfl ?_, rt_know ht hC hS (by rw [h19]; simp [mm_wr_eq]) (fun _ _ => rfl) (fun _ _ => ⟨rfl, rfl⟩), fr_W hk8 hS⟩
      rw [h19]
      simp only [mm_wr_eq]
      simp [a1, a2, a3, a4, a5, a6, a7, a11]
    · rw [if_neg e] at h19 ⊢
      obtain ⟨hp, h19⟩ := h19
      have hS : ∀ j, j ≠ mm_W b (sp_hw z C) → S19 j = S j := fun j hj => by rw [h19, mm_wr_orow _ _ hj]; exact mm_wr3_o j hj
      refine ⟨hp, rb_know hr hC hk hS g4 hd (fun i hi => sp_up_lo _ _ _ _ hi) (fun i f hi hf => by rw [sp_up_f _ _ (by decide) hf, if_neg (by omega)]) (by rw [sp_up_f _ _ (by decide) (by decide), if_neg (by omega)]) ?_, rt_know ht hC hS (by rw [h19]; simp [mm_wr_eq]) (fun i hi => sp_up_lo _ _ _ _ hi) (fun i hi => ⟨by rw [sp_up_f _ _ (by decide) (by decide), if_neg (by omega)], by rw [sp_up_f _ _ (by decide) (by decide), if_neg (by omega)]⟩), fr_W hk8 hS⟩
      rw [h19]
      simp only [sp_up_f z _ (show 10 < 14 by decide) (show 0 < 14 by decide), sp_up_f z _ (show 10 < 14 by decide) (show 1 < 14 by decide), sp_up_f z _ (show 10 < 14 by decide) (show 2 < 14 by decide), sp_up_f z _ (show 10 < 14 by decide) (show 3 < 14 by decide), sp_up_f z _ (show 10 < 14 by decide) (show 4 < 14 by decide), sp_up_f z _ (show 10 < 14 by decide) (show 5 < 14 by decide), sp_up_f z _ (show 10 < 14 by decide) (show 6 < 14 by decide), sp_up_f z _ (show 10 < 14 by decide) (show 10 < 14 by decide), mm_wr_eq]
      simp [a1, a2, a3, a4, a5, a6, a7, a11]
