theorem wat_wa (z : Nat → Int32) (p : Nat) : ∀ c, c ≤ 8 → wat z p c = if sp_wa z p c = -1 then -6 else sp_wa z p c
  | 0, _ => rfl
  | c + 1, h => by
    unfold wat sp_wa
    split
    · rw [if_neg]
      intro e
      have h0 : ¬ nI c < 0 := nI_pos (by omega)
      rw [e] at h0
      exact h0 (by decide)
    · exact wat_wa z p c (by omega)
theorem wat_hw {z : Nat → Int32} {C : Nat} (h : sp_ws C z) : wat z (z 4).toNatClampNeg C = enc (sp_hw z C) := by
  have hC := h.1
  rw [wat_wa z _ C hC]
  by_cases e : sp_hw z C = 99
  · rcases sp_wa_spec (n := z) (z 4).toNatClampNeg C (Nat.le_refl _) with ⟨h1, -⟩ | ⟨k, h1, h2, h3⟩
    · rw [h1, if_pos rfl, e]
      rfl
    · exfalso
      unfold sp_hw at e
      rw [h2] at e
      have := sp_wi_in (C := C) (x := nI k) hC (nI_pos (by omega)) (nI_ge h1 (by omega))
      omega
  · have hl := sp_hw_lt hC e
    rw [hl.2, if_neg, enc_n e]
    intro g
    have h0 : ¬ nI (sp_hw z C) < 0 := nI_pos (by omega)
    rw [g] at h0
    exact h0 (by decide)
set_option maxRecDepth 100000 in
set_option maxHeartbeats 4000000 in
theorem c_X5_tighten (l : Launch) (G : gG) {q : St} {kk : Nat} {hs : Nat → St} (S : Mem) (hg : gd q) (hz : q.2 = S 8) (hh : mh S kk hs) (x1 : Int32) : mm_C l G yX5_tighten cX5_tighten 4 (some .int) (mm_rm 2 46) [.ref (gad G 7), .int x1] S (mm_Qi G (fun r S2 => md S S2 q kk hs r (os_tight q x1))) := by
  obtain ⟨hwf, hcalm⟩ := id hg
  rw [hz] at hwf hcalm
  have hz4 := hwf.2.2.2.1
  have hp40 := sp_cl (x := S 8 4) (by omega)
  have hp4 : S 8 4 = nI (S 8 4).toNatClampNeg := sp_nI (by omega)
  have hp41 : (S 8 4).toNatClampNeg < 1000 := by omega
  have hwat := wat_hw hwf.1
  obtain ⟨H, hH⟩ : ∃ H, H = sp_hw (S 8) q.1 := ⟨_, rfl⟩
  rw [← hH] at hwat
  refine mm_ofV (own := RX5) (by decide +kernel) rfl (Nat.le_of_ble_eq_true rfl) (ls0 := [(0, .ref (gad G 7)), (1, .int x1)]) rfl ?_
  refine vv_iload_n (pc := 0) 1 dX5_tighten_0 rfl rfl ?_
  refine vv_iconst (pc := 1) (v := 0) dX5_tighten_1 (by decide) ?_
  refine vv_ldc (pc := 2) mw_K_X5_87 dX5_tighten_2 ?_
  refine vc_Si (pc := 4) (c_X5_in l G _ _ _ _) mw_M_X5_43 my_X5_in ⟨by decide, by decide⟩ rfl rfl (Nat.le_of_ble_eq_true rfl) dX5_tighten_4 (fun r4 S4 h4 => ?_)
  obtain ⟨qS4, h4⟩ := h4
  replace qS4 := qS4.symm
  subst qS4
  refine vv_if_ne (pc := 7) (tgt := 13) dX5_tighten_7 (by decide) (fun c7 => ?_) (fun c7 => ?_)
  -- t@7 path t
  · rw [h4] at c7
    refine vv_aload_n (pc := 13) 0 dX5_tighten_13 rfl rfl ?_
    refine vv_aload_n (pc := 14) 0 dX5_tighten_14 rfl rfl ?_
    refine vg_X5_now (pc := 15) mw_F_X5_7 dX5_tighten_15 ?_
    refine vv_iconst (pc := 18) (v := 4) dX5_tighten_18 (by decide) ?_
    refine vl_8 (pc := 19) (vp_in_nI (n := 4) (by decide) (by decide)) dX5_tighten_19 ?_
    refine vc_Vi (pc := 20) (c_X5_wireAt l G _ (C := q.1) (p := (S 8 4).toNatClampNeg) hwf.1 hp4 hp41) mw_M_X5_88 my_X5_wireAt mm_rv_X5 ⟨by decide, by decide⟩ rfl rfl (Nat.le_of_ble_eq_true rfl) dX5_tighten_20 (fun r20 S20 h20 => ?_)
    obtain ⟨qS20, h20⟩ := h20
    replace qS20 := qS20.symm
    subst qS20
    refine vv_topi (fun x2p23 e2p23 => ?_)
    refine vv_istore_n (pc := 23) (i := 2) (ls' := [(2, .int x2p23), (0, .ref (gad G 7)), (1, .int x1)]) dX5_tighten_23 rfl (by decide) rfl ?_
    rw [h20, hwat] at e2p23
    refine vv_iload_n (pc := 24) 0 dX5_tighten_24 rfl rfl ?_
    refine vv_if_lt (pc := 25) (tgt := 46) dX5_tighten_25 (by decide) (fun c25 => ?_) (fun c25 => ?_)
    -- t@25 path tt
    · refine vv_bipush (pc := 46) (v := (-5)) dX5_tighten_46 (by decide) ?_
      refine vr_i (pc := 48) dX5_tighten_48 ?_
      have hH9 : H = 99 := by
        rcases Classical.em (H = 99) with h | h
        · exact h
        · have hHl := sp_hw_lt (z := S 8) hwf.1.1 (by rw [← hH]; exact h)
          have hC8 := hwf.1.1
          rw [← hH] at hHl
          rw [e2p23, enc_n h] at c25
          exact absurd c25 (nI_pos (by omega))
      have ho : os_tight q x1 = (-5, q) := by rw [os_tight, op_tight, if_neg c7, hz, ← hH, if_pos hH9, ← hz]
      rw [ho]
      exact md_no hh rfl hz (show sp_err (-5) ≠ 0 by decide)
    -- f@25 path tf
    · have hH9 : H ≠ 99 := fun h => c25 (by rw [e2p23, h]; decide)
      have hHl := sp_hw_lt (z := S 8) hwf.1.1 (by rw [← hH]; exact hH9)
      rw [← hH] at hHl
      have hC8 := hwf.1.1
      have hH8 : H < 8 := by omega
      have hx2 : x2p23 = nI H := by rw [e2p23, enc_n hH9]
      refine vv_aload_n (pc := 28) 1 dX5_tighten_28 rfl rfl ?_
      refine vv_iload_n (pc := 29) 0 dX5_tighten_29 rfl rfl ?_
      refine vc_Vi (pc := 30) (c_X5_isWhole l G _ hx2 hH8) mw_M_X5_69 my_X5_isWhole mm_rv_X5 ⟨by decide, by decide⟩ rfl rfl (Nat.le_of_ble_eq_true rfl) dX5_tighten_30 (fun r30 S30 h30 => ?_)
      obtain ⟨qS30, h30⟩ := h30
      replace qS30 := qS30.symm
      subst qS30
      refine vv_if_eq (pc := 33) (tgt := 46) dX5_tighten_33 (by decide) (fun c33 => ?_) (fun c33 => ?_)
      -- t@33 path tft
      · refine vv_bipush (pc := 46) (v := (-5)) dX5_tighten_46 (by decide) ?_
        refine vr_i (pc := 48) dX5_tighten_48 ?_
        rw [h30, i01] at c33
        have ho : os_tight q x1 = (-5, q) := by rw [os_tight, op_tight, if_neg c7, hz, ← hH, if_neg hH9, if_neg (fun h => c33 h.1), ← hz]
        rw [ho]
        exact md_no hh rfl hz (show sp_err (-5) ≠ 0 by decide)
      -- f@33 path tff
      · rw [h30, i01] at c33
        have hw0 := Classical.not_not.mp c33
        refine vv_iload_n (pc := 36) 2 dX5_tighten_36 rfl rfl ?_
        refine vv_aload_n (pc := 37) 1 dX5_tighten_37 rfl rfl ?_
        refine vv_iload_n (pc := 38) 0 dX5_tighten_38 rfl rfl ?_
        refine vv_iconst (pc := 39) (v := 3) dX5_tighten_39 (by decide) ?_
        refine vc_Vi (pc := 40) (c_X5_of l G _ hx2 rfl hH8 (by decide)) mw_M_X5_47 my_X5_of mm_rv_X5 ⟨by decide, by decide⟩ rfl rfl (Nat.le_of_ble_eq_true rfl) dX5_tighten_40 (fun r40 S40 h40 => ?_)
        obtain ⟨qS40, h40⟩ := h40
        replace qS40 := qS40.symm
        subst qS40
        refine vv_icmp_le (pc := 43) (tgt := 49) dX5_tighten_43 (by decide) (fun c43 => ?_) (fun c43 => ?_)
        -- t@43 path tfft
        · rw [h40] at c43
          refine vv_aload_n (pc := 49) 1 dX5_tighten_49 rfl rfl ?_
          refine vc_Vv (pc := 50) (c_X5_record l G _ hz hh) mw_M_X5_84 my_X5_record mm_rv_X5 ⟨by decide, by decide⟩ rfl rfl (Nat.le_of_ble_eq_true rfl) dX5_tighten_50 (fun S50 h50 => ?_)
          have h8 := rec_o h50 8 (by decide) (by decide)
          refine vv_aload_n (pc := 53) 1 dX5_tighten_53 rfl rfl ?_
          refine vv_iload_n (pc := 54) 0 dX5_tighten_54 rfl rfl ?_
          refine vv_iconst (pc := 55) (v := 4) dX5_tighten_55 (by decide) ?_
          refine vc_Vi (pc := 56) (c_X5_of l G _ hx2 rfl hH8 (by decide)) mw_M_X5_47 my_X5_of mm_rv_X5 ⟨by decide, by decide⟩ rfl rfl (Nat.le_of_ble_eq_true rfl) dX5_tighten_56 (fun r56 S56 h56 => ?_)
          obtain ⟨qS56, h56⟩ := h56
          replace qS56 := qS56.symm
          subst qS56
          refine vv_topi (fun x3p59 e3p59 => ?_)
          refine vv_istore_n (pc := 59) (i := 3) (ls' := [(3, .int x3p59), (2, .int x2p23), (0, .ref (gad G 7)), (1, .int x1)]) dX5_tighten_59 rfl (by decide) rfl ?_
          refine vv_aload_n (pc := 60) 2 dX5_tighten_60 rfl rfl ?_
          refine vv_iload_n (pc := 61) 1 dX5_tighten_61 rfl rfl ?_
          refine vv_iconst (pc := 62) (v := 4) dX5_tighten_62 (by decide) ?_
          refine vv_iload_n (pc := 63) 3 dX5_tighten_63 rfl rfl ?_
          refine vc_Vv (pc := 64) (c_X5_book l G _ hx2 rfl hH8 (by decide) _) mw_M_X5_73 my_X5_book mm_rv_X5 ⟨by decide, by decide⟩ rfl rfl (Nat.le_of_ble_eq_true rfl) dX5_tighten_64 (fun S64 h64 => ?_)
          refine vv_aload_n (pc := 67) 2 dX5_tighten_67 rfl rfl ?_
          refine vv_iload_n (pc := 68) 1 dX5_tighten_68 rfl rfl ?_
          refine vv_iload_n (pc := 69) 3 dX5_tighten_69 rfl rfl ?_
          refine vv_iload_n (pc := 70) 3 dX5_tighten_70 rfl rfl ?_
          refine vc_Vv (pc := 71) (c_X5_know l G _ hx2 hH8 _ _) mw_M_X5_100 my_X5_know mm_rv_X5 ⟨by decide, by decide⟩ rfl rfl (Nat.le_of_ble_eq_true rfl) dX5_tighten_71 (fun S71 h71 => ?_)
          refine vv_iload_n (pc := 74) 0 dX5_tighten_74 rfl rfl ?_
          refine vr_i (pc := 75) dX5_tighten_75 ?_
          have ho : os_tight q x1 = (sp_f (S 8) H 4, (q.1, sp_kn (sp_up (S 8) H 4 x1) H x1 x1)) := by rw [os_tight, op_tight, if_neg c7, hz, ← hH, if_neg hH9, if_pos ⟨hw0, c43⟩]
          rw [ho]
          refine md_do h50 (by rw [e3p59, h56, h8]) (by rw [h71, mR_s, h64, mR_s, h8]) (fun j hj _ => by rw [h71, mR_o _ _ hj, h64, mR_o _ _ hj]) (sp_err_nn ?_)
          exact (hwf.2.1 H hHl.1).2.2.2.2.2.2.2.2.1
        -- f@43 path tfff
        · refine vv_bipush (pc := 46) (v := (-5)) dX5_tighten_46 (by decide) ?_
          refine vr_i (pc := 48) dX5_tighten_48 ?_
          rw [h40] at c43
          have ho : os_tight q x1 = (-5, q) := by rw [os_tight, op_tight, if_neg c7, hz, ← hH, if_neg hH9, if_neg (fun h => c43 h.2), ← hz]
          rw [ho]
          exact md_no hh rfl hz (show sp_err (-5) ≠ 0 by decide)
  -- f@7 path f
  · refine vv_bipush (pc := 10) (v := (-2)) dX5_tighten_10 (by decide) ?_
    refine vr_i (pc := 12) dX5_tighten_12 ?_
    rw [h4] at c7
    exact md_no hh (by rw [os_tight, op_tight, if_pos c7]) (by rw [os_tight, op_tight, if_pos c7]; exact hz) (by rw [os_tight, op_tight, if_pos c7]; exact (show sp_err (-2) ≠ 0 by decide))
