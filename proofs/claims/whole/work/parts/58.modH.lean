theorem set_no {q : St} {s v : Int32} (h : sp_in s 0 1 = 0 ∨ sp_in v 0 100 = 0) : os_set q s v = (-2, q) := by
  unfold os_set op_set
  rcases h with h | h
  · have h0 : ¬ s = 0 := fun e => by rw [e] at h; exact absurd h (by decide)
    have h1 : ¬ s = 1 := fun e => by rw [e] at h; exact absurd h (by decide)
    rw [if_neg h0, if_neg h1]
    split <;> rfl
  · rw [if_pos h]
theorem set_k {q : St} {s v : Int32} (hs : s = nI s.toNatClampNeg) (hk : s.toNatClampNeg < 2) (hv : ¬ sp_in v 0 100 = 0) : os_set q s v = (q.2 s.toNatClampNeg, (q.1, upd q.2 s.toNatClampNeg v)) := by
  unfold os_set op_set
  rcases (show s.toNatClampNeg = 0 ∨ s.toNatClampNeg = 1 by omega) with e | e
  · have e0 : s = 0 := by rw [hs, e]; rfl
    rw [if_neg hv, if_pos e0, e]
  · have e1 : s = 1 := by rw [hs, e]; rfl
    rw [if_neg hv, if_neg (by rw [e1]; decide), if_pos e1, e]
set_option maxRecDepth 100000 in
set_option maxHeartbeats 4000000 in
theorem c_X5_set (l : Launch) (G : gG) {q : St} {kk : Nat} {hs : Nat → St} (S : Mem) (hg : gd q) (hz : q.2 = S 8) (hh : mh S kk hs) (x1 x2 : Int32) : mm_C l G yX5_set cX5_set 4 (some .int) (mm_rm 1 22) [.ref (gad G 7), .int x1, .int x2] S (mm_Qi G (fun r S2 => md S S2 q kk hs r (os_set q x1 x2))) := by
  obtain ⟨hwf, hcalm⟩ := id hg
  rw [hz] at hwf hcalm
  refine mm_ofV (own := RX5) (by decide +kernel) rfl (Nat.le_of_ble_eq_true rfl) (ls0 := [(0, .ref (gad G 7)), (1, .int x1), (2, .int x2)]) rfl ?_
  refine vv_iload_n (pc := 0) 1 dX5_set_0 rfl rfl ?_
  refine vv_iconst (pc := 1) (v := 0) dX5_set_1 (by decide) ?_
  refine vv_iconst (pc := 2) (v := 1) dX5_set_2 (by decide) ?_
  refine vc_Si (pc := 3) (c_X5_in l G _ _ _ _) mw_M_X5_43 my_X5_in ⟨by decide, by decide⟩ rfl rfl (Nat.le_of_ble_eq_true rfl) dX5_set_3 (fun r3 S3 h3 => ?_)
  obtain ⟨qS3, h3⟩ := h3
  replace qS3 := qS3.symm
  subst qS3
  refine vv_if_eq (pc := 6) (tgt := 19) dX5_set_6 (by decide) (fun c6 => ?_) (fun c6 => ?_)
  -- t@6 path t
  · refine vv_bipush (pc := 19) (v := (-2)) dX5_set_19 (by decide) ?_
    refine vr_i (pc := 21) dX5_set_21 ?_
    rw [h3] at c6
    rw [set_no (Or.inl c6)]
    exact md_no hh rfl hz (show sp_err (-2) ≠ 0 by decide)
  -- f@6 path f
  · refine vv_iload_n (pc := 9) 2 dX5_set_9 rfl rfl ?_
    refine vv_iconst (pc := 10) (v := 0) dX5_set_10 (by decide) ?_
    refine vv_bipush (pc := 11) (v := 100) dX5_set_11 (by decide) ?_
    refine vc_Si (pc := 13) (c_X5_in l G _ _ _ _) mw_M_X5_43 my_X5_in ⟨by decide, by decide⟩ rfl rfl (Nat.le_of_ble_eq_true rfl) dX5_set_13 (fun r13 S13 h13 => ?_)
    obtain ⟨qS13, h13⟩ := h13
    replace qS13 := qS13.symm
    subst qS13
    refine vv_if_ne (pc := 16) (tgt := 22) dX5_set_16 (by decide) (fun c16 => ?_) (fun c16 => ?_)
    -- t@16 path ft
    · rw [h3] at c6
      rw [h13] at c16
      have hs01 := sp_in_1 c6
      rw [show (0 : Int32).toInt = 0 by decide, show (1 : Int32).toInt = 1 by decide] at hs01
      have hp0 := sp_cl (x := x1) (by omega)
      have hpx : x1 = nI x1.toNatClampNeg := sp_nI (by omega)
      have hk2 : x1.toNatClampNeg < 2 := by omega
      refine vv_aload_n (pc := 22) 0 dX5_set_22 rfl rfl ?_
      refine vc_Vv (pc := 23) (c_X5_record l G _ hz hh) mw_M_X5_84 my_X5_record mm_rv_X5 ⟨by decide, by decide⟩ rfl rfl (Nat.le_of_ble_eq_true rfl) dX5_set_23 (fun S23 h23 => ?_)
      have h8 := rec_o h23 8 (by decide) (by decide)
      refine vv_aload_n (pc := 26) 0 dX5_set_26 rfl rfl ?_
      refine vg_X5_now (pc := 27) mw_F_X5_7 dX5_set_27 ?_
      refine vv_iload_n (pc := 30) 1 dX5_set_30 rfl rfl ?_
      refine vl_8 (pc := 31) (sp_vin hpx (by omega) (by decide)) dX5_set_31 ?_
      refine vv_topi (fun x3p32 e3p32 => ?_)
      refine vv_istore_n (pc := 32) (i := 3) (ls' := [(3, .int x3p32), (0, .ref (gad G 7)), (1, .int x1), (2, .int x2)]) dX5_set_32 rfl (by decide) rfl ?_
      refine vv_aload_n (pc := 33) 1 dX5_set_33 rfl rfl ?_
      refine vg_X5_now (pc := 34) mw_F_X5_7 dX5_set_34 ?_
      refine vv_iload_n (pc := 37) 2 dX5_set_37 rfl rfl ?_
      refine vv_iload_n (pc := 38) 3 dX5_set_38 rfl rfl ?_
      refine vs_8 (pc := 39) (sp_vin hpx (by omega) (by decide)) dX5_set_39 ?_
      refine vv_iload_n (pc := 40) 0 dX5_set_40 rfl rfl ?_
      refine vr_i (pc := 41) dX5_set_41 ?_
      rw [set_k hpx hk2 c16]
      refine md_do h23 (by rw [e3p32, h8, hz]) (by rw [mR_wr, mR_s, h8, hz]) (fun j hj _ => by rw [mm_wr_orow _ _ hj]) ?_
      rw [hz]
      refine sp_err_nn ?_
      have h0 := hwf.2.2.2.2.1.1
      have h1 := hwf.2.2.2.2.2.1.1
      rcases (show x1.toNatClampNeg = 0 ∨ x1.toNatClampNeg = 1 by omega) with e | e
      · dsimp only; rw [e]; exact h0
      · dsimp only; rw [e]; exact h1
    -- f@16 path ff
    · refine vv_bipush (pc := 19) (v := (-2)) dX5_set_19 (by decide) ?_
      refine vr_i (pc := 21) dX5_set_21 ?_
      rw [h13] at c16
      rw [set_no (Or.inr (by first | exact c16 | exact Classical.not_not.mp c16))]
      exact md_no hh rfl hz (show sp_err (-2) ≠ 0 by decide)
set_option maxRecDepth 100000 in
set_option maxHeartbeats 4000000 in
theorem c_X5_days (l : Launch) (G : gG) {q : St} {kk : Nat} {hs : Nat → St} (S : Mem) (hg : gd q) (hz : q.2 = S 8) (hh : mh S kk hs) (hday : (q.2 2).toInt ≤ 1000000000) (x1 : Int32) : mm_C l G yX5_days cX5_days 4 (some .int) (mm_rm 6 142) [.ref (gad G 7), .int x1] S (mm_Qi G (fun r S2 => md S S2 q kk hs r (os_days q x1))) := by
  obtain ⟨hwf, hcalm⟩ := id hg
  rw [hz] at hwf hcalm
  refine mm_ofV (own := RX5) (by decide +kernel) rfl (Nat.le_of_ble_eq_true rfl) (ls0 := [(0, .ref (gad G 7)), (1, .int x1)]) rfl ?_
  refine vv_iload_n (pc := 0) 1 dX5_days_0 rfl rfl ?_
  refine vv_iconst (pc := 1) (v := 1) dX5_days_1 (by decide) ?_
  refine vv_bipush (pc := 2) (v := 100) dX5_days_2 (by decide) ?_
  refine vc_Si (pc := 4) (c_X5_in l G _ _ _ _) mw_M_X5_43 my_X5_in ⟨by decide, by decide⟩ rfl rfl (Nat.le_of_ble_eq_true rfl) dX5_days_4 (fun r4 S4 h4 => ?_)
  obtain ⟨qS4, h4⟩ := h4
  replace qS4 := qS4.symm
  subst qS4
  refine vv_if_ne (pc := 7) (tgt := 13) dX5_days_7 (by decide) (fun c7 => ?_) (fun c7 => ?_)
  -- t@7 path t
  · rw [h4] at c7
    have hp := sp_in_1 c7
    rw [show (1 : Int32).toInt = 1 by decide, show (100 : Int32).toInt = 100 by decide] at hp
    have hp0 := sp_cl (x := x1) (by omega)
    obtain ⟨D, hD⟩ : ∃ D, D = x1.toNatClampNeg := ⟨_, rfl⟩
    have hpx : x1 = nI D := by rw [hD]; exact sp_nI (by omega)
    have hD100 : D ≤ 100 := by omega
    refine vv_aload_n (pc := 13) 0 dX5_days_13 rfl rfl ?_
    refine vc_Vv (pc := 14) (c_X5_record l G _ hz hh) mw_M_X5_84 my_X5_record mm_rv_X5 ⟨by decide, by decide⟩ rfl rfl (Nat.le_of_ble_eq_true rfl) dX5_days_14 (fun S14 h14 => ?_)
    refine vv_iconst (pc := 17) (v := 0) dX5_days_17 (by decide) ?_
    refine vv_topi (fun x2p18 e2p18 => ?_)
    refine vv_istore_n (pc := 18) (i := 2) (ls' := [(2, .int x2p18), (0, .ref (gad G 7)), (1, .int x1)]) dX5_days_18 rfl (by decide) rfl ?_
    refine vv_iconst (pc := 19) (v := 0) dX5_days_19 (by decide) ?_
    refine vv_topi (fun x3p20 e3p20 => ?_)
    refine vv_istore_n (pc := 20) (i := 3) (ls' := [(3, .int x3p20), (2, .int x2p18), (0, .ref (gad G 7)), (1, .int x1)]) dX5_days_20 rfl (by decide) rfl ?_
    obtain ⟨F, eF⟩ : ∃ F, F = sp_dz q.1 D (S 8) := ⟨_, rfl⟩
    have lp21 : ∀ (n : Nat) (k m : Nat) (x2 x3 : Int32) (z : Nat → Int32) (S1 : Mem), m < n → k + m = D → x3 = nI k → x2 = 0 → sp_wf q.1 z → sp_bu z q.1 = 99 → (z 2).toInt + (m : Int) ≤ 2000000000 → S1 8 = z → (∀ j, j ≠ 8 → j ≠ 14 → S1 j = S14 j) → sp_dz q.1 m z = F → mm_V l G RX5 cX5_days 4 (some .int) (mm_rm 6 142) 0 0 (fun _ => True) (fun _ => mm_F G) (mm_Qf G (mm_Qi G (fun r S2 => md S S2 q kk hs r (os_days q x1)))) S1 21 [(0, .ref (gad G 7)), (1, .int x1), (2, .int x2), (3, .int x3)] [] := by
      intro n
      induction n with
      | zero =>
        intro k m x2 x3 z S1 hn hkm e3 e2 hw hc hdz h8 hjo hF
        exact absurd hn (by omega)
      | succ n ih =>
        intro k m x2 x3 z S1 hn hkm e3 e2 hw hc hdz h8 hjo hF
        refine vv_iload_n (pc := 21) 3 dX5_days_21 rfl rfl ?_
        refine vv_iload_n (pc := 22) 1 dX5_days_22 rfl rfl ?_
        refine vv_icmp_ge (pc := 23) (tgt := 39) dX5_days_23 (by decide) (fun c23 => ?_) (fun c23 => ?_)
        -- t@23 path tL21t
        · refine vv_iload_n (pc := 39) 2 dX5_days_39 rfl rfl ?_
          refine vr_i (pc := 40) dX5_days_40 ?_
          rw [hpx] at c23
          have hkD := sp_geN (by omega) (by omega) e3 c23
          obtain rfl : m = 0 := by omega
          have ho : os_days q x1 = (0, (q.1, sp_dz q.1 D q.2)) := by rw [os_days, op_days, if_neg c7, hD]
          rw [ho]
          exact md_do h14 e2 (by rw [h8, hz, ← eF, ← hF]; rfl) hjo (show sp_err 0 = 0 by decide)
        -- f@23 path tL21f
        · rw [hpx] at c23
          have hkD : k < D := sp_ltN (by omega) (by omega) e3 c23
          obtain ⟨m1, rfl⟩ : ∃ m1, m = m1 + 1 := ⟨m - 1, by omega⟩
          rw [sp_dz] at hF
          refine vv_iload_n (pc := 26) 2 dX5_days_26 rfl rfl ?_
          refine vv_aload_n (pc := 27) 0 dX5_days_27 rfl rfl ?_
          refine vc_Vi (pc := 28) (c_X5_pass l G _ (C := q.1) (by rw [h8]; exact hw) (by rw [h8]; exact hc)) mw_M_X5_97 my_X5_pass mm_rv_X5 ⟨by decide, by decide⟩ rfl rfl (Nat.le_of_ble_eq_true rfl) dX5_days_28 (fun r28 S28 h28 => ?_)
          refine vv_iadd (pc := 31) dX5_days_31 ?_
          refine vv_topi (fun x2p32 e2p32 => ?_)
          refine vv_istore_n (pc := 32) (i := 2) (ls' := [(2, .int x2p32), (0, .ref (gad G 7)), (1, .int x1), (3, .int x3)]) dX5_days_32 rfl (by decide) rfl ?_
          obtain ⟨hr28, T, hT⟩ := h28
          rw [h8] at hT
          have h82 : S28 8 = sp_day q.1 z := by rw [hT, mR_o _ _ (by decide), mR_s]
          have hjo2 : ∀ j, j ≠ 8 → j ≠ 14 → S28 j = S14 j := fun j hj h14 => by rw [hT, mR_o _ _ h14, mR_o _ _ hj, hjo j hj h14]
          obtain ⟨x3p33, e3p33⟩ : ∃ y : Int32, y = x3 + 1 := ⟨_, rfl⟩
          refine vv_iinc (pc := 33) (q := 3) (v := x3p33) (ls' := [(3, .int x3p33), (2, .int x2p32), (0, .ref (gad G 7)), (1, .int x1)]) dX5_days_33 rfl (by rw [e3p33]; rfl) (by decide) rfl ?_
          refine vv_goto (pc := 36) (tgt := 21) dX5_days_36 (by decide) ?_
          refine vv_sub [2, 3, 1, 0] (ls' := [(0, _), (1, _), (2, _), (3, _)]) rfl ?_
          exact ih (k + 1) m1 x2p32 x3p33 _ S28 (by omega) (by omega) (by rw [e3p33, e3, nI_1]) (by rw [e2p32, e2, hr28]; rfl) (sp_day_wf hw (by omega)) ((sp_day_bu hw.1.1).trans hc) (by have := sp_day_2 (C := q.1) (z := z) hw.2.2.2.2.2.2.1 (by omega); omega) h82 hjo2 hF
    refine vv_sub [2, 3, 1, 0] (ls' := [(0, _), (1, _), (2, _), (3, _)]) rfl ?_
    exact lp21 (D + 1) 0 D x2p18 x3p20 (S 8) S14 (by omega) (by omega) e3p20 e2p18 hwf hcalm (by rw [← hz]; omega) (rec_o h14 8 (by decide) (by decide)) (fun _ _ _ => rfl) eF.symm
  -- f@7 path f
  · refine vv_bipush (pc := 10) (v := (-2)) dX5_days_10 (by decide) ?_
    refine vr_i (pc := 12) dX5_days_12 ?_
    rw [h4] at c7
    exact md_no hh (by rw [os_days, op_days, if_pos c7]) (by rw [os_days, op_days, if_pos c7]; exact hz) (by rw [os_days, op_days, if_pos c7]; exact (show sp_err (-2) ≠ 0 by decide))
