set_option maxRecDepth 100000 in
set_option maxHeartbeats 4000000 in
theorem c_X5_restore (l : Launch) (G : gG) {q q2 : St} {kk : Nat} {hs : Nat → St} (S : Mem) (hz : q.2 = S 8) (hh : mh S kk hs) (x1 : Int32) (hs2 : sp_in x1 0 1 ≠ 0 → S 12 x1.toNatClampNeg ≠ 0 → (∀ i, i < 150 → S 11 (150 * x1.toNatClampNeg + i) = q2.2 i) ∧ (∀ i, 150 ≤ i → q2.2 i = S 8 i) ∧ sp_err (q2.2 2) = 0) : mm_C l G yX5_restore cX5_restore 3 (some .int) (mm_rm 1 22) [.ref (gad G 7), .int x1] S (mm_Qi G (fun r S2 => (sp_in x1 0 1 = 0 → r = -2 ∧ S2 = S) ∧ (sp_in x1 0 1 ≠ 0 → (S 12 x1.toNatClampNeg = 0 → r = -5 ∧ S2 = S) ∧ (S 12 x1.toNatClampNeg ≠ 0 → md S S2 q kk hs r (q2.2 2, q2))))) := by
  refine mm_ofV (own := RX5) (by decide +kernel) rfl (Nat.le_of_ble_eq_true rfl) (ls0 := [(0, .ref (gad G 7)), (1, .int x1)]) rfl ?_
  refine vv_iload_n (pc := 0) 1 dX5_restore_0 rfl rfl ?_
  refine vv_iconst (pc := 1) (v := 0) dX5_restore_1 (by decide) ?_
  refine vv_iconst (pc := 2) (v := 1) dX5_restore_2 (by decide) ?_
  refine vc_Si (pc := 3) (c_X5_in l G _ _ _ _) mw_M_X5_43 my_X5_in ⟨by decide, by decide⟩ rfl rfl (Nat.le_of_ble_eq_true rfl) dX5_restore_3 (fun r3 S3 h3 => ?_)
  obtain ⟨qS3, h3⟩ := h3
  replace qS3 := qS3.symm
  subst qS3
  refine vv_if_ne (pc := 6) (tgt := 12) dX5_restore_6 (by decide) (fun c6 => ?_) (fun c6 => ?_)
  -- t@6 path t
  · rw [h3] at c6
    have hs01 := sp_in_1 c6
    rw [show (0 : Int32).toInt = 0 by decide, show (1 : Int32).toInt = 1 by decide] at hs01
    have hp0 := sp_cl (x := x1) (by omega)
    have hx : x1 = nI x1.toNatClampNeg := sp_nI (by omega)
    obtain ⟨u, eu⟩ : ∃ u, u = x1.toNatClampNeg := ⟨_, rfl⟩
    have hu2 : u < 2 := by omega
    have hxu : x1 = nI u := by rw [eu]; exact hx
    refine vv_aload_n (pc := 12) 0 dX5_restore_12 rfl rfl ?_
    refine vg_X5_isSaved (pc := 13) mw_F_X5_22 dX5_restore_13 ?_
    refine vv_iload_n (pc := 16) 1 dX5_restore_16 rfl rfl ?_
    refine vl_12 (pc := 17) (sp_vin hx (by omega) (by decide)) dX5_restore_17 ?_
    refine vv_if_ne (pc := 18) (tgt := 24) dX5_restore_18 (by decide) (fun c18 => ?_) (fun c18 => ?_)
    -- t@18 path tt
    · refine vv_aload_n (pc := 24) 0 dX5_restore_24 rfl rfl ?_
      refine vc_Vv (pc := 25) (c_X5_record l G _ hz hh) mw_M_X5_84 my_X5_record mm_rv_X5 ⟨by decide, by decide⟩ rfl rfl (Nat.le_of_ble_eq_true rfl) dX5_restore_25 (fun S25 h25 => ?_)
      obtain ⟨hr1, hr2, hr3⟩ := hs2 c6 c18
      rw [← eu] at hr1
      have h8 := rec_o h25 8 (by decide) (by decide)
      have h11 := rec_o h25 11 (by decide) (by decide)
      refine vv_iconst (pc := 28) (v := 0) dX5_restore_28 (by decide) ?_
      refine vv_topi (fun x2p29 e2p29 => ?_)
      refine vv_istore_n (pc := 29) (i := 2) (ls' := [(2, .int x2p29), (0, .ref (gad G 7)), (1, .int x1)]) dX5_restore_29 rfl (by decide) rfl ?_
      have lp30 : ∀ (n : Nat) (k : Nat) (x2 : Int32) (S1 : Mem), S1 = mR S25 8 (cpk k (fun i => S25 11 (150 * u + i)) (S25 8)) → 151 ≤ n + k → k ≤ 150 → x2 = nI k → mm_V l G RX5 cX5_restore 3 (some .int) (mm_rm 1 22) 0 0 (fun _ => True) (fun _ => mm_F G) (mm_Qf G (mm_Qi G (fun r S2 => (sp_in x1 0 1 = 0 → r = -2 ∧ S2 = S) ∧ (sp_in x1 0 1 ≠ 0 → (S 12 x1.toNatClampNeg = 0 → r = -5 ∧ S2 = S) ∧ (S 12 x1.toNatClampNeg ≠ 0 → md S S2 q kk hs r (q2.2 2, q2)))))) S1 30 [(0, .ref (gad G 7)), (1, .int x1), (2, .int x2)] [] := by
        intro n
        induction n with
        | zero =>
          intro k x2 S1 eS1 hn hkl e2
          exact absurd hn (by omega)
        | succ n ih =>
          intro k x2 S1 eS1 hn hkl e2
          subst eS1
          refine vv_iload_n (pc := 30) 2 dX5_restore_30 rfl rfl ?_
          refine vv_sipush (pc := 31) (v := 150) dX5_restore_31 (by decide) ?_
          refine vv_icmp_ge (pc := 34) (tgt := 61) dX5_restore_34 (by decide) (fun c34 => ?_) (fun c34 => ?_)
          -- t@34 path ttL30t
          · refine vv_aload_n (pc := 61) 0 dX5_restore_61 rfl rfl ?_
            refine vg_X5_now (pc := 62) mw_F_X5_7 dX5_restore_62 ?_
            refine vv_iconst (pc := 65) (v := 2) dX5_restore_65 (by decide) ?_
            refine vl_8 (pc := 66) (vp_in_nI (n := 2) (by decide) (by decide)) dX5_restore_66 ?_
            refine vr_i (pc := 67) dX5_restore_67 ?_
            have hke := sp_geN (N := 150) (by decide) hkl e2 c34
            subst hke
            refine ⟨fun h => absurd h c6, fun _ => ⟨fun h => absurd h c18, fun _ => ?_⟩⟩
            have hrow : mR S25 8 (cpk 150 (fun i => S25 11 (150 * u + i)) (S25 8)) 8 = q2.2 := by
              rw [mR_s]
              funext i
              unfold cpk
              by_cases hi : i < 150
              · rw [if_pos hi, h11]; exact hr1 i hi
              · rw [if_neg hi, h8]; exact (hr2 i (by omega)).symm
            exact md_do h25 (by rw [hrow]; rfl) hrow (fun j hj _ => mR_o _ _ hj) hr3
          -- f@34 path ttL30f
          · have hk150 : k < 150 := sp_ltN (N := 150) (by decide) hkl e2 c34
            refine vv_aload_n (pc := 37) 0 dX5_restore_37 rfl rfl ?_
            refine vg_X5_now (pc := 38) mw_F_X5_7 dX5_restore_38 ?_
            refine vv_iload_n (pc := 41) 2 dX5_restore_41 rfl rfl ?_
            refine vv_aload_n (pc := 42) 0 dX5_restore_42 rfl rfl ?_
            refine vg_X5_saved (pc := 43) mw_F_X5_19 dX5_restore_43 ?_
            refine vv_iload_n (pc := 46) 1 dX5_restore_46 rfl rfl ?_
            refine vv_sipush (pc := 47) (v := 150) dX5_restore_47 (by decide) ?_
            refine vv_imul (pc := 50) dX5_restore_50 ?_
            refine vv_iload_n (pc := 51) 2 dX5_restore_51 rfl rfl ?_
            refine vv_iadd (pc := 52) dX5_restore_52 ?_
            rw [show x1 * 150 + x2 = nI (150 * u + k) from by rw [e2, hxu]; exact (by rw [show (150 : Int32) = nI 150 from rfl, nI_mul, nI_add, Nat.mul_comm])]
            refine vl_11 (pc := 53) (vp_in_nI (by omega) (by decide)) dX5_restore_53 ?_
            rw [mR_o _ _ (by decide), cl_n (by omega)]
            refine vs_8 (pc := 54) (by rw [e2]; exact vp_in_nI hk150 (by decide)) dX5_restore_54 ?_
            refine vv_mem (fun Sy eSy => ?_)
            have hSy : Sy = mR S25 8 (cpk (k + 1) (fun i => S25 11 (150 * u + i)) (S25 8)) := by rw [eSy, show x2.toNatClampNeg = k from by rw [e2, cl_n (by omega)], mR_wr, mR_mR, mR_s, ← cpk_s]
            obtain ⟨x2p55, e2p55⟩ : ∃ y : Int32, y = x2 + 1 := ⟨_, rfl⟩
            refine vv_iinc (pc := 55) (q := 2) (v := x2p55) (ls' := [(2, .int x2p55), (0, .ref (gad G 7)), (1, .int x1)]) dX5_restore_55 rfl (by rw [e2p55]; rfl) (by decide) rfl ?_
            refine vv_goto (pc := 58) (tgt := 30) dX5_restore_58 (by decide) ?_
            refine vv_sub [1, 2, 0] (ls' := [(0, _), (1, _), (2, _)]) rfl ?_
            exact ih (k + 1) x2p55 _ hSy (by omega) (by omega) (by rw [e2p55, e2, nI_1])
      refine vv_sub [1, 2, 0] (ls' := [(0, _), (1, _), (2, _)]) rfl ?_
      exact lp30 151 0 x2p29 S25 (by rw [cpk_0, mR_self]) (by omega) (by omega) e2p29
    -- f@18 path tf
    · refine vv_bipush (pc := 21) (v := (-5)) dX5_restore_21 (by decide) ?_
      refine vr_i (pc := 23) dX5_restore_23 ?_
      exact ⟨fun h => absurd h c6, fun _ => ⟨fun _ => ⟨rfl, rfl⟩, fun h => absurd c18 h⟩⟩
  -- f@6 path f
  · refine vv_bipush (pc := 9) (v := (-2)) dX5_restore_9 (by decide) ?_
    refine vr_i (pc := 11) dX5_restore_11 ?_
    rw [h3] at c6
    exact ⟨fun _ => ⟨rfl, rfl⟩, fun h => absurd c6 h⟩
