set_option maxRecDepth 100000 in
set_option maxHeartbeats 4000000 in
theorem c_X5_save (l : Launch) (G : gG) (S : Mem) (x1 : Int32) : mm_C l G yX5_save cX5_save 3 (some .int) (mm_rm 1 22) [.ref (gad G 7), .int x1] S (mm_Qi G (fun r S2 => (sp_in x1 0 1 = 0 → r = -2 ∧ S2 = S) ∧ (sp_in x1 0 1 ≠ 0 → r = S 8 2 ∧ S2 12 x1.toNatClampNeg = 1 ∧ (∀ i, i < 150 → S2 11 (150 * x1.toNatClampNeg + i) = S 8 i) ∧ (∀ i, (i < 150 * x1.toNatClampNeg ∨ 150 * x1.toNatClampNeg + 150 ≤ i) → S2 11 i = S 11 i) ∧ (∀ k, k ≠ x1.toNatClampNeg → S2 12 k = S 12 k) ∧ ∀ j, j ≠ 11 → j ≠ 12 → S2 j = S j))) := by
  refine mm_ofV (own := RX5) (by decide +kernel) rfl (Nat.le_of_ble_eq_true rfl) (ls0 := [(0, .ref (gad G 7)), (1, .int x1)]) rfl ?_
  refine vv_iload_n (pc := 0) 1 dX5_save_0 rfl rfl ?_
  refine vv_iconst (pc := 1) (v := 0) dX5_save_1 (by decide) ?_
  refine vv_iconst (pc := 2) (v := 1) dX5_save_2 (by decide) ?_
  refine vc_Si (pc := 3) (c_X5_in l G _ _ _ _) mw_M_X5_43 my_X5_in ⟨by decide, by decide⟩ rfl rfl (Nat.le_of_ble_eq_true rfl) dX5_save_3 (fun r3 S3 h3 => ?_)
  obtain ⟨qS3, h3⟩ := h3
  replace qS3 := qS3.symm
  subst qS3
  refine vv_if_ne (pc := 6) (tgt := 12) dX5_save_6 (by decide) (fun c6 => ?_) (fun c6 => ?_)
  -- t@6 path t
  · rw [h3] at c6
    have hs01 := sp_in_1 c6
    rw [show (0 : Int32).toInt = 0 by decide, show (1 : Int32).toInt = 1 by decide] at hs01
    have hp0 := sp_cl (x := x1) (by omega)
    have hx : x1 = nI x1.toNatClampNeg := sp_nI (by omega)
    obtain ⟨u, eu⟩ : ∃ u, u = x1.toNatClampNeg := ⟨_, rfl⟩
    have hu2 : u < 2 := by omega
    have hxu : x1 = nI u := by rw [eu]; exact hx
    refine vv_iconst (pc := 12) (v := 0) dX5_save_12 (by decide) ?_
    refine vv_topi (fun x2p13 e2p13 => ?_)
    refine vv_istore_n (pc := 13) (i := 2) (ls' := [(2, .int x2p13), (0, .ref (gad G 7)), (1, .int x1)]) dX5_save_13 rfl (by decide) rfl ?_
    have lp14 : ∀ (n : Nat) (k : Nat) (x2 : Int32) (S1 : Mem), S1 = mR S 11 (ins u k (S 8) (S 11)) → 151 ≤ n + k → k ≤ 150 → x2 = nI k → mm_V l G RX5 cX5_save 3 (some .int) (mm_rm 1 22) 0 0 (fun _ => True) (fun _ => mm_F G) (mm_Qf G (mm_Qi G (fun r S2 => (sp_in x1 0 1 = 0 → r = -2 ∧ S2 = S) ∧ (sp_in x1 0 1 ≠ 0 → r = S 8 2 ∧ S2 12 x1.toNatClampNeg = 1 ∧ (∀ i, i < 150 → S2 11 (150 * x1.toNatClampNeg + i) = S 8 i) ∧ (∀ i, (i < 150 * x1.toNatClampNeg ∨ 150 * x1.toNatClampNeg + 150 ≤ i) → S2 11 i = S 11 i) ∧ (∀ k, k ≠ x1.toNatClampNeg → S2 12 k = S 12 k) ∧ ∀ j, j ≠ 11 → j ≠ 12 → S2 j = S j)))) S1 14 [(0, .ref (gad G 7)), (1, .int x1), (2, .int x2)] [] := by
      intro n
      induction n with
      | zero =>
        intro k x2 S1 eS1 hn hkl e2
        exact absurd hn (by omega)
      | succ n ih =>
        intro k x2 S1 eS1 hn hkl e2
        subst eS1
        refine vv_iload_n (pc := 14) 2 dX5_save_14 rfl rfl ?_
        refine vv_sipush (pc := 15) (v := 150) dX5_save_15 (by decide) ?_
        refine vv_icmp_ge (pc := 18) (tgt := 45) dX5_save_18 (by decide) (fun c18 => ?_) (fun c18 => ?_)
        -- t@18 path tL14t
        · refine vv_aload_n (pc := 45) 0 dX5_save_45 rfl rfl ?_
          refine vg_X5_isSaved (pc := 46) mw_F_X5_22 dX5_save_46 ?_
          refine vv_iload_n (pc := 49) 1 dX5_save_49 rfl rfl ?_
          refine vv_iconst (pc := 50) (v := 1) dX5_save_50 (by decide) ?_
          refine vs_12 (pc := 51) (Or.inr rfl) (sp_vin hx (by omega) (by decide)) dX5_save_51 ?_
          refine vv_aload_n (pc := 52) 0 dX5_save_52 rfl rfl ?_
          refine vg_X5_now (pc := 53) mw_F_X5_7 dX5_save_53 ?_
          refine vv_iconst (pc := 56) (v := 2) dX5_save_56 (by decide) ?_
          refine vl_8 (pc := 57) (vp_in_nI (n := 2) (by decide) (by decide)) dX5_save_57 ?_
          refine vr_i (pc := 58) dX5_save_58 ?_
          have hke := sp_geN (N := 150) (by decide) hkl e2 c18
          subst hke
          refine ⟨fun h => absurd h c6, fun _ => ?_⟩
          rw [← eu]
          refine ⟨?_, mm_wr_s _ _ _ _, ?_, ?_, ?_, ?_⟩
          · rw [mm_wr_orow _ _ (by decide), mR_o _ _ (by decide)]; rfl
          · intro i hi
            rw [mm_wr_orow _ _ (by decide), mR_s, ins, if_pos (by omega), show 150 * u + i - 150 * u = i by omega]
          · intro i hi
            rw [mm_wr_orow _ _ (by decide), mR_s, ins, if_neg (by omega)]
          · intro k hk
            rw [mm_wr_n _ _ (Or.inr hk), mR_o _ _ (by decide)]
          · intro j h1 h2
            rw [mm_wr_orow _ _ h2, mR_o _ _ h1]
        -- f@18 path tL14f
        · have hk150 : k < 150 := sp_ltN (N := 150) (by decide) hkl e2 c18
          refine vv_aload_n (pc := 21) 0 dX5_save_21 rfl rfl ?_
          refine vg_X5_saved (pc := 22) mw_F_X5_19 dX5_save_22 ?_
          refine vv_iload_n (pc := 25) 1 dX5_save_25 rfl rfl ?_
          refine vv_sipush (pc := 26) (v := 150) dX5_save_26 (by decide) ?_
          refine vv_imul (pc := 29) dX5_save_29 ?_
          refine vv_iload_n (pc := 30) 2 dX5_save_30 rfl rfl ?_
          refine vv_iadd (pc := 31) dX5_save_31 ?_
          rw [show x1 * 150 + x2 = nI (150 * u + k) from by rw [e2, hxu]; exact (by rw [show (150 : Int32) = nI 150 from rfl, nI_mul, nI_add, Nat.mul_comm])]
          refine vv_aload_n (pc := 32) 0 dX5_save_32 rfl rfl ?_
          refine vg_X5_now (pc := 33) mw_F_X5_7 dX5_save_33 ?_
          refine vv_iload_n (pc := 36) 2 dX5_save_36 rfl rfl ?_
          refine vl_8 (pc := 37) (by rw [e2]; exact vp_in_nI hk150 (by decide)) dX5_save_37 ?_
          rw [mR_o _ _ (by decide), show x2.toNatClampNeg = k from by rw [e2, cl_n (by omega)]]
          refine vs_11 (pc := 38) (vp_in_nI (by omega) (by decide)) dX5_save_38 ?_
          refine vv_mem (fun Sy eSy => ?_)
          have hSy : Sy = mR S 11 (ins u (k + 1) (S 8) (S 11)) := by rw [eSy, cl_n (by omega), mR_wr, mR_mR, mR_s, ins_s]
          obtain ⟨x2p39, e2p39⟩ : ∃ y : Int32, y = x2 + 1 := ⟨_, rfl⟩
          refine vv_iinc (pc := 39) (q := 2) (v := x2p39) (ls' := [(2, .int x2p39), (0, .ref (gad G 7)), (1, .int x1)]) dX5_save_39 rfl (by rw [e2p39]; rfl) (by decide) rfl ?_
          refine vv_goto (pc := 42) (tgt := 14) dX5_save_42 (by decide) ?_
          refine vv_sub [1, 2, 0] (ls' := [(0, _), (1, _), (2, _)]) rfl ?_
          exact ih (k + 1) x2p39 _ hSy (by omega) (by omega) (by rw [e2p39, e2, nI_1])
    refine vv_sub [1, 2, 0] (ls' := [(0, _), (1, _), (2, _)]) rfl ?_
    exact lp14 151 0 x2p13 S (by rw [ins_0, mR_self]) (by omega) (by omega) e2p13
  -- f@6 path f
  · refine vv_bipush (pc := 9) (v := (-2)) dX5_save_9 (by decide) ?_
    refine vr_i (pc := 11) dX5_save_11 ?_
    rw [h3] at c6
    exact ⟨fun _ => ⟨rfl, rfl⟩, fun h => absurd c6 h⟩
