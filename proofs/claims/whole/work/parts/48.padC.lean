theorem mm_wr_wr (S : Mem) (j k : Nat) (x y : Int32) : mm_wr (mm_wr S j k x) j k y = mm_wr S j k y := by
  funext a b
  rw [mm_wr_eq, mm_wr_eq, mm_wr_eq]
  by_cases h : a = j ∧ b = k
  · rw [if_pos h, if_pos h]
  · rw [if_neg h, if_neg h, if_neg h]
theorem mm_wr_self (S : Mem) (j k : Nat) : mm_wr S j k (S j k) = S := by
  funext a b
  rw [mm_wr_eq]
  by_cases h : a = j ∧ b = k
  · rw [if_pos h, h.1, h.2]
  · rw [if_neg h]
set_option maxRecDepth 100000 in
set_option maxHeartbeats 4000000 in
theorem c_X2_readNumber (l : Launch) (G : gG) (S : Mem) {L i : Nat} (hL : S 5 1 = nI L) (hL60 : L ≤ 60) (hi : i ≤ L) (hA : S 5 2 = nI i) : mm_C l G yX2_readNumber cX2_readNumber 2 (some .int) (mm_rm 1 20) [.ref (gad G 5)] S (mm_Qi G (fun r S2 => r = (rn (S 6) L 60 i 0).1 ∧ S2 = mm_wr S 5 2 (nI (rn (S 6) L 60 i 0).2))) := by
  refine mm_ofV (own := RX2) (by decide +kernel) rfl (Nat.le_of_ble_eq_true rfl) (ls0 := [(0, .ref (gad G 5))]) rfl ?_
  refine vv_iconst (pc := 0) (v := 0) dX2_readNumber_0 (by decide) ?_
  refine vv_topi (fun x1p1 e1p1 => ?_)
  refine vv_istore_n (pc := 1) (i := 1) (ls' := [(1, .int x1p1), (0, .ref (gad G 5))]) dX2_readNumber_1 rfl (by decide) rfl ?_
  obtain ⟨F, eF⟩ : ∃ F, F = rn (S 6) L 60 i 0 := ⟨_, rfl⟩
  have lp2 : ∀ (n : Nat) (j k : Nat) (x1 : Int32) (S1 : Mem), S1 = mm_wr S 5 2 (nI j) → k < n → L ≤ j + k → j ≤ L → rn (S 6) L k j x1 = F → mm_V l G RX2 cX2_readNumber 2 (some .int) (mm_rm 1 20) 0 0 (fun _ => True) (fun _ => mm_F G) (mm_Qf G (mm_Qi G (fun r S2 => r = (rn (S 6) L 60 i 0).1 ∧ S2 = mm_wr S 5 2 (nI (rn (S 6) L 60 i 0).2)))) S1 2 [(0, .ref (gad G 5)), (1, .int x1)] [] := by
    intro n
    induction n with
    | zero =>
      intro j k x1 S1 eS1 hn hjk hj hF
      exact absurd hn (by omega)
    | succ n ih =>
      intro j k x1 S1 eS1 hn hjk hj hF
      subst eS1
      refine vv_aload_n (pc := 2) 0 dX2_readNumber_2 rfl rfl ?_
      refine vg_X2_at (pc := 3) mw_F_X2_64 dX2_readNumber_3 ?_
      rw [mm_wr_s]
      refine vv_aload_n (pc := 6) 0 dX2_readNumber_6 rfl rfl ?_
      refine vg_X2_length (pc := 7) mw_F_X2_19 dX2_readNumber_7 ?_
      rw [mm_wr_n S _ (Or.inr (by decide)), hL]
      refine vv_icmp_ge (pc := 10) (tgt := 59) dX2_readNumber_10 (by decide) (fun c10 => ?_) (fun c10 => ?_)
      -- t@10 path L2t
      · refine vv_iload_n (pc := 59) 1 dX2_readNumber_59 rfl rfl ?_
        refine vr_i (pc := 60) dX2_readNumber_60 ?_
        have hjL := sp_geN (N := L) (by omega) hj rfl c10
        have hF2 : (x1, j) = F := by
          rw [← hF]
          rcases k with _ | k
          · rfl
          · rw [rn, if_neg (fun h => absurd h.1 (by omega))]
        rw [← eF, ← hF2]
        exact ⟨rfl, rfl⟩
      -- f@10 path L2f
      · have hjL : j < L := sp_ltN (N := L) (by omega) (by omega) rfl c10
        refine vv_aload_n (pc := 13) 0 dX2_readNumber_13 rfl rfl ?_
        refine vg_X2_signs (pc := 14) mw_F_X2_9 dX2_readNumber_14 ?_
        refine vv_aload_n (pc := 17) 0 dX2_readNumber_17 rfl rfl ?_
        refine vg_X2_at (pc := 18) mw_F_X2_64 dX2_readNumber_18 ?_
        rw [mm_wr_s]
        refine vl_6 (pc := 21) (vp_in_nI (by omega) (by decide)) dX2_readNumber_21 ?_
        rw [mm_wr_orow S _ (show (6 : Nat) ≠ 5 by decide), cl_n (p := j) (by omega)]
        refine vc_Si (pc := 22) (c_X2_isDigit l G _ _) mw_M_X2_48 my_X2_isDigit ⟨by decide, by decide⟩ rfl rfl (Nat.le_of_ble_eq_true rfl) dX2_readNumber_22 (fun r22 S22 h22 => ?_)
        obtain ⟨qS22, h22⟩ := h22
        replace qS22 := qS22.symm
        subst qS22
        refine vv_if_eq (pc := 25) (tgt := 59) dX2_readNumber_25 (by decide) (fun c25 => ?_) (fun c25 => ?_)
        -- t@25 path L2ft
        · refine vv_iload_n (pc := 59) 1 dX2_readNumber_59 rfl rfl ?_
          refine vr_i (pc := 60) dX2_readNumber_60 ?_
          have hF2 : (x1, j) = F := by
            rw [← hF]
            rcases k with _ | k
            · rfl
            · rw [rn, if_neg (fun h => h.2 (h22.symm.trans c25))]
          rw [← eF, ← hF2]
          exact ⟨rfl, rfl⟩
        -- f@25 path L2ff
        · obtain ⟨k1, rfl⟩ : ∃ k1, k = k1 + 1 := ⟨k - 1, by omega⟩
          rw [rn, if_pos ⟨hjL, fun h => c25 (h22.trans h)⟩] at hF
          refine vv_bipush (pc := 28) (v := 10) dX2_readNumber_28 (by decide) ?_
          refine vv_iload_n (pc := 30) 1 dX2_readNumber_30 rfl rfl ?_
          refine vv_imul (pc := 31) dX2_readNumber_31 ?_
          refine vv_aload_n (pc := 32) 0 dX2_readNumber_32 rfl rfl ?_
          refine vg_X2_signs (pc := 33) mw_F_X2_9 dX2_readNumber_33 ?_
          refine vv_aload_n (pc := 36) 0 dX2_readNumber_36 rfl rfl ?_
          refine vg_X2_at (pc := 37) mw_F_X2_64 dX2_readNumber_37 ?_
          rw [mm_wr_s]
          refine vl_6 (pc := 40) (vp_in_nI (by omega) (by decide)) dX2_readNumber_40 ?_
          rw [mm_wr_orow S _ (show (6 : Nat) ≠ 5 by decide), cl_n (p := j) (by omega)]
          refine vv_bipush (pc := 41) (v := 48) dX2_readNumber_41 (by decide) ?_
          refine vv_isub (pc := 43) dX2_readNumber_43 ?_
          refine vv_iadd (pc := 44) dX2_readNumber_44 ?_
          refine vv_topi (fun x1p45 e1p45 => ?_)
          refine vv_istore_n (pc := 45) (i := 1) (ls' := [(1, .int x1p45), (0, .ref (gad G 5))]) dX2_readNumber_45 rfl (by decide) rfl ?_
          refine vv_aload_n (pc := 46) 1 dX2_readNumber_46 rfl rfl ?_
          refine vv_dup (pc := 47) dX2_readNumber_47 rfl ?_
          refine vg_X2_at (pc := 48) mw_F_X2_64 dX2_readNumber_48 ?_
          rw [mm_wr_s]
          refine vv_iconst (pc := 51) (v := 1) dX2_readNumber_51 (by decide) ?_
          refine vv_iadd (pc := 52) dX2_readNumber_52 ?_
          refine vp_X2_at (pc := 53) mw_F_X2_64 dX2_readNumber_53 ?_
          rw [mm_wr_wr, nI_1]
          refine vv_goto (pc := 56) (tgt := 2) dX2_readNumber_56 (by decide) ?_
          refine vv_sub [1, 0] (ls' := [(0, _), (1, _)]) rfl ?_
          exact ih (j + 1) k1 x1p45 _ rfl (by omega) (by omega) (by omega) (by rw [e1p45]; exact hF)
  refine vv_sub [1, 0] (ls' := [(0, _), (1, _)]) rfl ?_
  exact lp2 61 i 60 x1p1 S (by rw [← hA]; exact (mm_wr_self S 5 2).symm) (by omega) (by omega) hi (by rw [e1p1]; exact eF.symm)
set_option maxRecDepth 100000 in
set_option maxHeartbeats 4000000 in
theorem c_X2_readOrder (l : Launch) (G : gG) (S : Mem) {L i : Nat} (hL : S 5 1 = nI L) (hL60 : L ≤ 60) (hi : i ≤ L + 1) (hA : S 5 2 = nI i) : mm_C l G yX2_readOrder cX2_readOrder 1 (some .boolean) (mm_rm 2 41) [.ref (gad G 5)] S (mm_Qi G (fun r S2 => (r = 0 ∧ L ≤ i ∧ S2 = S) ∨ (r = 1 ∧ i < L ∧ S2 5 2 = nI (ro_n (S 6) L i) ∧ S2 5 3 = S 6 i ∧ S2 5 4 = ro_1 (S 6) L i ∧ S2 5 5 = ro_2 (S 6) L i ∧ S2 5 1 = S 5 1 ∧ ∀ j, j ≠ 5 → S2 j = S j))) := by
  refine mm_ofV (own := RX2) (by decide +kernel) rfl (Nat.le_of_ble_eq_true rfl) (ls0 := [(0, .ref (gad G 5))]) rfl ?_
  refine vv_aload_n (pc := 0) 0 dX2_readOrder_0 rfl rfl ?_
  refine vg_X2_at (pc := 1) mw_F_X2_64 dX2_readOrder_1 ?_
  rw [hA]
  refine vv_aload_n (pc := 4) 0 dX2_readOrder_4 rfl rfl ?_
  refine vg_X2_length (pc := 5) mw_F_X2_19 dX2_readOrder_5 ?_
  rw [hL]
  refine vv_icmp_lt (pc := 8) (tgt := 13) dX2_readOrder_8 (by decide) (fun c8 => ?_) (fun c8 => ?_)
  -- t@8 path t
  · have hiL : i < L := by
      rcases Nat.lt_or_ge i L with h | h
      · exact h
      · exact absurd c8 (nI_nlt h (by omega))
    refine vv_aload_n (pc := 13) 0 dX2_readOrder_13 rfl rfl ?_
    refine vv_aload_n (pc := 14) 0 dX2_readOrder_14 rfl rfl ?_
    refine vg_X2_signs (pc := 15) mw_F_X2_9 dX2_readOrder_15 ?_
    refine vv_aload_n (pc := 18) 0 dX2_readOrder_18 rfl rfl ?_
    refine vg_X2_at (pc := 19) mw_F_X2_64 dX2_readOrder_19 ?_
    rw [hA]
    refine vl_6 (pc := 22) (vp_in_nI (by omega) (by decide)) dX2_readOrder_22 ?_
    rw [cl_n (p := i) (by omega)]
    refine vv_okS (fun hok => ?_)
    have hch : mm_ok .char (S 6 i) := hok 6 i
    refine vp_X2_letter (pc := 23) hch mw_F_X2_67 dX2_readOrder_23 ?_
    refine vv_mem (fun Sa eSa => ?_)
    have a6 : Sa 6 = S 6 := by rw [eSa, mm_wr_orow _ _ (by decide)]
    have a2 : Sa 5 2 = nI i := by rw [eSa, mm_wr_n _ _ (Or.inr (by decide)), hA]
    have a1 : Sa 5 1 = nI L := by rw [eSa, mm_wr_n _ _ (Or.inr (by decide)), hL]
    refine vv_aload_n (pc := 26) 0 dX2_readOrder_26 rfl rfl ?_
    refine vv_dup (pc := 27) dX2_readOrder_27 rfl ?_
    refine vg_X2_at (pc := 28) mw_F_X2_64 dX2_readOrder_28 ?_
    rw [a2]
    refine vv_iconst (pc := 31) (v := 1) dX2_readOrder_31 (by decide) ?_
    refine vv_iadd (pc := 32) dX2_readOrder_32 ?_
    rw [nI_1]
    refine vp_X2_at (pc := 33) mw_F_X2_64 dX2_readOrder_33 ?_
    refine vv_mem (fun Sb eSb => ?_)
    have b6 : Sb 6 = S 6 := by rw [eSb, mm_wr_orow _ _ (by decide), a6]
    have b2 : Sb 5 2 = nI (i + 1) := by rw [eSb, mm_wr_s]
    have b1 : Sb 5 1 = nI L := by rw [eSb, mm_wr_n _ _ (Or.inr (by decide)), a1]
    have ub : i + 1 ≤ L := hiL
    refine vv_aload_n (pc := 36) 0 dX2_readOrder_36 rfl rfl ?_
    refine vv_aload_n (pc := 37) 0 dX2_readOrder_37 rfl rfl ?_
    refine vc_Vi (pc := 38) (c_X2_readNumber l G _ b1 hL60 ub b2) mw_M_X2_71 my_X2_readNumber mm_rv_X2 ⟨by decide, by decide⟩ rfl rfl (Nat.le_of_ble_eq_true rfl) dX2_readOrder_38 (fun r38 S38 h38 => ?_)
    refine vp_X2_first (pc := 41) mw_F_X2_75 dX2_readOrder_41 ?_
    refine vv_aload_n (pc := 44) 0 dX2_readOrder_44 rfl rfl ?_
    refine vv_iconst (pc := 45) (v := 0) dX2_readOrder_45 (by decide) ?_
    refine vp_X2_second (pc := 46) mw_F_X2_78 dX2_readOrder_46 ?_
    obtain ⟨N, eN⟩ : ∃ N, N = (rn (S 6) L 60 (i + 1) 0).2 := ⟨_, rfl⟩
    have hN := rn_le (S 6) L 60 (i + 1) 0 hiL
    rw [← eN] at hN
    rw [b6, ← eN] at h38
    refine vv_mem (fun Sd eSd => ?_)
    have d6 : Sd 6 = S 6 := by rw [eSd, mm_wr_orow _ _ (by decide), mm_wr_orow _ _ (by decide), h38.2, mm_wr_orow _ _ (by decide), b6]
    have d2 : Sd 5 2 = nI N := by rw [eSd, mm_wr_n _ _ (Or.inr (by decide)), mm_wr_n _ _ (Or.inr (by decide)), h38.2, mm_wr_s]
    have d1 : Sd 5 1 = nI L := by rw [eSd, mm_wr_n _ _ (Or.inr (by decide)), mm_wr_n _ _ (Or.inr (by decide)), h38.2, mm_wr_n _ _ (Or.inr (by decide)), b1]
    have d3 : Sd 5 3 = S 6 i := by rw [eSd, mm_wr_n _ _ (Or.inr (by decide)), mm_wr_n _ _ (Or.inr (by decide)), h38.2, mm_wr_n _ _ (Or.inr (by decide)), eSb, mm_wr_n _ _ (Or.inr (by decide)), eSa, mm_wr_s]
    have d4 : Sd 5 4 = ro_1 (S 6) L i := by rw [eSd, mm_wr_n _ _ (Or.inr (by decide)), mm_wr_s, h38.1]; rfl
    have d5 : Sd 5 5 = 0 := by rw [eSd, mm_wr_s]
    have dj : ∀ j, j ≠ 5 → Sd j = S j := fun j hj => by rw [eSd, mm_wr_orow _ _ hj, mm_wr_orow _ _ hj, h38.2, mm_wr_orow _ _ hj, eSb, mm_wr_orow _ _ hj, eSa, mm_wr_orow _ _ hj]
    refine vv_aload_n (pc := 49) 0 dX2_readOrder_49 rfl rfl ?_
    refine vg_X2_at (pc := 50) mw_F_X2_64 dX2_readOrder_50 ?_
    rw [d2]
    refine vv_aload_n (pc := 53) 0 dX2_readOrder_53 rfl rfl ?_
    refine vg_X2_length (pc := 54) mw_F_X2_19 dX2_readOrder_54 ?_
    rw [d1]
    refine vv_icmp_ge (pc := 57) (tgt := 92) dX2_readOrder_57 (by decide) (fun c57 => ?_) (fun c57 => ?_)
    -- t@57 path tt
    · refine vv_aload_n (pc := 92) 0 dX2_readOrder_92 rfl rfl ?_
      refine vv_dup (pc := 93) dX2_readOrder_93 rfl ?_
      refine vg_X2_at (pc := 94) mw_F_X2_64 dX2_readOrder_94 ?_
      refine vv_iconst (pc := 97) (v := 1) dX2_readOrder_97 (by decide) ?_
      refine vv_iadd (pc := 98) dX2_readOrder_98 ?_
      refine vp_X2_at (pc := 99) mw_F_X2_64 dX2_readOrder_99 ?_
      refine vv_iconst (pc := 102) (v := 1) dX2_readOrder_102 (by decide) ?_
      refine vr_z (pc := 103) dX2_readOrder_103 (by first | exact Or.inl rfl | exact Or.inr rfl | assumption) ?_
      have hNL := sp_geN (N := L) (by omega) hN.2 rfl c57
      refine Or.inr ⟨rfl, hiL, ?_, ?_, ?_, ?_, ?_, ?_⟩
      · rw [mm_wr_s, d2, nI_1, ro_n, ← eN, if_neg (fun h => absurd h.1 (by omega))]
      · rw [mm_wr_n _ _ (Or.inr (by decide)), d3]
      · rw [mm_wr_n _ _ (Or.inr (by decide)), d4]
      · rw [mm_wr_n _ _ (Or.inr (by decide)), d5, ro_2, ← eN, if_neg (fun h => absurd h.1 (by omega))]
      · rw [mm_wr_n _ _ (Or.inr (by decide)), d1]
      · exact fun j hj => by rw [mm_wr_orow _ _ hj, dj j hj]
    -- f@57 path tf
    · have hNL : N < L := sp_ltN (N := L) (by omega) hN.2 rfl c57
      refine vv_aload_n (pc := 60) 0 dX2_readOrder_60 rfl rfl ?_
      refine vg_X2_signs (pc := 61) mw_F_X2_9 dX2_readOrder_61 ?_
      refine vv_aload_n (pc := 64) 0 dX2_readOrder_64 rfl rfl ?_
      refine vg_X2_at (pc := 65) mw_F_X2_64 dX2_readOrder_65 ?_
      rw [d2]
      refine vl_6 (pc := 68) (vp_in_nI (by omega) (by decide)) dX2_readOrder_68 ?_
      rw [d6, cl_n (p := N) (by omega)]
      refine vv_bipush (pc := 69) (v := 61) dX2_readOrder_69 (by decide) ?_
      refine vv_icmp_ne (pc := 71) (tgt := 92) dX2_readOrder_71 (by decide) (fun c71 => ?_) (fun c71 => ?_)
      -- t@71 path tft
      · refine vv_aload_n (pc := 92) 0 dX2_readOrder_92 rfl rfl ?_
        refine vv_dup (pc := 93) dX2_readOrder_93 rfl ?_
        refine vg_X2_at (pc := 94) mw_F_X2_64 dX2_readOrder_94 ?_
        refine vv_iconst (pc := 97) (v := 1) dX2_readOrder_97 (by decide) ?_
        refine vv_iadd (pc := 98) dX2_readOrder_98 ?_
        refine vp_X2_at (pc := 99) mw_F_X2_64 dX2_readOrder_99 ?_
        refine vv_iconst (pc := 102) (v := 1) dX2_readOrder_102 (by decide) ?_
        refine vr_z (pc := 103) dX2_readOrder_103 (by first | exact Or.inl rfl | exact Or.inr rfl | assumption) ?_
        have hc : ¬ (N < L ∧ S 6 N = 61) := fun h => c71 h.2
        refine Or.inr ⟨rfl, hiL, ?_, ?_, ?_, ?_, ?_, ?_⟩
        · rw [mm_wr_s, d2, nI_1, ro_n, ← eN, if_neg hc]
        · rw [mm_wr_n _ _ (Or.inr (by decide)), d3]
        · rw [mm_wr_n _ _ (Or.inr (by decide)), d4]
        · rw [mm_wr_n _ _ (Or.inr (by decide)), d5, ro_2, ← eN, if_neg hc]
        · rw [mm_wr_n _ _ (Or.inr (by decide)), d1]
        · exact fun j hj => by rw [mm_wr_orow _ _ hj, dj j hj]
      -- f@71 path tff
      · refine vv_aload_n (pc := 74) 0 dX2_readOrder_74 rfl rfl ?_
        refine vv_dup (pc := 75) dX2_readOrder_75 rfl ?_
        refine vg_X2_at (pc := 76) mw_F_X2_64 dX2_readOrder_76 ?_
        rw [d2]
        refine vv_iconst (pc := 79) (v := 1) dX2_readOrder_79 (by decide) ?_
        refine vv_iadd (pc := 80) dX2_readOrder_80 ?_
        rw [nI_1]
        refine vp_X2_at (pc := 81) mw_F_X2_64 dX2_readOrder_81 ?_
        refine vv_mem (fun Se eSe => ?_)
        have e6 : Se 6 = S 6 := by rw [eSe, mm_wr_orow _ _ (by decide), d6]
        have e2 : Se 5 2 = nI (N + 1) := by rw [eSe, mm_wr_s]
        have e1 : Se 5 1 = nI L := by rw [eSe, mm_wr_n _ _ (Or.inr (by decide)), d1]
        have uN : N + 1 ≤ L := hNL
        refine vv_aload_n (pc := 84) 0 dX2_readOrder_84 rfl rfl ?_
        refine vv_aload_n (pc := 85) 0 dX2_readOrder_85 rfl rfl ?_
        refine vc_Vi (pc := 86) (c_X2_readNumber l G _ e1 hL60 uN e2) mw_M_X2_71 my_X2_readNumber mm_rv_X2 ⟨by decide, by decide⟩ rfl rfl (Nat.le_of_ble_eq_true rfl) dX2_readOrder_86 (fun r86 S86 h86 => ?_)
        refine vp_X2_second (pc := 89) mw_F_X2_78 dX2_readOrder_89 ?_
        refine vv_aload_n (pc := 92) 0 dX2_readOrder_92 rfl rfl ?_
        refine vv_dup (pc := 93) dX2_readOrder_93 rfl ?_
        refine vg_X2_at (pc := 94) mw_F_X2_64 dX2_readOrder_94 ?_
        refine vv_iconst (pc := 97) (v := 1) dX2_readOrder_97 (by decide) ?_
        refine vv_iadd (pc := 98) dX2_readOrder_98 ?_
        refine vp_X2_at (pc := 99) mw_F_X2_64 dX2_readOrder_99 ?_
        refine vv_iconst (pc := 102) (v := 1) dX2_readOrder_102 (by decide) ?_
        refine vr_z (pc := 103) dX2_readOrder_103 (by first | exact Or.inl rfl | exact Or.inr rfl | assumption) ?_
        have h71 := c71
        rw [e6] at h86
        have hc : N < L ∧ S 6 N = 61 := ⟨hNL, h71⟩
        have hr := h86.2
        refine Or.inr ⟨rfl, hiL, ?_, ?_, ?_, ?_, ?_, ?_⟩
        · rw [mm_wr_s, mm_wr_n _ _ (Or.inr (by decide)), hr, mm_wr_s, nI_1, ro_n, ← eN, if_pos hc]
        · rw [mm_wr_n _ _ (Or.inr (by decide)), mm_wr_n _ _ (Or.inr (by decide)), hr, mm_wr_n _ _ (Or.inr (by decide)), eSe, mm_wr_n _ _ (Or.inr (by decide)), d3]
        · rw [mm_wr_n _ _ (Or.inr (by decide)), mm_wr_n _ _ (Or.inr (by decide)), hr, mm_wr_n _ _ (Or.inr (by decide)), eSe, mm_wr_n _ _ (Or.inr (by decide)), d4]
        · rw [mm_wr_n _ _ (Or.inr (by decide)), mm_wr_s, h86.1, ro_2, ← eN, if_pos hc]
        · rw [mm_wr_n _ _ (Or.inr (by decide)), mm_wr_n _ _ (Or.inr (by decide)), hr, mm_wr_n _ _ (Or.inr (by decide)), e1]
        · exact fun j hj => by rw [mm_wr_orow _ _ hj, mm_wr_orow _ _ hj, hr, mm_wr_orow _ _ hj, eSe, mm_wr_orow _ _ hj, dj j hj]
  -- f@8 path f
  · refine vv_iconst (pc := 11) (v := 0) dX2_readOrder_11 (by decide) ?_
    refine vr_z (pc := 12) dX2_readOrder_12 (by first | exact Or.inl rfl | exact Or.inr rfl | assumption) ?_
    refine Or.inl ⟨rfl, ?_, rfl⟩
    rcases Nat.lt_or_ge i L with h | h
    · exact absurd (nI_lt h (by omega)) c8
    · exact h
