set_option maxRecDepth 100000 in
set_option maxHeartbeats 4000000 in
theorem c_X2_append (l : Launch) (G : gG) (S : Mem) {u L : Nat} {x : Int64} (hx : x = lN u) (hu : u < 2 ^ 64) (hL : S 5 1 = nI L) (hL60 : L ≤ 60) : mm_C l G yX2_append cX2_append 5 (some .int) (mm_rm 2 45) [.ref (gad G 5), .long x] S (mm_Qi G (fun r S2 => r = op_put (S 6) L u ∧ (sp_err r ≠ 0 → S2 = S) ∧ (sp_err r = 0 → S2 5 1 = nI (L + sp_nch u 8 0) ∧ S2 6 = sp_put (S 6) L u (sp_nch u 8 0) ∧ L + sp_nch u 8 0 ≤ 60 ∧ sp_nch u 8 0 ≠ 0) ∧ ∀ j k, (j ≠ 5 ∨ k ≠ 1) → j ≠ 6 → S2 j k = S j k)) := by
  obtain ⟨N, hN⟩ : ∃ N, N = sp_nch u 8 0 := ⟨_, rfl⟩
  have hN8 : N ≤ 8 := by have := sp_nch_le u 8 0; omega
  refine mm_ofV (own := RX2) (by decide +kernel) rfl (Nat.le_of_ble_eq_true rfl) (ls0 := [(0, .ref (gad G 5)), (1, .long x)]) rfl ?_
  refine vv_lload_n (pc := 0) 1 dX2_append_0 rfl rfl ?_
  refine vc_Si (pc := 1) (c_X2_charactersIn l G _ hx hu) mw_M_X2_15 my_X2_charactersIn ⟨by decide, by decide⟩ rfl rfl (Nat.le_of_ble_eq_true rfl) dX2_append_1 (fun r1 S1 h1 => ?_)
  obtain ⟨qS1, h1⟩ := h1
  replace qS1 := qS1.symm
  subst qS1
  refine vv_topi (fun x3p4 e3p4 => ?_)
  refine vv_istore_n (pc := 4) (i := 3) (ls' := [(3, .int x3p4), (0, .ref (gad G 5)), (1, .long x)]) dX2_append_4 rfl (by decide) rfl ?_
  rw [h1, ← hN] at e3p4
  refine vv_iload_n (pc := 5) 0 dX2_append_5 rfl rfl ?_
  refine vv_if_gt (pc := 6) (tgt := 12) dX2_append_6 (by decide) (fun c6 => ?_) (fun c6 => ?_)
  -- t@6 path t
  · have hN0 : N ≠ 0 := fun h => by rw [e3p4, h] at c6; exact absurd c6 (by decide)
    refine vv_aload_n (pc := 12) 1 dX2_append_12 rfl rfl ?_
    refine vg_X2_length (pc := 13) mw_F_X2_19 dX2_append_13 ?_
    refine vv_iload_n (pc := 16) 0 dX2_append_16 rfl rfl ?_
    refine vv_iadd (pc := 17) dX2_append_17 ?_
    refine vv_bipush (pc := 18) (v := 60) dX2_append_18 (by decide) ?_
    refine vv_icmp_le (pc := 20) (tgt := 26) dX2_append_20 (by decide) (fun c20 => ?_) (fun c20 => ?_)
    -- t@20 path tt
    · have hLN : L + N ≤ 60 := by
        rw [hL, e3p4, nI_add] at c20
        rcases Nat.lt_or_ge 60 (L + N) with h | h
        · exact absurd c20 (nI_ge (a := 60) h (by omega))
        · exact h
      refine vv_iload_n (pc := 26) 0 dX2_append_26 rfl rfl ?_
      refine vv_iconst (pc := 27) (v := 1) dX2_append_27 (by decide) ?_
      refine vv_isub (pc := 28) dX2_append_28 ?_
      refine vv_topi (fun x4p29 e4p29 => ?_)
      refine vv_istore (pc := 29) (i := 4) (ls' := [(4, .int x4p29), (3, .int x3p4), (0, .ref (gad G 5)), (1, .long x)]) dX2_append_29 (by decide) rfl ?_
      have lp31 : ∀ (n : Nat) (q m : Nat) (x4 : Int32) (S1 : Mem), 10 ≤ n + q → m + q = N → x4 = nI m - 1 → S1 5 1 = nI (L + q) → (∀ i, S1 6 i = if L ≤ i ∧ i < L + q then nI (sp_by u (N - 1 - (i - L))) else S 6 i) → (∀ j k, (j ≠ 5 ∨ k ≠ 1) → j ≠ 6 → S1 j k = S j k) → mm_V l G RX2 cX2_append 5 (some .int) (mm_rm 2 45) 0 0 (fun _ => True) (fun _ => mm_F G) (mm_Qf G (mm_Qi G (fun r S2 => r = op_put (S 6) L u ∧ (sp_err r ≠ 0 → S2 = S) ∧ (sp_err r = 0 → S2 5 1 = nI (L + sp_nch u 8 0) ∧ S2 6 = sp_put (S 6) L u (sp_nch u 8 0) ∧ L + sp_nch u 8 0 ≤ 60 ∧ sp_nch u 8 0 ≠ 0) ∧ ∀ j k, (j ≠ 5 ∨ k ≠ 1) → j ≠ 6 → S2 j k = S j k))) S1 31 [(0, .ref (gad G 5)), (1, .long x), (3, .int x3p4), (4, .int x4)] [] := by
        intro n
        induction n with
        | zero =>
          intro q m x4 S1 hn hmq e4 h51 h6 ho
          exact absurd hn (by omega)
        | succ n ih =>
          intro q m x4 S1 hn hmq e4 h51 h6 ho
          refine vv_iload (pc := 31) 3 dX2_append_31 rfl ?_
          refine vv_if_lt (pc := 33) (tgt := 68) dX2_append_33 (by decide) (fun c33 => ?_) (fun c33 => ?_)
          -- t@33 path ttL31t
          · refine vv_aload_n (pc := 68) 0 dX2_append_68 rfl rfl ?_
            refine vg_X2_length (pc := 69) mw_F_X2_19 dX2_append_69 ?_
            refine vr_i (pc := 72) dX2_append_72 ?_
            have hm0 : m = 0 := by
              rcases m with _ | m1
              · rfl
              · rw [e4, nI_m1] at c33; exact absurd c33 (nI_pos (by omega))
            subst hm0
            have hqN : q = N := by omega
            subst hqN
            have e : op_put (S 6) L u = nI (L + q) := by unfold op_put; rw [← hN, if_neg hN0, if_neg (by omega)]
            refine ⟨h51.trans e.symm, fun h => absurd (by rw [h51]; exact sp_err_nI (by omega)) h, fun _ => ⟨by rw [← hN]; exact h51, ?_, by omega, by omega⟩, ho⟩
            funext i
            rw [h6 i, ← hN]
            rfl
          -- f@33 path ttL31f
          · obtain ⟨m1, rfl⟩ : ∃ m1, m = m1 + 1 := by
              rcases m with _ | m1
              · rw [e4] at c33; exact absurd (by decide) c33
              · exact ⟨m1, rfl⟩
            refine vv_aload_n (pc := 36) 0 dX2_append_36 rfl rfl ?_
            refine vg_X2_signs (pc := 37) mw_F_X2_9 dX2_append_37 ?_
            refine vv_aload_n (pc := 40) 0 dX2_append_40 rfl rfl ?_
            refine vg_X2_length (pc := 41) mw_F_X2_19 dX2_append_41 ?_
            rw [h51]
            refine vv_lload_n (pc := 44) 1 dX2_append_44 rfl rfl ?_
            refine vv_iload (pc := 45) 3 dX2_append_45 rfl ?_
            refine vc_Si (pc := 47) (c_X2_codeAt l G _ hx (k := m1) (by rw [e4, nI_m1]) hu (by omega)) mw_M_X2_23 my_X2_codeAt ⟨by decide, by decide⟩ rfl rfl (Nat.le_of_ble_eq_true rfl) dX2_append_47 (fun r47 S47 h47 => ?_)
            obtain ⟨qS47, h47⟩ := h47
            replace qS47 := qS47.symm
            subst qS47
            rw [h47]
            refine vv_i2c (pc := 50) dX2_append_50 ?_
            rw [i2c_n (by have := sp_by_lt u m1; omega)]
            refine vs_6 (pc := 51) (ok_char (by have := sp_by_lt u m1; omega)) (vp_in_nI (by omega) (by decide)) dX2_append_51 ?_
            rw [cl_n (by omega)]
            refine vv_mem (fun Sc eSc => ?_)
            have hSc5 : Sc 5 = S1 5 := by rw [eSc, mm_wr_orow _ _ (by decide)]
            refine vv_aload_n (pc := 52) 0 dX2_append_52 rfl rfl ?_
            refine vv_dup (pc := 53) dX2_append_53 rfl ?_
            refine vg_X2_length (pc := 54) mw_F_X2_19 dX2_append_54 ?_
            refine vv_iconst (pc := 57) (v := 1) dX2_append_57 (by decide) ?_
            refine vv_iadd (pc := 58) dX2_append_58 ?_
            refine vp_X2_length (pc := 59) mw_F_X2_19 dX2_append_59 ?_
            rw [hSc5, h51, nI_1]
            obtain ⟨x4p62, e4p62⟩ : ∃ y : Int32, y = x4 + (-1) := ⟨_, rfl⟩
            refine vv_iinc (pc := 62) (q := 3) (v := x4p62) (ls' := [(4, .int x4p62), (0, .ref (gad G 5)), (1, .long x), (3, .int x3p4)]) dX2_append_62 rfl (by rw [e4p62]; rfl) (by decide) rfl ?_
            refine vv_goto (pc := 65) (tgt := 31) dX2_append_65 (by decide) ?_
            have hn6 : ∀ i, mm_wr Sc 5 1 (nI (L + q + 1)) 6 i = if L ≤ i ∧ i < L + (q + 1) then nI (sp_by u (N - 1 - (i - L))) else S 6 i := by
              intro i
              rw [mm_wr_orow _ _ (by decide), eSc]
              by_cases e : i = L + q
              · subst e
                rw [mm_wr_s, if_pos (by omega), show N - 1 - (L + q - L) = m1 by omega]
              · rw [mm_wr_n _ _ (Or.inr e), h6 i]
                by_cases g : L ≤ i ∧ i < L + q
                · rw [if_pos g, if_pos (by omega)]
                · rw [if_neg g, if_neg (by omega)]
            refine vv_sub [1, 2, 3, 0] (ls' := [(0, _), (1, _), (3, _), (4, _)]) rfl ?_
            exact ih (q + 1) m1 x4p62 _ (by omega) (by omega) (by rw [e4p62, e4, nI_m1, Int32.sub_eq_add_neg]) (by rw [mm_wr_s]; rfl) hn6 (fun j k hj h6j => by rw [mm_wr_n _ _ hj, eSc, mm_wr_orow _ _ h6j]; exact ho j k hj h6j)
      refine vv_sub [2, 3, 1, 0] (ls' := [(0, _), (1, _), (3, _), (4, _)]) rfl ?_
      exact lp31 10 0 N x4p29 S (by omega) (by omega) (by rw [e4p29, e3p4]) hL (fun i => by rw [if_neg (by omega)]) (fun _ _ _ _ => rfl)
    -- f@20 path tf
    · refine vv_bipush (pc := 23) (v := (-4)) dX2_append_23 (by decide) ?_
      refine vr_i (pc := 25) dX2_append_25 ?_
      have hLN : 60 < L + N := by
        rw [hL, e3p4, nI_add] at c20
        rcases Nat.lt_or_ge 60 (L + N) with h | h
        · exact h
        · exact absurd (nI_le (b := 60) h (by decide)) c20
      have e : op_put (S 6) L u = -4 := by unfold op_put; rw [← hN, if_neg hN0, if_pos hLN]
      rw [e]
      exact ⟨rfl, fun _ => rfl, fun h => absurd h (by decide), fun _ _ _ _ => rfl⟩
  -- f@6 path f
  · refine vv_bipush (pc := 9) (v := (-2)) dX2_append_9 (by decide) ?_
    refine vr_i (pc := 11) dX2_append_11 ?_
    have hN0 : N = 0 := by
      rw [e3p4] at c6
      rcases Nat.eq_zero_or_pos N with h | h
      · exact h
      · exact absurd (nI_lt (a := 0) h (by omega)) c6
    have e : op_put (S 6) L u = -2 := by unfold op_put; rw [← hN, if_pos hN0]
    rw [e]
    exact ⟨rfl, fun _ => rfl, fun h => absurd h (by decide), fun _ _ _ _ => rfl⟩
set_option maxRecDepth 100000 in
set_option maxHeartbeats 4000000 in
theorem c_X2_empty (l : Launch) (G : gG) (S : Mem) : mm_C l G yX2_empty cX2_empty 2 (some .int) (mm_rm 0 0) [.ref (gad G 5)] S (mm_Qi G (fun r S2 => r = S 5 1 ∧ S2 = mm_wr S 5 1 0)) := by
  refine mm_ofV (own := RX2) (by decide +kernel) rfl (Nat.le_of_ble_eq_true rfl) (ls0 := [(0, .ref (gad G 5))]) rfl ?_
  refine vv_aload_n (pc := 0) 0 dX2_empty_0 rfl rfl ?_
  refine vg_X2_length (pc := 1) mw_F_X2_19 dX2_empty_1 ?_
  refine vv_topi (fun x1p4 e1p4 => ?_)
  refine vv_istore_n (pc := 4) (i := 1) (ls' := [(1, .int x1p4), (0, .ref (gad G 5))]) dX2_empty_4 rfl (by decide) rfl ?_
  refine vv_aload_n (pc := 5) 1 dX2_empty_5 rfl rfl ?_
  refine vv_iconst (pc := 6) (v := 0) dX2_empty_6 (by decide) ?_
  refine vp_X2_length (pc := 7) mw_F_X2_19 dX2_empty_7 ?_
  refine vv_iload_n (pc := 10) 0 dX2_empty_10 rfl rfl ?_
  refine vr_i (pc := 11) dX2_empty_11 ?_
  exact ⟨e1p4, rfl⟩
set_option maxRecDepth 100000 in
set_option maxHeartbeats 4000000 in
theorem c_X2_startReading (l : Launch) (G : gG) (S : Mem) : mm_C l G yX2_startReading cX2_startReading 1 (none) (mm_rm 0 0) [.ref (gad G 5)] S (mm_Qv G (fun S2 => S2 = mm_wr S 5 2 0)) := by
  refine mm_ofV (own := RX2) (by decide +kernel) rfl (Nat.le_of_ble_eq_true rfl) (ls0 := [(0, .ref (gad G 5))]) rfl ?_
  refine vv_aload_n (pc := 0) 0 dX2_startReading_0 rfl rfl ?_
  refine vv_iconst (pc := 1) (v := 0) dX2_startReading_1 (by decide) ?_
  refine vp_X2_at (pc := 2) mw_F_X2_64 dX2_startReading_2 ?_
  refine vr_v (pc := 5) dX2_startReading_5 ?_
  rfl
set_option maxRecDepth 100000 in
set_option maxHeartbeats 4000000 in
theorem c_X2_firstFault (l : Launch) (G : gG) (S : Mem) {L : Nat} (hL : S 5 1 = nI L) (hL60 : L ≤ 60) : mm_C l G yX2_firstFault cX2_firstFault 2 (some .int) (mm_rm 3 63) [.ref (gad G 5)] S (mm_Qi G (fun r S2 => r = op_ff (S 6) L (S 5 8) ∧ ∃ d e v, S2 = mm_pd S d e v)) := by
  refine mm_ofV (own := RX2) (by decide +kernel) rfl (Nat.le_of_ble_eq_true rfl) (ls0 := [(0, .ref (gad G 5))]) rfl ?_
  refine vv_aload_n (pc := 0) 0 dX2_firstFault_0 rfl rfl ?_
  refine vv_iconst (pc := 1) (v := 0) dX2_firstFault_1 (by decide) ?_
  refine vp_X2_due (pc := 2) mw_F_X2_31 dX2_firstFault_2 ?_
  refine vv_aload_n (pc := 5) 0 dX2_firstFault_5 rfl rfl ?_
  refine vv_iconst (pc := 6) (v := 0) dX2_firstFault_6 (by decide) ?_
  refine vp_X2_equalsDue (pc := 7) (by first | exact Or.inl rfl | exact Or.inr rfl | assumption) mw_F_X2_34 dX2_firstFault_7 ?_
  refine vv_iconst (pc := 10) (v := 0) dX2_firstFault_10 (by decide) ?_
  refine vv_topi (fun x1p11 e1p11 => ?_)
  refine vv_istore_n (pc := 11) (i := 1) (ls' := [(1, .int x1p11), (0, .ref (gad G 5))]) dX2_firstFault_11 rfl (by decide) rfl ?_
  obtain ⟨F, eF⟩ : ∃ F, F = op_ff (S 6) L (S 5 8) := ⟨_, rfl⟩
  have lp12 : ∀ (n : Nat) (i k : Nat) (x1 d e v : Int32), 62 ≤ n + i → i + k = L → x1 = nI i → au_f (S 6) L k i d e v = F → mm_V l G RX2 cX2_firstFault 2 (some .int) (mm_rm 3 63) 0 0 (fun _ => True) (fun _ => mm_F G) (mm_Qf G (mm_Qi G (fun r S2 => r = op_ff (S 6) L (S 5 8) ∧ ∃ d e v, S2 = mm_pd S d e v))) (mm_pd S d e v) 12 [(0, .ref (gad G 5)), (1, .int x1)] [] := by
    intro n
    induction n with
    | zero =>
      intro i k x1 d e v hn hik e1 hF
      exact absurd hn (by omega)
    | succ n ih =>
      intro i k x1 d e v hn hik e1 hF
      refine vv_iload_n (pc := 12) 1 dX2_firstFault_12 rfl rfl ?_
      refine vv_aload_n (pc := 13) 0 dX2_firstFault_13 rfl rfl ?_
      refine vg_X2_length (pc := 14) mw_F_X2_19 dX2_firstFault_14 ?_
      refine vv_icmp_ge (pc := 17) (tgt := 41) dX2_firstFault_17 (by decide) (fun c17 => ?_) (fun c17 => ?_)
      -- t@17 path L12t
      · rw [mm_pd_5 S d e v 1, if_neg (by decide), if_neg (by decide), if_neg (by decide), hL] at c17
        have hiL := sp_geN (N := L) (by omega) (by omega) e1 c17
        obtain rfl : k = 0 := by omega
        rw [au_f] at hF
        refine vv_aload_n (pc := 41) 0 dX2_firstFault_41 rfl rfl ?_
        refine vg_X2_due (pc := 42) mw_F_X2_31 dX2_firstFault_42 ?_
        rw [mm_pd_5 S d e v 6, if_pos rfl]
        refine vv_iconst (pc := 45) (v := 3) dX2_firstFault_45 (by decide) ?_
        refine vv_icmp_eq (pc := 46) (tgt := 64) dX2_firstFault_46 (by decide) (fun c46 => ?_) (fun c46 => ?_)
        -- t@46 path L12tt
        · refine vv_iconst (pc := 64) (v := 1) dX2_firstFault_64 (by decide) ?_
          refine vv_goto (pc := 65) (tgt := 69) dX2_firstFault_65 (by decide) ?_
          refine vv_topi (fun x1p69 e1p69 => ?_)
          refine vv_istore_n (pc := 69) (i := 1) (ls' := [(1, .int x1p69), (0, .ref (gad G 5))]) dX2_firstFault_69 rfl (by decide) rfl ?_
          refine vv_iload_n (pc := 70) 0 dX2_firstFault_70 rfl rfl ?_
          refine vv_if_eq (pc := 71) (tgt := 79) dX2_firstFault_71 (by decide) (fun c71 => ?_) (fun c71 => ?_)
          -- t@71 path L12ttt
          · refine vv_aload_n (pc := 79) 1 dX2_firstFault_79 rfl rfl ?_
            refine vg_X2_length (pc := 80) mw_F_X2_19 dX2_firstFault_80 ?_
            refine vr_i (pc := 83) dX2_firstFault_83 ?_
            rw [e1p69] at c71
            exact absurd c71 (by decide)
          -- f@71 path L12ttf
          · refine vv_bipush (pc := 74) (v := (-6)) dX2_firstFault_74 (by decide) ?_
            refine vv_goto (pc := 76) (tgt := 83) dX2_firstFault_76 (by decide) ?_
            refine vr_i (pc := 83) dX2_firstFault_83 ?_
            refine ⟨?_, d, e, v, rfl⟩
            rw [← eF, ← hF, if_pos (Or.inl c46)]
        -- f@46 path L12tf
        · refine vv_aload_n (pc := 49) 0 dX2_firstFault_49 rfl rfl ?_
          refine vg_X2_due (pc := 50) mw_F_X2_31 dX2_firstFault_50 ?_
          rw [mm_pd_5 S d e v 6, if_pos rfl]
          refine vv_iconst (pc := 53) (v := 2) dX2_firstFault_53 (by decide) ?_
          refine vv_icmp_ne (pc := 54) (tgt := 68) dX2_firstFault_54 (by decide) (fun c54 => ?_) (fun c54 => ?_)
          -- t@54 path L12tft
          · refine vv_iconst (pc := 68) (v := 0) dX2_firstFault_68 (by decide) ?_
            refine vv_topi (fun x1p69 e1p69 => ?_)
            refine vv_istore_n (pc := 69) (i := 1) (ls' := [(1, .int x1p69), (0, .ref (gad G 5))]) dX2_firstFault_69 rfl (by decide) rfl ?_
            refine vv_iload_n (pc := 70) 0 dX2_firstFault_70 rfl rfl ?_
            refine vv_if_eq (pc := 71) (tgt := 79) dX2_firstFault_71 (by decide) (fun c71 => ?_) (fun c71 => ?_)
            -- t@71 path L12tftt
            · refine vv_aload_n (pc := 79) 1 dX2_firstFault_79 rfl rfl ?_
              refine vg_X2_length (pc := 80) mw_F_X2_19 dX2_firstFault_80 ?_
              refine vr_i (pc := 83) dX2_firstFault_83 ?_
              refine ⟨?_, d, e, v, rfl⟩
              rw [← eF, ← hF, if_neg (fun h => h.elim c46 (fun h => c54 h.1))]
              rw [mm_pd_5 S d e v 1, if_neg (by decide), if_neg (by decide), if_neg (by decide), hL]
            -- f@71 path L12tftf
            · refine vv_bipush (pc := 74) (v := (-6)) dX2_firstFault_74 (by decide) ?_
              refine vv_goto (pc := 76) (tgt := 83) dX2_firstFault_76 (by decide) ?_
              refine vr_i (pc := 83) dX2_firstFault_83 ?_
              exact absurd e1p69 c71
          -- f@54 path L12tff
          · refine vv_aload_n (pc := 57) 0 dX2_firstFault_57 rfl rfl ?_
            refine vg_X2_equalsDue (pc := 58) mw_F_X2_34 dX2_firstFault_58 ?_
            rw [mm_pd_5 S d e v 7, if_neg (by decide), if_pos rfl]
            refine vv_if_ne (pc := 61) (tgt := 68) dX2_firstFault_61 (by decide) (fun c61 => ?_) (fun c61 => ?_)
            -- t@61 path L12tfft
            · refine vv_iconst (pc := 68) (v := 0) dX2_firstFault_68 (by decide) ?_
              refine vv_topi (fun x1p69 e1p69 => ?_)
              refine vv_istore_n (pc := 69) (i := 1) (ls' := [(1, .int x1p69), (0, .ref (gad G 5))]) dX2_firstFault_69 rfl (by decide) rfl ?_
              refine vv_iload_n (pc := 70) 0 dX2_firstFault_70 rfl rfl ?_
              refine vv_if_eq (pc := 71) (tgt := 79) dX2_firstFault_71 (by decide) (fun c71 => ?_) (fun c71 => ?_)
              -- t@71 path L12tfftt
              · refine vv_aload_n (pc := 79) 1 dX2_firstFault_79 rfl rfl ?_
                refine vg_X2_length (pc := 80) mw_F_X2_19 dX2_firstFault_80 ?_
                refine vr_i (pc := 83) dX2_firstFault_83 ?_
                refine ⟨?_, d, e, v, rfl⟩
                rw [← eF, ← hF, if_neg (fun h => h.elim c46 (fun h => c61 h.2))]
                rw [mm_pd_5 S d e v 1, if_neg (by decide), if_neg (by decide), if_neg (by decide), hL]
              -- f@71 path L12tfftf
              · refine vv_bipush (pc := 74) (v := (-6)) dX2_firstFault_74 (by decide) ?_
                refine vv_goto (pc := 76) (tgt := 83) dX2_firstFault_76 (by decide) ?_
                refine vr_i (pc := 83) dX2_firstFault_83 ?_
                exact absurd e1p69 c71
            -- f@61 path L12tfff
            · refine vv_iconst (pc := 64) (v := 1) dX2_firstFault_64 (by decide) ?_
              refine vv_goto (pc := 65) (tgt := 69) dX2_firstFault_65 (by decide) ?_
              refine vv_topi (fun x1p69 e1p69 => ?_)
              refine vv_istore_n (pc := 69) (i := 1) (ls' := [(1, .int x1p69), (0, .ref (gad G 5))]) dX2_firstFault_69 rfl (by decide) rfl ?_
              refine vv_iload_n (pc := 70) 0 dX2_firstFault_70 rfl rfl ?_
              refine vv_if_eq (pc := 71) (tgt := 79) dX2_firstFault_71 (by decide) (fun c71 => ?_) (fun c71 => ?_)
              -- t@71 path L12tffft
              · refine vv_aload_n (pc := 79) 1 dX2_firstFault_79 rfl rfl ?_
                refine vg_X2_length (pc := 80) mw_F_X2_19 dX2_firstFault_80 ?_
                refine vr_i (pc := 83) dX2_firstFault_83 ?_
                rw [e1p69] at c71
                exact absurd c71 (by decide)
              -- f@71 path L12tffff
              · refine vv_bipush (pc := 74) (v := (-6)) dX2_firstFault_74 (by decide) ?_
                refine vv_goto (pc := 76) (tgt := 83) dX2_firstFault_76 (by decide) ?_
                refine vr_i (pc := 83) dX2_firstFault_83 ?_
                refine ⟨?_, d, e, v, rfl⟩
                rw [← eF, ← hF, if_pos (Or.inr ⟨c54, c61⟩)]
      -- f@17 path L12f
      · rw [mm_pd_5, if_neg (by decide), if_neg (by decide), if_neg (by decide), hL] at c17
        have hiL : i < L := sp_ltN (N := L) (by omega) (by omega) e1 c17
        obtain ⟨k1, rfl⟩ : ∃ k1, k = k1 + 1 := ⟨k - 1, by omega⟩
        rw [au_f] at hF
        refine vv_aload_n (pc := 20) 0 dX2_firstFault_20 rfl rfl ?_
        refine vv_aload_n (pc := 21) 0 dX2_firstFault_21 rfl rfl ?_
        refine vg_X2_signs (pc := 22) mw_F_X2_9 dX2_firstFault_22 ?_
        refine vv_iload_n (pc := 25) 1 dX2_firstFault_25 rfl rfl ?_
        refine vl_6 (pc := 26) (by rw [e1]; exact vp_in_nI (by omega) (by decide)) dX2_firstFault_26 ?_
        rw [mm_pd_o S d e v (show (6 : Nat) ≠ 5 by decide), show x1.toNatClampNeg = i by rw [e1, cl_n (by omega)]]
        refine vc_Vi (pc := 27) (c_X2_canStand l G _ _) mw_M_X2_38 my_X2_canStand mm_rv_X2 ⟨by decide, by decide⟩ rfl rfl (Nat.le_of_ble_eq_true rfl) dX2_firstFault_27 (fun r27 S27 h27 => ?_)
        rw [mm_pd_5 S d e v 6, mm_pd_5 S d e v 7, mm_pd_5 S d e v 8, mm_pd_pd] at h27
        simp only [if_true, if_neg (show ¬ (7 : Nat) = 6 by decide), if_neg (show ¬ (8 : Nat) = 6 by decide), if_neg (show ¬ (8 : Nat) = 7 by decide)] at h27
        refine vv_if_ne (pc := 30) (tgt := 35) dX2_firstFault_30 (by decide) (fun c30 => ?_) (fun c30 => ?_)
        -- t@30 path L12ft
        · rw [if_neg (fun h => c30 (h27.2.trans h))] at hF
          rw [h27.1]
          obtain ⟨x1p35, e1p35⟩ : ∃ y : Int32, y = x1 + 1 := ⟨_, rfl⟩
          refine vv_iinc (pc := 35) (q := 1) (v := x1p35) (ls' := [(1, .int x1p35), (0, .ref (gad G 5))]) dX2_firstFault_35 rfl (by rw [e1p35]; rfl) (by decide) rfl ?_
          refine vv_goto (pc := 38) (tgt := 12) dX2_firstFault_38 (by decide) ?_
          refine vv_sub [1, 0] (ls' := [(0, _), (1, _)]) rfl ?_
          exact ih (i + 1) k1 x1p35 _ _ _ (by omega) (by omega) (by rw [e1p35, e1]; exact nI_1 i) hF
        -- f@30 path L12ff
        · refine vv_iload_n (pc := 33) 1 dX2_firstFault_33 rfl rfl ?_
          refine vr_i (pc := 34) dX2_firstFault_34 ?_
          rw [if_pos (h27.2.symm.trans c30)] at hF
          exact ⟨by rw [← eF, ← hF, e1], _, _, _, h27.1⟩
  refine vv_sub [1, 0] (ls' := [(0, _), (1, _)]) rfl ?_
  rw [mm_pd_7, mm_pd_6, mm_pd_pd, mm_pd_5, mm_pd_5]
  simp only [if_true, if_neg (show ¬ (8 : Nat) = 6 by decide), if_neg (show ¬ (8 : Nat) = 7 by decide)]
  exact lp12 62 0 L x1p11 0 0 (S 5 8) (by omega) (by omega) e1p11 eF.symm
