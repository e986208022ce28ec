set_option maxRecDepth 100000 in
set_option maxHeartbeats 4000000 in
theorem c_X2_isDigit (l : Launch) (G : gG) (S : Mem) (c : Int32) : mm_C l G yX2_isDigit cX2_isDigit 1 (some .boolean) (mm_rm 0 0) [.int c] S (mm_Qi G (fun r S2 => S2 = S ∧ r = sp_in c 48 57)) := by
  refine mm_ofV (own := RX2) (by decide +kernel) rfl (Nat.le_of_ble_eq_true rfl) (ls0 := [(0, .int c)]) rfl ?_
  refine vv_iload_n (pc := 0) 0 dX2_isDigit_0 rfl rfl ?_
  refine vv_bipush (pc := 1) (v := 48) dX2_isDigit_1 (by decide) ?_
  refine vv_icmp_lt (pc := 3) (tgt := 16) dX2_isDigit_3 (by decide) (fun c3 => ?_) (fun c3 => ?_)
  -- t@3 path t
  · refine vv_iconst (pc := 16) (v := 0) dX2_isDigit_16 (by decide) ?_
    refine vr_z (pc := 17) dX2_isDigit_17 (by first | exact Or.inl rfl | exact Or.inr rfl | assumption) ?_
    refine ⟨rfl, ?_⟩
    unfold sp_in
    split <;> first | rfl | (exfalso; simp only [Int32.lt_iff_toInt_lt, Int32.le_iff_toInt_le, ← Int32.toInt_inj, ne_eq] at *; omega)
  -- f@3 path f
  · refine vv_iload_n (pc := 6) 0 dX2_isDigit_6 rfl rfl ?_
    refine vv_bipush (pc := 7) (v := 57) dX2_isDigit_7 (by decide) ?_
    refine vv_icmp_gt (pc := 9) (tgt := 16) dX2_isDigit_9 (by decide) (fun c9 => ?_) (fun c9 => ?_)
    -- t@9 path ft
    · refine vv_iconst (pc := 16) (v := 0) dX2_isDigit_16 (by decide) ?_
      refine vr_z (pc := 17) dX2_isDigit_17 (by first | exact Or.inl rfl | exact Or.inr rfl | assumption) ?_
      refine ⟨rfl, ?_⟩
      unfold sp_in
      split <;> first | rfl | (exfalso; simp only [Int32.lt_iff_toInt_lt, Int32.le_iff_toInt_le, ← Int32.toInt_inj, ne_eq] at *; omega)
    -- f@9 path ff
    · refine vv_iconst (pc := 12) (v := 1) dX2_isDigit_12 (by decide) ?_
      refine vv_goto (pc := 13) (tgt := 17) dX2_isDigit_13 (by decide) ?_
      refine vr_z (pc := 17) dX2_isDigit_17 (by first | exact Or.inl rfl | exact Or.inr rfl | assumption) ?_
      refine ⟨rfl, ?_⟩
      unfold sp_in
      split <;> first | rfl | (exfalso; simp only [Int32.lt_iff_toInt_lt, Int32.le_iff_toInt_le, ← Int32.toInt_inj, ne_eq] at *; omega)
set_option maxRecDepth 100000 in
set_option maxHeartbeats 4000000 in
theorem c_X2_codeAt (l : Launch) (G : gG) (S : Mem) {u k : Nat} {x : Int64} {b : Int32} (hx : x = lN u) (hb : b = nI k) (hu : u < 2 ^ 64) (hk : k < 8) : mm_C l G yX2_codeAt cX2_codeAt 3 (some .int) (mm_rm 0 0) [.long x, .int b] S (mm_Qi G (fun r S2 => S2 = S ∧ r = nI (sp_by u k))) := by
  refine mm_ofV (own := RX2) (by decide +kernel) rfl (Nat.le_of_ble_eq_true rfl) (ls0 := [(0, .long x), (2, .int b)]) rfl ?_
  refine vv_lload_n (pc := 0) 0 dX2_codeAt_0 rfl rfl ?_
  refine vv_bipush (pc := 1) (v := 8) dX2_codeAt_1 (by decide) ?_
  refine vv_iload_n (pc := 3) 1 dX2_codeAt_3 rfl rfl ?_
  refine vv_imul (pc := 4) dX2_codeAt_4 ?_
  refine vv_lushr (pc := 5) dX2_codeAt_5 rfl ?_
  refine vv_l2i (pc := 6) dX2_codeAt_6 ?_
  refine vv_sipush (pc := 7) (v := 255) dX2_codeAt_7 (by decide) ?_
  refine vv_iand (pc := 10) dX2_codeAt_10 ?_
  refine vr_i (pc := 11) dX2_codeAt_11 ?_
  subst hx hb
  exact ⟨rfl, sp_code hu hk⟩
set_option maxRecDepth 100000 in
set_option maxHeartbeats 4000000 in
theorem c_X2_charactersIn (l : Launch) (G : gG) (S : Mem) {u : Nat} {x : Int64} (hx : x = lN u) (hu : u < 2 ^ 64) : mm_C l G yX2_charactersIn cX2_charactersIn 4 (some .int) (mm_rm 1 22) [.long x] S (mm_Qi G (fun r S2 => S2 = S ∧ r = nI (sp_nch u 8 0))) := by
  refine mm_ofV (own := RX2) (by decide +kernel) rfl (Nat.le_of_ble_eq_true rfl) (ls0 := [(0, .long x)]) rfl ?_
  refine vv_iconst (pc := 0) (v := 0) dX2_charactersIn_0 (by decide) ?_
  refine vv_topi (fun x2p1 e2p1 => ?_)
  refine vv_istore_n (pc := 1) (i := 2) (ls' := [(2, .int x2p1), (0, .long x)]) dX2_charactersIn_1 rfl (by decide) rfl ?_
  obtain ⟨F, eF⟩ : ∃ F, F = sp_nch u 8 0 := ⟨_, rfl⟩
  have lp2 : ∀ (n : Nat) (k r : Nat) (x2 : Int32), 9 ≤ n + k → k + r = 8 → x2 = nI k → sp_nch u r k = F → mm_V l G RX2 cX2_charactersIn 4 (some .int) (mm_rm 1 22) 0 0 (fun _ => True) (fun _ => mm_F G) (mm_Qf G (mm_Qi G (fun r S2 => S2 = S ∧ r = nI (sp_nch u 8 0)))) S 2 [(0, .long x), (2, .int x2)] [] := by
    intro n
    induction n with
    | zero =>
      intro k r x2 hn hkr e2 hF
      exact absurd hn (by omega)
    | succ n ih =>
      intro k r x2 hn hkr e2 hF
      refine vv_iload_n (pc := 2) 1 dX2_charactersIn_2 rfl rfl ?_
      refine vv_bipush (pc := 3) (v := 8) dX2_charactersIn_3 (by decide) ?_
      refine vv_icmp_ge (pc := 5) (tgt := 54) dX2_charactersIn_5 (by decide) (fun c5 => ?_) (fun c5 => ?_)
      -- t@5 path L2t
      · refine vv_bipush (pc := 54) (v := 8) dX2_charactersIn_54 (by decide) ?_
        refine vr_i (pc := 56) dX2_charactersIn_56 ?_
        have hk8 := sp_geN (N := 8) (by decide) (by omega) e2 c5
        obtain rfl : r = 0 := by omega
        exact ⟨rfl, by rw [← eF, ← hF, hk8]; rfl⟩
      -- f@5 path L2f
      · have hk8 : k < 8 := sp_ltN (N := 8) (by decide) (by omega) e2 c5
        obtain ⟨r1, rfl⟩ : ∃ r1, r = r1 + 1 := ⟨r - 1, by omega⟩
        rw [sp_nch] at hF
        have hby := sp_by_lt u k
        refine vv_lload_n (pc := 8) 0 dX2_charactersIn_8 rfl rfl ?_
        refine vv_iload_n (pc := 9) 1 dX2_charactersIn_9 rfl rfl ?_
        refine vc_Si (pc := 10) (c_X2_codeAt l G _ hx e2 hu hk8) mw_M_X2_23 my_X2_codeAt ⟨by decide, by decide⟩ rfl rfl (Nat.le_of_ble_eq_true rfl) dX2_charactersIn_10 (fun r10 S10 h10 => ?_)
        obtain ⟨qS10, h10⟩ := h10
        replace qS10 := qS10.symm
        subst qS10
        refine vv_topi (fun x3p13 e3p13 => ?_)
        refine vv_istore_n (pc := 13) (i := 3) (ls' := [(3, .int x3p13), (0, .long x), (2, .int x2)]) dX2_charactersIn_13 rfl (by decide) rfl ?_
        rw [h10] at e3p13
        refine vv_iload_n (pc := 14) 0 dX2_charactersIn_14 rfl rfl ?_
        refine vv_if_ne (pc := 15) (tgt := 35) dX2_charactersIn_15 (by decide) (fun c15 => ?_) (fun c15 => ?_)
        -- t@15 path L2ft
        · have hb0 : sp_by u k ≠ 0 := fun h => c15 (by rw [e3p13, h]; rfl)
          rw [if_neg hb0] at hF
          refine vv_iload_n (pc := 35) 0 dX2_charactersIn_35 rfl rfl ?_
          refine vv_bipush (pc := 36) (v := 33) dX2_charactersIn_36 (by decide) ?_
          refine vv_bipush (pc := 38) (v := 126) dX2_charactersIn_38 (by decide) ?_
          refine vc_Ni (pc := 40) (c_X4_within l G _ _ _ _) (host := RX4) (by decide +kernel) my_X4_within ⟨by decide, by decide⟩ rfl rfl (Nat.le_of_ble_eq_true rfl) dX2_charactersIn_40 (fun r40 S40 h40 => ?_)
          obtain ⟨qS40, h40⟩ := h40
          replace qS40 := qS40.symm
          subst qS40
          refine vv_if_ne (pc := 43) (tgt := 48) dX2_charactersIn_43 (by decide) (fun c43 => ?_) (fun c43 => ?_)
          -- t@43 path L2ftt
          · have hin : 33 ≤ sp_by u k ∧ sp_by u k ≤ 126 := by
              rw [h40, e3p13, sp_in_iff, nI_toInt (by omega), show (33 : Int32).toInt = 33 by decide, show (126 : Int32).toInt = 126 by decide] at c43
              omega
            rw [if_pos hin] at hF
            obtain ⟨x2p48, e2p48⟩ : ∃ y : Int32, y = x2 + 1 := ⟨_, rfl⟩
            refine vv_iinc (pc := 48) (q := 2) (v := x2p48) (ls' := [(2, .int x2p48), (3, .int x3p13), (0, .long x)]) dX2_charactersIn_48 rfl (by rw [e2p48]; rfl) (by decide) rfl ?_
            refine vv_goto (pc := 51) (tgt := 2) dX2_charactersIn_51 (by decide) ?_
            refine vv_sub [2, 0] (ls' := [(0, _), (2, _)]) rfl ?_
            exact ih (k + 1) r1 x2p48 (by omega) (by omega) (by rw [e2p48, e2]; exact nI_1 k) hF
          -- f@43 path L2ftf
          · refine vv_iconst (pc := 46) (v := 0) dX2_charactersIn_46 (by decide) ?_
            refine vr_i (pc := 47) dX2_charactersIn_47 ?_
            have hin : ¬ (33 ≤ sp_by u k ∧ sp_by u k ≤ 126) := by
              rw [h40, e3p13, sp_in_iff, nI_toInt (by omega), show (33 : Int32).toInt = 33 by decide, show (126 : Int32).toInt = 126 by decide] at c43
              omega
            rw [if_neg hin] at hF
            exact ⟨rfl, by rw [← eF, ← hF]; rfl⟩
        -- f@15 path L2ff
        · have hb0 : sp_by u k = 0 := by
            rw [e3p13] at c15
            exact (nI_eq (by omega) (by decide)).mp c15
          rw [if_pos hb0] at hF
          refine vv_lload_n (pc := 18) 1 dX2_charactersIn_18 rfl rfl ?_
          refine vv_bipush (pc := 19) (v := 8) dX2_charactersIn_19 (by decide) ?_
          refine vv_iload_n (pc := 21) 2 dX2_charactersIn_21 rfl rfl ?_
          refine vv_imul (pc := 22) dX2_charactersIn_22 ?_
          refine vv_lushr (pc := 23) dX2_charactersIn_23 rfl ?_
          refine vv_lconst (pc := 24) (v := 0) dX2_charactersIn_24 (by decide) ?_
          refine vv_lcmp (pc := 25) dX2_charactersIn_25 ?_
          refine vv_if_ne (pc := 26) (tgt := 33) dX2_charactersIn_26 (by decide) (fun c26 => ?_) (fun c26 => ?_)
          -- t@26 path L2fft
          · refine vv_iconst (pc := 33) (v := 0) dX2_charactersIn_33 (by decide) ?_
            refine vr_i (pc := 34) dX2_charactersIn_34 ?_
            have hz : u / 256 ^ k ≠ 0 := by
              rw [lg_cmp_eq, hx, e2, sp_ush hu hk8] at c26
              exact fun h => c26 ((lN_0 (Nat.lt_of_le_of_lt (Nat.div_le_self _ _) hu)).mpr h)
            rw [if_neg hz] at hF
            exact ⟨rfl, by rw [← eF, ← hF]; rfl⟩
          -- f@26 path L2fff
          · refine vv_iload_n (pc := 29) 2 dX2_charactersIn_29 rfl rfl ?_
            refine vv_goto (pc := 30) (tgt := 34) dX2_charactersIn_30 (by decide) ?_
            refine vr_i (pc := 34) dX2_charactersIn_34 ?_
            have hz : u / 256 ^ k = 0 := by
              rw [lg_cmp_eq, hx, e2, sp_ush hu hk8] at c26
              exact (lN_0 (Nat.lt_of_le_of_lt (Nat.div_le_self _ _) hu)).mp c26
            rw [if_pos hz] at hF
            exact ⟨rfl, by rw [← eF, ← hF, e2]⟩
  refine vv_sub [1, 0] (ls' := [(0, _), (2, _)]) rfl ?_
  exact lp2 9 0 8 x2p1 (by omega) (by omega) e2p1 eF.symm
set_option maxRecDepth 100000 in
set_option maxHeartbeats 4000000 in
theorem c_X2_endsOrder (l : Launch) (G : gG) (S : Mem) (c : Int32) : mm_C l G yX2_endsOrder cX2_endsOrder 2 (some .boolean) (mm_rm 0 0) [.ref (gad G 5), .int c] S (mm_Qi G (fun r S2 => S2 = mm_pd S 0 (S 5 7) (S 5 8) ∧ r = (if c = 59 then 1 else 0))) := by
  refine mm_ofV (own := RX2) (by decide +kernel) rfl (Nat.le_of_ble_eq_true rfl) (ls0 := [(0, .ref (gad G 5)), (1, .int c)]) rfl ?_
  refine vv_aload_n (pc := 0) 0 dX2_endsOrder_0 rfl rfl ?_
  refine vv_iconst (pc := 1) (v := 0) dX2_endsOrder_1 (by decide) ?_
  refine vp_X2_due (pc := 2) mw_F_X2_31 dX2_endsOrder_2 ?_
  refine vv_iload_n (pc := 5) 1 dX2_endsOrder_5 rfl rfl ?_
  refine vv_bipush (pc := 6) (v := 59) dX2_endsOrder_6 (by decide) ?_
  refine vv_icmp_ne (pc := 8) (tgt := 15) dX2_endsOrder_8 (by decide) (fun c8 => ?_) (fun c8 => ?_)
  -- t@8 path t
  · refine vv_iconst (pc := 15) (v := 0) dX2_endsOrder_15 (by decide) ?_
    refine vr_z (pc := 16) dX2_endsOrder_16 (by first | exact Or.inl rfl | exact Or.inr rfl | assumption) ?_
    exact ⟨mm_pd_6 S 0, by simp_all⟩
  -- f@8 path f
  · refine vv_iconst (pc := 11) (v := 1) dX2_endsOrder_11 (by decide) ?_
    refine vv_goto (pc := 12) (tgt := 16) dX2_endsOrder_12 (by decide) ?_
    refine vr_z (pc := 16) dX2_endsOrder_16 (by first | exact Or.inl rfl | exact Or.inr rfl | assumption) ?_
    exact ⟨mm_pd_6 S 0, by simp_all⟩
set_option maxRecDepth 100000 in
set_option maxHeartbeats 4000000 in
theorem c_X2_startsNumber (l : Launch) (G : gG) (S : Mem) (c : Int32) : mm_C l G yX2_startsNumber cX2_startsNumber 2 (some .boolean) (mm_rm 1 20) [.ref (gad G 5), .int c] S (mm_Qi G (fun r S2 => S2 = mm_pd S 2 (S 5 7) (c - 48) ∧ r = sp_in c 48 57)) := by
  refine mm_ofV (own := RX2) (by decide +kernel) rfl (Nat.le_of_ble_eq_true rfl) (ls0 := [(0, .ref (gad G 5)), (1, .int c)]) rfl ?_
  refine vv_aload_n (pc := 0) 0 dX2_startsNumber_0 rfl rfl ?_
  refine vv_iload_n (pc := 1) 1 dX2_startsNumber_1 rfl rfl ?_
  refine vv_bipush (pc := 2) (v := 48) dX2_startsNumber_2 (by decide) ?_
  refine vv_isub (pc := 4) dX2_startsNumber_4 ?_
  refine vp_X2_number (pc := 5) mw_F_X2_60 dX2_startsNumber_5 ?_
  refine vv_aload_n (pc := 8) 0 dX2_startsNumber_8 rfl rfl ?_
  refine vv_iconst (pc := 9) (v := 2) dX2_startsNumber_9 (by decide) ?_
  refine vp_X2_due (pc := 10) mw_F_X2_31 dX2_startsNumber_10 ?_
  refine vv_iload_n (pc := 13) 1 dX2_startsNumber_13 rfl rfl ?_
  refine vc_Si (pc := 14) (c_X2_isDigit l G _ _) mw_M_X2_48 my_X2_isDigit ⟨by decide, by decide⟩ rfl rfl (Nat.le_of_ble_eq_true rfl) dX2_startsNumber_14 (fun r14 S14 h14 => ?_)
  obtain ⟨qS14, h14⟩ := h14
  replace qS14 := qS14.symm
  subst qS14
  refine vr_z (pc := 17) dX2_startsNumber_17 (by rw [h14]; exact sp_in_01 _ _ _) ?_
  refine ⟨?_, h14⟩
  rw [mm_pd_6, mm_pd_8, mm_pd_pd, mm_pd_5, mm_pd_5]
  rfl
set_option maxRecDepth 100000 in
set_option maxHeartbeats 4000000 in
theorem c_X2_growsNumber (l : Launch) (G : gG) (S : Mem) (c : Int32) : mm_C l G yX2_growsNumber cX2_growsNumber 2 (some .boolean) (mm_rm 0 0) [.ref (gad G 5), .int c] S (mm_Qi G (fun r S2 => S2 = (if S 5 8 = 0 then S else mm_pd S (S 5 6) (S 5 7) (10 * S 5 8 + (c - 48))) ∧ r = (if S 5 8 = 0 then 0 else if 10 * S 5 8 + (c - 48) ≤ 99999 then 1 else 0))) := by
  refine mm_ofV (own := RX2) (by decide +kernel) rfl (Nat.le_of_ble_eq_true rfl) (ls0 := [(0, .ref (gad G 5)), (1, .int c)]) rfl ?_
  refine vv_aload_n (pc := 0) 0 dX2_growsNumber_0 rfl rfl ?_
  refine vg_X2_number (pc := 1) mw_F_X2_60 dX2_growsNumber_1 ?_
  refine vv_if_ne (pc := 4) (tgt := 9) dX2_growsNumber_4 (by decide) (fun c4 => ?_) (fun c4 => ?_)
  -- t@4 path t
  · refine vv_aload_n (pc := 9) 0 dX2_growsNumber_9 rfl rfl ?_
    refine vv_bipush (pc := 10) (v := 10) dX2_growsNumber_10 (by decide) ?_
    refine vv_aload_n (pc := 12) 0 dX2_growsNumber_12 rfl rfl ?_
    refine vg_X2_number (pc := 13) mw_F_X2_60 dX2_growsNumber_13 ?_
    refine vv_imul (pc := 16) dX2_growsNumber_16 ?_
    refine vv_iload_n (pc := 17) 1 dX2_growsNumber_17 rfl rfl ?_
    refine vv_bipush (pc := 18) (v := 48) dX2_growsNumber_18 (by decide) ?_
    refine vv_isub (pc := 20) dX2_growsNumber_20 ?_
    refine vv_iadd (pc := 21) dX2_growsNumber_21 ?_
    refine vp_X2_number (pc := 22) mw_F_X2_60 dX2_growsNumber_22 ?_
    refine vv_aload_n (pc := 25) 0 dX2_growsNumber_25 rfl rfl ?_
    refine vg_X2_number (pc := 26) mw_F_X2_60 dX2_growsNumber_26 ?_
    refine vv_ldc (pc := 29) mw_K_X2_63 dX2_growsNumber_29 ?_
    refine vv_icmp_gt (pc := 31) (tgt := 38) dX2_growsNumber_31 (by decide) (fun c31 => ?_) (fun c31 => ?_)
    -- t@31 path tt
    · refine vv_iconst (pc := 38) (v := 0) dX2_growsNumber_38 (by decide) ?_
      refine vr_z (pc := 39) dX2_growsNumber_39 (by first | exact Or.inl rfl | exact Or.inr rfl | assumption) ?_
      rw [mm_wr_s] at c31
      rw [if_neg c4, if_neg c4, if_neg (Int32.not_le.mpr c31)]
      exact ⟨mm_pd_8 _ _, rfl⟩
    -- f@31 path tf
    · refine vv_iconst (pc := 34) (v := 1) dX2_growsNumber_34 (by decide) ?_
      refine vv_goto (pc := 35) (tgt := 39) dX2_growsNumber_35 (by decide) ?_
      refine vr_z (pc := 39) dX2_growsNumber_39 (by first | exact Or.inl rfl | exact Or.inr rfl | assumption) ?_
      rw [mm_wr_s] at c31
      rw [if_neg c4, if_neg c4, if_pos (Int32.not_lt.mp c31)]
      exact ⟨mm_pd_8 _ _, rfl⟩
  -- f@4 path f
  · refine vv_iconst (pc := 7) (v := 0) dX2_growsNumber_7 (by decide) ?_
    refine vr_z (pc := 8) dX2_growsNumber_8 (by first | exact Or.inl rfl | exact Or.inr rfl | assumption) ?_
    rw [if_pos c4, if_pos c4]
    exact ⟨rfl, rfl⟩
set_option maxRecDepth 100000 in
set_option maxHeartbeats 4000000 in
theorem c_X2_endsNumber (l : Launch) (G : gG) (S : Mem) (c : Int32) : mm_C l G yX2_endsNumber cX2_endsNumber 2 (some .boolean) (mm_rm 1 21) [.ref (gad G 5), .int c] S (mm_Qi G (fun r S2 => S2 = (if S 5 7 = 0 then mm_pd S 0 (S 5 7) (S 5 8) else mm_pd S 1 0 (S 5 8)) ∧ r = (if S 5 7 = 0 then (if c = 59 then 1 else 0) else (if c = 61 then 1 else 0)))) := by
  refine mm_ofV (own := RX2) (by decide +kernel) rfl (Nat.le_of_ble_eq_true rfl) (ls0 := [(0, .ref (gad G 5)), (1, .int c)]) rfl ?_
  refine vv_aload_n (pc := 0) 0 dX2_endsNumber_0 rfl rfl ?_
  refine vg_X2_equalsDue (pc := 1) mw_F_X2_34 dX2_endsNumber_1 ?_
  refine vv_if_eq (pc := 4) (tgt := 29) dX2_endsNumber_4 (by decide) (fun c4 => ?_) (fun c4 => ?_)
  -- t@4 path t
  · refine vv_aload_n (pc := 29) 0 dX2_endsNumber_29 rfl rfl ?_
    refine vv_iload_n (pc := 30) 1 dX2_endsNumber_30 rfl rfl ?_
    refine vc_Vi (pc := 31) (c_X2_endsOrder l G _ _) mw_M_X2_57 my_X2_endsOrder mm_rv_X2 ⟨by decide, by decide⟩ rfl rfl (Nat.le_of_ble_eq_true rfl) dX2_endsNumber_31 (fun r31 S31 h31 => ?_)
    refine vr_z (pc := 34) dX2_endsNumber_34 (by rw [h31.2]; split <;> first | exact Or.inl rfl | exact Or.inr rfl) ?_
    rw [if_pos c4, if_pos c4]
    exact h31
  -- f@4 path f
  · refine vv_aload_n (pc := 7) 0 dX2_endsNumber_7 rfl rfl ?_
    refine vv_iconst (pc := 8) (v := 0) dX2_endsNumber_8 (by decide) ?_
    refine vp_X2_equalsDue (pc := 9) (by first | exact Or.inl rfl | exact Or.inr rfl | assumption) mw_F_X2_34 dX2_endsNumber_9 ?_
    refine vv_aload_n (pc := 12) 0 dX2_endsNumber_12 rfl rfl ?_
    refine vv_iconst (pc := 13) (v := 1) dX2_endsNumber_13 (by decide) ?_
    refine vp_X2_due (pc := 14) mw_F_X2_31 dX2_endsNumber_14 ?_
    refine vv_iload_n (pc := 17) 1 dX2_endsNumber_17 rfl rfl ?_
    refine vv_bipush (pc := 18) (v := 61) dX2_endsNumber_18 (by decide) ?_
    refine vv_icmp_ne (pc := 20) (tgt := 27) dX2_endsNumber_20 (by decide) (fun c20 => ?_) (fun c20 => ?_)
    -- t@20 path ft
    · refine vv_iconst (pc := 27) (v := 0) dX2_endsNumber_27 (by decide) ?_
      refine vr_z (pc := 28) dX2_endsNumber_28 (by first | exact Or.inl rfl | exact Or.inr rfl | assumption) ?_
      rw [if_neg c4, if_neg c4, if_neg c20, mm_pd_6, mm_pd_7, mm_pd_pd, mm_pd_5, mm_pd_5]
      exact ⟨rfl, rfl⟩
    -- f@20 path ff
    · refine vv_iconst (pc := 23) (v := 1) dX2_endsNumber_23 (by decide) ?_
      refine vv_goto (pc := 24) (tgt := 28) dX2_endsNumber_24 (by decide) ?_
      refine vr_z (pc := 28) dX2_endsNumber_28 (by first | exact Or.inl rfl | exact Or.inr rfl | assumption) ?_
      rw [if_neg c4, if_neg c4, if_pos c20, mm_pd_6, mm_pd_7, mm_pd_pd, mm_pd_5, mm_pd_5]
      exact ⟨rfl, rfl⟩
set_option maxRecDepth 100000 in
set_option maxHeartbeats 4000000 in
theorem c_X2_startsOrder (l : Launch) (G : gG) (S : Mem) (c : Int32) : mm_C l G yX2_startsOrder cX2_startsOrder 2 (some .boolean) (mm_rm 0 0) [.ref (gad G 5), .int c] S (mm_Qi G (fun r S2 => S2 = mm_pd S (if c = 104 then 3 else 1) (if c = 112 then 1 else 0) (S 5 8) ∧ r = (if c = 103 ∨ c = 104 ∨ c = 116 ∨ c = 112 ∨ c = 100 then 1 else 0))) := by
  refine mm_ofV (own := RX2) (by decide +kernel) rfl (Nat.le_of_ble_eq_true rfl) (ls0 := [(0, .ref (gad G 5)), (1, .int c)]) rfl ?_
  refine vv_aload_n (pc := 0) 0 dX2_startsOrder_0 rfl rfl ?_
  refine vv_iload_n (pc := 1) 1 dX2_startsOrder_1 rfl rfl ?_
  refine vv_bipush (pc := 2) (v := 104) dX2_startsOrder_2 (by decide) ?_
  refine vv_icmp_ne (pc := 4) (tgt := 11) dX2_startsOrder_4 (by decide) (fun c4 => ?_) (fun c4 => ?_)
  -- t@4 path t
  · refine vv_iconst (pc := 11) (v := 1) dX2_startsOrder_11 (by decide) ?_
    refine vp_X2_due (pc := 12) mw_F_X2_31 dX2_startsOrder_12 ?_
    refine vv_aload_n (pc := 15) 0 dX2_startsOrder_15 rfl rfl ?_
    refine vv_iload_n (pc := 16) 1 dX2_startsOrder_16 rfl rfl ?_
    refine vv_bipush (pc := 17) (v := 112) dX2_startsOrder_17 (by decide) ?_
    refine vv_icmp_ne (pc := 19) (tgt := 26) dX2_startsOrder_19 (by decide) (fun c19 => ?_) (fun c19 => ?_)
    -- t@19 path tt
    · refine vv_iconst (pc := 26) (v := 0) dX2_startsOrder_26 (by decide) ?_
      refine vp_X2_equalsDue (pc := 27) (by first | exact Or.inl rfl | exact Or.inr rfl | assumption) mw_F_X2_34 dX2_startsOrder_27 ?_
      refine vv_iload_n (pc := 30) 1 dX2_startsOrder_30 rfl rfl ?_
      refine vv_bipush (pc := 31) (v := 103) dX2_startsOrder_31 (by decide) ?_
      refine vv_icmp_eq (pc := 33) (tgt := 60) dX2_startsOrder_33 (by decide) (fun c33 => ?_) (fun c33 => ?_)
      -- t@33 path ttt
      · refine vv_iconst (pc := 60) (v := 1) dX2_startsOrder_60 (by decide) ?_
        refine vv_goto (pc := 61) (tgt := 65) dX2_startsOrder_61 (by decide) ?_
        refine vr_z (pc := 65) dX2_startsOrder_65 (by first | exact Or.inl rfl | exact Or.inr rfl | assumption) ?_
        rw [mm_pd_7, mm_pd_6, mm_pd_pd, mm_pd_5, mm_pd_5]
        refine ⟨?_, by simp_all⟩
        simp_all
      -- f@33 path ttf
      · refine vv_iload_n (pc := 36) 1 dX2_startsOrder_36 rfl rfl ?_
        refine vv_bipush (pc := 37) (v := 104) dX2_startsOrder_37 (by decide) ?_
        refine vv_icmp_eq (pc := 39) (tgt := 60) dX2_startsOrder_39 (by decide) (fun c39 => ?_) (fun c39 => ?_)
        -- t@39 path ttft
        · refine vv_iconst (pc := 60) (v := 1) dX2_startsOrder_60 (by decide) ?_
          refine vv_goto (pc := 61) (tgt := 65) dX2_startsOrder_61 (by decide) ?_
          refine vr_z (pc := 65) dX2_startsOrder_65 (by first | exact Or.inl rfl | exact Or.inr rfl | assumption) ?_
          rw [mm_pd_7, mm_pd_6, mm_pd_pd, mm_pd_5, mm_pd_5]
          refine ⟨?_, by simp_all⟩
          simp_all
        -- f@39 path ttff
        · refine vv_iload_n (pc := 42) 1 dX2_startsOrder_42 rfl rfl ?_
          refine vv_bipush (pc := 43) (v := 116) dX2_startsOrder_43 (by decide) ?_
          refine vv_icmp_eq (pc := 45) (tgt := 60) dX2_startsOrder_45 (by decide) (fun c45 => ?_) (fun c45 => ?_)
          -- t@45 path ttfft
          · refine vv_iconst (pc := 60) (v := 1) dX2_startsOrder_60 (by decide) ?_
            refine vv_goto (pc := 61) (tgt := 65) dX2_startsOrder_61 (by decide) ?_
            refine vr_z (pc := 65) dX2_startsOrder_65 (by first | exact Or.inl rfl | exact Or.inr rfl | assumption) ?_
            rw [mm_pd_7, mm_pd_6, mm_pd_pd, mm_pd_5, mm_pd_5]
            refine ⟨?_, by simp_all⟩
            simp_all
          -- f@45 path ttfff
          · refine vv_iload_n (pc := 48) 1 dX2_startsOrder_48 rfl rfl ?_
            refine vv_bipush (pc := 49) (v := 112) dX2_startsOrder_49 (by decide) ?_
            refine vv_icmp_eq (pc := 51) (tgt := 60) dX2_startsOrder_51 (by decide) (fun c51 => ?_) (fun c51 => ?_)
            -- t@51 path ttffft
            · refine vv_iconst (pc := 60) (v := 1) dX2_startsOrder_60 (by decide) ?_
              refine vv_goto (pc := 61) (tgt := 65) dX2_startsOrder_61 (by decide) ?_
              refine vr_z (pc := 65) dX2_startsOrder_65 (by first | exact Or.inl rfl | exact Or.inr rfl | assumption) ?_
              rw [mm_pd_7, mm_pd_6, mm_pd_pd, mm_pd_5, mm_pd_5]
              refine ⟨?_, by simp_all⟩
              simp_all
            -- f@51 path ttffff
            · refine vv_iload_n (pc := 54) 1 dX2_startsOrder_54 rfl rfl ?_
              refine vv_bipush (pc := 55) (v := 100) dX2_startsOrder_55 (by decide) ?_
              refine vv_icmp_ne (pc := 57) (tgt := 64) dX2_startsOrder_57 (by decide) (fun c57 => ?_) (fun c57 => ?_)
              -- t@57 path ttfffft
              · refine vv_iconst (pc := 64) (v := 0) dX2_startsOrder_64 (by decide) ?_
                refine vr_z (pc := 65) dX2_startsOrder_65 (by first | exact Or.inl rfl | exact Or.inr rfl | assumption) ?_
                rw [mm_pd_7, mm_pd_6, mm_pd_pd, mm_pd_5, mm_pd_5]
                refine ⟨?_, by simp_all⟩
                simp_all
              -- f@57 path ttfffff
              · refine vv_iconst (pc := 60) (v := 1) dX2_startsOrder_60 (by decide) ?_
                refine vv_goto (pc := 61) (tgt := 65) dX2_startsOrder_61 (by decide) ?_
                refine vr_z (pc := 65) dX2_startsOrder_65 (by first | exact Or.inl rfl | exact Or.inr rfl | assumption) ?_
                rw [mm_pd_7, mm_pd_6, mm_pd_pd, mm_pd_5, mm_pd_5]
                refine ⟨?_, by simp_all⟩
                simp_all
    -- f@19 path tf
    · refine vv_iconst (pc := 22) (v := 1) dX2_startsOrder_22 (by decide) ?_
      refine vv_goto (pc := 23) (tgt := 27) dX2_startsOrder_23 (by decide) ?_
      refine vp_X2_equalsDue (pc := 27) (by first | exact Or.inl rfl | exact Or.inr rfl | assumption) mw_F_X2_34 dX2_startsOrder_27 ?_
      refine vv_iload_n (pc := 30) 1 dX2_startsOrder_30 rfl rfl ?_
      refine vv_bipush (pc := 31) (v := 103) dX2_startsOrder_31 (by decide) ?_
      refine vv_icmp_eq (pc := 33) (tgt := 60) dX2_startsOrder_33 (by decide) (fun c33 => ?_) (fun c33 => ?_)
      -- t@33 path tft
      · refine vv_iconst (pc := 60) (v := 1) dX2_startsOrder_60 (by decide) ?_
        refine vv_goto (pc := 61) (tgt := 65) dX2_startsOrder_61 (by decide) ?_
        refine vr_z (pc := 65) dX2_startsOrder_65 (by first | exact Or.inl rfl | exact Or.inr rfl | assumption) ?_
        rw [mm_pd_7, mm_pd_6, mm_pd_pd, mm_pd_5, mm_pd_5]
        refine ⟨?_, by simp_all⟩
        simp_all
      -- f@33 path tff
      · refine vv_iload_n (pc := 36) 1 dX2_startsOrder_36 rfl rfl ?_
        refine vv_bipush (pc := 37) (v := 104) dX2_startsOrder_37 (by decide) ?_
        refine vv_icmp_eq (pc := 39) (tgt := 60) dX2_startsOrder_39 (by decide) (fun c39 => ?_) (fun c39 => ?_)
        -- t@39 path tfft
        · refine vv_iconst (pc := 60) (v := 1) dX2_startsOrder_60 (by decide) ?_
          refine vv_goto (pc := 61) (tgt := 65) dX2_startsOrder_61 (by decide) ?_
          refine vr_z (pc := 65) dX2_startsOrder_65 (by first | exact Or.inl rfl | exact Or.inr rfl | assumption) ?_
          rw [mm_pd_7, mm_pd_6, mm_pd_pd, mm_pd_5, mm_pd_5]
          refine ⟨?_, by simp_all⟩
          simp_all
        -- f@39 path tfff
        · refine vv_iload_n (pc := 42) 1 dX2_startsOrder_42 rfl rfl ?_
          refine vv_bipush (pc := 43) (v := 116) dX2_startsOrder_43 (by decide) ?_
          refine vv_icmp_eq (pc := 45) (tgt := 60) dX2_startsOrder_45 (by decide) (fun c45 => ?_) (fun c45 => ?_)
          -- t@45 path tffft
          · refine vv_iconst (pc := 60) (v := 1) dX2_startsOrder_60 (by decide) ?_
            refine vv_goto (pc := 61) (tgt := 65) dX2_startsOrder_61 (by decide) ?_
            refine vr_z (pc := 65) dX2_startsOrder_65 (by first | exact Or.inl rfl | exact Or.inr rfl | assumption) ?_
            rw [mm_pd_7, mm_pd_6, mm_pd_pd, mm_pd_5, mm_pd_5]
            refine ⟨?_, by simp_all⟩
            simp_all
          -- f@45 path tffff
          · refine vv_iload_n (pc := 48) 1 dX2_startsOrder_48 rfl rfl ?_
            refine vv_bipush (pc := 49) (v := 112) dX2_startsOrder_49 (by decide) ?_
            refine vv_icmp_eq (pc := 51) (tgt := 60) dX2_startsOrder_51 (by decide) (fun c51 => ?_) (fun c51 => ?_)
            -- t@51 path tfffft
            · refine vv_iconst (pc := 60) (v := 1) dX2_startsOrder_60 (by decide) ?_
              refine vv_goto (pc := 61) (tgt := 65) dX2_startsOrder_61 (by decide) ?_
              refine vr_z (pc := 65) dX2_startsOrder_65 (by first | exact Or.inl rfl | exact Or.inr rfl | assumption) ?_
              rw [mm_pd_7, mm_pd_6, mm_pd_pd, mm_pd_5, mm_pd_5]
              refine ⟨?_, by simp_all⟩
              simp_all
            -- f@51 path tfffff
            · refine vv_iload_n (pc := 54) 1 dX2_startsOrder_54 rfl rfl ?_
              refine vv_bipush (pc := 55) (v := 100) dX2_startsOrder_55 (by decide) ?_
              refine vv_icmp_ne (pc := 57) (tgt := 64) dX2_startsOrder_57 (by decide) (fun c57 => ?_) (fun c57 => ?_)
              -- t@57 path tffffft
              · refine vv_iconst (pc := 64) (v := 0) dX2_startsOrder_64 (by decide) ?_
                refine vr_z (pc := 65) dX2_startsOrder_65 (by first | exact Or.inl rfl | exact Or.inr rfl | assumption) ?_
                rw [mm_pd_7, mm_pd_6, mm_pd_pd, mm_pd_5, mm_pd_5]
                refine ⟨?_, by simp_all⟩
                simp_all
              -- f@57 path tffffff
              · refine vv_iconst (pc := 60) (v := 1) dX2_startsOrder_60 (by decide) ?_
                refine vv_goto (pc := 61) (tgt := 65) dX2_startsOrder_61 (by decide) ?_
                refine vr_z (pc := 65) dX2_startsOrder_65 (by first | exact Or.inl rfl | exact Or.inr rfl | assumption) ?_
                rw [mm_pd_7, mm_pd_6, mm_pd_pd, mm_pd_5, mm_pd_5]
                refine ⟨?_, by simp_all⟩
                simp_all
  -- f@4 path f
  · refine vv_iconst (pc := 7) (v := 3) dX2_startsOrder_7 (by decide) ?_
    refine vv_goto (pc := 8) (tgt := 12) dX2_startsOrder_8 (by decide) ?_
    refine vp_X2_due (pc := 12) mw_F_X2_31 dX2_startsOrder_12 ?_
    refine vv_aload_n (pc := 15) 0 dX2_startsOrder_15 rfl rfl ?_
    refine vv_iload_n (pc := 16) 1 dX2_startsOrder_16 rfl rfl ?_
    refine vv_bipush (pc := 17) (v := 112) dX2_startsOrder_17 (by decide) ?_
    refine vv_icmp_ne (pc := 19) (tgt := 26) dX2_startsOrder_19 (by decide) (fun c19 => ?_) (fun c19 => ?_)
    -- t@19 path ft
    · refine vv_iconst (pc := 26) (v := 0) dX2_startsOrder_26 (by decide) ?_
      refine vp_X2_equalsDue (pc := 27) (by first | exact Or.inl rfl | exact Or.inr rfl | assumption) mw_F_X2_34 dX2_startsOrder_27 ?_
      refine vv_iload_n (pc := 30) 1 dX2_startsOrder_30 rfl rfl ?_
      refine vv_bipush (pc := 31) (v := 103) dX2_startsOrder_31 (by decide) ?_
      refine vv_icmp_eq (pc := 33) (tgt := 60) dX2_startsOrder_33 (by decide) (fun c33 => ?_) (fun c33 => ?_)
      -- t@33 path ftt
      · refine vv_iconst (pc := 60) (v := 1) dX2_startsOrder_60 (by decide) ?_
        refine vv_goto (pc := 61) (tgt := 65) dX2_startsOrder_61 (by decide) ?_
        refine vr_z (pc := 65) dX2_startsOrder_65 (by first | exact Or.inl rfl | exact Or.inr rfl | assumption) ?_
        rw [mm_pd_7, mm_pd_6, mm_pd_pd, mm_pd_5, mm_pd_5]
        refine ⟨?_, by simp_all⟩
        simp_all
      -- f@33 path ftf
      · refine vv_iload_n (pc := 36) 1 dX2_startsOrder_36 rfl rfl ?_
        refine vv_bipush (pc := 37) (v := 104) dX2_startsOrder_37 (by decide) ?_
        refine vv_icmp_eq (pc := 39) (tgt := 60) dX2_startsOrder_39 (by decide) (fun c39 => ?_) (fun c39 => ?_)
        -- t@39 path ftft
        · refine vv_iconst (pc := 60) (v := 1) dX2_startsOrder_60 (by decide) ?_
          refine vv_goto (pc := 61) (tgt := 65) dX2_startsOrder_61 (by decide) ?_
          refine vr_z (pc := 65) dX2_startsOrder_65 (by first | exact Or.inl rfl | exact Or.inr rfl | assumption) ?_
          rw [mm_pd_7, mm_pd_6, mm_pd_pd, mm_pd_5, mm_pd_5]
          refine ⟨?_, by simp_all⟩
          simp_all
        -- f@39 path ftff
        · refine vv_iload_n (pc := 42) 1 dX2_startsOrder_42 rfl rfl ?_
          refine vv_bipush (pc := 43) (v := 116) dX2_startsOrder_43 (by decide) ?_
          refine vv_icmp_eq (pc := 45) (tgt := 60) dX2_startsOrder_45 (by decide) (fun c45 => ?_) (fun c45 => ?_)
          -- t@45 path ftfft
          · refine vv_iconst (pc := 60) (v := 1) dX2_startsOrder_60 (by decide) ?_
            refine vv_goto (pc := 61) (tgt := 65) dX2_startsOrder_61 (by decide) ?_
            refine vr_z (pc := 65) dX2_startsOrder_65 (by first | exact Or.inl rfl | exact Or.inr rfl | assumption) ?_
            rw [mm_pd_7, mm_pd_6, mm_pd_pd, mm_pd_5, mm_pd_5]
            refine ⟨?_, by simp_all⟩
            simp_all
          -- f@45 path ftfff
          · refine vv_iload_n (pc := 48) 1 dX2_startsOrder_48 rfl rfl ?_
            refine vv_bipush (pc := 49) (v := 112) dX2_startsOrder_49 (by decide) ?_
            refine vv_icmp_eq (pc := 51) (tgt := 60) dX2_startsOrder_51 (by decide) (fun c51 => ?_) (fun c51 => ?_)
            -- t@51 path ftffft
            · refine vv_iconst (pc := 60) (v := 1) dX2_startsOrder_60 (by decide) ?_
              refine vv_goto (pc := 61) (tgt := 65) dX2_startsOrder_61 (by decide) ?_
              refine vr_z (pc := 65) dX2_startsOrder_65 (by first | exact Or.inl rfl | exact Or.inr rfl | assumption) ?_
              rw [mm_pd_7, mm_pd_6, mm_pd_pd, mm_pd_5, mm_pd_5]
              refine ⟨?_, by simp_all⟩
              simp_all
            -- f@51 path ftffff
            · refine vv_iload_n (pc := 54) 1 dX2_startsOrder_54 rfl rfl ?_
              refine vv_bipush (pc := 55) (v := 100) dX2_startsOrder_55 (by decide) ?_
              refine vv_icmp_ne (pc := 57) (tgt := 64) dX2_startsOrder_57 (by decide) (fun c57 => ?_) (fun c57 => ?_)
              -- t@57 path ftfffft
              · refine vv_iconst (pc := 64) (v := 0) dX2_startsOrder_64 (by decide) ?_
                refine vr_z (pc := 65) dX2_startsOrder_65 (by first | exact Or.inl rfl | exact Or.inr rfl | assumption) ?_
                rw [mm_pd_7, mm_pd_6, mm_pd_pd, mm_pd_5, mm_pd_5]
                refine ⟨?_, by simp_all⟩
                simp_all
              -- f@57 path ftfffff
              · refine vv_iconst (pc := 60) (v := 1) dX2_startsOrder_60 (by decide) ?_
                refine vv_goto (pc := 61) (tgt := 65) dX2_startsOrder_61 (by decide) ?_
                refine vr_z (pc := 65) dX2_startsOrder_65 (by first | exact Or.inl rfl | exact Or.inr rfl | assumption) ?_
                rw [mm_pd_7, mm_pd_6, mm_pd_pd, mm_pd_5, mm_pd_5]
                refine ⟨?_, by simp_all⟩
                simp_all
    -- f@19 path ff
    · refine vv_iconst (pc := 22) (v := 1) dX2_startsOrder_22 (by decide) ?_
      refine vv_goto (pc := 23) (tgt := 27) dX2_startsOrder_23 (by decide) ?_
      refine vp_X2_equalsDue (pc := 27) (by first | exact Or.inl rfl | exact Or.inr rfl | assumption) mw_F_X2_34 dX2_startsOrder_27 ?_
      refine vv_iload_n (pc := 30) 1 dX2_startsOrder_30 rfl rfl ?_
      refine vv_bipush (pc := 31) (v := 103) dX2_startsOrder_31 (by decide) ?_
      refine vv_icmp_eq (pc := 33) (tgt := 60) dX2_startsOrder_33 (by decide) (fun c33 => ?_) (fun c33 => ?_)
      -- t@33 path fft
      · refine vv_iconst (pc := 60) (v := 1) dX2_startsOrder_60 (by decide) ?_
        refine vv_goto (pc := 61) (tgt := 65) dX2_startsOrder_61 (by decide) ?_
        refine vr_z (pc := 65) dX2_startsOrder_65 (by first | exact Or.inl rfl | exact Or.inr rfl | assumption) ?_
        rw [mm_pd_7, mm_pd_6, mm_pd_pd, mm_pd_5, mm_pd_5]
        refine ⟨?_, by simp_all⟩
        simp_all
      -- f@33 path fff
      · refine vv_iload_n (pc := 36) 1 dX2_startsOrder_36 rfl rfl ?_
        refine vv_bipush (pc := 37) (v := 104) dX2_startsOrder_37 (by decide) ?_
        refine vv_icmp_eq (pc := 39) (tgt := 60) dX2_startsOrder_39 (by decide) (fun c39 => ?_) (fun c39 => ?_)
        -- t@39 path ffft
        · refine vv_iconst (pc := 60) (v := 1) dX2_startsOrder_60 (by decide) ?_
          refine vv_goto (pc := 61) (tgt := 65) dX2_startsOrder_61 (by decide) ?_
          refine vr_z (pc := 65) dX2_startsOrder_65 (by first | exact Or.inl rfl | exact Or.inr rfl | assumption) ?_
          rw [mm_pd_7, mm_pd_6, mm_pd_pd, mm_pd_5, mm_pd_5]
          refine ⟨?_, by simp_all⟩
          simp_all
        -- f@39 path ffff
        · refine vv_iload_n (pc := 42) 1 dX2_startsOrder_42 rfl rfl ?_
          refine vv_bipush (pc := 43) (v := 116) dX2_startsOrder_43 (by decide) ?_
          refine vv_icmp_eq (pc := 45) (tgt := 60) dX2_startsOrder_45 (by decide) (fun c45 => ?_) (fun c45 => ?_)
          -- t@45 path fffft
          · refine vv_iconst (pc := 60) (v := 1) dX2_startsOrder_60 (by decide) ?_
            refine vv_goto (pc := 61) (tgt := 65) dX2_startsOrder_61 (by decide) ?_
            refine vr_z (pc := 65) dX2_startsOrder_65 (by first | exact Or.inl rfl | exact Or.inr rfl | assumption) ?_
            rw [mm_pd_7, mm_pd_6, mm_pd_pd, mm_pd_5, mm_pd_5]
            refine ⟨?_, by simp_all⟩
            simp_all
          -- f@45 path fffff
          · refine vv_iload_n (pc := 48) 1 dX2_startsOrder_48 rfl rfl ?_
            refine vv_bipush (pc := 49) (v := 112) dX2_startsOrder_49 (by decide) ?_
            refine vv_icmp_eq (pc := 51) (tgt := 60) dX2_startsOrder_51 (by decide) (fun c51 => ?_) (fun c51 => ?_)
            -- t@51 path ffffft
            · refine vv_iconst (pc := 60) (v := 1) dX2_startsOrder_60 (by decide) ?_
              refine vv_goto (pc := 61) (tgt := 65) dX2_startsOrder_61 (by decide) ?_
              refine vr_z (pc := 65) dX2_startsOrder_65 (by first | exact Or.inl rfl | exact Or.inr rfl | assumption) ?_
              rw [mm_pd_7, mm_pd_6, mm_pd_pd, mm_pd_5, mm_pd_5]
              refine ⟨?_, by simp_all⟩
              simp_all
            -- f@51 path ffffff
            · refine vv_iload_n (pc := 54) 1 dX2_startsOrder_54 rfl rfl ?_
              refine vv_bipush (pc := 55) (v := 100) dX2_startsOrder_55 (by decide) ?_
              refine vv_icmp_ne (pc := 57) (tgt := 64) dX2_startsOrder_57 (by decide) (fun c57 => ?_) (fun c57 => ?_)
              -- t@57 path fffffft
              · refine vv_iconst (pc := 64) (v := 0) dX2_startsOrder_64 (by decide) ?_
                refine vr_z (pc := 65) dX2_startsOrder_65 (by first | exact Or.inl rfl | exact Or.inr rfl | assumption) ?_
                rw [mm_pd_7, mm_pd_6, mm_pd_pd, mm_pd_5, mm_pd_5]
                refine ⟨?_, by simp_all⟩
                simp_all
              -- f@57 path fffffff
              · refine vv_iconst (pc := 60) (v := 1) dX2_startsOrder_60 (by decide) ?_
                refine vv_goto (pc := 61) (tgt := 65) dX2_startsOrder_61 (by decide) ?_
                refine vr_z (pc := 65) dX2_startsOrder_65 (by first | exact Or.inl rfl | exact Or.inr rfl | assumption) ?_
                rw [mm_pd_7, mm_pd_6, mm_pd_pd, mm_pd_5, mm_pd_5]
                refine ⟨?_, by simp_all⟩
                simp_all
set_option maxRecDepth 100000 in
set_option maxHeartbeats 4000000 in
theorem c_X2_canStand (l : Launch) (G : gG) (S : Mem) (c : Int32) : mm_C l G yX2_canStand cX2_canStand 2 (some .boolean) (mm_rm 2 42) [.ref (gad G 5), .int c] S (mm_Qi G (fun r S2 => S2 = mm_pd S (au_d (S 5 6) (S 5 7) (S 5 8) c) (au_e (S 5 6) (S 5 7) (S 5 8) c) (au_v (S 5 6) (S 5 7) (S 5 8) c) ∧ r = au_ok (S 5 6) (S 5 7) (S 5 8) c)) := by
  refine mm_ofV (own := RX2) (by decide +kernel) rfl (Nat.le_of_ble_eq_true rfl) (ls0 := [(0, .ref (gad G 5)), (1, .int c)]) rfl ?_
  refine vv_aload_n (pc := 0) 0 dX2_canStand_0 rfl rfl ?_
  refine vg_X2_due (pc := 1) mw_F_X2_31 dX2_canStand_1 ?_
  refine vv_topi (fun sw4 esw4 => ?_)
  by_cases qsw4 : sw4.toInt < 0 ∨ 2 < sw4.toInt
  · refine vv_tableOut (pc := 4) (tgt := 65) dX2_canStand_4 qsw4 (by decide) ?_
    refine vv_aload_n (pc := 65) 0 dX2_canStand_65 rfl rfl ?_
    refine vv_iload_n (pc := 66) 1 dX2_canStand_66 rfl rfl ?_
    refine vc_Vi (pc := 67) (c_X2_endsOrder l G _ _) mw_M_X2_57 my_X2_endsOrder mm_rv_X2 ⟨by decide, by decide⟩ rfl rfl (Nat.le_of_ble_eq_true rfl) dX2_canStand_67 (fun r67 S67 h67 => ?_)
    refine vr_z (pc := 70) dX2_canStand_70 (by rw [h67.2]; split <;> first | exact Or.inl rfl | exact Or.inr rfl) ?_
    have nk : ∀ j : Int32, 0 ≤ j.toInt → j.toInt ≤ 2 → ¬ S 5 6 = j := fun j h0 h1 e => by rw [esw4, e] at qsw4; omega
    unfold au_d au_e au_v au_ok
    have n0 := nk 0 (by decide) (by decide)
    have n1 := nk 1 (by decide) (by decide)
    have n2 := nk 2 (by decide) (by decide)
    rw [if_neg n0, if_neg n0, if_neg n0, if_neg n0, if_neg n1, if_neg n1, if_neg n1, if_neg n1, if_neg n2, if_neg n2, if_neg n2, if_neg n2]
    exact h67
  · have hsw4 : sw4.toInt = 0 ∨ sw4.toInt = 1 ∨ sw4.toInt = 2 := by omega
    rcases hsw4 with ksw4 | ksw4 | ksw4
    · refine vv_tableIn (pc := 4) (off := 28) (tgt := 32) dX2_canStand_4 (by omega) (by omega) (by rw [ksw4]; rfl) (by decide) ?_
      -- path <0>
      refine vv_aload_n (pc := 32) 0 dX2_canStand_32 rfl rfl ?_
      refine vv_iload_n (pc := 33) 1 dX2_canStand_33 rfl rfl ?_
      refine vc_Vi (pc := 34) (c_X2_startsOrder l G _ _) mw_M_X2_42 my_X2_startsOrder mm_rv_X2 ⟨by decide, by decide⟩ rfl rfl (Nat.le_of_ble_eq_true rfl) dX2_canStand_34 (fun r34 S34 h34 => ?_)
      refine vr_z (pc := 37) dX2_canStand_37 (by rw [h34.2]; split <;> first | exact Or.inl rfl | exact Or.inr rfl) ?_
      have hk : S 5 6 = 0 := i32_of (n := 0) 0 (by rw [← esw4]; exact ksw4) (by decide)
      unfold au_d au_e au_v au_ok
      rw [if_pos hk, if_pos hk, if_pos hk, if_pos hk]
      exact h34
    · refine vv_tableIn (pc := 4) (off := 34) (tgt := 38) dX2_canStand_4 (by omega) (by omega) (by rw [ksw4]; rfl) (by decide) ?_
      -- path <1>
      refine vv_aload_n (pc := 38) 0 dX2_canStand_38 rfl rfl ?_
      refine vv_iload_n (pc := 39) 1 dX2_canStand_39 rfl rfl ?_
      refine vc_Vi (pc := 40) (c_X2_startsNumber l G _ _) mw_M_X2_45 my_X2_startsNumber mm_rv_X2 ⟨by decide, by decide⟩ rfl rfl (Nat.le_of_ble_eq_true rfl) dX2_canStand_40 (fun r40 S40 h40 => ?_)
      refine vr_z (pc := 43) dX2_canStand_43 (by rw [h40.2]; exact sp_in_01 _ _ _) ?_
      have hk : S 5 6 = 1 := i32_of (n := 1) 1 (by rw [← esw4]; exact ksw4) (by decide)
      unfold au_d au_e au_v au_ok
      have n0 : ¬ S 5 6 = 0 := by rw [hk]; decide
      rw [if_neg n0, if_neg n0, if_neg n0, if_neg n0, if_pos hk, if_pos hk, if_pos hk, if_pos hk]
      exact h40
    · refine vv_tableIn (pc := 4) (off := 40) (tgt := 44) dX2_canStand_4 (by omega) (by omega) (by rw [ksw4]; rfl) (by decide) ?_
      -- path <2>
      refine vv_iload_n (pc := 44) 1 dX2_canStand_44 rfl rfl ?_
      refine vc_Si (pc := 45) (c_X2_isDigit l G _ _) mw_M_X2_48 my_X2_isDigit ⟨by decide, by decide⟩ rfl rfl (Nat.le_of_ble_eq_true rfl) dX2_canStand_45 (fun r45 S45 h45 => ?_)
      obtain ⟨qS45, h45⟩ := h45
      replace qS45 := qS45.symm
      subst qS45
      refine vv_if_eq (pc := 48) (tgt := 59) dX2_canStand_48 (by decide) (fun c48 => ?_) (fun c48 => ?_)
      -- t@48 path <2>t
      · refine vv_aload_n (pc := 59) 0 dX2_canStand_59 rfl rfl ?_
        refine vv_iload_n (pc := 60) 1 dX2_canStand_60 rfl rfl ?_
        refine vc_Vi (pc := 61) (c_X2_endsNumber l G _ _) mw_M_X2_54 my_X2_endsNumber mm_rv_X2 ⟨by decide, by decide⟩ rfl rfl (Nat.le_of_ble_eq_true rfl) dX2_canStand_61 (fun r61 S61 h61 => ?_)
        refine vr_z (pc := 64) dX2_canStand_64 (by first | (rw [h53.2]; split <;> first | exact Or.inl rfl | (split <;> first | exact Or.inl rfl | exact Or.inr rfl)) | (rw [h61.2]; split <;> split <;> first | exact Or.inl rfl | exact Or.inr rfl)) ?_
        have hk : S 5 6 = 2 := i32_of (n := 2) 2 (by rw [← esw4]; exact ksw4) (by decide)
        unfold au_d au_e au_v au_ok
        have n0 : ¬ S 5 6 = 0 := by rw [hk]; decide
        have n1 : ¬ S 5 6 = 1 := by rw [hk]; decide
        have n3 : sp_in c 48 57 = 0 := h45.symm.trans c48
        rw [if_neg n0, if_neg n0, if_neg n0, if_neg n0, if_neg n1, if_neg n1, if_neg n1, if_neg n1, if_pos hk, if_pos hk, if_pos hk, if_pos hk, if_pos n3, if_pos n3, if_pos n3, if_pos n3]
        rw [h61.1, h61.2]
        refine ⟨?_, rfl⟩
        by_cases hv : S 5 7 = 0
        · rw [if_pos hv, if_pos hv, if_pos hv]
        · rw [if_neg hv, if_neg hv, if_neg hv]
      -- f@48 path <2>f
      · refine vv_aload_n (pc := 51) 0 dX2_canStand_51 rfl rfl ?_
        refine vv_iload_n (pc := 52) 1 dX2_canStand_52 rfl rfl ?_
        refine vc_Vi (pc := 53) (c_X2_growsNumber l G _ _) mw_M_X2_51 my_X2_growsNumber mm_rv_X2 ⟨by decide, by decide⟩ rfl rfl (Nat.le_of_ble_eq_true rfl) dX2_canStand_53 (fun r53 S53 h53 => ?_)
        refine vv_goto (pc := 56) (tgt := 64) dX2_canStand_56 (by decide) ?_
        refine vr_z (pc := 64) dX2_canStand_64 (by first | (rw [h53.2]; split <;> first | exact Or.inl rfl | (split <;> first | exact Or.inl rfl | exact Or.inr rfl)) | (rw [h61.2]; split <;> split <;> first | exact Or.inl rfl | exact Or.inr rfl)) ?_
        have hk : S 5 6 = 2 := i32_of (n := 2) 2 (by rw [← esw4]; exact ksw4) (by decide)
        unfold au_d au_e au_v au_ok
        have n0 : ¬ S 5 6 = 0 := by rw [hk]; decide
        have n1 : ¬ S 5 6 = 1 := by rw [hk]; decide
        have n3 : ¬ sp_in c 48 57 = 0 := fun h => c48 (h45.trans h)
        rw [if_neg n0, if_neg n0, if_neg n0, if_neg n0, if_neg n1, if_neg n1, if_neg n1, if_neg n1, if_pos hk, if_pos hk, if_pos hk, if_pos hk, if_neg n3, if_neg n3, if_neg n3, if_neg n3]
        rw [h53.1, h53.2]
        refine ⟨?_, rfl⟩
        by_cases hv : S 5 8 = 0
        · rw [if_pos hv, if_pos hv, ← hk]; exact (mm_pd_self S).symm
        · rw [if_neg hv, if_neg hv, hk]
