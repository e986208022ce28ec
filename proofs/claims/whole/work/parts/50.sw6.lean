set_option maxRecDepth 100000 in
set_option maxHeartbeats 4000000 in
theorem c_X4_ordersCarriedOut (l : Launch) (G : gG) {q : St} {L : Nat} (S : Mem) (hg : gd q) (hq : bo S 0 q) (hday : (q.2 2).toInt + 6000 ≤ 1000000000) (hL : S 5 1 = nI L) (hL60 : L ≤ 60) : mm_C l G yX4_ordersCarriedOut cX4_ordersCarriedOut 3 (some .int) (mm_rm 5 119) [.ref (gad G 0)] S (mm_Qi G (fun r S2 => r = nI (oc (S 6) L 60 0 q 0).1 ∧ bo S2 0 (oc (S 6) L 60 0 q 0).2 ∧ S2 5 1 = nI L ∧ (∀ j, j ≠ 5 → (j < mm_B 0 ∨ mm_B 0 + 12 ≤ j) → S2 j = S j))) := by
  refine mm_ofV (own := RX4) (by decide +kernel) rfl (Nat.le_of_ble_eq_true rfl) (ls0 := [(0, .ref (gad G 0))]) rfl ?_
  refine vv_iconst (pc := 0) (v := 0) dX4_ordersCarriedOut_0 (by decide) ?_
  refine vv_topi (fun x1p1 e1p1 => ?_)
  refine vv_istore_n (pc := 1) (i := 1) (ls' := [(1, .int x1p1), (0, .ref (gad G 0))]) dX4_ordersCarriedOut_1 rfl (by decide) rfl ?_
  refine vv_aload_n (pc := 2) 1 dX4_ordersCarriedOut_2 rfl rfl ?_
  refine vg_X4_pad (pc := 3) mw_F_X4_37 dX4_ordersCarriedOut_3 ?_
  refine vc_Vv (pc := 6) (c_X2_startReading l G _) mw_M_X4_236 my_X2_startReading mm_rv_X2 ⟨by decide, by decide⟩ rfl rfl (Nat.le_of_ble_eq_true rfl) dX4_ordersCarriedOut_6 (fun S6 h6 => ?_)
  refine vv_iconst (pc := 9) (v := 0) dX4_ordersCarriedOut_9 (by decide) ?_
  refine vv_topi (fun x2p10 e2p10 => ?_)
  refine vv_istore_n (pc := 10) (i := 2) (ls' := [(2, .int x2p10), (1, .int x1p1), (0, .ref (gad G 0))]) dX4_ordersCarriedOut_10 rfl (by decide) rfl ?_
  obtain ⟨F, eF⟩ : ∃ F, F = oc (S 6) L 60 0 q 0 := ⟨_, rfl⟩
  have lp11 : ∀ (n : Nat) (k m dn i : Nat) (x1 x2 : Int32) (q1 : St) (S1 : Mem), k < n → k + m = 60 → x1 = nI dn → x2 = nI m → i ≤ L + 1 → S1 5 2 = nI i → S1 5 1 = nI L → S1 6 = S 6 → bo S1 0 q1 → gd q1 → (q1.2 2).toInt + 100 * (k : Int) ≤ 1000000000 → (∀ j, j ≠ 5 → (j < mm_B 0 ∨ mm_B 0 + 12 ≤ j) → S1 j = S j) → oc (S 6) L k i q1 dn = F → mm_V l G RX4 cX4_ordersCarriedOut 3 (some .int) (mm_rm 5 119) 0 0 (fun _ => True) (fun _ => mm_F G) (mm_Qf G (mm_Qi G (fun r S2 => r = nI (oc (S 6) L 60 0 q 0).1 ∧ bo S2 0 (oc (S 6) L 60 0 q 0).2 ∧ S2 5 1 = nI L ∧ (∀ j, j ≠ 5 → (j < mm_B 0 ∨ mm_B 0 + 12 ≤ j) → S2 j = S j)))) S1 11 [(0, .ref (gad G 0)), (1, .int x1), (2, .int x2)] [] := by
    intro n
    induction n with
    | zero =>
      intro k m dn i x1 x2 q1 S1 hn hkm e1 e2 hi sA s1 sS hb1 hg1 hd1 so hF
      exact absurd hn (by omega)
    | succ n ih =>
      intro k m dn i x1 x2 q1 S1 hn hkm e1 e2 hi sA s1 sS hb1 hg1 hd1 so hF
      refine vv_iload_n (pc := 11) 2 dX4_ordersCarriedOut_11 rfl rfl ?_
      refine vv_bipush (pc := 12) (v := 60) dX4_ordersCarriedOut_12 (by decide) ?_
      refine vv_icmp_ge (pc := 14) (tgt := 69) dX4_ordersCarriedOut_14 (by decide) (fun c14 => ?_) (fun c14 => ?_)
      -- t@14 path L11t
      · refine vv_iload_n (pc := 69) 1 dX4_ordersCarriedOut_69 rfl rfl ?_
        refine vr_i (pc := 70) dX4_ordersCarriedOut_70 ?_
        have hm60 := sp_geN (N := 60) (by decide) (by omega) e2 c14
        obtain rfl : k = 0 := by omega
        rw [oc] at hF
        rw [← eF, ← hF]
        exact ⟨e1, hb1, s1, so⟩
      -- f@14 path L11f
      · have hm60 : m < 60 := sp_ltN (N := 60) (by decide) (by omega) e2 c14
        obtain ⟨k1, rfl⟩ : ∃ k1, k = k1 + 1 := ⟨k - 1, by omega⟩
        refine vv_aload_n (pc := 17) 0 dX4_ordersCarriedOut_17 rfl rfl ?_
        refine vg_X4_pad (pc := 18) mw_F_X4_37 dX4_ordersCarriedOut_18 ?_
        refine vc_Vi (pc := 21) (c_X2_readOrder l G _ s1 hL60 hi sA) mw_M_X4_239 my_X2_readOrder mm_rv_X2 ⟨by decide, by decide⟩ rfl rfl (Nat.le_of_ble_eq_true rfl) dX4_ordersCarriedOut_21 (fun r21 S21 h21 => ?_)
        refine vv_if_eq (pc := 24) (tgt := 69) dX4_ordersCarriedOut_24 (by decide) (fun c24 => ?_) (fun c24 => ?_)
        -- t@24 path L11ft
        · refine vv_iload_n (pc := 69) 1 dX4_ordersCarriedOut_69 rfl rfl ?_
          refine vr_i (pc := 70) dX4_ordersCarriedOut_70 ?_
          rcases h21 with ⟨er, hLi, eS⟩ | ⟨er, _⟩
          · subst eS
            rw [oc, if_pos hLi] at hF
            rw [← eF, ← hF]
            exact ⟨e1, hb1, s1, so⟩
          · rw [er] at c24; exact absurd c24 (by decide)
        -- f@24 path L11ff
        · rcases h21 with ⟨e, _, _⟩ | ⟨er, hiL, o2, o3, o4, o5, o1, oj⟩
          · exact absurd e c24
          have hqo : bo S21 0 q1 := bo_eq hb1 (fun j hj _ => oj j (by unfold mm_B at hj; omega))
          refine vv_aload_n (pc := 27) 0 dX4_ordersCarriedOut_27 rfl rfl ?_
          refine vv_aload_n (pc := 28) 0 dX4_ordersCarriedOut_28 rfl rfl ?_
          refine vg_X4_pad (pc := 29) mw_F_X4_37 dX4_ordersCarriedOut_29 ?_
          refine vg_X2_letter (pc := 32) mw_F_X4_242 dX4_ordersCarriedOut_32 ?_
          refine vv_aload_n (pc := 35) 0 dX4_ordersCarriedOut_35 rfl rfl ?_
          refine vg_X4_pad (pc := 36) mw_F_X4_37 dX4_ordersCarriedOut_36 ?_
          refine vg_X2_first (pc := 39) mw_F_X4_246 dX4_ordersCarriedOut_39 ?_
          refine vv_aload_n (pc := 42) 0 dX4_ordersCarriedOut_42 rfl rfl ?_
          refine vg_X4_pad (pc := 43) mw_F_X4_37 dX4_ordersCarriedOut_43 ?_
          refine vg_X2_second (pc := 46) mw_F_X4_249 dX4_ordersCarriedOut_46 ?_
          rw [o3, o4, o5]
          refine vc_Vi (pc := 49) (c_X4_answerTo l G _ hg1 hqo (by omega) _ _ _) mw_M_X4_252 my_X4_answerTo mm_rv_X4 ⟨by decide, by decide⟩ rfl rfl (Nat.le_of_ble_eq_true rfl) dX4_ordersCarriedOut_49 (fun r49 S49 h49 => ?_)
          rw [sS] at h49
          refine vc_Si (pc := 52) (c_X4_isError l G _ _) mw_M_X4_256 my_X4_isError ⟨by decide, by decide⟩ rfl rfl (Nat.le_of_ble_eq_true rfl) dX4_ordersCarriedOut_52 (fun r52 S52 h52 => ?_)
          obtain ⟨qS52, h52⟩ := h52
          replace qS52 := qS52.symm
          subst qS52
          refine vv_if_eq (pc := 55) (tgt := 60) dX4_ordersCarriedOut_55 (by decide) (fun c55 => ?_) (fun c55 => ?_)
          -- t@55 path L11fft
          · have g := gd_ord (l := S 6 i) (a := ro_1 (S 6) L i) (b := ro_2 (S 6) L i) hg1 (by omega)
            have g2 := g.2.2
            rw [oc, if_neg (by omega)] at hF
            have hz : sp_err (ord q1 (S 6 i) (ro_1 (S 6) L i) (ro_2 (S 6) L i)).1 = 0 := by rw [← h49.1]; exact h52.symm.trans c55
            rw [if_pos hz] at hF
            have hro := ro_n_le (t := S 6) hiL
            obtain ⟨x1p60, e1p60⟩ : ∃ y : Int32, y = x1 + 1 := ⟨_, rfl⟩
            refine vv_iinc (pc := 60) (q := 1) (v := x1p60) (ls' := [(1, .int x1p60), (0, .ref (gad G 0)), (2, .int x2)]) dX4_ordersCarriedOut_60 rfl (by rw [e1p60]; rfl) (by decide) rfl ?_
            obtain ⟨x2p63, e2p63⟩ : ∃ y : Int32, y = x2 + 1 := ⟨_, rfl⟩
            refine vv_iinc (pc := 63) (q := 2) (v := x2p63) (ls' := [(2, .int x2p63), (1, .int x1p60), (0, .ref (gad G 0))]) dX4_ordersCarriedOut_63 rfl (by rw [e2p63]; rfl) (by decide) rfl ?_
            refine vv_goto (pc := 66) (tgt := 11) dX4_ordersCarriedOut_66 (by decide) ?_
            refine vv_sub [2, 1, 0] (ls' := [(0, _), (1, _), (2, _)]) rfl ?_
            exact ih k1 (m + 1) (dn + 1) (ro_n (S 6) L i) x1p60 x2p63 _ _ (by omega) (by omega) (by rw [e1p60, e1, nI_1]) (by rw [e2p63, e2, nI_1]) hro.2 (by rw [h49.2.2 5 (Or.inl (by decide)), o2, sS]) (by rw [h49.2.2 5 (Or.inl (by decide)), o1, s1]) (by rw [h49.2.2 6 (Or.inl (by decide)), oj 6 (by decide), sS]) h49.2.1 g.1 (by omega) (fun j hj h2 => by rw [h49.2.2 j h2, oj j hj, so j hj h2]) hF
          -- f@55 path L11fff
          · refine vv_iload_n (pc := 58) 1 dX4_ordersCarriedOut_58 rfl rfl ?_
            refine vr_i (pc := 59) dX4_ordersCarriedOut_59 ?_
            rw [oc, if_neg (by omega)] at hF
            have hz : ¬ sp_err (ord q1 (S 6 i) (ro_1 (S 6) L i) (ro_2 (S 6) L i)).1 = 0 := by rw [← h49.1]; exact fun h => c55 (h52.trans h)
            rw [if_neg hz] at hF
            rw [← eF, ← hF]
            exact ⟨e1, h49.2.1, by rw [h49.2.2 5 (Or.inl (by decide)), o1, s1], fun j hj h2 => by rw [h49.2.2 j h2, oj j hj, so j hj h2]⟩
  refine vv_sub [2, 1, 0] (ls' := [(0, _), (1, _), (2, _)]) rfl ?_
  exact lp11 61 60 0 0 0 x1p1 x2p10 q _ (by omega) (by omega) e1p1 e2p10 (by omega) (by rw [h6, mm_wr_s]; rfl) (by rw [h6, mm_wr_n _ _ (Or.inr (by decide)), hL]) (by rw [h6, mm_wr_orow _ _ (by decide)]) (bo_eq hq (fun j hj _ => by rw [h6, mm_wr_orow _ _ (by unfold mm_B at hj; omega)])) hg (by omega) (fun j hj _ => by rw [h6, mm_wr_orow _ _ hj]) eF.symm
set_option maxRecDepth 100000 in
set_option maxHeartbeats 4000000 in
theorem c_X4_carryOut (l : Launch) (G : gG) {q : St} {kk L : Nat} {hs : Nat → St} (S : Mem) (hg : gd q) (hq : bo S 0 q) (hh : ch S kk kk hs) (hday : (q.2 2).toInt + 6000 ≤ 1000000000) (hL : S 5 1 = nI L) (hL60 : L ≤ 60) : mm_C l G yX4_carryOut cX4_carryOut 2 (some .int) (mm_rm 6 141) [.ref (gad G 0)] S (mm_Qi G (fun r S2 => ∃ v, (op_ff (S 6) L v ≠ -6 → r = -3 ∧ ∃ d e v2, S2 = mm_pd S d e v2) ∧ (op_ff (S 6) L v = -6 → r = nI (oc (S 6) L 60 0 q 0).1 ∧ bo S2 0 (oc (S 6) L 60 0 q 0).2 ∧ ch S2 (sp_pk kk) (sp_pk kk) (sp_psh kk (va_up hs kk q)) ∧ S2 5 1 = 0 ∧ (∀ j, j ≠ 5 → (j < 3 ∨ (5 ≤ j ∧ j < 16) ∨ (mm_B 1 ≤ j ∧ j < mm_B 4)) → S2 j = S j)))) := by
  refine mm_ofV (own := RX4) (by decide +kernel) rfl (Nat.le_of_ble_eq_true rfl) (ls0 := [(0, .ref (gad G 0))]) rfl ?_
  refine vv_aload_n (pc := 0) 0 dX4_carryOut_0 rfl rfl ?_
  refine vg_X4_pad (pc := 1) mw_F_X4_37 dX4_carryOut_1 ?_
  refine vc_Vi (pc := 4) (c_X2_firstFault l G _ (by assumption) (by assumption)) mw_M_X4_216 my_X2_firstFault mm_rv_X2 ⟨by decide, by decide⟩ rfl rfl (Nat.le_of_ble_eq_true rfl) dX4_carryOut_4 (fun r4 S4 h4 => ?_)
  obtain ⟨hr4, d, e, v, hS4⟩ := h4
  have hq4 : bo S4 0 q := bo_eq hq (fun j hj _ => by rw [hS4, mm_pd_o S d e v (by unfold mm_B at hj; omega)])
  have hh4 : ch S4 kk kk hs := ch_eq hh (by rw [hS4, mm_pd_o S d e v (by decide)]) (by rw [hS4, mm_pd_o S d e v (by decide)]) (fun j hj => by rw [hS4, mm_pd_o S d e v (by unfold mm_B at hj; omega)])
  have hL4 : S4 5 1 = nI L := by rw [hS4, mm_pd_5, if_neg (by decide), if_neg (by decide), if_neg (by decide), hL]
  have h64 : S4 6 = S 6 := by rw [hS4, mm_pd_o S d e v (by decide)]
  refine vv_bipush (pc := 7) (v := (-6)) dX4_carryOut_7 (by decide) ?_
  refine vv_icmp_eq (pc := 9) (tgt := 15) dX4_carryOut_9 (by decide) (fun c9 => ?_) (fun c9 => ?_)
  -- t@9 path t
  · refine vv_aload_n (pc := 15) 0 dX4_carryOut_15 rfl rfl ?_
    refine vg_X4_history (pc := 16) mw_F_X4_22 dX4_carryOut_16 ?_
    refine vv_aload_n (pc := 19) 0 dX4_carryOut_19 rfl rfl ?_
    refine vg_X4_bridge (pc := 20) mw_F_X4_10 dX4_carryOut_20 ?_
    refine vc_Vv (pc := 23) (c_X1_note l G (b2 := 0) (C := q.1) (z := q.2) _ (by decide) hh4 hq4) mw_M_X4_41 my_X1_note mm_rv_X1 ⟨by decide, by decide⟩ rfl rfl (Nat.le_of_ble_eq_true rfl) dX4_carryOut_23 (fun S23 h23 => ?_)
    have hq23 := note_bo (b := 0) (by decide) hq4 h23.2
    have hL23 : S23 5 1 = nI L := by rw [h23.2 5 (by decide), hL4]
    have h623 : S23 6 = S 6 := by rw [h23.2 6 (by decide), h64]
    refine vv_aload_n (pc := 26) 0 dX4_carryOut_26 rfl rfl ?_
    refine vg_X4_history (pc := 27) mw_F_X4_22 dX4_carryOut_27 ?_
    refine vv_aload_n (pc := 30) 0 dX4_carryOut_30 rfl rfl ?_
    refine vc_Vi (pc := 31) (c_X4_ordersCarriedOut l G _ hg hq23 hday hL23 hL60) mw_M_X4_219 my_X4_ordersCarriedOut mm_rv_X4 ⟨by decide, by decide⟩ rfl rfl (Nat.le_of_ble_eq_true rfl) dX4_carryOut_31 (fun r31 S31 h31 => ?_)
    rw [h623] at h31
    have hch31 : ch S31 kk (kk + 1) (va_up hs kk q) := ch_eq h23.1 (h31.2.2.2 3 (by decide) (by unfold mm_B; omega)) (h31.2.2.2 4 (by decide) (by unfold mm_B; omega)) (fun j hj => h31.2.2.2 j (by unfold mm_B at hj; omega) (by unfold mm_B at *; omega))
    refine vc_Vi (pc := 34) (c_X1_keepUnlessError l G _ hch31 _) mw_M_X4_49 my_X1_keepUnlessError mm_rv_X1 ⟨by decide, by decide⟩ rfl rfl (Nat.le_of_ble_eq_true rfl) dX4_carryOut_34 (fun r34 S34 h34 => ?_)
    refine vv_topi (fun x1p37 e1p37 => ?_)
    refine vv_istore_n (pc := 37) (i := 1) (ls' := [(1, .int x1p37), (0, .ref (gad G 0))]) dX4_carryOut_37 rfl (by decide) rfl ?_
    refine vv_aload_n (pc := 38) 1 dX4_carryOut_38 rfl rfl ?_
    refine vg_X4_pad (pc := 39) mw_F_X4_37 dX4_carryOut_39 ?_
    refine vc_Vi (pc := 42) (c_X2_empty l G _) mw_M_X4_213 my_X2_empty mm_rv_X2 ⟨by decide, by decide⟩ rfl rfl (Nat.le_of_ble_eq_true rfl) dX4_carryOut_42 (fun r42 S42 h42 => ?_)
    refine vv_pop (pc := 45) dX4_carryOut_45 rfl ?_
    refine vv_iload_n (pc := 46) 0 dX4_carryOut_46 rfl rfl ?_
    refine vr_i (pc := 47) dX4_carryOut_47 ?_
    have hoc := oc_le (S 6) L 60 0 q 0
    have he : sp_err r31 = 0 := by rw [h31.1]; exact sp_err_nI (by omega)
    obtain ⟨k1, k2, k3, k4⟩ := h34
    have kc := k3 he
    have hb34 : bo S34 0 (oc (S 6) L 60 0 q 0).2 := bo_eq h31.2.1 (fun j hj _ => k4 j (by unfold mm_B at hj; omega) (by unfold mm_B at hj; omega))
    refine ⟨S 5 8, fun h => absurd (hr4.symm.trans c9) h, fun _ => ⟨by rw [e1p37, k1, h31.1], ?_, ?_, by rw [h42.2, mm_wr_s], fun j hj h2 => ?_⟩⟩
    · exact bo_eq hb34 (fun j hj _ => by rw [h42.2, mm_wr_orow _ _ (by unfold mm_B at hj; omega)])
    · exact ch_eq kc (by rw [h42.2, mm_wr_orow _ _ (by decide)]) (by rw [h42.2, mm_wr_orow _ _ (by decide)]) (fun j hj => by rw [h42.2, mm_wr_orow _ _ (by unfold mm_B at hj; omega)])
    · rw [h42.2, mm_wr_orow _ _ hj, k4 j (by unfold mm_B at *; omega) (by unfold mm_B at *; omega), h31.2.2.2 j hj (by unfold mm_B at *; omega), h23.2 j (by unfold mm_B at *; omega), hS4, mm_pd_o S d e v hj]
  -- f@9 path f
  · refine vv_bipush (pc := 12) (v := (-3)) dX4_carryOut_12 (by decide) ?_
    refine vr_i (pc := 14) dX4_carryOut_14 ?_
    exact ⟨S 5 8, fun _ => ⟨rfl, d, e, v, hS4⟩, fun h => absurd (hr4.trans h) c9⟩
