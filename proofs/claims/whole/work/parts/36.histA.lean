set_option maxRecDepth 100000 in
set_option maxHeartbeats 4000000 in
theorem c_X1_note (l : Launch) (G : gG) {kk b2 C : Nat} {hs : Nat → St} {z : Nat → Int32} (S : Mem) (hb2 : b2 < 4) (hh : ch S kk kk hs) (hq : bo S b2 (C, z)) : mm_C l G yX1_note cX1_note 2 (none) (mm_rm 2 62) [.ref (gad G 3), .ref (gad G (mm_B b2))] S (mm_Qv G (fun S2 => ch S2 kk (kk + 1) (va_up hs kk (C, z)) ∧ ∀ j, j < mm_B 4 → S2 j = S j)) := by
  obtain ⟨⟨k6, k7⟩, k1, hb, k2, k3, k4⟩ := id hh
  obtain ⟨q1, q2, q3, q4⟩ := id hq
  have hkq := k2 kk (by omega)
  have hb11 : b2 < 11 := by omega
  have hk11 : hb kk < 11 := hkq.2.2
  refine mm_ofV (own := RX1) (by decide +kernel) rfl (Nat.le_of_ble_eq_true rfl) (ls0 := [(0, .ref (gad G 3)), (1, .ref (gad G (mm_B b2)))]) rfl ?_
  refine vv_aload_n (pc := 0) 0 dX1_note_0 rfl rfl ?_
  refine vg_X1_kept (pc := 1) mw_F_X1_18 dX1_note_1 ?_
  rw [k1]
  refine vv_iconst (pc := 4) (v := 0) dX1_note_4 (by decide) ?_
  refine vv_bipush (pc := 5) (v := 6) dX1_note_5 (by decide) ?_
  refine vc_Ni (pc := 7) (c_X4_within l G _ _ _ _) (host := RX4) (by decide +kernel) my_X4_within ⟨by decide, by decide⟩ rfl rfl (Nat.le_of_ble_eq_true rfl) dX1_note_7 (fun r7 S7 h7 => ?_)
  obtain ⟨qS7, h7⟩ := h7
  replace qS7 := qS7.symm
  subst qS7
  refine vv_if_eq (pc := 10) (tgt := 26) dX1_note_10 (by decide) (fun c10 => ?_) (fun c10 => ?_)
  -- t@10 path t
  · exact absurd (h7.symm.trans c10) (by rw [sp_in_iff, nI_toInt (by omega), show (0 : Int32).toInt = 0 by decide, show (6 : Int32).toInt = 6 by decide]; omega)
  -- f@10 path f
  · refine vv_aload_n (pc := 13) 0 dX1_note_13 rfl rfl ?_
    refine vg_X1_states (pc := 14) mw_F_X1_11 dX1_note_14 ?_
    refine vv_aload_n (pc := 17) 0 dX1_note_17 rfl rfl ?_
    refine vg_X1_kept (pc := 18) mw_F_X1_18 dX1_note_18 ?_
    rw [k1]
    refine vl_4 (pc := 21) (vp_in_nI (by omega) (by decide)) dX1_note_21 ?_
    rw [cl_n (by omega), hkq.1, cl_n (by omega)]
    refine vv_aload_n (pc := 22) 1 dX1_note_22 rfl rfl ?_
    refine vc_Vv (pc := 23) (c_X0_takeFrom l G (by assumption) (by assumption) (by omega) _ q1 q2 q3) mw_M_X1_26 my_X0_takeFrom (mm_rv_B (by assumption)) ⟨by decide, by decide⟩ rfl rfl (Nat.le_of_ble_eq_true rfl) dX1_note_23 (fun S23 h23 => ?_)
    refine vr_v (pc := 26) dX1_note_26 ?_
    obtain ⟨t1, t2, t3⟩ := h23
    have e3 : S23 3 = S 3 := t3 3 (by unfold mm_B; omega)
    have e4 : S23 4 = S 4 := t3 4 (by unfold mm_B; omega)
    refine ⟨ch_note hh e3 e4 (fun h9 g1 g2 g3 => ?_), fun j hj => t3 j (by unfold mm_B at *; omega)⟩
    have he : h9 = hb kk := (nI_eq (by omega) (by omega)).mp (g1.symm.trans hkq.1)
    subst he
    exact ⟨⟨q1, q2, t1, fun k hk => (t2 k hk).trans (q4 k hk)⟩, t3⟩
set_option maxRecDepth 100000 in
set_option maxHeartbeats 4000000 in
theorem c_X1_dropOldest (l : Launch) (G : gG) {hb : Nat → Nat} (S : Mem) (k2 : ∀ i, i < 7 → S 4 i = nI (hb i) ∧ hb i < 11) : mm_C l G yX1_dropOldest cX1_dropOldest 3 (none) (mm_rm 0 0) [.ref (gad G 3)] S (mm_Qv G (fun S2 => S2 4 = sp_rot (S 4) ∧ ∀ j, j ≠ 4 → S2 j = S j)) := by
  refine mm_ofV (own := RX1) (by decide +kernel) rfl (Nat.le_of_ble_eq_true rfl) (ls0 := [(0, .ref (gad G 3))]) rfl ?_
  refine vv_aload_n (pc := 0) 0 dX1_dropOldest_0 rfl rfl ?_
  refine vg_X1_states (pc := 1) mw_F_X1_11 dX1_dropOldest_1 ?_
  refine vv_iconst (pc := 4) (v := 0) dX1_dropOldest_4 (by decide) ?_
  refine vl_4 (pc := 5) (vp_in_nI (n := 0) (by decide) (by decide)) dX1_dropOldest_5 ?_
  rw [show (0 : Int32).toNatClampNeg = 0 by decide, (k2 0 (by decide)).1, cl_n (by have := (k2 0 (by decide)).2; omega)]
  refine vv_astore_n (pc := 6) (i := 1) (ls' := [(1, _), (0, .ref (gad G 3))]) dX1_dropOldest_6 rfl (by decide) rfl ?_
  refine vv_iconst (pc := 7) (v := 0) dX1_dropOldest_7 (by decide) ?_
  refine vv_topi (fun x2p8 e2p8 => ?_)
  refine vv_istore_n (pc := 8) (i := 2) (ls' := [(2, .int x2p8), (1, _), (0, .ref (gad G 3))]) dX1_dropOldest_8 rfl (by decide) rfl ?_
  have lp9 : ∀ (n : Nat) (q : Nat) (x2 : Int32) (S1 : Mem), 7 ≤ n + q → q ≤ 6 → x2 = nI q → (∀ i, i < q → S1 4 i = S 4 (i + 1)) → (∀ i, q ≤ i → S1 4 i = S 4 i) → (∀ j, j ≠ 4 → S1 j = S j) → mm_V l G RX1 cX1_dropOldest 3 (none) (mm_rm 0 0) 0 0 (fun _ => True) (fun _ => mm_F G) (mm_Qf G (mm_Qv G (fun S2 => S2 4 = sp_rot (S 4) ∧ ∀ j, j ≠ 4 → S2 j = S j))) S1 9 [(0, .ref (gad G 3)), (1, .ref (gad G (mm_B (hb 0)))), (2, .int x2)] [] := by
    intro n
    induction n with
    | zero =>
      intro q x2 S1 hn hq e2 hr0 hr1 ho
      exact absurd hn (by omega)
    | succ n ih =>
      intro q x2 S1 hn hq e2 hr0 hr1 ho
      refine vv_iload_n (pc := 9) 2 dX1_dropOldest_9 rfl rfl ?_
      refine vv_bipush (pc := 10) (v := 6) dX1_dropOldest_10 (by decide) ?_
      refine vv_icmp_ge (pc := 12) (tgt := 35) dX1_dropOldest_12 (by decide) (fun c12 => ?_) (fun c12 => ?_)
      -- t@12 path L9t
      · refine vv_aload_n (pc := 35) 0 dX1_dropOldest_35 rfl rfl ?_
        refine vg_X1_states (pc := 36) mw_F_X1_11 dX1_dropOldest_36 ?_
        refine vv_bipush (pc := 39) (v := 6) dX1_dropOldest_39 (by decide) ?_
        refine vv_aload_n (pc := 41) 1 dX1_dropOldest_41 rfl rfl ?_
        refine vs_4 (pc := 42) (k2 0 (by decide)).2 (vp_in_nI (n := 6) (by decide) (by decide)) dX1_dropOldest_42 ?_
        rw [show (6 : Int32).toNatClampNeg = 6 by decide]
        refine vr_v (pc := 43) dX1_dropOldest_43 ?_
        have hq6 := sp_geN (N := 6) (by decide) hq e2 c12
        subst hq6
        refine ⟨?_, fun j hj => by rw [mm_wr_orow _ _ hj]; exact ho j hj⟩
        funext i
        unfold sp_rot
        by_cases h6 : i < 6
        · rw [if_pos h6, mm_wr_n _ _ (Or.inr (by omega))]; exact hr0 i h6
        · rw [if_neg h6]
          by_cases g : i = 6
          · subst g; rw [if_pos rfl, mm_wr_s]; exact (k2 0 (by decide)).1.symm
          · rw [if_neg g, mm_wr_n _ _ (Or.inr g)]; exact hr1 i (by omega)
      -- f@12 path L9f
      · have hq6 : q < 6 := sp_ltN (N := 6) (by decide) hq e2 c12
        refine vv_aload_n (pc := 15) 0 dX1_dropOldest_15 rfl rfl ?_
        refine vg_X1_states (pc := 16) mw_F_X1_11 dX1_dropOldest_16 ?_
        refine vv_iload_n (pc := 19) 2 dX1_dropOldest_19 rfl rfl ?_
        refine vv_aload_n (pc := 20) 0 dX1_dropOldest_20 rfl rfl ?_
        refine vg_X1_states (pc := 21) mw_F_X1_11 dX1_dropOldest_21 ?_
        refine vv_iload_n (pc := 24) 2 dX1_dropOldest_24 rfl rfl ?_
        refine vv_iconst (pc := 25) (v := 1) dX1_dropOldest_25 (by decide) ?_
        refine vv_iadd (pc := 26) dX1_dropOldest_26 ?_
        rw [e2, nI_1 q]
        rw [← e2]
        refine vl_4 (pc := 27) (vp_in_nI (by omega) (by decide)) dX1_dropOldest_27 ?_
        rw [cl_n (by omega), hr1 (q + 1) (by omega), (k2 (q + 1) (by omega)).1, cl_n (by have := (k2 (q + 1) (by omega)).2; omega)]
        have h27b := (k2 (q + 1) (by omega)).2
        refine vs_4 (pc := 28) h27b (by rw [e2]; exact vp_in_nI (by omega) (by decide)) dX1_dropOldest_28 ?_
        rw [show x2.toNatClampNeg = q by rw [e2, cl_n (by omega)]]
        obtain ⟨x2p29, e2p29⟩ : ∃ y : Int32, y = x2 + 1 := ⟨_, rfl⟩
        refine vv_iinc (pc := 29) (q := 2) (v := x2p29) (ls' := [(2, .int x2p29), (0, .ref (gad G 3)), (1, .ref (gad G (mm_B (hb 0))))]) dX1_dropOldest_29 rfl (by rw [e2p29]; rfl) (by decide) rfl ?_
        refine vv_goto (pc := 32) (tgt := 9) dX1_dropOldest_32 (by decide) ?_
        refine vv_sub [1, 2, 0] (ls' := [(0, _), (1, _), (2, _)]) rfl ?_
        exact ih (q + 1) x2p29 _ (by omega) (by omega) (by rw [e2p29, e2]; exact nI_1 q) (fun i hi => if e : i = q then (by subst e; rw [mm_wr_s]; exact (k2 (i + 1) (by omega)).1.symm) else (by rw [mm_wr_n _ _ (Or.inr e)]; exact hr0 i (by omega))) (fun i hi => by rw [mm_wr_n _ _ (Or.inr (by omega))]; exact hr1 i (by omega)) (fun j hj => by rw [mm_wr_orow _ _ hj]; exact ho j hj)
  refine vv_sub [2, 1, 0] (ls' := [(0, _), (1, _), (2, _)]) rfl ?_
  exact lp9 7 0 x2p8 S (by omega) (by omega) e2p8 (fun i h => absurd h (Nat.not_lt_zero i)) (fun _ _ => rfl) (fun _ _ => rfl)
set_option maxRecDepth 100000 in
set_option maxHeartbeats 4000000 in
theorem c_X1_keepUnlessError (l : Launch) (G : gG) {kk : Nat} {hs : Nat → St} (S : Mem) (hh : ch S kk (kk + 1) hs) (x : Int32) : mm_C l G yX1_keepUnlessError cX1_keepUnlessError 2 (some .int) (mm_rm 1 22) [.ref (gad G 3), .int x] S (mm_Qi G (fun r S2 => r = x ∧ (sp_err x ≠ 0 → S2 = S) ∧ (sp_err x = 0 → ch S2 (sp_pk kk) (sp_pk kk) (sp_psh kk hs)) ∧ ∀ j, j ≠ 3 → j ≠ 4 → S2 j = S j)) := by
  obtain ⟨⟨k6, k7⟩, k1, hb, k2, k3, k4⟩ := id hh
  refine mm_ofV (own := RX1) (by decide +kernel) rfl (Nat.le_of_ble_eq_true rfl) (ls0 := [(0, .ref (gad G 3)), (1, .int x)]) rfl ?_
  refine vv_iload_n (pc := 0) 1 dX1_keepUnlessError_0 rfl rfl ?_
  refine vc_Ni (pc := 1) (c_X4_isError l G _ _) (host := RX4) (by decide +kernel) my_X4_isError ⟨by decide, by decide⟩ rfl rfl (Nat.le_of_ble_eq_true rfl) dX1_keepUnlessError_1 (fun r1 S1 h1 => ?_)
  obtain ⟨qS1, h1⟩ := h1
  replace qS1 := qS1.symm
  subst qS1
  refine vv_if_eq (pc := 4) (tgt := 9) dX1_keepUnlessError_4 (by decide) (fun c4 => ?_) (fun c4 => ?_)
  -- t@4 path t
  · refine vv_aload_n (pc := 9) 0 dX1_keepUnlessError_9 rfl rfl ?_
    refine vg_X1_kept (pc := 10) mw_F_X1_18 dX1_keepUnlessError_10 ?_
    refine vv_bipush (pc := 13) (v := 6) dX1_keepUnlessError_13 (by decide) ?_
    refine vv_icmp_ge (pc := 15) (tgt := 31) dX1_keepUnlessError_15 (by decide) (fun c15 => ?_) (fun c15 => ?_)
    -- t@15 path tt
    · refine vv_aload_n (pc := 31) 0 dX1_keepUnlessError_31 rfl rfl ?_
      refine vc_Vv (pc := 32) (c_X1_dropOldest l G _ (fun i hi => ⟨(k2 i hi).1, (k2 i hi).2.2⟩)) mw_M_X1_34 my_X1_dropOldest mm_rv_X1 ⟨by decide, by decide⟩ rfl rfl (Nat.le_of_ble_eq_true rfl) dX1_keepUnlessError_32 (fun S32 h32 => ?_)
      refine vv_iload_n (pc := 35) 1 dX1_keepUnlessError_35 rfl rfl ?_
      refine vr_i (pc := 36) dX1_keepUnlessError_36 ?_
      have hk : kk = 6 := by
        rw [k1] at c15
        rcases Nat.lt_or_ge kk 6 with h | h
        · exact absurd c15 (nI_ge (b := 6) h (by decide))
        · omega
      subst hk
      refine ⟨rfl, fun h => absurd (h1.symm.trans c4) h, fun _ => ?_, fun j _ h4 => h32.2 j h4⟩
      unfold sp_pk sp_psh
      exact ch_rot hh (h32.2 3 (by decide)) h32.1 (fun j hj => h32.2 j (by unfold mm_B at hj; omega))
    -- f@15 path tf
    · refine vv_aload_n (pc := 18) 0 dX1_keepUnlessError_18 rfl rfl ?_
      refine vv_dup (pc := 19) dX1_keepUnlessError_19 rfl ?_
      refine vg_X1_kept (pc := 20) mw_F_X1_18 dX1_keepUnlessError_20 ?_
      refine vv_iconst (pc := 23) (v := 1) dX1_keepUnlessError_23 (by decide) ?_
      refine vv_iadd (pc := 24) dX1_keepUnlessError_24 ?_
      refine vp_X1_kept (pc := 25) mw_F_X1_18 dX1_keepUnlessError_25 ?_
      refine vv_goto (pc := 28) (tgt := 35) dX1_keepUnlessError_28 (by decide) ?_
      refine vv_iload_n (pc := 35) 1 dX1_keepUnlessError_35 rfl rfl ?_
      refine vr_i (pc := 36) dX1_keepUnlessError_36 ?_
      have hk : kk < 6 := by
        rw [k1] at c15
        rcases Nat.lt_or_ge kk 6 with h | h
        · exact h
        · exact absurd (nI_le (a := 6) h (by omega)) c15
      have e3 : S 3 1 + 1 = nI (kk + 1) := by rw [k1]; exact nI_1 kk
      rw [e3]
      refine ⟨rfl, fun h => absurd (h1.symm.trans c4) h, fun _ => ?_, fun j h3 _ => mm_wr_orow _ _ h3⟩
      unfold sp_pk sp_psh
      rw [if_pos hk, if_pos hk]
      exact ch_more hh hk (mm_wr_s _ _ _ _) (mm_wr_orow _ _ (by decide)) (fun j hj => mm_wr_orow _ _ (by unfold mm_B at hj; omega))
  -- f@4 path f
  · refine vv_iload_n (pc := 7) 1 dX1_keepUnlessError_7 rfl rfl ?_
    refine vr_i (pc := 8) dX1_keepUnlessError_8 ?_
    exact ⟨rfl, fun _ => rfl, fun h => absurd (h1.trans h) c4, fun _ _ _ => rfl⟩
set_option maxRecDepth 100000 in
set_option maxHeartbeats 4000000 in
theorem c_X1_giveBack (l : Launch) (G : gG) {kk b : Nat} {hs : Nat → St} (S : Mem) (hb4 : b < 4) (hh : ch S kk kk hs) : mm_C l G yX1_giveBack cX1_giveBack 2 (some .int) (mm_rm 2 62) [.ref (gad G 3), .ref (gad G (mm_B b))] S (mm_Qi G (fun r S2 => (kk = 0 → r = -5 ∧ S2 = S) ∧ (∀ k, kk = k + 1 → r = nI k ∧ ch S2 k k hs ∧ bo S2 b (hs k) ∧ ∀ j, j ≠ 3 → (j < mm_B b ∨ mm_B b + 12 ≤ j) → S2 j = S j))) := by
  obtain ⟨⟨k6, k7⟩, k1, hb, k2, k3, k4⟩ := id hh
  have hb11 : b < 11 := by omega
  refine mm_ofV (own := RX1) (by decide +kernel) rfl (Nat.le_of_ble_eq_true rfl) (ls0 := [(0, .ref (gad G 3)), (1, .ref (gad G (mm_B b)))]) rfl ?_
  refine vv_aload_n (pc := 0) 0 dX1_giveBack_0 rfl rfl ?_
  refine vg_X1_kept (pc := 1) mw_F_X1_18 dX1_giveBack_1 ?_
  refine vv_if_gt (pc := 4) (tgt := 10) dX1_giveBack_4 (by decide) (fun c4 => ?_) (fun c4 => ?_)
  -- t@4 path t
  · have hk0 : kk ≠ 0 := fun h => by rw [k1, h] at c4; exact absurd c4 (by decide)
    obtain ⟨k, rfl⟩ : ∃ k, kk = k + 1 := ⟨kk - 1, by omega⟩
    have hkq := k2 k (by omega)
    have hq := k4 k (by omega)
    have hk11 : hb k < 11 := hkq.2.2
    refine vv_aload_n (pc := 10) 0 dX1_giveBack_10 rfl rfl ?_
    refine vv_dup (pc := 11) dX1_giveBack_11 rfl ?_
    refine vg_X1_kept (pc := 12) mw_F_X1_18 dX1_giveBack_12 ?_
    refine vv_iconst (pc := 15) (v := 1) dX1_giveBack_15 (by decide) ?_
    refine vv_isub (pc := 16) dX1_giveBack_16 ?_
    refine vp_X1_kept (pc := 17) mw_F_X1_18 dX1_giveBack_17 ?_
    have e3 : S 3 1 - 1 = nI k := by rw [k1]; exact (nI_pred k)
    rw [e3]
    refine vv_aload_n (pc := 20) 1 dX1_giveBack_20 rfl rfl ?_
    refine vv_aload_n (pc := 21) 0 dX1_giveBack_21 rfl rfl ?_
    refine vg_X1_states (pc := 22) mw_F_X1_11 dX1_giveBack_22 ?_
    refine vv_aload_n (pc := 25) 0 dX1_giveBack_25 rfl rfl ?_
    refine vg_X1_kept (pc := 26) mw_F_X1_18 dX1_giveBack_26 ?_
    rw [mm_wr_s]
    refine vl_4 (pc := 29) (vp_in_nI (by omega) (by decide)) dX1_giveBack_29 ?_
    rw [mm_wr_orow _ _ (show (4 : Nat) ≠ 3 by decide), cl_n (by omega), hkq.1, cl_n (by omega)]
    have hq1 : bo (mm_wr S 3 1 (nI k)) (hb k) (hs k) := bo_eq hq (fun j hj _ => mm_wr_orow _ _ (by unfold mm_B at hj; omega))
    refine vc_Vv (pc := 30) (c_X0_takeFrom l G (by assumption) (by assumption) (by omega) _ hq1.1 hq1.2.1 hq1.2.2.1) mw_M_X1_26 my_X0_takeFrom (mm_rv_B (by assumption)) ⟨by decide, by decide⟩ rfl rfl (Nat.le_of_ble_eq_true rfl) dX1_giveBack_30 (fun S30 h30 => ?_)
    refine vv_aload_n (pc := 33) 0 dX1_giveBack_33 rfl rfl ?_
    refine vg_X1_kept (pc := 34) mw_F_X1_18 dX1_giveBack_34 ?_
    rw [h30.2.2 3 (by unfold mm_B; omega), mm_wr_s]
    refine vr_i (pc := 37) dX1_giveBack_37 ?_
    obtain ⟨t1, t2, t3⟩ := h30
    refine ⟨fun h => absurd h (by omega), fun k5 hk5 => ?_⟩
    obtain rfl : k = k5 := by omega
    have hbb : ∀ j, j ≠ 3 → (j < mm_B b ∨ mm_B b + 12 ≤ j) → S30 j = S j := fun j h3 hj => (t3 j hj).trans (mm_wr_orow _ _ h3)
    refine ⟨rfl, ⟨⟨by omega, by omega⟩, by rw [t3 3 (by unfold mm_B; omega), mm_wr_s], hb, fun i hi => by rw [hbb 4 (by decide) (by unfold mm_B; omega)]; exact k2 i hi, k3, fun i hi => bo_eq (k4 i (by omega)) (fun j hj hj2 => hbb j (by unfold mm_B at hj; omega) (by have := (k2 i (by omega)).2.1; unfold mm_B at *; omega))⟩, ⟨hq.1, hq.2.1, t1, fun w hw => (t2 w hw).trans (hq1.2.2.2 w hw)⟩, hbb⟩
  -- f@4 path f
  · refine vv_bipush (pc := 7) (v := (-5)) dX1_giveBack_7 (by decide) ?_
    refine vr_i (pc := 9) dX1_giveBack_9 ?_
    refine ⟨fun _ => ⟨rfl, rfl⟩, fun k hk => ?_⟩
    rw [k1, hk] at c4
    exact absurd (nI_lt (a := 0) (b := k + 1) (by omega) (by omega)) c4
