set_option maxRecDepth 100000 in
set_option maxHeartbeats 4000000 in
theorem c_X5_undo (l : Launch) (G : gG) {kk : Nat} {hs : Nat → St} (S : Mem) (hh : mh S kk hs) : mm_C l G yX5_undo cX5_undo 2 (some .int) (mm_rm 0 0) [.ref (gad G 7)] S (mm_Qi G (fun r S2 => (kk = 0 → r = -5 ∧ S2 = S) ∧ (∀ u, kk = u + 1 → r = nI u ∧ mh S2 u hs ∧ (∀ i, i < 150 → S2 8 i = (hs u).2 i) ∧ (∀ i, 150 ≤ i → S2 8 i = S 8 i) ∧ (∀ j, j ≠ 7 → j ≠ 8 → S2 j = S j) ∧ ∀ k, k ≠ 3 → S2 7 k = S 7 k))) := by
  obtain ⟨hk1, hk2, hk3⟩ := id hh
  refine mm_ofV (own := RX5) (by decide +kernel) rfl (Nat.le_of_ble_eq_true rfl) (ls0 := [(0, .ref (gad G 7))]) rfl ?_
  refine vv_aload_n (pc := 0) 0 dX5_undo_0 rfl rfl ?_
  refine vg_X5_undos (pc := 1) mw_F_X5_39 dX5_undo_1 ?_
  rw [hk1]
  refine vv_if_ne (pc := 4) (tgt := 10) dX5_undo_4 (by decide) (fun c4 => ?_) (fun c4 => ?_)
  -- t@4 path t
  · obtain ⟨u, hu⟩ : ∃ u, kk = u + 1 := by
      rcases kk with _ | u
      · exact absurd rfl c4
      · exact ⟨u, rfl⟩
    refine vv_aload_n (pc := 10) 0 dX5_undo_10 rfl rfl ?_
    refine vv_dup (pc := 11) dX5_undo_11 rfl ?_
    refine vg_X5_undos (pc := 12) mw_F_X5_39 dX5_undo_12 ?_
    rw [hk1]
    refine vv_iconst (pc := 15) (v := 1) dX5_undo_15 (by decide) ?_
    refine vv_isub (pc := 16) dX5_undo_16 ?_
    rw [show nI kk - 1 = nI u from by rw [hu]; exact nI_m1 u]
    refine vp_X5_undos (pc := 17) mw_F_X5_39 dX5_undo_17 ?_
    refine vv_mem (fun Sb eSb => ?_)
    have b3 : Sb 7 3 = nI u := by rw [eSb, mm_wr_s]
    have b10 : Sb 10 = S 10 := by rw [eSb, mm_wr_orow _ _ (by decide)]
    refine vv_iconst (pc := 20) (v := 0) dX5_undo_20 (by decide) ?_
    refine vv_topi (fun x1p21 e1p21 => ?_)
    refine vv_istore_n (pc := 21) (i := 1) (ls' := [(1, .int x1p21), (0, .ref (gad G 7))]) dX5_undo_21 rfl (by decide) rfl ?_
    have lp22 : ∀ (n : Nat) (k : Nat) (x1 : Int32) (S1 : Mem), S1 = mR Sb 8 (cpk k (fun i => Sb 10 (150 * u + i)) (Sb 8)) → 151 ≤ n + k → k ≤ 150 → x1 = nI k → mm_V l G RX5 cX5_undo 2 (some .int) (mm_rm 0 0) 0 0 (fun _ => True) (fun _ => mm_F G) (mm_Qf G (mm_Qi G (fun r S2 => (kk = 0 → r = -5 ∧ S2 = S) ∧ (∀ u, kk = u + 1 → r = nI u ∧ mh S2 u hs ∧ (∀ i, i < 150 → S2 8 i = (hs u).2 i) ∧ (∀ i, 150 ≤ i → S2 8 i = S 8 i) ∧ (∀ j, j ≠ 7 → j ≠ 8 → S2 j = S j) ∧ ∀ k, k ≠ 3 → S2 7 k = S 7 k)))) S1 22 [(0, .ref (gad G 7)), (1, .int x1)] [] := by
      intro n
      induction n with
      | zero =>
        intro k x1 S1 eS1 hn hkl e1
        exact absurd hn (by omega)
      | succ n ih =>
        intro k x1 S1 eS1 hn hkl e1
        subst eS1
        refine vv_iload_n (pc := 22) 1 dX5_undo_22 rfl rfl ?_
        refine vv_sipush (pc := 23) (v := 150) dX5_undo_23 (by decide) ?_
        refine vv_icmp_ge (pc := 26) (tgt := 56) dX5_undo_26 (by decide) (fun c26 => ?_) (fun c26 => ?_)
        -- t@26 path tL22t
        · refine vv_aload_n (pc := 56) 0 dX5_undo_56 rfl rfl ?_
          refine vg_X5_undos (pc := 57) mw_F_X5_39 dX5_undo_57 ?_
          rw [mR_o _ _ (by decide), b3]
          refine vr_i (pc := 60) dX5_undo_60 ?_
          have hke := sp_geN (N := 150) (by decide) hkl e1 c26
          subst hke
          refine ⟨fun h => absurd h (by omega), fun v hv => ?_⟩
          obtain rfl : u = v := by omega
          refine ⟨rfl, ⟨?_, by omega, ?_⟩, ?_, ?_, ?_, ?_⟩
          · rw [mR_o _ _ (by decide), b3]
          · intro j hj i hi
            rw [mR_o _ _ (by decide), b10]
            exact hk3 j (by omega) i hi
          · intro i hi
            rw [mR_s, cpk, if_pos hi, b10]
            exact hk3 u (by omega) i hi
          · intro i hi
            rw [mR_s, cpk, if_neg (by omega), eSb, mm_wr_orow _ _ (by decide)]
          · intro j h7 h8
            rw [mR_o _ _ h8, eSb, mm_wr_orow _ _ h7]
          · intro k h3
            rw [mR_o _ _ (by decide), eSb, mm_wr_n _ _ (Or.inr h3)]
        -- f@26 path tL22f
        · have hk150 : k < 150 := sp_ltN (N := 150) (by decide) hkl e1 c26
          refine vv_aload_n (pc := 29) 0 dX5_undo_29 rfl rfl ?_
          refine vg_X5_now (pc := 30) mw_F_X5_7 dX5_undo_30 ?_
          refine vv_iload_n (pc := 33) 1 dX5_undo_33 rfl rfl ?_
          refine vv_aload_n (pc := 34) 0 dX5_undo_34 rfl rfl ?_
          refine vg_X5_history (pc := 35) mw_F_X5_16 dX5_undo_35 ?_
          refine vv_aload_n (pc := 38) 0 dX5_undo_38 rfl rfl ?_
          refine vg_X5_undos (pc := 39) mw_F_X5_39 dX5_undo_39 ?_
          refine vv_sipush (pc := 42) (v := 150) dX5_undo_42 (by decide) ?_
          refine vv_imul (pc := 45) dX5_undo_45 ?_
          refine vv_iload_n (pc := 46) 1 dX5_undo_46 rfl rfl ?_
          refine vv_iadd (pc := 47) dX5_undo_47 ?_
          rw [mR_o _ _ (by decide), b3, show nI u * 150 + x1 = nI (150 * u + k) from by rw [e1]; exact (by rw [show (150 : Int32) = nI 150 from rfl, nI_mul, nI_add, Nat.mul_comm])]
          refine vl_10 (pc := 48) (vp_in_nI (by omega) (by decide)) dX5_undo_48 ?_
          rw [mR_o _ _ (by decide), cl_n (by omega)]
          refine vs_8 (pc := 49) (by rw [e1]; exact vp_in_nI hk150 (by decide)) dX5_undo_49 ?_
          refine vv_mem (fun Sy eSy => ?_)
          have hSy : Sy = mR Sb 8 (cpk (k + 1) (fun i => Sb 10 (150 * u + i)) (Sb 8)) := by
            rw [eSy, show x1.toNatClampNeg = k from by rw [e1, cl_n (by omega)], mR_wr, mR_mR, mR_s, ← cpk_s]
          obtain ⟨x1p50, e1p50⟩ : ∃ y : Int32, y = x1 + 1 := ⟨_, rfl⟩
          refine vv_iinc (pc := 50) (q := 1) (v := x1p50) (ls' := [(1, .int x1p50), (0, .ref (gad G 7))]) dX5_undo_50 rfl (by rw [e1p50]; rfl) (by decide) rfl ?_
          refine vv_goto (pc := 53) (tgt := 22) dX5_undo_53 (by decide) ?_
          refine vv_sub [1, 0] (ls' := [(0, _), (1, _)]) rfl ?_
          exact ih (k + 1) x1p50 _ hSy (by omega) (by omega) (by rw [e1p50, e1, nI_1])
    refine vv_sub [1, 0] (ls' := [(0, _), (1, _)]) rfl ?_
    exact lp22 151 0 x1p21 Sb (by rw [cpk_0, mR_self]) (by omega) (by omega) e1p21
  -- f@4 path f
  · refine vv_bipush (pc := 7) (v := (-5)) dX5_undo_7 (by decide) ?_
    refine vr_i (pc := 9) dX5_undo_9 ?_
    have hk0 : kk = 0 := by
      rcases kk with _ | u
      · rfl
      · first | exact absurd c4 (nI_ne0 (by omega) (by omega)) | exact absurd (Classical.not_not.mp c4) (nI_ne0 (by omega) (by omega))
    exact ⟨fun _ => ⟨rfl, rfl⟩, fun u hu => absurd (hk0.symm.trans hu) (by omega)⟩
