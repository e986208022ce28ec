set_option maxRecDepth 100000 in
set_option maxHeartbeats 4000000 in
theorem c_X5_pitch (l : Launch) (G : gG) (S : Mem) {w : Nat} {x : Int32} (hx : x = nI w) (hw : w < 8) (t : Int32) (hrg : sp_rg (sp_f (S 8) w 1) (sp_f (S 8) w 2) t) : mm_C l G yX5_pitch cX5_pitch 7 (some .int) (mm_rm 2 43) [.ref (gad G 7), .int x, .int t] S (mm_Qi G (fun r S2 => S2 = S ∧ r = sp_pt (sp_f (S 8) w 1) (sp_f (S 8) w 2) t)) := by
  obtain ⟨r1, r2, r3, r4, r5, r6⟩ := id hrg
  obtain ⟨F, eF⟩ : ∃ F, F = sp_pf (t.toNatClampNeg * 1000000) ((sp_f (S 8) w 1).toNatClampNeg * (sp_f (S 8) w 1).toNatClampNeg * (sp_f (S 8) w 2).toNatClampNeg) 15 0 := ⟨_, rfl⟩
  have hres : sp_pt (sp_f (S 8) w 1) (sp_f (S 8) w 2) t = nI F := by rw [eF]; rfl
  obtain ⟨m0, em⟩ : ∃ z, z = t.toNatClampNeg * 1000000 := ⟨_, rfl⟩
  obtain ⟨w0, ew⟩ : ∃ z, z = (sp_f (S 8) w 1).toNatClampNeg * (sp_f (S 8) w 1).toNatClampNeg * (sp_f (S 8) w 2).toNatClampNeg := ⟨_, rfl⟩
  have hl1 := sp_cl (x := sp_f (S 8) w 1) (by omega)
  have hl2 := sp_cl (x := sp_f (S 8) w 2) (by omega)
  have hl3 := sp_cl (x := t) (by omega)
  have hm0 : m0 ≤ 50000000000 := by rw [em]; omega
  have hw0 : w0 ≤ 800000 := by rw [ew]; exact Nat.mul_le_mul (Nat.mul_le_mul (by omega : _ ≤ 200) (by omega : _ ≤ 200)) (by omega : _ ≤ 20)
  have hw1 : 1 * 1 * 1 ≤ w0 := by rw [ew]; exact Nat.mul_le_mul (Nat.mul_le_mul (by omega) (by omega)) (by omega)
  rw [← em, ← ew] at eF
  refine mm_ofV (own := RX5) (by decide +kernel) rfl (Nat.le_of_ble_eq_true rfl) (ls0 := [(0, .ref (gad G 7)), (1, .int x), (2, .int t)]) rfl ?_
  refine vv_iload_n (pc := 0) 2 dX5_pitch_0 rfl rfl ?_
  refine vv_i2l (pc := 1) dX5_pitch_1 ?_
  refine vv_ldc2 (pc := 2) mw_L_X5_51 dX5_pitch_2 ?_
  refine vv_lmul (pc := 5) dX5_pitch_5 ?_
  refine vv_aload_n (pc := 6) 0 dX5_pitch_6 rfl rfl ?_
  refine vv_iload_n (pc := 7) 1 dX5_pitch_7 rfl rfl ?_
  refine vc_Vl (pc := 8) (c_X5_weight l G _ (by assumption) (by assumption)) mw_M_X5_53 my_X5_weight mm_rv_X5 ⟨by decide, by decide⟩ rfl rfl (Nat.le_of_ble_eq_true rfl) dX5_pitch_8 (fun r8 S8 h8 => ?_)
  obtain ⟨qS8, h8⟩ := h8
  replace qS8 := qS8.symm
  subst qS8
  refine vv_ldiv (pc := 11) dX5_pitch_11 (by rw [h8, sp_wtN (by omega) (by omega), ← ew]; exact fun h => Nat.ne_of_gt (show 0 < w0 by omega) ((lN_eq (a := w0) (b := 0) (by omega) (by decide)).mp h)) ?_
  refine vv_topl (fun x3p12 e3p12 => ?_)
  refine vv_lstore_n (pc := 12) (i := 3) (ls' := [(3, .long x3p12), (0, .ref (gad G 7)), (1, .int x), (2, .int t)]) dX5_pitch_12 rfl (by decide) rfl ?_
  have e3 : x3p12 = lN (m0 / w0) := by
    rw [e3p12, h8, sp_wtN (by omega) (by omega), ← ew, sp_toL (by omega), show (1000000 : Int64) = lN 1000000 from rfl, lN_mul, ← em]
    exact pk_lDiv (by omega) (by omega) (by omega)
  have hq0 : m0 / w0 ≤ m0 := Nat.div_le_self _ _
  refine vv_iconst (pc := 13) (v := 0) dX5_pitch_13 (by decide) ?_
  refine vv_topi (fun x5p14 e5p14 => ?_)
  refine vv_istore (pc := 14) (i := 5) (ls' := [(5, .int x5p14), (3, .long x3p12), (0, .ref (gad G 7)), (1, .int x), (2, .int t)]) dX5_pitch_14 (by decide) rfl ?_
  refine vv_sipush (pc := 16) (v := 16384) dX5_pitch_16 (by decide) ?_
  refine vv_topi (fun x6p19 e6p19 => ?_)
  refine vv_istore (pc := 19) (i := 6) (ls' := [(6, .int x6p19), (5, .int x5p14), (3, .long x3p12), (0, .ref (gad G 7)), (1, .int x), (2, .int t)]) dX5_pitch_19 (by decide) rfl ?_
  have lp21 : ∀ (n : Nat) (k p : Nat) (x5 x6 : Int32), k < n → k ≤ 15 → x6 = nI (2 ^ k / 2) → x5 = nI p → p + 2 ^ k ≤ 32768 → sp_pf m0 w0 k p = F → mm_V l G RX5 cX5_pitch 7 (some .int) (mm_rm 2 43) 0 0 (fun _ => True) (fun _ => mm_F G) (mm_Qf G (mm_Qi G (fun r S2 => S2 = S ∧ r = sp_pt (sp_f (S 8) w 1) (sp_f (S 8) w 2) t))) S 21 [(0, .ref (gad G 7)), (1, .int x), (2, .int t), (3, .long x3p12), (5, .int x5), (6, .int x6)] [] := by
    intro n
    induction n with
    | zero =>
      intro k p x5 x6 hn hk15 e6 e5 hpk hF
      exact absurd hn (by omega)
    | succ n ih =>
      intro k p x5 x6 hn hk15 e6 e5 hpk hF
      refine vv_iload (pc := 21) 5 dX5_pitch_21 rfl ?_
      refine vv_if_le (pc := 23) (tgt := 64) dX5_pitch_23 (by decide) (fun c23 => ?_) (fun c23 => ?_)
      -- t@23 path L21t
      · refine vv_iload (pc := 64) 4 dX5_pitch_64 rfl ?_
        refine vr_i (pc := 66) dX5_pitch_66 ?_
        have hk0 : k = 0 := by
          rcases k with _ | k1
          · rfl
          · rw [e6, Nat.pow_succ, Nat.mul_div_cancel _ (by decide)] at c23
            have h15 : 2 ^ k1 ≤ 2 ^ 15 := Nat.pow_le_pow_right (by decide) (by omega)
            exact absurd c23 (nI_nle (Nat.two_pow_pos k1) (by omega))
        subst hk0
        rw [sp_pf] at hF
        exact ⟨rfl, by rw [hres, ← hF]; exact e5⟩
      -- f@23 path L21f
      · obtain ⟨k1, rfl⟩ : ∃ k1, k = k1 + 1 := by
          rcases k with _ | k1
          · rw [e6] at c23; exact absurd (by decide) c23
          · exact ⟨k1, rfl⟩
        have hk2 : 2 ^ (k1 + 1) = 2 * 2 ^ k1 := by rw [Nat.pow_succ]; omega
        have e61 : x6 = nI (2 ^ k1) := by rw [e6, hk2, Nat.mul_div_cancel_left _ (by decide)]
        have hpl : (x5 + x6).toInt64 = lN (p + 2 ^ k1) := by rw [e5, e61, nI_add, nI_l (by omega)]
        have hsq : (p + 2 ^ k1) * (p + 2 ^ k1) ≤ 32768 * 32768 := Nat.mul_le_mul (by omega) (by omega)
        have hcmp : (0 < lg_cmp ((x5 + x6).toInt64 * (x5 + x6).toInt64) x3p12) ↔ ¬ ((p + 2 ^ k1) * (p + 2 ^ k1) * w0 ≤ m0) := by
          rw [lg_cmp_gt, hpl, e3, lN_mul, pk_lLT (by omega) (by omega), ← Nat.le_div_iff_mul_le (by omega)]
          omega
        rw [sp_pf] at hF
        refine vv_iload (pc := 26) 4 dX5_pitch_26 rfl ?_
        refine vv_iload (pc := 28) 4 dX5_pitch_28 rfl ?_
        refine vv_iload (pc := 30) 5 dX5_pitch_30 rfl ?_
        refine vv_iadd (pc := 32) dX5_pitch_32 ?_
        refine vv_i2l (pc := 33) dX5_pitch_33 ?_
        refine vv_iload (pc := 34) 4 dX5_pitch_34 rfl ?_
        refine vv_iload (pc := 36) 5 dX5_pitch_36 rfl ?_
        refine vv_iadd (pc := 38) dX5_pitch_38 ?_
        refine vv_i2l (pc := 39) dX5_pitch_39 ?_
        refine vv_lmul (pc := 40) dX5_pitch_40 ?_
        refine vv_lload_n (pc := 41) 3 dX5_pitch_41 rfl rfl ?_
        refine vv_lcmp (pc := 42) dX5_pitch_42 ?_
        refine vv_if_gt (pc := 43) (tgt := 51) dX5_pitch_43 (by decide) (fun c43 => ?_) (fun c43 => ?_)
        -- t@43 path L21ft
        · refine vv_iconst (pc := 51) (v := 0) dX5_pitch_51 (by decide) ?_
          refine vv_iadd (pc := 52) dX5_pitch_52 ?_
          rw [hcmp] at c43
          rw [if_neg c43] at hF
          refine vv_topi (fun x5p53 e5p53 => ?_)
          refine vv_istore (pc := 53) (i := 5) (ls' := [(5, .int x5p53), (0, .ref (gad G 7)), (1, .int x), (2, .int t), (3, .long x3p12), (6, .int x6)]) dX5_pitch_53 (by decide) rfl ?_
          refine vv_iload (pc := 55) 5 dX5_pitch_55 rfl ?_
          refine vv_iconst (pc := 57) (v := 2) dX5_pitch_57 (by decide) ?_
          refine vv_idiv (pc := 58) dX5_pitch_58 (by decide) ?_
          refine vv_topi (fun x6p59 e6p59 => ?_)
          refine vv_istore (pc := 59) (i := 6) (ls' := [(6, .int x6p59), (5, .int x5p53), (0, .ref (gad G 7)), (1, .int x), (2, .int t), (3, .long x3p12)]) dX5_pitch_59 (by decide) rfl ?_
          refine vv_goto (pc := 61) (tgt := 21) dX5_pitch_61 (by decide) ?_
          have he5 : x5p53 = nI p := by rw [e5p53, e5]; exact Int32.add_zero _
          have hp2 : p + 2 ^ k1 ≤ 32768 := by omega
          refine vv_sub [2, 3, 4, 5, 1, 0] (ls' := [(0, _), (1, _), (2, _), (3, _), (5, _), (6, _)]) rfl ?_
          exact ih k1 _ x5p53 x6p59 (by omega) (by omega) (by rw [e6p59, e61]; exact pk_div (by omega) (by decide) (by decide)) he5 hp2 hF
        -- f@43 path L21ff
        · refine vv_iload (pc := 46) 5 dX5_pitch_46 rfl ?_
          refine vv_goto (pc := 48) (tgt := 52) dX5_pitch_48 (by decide) ?_
          refine vv_iadd (pc := 52) dX5_pitch_52 ?_
          rw [hcmp] at c43
          rw [if_pos (Classical.not_not.mp c43)] at hF
          refine vv_topi (fun x5p53 e5p53 => ?_)
          refine vv_istore (pc := 53) (i := 5) (ls' := [(5, .int x5p53), (0, .ref (gad G 7)), (1, .int x), (2, .int t), (3, .long x3p12), (6, .int x6)]) dX5_pitch_53 (by decide) rfl ?_
          refine vv_iload (pc := 55) 5 dX5_pitch_55 rfl ?_
          refine vv_iconst (pc := 57) (v := 2) dX5_pitch_57 (by decide) ?_
          refine vv_idiv (pc := 58) dX5_pitch_58 (by decide) ?_
          refine vv_topi (fun x6p59 e6p59 => ?_)
          refine vv_istore (pc := 59) (i := 6) (ls' := [(6, .int x6p59), (5, .int x5p53), (0, .ref (gad G 7)), (1, .int x), (2, .int t), (3, .long x3p12)]) dX5_pitch_59 (by decide) rfl ?_
          refine vv_goto (pc := 61) (tgt := 21) dX5_pitch_61 (by decide) ?_
          have he5 : x5p53 = nI (p + 2 ^ k1) := by rw [e5p53, e5, e61, nI_add]
          have hp2 : p + 2 ^ k1 + 2 ^ k1 ≤ 32768 := by omega
          refine vv_sub [2, 3, 4, 5, 1, 0] (ls' := [(0, _), (1, _), (2, _), (3, _), (5, _), (6, _)]) rfl ?_
          exact ih k1 _ x5p53 x6p59 (by omega) (by omega) (by rw [e6p59, e61]; exact pk_div (by omega) (by decide) (by decide)) he5 hp2 hF
  refine vv_sub [3, 4, 5, 2, 1, 0] (ls' := [(0, _), (1, _), (2, _), (3, _), (5, _), (6, _)]) rfl ?_
  exact lp21 16 15 0 x5p14 x6p19 (by omega) (by omega) (by rw [e6p19]; decide) e5p14 (by decide) eF.symm
