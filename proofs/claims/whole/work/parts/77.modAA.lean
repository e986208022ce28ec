/-! SIGNS PUT ON THE MODEL'S PAD -/
theorem and255 {n : Nat} (h : n < 2 ^ 64) : lN n &&& 255 = lN (n % 256) := wb_mask (k := 8) h (by decide)
theorem shr8 {n : Nat} (h : n < 2 ^ 64) : ((lN n).toUInt64 >>> ((8 : Int32).toInt64.toUInt64 &&& Int64.toUInt64 63)).toInt64 = lN (n / 256) := wb_shr (k := 8) h (by decide)
theorem dv_lt {u : Nat} (h : u < 2 ^ 64) (k : Nat) : u / 256 ^ k < 2 ^ 64 := Nat.lt_of_le_of_lt (Nat.div_le_self _ _) h
theorem dv_8 {u : Nat} (h : u < 2 ^ 64) : u / 256 ^ 8 = 0 := Nat.div_eq_of_lt h
theorem dv_s (u k : Nat) : u / 256 ^ k / 256 = u / 256 ^ (k + 1) := by rw [Nat.div_div_eq_div_mul, Nat.pow_succ]
/-- the pad while it is written from behind -/
def pdm (t : Nat → Int32) (L u n m : Nat) : Nat → Int32 := fun i => if L + m ≤ i ∧ i < L + n then nI (sp_by u (n - 1 - (i - L))) else t i
theorem pdm_0 (t : Nat → Int32) (L u n : Nat) : pdm t L u n 0 = sp_put t L u n := rfl
theorem pdm_n (t : Nat → Int32) (L u n : Nat) : pdm t L u n n = t := by
  funext i
  unfold pdm
  rw [if_neg (by omega)]
theorem pdm_s {t : Nat → Int32} {L u n m : Nat} (h : m < n) : upd (pdm t L u n (m + 1)) (L + m) (nI (sp_by u (n - 1 - m))) = pdm t L u n m := by
  funext i
  by_cases e : i = L + m
  · subst e
    rw [upd_s]
    unfold pdm
    rw [if_pos (by omega), show L + m - L = m by omega]
  · rw [upd_n _ _ e]
    unfold pdm
    by_cases g : L + (m + 1) ≤ i ∧ i < L + n
    · rw [if_pos g, if_pos (by omega)]
    · rw [if_neg g, if_neg (by omega)]
set_option maxRecDepth 100000 in
set_option maxHeartbeats 4000000 in
theorem c_X5_wipe (l : Launch) (G : gG) (S : Mem) : mm_C l G yX5_wipe cX5_wipe 2 (some .int) (mm_rm 0 0) [.ref (gad G 7)] S (mm_Qi G (fun r S2 => r = S 7 7 ∧ S2 = mm_wr S 7 7 0)) := by
  refine mm_ofV (own := RX5) (by decide +kernel) rfl (Nat.le_of_ble_eq_true rfl) (ls0 := [(0, .ref (gad G 7))]) rfl ?_
  refine vv_aload_n (pc := 0) 0 dX5_wipe_0 rfl rfl ?_
  refine vg_X5_signs (pc := 1) mw_F_X5_133 dX5_wipe_1 ?_
  refine vv_topi (fun x1p4 e1p4 => ?_)
  refine vv_istore_n (pc := 4) (i := 1) (ls' := [(1, .int x1p4), (0, .ref (gad G 7))]) dX5_wipe_4 rfl (by decide) rfl ?_
  refine vv_aload_n (pc := 5) 1 dX5_wipe_5 rfl rfl ?_
  refine vv_iconst (pc := 6) (v := 0) dX5_wipe_6 (by decide) ?_
  refine vp_X5_signs (pc := 7) mw_F_X5_133 dX5_wipe_7 ?_
  refine vv_iload_n (pc := 10) 0 dX5_wipe_10 rfl rfl ?_
  refine vr_i (pc := 11) dX5_wipe_11 ?_
  exact ⟨e1p4, rfl⟩
set_option maxRecDepth 100000 in
set_option maxHeartbeats 4000000 in
theorem c_X5_put (l : Launch) (G : gG) (S : Mem) {u L : Nat} {x : Int64} (hx : x = lN u) (hu : u < 2 ^ 64) (hL : S 7 7 = nI L) (hL60 : L ≤ 60) : mm_C l G yX5_put cX5_put 7 (some .int) (mm_rm 1 22) [.ref (gad G 7), .long x] S (mm_Qi G (fun r S2 => r = op_put (S 13) L u ∧ (sp_err r ≠ 0 → S2 = S) ∧ (sp_err r = 0 → S2 = mR (mm_wr S 7 7 (nI (L + sp_nch u 8 0))) 13 (sp_put (S 13) L u (sp_nch u 8 0)) ∧ L + sp_nch u 8 0 ≤ 60 ∧ sp_nch u 8 0 ≠ 0))) := by
  obtain ⟨F, eF⟩ : ∃ F, F = sp_nch u 8 0 := ⟨_, rfl⟩
  have hF8 : F ≤ 8 := by rw [eF]; exact sp_nch_le u 8 0
  rw [← eF]
  refine mm_ofV (own := RX5) (by decide +kernel) rfl (Nat.le_of_ble_eq_true rfl) (ls0 := [(0, .ref (gad G 7)), (1, .long x)]) rfl ?_
  refine vv_iconst (pc := 0) (v := 0) dX5_put_0 (by decide) ?_
  refine vv_topi (fun x3p1 e3p1 => ?_)
  refine vv_istore_n (pc := 1) (i := 3) (ls' := [(3, .int x3p1), (0, .ref (gad G 7)), (1, .long x)]) dX5_put_1 rfl (by decide) rfl ?_
  refine vv_lload_n (pc := 2) 2 dX5_put_2 rfl rfl ?_
  refine vv_topl (fun x4p3 e4p3 => ?_)
  refine vv_lstore (pc := 3) (i := 4) (ls' := [(4, .long x4p3), (3, .int x3p1), (0, .ref (gad G 7)), (1, .long x)]) dX5_put_3 (by decide) rfl ?_
  have lp5 : ∀ (n : Nat) (k : Nat) (x3 : Int32) (x4 : Int64), 9 ≤ n + k → k ≤ 8 → x3 = nI k → x4 = lN (u / 256 ^ k) → sp_nch u (8 - k) k = F → mm_V l G RX5 cX5_put 7 (some .int) (mm_rm 1 22) 0 0 (fun _ => True) (fun _ => mm_F G) (mm_Qf G (mm_Qi G (fun r S2 => r = op_put (S 13) L u ∧ (sp_err r ≠ 0 → S2 = S) ∧ (sp_err r = 0 → S2 = mR (mm_wr S 7 7 (nI (L + F))) 13 (sp_put (S 13) L u F) ∧ L + F ≤ 60 ∧ F ≠ 0)))) S 5 [(0, .ref (gad G 7)), (1, .long x), (3, .int x3), (4, .long x4)] [] := by
    intro n
    induction n with
    | zero =>
      intro k x3 x4 hn hkl e3 e4 hF
      exact absurd hn (by omega)
    | succ n ih =>
      intro k x3 x4 hn hkl e3 e4 hF
      refine vv_lload (pc := 5) 3 dX5_put_5 rfl ?_
      refine vv_ldc2 (pc := 7) mw_L_X5_168 dX5_put_7 ?_
      refine vv_land (pc := 10) dX5_put_10 ?_
      refine vv_lconst (pc := 11) (v := 0) dX5_put_11 (by decide) ?_
      refine vv_lcmp (pc := 12) dX5_put_12 ?_
      have hby := sp_by_lt u k
      have h255 : x4 &&& 255 = lN (sp_by u k) := by rw [e4, and255 (dv_lt hu k)]; rfl
      rw [h255]
      refine vv_if_eq (pc := 13) (tgt := 49) dX5_put_13 (by decide) (fun c13 => ?_) (fun c13 => ?_)
      -- t@13 path L5t
      · rw [lg_cmp_eq, lN_0 (by omega)] at c13
        have hFz : (u / 256 ^ k ≠ 0 → F = 0) ∧ (u / 256 ^ k = 0 → F = k) := by
          by_cases e : k = 8
          · rw [e] at hF ⊢
            exact ⟨fun h => absurd (dv_8 hu) h, fun _ => hF.symm⟩
          · rw [show 8 - k = (8 - (k + 1)) + 1 by omega, sp_nch, if_pos c13] at hF
            exact ⟨fun h => by rw [if_neg h] at hF; exact hF.symm, fun h => by rw [if_pos h] at hF; exact hF.symm⟩
        refine vv_lload (pc := 49) 3 dX5_put_49 rfl ?_
        refine vv_lconst (pc := 51) (v := 0) dX5_put_51 (by decide) ?_
        refine vv_lcmp (pc := 52) dX5_put_52 ?_
        refine vv_if_ne (pc := 53) (tgt := 60) dX5_put_53 (by decide) (fun c53 => ?_) (fun c53 => ?_)
        -- t@53 path L5tt
        · refine vv_bipush (pc := 60) (v := (-2)) dX5_put_60 (by decide) ?_
          refine vr_i (pc := 62) dX5_put_62 ?_
          rw [lg_cmp_eq, e4, lN_0 (dv_lt hu k)] at c53
          have h0 : F = 0 := hFz.1 c53
          have hop : op_put (S 13) L u = -2 := by unfold op_put; rw [← eF, if_pos h0]
          exact ⟨hop.symm, fun _ => rfl, fun h => absurd h (by decide)⟩
        -- f@53 path L5tf
        · refine vv_iload_n (pc := 56) 2 dX5_put_56 rfl rfl ?_
          refine vv_if_ne (pc := 57) (tgt := 63) dX5_put_57 (by decide) (fun c57 => ?_) (fun c57 => ?_)
          -- t@57 path L5tft
          · rw [lg_cmp_eq, e4, lN_0 (dv_lt hu k)] at c53
            have hFk := hFz.2 c53
            have e3F : x3 = nI F := by rw [e3, hFk]
            have hF0 : F ≠ 0 := fun h => c57 (by rw [e3F, h]; rfl)
            refine vv_aload_n (pc := 63) 0 dX5_put_63 rfl rfl ?_
            refine vg_X5_signs (pc := 64) mw_F_X5_133 dX5_put_64 ?_
            refine vv_iload_n (pc := 67) 2 dX5_put_67 rfl rfl ?_
            refine vv_iadd (pc := 68) dX5_put_68 ?_
            refine vv_bipush (pc := 69) (v := 60) dX5_put_69 (by decide) ?_
            rw [hL, show nI L + x3 = nI (L + F) from by rw [e3F]; exact nI_add L F]
            refine vv_icmp_le (pc := 71) (tgt := 77) dX5_put_71 (by decide) (fun c71 => ?_) (fun c71 => ?_)
            -- t@71 path L5tftt
            · have hLF : L + F ≤ 60 := by
                rw [show (60 : Int32) = nI 60 from rfl, nI_leI (by omega) (by decide)] at c71
                exact c71
              have hop : op_put (S 13) L u = nI (L + F) := by unfold op_put; rw [← eF, if_neg hF0, if_neg (by omega)]
              refine vv_lload_n (pc := 77) 1 dX5_put_77 rfl rfl ?_
              refine vv_topl (fun x4p78 e4p78 => ?_)
              refine vv_lstore (pc := 78) (i := 4) (ls' := [(4, .long x4p78), (0, .ref (gad G 7)), (1, .long x), (3, .int x3)]) dX5_put_78 (by decide) rfl ?_
              refine vv_iload_n (pc := 80) 3 dX5_put_80 rfl rfl ?_
              refine vv_iconst (pc := 81) (v := 1) dX5_put_81 (by decide) ?_
              refine vv_isub (pc := 82) dX5_put_82 ?_
              refine vv_topi (fun x6p83 e6p83 => ?_)
              refine vv_istore (pc := 83) (i := 6) (ls' := [(6, .int x6p83), (4, .long x4p78), (0, .ref (gad G 7)), (1, .long x), (3, .int x3)]) dX5_put_83 (by decide) rfl ?_
              have lp85 : ∀ (f2 : Nat) (m : Nat) (x4 : Int64) (x6 : Int32) (S1 : Mem), S1 = mR S 13 (pdm (S 13) L u F m) → m ≤ F → x6 = nI m - 1 → x4 = lN (u / 256 ^ (F - m)) → m < f2 → mm_V l G RX5 cX5_put 7 (some .int) (mm_rm 1 22) 0 0 (fun _ => True) (fun _ => mm_F G) (mm_Qf G (mm_Qi G (fun r S2 => r = op_put (S 13) L u ∧ (sp_err r ≠ 0 → S2 = S) ∧ (sp_err r = 0 → S2 = mR (mm_wr S 7 7 (nI (L + F))) 13 (sp_put (S 13) L u F) ∧ L + F ≤ 60 ∧ F ≠ 0)))) S1 85 [(0, .ref (gad G 7)), (1, .long x), (3, .int x3), (4, .long x4), (6, .int x6)] [] := by
                intro f2
                induction f2 with
                | zero =>
                  intro m x4 x6 S1 eS1 hmF e6 e4 hn2
                  exact absurd hn (by omega)
                | succ f2 ih2 =>
                  intro m x4 x6 S1 eS1 hmF e6 e4 hn2
                  subst eS1
                  refine vv_iload (pc := 85) 4 dX5_put_85 rfl ?_
                  refine vv_if_lt (pc := 87) (tgt := 122) dX5_put_87 (by decide) (fun c87 => ?_) (fun c87 => ?_)
                  -- t@87 path L5tfttL85t
                  · refine vv_aload_n (pc := 122) 0 dX5_put_122 rfl rfl ?_
                    refine vv_dup (pc := 123) dX5_put_123 rfl ?_
                    refine vg_X5_signs (pc := 124) mw_F_X5_133 dX5_put_124 ?_
                    refine vv_iload_n (pc := 127) 2 dX5_put_127 rfl rfl ?_
                    refine vv_iadd (pc := 128) dX5_put_128 ?_
                    rw [show mR S 13 (pdm (S 13) L u F m) 7 7 = nI L from by rw [mR_o _ _ (by decide)]; exact hL, show nI L + x3 = nI (L + F) from by rw [e3F]; exact nI_add L F]
                    refine vp_X5_signs (pc := 129) mw_F_X5_133 dX5_put_129 ?_
                    refine vv_aload_n (pc := 132) 0 dX5_put_132 rfl rfl ?_
                    refine vg_X5_signs (pc := 133) mw_F_X5_133 dX5_put_133 ?_
                    rw [mm_wr_s]
                    refine vr_i (pc := 136) dX5_put_136 ?_
                    have hm0 : m = 0 := (nI_lt0 (by omega)).mp (by rw [← e6]; exact c87)
                    subst hm0
                    refine ⟨hop.symm, fun h => absurd (sp_err_nI (n := L + F) (by omega)) h, fun _ => ⟨?_, hLF, hF0⟩⟩
                    rw [pdm_0, mR_wr, mR_o _ _ (by decide), mR_wr, mR_c (by decide)]
                  -- f@87 path L5tfttL85f
                  · obtain ⟨m1, rfl⟩ : ∃ m1, m = m1 + 1 := by
                      rcases m with _ | m1
                      · rw [e6] at c87; exact absurd (by decide) c87
                      · exact ⟨m1, rfl⟩
                    rw [nI_m1] at e6
                    have hLr : mR S 13 (pdm (S 13) L u F (m1 + 1)) 7 7 = nI L := by rw [mR_o _ _ (by decide)]; exact hL
                    refine vv_aload_n (pc := 90) 0 dX5_put_90 rfl rfl ?_
                    refine vg_X5_pad (pc := 91) mw_F_X5_26 dX5_put_91 ?_
                    refine vv_aload_n (pc := 94) 0 dX5_put_94 rfl rfl ?_
                    refine vg_X5_signs (pc := 95) mw_F_X5_133 dX5_put_95 ?_
                    refine vv_iload (pc := 98) 4 dX5_put_98 rfl ?_
                    refine vv_iadd (pc := 100) dX5_put_100 ?_
                    rw [hLr, show nI L + x6 = nI (L + m1) from by rw [e6]; exact nI_add L m1]
                    refine vv_lload (pc := 101) 3 dX5_put_101 rfl ?_
                    refine vv_ldc2 (pc := 103) mw_L_X5_168 dX5_put_103 ?_
                    refine vv_land (pc := 106) dX5_put_106 ?_
                    refine vv_l2i (pc := 107) dX5_put_107 ?_
                    rw [show x4 &&& 255 = lN (sp_by u (F - 1 - m1)) from by rw [e4, and255 (dv_lt hu _), show F - (m1 + 1) = F - 1 - m1 by omega]; rfl, lN_i]
                    refine vs_13 (pc := 108) (vp_in_nI (by omega) (by decide)) dX5_put_108 ?_
                    refine vv_mem (fun Sy eSy => ?_)
                    have hSy : Sy = mR S 13 (pdm (S 13) L u F m1) := by rw [eSy, cl_n (by omega), mR_wr, mR_mR, mR_s, pdm_s (by omega)]
                    refine vv_lload (pc := 109) 3 dX5_put_109 rfl ?_
                    refine vv_bipush (pc := 111) (v := 8) dX5_put_111 (by decide) ?_
                    refine vv_lushr (pc := 113) dX5_put_113 rfl ?_
                    refine vv_topl (fun x4p114 e4p114 => ?_)
                    refine vv_lstore (pc := 114) (i := 4) (ls' := [(4, .long x4p114), (0, .ref (gad G 7)), (1, .long x), (3, .int x3), (6, .int x6)]) dX5_put_114 (by decide) rfl ?_
                    obtain ⟨x6p116, e6p116⟩ : ∃ y : Int32, y = x6 + (-1) := ⟨_, rfl⟩
                    refine vv_iinc (pc := 116) (q := 4) (v := x6p116) (ls' := [(6, .int x6p116), (4, .long x4p114), (0, .ref (gad G 7)), (1, .long x), (3, .int x3)]) dX5_put_116 rfl (by rw [e6p116]; rfl) (by decide) rfl ?_
                    refine vv_goto (pc := 119) (tgt := 85) dX5_put_119 (by decide) ?_
                    refine vv_sub [2, 3, 4, 1, 0] (ls' := [(0, _), (1, _), (3, _), (4, _), (6, _)]) rfl ?_
                    exact ih2 m1 _ _ _ hSy (by omega) (by rw [e6p116, e6, Int32.sub_eq_add_neg]) (by rw [e4p114, e4, shr8 (dv_lt hu _), dv_s, show F - (m1 + 1) + 1 = F - m1 by omega]) (by omega)
              refine vv_sub [2, 3, 4, 1, 0] (ls' := [(0, _), (1, _), (3, _), (4, _), (6, _)]) rfl ?_
              exact lp85 (F + 1) F _ _ S (by rw [pdm_n, mR_self]) (Nat.le_refl _) (by rw [e6p83, e3F]) (by rw [e4p78, hx, Nat.sub_self, Nat.pow_zero, Nat.div_one]) (by omega)
            -- f@71 path L5tftf
            · refine vv_bipush (pc := 74) (v := (-4)) dX5_put_74 (by decide) ?_
              refine vr_i (pc := 76) dX5_put_76 ?_
              rw [show (60 : Int32) = nI 60 from rfl, nI_leI (by omega) (by decide)] at c71
              have hop : op_put (S 13) L u = -4 := by unfold op_put; rw [← eF, if_neg hF0, if_pos (by omega)]
              exact ⟨hop.symm, fun _ => rfl, fun h => absurd h (by decide)⟩
          -- f@57 path L5tff
          · refine vv_bipush (pc := 60) (v := (-2)) dX5_put_60 (by decide) ?_
            refine vr_i (pc := 62) dX5_put_62 ?_
            rw [lg_cmp_eq, e4, lN_0 (dv_lt hu k)] at c53
            have hk0 : k = 0 := (nI_eq (a := k) (b := 0) (by omega) (by decide)).mp (e3.symm.trans c57)
            have h0 : F = 0 := (hFz.2 c53).trans hk0
            have hop : op_put (S 13) L u = -2 := by unfold op_put; rw [← eF, if_pos h0]
            exact ⟨hop.symm, fun _ => rfl, fun h => absurd h (by decide)⟩
      -- f@13 path L5f
      · rw [lg_cmp_eq, lN_0 (by omega)] at c13
        have hk8 : k < 8 := by
          rcases Nat.lt_or_ge k 8 with g | g
          · exact g
          · have e : k = 8 := by omega
            subst e
            exact absurd (by unfold sp_by; rw [dv_8 hu]) c13
        rw [show 8 - k = (8 - (k + 1)) + 1 by omega, sp_nch, if_neg c13] at hF
        refine vv_lload (pc := 16) 3 dX5_put_16 rfl ?_
        refine vv_ldc2 (pc := 18) mw_L_X5_168 dX5_put_18 ?_
        refine vv_land (pc := 21) dX5_put_21 ?_
        rw [h255]
        refine vv_l2i (pc := 22) dX5_put_22 ?_
        rw [lN_i]
        refine vv_bipush (pc := 23) (v := 33) dX5_put_23 (by decide) ?_
        refine vv_bipush (pc := 25) (v := 126) dX5_put_25 (by decide) ?_
        refine vc_Si (pc := 27) (c_X5_in l G _ _ _ _) mw_M_X5_43 my_X5_in ⟨by decide, by decide⟩ rfl rfl (Nat.le_of_ble_eq_true rfl) dX5_put_27 (fun r27 S27 h27 => ?_)
        obtain ⟨qS27, h27⟩ := h27
        replace qS27 := qS27.symm
        subst qS27
        refine vv_if_ne (pc := 30) (tgt := 36) dX5_put_30 (by decide) (fun c30 => ?_) (fun c30 => ?_)
        -- t@30 path L5ft
        · rw [h27, sp_in_iff, nI_toInt (by omega), show (33 : Int32).toInt = 33 by decide, show (126 : Int32).toInt = 126 by decide] at c30
          rw [if_pos (show 33 ≤ sp_by u k ∧ sp_by u k ≤ 126 by omega)] at hF
          obtain ⟨x3p36, e3p36⟩ : ∃ y : Int32, y = x3 + 1 := ⟨_, rfl⟩
          refine vv_iinc (pc := 36) (q := 2) (v := x3p36) (ls' := [(3, .int x3p36), (0, .ref (gad G 7)), (1, .long x), (4, .long x4)]) dX5_put_36 rfl (by rw [e3p36]; rfl) (by decide) rfl ?_
          refine vv_lload (pc := 39) 3 dX5_put_39 rfl ?_
          refine vv_bipush (pc := 41) (v := 8) dX5_put_41 (by decide) ?_
          refine vv_lushr (pc := 43) dX5_put_43 rfl ?_
          refine vv_topl (fun x4p44 e4p44 => ?_)
          refine vv_lstore (pc := 44) (i := 4) (ls' := [(4, .long x4p44), (3, .int x3p36), (0, .ref (gad G 7)), (1, .long x)]) dX5_put_44 (by decide) rfl ?_
          refine vv_goto (pc := 46) (tgt := 5) dX5_put_46 (by decide) ?_
          refine vv_sub [2, 3, 1, 0] (ls' := [(0, _), (1, _), (3, _), (4, _)]) rfl ?_
          exact ih (k + 1) _ _ (by omega) (by omega) (by rw [e3p36, e3, nI_1]) (by rw [e4p44, e4, shr8 (dv_lt hu k), dv_s]) hF
        -- f@30 path L5ff
        · refine vv_bipush (pc := 33) (v := (-2)) dX5_put_33 (by decide) ?_
          refine vr_i (pc := 35) dX5_put_35 ?_
          rw [h27, sp_in_iff, nI_toInt (by omega), show (33 : Int32).toInt = 33 by decide, show (126 : Int32).toInt = 126 by decide] at c30
          rw [if_neg (show ¬ (33 ≤ sp_by u k ∧ sp_by u k ≤ 126) by omega)] at hF
          have h0 : F = 0 := hF.symm
          have hop : op_put (S 13) L u = -2 := by unfold op_put; rw [← eF, if_pos h0]
          exact ⟨hop.symm, fun _ => rfl, fun h => absurd h (by decide)⟩
  refine vv_sub [2, 3, 1, 0] (ls' := [(0, _), (1, _), (3, _), (4, _)]) rfl ?_
  exact lp5 9 0 x3p1 x4p3 (by omega) (by omega) e3p1 (by rw [e4p3, hx, Nat.pow_zero, Nat.div_one]) eF.symm
