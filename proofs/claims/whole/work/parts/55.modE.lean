theorem mR_c {S : Mem} {i j : Nat} {a b : Nat → Int32} (h : i ≠ j) : mR (mR S i a) j b = mR (mR S j b) i a := by
  funext k
  unfold mR
  by_cases h1 : k = i
  · subst h1
    rw [if_neg h, if_pos rfl, if_pos rfl]
  · by_cases h2 : k = j
    · rw [if_pos h2, if_neg h1, if_pos h2]
    · rw [if_neg h2, if_neg h1, if_neg h1, if_neg h2]
theorem mR_4 {S : Mem} {i j : Nat} {a b a' b' : Nat → Int32} : mR (mR (mR (mR S i a) j b) i a') j b' = mR (mR S i a') j b' := by
  funext k
  unfold mR
  by_cases h2 : k = j
  · rw [if_pos h2, if_pos h2]
  · by_cases h1 : k = i
    · rw [if_neg h2, if_pos h1, if_neg h2, if_pos h1]
    · rw [if_neg h2, if_neg h1, if_neg h2, if_neg h1, if_neg h2, if_neg h1]
/-- a row copied up to a place -/
def cpk (k : Nat) (a b : Nat → Int32) : Nat → Int32 := fun i => if i < k then a i else b i
abbrev cp (a b : Nat → Int32) : Nat → Int32 := cpk 150 a b
theorem cpk_0 (a b : Nat → Int32) : cpk 0 a b = b := by
  funext i
  unfold cpk
  rw [if_neg (by omega)]
theorem cpk_s (k : Nat) (a b : Nat → Int32) : upd (cpk k a b) k (a k) = cpk (k + 1) a b := by
  funext i
  by_cases h : i = k
  · subst h
    rw [upd_s]
    unfold cpk
    rw [if_pos (by omega)]
  · rw [upd_n _ _ h]
    unfold cpk
    by_cases h2 : i < k
    · rw [if_pos h2, if_pos (by omega)]
    · rw [if_neg h2, if_neg (by omega)]
theorem lo_step (z : Nat → Int32) (k : Nat) : sp_up (sp_up (sp_up (sp_lo k z) k 4 (sp_lz (sp_f z k 4) (z 0))) k 8 (sp_lz (sp_f z k 8) (z 0))) k 9 (sp_lz (sp_f z k 9) (z 0)) = sp_lo (k + 1) z := by
  funext i
  unfold sp_up
  by_cases e9 : i = 30 + 14 * k + 9
  · rw [if_pos e9]
    unfold sp_lo
    rw [if_pos (by omega), e9]
    rfl
  · rw [if_neg e9]
    by_cases e8 : i = 30 + 14 * k + 8
    · rw [if_pos e8]
      unfold sp_lo
      rw [if_pos (by omega), e8]
      rfl
    · rw [if_neg e8]
      by_cases e4 : i = 30 + 14 * k + 4
      · rw [if_pos e4]
        unfold sp_lo
        rw [if_pos (by omega), e4]
        rfl
      · rw [if_neg e4]
        unfold sp_lo
        by_cases h : 30 ≤ i ∧ (i - 30) / 14 < k ∧ ((i - 30) % 14 = 4 ∨ (i - 30) % 14 = 8 ∨ (i - 30) % 14 = 9)
        · rw [if_pos h, if_pos (by omega)]
        · rw [if_neg h, if_neg (by omega)]
set_option maxRecDepth 100000 in
set_option maxHeartbeats 4000000 in
theorem c_X5_settle (l : Launch) (G : gG) (S : Mem) {C : Nat} (hwf : sp_wf C (S 8)) : mm_C l G yX5_settle cX5_settle 3 (some .int) (mm_rm 4 99) [.ref (gad G 7)] S (mm_Qi G (fun r S2 => (sp_bu (S 8) C = 99 → r = 0) ∧ ∃ T, S2 = mR (mR S 8 (sp_stl C 8 (S 8))) 14 T)) := by
  have hC := hwf.1.1
  obtain ⟨F, eF⟩ : ∃ F, F = sp_stl C 8 (S 8) := ⟨_, rfl⟩
  have hFc : sp_bu F C = 99 := by rw [eF]; exact sp_stl_8 hC _
  refine mm_ofV (own := RX5) (by decide +kernel) rfl (Nat.le_of_ble_eq_true rfl) (ls0 := [(0, .ref (gad G 7))]) rfl ?_
  refine vv_iconst (pc := 0) (v := 0) dX5_settle_0 (by decide) ?_
  refine vv_topi (fun x1p1 e1p1 => ?_)
  refine vv_istore_n (pc := 1) (i := 1) (ls' := [(1, .int x1p1), (0, .ref (gad G 7))]) dX5_settle_1 rfl (by decide) rfl ?_
  refine vv_aload_n (pc := 2) 1 dX5_settle_2 rfl rfl ?_
  refine vc_Vi (pc := 3) (c_X5_burst l G _ hwf.1) mw_M_X5_77 my_X5_burst mm_rv_X5 ⟨by decide, by decide⟩ rfl rfl (Nat.le_of_ble_eq_true rfl) dX5_settle_3 (fun r3 S3 h3 => ?_)
  obtain ⟨hr3, T0, hT0, eS3⟩ := h3
  refine vv_topi (fun x2p6 e2p6 => ?_)
  refine vv_istore_n (pc := 6) (i := 2) (ls' := [(2, .int x2p6), (1, .int x1p1), (0, .ref (gad G 7))]) dX5_settle_6 rfl (by decide) rfl ?_
  have lp7 : ∀ (n : Nat) (k : Nat) (x1 x2 : Int32) (z T : Nat → Int32) (S1 : Mem), S1 = mR (mR S 8 z) 14 T → k < n → sp_wf C z → sp_stl C k z = F → x2 = enc (sp_bu z C) → (sp_bu (S 8) C = 99 → x1 = 0 ∧ z = S 8) → mm_V l G RX5 cX5_settle 3 (some .int) (mm_rm 4 99) 0 0 (fun _ => True) (fun _ => mm_F G) (mm_Qf G (mm_Qi G (fun r S2 => (sp_bu (S 8) C = 99 → r = 0) ∧ ∃ T, S2 = mR (mR S 8 (sp_stl C 8 (S 8))) 14 T))) S1 7 [(0, .ref (gad G 7)), (1, .int x1), (2, .int x2)] [] := by
    intro n
    induction n with
    | zero =>
      intro k x1 x2 z T S1 eS1 hn hw hF e2 hc
      exact absurd hn (by omega)
    | succ n ih =>
      intro k x1 x2 z T S1 eS1 hn hw hF e2 hc
      subst eS1
      refine vv_iload_n (pc := 7) 2 dX5_settle_7 rfl rfl ?_
      refine vv_if_lt (pc := 8) (tgt := 27) dX5_settle_8 (by decide) (fun c8 => ?_) (fun c8 => ?_)
      -- t@8 path L7t
      · refine vv_iload_n (pc := 27) 1 dX5_settle_27 rfl rfl ?_
        refine vr_i (pc := 28) dX5_settle_28 ?_
        have hb : sp_bu z C = 99 := by
          rcases Classical.em (sp_bu z C = 99) with h | h
          · exact h
          · have := sp_bu_lt h
            rw [e2, enc_n h] at c8
            exact absurd c8 (nI_pos (by omega))
        rw [sp_stl_calm hb] at hF
        exact ⟨fun h => (hc h).1, T, by rw [← eF, ← hF]⟩
      -- f@8 path L7f
      · have hb : sp_bu z C ≠ 99 := fun h => c8 (by rw [e2, h]; decide)
        have hbl := sp_bu_lt hb
        obtain ⟨k1, rfl⟩ : ∃ k1, k = k1 + 1 := by
          rcases k with _ | k1
          · rw [sp_stl] at hF; rw [← hF] at hFc; exact absurd hFc hb
          · exact ⟨k1, rfl⟩
        rw [sp_stl, if_neg hb] at hF
        have hx2 : x2 = nI (sp_bu z C) := by rw [e2, enc_n hb]
        have h8 : mR (mR S 8 z) 14 T 8 = z := by rw [mR_o _ _ (by decide), mR_s]
        have hwz : sp_wf C (sp_brk z (sp_bu z C)) := sp_brk_wf hw hbl.1
        refine vv_aload_n (pc := 11) 0 dX5_settle_11 rfl rfl ?_
        refine vv_iload_n (pc := 12) 2 dX5_settle_12 rfl rfl ?_
        refine vc_Vv (pc := 13) (c_X5_breakWire l G _ hx2 (by omega)) mw_M_X5_81 my_X5_breakWire mm_rv_X5 ⟨by decide, by decide⟩ rfl rfl (Nat.le_of_ble_eq_true rfl) dX5_settle_13 (fun S13 h13 => ?_)
        rw [h8] at h13
        have h138 : S13 8 = sp_brk z (sp_bu z C) := by rw [h13, mR_s]
        have hwb : sp_ws C (S13 8) := by rw [h138]; exact hwz.1
        obtain ⟨x1p16, e1p16⟩ : ∃ y : Int32, y = x1 + 1 := ⟨_, rfl⟩
        refine vv_iinc (pc := 16) (q := 1) (v := x1p16) (ls' := [(1, .int x1p16), (0, .ref (gad G 7)), (2, .int x2)]) dX5_settle_16 rfl (by rw [e1p16]; rfl) (by decide) rfl ?_
        refine vv_aload_n (pc := 19) 1 dX5_settle_19 rfl rfl ?_
        refine vc_Vi (pc := 20) (c_X5_burst l G _ hwb) mw_M_X5_77 my_X5_burst mm_rv_X5 ⟨by decide, by decide⟩ rfl rfl (Nat.le_of_ble_eq_true rfl) dX5_settle_20 (fun r20 S20 h20 => ?_)
        obtain ⟨hr20, T2, hT2, eS20⟩ := h20
        rw [h138] at hr20
        rw [h13, mR_4] at eS20
        refine vv_topi (fun x2p23 e2p23 => ?_)
        refine vv_istore_n (pc := 23) (i := 2) (ls' := [(2, .int x2p23), (1, .int x1p16), (0, .ref (gad G 7))]) dX5_settle_23 rfl (by decide) rfl ?_
        refine vv_goto (pc := 24) (tgt := 7) dX5_settle_24 (by decide) ?_
        refine vv_sub [2, 1, 0] (ls' := [(0, _), (1, _), (2, _)]) rfl ?_
        exact ih k1 x1p16 x2p23 _ T2 _ eS20 (by omega) hwz hF (by rw [e2p23, hr20]) (fun h => absurd ((hc h).2 ▸ h) hb)
  refine vv_sub [2, 1, 0] (ls' := [(0, _), (1, _), (2, _)]) rfl ?_
  exact lp7 9 8 x1p1 x2p6 (S 8) T0 _ (by rw [eS3, mR_self]) (by omega) hwf eF.symm (by rw [e2p6, hr3]) (fun _ => ⟨e1p1, rfl⟩)
set_option maxRecDepth 100000 in
set_option maxHeartbeats 4000000 in
theorem c_X5_pass (l : Launch) (G : gG) (S : Mem) {C : Nat} (hwf : sp_wf C (S 8)) (hcalm : sp_bu (S 8) C = 99) : mm_C l G yX5_pass cX5_pass 2 (some .int) (mm_rm 5 121) [.ref (gad G 7)] S (mm_Qi G (fun r S2 => r = 0 ∧ ∃ T, S2 = mR (mR S 8 (sp_day C (S 8))) 14 T)) := by
  have hC := hwf.1.1
  have hn3 := hwf.1.2.1
  obtain ⟨z, ez⟩ : ∃ z, z = S 8 := ⟨_, rfl⟩
  rw [← ez] at hwf hcalm hn3
  refine mm_ofV (own := RX5) (by decide +kernel) rfl (Nat.le_of_ble_eq_true rfl) (ls0 := [(0, .ref (gad G 7))]) rfl ?_
  refine vv_iconst (pc := 0) (v := 0) dX5_pass_0 (by decide) ?_
  refine vv_topi (fun x1p1 e1p1 => ?_)
  refine vv_istore_n (pc := 1) (i := 1) (ls' := [(1, .int x1p1), (0, .ref (gad G 7))]) dX5_pass_1 rfl (by decide) rfl ?_
  have lp2 : ∀ (n : Nat) (k : Nat) (x1 : Int32) (S1 : Mem), S1 = mR S 8 (sp_lo k z) → 9 ≤ n + k → k ≤ C → x1 = nI k → mm_V l G RX5 cX5_pass 2 (some .int) (mm_rm 5 121) 0 0 (fun _ => True) (fun _ => mm_F G) (mm_Qf G (mm_Qi G (fun r S2 => r = 0 ∧ ∃ T, S2 = mR (mR S 8 (sp_day C (S 8))) 14 T))) S1 2 [(0, .ref (gad G 7)), (1, .int x1)] [] := by
    intro n
    induction n with
    | zero =>
      intro k x1 S1 eS1 hn hkl e1
      exact absurd hn (by omega)
    | succ n ih =>
      intro k x1 S1 eS1 hn hkl e1
      subst eS1
      refine vv_iload_n (pc := 2) 1 dX5_pass_2 rfl rfl ?_
      refine vv_aload_n (pc := 3) 0 dX5_pass_3 rfl rfl ?_
      refine vg_X5_now (pc := 4) mw_F_X5_7 dX5_pass_4 ?_
      refine vv_iconst (pc := 7) (v := 3) dX5_pass_7 (by decide) ?_
      refine vl_8 (pc := 8) (vp_in_nI (n := 3) (by decide) (by decide)) dX5_pass_8 ?_
      rw [show mR S 8 (sp_lo k z) 8 (Int32.toNatClampNeg 3) = nI C from by rw [mR_s]; exact (sp_lo_low k z (by decide)).trans hn3]
      refine vv_icmp_ge (pc := 9) (tgt := 70) dX5_pass_9 (by decide) (fun c9 => ?_) (fun c9 => ?_)
      -- t@9 path L2t
      · have hkC := sp_geN (by omega) hkl e1 c9
        subst hkC
        have hwl : sp_wf k (mR S 8 (sp_lo k z) 8) := by rw [mR_s]; exact sp_lo_wf hwf
        have hcl : sp_bu (sp_lo k z) k = 99 := by rw [sp_lo_bu hC]; exact hcalm
        refine vv_aload_n (pc := 70) 0 dX5_pass_70 rfl rfl ?_
        refine vc_Vi (pc := 71) (c_X5_settle l G _ hwl) mw_M_X5_91 my_X5_settle mm_rv_X5 ⟨by decide, by decide⟩ rfl rfl (Nat.le_of_ble_eq_true rfl) dX5_pass_71 (fun r71 S71 h71 => ?_)
        obtain ⟨hr, T, eT⟩ := h71
        rw [mR_s] at hr eT
        rw [sp_stl_calm hcl, mR_mR] at eT
        refine vv_topi (fun x1p74 e1p74 => ?_)
        refine vv_istore_n (pc := 74) (i := 1) (ls' := [(1, .int x1p74), (0, .ref (gad G 7))]) dX5_pass_74 rfl (by decide) rfl ?_
        refine vv_aload_n (pc := 75) 1 dX5_pass_75 rfl rfl ?_
        refine vg_X5_now (pc := 76) mw_F_X5_7 dX5_pass_76 ?_
        have h8 : S71 8 = sp_lo k z := by rw [eT, mR_o _ _ (by decide), mR_s]
        refine vv_iconst (pc := 79) (v := 2) dX5_pass_79 (by decide) ?_
        refine vv_dup2 (pc := 80) dX5_pass_80 rfl rfl ?_
        refine vl_8 (pc := 81) (vp_in_nI (n := 2) (by decide) (by decide)) dX5_pass_81 ?_
        refine vv_iconst (pc := 82) (v := 1) dX5_pass_82 (by decide) ?_
        refine vv_iadd (pc := 83) dX5_pass_83 ?_
        refine vs_8 (pc := 84) (vp_in_nI (n := 2) (by decide) (by decide)) dX5_pass_84 ?_
        refine vv_iload_n (pc := 85) 0 dX5_pass_85 rfl rfl ?_
        refine vr_i (pc := 86) dX5_pass_86 ?_
        refine ⟨e1p74.trans (hr hcl), T, ?_⟩
        rw [show (2 : Int32).toNatClampNeg = 2 from by decide, mR_wr, h8, eT, mR_c (by decide), mR_mR, ← ez]
        rfl
      -- f@9 path L2f
      · have hkC : k < C := sp_ltN (by omega) hkl e1 c9
        have hk8 : k < 8 := by omega
        refine vv_aload_n (pc := 12) 0 dX5_pass_12 rfl rfl ?_
        refine vv_iload_n (pc := 13) 1 dX5_pass_13 rfl rfl ?_
        refine vv_iconst (pc := 14) (v := 4) dX5_pass_14 (by decide) ?_
        refine vv_aload_n (pc := 15) 0 dX5_pass_15 rfl rfl ?_
        refine vv_aload_n (pc := 16) 0 dX5_pass_16 rfl rfl ?_
        refine vv_iload_n (pc := 17) 1 dX5_pass_17 rfl rfl ?_
        refine vv_iconst (pc := 18) (v := 4) dX5_pass_18 (by decide) ?_
        refine vc_Vi (pc := 19) (c_X5_of l G _ (by assumption) rfl (by assumption) (by decide)) mw_M_X5_47 my_X5_of mm_rv_X5 ⟨by decide, by decide⟩ rfl rfl (Nat.le_of_ble_eq_true rfl) dX5_pass_19 (fun r19 S19 h19 => ?_)
        obtain ⟨qS19, h19⟩ := h19
        replace qS19 := qS19.symm
        subst qS19
        rw [mR_s, sp_lo_f k z (by decide), if_neg (by omega)] at h19
        refine vc_Vi (pc := 22) (c_X5_loosened l G _ _) mw_M_X5_94 my_X5_loosened mm_rv_X5 ⟨by decide, by decide⟩ rfl rfl (Nat.le_of_ble_eq_true rfl) dX5_pass_22 (fun r22 S22 h22 => ?_)
        obtain ⟨qS22, h22⟩ := h22
        replace qS22 := qS22.symm
        subst qS22
        rw [mR_s, sp_lo_low k z (by decide), h19] at h22
        refine vc_Vv (pc := 25) (c_X5_book l G _ (by assumption) rfl (by assumption) (by decide) _) mw_M_X5_73 my_X5_book mm_rv_X5 ⟨by decide, by decide⟩ rfl rfl (Nat.le_of_ble_eq_true rfl) dX5_pass_25 (fun S25 h25 => ?_)
        rw [mR_s, mR_mR, h22] at h25
        refine vv_aload_n (pc := 28) 0 dX5_pass_28 rfl rfl ?_
        refine vv_iload_n (pc := 29) 1 dX5_pass_29 rfl rfl ?_
        refine vv_bipush (pc := 30) (v := 8) dX5_pass_30 (by decide) ?_
        refine vv_aload_n (pc := 32) 0 dX5_pass_32 rfl rfl ?_
        refine vv_aload_n (pc := 33) 0 dX5_pass_33 rfl rfl ?_
        refine vv_iload_n (pc := 34) 1 dX5_pass_34 rfl rfl ?_
        refine vv_bipush (pc := 35) (v := 8) dX5_pass_35 (by decide) ?_
        refine vc_Vi (pc := 37) (c_X5_of l G _ (by assumption) rfl (by assumption) (by decide)) mw_M_X5_47 my_X5_of mm_rv_X5 ⟨by decide, by decide⟩ rfl rfl (Nat.le_of_ble_eq_true rfl) dX5_pass_37 (fun r37 S37 h37 => ?_)
        obtain ⟨qS37, h37⟩ := h37
        replace qS37 := qS37.symm
        subst qS37
        rw [h25, mR_s, sp_up_f _ _ (by decide) (by decide), if_neg (fun h => absurd h.2 (by decide)), sp_lo_f k z (by decide), if_neg (by omega)] at h37
        refine vc_Vi (pc := 40) (c_X5_loosened l G _ _) mw_M_X5_94 my_X5_loosened mm_rv_X5 ⟨by decide, by decide⟩ rfl rfl (Nat.le_of_ble_eq_true rfl) dX5_pass_40 (fun r40 S40 h40 => ?_)
        obtain ⟨qS40, h40⟩ := h40
        replace qS40 := qS40.symm
        subst qS40
        rw [h25, mR_s, sp_up_lo _ _ _ _ (by decide), sp_lo_low k z (by decide), h37] at h40
        refine vc_Vv (pc := 43) (c_X5_book l G _ (by assumption) rfl (by assumption) (by decide) _) mw_M_X5_73 my_X5_book mm_rv_X5 ⟨by decide, by decide⟩ rfl rfl (Nat.le_of_ble_eq_true rfl) dX5_pass_43 (fun S43 h43 => ?_)
        rw [h25, mR_s, mR_mR, h40] at h43
        refine vv_aload_n (pc := 46) 0 dX5_pass_46 rfl rfl ?_
        refine vv_iload_n (pc := 47) 1 dX5_pass_47 rfl rfl ?_
        refine vv_bipush (pc := 48) (v := 9) dX5_pass_48 (by decide) ?_
        refine vv_aload_n (pc := 50) 0 dX5_pass_50 rfl rfl ?_
        refine vv_aload_n (pc := 51) 0 dX5_pass_51 rfl rfl ?_
        refine vv_iload_n (pc := 52) 1 dX5_pass_52 rfl rfl ?_
        refine vv_bipush (pc := 53) (v := 9) dX5_pass_53 (by decide) ?_
        refine vc_Vi (pc := 55) (c_X5_of l G _ (by assumption) rfl (by assumption) (by decide)) mw_M_X5_47 my_X5_of mm_rv_X5 ⟨by decide, by decide⟩ rfl rfl (Nat.le_of_ble_eq_true rfl) dX5_pass_55 (fun r55 S55 h55 => ?_)
        obtain ⟨qS55, h55⟩ := h55
        replace qS55 := qS55.symm
        subst qS55
        rw [h43, mR_s, sp_up_f _ _ (by decide) (by decide), if_neg (fun h => absurd h.2 (by decide)), sp_up_f _ _ (by decide) (by decide), if_neg (fun h => absurd h.2 (by decide)), sp_lo_f k z (by decide), if_neg (by omega)] at h55
        refine vc_Vi (pc := 58) (c_X5_loosened l G _ _) mw_M_X5_94 my_X5_loosened mm_rv_X5 ⟨by decide, by decide⟩ rfl rfl (Nat.le_of_ble_eq_true rfl) dX5_pass_58 (fun r58 S58 h58 => ?_)
        obtain ⟨qS58, h58⟩ := h58
        replace qS58 := qS58.symm
        subst qS58
        rw [h43, mR_s, sp_up_lo _ _ _ _ (by decide), sp_up_lo _ _ _ _ (by decide), sp_lo_low k z (by decide), h55] at h58
        refine vc_Vv (pc := 61) (c_X5_book l G _ (by assumption) rfl (by assumption) (by decide) _) mw_M_X5_73 my_X5_book mm_rv_X5 ⟨by decide, by decide⟩ rfl rfl (Nat.le_of_ble_eq_true rfl) dX5_pass_61 (fun S61 h61 => ?_)
        rw [h43, mR_s, mR_mR, h58, lo_step] at h61
        obtain ⟨x1p64, e1p64⟩ : ∃ y : Int32, y = x1 + 1 := ⟨_, rfl⟩
        refine vv_iinc (pc := 64) (q := 1) (v := x1p64) (ls' := [(1, .int x1p64), (0, .ref (gad G 7))]) dX5_pass_64 rfl (by rw [e1p64]; rfl) (by decide) rfl ?_
        refine vv_goto (pc := 67) (tgt := 2) dX5_pass_67 (by decide) ?_
        refine vv_sub [1, 0] (ls' := [(0, _), (1, _)]) rfl ?_
        exact ih (k + 1) x1p64 _ h61 (by omega) (by omega) (by rw [e1p64, e1, nI_1])
  refine vv_sub [1, 0] (ls' := [(0, _), (1, _)]) rfl ?_
  exact lp2 9 0 x1p1 S (by rw [sp_lo_z, ez, mR_self]) (by omega) (Nat.zero_le _) e1p1
set_option maxRecDepth 100000 in
set_option maxHeartbeats 4000000 in
theorem c_X5_keep (l : Launch) (G : gG) (S : Mem) : mm_C l G yX5_keep cX5_keep 2 (none) (mm_rm 0 0) [.ref (gad G 7)] S (mm_Qv G (fun S2 => S2 = mR S 9 (cp (S 8) (S 9)))) := by
  refine mm_ofV (own := RX5) (by decide +kernel) rfl (Nat.le_of_ble_eq_true rfl) (ls0 := [(0, .ref (gad G 7))]) rfl ?_
  refine vv_iconst (pc := 0) (v := 0) dX5_keep_0 (by decide) ?_
  refine vv_topi (fun x1p1 e1p1 => ?_)
  refine vv_istore_n (pc := 1) (i := 1) (ls' := [(1, .int x1p1), (0, .ref (gad G 7))]) dX5_keep_1 rfl (by decide) rfl ?_
  have lp2 : ∀ (n : Nat) (k : Nat) (x1 : Int32) (S1 : Mem), S1 = mR S 9 (cpk k (S 8) (S 9)) → 151 ≤ n + k → k ≤ 150 → x1 = nI k → mm_V l G RX5 cX5_keep 2 (none) (mm_rm 0 0) 0 0 (fun _ => True) (fun _ => mm_F G) (mm_Qf G (mm_Qv G (fun S2 => S2 = mR S 9 (cp (S 8) (S 9))))) S1 2 [(0, .ref (gad G 7)), (1, .int x1)] [] := by
    intro n
    induction n with
    | zero =>
      intro k x1 S1 eS1 hn hkl e1
      exact absurd hn (by omega)
    | succ n ih =>
      intro k x1 S1 eS1 hn hkl e1
      subst eS1
      refine vv_iload_n (pc := 2) 1 dX5_keep_2 rfl rfl ?_
      refine vv_sipush (pc := 3) (v := 150) dX5_keep_3 (by decide) ?_
      refine vv_icmp_ge (pc := 6) (tgt := 27) dX5_keep_6 (by decide) (fun c6 => ?_) (fun c6 => ?_)
      -- t@6 path L2t
      · refine vr_v (pc := 27) dX5_keep_27 ?_
        have hk := sp_geN (N := 150) (by decide) hkl e1 c6
        subst hk
        rfl
      -- f@6 path L2f
      · have hk150 : k < 150 := sp_ltN (N := 150) (by decide) hkl e1 c6
        refine vv_aload_n (pc := 9) 0 dX5_keep_9 rfl rfl ?_
        refine vg_X5_kept (pc := 10) mw_F_X5_13 dX5_keep_10 ?_
        refine vv_iload_n (pc := 13) 1 dX5_keep_13 rfl rfl ?_
        refine vv_aload_n (pc := 14) 0 dX5_keep_14 rfl rfl ?_
        refine vg_X5_now (pc := 15) mw_F_X5_7 dX5_keep_15 ?_
        refine vv_iload_n (pc := 18) 1 dX5_keep_18 rfl rfl ?_
        refine vl_8 (pc := 19) (by rw [e1]; exact vp_in_nI hk150 (by decide)) dX5_keep_19 ?_
        refine vs_9 (pc := 20) (by rw [e1]; exact vp_in_nI hk150 (by decide)) dX5_keep_20 ?_
        refine vv_mem (fun Sy eSy => ?_)
        have hSy : Sy = mR S 9 (cpk (k + 1) (S 8) (S 9)) := by rw [eSy, e1, cl_n (by omega), mR_wr, mR_mR, mR_s, mR_o _ _ (by decide), cpk_s]
        obtain ⟨x1p21, e1p21⟩ : ∃ y : Int32, y = x1 + 1 := ⟨_, rfl⟩
        refine vv_iinc (pc := 21) (q := 1) (v := x1p21) (ls' := [(1, .int x1p21), (0, .ref (gad G 7))]) dX5_keep_21 rfl (by rw [e1p21]; rfl) (by decide) rfl ?_
        refine vv_goto (pc := 24) (tgt := 2) dX5_keep_24 (by decide) ?_
        refine vv_sub [1, 0] (ls' := [(0, _), (1, _)]) rfl ?_
        exact ih (k + 1) x1p21 _ hSy (by omega) (by omega) (by rw [e1p21, e1, nI_1])
  refine vv_sub [1, 0] (ls' := [(0, _), (1, _)]) rfl ?_
  exact lp2 151 0 x1p1 S (by rw [cpk_0, mR_self]) (by omega) (by omega) e1p1
set_option maxRecDepth 100000 in
set_option maxHeartbeats 4000000 in
theorem c_X5_comeBack (l : Launch) (G : gG) (S : Mem) : mm_C l G yX5_comeBack cX5_comeBack 2 (none) (mm_rm 0 0) [.ref (gad G 7)] S (mm_Qv G (fun S2 => S2 = mR S 8 (cp (S 9) (S 8)))) := by
  refine mm_ofV (own := RX5) (by decide +kernel) rfl (Nat.le_of_ble_eq_true rfl) (ls0 := [(0, .ref (gad G 7))]) rfl ?_
  refine vv_iconst (pc := 0) (v := 0) dX5_comeBack_0 (by decide) ?_
  refine vv_topi (fun x1p1 e1p1 => ?_)
  refine vv_istore_n (pc := 1) (i := 1) (ls' := [(1, .int x1p1), (0, .ref (gad G 7))]) dX5_comeBack_1 rfl (by decide) rfl ?_
  have lp2 : ∀ (n : Nat) (k : Nat) (x1 : Int32) (S1 : Mem), S1 = mR S 8 (cpk k (S 9) (S 8)) → 151 ≤ n + k → k ≤ 150 → x1 = nI k → mm_V l G RX5 cX5_comeBack 2 (none) (mm_rm 0 0) 0 0 (fun _ => True) (fun _ => mm_F G) (mm_Qf G (mm_Qv G (fun S2 => S2 = mR S 8 (cp (S 9) (S 8))))) S1 2 [(0, .ref (gad G 7)), (1, .int x1)] [] := by
    intro n
    induction n with
    | zero =>
      intro k x1 S1 eS1 hn hkl e1
      exact absurd hn (by omega)
    | succ n ih =>
      intro k x1 S1 eS1 hn hkl e1
      subst eS1
      refine vv_iload_n (pc := 2) 1 dX5_comeBack_2 rfl rfl ?_
      refine vv_sipush (pc := 3) (v := 150) dX5_comeBack_3 (by decide) ?_
      refine vv_icmp_ge (pc := 6) (tgt := 27) dX5_comeBack_6 (by decide) (fun c6 => ?_) (fun c6 => ?_)
      -- t@6 path L2t
      · refine vr_v (pc := 27) dX5_comeBack_27 ?_
        have hk := sp_geN (N := 150) (by decide) hkl e1 c6
        subst hk
        rfl
      -- f@6 path L2f
      · have hk150 : k < 150 := sp_ltN (N := 150) (by decide) hkl e1 c6
        refine vv_aload_n (pc := 9) 0 dX5_comeBack_9 rfl rfl ?_
        refine vg_X5_now (pc := 10) mw_F_X5_7 dX5_comeBack_10 ?_
        refine vv_iload_n (pc := 13) 1 dX5_comeBack_13 rfl rfl ?_
        refine vv_aload_n (pc := 14) 0 dX5_comeBack_14 rfl rfl ?_
        refine vg_X5_kept (pc := 15) mw_F_X5_13 dX5_comeBack_15 ?_
        refine vv_iload_n (pc := 18) 1 dX5_comeBack_18 rfl rfl ?_
        refine vl_9 (pc := 19) (by rw [e1]; exact vp_in_nI hk150 (by decide)) dX5_comeBack_19 ?_
        refine vs_8 (pc := 20) (by rw [e1]; exact vp_in_nI hk150 (by decide)) dX5_comeBack_20 ?_
        refine vv_mem (fun Sy eSy => ?_)
        have hSy : Sy = mR S 8 (cpk (k + 1) (S 9) (S 8)) := by rw [eSy, e1, cl_n (by omega), mR_wr, mR_mR, mR_s, mR_o _ _ (by decide), cpk_s]
        obtain ⟨x1p21, e1p21⟩ : ∃ y : Int32, y = x1 + 1 := ⟨_, rfl⟩
        refine vv_iinc (pc := 21) (q := 1) (v := x1p21) (ls' := [(1, .int x1p21), (0, .ref (gad G 7))]) dX5_comeBack_21 rfl (by rw [e1p21]; rfl) (by decide) rfl ?_
        refine vv_goto (pc := 24) (tgt := 2) dX5_comeBack_24 (by decide) ?_
        refine vv_sub [1, 0] (ls' := [(0, _), (1, _)]) rfl ?_
        exact ih (k + 1) x1p21 _ hSy (by omega) (by omega) (by rw [e1p21, e1, nI_1])
  refine vv_sub [1, 0] (ls' := [(0, _), (1, _)]) rfl ?_
  exact lp2 151 0 x1p1 S (by rw [cpk_0, mR_self]) (by omega) (by omega) e1p1
