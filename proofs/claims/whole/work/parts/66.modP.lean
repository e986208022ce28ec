/-! THE MODEL'S READERS -/
/-- nothing but the kept row and the tasks is changed -/
def rm (S S2 : Mem) : Prop := ∀ j, j ≠ 9 → j ≠ 14 → S2 j = S j
theorem rm_T (S : Mem) (T : Nat → Int32) : rm S (mR S 14 T) := fun _ _ h => mR_o S T h
theorem i10 {P : Prop} [Decidable P] : (if P then (0 : Int32) else 1) = 0 ↔ P := by
  split <;> simp_all
theorem hd_iff {z : Nat → Int32} {k : Nat} (h : sp_ww z k) : sp_f z k 7 < 0 ↔ sp_f z k 7 = -6 := by
  have h2 := h.2.2.2.2.2.2.2.2.2.2.2.2.2.2
  constructor
  · intro c
    rcases h2 with h2 | h2
    · exact h2.1
    · rw [Int32.lt_iff_toInt_lt, show (0 : Int32).toInt = 0 by decide] at c
      omega
  · intro c
    rw [c]; decide
/-- what counts of a wire: broken (0), slack (1), too tight (2) -/
def wwg (C : Nat) (z : Nat → Int32) (x : Int32) (k : Nat) : Int32 := if x = 0 then (if sp_f z k 5 = 0 then 0 else 1) else if x = 1 then sp_g1 z C k else sp_g2 z C k
theorem cnt_2a (C : Nat) (z : Nat → Int32) : ∀ c, sp_cnt (wwg C z 0) c = nI c - sp_cnt (sp_g0 z) c
  | 0 => by show (0 : Int32) = nI 0 - 0; decide
  | c + 1 => by
    have ih := cnt_2a C z c
    rw [sp_cnt, sp_cnt, ih, ← nI_1]
    unfold wwg sp_g0
    rw [if_pos rfl]
    split <;> grind
theorem cnt_2 {C : Nat} {z : Nat → Int32} (h3 : z 3 = nI C) : sp_cnt (wwg C z 0) C = z 3 - sp_cnt (sp_g0 z) C := by rw [h3]; exact cnt_2a C z C
theorem cnt_7 {C : Nat} {z : Nat → Int32} : sp_cnt (wwg C z (7 - 6)) C = sp_cnt (sp_g1 z C) C := by
  rw [show wwg C z (7 - 6) = sp_g1 z C from funext fun k => by unfold wwg; rw [if_neg (by decide), if_pos (by decide)]]
theorem cnt_8 {C : Nat} {z : Nat → Int32} : sp_cnt (wwg C z (8 - 6)) C = sp_cnt (sp_g2 z C) C := by
  rw [show wwg C z (8 - 6) = sp_g2 z C from funext fun k => by unfold wwg; rw [if_neg (by decide), if_neg (by decide)]]
theorem cnt_N (z : Nat → Int32) : ∀ c, ∃ n, n ≤ c ∧ sp_cnt (sp_g0 z) c = nI n ∧ (mskN z 5 c = 0 ↔ n = 0)
  | 0 => ⟨0, Nat.le_refl _, rfl, by simp [mskN]⟩
  | c + 1 => by
    obtain ⟨n, h1, h2, h3⟩ := cnt_N z c
    rw [sp_cnt, h2, mskN]
    unfold sp_g0
    have h4 := Nat.two_pow_pos c
    by_cases h : sp_f z c 5 = 0
    · rw [if_pos h, if_pos h]
      exact ⟨n + 1, by omega, nI_1 n, by omega⟩
    · rw [if_neg h, if_neg h]
      exact ⟨n, by omega, Int32.add_zero _, h3⟩
theorem cnt_6 {C : Nat} {z : Nat → Int32} (hC : C ≤ 8) : msk z 5 C = 0 ↔ sp_cnt (sp_g0 z) C = 0 := by
  obtain ⟨n, h1, h2, h3⟩ := cnt_N z C
  have h4 := mskN_lt z 5 C
  have h5 : (2 : Nat) ^ C ≤ 2 ^ 8 := Nat.pow_le_pow_right (by decide) hC
  rw [msk_N z 5 C hC, h2]
  exact (nI_eq (a := mskN z 5 C) (b := 0) (by omega) (by decide)).trans (h3.trans (nI_eq (a := n) (b := 0) (by omega) (by decide)).symm)
theorem n_11 : ∀ k, k < 2 → nI (11 + k) - 11 = nI k := by decide
set_option maxRecDepth 100000 in
set_option maxHeartbeats 4000000 in
theorem c_X5_pitchAt (l : Launch) (G : gG) {q : St} (S : Mem) (hg : gd q) (hz : q.2 = S 8) (x1 x2 : Int32) : mm_C l G yX5_pitchAt cX5_pitchAt 3 (some .int) (mm_rm 3 69) [.ref (gad G 7), .int x1, .int x2] S (mm_Qi G (fun r S2 => S2 = S ∧ r = rd_pa q x1 x2)) := by
  obtain ⟨C, z⟩ := q
  dsimp only at hz
  subst hz
  obtain ⟨hwf, hcalm⟩ := id hg
  dsimp only at hwf hcalm
  obtain ⟨hC, hn3, hat, hinj⟩ := id hwf.1
  refine mm_ofV (own := RX5) (by decide +kernel) rfl (Nat.le_of_ble_eq_true rfl) (ls0 := [(0, .ref (gad G 7)), (1, .int x1), (2, .int x2)]) rfl ?_
  refine vv_aload_n (pc := 0) 0 dX5_pitchAt_0 rfl rfl ?_
  refine vv_iload_n (pc := 1) 1 dX5_pitchAt_1 rfl rfl ?_
  refine vc_Vi (pc := 2) (c_X5_isWire l G _ hC hn3 _) mw_M_X5_112 my_X5_isWire mm_rv_X5 ⟨by decide, by decide⟩ rfl rfl (Nat.le_of_ble_eq_true rfl) dX5_pitchAt_2 (fun r2 S2 h2 => ?_)
  obtain ⟨qS2, h2⟩ := h2
  replace qS2 := qS2.symm
  subst qS2
  refine vv_if_ne (pc := 5) (tgt := 10) dX5_pitchAt_5 (by decide) (fun c5 => ?_) (fun c5 => ?_)
  -- t@5 path t
  · rw [h2] at c5
    have gH : ¬ sp_wi C x1 = 99 := fun h => c5 (i10.mpr h)
    obtain ⟨hi, hxi⟩ := sp_wi_lt hC gH
    have hi8 : sp_wi C x1 < 8 := by omega
    have hww := hwf.2.1 _ hi
    refine vv_iload_n (pc := 10) 2 dX5_pitchAt_10 rfl rfl ?_
    refine vv_iconst (pc := 11) (v := 0) dX5_pitchAt_11 (by decide) ?_
    refine vv_ldc (pc := 12) mw_K_X5_87 dX5_pitchAt_12 ?_
    refine vc_Si (pc := 14) (c_X5_in l G _ _ _ _) mw_M_X5_43 my_X5_in ⟨by decide, by decide⟩ rfl rfl (Nat.le_of_ble_eq_true rfl) dX5_pitchAt_14 (fun r14 S14 h14 => ?_)
    obtain ⟨qS14, h14⟩ := h14
    replace qS14 := qS14.symm
    subst qS14
    refine vv_if_eq (pc := 17) (tgt := 29) dX5_pitchAt_17 (by decide) (fun c17 => ?_) (fun c17 => ?_)
    -- t@17 path tt
    · refine vv_bipush (pc := 29) (v := (-2)) dX5_pitchAt_29 (by decide) ?_
      refine vr_i (pc := 31) dX5_pitchAt_31 ?_
      exact ⟨rfl, by unfold rd_pa; rw [if_neg gH, if_pos (by rw [← h14]; exact c17)]⟩
    -- f@17 path tf
    · have hb := sp_in_1 (by rw [← h14]; exact c17)
      have hrg : sp_rg (sp_f (S 8) (sp_wi C x1) 1) (sp_f (S 8) (sp_wi C x1) 2) x2 := ⟨hww.2.2.1, hww.2.2.2.1, hww.2.2.2.2.1, hww.2.2.2.2.2.1, hb.1, hb.2⟩
      refine vv_aload_n (pc := 20) 0 dX5_pitchAt_20 rfl rfl ?_
      refine vv_iload_n (pc := 21) 1 dX5_pitchAt_21 rfl rfl ?_
      refine vv_iload_n (pc := 22) 2 dX5_pitchAt_22 rfl rfl ?_
      refine vc_Vi (pc := 23) (c_X5_pitch l G _ hxi hi8 _ hrg) mw_M_X5_103 my_X5_pitch mm_rv_X5 ⟨by decide, by decide⟩ rfl rfl (Nat.le_of_ble_eq_true rfl) dX5_pitchAt_23 (fun r23 S23 h23 => ?_)
      obtain ⟨qS23, h23⟩ := h23
      replace qS23 := qS23.symm
      subst qS23
      refine vv_goto (pc := 26) (tgt := 31) dX5_pitchAt_26 (by decide) ?_
      refine vr_i (pc := 31) dX5_pitchAt_31 ?_
      exact ⟨rfl, by unfold rd_pa; rw [if_neg gH, if_neg (fun h => c17 (h14.trans h))]; exact h23⟩
  -- f@5 path f
  · refine vv_iconst (pc := 8) (v := (-1)) dX5_pitchAt_8 (by decide) ?_
    refine vr_i (pc := 9) dX5_pitchAt_9 ?_
    rw [h2] at c5
    exact ⟨rfl, by unfold rd_pa; rw [if_pos (i10.mp c5)]⟩
set_option maxRecDepth 100000 in
set_option maxHeartbeats 4000000 in
theorem c_X5_tensionFor (l : Launch) (G : gG) {q : St} (S : Mem) (hg : gd q) (hz : q.2 = S 8) (x1 x2 : Int32) : mm_C l G yX5_tensionFor cX5_tensionFor 5 (some .int) (mm_rm 3 65) [.ref (gad G 7), .int x1, .int x2] S (mm_Qi G (fun r S2 => S2 = S ∧ r = rd_tf q x1 x2)) := by
  obtain ⟨C, z⟩ := q
  dsimp only at hz
  subst hz
  obtain ⟨hwf, hcalm⟩ := id hg
  dsimp only at hwf hcalm
  obtain ⟨hC, hn3, hat, hinj⟩ := id hwf.1
  refine mm_ofV (own := RX5) (by decide +kernel) rfl (Nat.le_of_ble_eq_true rfl) (ls0 := [(0, .ref (gad G 7)), (1, .int x1), (2, .int x2)]) rfl ?_
  refine vv_aload_n (pc := 0) 0 dX5_tensionFor_0 rfl rfl ?_
  refine vv_iload_n (pc := 1) 1 dX5_tensionFor_1 rfl rfl ?_
  refine vc_Vi (pc := 2) (c_X5_isWire l G _ hC hn3 _) mw_M_X5_112 my_X5_isWire mm_rv_X5 ⟨by decide, by decide⟩ rfl rfl (Nat.le_of_ble_eq_true rfl) dX5_tensionFor_2 (fun r2 S2 h2 => ?_)
  obtain ⟨qS2, h2⟩ := h2
  replace qS2 := qS2.symm
  subst qS2
  refine vv_if_ne (pc := 5) (tgt := 10) dX5_tensionFor_5 (by decide) (fun c5 => ?_) (fun c5 => ?_)
  -- t@5 path t
  · rw [h2] at c5
    have gH : ¬ sp_wi C x1 = 99 := fun h => c5 (i10.mpr h)
    obtain ⟨hi, hxi⟩ := sp_wi_lt hC gH
    have hi8 : sp_wi C x1 < 8 := by omega
    have hww := hwf.2.1 _ hi
    refine vv_iload_n (pc := 10) 2 dX5_tensionFor_10 rfl rfl ?_
    refine vv_iconst (pc := 11) (v := 0) dX5_tensionFor_11 (by decide) ?_
    refine vv_ldc (pc := 12) mw_K_X5_136 dX5_tensionFor_12 ?_
    refine vc_Si (pc := 14) (c_X5_in l G _ _ _ _) mw_M_X5_43 my_X5_in ⟨by decide, by decide⟩ rfl rfl (Nat.le_of_ble_eq_true rfl) dX5_tensionFor_14 (fun r14 S14 h14 => ?_)
    obtain ⟨qS14, h14⟩ := h14
    replace qS14 := qS14.symm
    subst qS14
    refine vv_if_ne (pc := 17) (tgt := 23) dX5_tensionFor_17 (by decide) (fun c17 => ?_) (fun c17 => ?_)
    -- t@17 path tt
    · refine vv_aload_n (pc := 23) 0 dX5_tensionFor_23 rfl rfl ?_
      refine vv_iload_n (pc := 24) 1 dX5_tensionFor_24 rfl rfl ?_
      refine vv_iload_n (pc := 25) 2 dX5_tensionFor_25 rfl rfl ?_
      refine vc_Vl (pc := 26) (c_X5_leastFor l G _ hxi hi8 _) mw_M_X5_106 my_X5_leastFor mm_rv_X5 ⟨by decide, by decide⟩ rfl rfl (Nat.le_of_ble_eq_true rfl) dX5_tensionFor_26 (fun r26 S26 h26 => ?_)
      obtain ⟨qS26, h26⟩ := h26
      replace qS26 := qS26.symm
      subst qS26
      refine vv_topl (fun x3p29 e3p29 => ?_)
      refine vv_lstore_n (pc := 29) (i := 3) (ls' := [(3, .long x3p29), (0, .ref (gad G 7)), (1, .int x1), (2, .int x2)]) dX5_tensionFor_29 rfl (by decide) rfl ?_
      refine vv_lload_n (pc := 30) 0 dX5_tensionFor_30 rfl rfl ?_
      refine vv_ldc2 (pc := 31) mw_L_X5_110 dX5_tensionFor_31 ?_
      refine vv_lcmp (pc := 34) dX5_tensionFor_34 ?_
      refine vv_if_le (pc := 35) (tgt := 43) dX5_tensionFor_35 (by decide) (fun c35 => ?_) (fun c35 => ?_)
      -- t@35 path ttt
      · refine vv_lload_n (pc := 43) 0 dX5_tensionFor_43 rfl rfl ?_
        refine vv_l2i (pc := 44) dX5_tensionFor_44 ?_
        refine vr_i (pc := 45) dX5_tensionFor_45 ?_
        rw [lg_cmp_le, e3p29, h26] at c35
        exact ⟨rfl, by unfold rd_tf; rw [if_neg gH, if_neg (fun h => c17 (h14.trans h)), if_neg (fun h => absurd c35 (Int64.not_le.mpr h)), e3p29, h26]⟩
      -- f@35 path ttf
      · refine vv_bipush (pc := 38) (v := (-6)) dX5_tensionFor_38 (by decide) ?_
        refine vv_goto (pc := 40) (tgt := 45) dX5_tensionFor_40 (by decide) ?_
        refine vr_i (pc := 45) dX5_tensionFor_45 ?_
        rw [lg_cmp_le, e3p29, h26] at c35
        exact ⟨rfl, by unfold rd_tf; rw [if_neg gH, if_neg (fun h => c17 (h14.trans h)), if_pos (Int64.not_le.mp c35)]⟩
    -- f@17 path tf
    · refine vv_bipush (pc := 20) (v := (-2)) dX5_tensionFor_20 (by decide) ?_
      refine vr_i (pc := 22) dX5_tensionFor_22 ?_
      exact ⟨rfl, by unfold rd_tf; rw [if_neg gH, if_pos (by rw [← h14]; exact c17)]⟩
  -- f@5 path f
  · refine vv_iconst (pc := 8) (v := (-1)) dX5_tensionFor_8 (by decide) ?_
    refine vr_i (pc := 9) dX5_tensionFor_9 ?_
    rw [h2] at c5
    exact ⟨rfl, by unfold rd_tf; rw [if_pos (i10.mp c5)]⟩
set_option maxRecDepth 100000 in
set_option maxHeartbeats 4000000 in
theorem c_X5_ofWire (l : Launch) (G : gG) {q : St} (S : Mem) (hg : gd q) (hz : q.2 = S 8) (x1 x2 : Int32) : mm_C l G yX5_ofWire cX5_ofWire 3 (some .int) (mm_rm 3 75) [.ref (gad G 7), .int x1, .int x2] S (mm_Qi G (fun r S2 => rm S S2 ∧ r = rd_of q x1 x2)) := by
  obtain ⟨C, z⟩ := q
  dsimp only at hz
  subst hz
  obtain ⟨hwf, hcalm⟩ := id hg
  dsimp only at hwf hcalm
  obtain ⟨hC, hn3, hat, hinj⟩ := id hwf.1
  refine mm_ofV (own := RX5) (by decide +kernel) rfl (Nat.le_of_ble_eq_true rfl) (ls0 := [(0, .ref (gad G 7)), (1, .int x1), (2, .int x2)]) rfl ?_
  refine vv_aload_n (pc := 0) 0 dX5_ofWire_0 rfl rfl ?_
  refine vv_iload_n (pc := 1) 1 dX5_ofWire_1 rfl rfl ?_
  refine vc_Vi (pc := 2) (c_X5_isWire l G _ hC hn3 _) mw_M_X5_112 my_X5_isWire mm_rv_X5 ⟨by decide, by decide⟩ rfl rfl (Nat.le_of_ble_eq_true rfl) dX5_ofWire_2 (fun r2 S2 h2 => ?_)
  obtain ⟨qS2, h2⟩ := h2
  replace qS2 := qS2.symm
  subst qS2
  refine vv_if_ne (pc := 5) (tgt := 10) dX5_ofWire_5 (by decide) (fun c5 => ?_) (fun c5 => ?_)
  -- t@5 path t
  · rw [h2] at c5
    have gH : ¬ sp_wi C x1 = 99 := fun h => c5 (i10.mpr h)
    obtain ⟨hi, hxi⟩ := sp_wi_lt hC gH
    have hi8 : sp_wi C x1 < 8 := by omega
    have hww := hwf.2.1 _ hi
    refine vv_aload_n (pc := 10) 0 dX5_ofWire_10 rfl rfl ?_
    refine vv_aload_n (pc := 11) 0 dX5_ofWire_11 rfl rfl ?_
    refine vv_iconst (pc := 12) (v := 0) dX5_ofWire_12 (by decide) ?_
    refine vc_Vi (pc := 13) (c_X5_wholeBy l G _ hC hn3 (Or.inl ⟨rfl, rfl⟩)) mw_M_X5_61 my_X5_wholeBy mm_rv_X5 ⟨by decide, by decide⟩ rfl rfl (Nat.le_of_ble_eq_true rfl) dX5_ofWire_13 (fun r13 S13 h13 => ?_)
    obtain ⟨qS13, h13⟩ := h13
    replace qS13 := qS13.symm
    subst qS13
    refine vc_Vv (pc := 16) (c_X5_layTasks l G _ (C := C) (g := 5) hwf.1 (by rw [h13]; exact msk_b hC)) mw_M_X5_65 my_X5_layTasks mm_rv_X5 ⟨by decide, by decide⟩ rfl rfl (Nat.le_of_ble_eq_true rfl) dX5_ofWire_16 (fun S16 h16 => ?_)
    obtain ⟨T, hT, eS16⟩ := h16
    subst eS16
    have h8 : mR S 14 T 8 = S 8 := mR_o S T (by decide)
    refine vv_iload_n (pc := 19) 2 dX5_ofWire_19 rfl rfl ?_
    refine vv_topi (fun sw20 esw20 => ?_)
    by_cases qsw20 : sw20.toInt < 6 ∨ 10 < sw20.toInt
    · refine vv_tableOut (pc := 20) (tgt := 111) dX5_ofWire_20 qsw20 (by decide) ?_
      refine vv_iload_n (pc := 111) 2 dX5_ofWire_111 rfl rfl ?_
      refine vv_iconst (pc := 112) (v := 0) dX5_ofWire_112 (by decide) ?_
      refine vv_iconst (pc := 113) (v := 5) dX5_ofWire_113 (by decide) ?_
      refine vc_Si (pc := 114) (c_X5_in l G _ _ _ _) mw_M_X5_43 my_X5_in ⟨by decide, by decide⟩ rfl rfl (Nat.le_of_ble_eq_true rfl) dX5_ofWire_114 (fun r114 S114 h114 => ?_)
      obtain ⟨qS114, h114⟩ := h114
      replace qS114 := qS114.symm
      subst qS114
      refine vv_if_eq (pc := 117) (tgt := 129) dX5_ofWire_117 (by decide) (fun c117 => ?_) (fun c117 => ?_)
      -- t@117 path tdt
      · refine vv_bipush (pc := 129) (v := (-2)) dX5_ofWire_129 (by decide) ?_
        refine vr_i (pc := 131) dX5_ofWire_131 ?_
        refine ⟨rm_T S T, ?_⟩
        unfold rd_of
        rw [if_neg gH]
        have hk : ∀ j : Int32, 0 ≤ j.toInt → j.toInt ≤ 10 → x2 ≠ j := fun j h0 h1 e => by
          rw [h114, e] at c117
          rw [esw20, e] at qsw20
          rw [sp_in_iff, show (0 : Int32).toInt = 0 by decide, show (5 : Int32).toInt = 5 by decide] at c117
          omega
        dsimp only
        unfold rd_of1
        rw [if_neg (hk 0 (by decide) (by decide))]
        rw [if_neg (hk 1 (by decide) (by decide))]
        rw [if_neg (hk 2 (by decide) (by decide))]
        rw [if_neg (hk 3 (by decide) (by decide))]
        rw [if_neg (hk 4 (by decide) (by decide))]
        rw [if_neg (hk 5 (by decide) (by decide))]
        rw [if_neg (hk 6 (by decide) (by decide))]
        rw [if_neg (hk 7 (by decide) (by decide))]
        rw [if_neg (hk 8 (by decide) (by decide))]
        rw [if_neg (hk 9 (by decide) (by decide))]
        rw [if_neg (hk 10 (by decide) (by decide))]
      -- f@117 path tdf
      · have hb := sp_in_1 (by rw [← h114]; exact c117)
        have hx2 : x2 = nI x2.toNatClampNeg := sp_nI hb.1
        have hk6 : x2.toNatClampNeg < 6 := by have := sp_cl hb.1; have := hb.2; rw [show (5 : Int32).toInt = 5 by decide] at this; omega
        refine vv_aload_n (pc := 120) 0 dX5_ofWire_120 rfl rfl ?_
        refine vv_iload_n (pc := 121) 1 dX5_ofWire_121 rfl rfl ?_
        refine vv_iload_n (pc := 122) 2 dX5_ofWire_122 rfl rfl ?_
        refine vc_Vi (pc := 123) (c_X5_of l G _ hxi hx2 hi8 (by omega)) mw_M_X5_47 my_X5_of mm_rv_X5 ⟨by decide, by decide⟩ rfl rfl (Nat.le_of_ble_eq_true rfl) dX5_ofWire_123 (fun r123 S123 h123 => ?_)
        obtain ⟨qS123, h123⟩ := h123
        replace qS123 := qS123.symm
        subst qS123
        refine vv_goto (pc := 126) (tgt := 131) dX5_ofWire_126 (by decide) ?_
        refine vr_i (pc := 131) dX5_ofWire_131 ?_
        refine ⟨rm_T S T, ?_⟩
        unfold rd_of
        rw [if_neg gH]
        rw [h123, h8]
        obtain ⟨k, hk⟩ : ∃ k, k = x2.toNatClampNeg := ⟨_, rfl⟩
        rw [← hk] at hx2 hk6
        subst hx2
        rw [cl_n (by omega)]
        have hkk : k = 0 ∨ k = 1 ∨ k = 2 ∨ k = 3 ∨ k = 4 ∨ k = 5 := by omega
        rcases hkk with rfl | rfl | rfl | rfl | rfl | rfl <;> rfl
    · have hsw20 : sw20.toInt = 6 ∨ sw20.toInt = 7 ∨ sw20.toInt = 8 ∨ sw20.toInt = 9 ∨ sw20.toInt = 10 := by omega
      rcases hsw20 with ksw20 | ksw20 | ksw20 | ksw20 | ksw20
      · refine vv_tableIn (pc := 20) (off := 36) (tgt := 56) dX5_ofWire_20 (by omega) (by omega) (by rw [ksw20]; rfl) (by decide) ?_
        -- path t<6>
        refine vv_aload_n (pc := 56) 0 dX5_ofWire_56 rfl rfl ?_
        refine vv_iload_n (pc := 57) 1 dX5_ofWire_57 rfl rfl ?_
        refine vv_aload_n (pc := 58) 0 dX5_ofWire_58 rfl rfl ?_
        refine vv_iload_n (pc := 59) 1 dX5_ofWire_59 rfl rfl ?_
        refine vv_iconst (pc := 60) (v := 4) dX5_ofWire_60 (by decide) ?_
        refine vc_Vi (pc := 61) (c_X5_of l G _ hxi rfl hi8 (by decide)) mw_M_X5_47 my_X5_of mm_rv_X5 ⟨by decide, by decide⟩ rfl rfl (Nat.le_of_ble_eq_true rfl) dX5_ofWire_61 (fun r61 S61 h61 => ?_)
        obtain ⟨qS61, h61⟩ := h61
        replace qS61 := qS61.symm
        subst qS61
        have hrg : sp_rg (sp_f (mR S 14 T 8) (sp_wi C x1) 1) (sp_f (mR S 14 T 8) (sp_wi C x1) 2) r61 := by rw [h61, h8]; exact ⟨hww.2.2.1, hww.2.2.2.1, hww.2.2.2.2.1, hww.2.2.2.2.2.1, hww.2.2.2.2.2.2.2.2.1, hww.2.2.2.2.2.2.2.2.2.1⟩
        refine vc_Vi (pc := 64) (c_X5_pitch l G _ hxi hi8 _ hrg) mw_M_X5_103 my_X5_pitch mm_rv_X5 ⟨by decide, by decide⟩ rfl rfl (Nat.le_of_ble_eq_true rfl) dX5_ofWire_64 (fun r64 S64 h64 => ?_)
        obtain ⟨qS64, h64⟩ := h64
        replace qS64 := qS64.symm
        subst qS64
        refine vr_i (pc := 67) dX5_ofWire_67 ?_
        have hk : x2 = 6 := i32_of (n := 6) 6 (by rw [← esw20]; exact ksw20) (by decide)
        subst hk
        refine ⟨rm_T S T, ?_⟩
        unfold rd_of
        rw [if_neg gH]
        show _ = sp_pt (sp_f (S 8) (sp_wi C x1) 1) (sp_f (S 8) (sp_wi C x1) 2) (sp_f (S 8) (sp_wi C x1) 4)
        rw [h64, h61, h8]
      · refine vv_tableIn (pc := 20) (off := 48) (tgt := 68) dX5_ofWire_20 (by omega) (by omega) (by rw [ksw20]; rfl) (by decide) ?_
        -- path t<7>
        refine vv_aload_n (pc := 68) 0 dX5_ofWire_68 rfl rfl ?_
        refine vg_X5_task (pc := 69) mw_F_X5_29 dX5_ofWire_69 ?_
        refine vv_iload_n (pc := 72) 1 dX5_ofWire_72 rfl rfl ?_
        refine vl_14 (pc := 73) (by rw [hxi]; exact vp_8 hi8) dX5_ofWire_73 ?_
        refine vr_i (pc := 74) dX5_ofWire_74 ?_
        have hk : x2 = 7 := i32_of (n := 7) 7 (by rw [← esw20]; exact ksw20) (by decide)
        subst hk
        refine ⟨rm_T S T, ?_⟩
        unfold rd_of
        rw [if_neg gH]
        show _ = sp_tk (S 8) 5 C (sp_wi C x1)
        rw [mR_s, show x1.toNatClampNeg = sp_wi C x1 from by rw [hxi, cl_n (by omega), ← hxi], hT _ hi]
      · refine vv_tableIn (pc := 20) (off := 55) (tgt := 75) dX5_ofWire_20 (by omega) (by omega) (by rw [ksw20]; rfl) (by decide) ?_
        -- path t<8>
        refine vv_aload_n (pc := 75) 0 dX5_ofWire_75 rfl rfl ?_
        refine vv_iload_n (pc := 76) 1 dX5_ofWire_76 rfl rfl ?_
        refine vc_Vi (pc := 77) (c_X5_isSlack l G _ hxi hi8) mw_M_X5_115 my_X5_isSlack mm_rv_X5 ⟨by decide, by decide⟩ rfl rfl (Nat.le_of_ble_eq_true rfl) dX5_ofWire_77 (fun r77 S77 h77 => ?_)
        obtain ⟨qS77, h77⟩ := h77
        replace qS77 := qS77.symm
        subst qS77
        refine vv_if_eq (pc := 80) (tgt := 87) dX5_ofWire_80 (by decide) (fun c80 => ?_) (fun c80 => ?_)
        -- t@80 path t<8>t
        · refine vv_iconst (pc := 87) (v := 0) dX5_ofWire_87 (by decide) ?_
          refine vr_i (pc := 88) dX5_ofWire_88 ?_
          have hk : x2 = 8 := i32_of (n := 8) 8 (by rw [← esw20]; exact ksw20) (by decide)
          subst hk
          refine ⟨rm_T S T, ?_⟩
          unfold rd_of
          rw [if_neg gH]
          show _ = sp_g1 (S 8) C (sp_wi C x1)
          rw [h77, mR_s, h8, hT _ hi] at c80
          unfold sp_g1
          exact (if_neg (i01.mp c80)).symm
        -- f@80 path t<8>f
        · refine vv_iconst (pc := 83) (v := 1) dX5_ofWire_83 (by decide) ?_
          refine vv_goto (pc := 84) (tgt := 88) dX5_ofWire_84 (by decide) ?_
          refine vr_i (pc := 88) dX5_ofWire_88 ?_
          have hk : x2 = 8 := i32_of (n := 8) 8 (by rw [← esw20]; exact ksw20) (by decide)
          subst hk
          refine ⟨rm_T S T, ?_⟩
          unfold rd_of
          rw [if_neg gH]
          show _ = sp_g1 (S 8) C (sp_wi C x1)
          rw [h77, mR_s, h8, hT _ hi] at c80
          unfold sp_g1
          exact (if_pos (Classical.not_not.mp (fun h => c80 (i01.mpr h)))).symm
      · refine vv_tableIn (pc := 20) (off := 69) (tgt := 89) dX5_ofWire_20 (by omega) (by omega) (by rw [ksw20]; rfl) (by decide) ?_
        -- path t<9>
        refine vv_aload_n (pc := 89) 0 dX5_ofWire_89 rfl rfl ?_
        refine vv_iload_n (pc := 90) 1 dX5_ofWire_90 rfl rfl ?_
        refine vc_Vi (pc := 91) (c_X5_isTight l G _ hxi hi8) mw_M_X5_118 my_X5_isTight mm_rv_X5 ⟨by decide, by decide⟩ rfl rfl (Nat.le_of_ble_eq_true rfl) dX5_ofWire_91 (fun r91 S91 h91 => ?_)
        obtain ⟨qS91, h91⟩ := h91
        replace qS91 := qS91.symm
        subst qS91
        refine vv_if_eq (pc := 94) (tgt := 101) dX5_ofWire_94 (by decide) (fun c94 => ?_) (fun c94 => ?_)
        -- t@94 path t<9>t
        · refine vv_iconst (pc := 101) (v := 0) dX5_ofWire_101 (by decide) ?_
          refine vr_i (pc := 102) dX5_ofWire_102 ?_
          have hk : x2 = 9 := i32_of (n := 9) 9 (by rw [← esw20]; exact ksw20) (by decide)
          subst hk
          refine ⟨rm_T S T, ?_⟩
          unfold rd_of
          rw [if_neg gH]
          show _ = sp_g2 (S 8) C (sp_wi C x1)
          rw [h91, mR_s, h8, hT _ hi] at c94
          unfold sp_g2
          exact (if_neg (fun h => i01.mp c94 ⟨h.1, h.2.2, h.2.1⟩)).symm
        -- f@94 path t<9>f
        · refine vv_iconst (pc := 97) (v := 1) dX5_ofWire_97 (by decide) ?_
          refine vv_goto (pc := 98) (tgt := 102) dX5_ofWire_98 (by decide) ?_
          refine vr_i (pc := 102) dX5_ofWire_102 ?_
          have hk : x2 = 9 := i32_of (n := 9) 9 (by rw [← esw20]; exact ksw20) (by decide)
          subst hk
          refine ⟨rm_T S T, ?_⟩
          unfold rd_of
          rw [if_neg gH]
          show _ = sp_g2 (S 8) C (sp_wi C x1)
          rw [h91, mR_s, h8, hT _ hi] at c94
          unfold sp_g2
          exact (if_pos (And.imp_right And.symm (Classical.not_not.mp (fun h => c94 (i01.mpr h))))).symm
      · refine vv_tableIn (pc := 20) (off := 83) (tgt := 103) dX5_ofWire_20 (by omega) (by omega) (by rw [ksw20]; rfl) (by decide) ?_
        -- path t<10>
        refine vv_aload_n (pc := 103) 0 dX5_ofWire_103 rfl rfl ?_
        refine vv_iload_n (pc := 104) 1 dX5_ofWire_104 rfl rfl ?_
        refine vv_bipush (pc := 105) (v := 6) dX5_ofWire_105 (by decide) ?_
        refine vc_Vi (pc := 107) (c_X5_of l G _ hxi rfl hi8 (by decide)) mw_M_X5_47 my_X5_of mm_rv_X5 ⟨by decide, by decide⟩ rfl rfl (Nat.le_of_ble_eq_true rfl) dX5_ofWire_107 (fun r107 S107 h107 => ?_)
        obtain ⟨qS107, h107⟩ := h107
        replace qS107 := qS107.symm
        subst qS107
        refine vr_i (pc := 110) dX5_ofWire_110 ?_
        have hk : x2 = 10 := i32_of (n := 10) 10 (by rw [← esw20]; exact ksw20) (by decide)
        subst hk
        refine ⟨rm_T S T, ?_⟩
        unfold rd_of
        rw [if_neg gH]
        show _ = sp_f (S 8) (sp_wi C x1) 6
        rw [h107, h8]
  -- f@5 path f
  · refine vv_iconst (pc := 8) (v := (-1)) dX5_ofWire_8 (by decide) ?_
    refine vr_i (pc := 9) dX5_ofWire_9 ?_
    rw [h2] at c5
    exact ⟨fun _ _ _ => rfl, by unfold rd_of; rw [if_pos (i10.mp c5)]⟩
set_option maxRecDepth 100000 in
set_option maxHeartbeats 4000000 in
theorem c_X5_known (l : Launch) (G : gG) {q : St} (S : Mem) (hg : gd q) (hz : q.2 = S 8) (x1 x2 : Int32) : mm_C l G yX5_known cX5_known 3 (some .int) (mm_rm 3 75) [.ref (gad G 7), .int x1, .int x2] S (mm_Qi G (fun r S2 => rm S S2 ∧ r = rd_kn q x1 x2)) := by
  obtain ⟨C, z⟩ := q
  dsimp only at hz
  subst hz
  obtain ⟨hwf, hcalm⟩ := id hg
  dsimp only at hwf hcalm
  obtain ⟨hC, hn3, hat, hinj⟩ := id hwf.1
  refine mm_ofV (own := RX5) (by decide +kernel) rfl (Nat.le_of_ble_eq_true rfl) (ls0 := [(0, .ref (gad G 7)), (1, .int x1), (2, .int x2)]) rfl ?_
  refine vv_aload_n (pc := 0) 0 dX5_known_0 rfl rfl ?_
  refine vv_iload_n (pc := 1) 1 dX5_known_1 rfl rfl ?_
  refine vc_Vi (pc := 2) (c_X5_isWire l G _ hC hn3 _) mw_M_X5_112 my_X5_isWire mm_rv_X5 ⟨by decide, by decide⟩ rfl rfl (Nat.le_of_ble_eq_true rfl) dX5_known_2 (fun r2 S2 h2 => ?_)
  obtain ⟨qS2, h2⟩ := h2
  replace qS2 := qS2.symm
  subst qS2
  refine vv_if_ne (pc := 5) (tgt := 10) dX5_known_5 (by decide) (fun c5 => ?_) (fun c5 => ?_)
  -- t@5 path t
  · rw [h2] at c5
    have gH : ¬ sp_wi C x1 = 99 := fun h => c5 (i10.mpr h)
    obtain ⟨hi, hxi⟩ := sp_wi_lt hC gH
    have hi8 : sp_wi C x1 < 8 := by omega
    have hww := hwf.2.1 _ hi
    refine vv_aload_n (pc := 10) 0 dX5_known_10 rfl rfl ?_
    refine vv_aload_n (pc := 11) 0 dX5_known_11 rfl rfl ?_
    refine vv_iconst (pc := 12) (v := 1) dX5_known_12 (by decide) ?_
    refine vc_Vi (pc := 13) (c_X5_wholeBy l G _ hC hn3 (Or.inr ⟨rfl, rfl⟩)) mw_M_X5_61 my_X5_wholeBy mm_rv_X5 ⟨by decide, by decide⟩ rfl rfl (Nat.le_of_ble_eq_true rfl) dX5_known_13 (fun r13 S13 h13 => ?_)
    obtain ⟨qS13, h13⟩ := h13
    replace qS13 := qS13.symm
    subst qS13
    refine vc_Vv (pc := 16) (c_X5_layTasks l G _ (C := C) (g := 10) hwf.1 (by rw [h13]; exact msk_b hC)) mw_M_X5_65 my_X5_layTasks mm_rv_X5 ⟨by decide, by decide⟩ rfl rfl (Nat.le_of_ble_eq_true rfl) dX5_known_16 (fun S16 h16 => ?_)
    obtain ⟨T, hT, eS16⟩ := h16
    subst eS16
    have h8 : mR S 14 T 8 = S 8 := mR_o S T (by decide)
    refine vv_iload_n (pc := 19) 2 dX5_known_19 rfl rfl ?_
    refine vv_topi (fun sw20 esw20 => ?_)
    by_cases qsw20 : sw20.toInt < 0 ∨ 5 < sw20.toInt
    · refine vv_tableOut (pc := 20) (tgt := 91) dX5_known_20 qsw20 (by decide) ?_
      refine vv_iload_n (pc := 91) 2 dX5_known_91 rfl rfl ?_
      refine vv_bipush (pc := 92) (v := 6) dX5_known_92 (by decide) ?_
      refine vv_icmp_ne (pc := 94) (tgt := 113) dX5_known_94 (by decide) (fun c94 => ?_) (fun c94 => ?_)
      -- t@94 path tdt
      · refine vv_bipush (pc := 113) (v := (-2)) dX5_known_113 (by decide) ?_
        refine vr_i (pc := 115) dX5_known_115 ?_
        refine ⟨rm_T S T, ?_⟩
        unfold rd_kn
        rw [if_neg gH]
        have hk : ∀ j : Int32, 0 ≤ j.toInt → j.toInt ≤ 6 → x2 ≠ j := fun j h0 h1 e => by
          by_cases e6 : j = 6
          · exact c94 (e.trans e6)
          · have : j.toInt ≠ 6 := fun h => e6 (i32_of 6 h (by decide))
            rw [esw20, e] at qsw20
            omega
        dsimp only
        unfold rd_kn1
        rw [if_neg (hk 0 (by decide) (by decide))]
        rw [if_neg (hk 1 (by decide) (by decide))]
        rw [if_neg (hk 2 (by decide) (by decide))]
        rw [if_neg (hk 3 (by decide) (by decide))]
        rw [if_neg (hk 4 (by decide) (by decide))]
        rw [if_neg (hk 5 (by decide) (by decide))]
        rw [if_neg (hk 6 (by decide) (by decide))]
      -- f@94 path tdf
      · refine vv_aload_n (pc := 97) 0 dX5_known_97 rfl rfl ?_
        refine vv_iload_n (pc := 98) 1 dX5_known_98 rfl rfl ?_
        refine vc_Vi (pc := 99) (c_X5_mayBe l G _ hxi hi8) mw_M_X5_124 my_X5_mayBe mm_rv_X5 ⟨by decide, by decide⟩ rfl rfl (Nat.le_of_ble_eq_true rfl) dX5_known_99 (fun r99 S99 h99 => ?_)
        obtain ⟨qS99, h99⟩ := h99
        replace qS99 := qS99.symm
        subst qS99
        refine vv_if_eq (pc := 102) (tgt := 109) dX5_known_102 (by decide) (fun c102 => ?_) (fun c102 => ?_)
        -- t@102 path tdft
        · refine vv_iconst (pc := 109) (v := 0) dX5_known_109 (by decide) ?_
          refine vv_goto (pc := 110) (tgt := 115) dX5_known_110 (by decide) ?_
          refine vr_i (pc := 115) dX5_known_115 ?_
          have hk := c94
          subst hk
          refine ⟨rm_T S T, ?_⟩
          unfold rd_kn
          rw [if_neg gH]
          show _ = sp_kn6 (S 8) C (sp_wi C x1)
          rw [h99, mR_s, h8, hT _ hi, i01, hd_iff hww] at c102
          unfold sp_kn6
          exact (if_neg c102).symm
        -- f@102 path tdff
        · refine vv_iconst (pc := 105) (v := 1) dX5_known_105 (by decide) ?_
          refine vv_goto (pc := 106) (tgt := 115) dX5_known_106 (by decide) ?_
          refine vr_i (pc := 115) dX5_known_115 ?_
          have hk := c94
          subst hk
          refine ⟨rm_T S T, ?_⟩
          unfold rd_kn
          rw [if_neg gH]
          show _ = sp_kn6 (S 8) C (sp_wi C x1)
          rw [h99, mR_s, h8, hT _ hi, i01, hd_iff hww] at c102
          unfold sp_kn6
          exact (if_pos (Classical.not_not.mp c102)).symm
    · have hsw20 : sw20.toInt = 0 ∨ sw20.toInt = 1 ∨ sw20.toInt = 2 ∨ sw20.toInt = 3 ∨ sw20.toInt = 4 ∨ sw20.toInt = 5 := by omega
      rcases hsw20 with ksw20 | ksw20 | ksw20 | ksw20 | ksw20 | ksw20
      · refine vv_tableIn (pc := 20) (off := 40) (tgt := 60) dX5_known_20 (by omega) (by omega) (by rw [ksw20]; rfl) (by decide) ?_
        -- path t<0>
        have hk : x2 = 0 := i32_of (n := 0) 0 (by rw [← esw20]; exact ksw20) (by decide)
        subst hk
        refine vv_aload_n (pc := 60) 0 dX5_known_60 rfl rfl ?_
        refine vv_iload_n (pc := 61) 1 dX5_known_61 rfl rfl ?_
        refine vv_bipush (pc := 62) (v := 7) dX5_known_62 (by decide) ?_
        refine vv_iload_n (pc := 64) 2 dX5_known_64 rfl rfl ?_
        refine vv_iadd (pc := 65) dX5_known_65 ?_
        refine vc_Vi (pc := 66) (c_X5_of l G _ hxi (f := 7) (by decide) hi8 (by decide)) mw_M_X5_47 my_X5_of mm_rv_X5 ⟨by decide, by decide⟩ rfl rfl (Nat.le_of_ble_eq_true rfl) dX5_known_66 (fun r66 S66 h66 => ?_)
        obtain ⟨qS66, h66⟩ := h66
        replace qS66 := qS66.symm
        subst qS66
        refine vr_i (pc := 69) dX5_known_69 ?_
        refine ⟨rm_T S T, ?_⟩
        unfold rd_kn
        rw [if_neg gH]
        show _ = sp_f (S 8) (sp_wi C x1) 7
        rw [h66, h8]
      · refine vv_tableIn (pc := 20) (off := 40) (tgt := 60) dX5_known_20 (by omega) (by omega) (by rw [ksw20]; rfl) (by decide) ?_
        -- path t<1>
        have hk : x2 = 1 := i32_of (n := 1) 1 (by rw [← esw20]; exact ksw20) (by decide)
        subst hk
        refine vv_aload_n (pc := 60) 0 dX5_known_60 rfl rfl ?_
        refine vv_iload_n (pc := 61) 1 dX5_known_61 rfl rfl ?_
        refine vv_bipush (pc := 62) (v := 7) dX5_known_62 (by decide) ?_
        refine vv_iload_n (pc := 64) 2 dX5_known_64 rfl rfl ?_
        refine vv_iadd (pc := 65) dX5_known_65 ?_
        refine vc_Vi (pc := 66) (c_X5_of l G _ hxi (f := 8) (by decide) hi8 (by decide)) mw_M_X5_47 my_X5_of mm_rv_X5 ⟨by decide, by decide⟩ rfl rfl (Nat.le_of_ble_eq_true rfl) dX5_known_66 (fun r66 S66 h66 => ?_)
        obtain ⟨qS66, h66⟩ := h66
        replace qS66 := qS66.symm
        subst qS66
        refine vr_i (pc := 69) dX5_known_69 ?_
        refine ⟨rm_T S T, ?_⟩
        unfold rd_kn
        rw [if_neg gH]
        show _ = sp_f (S 8) (sp_wi C x1) 8
        rw [h66, h8]
      · refine vv_tableIn (pc := 20) (off := 40) (tgt := 60) dX5_known_20 (by omega) (by omega) (by rw [ksw20]; rfl) (by decide) ?_
        -- path t<2>
        have hk : x2 = 2 := i32_of (n := 2) 2 (by rw [← esw20]; exact ksw20) (by decide)
        subst hk
        refine vv_aload_n (pc := 60) 0 dX5_known_60 rfl rfl ?_
        refine vv_iload_n (pc := 61) 1 dX5_known_61 rfl rfl ?_
        refine vv_bipush (pc := 62) (v := 7) dX5_known_62 (by decide) ?_
        refine vv_iload_n (pc := 64) 2 dX5_known_64 rfl rfl ?_
        refine vv_iadd (pc := 65) dX5_known_65 ?_
        refine vc_Vi (pc := 66) (c_X5_of l G _ hxi (f := 9) (by decide) hi8 (by decide)) mw_M_X5_47 my_X5_of mm_rv_X5 ⟨by decide, by decide⟩ rfl rfl (Nat.le_of_ble_eq_true rfl) dX5_known_66 (fun r66 S66 h66 => ?_)
        obtain ⟨qS66, h66⟩ := h66
        replace qS66 := qS66.symm
        subst qS66
        refine vr_i (pc := 69) dX5_known_69 ?_
        refine ⟨rm_T S T, ?_⟩
        unfold rd_kn
        rw [if_neg gH]
        show _ = sp_f (S 8) (sp_wi C x1) 9
        rw [h66, h8]
      · refine vv_tableIn (pc := 20) (off := 40) (tgt := 60) dX5_known_20 (by omega) (by omega) (by rw [ksw20]; rfl) (by decide) ?_
        -- path t<3>
        have hk : x2 = 3 := i32_of (n := 3) 3 (by rw [← esw20]; exact ksw20) (by decide)
        subst hk
        refine vv_aload_n (pc := 60) 0 dX5_known_60 rfl rfl ?_
        refine vv_iload_n (pc := 61) 1 dX5_known_61 rfl rfl ?_
        refine vv_bipush (pc := 62) (v := 7) dX5_known_62 (by decide) ?_
        refine vv_iload_n (pc := 64) 2 dX5_known_64 rfl rfl ?_
        refine vv_iadd (pc := 65) dX5_known_65 ?_
        refine vc_Vi (pc := 66) (c_X5_of l G _ hxi (f := 10) (by decide) hi8 (by decide)) mw_M_X5_47 my_X5_of mm_rv_X5 ⟨by decide, by decide⟩ rfl rfl (Nat.le_of_ble_eq_true rfl) dX5_known_66 (fun r66 S66 h66 => ?_)
        obtain ⟨qS66, h66⟩ := h66
        replace qS66 := qS66.symm
        subst qS66
        refine vr_i (pc := 69) dX5_known_69 ?_
        refine ⟨rm_T S T, ?_⟩
        unfold rd_kn
        rw [if_neg gH]
        show _ = sp_f (S 8) (sp_wi C x1) 10
        rw [h66, h8]
      · refine vv_tableIn (pc := 20) (off := 50) (tgt := 70) dX5_known_20 (by omega) (by omega) (by rw [ksw20]; rfl) (by decide) ?_
        -- path t<4>
        refine vv_aload_n (pc := 70) 0 dX5_known_70 rfl rfl ?_
        refine vg_X5_task (pc := 71) mw_F_X5_29 dX5_known_71 ?_
        refine vv_iload_n (pc := 74) 1 dX5_known_74 rfl rfl ?_
        refine vl_14 (pc := 75) (by rw [hxi]; exact vp_8 hi8) dX5_known_75 ?_
        refine vr_i (pc := 76) dX5_known_76 ?_
        have hk : x2 = 4 := i32_of (n := 4) 4 (by rw [← esw20]; exact ksw20) (by decide)
        subst hk
        refine ⟨rm_T S T, ?_⟩
        unfold rd_kn
        rw [if_neg gH]
        show _ = sp_tk (S 8) 10 C (sp_wi C x1)
        rw [mR_s, show x1.toNatClampNeg = sp_wi C x1 from by rw [hxi, cl_n (by omega), ← hxi], hT _ hi]
      · refine vv_tableIn (pc := 20) (off := 57) (tgt := 77) dX5_known_20 (by omega) (by omega) (by rw [ksw20]; rfl) (by decide) ?_
        -- path t<5>
        refine vv_aload_n (pc := 77) 0 dX5_known_77 rfl rfl ?_
        refine vv_iload_n (pc := 78) 1 dX5_known_78 rfl rfl ?_
        refine vc_Vi (pc := 79) (c_X5_isSurely l G _ hxi hi8) mw_M_X5_121 my_X5_isSurely mm_rv_X5 ⟨by decide, by decide⟩ rfl rfl (Nat.le_of_ble_eq_true rfl) dX5_known_79 (fun r79 S79 h79 => ?_)
        obtain ⟨qS79, h79⟩ := h79
        replace qS79 := qS79.symm
        subst qS79
        refine vv_if_eq (pc := 82) (tgt := 89) dX5_known_82 (by decide) (fun c82 => ?_) (fun c82 => ?_)
        -- t@82 path t<5>t
        · refine vv_iconst (pc := 89) (v := 0) dX5_known_89 (by decide) ?_
          refine vr_i (pc := 90) dX5_known_90 ?_
          have hk : x2 = 5 := i32_of (n := 5) 5 (by rw [← esw20]; exact ksw20) (by decide)
          subst hk
          refine ⟨rm_T S T, ?_⟩
          unfold rd_kn
          rw [if_neg gH]
          show _ = sp_kn5 (S 8) C (sp_wi C x1)
          rw [h79, mR_s, h8, hT _ hi, i01, hd_iff hww] at c82
          unfold sp_kn5
          exact (if_neg c82).symm
        -- f@82 path t<5>f
        · refine vv_iconst (pc := 85) (v := 1) dX5_known_85 (by decide) ?_
          refine vv_goto (pc := 86) (tgt := 90) dX5_known_86 (by decide) ?_
          refine vr_i (pc := 90) dX5_known_90 ?_
          have hk : x2 = 5 := i32_of (n := 5) 5 (by rw [← esw20]; exact ksw20) (by decide)
          subst hk
          refine ⟨rm_T S T, ?_⟩
          unfold rd_kn
          rw [if_neg gH]
          show _ = sp_kn5 (S 8) C (sp_wi C x1)
          rw [h79, mR_s, h8, hT _ hi, i01, hd_iff hww] at c82
          unfold sp_kn5
          exact (if_pos (Classical.not_not.mp c82)).symm
  -- f@5 path f
  · refine vv_iconst (pc := 8) (v := (-1)) dX5_known_8 (by decide) ?_
    refine vr_i (pc := 9) dX5_known_9 ?_
    rw [h2] at c5
    exact ⟨fun _ _ _ => rfl, by unfold rd_kn; rw [if_pos (i10.mp c5)]⟩
set_option maxRecDepth 100000 in
set_option maxHeartbeats 4000000 in
theorem c_X5_wiresWith (l : Launch) (G : gG) (S : Mem) {C : Nat} (hws : sp_ws C (S 8)) (x1 : Int32) : mm_C l G yX5_wiresWith cX5_wiresWith 5 (some .int) (mm_rm 3 75) [.ref (gad G 7), .int x1] S (mm_Qi G (fun r S2 => rm S S2 ∧ r = sp_cnt (wwg C (S 8) x1) C)) := by
  obtain ⟨hC, hn3, hat, hinj⟩ := id hws
  refine mm_ofV (own := RX5) (by decide +kernel) rfl (Nat.le_of_ble_eq_true rfl) (ls0 := [(0, .ref (gad G 7)), (1, .int x1)]) rfl ?_
  refine vv_aload_n (pc := 0) 0 dX5_wiresWith_0 rfl rfl ?_
  refine vv_aload_n (pc := 1) 0 dX5_wiresWith_1 rfl rfl ?_
  refine vv_iconst (pc := 2) (v := 0) dX5_wiresWith_2 (by decide) ?_
  refine vc_Vi (pc := 3) (c_X5_wholeBy l G _ hC hn3 (Or.inl ⟨rfl, rfl⟩)) mw_M_X5_61 my_X5_wholeBy mm_rv_X5 ⟨by decide, by decide⟩ rfl rfl (Nat.le_of_ble_eq_true rfl) dX5_wiresWith_3 (fun r3 S3 h3 => ?_)
  obtain ⟨qS3, h3⟩ := h3
  replace qS3 := qS3.symm
  subst qS3
  refine vc_Vv (pc := 6) (c_X5_layTasks l G _ (C := C) (g := 5) hws (by rw [h3]; exact msk_b hC)) mw_M_X5_65 my_X5_layTasks mm_rv_X5 ⟨by decide, by decide⟩ rfl rfl (Nat.le_of_ble_eq_true rfl) dX5_wiresWith_6 (fun S6 h6 => ?_)
  obtain ⟨T, hT, eS6⟩ := h6
  subst eS6
  have h8 : mR S 14 T 8 = S 8 := mR_o S T (by decide)
  refine vv_iconst (pc := 9) (v := 0) dX5_wiresWith_9 (by decide) ?_
  refine vv_topi (fun x2p10 e2p10 => ?_)
  refine vv_istore_n (pc := 10) (i := 2) (ls' := [(2, .int x2p10), (0, .ref (gad G 7)), (1, .int x1)]) dX5_wiresWith_10 rfl (by decide) rfl ?_
  refine vv_iconst (pc := 11) (v := 0) dX5_wiresWith_11 (by decide) ?_
  refine vv_topi (fun x3p12 e3p12 => ?_)
  refine vv_istore_n (pc := 12) (i := 3) (ls' := [(3, .int x3p12), (2, .int x2p10), (0, .ref (gad G 7)), (1, .int x1)]) dX5_wiresWith_12 rfl (by decide) rfl ?_
  have lp13 : ∀ (n : Nat) (k : Nat) (x2 x3 : Int32), 9 ≤ n + k → k ≤ C → x3 = nI k → x2 = sp_cnt (wwg C (S 8) x1) k → mm_V l G RX5 cX5_wiresWith 5 (some .int) (mm_rm 3 75) 0 0 (fun _ => True) (fun _ => mm_F G) (mm_Qf G (mm_Qi G (fun r S2 => rm S S2 ∧ r = sp_cnt (wwg C (S 8) x1) C))) (mR S 14 T) 13 [(0, .ref (gad G 7)), (1, .int x1), (2, .int x2), (3, .int x3)] [] := by
    intro n
    induction n with
    | zero =>
      intro k x2 x3 hn hkl e3 e2
      exact absurd hn (by omega)
    | succ n ih =>
      intro k x2 x3 hn hkl e3 e2
      refine vv_iload_n (pc := 13) 3 dX5_wiresWith_13 rfl rfl ?_
      refine vv_aload_n (pc := 14) 0 dX5_wiresWith_14 rfl rfl ?_
      refine vg_X5_now (pc := 15) mw_F_X5_7 dX5_wiresWith_15 ?_
      refine vv_iconst (pc := 18) (v := 3) dX5_wiresWith_18 (by decide) ?_
      refine vl_8 (pc := 19) (vp_in_nI (n := 3) (by decide) (by decide)) dX5_wiresWith_19 ?_
      rw [show mR S 14 T 8 (Int32.toNatClampNeg 3) = nI C from by rw [h8]; exact hn3]
      refine vv_icmp_ge (pc := 20) (tgt := 82) dX5_wiresWith_20 (by decide) (fun c20 => ?_) (fun c20 => ?_)
      -- t@20 path L13t
      · refine vv_iload_n (pc := 82) 2 dX5_wiresWith_82 rfl rfl ?_
        refine vr_i (pc := 83) dX5_wiresWith_83 ?_
        have hkC := sp_geN (by omega) hkl e3 c20
        subst hkC
        exact ⟨rm_T S T, e2⟩
      -- f@20 path L13f
      · have hkC : k < C := sp_ltN (by omega) hkl e3 c20
        have hk8 : k < 8 := by omega
        refine vv_iload_n (pc := 23) 1 dX5_wiresWith_23 rfl rfl ?_
        refine vv_if_ne (pc := 24) (tgt := 43) dX5_wiresWith_24 (by decide) (fun c24 => ?_) (fun c24 => ?_)
        -- t@24 path L13ft
        · refine vv_iload_n (pc := 43) 1 dX5_wiresWith_43 rfl rfl ?_
          refine vv_iconst (pc := 44) (v := 1) dX5_wiresWith_44 (by decide) ?_
          refine vv_icmp_ne (pc := 45) (tgt := 56) dX5_wiresWith_45 (by decide) (fun c45 => ?_) (fun c45 => ?_)
          -- t@45 path L13ftt
          · refine vv_aload_n (pc := 56) 0 dX5_wiresWith_56 rfl rfl ?_
            refine vv_iload_n (pc := 57) 3 dX5_wiresWith_57 rfl rfl ?_
            refine vc_Vi (pc := 58) (c_X5_isTight l G _ e3 hk8) mw_M_X5_118 my_X5_isTight mm_rv_X5 ⟨by decide, by decide⟩ rfl rfl (Nat.le_of_ble_eq_true rfl) dX5_wiresWith_58 (fun r58 S58 h58 => ?_)
            obtain ⟨qS58, h58⟩ := h58
            replace qS58 := qS58.symm
            subst qS58
            refine vv_topi (fun x4p61 e4p61 => ?_)
            refine vv_istore (pc := 61) (i := 4) (ls' := [(4, .int x4p61), (0, .ref (gad G 7)), (1, .int x1), (2, .int x2), (3, .int x3)]) dX5_wiresWith_61 (by decide) rfl ?_
            refine vv_iload_n (pc := 63) 3 dX5_wiresWith_63 rfl rfl ?_
            refine vv_iload (pc := 64) 0 dX5_wiresWith_64 rfl ?_
            refine vv_if_eq (pc := 66) (tgt := 73) dX5_wiresWith_66 (by decide) (fun c66 => ?_) (fun c66 => ?_)
            -- t@66 path L13fttt
            · refine vv_iconst (pc := 73) (v := 0) dX5_wiresWith_73 (by decide) ?_
              refine vv_iadd (pc := 74) dX5_wiresWith_74 ?_
              refine vv_topi (fun x2p75 e2p75 => ?_)
              refine vv_istore_n (pc := 75) (i := 2) (ls' := [(2, .int x2p75), (4, .int x4p61), (0, .ref (gad G 7)), (1, .int x1), (3, .int x3)]) dX5_wiresWith_75 rfl (by decide) rfl ?_
              have hv : wwg C (S 8) x1 k = 0 := by
                rw [e4p61, h58, mR_s, h8, hT _ hkC] at c66
                unfold wwg
                rw [if_neg c24, if_neg c45]
                unfold sp_g2
                exact if_neg (fun h => i01.mp c66 ⟨h.1, h.2.2, h.2.1⟩)
              have he : x2p75 = sp_cnt (wwg C (S 8) x1) (k + 1) := by rw [sp_cnt, hv, e2p75, e2]
              obtain ⟨x3p76, e3p76⟩ : ∃ y : Int32, y = x3 + 1 := ⟨_, rfl⟩
              refine vv_iinc (pc := 76) (q := 4) (v := x3p76) (ls' := [(3, .int x3p76), (2, .int x2p75), (4, .int x4p61), (0, .ref (gad G 7)), (1, .int x1)]) dX5_wiresWith_76 rfl (by rw [e3p76]; rfl) (by decide) rfl ?_
              refine vv_goto (pc := 79) (tgt := 13) dX5_wiresWith_79 (by decide) ?_
              refine vv_sub [3, 4, 1, 0] (ls' := [(0, _), (1, _), (2, _), (3, _)]) rfl ?_
              exact ih (k + 1) _ _ (by omega) (by omega) (by rw [e3p76, e3, nI_1]) he
            -- f@66 path L13fttf
            · refine vv_iconst (pc := 69) (v := 1) dX5_wiresWith_69 (by decide) ?_
              refine vv_goto (pc := 70) (tgt := 74) dX5_wiresWith_70 (by decide) ?_
              refine vv_iadd (pc := 74) dX5_wiresWith_74 ?_
              refine vv_topi (fun x2p75 e2p75 => ?_)
              refine vv_istore_n (pc := 75) (i := 2) (ls' := [(2, .int x2p75), (4, .int x4p61), (0, .ref (gad G 7)), (1, .int x1), (3, .int x3)]) dX5_wiresWith_75 rfl (by decide) rfl ?_
              have hv : wwg C (S 8) x1 k = 1 := by
                rw [e4p61, h58, mR_s, h8, hT _ hkC] at c66
                unfold wwg
                rw [if_neg c24, if_neg c45]
                unfold sp_g2
                exact if_pos (And.imp_right And.symm (Classical.not_not.mp (fun h => c66 (i01.mpr h))))
              have he : x2p75 = sp_cnt (wwg C (S 8) x1) (k + 1) := by rw [sp_cnt, hv, e2p75, e2]
              obtain ⟨x3p76, e3p76⟩ : ∃ y : Int32, y = x3 + 1 := ⟨_, rfl⟩
              refine vv_iinc (pc := 76) (q := 4) (v := x3p76) (ls' := [(3, .int x3p76), (2, .int x2p75), (4, .int x4p61), (0, .ref (gad G 7)), (1, .int x1)]) dX5_wiresWith_76 rfl (by rw [e3p76]; rfl) (by decide) rfl ?_
              refine vv_goto (pc := 79) (tgt := 13) dX5_wiresWith_79 (by decide) ?_
              refine vv_sub [3, 4, 1, 0] (ls' := [(0, _), (1, _), (2, _), (3, _)]) rfl ?_
              exact ih (k + 1) _ _ (by omega) (by omega) (by rw [e3p76, e3, nI_1]) he
          -- f@45 path L13ftf
          · refine vv_aload_n (pc := 48) 0 dX5_wiresWith_48 rfl rfl ?_
            refine vv_iload_n (pc := 49) 3 dX5_wiresWith_49 rfl rfl ?_
            refine vc_Vi (pc := 50) (c_X5_isSlack l G _ e3 hk8) mw_M_X5_115 my_X5_isSlack mm_rv_X5 ⟨by decide, by decide⟩ rfl rfl (Nat.le_of_ble_eq_true rfl) dX5_wiresWith_50 (fun r50 S50 h50 => ?_)
            obtain ⟨qS50, h50⟩ := h50
            replace qS50 := qS50.symm
            subst qS50
            refine vv_goto (pc := 53) (tgt := 61) dX5_wiresWith_53 (by decide) ?_
            refine vv_topi (fun x4p61 e4p61 => ?_)
            refine vv_istore (pc := 61) (i := 4) (ls' := [(4, .int x4p61), (0, .ref (gad G 7)), (1, .int x1), (2, .int x2), (3, .int x3)]) dX5_wiresWith_61 (by decide) rfl ?_
            refine vv_iload_n (pc := 63) 3 dX5_wiresWith_63 rfl rfl ?_
            refine vv_iload (pc := 64) 0 dX5_wiresWith_64 rfl ?_
            refine vv_if_eq (pc := 66) (tgt := 73) dX5_wiresWith_66 (by decide) (fun c66 => ?_) (fun c66 => ?_)
            -- t@66 path L13ftft
            · refine vv_iconst (pc := 73) (v := 0) dX5_wiresWith_73 (by decide) ?_
              refine vv_iadd (pc := 74) dX5_wiresWith_74 ?_
              refine vv_topi (fun x2p75 e2p75 => ?_)
              refine vv_istore_n (pc := 75) (i := 2) (ls' := [(2, .int x2p75), (4, .int x4p61), (0, .ref (gad G 7)), (1, .int x1), (3, .int x3)]) dX5_wiresWith_75 rfl (by decide) rfl ?_
              have hv : wwg C (S 8) x1 k = 0 := by
                rw [e4p61, h50, mR_s, h8, hT _ hkC] at c66
                unfold wwg
                rw [if_neg c24, if_pos (c45)]
                unfold sp_g1
                exact if_neg (i01.mp c66)
              have he : x2p75 = sp_cnt (wwg C (S 8) x1) (k + 1) := by rw [sp_cnt, hv, e2p75, e2]
              obtain ⟨x3p76, e3p76⟩ : ∃ y : Int32, y = x3 + 1 := ⟨_, rfl⟩
              refine vv_iinc (pc := 76) (q := 4) (v := x3p76) (ls' := [(3, .int x3p76), (2, .int x2p75), (4, .int x4p61), (0, .ref (gad G 7)), (1, .int x1)]) dX5_wiresWith_76 rfl (by rw [e3p76]; rfl) (by decide) rfl ?_
              refine vv_goto (pc := 79) (tgt := 13) dX5_wiresWith_79 (by decide) ?_
              refine vv_sub [3, 4, 1, 0] (ls' := [(0, _), (1, _), (2, _), (3, _)]) rfl ?_
              exact ih (k + 1) _ _ (by omega) (by omega) (by rw [e3p76, e3, nI_1]) he
            -- f@66 path L13ftff
            · refine vv_iconst (pc := 69) (v := 1) dX5_wiresWith_69 (by decide) ?_
              refine vv_goto (pc := 70) (tgt := 74) dX5_wiresWith_70 (by decide) ?_
              refine vv_iadd (pc := 74) dX5_wiresWith_74 ?_
              refine vv_topi (fun x2p75 e2p75 => ?_)
              refine vv_istore_n (pc := 75) (i := 2) (ls' := [(2, .int x2p75), (4, .int x4p61), (0, .ref (gad G 7)), (1, .int x1), (3, .int x3)]) dX5_wiresWith_75 rfl (by decide) rfl ?_
              have hv : wwg C (S 8) x1 k = 1 := by
                rw [e4p61, h50, mR_s, h8, hT _ hkC] at c66
                unfold wwg
                rw [if_neg c24, if_pos (c45)]
                unfold sp_g1
                exact if_pos (Classical.not_not.mp (fun h => c66 (i01.mpr h)))
              have he : x2p75 = sp_cnt (wwg C (S 8) x1) (k + 1) := by rw [sp_cnt, hv, e2p75, e2]
              obtain ⟨x3p76, e3p76⟩ : ∃ y : Int32, y = x3 + 1 := ⟨_, rfl⟩
              refine vv_iinc (pc := 76) (q := 4) (v := x3p76) (ls' := [(3, .int x3p76), (2, .int x2p75), (4, .int x4p61), (0, .ref (gad G 7)), (1, .int x1)]) dX5_wiresWith_76 rfl (by rw [e3p76]; rfl) (by decide) rfl ?_
              refine vv_goto (pc := 79) (tgt := 13) dX5_wiresWith_79 (by decide) ?_
              refine vv_sub [3, 4, 1, 0] (ls' := [(0, _), (1, _), (2, _), (3, _)]) rfl ?_
              exact ih (k + 1) _ _ (by omega) (by omega) (by rw [e3p76, e3, nI_1]) he
        -- f@24 path L13ff
        · refine vv_aload_n (pc := 27) 0 dX5_wiresWith_27 rfl rfl ?_
          refine vv_iload_n (pc := 28) 3 dX5_wiresWith_28 rfl rfl ?_
          refine vc_Vi (pc := 29) (c_X5_isWhole l G _ e3 hk8) mw_M_X5_69 my_X5_isWhole mm_rv_X5 ⟨by decide, by decide⟩ rfl rfl (Nat.le_of_ble_eq_true rfl) dX5_wiresWith_29 (fun r29 S29 h29 => ?_)
          obtain ⟨qS29, h29⟩ := h29
          replace qS29 := qS29.symm
          subst qS29
          refine vv_if_ne (pc := 32) (tgt := 39) dX5_wiresWith_32 (by decide) (fun c32 => ?_) (fun c32 => ?_)
          -- t@32 path L13fft
          · refine vv_iconst (pc := 39) (v := 0) dX5_wiresWith_39 (by decide) ?_
            refine vv_goto (pc := 40) (tgt := 61) dX5_wiresWith_40 (by decide) ?_
            refine vv_topi (fun x4p61 e4p61 => ?_)
            refine vv_istore (pc := 61) (i := 4) (ls' := [(4, .int x4p61), (0, .ref (gad G 7)), (1, .int x1), (2, .int x2), (3, .int x3)]) dX5_wiresWith_61 (by decide) rfl ?_
            refine vv_iload_n (pc := 63) 3 dX5_wiresWith_63 rfl rfl ?_
            refine vv_iload (pc := 64) 0 dX5_wiresWith_64 rfl ?_
            refine vv_if_eq (pc := 66) (tgt := 73) dX5_wiresWith_66 (by decide) (fun c66 => ?_) (fun c66 => ?_)
            -- t@66 path L13fftt
            · refine vv_iconst (pc := 73) (v := 0) dX5_wiresWith_73 (by decide) ?_
              refine vv_iadd (pc := 74) dX5_wiresWith_74 ?_
              refine vv_topi (fun x2p75 e2p75 => ?_)
              refine vv_istore_n (pc := 75) (i := 2) (ls' := [(2, .int x2p75), (4, .int x4p61), (0, .ref (gad G 7)), (1, .int x1), (3, .int x3)]) dX5_wiresWith_75 rfl (by decide) rfl ?_
              have hv : wwg C (S 8) x1 k = 0 := by
                unfold wwg
                rw [h29, h8, i01] at c32
                rw [if_pos (c24), if_pos (Classical.not_not.mp c32)]
              have he : x2p75 = sp_cnt (wwg C (S 8) x1) (k + 1) := by rw [sp_cnt, hv, e2p75, e2]
              obtain ⟨x3p76, e3p76⟩ : ∃ y : Int32, y = x3 + 1 := ⟨_, rfl⟩
              refine vv_iinc (pc := 76) (q := 4) (v := x3p76) (ls' := [(3, .int x3p76), (2, .int x2p75), (4, .int x4p61), (0, .ref (gad G 7)), (1, .int x1)]) dX5_wiresWith_76 rfl (by rw [e3p76]; rfl) (by decide) rfl ?_
              refine vv_goto (pc := 79) (tgt := 13) dX5_wiresWith_79 (by decide) ?_
              refine vv_sub [3, 4, 1, 0] (ls' := [(0, _), (1, _), (2, _), (3, _)]) rfl ?_
              exact ih (k + 1) _ _ (by omega) (by omega) (by rw [e3p76, e3, nI_1]) he
            -- f@66 path L13fftf
            · exact absurd e4p61 c66
          -- f@32 path L13fff
          · refine vv_iconst (pc := 35) (v := 1) dX5_wiresWith_35 (by decide) ?_
            refine vv_goto (pc := 36) (tgt := 61) dX5_wiresWith_36 (by decide) ?_
            refine vv_topi (fun x4p61 e4p61 => ?_)
            refine vv_istore (pc := 61) (i := 4) (ls' := [(4, .int x4p61), (0, .ref (gad G 7)), (1, .int x1), (2, .int x2), (3, .int x3)]) dX5_wiresWith_61 (by decide) rfl ?_
            refine vv_iload_n (pc := 63) 3 dX5_wiresWith_63 rfl rfl ?_
            refine vv_iload (pc := 64) 0 dX5_wiresWith_64 rfl ?_
            refine vv_if_eq (pc := 66) (tgt := 73) dX5_wiresWith_66 (by decide) (fun c66 => ?_) (fun c66 => ?_)
            -- t@66 path L13ffft
            · exact absurd (e4p61.symm.trans c66) (by decide)
            -- f@66 path L13ffff
            · refine vv_iconst (pc := 69) (v := 1) dX5_wiresWith_69 (by decide) ?_
              refine vv_goto (pc := 70) (tgt := 74) dX5_wiresWith_70 (by decide) ?_
              refine vv_iadd (pc := 74) dX5_wiresWith_74 ?_
              refine vv_topi (fun x2p75 e2p75 => ?_)
              refine vv_istore_n (pc := 75) (i := 2) (ls' := [(2, .int x2p75), (4, .int x4p61), (0, .ref (gad G 7)), (1, .int x1), (3, .int x3)]) dX5_wiresWith_75 rfl (by decide) rfl ?_
              have hv : wwg C (S 8) x1 k = 1 := by
                unfold wwg
                rw [h29, h8, i01] at c32
                rw [if_pos (c24), if_neg c32]
              have he : x2p75 = sp_cnt (wwg C (S 8) x1) (k + 1) := by rw [sp_cnt, hv, e2p75, e2]
              obtain ⟨x3p76, e3p76⟩ : ∃ y : Int32, y = x3 + 1 := ⟨_, rfl⟩
              refine vv_iinc (pc := 76) (q := 4) (v := x3p76) (ls' := [(3, .int x3p76), (2, .int x2p75), (4, .int x4p61), (0, .ref (gad G 7)), (1, .int x1)]) dX5_wiresWith_76 rfl (by rw [e3p76]; rfl) (by decide) rfl ?_
              refine vv_goto (pc := 79) (tgt := 13) dX5_wiresWith_79 (by decide) ?_
              refine vv_sub [3, 4, 1, 0] (ls' := [(0, _), (1, _), (2, _), (3, _)]) rfl ?_
              exact ih (k + 1) _ _ (by omega) (by omega) (by rw [e3p76, e3, nI_1]) he
  refine vv_sub [2, 3, 1, 0] (ls' := [(0, _), (1, _), (2, _), (3, _)]) rfl ?_
  exact lp13 9 0 x2p10 x3p12 (by omega) (Nat.zero_le _) e3p12 e2p10
set_option maxRecDepth 100000 in
set_option maxHeartbeats 4000000 in
theorem c_X5_count (l : Launch) (G : gG) {q : St} (S : Mem) (hg : gd q) (hz : q.2 = S 8) (x1 : Int32) : mm_C l G yX5_count cX5_count 2 (some .int) (mm_rm 4 99) [.ref (gad G 7), .int x1] S (mm_Qi G (fun r S2 => rm S S2 ∧ r = rd_ct q (S 7 7) (S 7 3) x1)) := by
  obtain ⟨C, z⟩ := q
  dsimp only at hz
  subst hz
  obtain ⟨hwf, hcalm⟩ := id hg
  dsimp only at hwf hcalm
  obtain ⟨hC, hn3, hat, hinj⟩ := id hwf.1
  refine mm_ofV (own := RX5) (by decide +kernel) rfl (Nat.le_of_ble_eq_true rfl) (ls0 := [(0, .ref (gad G 7)), (1, .int x1)]) rfl ?_
  refine vv_iload_n (pc := 0) 1 dX5_count_0 rfl rfl ?_
  refine vv_topi (fun sw1 esw1 => ?_)
  by_cases qsw1 : sw1.toInt < 0 ∨ 10 < sw1.toInt
  · refine vv_tableOut (pc := 1) (tgt := 127) dX5_count_1 qsw1 (by decide) ?_
    refine vv_iload_n (pc := 127) 1 dX5_count_127 rfl rfl ?_
    refine vv_bipush (pc := 128) (v := 11) dX5_count_128 (by decide) ?_
    refine vv_bipush (pc := 130) (v := 12) dX5_count_130 (by decide) ?_
    refine vc_Si (pc := 132) (c_X5_in l G _ _ _ _) mw_M_X5_43 my_X5_in ⟨by decide, by decide⟩ rfl rfl (Nat.le_of_ble_eq_true rfl) dX5_count_132 (fun r132 S132 h132 => ?_)
    obtain ⟨qS132, h132⟩ := h132
    replace qS132 := qS132.symm
    subst qS132
    refine vv_if_eq (pc := 135) (tgt := 150) dX5_count_135 (by decide) (fun c135 => ?_) (fun c135 => ?_)
    -- t@135 path dt
    · refine vv_bipush (pc := 150) (v := (-2)) dX5_count_150 (by decide) ?_
      refine vr_i (pc := 152) dX5_count_152 ?_
      refine ⟨fun _ _ _ => rfl, ?_⟩
      have hk : ∀ j : Int32, 0 ≤ j.toInt → j.toInt ≤ 12 → x1 ≠ j := fun j h0 h1 e => by
        rw [h132, e] at c135
        rw [esw1, e] at qsw1
        rw [sp_in_iff, show (11 : Int32).toInt = 11 by decide, show (12 : Int32).toInt = 12 by decide] at c135
        omega
      unfold rd_ct
      rw [if_neg (hk 0 (by decide) (by decide))]
      rw [if_neg (hk 1 (by decide) (by decide))]
      rw [if_neg (hk 2 (by decide) (by decide))]
      rw [if_neg (hk 3 (by decide) (by decide))]
      rw [if_neg (hk 4 (by decide) (by decide))]
      rw [if_neg (hk 5 (by decide) (by decide))]
      rw [if_neg (hk 6 (by decide) (by decide))]
      rw [if_neg (hk 7 (by decide) (by decide))]
      rw [if_neg (hk 8 (by decide) (by decide))]
      rw [if_neg (hk 9 (by decide) (by decide))]
      rw [if_neg (hk 10 (by decide) (by decide))]
      rw [if_neg (hk 11 (by decide) (by decide))]
      rw [if_neg (hk 12 (by decide) (by decide))]
    -- f@135 path df
    · have hb := sp_in_1 (by rw [← h132]; exact c135)
      rw [show (11 : Int32).toInt = 11 by decide, show (12 : Int32).toInt = 12 by decide] at hb
      have hcl := sp_cl (x := x1) (by omega)
      obtain ⟨k, hk, hkx⟩ : ∃ k, k < 2 ∧ x1 = nI (11 + k) := ⟨x1.toNatClampNeg - 11, by omega, by rw [show 11 + (x1.toNatClampNeg - 11) = x1.toNatClampNeg by omega]; exact sp_nI (by omega)⟩
      refine vv_aload_n (pc := 138) 0 dX5_count_138 rfl rfl ?_
      refine vg_X5_now (pc := 139) mw_F_X5_7 dX5_count_139 ?_
      refine vv_iload_n (pc := 142) 1 dX5_count_142 rfl rfl ?_
      refine vv_bipush (pc := 143) (v := 11) dX5_count_143 (by decide) ?_
      refine vv_isub (pc := 145) dX5_count_145 ?_
      rw [show x1 - 11 = nI k from by rw [hkx]; exact n_11 k hk]
      refine vl_8 (pc := 146) (vp_in_nI (by omega) (by decide)) dX5_count_146 ?_
      refine vv_goto (pc := 147) (tgt := 152) dX5_count_147 (by decide) ?_
      refine vr_i (pc := 152) dX5_count_152 ?_
      refine ⟨fun _ _ _ => rfl, ?_⟩
      rw [cl_n (by omega)]
      subst hkx
      have hkk : k = 0 ∨ k = 1 := by omega
      rcases hkk with rfl | rfl <;> rfl
  · have hsw1 : sw1.toInt = 0 ∨ sw1.toInt = 1 ∨ sw1.toInt = 2 ∨ sw1.toInt = 3 ∨ sw1.toInt = 4 ∨ sw1.toInt = 5 ∨ sw1.toInt = 6 ∨ sw1.toInt = 7 ∨ sw1.toInt = 8 ∨ sw1.toInt = 9 ∨ sw1.toInt = 10 := by omega
    rcases hsw1 with ksw1 | ksw1 | ksw1 | ksw1 | ksw1 | ksw1 | ksw1 | ksw1 | ksw1 | ksw1 | ksw1
    · refine vv_tableIn (pc := 1) (off := 59) (tgt := 60) dX5_count_1 (by omega) (by omega) (by rw [ksw1]; rfl) (by decide) ?_
      -- path <0>
      have hk : x1 = 0 := i32_of (n := 0) 0 (by rw [← esw1]; exact ksw1) (by decide)
      subst hk
      refine vv_aload_n (pc := 60) 0 dX5_count_60 rfl rfl ?_
      refine vg_X5_now (pc := 61) mw_F_X5_7 dX5_count_61 ?_
      refine vv_iconst (pc := 64) (v := 2) dX5_count_64 (by decide) ?_
      refine vv_iload_n (pc := 65) 1 dX5_count_65 rfl rfl ?_
      refine vv_iadd (pc := 66) dX5_count_66 ?_
      rw [show (2 : Int32) + 0 = 2 by decide]
      refine vl_8 (pc := 67) (vp_in_nI (n := 2) (by decide) (by decide)) dX5_count_67 ?_
      refine vr_i (pc := 68) dX5_count_68 ?_
      refine ⟨fun _ _ _ => rfl, ?_⟩
      show _ = S 8 2
      rfl
    · refine vv_tableIn (pc := 1) (off := 59) (tgt := 60) dX5_count_1 (by omega) (by omega) (by rw [ksw1]; rfl) (by decide) ?_
      -- path <1>
      have hk : x1 = 1 := i32_of (n := 1) 1 (by rw [← esw1]; exact ksw1) (by decide)
      subst hk
      refine vv_aload_n (pc := 60) 0 dX5_count_60 rfl rfl ?_
      refine vg_X5_now (pc := 61) mw_F_X5_7 dX5_count_61 ?_
      refine vv_iconst (pc := 64) (v := 2) dX5_count_64 (by decide) ?_
      refine vv_iload_n (pc := 65) 1 dX5_count_65 rfl rfl ?_
      refine vv_iadd (pc := 66) dX5_count_66 ?_
      rw [show (2 : Int32) + 1 = 3 by decide]
      refine vl_8 (pc := 67) (vp_in_nI (n := 3) (by decide) (by decide)) dX5_count_67 ?_
      refine vr_i (pc := 68) dX5_count_68 ?_
      refine ⟨fun _ _ _ => rfl, ?_⟩
      show _ = S 8 3
      rfl
    · refine vv_tableIn (pc := 1) (off := 68) (tgt := 69) dX5_count_1 (by omega) (by omega) (by rw [ksw1]; rfl) (by decide) ?_
      -- path <2>
      refine vv_aload_n (pc := 69) 0 dX5_count_69 rfl rfl ?_
      refine vv_iconst (pc := 70) (v := 0) dX5_count_70 (by decide) ?_
      refine vc_Vi (pc := 71) (c_X5_wiresWith l G _ hwf.1 _) mw_M_X5_127 my_X5_wiresWith mm_rv_X5 ⟨by decide, by decide⟩ rfl rfl (Nat.le_of_ble_eq_true rfl) dX5_count_71 (fun r71 S71 h71 => ?_)
      refine vr_i (pc := 74) dX5_count_74 ?_
      have hk : x1 = 2 := i32_of (n := 2) 2 (by rw [← esw1]; exact ksw1) (by decide)
      subst hk
      refine ⟨h71.1, ?_⟩
      show _ = S 8 3 - sp_cnt (sp_g0 (S 8)) C
      rw [h71.2, cnt_2 hn3]
    · refine vv_tableIn (pc := 1) (off := 74) (tgt := 75) dX5_count_1 (by omega) (by omega) (by rw [ksw1]; rfl) (by decide) ?_
      -- path <3>
      have hk : x1 = 3 := i32_of (n := 3) 3 (by rw [← esw1]; exact ksw1) (by decide)
      subst hk
      refine vv_aload_n (pc := 75) 0 dX5_count_75 rfl rfl ?_
      refine vg_X5_now (pc := 76) mw_F_X5_7 dX5_count_76 ?_
      refine vv_iconst (pc := 79) (v := 4) dX5_count_79 (by decide) ?_
      refine vv_iload_n (pc := 80) 1 dX5_count_80 rfl rfl ?_
      refine vv_iadd (pc := 81) dX5_count_81 ?_
      refine vv_iconst (pc := 82) (v := 3) dX5_count_82 (by decide) ?_
      refine vv_isub (pc := 83) dX5_count_83 ?_
      rw [show (4 : Int32) + 3 - 3 = 4 by decide]
      refine vl_8 (pc := 84) (vp_in_nI (n := 4) (by decide) (by decide)) dX5_count_84 ?_
      refine vr_i (pc := 85) dX5_count_85 ?_
      refine ⟨fun _ _ _ => rfl, ?_⟩
      show _ = S 8 4
      rfl
    · refine vv_tableIn (pc := 1) (off := 74) (tgt := 75) dX5_count_1 (by omega) (by omega) (by rw [ksw1]; rfl) (by decide) ?_
      -- path <4>
      have hk : x1 = 4 := i32_of (n := 4) 4 (by rw [← esw1]; exact ksw1) (by decide)
      subst hk
      refine vv_aload_n (pc := 75) 0 dX5_count_75 rfl rfl ?_
      refine vg_X5_now (pc := 76) mw_F_X5_7 dX5_count_76 ?_
      refine vv_iconst (pc := 79) (v := 4) dX5_count_79 (by decide) ?_
      refine vv_iload_n (pc := 80) 1 dX5_count_80 rfl rfl ?_
      refine vv_iadd (pc := 81) dX5_count_81 ?_
      refine vv_iconst (pc := 82) (v := 3) dX5_count_82 (by decide) ?_
      refine vv_isub (pc := 83) dX5_count_83 ?_
      rw [show (4 : Int32) + 4 - 3 = 5 by decide]
      refine vl_8 (pc := 84) (vp_in_nI (n := 5) (by decide) (by decide)) dX5_count_84 ?_
      refine vr_i (pc := 85) dX5_count_85 ?_
      refine ⟨fun _ _ _ => rfl, ?_⟩
      show _ = S 8 5
      rfl
    · refine vv_tableIn (pc := 1) (off := 85) (tgt := 86) dX5_count_1 (by omega) (by omega) (by rw [ksw1]; rfl) (by decide) ?_
      -- path <5>
      refine vv_aload_n (pc := 86) 0 dX5_count_86 rfl rfl ?_
      refine vc_Vi (pc := 87) (c_X5_loads l G _) mw_M_X5_130 my_X5_loads mm_rv_X5 ⟨by decide, by decide⟩ rfl rfl (Nat.le_of_ble_eq_true rfl) dX5_count_87 (fun r87 S87 h87 => ?_)
      obtain ⟨qS87, h87⟩ := h87
      replace qS87 := qS87.symm
      subst qS87
      refine vr_i (pc := 90) dX5_count_90 ?_
      have hk : x1 = 5 := i32_of (n := 5) 5 (by rw [← esw1]; exact ksw1) (by decide)
      subst hk
      refine ⟨fun _ _ _ => rfl, ?_⟩
      show _ = sp_sum (S 8) 20
      exact h87
    · refine vv_tableIn (pc := 1) (off := 90) (tgt := 91) dX5_count_1 (by omega) (by omega) (by rw [ksw1]; rfl) (by decide) ?_
      -- path <6>
      refine vv_aload_n (pc := 91) 0 dX5_count_91 rfl rfl ?_
      refine vv_iconst (pc := 92) (v := 0) dX5_count_92 (by decide) ?_
      refine vc_Vi (pc := 93) (c_X5_wholeBy l G _ hC hn3 (Or.inl ⟨rfl, rfl⟩)) mw_M_X5_61 my_X5_wholeBy mm_rv_X5 ⟨by decide, by decide⟩ rfl rfl (Nat.le_of_ble_eq_true rfl) dX5_count_93 (fun r93 S93 h93 => ?_)
      obtain ⟨qS93, h93⟩ := h93
      replace qS93 := qS93.symm
      subst qS93
      refine vv_if_ne (pc := 96) (tgt := 106) dX5_count_96 (by decide) (fun c96 => ?_) (fun c96 => ?_)
      -- t@96 path <6>t
      · refine vv_iconst (pc := 106) (v := 0) dX5_count_106 (by decide) ?_
        refine vr_i (pc := 107) dX5_count_107 ?_
        have hk : x1 = 6 := i32_of (n := 6) 6 (by rw [← esw1]; exact ksw1) (by decide)
        subst hk
        refine ⟨fun _ _ _ => rfl, ?_⟩
        show _ = (if sp_cnt (sp_g0 (S 8)) C = 0 then sp_sum (S 8) 20 else 0)
        exact (if_neg (fun h => c96 (by rw [h93]; exact (cnt_6 hC).mpr h))).symm
      -- f@96 path <6>f
      · refine vv_aload_n (pc := 99) 0 dX5_count_99 rfl rfl ?_
        refine vc_Vi (pc := 100) (c_X5_loads l G _) mw_M_X5_130 my_X5_loads mm_rv_X5 ⟨by decide, by decide⟩ rfl rfl (Nat.le_of_ble_eq_true rfl) dX5_count_100 (fun r100 S100 h100 => ?_)
        obtain ⟨qS100, h100⟩ := h100
        replace qS100 := qS100.symm
        subst qS100
        refine vv_goto (pc := 103) (tgt := 107) dX5_count_103 (by decide) ?_
        refine vr_i (pc := 107) dX5_count_107 ?_
        have hk : x1 = 6 := i32_of (n := 6) 6 (by rw [← esw1]; exact ksw1) (by decide)
        subst hk
        refine ⟨fun _ _ _ => rfl, ?_⟩
        show _ = (if sp_cnt (sp_g0 (S 8)) C = 0 then sp_sum (S 8) 20 else 0)
        rw [h100]
        exact (if_pos ((cnt_6 hC).mp (by rw [← h93]; exact c96))).symm
    · refine vv_tableIn (pc := 1) (off := 107) (tgt := 108) dX5_count_1 (by omega) (by omega) (by rw [ksw1]; rfl) (by decide) ?_
      -- path <7>
      have hk : x1 = 7 := i32_of (n := 7) 7 (by rw [← esw1]; exact ksw1) (by decide)
      subst hk
      refine vv_aload_n (pc := 108) 0 dX5_count_108 rfl rfl ?_
      refine vv_iload_n (pc := 109) 1 dX5_count_109 rfl rfl ?_
      refine vv_bipush (pc := 110) (v := 6) dX5_count_110 (by decide) ?_
      refine vv_isub (pc := 112) dX5_count_112 ?_
      refine vc_Vi (pc := 113) (c_X5_wiresWith l G _ hwf.1 _) mw_M_X5_127 my_X5_wiresWith mm_rv_X5 ⟨by decide, by decide⟩ rfl rfl (Nat.le_of_ble_eq_true rfl) dX5_count_113 (fun r113 S113 h113 => ?_)
      refine vr_i (pc := 116) dX5_count_116 ?_
      refine ⟨h113.1, ?_⟩
      show _ = sp_cnt (sp_g1 (S 8) C) C
      rw [h113.2, cnt_7]
    · refine vv_tableIn (pc := 1) (off := 107) (tgt := 108) dX5_count_1 (by omega) (by omega) (by rw [ksw1]; rfl) (by decide) ?_
      -- path <8>
      have hk : x1 = 8 := i32_of (n := 8) 8 (by rw [← esw1]; exact ksw1) (by decide)
      subst hk
      refine vv_aload_n (pc := 108) 0 dX5_count_108 rfl rfl ?_
      refine vv_iload_n (pc := 109) 1 dX5_count_109 rfl rfl ?_
      refine vv_bipush (pc := 110) (v := 6) dX5_count_110 (by decide) ?_
      refine vv_isub (pc := 112) dX5_count_112 ?_
      refine vc_Vi (pc := 113) (c_X5_wiresWith l G _ hwf.1 _) mw_M_X5_127 my_X5_wiresWith mm_rv_X5 ⟨by decide, by decide⟩ rfl rfl (Nat.le_of_ble_eq_true rfl) dX5_count_113 (fun r113 S113 h113 => ?_)
      refine vr_i (pc := 116) dX5_count_116 ?_
      refine ⟨h113.1, ?_⟩
      show _ = sp_cnt (sp_g2 (S 8) C) C
      rw [h113.2, cnt_8]
    · refine vv_tableIn (pc := 1) (off := 116) (tgt := 117) dX5_count_1 (by omega) (by omega) (by rw [ksw1]; rfl) (by decide) ?_
      -- path <9>
      refine vv_aload_n (pc := 117) 0 dX5_count_117 rfl rfl ?_
      refine vg_X5_signs (pc := 118) mw_F_X5_133 dX5_count_118 ?_
      refine vr_i (pc := 121) dX5_count_121 ?_
      have hk : x1 = 9 := i32_of (n := 9) 9 (by rw [← esw1]; exact ksw1) (by decide)
      subst hk
      refine ⟨fun _ _ _ => rfl, ?_⟩
      rfl
    · refine vv_tableIn (pc := 1) (off := 121) (tgt := 122) dX5_count_1 (by omega) (by omega) (by rw [ksw1]; rfl) (by decide) ?_
      -- path <10>
      refine vv_aload_n (pc := 122) 0 dX5_count_122 rfl rfl ?_
      refine vg_X5_undos (pc := 123) mw_F_X5_39 dX5_count_123 ?_
      refine vr_i (pc := 126) dX5_count_126 ?_
      have hk : x1 = 10 := i32_of (n := 10) 10 (by rw [← esw1]; exact ksw1) (by decide)
      subst hk
      refine ⟨fun _ _ _ => rfl, ?_⟩
      rfl
