/-- a change by the other program -/
def md (S S2 : Mem) (q : St) (kk : Nat) (hs : Nat → St) (r : Int32) (o : Int32 × St) : Prop := r = o.1 ∧ S2 8 = o.2.2 ∧ (S 7 8 ≠ 0 → S2 7 = S 7 ∧ S2 10 = S 10) ∧ (S 7 8 = 0 → mh S2 (hn kk hs q (sp_err o.1)).1 (hn kk hs q (sp_err o.1)).2 ∧ ∀ k, k ≠ 3 → S2 7 k = S 7 k) ∧ ∀ j, j ≠ 7 → j ≠ 8 → j ≠ 9 → j ≠ 10 → j ≠ 14 → S2 j = S j
theorem md_no {S : Mem} {q : St} {kk : Nat} {hs : Nat → St} {r : Int32} {o : Int32 × St} (hh : mh S kk hs) (hr : r = o.1) (h8 : o.2.2 = S 8) (he : sp_err o.1 ≠ 0) : md S S q kk hs r o := by
  refine ⟨hr, h8.symm, fun _ => ⟨rfl, rfl⟩, fun _ => ⟨?_, fun _ _ => rfl⟩, fun _ _ _ _ _ _ => rfl⟩
  unfold hn
  rw [if_neg he]
  exact hh
def rcd (S Sr : Mem) (q : St) (kk : Nat) (hs : Nat → St) : Prop := (S 7 8 ≠ 0 → Sr = S) ∧ (S 7 8 = 0 → mh Sr (sp_pk kk) (sp_psh kk (va_up hs kk q)) ∧ (∀ j, j ≠ 7 → j ≠ 10 → Sr j = S j) ∧ ∀ k, k ≠ 3 → Sr 7 k = S 7 k)
theorem rec_o {S Sr : Mem} {q : St} {kk : Nat} {hs : Nat → St} (h : rcd S Sr q kk hs) (j : Nat) (h7 : j ≠ 7) (h10 : j ≠ 10) : Sr j = S j := by
  by_cases e : S 7 8 = 0
  · exact (h.2 e).2.1 j h7 h10
  · rw [h.1 e]
theorem md_do {S Sr S2 : Mem} {q : St} {kk : Nat} {hs : Nat → St} {r : Int32} {o : Int32 × St} (h : rcd S Sr q kk hs) (hr : r = o.1) (h8 : S2 8 = o.2.2) (hj : ∀ j, j ≠ 8 → j ≠ 14 → S2 j = Sr j) (he : sp_err o.1 = 0) : md S S2 q kk hs r o := by
  have e7 := hj 7 (by decide) (by decide)
  have e10 := hj 10 (by decide) (by decide)
  refine ⟨hr, h8, fun e => ⟨?_, ?_⟩, fun e => ⟨?_, fun k hk => ?_⟩, fun j h7 h8 h9 h10 h14 => (hj j h8 h14).trans (rec_o h j h7 h10)⟩
  · rw [e7, h.1 e]
  · rw [e10, h.1 e]
  · unfold hn
    rw [if_pos he]
    obtain ⟨a, b, c⟩ := (h.2 e).1
    exact ⟨by rw [e7]; exact a, b, by rw [e10]; exact c⟩
  · rw [e7]
    exact (h.2 e).2.2 k hk
theorem sp_in_1 {x a b : Int32} (h : ¬ sp_in x a b = 0) : a.toInt ≤ x.toInt ∧ x.toInt ≤ b.toInt := by
  rw [sp_in_iff] at h
  exact Classical.not_not.mp h
theorem sp_err_nn {x : Int32} (h : 0 ≤ x.toInt) : sp_err x = 0 := by
  unfold sp_err
  rw [if_neg]
  intro g
  have := Int32.lt_iff_toInt_lt.mp g.1
  rw [show (0 : Int32).toInt = 0 by decide] at this
  omega
theorem ld_ix {x : Int32} (h : x = nI x.toNatClampNeg) : (10 : Int32) + x = nI (10 + x.toNatClampNeg) := by
  have e := nI_add 10 x.toNatClampNeg
  rw [← h] at e
  exact e
theorem far_v {p z : Int32} (hp : 0 ≤ p.toInt ∧ p.toInt ≤ 19) (hz : 0 ≤ z.toInt ∧ z.toInt < 20) : (p - z).toInt = p.toInt - z.toInt := by
  rw [i32_sub] <;> omega
theorem far_1 {p z : Int32} (c : ¬ z ≤ p) (hp : 0 ≤ p.toInt ∧ p.toInt ≤ 19) (hz : 0 ≤ z.toInt ∧ z.toInt < 20) : sp_far p z = z - p := by
  unfold sp_far
  rw [Int32.le_iff_toInt_le] at c
  rw [if_neg (by rw [Int32.le_iff_toInt_le, far_v hp hz, show (0 : Int32).toInt = 0 by decide]; omega)]
  grind
theorem far_2 {p z : Int32} (c : z ≤ p) (hp : 0 ≤ p.toInt ∧ p.toInt ≤ 19) (hz : 0 ≤ z.toInt ∧ z.toInt < 20) : sp_far p z = p - z := by
  unfold sp_far
  rw [Int32.le_iff_toInt_le] at c
  rw [if_pos (by rw [Int32.le_iff_toInt_le, far_v hp hz, show (0 : Int32).toInt = 0 by decide]; omega)]
theorem sp_err_far {p z : Int32} (hp : 0 ≤ p.toInt ∧ p.toInt ≤ 19) (hz : 0 ≤ z.toInt ∧ z.toInt < 20) : sp_err (sp_far p z) = 0 := by
  refine sp_err_nn ?_
  by_cases c : z ≤ p
  · rw [far_2 c hp hz, far_v hp hz]
    rw [Int32.le_iff_toInt_le] at c
    omega
  · rw [far_1 c hp hz]
    rw [Int32.le_iff_toInt_le] at c
    rw [i32_sub] <;> omega
set_option maxRecDepth 100000 in
set_option maxHeartbeats 4000000 in
theorem c_X5_walk (l : Launch) (G : gG) {q : St} {kk : Nat} {hs : Nat → St} (S : Mem) (hg : gd q) (hz : q.2 = S 8) (hh : mh S kk hs) (x1 : Int32) : mm_C l G yX5_walk cX5_walk 3 (some .int) (mm_rm 1 22) [.ref (gad G 7), .int x1] S (mm_Qi G (fun r S2 => md S S2 q kk hs r (os_walk q x1))) := by
  obtain ⟨hwf, hcalm⟩ := id hg
  rw [hz] at hwf hcalm
  refine mm_ofV (own := RX5) (by decide +kernel) rfl (Nat.le_of_ble_eq_true rfl) (ls0 := [(0, .ref (gad G 7)), (1, .int x1)]) rfl ?_
  refine vv_iload_n (pc := 0) 1 dX5_walk_0 rfl rfl ?_
  refine vv_iconst (pc := 1) (v := 0) dX5_walk_1 (by decide) ?_
  refine vv_bipush (pc := 2) (v := 19) dX5_walk_2 (by decide) ?_
  refine vc_Si (pc := 4) (c_X5_in l G _ _ _ _) mw_M_X5_43 my_X5_in ⟨by decide, by decide⟩ rfl rfl (Nat.le_of_ble_eq_true rfl) dX5_walk_4 (fun r4 S4 h4 => ?_)
  obtain ⟨qS4, h4⟩ := h4
  replace qS4 := qS4.symm
  subst qS4
  refine vv_if_ne (pc := 7) (tgt := 12) dX5_walk_7 (by decide) (fun c7 => ?_) (fun c7 => ?_)
  -- t@7 path t
  · rw [h4] at c7
    have hp := sp_in_1 c7
    rw [show (0 : Int32).toInt = 0 by decide, show (19 : Int32).toInt = 19 by decide] at hp
    refine vv_aload_n (pc := 12) 0 dX5_walk_12 rfl rfl ?_
    refine vc_Vv (pc := 13) (c_X5_record l G _ hz hh) mw_M_X5_84 my_X5_record mm_rv_X5 ⟨by decide, by decide⟩ rfl rfl (Nat.le_of_ble_eq_true rfl) dX5_walk_13 (fun S13 h13 => ?_)
    have h8 := rec_o h13 8 (by decide) (by decide)
    refine vv_iload_n (pc := 16) 1 dX5_walk_16 rfl rfl ?_
    refine vv_aload_n (pc := 17) 0 dX5_walk_17 rfl rfl ?_
    refine vg_X5_now (pc := 18) mw_F_X5_7 dX5_walk_18 ?_
    refine vv_iconst (pc := 21) (v := 4) dX5_walk_21 (by decide) ?_
    refine vl_8 (pc := 22) (vp_in_nI (n := 4) (by decide) (by decide)) dX5_walk_22 ?_
    refine vv_icmp_ge (pc := 23) (tgt := 37) dX5_walk_23 (by decide) (fun c23 => ?_) (fun c23 => ?_)
    -- t@23 path tt
    · refine vv_iload_n (pc := 37) 1 dX5_walk_37 rfl rfl ?_
      refine vv_aload_n (pc := 38) 0 dX5_walk_38 rfl rfl ?_
      refine vg_X5_now (pc := 39) mw_F_X5_7 dX5_walk_39 ?_
      refine vv_iconst (pc := 42) (v := 4) dX5_walk_42 (by decide) ?_
      refine vl_8 (pc := 43) (vp_in_nI (n := 4) (by decide) (by decide)) dX5_walk_43 ?_
      refine vv_isub (pc := 44) dX5_walk_44 ?_
      refine vv_topi (fun x2p45 e2p45 => ?_)
      refine vv_istore_n (pc := 45) (i := 2) (ls' := [(2, .int x2p45), (0, .ref (gad G 7)), (1, .int x1)]) dX5_walk_45 rfl (by decide) rfl ?_
      rw [show (4 : Int32).toNatClampNeg = 4 from by decide, h8] at e2p45 c23
      have hz4 := hwf.2.2.2.1
      have e2 : x2p45 = sp_far x1 (S 8 4) := by rw [e2p45]; exact (far_2 c23 hp hz4).symm
      refine vv_aload_n (pc := 46) 1 dX5_walk_46 rfl rfl ?_
      refine vg_X5_now (pc := 47) mw_F_X5_7 dX5_walk_47 ?_
      refine vv_iconst (pc := 50) (v := 4) dX5_walk_50 (by decide) ?_
      refine vv_iload_n (pc := 51) 2 dX5_walk_51 rfl rfl ?_
      refine vs_8 (pc := 52) (vp_in_nI (n := 4) (by decide) (by decide)) dX5_walk_52 ?_
      refine vv_aload_n (pc := 53) 1 dX5_walk_53 rfl rfl ?_
      refine vg_X5_now (pc := 54) mw_F_X5_7 dX5_walk_54 ?_
      refine vv_iconst (pc := 57) (v := 5) dX5_walk_57 (by decide) ?_
      refine vv_dup2 (pc := 58) dX5_walk_58 rfl rfl ?_
      refine vl_8 (pc := 59) (vp_in_nI (n := 5) (by decide) (by decide)) dX5_walk_59 ?_
      refine vv_iload_n (pc := 60) 0 dX5_walk_60 rfl rfl ?_
      refine vv_iadd (pc := 61) dX5_walk_61 ?_
      refine vs_8 (pc := 62) (vp_in_nI (n := 5) (by decide) (by decide)) dX5_walk_62 ?_
      refine vv_iload_n (pc := 63) 0 dX5_walk_63 rfl rfl ?_
      refine vr_i (pc := 64) dX5_walk_64 ?_
      have ho : os_walk q x1 = (sp_far x1 (q.2 4), (q.1, upd (upd q.2 4 x1) 5 (q.2 5 + sp_far x1 (q.2 4)))) := by rw [os_walk, op_walk, if_neg c7]
      rw [ho]
      refine md_do h13 (by rw [e2, hz]) ?_ ?_ (by rw [hz]; exact sp_err_far (by omega) (by have := hwf.2.2.2.1; omega))
      · rw [mR_wr, mR_wr]
        simp only [mR_s, mR_mR]
        rw [h8, show (4 : Int32).toNatClampNeg = 4 from by decide, show (5 : Int32).toNatClampNeg = 5 from by decide, upd_n _ _ (show (5 : Nat) ≠ 4 by decide), e2, hz]
      · intro j hj _
        rw [mm_wr_orow _ _ hj, mm_wr_orow _ _ hj]
    -- f@23 path tf
    · refine vv_aload_n (pc := 26) 0 dX5_walk_26 rfl rfl ?_
      refine vg_X5_now (pc := 27) mw_F_X5_7 dX5_walk_27 ?_
      refine vv_iconst (pc := 30) (v := 4) dX5_walk_30 (by decide) ?_
      refine vl_8 (pc := 31) (vp_in_nI (n := 4) (by decide) (by decide)) dX5_walk_31 ?_
      refine vv_iload_n (pc := 32) 1 dX5_walk_32 rfl rfl ?_
      refine vv_isub (pc := 33) dX5_walk_33 ?_
      refine vv_goto (pc := 34) (tgt := 45) dX5_walk_34 (by decide) ?_
      refine vv_topi (fun x2p45 e2p45 => ?_)
      refine vv_istore_n (pc := 45) (i := 2) (ls' := [(2, .int x2p45), (0, .ref (gad G 7)), (1, .int x1)]) dX5_walk_45 rfl (by decide) rfl ?_
      rw [show (4 : Int32).toNatClampNeg = 4 from by decide, h8] at e2p45 c23
      have hz4 := hwf.2.2.2.1
      have e2 : x2p45 = sp_far x1 (S 8 4) := by rw [e2p45]; exact (far_1 c23 hp hz4).symm
      refine vv_aload_n (pc := 46) 1 dX5_walk_46 rfl rfl ?_
      refine vg_X5_now (pc := 47) mw_F_X5_7 dX5_walk_47 ?_
      refine vv_iconst (pc := 50) (v := 4) dX5_walk_50 (by decide) ?_
      refine vv_iload_n (pc := 51) 2 dX5_walk_51 rfl rfl ?_
      refine vs_8 (pc := 52) (vp_in_nI (n := 4) (by decide) (by decide)) dX5_walk_52 ?_
      refine vv_aload_n (pc := 53) 1 dX5_walk_53 rfl rfl ?_
      refine vg_X5_now (pc := 54) mw_F_X5_7 dX5_walk_54 ?_
      refine vv_iconst (pc := 57) (v := 5) dX5_walk_57 (by decide) ?_
      refine vv_dup2 (pc := 58) dX5_walk_58 rfl rfl ?_
      refine vl_8 (pc := 59) (vp_in_nI (n := 5) (by decide) (by decide)) dX5_walk_59 ?_
      refine vv_iload_n (pc := 60) 0 dX5_walk_60 rfl rfl ?_
      refine vv_iadd (pc := 61) dX5_walk_61 ?_
      refine vs_8 (pc := 62) (vp_in_nI (n := 5) (by decide) (by decide)) dX5_walk_62 ?_
      refine vv_iload_n (pc := 63) 0 dX5_walk_63 rfl rfl ?_
      refine vr_i (pc := 64) dX5_walk_64 ?_
      have ho : os_walk q x1 = (sp_far x1 (q.2 4), (q.1, upd (upd q.2 4 x1) 5 (q.2 5 + sp_far x1 (q.2 4)))) := by rw [os_walk, op_walk, if_neg c7]
      rw [ho]
      refine md_do h13 (by rw [e2, hz]) ?_ ?_ (by rw [hz]; exact sp_err_far (by omega) (by have := hwf.2.2.2.1; omega))
      · rw [mR_wr, mR_wr]
        simp only [mR_s, mR_mR]
        rw [h8, show (4 : Int32).toNatClampNeg = 4 from by decide, show (5 : Int32).toNatClampNeg = 5 from by decide, upd_n _ _ (show (5 : Nat) ≠ 4 by decide), e2, hz]
      · intro j hj _
        rw [mm_wr_orow _ _ hj, mm_wr_orow _ _ hj]
  -- f@7 path f
  · refine vv_iconst (pc := 10) (v := (-1)) dX5_walk_10 (by decide) ?_
    refine vr_i (pc := 11) dX5_walk_11 ?_
    rw [h4] at c7
    exact md_no hh (by rw [os_walk, op_walk, if_pos c7]) (by rw [os_walk, op_walk, if_pos c7]; exact hz) (by rw [os_walk, op_walk, if_pos c7]; exact (show sp_err (-1) ≠ 0 by decide))
set_option maxRecDepth 100000 in
set_option maxHeartbeats 4000000 in
theorem c_X5_load (l : Launch) (G : gG) {q : St} {kk : Nat} {hs : Nat → St} (S : Mem) (hg : gd q) (hz : q.2 = S 8) (hh : mh S kk hs) (x1 x2 : Int32) : mm_C l G yX5_load cX5_load 4 (some .int) (mm_rm 5 121) [.ref (gad G 7), .int x1, .int x2] S (mm_Qi G (fun r S2 => md S S2 q kk hs r (os_load q x1 x2))) := by
  obtain ⟨hwf, hcalm⟩ := id hg
  rw [hz] at hwf hcalm
  refine mm_ofV (own := RX5) (by decide +kernel) rfl (Nat.le_of_ble_eq_true rfl) (ls0 := [(0, .ref (gad G 7)), (1, .int x1), (2, .int x2)]) rfl ?_
  refine vv_iload_n (pc := 0) 1 dX5_load_0 rfl rfl ?_
  refine vv_iconst (pc := 1) (v := 0) dX5_load_1 (by decide) ?_
  refine vv_bipush (pc := 2) (v := 19) dX5_load_2 (by decide) ?_
  refine vc_Si (pc := 4) (c_X5_in l G _ _ _ _) mw_M_X5_43 my_X5_in ⟨by decide, by decide⟩ rfl rfl (Nat.le_of_ble_eq_true rfl) dX5_load_4 (fun r4 S4 h4 => ?_)
  obtain ⟨qS4, h4⟩ := h4
  replace qS4 := qS4.symm
  subst qS4
  refine vv_if_ne (pc := 7) (tgt := 12) dX5_load_7 (by decide) (fun c7 => ?_) (fun c7 => ?_)
  -- t@7 path t
  · rw [h4] at c7
    have hp := sp_in_1 c7
    rw [show (0 : Int32).toInt = 0 by decide, show (19 : Int32).toInt = 19 by decide] at hp
    have hp0 := sp_cl (x := x1) (by omega)
    have hpx : x1 = nI x1.toNatClampNeg := sp_nI (by omega)
    refine vv_iload_n (pc := 12) 2 dX5_load_12 rfl rfl ?_
    refine vv_iconst (pc := 13) (v := 0) dX5_load_13 (by decide) ?_
    refine vv_sipush (pc := 14) (v := 1000) dX5_load_14 (by decide) ?_
    refine vc_Si (pc := 17) (c_X5_in l G _ _ _ _) mw_M_X5_43 my_X5_in ⟨by decide, by decide⟩ rfl rfl (Nat.le_of_ble_eq_true rfl) dX5_load_17 (fun r17 S17 h17 => ?_)
    obtain ⟨qS17, h17⟩ := h17
    replace qS17 := qS17.symm
    subst qS17
    refine vv_if_ne (pc := 20) (tgt := 26) dX5_load_20 (by decide) (fun c20 => ?_) (fun c20 => ?_)
    -- t@20 path tt
    · rw [h17] at c20
      have hv := sp_in_1 c20
      refine vv_aload_n (pc := 26) 0 dX5_load_26 rfl rfl ?_
      refine vc_Vv (pc := 27) (c_X5_record l G _ hz hh) mw_M_X5_84 my_X5_record mm_rv_X5 ⟨by decide, by decide⟩ rfl rfl (Nat.le_of_ble_eq_true rfl) dX5_load_27 (fun S27 h27 => ?_)
      have h8 := rec_o h27 8 (by decide) (by decide)
      refine vv_aload_n (pc := 30) 0 dX5_load_30 rfl rfl ?_
      refine vg_X5_now (pc := 31) mw_F_X5_7 dX5_load_31 ?_
      refine vv_bipush (pc := 34) (v := 10) dX5_load_34 (by decide) ?_
      refine vv_iload_n (pc := 36) 1 dX5_load_36 rfl rfl ?_
      refine vv_iadd (pc := 37) dX5_load_37 ?_
      rw [show (10 : Int32) + x1 = nI (10 + x1.toNatClampNeg) from ld_ix hpx]
      refine vl_8 (pc := 38) (vp_in_nI (by omega) (by decide)) dX5_load_38 ?_
      rw [cl_n (by omega), h8]
      refine vv_topi (fun x3p39 e3p39 => ?_)
      refine vv_istore_n (pc := 39) (i := 3) (ls' := [(3, .int x3p39), (0, .ref (gad G 7)), (1, .int x1), (2, .int x2)]) dX5_load_39 rfl (by decide) rfl ?_
      refine vv_aload_n (pc := 40) 1 dX5_load_40 rfl rfl ?_
      refine vg_X5_now (pc := 41) mw_F_X5_7 dX5_load_41 ?_
      refine vv_bipush (pc := 44) (v := 10) dX5_load_44 (by decide) ?_
      refine vv_iload_n (pc := 46) 2 dX5_load_46 rfl rfl ?_
      refine vv_iadd (pc := 47) dX5_load_47 ?_
      refine vv_iload_n (pc := 48) 3 dX5_load_48 rfl rfl ?_
      rw [show (10 : Int32) + x1 = nI (10 + x1.toNatClampNeg) from ld_ix hpx]
      refine vs_8 (pc := 49) (vp_in_nI (by omega) (by decide)) dX5_load_49 ?_
      rw [cl_n (by omega)]
      refine vv_mem (fun Sy eSy => ?_)
      have hSy : Sy 8 = upd (S 8) (10 + x1.toNatClampNeg) x2 := by rw [eSy, mR_wr, mR_s, h8]
      have hwl : sp_wf q.1 (Sy 8) := by rw [hSy]; exact sp_load_wf hwf (by omega) hv
      refine vv_aload_n (pc := 50) 1 dX5_load_50 rfl rfl ?_
      refine vc_Vi (pc := 51) (c_X5_settle l G _ (C := q.1) hwl) mw_M_X5_91 my_X5_settle mm_rv_X5 ⟨by decide, by decide⟩ rfl rfl (Nat.le_of_ble_eq_true rfl) dX5_load_51 (fun r51 S51 h51 => ?_)
      refine vv_pop (pc := 54) dX5_load_54 rfl ?_
      refine vv_iload_n (pc := 55) 0 dX5_load_55 rfl rfl ?_
      refine vr_i (pc := 56) dX5_load_56 ?_
      have ho : os_load q x1 x2 = (q.2 (10 + x1.toNatClampNeg), (q.1, sp_stl q.1 8 (upd q.2 (10 + x1.toNatClampNeg) x2))) := by rw [os_load, op_load, if_neg c7, if_neg c20]
      rw [ho]
      obtain ⟨-, T, hT⟩ := h51
      refine md_do h27 (by rw [e3p39, hz]) (by rw [hT, mR_o _ _ (by decide), mR_s, hSy, hz]) (fun j hj h14 => by rw [hT, mR_o _ _ h14, mR_o _ _ hj, eSy, mm_wr_orow _ _ hj]) (by rw [hz]; exact sp_err_nn (hwf.2.2.1 _ (by omega)).1)
    -- f@20 path tf
    · refine vv_bipush (pc := 23) (v := (-2)) dX5_load_23 (by decide) ?_
      refine vr_i (pc := 25) dX5_load_25 ?_
      rw [h17] at c20
      exact md_no hh (by rw [os_load, op_load, if_neg c7, if_pos c20]) (by rw [os_load, op_load, if_neg c7, if_pos c20]; exact hz) (by rw [os_load, op_load, if_neg c7, if_pos c20]; exact (show sp_err (-2) ≠ 0 by decide))
  -- f@7 path f
  · refine vv_iconst (pc := 10) (v := (-1)) dX5_load_10 (by decide) ?_
    refine vr_i (pc := 11) dX5_load_11 ?_
    rw [h4] at c7
    exact md_no hh (by rw [os_load, op_load, if_pos c7]) (by rw [os_load, op_load, if_pos c7]; exact hz) (by rw [os_load, op_load, if_pos c7]; exact (show sp_err (-1) ≠ 0 by decide))
