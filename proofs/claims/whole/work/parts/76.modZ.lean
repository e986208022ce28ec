/-! ORDERS CARRIED OUT BY THE MODEL -/
theorem lk_car {x : Int32} (h2 : ¬ x = 103) (h3 : ¬ x = 104) (h4 : ¬ x = 112) (h5 : ¬ x = 116) : Op.lookupswitch.offset [(103, 41), (104, 47), (112, 58), (116, 52)] 72 x.toInt = 72 := by
  have n : ∀ j : Int32, ¬ x = j → ¬ x.toInt = j.toInt := fun j h e => h (Int32.toInt_inj.mp e)
  have a2 := n _ h2
  have a3 := n _ h3
  have a4 := n _ h4
  have a5 := n _ h5
  rw [show (103 : Int32).toInt = 103 by decide] at a2
  rw [show (104 : Int32).toInt = 104 by decide] at a3
  rw [show (112 : Int32).toInt = 112 by decide] at a4
  rw [show (116 : Int32).toInt = 116 by decide] at a5
  simp [Op.lookupswitch.offset, Ne.symm a2, Ne.symm a3, Ne.symm a4, Ne.symm a5, a2, a3, a4, a5]
theorem ord_d (q : St) (a b : Int32) : ord q 100 a b = os_days q a := by unfold ord; rw [if_pos rfl]
theorem ord_g (q : St) (a b : Int32) : ord q 103 a b = os_walk q a := by unfold ord; rw [if_neg (by decide), if_pos rfl]
theorem ord_h (q : St) (a b : Int32) : ord q 104 a b = os_hear q := by unfold ord; rw [if_neg (by decide), if_neg (by decide), if_pos rfl]
theorem ord_p (q : St) (a b : Int32) : ord q 112 a b = os_load q a b := by unfold ord; rw [if_neg (by decide), if_neg (by decide), if_neg (by decide), if_pos rfl]
theorem ord_t (q : St) (a b : Int32) : ord q 116 a b = os_tight q a := by unfold ord; rw [if_neg (by decide), if_neg (by decide), if_neg (by decide), if_neg (by decide), if_pos rfl]
theorem md_ord {S S2 : Mem} {q : St} {kk : Nat} {hs : Nat → St} {r k a b : Int32} {o : Int32 × St} (h : md S S2 q kk hs r o) (e : o = ord q k a b) : md S S2 q kk hs r (ord q k a b) := e ▸ h
theorem oc_e {t : Nat → Int32} {L k i dn : Nat} {q : St} (h : L ≤ i) : oc t L k i q dn = (dn, q) := by
  cases k with
  | zero => rfl
  | succ k => rw [oc, if_pos h]
theorem oc_s {t : Nat → Int32} {L k i dn : Nat} {q q2 : St} {r : Int32} (h : i < L) (e : ord q (t i) (ro_1 t L i) (ro_2 t L i) = (r, q2)) : oc t L (k + 1) i q dn = if sp_err r = 0 then oc t L k (ro_n t L i) q2 (dn + 1) else (dn, q2) := by
  rw [oc, if_neg (by omega), e]
theorem sp_err_0 {r : Int32} : sp_err r = 0 ↔ 0 ≤ r ∨ r = -6 := by
  unfold sp_err
  constructor
  · intro h
    rcases Classical.em (0 ≤ r) with g | g
    · exact Or.inl g
    · refine Or.inr (Classical.byContradiction fun k => ?_)
      rw [if_pos ⟨Int32.not_le.mp g, k⟩] at h
      exact absurd h (by decide)
  · intro h
    refine if_neg (fun k => ?_)
    rcases h with h | h
    · exact absurd k.1 (Int32.not_lt.mpr h)
    · exact k.2 h
theorem mh_of {S S2 : Mem} {kk : Nat} {hs : Nat → St} (h : mh S kk hs) (h3 : S2 7 3 = S 7 3) (h10 : S2 10 = S 10) : mh S2 kk hs := ⟨h3.trans h.1, h.2.1, fun j hj i hi => by rw [h10]; exact h.2.2 j hj i hi⟩
set_option maxRecDepth 100000 in
set_option maxHeartbeats 4000000 in
theorem c_X5_carry (l : Launch) (G : gG) {q : St} {kk : Nat} {hs : Nat → St} (S : Mem) (hg : gd q) (hz : q.2 = S 8) (hh : mh S kk hs) {n : Nat} {x1 : Int32} (hx : x1 = nI (3 * n)) (hn : n < 31) (hk : mk (S 15 (3 * n))) (hday : (q.2 2).toInt ≤ 1000000000) : mm_C l G yX5_carry cX5_carry 3 (some .int) (mm_rm 7 165) [.ref (gad G 7), .int x1] S (mm_Qi G (fun r S2 => md S S2 q kk hs r (ord q (S 15 (3 * n)) (S 15 (3 * n + 1)) (S 15 (3 * n + 2))))) := by
  refine mm_ofV (own := RX5) (by decide +kernel) rfl (Nat.le_of_ble_eq_true rfl) (ls0 := [(0, .ref (gad G 7)), (1, .int x1)]) rfl ?_
  refine vv_aload_n (pc := 0) 0 dX5_carry_0 rfl rfl ?_
  refine vg_X5_orders (pc := 1) mw_F_X5_32 dX5_carry_1 ?_
  refine vv_iload_n (pc := 4) 1 dX5_carry_4 rfl rfl ?_
  refine vv_iconst (pc := 5) (v := 1) dX5_carry_5 (by decide) ?_
  refine vv_iadd (pc := 6) dX5_carry_6 ?_
  refine vl_15 (pc := 7) (by rw [hx, show nI (3 * n) + 1 = nI (3 * n + 1) from nI_add _ 1]; exact vp_in_nI (by omega) (by decide)) dX5_carry_7 ?_
  refine vv_topi (fun x2p8 e2p8 => ?_)
  refine vv_istore_n (pc := 8) (i := 2) (ls' := [(2, .int x2p8), (0, .ref (gad G 7)), (1, .int x1)]) dX5_carry_8 rfl (by decide) rfl ?_
  rw [show (x1 + 1).toNatClampNeg = 3 * n + 1 from by rw [hx, show nI (3 * n) + 1 = nI (3 * n + 1) from nI_add _ 1, cl_n (by omega)]] at e2p8
  refine vv_aload_n (pc := 9) 1 dX5_carry_9 rfl rfl ?_
  refine vg_X5_orders (pc := 10) mw_F_X5_32 dX5_carry_10 ?_
  refine vv_iload_n (pc := 13) 2 dX5_carry_13 rfl rfl ?_
  refine vl_15 (pc := 14) (by rw [hx]; exact vp_in_nI (by omega) (by decide)) dX5_carry_14 ?_
  rw [show x1.toNatClampNeg = 3 * n from by rw [hx, cl_n (by omega)]]
  refine vv_topi (fun sw15 esw15 => ?_)
  by_cases qsw15_103 : sw15 = 103
  · refine vv_lookup (pc := 15) (off := 41) (tgt := 56) dX5_carry_15 (by decide +kernel) (by rw [qsw15_103]; decide +kernel) (by decide) ?_
    -- path <103>
    refine vv_aload_n (pc := 56) 1 dX5_carry_56 rfl rfl ?_
    refine vv_iload_n (pc := 57) 0 dX5_carry_57 rfl rfl ?_
    refine vc_Vi (pc := 58) (c_X5_walk l G _ (by assumption) (by assumption) (by assumption) _) mw_M_X5_173 my_X5_walk mm_rv_X5 ⟨by decide, by decide⟩ rfl rfl (Nat.le_of_ble_eq_true rfl) dX5_carry_58 (fun r58 S58 h58 => ?_)
    refine vr_i (pc := 61) dX5_carry_61 ?_
    exact md_ord h58 (by rw [← esw15, qsw15_103, ord_g, e2p8])
  by_cases qsw15_104 : sw15 = 104
  · refine vv_lookup (pc := 15) (off := 47) (tgt := 62) dX5_carry_15 (by decide +kernel) (by rw [qsw15_104]; decide +kernel) (by decide) ?_
    -- path <104>
    refine vv_aload_n (pc := 62) 1 dX5_carry_62 rfl rfl ?_
    refine vc_Vi (pc := 63) (c_X5_hear l G _ (by assumption) (by assumption) (by assumption)) mw_M_X5_176 my_X5_hear mm_rv_X5 ⟨by decide, by decide⟩ rfl rfl (Nat.le_of_ble_eq_true rfl) dX5_carry_63 (fun r63 S63 h63 => ?_)
    refine vr_i (pc := 66) dX5_carry_66 ?_
    exact md_ord h63 (by rw [← esw15, qsw15_104, ord_h])
  by_cases qsw15_112 : sw15 = 112
  · refine vv_lookup (pc := 15) (off := 58) (tgt := 73) dX5_carry_15 (by decide +kernel) (by rw [qsw15_112]; decide +kernel) (by decide) ?_
    -- path <112>
    refine vv_aload_n (pc := 73) 1 dX5_carry_73 rfl rfl ?_
    refine vv_iload_n (pc := 74) 0 dX5_carry_74 rfl rfl ?_
    refine vv_aload_n (pc := 75) 1 dX5_carry_75 rfl rfl ?_
    refine vg_X5_orders (pc := 76) mw_F_X5_32 dX5_carry_76 ?_
    refine vv_iload_n (pc := 79) 2 dX5_carry_79 rfl rfl ?_
    refine vv_iconst (pc := 80) (v := 2) dX5_carry_80 (by decide) ?_
    refine vv_iadd (pc := 81) dX5_carry_81 ?_
    refine vl_15 (pc := 82) (by rw [hx, show nI (3 * n) + 2 = nI (3 * n + 2) from nI_add _ 2]; exact vp_in_nI (by omega) (by decide)) dX5_carry_82 ?_
    rw [show (x1 + 2).toNatClampNeg = 3 * n + 2 from by rw [hx, show nI (3 * n) + 2 = nI (3 * n + 2) from nI_add _ 2, cl_n (by omega)]]
    refine vc_Vi (pc := 83) (c_X5_load l G _ (by assumption) (by assumption) (by assumption) _ _) mw_M_X5_182 my_X5_load mm_rv_X5 ⟨by decide, by decide⟩ rfl rfl (Nat.le_of_ble_eq_true rfl) dX5_carry_83 (fun r83 S83 h83 => ?_)
    refine vr_i (pc := 86) dX5_carry_86 ?_
    exact md_ord h83 (by rw [← esw15, qsw15_112, ord_p, e2p8])
  by_cases qsw15_116 : sw15 = 116
  · refine vv_lookup (pc := 15) (off := 52) (tgt := 67) dX5_carry_15 (by decide +kernel) (by rw [qsw15_116]; decide +kernel) (by decide) ?_
    -- path <116>
    refine vv_aload_n (pc := 67) 1 dX5_carry_67 rfl rfl ?_
    refine vv_iload_n (pc := 68) 0 dX5_carry_68 rfl rfl ?_
    refine vc_Vi (pc := 69) (c_X5_tighten l G _ (by assumption) (by assumption) (by assumption) _) mw_M_X5_179 my_X5_tighten mm_rv_X5 ⟨by decide, by decide⟩ rfl rfl (Nat.le_of_ble_eq_true rfl) dX5_carry_69 (fun r69 S69 h69 => ?_)
    refine vr_i (pc := 72) dX5_carry_72 ?_
    exact md_ord h69 (by rw [← esw15, qsw15_116, ord_t, e2p8])
  refine vv_lookup (pc := 15) (off := 72) (tgt := 87) dX5_carry_15 (by decide +kernel) (lk_car qsw15_103 qsw15_104 qsw15_112 qsw15_116) (by decide) ?_
  refine vv_aload_n (pc := 87) 1 dX5_carry_87 rfl rfl ?_
  refine vv_iload_n (pc := 88) 0 dX5_carry_88 rfl rfl ?_
  refine vc_Vi (pc := 89) (c_X5_days l G _ (by assumption) (by assumption) (by assumption) hday _) mw_M_X5_185 my_X5_days mm_rv_X5 ⟨by decide, by decide⟩ rfl rfl (Nat.le_of_ble_eq_true rfl) dX5_carry_89 (fun r89 S89 h89 => ?_)
  refine vr_i (pc := 92) dX5_carry_92 ?_
  have h100 : sw15 = 100 := by
    rw [← esw15] at hk
    rcases hk with h | h | h | h | h
    · exact absurd h qsw15_103
    · exact absurd h qsw15_104
    · exact absurd h qsw15_116
    · exact absurd h qsw15_112
    · exact h
  exact md_ord h89 (by rw [← esw15, h100, ord_d, e2p8])
set_option maxRecDepth 100000 in
set_option maxHeartbeats 4000000 in
theorem c_X5_carryOut (l : Launch) (G : gG) {q : St} {kk : Nat} {hs : Nat → St} (S : Mem) (hg : gd q) (hz : q.2 = S 8) (hh : mh S kk hs) (hday : (q.2 2).toInt + 6000 ≤ 1000000000) (h78 : S 7 8 = 0) {L : Nat} (hL : S 7 7 = nI L) (hL60 : L ≤ 60) (hch : chz (S 13) L) : mm_C l G yX5_carryOut cX5_carryOut 4 (some .int) (mm_rm 8 187) [.ref (gad G 7)] S (mm_Qi G (fun r S2 => (op_ff (S 13) L 0 ≠ -6 → r = -3 ∧ ∃ N i w O, S2 = mQ S (nI N) (nI i) w O) ∧ (op_ff (S 13) L 0 = -6 → r = nI (oc (S 13) L 60 0 q 0).1 ∧ S2 8 = (oc (S 13) L 60 0 q 0).2.2 ∧ mh S2 (sp_pk kk) (sp_psh kk (va_up hs kk q)) ∧ S2 7 7 = 0 ∧ S2 7 8 = 0 ∧ (∀ j, j ≠ 7 → j ≠ 8 → j ≠ 9 → j ≠ 10 → j ≠ 14 → j ≠ 15 → S2 j = S j)))) := by
  refine mm_ofV (own := RX5) (by decide +kernel) rfl (Nat.le_of_ble_eq_true rfl) (ls0 := [(0, .ref (gad G 7))]) rfl ?_
  refine vv_aload_n (pc := 0) 0 dX5_carryOut_0 rfl rfl ?_
  refine vc_Vi (pc := 1) (c_X5_faultOf l G _ hL hL60 hch) mw_M_X5_170 my_X5_faultOf mm_rv_X5 ⟨by decide, by decide⟩ rfl rfl (Nat.le_of_ble_eq_true rfl) dX5_carryOut_1 (fun r1 S1 h1 => ?_)
  obtain ⟨hr1, N, i, w, O, eS1, hfin⟩ := h1
  refine vv_bipush (pc := 4) (v := (-6)) dX5_carryOut_4 (by decide) ?_
  refine vv_icmp_eq (pc := 6) (tgt := 12) dX5_carryOut_6 (by decide) (fun c6 => ?_) (fun c6 => ?_)
  -- t@6 path t
  · obtain ⟨hw0, hN, htab, hpN⟩ := hfin c6
    rw [hr1] at c6
    refine vv_aload_n (pc := 12) 0 dX5_carryOut_12 rfl rfl ?_
    refine vc_Vv (pc := 13) (c_X5_record l G _ (q := q) (kk := kk) (hs := hs) (by rw [eS1, mQ_o _ _ _ _ _ (by decide) (by decide)]; exact hz) (mh_of hh (by rw [eS1, mQ_r3]) (by rw [eS1, mQ_o _ _ _ _ _ (by decide) (by decide)]))) mw_M_X5_84 my_X5_record mm_rv_X5 ⟨by decide, by decide⟩ rfl rfl (Nat.le_of_ble_eq_true rfl) dX5_carryOut_13 (fun S13 h13 => ?_)
    have h18 : S1 7 8 = 0 := by rw [eS1, mQ_r8]; exact h78
    have hrc := h13.2 h18
    refine vv_aload_n (pc := 16) 0 dX5_carryOut_16 rfl rfl ?_
    refine vv_iconst (pc := 17) (v := 1) dX5_carryOut_17 (by decide) ?_
    refine vp_X5_isInText (pc := 18) (by first | exact Or.inl rfl | exact Or.inr rfl | assumption) mw_F_X5_35 dX5_carryOut_18 ?_
    refine vv_mem (fun Sa eSa => ?_)
    have ha8 : Sa 8 = q.2 := by rw [eSa, mm_wr_orow _ _ (by decide), hrc.2.1 8 (by decide) (by decide), eS1, mQ_o _ _ _ _ _ (by decide) (by decide), hz]
    have ham : mh Sa (sp_pk kk) (sp_psh kk (va_up hs kk q)) := mh_of hrc.1 (by rw [eSa, mm_wr_n _ _ (Or.inr (by decide))]) (by rw [eSa, mm_wr_orow _ _ (by decide)])
    have ha78 : Sa 7 8 = 1 := by rw [eSa, mm_wr_s]
    have ha11 : Sa 7 11 = nI N := by rw [eSa, mm_wr_n _ _ (Or.inr (by decide)), hrc.2.2 11 (by decide), eS1, mQ_r11]
    have ha15 : Sa 15 = O := by rw [eSa, mm_wr_orow _ _ (by decide), hrc.2.1 15 (by decide) (by decide), eS1, mQ_w15]
    have hao : ∀ j, j ≠ 7 → j ≠ 8 → j ≠ 9 → j ≠ 10 → j ≠ 14 → j ≠ 15 → Sa j = S j := fun j a b c d e f => by rw [eSa, mm_wr_orow _ _ a, hrc.2.1 j a d, eS1, mQ_o _ _ _ _ _ a f]
    refine vv_iconst (pc := 21) (v := 0) dX5_carryOut_21 (by decide) ?_
    refine vv_topi (fun x1p22 e1p22 => ?_)
    refine vv_istore_n (pc := 22) (i := 1) (ls' := [(1, .int x1p22), (0, .ref (gad G 7))]) dX5_carryOut_22 rfl (by decide) rfl ?_
    refine vv_iconst (pc := 23) (v := 1) dX5_carryOut_23 (by decide) ?_
    refine vv_topi (fun x2p24 e2p24 => ?_)
    refine vv_istore_n (pc := 24) (i := 2) (ls' := [(2, .int x2p24), (1, .int x1p22), (0, .ref (gad G 7))]) dX5_carryOut_24 rfl (by decide) rfl ?_
    have lp25 : ∀ (m : Nat) (n : Nat) (x1 x2 : Int32) (qq : St) (Sx : Mem), (x2 ≠ 0 → N + 2 ≤ m + n) → (x2 = 0 → 1 ≤ m) → n ≤ N → x1 = nI n → gd qq → (x2 ≠ 0 → (qq.2 2).toInt ≤ (q.2 2).toInt + 100 * (n : Int)) → qq.2 = Sx 8 → mh Sx (sp_pk kk) (sp_psh kk (va_up hs kk q)) → Sx 7 8 = 1 → Sx 7 11 = nI N → Sx 15 = O → (∀ j, j ≠ 7 → j ≠ 8 → j ≠ 9 → j ≠ 10 → j ≠ 14 → j ≠ 15 → Sx j = S j) → (x2 ≠ 0 → oc (S 13) L (60 - n) (pth (S 13) L n) qq n = oc (S 13) L 60 0 q 0) → (x2 = 0 → oc (S 13) L 60 0 q 0 = (n, qq)) → mm_V l G RX5 cX5_carryOut 4 (some .int) (mm_rm 8 187) 0 0 (fun _ => True) (fun _ => mm_F G) (mm_Qf G (mm_Qi G (fun r S2 => (op_ff (S 13) L 0 ≠ -6 → r = -3 ∧ ∃ N i w O, S2 = mQ S (nI N) (nI i) w O) ∧ (op_ff (S 13) L 0 = -6 → r = nI (oc (S 13) L 60 0 q 0).1 ∧ S2 8 = (oc (S 13) L 60 0 q 0).2.2 ∧ mh S2 (sp_pk kk) (sp_psh kk (va_up hs kk q)) ∧ S2 7 7 = 0 ∧ S2 7 8 = 0 ∧ (∀ j, j ≠ 7 → j ≠ 8 → j ≠ 9 → j ≠ 10 → j ≠ 14 → j ≠ 15 → S2 j = S j))))) Sx 25 [(0, .ref (gad G 7)), (1, .int x1), (2, .int x2)] [] := by
      intro m
      induction m with
      | zero =>
        intro n x1 x2 qq Sx hm hm0 hnl e1 hgg hd hzz hmm h78x h11 h15 hxo hoc1 hoc0
        rcases Classical.em (x2 = 0) with h | h; (exact absurd (hm0 h) (by omega)); (have := hm h; omega)
      | succ m ih =>
        intro n x1 x2 qq Sx hm hm0 hnl e1 hgg hd hzz hmm h78x h11 h15 hxo hoc1 hoc0
        refine vv_iload_n (pc := 25) 2 dX5_carryOut_25 rfl rfl ?_
        refine vv_if_eq (pc := 26) (tgt := 76) dX5_carryOut_26 (by decide) (fun c26 => ?_) (fun c26 => ?_)
        -- t@26 path tL25t
        · refine vv_aload_n (pc := 76) 0 dX5_carryOut_76 rfl rfl ?_
          refine vv_iconst (pc := 77) (v := 0) dX5_carryOut_77 (by decide) ?_
          refine vp_X5_isInText (pc := 78) (by first | exact Or.inl rfl | exact Or.inr rfl | assumption) mw_F_X5_35 dX5_carryOut_78 ?_
          refine vv_aload_n (pc := 81) 0 dX5_carryOut_81 rfl rfl ?_
          refine vv_iconst (pc := 82) (v := 0) dX5_carryOut_82 (by decide) ?_
          refine vp_X5_signs (pc := 83) mw_F_X5_133 dX5_carryOut_83 ?_
          refine vv_iload_n (pc := 86) 1 dX5_carryOut_86 rfl rfl ?_
          refine vr_i (pc := 87) dX5_carryOut_87 ?_
          have hR : oc (S 13) L 60 0 q 0 = (n, qq) := hoc0 c26
          refine ⟨fun h => absurd c6 h, fun _ => ⟨by rw [e1, hR], ?_, mh_of hmm (by rw [mm_wr_n _ _ (Or.inr (by decide)), mm_wr_n _ _ (Or.inr (by decide))]) (by rw [mm_wr_orow _ _ (by decide), mm_wr_orow _ _ (by decide)]), by rw [mm_wr_s], by rw [mm_wr_n _ _ (Or.inr (by decide)), mm_wr_s], fun j a b c d e f => by rw [mm_wr_orow _ _ a, mm_wr_orow _ _ a, hxo j a b c d e f]⟩⟩
          rw [mm_wr_orow _ _ (by decide), mm_wr_orow _ _ (by decide), ← hzz, hR]
        -- f@26 path tL25f
        · refine vv_iload_n (pc := 29) 1 dX5_carryOut_29 rfl rfl ?_
          refine vv_aload_n (pc := 30) 0 dX5_carryOut_30 rfl rfl ?_
          refine vg_X5_read (pc := 31) mw_F_X5_159 dX5_carryOut_31 ?_
          rw [h11]
          refine vv_icmp_ge (pc := 34) (tgt := 76) dX5_carryOut_34 (by decide) (fun c34 => ?_) (fun c34 => ?_)
          -- t@34 path tL25ft
          · refine vv_aload_n (pc := 76) 0 dX5_carryOut_76 rfl rfl ?_
            refine vv_iconst (pc := 77) (v := 0) dX5_carryOut_77 (by decide) ?_
            refine vp_X5_isInText (pc := 78) (by first | exact Or.inl rfl | exact Or.inr rfl | assumption) mw_F_X5_35 dX5_carryOut_78 ?_
            refine vv_aload_n (pc := 81) 0 dX5_carryOut_81 rfl rfl ?_
            refine vv_iconst (pc := 82) (v := 0) dX5_carryOut_82 (by decide) ?_
            refine vp_X5_signs (pc := 83) mw_F_X5_133 dX5_carryOut_83 ?_
            refine vv_iload_n (pc := 86) 1 dX5_carryOut_86 rfl rfl ?_
            refine vr_i (pc := 87) dX5_carryOut_87 ?_
            have hnN := sp_geN (by omega) hnl e1 c34
            have hnn : n = N := by omega
            have hR : oc (S 13) L 60 0 q 0 = (n, qq) := (hoc1 c26).symm.trans (oc_e (by rw [hnn]; exact hpN))
            refine ⟨fun h => absurd c6 h, fun _ => ⟨by rw [e1, hR], ?_, mh_of hmm (by rw [mm_wr_n _ _ (Or.inr (by decide)), mm_wr_n _ _ (Or.inr (by decide))]) (by rw [mm_wr_orow _ _ (by decide), mm_wr_orow _ _ (by decide)]), by rw [mm_wr_s], by rw [mm_wr_n _ _ (Or.inr (by decide)), mm_wr_s], fun j a b c d e f => by rw [mm_wr_orow _ _ a, mm_wr_orow _ _ a, hxo j a b c d e f]⟩⟩
            rw [mm_wr_orow _ _ (by decide), mm_wr_orow _ _ (by decide), ← hzz, hR]
          -- f@34 path tL25ff
          · have hnN : n < N := sp_ltN (by omega) hnl e1 c34
            have hoc := hoc1 c26
            have hon := htab n hnN
            have hdd := hd c26
            have hmm2 := hm c26
            refine vv_aload_n (pc := 37) 0 dX5_carryOut_37 rfl rfl ?_
            refine vv_iconst (pc := 38) (v := 3) dX5_carryOut_38 (by decide) ?_
            refine vv_iload_n (pc := 39) 1 dX5_carryOut_39 rfl rfl ?_
            refine vv_imul (pc := 40) dX5_carryOut_40 ?_
            refine vc_Vi (pc := 41) (c_X5_carry l G _ (q := qq) (kk := sp_pk kk) (hs := sp_psh kk (va_up hs kk q)) hgg hzz hmm (n := n) (by rw [e1]; exact nI_mul 3 n) (by omega) (by rw [h15]; exact hon.2.1) (by omega)) mw_M_X5_188 my_X5_carry mm_rv_X5 ⟨by decide, by decide⟩ rfl rfl (Nat.le_of_ble_eq_true rfl) dX5_carryOut_41 (fun r41 S41 h41 => ?_)
            obtain ⟨m1, m2, m3, -, m5⟩ := h41
            obtain ⟨m3, m4⟩ := m3 (by rw [h78x]; decide)
            rw [h15, hon.2.2 qq] at m1 m2
            have hgs := gd_ord (l := S 13 (pth (S 13) L n)) (a := ro_1 (S 13) L (pth (S 13) L n)) (b := ro_2 (S 13) L (pth (S 13) L n)) hgg (by omega)
            obtain ⟨⟨P1, P2⟩, hP⟩ : ∃ P, ord qq (S 13 (pth (S 13) L n)) (ro_1 (S 13) L (pth (S 13) L n)) (ro_2 (S 13) L (pth (S 13) L n)) = P := ⟨_, rfl⟩
            rw [hP] at m1 m2 hgs
            dsimp only at m1 m2 hgs
            rw [show 60 - n = (60 - (n + 1)) + 1 by omega, oc_s hon.1 hP] at hoc
            have hg3 := hgs.2.2
            refine vv_topi (fun x3p44 e3p44 => ?_)
            refine vv_istore_n (pc := 44) (i := 3) (ls' := [(3, .int x3p44), (0, .ref (gad G 7)), (1, .int x1), (2, .int x2)]) dX5_carryOut_44 rfl (by decide) rfl ?_
            refine vv_iload_n (pc := 45) 0 dX5_carryOut_45 rfl rfl ?_
            refine vv_if_ge (pc := 46) (tgt := 55) dX5_carryOut_46 (by decide) (fun c46 => ?_) (fun c46 => ?_)
            -- t@46 path tL25fft
            · refine vv_iconst (pc := 55) (v := 1) dX5_carryOut_55 (by decide) ?_
              refine vv_goto (pc := 56) (tgt := 60) dX5_carryOut_56 (by decide) ?_
              refine vv_topi (fun x2p60 e2p60 => ?_)
              refine vv_istore_n (pc := 60) (i := 2) (ls' := [(2, .int x2p60), (3, .int x3p44), (0, .ref (gad G 7)), (1, .int x1)]) dX5_carryOut_60 rfl (by decide) rfl ?_
              refine vv_iload_n (pc := 61) 3 dX5_carryOut_61 rfl rfl ?_
              refine vv_iload_n (pc := 62) 0 dX5_carryOut_62 rfl rfl ?_
              refine vv_if_eq (pc := 63) (tgt := 70) dX5_carryOut_63 (by decide) (fun c63 => absurd (e2p60.symm.trans c63) (by decide)) (fun c63 => ?_)
              refine vv_iconst (pc := 66) (v := 1) dX5_carryOut_66 (by decide) ?_
              refine vv_goto (pc := 67) (tgt := 71) dX5_carryOut_67 (by decide) ?_
              refine vv_iadd (pc := 71) dX5_carryOut_71 ?_
              refine vv_topi (fun x1p72 e1p72 => ?_)
              refine vv_istore_n (pc := 72) (i := 1) (ls' := [(1, .int x1p72), (2, .int x2p60), (3, .int x3p44), (0, .ref (gad G 7))]) dX5_carryOut_72 rfl (by decide) rfl ?_
              refine vv_goto (pc := 73) (tgt := 25) dX5_carryOut_73 (by decide) ?_
              refine vv_sub [3, 0, 1] (ls' := [(0, _), (1, _), (2, _)]) rfl ?_
              exact ih (n + 1) _ _ P2 _ (fun _ => by omega) (fun h => absurd (e2p60.symm.trans h) (by decide)) (by omega) (by rw [e1p72, e1, nI_1]) hgs.1 (fun _ => by omega) m2.symm (mh_of hmm (by rw [m3]) m4) (by rw [m3, h78x]) (by rw [m3, h11]) (by rw [m5 15 (by decide) (by decide) (by decide) (by decide) (by decide), h15]) (fun j a b c d e f => by rw [m5 j a b c d e, hxo j a b c d e f]) (fun _ => (if_pos (by rw [← m1]; exact sp_err_0.mpr (Or.inl (by rw [← e3p44]; exact c46)))).symm.trans hoc) (fun h => absurd (e2p60.symm.trans h) (by decide))
            -- f@46 path tL25fff
            · refine vv_iload_n (pc := 49) 0 dX5_carryOut_49 rfl rfl ?_
              refine vv_bipush (pc := 50) (v := (-6)) dX5_carryOut_50 (by decide) ?_
              refine vv_icmp_ne (pc := 52) (tgt := 59) dX5_carryOut_52 (by decide) (fun c52 => ?_) (fun c52 => ?_)
              -- t@52 path tL25ffft
              · refine vv_iconst (pc := 59) (v := 0) dX5_carryOut_59 (by decide) ?_
                refine vv_topi (fun x2p60 e2p60 => ?_)
                refine vv_istore_n (pc := 60) (i := 2) (ls' := [(2, .int x2p60), (3, .int x3p44), (0, .ref (gad G 7)), (1, .int x1)]) dX5_carryOut_60 rfl (by decide) rfl ?_
                refine vv_iload_n (pc := 61) 3 dX5_carryOut_61 rfl rfl ?_
                refine vv_iload_n (pc := 62) 0 dX5_carryOut_62 rfl rfl ?_
                refine vv_if_eq (pc := 63) (tgt := 70) dX5_carryOut_63 (by decide) (fun c63 => ?_) (fun c63 => absurd e2p60 c63)
                refine vv_iconst (pc := 70) (v := 0) dX5_carryOut_70 (by decide) ?_
                refine vv_iadd (pc := 71) dX5_carryOut_71 ?_
                refine vv_topi (fun x1p72 e1p72 => ?_)
                refine vv_istore_n (pc := 72) (i := 1) (ls' := [(1, .int x1p72), (2, .int x2p60), (3, .int x3p44), (0, .ref (gad G 7))]) dX5_carryOut_72 rfl (by decide) rfl ?_
                refine vv_goto (pc := 73) (tgt := 25) dX5_carryOut_73 (by decide) ?_
                refine vv_sub [3, 0, 1] (ls' := [(0, _), (1, _), (2, _)]) rfl ?_
                exact ih n _ _ P2 _ (fun h => absurd e2p60 h) (fun _ => by omega) hnl (by rw [e1p72, e1]; exact Int32.add_zero _) hgs.1 (fun h => absurd e2p60 h) m2.symm (mh_of hmm (by rw [m3]) m4) (by rw [m3, h78x]) (by rw [m3, h11]) (by rw [m5 15 (by decide) (by decide) (by decide) (by decide) (by decide), h15]) (fun j a b c d e f => by rw [m5 j a b c d e, hxo j a b c d e f]) (fun h => absurd e2p60 h) (fun _ => hoc.symm.trans (if_neg (fun h => (sp_err_0.mp h).elim (fun g => c46 (by rw [e3p44, m1]; exact g)) (fun g => c52 (by rw [e3p44, m1]; exact g)))))
              -- f@52 path tL25ffff
              · refine vv_iconst (pc := 55) (v := 1) dX5_carryOut_55 (by decide) ?_
                refine vv_goto (pc := 56) (tgt := 60) dX5_carryOut_56 (by decide) ?_
                refine vv_topi (fun x2p60 e2p60 => ?_)
                refine vv_istore_n (pc := 60) (i := 2) (ls' := [(2, .int x2p60), (3, .int x3p44), (0, .ref (gad G 7)), (1, .int x1)]) dX5_carryOut_60 rfl (by decide) rfl ?_
                refine vv_iload_n (pc := 61) 3 dX5_carryOut_61 rfl rfl ?_
                refine vv_iload_n (pc := 62) 0 dX5_carryOut_62 rfl rfl ?_
                refine vv_if_eq (pc := 63) (tgt := 70) dX5_carryOut_63 (by decide) (fun c63 => absurd (e2p60.symm.trans c63) (by decide)) (fun c63 => ?_)
                refine vv_iconst (pc := 66) (v := 1) dX5_carryOut_66 (by decide) ?_
                refine vv_goto (pc := 67) (tgt := 71) dX5_carryOut_67 (by decide) ?_
                refine vv_iadd (pc := 71) dX5_carryOut_71 ?_
                refine vv_topi (fun x1p72 e1p72 => ?_)
                refine vv_istore_n (pc := 72) (i := 1) (ls' := [(1, .int x1p72), (2, .int x2p60), (3, .int x3p44), (0, .ref (gad G 7))]) dX5_carryOut_72 rfl (by decide) rfl ?_
                refine vv_goto (pc := 73) (tgt := 25) dX5_carryOut_73 (by decide) ?_
                refine vv_sub [3, 0, 1] (ls' := [(0, _), (1, _), (2, _)]) rfl ?_
                exact ih (n + 1) _ _ P2 _ (fun _ => by omega) (fun h => absurd (e2p60.symm.trans h) (by decide)) (by omega) (by rw [e1p72, e1, nI_1]) hgs.1 (fun _ => by omega) m2.symm (mh_of hmm (by rw [m3]) m4) (by rw [m3, h78x]) (by rw [m3, h11]) (by rw [m5 15 (by decide) (by decide) (by decide) (by decide) (by decide), h15]) (fun j a b c d e f => by rw [m5 j a b c d e, hxo j a b c d e f]) (fun _ => (if_pos (by rw [← m1]; exact sp_err_0.mpr (Or.inr (by rw [← e3p44]; exact c52)))).symm.trans hoc) (fun h => absurd (e2p60.symm.trans h) (by decide))
    refine vv_sub [2, 1, 0] (ls' := [(0, _), (1, _), (2, _)]) rfl ?_
    exact lp25 (N + 2) 0 _ _ q Sa (fun _ => by omega) (fun _ => by omega) (Nat.zero_le _) e1p22 hg (fun _ => by omega) ha8.symm ham ha78 ha11 ha15 hao (fun _ => rfl) (fun h => absurd (e2p24.symm.trans h) (by decide))
  -- f@6 path f
  · refine vv_bipush (pc := 9) (v := (-3)) dX5_carryOut_9 (by decide) ?_
    refine vr_i (pc := 11) dX5_carryOut_11 ?_
    rw [hr1] at c6
    exact ⟨fun _ => ⟨rfl, N, i, w, O, eS1⟩, fun h => absurd h c6⟩
