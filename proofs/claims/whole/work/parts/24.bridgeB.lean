set_option maxRecDepth 100000 in
set_option maxHeartbeats 4000000 in
theorem c_X0_reckon (l : Launch) (G : gG) {C b : Nat} {z : Nat → Int32} (hb : b < 11) (S : Mem) (hw : sp_ws C z) (hr : rb C S b z) : mm_C l G yX0_reckon cX0_reckon 4 (none) (mm_rm 1 26) [.ref (gad G (mm_B b))] S (mm_Qv G (fun S2 => f5_ C b S S2 ∧ rt_ C S2 b z)) := by
  obtain ⟨g1, g2, g3, g4, g5, g6, g7, g8, g9⟩ := id hr
  have hC := hw.1
  refine mm_ofV (own := RX0) (by decide +kernel) rfl (Nat.le_of_ble_eq_true rfl) (ls0 := [(0, .ref (gad G (mm_B b)))]) rfl ?_
  refine vv_iconst (pc := 0) (v := 0) dX0_reckon_0 (by decide) ?_
  refine vv_topi (fun x1p1 e1p1 => ?_)
  refine vv_istore_n (pc := 1) (i := 1) (ls' := [(1, .int x1p1), (0, .ref (gad G (mm_B b)))]) dX0_reckon_1 rfl (by decide) rfl ?_
  have lp2 : ∀ (n : Nat) (q : Nat) (x1 : Int32) (S1 : Mem), 9 ≤ n + q → q ≤ C → x1 = nI q → f5_ C b S S1 → (∀ k, k < q → S1 (mm_W b k) 5 = 0) → mm_V l G RX0 cX0_reckon 4 (none) (mm_rm 1 26) 0 0 (fun _ => True) (fun _ => mm_F G) (mm_Qf G (mm_Qv G (fun S2 => f5_ C b S S2 ∧ rt_ C S2 b z))) S1 2 [(0, .ref (gad G (mm_B b))), (1, .int x1)] [] := by
    intro n
    induction n with
    | zero =>
      intro q x1 S1 hn hq e1 hf h0
      exact absurd hn (by omega)
    | succ n ih =>
      intro q x1 S1 hn hq e1 hf h0
      have hr1 := f5_rb hC hf hr
      have hB3 : S1 (mm_B b) 3 = nI C := hr1.1.trans hw.2.1
      refine vv_iload_n (pc := 2) 1 dX0_reckon_2 rfl rfl ?_
      refine vv_aload_n (pc := 3) 0 dX0_reckon_3 rfl rfl ?_
      refine vg_X0_wireCount (pc := 4) (by assumption) mw_F_X0_38 dX0_reckon_4 ?_
      refine vv_icmp_ge (pc := 7) (tgt := 26) dX0_reckon_7 (by decide) (fun c7 => ?_) (fun c7 => ?_)
      -- t@7 path L2t
      · rw [hB3] at c7
        have hqC := sp_geN (N := C) (by omega) hq e1 c7
        refine vv_null (pc := 26) dX0_reckon_26 ?_
        refine vv_astore_nN (pc := 27) (i := 1) (ls' := [(1, .null), (0, .ref (gad G (mm_B b)))]) dX0_reckon_27 rfl (by decide) rfl ?_
        refine vv_aload_n (pc := 28) 1 dX0_reckon_28 rfl rfl ?_
        refine vv_iconst (pc := 29) (v := 0) dX0_reckon_29 (by decide) ?_
        refine vc_Vq (pc := 30) (c_X0_nextWhole l G (by assumption) _ (by assumption) hr1 (p := 0) rfl (by decide)) mw_M_X0_125 my_X0_nextWhole (mm_rv_B (by assumption)) ⟨by decide, by decide⟩ rfl rfl (Nat.le_of_ble_eq_true rfl) dX0_reckon_30 (fun r30 S30 h30 => ?_)
        obtain ⟨qS30, h30⟩ := h30
        replace qS30 := qS30.symm
        subst qS30
        refine vv_astore_nQ (pc := 33) (i := 2) (ls' := [(2, va_rf r30), (1, .null), (0, .ref (gad G (mm_B b)))]) dX0_reckon_33 rfl (by decide) rfl ?_
        refine vv_iconst (pc := 34) (v := 0) dX0_reckon_34 (by decide) ?_
        refine vv_topi (fun x3p35 e3p35 => ?_)
        refine vv_istore_n (pc := 35) (i := 3) (ls' := [(3, .int x3p35), (2, va_rf r30), (1, .null), (0, .ref (gad G (mm_B b)))]) dX0_reckon_35 rfl (by decide) (by simp only [List.filter, mm_rfcat]; rfl) ?_
        have lp36 : ∀ (n : Nat) (p kL kR : Nat) (x3 : Int32) (S2 : Mem), 21 ≤ n + p → p ≤ 20 → x3 = nI p → (p = 0 → kL = 99) → (∀ p1, p = p1 + 1 → kL = sp_lf z 5 p1 C) → (p = 0 → kR = sp_rt z 5 0 C) → (∀ p1, p = p1 + 1 → kR = sp_rt z 5 p1 C) → f5_ C b S S2 → (∀ w, w < C → S2 (mm_W b w) 5 = sp_T z 5 C w p) → mm_V l G RX0 cX0_reckon 4 (none) (mm_rm 1 26) 0 0 (fun _ => True) (fun _ => mm_F G) (mm_Qf G (mm_Qv G (fun S2 => f5_ C b S S2 ∧ rt_ C S2 b z))) S2 36 [(0, .ref (gad G (mm_B b))), (1, va_rf (sp_rf G b kL)), (2, va_rf (sp_rf G b kR)), (3, .int x3)] [] := by
          intro n
          induction n with
          | zero =>
            intro p kL kR x3 S2 hn hp e3 hL0 hL1 hR0 hR1 hf2 hT
            exact absurd hn (by omega)
          | succ n ih =>
            intro p kL kR x3 S2 hn hp e3 hL0 hL1 hR0 hR1 hf2 hT
            have hr2 := f5_rb hC hf2 hr
            obtain ⟨k1, k2, k3, k4, k5, k6, k7, k8, k9⟩ := id hr2
            have cut74 : ∀ (hp20 : p < 20), mm_V l G RX0 cX0_reckon 4 (none) (mm_rm 1 26) 0 0 (fun _ => True) (fun _ => mm_F G) (mm_Qf G (mm_Qv G (fun S2 => f5_ C b S S2 ∧ rt_ C S2 b z))) S2 74 [(0, .ref (gad G (mm_B b))), (1, va_rf (sp_rf G b (sp_lf z 5 p C))), (2, va_rf (sp_rf G b (sp_rt z 5 p C))), (3, .int x3)] [] := by
              intro hp20
              have hld : S2 (mm_L b) p = z (10 + p) := k7 p hp20
              rcases sp_rf_cases G b (sp_lf z 5 p C) with ⟨gL, eL⟩ | ⟨gL, eL⟩ <;> rcases sp_rf_cases G b (sp_rt z 5 p C) with ⟨gR, eR⟩ | ⟨gR, eR⟩ <;> rw [eL, eR]
              · refine vv_sub [0, 1, 2, 3] (ls' := [(0, .ref (gad G (mm_B b))), (1, .null), (2, .null), (3, .int x3)]) rfl ?_
                refine vv_aload_n (pc := 74) 0 dX0_reckon_74 rfl rfl ?_
                refine vv_iload_n (pc := 75) 3 dX0_reckon_75 rfl rfl ?_
                refine vv_aload_nN (pc := 76) 1 dX0_reckon_76 rfl rfl ?_
                refine vv_aload_nN (pc := 77) 2 dX0_reckon_77 rfl rfl ?_
                refine vc_Vv (pc := 78) (c_X0_share_nn l G (by assumption) _ e3 hp20) mw_M_X0_129 my_X0_share (mm_rv_B (by assumption)) ⟨by decide, by decide⟩ rfl rfl (Nat.le_of_ble_eq_true rfl) dX0_reckon_78 (fun S78 h78 => ?_)
                obtain ⟨x3p81, e3p81⟩ : ∃ y : Int32, y = x3 + 1 := ⟨_, rfl⟩
                refine vv_iinc (pc := 81) (q := 3) (v := x3p81) (ls' := [(3, .int x3p81), (0, .ref (gad G (mm_B b))), (1, .null), (2, .null)]) dX0_reckon_81 rfl (by rw [e3p81]; rfl) (by decide) rfl ?_
                refine vv_goto (pc := 84) (tgt := 36) dX0_reckon_84 (by decide) ?_
                refine vv_sub [1, 2, 3, 0] (ls' := [(0, _), (1, _), (2, _), (3, _)]) rfl ?_
                have hT3 : ∀ w, w < C → S78 (mm_W b w) 5 = sp_T z 5 C w (p + 1) := by
                  intro w hw2
                  rw [h78, sp_T, sp_ctb_nn gL gR, Int32.add_zero]
                  exact hT w hw2
                have hf3 : f5_ C b S S78 := by rw [h78]; exact hf2
                have hh := ih (p + 1) (sp_lf z 5 p C) (sp_rt z 5 p C) x3p81 _ (by omega) (by omega) (by rw [e3p81, e3]; exact nI_1 p) (fun h => absurd h (by omega)) (fun p1 h => by obtain rfl : p1 = p := (by omega); rfl) (fun h => absurd h (by omega)) (fun p1 h => by obtain rfl : p1 = p := (by omega); rfl) hf3 hT3
                rw [eL, eR] at hh
                exact hh
              · refine vv_sub [0, 1, 2, 3] (ls' := [(0, .ref (gad G (mm_B b))), (1, .null), (2, .ref (gad G (mm_W b (sp_rt z 5 p C)))), (3, .int x3)]) rfl ?_
                have hltR := sp_rt_lt (f := 5) (p := p) hC gR
                refine vv_aload_n (pc := 74) 0 dX0_reckon_74 rfl rfl ?_
                refine vv_iload_n (pc := 75) 3 dX0_reckon_75 rfl rfl ?_
                refine vv_aload_nN (pc := 76) 1 dX0_reckon_76 rfl rfl ?_
                refine vv_aload_n (pc := 77) 2 dX0_reckon_77 rfl rfl ?_
                refine vc_Vv (pc := 78) (c_X0_share_nr l G (by assumption) _ e3 hp20 (by omega)) mw_M_X0_129 my_X0_share (mm_rv_B (by assumption)) ⟨by decide, by decide⟩ rfl rfl (Nat.le_of_ble_eq_true rfl) dX0_reckon_78 (fun S78 h78 => ?_)
                obtain ⟨x3p81, e3p81⟩ : ∃ y : Int32, y = x3 + 1 := ⟨_, rfl⟩
                refine vv_iinc (pc := 81) (q := 3) (v := x3p81) (ls' := [(3, .int x3p81), (0, .ref (gad G (mm_B b))), (1, .null), (2, .ref (gad G (mm_W b (sp_rt z 5 p C))))]) dX0_reckon_81 rfl (by rw [e3p81]; rfl) (by decide) rfl ?_
                refine vv_goto (pc := 84) (tgt := 36) dX0_reckon_84 (by decide) ?_
                refine vv_sub [1, 2, 3, 0] (ls' := [(0, _), (1, _), (2, _), (3, _)]) rfl ?_
                have hT3 : ∀ w, w < C → S78 (mm_W b w) 5 = sp_T z 5 C w (p + 1) := by
                  rw [h78]
                  exact sp_sh1_T hltR hld hT (fun w _ => sp_ctb_nr gL gR)
                have hf3 : f5_ C b S S78 := by rw [h78]; exact sp_sh1_f5 hf2 hltR
                have hh := ih (p + 1) (sp_lf z 5 p C) (sp_rt z 5 p C) x3p81 _ (by omega) (by omega) (by rw [e3p81, e3]; exact nI_1 p) (fun h => absurd h (by omega)) (fun p1 h => by obtain rfl : p1 = p := (by omega); rfl) (fun h => absurd h (by omega)) (fun p1 h => by obtain rfl : p1 = p := (by omega); rfl) hf3 hT3
                rw [eL, eR] at hh
                exact hh
              · refine vv_sub [0, 1, 2, 3] (ls' := [(0, .ref (gad G (mm_B b))), (1, .ref (gad G (mm_W b (sp_lf z 5 p C)))), (2, .null), (3, .int x3)]) rfl ?_
                have hltL := sp_lf_lt (f := 5) (p := p) hC gL
                refine vv_aload_n (pc := 74) 0 dX0_reckon_74 rfl rfl ?_
                refine vv_iload_n (pc := 75) 3 dX0_reckon_75 rfl rfl ?_
                refine vv_aload_n (pc := 76) 1 dX0_reckon_76 rfl rfl ?_
                refine vv_aload_nN (pc := 77) 2 dX0_reckon_77 rfl rfl ?_
                refine vc_Vv (pc := 78) (c_X0_share_rn l G (by assumption) _ e3 hp20 (by omega)) mw_M_X0_129 my_X0_share (mm_rv_B (by assumption)) ⟨by decide, by decide⟩ rfl rfl (Nat.le_of_ble_eq_true rfl) dX0_reckon_78 (fun S78 h78 => ?_)
                obtain ⟨x3p81, e3p81⟩ : ∃ y : Int32, y = x3 + 1 := ⟨_, rfl⟩
                refine vv_iinc (pc := 81) (q := 3) (v := x3p81) (ls' := [(3, .int x3p81), (0, .ref (gad G (mm_B b))), (1, .ref (gad G (mm_W b (sp_lf z 5 p C)))), (2, .null)]) dX0_reckon_81 rfl (by rw [e3p81]; rfl) (by decide) rfl ?_
                refine vv_goto (pc := 84) (tgt := 36) dX0_reckon_84 (by decide) ?_
                refine vv_sub [1, 2, 3, 0] (ls' := [(0, _), (1, _), (2, _), (3, _)]) rfl ?_
                have hT3 : ∀ w, w < C → S78 (mm_W b w) 5 = sp_T z 5 C w (p + 1) := by
                  rw [h78]
                  exact sp_sh1_T hltL hld hT (fun w _ => sp_ctb_rn gL gR)
                have hf3 : f5_ C b S S78 := by rw [h78]; exact sp_sh1_f5 hf2 hltL
                have hh := ih (p + 1) (sp_lf z 5 p C) (sp_rt z 5 p C) x3p81 _ (by omega) (by omega) (by rw [e3p81, e3]; exact nI_1 p) (fun h => absurd h (by omega)) (fun p1 h => by obtain rfl : p1 = p := (by omega); rfl) (fun h => absurd h (by omega)) (fun p1 h => by obtain rfl : p1 = p := (by omega); rfl) hf3 hT3
                rw [eL, eR] at hh
                exact hh
              · refine vv_sub [0, 1, 2, 3] (ls' := [(0, .ref (gad G (mm_B b))), (1, .ref (gad G (mm_W b (sp_lf z 5 p C)))), (2, .ref (gad G (mm_W b (sp_rt z 5 p C)))), (3, .int x3)]) rfl ?_
                have hltL := sp_lf_lt (f := 5) (p := p) hC gL
                have hltR := sp_rt_lt (f := 5) (p := p) hC gR
                refine vv_aload_n (pc := 74) 0 dX0_reckon_74 rfl rfl ?_
                refine vv_iload_n (pc := 75) 3 dX0_reckon_75 rfl rfl ?_
                refine vv_aload_n (pc := 76) 1 dX0_reckon_76 rfl rfl ?_
                refine vv_aload_n (pc := 77) 2 dX0_reckon_77 rfl rfl ?_
                refine vc_Vv (pc := 78) (c_X0_share_rr l G (by assumption) _ e3 hp20 (by omega) (by omega)) mw_M_X0_129 my_X0_share (mm_rv_B (by assumption)) ⟨by decide, by decide⟩ rfl rfl (Nat.le_of_ble_eq_true rfl) dX0_reckon_78 (fun S78 h78 => ?_)
                obtain ⟨x3p81, e3p81⟩ : ∃ y : Int32, y = x3 + 1 := ⟨_, rfl⟩
                refine vv_iinc (pc := 81) (q := 3) (v := x3p81) (ls' := [(3, .int x3p81), (0, .ref (gad G (mm_B b))), (1, .ref (gad G (mm_W b (sp_lf z 5 p C)))), (2, .ref (gad G (mm_W b (sp_rt z 5 p C))))]) dX0_reckon_81 rfl (by rw [e3p81]; rfl) (by decide) rfl ?_
                refine vv_goto (pc := 84) (tgt := 36) dX0_reckon_84 (by decide) ?_
                refine vv_sub [1, 2, 3, 0] (ls' := [(0, _), (1, _), (2, _), (3, _)]) rfl ?_
                have hT3 : ∀ w, w < C → S78 (mm_W b w) 5 = sp_T z 5 C w (p + 1) := by
                  rw [h78]
                  by_cases he : sp_lf z 5 p C = sp_rt z 5 p C
                  · rw [he]
                    exact sp_sh2_eq hltR hld hT (fun w _ => by rw [sp_ctb_eq gL he, he])
                  · refine sp_sh2_ne he hld (k9 _ hltL).1 (k9 _ hltR).1 ?_ hT (fun w _ => sp_ctb_ne gL gR he)
                    have g1 := sp_lf_le hC gL
                    have g2 := sp_rt_ge hC gR
                    have g3 := (hw.2.2.1 _ hltL).2
                    have g4 := (hw.2.2.1 _ hltR).2
                    rw [(hw.2.2.1 _ hltL).1, (hw.2.2.1 _ hltR).1]
                    refine sp_pos (by omega) (by omega) ?_
                    rcases Nat.lt_or_ge (sp_at z (sp_lf z 5 p C)) (sp_at z (sp_rt z 5 p C)) with h | h
                    · exact h
                    · exact absurd (hw.2.2.2 _ _ hltL hltR (by omega)) he
                have hf3 : f5_ C b S S78 := by rw [h78]; exact sp_sh2_f5 hf2 hltL hltR
                have hh := ih (p + 1) (sp_lf z 5 p C) (sp_rt z 5 p C) x3p81 _ (by omega) (by omega) (by rw [e3p81, e3]; exact nI_1 p) (fun h => absurd h (by omega)) (fun p1 h => by obtain rfl : p1 = p := (by omega); rfl) (fun h => absurd h (by omega)) (fun p1 h => by obtain rfl : p1 = p := (by omega); rfl) hf3 hT3
                rw [eL, eR] at hh
                exact hh
            have cut60 : ∀ (hp20 : p < 20), mm_V l G RX0 cX0_reckon 4 (none) (mm_rm 1 26) 0 0 (fun _ => True) (fun _ => mm_F G) (mm_Qf G (mm_Qv G (fun S2 => f5_ C b S S2 ∧ rt_ C S2 b z))) S2 60 [(0, .ref (gad G (mm_B b))), (1, va_rf (sp_rf G b kL)), (2, va_rf (sp_rf G b (sp_rt z 5 p C))), (3, .int x3)] [] := by
              intro hp20
              have cut := cut74 hp20
              rcases sp_rf_cases G b (sp_rt z 5 p C) with ⟨gR, eR⟩ | ⟨gR, eR⟩ <;> rw [eR]
              · refine vv_sub [0, 1, 2, 3] (ls' := [(0, .ref (gad G (mm_B b))), (1, va_rf (sp_rf G b kL)), (2, .null), (3, .int x3)]) rfl ?_
                refine vv_aload_nN (pc := 60) 2 dX0_reckon_60 rfl rfl ?_
                refine vv_ifnullN (pc := 61) (tgt := 74) dX0_reckon_61 (by decide) ?_
                have hlf : sp_lf z 5 p C = kL := by
                  rcases p with _ | p1
                  · rw [hL0 rfl]; exact sp_lf_0 hw (Or.inl gR)
                  · rw [hL1 p1 rfl]; exact sp_lf_on hw (Or.inl gR)
                rw [hlf, eR] at cut
                refine vv_sub [0, 1, 2, 3] (ls' := [(0, _), (1, _), (2, _), (3, _)]) rfl ?_
                exact cut
              · refine vv_sub [0, 1, 2, 3] (ls' := [(0, .ref (gad G (mm_B b))), (1, va_rf (sp_rf G b kL)), (2, .ref (gad G (mm_W b (sp_rt z 5 p C)))), (3, .int x3)]) rfl ?_
                refine vv_aload_n (pc := 60) 2 dX0_reckon_60 rfl rfl ?_
                refine vv_ifnull (pc := 61) dX0_reckon_61 ?_
                have hlt := sp_rt_lt (f := 5) (p := p) hC gR
                have hlt8 : sp_rt z 5 p C < 8 := by omega
                refine vv_aload_n (pc := 64) 2 dX0_reckon_64 rfl rfl ?_
                refine vg_X3_place (pc := 65) (by assumption) (by assumption) mw_F_X0_128 dX0_reckon_65 ?_
                refine vv_iload_n (pc := 68) 3 dX0_reckon_68 rfl rfl ?_
                refine vv_icmp_ne (pc := 69) (tgt := 74) dX0_reckon_69 (by decide) (fun c69 => ?_) (fun c69 => ?_)
                -- t@69 path L2tL36C60Rt
                · have hne : sp_at z (sp_rt z 5 p C) ≠ p := fun h => c69 (by rw [(k9 _ hlt).1, (hw.2.2.1 _ hlt).1, h, e3])
                  have hlf : sp_lf z 5 p C = kL := by
                    rcases p with _ | p1
                    · rw [hL0 rfl]; exact sp_lf_0 hw (Or.inr hne)
                    · rw [hL1 p1 rfl]; exact sp_lf_on hw (Or.inr hne)
                  rw [hlf, eR] at cut
                  refine vv_sub [0, 1, 2, 3] (ls' := [(0, _), (1, _), (2, _), (3, _)]) rfl ?_
                  exact cut
                -- f@69 path L2tL36C60Rf
                · refine vv_aload_n (pc := 72) 2 dX0_reckon_72 rfl rfl ?_
                  refine vv_astore_n (pc := 73) (i := 1) (ls' := [(1, .ref (gad G (mm_W b (sp_rt z 5 p C)))), (0, .ref (gad G (mm_B b))), (2, .ref (gad G (mm_W b (sp_rt z 5 p C)))), (3, .int x3)]) dX0_reckon_73 rfl (by decide) (by simp only [List.filter, mm_rfcat]; rfl) ?_
                  have hat : sp_at z (sp_rt z 5 p C) = p := by
                    rw [(k9 _ hlt).1, (hw.2.2.1 _ hlt).1, e3] at c69
                    exact (nI_eq (by have := (hw.2.2.1 _ hlt).2; omega) (by omega)).mp c69
                  rw [sp_lf_here hw gR hat, eR] at cut
                  refine vv_sub [1, 0, 2, 3] (ls' := [(0, _), (1, _), (2, _), (3, _)]) rfl ?_
                  exact cut
            rcases sp_rf_cases G b kR with ⟨gR, eR⟩ | ⟨gR, eR⟩ <;> rw [eR]
            · refine vv_sub [0, 1, 2, 3] (ls' := [(0, .ref (gad G (mm_B b))), (1, va_rf (sp_rf G b kL)), (2, .null), (3, .int x3)]) rfl ?_
              refine vv_iload_n (pc := 36) 3 dX0_reckon_36 rfl rfl ?_
              refine vv_bipush (pc := 37) (v := 20) dX0_reckon_37 (by decide) ?_
              refine vv_icmp_ge (pc := 39) (tgt := 87) dX0_reckon_39 (by decide) (fun c39 => ?_) (fun c39 => ?_)
              -- t@39 path L2tL36Nt
              · refine vr_v (pc := 87) dX0_reckon_87 ?_
                have hp20 := sp_geN (N := 20) (by decide) hp e3 c39
                subst hp20
                exact ⟨hf2, fun k hk => hT k hk⟩
              -- f@39 path L2tL36Nf
              · have hp20 : p < 20 := sp_ltN (N := 20) (by decide) hp e3 c39
                refine vv_aload_nN (pc := 42) 2 dX0_reckon_42 rfl rfl ?_
                refine vv_ifnullN (pc := 43) (tgt := 60) dX0_reckon_43 (by decide) ?_
                have cut := cut60 hp20
                have hrt : sp_rt z 5 p C = kR := by
                  rcases p with _ | p1
                  · rw [hR0 rfl]
                  · rw [gR]; exact sp_rt_no1 hC ((hR1 p1 rfl).symm.trans gR)
                rw [hrt, eR] at cut
                refine vv_sub [0, 1, 2, 3] (ls' := [(0, _), (1, _), (2, _), (3, _)]) rfl ?_
                exact cut
            · refine vv_sub [0, 1, 2, 3] (ls' := [(0, .ref (gad G (mm_B b))), (1, va_rf (sp_rf G b kL)), (2, .ref (gad G (mm_W b kR))), (3, .int x3)]) rfl ?_
              refine vv_iload_n (pc := 36) 3 dX0_reckon_36 rfl rfl ?_
              refine vv_bipush (pc := 37) (v := 20) dX0_reckon_37 (by decide) ?_
              refine vv_icmp_ge (pc := 39) (tgt := 87) dX0_reckon_39 (by decide) (fun c39 => ?_) (fun c39 => ?_)
              -- t@39 path L2tL36Rt
              · refine vr_v (pc := 87) dX0_reckon_87 ?_
                have hp20 := sp_geN (N := 20) (by decide) hp e3 c39
                subst hp20
                exact ⟨hf2, fun k hk => hT k hk⟩
              -- f@39 path L2tL36Rf
              · have hp20 : p < 20 := sp_ltN (N := 20) (by decide) hp e3 c39
                refine vv_aload_n (pc := 42) 2 dX0_reckon_42 rfl rfl ?_
                refine vv_ifnull (pc := 43) dX0_reckon_43 ?_
                have hkR : kR < C := by
                  rcases p with _ | p1
                  · rw [hR0 rfl] at gR ⊢; exact sp_rt_lt hC gR
                  · rw [hR1 p1 rfl] at gR ⊢; exact sp_rt_lt hC gR
                have hkR8 : kR < 8 := by omega
                refine vv_aload_n (pc := 46) 2 dX0_reckon_46 rfl rfl ?_
                refine vg_X3_place (pc := 47) (by assumption) (by assumption) mw_F_X0_128 dX0_reckon_47 ?_
                refine vv_iload_n (pc := 50) 3 dX0_reckon_50 rfl rfl ?_
                refine vv_icmp_ge (pc := 51) (tgt := 60) dX0_reckon_51 (by decide) (fun c51 => ?_) (fun c51 => ?_)
                -- t@51 path L2tL36Rft
                · have cut := cut60 hp20
                  rw [(k9 _ hkR).1, (hw.2.2.1 _ hkR).1, e3, nI_leI (by omega) (by have := (hw.2.2.1 _ hkR).2; omega)] at c51
                  have hrt : sp_rt z 5 p C = kR := by
                    rcases p with _ | p1
                    · rw [hR0 rfl]
                    · have h9 := hR1 p1 rfl
                      rw [h9] at gR c51 ⊢
                      exact sp_rt_k1 hw gR c51
                  rw [hrt, eR] at cut
                  refine vv_sub [0, 1, 2, 3] (ls' := [(0, _), (1, _), (2, _), (3, _)]) rfl ?_
                  exact cut
                -- f@51 path L2tL36Rff
                · refine vv_aload_n (pc := 54) 0 dX0_reckon_54 rfl rfl ?_
                  refine vv_iload_n (pc := 55) 3 dX0_reckon_55 rfl rfl ?_
                  refine vc_Vq (pc := 56) (c_X0_nextWhole l G (by assumption) _ (by assumption) (by assumption) (p := _) (by assumption) (by omega)) mw_M_X0_125 my_X0_nextWhole (mm_rv_B (by assumption)) ⟨by decide, by decide⟩ rfl rfl (Nat.le_of_ble_eq_true rfl) dX0_reckon_56 (fun r56 S56 h56 => ?_)
                  obtain ⟨qS56, h56⟩ := h56
                  replace qS56 := qS56.symm
                  subst qS56
                  refine vv_astore_nQ (pc := 59) (i := 2) (ls' := [(2, va_rf r56), (0, .ref (gad G (mm_B b))), (1, va_rf (sp_rf G b kL)), (3, .int x3)]) dX0_reckon_59 rfl (by decide) (by simp only [List.filter, mm_rfcat]; rfl) ?_
                  have cut := cut60 hp20
                  rw [h56]
                  refine vv_sub [1, 2, 0, 3] (ls' := [(0, _), (1, _), (2, _), (3, _)]) rfl ?_
                  exact cut
        refine vv_sub [3, 2, 1, 0] (ls' := [(0, _), (1, _), (2, _), (3, _)]) rfl ?_
        rw [h30]
        exact lp36 21 0 99 (sp_rt z 5 0 C) x3p35 S1 (by omega) (by omega) e3p35 (fun _ => rfl) (fun p1 h => absurd h (by omega)) (fun _ => rfl) (fun p1 h => absurd h (by omega)) hf (fun w hw2 => by rw [sp_T0]; exact h0 w (by omega))
      -- f@7 path L2f
      · rw [hB3] at c7
        have hqC : q < C := sp_ltN (N := C) (by omega) hq e1 c7
        have hx1 : x1.toNatClampNeg = q := by rw [e1, cl_n (by omega)]
        refine vv_aload_n (pc := 10) 0 dX0_reckon_10 rfl rfl ?_
        refine vg_X0_wires (pc := 11) (by assumption) mw_F_X0_20 dX0_reckon_11 ?_
        refine vv_iload_n (pc := 14) 1 dX0_reckon_14 rfl rfl ?_
        refine vl_R (pc := 15) (by assumption) (by rw [e1]; exact vp_8 (by omega)) dX0_reckon_15 ?_
        rw [hx1]
        refine vv_iconst (pc := 16) (v := 0) dX0_reckon_16 (by decide) ?_
        refine vp_X3_task (pc := 17) (by assumption) (by omega) mw_F_X0_122 dX0_reckon_17 ?_
        obtain ⟨x1p20, e1p20⟩ : ∃ y : Int32, y = x1 + 1 := ⟨_, rfl⟩
        refine vv_iinc (pc := 20) (q := 1) (v := x1p20) (ls' := [(1, .int x1p20), (0, .ref (gad G (mm_B b)))]) dX0_reckon_20 rfl (by rw [e1p20]; rfl) (by decide) rfl ?_
        refine vv_goto (pc := 23) (tgt := 2) dX0_reckon_23 (by decide) ?_
        have h0n : ∀ k, k < q + 1 → mm_wr S1 (mm_W b q) 5 0 (mm_W b k) 5 = 0 := by
          intro k hk
          by_cases e : k = q
          · subst e; rw [mm_wr_s]
          · rw [mm_wr_n _ _ (Or.inl (mm_W_ne2 e))]; exact h0 k (by omega)
        refine vv_sub [1, 0] (ls' := [(0, _), (1, _)]) rfl ?_
        exact ih (q + 1) x1p20 _ (by omega) (by omega) (by rw [e1p20, e1]; exact nI_1 q) (f5_wr hf hqC 0) h0n
  refine vv_sub [1, 0] (ls' := [(0, _), (1, _)]) rfl ?_
  exact lp2 9 0 x1p1 S (by omega) (by omega) e1p1 (f5_refl C b S) (fun k h => absurd h (Nat.not_lt_zero k))
