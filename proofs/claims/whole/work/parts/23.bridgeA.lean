set_option maxRecDepth 100000 in
set_option maxHeartbeats 4000000 in
theorem c_X0_wireNumbered (l : Launch) (G : gG) {C b : Nat} (hb : b < 11) (S : Mem) (hC : C ≤ 8) (h3 : S (mm_B b) 3 = nI C) (x : Int32) : mm_C l G yX0_wireNumbered cX0_wireNumbered 2 (some (.object "SingingWires$Wire")) (mm_rm 0 0) [.ref (gad G (mm_B b)), .int x] S (mm_Qq G (fun r S2 => S2 = S ∧ r = sp_rf G b (sp_wi C x))) := by
  refine mm_ofV (own := RX0) (by decide +kernel) rfl (Nat.le_of_ble_eq_true rfl) (ls0 := [(0, .ref (gad G (mm_B b))), (1, .int x)]) rfl ?_
  refine vv_iload_n (pc := 0) 1 dX0_wireNumbered_0 rfl rfl ?_
  refine vv_if_lt (pc := 1) (tgt := 21) dX0_wireNumbered_1 (by decide) (fun c1 => ?_) (fun c1 => ?_)
  -- t@1 path t
  · refine vv_null (pc := 21) dX0_wireNumbered_21 ?_
    refine vr_qN (pc := 22) dX0_wireNumbered_22 ?_
    exact ⟨rfl, by rw [sp_wi_lo c1]; rfl⟩
  -- f@1 path f
  · refine vv_iload_n (pc := 4) 1 dX0_wireNumbered_4 rfl rfl ?_
    refine vv_aload_n (pc := 5) 0 dX0_wireNumbered_5 rfl rfl ?_
    refine vg_X0_wireCount (pc := 6) (by assumption) mw_F_X0_38 dX0_wireNumbered_6 ?_
    refine vv_icmp_ge (pc := 9) (tgt := 21) dX0_wireNumbered_9 (by decide) (fun c9 => ?_) (fun c9 => ?_)
    -- t@9 path ft
    · refine vv_null (pc := 21) dX0_wireNumbered_21 ?_
      refine vr_qN (pc := 22) dX0_wireNumbered_22 ?_
      exact ⟨rfl, by rw [h3] at c9; rw [sp_wi_hi c9]; rfl⟩
    -- f@9 path ff
    · rw [h3] at c9
      obtain ⟨w1, w2, w3⟩ := sp_wi_in hC c1 c9
      refine vv_aload_n (pc := 12) 0 dX0_wireNumbered_12 rfl rfl ?_
      refine vg_X0_wires (pc := 13) (by assumption) mw_F_X0_20 dX0_wireNumbered_13 ?_
      refine vv_iload_n (pc := 16) 1 dX0_wireNumbered_16 rfl rfl ?_
      refine vl_R (pc := 17) (by assumption) (sp_vin w3 (by omega) (by decide)) dX0_wireNumbered_17 ?_
      refine vv_goto (pc := 18) (tgt := 22) dX0_wireNumbered_18 (by decide) ?_
      refine vr_q (pc := 22) dX0_wireNumbered_22 ?_
      exact ⟨rfl, by rw [w1]; simp [sp_rf]; omega⟩
set_option maxRecDepth 100000 in
set_option maxHeartbeats 4000000 in
theorem c_X0_nextWhole (l : Launch) (G : gG) {C b : Nat} {z : Nat → Int32} (hb : b < 11) (S : Mem) (hw : sp_ws C z) (hr : rb C S b z) {p : Nat} (hp : p < 1000) : mm_C l G yX0_nextWhole cX0_nextWhole 4 (some (.object "SingingWires$Wire")) (mm_rm 0 0) [.ref (gad G (mm_B b)), .int (nI p)] S (mm_Qq G (fun r S2 => S2 = S ∧ r = sp_rf G b (sp_rt z 5 p C))) := by
  obtain ⟨g1, g2, g3, g4, g5, g6, g7, g8, g9⟩ := id hr
  have hC := hw.1
  refine mm_ofV (own := RX0) (by decide +kernel) rfl (Nat.le_of_ble_eq_true rfl) (ls0 := [(0, .ref (gad G (mm_B b))), (1, .int (nI p))]) rfl ?_
  refine vv_iconst (pc := 0) (v := 0) dX0_nextWhole_0 (by decide) ?_
  refine vv_topi (fun x2p1 e2p1 => ?_)
  refine vv_istore_n (pc := 1) (ls' := [(2, .int x2p1), (0, .ref (gad G (mm_B b))), (1, .int (nI p))]) dX0_nextWhole_1 rfl (by decide) rfl ?_
  have lp2 : ∀ (n : Nat) (q : Nat) (x2 : Int32), 21 ≤ n + q → q ≤ 20 → x2 = nI q → (∀ k, k < C → sp_f z k 5 = 0 → p ≤ sp_at z k → ¬ sp_at z k < q) → mm_V l G RX0 cX0_nextWhole 4 (some (.object "SingingWires$Wire")) (mm_rm 0 0) 0 0 (fun _ => True) (fun _ => mm_F G) (mm_Qf G (mm_Qq G (fun r S2 => S2 = S ∧ r = sp_rf G b (sp_rt z 5 p C)))) S 2 [(0, .ref (gad G (mm_B b))), (1, .int (nI p)), (2, .int x2)] [] := by
    intro n
    induction n with
    | zero =>
      intro q x2 hn hq e2 hi
      exact absurd hn (by omega)
    | succ n ih =>
      intro q x2 hn hq e2 hi
      refine vv_iload_n (pc := 2) 2 dX0_nextWhole_2 rfl rfl ?_
      refine vv_bipush (pc := 3) (v := 20) dX0_nextWhole_3 (by decide) ?_
      refine vv_icmp_ge (pc := 5) (tgt := 57) dX0_nextWhole_5 (by decide) (fun c5 => ?_) (fun c5 => ?_)
      -- t@5 path L2t
      · refine vv_null (pc := 57) dX0_nextWhole_57 ?_
        refine vr_qN (pc := 58) dX0_nextWhole_58 ?_
        refine ⟨rfl, ?_⟩
        have hq20 := sp_geN (N := 20) (by decide) hq e2 c5
        rw [sp_rt_no hC (fun i hi2 h0 h1 => hi i hi2 h0 h1 (by have := (hw.2.2.1 i hi2).2; omega))]
        rfl
      -- f@5 path L2f
      · have hq2 : q < 20 := sp_ltN (N := 20) (by decide) hq e2 c5
        refine vv_aload_n (pc := 8) 0 dX0_nextWhole_8 rfl rfl ?_
        refine vg_X0_wireAt (pc := 9) (by assumption) mw_F_X0_15 dX0_nextWhole_9 ?_
        refine vv_iload_n (pc := 12) 2 dX0_nextWhole_12 rfl rfl ?_
        refine vl_A (pc := 13) (by assumption) (by rw [e2]; exact vp_20 hq2) dX0_nextWhole_13 ?_
        refine vv_topi (fun x3p14 e3p14 => ?_)
        refine vv_istore_n (pc := 14) (ls' := [(3, .int x3p14), (0, .ref (gad G (mm_B b))), (1, .int (nI p)), (2, .int x2)]) dX0_nextWhole_14 rfl (by decide) rfl ?_
        have hw3 : x3p14 = sp_wa z q C := by rw [e3p14, e2, cl_n (by omega)]; exact g8 q hq2
        have hwa := sp_wa_spec (n := z) q C (Nat.le_refl _)
        refine vv_iload_n (pc := 15) 3 dX0_nextWhole_15 rfl rfl ?_
        refine vv_iload_n (pc := 16) 2 dX0_nextWhole_16 rfl rfl ?_
        refine vv_icmp_lt (pc := 17) (tgt := 51) dX0_nextWhole_17 (by decide) (fun c17 => ?_) (fun c17 => ?_)
        -- t@17 path L2ft
        · obtain ⟨x2p51, e2p51⟩ : ∃ y : Int32, y = x2 + 1 := ⟨_, rfl⟩
          refine vv_iinc (pc := 51) (q := 3) (v := x2p51) (ls' := [(2, .int x2p51), (3, .int x3p14), (0, .ref (gad G (mm_B b))), (1, .int (nI p))]) dX0_nextWhole_51 rfl (by rw [e2p51]; rfl) (by decide) rfl ?_
          refine vv_goto (pc := 54) (tgt := 2) dX0_nextWhole_54 (by decide) ?_
          have hne : ∀ k, k < C → sp_f z k 5 = 0 → p ≤ sp_at z k → sp_at z k ≠ q := by
            intro k hk h0 h1 h9
            rw [e2, nI_ltI (by omega) (by omega)] at c17
            omega
          refine vv_sub [2, 3, 0] (ls' := [(0, _), (1, _), (2, _)]) rfl ?_
          exact ih (q + 1) x2p51 (by omega) (by omega) (by rw [e2p51, e2]; exact nI_1 q) (sp_nw hi hne)
        -- f@17 path L2ff
        · refine vv_iload_n (pc := 20) 0 dX0_nextWhole_20 rfl rfl ?_
          refine vv_if_lt (pc := 21) (tgt := 51) dX0_nextWhole_21 (by decide) (fun c21 => ?_) (fun c21 => ?_)
          -- t@21 path L2fft
          · obtain ⟨x2p51, e2p51⟩ : ∃ y : Int32, y = x2 + 1 := ⟨_, rfl⟩
            refine vv_iinc (pc := 51) (q := 3) (v := x2p51) (ls' := [(2, .int x2p51), (3, .int x3p14), (0, .ref (gad G (mm_B b))), (1, .int (nI p))]) dX0_nextWhole_51 rfl (by rw [e2p51]; rfl) (by decide) rfl ?_
            refine vv_goto (pc := 54) (tgt := 2) dX0_nextWhole_54 (by decide) ?_
            have hne : ∀ k, k < C → sp_f z k 5 = 0 → p ≤ sp_at z k → sp_at z k ≠ q := by
              intro k hk h0 h1 h9
              rcases hwa with ⟨-, h⟩ | ⟨k1, h8, h7, h6⟩
              · exact h k hk h9
              · rw [hw3, h7] at c21
                exact nI_pos (by omega) c21
            refine vv_sub [2, 3, 0] (ls' := [(0, _), (1, _), (2, _)]) rfl ?_
            exact ih (q + 1) x2p51 (by omega) (by omega) (by rw [e2p51, e2]; exact nI_1 q) (sp_nw hi hne)
          -- f@21 path L2fff
          · refine vv_iload_n (pc := 24) 0 dX0_nextWhole_24 rfl rfl ?_
            refine vv_aload_n (pc := 25) 1 dX0_nextWhole_25 rfl rfl ?_
            refine vg_X0_wireCount (pc := 26) (by assumption) mw_F_X0_38 dX0_nextWhole_26 ?_
            refine vv_icmp_ge (pc := 29) (tgt := 51) dX0_nextWhole_29 (by decide) (fun c29 => ?_) (fun c29 => ?_)
            -- t@29 path L2ffft
            · obtain ⟨x2p51, e2p51⟩ : ∃ y : Int32, y = x2 + 1 := ⟨_, rfl⟩
              refine vv_iinc (pc := 51) (q := 3) (v := x2p51) (ls' := [(2, .int x2p51), (3, .int x3p14), (0, .ref (gad G (mm_B b))), (1, .int (nI p))]) dX0_nextWhole_51 rfl (by rw [e2p51]; rfl) (by decide) rfl ?_
              refine vv_goto (pc := 54) (tgt := 2) dX0_nextWhole_54 (by decide) ?_
              have hne : ∀ k, k < C → sp_f z k 5 = 0 → p ≤ sp_at z k → sp_at z k ≠ q := by
                intro k hk h0 h1 h9
                rcases hwa with ⟨-, h⟩ | ⟨k1, h8, h7, h6⟩
                · exact h k hk h9
                · rw [hw3, h7, g1, hw.2.1] at c29
                  exact nI_ge h8 (by omega) c29
              refine vv_sub [2, 3, 0] (ls' := [(0, _), (1, _), (2, _)]) rfl ?_
              exact ih (q + 1) x2p51 (by omega) (by omega) (by rw [e2p51, e2]; exact nI_1 q) (sp_nw hi hne)
            -- f@29 path L2ffff
            · rw [g1, hw.2.1] at c29
              obtain ⟨w1, w2, w3⟩ := sp_wi_in hC c21 c29
              have w8 : x3p14.toNatClampNeg < 8 := by omega
              refine vv_aload_n (pc := 32) 1 dX0_nextWhole_32 rfl rfl ?_
              refine vg_X0_wires (pc := 33) (by assumption) mw_F_X0_20 dX0_nextWhole_33 ?_
              refine vv_iload_n (pc := 36) 0 dX0_nextWhole_36 rfl rfl ?_
              refine vl_R (pc := 37) (by assumption) (sp_vin w3 w8 (by decide)) dX0_nextWhole_37 ?_
              refine vg_X3_broken (pc := 38) (by assumption) (by assumption) mw_F_X0_61 dX0_nextWhole_38 ?_
              refine vv_if_ne (pc := 41) (tgt := 51) dX0_nextWhole_41 (by decide) (fun c41 => ?_) (fun c41 => ?_)
              -- t@41 path L2fffft
              · obtain ⟨x2p51, e2p51⟩ : ∃ y : Int32, y = x2 + 1 := ⟨_, rfl⟩
                refine vv_iinc (pc := 51) (q := 3) (v := x2p51) (ls' := [(2, .int x2p51), (3, .int x3p14), (0, .ref (gad G (mm_B b))), (1, .int (nI p))]) dX0_nextWhole_51 rfl (by rw [e2p51]; rfl) (by decide) rfl ?_
                refine vv_goto (pc := 54) (tgt := 2) dX0_nextWhole_54 (by decide) ?_
                have hne : ∀ k, k < C → sp_f z k 5 = 0 → p ≤ sp_at z k → sp_at z k ≠ q := by
                  intro k hk h0 h1 h9
                  rcases hwa with ⟨-, h⟩ | ⟨k1, h8, h7, h6⟩
                  · exact h k hk h9
                  · have e := hw.2.2.2 k k1 hk h8 (by omega)
                    subst e
                    rw [hw3, h7, cl_n (by omega)] at c41
                    exact c41 ((g9 k hk).2.2.2.2.2.1.trans h0)
                refine vv_sub [2, 3, 0] (ls' := [(0, _), (1, _), (2, _)]) rfl ?_
                exact ih (q + 1) x2p51 (by omega) (by omega) (by rw [e2p51, e2]; exact nI_1 q) (sp_nw hi hne)
              -- f@41 path L2fffff
              · refine vv_aload_n (pc := 44) 1 dX0_nextWhole_44 rfl rfl ?_
                refine vg_X0_wires (pc := 45) (by assumption) mw_F_X0_20 dX0_nextWhole_45 ?_
                refine vv_iload_n (pc := 48) 0 dX0_nextWhole_48 rfl rfl ?_
                refine vl_R (pc := 49) (by assumption) (sp_vin w3 w8 (by decide)) dX0_nextWhole_49 ?_
                refine vr_q (pc := 50) dX0_nextWhole_50 ?_
                refine ⟨rfl, ?_⟩
                rcases hwa with ⟨h7, -⟩ | ⟨k, h8, h7, h6⟩
                · rw [hw3, h7] at c21; exact absurd (by decide) c21
                · have hx3 : x3p14.toNatClampNeg = k := by rw [hw3, h7, cl_n (by omega)]
                  rw [hx3] at c41 ⊢
                  rw [e2, nI_ltI (by omega) (by omega)] at c17
                  rw [sp_rt_of hw h8 ((g9 k h8).2.2.2.2.2.1.symm.trans c41) (by omega) (fun i hi2 h0 h1 => by have := hi i hi2 h0 h1; omega)]
                  simp [sp_rf]; omega
  refine vv_sub [1, 2, 0] (ls' := [(0, _), (1, _), (2, _)]) rfl ?_
  exact lp2 21 0 x2p1 (by omega) (by omega) e2p1 (fun k _ _ _ h => absurd h (Nat.not_lt_zero _))
