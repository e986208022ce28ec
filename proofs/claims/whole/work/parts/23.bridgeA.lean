set_option maxRecDepth 100000 in
set_option maxHeartbeats 4000000 in
theorem c_X0_wireNumbered (l : Launch) (G : gG) {C b : Nat} (hb : b < 11) (S : Mem) (hC : C ≤ 8) (h3 : S (mm_B b) 3 = nI C) (x : Int32) : mm_C l G yX0_wireNumbered cX0_wireNumbered 2 (some (.object "SingingWires$Wire")) (mm_rm 0 0) [.ref (gad G (mm_B b)), .int x] S (mm_Qq G (fun r S2 => S2 = S ∧ r = sp_rf G b (sp_wi C x))) := by
  refine mm_ofV (own := RX0) (by decide +kernel) rfl (Nat.le_of_ble_eq_true rfl) (ls0 := [(0, .ref (gad G (mm_B b))), (1, .int x)]) rfl ?_
  refine vv_iload_n (pc := 0) 1 dX0_wireNumbered_0 rfl rfl ?_
  refine vv_if_lt (pc := 1) (tgt := 21) dX0_wireNumbered_1 (by decide) (fun c1 => ?_) (fun c1 => ?_)
  -- t@1 path t
  · refine vv_null (pc := 21) dX0_wireNumbered_21 ?_
    refine vr_qN (pc := 22) dX0_wireNumbered_22 ?_
    exact ⟨rfl, by rw [sp_wi_lo c1]; rfl⟩
  -- f@1 path f
  · refine vv_iload_n (pc := 4) 1 dX0_wireNumbered_4 rfl rfl ?_
    refine vv_aload_n (pc := 5) 0 dX0_wireNumbered_5 rfl rfl ?_
    refine vg_X0_wireCount (pc := 6) (by assumption) mw_F_X0_38 dX0_wireNumbered_6 ?_
    refine vv_icmp_ge (pc := 9) (tgt := 21) dX0_wireNumbered_9 (by decide) (fun c9 => ?_) (fun c9 => ?_)
    -- t@9 path ft
    · refine vv_null (pc := 21) dX0_wireNumbered_21 ?_
      refine vr_qN (pc := 22) dX0_wireNumbered_22 ?_
      exact ⟨rfl, by rw [h3] at c9; rw [sp_wi_hi c9]; rfl⟩
    -- f@9 path ff
    · rw [h3] at c9
      obtain ⟨w1, w2, w3⟩ := sp_wi_in hC c1 c9
      refine vv_aload_n (pc := 12) 0 dX0_wireNumbered_12 rfl rfl ?_
      refine vg_X0_wires (pc := 13) (by assumption) mw_F_X0_20 dX0_wireNumbered_13 ?_
      refine vv_iload_n (pc := 16) 1 dX0_wireNumbered_16 rfl rfl ?_
      refine vl_R (pc := 17) (by assumption) (sp_vin w3 (by omega) (by decide)) dX0_wireNumbered_17 ?_
      refine vv_goto (pc := 18) (tgt := 22) dX0_wireNumbered_18 (by decide) ?_
      refine vr_q (pc := 22) dX0_wireNumbered_22 ?_
      exact ⟨rfl, by rw [w1]; simp [sp_rf]; omega⟩
set_option maxRecDepth 100000 in
set_option maxHeartbeats 4000000 in
theorem c_X0_nextWhole (l : Launch) (G : gG) {C b : Nat} {z : Nat → Int32} (hb : b < 11) (S : Mem) (hw : sp_ws C z) (hr : rb C S b z) {p : Nat} {x : Int32} (hx : x = nI p) (hp : p < 1000) : mm_C l G yX0_nextWhole cX0_nextWhole 4 (some (.object "SingingWires$Wire")) (mm_rm 0 0) [.ref (gad G (mm_B b)), .int x] S (mm_Qq G (fun r S2 => S2 = S ∧ r = sp_rf G b (sp_rt z 5 p C))) := by
  subst hx
  obtain ⟨g1, g2, g3, g4, g5, g6, g7, g8, g9⟩ := id hr
  have hC := hw.1
  refine mm_ofV (own := RX0) (by decide +kernel) rfl (Nat.le_of_ble_eq_true rfl) (ls0 := [(0, .ref (gad G (mm_B b))), (1, .int (nI p))]) rfl ?_
  refine vv_iconst (pc := 0) (v := 0) dX0_nextWhole_0 (by decide) ?_
  refine vv_topi (fun x2p1 e2p1 => ?_)
  refine vv_istore_n (pc := 1) (i := 2) (ls' := [(2, .int x2p1), (0, .ref (gad G (mm_B b))), (1, .int (nI p))]) dX0_nextWhole_1 rfl (by decide) rfl ?_
  have lp2 : ∀ (n : Nat) (q : Nat) (x2 : Int32), 21 ≤ n + q → q ≤ 20 → x2 = nI q → (∀ k, k < C → sp_f z k 5 = 0 → p ≤ sp_at z k → ¬ sp_at z k < q) → mm_V l G RX0 cX0_nextWhole 4 (some (.object "SingingWires$Wire")) (mm_rm 0 0) 0 0 (fun _ => True) (fun _ => mm_F G) (mm_Qf G (mm_Qq G (fun r S2 => S2 = S ∧ r = sp_rf G b (sp_rt z 5 p C)))) S 2 [(0, .ref (gad G (mm_B b))), (1, .int (nI p)), (2, .int x2)] [] := by
    intro n
    induction n with
    | zero =>
      intro q x2 hn hq e2 hi
      exact absurd hn (by omega)
    | succ n ih =>
      intro q x2 hn hq e2 hi
      refine vv_iload_n (pc := 2) 2 dX0_nextWhole_2 rfl rfl ?_
      refine vv_bipush (pc := 3) (v := 20) dX0_nextWhole_3 (by decide) ?_
      refine vv_icmp_ge (pc := 5) (tgt := 57) dX0_nextWhole_5 (by decide) (fun c5 => ?_) (fun c5 => ?_)
      -- t@5 path L2t
      · refine vv_null (pc := 57) dX0_nextWhole_57 ?_
        refine vr_qN (pc := 58) dX0_nextWhole_58 ?_
        refine ⟨rfl, ?_⟩
        have hq20 := sp_geN (N := 20) (by decide) hq e2 c5
        rw [sp_rt_no hC (fun i hi2 h0 h1 => hi i hi2 h0 h1 (by have := (hw.2.2.1 i hi2).2; omega))]
        rfl
      -- f@5 path L2f
      · have hq2 : q < 20 := sp_ltN (N := 20) (by decide) hq e2 c5
        refine vv_aload_n (pc := 8) 0 dX0_nextWhole_8 rfl rfl ?_
        refine vg_X0_wireAt (pc := 9) (by assumption) mw_F_X0_15 dX0_nextWhole_9 ?_
        refine vv_iload_n (pc := 12) 2 dX0_nextWhole_12 rfl rfl ?_
        refine vl_A (pc := 13) (by assumption) (by rw [e2]; exact vp_20 hq2) dX0_nextWhole_13 ?_
        refine vv_topi (fun x3p14 e3p14 => ?_)
        refine vv_istore_n (pc := 14) (i := 3) (ls' := [(3, .int x3p14), (0, .ref (gad G (mm_B b))), (1, .int (nI p)), (2, .int x2)]) dX0_nextWhole_14 rfl (by decide) rfl ?_
        have hw3 : x3p14 = sp_wa z q C := by rw [e3p14, e2, cl_n (by omega)]; exact g8 q hq2
        have hwa := sp_wa_spec (n := z) q C (Nat.le_refl _)
        refine vv_iload_n (pc := 15) 3 dX0_nextWhole_15 rfl rfl ?_
        refine vv_iload_n (pc := 16) 2 dX0_nextWhole_16 rfl rfl ?_
        refine vv_icmp_lt (pc := 17) (tgt := 51) dX0_nextWhole_17 (by decide) (fun c17 => ?_) (fun c17 => ?_)
        -- t@17 path L2ft
        · obtain ⟨x2p51, e2p51⟩ : ∃ y : Int32, y = x2 + 1 := ⟨_, rfl⟩
          refine vv_iinc (pc := 51) (q := 3) (v := x2p51) (ls' := [(2, .int x2p51), (3, .int x3p14), (0, .ref (gad G (mm_B b))), (1, .int (nI p))]) dX0_nextWhole_51 rfl (by rw [e2p51]; rfl) (by decide) rfl ?_
          refine vv_goto (pc := 54) (tgt := 2) dX0_nextWhole_54 (by decide) ?_
          have hne : ∀ k, k < C → sp_f z k 5 = 0 → p ≤ sp_at z k → sp_at z k ≠ q := by
            intro k hk h0 h1 h9
            rw [e2, nI_ltI (by omega) (by omega)] at c17
            omega
          refine vv_sub [2, 3, 0] (ls' := [(0, _), (1, _), (2, _)]) rfl ?_
          exact ih (q + 1) x2p51 (by omega) (by omega) (by rw [e2p51, e2]; exact nI_1 q) (sp_nw hi hne)
        -- f@17 path L2ff
        · refine vv_iload_n (pc := 20) 0 dX0_nextWhole_20 rfl rfl ?_
          refine vv_if_lt (pc := 21) (tgt := 51) dX0_nextWhole_21 (by decide) (fun c21 => ?_) (fun c21 => ?_)
          -- t@21 path L2fft
          · obtain ⟨x2p51, e2p51⟩ : ∃ y : Int32, y = x2 + 1 := ⟨_, rfl⟩
            refine vv_iinc (pc := 51) (q := 3) (v := x2p51) (ls' := [(2, .int x2p51), (3, .int x3p14), (0, .ref (gad G (mm_B b))), (1, .int (nI p))]) dX0_nextWhole_51 rfl (by rw [e2p51]; rfl) (by decide) rfl ?_
            refine vv_goto (pc := 54) (tgt := 2) dX0_nextWhole_54 (by decide) ?_
            have hne : ∀ k, k < C → sp_f z k 5 = 0 → p ≤ sp_at z k → sp_at z k ≠ q := by
              intro k hk h0 h1 h9
              rcases hwa with ⟨-, h⟩ | ⟨k1, h8, h7, h6⟩
              · exact h k hk h9
              · rw [hw3, h7] at c21
                exact nI_pos (by omega) c21
            refine vv_sub [2, 3, 0] (ls' := [(0, _), (1, _), (2, _)]) rfl ?_
            exact ih (q + 1) x2p51 (by omega) (by omega) (by rw [e2p51, e2]; exact nI_1 q) (sp_nw hi hne)
          -- f@21 path L2fff
          · refine vv_iload_n (pc := 24) 0 dX0_nextWhole_24 rfl rfl ?_
            refine vv_aload_n (pc := 25) 1 dX0_nextWhole_25 rfl rfl ?_
            refine vg_X0_wireCount (pc := 26) (by assumption) mw_F_X0_38 dX0_nextWhole_26 ?_
            refine vv_icmp_ge (pc := 29) (tgt := 51) dX0_nextWhole_29 (by decide) (fun c29 => ?_) (fun c29 => ?_)
            -- t@29 path L2ffft
            · obtain ⟨x2p51, e2p51⟩ : ∃ y : Int32, y = x2 + 1 := ⟨_, rfl⟩
              refine vv_iinc (pc := 51) (q := 3) (v := x2p51) (ls' := [(2, .int x2p51), (3, .int x3p14), (0, .ref (gad G (mm_B b))), (1, .int (nI p))]) dX0_nextWhole_51 rfl (by rw [e2p51]; rfl) (by decide) rfl ?_
              refine vv_goto (pc := 54) (tgt := 2) dX0_nextWhole_54 (by decide) ?_
              have hne : ∀ k, k < C → sp_f z k 5 = 0 → p ≤ sp_at z k → sp_at z k ≠ q := by
                intro k hk h0 h1 h9
                rcases hwa with ⟨-, h⟩ | ⟨k1, h8, h7, h6⟩
                · exact h k hk h9
                · rw [hw3, h7, g1, hw.2.1] at c29
                  exact nI_ge h8 (by omega) c29
              refine vv_sub [2, 3, 0] (ls' := [(0, _), (1, _), (2, _)]) rfl ?_
              exact ih (q + 1) x2p51 (by omega) (by omega) (by rw [e2p51, e2]; exact nI_1 q) (sp_nw hi hne)
            -- f@29 path L2ffff
            · rw [g1, hw.2.1] at c29
              obtain ⟨w1, w2, w3⟩ := sp_wi_in hC c21 c29
              have w8 : x3p14.toNatClampNeg < 8 := by omega
              refine vv_aload_n (pc := 32) 1 dX0_nextWhole_32 rfl rfl ?_
              refine vg_X0_wires (pc := 33) (by assumption) mw_F_X0_20 dX0_nextWhole_33 ?_
              refine vv_iload_n (pc := 36) 0 dX0_nextWhole_36 rfl rfl ?_
              refine vl_R (pc := 37) (by assumption) (sp_vin w3 w8 (by decide)) dX0_nextWhole_37 ?_
              refine vg_X3_broken (pc := 38) (by assumption) (by assumption) mw_F_X0_61 dX0_nextWhole_38 ?_
              refine vv_if_ne (pc := 41) (tgt := 51) dX0_nextWhole_41 (by decide) (fun c41 => ?_) (fun c41 => ?_)
              -- t@41 path L2fffft
              · obtain ⟨x2p51, e2p51⟩ : ∃ y : Int32, y = x2 + 1 := ⟨_, rfl⟩
                refine vv_iinc (pc := 51) (q := 3) (v := x2p51) (ls' := [(2, .int x2p51), (3, .int x3p14), (0, .ref (gad G (mm_B b))), (1, .int (nI p))]) dX0_nextWhole_51 rfl (by rw [e2p51]; rfl) (by decide) rfl ?_
                refine vv_goto (pc := 54) (tgt := 2) dX0_nextWhole_54 (by decide) ?_
                have hne : ∀ k, k < C → sp_f z k 5 = 0 → p ≤ sp_at z k → sp_at z k ≠ q := by
                  intro k hk h0 h1 h9
                  rcases hwa with ⟨-, h⟩ | ⟨k1, h8, h7, h6⟩
                  · exact h k hk h9
                  · have e := hw.2.2.2 k k1 hk h8 (by omega)
                    subst e
                    rw [hw3, h7, cl_n (by omega)] at c41
                    exact c41 ((g9 k hk).2.2.2.2.2.1.trans h0)
                refine vv_sub [2, 3, 0] (ls' := [(0, _), (1, _), (2, _)]) rfl ?_
                exact ih (q + 1) x2p51 (by omega) (by omega) (by rw [e2p51, e2]; exact nI_1 q) (sp_nw hi hne)
              -- f@41 path L2fffff
              · refine vv_aload_n (pc := 44) 1 dX0_nextWhole_44 rfl rfl ?_
                refine vg_X0_wires (pc := 45) (by assumption) mw_F_X0_20 dX0_nextWhole_45 ?_
                refine vv_iload_n (pc := 48) 0 dX0_nextWhole_48 rfl rfl ?_
                refine vl_R (pc := 49) (by assumption) (sp_vin w3 w8 (by decide)) dX0_nextWhole_49 ?_
                refine vr_q (pc := 50) dX0_nextWhole_50 ?_
                refine ⟨rfl, ?_⟩
                rcases hwa with ⟨h7, -⟩ | ⟨k, h8, h7, h6⟩
                · rw [hw3, h7] at c21; exact absurd (by decide) c21
                · have hx3 : x3p14.toNatClampNeg = k := by rw [hw3, h7, cl_n (by omega)]
                  rw [hx3] at c41 ⊢
                  rw [e2, nI_ltI (by omega) (by omega)] at c17
                  rw [sp_rt_of hw h8 ((g9 k h8).2.2.2.2.2.1.symm.trans c41) (by omega) (fun i hi2 h0 h1 => by have := hi i hi2 h0 h1; omega)]
                  simp [sp_rf]; omega
  refine vv_sub [1, 2, 0] (ls' := [(0, _), (1, _), (2, _)]) rfl ?_
  exact lp2 21 0 x2p1 (by omega) (by omega) e2p1 (fun k _ _ _ h => absurd h (Nat.not_lt_zero _))
set_option maxRecDepth 100000 in
set_option maxHeartbeats 4000000 in
theorem c_X0_share_nn (l : Launch) (G : gG) {b : Nat} (hb : b < 11) (S : Mem) {p : Nat} {x : Int32} (hx : x = nI p) (hp : p < 20) : mm_C l G yX0_share cX0_share 7 (none) (mm_rm 0 0) [.ref (gad G (mm_B b)), .int x, .null, .null] S (mm_Qv G (fun S2 => S2 = S)) := by
  subst hx
  refine mm_ofV (own := RX0) (by decide +kernel) rfl (Nat.le_of_ble_eq_true rfl) (ls0 := [(0, .ref (gad G (mm_B b))), (1, .int (nI p)), (2, .null), (3, .null)]) rfl ?_
  refine vv_bipush (pc := 0) (v := 10) dX0_share_0 (by decide) ?_
  refine vv_aload_n (pc := 2) 0 dX0_share_2 rfl rfl ?_
  refine vg_X0_loads (pc := 3) (by assumption) mw_F_X0_9 dX0_share_3 ?_
  refine vv_iload_n (pc := 6) 1 dX0_share_6 rfl rfl ?_
  refine vl_L (pc := 7) (by assumption) (vp_20 hp) dX0_share_7 ?_
  refine vv_imul (pc := 8) dX0_share_8 ?_
  refine vv_topi (fun x4p9 e4p9 => ?_)
  refine vv_istore (pc := 9) (i := 4) (ls' := [(4, .int x4p9), (0, .ref (gad G (mm_B b))), (1, .int (nI p)), (2, .null), (3, .null)]) dX0_share_9 (by decide) rfl ?_
  refine vv_aload_nN (pc := 11) 3 dX0_share_11 rfl rfl ?_
  refine vv_ifnonnullN (pc := 12) dX0_share_12 ?_
  refine vv_aload_nN (pc := 15) 4 dX0_share_15 rfl rfl ?_
  refine vv_ifnullN (pc := 16) (tgt := 30) dX0_share_16 (by decide) ?_
  refine vr_v (pc := 30) dX0_share_30 ?_
  rfl
set_option maxRecDepth 100000 in
set_option maxHeartbeats 4000000 in
theorem c_X0_share_nr (l : Launch) (G : gG) {b : Nat} (hb : b < 11) (S : Mem) {p : Nat} {x : Int32} (hx : x = nI p) (hp : p < 20) {kr : Nat} (hkr : kr < 8) : mm_C l G yX0_share cX0_share 7 (none) (mm_rm 0 0) [.ref (gad G (mm_B b)), .int x, .null, .ref (gad G (mm_W b kr))] S (mm_Qv G (fun S2 => S2 = sp_sh1 S b p kr)) := by
  subst hx
  refine mm_ofV (own := RX0) (by decide +kernel) rfl (Nat.le_of_ble_eq_true rfl) (ls0 := [(0, .ref (gad G (mm_B b))), (1, .int (nI p)), (2, .null), (3, .ref (gad G (mm_W b kr)))]) rfl ?_
  refine vv_bipush (pc := 0) (v := 10) dX0_share_0 (by decide) ?_
  refine vv_aload_n (pc := 2) 0 dX0_share_2 rfl rfl ?_
  refine vg_X0_loads (pc := 3) (by assumption) mw_F_X0_9 dX0_share_3 ?_
  refine vv_iload_n (pc := 6) 1 dX0_share_6 rfl rfl ?_
  refine vl_L (pc := 7) (by assumption) (vp_20 hp) dX0_share_7 ?_
  refine vv_imul (pc := 8) dX0_share_8 ?_
  refine vv_topi (fun x4p9 e4p9 => ?_)
  refine vv_istore (pc := 9) (i := 4) (ls' := [(4, .int x4p9), (0, .ref (gad G (mm_B b))), (1, .int (nI p)), (2, .null), (3, .ref (gad G (mm_W b kr)))]) dX0_share_9 (by decide) rfl ?_
  refine vv_aload_nN (pc := 11) 3 dX0_share_11 rfl rfl ?_
  refine vv_ifnonnullN (pc := 12) dX0_share_12 ?_
  refine vv_aload_n (pc := 15) 4 dX0_share_15 rfl rfl ?_
  refine vv_ifnull (pc := 16) dX0_share_16 ?_
  refine vv_aload_n (pc := 19) 4 dX0_share_19 rfl rfl ?_
  refine vv_dup (pc := 20) dX0_share_20 rfl ?_
  refine vg_X3_task (pc := 21) (by assumption) (by assumption) mw_F_X0_122 dX0_share_21 ?_
  refine vv_iload (pc := 24) 0 dX0_share_24 rfl ?_
  refine vv_iadd (pc := 26) dX0_share_26 ?_
  refine vp_X3_task (pc := 27) (by assumption) (by assumption) mw_F_X0_122 dX0_share_27 ?_
  refine vr_v (pc := 30) dX0_share_30 ?_
  rw [e4p9, cl_n (by omega)]
  rfl
set_option maxRecDepth 100000 in
set_option maxHeartbeats 4000000 in
theorem c_X0_share_rn (l : Launch) (G : gG) {b : Nat} (hb : b < 11) (S : Mem) {p : Nat} {x : Int32} (hx : x = nI p) (hp : p < 20) {kl : Nat} (hkl : kl < 8) : mm_C l G yX0_share cX0_share 7 (none) (mm_rm 0 0) [.ref (gad G (mm_B b)), .int x, .ref (gad G (mm_W b kl)), .null] S (mm_Qv G (fun S2 => S2 = sp_sh1 S b p kl)) := by
  subst hx
  refine mm_ofV (own := RX0) (by decide +kernel) rfl (Nat.le_of_ble_eq_true rfl) (ls0 := [(0, .ref (gad G (mm_B b))), (1, .int (nI p)), (2, .ref (gad G (mm_W b kl))), (3, .null)]) rfl ?_
  refine vv_bipush (pc := 0) (v := 10) dX0_share_0 (by decide) ?_
  refine vv_aload_n (pc := 2) 0 dX0_share_2 rfl rfl ?_
  refine vg_X0_loads (pc := 3) (by assumption) mw_F_X0_9 dX0_share_3 ?_
  refine vv_iload_n (pc := 6) 1 dX0_share_6 rfl rfl ?_
  refine vl_L (pc := 7) (by assumption) (vp_20 hp) dX0_share_7 ?_
  refine vv_imul (pc := 8) dX0_share_8 ?_
  refine vv_topi (fun x4p9 e4p9 => ?_)
  refine vv_istore (pc := 9) (i := 4) (ls' := [(4, .int x4p9), (0, .ref (gad G (mm_B b))), (1, .int (nI p)), (2, .ref (gad G (mm_W b kl))), (3, .null)]) dX0_share_9 (by decide) rfl ?_
  refine vv_aload_n (pc := 11) 3 dX0_share_11 rfl rfl ?_
  refine vv_ifnonnull (pc := 12) (tgt := 31) dX0_share_12 (by decide) ?_
  refine vv_aload_nN (pc := 31) 4 dX0_share_31 rfl rfl ?_
  refine vv_ifnonnullN (pc := 32) dX0_share_32 ?_
  refine vv_aload_n (pc := 35) 3 dX0_share_35 rfl rfl ?_
  refine vv_dup (pc := 36) dX0_share_36 rfl ?_
  refine vg_X3_task (pc := 37) (by assumption) (by assumption) mw_F_X0_122 dX0_share_37 ?_
  refine vv_iload (pc := 40) 0 dX0_share_40 rfl ?_
  refine vv_iadd (pc := 42) dX0_share_42 ?_
  refine vp_X3_task (pc := 43) (by assumption) (by assumption) mw_F_X0_122 dX0_share_43 ?_
  refine vr_v (pc := 46) dX0_share_46 ?_
  rw [e4p9, cl_n (by omega)]
  rfl
set_option maxRecDepth 100000 in
set_option maxHeartbeats 4000000 in
theorem c_X0_share_rr (l : Launch) (G : gG) {b : Nat} (hb : b < 11) (S : Mem) {p : Nat} {x : Int32} (hx : x = nI p) (hp : p < 20) {kl kr : Nat} (hkl : kl < 8) (hkr : kr < 8) : mm_C l G yX0_share cX0_share 7 (none) (mm_rm 0 0) [.ref (gad G (mm_B b)), .int x, .ref (gad G (mm_W b kl)), .ref (gad G (mm_W b kr))] S (mm_Qv G (fun S2 => S2 = sp_sh2 S b p kl kr)) := by
  subst hx
  refine mm_ofV (own := RX0) (by decide +kernel) rfl (Nat.le_of_ble_eq_true rfl) (ls0 := [(0, .ref (gad G (mm_B b))), (1, .int (nI p)), (2, .ref (gad G (mm_W b kl))), (3, .ref (gad G (mm_W b kr)))]) rfl ?_
  refine vv_bipush (pc := 0) (v := 10) dX0_share_0 (by decide) ?_
  refine vv_aload_n (pc := 2) 0 dX0_share_2 rfl rfl ?_
  refine vg_X0_loads (pc := 3) (by assumption) mw_F_X0_9 dX0_share_3 ?_
  refine vv_iload_n (pc := 6) 1 dX0_share_6 rfl rfl ?_
  refine vl_L (pc := 7) (by assumption) (vp_20 hp) dX0_share_7 ?_
  refine vv_imul (pc := 8) dX0_share_8 ?_
  refine vv_topi (fun x4p9 e4p9 => ?_)
  refine vv_istore (pc := 9) (i := 4) (ls' := [(4, .int x4p9), (0, .ref (gad G (mm_B b))), (1, .int (nI p)), (2, .ref (gad G (mm_W b kl))), (3, .ref (gad G (mm_W b kr)))]) dX0_share_9 (by decide) rfl ?_
  refine vv_aload_n (pc := 11) 3 dX0_share_11 rfl rfl ?_
  refine vv_ifnonnull (pc := 12) (tgt := 31) dX0_share_12 (by decide) ?_
  refine vv_aload_n (pc := 31) 4 dX0_share_31 rfl rfl ?_
  refine vv_ifnonnull (pc := 32) (tgt := 47) dX0_share_32 (by decide) ?_
  refine vv_aload_n (pc := 47) 4 dX0_share_47 rfl rfl ?_
  refine vg_X3_place (pc := 48) (by assumption) (by assumption) mw_F_X0_128 dX0_share_48 ?_
  refine vv_aload_n (pc := 51) 3 dX0_share_51 rfl rfl ?_
  refine vg_X3_place (pc := 52) (by assumption) (by assumption) mw_F_X0_128 dX0_share_52 ?_
  refine vv_isub (pc := 55) dX0_share_55 ?_
  refine vv_topi (fun x5p56 e5p56 => ?_)
  refine vv_istore (pc := 56) (i := 5) (ls' := [(5, .int x5p56), (4, .int x4p9), (0, .ref (gad G (mm_B b))), (1, .int (nI p)), (2, .ref (gad G (mm_W b kl))), (3, .ref (gad G (mm_W b kr)))]) dX0_share_56 (by decide) rfl ?_
  refine vv_iload (pc := 58) 0 dX0_share_58 rfl ?_
  refine vv_if_gt (pc := 60) (tgt := 67) dX0_share_60 (by decide) (fun c60 => ?_) (fun c60 => ?_)
  -- t@60 path t
  · refine vv_aload_n (pc := 67) 2 dX0_share_67 rfl rfl ?_
    refine vg_X0_loads (pc := 68) (by assumption) mw_F_X0_9 dX0_share_68 ?_
    refine vv_iload_n (pc := 71) 3 dX0_share_71 rfl rfl ?_
    refine vl_L (pc := 72) (by assumption) (vp_20 hp) dX0_share_72 ?_
    refine vv_iload_n (pc := 73) 3 dX0_share_73 rfl rfl ?_
    refine vv_aload_n (pc := 74) 4 dX0_share_74 rfl rfl ?_
    refine vg_X3_place (pc := 75) (by assumption) (by assumption) mw_F_X0_128 dX0_share_75 ?_
    refine vv_isub (pc := 78) dX0_share_78 ?_
    refine vv_imul (pc := 79) dX0_share_79 ?_
    refine vv_iload (pc := 80) 0 dX0_share_80 rfl ?_
    refine vv_idiv (pc := 82) dX0_share_82 (fun h => by rw [h] at c60; exact absurd c60 (by decide)) ?_
    refine vv_topi (fun x6p83 e6p83 => ?_)
    refine vv_istore (pc := 83) (i := 6) (ls' := [(6, .int x6p83), (5, .int x5p56), (4, .int x4p9), (0, .ref (gad G (mm_B b))), (1, .int (nI p)), (2, .ref (gad G (mm_W b kl))), (3, .ref (gad G (mm_W b kr)))]) dX0_share_83 (by decide) rfl ?_
    refine vv_aload_n (pc := 85) 6 dX0_share_85 rfl rfl ?_
    refine vv_dup (pc := 86) dX0_share_86 rfl ?_
    refine vg_X3_task (pc := 87) (by assumption) (by assumption) mw_F_X0_122 dX0_share_87 ?_
    refine vv_bipush (pc := 90) (v := 10) dX0_share_90 (by decide) ?_
    refine vv_iload (pc := 92) 0 dX0_share_92 rfl ?_
    refine vv_imul (pc := 94) dX0_share_94 ?_
    refine vv_iadd (pc := 95) dX0_share_95 ?_
    refine vp_X3_task (pc := 96) (by assumption) (by assumption) mw_F_X0_122 dX0_share_96 ?_
    refine vv_aload_n (pc := 99) 5 dX0_share_99 rfl rfl ?_
    refine vv_dup (pc := 100) dX0_share_100 rfl ?_
    refine vg_X3_task (pc := 101) (by assumption) (by assumption) mw_F_X0_122 dX0_share_101 ?_
    refine vv_iload (pc := 104) 2 dX0_share_104 rfl ?_
    refine vv_bipush (pc := 106) (v := 10) dX0_share_106 (by decide) ?_
    refine vv_iload (pc := 108) 0 dX0_share_108 rfl ?_
    refine vv_imul (pc := 110) dX0_share_110 ?_
    refine vv_isub (pc := 111) dX0_share_111 ?_
    refine vv_iadd (pc := 112) dX0_share_112 ?_
    refine vp_X3_task (pc := 113) (by assumption) (by assumption) mw_F_X0_122 dX0_share_113 ?_
    refine vr_v (pc := 116) dX0_share_116 ?_
    have e6 : x6p83 = sp_pt2 S b p kl kr := by unfold sp_pt2; rw [← e5p56, if_neg (Int32.not_le.mpr c60), e6p83, cl_n (by omega)]
    rw [e4p9, cl_n (by omega), e6]
    rfl
  -- f@60 path f
  · refine vv_iconst (pc := 63) (v := 0) dX0_share_63 (by decide) ?_
    refine vv_goto (pc := 64) (tgt := 83) dX0_share_64 (by decide) ?_
    refine vv_topi (fun x6p83 e6p83 => ?_)
    refine vv_istore (pc := 83) (i := 6) (ls' := [(6, .int x6p83), (5, .int x5p56), (4, .int x4p9), (0, .ref (gad G (mm_B b))), (1, .int (nI p)), (2, .ref (gad G (mm_W b kl))), (3, .ref (gad G (mm_W b kr)))]) dX0_share_83 (by decide) rfl ?_
    refine vv_aload_n (pc := 85) 6 dX0_share_85 rfl rfl ?_
    refine vv_dup (pc := 86) dX0_share_86 rfl ?_
    refine vg_X3_task (pc := 87) (by assumption) (by assumption) mw_F_X0_122 dX0_share_87 ?_
    refine vv_bipush (pc := 90) (v := 10) dX0_share_90 (by decide) ?_
    refine vv_iload (pc := 92) 0 dX0_share_92 rfl ?_
    refine vv_imul (pc := 94) dX0_share_94 ?_
    refine vv_iadd (pc := 95) dX0_share_95 ?_
    refine vp_X3_task (pc := 96) (by assumption) (by assumption) mw_F_X0_122 dX0_share_96 ?_
    refine vv_aload_n (pc := 99) 5 dX0_share_99 rfl rfl ?_
    refine vv_dup (pc := 100) dX0_share_100 rfl ?_
    refine vg_X3_task (pc := 101) (by assumption) (by assumption) mw_F_X0_122 dX0_share_101 ?_
    refine vv_iload (pc := 104) 2 dX0_share_104 rfl ?_
    refine vv_bipush (pc := 106) (v := 10) dX0_share_106 (by decide) ?_
    refine vv_iload (pc := 108) 0 dX0_share_108 rfl ?_
    refine vv_imul (pc := 110) dX0_share_110 ?_
    refine vv_isub (pc := 111) dX0_share_111 ?_
    refine vv_iadd (pc := 112) dX0_share_112 ?_
    refine vp_X3_task (pc := 113) (by assumption) (by assumption) mw_F_X0_122 dX0_share_113 ?_
    refine vr_v (pc := 116) dX0_share_116 ?_
    have e6 : x6p83 = sp_pt2 S b p kl kr := by unfold sp_pt2; rw [← e5p56, if_pos (Int32.not_lt.mp c60), e6p83]
    rw [e4p9, cl_n (by omega), e6]
    rfl
