theorem enc_neg {k c : Nat} (h : k = 99 ∨ k < c) (hc : c < 1000) : enc k < 0 ↔ k = 99 := ⟨fun h2 => enc_lt h h2 hc, fun h2 => by rw [h2]; decide⟩
theorem enc_inj {a b c : Nat} (ha : a = 99 ∨ a < c) (hb : b = 99 ∨ b < c) (h : enc a = enc b) (hc : c ≤ 8) : a = b := by
  unfold enc at h
  split at h <;> split at h
  · omega
  · exact absurd (h.symm ▸ (by decide : (-6 : Int32) < 0)) (nI_pos (by omega))
  · exact absurd (h ▸ (by decide : (-6 : Int32) < 0)) (nI_pos (by omega))
  · exact (nI_eq (by omega) (by omega)).mp h
theorem tk_1 {C g p k : Nat} {z T : Nat → Int32} (hc : ∀ w, sp_ctb z g C p w = if w = k then 10 * z (10 + p) else 0) (hT : ∀ w, w < C → T w = sp_T z g C w p) : ∀ w, w < C → upd T k (T k + 10 * z (10 + p)) w = sp_T z g C w (p + 1) := by
  intro w hw
  rw [sp_T, hc w, ← hT w hw]
  by_cases e : w = k
  · rw [e, upd_s, if_pos rfl]
  · rw [upd_n _ _ e, if_neg e, Int32.add_zero]
theorem tk_ne {C g p A B : Nat} {z T : Nat → Int32} {v : Int32} (hA : sp_lf z g p C = A) (hB : sp_rt z g p C = B) (hA9 : A ≠ 99) (hB9 : B ≠ 99) (hne : A ≠ B) (hT : ∀ w, w < C → T w = sp_T z g C w p) (hv : v = z (10 + p) * (nI p - sp_f z A 0) / (sp_f z B 0 - sp_f z A 0)) :
    ∀ w, w < C → upd (upd T B (T B + 10 * v)) A (T A + 10 * (z (10 + p) - v)) w = sp_T z g C w (p + 1) := by
  intro w hw
  rw [sp_T, sp_ctb_ne (by rw [hA]; exact hA9) (by rw [hB]; exact hB9) (by rw [hA, hB]; exact hne), hA, hB, ← hT w hw, ← hv]
  by_cases e : w = B
  · rw [if_pos e, upd_n _ _ (by omega), e, upd_s]
  · rw [if_neg e]
    by_cases e2 : w = A
    · rw [if_pos e2, e2, upd_s]
    · rw [if_neg e2, upd_n _ _ e2, upd_n _ _ e, Int32.add_zero]
set_option maxRecDepth 100000 in
set_option maxHeartbeats 4000000 in
theorem c_X5_layTasks (l : Launch) (G : gG) (S : Mem) {C g : Nat} {x : Int32} (hws : sp_ws C (S 8)) (hm : ∀ w, w < C → ((x >>> (nI w &&& 31)) &&& 1 = 1 ↔ sp_f (S 8) w g = 0)) : mm_C l G yX5_layTasks cX5_layTasks 8 (none) (mm_rm 2 48) [.ref (gad G 7), .int x] S (mm_Qv G (fun S2 => ∃ T, (∀ w, w < C → T w = sp_tk (S 8) g C w) ∧ S2 = mR S 14 T)) := by
  obtain ⟨hC, h3, hat, hinj⟩ := id hws
  refine mm_ofV (own := RX5) (by decide +kernel) rfl (Nat.le_of_ble_eq_true rfl) (ls0 := [(0, .ref (gad G 7)), (1, .int x)]) rfl ?_
  refine vv_iconst (pc := 0) (v := 0) dX5_layTasks_0 (by decide) ?_
  refine vv_topi (fun x2p1 e2p1 => ?_)
  refine vv_istore_n (pc := 1) (i := 2) (ls' := [(2, .int x2p1), (0, .ref (gad G 7)), (1, .int x)]) dX5_layTasks_1 rfl (by decide) rfl ?_
  have lp2 : ∀ (n : Nat) (k : Nat) (x2 : Int32) (T : Nat → Int32) (S1 : Mem), S1 = mR S 14 T → 9 ≤ n + k → k ≤ 8 → x2 = nI k → (∀ j, j < k → T j = 0) → mm_V l G RX5 cX5_layTasks 8 (none) (mm_rm 2 48) 0 0 (fun _ => True) (fun _ => mm_F G) (mm_Qf G (mm_Qv G (fun S2 => ∃ T, (∀ w, w < C → T w = sp_tk (S 8) g C w) ∧ S2 = mR S 14 T))) S1 2 [(0, .ref (gad G 7)), (1, .int x), (2, .int x2)] [] := by
    intro n
    induction n with
    | zero =>
      intro k x2 T S1 eS1 hn hkl e2 hT0
      exact absurd hn (by omega)
    | succ n ih =>
      intro k x2 T S1 eS1 hn hkl e2 hT0
      subst eS1
      refine vv_iload_n (pc := 2) 2 dX5_layTasks_2 rfl rfl ?_
      refine vv_bipush (pc := 3) (v := 8) dX5_layTasks_3 (by decide) ?_
      refine vv_icmp_ge (pc := 5) (tgt := 21) dX5_layTasks_5 (by decide) (fun c5 => ?_) (fun c5 => ?_)
      -- t@5 path L2t
      · refine vv_iconst (pc := 21) (v := 0) dX5_layTasks_21 (by decide) ?_
        refine vv_topi (fun x2p22 e2p22 => ?_)
        refine vv_istore_n (pc := 22) (i := 2) (ls' := [(2, .int x2p22), (0, .ref (gad G 7)), (1, .int x)]) dX5_layTasks_22 rfl (by decide) rfl ?_
        have lp23 : ∀ (m : Nat) (p : Nat) (x2 : Int32) (T : Nat → Int32) (S1 : Mem), S1 = mR S 14 T → 21 ≤ m + p → p ≤ 20 → x2 = nI p → (∀ w, w < C → T w = sp_T (S 8) g C w p) → mm_V l G RX5 cX5_layTasks 8 (none) (mm_rm 2 48) 0 0 (fun _ => True) (fun _ => mm_F G) (mm_Qf G (mm_Qv G (fun S2 => ∃ T, (∀ w, w < C → T w = sp_tk (S 8) g C w) ∧ S2 = mR S 14 T))) S1 23 [(0, .ref (gad G 7)), (1, .int x), (2, .int x2)] [] := by
          intro m
          induction m with
          | zero =>
            intro p x2 T S1 eS1 hn hpl e2 hT
            exact absurd hn (by omega)
          | succ m ih2 =>
            intro p x2 T S1 eS1 hn hpl e2 hT
            subst eS1
            refine vv_iload_n (pc := 23) 2 dX5_layTasks_23 rfl rfl ?_
            refine vv_bipush (pc := 24) (v := 20) dX5_layTasks_24 (by decide) ?_
            refine vv_icmp_ge (pc := 26) (tgt := 182) dX5_layTasks_26 (by decide) (fun c26 => ?_) (fun c26 => ?_)
            -- t@26 path L2tL23t
            · refine vr_v (pc := 182) dX5_layTasks_182 ?_
              have hpe := sp_geN (N := 20) (by decide) hpl e2 c26
              subst hpe
              exact ⟨T, hT, rfl⟩
            -- f@26 path L2tL23f
            · have hp : p < 20 := sp_ltN (N := 20) (by decide) hpl e2 c26
              have h8 : mR S 14 T 8 = S 8 := mR_o S T (by decide)
              refine vv_aload_n (pc := 29) 0 dX5_layTasks_29 rfl rfl ?_
              refine vg_X5_now (pc := 30) mw_F_X5_7 dX5_layTasks_30 ?_
              refine vv_bipush (pc := 33) (v := 10) dX5_layTasks_33 (by decide) ?_
              refine vv_iload_n (pc := 35) 2 dX5_layTasks_35 rfl rfl ?_
              refine vv_iadd (pc := 36) dX5_layTasks_36 ?_
              rw [show (10 : Int32) + x2 = nI (10 + p) from by rw [e2]; exact nI_add 10 p]
              refine vl_8 (pc := 37) (vp_in_nI (by omega) (by decide)) dX5_layTasks_37 ?_
              rw [h8, cl_n (by omega)]
              refine vv_topi (fun x3p38 e3p38 => ?_)
              refine vv_istore_n (pc := 38) (i := 3) (ls' := [(3, .int x3p38), (0, .ref (gad G 7)), (1, .int x), (2, .int x2)]) dX5_layTasks_38 rfl (by decide) rfl ?_
              refine vv_aload_n (pc := 39) 1 dX5_layTasks_39 rfl rfl ?_
              refine vv_iload_n (pc := 40) 2 dX5_layTasks_40 rfl rfl ?_
              refine vv_iload_n (pc := 41) 3 dX5_layTasks_41 rfl rfl ?_
              refine vv_iconst (pc := 42) (v := (-1)) dX5_layTasks_42 (by decide) ?_
              refine vc_Vi (pc := 43) (c_X5_nearest l G _ (C := C) (g := g) (sp_lf (S 8) g p) hC (by rw [h8]; exact h3) (by rw [h8]; exact hm) rfl (fun c hc => by rw [h8, e2]; exact sp_lf_step hws hp c hc) (fun c hc => sp_lf_b c (by omega))) mw_M_X5_57 my_X5_nearest mm_rv_X5 ⟨by decide, by decide⟩ rfl rfl (Nat.le_of_ble_eq_true rfl) dX5_layTasks_43 (fun r43 S43 h43 => ?_)
              obtain ⟨qS43, h43⟩ := h43
              replace qS43 := qS43.symm
              subst qS43
              refine vv_topi (fun x4p46 e4p46 => ?_)
              refine vv_istore (pc := 46) (i := 4) (ls' := [(4, .int x4p46), (3, .int x3p38), (0, .ref (gad G 7)), (1, .int x), (2, .int x2)]) dX5_layTasks_46 (by decide) rfl ?_
              refine vv_aload_n (pc := 48) 2 dX5_layTasks_48 rfl rfl ?_
              refine vv_iload_n (pc := 49) 3 dX5_layTasks_49 rfl rfl ?_
              refine vv_iload_n (pc := 50) 4 dX5_layTasks_50 rfl rfl ?_
              refine vv_iconst (pc := 51) (v := 1) dX5_layTasks_51 (by decide) ?_
              refine vc_Vi (pc := 52) (c_X5_nearest l G _ (C := C) (g := g) (sp_rt (S 8) g p) hC (by rw [h8]; exact h3) (by rw [h8]; exact hm) rfl (fun c hc => by rw [h8, e2]; exact sp_rt_step hws hp c hc) (fun c hc => sp_rt_b c (by omega))) mw_M_X5_57 my_X5_nearest mm_rv_X5 ⟨by decide, by decide⟩ rfl rfl (Nat.le_of_ble_eq_true rfl) dX5_layTasks_52 (fun r52 S52 h52 => ?_)
              obtain ⟨qS52, h52⟩ := h52
              replace qS52 := qS52.symm
              subst qS52
              refine vv_topi (fun x5p55 e5p55 => ?_)
              refine vv_istore (pc := 55) (i := 5) (ls' := [(5, .int x5p55), (4, .int x4p46), (3, .int x3p38), (0, .ref (gad G 7)), (1, .int x), (2, .int x2)]) dX5_layTasks_55 (by decide) rfl ?_
              obtain ⟨A, eA⟩ : ∃ A, A = sp_lf (S 8) g p C := ⟨_, rfl⟩
              obtain ⟨B, eB⟩ : ∃ B, B = sp_rt (S 8) g p C := ⟨_, rfl⟩
              rw [h43, ← eA] at e4p46
              rw [h52, ← eB] at e5p55
              have hA := sp_lf_b (z := S 8) (f := g) (p := p) C hC
              rw [← eA] at hA
              have hB := sp_rt_b (z := S 8) (f := g) (p := p) C hC
              rw [← eB] at hB
              refine vv_iload (pc := 57) 1 dX5_layTasks_57 rfl ?_
              refine vv_if_lt (pc := 59) (tgt := 142) dX5_layTasks_59 (by decide) (fun c59 => ?_) (fun c59 => ?_)
              -- t@59 path L2tL23ft
              · refine vv_iload (pc := 142) 1 dX5_layTasks_142 rfl ?_
                refine vv_if_ge (pc := 144) (tgt := 152) dX5_layTasks_144 (by decide) (fun c144 => ?_) (fun c144 => ?_)
                -- t@144 path L2tL23ftt
                · exact absurd c144 (Int32.not_le.mpr c59)
                -- f@144 path L2tL23ftf
                · refine vv_iload (pc := 147) 0 dX5_layTasks_147 rfl ?_
                  refine vv_if_lt (pc := 149) (tgt := 176) dX5_layTasks_149 (by decide) (fun c149 => ?_) (fun c149 => ?_)
                  -- t@149 path L2tL23ftft
                  · refine vv_mem (fun Sz eSz => ?_)
                    have hA9 : A = 99 := enc_lt hA (by rw [← e4p46]; exact c59) (by omega)
                    have hB9 : B = 99 := enc_lt hB (by rw [← e5p55]; exact c149) (by omega)
                    have hS2 : Sz = mR S 14 T := eSz
                    have hT2 : ∀ w, w < C → T w = sp_T (S 8) g C w (p + 1) := fun w hw => by rw [sp_T, sp_ctb_nn (by rw [← eA]; exact hA9) (by rw [← eB]; exact hB9), hT w hw, Int32.add_zero]
                    obtain ⟨x2p176, e2p176⟩ : ∃ y : Int32, y = x2 + 1 := ⟨_, rfl⟩
                    refine vv_iinc (pc := 176) (q := 5) (v := x2p176) (ls' := [(2, .int x2p176), (5, .int x5p55), (4, .int x4p46), (3, .int x3p38), (0, .ref (gad G 7)), (1, .int x)]) dX5_layTasks_176 rfl (by rw [e2p176]; rfl) (by decide) rfl ?_
                    refine vv_goto (pc := 179) (tgt := 23) dX5_layTasks_179 (by decide) ?_
                    refine vv_sub [4, 5, 0] (ls' := [(0, _), (1, _), (2, _)]) rfl ?_
                    exact ih2 (p + 1) x2p176 _ Sz hS2 (by omega) (by omega) (by rw [e2p176, e2, nI_1]) hT2
                  -- f@149 path L2tL23ftff
                  · refine vv_aload_n (pc := 152) 3 dX5_layTasks_152 rfl rfl ?_
                    refine vg_X5_task (pc := 153) mw_F_X5_29 dX5_layTasks_153 ?_
                    refine vv_iload (pc := 156) 1 dX5_layTasks_156 rfl ?_
                    refine vv_if_lt (pc := 158) (tgt := 166) dX5_layTasks_158 (by decide) (fun c158 => ?_) (fun c158 => ?_)
                    -- t@158 path L2tL23ftfft
                    · refine vv_iload (pc := 166) 0 dX5_layTasks_166 rfl ?_
                      have hB9 : B ≠ 99 := fun h => c149 (by rw [e5p55]; exact (enc_neg hB (by omega)).mpr h)
                      have hB8 : B < 8 := by omega
                      have ex5 : x5p55 = nI B := by rw [e5p55, enc_n hB9]
                      have hc5 : x5p55.toNatClampNeg = B := by rw [ex5, cl_n (by omega)]
                      refine vv_dup2 (pc := 168) dX5_layTasks_168 rfl rfl ?_
                      refine vl_14 (pc := 169) (by rw [ex5]; exact vp_8 hB8) dX5_layTasks_169 ?_
                      refine vv_bipush (pc := 170) (v := 10) dX5_layTasks_170 (by decide) ?_
                      refine vv_iload_n (pc := 172) 2 dX5_layTasks_172 rfl rfl ?_
                      refine vv_imul (pc := 173) dX5_layTasks_173 ?_
                      refine vv_iadd (pc := 174) dX5_layTasks_174 ?_
                      refine vs_14 (pc := 175) (by rw [ex5]; exact vp_8 hB8) dX5_layTasks_175 ?_
                      have hA9 : A = 99 := enc_lt hA (by rw [← e4p46]; exact c59) (by omega)
                      refine vv_mem (fun Sz eSz => ?_)
                      have hT2 := tk_1 (k := B) (fun w => sp_ctb_nr (by rw [← eA]; exact hA9) (by rw [← eB]; exact hB9) |>.trans (by rw [← eB])) hT
                      have hS2 : Sz = mR S 14 (upd T B (T B + 10 * S 8 (10 + p))) := by rw [eSz, mR_wr, mR_mR, mR_s, hc5, e3p38]
                      obtain ⟨x2p176, e2p176⟩ : ∃ y : Int32, y = x2 + 1 := ⟨_, rfl⟩
                      refine vv_iinc (pc := 176) (q := 5) (v := x2p176) (ls' := [(2, .int x2p176), (5, .int x5p55), (4, .int x4p46), (3, .int x3p38), (0, .ref (gad G 7)), (1, .int x)]) dX5_layTasks_176 rfl (by rw [e2p176]; rfl) (by decide) rfl ?_
                      refine vv_goto (pc := 179) (tgt := 23) dX5_layTasks_179 (by decide) ?_
                      refine vv_sub [4, 5, 0] (ls' := [(0, _), (1, _), (2, _)]) rfl ?_
                      exact ih2 (p + 1) x2p176 _ Sz hS2 (by omega) (by omega) (by rw [e2p176, e2, nI_1]) hT2
                    -- f@158 path L2tL23ftfff
                    · exact absurd c59 c158
              -- f@59 path L2tL23ff
              · refine vv_iload (pc := 62) 0 dX5_layTasks_62 rfl ?_
                refine vv_if_lt (pc := 64) (tgt := 142) dX5_layTasks_64 (by decide) (fun c64 => ?_) (fun c64 => ?_)
                -- t@64 path L2tL23fft
                · refine vv_iload (pc := 142) 1 dX5_layTasks_142 rfl ?_
                  refine vv_if_ge (pc := 144) (tgt := 152) dX5_layTasks_144 (by decide) (fun c144 => ?_) (fun c144 => ?_)
                  -- t@144 path L2tL23fftt
                  · refine vv_aload_n (pc := 152) 3 dX5_layTasks_152 rfl rfl ?_
                    refine vg_X5_task (pc := 153) mw_F_X5_29 dX5_layTasks_153 ?_
                    refine vv_iload (pc := 156) 1 dX5_layTasks_156 rfl ?_
                    refine vv_if_lt (pc := 158) (tgt := 166) dX5_layTasks_158 (by decide) (fun c158 => ?_) (fun c158 => ?_)
                    -- t@158 path L2tL23ffttt
                    · exact absurd c158 c59
                    -- f@158 path L2tL23ffttf
                    · refine vv_iload (pc := 161) 1 dX5_layTasks_161 rfl ?_
                      refine vv_goto (pc := 163) (tgt := 168) dX5_layTasks_163 (by decide) ?_
                      have hA9 : A ≠ 99 := fun h => c59 (by rw [e4p46]; exact (enc_neg hA (by omega)).mpr h)
                      have hA8 : A < 8 := by omega
                      have ex4 : x4p46 = nI A := by rw [e4p46, enc_n hA9]
                      have hc4 : x4p46.toNatClampNeg = A := by rw [ex4, cl_n (by omega)]
                      refine vv_dup2 (pc := 168) dX5_layTasks_168 rfl rfl ?_
                      refine vl_14 (pc := 169) (by rw [ex4]; exact vp_8 hA8) dX5_layTasks_169 ?_
                      refine vv_bipush (pc := 170) (v := 10) dX5_layTasks_170 (by decide) ?_
                      refine vv_iload_n (pc := 172) 2 dX5_layTasks_172 rfl rfl ?_
                      refine vv_imul (pc := 173) dX5_layTasks_173 ?_
                      refine vv_iadd (pc := 174) dX5_layTasks_174 ?_
                      refine vs_14 (pc := 175) (by rw [ex4]; exact vp_8 hA8) dX5_layTasks_175 ?_
                      have hB9 : B = 99 := enc_lt hB (by rw [← e5p55]; exact c64) (by omega)
                      refine vv_mem (fun Sz eSz => ?_)
                      have hT2 := tk_1 (k := A) (fun w => sp_ctb_rn (by rw [← eA]; exact hA9) (by rw [← eB]; exact hB9) |>.trans (by rw [← eA])) hT
                      have hS2 : Sz = mR S 14 (upd T A (T A + 10 * S 8 (10 + p))) := by rw [eSz, mR_wr, mR_mR, mR_s, hc4, e3p38]
                      obtain ⟨x2p176, e2p176⟩ : ∃ y : Int32, y = x2 + 1 := ⟨_, rfl⟩
                      refine vv_iinc (pc := 176) (q := 5) (v := x2p176) (ls' := [(2, .int x2p176), (5, .int x5p55), (4, .int x4p46), (3, .int x3p38), (0, .ref (gad G 7)), (1, .int x)]) dX5_layTasks_176 rfl (by rw [e2p176]; rfl) (by decide) rfl ?_
                      refine vv_goto (pc := 179) (tgt := 23) dX5_layTasks_179 (by decide) ?_
                      refine vv_sub [4, 5, 0] (ls' := [(0, _), (1, _), (2, _)]) rfl ?_
                      exact ih2 (p + 1) x2p176 _ Sz hS2 (by omega) (by omega) (by rw [e2p176, e2, nI_1]) hT2
                  -- f@144 path L2tL23fftf
                  · exact absurd (Int32.not_lt.mp c59) c144
                -- f@64 path L2tL23fff
                · refine vv_iload (pc := 67) 1 dX5_layTasks_67 rfl ?_
                  refine vv_iload (pc := 69) 0 dX5_layTasks_69 rfl ?_
                  refine vv_icmp_eq (pc := 71) (tgt := 142) dX5_layTasks_71 (by decide) (fun c71 => ?_) (fun c71 => ?_)
                  -- t@71 path L2tL23ffft
                  · refine vv_iload (pc := 142) 1 dX5_layTasks_142 rfl ?_
                    refine vv_if_ge (pc := 144) (tgt := 152) dX5_layTasks_144 (by decide) (fun c144 => ?_) (fun c144 => ?_)
                    -- t@144 path L2tL23ffftt
                    · refine vv_aload_n (pc := 152) 3 dX5_layTasks_152 rfl rfl ?_
                      refine vg_X5_task (pc := 153) mw_F_X5_29 dX5_layTasks_153 ?_
                      refine vv_iload (pc := 156) 1 dX5_layTasks_156 rfl ?_
                      refine vv_if_lt (pc := 158) (tgt := 166) dX5_layTasks_158 (by decide) (fun c158 => ?_) (fun c158 => ?_)
                      -- t@158 path L2tL23fffttt
                      · exact absurd c158 c59
                      -- f@158 path L2tL23fffttf
                      · refine vv_iload (pc := 161) 1 dX5_layTasks_161 rfl ?_
                        refine vv_goto (pc := 163) (tgt := 168) dX5_layTasks_163 (by decide) ?_
                        have hA9 : A ≠ 99 := fun h => c59 (by rw [e4p46]; exact (enc_neg hA (by omega)).mpr h)
                        have hA8 : A < 8 := by omega
                        have ex4 : x4p46 = nI A := by rw [e4p46, enc_n hA9]
                        have hc4 : x4p46.toNatClampNeg = A := by rw [ex4, cl_n (by omega)]
                        refine vv_dup2 (pc := 168) dX5_layTasks_168 rfl rfl ?_
                        refine vl_14 (pc := 169) (by rw [ex4]; exact vp_8 hA8) dX5_layTasks_169 ?_
                        refine vv_bipush (pc := 170) (v := 10) dX5_layTasks_170 (by decide) ?_
                        refine vv_iload_n (pc := 172) 2 dX5_layTasks_172 rfl rfl ?_
                        refine vv_imul (pc := 173) dX5_layTasks_173 ?_
                        refine vv_iadd (pc := 174) dX5_layTasks_174 ?_
                        refine vs_14 (pc := 175) (by rw [ex4]; exact vp_8 hA8) dX5_layTasks_175 ?_
                        have hAB : A = B := (enc_inj hA hB (by rw [← e4p46, ← e5p55]; exact c71) hC)
                        refine vv_mem (fun Sz eSz => ?_)
                        have hT2 := tk_1 (k := A) (fun w => sp_ctb_eq (by rw [← eA]; exact hA9) (by rw [← eA, ← eB]; exact hAB) |>.trans (by rw [← eA])) hT
                        have hS2 : Sz = mR S 14 (upd T A (T A + 10 * S 8 (10 + p))) := by rw [eSz, mR_wr, mR_mR, mR_s, hc4, e3p38]
                        obtain ⟨x2p176, e2p176⟩ : ∃ y : Int32, y = x2 + 1 := ⟨_, rfl⟩
                        refine vv_iinc (pc := 176) (q := 5) (v := x2p176) (ls' := [(2, .int x2p176), (5, .int x5p55), (4, .int x4p46), (3, .int x3p38), (0, .ref (gad G 7)), (1, .int x)]) dX5_layTasks_176 rfl (by rw [e2p176]; rfl) (by decide) rfl ?_
                        refine vv_goto (pc := 179) (tgt := 23) dX5_layTasks_179 (by decide) ?_
                        refine vv_sub [4, 5, 0] (ls' := [(0, _), (1, _), (2, _)]) rfl ?_
                        exact ih2 (p + 1) x2p176 _ Sz hS2 (by omega) (by omega) (by rw [e2p176, e2, nI_1]) hT2
                    -- f@144 path L2tL23ffftf
                    · exact absurd (Int32.not_lt.mp c59) c144
                  -- f@71 path L2tL23ffff
                  · have hA9 : A ≠ 99 := fun h => c59 (by rw [e4p46]; exact (enc_neg hA (by omega)).mpr h)
                    have hA8 : A < 8 := by omega
                    have ex4 : x4p46 = nI A := by rw [e4p46, enc_n hA9]
                    have hc4 : x4p46.toNatClampNeg = A := by rw [ex4, cl_n (by omega)]
                    have hB9 : B ≠ 99 := fun h => c64 (by rw [e5p55]; exact (enc_neg hB (by omega)).mpr h)
                    have hB8 : B < 8 := by omega
                    have ex5 : x5p55 = nI B := by rw [e5p55, enc_n hB9]
                    have hc5 : x5p55.toNatClampNeg = B := by rw [ex5, cl_n (by omega)]
                    have hAB : A ≠ B := fun h => c71 (by rw [ex4, ex5, h])
                    refine vv_iload_n (pc := 74) 5 dX5_layTasks_74 rfl rfl ?_
                    refine vv_aload_n (pc := 75) 3 dX5_layTasks_75 rfl rfl ?_
                    refine vv_iload (pc := 76) 1 dX5_layTasks_76 rfl ?_
                    refine vv_iconst (pc := 78) (v := 0) dX5_layTasks_78 (by decide) ?_
                    refine vc_Vi (pc := 79) (c_X5_of l G _ (by assumption) rfl (by assumption) (by decide)) mw_M_X5_47 my_X5_of mm_rv_X5 ⟨by decide, by decide⟩ rfl rfl (Nat.le_of_ble_eq_true rfl) dX5_layTasks_79 (fun r79 S79 h79 => ?_)
                    obtain ⟨qS79, h79⟩ := h79
                    replace qS79 := qS79.symm
                    subst qS79
                    refine vv_isub (pc := 82) dX5_layTasks_82 ?_
                    refine vv_topi (fun x6p83 e6p83 => ?_)
                    refine vv_istore (pc := 83) (i := 6) (ls' := [(6, .int x6p83), (5, .int x5p55), (4, .int x4p46), (3, .int x3p38), (0, .ref (gad G 7)), (1, .int x), (2, .int x2)]) dX5_layTasks_83 (by decide) rfl ?_
                    refine vv_iload_n (pc := 85) 3 dX5_layTasks_85 rfl rfl ?_
                    refine vv_iload (pc := 86) 0 dX5_layTasks_86 rfl ?_
                    refine vv_imul (pc := 88) dX5_layTasks_88 ?_
                    refine vv_aload_n (pc := 89) 4 dX5_layTasks_89 rfl rfl ?_
                    refine vv_iload (pc := 90) 1 dX5_layTasks_90 rfl ?_
                    refine vv_iconst (pc := 92) (v := 0) dX5_layTasks_92 (by decide) ?_
                    refine vc_Vi (pc := 93) (c_X5_of l G _ (by assumption) rfl (by assumption) (by decide)) mw_M_X5_47 my_X5_of mm_rv_X5 ⟨by decide, by decide⟩ rfl rfl (Nat.le_of_ble_eq_true rfl) dX5_layTasks_93 (fun r93 S93 h93 => ?_)
                    obtain ⟨qS93, h93⟩ := h93
                    replace qS93 := qS93.symm
                    subst qS93
                    refine vv_aload_n (pc := 96) 4 dX5_layTasks_96 rfl rfl ?_
                    refine vv_iload (pc := 97) 2 dX5_layTasks_97 rfl ?_
                    refine vv_iconst (pc := 99) (v := 0) dX5_layTasks_99 (by decide) ?_
                    refine vc_Vi (pc := 100) (c_X5_of l G _ (by assumption) rfl (by assumption) (by decide)) mw_M_X5_47 my_X5_of mm_rv_X5 ⟨by decide, by decide⟩ rfl rfl (Nat.le_of_ble_eq_true rfl) dX5_layTasks_100 (fun r100 S100 h100 => ?_)
                    obtain ⟨qS100, h100⟩ := h100
                    replace qS100 := qS100.symm
                    subst qS100
                    refine vv_isub (pc := 103) dX5_layTasks_103 ?_
                    rw [h8] at h79 h93 h100
                    have hAt := sp_lf_le (z := S 8) (f := g) (p := p) hC (by rw [← eA]; exact hA9)
                    rw [← eA] at hAt
                    have hBt := sp_rt_ge (z := S 8) (f := g) (p := p) hC (by rw [← eB]; exact hB9)
                    rw [← eB] at hBt
                    have hlt : sp_at (S 8) A < sp_at (S 8) B := by
                      rcases Nat.lt_or_ge (sp_at (S 8) A) (sp_at (S 8) B) with h | h
                      · exact h
                      · exact absurd (hinj A B (by omega) (by omega) (by omega)) hAB
                    have hdiv : ¬ r93 - r100 = 0 := fun h => sp_pos (by have := (hat A (by omega)).2; omega) (by have := (hat B (by omega)).2; omega) hlt (by rw [← (hat A (by omega)).1, ← (hat B (by omega)).1, ← h93, ← h100, h]; decide)
                    refine vv_idiv (pc := 104) dX5_layTasks_104 hdiv ?_
                    refine vv_topi (fun x7p105 e7p105 => ?_)
                    refine vv_istore (pc := 105) (i := 7) (ls' := [(7, .int x7p105), (6, .int x6p83), (5, .int x5p55), (4, .int x4p46), (3, .int x3p38), (0, .ref (gad G 7)), (1, .int x), (2, .int x2)]) dX5_layTasks_105 (by decide) rfl ?_
                    refine vv_aload_n (pc := 107) 5 dX5_layTasks_107 rfl rfl ?_
                    refine vg_X5_task (pc := 108) mw_F_X5_29 dX5_layTasks_108 ?_
                    refine vv_iload (pc := 111) 2 dX5_layTasks_111 rfl ?_
                    refine vv_dup2 (pc := 113) dX5_layTasks_113 rfl rfl ?_
                    refine vl_14 (pc := 114) (by rw [ex5]; exact vp_8 hB8) dX5_layTasks_114 ?_
                    refine vv_bipush (pc := 115) (v := 10) dX5_layTasks_115 (by decide) ?_
                    refine vv_iload (pc := 117) 0 dX5_layTasks_117 rfl ?_
                    refine vv_imul (pc := 119) dX5_layTasks_119 ?_
                    refine vv_iadd (pc := 120) dX5_layTasks_120 ?_
                    refine vs_14 (pc := 121) (by rw [ex5]; exact vp_8 hB8) dX5_layTasks_121 ?_
                    refine vv_aload_n (pc := 122) 5 dX5_layTasks_122 rfl rfl ?_
                    refine vg_X5_task (pc := 123) mw_F_X5_29 dX5_layTasks_123 ?_
                    refine vv_iload (pc := 126) 3 dX5_layTasks_126 rfl ?_
                    refine vv_dup2 (pc := 128) dX5_layTasks_128 rfl rfl ?_
                    refine vl_14 (pc := 129) (by rw [ex4]; exact vp_8 hA8) dX5_layTasks_129 ?_
                    refine vv_bipush (pc := 130) (v := 10) dX5_layTasks_130 (by decide) ?_
                    refine vv_iload_n (pc := 132) 4 dX5_layTasks_132 rfl rfl ?_
                    refine vv_iload (pc := 133) 0 dX5_layTasks_133 rfl ?_
                    refine vv_isub (pc := 135) dX5_layTasks_135 ?_
                    refine vv_imul (pc := 136) dX5_layTasks_136 ?_
                    refine vv_iadd (pc := 137) dX5_layTasks_137 ?_
                    refine vs_14 (pc := 138) (by rw [ex4]; exact vp_8 hA8) dX5_layTasks_138 ?_
                    refine vv_goto (pc := 139) (tgt := 176) dX5_layTasks_139 (by decide) ?_
                    refine vv_mem (fun Sz eSz => ?_)
                    have hv : x7p105 = S 8 (10 + p) * (nI p - sp_f (S 8) A 0) / (sp_f (S 8) B 0 - sp_f (S 8) A 0) := by rw [e7p105, e3p38, e6p83, h79, h93, h100, e2]
                    have hT2 := tk_ne eA.symm eB.symm hA9 hB9 hAB hT hv
                    have hS2 : Sz = mR S 14 (upd (upd T B (T B + 10 * x7p105)) A (T A + 10 * (S 8 (10 + p) - x7p105))) := by
                      rw [eSz]
                      simp only [mR_wr, mR_mR, mR_s, hc4, hc5, upd_n T _ hAB, e3p38]
                    obtain ⟨x2p176, e2p176⟩ : ∃ y : Int32, y = x2 + 1 := ⟨_, rfl⟩
                    refine vv_iinc (pc := 176) (q := 7) (v := x2p176) (ls' := [(2, .int x2p176), (7, .int x7p105), (6, .int x6p83), (5, .int x5p55), (4, .int x4p46), (3, .int x3p38), (0, .ref (gad G 7)), (1, .int x)]) dX5_layTasks_176 rfl (by rw [e2p176]; rfl) (by decide) rfl ?_
                    refine vv_goto (pc := 179) (tgt := 23) dX5_layTasks_179 (by decide) ?_
                    refine vv_sub [6, 7, 0] (ls' := [(0, _), (1, _), (2, _)]) rfl ?_
                    exact ih2 (p + 1) x2p176 _ Sz hS2 (by omega) (by omega) (by rw [e2p176, e2, nI_1]) hT2
        refine vv_sub [1, 2, 0] (ls' := [(0, _), (1, _), (2, _)]) rfl ?_
        have hk8 := sp_geN (N := 8) (by decide) hkl e2 c5
        exact lp23 21 0 x2p22 T _ rfl (by omega) (by omega) e2p22 (fun w hw => by rw [hT0 w (by omega)]; rfl)
      -- f@5 path L2f
      · have hk8 : k < 8 := sp_ltN (N := 8) (by decide) hkl e2 c5
        refine vv_aload_n (pc := 8) 0 dX5_layTasks_8 rfl rfl ?_
        refine vg_X5_task (pc := 9) mw_F_X5_29 dX5_layTasks_9 ?_
        refine vv_iload_n (pc := 12) 2 dX5_layTasks_12 rfl rfl ?_
        refine vv_iconst (pc := 13) (v := 0) dX5_layTasks_13 (by decide) ?_
        refine vs_14 (pc := 14) (by rw [e2]; exact vp_8 hk8) dX5_layTasks_14 ?_
        refine vv_mem (fun Sy eSy => ?_)
        have hSy : Sy = mR S 14 (upd T k 0) := by rw [eSy, mR_wr, mR_mR, mR_s, e2, cl_n (by omega)]
        obtain ⟨x2p15, e2p15⟩ : ∃ y : Int32, y = x2 + 1 := ⟨_, rfl⟩
        refine vv_iinc (pc := 15) (q := 2) (v := x2p15) (ls' := [(2, .int x2p15), (0, .ref (gad G 7)), (1, .int x)]) dX5_layTasks_15 rfl (by rw [e2p15]; rfl) (by decide) rfl ?_
        refine vv_goto (pc := 18) (tgt := 2) dX5_layTasks_18 (by decide) ?_
        refine vv_sub [1, 2, 0] (ls' := [(0, _), (1, _), (2, _)]) rfl ?_
        exact ih (k + 1) x2p15 (upd T k 0) Sy hSy (by omega) (by omega) (by rw [e2p15, e2, nI_1]) (fun j hj => by by_cases e : j = k; (rw [e, upd_s]); (rw [upd_n _ _ e]; exact hT0 j (by omega)))
  refine vv_sub [1, 2, 0] (ls' := [(0, _), (1, _), (2, _)]) rfl ?_
  exact lp2 9 0 x2p1 (S 14) S (mR_self S 14).symm (by omega) (by omega) e2p1 (fun j hj => absurd hj (by omega))
