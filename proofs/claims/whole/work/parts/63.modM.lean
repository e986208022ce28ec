theorem wire_no {q : St} {a b c d e v : Int32} (h : op_wbad q.1 q.2 a b c d e = v) (hv : v ≠ 0) : os_wire q a b c d e = (v, q) := by
  unfold os_wire
  rw [h, if_neg hv]
theorem wa_no {z : Nat → Int32} {C p : Nat} (hC : C ≤ 8) (h : ¬ 0 ≤ (if sp_wa z p C = -1 then -6 else sp_wa z p C)) : sp_wa z p C = -1 := by
  by_cases e : sp_wa z p C = -1
  · exact e
  · rw [if_neg e] at h
    rcases sp_wa_spec (n := z) p C (Nat.le_refl _) with ⟨g, -⟩ | ⟨k, hk, g, -⟩
    · exact absurd g e
    · rw [g] at h
      exact absurd (nI_pos' (by omega)) h
theorem wa_yes {z : Nat → Int32} {C p : Nat} (h : 0 ≤ (if sp_wa z p C = -1 then -6 else sp_wa z p C)) : sp_wa z p C ≠ -1 := by
  intro e
  rw [if_pos e] at h
  exact absurd h (by decide)
set_option maxRecDepth 100000 in
set_option maxHeartbeats 4000000 in
theorem c_X5_wire (l : Launch) (G : gG) {q : St} {kk : Nat} {hs : Nat → St} (S : Mem) (hg : gd q) (hz : q.2 = S 8) (hh : mh S kk hs) (x1 x2 x3 x4 x5 : Int32) : mm_C l G yX5_wire cX5_wire 7 (some .int) (mm_rm 5 121) [.ref (gad G 7), .int x1, .int x2, .int x3, .int x4, .int x5] S (mm_Qi G (fun r S2 => md S S2 q kk hs r (os_wire q x1 x2 x3 x4 x5))) := by
  obtain ⟨hwf, hcalm⟩ := id hg
  rw [hz] at hwf hcalm
  refine mm_ofV (own := RX5) (by decide +kernel) rfl (Nat.le_of_ble_eq_true rfl) (ls0 := [(0, .ref (gad G 7)), (1, .int x1), (2, .int x2), (3, .int x3), (4, .int x4), (5, .int x5)]) rfl ?_
  refine vv_iload_n (pc := 0) 1 dX5_wire_0 rfl rfl ?_
  refine vv_iconst (pc := 1) (v := 0) dX5_wire_1 (by decide) ?_
  refine vv_bipush (pc := 2) (v := 19) dX5_wire_2 (by decide) ?_
  refine vc_Si (pc := 4) (c_X5_in l G _ _ _ _) mw_M_X5_43 my_X5_in ⟨by decide, by decide⟩ rfl rfl (Nat.le_of_ble_eq_true rfl) dX5_wire_4 (fun r4 S4 h4 => ?_)
  obtain ⟨qS4, h4⟩ := h4
  replace qS4 := qS4.symm
  subst qS4
  refine vv_if_eq (pc := 7) (tgt := 55) dX5_wire_7 (by decide) (fun c7 => ?_) (fun c7 => ?_)
  -- t@7 path t
  · refine vv_bipush (pc := 55) (v := (-2)) dX5_wire_55 (by decide) ?_
    refine vr_i (pc := 57) dX5_wire_57 ?_
    rw [wire_no (v := -2) (by rw [op_wbad, if_pos (Or.inl (h4.symm.trans c7))]) (by decide)]
    exact md_no hh rfl hz (show sp_err (-2) ≠ 0 by decide)
  -- f@7 path f
  · refine vv_iload_n (pc := 10) 2 dX5_wire_10 rfl rfl ?_
    refine vv_bipush (pc := 11) (v := 10) dX5_wire_11 (by decide) ?_
    refine vv_sipush (pc := 13) (v := 200) dX5_wire_13 (by decide) ?_
    refine vc_Si (pc := 16) (c_X5_in l G _ _ _ _) mw_M_X5_43 my_X5_in ⟨by decide, by decide⟩ rfl rfl (Nat.le_of_ble_eq_true rfl) dX5_wire_16 (fun r16 S16 h16 => ?_)
    obtain ⟨qS16, h16⟩ := h16
    replace qS16 := qS16.symm
    subst qS16
    refine vv_if_eq (pc := 19) (tgt := 55) dX5_wire_19 (by decide) (fun c19 => ?_) (fun c19 => ?_)
    -- t@19 path ft
    · refine vv_bipush (pc := 55) (v := (-2)) dX5_wire_55 (by decide) ?_
      refine vr_i (pc := 57) dX5_wire_57 ?_
      rw [wire_no (v := -2) (by rw [op_wbad, if_pos (Or.inr (Or.inl (h16.symm.trans c19)))]) (by decide)]
      exact md_no hh rfl hz (show sp_err (-2) ≠ 0 by decide)
    -- f@19 path ff
    · refine vv_iload_n (pc := 22) 3 dX5_wire_22 rfl rfl ?_
      refine vv_iconst (pc := 23) (v := 1) dX5_wire_23 (by decide) ?_
      refine vv_bipush (pc := 24) (v := 20) dX5_wire_24 (by decide) ?_
      refine vc_Si (pc := 26) (c_X5_in l G _ _ _ _) mw_M_X5_43 my_X5_in ⟨by decide, by decide⟩ rfl rfl (Nat.le_of_ble_eq_true rfl) dX5_wire_26 (fun r26 S26 h26 => ?_)
      obtain ⟨qS26, h26⟩ := h26
      replace qS26 := qS26.symm
      subst qS26
      refine vv_if_eq (pc := 29) (tgt := 55) dX5_wire_29 (by decide) (fun c29 => ?_) (fun c29 => ?_)
      -- t@29 path fft
      · refine vv_bipush (pc := 55) (v := (-2)) dX5_wire_55 (by decide) ?_
        refine vr_i (pc := 57) dX5_wire_57 ?_
        rw [wire_no (v := -2) (by rw [op_wbad, if_pos (Or.inr (Or.inr (Or.inl (h26.symm.trans c29))))]) (by decide)]
        exact md_no hh rfl hz (show sp_err (-2) ≠ 0 by decide)
      -- f@29 path fff
      · refine vv_iload (pc := 32) 4 dX5_wire_32 rfl ?_
        refine vv_bipush (pc := 34) (v := 100) dX5_wire_34 (by decide) ?_
        refine vv_ldc (pc := 36) mw_K_X5_87 dX5_wire_36 ?_
        refine vc_Si (pc := 38) (c_X5_in l G _ _ _ _) mw_M_X5_43 my_X5_in ⟨by decide, by decide⟩ rfl rfl (Nat.le_of_ble_eq_true rfl) dX5_wire_38 (fun r38 S38 h38 => ?_)
        obtain ⟨qS38, h38⟩ := h38
        replace qS38 := qS38.symm
        subst qS38
        refine vv_if_eq (pc := 41) (tgt := 55) dX5_wire_41 (by decide) (fun c41 => ?_) (fun c41 => ?_)
        -- t@41 path ffft
        · refine vv_bipush (pc := 55) (v := (-2)) dX5_wire_55 (by decide) ?_
          refine vr_i (pc := 57) dX5_wire_57 ?_
          rw [wire_no (v := -2) (by rw [op_wbad, if_pos (Or.inr (Or.inr (Or.inr (Or.inl (h38.symm.trans c41)))))]) (by decide)]
          exact md_no hh rfl hz (show sp_err (-2) ≠ 0 by decide)
        -- f@41 path ffff
        · refine vv_iload (pc := 44) 5 dX5_wire_44 rfl ?_
          refine vv_iconst (pc := 46) (v := 0) dX5_wire_46 (by decide) ?_
          refine vv_ldc (pc := 47) mw_K_X5_87 dX5_wire_47 ?_
          refine vc_Si (pc := 49) (c_X5_in l G _ _ _ _) mw_M_X5_43 my_X5_in ⟨by decide, by decide⟩ rfl rfl (Nat.le_of_ble_eq_true rfl) dX5_wire_49 (fun r49 S49 h49 => ?_)
          obtain ⟨qS49, h49⟩ := h49
          replace qS49 := qS49.symm
          subst qS49
          refine vv_if_ne (pc := 52) (tgt := 58) dX5_wire_52 (by decide) (fun c52 => ?_) (fun c52 => ?_)
          -- t@52 path fffft
          · rw [h4] at c7
            rw [h16] at c19
            rw [h26] at c29
            rw [h38] at c41
            rw [h49] at c52
            have g1 : ¬ (sp_in x1 0 19 = 0 ∨ sp_in x2 10 200 = 0 ∨ sp_in x3 1 20 = 0 ∨ sp_in x4 100 50000 = 0 ∨ sp_in x5 0 50000 = 0) := fun h => h.elim c7 (fun h => h.elim c19 (fun h => h.elim c29 (fun h => h.elim c41 c52)))
            have i1 := sp_in_1 c7
            rw [show (0 : Int32).toInt = 0 by decide, show (19 : Int32).toInt = 19 by decide] at i1
            have hp0 := sp_cl (x := x1) (by omega)
            have hx1 : x1 = nI x1.toNatClampNeg := sp_nI (by omega)
            have hC := hwf.1.1
            refine vv_aload_n (pc := 58) 0 dX5_wire_58 rfl rfl ?_
            refine vg_X5_now (pc := 59) mw_F_X5_7 dX5_wire_59 ?_
            refine vv_iconst (pc := 62) (v := 3) dX5_wire_62 (by decide) ?_
            refine vl_8 (pc := 63) (vp_in_nI (n := 3) (by decide) (by decide)) dX5_wire_63 ?_
            rw [show S 8 (Int32.toNatClampNeg 3) = nI q.1 from hwf.1.2.1]
            refine vv_bipush (pc := 64) (v := 8) dX5_wire_64 (by decide) ?_
            refine vv_icmp_ne (pc := 66) (tgt := 72) dX5_wire_66 (by decide) (fun c66 => ?_) (fun c66 => ?_)
            -- t@66 path fffftt
            · have g2 : ¬ q.1 = 8 := fun h => c66 (by rw [h]; rfl)
              have hC8 : q.1 < 8 := by omega
              refine vv_aload_n (pc := 72) 0 dX5_wire_72 rfl rfl ?_
              refine vv_iload_n (pc := 73) 1 dX5_wire_73 rfl rfl ?_
              refine vc_Vi (pc := 74) (c_X5_wireAt l G _ (C := q.1) (p := x1.toNatClampNeg) hwf.1 hx1 (by omega)) mw_M_X5_88 my_X5_wireAt mm_rv_X5 ⟨by decide, by decide⟩ rfl rfl (Nat.le_of_ble_eq_true rfl) dX5_wire_74 (fun r74 S74 h74 => ?_)
              obtain ⟨qS74, h74⟩ := h74
              replace qS74 := qS74.symm
              subst qS74
              rw [h74, wat_wa _ _ _ hC]
              refine vv_if_ge (pc := 77) (tgt := 87) dX5_wire_77 (by decide) (fun c77 => ?_) (fun c77 => ?_)
              -- t@77 path ffffttt
              · refine vv_bipush (pc := 87) (v := (-5)) dX5_wire_87 (by decide) ?_
                refine vr_i (pc := 89) dX5_wire_89 ?_
                rw [wire_no (v := -5) (by rw [op_wbad, if_neg g1, if_neg g2, if_pos (Or.inl (by rw [hz]; exact wa_yes c77))]) (by decide)]
                exact md_no hh rfl hz (show sp_err (-5) ≠ 0 by decide)
              -- f@77 path ffffttf
              · refine vv_iload (pc := 80) 5 dX5_wire_80 rfl ?_
                refine vv_iload (pc := 82) 4 dX5_wire_82 rfl ?_
                refine vv_icmp_le (pc := 84) (tgt := 90) dX5_wire_84 (by decide) (fun c84 => ?_) (fun c84 => ?_)
                -- t@84 path ffffttft
                · have hwa := wa_no (C := q.1) hC c77
                  refine vv_aload_n (pc := 90) 0 dX5_wire_90 rfl rfl ?_
                  refine vc_Vv (pc := 91) (c_X5_record l G _ hz hh) mw_M_X5_84 my_X5_record mm_rv_X5 ⟨by decide, by decide⟩ rfl rfl (Nat.le_of_ble_eq_true rfl) dX5_wire_91 (fun S91 h91 => ?_)
                  have h8 := rec_o h91 8 (by decide) (by decide)
                  refine vv_aload_n (pc := 94) 0 dX5_wire_94 rfl rfl ?_
                  refine vg_X5_now (pc := 95) mw_F_X5_7 dX5_wire_95 ?_
                  refine vv_iconst (pc := 98) (v := 3) dX5_wire_98 (by decide) ?_
                  refine vl_8 (pc := 99) (vp_in_nI (n := 3) (by decide) (by decide)) dX5_wire_99 ?_
                  rw [h8, show S 8 (Int32.toNatClampNeg 3) = nI q.1 from hwf.1.2.1]
                  refine vv_topi (fun x6p100 e6p100 => ?_)
                  refine vv_istore (pc := 100) (i := 6) (ls' := [(6, .int x6p100), (0, .ref (gad G 7)), (1, .int x1), (2, .int x2), (3, .int x3), (4, .int x4), (5, .int x5)]) dX5_wire_100 (by decide) rfl ?_
                  have hx6 := e6p100
                  refine vv_aload_n (pc := 102) 1 dX5_wire_102 rfl rfl ?_
                  refine vg_X5_now (pc := 103) mw_F_X5_7 dX5_wire_103 ?_
                  refine vv_iconst (pc := 106) (v := 3) dX5_wire_106 (by decide) ?_
                  refine vv_dup2 (pc := 107) dX5_wire_107 rfl rfl ?_
                  refine vl_8 (pc := 108) (vp_in_nI (n := 3) (by decide) (by decide)) dX5_wire_108 ?_
                  refine vv_iconst (pc := 109) (v := 1) dX5_wire_109 (by decide) ?_
                  refine vv_iadd (pc := 110) dX5_wire_110 ?_
                  refine vs_8 (pc := 111) (vp_in_nI (n := 3) (by decide) (by decide)) dX5_wire_111 ?_
                  refine vv_mem (fun Sy eSy => ?_)
                  have hSy : Sy = mR S91 8 (upd (S 8) 3 (nI (q.1 + 1))) := by rw [eSy, mR_wr, h8, show (3 : Int32).toNatClampNeg = 3 from by decide, show S 8 3 = nI q.1 from hwf.1.2.1, nI_1]
                  refine vv_aload_n (pc := 112) 1 dX5_wire_112 rfl rfl ?_
                  refine vv_iload (pc := 113) 0 dX5_wire_113 rfl ?_
                  refine vv_iconst (pc := 115) (v := 0) dX5_wire_115 (by decide) ?_
                  refine vv_iload_n (pc := 116) 2 dX5_wire_116 rfl rfl ?_
                  refine vc_Vv (pc := 117) (c_X5_book l G _ hx6 rfl hC8 (by decide) _) mw_M_X5_73 my_X5_book mm_rv_X5 ⟨by decide, by decide⟩ rfl rfl (Nat.le_of_ble_eq_true rfl) dX5_wire_117 (fun S117 h117 => ?_)
                  rw [hSy, mR_s, mR_mR] at h117
                  refine vv_aload_n (pc := 120) 1 dX5_wire_120 rfl rfl ?_
                  refine vv_iload (pc := 121) 0 dX5_wire_121 rfl ?_
                  refine vv_iconst (pc := 123) (v := 1) dX5_wire_123 (by decide) ?_
                  refine vv_iload_n (pc := 124) 3 dX5_wire_124 rfl rfl ?_
                  refine vc_Vv (pc := 125) (c_X5_book l G _ hx6 rfl hC8 (by decide) _) mw_M_X5_73 my_X5_book mm_rv_X5 ⟨by decide, by decide⟩ rfl rfl (Nat.le_of_ble_eq_true rfl) dX5_wire_125 (fun S125 h125 => ?_)
                  rw [h117, mR_s, mR_mR] at h125
                  refine vv_aload_n (pc := 128) 1 dX5_wire_128 rfl rfl ?_
                  refine vv_iload (pc := 129) 0 dX5_wire_129 rfl ?_
                  refine vv_iconst (pc := 131) (v := 2) dX5_wire_131 (by decide) ?_
                  refine vv_iload_n (pc := 132) 4 dX5_wire_132 rfl rfl ?_
                  refine vc_Vv (pc := 133) (c_X5_book l G _ hx6 rfl hC8 (by decide) _) mw_M_X5_73 my_X5_book mm_rv_X5 ⟨by decide, by decide⟩ rfl rfl (Nat.le_of_ble_eq_true rfl) dX5_wire_133 (fun S133 h133 => ?_)
                  rw [h125, mR_s, mR_mR] at h133
                  refine vv_aload_n (pc := 136) 1 dX5_wire_136 rfl rfl ?_
                  refine vv_iload (pc := 137) 0 dX5_wire_137 rfl ?_
                  refine vv_iconst (pc := 139) (v := 3) dX5_wire_139 (by decide) ?_
                  refine vv_iload (pc := 140) 5 dX5_wire_140 rfl ?_
                  refine vc_Vv (pc := 142) (c_X5_book l G _ hx6 rfl hC8 (by decide) _) mw_M_X5_73 my_X5_book mm_rv_X5 ⟨by decide, by decide⟩ rfl rfl (Nat.le_of_ble_eq_true rfl) dX5_wire_142 (fun S142 h142 => ?_)
                  rw [h133, mR_s, mR_mR] at h142
                  refine vv_aload_n (pc := 145) 1 dX5_wire_145 rfl rfl ?_
                  refine vv_iload (pc := 146) 0 dX5_wire_146 rfl ?_
                  refine vv_iconst (pc := 148) (v := 4) dX5_wire_148 (by decide) ?_
                  refine vv_iload (pc := 149) 6 dX5_wire_149 rfl ?_
                  refine vc_Vv (pc := 151) (c_X5_book l G _ hx6 rfl hC8 (by decide) _) mw_M_X5_73 my_X5_book mm_rv_X5 ⟨by decide, by decide⟩ rfl rfl (Nat.le_of_ble_eq_true rfl) dX5_wire_151 (fun S151 h151 => ?_)
                  rw [h142, mR_s, mR_mR] at h151
                  refine vv_aload_n (pc := 154) 1 dX5_wire_154 rfl rfl ?_
                  refine vv_iload (pc := 155) 0 dX5_wire_155 rfl ?_
                  refine vv_bipush (pc := 157) (v := 6) dX5_wire_157 (by decide) ?_
                  refine vv_bipush (pc := 159) (v := (-6)) dX5_wire_159 (by decide) ?_
                  refine vc_Vv (pc := 161) (c_X5_book l G _ hx6 rfl hC8 (by decide) _) mw_M_X5_73 my_X5_book mm_rv_X5 ⟨by decide, by decide⟩ rfl rfl (Nat.le_of_ble_eq_true rfl) dX5_wire_161 (fun S161 h161 => ?_)
                  rw [h151, mR_s, mR_mR] at h161
                  refine vv_aload_n (pc := 164) 1 dX5_wire_164 rfl rfl ?_
                  refine vv_iload (pc := 165) 0 dX5_wire_165 rfl ?_
                  refine vv_bipush (pc := 167) (v := 7) dX5_wire_167 (by decide) ?_
                  refine vv_bipush (pc := 169) (v := (-6)) dX5_wire_169 (by decide) ?_
                  refine vc_Vv (pc := 171) (c_X5_book l G _ hx6 rfl hC8 (by decide) _) mw_M_X5_73 my_X5_book mm_rv_X5 ⟨by decide, by decide⟩ rfl rfl (Nat.le_of_ble_eq_true rfl) dX5_wire_171 (fun S171 h171 => ?_)
                  rw [h161, mR_s, mR_mR] at h171
                  refine vv_aload_n (pc := 174) 1 dX5_wire_174 rfl rfl ?_
                  refine vv_iload (pc := 175) 0 dX5_wire_175 rfl ?_
                  refine vv_bipush (pc := 177) (v := 8) dX5_wire_177 (by decide) ?_
                  refine vv_bipush (pc := 179) (v := (-6)) dX5_wire_179 (by decide) ?_
                  refine vc_Vv (pc := 181) (c_X5_book l G _ hx6 rfl hC8 (by decide) _) mw_M_X5_73 my_X5_book mm_rv_X5 ⟨by decide, by decide⟩ rfl rfl (Nat.le_of_ble_eq_true rfl) dX5_wire_181 (fun S181 h181 => ?_)
                  rw [h171, mR_s, mR_mR] at h181
                  refine vv_aload_n (pc := 184) 1 dX5_wire_184 rfl rfl ?_
                  refine vv_iload (pc := 185) 0 dX5_wire_185 rfl ?_
                  refine vv_bipush (pc := 187) (v := 9) dX5_wire_187 (by decide) ?_
                  refine vv_bipush (pc := 189) (v := (-6)) dX5_wire_189 (by decide) ?_
                  refine vc_Vv (pc := 191) (c_X5_book l G _ hx6 rfl hC8 (by decide) _) mw_M_X5_73 my_X5_book mm_rv_X5 ⟨by decide, by decide⟩ rfl rfl (Nat.le_of_ble_eq_true rfl) dX5_wire_191 (fun S191 h191 => ?_)
                  rw [h181, mR_s, mR_mR] at h191
                  have hwl : sp_wf (q.1 + 1) (S191 8) := by
                    rw [h191, mR_s]
                    have i2 := sp_in_1 c19
                    have i3 := sp_in_1 c29
                    have i4 := sp_in_1 c41
                    have i5 := sp_in_1 c52
                    simp only [show (0 : Int32).toInt = 0 by decide, show (10 : Int32).toInt = 10 by decide, show (200 : Int32).toInt = 200 by decide, show (1 : Int32).toInt = 1 by decide, show (20 : Int32).toInt = 20 by decide, show (100 : Int32).toInt = 100 by decide, show (50000 : Int32).toInt = 50000 by decide] at i2 i3 i4 i5
                    exact sp_new_wf (a := x1) hwf hC8 (by omega) i2 i3 i4 i5 hwa
                  refine vv_aload_n (pc := 194) 1 dX5_wire_194 rfl rfl ?_
                  refine vc_Vi (pc := 195) (c_X5_settle l G _ (C := q.1 + 1) hwl) mw_M_X5_91 my_X5_settle mm_rv_X5 ⟨by decide, by decide⟩ rfl rfl (Nat.le_of_ble_eq_true rfl) dX5_wire_195 (fun r195 S195 h195 => ?_)
                  refine vv_pop (pc := 198) dX5_wire_198 rfl ?_
                  refine vv_iload (pc := 199) 0 dX5_wire_199 rfl ?_
                  refine vr_i (pc := 201) dX5_wire_201 ?_
                  obtain ⟨-, T, hT⟩ := h195
                  have hok : op_wbad q.1 q.2 x1 x2 x3 x4 x5 = 0 := by rw [op_wbad, if_neg g1, if_neg g2, if_neg (fun h => h.elim (fun h => h (by rw [hz]; exact hwa)) (fun h => absurd c84 (Int32.not_le.mpr h)))]
                  have ho : os_wire q x1 x2 x3 x4 x5 = (nI q.1, (q.1 + 1, sp_stl (q.1 + 1) 8 (sp_new q.1 q.2 x1 x2 x3 x4 x5))) := by rw [os_wire, if_pos hok]
                  rw [ho]
                  exact md_do h91 hx6 (by rw [hT, mR_o _ _ (by decide), mR_s, h191, mR_s, hz]; rfl) (fun j hj h14 => by rw [hT, mR_o _ _ h14, mR_o _ _ hj, h191, mR_o _ _ hj]) (sp_err_nI (by omega))
                -- f@84 path ffffttff
                · refine vv_bipush (pc := 87) (v := (-5)) dX5_wire_87 (by decide) ?_
                  refine vr_i (pc := 89) dX5_wire_89 ?_
                  rw [wire_no (v := -5) (by rw [op_wbad, if_neg g1, if_neg g2, if_pos (Or.inr (Int32.not_le.mp c84))]) (by decide)]
                  exact md_no hh rfl hz (show sp_err (-5) ≠ 0 by decide)
            -- f@66 path fffftf
            · refine vv_bipush (pc := 69) (v := (-4)) dX5_wire_69 (by decide) ?_
              refine vr_i (pc := 71) dX5_wire_71 ?_
              rw [wire_no (v := -4) (by rw [op_wbad, if_neg g1, if_pos ((nI_eq (by omega) (by decide)).mp c66)]) (by decide)]
              exact md_no hh rfl hz (show sp_err (-4) ≠ 0 by decide)
          -- f@52 path fffff
          · refine vv_bipush (pc := 55) (v := (-2)) dX5_wire_55 (by decide) ?_
            refine vr_i (pc := 57) dX5_wire_57 ?_
            rw [wire_no (v := -2) (by rw [op_wbad, if_pos (Or.inr (Or.inr (Or.inr (Or.inr (h49.symm.trans c52)))))]) (by decide)]
            exact md_no hh rfl hz (show sp_err (-2) ≠ 0 by decide)
