/-- the letters of orders -/
def mk (c : Int32) : Prop := c = 103 ∨ c = 104 ∨ c = 116 ∨ c = 112 ∨ c = 100
theorem mk_lt {t : Nat → Int32} {L i : Nat} (h : mk (sg t L i)) : i < L := by
  rcases Nat.lt_or_ge i L with g | g
  · exact g
  · unfold sg at h
    rw [if_neg (by omega)] at h
    exact absurd h (by unfold mk; decide)
/-- the first number of an order, and the second: value, wrong, place -/
def m1 (t : Nat → Int32) (L i : Nat) : Int32 × Int32 × Nat := if sg t L i = 104 then (0, 0, i + 1) else mn t L (i + 1)
def m2 (t : Nat → Int32) (L j : Nat) : Int32 × Int32 × Nat := if sg t L j = 61 then mn t L (j + 1) else (0, 1, j)
theorem sg_61 {t : Nat → Int32} {L i : Nat} {c : Int32} (h : sg t L i = c) (hc : c ≠ 0) : i < L := by
  rcases Nat.lt_or_ge i L with g | g
  · exact g
  · unfold sg at h
    rw [if_neg (by omega)] at h
    exact absurd h.symm hc
/-- what the reading of one order does -/
def rdo (S : Mem) (L r i : Nat) (O : Nat → Int32) (S2 : Mem) : Prop :=
  (¬ mk (sg (S 13) L i) → S2 = mQ S (nI r) (nI i) 1 (upd O (3 * r) (sg (S 13) L i))) ∧
  (mk (sg (S 13) L i) → sg (S 13) L i = 112 → (m1 (S 13) L i).2.1 = 0 → S2 = mQ S (nI (r + 1)) (nI (m2 (S 13) L (m1 (S 13) L i).2.2).2.2) (m2 (S 13) L (m1 (S 13) L i).2.2).2.1 (upd (upd (upd O (3 * r) (sg (S 13) L i)) (3 * r + 1) (m1 (S 13) L i).1) (3 * r + 2) (m2 (S 13) L (m1 (S 13) L i).2.2).1)) ∧
  (mk (sg (S 13) L i) → ¬ (sg (S 13) L i = 112 ∧ (m1 (S 13) L i).2.1 = 0) → S2 = mQ S (nI (r + 1)) (nI (m1 (S 13) L i).2.2) (m1 (S 13) L i).2.1 (upd (upd O (3 * r) (sg (S 13) L i)) (3 * r + 1) (m1 (S 13) L i).1))
set_option maxRecDepth 100000 in
set_option maxHeartbeats 4000000 in
theorem c_X5_readOne (l : Launch) (G : gG) (S : Mem) {O : Nat → Int32} {L r i : Nat} (hL : S 7 7 = nI L) (hL60 : L ≤ 60) (hi : i ≤ L) (hr : r < 59) (hz : chz (S 13) L) : mm_C l G yX5_readOne cX5_readOne 3 (none) (mm_rm 2 43) [.ref (gad G 7)] (mQ S (nI r) (nI i) 0 O) (mm_Qv G (fun S2 => rdo S L r i O S2)) := by
  refine mm_ofV (own := RX5) (by decide +kernel) rfl (Nat.le_of_ble_eq_true rfl) (ls0 := [(0, .ref (gad G 7))]) rfl ?_
  have cut54 : ∀ (x1 x2 : Int32), x1 = nI (3 * r) → x2 = sg (S 13) L i → mk x2 → mm_V l G RX5 cX5_readOne 3 (none) (mm_rm 2 43) 0 0 (fun _ => True) (fun _ => mm_F G) (mm_Qf G (mm_Qv G (fun S2 => rdo S L r i O S2))) (mQ S (nI r) (nI i) 0 (upd O (3 * r) (sg (S 13) L i))) 54 [(0, .ref (gad G 7)), (1, .int x1), (2, .int x2)] [.ref (gad G 7)] := by
    intro x1 x2 h1 h2 hk
    rw [h2] at hk
    have hiL := mk_lt hk
    have hm1 := mn_le (t := S 13) (L := L) (i := i + 1) (by omega)
    refine vv_iconst (pc := 54) (v := 0) dX5_readOne_54 (by decide) ?_
    refine vp_X5_isWrong (pc := 55) (by first | exact Or.inl rfl | exact Or.inr rfl | assumption) mw_F_X5_155 dX5_readOne_55 ?_
    rw [mQ_13]
    refine vv_aload_n (pc := 58) 0 dX5_readOne_58 rfl rfl ?_
    refine vg_X5_isWrong (pc := 59) mw_F_X5_155 dX5_readOne_59 ?_
    rw [mQ_r13]
    refine vv_if_eq (pc := 62) (tgt := 66) dX5_readOne_62 (by decide) (fun c62 => ?_) (fun c62 => absurd rfl c62)
    refine vv_aload_n (pc := 66) 0 dX5_readOne_66 rfl rfl ?_
    refine vv_dup (pc := 67) dX5_readOne_67 rfl ?_
    refine vg_X5_at (pc := 68) mw_F_X5_149 dX5_readOne_68 ?_
    rw [mQ_r12]
    refine vv_iconst (pc := 71) (v := 1) dX5_readOne_71 (by decide) ?_
    refine vv_iadd (pc := 72) dX5_readOne_72 ?_
    refine vp_X5_at (pc := 73) mw_F_X5_149 dX5_readOne_73 ?_
    rw [mQ_12, nI_1]
    refine vv_aload_n (pc := 76) 0 dX5_readOne_76 rfl rfl ?_
    refine vg_X5_orders (pc := 77) mw_F_X5_32 dX5_readOne_77 ?_
    refine vv_iload_n (pc := 80) 1 dX5_readOne_80 rfl rfl ?_
    refine vv_iconst (pc := 81) (v := 1) dX5_readOne_81 (by decide) ?_
    refine vv_iadd (pc := 82) dX5_readOne_82 ?_
    refine vv_iload_n (pc := 83) 2 dX5_readOne_83 rfl rfl ?_
    refine vv_bipush (pc := 84) (v := 104) dX5_readOne_84 (by decide) ?_
    refine vv_icmp_ne (pc := 86) (tgt := 93) dX5_readOne_86 (by decide) (fun c86 => ?_) (fun c86 => ?_)
    -- t@86 path C54t
    · refine vv_aload_n (pc := 93) 0 dX5_readOne_93 rfl rfl ?_
      refine vc_Vi (pc := 94) (c_X5_number l G S hL hL60 (by omega) hz) mw_M_X5_162 my_X5_number mm_rv_X5 ⟨by decide, by decide⟩ rfl rfl (Nat.le_of_ble_eq_true rfl) dX5_readOne_94 (fun r94 S94 h94 => ?_)
      obtain ⟨qS94, h94⟩ := h94
      replace qS94 := qS94.symm
      subst qS94
      refine vs_15 (pc := 97) (by rw [h1, show nI (3 * r) + 1 = nI (3 * r + 1) from nI_add _ 1]; exact vp_in_nI (by omega) (by decide)) dX5_readOne_97 ?_
      refine vv_mem (fun Sb eSb => ?_)
      have hSb : Sb = mQ S (nI r) (nI (mn (S 13) L (i + 1)).2.2) (mn (S 13) L (i + 1)).2.1 (upd (upd O (3 * r) (sg (S 13) L i)) (3 * r + 1) (mn (S 13) L (i + 1)).1) := by rw [eSb, mQ_15, h94, h1, show nI (3 * r) + 1 = nI (3 * r + 1) from nI_1 _, cl_n (by omega)]
      subst hSb
      refine vv_iload_n (pc := 98) 2 dX5_readOne_98 rfl rfl ?_
      refine vv_bipush (pc := 99) (v := 112) dX5_readOne_99 (by decide) ?_
      refine vv_icmp_ne (pc := 101) (tgt := 173) dX5_readOne_101 (by decide) (fun c101 => ?_) (fun c101 => ?_)
      -- t@101 path C54tt
      · refine vv_aload_n (pc := 173) 0 dX5_readOne_173 rfl rfl ?_
        refine vv_dup (pc := 174) dX5_readOne_174 rfl ?_
        refine vg_X5_read (pc := 175) mw_F_X5_159 dX5_readOne_175 ?_
        rw [mQ_r11]
        refine vv_iconst (pc := 178) (v := 1) dX5_readOne_178 (by decide) ?_
        refine vv_iadd (pc := 179) dX5_readOne_179 ?_
        refine vp_X5_read (pc := 180) mw_F_X5_159 dX5_readOne_180 ?_
        rw [mQ_11, nI_1]
        refine vr_v (pc := 183) dX5_readOne_183 ?_
        rw [h2] at c86 c101
        have e : m1 (S 13) L i = mn (S 13) L (i + 1) := by unfold m1; rw [if_neg c86]
        refine ⟨fun h => absurd hk h, fun _ g => absurd g c101, fun _ _ => by rw [e]⟩
      -- f@101 path C54tf
      · refine vv_aload_n (pc := 104) 0 dX5_readOne_104 rfl rfl ?_
        refine vg_X5_isWrong (pc := 105) mw_F_X5_155 dX5_readOne_105 ?_
        rw [mQ_r13]
        refine vv_if_ne (pc := 108) (tgt := 173) dX5_readOne_108 (by decide) (fun c108 => ?_) (fun c108 => ?_)
        -- t@108 path C54tft
        · refine vv_aload_n (pc := 173) 0 dX5_readOne_173 rfl rfl ?_
          refine vv_dup (pc := 174) dX5_readOne_174 rfl ?_
          refine vg_X5_read (pc := 175) mw_F_X5_159 dX5_readOne_175 ?_
          rw [mQ_r11]
          refine vv_iconst (pc := 178) (v := 1) dX5_readOne_178 (by decide) ?_
          refine vv_iadd (pc := 179) dX5_readOne_179 ?_
          refine vp_X5_read (pc := 180) mw_F_X5_159 dX5_readOne_180 ?_
          rw [mQ_11, nI_1]
          refine vr_v (pc := 183) dX5_readOne_183 ?_
          rw [h2] at c86 c101
          have e : m1 (S 13) L i = mn (S 13) L (i + 1) := by unfold m1; rw [if_neg c86]
          refine ⟨fun h => absurd hk h, fun _ _ g => absurd (e ▸ g) c108, fun _ _ => by rw [e]⟩
        -- f@108 path C54tff
        · refine vv_aload_n (pc := 111) 0 dX5_readOne_111 rfl rfl ?_
          refine vv_aload_n (pc := 112) 0 dX5_readOne_112 rfl rfl ?_
          refine vc_Vi (pc := 113) (c_X5_sign l G S hL hL60 hm1.1) mw_M_X5_152 my_X5_sign mm_rv_X5 ⟨by decide, by decide⟩ rfl rfl (Nat.le_of_ble_eq_true rfl) dX5_readOne_113 (fun r113 S113 h113 => ?_)
          obtain ⟨qS113, h113⟩ := h113
          replace qS113 := qS113.symm
          subst qS113
          refine vv_bipush (pc := 116) (v := 61) dX5_readOne_116 (by decide) ?_
          refine vv_icmp_eq (pc := 118) (tgt := 125) dX5_readOne_118 (by decide) (fun c118 => ?_) (fun c118 => ?_)
          -- t@118 path C54tfft
          · refine vv_iconst (pc := 125) (v := 0) dX5_readOne_125 (by decide) ?_
            refine vp_X5_isWrong (pc := 126) (by first | exact Or.inl rfl | exact Or.inr rfl | assumption) mw_F_X5_155 dX5_readOne_126 ?_
            rw [mQ_13]
            refine vv_aload_n (pc := 129) 0 dX5_readOne_129 rfl rfl ?_
            refine vv_dup (pc := 130) dX5_readOne_130 rfl ?_
            refine vg_X5_at (pc := 131) mw_F_X5_149 dX5_readOne_131 ?_
            rw [mQ_r12]
            refine vv_aload_n (pc := 134) 0 dX5_readOne_134 rfl rfl ?_
            refine vg_X5_isWrong (pc := 135) mw_F_X5_155 dX5_readOne_135 ?_
            rw [mQ_r13]
            refine vv_if_eq (pc := 138) (tgt := 145) dX5_readOne_138 (by decide) (fun c138 => ?_) (fun c138 => absurd rfl c138)
            refine vv_iconst (pc := 145) (v := 1) dX5_readOne_145 (by decide) ?_
            refine vv_iadd (pc := 146) dX5_readOne_146 ?_
            refine vp_X5_at (pc := 147) mw_F_X5_149 dX5_readOne_147 ?_
            rw [mQ_12, nI_1]
            have hjL := sg_61 (h113.symm.trans c118) (by decide)
            refine vv_aload_n (pc := 150) 0 dX5_readOne_150 rfl rfl ?_
            refine vg_X5_orders (pc := 151) mw_F_X5_32 dX5_readOne_151 ?_
            refine vv_iload_n (pc := 154) 1 dX5_readOne_154 rfl rfl ?_
            refine vv_iconst (pc := 155) (v := 2) dX5_readOne_155 (by decide) ?_
            refine vv_iadd (pc := 156) dX5_readOne_156 ?_
            refine vv_aload_n (pc := 157) 0 dX5_readOne_157 rfl rfl ?_
            refine vg_X5_isWrong (pc := 158) mw_F_X5_155 dX5_readOne_158 ?_
            rw [mQ_r13]
            refine vv_if_eq (pc := 161) (tgt := 168) dX5_readOne_161 (by decide) (fun c161 => ?_) (fun c161 => absurd rfl c161)
            refine vv_aload_n (pc := 168) 0 dX5_readOne_168 rfl rfl ?_
            refine vc_Vi (pc := 169) (c_X5_number l G S hL hL60 (by omega) hz) mw_M_X5_162 my_X5_number mm_rv_X5 ⟨by decide, by decide⟩ rfl rfl (Nat.le_of_ble_eq_true rfl) dX5_readOne_169 (fun r169 S169 h169 => ?_)
            obtain ⟨qS169, h169⟩ := h169
            replace qS169 := qS169.symm
            subst qS169
            refine vs_15 (pc := 172) (by rw [h1, show nI (3 * r) + 2 = nI (3 * r + 2) from nI_add _ 2]; exact vp_in_nI (by omega) (by decide)) dX5_readOne_172 ?_
            refine vv_mem (fun Sc eSc => ?_)
            have hSc : Sc = mQ S (nI r) (nI (mn (S 13) L ((mn (S 13) L (i + 1)).2.2 + 1)).2.2) (mn (S 13) L ((mn (S 13) L (i + 1)).2.2 + 1)).2.1 (upd (upd (upd O (3 * r) (sg (S 13) L i)) (3 * r + 1) (mn (S 13) L (i + 1)).1) (3 * r + 2) (mn (S 13) L ((mn (S 13) L (i + 1)).2.2 + 1)).1) := by rw [eSc, mQ_15, h169, h1, show nI (3 * r) + 2 = nI (3 * r + 2) from nI_add _ 2, cl_n (by omega)]
            subst hSc
            refine vv_aload_n (pc := 173) 0 dX5_readOne_173 rfl rfl ?_
            refine vv_dup (pc := 174) dX5_readOne_174 rfl ?_
            refine vg_X5_read (pc := 175) mw_F_X5_159 dX5_readOne_175 ?_
            rw [mQ_r11]
            refine vv_iconst (pc := 178) (v := 1) dX5_readOne_178 (by decide) ?_
            refine vv_iadd (pc := 179) dX5_readOne_179 ?_
            refine vp_X5_read (pc := 180) mw_F_X5_159 dX5_readOne_180 ?_
            rw [mQ_11, nI_1]
            refine vr_v (pc := 183) dX5_readOne_183 ?_
            rw [h2] at c86 c101
            rw [h113] at c118
            have e : m1 (S 13) L i = mn (S 13) L (i + 1) := by unfold m1; rw [if_neg c86]
            have e2 : m2 (S 13) L (mn (S 13) L (i + 1)).2.2 = mn (S 13) L ((mn (S 13) L (i + 1)).2.2 + 1) := by unfold m2; rw [if_pos c118]
            refine ⟨fun h => absurd hk h, fun _ _ _ => by rw [e, e2], fun _ g => absurd ⟨c101, by rw [e]; exact c108⟩ g⟩
          -- f@118 path C54tfff
          · refine vv_iconst (pc := 121) (v := 1) dX5_readOne_121 (by decide) ?_
            refine vv_goto (pc := 122) (tgt := 126) dX5_readOne_122 (by decide) ?_
            refine vp_X5_isWrong (pc := 126) (by first | exact Or.inl rfl | exact Or.inr rfl | assumption) mw_F_X5_155 dX5_readOne_126 ?_
            rw [mQ_13]
            refine vv_aload_n (pc := 129) 0 dX5_readOne_129 rfl rfl ?_
            refine vv_dup (pc := 130) dX5_readOne_130 rfl ?_
            refine vg_X5_at (pc := 131) mw_F_X5_149 dX5_readOne_131 ?_
            rw [mQ_r12]
            refine vv_aload_n (pc := 134) 0 dX5_readOne_134 rfl rfl ?_
            refine vg_X5_isWrong (pc := 135) mw_F_X5_155 dX5_readOne_135 ?_
            rw [mQ_r13]
            refine vv_if_eq (pc := 138) (tgt := 145) dX5_readOne_138 (by decide) (fun c138 => absurd c138 (by decide)) (fun c138 => ?_)
            refine vv_iconst (pc := 141) (v := 0) dX5_readOne_141 (by decide) ?_
            refine vv_goto (pc := 142) (tgt := 146) dX5_readOne_142 (by decide) ?_
            refine vv_iadd (pc := 146) dX5_readOne_146 ?_
            refine vp_X5_at (pc := 147) mw_F_X5_149 dX5_readOne_147 ?_
            rw [mQ_12, show ∀ x, nI x + 0 = nI x from fun x => Int32.add_zero _]
            refine vv_aload_n (pc := 150) 0 dX5_readOne_150 rfl rfl ?_
            refine vg_X5_orders (pc := 151) mw_F_X5_32 dX5_readOne_151 ?_
            refine vv_iload_n (pc := 154) 1 dX5_readOne_154 rfl rfl ?_
            refine vv_iconst (pc := 155) (v := 2) dX5_readOne_155 (by decide) ?_
            refine vv_iadd (pc := 156) dX5_readOne_156 ?_
            refine vv_aload_n (pc := 157) 0 dX5_readOne_157 rfl rfl ?_
            refine vg_X5_isWrong (pc := 158) mw_F_X5_155 dX5_readOne_158 ?_
            rw [mQ_r13]
            refine vv_if_eq (pc := 161) (tgt := 168) dX5_readOne_161 (by decide) (fun c161 => absurd c161 (by decide)) (fun c161 => ?_)
            refine vv_iconst (pc := 164) (v := 0) dX5_readOne_164 (by decide) ?_
            refine vv_goto (pc := 165) (tgt := 172) dX5_readOne_165 (by decide) ?_
            refine vs_15 (pc := 172) (by rw [h1, show nI (3 * r) + 2 = nI (3 * r + 2) from nI_add _ 2]; exact vp_in_nI (by omega) (by decide)) dX5_readOne_172 ?_
            refine vv_mem (fun Sc eSc => ?_)
            have hSc : Sc = mQ S (nI r) (nI (mn (S 13) L (i + 1)).2.2) 1 (upd (upd (upd O (3 * r) (sg (S 13) L i)) (3 * r + 1) (mn (S 13) L (i + 1)).1) (3 * r + 2) 0) := by rw [eSc, mQ_15, h1, show nI (3 * r) + 2 = nI (3 * r + 2) from nI_add _ 2, cl_n (by omega)]
            subst hSc
            refine vv_aload_n (pc := 173) 0 dX5_readOne_173 rfl rfl ?_
            refine vv_dup (pc := 174) dX5_readOne_174 rfl ?_
            refine vg_X5_read (pc := 175) mw_F_X5_159 dX5_readOne_175 ?_
            rw [mQ_r11]
            refine vv_iconst (pc := 178) (v := 1) dX5_readOne_178 (by decide) ?_
            refine vv_iadd (pc := 179) dX5_readOne_179 ?_
            refine vp_X5_read (pc := 180) mw_F_X5_159 dX5_readOne_180 ?_
            rw [mQ_11, nI_1]
            refine vr_v (pc := 183) dX5_readOne_183 ?_
            rw [h2] at c86 c101
            rw [h113] at c118
            have e : m1 (S 13) L i = mn (S 13) L (i + 1) := by unfold m1; rw [if_neg c86]
            have e2 : m2 (S 13) L (mn (S 13) L (i + 1)).2.2 = (0, 1, (mn (S 13) L (i + 1)).2.2) := by unfold m2; rw [if_neg c118]
            refine ⟨fun h => absurd hk h, fun _ _ _ => by rw [e, e2], fun _ g => absurd ⟨c101, by rw [e]; exact c108⟩ g⟩
    -- f@86 path C54f
    · refine vv_iconst (pc := 89) (v := 0) dX5_readOne_89 (by decide) ?_
      refine vv_goto (pc := 90) (tgt := 97) dX5_readOne_90 (by decide) ?_
      refine vs_15 (pc := 97) (by rw [h1, show nI (3 * r) + 1 = nI (3 * r + 1) from nI_add _ 1]; exact vp_in_nI (by omega) (by decide)) dX5_readOne_97 ?_
      refine vv_mem (fun Sb eSb => ?_)
      have hSb : Sb = mQ S (nI r) (nI (i + 1)) 0 (upd (upd O (3 * r) (sg (S 13) L i)) (3 * r + 1) 0) := by rw [eSb, mQ_15, h1, show nI (3 * r) + 1 = nI (3 * r + 1) from nI_1 _, cl_n (by omega)]
      subst hSb
      refine vv_iload_n (pc := 98) 2 dX5_readOne_98 rfl rfl ?_
      refine vv_bipush (pc := 99) (v := 112) dX5_readOne_99 (by decide) ?_
      refine vv_icmp_ne (pc := 101) (tgt := 173) dX5_readOne_101 (by decide) (fun c101 => ?_) (fun c101 => absurd (h2.symm.trans c101 |>.symm.trans (h2.symm.trans c86)) (by decide))
      refine vv_aload_n (pc := 173) 0 dX5_readOne_173 rfl rfl ?_
      refine vv_dup (pc := 174) dX5_readOne_174 rfl ?_
      refine vg_X5_read (pc := 175) mw_F_X5_159 dX5_readOne_175 ?_
      rw [mQ_r11]
      refine vv_iconst (pc := 178) (v := 1) dX5_readOne_178 (by decide) ?_
      refine vv_iadd (pc := 179) dX5_readOne_179 ?_
      refine vp_X5_read (pc := 180) mw_F_X5_159 dX5_readOne_180 ?_
      rw [mQ_11, nI_1]
      refine vr_v (pc := 183) dX5_readOne_183 ?_
      rw [h2] at c86
      have e : m1 (S 13) L i = (0, 0, i + 1) := by unfold m1; rw [if_pos c86]
      refine ⟨fun h => absurd hk h, fun _ g => absurd (c86.symm.trans g) (by decide), fun _ _ => by rw [e]⟩
  refine vv_iconst (pc := 0) (v := 3) dX5_readOne_0 (by decide) ?_
  refine vv_aload_n (pc := 1) 0 dX5_readOne_1 rfl rfl ?_
  refine vg_X5_read (pc := 2) mw_F_X5_159 dX5_readOne_2 ?_
  refine vv_imul (pc := 5) dX5_readOne_5 ?_
  refine vv_topi (fun x1p6 e1p6 => ?_)
  refine vv_istore_n (pc := 6) (i := 1) (ls' := [(1, .int x1p6), (0, .ref (gad G 7))]) dX5_readOne_6 rfl (by decide) rfl ?_
  have h1 : x1p6 = nI (3 * r) := by rw [e1p6, mQ_r11]; exact nI_mul 3 r
  refine vv_aload_n (pc := 7) 1 dX5_readOne_7 rfl rfl ?_
  refine vc_Vi (pc := 8) (c_X5_sign l G S hL hL60 (by omega)) mw_M_X5_152 my_X5_sign mm_rv_X5 ⟨by decide, by decide⟩ rfl rfl (Nat.le_of_ble_eq_true rfl) dX5_readOne_8 (fun r8 S8 h8 => ?_)
  obtain ⟨qS8, h8⟩ := h8
  replace qS8 := qS8.symm
  subst qS8
  refine vv_topi (fun x2p11 e2p11 => ?_)
  refine vv_istore_n (pc := 11) (i := 2) (ls' := [(2, .int x2p11), (1, .int x1p6), (0, .ref (gad G 7))]) dX5_readOne_11 rfl (by decide) rfl ?_
  rw [h8] at e2p11
  refine vv_aload_n (pc := 12) 2 dX5_readOne_12 rfl rfl ?_
  refine vg_X5_orders (pc := 13) mw_F_X5_32 dX5_readOne_13 ?_
  refine vv_iload_n (pc := 16) 1 dX5_readOne_16 rfl rfl ?_
  refine vv_iload_n (pc := 17) 0 dX5_readOne_17 rfl rfl ?_
  refine vs_15 (pc := 18) (by rw [h1]; exact vp_in_nI (by omega) (by decide)) dX5_readOne_18 ?_
  refine vv_mem (fun Sa eSa => ?_)
  have hSa : Sa = mQ S (nI r) (nI i) 0 (upd O (3 * r) (sg (S 13) L i)) := by rw [eSa, mQ_15, show x1p6.toNatClampNeg = 3 * r from by rw [h1, cl_n (by omega)], e2p11]
  subst hSa
  refine vv_aload_n (pc := 19) 2 dX5_readOne_19 rfl rfl ?_
  refine vv_iload_n (pc := 20) 0 dX5_readOne_20 rfl rfl ?_
  refine vv_bipush (pc := 21) (v := 103) dX5_readOne_21 (by decide) ?_
  refine vv_icmp_eq (pc := 23) (tgt := 54) dX5_readOne_23 (by decide) (fun c23 => ?_) (fun c23 => ?_)
  -- t@23 path t
  · refine vv_sub [2, 1, 0] (ls' := [(0, _), (1, _), (2, _)]) rfl ?_
    exact cut54 _ _ h1 e2p11 (Or.inl c23)
  -- f@23 path f
  · refine vv_iload_n (pc := 26) 0 dX5_readOne_26 rfl rfl ?_
    refine vv_bipush (pc := 27) (v := 104) dX5_readOne_27 (by decide) ?_
    refine vv_icmp_eq (pc := 29) (tgt := 54) dX5_readOne_29 (by decide) (fun c29 => ?_) (fun c29 => ?_)
    -- t@29 path ft
    · refine vv_sub [2, 1, 0] (ls' := [(0, _), (1, _), (2, _)]) rfl ?_
      exact cut54 _ _ h1 e2p11 (Or.inr (Or.inl c29))
    -- f@29 path ff
    · refine vv_iload_n (pc := 32) 0 dX5_readOne_32 rfl rfl ?_
      refine vv_bipush (pc := 33) (v := 116) dX5_readOne_33 (by decide) ?_
      refine vv_icmp_eq (pc := 35) (tgt := 54) dX5_readOne_35 (by decide) (fun c35 => ?_) (fun c35 => ?_)
      -- t@35 path fft
      · refine vv_sub [2, 1, 0] (ls' := [(0, _), (1, _), (2, _)]) rfl ?_
        exact cut54 _ _ h1 e2p11 (Or.inr (Or.inr (Or.inl c35)))
      -- f@35 path fff
      · refine vv_iload_n (pc := 38) 0 dX5_readOne_38 rfl rfl ?_
        refine vv_bipush (pc := 39) (v := 112) dX5_readOne_39 (by decide) ?_
        refine vv_icmp_eq (pc := 41) (tgt := 54) dX5_readOne_41 (by decide) (fun c41 => ?_) (fun c41 => ?_)
        -- t@41 path ffft
        · refine vv_sub [2, 1, 0] (ls' := [(0, _), (1, _), (2, _)]) rfl ?_
          exact cut54 _ _ h1 e2p11 (Or.inr (Or.inr (Or.inr (Or.inl c41))))
        -- f@41 path ffff
        · refine vv_iload_n (pc := 44) 0 dX5_readOne_44 rfl rfl ?_
          refine vv_bipush (pc := 45) (v := 100) dX5_readOne_45 (by decide) ?_
          refine vv_icmp_eq (pc := 47) (tgt := 54) dX5_readOne_47 (by decide) (fun c47 => ?_) (fun c47 => ?_)
          -- t@47 path fffft
          · refine vv_sub [2, 1, 0] (ls' := [(0, _), (1, _), (2, _)]) rfl ?_
            exact cut54 _ _ h1 e2p11 (Or.inr (Or.inr (Or.inr (Or.inr c47))))
          -- f@47 path fffff
          · refine vv_iconst (pc := 50) (v := 1) dX5_readOne_50 (by decide) ?_
            refine vv_goto (pc := 51) (tgt := 55) dX5_readOne_51 (by decide) ?_
            refine vp_X5_isWrong (pc := 55) (by first | exact Or.inl rfl | exact Or.inr rfl | assumption) mw_F_X5_155 dX5_readOne_55 ?_
            rw [mQ_13]
            refine vv_aload_n (pc := 58) 2 dX5_readOne_58 rfl rfl ?_
            refine vg_X5_isWrong (pc := 59) mw_F_X5_155 dX5_readOne_59 ?_
            rw [mQ_r13]
            refine vv_if_eq (pc := 62) (tgt := 66) dX5_readOne_62 (by decide) (fun c62 => absurd c62 (by decide)) (fun c62 => ?_)
            refine vr_v (pc := 65) dX5_readOne_65 ?_
            have hn : ¬ mk (sg (S 13) L i) := fun h => by
              rw [← e2p11] at h
              rcases h with h | h | h | h | h
              · exact c23 h
              · exact c29 h
              · exact c35 h
              · exact c41 h
              · exact c47 h
            exact ⟨fun _ => rfl, fun h => absurd h hn, fun h => absurd h hn⟩
