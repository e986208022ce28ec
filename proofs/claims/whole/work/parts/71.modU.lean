/-! THE MODEL'S READING OF TEXTS -/
/-- the state of the reader: orders read, place, wrong, orders -/
def mQ (S : Mem) (a b c : Int32) (O : Nat → Int32) : Mem := fun j => if j = 15 then O else if j = 7 then (fun k => if k = 11 then a else if k = 12 then b else if k = 13 then c else S 7 k) else S j
theorem mQ_11 (S : Mem) (a b c : Int32) (O : Nat → Int32) (x : Int32) : mm_wr (mQ S a b c O) 7 11 x = mQ S x b c O := by
  funext j k
  unfold mm_wr mQ upd
  by_cases h : j = 7
  · subst h
    by_cases h1 : k = 11 <;> by_cases h2 : k = 12 <;> by_cases h3 : k = 13 <;> simp_all
  · simp [h]
theorem mQ_12 (S : Mem) (a b c : Int32) (O : Nat → Int32) (x : Int32) : mm_wr (mQ S a b c O) 7 12 x = mQ S a x c O := by
  funext j k
  unfold mm_wr mQ upd
  by_cases h : j = 7
  · subst h
    by_cases h1 : k = 11 <;> by_cases h2 : k = 12 <;> by_cases h3 : k = 13 <;> simp_all
  · simp [h]
theorem mQ_13 (S : Mem) (a b c : Int32) (O : Nat → Int32) (x : Int32) : mm_wr (mQ S a b c O) 7 13 x = mQ S a b x O := by
  funext j k
  unfold mm_wr mQ upd
  by_cases h : j = 7
  · subst h
    by_cases h1 : k = 11 <;> by_cases h2 : k = 12 <;> by_cases h3 : k = 13 <;> simp_all
  · simp [h]
theorem mQ_15 (S : Mem) (a b c : Int32) (O : Nat → Int32) (k : Nat) (x : Int32) : mm_wr (mQ S a b c O) 15 k x = mQ S a b c (upd O k x) := by
  funext j
  unfold mm_wr mQ
  by_cases h : j = 15
  · subst h; simp
  · simp [h]
theorem mQ_r11 (S : Mem) (a b c : Int32) (O : Nat → Int32) : mQ S a b c O 7 11 = a := rfl
theorem mQ_r12 (S : Mem) (a b c : Int32) (O : Nat → Int32) : mQ S a b c O 7 12 = b := rfl
theorem mQ_r13 (S : Mem) (a b c : Int32) (O : Nat → Int32) : mQ S a b c O 7 13 = c := rfl
theorem mQ_r7 (S : Mem) (a b c : Int32) (O : Nat → Int32) : mQ S a b c O 7 7 = S 7 7 := rfl
theorem mQ_r8 (S : Mem) (a b c : Int32) (O : Nat → Int32) : mQ S a b c O 7 8 = S 7 8 := rfl
theorem mQ_r3 (S : Mem) (a b c : Int32) (O : Nat → Int32) : mQ S a b c O 7 3 = S 7 3 := rfl
theorem mQ_w15 (S : Mem) (a b c : Int32) (O : Nat → Int32) : mQ S a b c O 15 = O := rfl
theorem mQ_o (S : Mem) (a b c : Int32) (O : Nat → Int32) {j : Nat} (h7 : j ≠ 7) (h15 : j ≠ 15) : mQ S a b c O j = S j := by
  unfold mQ
  rw [if_neg h15, if_neg h7]
theorem mQ_0 (S : Mem) : mm_wr (mm_wr (mm_wr S 7 12 0) 7 11 0) 7 13 0 = mQ S 0 0 0 (S 15) := by
  funext j k
  unfold mm_wr mQ upd
  by_cases h : j = 7
  · subst h
    by_cases h1 : k = 11 <;> by_cases h2 : k = 12 <;> by_cases h3 : k = 13 <;> simp_all
  · by_cases h5 : j = 15 <;> simp [h, h5]
/-- the sign at a place; 0 behind the end -/
def sg (t : Nat → Int32) (L i : Nat) : Int32 := if i < L then t i else 0
/-- what stands on a pad: visible signs -/
def chz (t : Nat → Int32) (L : Nat) : Prop := ∀ i, i < L → 33 ≤ (t i).toInt ∧ (t i).toInt ≤ 126
theorem sg_b {t : Nat → Int32} {L : Nat} (h : chz t L) (i : Nat) : (i < L ∧ sg t L i = t i ∧ 33 ≤ (sg t L i).toInt ∧ (sg t L i).toInt ≤ 126) ∨ (L ≤ i ∧ sg t L i = 0) := by
  unfold sg
  by_cases e : i < L
  · rw [if_pos e]; exact Or.inl ⟨e, rfl, h i e⟩
  · rw [if_neg e]; exact Or.inr ⟨by omega, rfl⟩
theorem dg_iff {x : Int32} (h : 0 ≤ x.toInt ∧ x.toInt ≤ 126) : sp_in (x - 48) 0 9 = sp_in x 48 57 := by
  have e : (x - 48).toInt = x.toInt - 48 := by
    rw [i32_sub] <;> rw [show (48 : Int32).toInt = 48 by decide] <;> omega
  unfold sp_in
  simp only [Int32.le_iff_toInt_le, e, show (48 : Int32).toInt = 48 by decide, show (57 : Int32).toInt = 57 by decide, show (0 : Int32).toInt = 0 by decide, show (9 : Int32).toInt = 9 by decide]
  by_cases c : 48 ≤ x.toInt ∧ x.toInt ≤ 57
  · rw [if_pos c, if_pos (by omega)]
  · rw [if_neg c, if_neg (by omega)]
theorem sg_dg {t : Nat → Int32} {L : Nat} (h : chz t L) (i : Nat) : sp_in (sg t L i - 48) 0 9 = sp_in (sg t L i) 48 57 := by
  refine dg_iff ?_
  rcases sg_b h i with ⟨-, -, a, b⟩ | ⟨-, a⟩
  · omega
  · rw [a]; decide
/-- a number grows -/
def mnum (t : Nat → Int32) (L : Nat) : Nat → Nat → Int32 → Int32 × Nat
  | 0, i, v => (v, i)
  | k + 1, i, v => if 0 < v ∧ sp_in (sg t L i) 48 57 ≠ 0 ∧ 10 * v + sg t L i - 48 ≤ 99999 then mnum t L k (i + 1) (10 * v + sg t L i - 48) else (v, i)
theorem sg_no {t : Nat → Int32} {L i : Nat} (h : L ≤ i) : sp_in (sg t L i) 48 57 = 0 := by
  unfold sg
  rw [if_neg (by omega)]
  decide
theorem mnum_stop {t : Nat → Int32} {L k i : Nat} {v : Int32} (h : ¬ (0 < v ∧ sp_in (sg t L i) 48 57 ≠ 0 ∧ 10 * v + sg t L i - 48 ≤ 99999)) : mnum t L k i v = (v, i) := by
  cases k with
  | zero => rfl
  | succ k => rw [mnum, if_neg h]
/-- a number is read: value, wrong, place -/
def mn (t : Nat → Int32) (L i : Nat) : Int32 × Int32 × Nat := if sp_in (sg t L i) 48 57 = 0 then (sg t L i - 48, 1, i) else ((mnum t L 60 (i + 1) (sg t L i - 48)).1, 0, (mnum t L 60 (i + 1) (sg t L i - 48)).2)
theorem mnum_le (t : Nat → Int32) (L : Nat) : ∀ (k i : Nat) (v : Int32), i ≤ L → (mnum t L k i v).2 ≤ L ∧ i ≤ (mnum t L k i v).2
  | 0, i, v, h => ⟨h, Nat.le_refl _⟩
  | k + 1, i, v, h => by
    rw [mnum]
    by_cases c : 0 < v ∧ sp_in (sg t L i) 48 57 ≠ 0 ∧ 10 * v + sg t L i - 48 ≤ 99999
    · rw [if_pos c]
      have hi : i < L := by
        rcases Nat.lt_or_ge i L with g | g
        · exact g
        · exact absurd (sg_no g) c.2.1
      have := mnum_le t L k (i + 1) (10 * v + sg t L i - 48) hi
      omega
    · rw [if_neg c]
      exact ⟨h, Nat.le_refl _⟩
theorem mn_le {t : Nat → Int32} {L i : Nat} (h : i ≤ L) : (mn t L i).2.2 ≤ L ∧ i ≤ (mn t L i).2.2 ∧ ((mn t L i).2.1 = 0 ∨ (mn t L i).2.1 = 1) := by
  unfold mn
  by_cases c : sp_in (sg t L i) 48 57 = 0
  · rw [if_pos c]
    exact ⟨h, Nat.le_refl _, Or.inr rfl⟩
  · rw [if_neg c]
    have hi : i < L := by
      rcases Nat.lt_or_ge i L with g | g
      · exact g
      · exact absurd (sg_no g) c
    have := mnum_le t L 60 (i + 1) (sg t L i - 48) hi
    exact ⟨this.1, by dsimp only; omega, Or.inl rfl⟩
set_option maxRecDepth 100000 in
set_option maxHeartbeats 4000000 in
theorem c_X5_sign (l : Launch) (G : gG) (S : Mem) {a c : Int32} {O : Nat → Int32} {L i : Nat} (hL : S 7 7 = nI L) (hL60 : L ≤ 60) (hi : i ≤ L) : mm_C l G yX5_sign cX5_sign 1 (some .int) (mm_rm 0 0) [.ref (gad G 7)] (mQ S a (nI i) c O) (mm_Qi G (fun r S2 => S2 = mQ S a (nI i) c O ∧ r = sg (S 13) L i)) := by
  refine mm_ofV (own := RX5) (by decide +kernel) rfl (Nat.le_of_ble_eq_true rfl) (ls0 := [(0, .ref (gad G 7))]) rfl ?_
  refine vv_aload_n (pc := 0) 0 dX5_sign_0 rfl rfl ?_
  refine vg_X5_at (pc := 1) mw_F_X5_149 dX5_sign_1 ?_
  refine vv_aload_n (pc := 4) 0 dX5_sign_4 rfl rfl ?_
  refine vg_X5_signs (pc := 5) mw_F_X5_133 dX5_sign_5 ?_
  rw [mQ_r12, mQ_r7, hL]
  refine vv_icmp_ge (pc := 8) (tgt := 23) dX5_sign_8 (by decide) (fun c8 => ?_) (fun c8 => ?_)
  -- t@8 path t
  · refine vv_iconst (pc := 23) (v := 0) dX5_sign_23 (by decide) ?_
    refine vr_i (pc := 24) dX5_sign_24 ?_
    rw [nI_leI (by omega) (by omega)] at c8
    exact ⟨rfl, by unfold sg; rw [if_neg (by omega)]⟩
  -- f@8 path f
  · have hiL : i < L := by
      rw [nI_leI (by omega) (by omega)] at c8
      omega
    refine vv_aload_n (pc := 11) 0 dX5_sign_11 rfl rfl ?_
    refine vg_X5_pad (pc := 12) mw_F_X5_26 dX5_sign_12 ?_
    refine vv_aload_n (pc := 15) 0 dX5_sign_15 rfl rfl ?_
    refine vg_X5_at (pc := 16) mw_F_X5_149 dX5_sign_16 ?_
    rw [mQ_r12]
    refine vl_13 (pc := 19) (vp_in_nI (by omega) (by decide)) dX5_sign_19 ?_
    rw [mQ_o _ _ _ _ _ (by decide) (by decide), cl_n (by omega)]
    refine vv_goto (pc := 20) (tgt := 24) dX5_sign_20 (by decide) ?_
    refine vr_i (pc := 24) dX5_sign_24 ?_
    exact ⟨rfl, by unfold sg; rw [if_pos hiL]⟩
set_option maxRecDepth 100000 in
set_option maxHeartbeats 4000000 in
theorem c_X5_number (l : Launch) (G : gG) (S : Mem) {a : Int32} {O : Nat → Int32} {L i : Nat} (hL : S 7 7 = nI L) (hL60 : L ≤ 60) (hi : i ≤ L) (hz : chz (S 13) L) : mm_C l G yX5_number cX5_number 2 (some .int) (mm_rm 1 22) [.ref (gad G 7)] (mQ S a (nI i) 0 O) (mm_Qi G (fun r S2 => S2 = mQ S a (nI (mn (S 13) L i).2.2) (mn (S 13) L i).2.1 O ∧ r = (mn (S 13) L i).1)) := by
  refine mm_ofV (own := RX5) (by decide +kernel) rfl (Nat.le_of_ble_eq_true rfl) (ls0 := [(0, .ref (gad G 7))]) rfl ?_
  refine vv_aload_n (pc := 0) 0 dX5_number_0 rfl rfl ?_
  refine vc_Vi (pc := 1) (c_X5_sign l G S hL hL60 (by omega)) mw_M_X5_152 my_X5_sign mm_rv_X5 ⟨by decide, by decide⟩ rfl rfl (Nat.le_of_ble_eq_true rfl) dX5_number_1 (fun r1 S1 h1 => ?_)
  obtain ⟨qS1, h1⟩ := h1
  replace qS1 := qS1.symm
  subst qS1
  refine vv_bipush (pc := 4) (v := 48) dX5_number_4 (by decide) ?_
  refine vv_isub (pc := 6) dX5_number_6 ?_
  refine vv_topi (fun x1p7 e1p7 => ?_)
  refine vv_istore_n (pc := 7) (i := 1) (ls' := [(1, .int x1p7), (0, .ref (gad G 7))]) dX5_number_7 rfl (by decide) rfl ?_
  refine vv_aload_n (pc := 8) 1 dX5_number_8 rfl rfl ?_
  refine vv_aload_n (pc := 9) 1 dX5_number_9 rfl rfl ?_
  refine vg_X5_isWrong (pc := 10) mw_F_X5_155 dX5_number_10 ?_
  rw [mQ_r13]
  refine vv_if_ne (pc := 13) (tgt := 26) dX5_number_13 (by decide) (fun c13 => absurd rfl c13) (fun c13 => ?_)
  refine vv_iload_n (pc := 16) 0 dX5_number_16 rfl rfl ?_
  refine vv_iconst (pc := 17) (v := 0) dX5_number_17 (by decide) ?_
  refine vv_bipush (pc := 18) (v := 9) dX5_number_18 (by decide) ?_
  refine vc_Si (pc := 20) (c_X5_in l G _ _ _ _) mw_M_X5_43 my_X5_in ⟨by decide, by decide⟩ rfl rfl (Nat.le_of_ble_eq_true rfl) dX5_number_20 (fun r20 S20 h20 => ?_)
  obtain ⟨qS20, h20⟩ := h20
  replace qS20 := qS20.symm
  subst qS20
  refine vv_if_ne (pc := 23) (tgt := 30) dX5_number_23 (by decide) (fun c23 => ?_) (fun c23 => ?_)
  -- t@23 path t
  · have hd0 : sp_in x1p7 0 9 = sp_in (sg (S 13) L i) 48 57 := by rw [e1p7, h1]; exact sg_dg hz i
    refine vv_iconst (pc := 30) (v := 0) dX5_number_30 (by decide) ?_
    refine vp_X5_isWrong (pc := 31) (by first | exact Or.inl rfl | exact Or.inr rfl | assumption) mw_F_X5_155 dX5_number_31 ?_
    rw [mQ_13]
    refine vv_aload_n (pc := 34) 1 dX5_number_34 rfl rfl ?_
    refine vv_dup (pc := 35) dX5_number_35 rfl ?_
    refine vg_X5_at (pc := 36) mw_F_X5_149 dX5_number_36 ?_
    rw [mQ_r12]
    refine vv_aload_n (pc := 39) 1 dX5_number_39 rfl rfl ?_
    refine vg_X5_isWrong (pc := 40) mw_F_X5_155 dX5_number_40 ?_
    rw [mQ_r13]
    refine vv_if_eq (pc := 43) (tgt := 50) dX5_number_43 (by decide) (fun c43 => ?_) (fun c43 => absurd rfl c43)
    refine vv_iconst (pc := 50) (v := 1) dX5_number_50 (by decide) ?_
    refine vv_iadd (pc := 51) dX5_number_51 ?_
    refine vp_X5_at (pc := 52) mw_F_X5_149 dX5_number_52 ?_
    rw [mQ_12, nI_1]
    rw [h20, hd0] at c23
    have hil : i < L := by
      rcases Nat.lt_or_ge i L with g | g
      · exact g
      · exact absurd (sg_no g) c23
    obtain ⟨M, hM0⟩ : ∃ M, M = mnum (S 13) L 60 (i + 1) (sg (S 13) L i - 48) := ⟨_, rfl⟩
    have hmn : mn (S 13) L i = (M.1, 0, M.2) := by unfold mn; rw [if_neg c23, ← hM0]
    have lp55 : ∀ (n : Nat) (k j : Nat) (x1 : Int32), k < n → mnum (S 13) L k j x1 = M → j ≤ L → L ≤ j + k → mm_V l G RX5 cX5_number 2 (some .int) (mm_rm 1 22) 0 0 (fun _ => True) (fun _ => mm_F G) (mm_Qf G (mm_Qi G (fun r S2 => S2 = mQ S a (nI (mn (S 13) L i).2.2) (mn (S 13) L i).2.1 O ∧ r = (mn (S 13) L i).1))) (mQ S a (nI j) 0 O) 55 [(0, .ref (gad G 7)), (1, .int x1)] [] := by
      intro n
      induction n with
      | zero =>
        intro k j x1 hn hM hjl hjk
        exact absurd hn (by omega)
      | succ n ih =>
        intro k j x1 hn hM hjl hjk
        refine vv_aload_n (pc := 55) 0 dX5_number_55 rfl rfl ?_
        refine vg_X5_isWrong (pc := 56) mw_F_X5_155 dX5_number_56 ?_
        rw [mQ_r13]
        refine vv_if_ne (pc := 59) (tgt := 123) dX5_number_59 (by decide) (fun c59 => absurd rfl c59) (fun c59 => ?_)
        refine vv_iload_n (pc := 62) 1 dX5_number_62 rfl rfl ?_
        refine vv_if_le (pc := 63) (tgt := 123) dX5_number_63 (by decide) (fun c63 => ?_) (fun c63 => ?_)
        -- t@63 path tL55t
        · refine vv_iload_n (pc := 123) 1 dX5_number_123 rfl rfl ?_
          refine vr_i (pc := 124) dX5_number_124 ?_
          rw [hmn, ← hM, mnum_stop (fun h => absurd c63 (Int32.not_le.mpr h.1))]
          exact ⟨rfl, rfl⟩
        -- f@63 path tL55f
        · refine vv_aload_n (pc := 66) 0 dX5_number_66 rfl rfl ?_
          refine vc_Vi (pc := 67) (c_X5_sign l G S hL hL60 hjl) mw_M_X5_152 my_X5_sign mm_rv_X5 ⟨by decide, by decide⟩ rfl rfl (Nat.le_of_ble_eq_true rfl) dX5_number_67 (fun r67 S67 h67 => ?_)
          obtain ⟨qS67, h67⟩ := h67
          replace qS67 := qS67.symm
          subst qS67
          refine vv_bipush (pc := 70) (v := 48) dX5_number_70 (by decide) ?_
          refine vv_bipush (pc := 72) (v := 57) dX5_number_72 (by decide) ?_
          refine vc_Si (pc := 74) (c_X5_in l G _ _ _ _) mw_M_X5_43 my_X5_in ⟨by decide, by decide⟩ rfl rfl (Nat.le_of_ble_eq_true rfl) dX5_number_74 (fun r74 S74 h74 => ?_)
          obtain ⟨qS74, h74⟩ := h74
          replace qS74 := qS74.symm
          subst qS74
          refine vv_if_eq (pc := 77) (tgt := 123) dX5_number_77 (by decide) (fun c77 => ?_) (fun c77 => ?_)
          -- t@77 path tL55ft
          · refine vv_iload_n (pc := 123) 1 dX5_number_123 rfl rfl ?_
            refine vr_i (pc := 124) dX5_number_124 ?_
            rw [h67] at h74
            rw [h74] at c77
            rw [hmn, ← hM, mnum_stop (fun h => h.2.1 c77)]
            exact ⟨rfl, rfl⟩
          -- f@77 path tL55ff
          · refine vv_bipush (pc := 80) (v := 10) dX5_number_80 (by decide) ?_
            refine vv_iload_n (pc := 82) 1 dX5_number_82 rfl rfl ?_
            refine vv_imul (pc := 83) dX5_number_83 ?_
            refine vv_aload_n (pc := 84) 0 dX5_number_84 rfl rfl ?_
            refine vc_Vi (pc := 85) (c_X5_sign l G S hL hL60 hjl) mw_M_X5_152 my_X5_sign mm_rv_X5 ⟨by decide, by decide⟩ rfl rfl (Nat.le_of_ble_eq_true rfl) dX5_number_85 (fun r85 S85 h85 => ?_)
            obtain ⟨qS85, h85⟩ := h85
            replace qS85 := qS85.symm
            subst qS85
            refine vv_iadd (pc := 88) dX5_number_88 ?_
            refine vv_bipush (pc := 89) (v := 48) dX5_number_89 (by decide) ?_
            refine vv_isub (pc := 91) dX5_number_91 ?_
            refine vv_ldc (pc := 92) mw_K_X5_158 dX5_number_92 ?_
            refine vv_icmp_gt (pc := 94) (tgt := 123) dX5_number_94 (by decide) (fun c94 => ?_) (fun c94 => ?_)
            -- t@94 path tL55fft
            · refine vv_iload_n (pc := 123) 1 dX5_number_123 rfl rfl ?_
              refine vr_i (pc := 124) dX5_number_124 ?_
              rw [h85] at c94
              rw [hmn, ← hM, mnum_stop (fun h => absurd h.2.2 (Int32.not_le.mpr c94))]
              exact ⟨rfl, rfl⟩
            -- f@94 path tL55fff
            · have hjL : j < L := by
                rcases Nat.lt_or_ge j L with g | g
                · exact g
                · exact absurd (h74.trans (by rw [h67]; exact sg_no g)) c77
              obtain ⟨k1, rfl⟩ : ∃ k1, k = k1 + 1 := ⟨k - 1, by omega⟩
              refine vv_bipush (pc := 97) (v := 10) dX5_number_97 (by decide) ?_
              refine vv_iload_n (pc := 99) 1 dX5_number_99 rfl rfl ?_
              refine vv_imul (pc := 100) dX5_number_100 ?_
              refine vv_aload_n (pc := 101) 0 dX5_number_101 rfl rfl ?_
              refine vc_Vi (pc := 102) (c_X5_sign l G S hL hL60 hjl) mw_M_X5_152 my_X5_sign mm_rv_X5 ⟨by decide, by decide⟩ rfl rfl (Nat.le_of_ble_eq_true rfl) dX5_number_102 (fun r102 S102 h102 => ?_)
              obtain ⟨qS102, h102⟩ := h102
              replace qS102 := qS102.symm
              subst qS102
              refine vv_iadd (pc := 105) dX5_number_105 ?_
              refine vv_bipush (pc := 106) (v := 48) dX5_number_106 (by decide) ?_
              refine vv_isub (pc := 108) dX5_number_108 ?_
              refine vv_topi (fun x1p109 e1p109 => ?_)
              refine vv_istore_n (pc := 109) (i := 1) (ls' := [(1, .int x1p109), (0, .ref (gad G 7))]) dX5_number_109 rfl (by decide) rfl ?_
              refine vv_aload_n (pc := 110) 1 dX5_number_110 rfl rfl ?_
              refine vv_dup (pc := 111) dX5_number_111 rfl ?_
              refine vg_X5_at (pc := 112) mw_F_X5_149 dX5_number_112 ?_
              rw [mQ_r12]
              refine vv_iconst (pc := 115) (v := 1) dX5_number_115 (by decide) ?_
              refine vv_iadd (pc := 116) dX5_number_116 ?_
              refine vp_X5_at (pc := 117) mw_F_X5_149 dX5_number_117 ?_
              refine vv_goto (pc := 120) (tgt := 55) dX5_number_120 (by decide) ?_
              rw [h67] at h74
              rw [h74] at c77
              rw [h85, Int32.not_lt] at c94
              have hst : mnum (S 13) L k1 (j + 1) x1p109 = M := by
                rw [mnum, if_pos ⟨Int32.not_le.mp c63, c77, c94⟩] at hM
                rw [e1p109, h102]
                exact hM
              rw [mQ_12, nI_1]
              refine vv_sub [1, 0] (ls' := [(0, _), (1, _)]) rfl ?_
              exact ih k1 (j + 1) _ (by omega) hst (by omega) (by omega)
    refine vv_sub [1, 0] (ls' := [(0, _), (1, _)]) rfl ?_
    exact lp55 61 60 (i + 1) _ (by omega) (by rw [hM0, e1p7, h1]) (by omega) (by omega)
  -- f@23 path f
  · have hd0 : sp_in x1p7 0 9 = sp_in (sg (S 13) L i) 48 57 := by rw [e1p7, h1]; exact sg_dg hz i
    refine vv_iconst (pc := 26) (v := 1) dX5_number_26 (by decide) ?_
    refine vv_goto (pc := 27) (tgt := 31) dX5_number_27 (by decide) ?_
    refine vp_X5_isWrong (pc := 31) (by first | exact Or.inl rfl | exact Or.inr rfl | assumption) mw_F_X5_155 dX5_number_31 ?_
    rw [mQ_13]
    refine vv_aload_n (pc := 34) 1 dX5_number_34 rfl rfl ?_
    refine vv_dup (pc := 35) dX5_number_35 rfl ?_
    refine vg_X5_at (pc := 36) mw_F_X5_149 dX5_number_36 ?_
    rw [mQ_r12]
    refine vv_aload_n (pc := 39) 1 dX5_number_39 rfl rfl ?_
    refine vg_X5_isWrong (pc := 40) mw_F_X5_155 dX5_number_40 ?_
    rw [mQ_r13]
    refine vv_if_eq (pc := 43) (tgt := 50) dX5_number_43 (by decide) (fun c43 => absurd c43 (by decide)) (fun c43 => ?_)
    refine vv_iconst (pc := 46) (v := 0) dX5_number_46 (by decide) ?_
    refine vv_goto (pc := 47) (tgt := 51) dX5_number_47 (by decide) ?_
    refine vv_iadd (pc := 51) dX5_number_51 ?_
    refine vp_X5_at (pc := 52) mw_F_X5_149 dX5_number_52 ?_
    rw [mQ_12]
    refine vv_aload_n (pc := 55) 1 dX5_number_55 rfl rfl ?_
    refine vg_X5_isWrong (pc := 56) mw_F_X5_155 dX5_number_56 ?_
    rw [mQ_r13]
    refine vv_if_ne (pc := 59) (tgt := 123) dX5_number_59 (by decide) (fun c59 => ?_) (fun c59 => absurd c59 (by decide))
    refine vv_iload_n (pc := 123) 0 dX5_number_123 rfl rfl ?_
    refine vr_i (pc := 124) dX5_number_124 ?_
    rw [h20, hd0] at c23
    unfold mn
    rw [if_pos c23, show nI i + 0 = nI i from Int32.add_zero _]
    exact ⟨rfl, by rw [e1p7, h1]⟩
