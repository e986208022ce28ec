/-- the number of a wire, or none -/
def enc (k : Nat) : Int32 := if k = 99 then -6 else nI k
theorem enc_n {k : Nat} (h : k ≠ 99) : enc k = nI k := by unfold enc; rw [if_neg h]
theorem enc_lt {k c : Nat} (h : k = 99 ∨ k < c) (h2 : enc k < 0) (hc : c < 1000) : k = 99 := by
  rcases h with h | h
  · exact h
  · by_cases e : k = 99
    · exact e
    · rw [enc_n e] at h2
      exact absurd h2 (nI_pos (by omega))
theorem enc_99 : enc 99 = -6 := rfl
theorem sp_lf_b {z : Nat → Int32} {f p : Nat} : ∀ c, c ≤ 8 → sp_lf z f p c = 99 ∨ sp_lf z f p c < c := fun c hc => by
  by_cases h : sp_lf z f p c = 99
  · exact Or.inl h
  · exact Or.inr (sp_lf_lt hc h)
theorem sp_rt_b {z : Nat → Int32} {f p : Nat} : ∀ c, c ≤ 8 → sp_rt z f p c = 99 ∨ sp_rt z f p c < c := fun c hc => by
  by_cases h : sp_rt z f p c = 99
  · exact Or.inl h
  · exact Or.inr (sp_rt_lt hc h)
theorem n_sub {a b : Nat} (ha : a < 1000) (hb : b < 1000) : (nI a - nI b).toInt = (a : Int) - b := by
  rw [i32_sub] <;> rw [nI_toInt (by omega), nI_toInt (by omega)] <;> omega
theorem n_sl {a b : Nat} (ha : a < 1000) (hb : b < 1000) : (nI a - nI b) * (-1) < 0 ↔ b < a := by
  rw [Int32.lt_iff_toInt_lt, i32_mul] <;> rw [n_sub ha hb, show (-1 : Int32).toInt = -1 by decide] <;> first | (rw [show (0 : Int32).toInt = 0 by decide]; omega) | omega
theorem n_sr {a b : Nat} (ha : a < 1000) (hb : b < 1000) : (nI a - nI b) * 1 < 0 ↔ a < b := by
  rw [Int32.mul_one, Int32.lt_iff_toInt_lt, n_sub ha hb, show (0 : Int32).toInt = 0 by decide]
  omega
theorem sp_lf_step {C : Nat} {z : Nat → Int32} (h : sp_ws C z) {f p : Nat} (hp : p < 20) (c : Nat) (hc : c < C) : sp_lf z f p (c + 1) = if sp_f z c f = 0 ∧ ¬ (sp_f z c 0 - nI p) * (-1) < 0 ∧ (sp_lf z f p c = 99 ∨ (sp_f z c 0 - sp_f z (sp_lf z f p c) 0) * (-1) < 0) then c else sp_lf z f p c := by
  have hcc := h.2.2.1 c hc
  rw [sp_lf]
  have e1 : (¬ (sp_f z c 0 - nI p) * (-1) < 0) ↔ sp_at z c ≤ p := by
    rw [hcc.1, n_sl (by omega) (by omega)]
    omega
  have e2 : (sp_lf z f p c = 99 ∨ (sp_f z c 0 - sp_f z (sp_lf z f p c) 0) * (-1) < 0) ↔ (sp_lf z f p c = 99 ∨ sp_at z (sp_lf z f p c) < sp_at z c) := by
    rcases sp_lf_b (z := z) (f := f) (p := p) c (by have := h.1; omega) with hb | hb
    · simp [hb]
    · have hl := h.2.2.1 (sp_lf z f p c) (by omega)
      rw [hcc.1, hl.1, n_sl (by omega) (by omega)]
  simp only [e1, e2]
theorem sp_rt_step {C : Nat} {z : Nat → Int32} (h : sp_ws C z) {f p : Nat} (hp : p < 20) (c : Nat) (hc : c < C) : sp_rt z f p (c + 1) = if sp_f z c f = 0 ∧ ¬ (sp_f z c 0 - nI p) * 1 < 0 ∧ (sp_rt z f p c = 99 ∨ (sp_f z c 0 - sp_f z (sp_rt z f p c) 0) * 1 < 0) then c else sp_rt z f p c := by
  have hcc := h.2.2.1 c hc
  rw [sp_rt]
  have e1 : (¬ (sp_f z c 0 - nI p) * 1 < 0) ↔ p ≤ sp_at z c := by
    rw [hcc.1, n_sr (by omega) (by omega)]
    omega
  have e2 : (sp_rt z f p c = 99 ∨ (sp_f z c 0 - sp_f z (sp_rt z f p c) 0) * 1 < 0) ↔ (sp_rt z f p c = 99 ∨ sp_at z c < sp_at z (sp_rt z f p c)) := by
    rcases sp_rt_b (z := z) (f := f) (p := p) c (by have := h.1; omega) with hb | hb
    · simp [hb]
    · have hl := h.2.2.1 (sp_rt z f p c) (by omega)
      rw [hcc.1, hl.1, n_sr (by omega) (by omega)]
  simp only [e1, e2]
/-- the bits of a set -/
def mskN (z : Nat → Int32) (g : Nat) : Nat → Nat
  | 0 => 0
  | c + 1 => if sp_f z c g = 0 then mskN z g c + 2 ^ c else mskN z g c
theorem mskN_lt (z : Nat → Int32) (g : Nat) : ∀ c, mskN z g c < 2 ^ c
  | 0 => Nat.one_pos
  | c + 1 => by
    have := mskN_lt z g c
    unfold mskN
    rw [Nat.pow_succ]
    split <;> omega
theorem bit_or : ∀ c, c < 8 → ∀ a, a < 2 ^ c → nI a ||| ((1 : Int32) <<< (nI c &&& 31)) = nI (a + 2 ^ c) := by decide +kernel
theorem bit_t : ∀ m, m < 256 → ∀ w, w < 8 → ((nI m >>> (nI w &&& 31)) &&& 1 = 1 ↔ m / 2 ^ w % 2 = 1) := by decide +kernel
theorem bit_lo : ∀ c, c < 8 → ∀ a, a < 2 ^ c → ∀ w, w < c → (a + 2 ^ c) / 2 ^ w % 2 = a / 2 ^ w % 2 := by decide +kernel
theorem bit_hi : ∀ c, c < 8 → ∀ a, a < 2 ^ c → (a + 2 ^ c) / 2 ^ c % 2 = 1 ∧ a / 2 ^ c % 2 = 0 := by decide +kernel
theorem msk_N (z : Nat → Int32) (g : Nat) : ∀ c, c ≤ 8 → msk z g c = nI (mskN z g c)
  | 0, _ => rfl
  | c + 1, h => by
    unfold msk mskN
    rw [msk_N z g c (by omega)]
    split
    · exact bit_or c (by omega) _ (mskN_lt z g c)
    · exact Int32.or_zero
theorem mskN_b (z : Nat → Int32) (g : Nat) : ∀ c, c ≤ 8 → ∀ w, w < c → (mskN z g c / 2 ^ w % 2 = 1 ↔ sp_f z w g = 0)
  | 0, _, w, h => absurd h (by omega)
  | c + 1, h8, w, hw => by
    have hl := mskN_lt z g c
    unfold mskN
    by_cases e : w = c
    · subst e
      have hh := bit_hi w (by omega) _ hl
      split
      · rename_i h0
        simp [hh.1, h0]
      · rename_i h0
        simp [hh.2, h0]
    · have ih := mskN_b z g c (by omega) w (by omega)
      split
      · rw [bit_lo c (by omega) _ hl w (by omega)]
        exact ih
      · exact ih
theorem msk_b {z : Nat → Int32} {g C : Nat} (hC : C ≤ 8) (w : Nat) (hw : w < C) : (msk z g C >>> (nI w &&& 31)) &&& 1 = 1 ↔ sp_f z w g = 0 := by
  have hl := mskN_lt z g C
  have h2 : 2 ^ C ≤ 2 ^ 8 := Nat.pow_le_pow_right (by decide) hC
  rw [msk_N z g C hC, bit_t _ (by omega) w (by omega)]
  exact mskN_b z g C hC w hw
set_option maxRecDepth 100000 in
set_option maxHeartbeats 4000000 in
theorem c_X5_nearest (l : Launch) (G : gG) (S : Mem) {C g : Nat} {x1 x2 x3 : Int32} (L : Nat → Nat) (hC : C ≤ 8) (h3 : S 8 3 = nI C) (hm : ∀ w, w < C → ((x1 >>> (nI w &&& 31)) &&& 1 = 1 ↔ sp_f (S 8) w g = 0)) (hL0 : L 0 = 99) (hLs : ∀ c, c < C → L (c + 1) = if sp_f (S 8) c g = 0 ∧ ¬ (sp_f (S 8) c 0 - x2) * x3 < 0 ∧ (L c = 99 ∨ (sp_f (S 8) c 0 - sp_f (S 8) (L c) 0) * x3 < 0) then c else L c) (hLb : ∀ c, c ≤ C → L c = 99 ∨ L c < c) : mm_C l G yX5_nearest cX5_nearest 7 (some .int) (mm_rm 1 22) [.ref (gad G 7), .int x1, .int x2, .int x3] S (mm_Qi G (fun r S2 => S2 = S ∧ r = enc (L C))) := by
  refine mm_ofV (own := RX5) (by decide +kernel) rfl (Nat.le_of_ble_eq_true rfl) (ls0 := [(0, .ref (gad G 7)), (1, .int x1), (2, .int x2), (3, .int x3)]) rfl ?_
  refine vv_bipush (pc := 0) (v := (-6)) dX5_nearest_0 (by decide) ?_
  refine vv_topi (fun x4p2 e4p2 => ?_)
  refine vv_istore (pc := 2) (i := 4) (ls' := [(4, .int x4p2), (0, .ref (gad G 7)), (1, .int x1), (2, .int x2), (3, .int x3)]) dX5_nearest_2 (by decide) rfl ?_
  refine vv_iconst (pc := 4) (v := 0) dX5_nearest_4 (by decide) ?_
  refine vv_topi (fun x5p5 e5p5 => ?_)
  refine vv_istore (pc := 5) (i := 5) (ls' := [(5, .int x5p5), (4, .int x4p2), (0, .ref (gad G 7)), (1, .int x1), (2, .int x2), (3, .int x3)]) dX5_nearest_5 (by decide) rfl ?_
  have lp7 : ∀ (n : Nat) (k : Nat) (x4 x5 : Int32), 9 ≤ n + k → k ≤ C → x5 = nI k → x4 = enc (L k) → mm_V l G RX5 cX5_nearest 7 (some .int) (mm_rm 1 22) 0 0 (fun _ => True) (fun _ => mm_F G) (mm_Qf G (mm_Qi G (fun r S2 => S2 = S ∧ r = enc (L C)))) S 7 [(0, .ref (gad G 7)), (1, .int x1), (2, .int x2), (3, .int x3), (4, .int x4), (5, .int x5)] [] := by
    intro n
    induction n with
    | zero =>
      intro k x4 x5 hn hkl e5 e4
      exact absurd hn (by omega)
    | succ n ih =>
      intro k x4 x5 hn hkl e5 e4
      refine vv_iload (pc := 7) 5 dX5_nearest_7 rfl ?_
      refine vv_aload_n (pc := 9) 0 dX5_nearest_9 rfl rfl ?_
      refine vg_X5_now (pc := 10) mw_F_X5_7 dX5_nearest_10 ?_
      refine vv_iconst (pc := 13) (v := 3) dX5_nearest_13 (by decide) ?_
      refine vl_8 (pc := 14) (vp_in_nI (n := 3) (by decide) (by decide)) dX5_nearest_14 ?_
      rw [show S 8 (Int32.toNatClampNeg 3) = nI C from h3]
      refine vv_icmp_ge (pc := 15) (tgt := 94) dX5_nearest_15 (by decide) (fun c15 => ?_) (fun c15 => ?_)
      -- t@15 path L7t
      · refine vv_iload (pc := 94) 4 dX5_nearest_94 rfl ?_
        refine vr_i (pc := 96) dX5_nearest_96 ?_
        have hkC := sp_geN (by omega) hkl e5 c15
        subst hkC
        exact ⟨rfl, e4⟩
      -- f@15 path L7f
      · have hkC : k < C := sp_ltN (by omega) hkl e5 c15
        have hk8 : k < 8 := by omega
        have hb := hLb k hkl
        have hs := hLs k hkC
        refine vv_iload_n (pc := 18) 1 dX5_nearest_18 rfl rfl ?_
        refine vv_iload (pc := 19) 5 dX5_nearest_19 rfl ?_
        refine vv_ishr (pc := 21) dX5_nearest_21 ?_
        refine vv_iconst (pc := 22) (v := 1) dX5_nearest_22 (by decide) ?_
        refine vv_iand (pc := 23) dX5_nearest_23 ?_
        refine vv_iconst (pc := 24) (v := 1) dX5_nearest_24 (by decide) ?_
        refine vv_icmp_ne (pc := 25) (tgt := 46) dX5_nearest_25 (by decide) (fun c25 => ?_) (fun c25 => ?_)
        -- t@25 path L7ft
        · refine vv_iconst (pc := 46) (v := 0) dX5_nearest_46 (by decide) ?_
          refine vv_topi (fun x6p47 e6p47 => ?_)
          refine vv_istore (pc := 47) (i := 6) (ls' := [(6, .int x6p47), (0, .ref (gad G 7)), (1, .int x1), (2, .int x2), (3, .int x3), (4, .int x4), (5, .int x5)]) dX5_nearest_47 (by decide) rfl ?_
          refine vv_iload (pc := 49) 0 dX5_nearest_49 rfl ?_
          refine vv_if_eq (pc := 51) (tgt := 84) dX5_nearest_51 (by decide) (fun c51 => ?_) (fun c51 => ?_)
          -- t@51 path L7ftt
          · refine vv_iload (pc := 84) 5 dX5_nearest_84 rfl ?_
            refine vv_topi (fun x4p86 e4p86 => ?_)
            refine vv_istore (pc := 86) (i := 4) (ls' := [(4, .int x4p86), (6, .int x6p47), (0, .ref (gad G 7)), (1, .int x1), (2, .int x2), (3, .int x3), (5, .int x5)]) dX5_nearest_86 (by decide) rfl ?_
            rw [e5] at c25
            rw [if_neg (fun h => c25 ((hm k hkC).mpr h.1))] at hs
            have he := e4.trans (congrArg enc hs.symm)
            obtain ⟨x5p88, e5p88⟩ : ∃ y : Int32, y = x5 + 1 := ⟨_, rfl⟩
            refine vv_iinc (pc := 88) (q := 6) (v := x5p88) (ls' := [(5, .int x5p88), (4, .int x4p86), (6, .int x6p47), (0, .ref (gad G 7)), (1, .int x1), (2, .int x2), (3, .int x3)]) dX5_nearest_88 rfl (by rw [e5p88]; rfl) (by decide) rfl ?_
            refine vv_goto (pc := 91) (tgt := 7) dX5_nearest_91 (by decide) ?_
            refine vv_sub [3, 4, 5, 6, 1, 0] (ls' := [(0, _), (1, _), (2, _), (3, _), (4, _), (5, _)]) rfl ?_
            exact ih (k + 1) x4p86 x5p88 (by omega) (by omega) (by rw [e5p88, e5, nI_1]) (e4p86.trans he)
          -- f@51 path L7ftf
          · exact absurd e6p47 c51
        -- f@25 path L7ff
        · refine vv_aload_n (pc := 28) 0 dX5_nearest_28 rfl rfl ?_
          refine vv_iload (pc := 29) 5 dX5_nearest_29 rfl ?_
          refine vv_iconst (pc := 31) (v := 0) dX5_nearest_31 (by decide) ?_
          refine vc_Vi (pc := 32) (c_X5_of l G _ (by assumption) rfl (by assumption) (by decide)) mw_M_X5_47 my_X5_of mm_rv_X5 ⟨by decide, by decide⟩ rfl rfl (Nat.le_of_ble_eq_true rfl) dX5_nearest_32 (fun r32 S32 h32 => ?_)
          obtain ⟨qS32, h32⟩ := h32
          replace qS32 := qS32.symm
          subst qS32
          refine vv_iload_n (pc := 35) 2 dX5_nearest_35 rfl rfl ?_
          refine vv_isub (pc := 36) dX5_nearest_36 ?_
          refine vv_iload_n (pc := 37) 3 dX5_nearest_37 rfl rfl ?_
          refine vv_imul (pc := 38) dX5_nearest_38 ?_
          refine vv_if_lt (pc := 39) (tgt := 46) dX5_nearest_39 (by decide) (fun c39 => ?_) (fun c39 => ?_)
          -- t@39 path L7fft
          · refine vv_iconst (pc := 46) (v := 0) dX5_nearest_46 (by decide) ?_
            refine vv_topi (fun x6p47 e6p47 => ?_)
            refine vv_istore (pc := 47) (i := 6) (ls' := [(6, .int x6p47), (0, .ref (gad G 7)), (1, .int x1), (2, .int x2), (3, .int x3), (4, .int x4), (5, .int x5)]) dX5_nearest_47 (by decide) rfl ?_
            refine vv_iload (pc := 49) 0 dX5_nearest_49 rfl ?_
            refine vv_if_eq (pc := 51) (tgt := 84) dX5_nearest_51 (by decide) (fun c51 => ?_) (fun c51 => ?_)
            -- t@51 path L7fftt
            · refine vv_iload (pc := 84) 5 dX5_nearest_84 rfl ?_
              refine vv_topi (fun x4p86 e4p86 => ?_)
              refine vv_istore (pc := 86) (i := 4) (ls' := [(4, .int x4p86), (6, .int x6p47), (0, .ref (gad G 7)), (1, .int x1), (2, .int x2), (3, .int x3), (5, .int x5)]) dX5_nearest_86 (by decide) rfl ?_
              rw [h32] at c39
              rw [if_neg (fun h => h.2.1 c39)] at hs
              have he := e4.trans (congrArg enc hs.symm)
              obtain ⟨x5p88, e5p88⟩ : ∃ y : Int32, y = x5 + 1 := ⟨_, rfl⟩
              refine vv_iinc (pc := 88) (q := 6) (v := x5p88) (ls' := [(5, .int x5p88), (4, .int x4p86), (6, .int x6p47), (0, .ref (gad G 7)), (1, .int x1), (2, .int x2), (3, .int x3)]) dX5_nearest_88 rfl (by rw [e5p88]; rfl) (by decide) rfl ?_
              refine vv_goto (pc := 91) (tgt := 7) dX5_nearest_91 (by decide) ?_
              refine vv_sub [3, 4, 5, 6, 1, 0] (ls' := [(0, _), (1, _), (2, _), (3, _), (4, _), (5, _)]) rfl ?_
              exact ih (k + 1) x4p86 x5p88 (by omega) (by omega) (by rw [e5p88, e5, nI_1]) (e4p86.trans he)
            -- f@51 path L7fftf
            · exact absurd e6p47 c51
          -- f@39 path L7fff
          · refine vv_iconst (pc := 42) (v := 1) dX5_nearest_42 (by decide) ?_
            refine vv_goto (pc := 43) (tgt := 47) dX5_nearest_43 (by decide) ?_
            refine vv_topi (fun x6p47 e6p47 => ?_)
            refine vv_istore (pc := 47) (i := 6) (ls' := [(6, .int x6p47), (0, .ref (gad G 7)), (1, .int x1), (2, .int x2), (3, .int x3), (4, .int x4), (5, .int x5)]) dX5_nearest_47 (by decide) rfl ?_
            refine vv_iload (pc := 49) 0 dX5_nearest_49 rfl ?_
            refine vv_if_eq (pc := 51) (tgt := 84) dX5_nearest_51 (by decide) (fun c51 => ?_) (fun c51 => ?_)
            -- t@51 path L7ffft
            · exact absurd (e6p47.symm.trans c51) (by decide)
            -- f@51 path L7ffff
            · refine vv_iload (pc := 54) 5 dX5_nearest_54 rfl ?_
              refine vv_if_lt (pc := 56) (tgt := 79) dX5_nearest_56 (by decide) (fun c56 => ?_) (fun c56 => ?_)
              -- t@56 path L7fffft
              · refine vv_iload (pc := 79) 6 dX5_nearest_79 rfl ?_
                refine vv_goto (pc := 81) (tgt := 86) dX5_nearest_81 (by decide) ?_
                refine vv_topi (fun x4p86 e4p86 => ?_)
                refine vv_istore (pc := 86) (i := 4) (ls' := [(4, .int x4p86), (6, .int x6p47), (0, .ref (gad G 7)), (1, .int x1), (2, .int x2), (3, .int x3), (5, .int x5)]) dX5_nearest_86 (by decide) rfl ?_
                rw [e5] at c25
                rw [h32] at c39
                rw [if_pos ⟨(hm k hkC).mp c25, c39, Or.inl (enc_lt hb (by rw [← e4]; exact c56) (by omega))⟩] at hs
                have he : x5 = enc (L (k + 1)) := by rw [hs, enc_n (by omega), e5]
                obtain ⟨x5p88, e5p88⟩ : ∃ y : Int32, y = x5 + 1 := ⟨_, rfl⟩
                refine vv_iinc (pc := 88) (q := 6) (v := x5p88) (ls' := [(5, .int x5p88), (4, .int x4p86), (6, .int x6p47), (0, .ref (gad G 7)), (1, .int x1), (2, .int x2), (3, .int x3)]) dX5_nearest_88 rfl (by rw [e5p88]; rfl) (by decide) rfl ?_
                refine vv_goto (pc := 91) (tgt := 7) dX5_nearest_91 (by decide) ?_
                refine vv_sub [3, 4, 5, 6, 1, 0] (ls' := [(0, _), (1, _), (2, _), (3, _), (4, _), (5, _)]) rfl ?_
                exact ih (k + 1) x4p86 x5p88 (by omega) (by omega) (by rw [e5p88, e5, nI_1]) (e4p86.trans he)
              -- f@56 path L7fffff
              · have hL9 : L k ≠ 99 := fun h => c56 (by rw [e4, h]; decide)
                have hLk8 : L k < 8 := by omega
                have hx4 : x4 = nI (L k) := by rw [e4, enc_n hL9]
                refine vv_aload_n (pc := 59) 1 dX5_nearest_59 rfl rfl ?_
                refine vv_iload (pc := 60) 6 dX5_nearest_60 rfl ?_
                refine vv_iconst (pc := 62) (v := 0) dX5_nearest_62 (by decide) ?_
                refine vc_Vi (pc := 63) (c_X5_of l G _ (by assumption) rfl (by assumption) (by decide)) mw_M_X5_47 my_X5_of mm_rv_X5 ⟨by decide, by decide⟩ rfl rfl (Nat.le_of_ble_eq_true rfl) dX5_nearest_63 (fun r63 S63 h63 => ?_)
                obtain ⟨qS63, h63⟩ := h63
                replace qS63 := qS63.symm
                subst qS63
                refine vv_aload_n (pc := 66) 1 dX5_nearest_66 rfl rfl ?_
                refine vv_iload (pc := 67) 5 dX5_nearest_67 rfl ?_
                refine vv_iconst (pc := 69) (v := 0) dX5_nearest_69 (by decide) ?_
                refine vc_Vi (pc := 70) (c_X5_of l G _ (by assumption) rfl (by assumption) (by decide)) mw_M_X5_47 my_X5_of mm_rv_X5 ⟨by decide, by decide⟩ rfl rfl (Nat.le_of_ble_eq_true rfl) dX5_nearest_70 (fun r70 S70 h70 => ?_)
                obtain ⟨qS70, h70⟩ := h70
                replace qS70 := qS70.symm
                subst qS70
                refine vv_isub (pc := 73) dX5_nearest_73 ?_
                refine vv_iload_n (pc := 74) 4 dX5_nearest_74 rfl rfl ?_
                refine vv_imul (pc := 75) dX5_nearest_75 ?_
                refine vv_if_ge (pc := 76) (tgt := 84) dX5_nearest_76 (by decide) (fun c76 => ?_) (fun c76 => ?_)
                -- t@76 path L7ffffft
                · refine vv_iload (pc := 84) 5 dX5_nearest_84 rfl ?_
                  refine vv_topi (fun x4p86 e4p86 => ?_)
                  refine vv_istore (pc := 86) (i := 4) (ls' := [(4, .int x4p86), (6, .int x6p47), (0, .ref (gad G 7)), (1, .int x1), (2, .int x2), (3, .int x3), (5, .int x5)]) dX5_nearest_86 (by decide) rfl ?_
                  rw [h63, h70] at c76
                  rw [if_neg (fun h => h.2.2.elim hL9 (fun h => absurd c76 (Int32.not_le.mpr h)))] at hs
                  have he := e4.trans (congrArg enc hs.symm)
                  obtain ⟨x5p88, e5p88⟩ : ∃ y : Int32, y = x5 + 1 := ⟨_, rfl⟩
                  refine vv_iinc (pc := 88) (q := 6) (v := x5p88) (ls' := [(5, .int x5p88), (4, .int x4p86), (6, .int x6p47), (0, .ref (gad G 7)), (1, .int x1), (2, .int x2), (3, .int x3)]) dX5_nearest_88 rfl (by rw [e5p88]; rfl) (by decide) rfl ?_
                  refine vv_goto (pc := 91) (tgt := 7) dX5_nearest_91 (by decide) ?_
                  refine vv_sub [3, 4, 5, 6, 1, 0] (ls' := [(0, _), (1, _), (2, _), (3, _), (4, _), (5, _)]) rfl ?_
                  exact ih (k + 1) x4p86 x5p88 (by omega) (by omega) (by rw [e5p88, e5, nI_1]) (e4p86.trans he)
                -- f@76 path L7ffffff
                · refine vv_iload (pc := 79) 6 dX5_nearest_79 rfl ?_
                  refine vv_goto (pc := 81) (tgt := 86) dX5_nearest_81 (by decide) ?_
                  refine vv_topi (fun x4p86 e4p86 => ?_)
                  refine vv_istore (pc := 86) (i := 4) (ls' := [(4, .int x4p86), (6, .int x6p47), (0, .ref (gad G 7)), (1, .int x1), (2, .int x2), (3, .int x3), (5, .int x5)]) dX5_nearest_86 (by decide) rfl ?_
                  rw [e5] at c25
                  rw [h32] at c39
                  rw [h63, h70] at c76
                  rw [if_pos ⟨(hm k hkC).mp c25, c39, Or.inr (Int32.not_le.mp c76)⟩] at hs
                  have he : x5 = enc (L (k + 1)) := by rw [hs, enc_n (by omega), e5]
                  obtain ⟨x5p88, e5p88⟩ : ∃ y : Int32, y = x5 + 1 := ⟨_, rfl⟩
                  refine vv_iinc (pc := 88) (q := 6) (v := x5p88) (ls' := [(5, .int x5p88), (4, .int x4p86), (6, .int x6p47), (0, .ref (gad G 7)), (1, .int x1), (2, .int x2), (3, .int x3)]) dX5_nearest_88 rfl (by rw [e5p88]; rfl) (by decide) rfl ?_
                  refine vv_goto (pc := 91) (tgt := 7) dX5_nearest_91 (by decide) ?_
                  refine vv_sub [3, 4, 5, 6, 1, 0] (ls' := [(0, _), (1, _), (2, _), (3, _), (4, _), (5, _)]) rfl ?_
                  exact ih (k + 1) x4p86 x5p88 (by omega) (by omega) (by rw [e5p88, e5, nI_1]) (e4p86.trans he)
  refine vv_sub [2, 3, 4, 5, 1, 0] (ls' := [(0, _), (1, _), (2, _), (3, _), (4, _), (5, _)]) rfl ?_
  exact lp7 9 0 x4p2 x5p5 (by omega) (Nat.zero_le _) e5p5 (by rw [e4p2, hL0]; rfl)
