/-! THE WHOLE TEXT -/
def pth (t : Nat → Int32) (L : Nat) : Nat → Nat
  | 0 => 0
  | n + 1 => ro_n t L (pth t L n)
/-- order n stands in the table -/
def one_ (t : Nat → Int32) (L : Nat) (O : Nat → Int32) (n : Nat) : Prop := pth t L n < L ∧ mk (O (3 * n)) ∧ ∀ q, ord q (O (3 * n)) (O (3 * n + 1)) (O (3 * n + 2)) = ord q (t (pth t L n)) (ro_1 t L (pth t L n)) (ro_2 t L (pth t L n))
def tabl (t : Nat → Int32) (L N : Nat) (O : Nat → Int32) : Prop := ∀ n, n < N → one_ t L O n
def inv_ (t : Nat → Int32) (L r i : Nat) (w : Int32) (O : Nat → Int32) : Prop := i ≤ L ∧ (w = 0 ∨ w = 1) ∧ (w ≠ 0 → op_ff t L 0 = nI i) ∧ (w = 0 → op_ff t L 0 = fin_ t L i ∧ ∃ r1, r = r1 + 1 ∧ 2 * r ≤ i + 1 ∧ tabl t L r1 O ∧ (cnf t L i → one_ t L O r1 ∧ pth t L (r1 + 1) = i + 1))
theorem ff_v (t : Nat → Int32) (L : Nat) (v : Int32) : op_ff t L v = op_ff t L 0 := au_i0 t L L 0 0 v
theorem ord_x {q : St} {k a x y : Int32} (h : k ≠ 112) : ord q k a x = ord q k a y := by
  unfold ord
  rw [if_neg h, if_neg h]
theorem tabl_up {t : Nat → Int32} {L r k : Nat} {O : Nat → Int32} {x : Int32} (h : tabl t L r O) (hk : 3 * r ≤ k) : tabl t L r (upd O k x) := fun n hn => by
  obtain ⟨a, b, c⟩ := h n hn
  unfold one_
  rw [upd_n _ _ (by omega), upd_n _ _ (by omega), upd_n _ _ (by omega)]
  exact ⟨a, b, c⟩
theorem inv_rdo {S S2 : Mem} {L r b : Nat} {O : Nat → Int32} (hL : L ≤ 60) (hb : b ≤ L) (hp : pth (S 13) L r = b) (hF : op_ff (S 13) L 0 = au_f (S 13) L (L - b) b 0 0 0) (ht : tabl (S 13) L r O) (h2 : 2 * r ≤ b) (hd : rdo S L r b O S2) : ∃ r' i w O', S2 = mQ S (nI r') (nI i) w O' ∧ inv_ (S 13) L r' i w O' ∧ b ≤ i := by
  obtain ⟨d1, d2, d3⟩ := hd
  by_cases hk : mk (sg (S 13) L b)
  · have g := mk_lt hk
    have hm := m1_le (t := S 13) g
    by_cases hp2 : sg (S 13) L b = 112 ∧ (m1 (S 13) L b).2.1 = 0
    · have hm2 := m2_le (t := S 13) hm.1
      refine ⟨_, _, _, _, d2 hk hp2.1 hp2.2, ⟨hm2.1, hm2.2.2, ?_, ?_⟩, by omega⟩
      · intro h
        rw [hF, au_two hL hp2.1 hp2.2, if_neg h]
      · intro h
        refine ⟨by rw [hF, au_two hL hp2.1 hp2.2, if_pos h], r, rfl, by omega, tabl_up (tabl_up (tabl_up ht (by omega)) (by omega)) (by omega), ?_⟩
        intro hc
        obtain ⟨e1, e2, e3⟩ := ro_two hL hp2.1 hp2.2 h hc
        refine ⟨⟨by rw [hp]; exact g, ?_, ?_⟩, ?_⟩
        · rw [upd_n _ _ (by omega), upd_n _ _ (by omega), upd_s]; exact hk
        · intro q
          rw [upd_n (i := 3 * r + 2) (j := 3 * r) _ _ (by omega), upd_n (i := 3 * r + 1) (j := 3 * r) _ _ (by omega), upd_s, upd_n (i := 3 * r + 2) (j := 3 * r + 1) _ _ (by omega), upd_s, upd_s, hp, e1, e2, sg_t g]
        · rw [pth, hp, e3]
    · refine ⟨_, _, _, _, d3 hk hp2, ⟨hm.1, hm.2.2, ?_, ?_⟩, by omega⟩
      · intro h
        rw [hF, au_one hL hk hp2, if_neg h]
      · intro h
        refine ⟨by rw [hF, au_one hL hk hp2, if_pos h], r, rfl, by omega, tabl_up (tabl_up ht (by omega)) (by omega), ?_⟩
        intro hc
        obtain ⟨e1, e3⟩ := ro_one hL hk h hc
        refine ⟨⟨by rw [hp]; exact g, ?_, ?_⟩, ?_⟩
        · rw [upd_n _ _ (by omega), upd_s]; exact hk
        · intro q
          rw [upd_n (i := 3 * r + 1) (j := 3 * r) _ _ (by omega), upd_s, upd_s, hp, e1, sg_t g]
          refine ord_x (fun k => hp2 ⟨(sg_t g).trans k, h⟩)
        · rw [pth, hp, e3]
  · refine ⟨_, _, _, _, d1 hk, ⟨hb, Or.inr rfl, fun _ => by rw [hF, au_bad hb hk], fun h => absurd h (by decide)⟩, Nat.le_refl _⟩
theorem mQ_00 (S : Mem) : mm_wr (mm_wr (mm_wr S 7 12 0) 7 11 0) 7 13 0 = mQ S (nI 0) (nI 0) 0 (S 15) := mQ_0 S
set_option maxRecDepth 100000 in
set_option maxHeartbeats 4000000 in
theorem c_X5_faultOf (l : Launch) (G : gG) (S : Mem) {L : Nat} (hL : S 7 7 = nI L) (hL60 : L ≤ 60) (hz : chz (S 13) L) : mm_C l G yX5_faultOf cX5_faultOf 1 (some .int) (mm_rm 3 65) [.ref (gad G 7)] S (mm_Qi G (fun r S2 => r = op_ff (S 13) L 0 ∧ ∃ N i w O, S2 = mQ S (nI N) (nI i) w O ∧ (r = -6 → w = 0 ∧ N ≤ 30 ∧ tabl (S 13) L N O ∧ L ≤ pth (S 13) L N))) := by
  refine mm_ofV (own := RX5) (by decide +kernel) rfl (Nat.le_of_ble_eq_true rfl) (ls0 := [(0, .ref (gad G 7))]) rfl ?_
  refine vv_aload_n (pc := 0) 0 dX5_faultOf_0 rfl rfl ?_
  refine vv_iconst (pc := 1) (v := 0) dX5_faultOf_1 (by decide) ?_
  refine vp_X5_at (pc := 2) mw_F_X5_149 dX5_faultOf_2 ?_
  refine vv_aload_n (pc := 5) 0 dX5_faultOf_5 rfl rfl ?_
  refine vv_iconst (pc := 6) (v := 0) dX5_faultOf_6 (by decide) ?_
  refine vp_X5_read (pc := 7) mw_F_X5_159 dX5_faultOf_7 ?_
  refine vv_aload_n (pc := 10) 0 dX5_faultOf_10 rfl rfl ?_
  refine vv_iconst (pc := 11) (v := 0) dX5_faultOf_11 (by decide) ?_
  refine vp_X5_isWrong (pc := 12) (by first | exact Or.inl rfl | exact Or.inr rfl | assumption) mw_F_X5_155 dX5_faultOf_12 ?_
  rw [mQ_00]
  refine vv_aload_n (pc := 15) 0 dX5_faultOf_15 rfl rfl ?_
  refine vc_Vv (pc := 16) (c_X5_readOne l G S hL hL60 (Nat.zero_le _) (by decide) hz) mw_M_X5_165 my_X5_readOne mm_rv_X5 ⟨by decide, by decide⟩ rfl rfl (Nat.le_of_ble_eq_true rfl) dX5_faultOf_16 (fun S16 h16 => ?_)
  obtain ⟨r0, i0, w0, O0, eS16, hinv, hbi⟩ := inv_rdo hL60 (Nat.zero_le _) rfl (by rw [Nat.sub_zero]; rfl) (fun n hn => absurd hn (by omega)) (Nat.le_refl _) h16
  subst eS16
  have lp19 : ∀ (n : Nat) (r i : Nat) (w : Int32) (O : Nat → Int32), inv_ (S 13) L r i w O → (w = 0 → L + 2 ≤ n + i) → (w ≠ 0 → 1 ≤ n) → mm_V l G RX5 cX5_faultOf 1 (some .int) (mm_rm 3 65) 0 0 (fun _ => True) (fun _ => mm_F G) (mm_Qf G (mm_Qi G (fun r S2 => r = op_ff (S 13) L 0 ∧ ∃ N i w O, S2 = mQ S (nI N) (nI i) w O ∧ (r = -6 → w = 0 ∧ N ≤ 30 ∧ tabl (S 13) L N O ∧ L ≤ pth (S 13) L N)))) (mQ S (nI r) (nI i) w O) 19 [(0, .ref (gad G 7))] [] := by
    intro n
    induction n with
    | zero =>
      intro r i w O hinv hn0 hn1
      rcases hinv.2.1 with h | h; (have := hn0 h; have := hinv.1; omega); (exact absurd (hn1 (by rw [h]; decide)) (by omega))
    | succ n ih =>
      intro r i w O hinv hn0 hn1
      obtain ⟨hiL, hw, hv1, hv0⟩ := id hinv
      refine vv_aload_n (pc := 19) 0 dX5_faultOf_19 rfl rfl ?_
      refine vg_X5_isWrong (pc := 20) mw_F_X5_155 dX5_faultOf_20 ?_
      rw [mQ_r13]
      refine vv_if_ne (pc := 23) (tgt := 79) dX5_faultOf_23 (by decide) (fun c23 => ?_) (fun c23 => ?_)
      -- t@23 path L19t
      · refine vv_aload_n (pc := 79) 0 dX5_faultOf_79 rfl rfl ?_
        refine vg_X5_isWrong (pc := 80) mw_F_X5_155 dX5_faultOf_80 ?_
        rw [mQ_r13]
        refine vv_if_eq (pc := 83) (tgt := 93) dX5_faultOf_83 (by decide) (fun c83 => absurd c83 c23) (fun c83 => ?_)
        refine vv_aload_n (pc := 86) 0 dX5_faultOf_86 rfl rfl ?_
        refine vg_X5_at (pc := 87) mw_F_X5_149 dX5_faultOf_87 ?_
        rw [mQ_r12]
        refine vv_goto (pc := 90) (tgt := 95) dX5_faultOf_90 (by decide) ?_
        refine vr_i (pc := 95) dX5_faultOf_95 ?_
        exact ⟨(hv1 c23).symm, r, i, w, O, rfl, fun h => absurd (h ▸ nI_pos' (n := i) (by omega)) (by decide)⟩
      -- f@23 path L19f
      · refine vv_aload_n (pc := 26) 0 dX5_faultOf_26 rfl rfl ?_
        refine vg_X5_at (pc := 27) mw_F_X5_149 dX5_faultOf_27 ?_
        refine vv_aload_n (pc := 30) 0 dX5_faultOf_30 rfl rfl ?_
        refine vg_X5_signs (pc := 31) mw_F_X5_133 dX5_faultOf_31 ?_
        rw [mQ_r12, mQ_r7, hL]
        refine vv_icmp_ge (pc := 34) (tgt := 79) dX5_faultOf_34 (by decide) (fun c34 => ?_) (fun c34 => ?_)
        -- t@34 path L19ft
        · refine vv_aload_n (pc := 79) 0 dX5_faultOf_79 rfl rfl ?_
          refine vg_X5_isWrong (pc := 80) mw_F_X5_155 dX5_faultOf_80 ?_
          rw [mQ_r13]
          refine vv_if_eq (pc := 83) (tgt := 93) dX5_faultOf_83 (by decide) (fun c83 => ?_) (fun c83 => absurd c23 c83)
          refine vv_bipush (pc := 93) (v := (-6)) dX5_faultOf_93 (by decide) ?_
          refine vr_i (pc := 95) dX5_faultOf_95 ?_
          rw [nI_leI (by omega) (by omega)] at c34
          obtain ⟨hF, r1, hr, h2r, htb, hcn⟩ := hv0 c23
          obtain ⟨hon, hpt⟩ := hcn (Or.inl c34)
          rw [← hr] at hpt
          refine ⟨by rw [hF]; unfold fin_; rw [if_pos c34], r, i, w, O, rfl, fun _ => ⟨c23, by omega, fun n hn => ?_, by omega⟩⟩
          by_cases e : n = r1
          · rw [e]; exact hon
          · exact htb n (by omega)
        -- f@34 path L19ff
        · refine vv_aload_n (pc := 37) 0 dX5_faultOf_37 rfl rfl ?_
          have hw0 := c23
          subst hw0
          rw [nI_leI (by omega) (by omega)] at c34
          have hiL2 : i < L := by omega
          obtain ⟨hF, r1, hr, h2r, htb, hcn⟩ := hv0 rfl
          refine vv_aload_n (pc := 38) 0 dX5_faultOf_38 rfl rfl ?_
          refine vc_Vi (pc := 39) (c_X5_sign l G S hL hL60 hiL) mw_M_X5_152 my_X5_sign mm_rv_X5 ⟨by decide, by decide⟩ rfl rfl (Nat.le_of_ble_eq_true rfl) dX5_faultOf_39 (fun r39 S39 h39 => ?_)
          obtain ⟨qS39, h39⟩ := h39
          replace qS39 := qS39.symm
          subst qS39
          refine vv_bipush (pc := 42) (v := 59) dX5_faultOf_42 (by decide) ?_
          refine vv_icmp_eq (pc := 44) (tgt := 51) dX5_faultOf_44 (by decide) (fun c44 => ?_) (fun c44 => ?_)
          -- t@44 path L19fft
          · refine vv_iconst (pc := 51) (v := 0) dX5_faultOf_51 (by decide) ?_
            refine vp_X5_isWrong (pc := 52) (by first | exact Or.inl rfl | exact Or.inr rfl | assumption) mw_F_X5_155 dX5_faultOf_52 ?_
            rw [mQ_13]
            refine vv_aload_n (pc := 55) 0 dX5_faultOf_55 rfl rfl ?_
            refine vg_X5_isWrong (pc := 56) mw_F_X5_155 dX5_faultOf_56 ?_
            rw [mQ_r13]
            refine vv_if_ne (pc := 59) (tgt := 19) dX5_faultOf_59 (by decide) (fun c59 => absurd rfl c59) (fun c59 => ?_)
            refine vv_aload_n (pc := 62) 0 dX5_faultOf_62 rfl rfl ?_
            refine vv_dup (pc := 63) dX5_faultOf_63 rfl ?_
            refine vg_X5_at (pc := 64) mw_F_X5_149 dX5_faultOf_64 ?_
            rw [mQ_r12]
            refine vv_iconst (pc := 67) (v := 1) dX5_faultOf_67 (by decide) ?_
            refine vv_iadd (pc := 68) dX5_faultOf_68 ?_
            refine vp_X5_at (pc := 69) mw_F_X5_149 dX5_faultOf_69 ?_
            rw [mQ_12, nI_1]
            rw [h39, sg_t hiL2] at c44
            obtain ⟨hon, hpt⟩ := hcn (Or.inr c44)
            rw [← hr] at hpt
            have htb2 : tabl (S 13) L r O := fun n hn => by
              by_cases e : n = r1
              · rw [e]; exact hon
              · exact htb n (by omega)
            have hF2 : op_ff (S 13) L 0 = au_f (S 13) L (L - (i + 1)) (i + 1) 0 0 0 := by rw [hF]; unfold fin_; rw [if_neg (by omega), if_pos c44]
            refine vv_aload_n (pc := 72) 0 dX5_faultOf_72 rfl rfl ?_
            refine vc_Vv (pc := 73) (c_X5_readOne l G S hL hL60 (by omega) (by omega) hz) mw_M_X5_165 my_X5_readOne mm_rv_X5 ⟨by decide, by decide⟩ rfl rfl (Nat.le_of_ble_eq_true rfl) dX5_faultOf_73 (fun S73 h73 => ?_)
            obtain ⟨r0, i0, w0, O0, eS73, hinv2, hbi⟩ := inv_rdo hL60 (by omega) hpt hF2 htb2 (by omega) h73
            subst eS73
            refine vv_goto (pc := 76) (tgt := 19) dX5_faultOf_76 (by decide) ?_
            refine vv_sub [0] (ls' := [(0, _)]) rfl ?_
            exact ih r0 i0 w0 O0 hinv2 (fun _ => by have := hn0 rfl; omega) (fun _ => by have := hn0 rfl; omega)
          -- f@44 path L19fff
          · refine vv_iconst (pc := 47) (v := 1) dX5_faultOf_47 (by decide) ?_
            refine vv_goto (pc := 48) (tgt := 52) dX5_faultOf_48 (by decide) ?_
            refine vp_X5_isWrong (pc := 52) (by first | exact Or.inl rfl | exact Or.inr rfl | assumption) mw_F_X5_155 dX5_faultOf_52 ?_
            rw [mQ_13]
            refine vv_aload_n (pc := 55) 0 dX5_faultOf_55 rfl rfl ?_
            refine vg_X5_isWrong (pc := 56) mw_F_X5_155 dX5_faultOf_56 ?_
            rw [mQ_r13]
            refine vv_if_ne (pc := 59) (tgt := 19) dX5_faultOf_59 (by decide) (fun c59 => ?_) (fun c59 => absurd c59 (by decide))
            rw [h39, sg_t hiL2] at c44
            have hF2 : op_ff (S 13) L 0 = nI i := by rw [hF]; unfold fin_; rw [if_neg (by omega), if_neg c44]
            refine vv_sub [0] (ls' := [(0, _)]) rfl ?_
            exact ih r i 1 O ⟨hiL, Or.inr rfl, fun _ => hF2, fun h => absurd h (by decide)⟩ (fun h => absurd h (by decide)) (fun _ => by have := hn0 rfl; omega)
  refine vv_sub [0] (ls' := [(0, _)]) rfl ?_
  exact lp19 62 r0 i0 w0 O0 hinv (fun _ => by omega) (fun _ => by omega)
set_option maxRecDepth 100000 in
set_option maxHeartbeats 4000000 in
theorem c_X5_fault (l : Launch) (G : gG) (S : Mem) {L : Nat} (hL : S 7 7 = nI L) (hL60 : L ≤ 60) (hz : chz (S 13) L) : mm_C l G yX5_fault cX5_fault 1 (some .int) (mm_rm 4 85) [.ref (gad G 7)] S (mm_Qi G (fun r S2 => r = op_ff (S 13) L 0 ∧ ∃ N i w O, S2 = mQ S (nI N) (nI i) w O)) := by
  refine mm_ofV (own := RX5) (by decide +kernel) rfl (Nat.le_of_ble_eq_true rfl) (ls0 := [(0, .ref (gad G 7))]) rfl ?_
  refine vv_aload_n (pc := 0) 0 dX5_fault_0 rfl rfl ?_
  refine vc_Vi (pc := 1) (c_X5_faultOf l G _ (by assumption) (by assumption) (by assumption)) mw_M_X5_170 my_X5_faultOf mm_rv_X5 ⟨by decide, by decide⟩ rfl rfl (Nat.le_of_ble_eq_true rfl) dX5_fault_1 (fun r1 S1 h1 => ?_)
  refine vr_i (pc := 4) dX5_fault_4 ?_
  obtain ⟨a, N, i, w, O, b, -⟩ := h1
  exact ⟨a, N, i, w, O, b⟩
