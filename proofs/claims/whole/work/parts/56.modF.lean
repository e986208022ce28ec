/-- the other program's history: states in a row -/
def mh (S : Mem) (kk : Nat) (hs : Nat → St) : Prop := S 7 3 = nI kk ∧ kk ≤ 6 ∧ ∀ j, j < kk → ∀ i, i < 150 → S 10 (150 * j + i) = (hs j).2 i
def shf (k : Nat) (h : Nat → Int32) : Nat → Int32 := fun i => if i < k then h (i + 150) else h i
theorem shf_0 (h : Nat → Int32) : shf 0 h = h := by
  funext i
  unfold shf
  rw [if_neg (by omega)]
theorem shf_s (k : Nat) (h : Nat → Int32) : upd (shf k h) k (shf k h (k + 150)) = shf (k + 1) h := by
  funext i
  by_cases e : i = k
  · subst e
    rw [upd_s]
    unfold shf
    rw [if_neg (by omega), if_pos (by omega)]
  · rw [upd_n _ _ e]
    unfold shf
    by_cases h2 : i < k
    · rw [if_pos h2, if_pos (by omega)]
    · rw [if_neg h2, if_neg (by omega)]
def ins (u k : Nat) (z h : Nat → Int32) : Nat → Int32 := fun i => if 150 * u ≤ i ∧ i < 150 * u + k then z (i - 150 * u) else h i
theorem ins_0 (u : Nat) (z h : Nat → Int32) : ins u 0 z h = h := by
  funext i
  unfold ins
  rw [if_neg (by omega)]
theorem ins_s (u k : Nat) (z h : Nat → Int32) : upd (ins u k z h) (150 * u + k) (z k) = ins u (k + 1) z h := by
  funext i
  by_cases e : i = 150 * u + k
  · subst e
    rw [upd_s]
    unfold ins
    rw [if_pos (by omega), show 150 * u + k - 150 * u = k by omega]
  · rw [upd_n _ _ e]
    unfold ins
    by_cases h2 : 150 * u ≤ i ∧ i < 150 * u + k
    · rw [if_pos h2, if_pos (by omega)]
    · rw [if_neg h2, if_neg (by omega)]
theorem psh_6 {kk j : Nat} {hs : Nat → St} {q : St} (hkk : kk = 6) (hj : j < 6) : sp_psh kk (va_up hs kk q) j = va_up (fun i => hs (i + 1)) 5 q j := by
  subst hkk
  unfold sp_psh
  rw [if_neg (by decide)]
  by_cases e : j = 5
  · subst e
    rw [va_up_self]
    exact (va_up_self _ _ _).symm
  · rw [va_up_ne _ _ e]
    exact va_up_ne _ _ (by omega)
set_option maxRecDepth 100000 in
set_option maxHeartbeats 4000000 in
theorem c_X5_record (l : Launch) (G : gG) {q : St} {kk : Nat} {hs : Nat → St} (S : Mem) (hq : q.2 = S 8) (hh : mh S kk hs) : mm_C l G yX5_record cX5_record 2 (none) (mm_rm 0 0) [.ref (gad G 7)] S (mm_Qv G (fun S2 => (S 7 8 ≠ 0 → S2 = S) ∧ (S 7 8 = 0 → mh S2 (sp_pk kk) (sp_psh kk (va_up hs kk q)) ∧ (∀ j, j ≠ 7 → j ≠ 10 → S2 j = S j) ∧ ∀ k, k ≠ 3 → S2 7 k = S 7 k))) := by
  obtain ⟨hk1, hk2, hk3⟩ := id hh
  refine mm_ofV (own := RX5) (by decide +kernel) rfl (Nat.le_of_ble_eq_true rfl) (ls0 := [(0, .ref (gad G 7))]) rfl ?_
  have cut53 : ∀ (u : Nat) (hs1 : Nat → St) (Sb : Mem), S 7 8 = 0 → u < 6 → Sb 7 3 = nI u → (∀ j, j < u → ∀ i, i < 150 → Sb 10 (150 * j + i) = (hs1 j).2 i) → (∀ j, j ≠ 7 → j ≠ 10 → Sb j = S j) → (∀ k, k ≠ 3 → Sb 7 k = S 7 k) → u + 1 = sp_pk kk → (∀ j, j < u + 1 → sp_psh kk (va_up hs kk q) j = va_up hs1 u q j) → mm_V l G RX5 cX5_record 2 (none) (mm_rm 0 0) 0 0 (fun _ => True) (fun _ => mm_F G) (mm_Qf G (mm_Qv G (fun S2 => (S 7 8 ≠ 0 → S2 = S) ∧ (S 7 8 = 0 → mh S2 (sp_pk kk) (sp_psh kk (va_up hs kk q)) ∧ (∀ j, j ≠ 7 → j ≠ 10 → S2 j = S j) ∧ ∀ k, k ≠ 3 → S2 7 k = S 7 k)))) Sb 53 [(0, .ref (gad G 7))] [] := by
    intro u hs1 Sb h77 hu b3 bh bo b7 hpk hps
    refine vv_iconst (pc := 53) (v := 0) dX5_record_53 (by decide) ?_
    refine vv_topi (fun x1p54 e1p54 => ?_)
    refine vv_istore_n (pc := 54) (i := 1) (ls' := [(1, .int x1p54), (0, .ref (gad G 7))]) dX5_record_54 rfl (by decide) rfl ?_
    have lp55 : ∀ (n : Nat) (k : Nat) (x1 : Int32) (S1 : Mem), S1 = mR Sb 10 (ins u k (S 8) (Sb 10)) → 151 ≤ n + k → k ≤ 150 → x1 = nI k → mm_V l G RX5 cX5_record 2 (none) (mm_rm 0 0) 0 0 (fun _ => True) (fun _ => mm_F G) (mm_Qf G (mm_Qv G (fun S2 => (S 7 8 ≠ 0 → S2 = S) ∧ (S 7 8 = 0 → mh S2 (sp_pk kk) (sp_psh kk (va_up hs kk q)) ∧ (∀ j, j ≠ 7 → j ≠ 10 → S2 j = S j) ∧ ∀ k, k ≠ 3 → S2 7 k = S 7 k)))) S1 55 [(0, .ref (gad G 7)), (1, .int x1)] [] := by
      intro n
      induction n with
      | zero =>
        intro k x1 S1 eS1 hn hkl e1
        exact absurd hn (by omega)
      | succ n ih =>
        intro k x1 S1 eS1 hn hkl e1
        subst eS1
        refine vv_iload_n (pc := 55) 1 dX5_record_55 rfl rfl ?_
        refine vv_sipush (pc := 56) (v := 150) dX5_record_56 (by decide) ?_
        refine vv_icmp_ge (pc := 59) (tgt := 89) dX5_record_59 (by decide) (fun c59 => ?_) (fun c59 => ?_)
        -- t@59 path C53L55t
        · refine vv_aload_n (pc := 89) 0 dX5_record_89 rfl rfl ?_
          refine vv_dup (pc := 90) dX5_record_90 rfl ?_
          refine vg_X5_undos (pc := 91) mw_F_X5_39 dX5_record_91 ?_
          rw [mR_o _ _ (by decide), b3]
          refine vv_iconst (pc := 94) (v := 1) dX5_record_94 (by decide) ?_
          refine vv_iadd (pc := 95) dX5_record_95 ?_
          rw [nI_1]
          refine vp_X5_undos (pc := 96) mw_F_X5_39 dX5_record_96 ?_
          refine vr_v (pc := 99) dX5_record_99 ?_
          refine ⟨fun h => absurd h77 h, fun _ => ⟨⟨?_, ?_, ?_⟩, ?_, ?_⟩⟩
          · rw [mm_wr_s, hpk]
          · unfold sp_pk; split <;> omega
          · intro j hj i hi
            rw [← hpk] at hj
            have hke := sp_geN (N := 150) (by decide) hkl e1 c59
            subst hke
            rw [hps j hj, mm_wr_orow _ _ (by decide), mR_s]
            unfold ins
            by_cases e : j = u
            · subst e
              rw [if_pos (by omega), va_up_self, hq, show 150 * j + i - 150 * j = i by omega]
            · rw [if_neg (by omega), va_up_ne _ _ e, bh j (by omega) i hi]
          · intro j h7 h10
            rw [mm_wr_orow _ _ h7, mR_o _ _ h10, bo j h7 h10]
          · intro k h3
            rw [mm_wr_n _ _ (Or.inr h3), mR_o _ _ (by decide), b7 k h3]
        -- f@59 path C53L55f
        · have hk150 : k < 150 := sp_ltN (N := 150) (by decide) hkl e1 c59
          refine vv_aload_n (pc := 62) 0 dX5_record_62 rfl rfl ?_
          refine vg_X5_history (pc := 63) mw_F_X5_16 dX5_record_63 ?_
          refine vv_aload_n (pc := 66) 0 dX5_record_66 rfl rfl ?_
          refine vg_X5_undos (pc := 67) mw_F_X5_39 dX5_record_67 ?_
          refine vv_sipush (pc := 70) (v := 150) dX5_record_70 (by decide) ?_
          refine vv_imul (pc := 73) dX5_record_73 ?_
          refine vv_iload_n (pc := 74) 1 dX5_record_74 rfl rfl ?_
          refine vv_iadd (pc := 75) dX5_record_75 ?_
          rw [mR_o _ _ (by decide), b3, show nI u * 150 + x1 = nI (150 * u + k) from by rw [e1]; exact (by rw [show (150 : Int32) = nI 150 from rfl, nI_mul, nI_add, Nat.mul_comm])]
          refine vv_aload_n (pc := 76) 0 dX5_record_76 rfl rfl ?_
          refine vg_X5_now (pc := 77) mw_F_X5_7 dX5_record_77 ?_
          refine vv_iload_n (pc := 80) 1 dX5_record_80 rfl rfl ?_
          refine vl_8 (pc := 81) (by rw [e1]; exact vp_in_nI hk150 (by decide)) dX5_record_81 ?_
          rw [mR_o _ _ (by decide), show x1.toNatClampNeg = k from by rw [e1, cl_n (by omega)], bo 8 (by decide) (by decide)]
          refine vs_10 (pc := 82) (vp_in_nI (by omega) (by decide)) dX5_record_82 ?_
          refine vv_mem (fun Sy eSy => ?_)
          have hSy : Sy = mR Sb 10 (ins u (k + 1) (S 8) (Sb 10)) := by rw [eSy, cl_n (by omega), mR_wr, mR_mR, mR_s, ins_s]
          obtain ⟨x1p83, e1p83⟩ : ∃ y : Int32, y = x1 + 1 := ⟨_, rfl⟩
          refine vv_iinc (pc := 83) (q := 1) (v := x1p83) (ls' := [(1, .int x1p83), (0, .ref (gad G 7))]) dX5_record_83 rfl (by rw [e1p83]; rfl) (by decide) rfl ?_
          refine vv_goto (pc := 86) (tgt := 55) dX5_record_86 (by decide) ?_
          refine vv_sub [1, 0] (ls' := [(0, _), (1, _)]) rfl ?_
          exact ih (k + 1) x1p83 _ hSy (by omega) (by omega) (by rw [e1p83, e1, nI_1])
    refine vv_sub [1, 0] (ls' := [(0, _), (1, _)]) rfl ?_
    exact lp55 151 0 x1p54 Sb (by rw [ins_0, mR_self]) (by omega) (by omega) e1p54
  refine vv_aload_n (pc := 0) 0 dX5_record_0 rfl rfl ?_
  refine vg_X5_isInText (pc := 1) mw_F_X5_35 dX5_record_1 ?_
  refine vv_if_eq (pc := 4) (tgt := 8) dX5_record_4 (by decide) (fun c4 => ?_) (fun c4 => ?_)
  -- t@4 path t
  · refine vv_aload_n (pc := 8) 0 dX5_record_8 rfl rfl ?_
    refine vg_X5_undos (pc := 9) mw_F_X5_39 dX5_record_9 ?_
    rw [hk1]
    refine vv_bipush (pc := 12) (v := 6) dX5_record_12 (by decide) ?_
    refine vv_icmp_ne (pc := 14) (tgt := 53) dX5_record_14 (by decide) (fun c14 => ?_) (fun c14 => ?_)
    -- t@14 path tt
    · have hk6 : kk < 6 := by
        rcases Nat.lt_or_ge kk 6 with h | h
        · exact h
        · exact absurd (show nI kk = 6 from by rw [show kk = 6 by omega]; rfl) c14
      refine vv_sub [0] (ls' := [(0, _)]) rfl ?_
      exact cut53 kk hs S c4 hk6 hk1 hk3 (fun _ _ _ => rfl) (fun _ _ => rfl) (by unfold sp_pk; rw [if_pos hk6]) (fun j hj => by unfold sp_psh; rw [if_pos hk6])
    -- f@14 path tf
    · have hkk : kk = 6 := (nI_eq (by omega) (by decide)).mp c14
      refine vv_iconst (pc := 17) (v := 0) dX5_record_17 (by decide) ?_
      refine vv_topi (fun x1p18 e1p18 => ?_)
      refine vv_istore_n (pc := 18) (i := 1) (ls' := [(1, .int x1p18), (0, .ref (gad G 7))]) dX5_record_18 rfl (by decide) rfl ?_
      have lp19 : ∀ (n : Nat) (k : Nat) (x1 : Int32) (S1 : Mem), S1 = mR S 10 (shf k (S 10)) → 751 ≤ n + k → k ≤ 750 → x1 = nI k → mm_V l G RX5 cX5_record 2 (none) (mm_rm 0 0) 0 0 (fun _ => True) (fun _ => mm_F G) (mm_Qf G (mm_Qv G (fun S2 => (S 7 8 ≠ 0 → S2 = S) ∧ (S 7 8 = 0 → mh S2 (sp_pk kk) (sp_psh kk (va_up hs kk q)) ∧ (∀ j, j ≠ 7 → j ≠ 10 → S2 j = S j) ∧ ∀ k, k ≠ 3 → S2 7 k = S 7 k)))) S1 19 [(0, .ref (gad G 7)), (1, .int x1)] [] := by
        intro n
        induction n with
        | zero =>
          intro k x1 S1 eS1 hn hkl e1
          exact absurd hn (by omega)
        | succ n ih =>
          intro k x1 S1 eS1 hn hkl e1
          subst eS1
          refine vv_iload_n (pc := 19) 1 dX5_record_19 rfl rfl ?_
          refine vv_sipush (pc := 20) (v := 750) dX5_record_20 (by decide) ?_
          refine vv_icmp_ge (pc := 23) (tgt := 48) dX5_record_23 (by decide) (fun c23 => ?_) (fun c23 => ?_)
          -- t@23 path tfL19t
          · have hke := sp_geN (N := 750) (by decide) hkl e1 c23
            subst hke
            refine vv_aload_n (pc := 48) 0 dX5_record_48 rfl rfl ?_
            refine vv_iconst (pc := 49) (v := 5) dX5_record_49 (by decide) ?_
            refine vp_X5_undos (pc := 50) mw_F_X5_39 dX5_record_50 ?_
            refine vv_mem (fun Sb eSb => ?_)
            refine vv_sub [0] (ls' := [(0, _)]) rfl ?_
            exact cut53 5 (fun j => hs (j + 1)) Sb c4 (by decide) (by rw [eSb, mm_wr_s]; rfl) (fun j hj i hi => by rw [eSb, mm_wr_orow _ _ (by decide), mR_s, shf, if_pos (by omega), ← hk3 (j + 1) (by omega) i hi, show 150 * j + i + 150 = 150 * (j + 1) + i by omega]) (fun j h7 h10 => by rw [eSb, mm_wr_orow _ _ h7, mR_o _ _ h10]) (fun k h3 => by rw [eSb, mm_wr_n _ _ (Or.inr h3), mR_o _ _ (by decide)]) (by rw [hkk]; rfl) (fun j hj => psh_6 hkk hj)
          -- f@23 path tfL19f
          · have hk750 : k < 750 := sp_ltN (N := 750) (by decide) hkl e1 c23
            refine vv_aload_n (pc := 26) 0 dX5_record_26 rfl rfl ?_
            refine vg_X5_history (pc := 27) mw_F_X5_16 dX5_record_27 ?_
            refine vv_iload_n (pc := 30) 1 dX5_record_30 rfl rfl ?_
            refine vv_aload_n (pc := 31) 0 dX5_record_31 rfl rfl ?_
            refine vg_X5_history (pc := 32) mw_F_X5_16 dX5_record_32 ?_
            refine vv_iload_n (pc := 35) 1 dX5_record_35 rfl rfl ?_
            refine vv_sipush (pc := 36) (v := 150) dX5_record_36 (by decide) ?_
            refine vv_iadd (pc := 39) dX5_record_39 ?_
            rw [show x1 + 150 = nI (k + 150) from by rw [e1]; exact nI_add k 150]
            refine vl_10 (pc := 40) (vp_in_nI (by omega) (by decide)) dX5_record_40 ?_
            rw [cl_n (by omega)]
            refine vs_10 (pc := 41) (by rw [e1]; exact vp_in_nI (by omega) (by decide)) dX5_record_41 ?_
            refine vv_mem (fun Sy eSy => ?_)
            have hSy : Sy = mR S 10 (shf (k + 1) (S 10)) := by rw [eSy, e1, cl_n (by omega), mR_wr, mR_mR, mR_s, shf_s]
            obtain ⟨x1p42, e1p42⟩ : ∃ y : Int32, y = x1 + 1 := ⟨_, rfl⟩
            refine vv_iinc (pc := 42) (q := 1) (v := x1p42) (ls' := [(1, .int x1p42), (0, .ref (gad G 7))]) dX5_record_42 rfl (by rw [e1p42]; rfl) (by decide) rfl ?_
            refine vv_goto (pc := 45) (tgt := 19) dX5_record_45 (by decide) ?_
            refine vv_sub [1, 0] (ls' := [(0, _), (1, _)]) rfl ?_
            exact ih (k + 1) x1p42 _ hSy (by omega) (by omega) (by rw [e1p42, e1, nI_1])
      refine vv_sub [1, 0] (ls' := [(0, _), (1, _)]) rfl ?_
      exact lp19 751 0 x1p18 S (by rw [shf_0, mR_self]) (by omega) (by omega) e1p18
  -- f@4 path f
  · refine vr_v (pc := 7) dX5_record_7 ?_
    exact ⟨fun _ => rfl, fun h => absurd h c4⟩
