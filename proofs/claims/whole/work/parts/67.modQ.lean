/-! WHO FALLS WITH A WIRE -/
theorem ior_and (a b c : Int32) : (a ||| b) &&& c = (a &&& c) ||| (b &&& c) := by
  rw [← Int32.toBitVec_inj]
  simp only [Int32.toBitVec_and, Int32.toBitVec_or]
  ext i hi
  simp only [BitVec.getElem_and, BitVec.getElem_or]
  exact Bool.and_or_distrib_right _ _ _
theorem brk_f5 (z : Nat → Int32) (b k : Nat) : sp_f (sp_brk z b) k 5 = if k = b then 1 else sp_f z k 5 := by
  rw [sp_brk_f _ _ (by decide)]
  by_cases h : k = b
  · rw [if_neg (fun h => absurd h.2 (by decide)), if_neg (fun h => absurd h.2 (by decide)), if_pos ⟨h, rfl⟩, if_pos h]
  · rw [if_neg (fun h2 => h h2.1), if_neg (fun h2 => h h2.1), if_neg (fun h2 => h h2.1), if_neg h]
theorem mskN_brk {z : Nat → Int32} {b : Nat} (h : sp_f z b 5 = 0) : ∀ c, mskN z 5 c = mskN (sp_brk z b) 5 c + (if b < c then 2 ^ b else 0)
  | 0 => by simp [mskN]
  | c + 1 => by
    have ih := mskN_brk h c
    rw [mskN, mskN, brk_f5, ih]
    by_cases e : c = b
    · subst e
      simp [h]
    · by_cases e2 : b < c
      · simp only [if_neg e, if_pos e2, if_pos (show b < c + 1 by omega)]
        split <;> omega
      · simp only [if_neg e, if_neg e2, if_neg (show ¬ b < c + 1 by omega)]
        split <;> omega
theorem bit_o2 : ∀ b, b < 8 → ∀ a, a < 256 → a / 2 ^ b % 2 = 0 → nI (a + 2 ^ b) = nI a ||| ((1 : Int32) <<< (nI b &&& 31)) := by decide +kernel
theorem bit_an : ∀ b, b < 8 → ∀ a, a < 256 → a / 2 ^ b % 2 = 0 → ((1 : Int32) <<< (nI b &&& 31)) &&& (nI a ^^^ (-1)) = (1 : Int32) <<< (nI b &&& 31) := by decide +kernel
theorem mskN_256 {C : Nat} (hC : C ≤ 8) (z : Nat → Int32) (g : Nat) : mskN z g C < 256 := by
  have h4 := mskN_lt z g C
  have h5 : (2 : Nat) ^ C ≤ 2 ^ 8 := Nat.pow_le_pow_right (by decide) hC
  omega
theorem mskN_n {C b : Nat} {z : Nat → Int32} (hC : C ≤ 8) (hb : b < C) (h : sp_f z b 5 ≠ 0) : mskN z 5 C / 2 ^ b % 2 = 0 := by
  have h2 := mskN_b z 5 C hC b hb
  have : ¬ mskN z 5 C / 2 ^ b % 2 = 1 := fun e => h (h2.mp e)
  omega
theorem msk_brk {C b : Nat} {z : Nat → Int32} (hC : C ≤ 8) (hb : b < C) (h : sp_f z b 5 = 0) : msk z 5 C = msk (sp_brk z b) 5 C ||| ((1 : Int32) <<< (nI b &&& 31)) := by
  have h1 : sp_f (sp_brk z b) b 5 ≠ 0 := by rw [brk_f5, if_pos rfl]; decide
  rw [msk_N _ _ C hC, msk_N _ _ C hC, mskN_brk h C, if_pos hb]
  exact bit_o2 b (by omega) _ (mskN_256 hC _ _) (mskN_n hC hb h1)
theorem msk_an {C b : Nat} {z : Nat → Int32} (hC : C ≤ 8) (hb : b < C) (h : sp_f z b 5 ≠ 0) : ((1 : Int32) <<< (nI b &&& 31)) &&& (msk z 5 C ^^^ (-1)) = (1 : Int32) <<< (nI b &&& 31) := by
  rw [msk_N _ _ C hC]
  exact bit_an b (by omega) _ (mskN_256 hC _ _) (mskN_n hC hb h)
theorem stl_f5 {C b : Nat} : ∀ (k : Nat) (z : Nat → Int32), sp_f z b 5 ≠ 0 → sp_f (sp_stl C k z) b 5 ≠ 0
  | 0, _, h => h
  | k + 1, z, h => by
    rw [sp_stl]
    by_cases e : sp_bu z C = 99
    · rw [if_pos e]; exact h
    · rw [if_neg e]
      refine stl_f5 k _ ?_
      rw [brk_f5]
      split
      · decide
      · exact h
theorem sto_m {C : Nat} (hC : C ≤ 8) : ∀ (k : Nat) (z : Nat → Int32) (m : Int32), sp_sto C k z m = m ||| (msk z 5 C &&& (msk (sp_stl C k z) 5 C ^^^ (-1)))
  | 0, z, m => by
    rw [sp_sto, sp_stl, Int32.xor_neg_one, Int32.and_not_self, Int32.or_zero]
  | k + 1, z, m => by
    rw [sp_sto, sp_stl]
    by_cases e : sp_bu z C = 99
    · rw [if_pos e, if_pos e, Int32.xor_neg_one, Int32.and_not_self, Int32.or_zero]
    · rw [if_neg e, if_neg e, sto_m hC k]
      obtain ⟨hb, h0⟩ := sp_bu_lt e
      rw [msk_brk (z := z) hC hb h0, ior_and, msk_an hC hb (stl_f5 k _ (by rw [brk_f5, if_pos rfl]; decide)), Int32.or_assoc]
      congr 1
      exact Int32.or_comm _ _
/-- the set that falls, as the model takes it -/
theorem fal_m {C w : Nat} {z : Nat → Int32} (hC : C ≤ 8) (hw : w < C) (h : sp_f z w 5 = 0) : msk z 5 C &&& (msk (sp_stl C 8 (sp_brk z w)) 5 C ^^^ (-1)) = sp_fal C z w := by
  unfold sp_fal
  rw [sto_m hC, Int32.zero_or, msk_brk (z := z) hC hw h, ior_and, msk_an hC hw (stl_f5 8 _ (by rw [brk_f5, if_pos rfl]; decide))]
  exact Int32.or_comm _ _
theorem and_lt {a : Nat} (ha : a < 256) (y : Int32) : ∃ m, m < 256 ∧ nI a &&& y = nI m := by
  refine ⟨(nI a &&& y).toBitVec.toNat, ?_, ?_⟩
  · rw [Int32.toBitVec_and, BitVec.toNat_and]
    refine Nat.lt_of_le_of_lt Nat.and_le_left ?_
    show (BitVec.ofNat 32 a).toNat < 256
    rw [BitVec.toNat_ofNat, Nat.mod_eq_of_lt (by omega)]
    exact ha
  · rw [← Int32.toBitVec_inj]
    show _ = BitVec.ofNat 32 _
    rw [BitVec.ofNat_toNat, BitVec.setWidth_eq]
theorem fal_N {C w : Nat} {z : Nat → Int32} (hC : C ≤ 8) (hw : w < C) (h : sp_f z w 5 = 0) : ∃ m, m < 256 ∧ sp_fal C z w = nI m := by
  rw [← fal_m hC hw h, msk_N _ _ C hC]
  exact and_lt (mskN_256 hC _ _) _
/-- the bits of a set, one after another -/
def szk (x : Int32) : Nat → Int32
  | 0 => 0
  | k + 1 => szk x k + (x >>> (nI k &&& 31) &&& 1)
theorem szk_bc : ∀ m, m < 256 → szk (nI m) 8 = sp_bc (nI m) ∧ (m ≠ 0 → 0 < sp_bc (nI m)) := by decide +kernel
theorem fal_0 : ∀ w, w < 8 → (1 : Int32) <<< (nI w &&& 31) ≠ 0 := by decide
theorem ior_0 {a b : Int32} (h : a ||| b = 0) : a = 0 := by
  rw [← Int32.toBitVec_inj] at h ⊢
  rw [Int32.toBitVec_or] at h
  exact (BitVec.or_eq_zero_iff.mp h).1
theorem fal_sz {C w : Nat} {z : Nat → Int32} (hC : C ≤ 8) (hw : w < C) (h : sp_f z w 5 = 0) : szk (sp_fal C z w) 8 = sp_bc (sp_fal C z w) ∧ 0 < sp_bc (sp_fal C z w) := by
  obtain ⟨m, hm, e⟩ := fal_N hC hw h
  have h2 := szk_bc m hm
  rw [e]
  refine ⟨h2.1, h2.2 (fun h0 => ?_)⟩
  rw [h0] at e
  unfold sp_fal at e
  exact fal_0 w (by omega) (ior_0 e)
theorem brk_hi {z : Nat → Int32} {k i : Nat} (hk : k < 8) (hi : 150 ≤ i) : sp_brk z k i = z i := by
  unfold sp_brk sp_up
  rw [if_neg (by omega), if_neg (by omega), if_neg (by omega)]
theorem stl_hi {C : Nat} (hC : C ≤ 8) {i : Nat} (hi : 150 ≤ i) : ∀ (k : Nat) (z : Nat → Int32), sp_stl C k z i = z i
  | 0, _ => rfl
  | k + 1, z => by
    rw [sp_stl]
    by_cases e : sp_bu z C = 99
    · rw [if_pos e]
    · have := (sp_bu_lt e).1
      rw [if_neg e, stl_hi hC hi k, brk_hi (by omega) hi]
/-- the row is again what it was -/
theorem cp_back {z r y : Nat → Int32} (h : ∀ i, 150 ≤ i → y i = z i) : cp (cp z r) y = z := by
  funext i
  unfold cp cpk
  by_cases e : i < 150
  · rw [if_pos e, if_pos e]
  · rw [if_neg e]; exact h i (by omega)
/-- the weakest, as the model finds it -/
def wsm (C : Nat) (z : Nat → Int32) : Nat → Int32 × Int32
  | 0 => (-6, 0)
  | c + 1 => if sp_f z c 5 = 0 ∧ (wsm C z c).2 < sp_bc (sp_fal C z c) then (nI c, sp_bc (sp_fal C z c)) else wsm C z c
theorem wsm_e {C : Nat} (hC : C ≤ 8) {z : Nat → Int32} : ∀ c, c ≤ C → (wsm C z c = (-6, 0) ∧ sp_wst C z c = (-6, -6)) ∨ (wsm C z c = sp_wst C z c ∧ 0 ≤ (wsm C z c).1)
  | 0, _ => Or.inl ⟨rfl, rfl⟩
  | c + 1, h => by
    rw [wsm, sp_wst]
    by_cases e : sp_f z c 5 = 0
    · have hp := (fal_sz hC (show c < C by omega) e).2
      rcases wsm_e hC c (by omega) with ⟨a, b⟩ | ⟨a, b⟩
      · rw [a, b, if_pos ⟨e, hp⟩, if_pos ⟨e, Int32.lt_trans (by decide) hp⟩]
        exact Or.inr ⟨rfl, nI_pos' (by omega)⟩
      · rw [a]
        by_cases g : (sp_wst C z c).2 < sp_bc (sp_fal C z c)
        · rw [if_pos ⟨e, g⟩]
          exact Or.inr ⟨rfl, nI_pos' (by omega)⟩
        · rw [if_neg (fun h => g h.2)]
          exact Or.inr ⟨rfl, by rw [← a]; exact b⟩
    · rw [if_neg (fun h => e h.1), if_neg (fun h => e h.1)]
      exact wsm_e hC c (by omega)
theorem wsm_0 {C : Nat} (hC : C ≤ 8) {z : Nat → Int32} : ∀ c, c ≤ C → 0 ≤ (wsm C z c).2
  | 0, _ => by show (0 : Int32) ≤ 0; decide
  | c + 1, h => by
    rw [wsm]
    by_cases e : sp_f z c 5 = 0 ∧ (wsm C z c).2 < sp_bc (sp_fal C z c)
    · rw [if_pos e]
      exact Int32.le_of_lt (fal_sz hC (show c < C by omega) e.1).2
    · rw [if_neg e]
      exact wsm_0 hC c (by omega)
theorem rm_trans {S S1 S2 : Mem} (h : rm S S1) (h2 : rm S1 S2) : rm S S2 := fun j a b => (h2 j a b).trans (h j a b)
set_option maxRecDepth 100000 in
set_option maxHeartbeats 4000000 in
theorem c_X5_size (l : Launch) (G : gG) (S : Mem) (x : Int32) : mm_C l G yX5_size cX5_size 3 (some .int) (mm_rm 0 0) [.int x] S (mm_Qi G (fun r S2 => S2 = S ∧ r = szk x 8)) := by
  refine mm_ofV (own := RX5) (by decide +kernel) rfl (Nat.le_of_ble_eq_true rfl) (ls0 := [(0, .int x)]) rfl ?_
  refine vv_iconst (pc := 0) (v := 0) dX5_size_0 (by decide) ?_
  refine vv_topi (fun x1p1 e1p1 => ?_)
  refine vv_istore_n (pc := 1) (i := 1) (ls' := [(1, .int x1p1), (0, .int x)]) dX5_size_1 rfl (by decide) rfl ?_
  refine vv_iconst (pc := 2) (v := 0) dX5_size_2 (by decide) ?_
  refine vv_topi (fun x2p3 e2p3 => ?_)
  refine vv_istore_n (pc := 3) (i := 2) (ls' := [(2, .int x2p3), (1, .int x1p1), (0, .int x)]) dX5_size_3 rfl (by decide) rfl ?_
  have lp4 : ∀ (n : Nat) (k : Nat) (x1 x2 : Int32), 9 ≤ n + k → k ≤ 8 → x2 = nI k → x1 = szk x k → mm_V l G RX5 cX5_size 3 (some .int) (mm_rm 0 0) 0 0 (fun _ => True) (fun _ => mm_F G) (mm_Qf G (mm_Qi G (fun r S2 => S2 = S ∧ r = szk x 8))) S 4 [(0, .int x), (1, .int x1), (2, .int x2)] [] := by
    intro n
    induction n with
    | zero =>
      intro k x1 x2 hn hkl e2 e1
      exact absurd hn (by omega)
    | succ n ih =>
      intro k x1 x2 hn hkl e2 e1
      refine vv_iload_n (pc := 4) 2 dX5_size_4 rfl rfl ?_
      refine vv_bipush (pc := 5) (v := 8) dX5_size_5 (by decide) ?_
      refine vv_icmp_ge (pc := 7) (tgt := 24) dX5_size_7 (by decide) (fun c7 => ?_) (fun c7 => ?_)
      -- t@7 path L4t
      · refine vv_iload_n (pc := 24) 1 dX5_size_24 rfl rfl ?_
        refine vr_i (pc := 25) dX5_size_25 ?_
        have hkC := sp_geN (N := 8) (by decide) hkl e2 c7
        subst hkC
        exact ⟨rfl, e1⟩
      -- f@7 path L4f
      · have hk8 : k < 8 := sp_ltN (N := 8) (by decide) hkl e2 c7
        refine vv_iload_n (pc := 10) 1 dX5_size_10 rfl rfl ?_
        refine vv_iload_n (pc := 11) 0 dX5_size_11 rfl rfl ?_
        refine vv_iload_n (pc := 12) 2 dX5_size_12 rfl rfl ?_
        refine vv_ishr (pc := 13) dX5_size_13 ?_
        refine vv_iconst (pc := 14) (v := 1) dX5_size_14 (by decide) ?_
        refine vv_iand (pc := 15) dX5_size_15 ?_
        refine vv_iadd (pc := 16) dX5_size_16 ?_
        refine vv_topi (fun x1p17 e1p17 => ?_)
        refine vv_istore_n (pc := 17) (i := 1) (ls' := [(1, .int x1p17), (0, .int x), (2, .int x2)]) dX5_size_17 rfl (by decide) rfl ?_
        obtain ⟨x2p18, e2p18⟩ : ∃ y : Int32, y = x2 + 1 := ⟨_, rfl⟩
        refine vv_iinc (pc := 18) (q := 2) (v := x2p18) (ls' := [(2, .int x2p18), (1, .int x1p17), (0, .int x)]) dX5_size_18 rfl (by rw [e2p18]; rfl) (by decide) rfl ?_
        refine vv_goto (pc := 21) (tgt := 4) dX5_size_21 (by decide) ?_
        refine vv_sub [2, 1, 0] (ls' := [(0, _), (1, _), (2, _)]) rfl ?_
        exact ih (k + 1) _ _ (by omega) (by omega) (by rw [e2p18, e2, nI_1]) (by rw [e1p17, e1, e2, szk])
  refine vv_sub [2, 1, 0] (ls' := [(0, _), (1, _), (2, _)]) rfl ?_
  exact lp4 9 0 x1p1 x2p3 (by omega) (by omega) e2p3 e1p1
set_option maxRecDepth 100000 in
set_option maxHeartbeats 4000000 in
theorem c_X5_fallen (l : Launch) (G : gG) (S : Mem) {C w : Nat} {x1 : Int32} (hwf : sp_wf C (S 8)) (hx : x1 = nI w) (hw : w < C) (hw5 : sp_f (S 8) w 5 = 0) : mm_C l G yX5_fallen cX5_fallen 4 (some .int) (mm_rm 5 121) [.ref (gad G 7), .int x1] S (mm_Qi G (fun r S2 => rm S S2 ∧ r = sp_fal C (S 8) w)) := by
  obtain ⟨hC, hn3, hat, hinj⟩ := id hwf.1
  have hw8 : w < 8 := by omega
  refine mm_ofV (own := RX5) (by decide +kernel) rfl (Nat.le_of_ble_eq_true rfl) (ls0 := [(0, .ref (gad G 7)), (1, .int x1)]) rfl ?_
  refine vv_aload_n (pc := 0) 0 dX5_fallen_0 rfl rfl ?_
  refine vv_iconst (pc := 1) (v := 0) dX5_fallen_1 (by decide) ?_
  refine vc_Vi (pc := 2) (c_X5_wholeBy l G _ hC hn3 (Or.inl ⟨rfl, rfl⟩)) mw_M_X5_61 my_X5_wholeBy mm_rv_X5 ⟨by decide, by decide⟩ rfl rfl (Nat.le_of_ble_eq_true rfl) dX5_fallen_2 (fun r2 S2 h2 => ?_)
  obtain ⟨qS2, h2⟩ := h2
  replace qS2 := qS2.symm
  subst qS2
  refine vv_topi (fun x2p5 e2p5 => ?_)
  refine vv_istore_n (pc := 5) (i := 2) (ls' := [(2, .int x2p5), (0, .ref (gad G 7)), (1, .int x1)]) dX5_fallen_5 rfl (by decide) rfl ?_
  refine vv_aload_n (pc := 6) 1 dX5_fallen_6 rfl rfl ?_
  refine vc_Vv (pc := 7) (c_X5_keep l G _) mw_M_X5_137 my_X5_keep mm_rv_X5 ⟨by decide, by decide⟩ rfl rfl (Nat.le_of_ble_eq_true rfl) dX5_fallen_7 (fun S7 h7 => ?_)
  have h78 : S7 8 = S 8 := by rw [h7]; exact mR_o S _ (by decide)
  refine vv_aload_n (pc := 10) 1 dX5_fallen_10 rfl rfl ?_
  refine vv_iload_n (pc := 11) 2 dX5_fallen_11 rfl rfl ?_
  refine vc_Vv (pc := 12) (c_X5_breakWire l G _ hx hw8) mw_M_X5_81 my_X5_breakWire mm_rv_X5 ⟨by decide, by decide⟩ rfl rfl (Nat.le_of_ble_eq_true rfl) dX5_fallen_12 (fun S12 h12 => ?_)
  refine vv_aload_n (pc := 15) 1 dX5_fallen_15 rfl rfl ?_
  refine vc_Vi (pc := 16) (c_X5_settle l G _ (C := C) (by rw [h12, mR_s, h78]; exact sp_brk_wf hwf hw)) mw_M_X5_91 my_X5_settle mm_rv_X5 ⟨by decide, by decide⟩ rfl rfl (Nat.le_of_ble_eq_true rfl) dX5_fallen_16 (fun r16 S16 h16 => ?_)
  obtain ⟨-, T, h16⟩ := h16
  have hs8 : S16 8 = sp_stl C 8 (sp_brk (S 8) w) := by rw [h16, mR_o _ _ (by decide), mR_s, h12, mR_s, h78]
  have hs3 : S16 8 3 = nI C := by rw [hs8]; exact (sp_stl_wf 8 (sp_brk_wf hwf hw)).1.2.1
  have hs9 : S16 9 = cp (S 8) (S 9) := by rw [h16, mR_o _ _ (by decide), mR_o _ _ (by decide), h12, mR_o _ _ (by decide), h7, mR_s]
  have hso : ∀ j, j ≠ 8 → j ≠ 9 → j ≠ 14 → S16 j = S j := fun j a b c => by rw [h16, mR_o _ _ c, mR_o _ _ a, h12, mR_o _ _ a, h7, mR_o _ _ b]
  refine vv_pop (pc := 19) dX5_fallen_19 rfl ?_
  refine vv_iload_n (pc := 20) 0 dX5_fallen_20 rfl rfl ?_
  refine vv_aload_n (pc := 21) 1 dX5_fallen_21 rfl rfl ?_
  refine vv_iconst (pc := 22) (v := 0) dX5_fallen_22 (by decide) ?_
  refine vc_Vi (pc := 23) (c_X5_wholeBy l G _ hC hs3 (Or.inl ⟨rfl, rfl⟩)) mw_M_X5_61 my_X5_wholeBy mm_rv_X5 ⟨by decide, by decide⟩ rfl rfl (Nat.le_of_ble_eq_true rfl) dX5_fallen_23 (fun r23 S23 h23 => ?_)
  obtain ⟨qS23, h23⟩ := h23
  replace qS23 := qS23.symm
  subst qS23
  refine vv_iconst (pc := 26) (v := (-1)) dX5_fallen_26 (by decide) ?_
  refine vv_ixor (pc := 27) dX5_fallen_27 ?_
  refine vv_iand (pc := 28) dX5_fallen_28 ?_
  refine vv_topi (fun x3p29 e3p29 => ?_)
  refine vv_istore_n (pc := 29) (i := 3) (ls' := [(3, .int x3p29), (2, .int x2p5), (0, .ref (gad G 7)), (1, .int x1)]) dX5_fallen_29 rfl (by decide) rfl ?_
  refine vv_aload_n (pc := 30) 2 dX5_fallen_30 rfl rfl ?_
  refine vc_Vv (pc := 31) (c_X5_comeBack l G _) mw_M_X5_140 my_X5_comeBack mm_rv_X5 ⟨by decide, by decide⟩ rfl rfl (Nat.le_of_ble_eq_true rfl) dX5_fallen_31 (fun S31 h31 => ?_)
  refine vv_iload_n (pc := 34) 0 dX5_fallen_34 rfl rfl ?_
  refine vr_i (pc := 35) dX5_fallen_35 ?_
  refine ⟨?_, by rw [e3p29, e2p5, h2, h23, hs8]; exact fal_m hC hw hw5⟩
  rw [h31, hs9, hs8, cp_back (fun i hi => by rw [stl_hi hC hi, brk_hi hw8 hi])]
  intro j h9 h14
  by_cases h8 : j = 8
  · rw [h8, mR_s]
  · rw [mR_o _ _ h8, hso j h8 h9 h14]
set_option maxRecDepth 100000 in
set_option maxHeartbeats 4000000 in
theorem c_X5_fallsWith (l : Launch) (G : gG) {q : St} (S : Mem) (hg : gd q) (hz : q.2 = S 8) (x1 : Int32) : mm_C l G yX5_fallsWith cX5_fallsWith 2 (some .int) (mm_rm 6 144) [.ref (gad G 7), .int x1] S (mm_Qi G (fun r S2 => rm S S2 ∧ r = rd_fw q x1)) := by
  obtain ⟨C, z⟩ := q
  dsimp only at hz
  subst hz
  obtain ⟨hwf, hcalm⟩ := id hg
  dsimp only at hwf hcalm
  obtain ⟨hC, hn3, hat, hinj⟩ := id hwf.1
  refine mm_ofV (own := RX5) (by decide +kernel) rfl (Nat.le_of_ble_eq_true rfl) (ls0 := [(0, .ref (gad G 7)), (1, .int x1)]) rfl ?_
  refine vv_aload_n (pc := 0) 0 dX5_fallsWith_0 rfl rfl ?_
  refine vv_iload_n (pc := 1) 1 dX5_fallsWith_1 rfl rfl ?_
  refine vc_Vi (pc := 2) (c_X5_isWire l G _ hC hn3 _) mw_M_X5_112 my_X5_isWire mm_rv_X5 ⟨by decide, by decide⟩ rfl rfl (Nat.le_of_ble_eq_true rfl) dX5_fallsWith_2 (fun r2 S2 h2 => ?_)
  obtain ⟨qS2, h2⟩ := h2
  replace qS2 := qS2.symm
  subst qS2
  refine vv_if_ne (pc := 5) (tgt := 10) dX5_fallsWith_5 (by decide) (fun c5 => ?_) (fun c5 => ?_)
  -- t@5 path t
  · rw [h2] at c5
    have gH : ¬ sp_wi C x1 = 99 := fun h => c5 (i10.mpr h)
    obtain ⟨hi, hxi⟩ := sp_wi_lt hC gH
    have hi8 : sp_wi C x1 < 8 := by omega
    have hww := hwf.2.1 _ hi
    refine vv_aload_n (pc := 10) 0 dX5_fallsWith_10 rfl rfl ?_
    refine vv_iload_n (pc := 11) 1 dX5_fallsWith_11 rfl rfl ?_
    refine vc_Vi (pc := 12) (c_X5_isWhole l G _ hxi hi8) mw_M_X5_69 my_X5_isWhole mm_rv_X5 ⟨by decide, by decide⟩ rfl rfl (Nat.le_of_ble_eq_true rfl) dX5_fallsWith_12 (fun r12 S12 h12 => ?_)
    obtain ⟨qS12, h12⟩ := h12
    replace qS12 := qS12.symm
    subst qS12
    refine vv_if_eq (pc := 15) (tgt := 26) dX5_fallsWith_15 (by decide) (fun c15 => ?_) (fun c15 => ?_)
    -- t@15 path tt
    · refine vv_bipush (pc := 26) (v := (-5)) dX5_fallsWith_26 (by decide) ?_
      refine vr_i (pc := 28) dX5_fallsWith_28 ?_
      rw [h12, i01] at c15
      exact ⟨fun _ _ _ => rfl, by unfold rd_fw; rw [if_neg gH, if_neg c15]⟩
    -- f@15 path tf
    · rw [h12, i01] at c15
      have hw5 := Classical.not_not.mp c15
      refine vv_aload_n (pc := 18) 0 dX5_fallsWith_18 rfl rfl ?_
      refine vv_iload_n (pc := 19) 1 dX5_fallsWith_19 rfl rfl ?_
      refine vc_Vi (pc := 20) (c_X5_fallen l G _ hwf hxi hi hw5) mw_M_X5_143 my_X5_fallen mm_rv_X5 ⟨by decide, by decide⟩ rfl rfl (Nat.le_of_ble_eq_true rfl) dX5_fallsWith_20 (fun r20 S20 h20 => ?_)
      refine vv_goto (pc := 23) (tgt := 28) dX5_fallsWith_23 (by decide) ?_
      refine vr_i (pc := 28) dX5_fallsWith_28 ?_
      exact ⟨h20.1, by unfold rd_fw; rw [if_neg gH, if_pos hw5]; exact h20.2⟩
  -- f@5 path f
  · refine vv_iconst (pc := 8) (v := (-1)) dX5_fallsWith_8 (by decide) ?_
    refine vr_i (pc := 9) dX5_fallsWith_9 ?_
    rw [h2] at c5
    exact ⟨fun _ _ _ => rfl, by unfold rd_fw; rw [if_pos (i10.mp c5)]⟩
set_option maxRecDepth 100000 in
set_option maxHeartbeats 4000000 in
theorem c_X5_weakest (l : Launch) (G : gG) {q : St} (S : Mem) (hg : gd q) (hz : q.2 = S 8) (x1 : Int32) : mm_C l G yX5_weakest cX5_weakest 6 (some .int) (mm_rm 6 144) [.ref (gad G 7), .int x1] S (mm_Qi G (fun r S2 => rm S S2 ∧ r = rd_we q x1)) := by
  obtain ⟨C, z⟩ := q
  dsimp only at hz
  subst hz
  obtain ⟨hwf, hcalm⟩ := id hg
  dsimp only at hwf hcalm
  obtain ⟨hC, hn3, hat, hinj⟩ := id hwf.1
  refine mm_ofV (own := RX5) (by decide +kernel) rfl (Nat.le_of_ble_eq_true rfl) (ls0 := [(0, .ref (gad G 7)), (1, .int x1)]) rfl ?_
  refine vv_iload_n (pc := 0) 1 dX5_weakest_0 rfl rfl ?_
  refine vv_iconst (pc := 1) (v := 0) dX5_weakest_1 (by decide) ?_
  refine vv_iconst (pc := 2) (v := 1) dX5_weakest_2 (by decide) ?_
  refine vc_Si (pc := 3) (c_X5_in l G _ _ _ _) mw_M_X5_43 my_X5_in ⟨by decide, by decide⟩ rfl rfl (Nat.le_of_ble_eq_true rfl) dX5_weakest_3 (fun r3 S3 h3 => ?_)
  obtain ⟨qS3, h3⟩ := h3
  replace qS3 := qS3.symm
  subst qS3
  refine vv_if_ne (pc := 6) (tgt := 12) dX5_weakest_6 (by decide) (fun c6 => ?_) (fun c6 => ?_)
  -- t@6 path t
  · refine vv_bipush (pc := 12) (v := (-6)) dX5_weakest_12 (by decide) ?_
    refine vv_topi (fun x2p14 e2p14 => ?_)
    refine vv_istore_n (pc := 14) (i := 2) (ls' := [(2, .int x2p14), (0, .ref (gad G 7)), (1, .int x1)]) dX5_weakest_14 rfl (by decide) rfl ?_
    refine vv_iconst (pc := 15) (v := 0) dX5_weakest_15 (by decide) ?_
    refine vv_topi (fun x3p16 e3p16 => ?_)
    refine vv_istore_n (pc := 16) (i := 3) (ls' := [(3, .int x3p16), (2, .int x2p14), (0, .ref (gad G 7)), (1, .int x1)]) dX5_weakest_16 rfl (by decide) rfl ?_
    refine vv_iconst (pc := 17) (v := 0) dX5_weakest_17 (by decide) ?_
    refine vv_topi (fun x4p18 e4p18 => ?_)
    refine vv_istore (pc := 18) (i := 4) (ls' := [(4, .int x4p18), (3, .int x3p16), (2, .int x2p14), (0, .ref (gad G 7)), (1, .int x1)]) dX5_weakest_18 (by decide) rfl ?_
    have lp20 : ∀ (n : Nat) (k : Nat) (x2 x3 x4 : Int32) (S1 : Mem), rm S S1 → 9 ≤ n + k → k ≤ C → x4 = nI k → x2 = (wsm C (S 8) k).1 → x3 = (wsm C (S 8) k).2 → mm_V l G RX5 cX5_weakest 6 (some .int) (mm_rm 6 144) 0 0 (fun _ => True) (fun _ => mm_F G) (mm_Qf G (mm_Qi G (fun r S2 => rm S S2 ∧ r = rd_we (C, S 8) x1))) S1 20 [(0, .ref (gad G 7)), (1, .int x1), (2, .int x2), (3, .int x3), (4, .int x4)] [] := by
      intro n
      induction n with
      | zero =>
        intro k x2 x3 x4 S1 hrm hn hkl e4 e2 e3
        exact absurd hn (by omega)
      | succ n ih =>
        intro k x2 x3 x4 S1 hrm hn hkl e4 e2 e3
        have h18 : S1 8 = S 8 := hrm 8 (by decide) (by decide)
        refine vv_iload (pc := 20) 4 dX5_weakest_20 rfl ?_
        refine vv_aload_n (pc := 22) 0 dX5_weakest_22 rfl rfl ?_
        refine vg_X5_now (pc := 23) mw_F_X5_7 dX5_weakest_23 ?_
        refine vv_iconst (pc := 26) (v := 3) dX5_weakest_26 (by decide) ?_
        refine vl_8 (pc := 27) (vp_in_nI (n := 3) (by decide) (by decide)) dX5_weakest_27 ?_
        rw [h18, show S 8 (Int32.toNatClampNeg 3) = nI C from hn3]
        refine vv_icmp_ge (pc := 28) (tgt := 73) dX5_weakest_28 (by decide) (fun c28 => ?_) (fun c28 => ?_)
        -- t@28 path tL20t
        · refine vv_iload_n (pc := 73) 2 dX5_weakest_73 rfl rfl ?_
          refine vv_if_lt (pc := 74) (tgt := 81) dX5_weakest_74 (by decide) (fun c74 => ?_) (fun c74 => ?_)
          -- t@74 path tL20tt
          · refine vv_iload_n (pc := 81) 2 dX5_weakest_81 rfl rfl ?_
            refine vv_goto (pc := 82) (tgt := 86) dX5_weakest_82 (by decide) ?_
            refine vr_i (pc := 86) dX5_weakest_86 ?_
            have hkC := sp_geN (by omega) hkl e4 c28
            subst hkC
            refine ⟨hrm, ?_⟩
            have hb := sp_in_1 (x := x1) (a := 0) (b := 1) (by rw [← h3]; exact c6)
            rw [show (0 : Int32).toInt = 0 by decide, show (1 : Int32).toInt = 1 by decide] at hb
            have hw := wsm_e hC (z := S 8) k (Nat.le_refl _)
            unfold rd_we
            dsimp only
            have hx : x1 = 0 ∨ x1 = 1 := by
              rcases (show x1.toInt = 0 ∨ x1.toInt = 1 by omega) with h | h
              · exact Or.inl (i32_of 0 h (by decide))
              · exact Or.inr (i32_of 1 h (by decide))
            rcases hw with ⟨a, b⟩ | ⟨a, b⟩
            · rcases hx with rfl | rfl
              · rw [if_pos rfl, b, e2, a]
              · rw [if_neg (by decide), if_pos rfl, b, e2, a]
            · rw [e2] at c74
              exact absurd c74 (Int32.not_lt.mpr b)
          -- f@74 path tL20tf
          · refine vv_iload_n (pc := 77) 1 dX5_weakest_77 rfl rfl ?_
            refine vv_if_ne (pc := 78) (tgt := 85) dX5_weakest_78 (by decide) (fun c78 => ?_) (fun c78 => ?_)
            -- t@78 path tL20tft
            · refine vv_iload_n (pc := 85) 3 dX5_weakest_85 rfl rfl ?_
              refine vr_i (pc := 86) dX5_weakest_86 ?_
              have hkC := sp_geN (by omega) hkl e4 c28
              subst hkC
              refine ⟨hrm, ?_⟩
              have hb := sp_in_1 (x := x1) (a := 0) (b := 1) (by rw [← h3]; exact c6)
              rw [show (0 : Int32).toInt = 0 by decide, show (1 : Int32).toInt = 1 by decide] at hb
              have hw := wsm_e hC (z := S 8) k (Nat.le_refl _)
              unfold rd_we
              dsimp only
              have hx : x1 = 0 ∨ x1 = 1 := by
                rcases (show x1.toInt = 0 ∨ x1.toInt = 1 by omega) with h | h
                · exact Or.inl (i32_of 0 h (by decide))
                · exact Or.inr (i32_of 1 h (by decide))
              have hx1 := hx.resolve_left c78
              subst hx1
              rw [if_neg (by decide), if_pos rfl]
              rcases hw with ⟨a, b⟩ | ⟨a, b⟩
              · rw [e2, a] at c74
                exact absurd (by decide) c74
              · rw [e3, a]
            -- f@78 path tL20tff
            · refine vv_iload_n (pc := 81) 2 dX5_weakest_81 rfl rfl ?_
              refine vv_goto (pc := 82) (tgt := 86) dX5_weakest_82 (by decide) ?_
              refine vr_i (pc := 86) dX5_weakest_86 ?_
              have hkC := sp_geN (by omega) hkl e4 c28
              subst hkC
              refine ⟨hrm, ?_⟩
              have hb := sp_in_1 (x := x1) (a := 0) (b := 1) (by rw [← h3]; exact c6)
              rw [show (0 : Int32).toInt = 0 by decide, show (1 : Int32).toInt = 1 by decide] at hb
              have hw := wsm_e hC (z := S 8) k (Nat.le_refl _)
              unfold rd_we
              dsimp only
              subst c78
              rw [if_pos rfl]
              rcases hw with ⟨a, b⟩ | ⟨a, b⟩
              · rw [e2, a] at c74
                exact absurd (by decide) c74
              · rw [e2, a]
        -- f@28 path tL20f
        · have hkC : k < C := sp_ltN (by omega) hkl e4 c28
          have hk8 : k < 8 := by omega
          refine vv_aload_n (pc := 31) 0 dX5_weakest_31 rfl rfl ?_
          refine vv_iload (pc := 32) 4 dX5_weakest_32 rfl ?_
          refine vc_Vi (pc := 34) (c_X5_isWhole l G _ e4 hk8) mw_M_X5_69 my_X5_isWhole mm_rv_X5 ⟨by decide, by decide⟩ rfl rfl (Nat.le_of_ble_eq_true rfl) dX5_weakest_34 (fun r34 S34 h34 => ?_)
          obtain ⟨qS34, h34⟩ := h34
          replace qS34 := qS34.symm
          subst qS34
          refine vv_if_eq (pc := 37) (tgt := 52) dX5_weakest_37 (by decide) (fun c37 => ?_) (fun c37 => ?_)
          -- t@37 path tL20ft
          · refine vv_iconst (pc := 52) (v := 0) dX5_weakest_52 (by decide) ?_
            refine vv_topi (fun x5p53 e5p53 => ?_)
            refine vv_istore (pc := 53) (i := 5) (ls' := [(5, .int x5p53), (0, .ref (gad G 7)), (1, .int x1), (2, .int x2), (3, .int x3), (4, .int x4)]) dX5_weakest_53 (by decide) rfl ?_
            refine vv_iload (pc := 55) 0 dX5_weakest_55 rfl ?_
            refine vv_iload_n (pc := 57) 4 dX5_weakest_57 rfl rfl ?_
            refine vv_icmp_le (pc := 58) (tgt := 67) dX5_weakest_58 (by decide) (fun c58 => ?_) (fun c58 => ?_)
            -- t@58 path tL20ftt
            · rw [h34, i01, h18] at c37
              have hst : wsm C (S 8) (k + 1) = wsm C (S 8) k := by rw [wsm, if_neg (fun h => c37 h.1)]
              have hrm2 := hrm
              have he2 : x2 = (wsm C (S 8) (k + 1)).1 := by rw [hst, e2]
              have he3 : x3 = (wsm C (S 8) (k + 1)).2 := by rw [hst, e3]
              obtain ⟨x4p67, e4p67⟩ : ∃ y : Int32, y = x4 + 1 := ⟨_, rfl⟩
              refine vv_iinc (pc := 67) (q := 5) (v := x4p67) (ls' := [(4, .int x4p67), (5, .int x5p53), (0, .ref (gad G 7)), (1, .int x1), (2, .int x2), (3, .int x3)]) dX5_weakest_67 rfl (by rw [e4p67]; rfl) (by decide) rfl ?_
              refine vv_goto (pc := 70) (tgt := 20) dX5_weakest_70 (by decide) ?_
              refine vv_sub [2, 3, 4, 5, 0] (ls' := [(0, _), (1, _), (2, _), (3, _), (4, _)]) rfl ?_
              exact ih (k + 1) _ _ _ _ hrm2 (by omega) (by omega) (by rw [e4p67, e4, nI_1]) he2 he3
            -- f@58 path tL20ftf
            · exact absurd (by rw [e5p53, e3]; exact wsm_0 hC k hkl) c58
          -- f@37 path tL20ff
          · rw [h34, i01] at c37
            have hw5 := Classical.not_not.mp c37
            refine vv_aload_n (pc := 40) 0 dX5_weakest_40 rfl rfl ?_
            refine vv_iload (pc := 41) 4 dX5_weakest_41 rfl ?_
            refine vc_Vi (pc := 43) (c_X5_fallen l G _ (C := C) (by rw [h18]; exact hwf) e4 hkC hw5) mw_M_X5_143 my_X5_fallen mm_rv_X5 ⟨by decide, by decide⟩ rfl rfl (Nat.le_of_ble_eq_true rfl) dX5_weakest_43 (fun r43 S43 h43 => ?_)
            refine vc_Si (pc := 46) (c_X5_size l G _ _) mw_M_X5_146 my_X5_size ⟨by decide, by decide⟩ rfl rfl (Nat.le_of_ble_eq_true rfl) dX5_weakest_46 (fun r46 S46 h46 => ?_)
            obtain ⟨qS46, h46⟩ := h46
            replace qS46 := qS46.symm
            subst qS46
            refine vv_goto (pc := 49) (tgt := 53) dX5_weakest_49 (by decide) ?_
            refine vv_topi (fun x5p53 e5p53 => ?_)
            refine vv_istore (pc := 53) (i := 5) (ls' := [(5, .int x5p53), (0, .ref (gad G 7)), (1, .int x1), (2, .int x2), (3, .int x3), (4, .int x4)]) dX5_weakest_53 (by decide) rfl ?_
            refine vv_iload (pc := 55) 0 dX5_weakest_55 rfl ?_
            refine vv_iload_n (pc := 57) 4 dX5_weakest_57 rfl rfl ?_
            refine vv_icmp_le (pc := 58) (tgt := 67) dX5_weakest_58 (by decide) (fun c58 => ?_) (fun c58 => ?_)
            -- t@58 path tL20fft
            · obtain ⟨hrm43, h43⟩ := h43
              have hrm2 := rm_trans hrm hrm43
              have ho : x5p53 = sp_bc (sp_fal C (S 8) k) := by rw [e5p53, h46, h43, h18]; exact (fal_sz hC hkC (by rw [← h18]; exact hw5)).1
              rw [h18] at hw5
              rw [ho, e3] at c58
              have hst : wsm C (S 8) (k + 1) = wsm C (S 8) k := by rw [wsm, if_neg (fun h => absurd c58 (Int32.not_le.mpr h.2))]
              have he2 : x2 = (wsm C (S 8) (k + 1)).1 := by rw [hst, e2]
              have he3 : x3 = (wsm C (S 8) (k + 1)).2 := by rw [hst, e3]
              obtain ⟨x4p67, e4p67⟩ : ∃ y : Int32, y = x4 + 1 := ⟨_, rfl⟩
              refine vv_iinc (pc := 67) (q := 5) (v := x4p67) (ls' := [(4, .int x4p67), (5, .int x5p53), (0, .ref (gad G 7)), (1, .int x1), (2, .int x2), (3, .int x3)]) dX5_weakest_67 rfl (by rw [e4p67]; rfl) (by decide) rfl ?_
              refine vv_goto (pc := 70) (tgt := 20) dX5_weakest_70 (by decide) ?_
              refine vv_sub [2, 3, 4, 5, 0] (ls' := [(0, _), (1, _), (2, _), (3, _), (4, _)]) rfl ?_
              exact ih (k + 1) _ _ _ _ hrm2 (by omega) (by omega) (by rw [e4p67, e4, nI_1]) he2 he3
            -- f@58 path tL20fff
            · refine vv_iload (pc := 61) 5 dX5_weakest_61 rfl ?_
              refine vv_topi (fun x2p63 e2p63 => ?_)
              refine vv_istore_n (pc := 63) (i := 2) (ls' := [(2, .int x2p63), (5, .int x5p53), (0, .ref (gad G 7)), (1, .int x1), (3, .int x3), (4, .int x4)]) dX5_weakest_63 rfl (by decide) rfl ?_
              refine vv_iload (pc := 64) 1 dX5_weakest_64 rfl ?_
              refine vv_topi (fun x3p66 e3p66 => ?_)
              refine vv_istore_n (pc := 66) (i := 3) (ls' := [(3, .int x3p66), (2, .int x2p63), (5, .int x5p53), (0, .ref (gad G 7)), (1, .int x1), (4, .int x4)]) dX5_weakest_66 rfl (by decide) rfl ?_
              obtain ⟨hrm43, h43⟩ := h43
              have hrm2 := rm_trans hrm hrm43
              have ho : x5p53 = sp_bc (sp_fal C (S 8) k) := by rw [e5p53, h46, h43, h18]; exact (fal_sz hC hkC (by rw [← h18]; exact hw5)).1
              rw [h18] at hw5
              rw [ho, e3] at c58
              have hst : wsm C (S 8) (k + 1) = (nI k, sp_bc (sp_fal C (S 8) k)) := by rw [wsm, if_pos ⟨hw5, Int32.not_le.mp c58⟩]
              have he2 : x2p63 = (wsm C (S 8) (k + 1)).1 := by rw [hst, e2p63, e4]
              have he3 : x3p66 = (wsm C (S 8) (k + 1)).2 := by rw [hst, e3p66, ho]
              obtain ⟨x4p67, e4p67⟩ : ∃ y : Int32, y = x4 + 1 := ⟨_, rfl⟩
              refine vv_iinc (pc := 67) (q := 5) (v := x4p67) (ls' := [(4, .int x4p67), (3, .int x3p66), (2, .int x2p63), (5, .int x5p53), (0, .ref (gad G 7)), (1, .int x1)]) dX5_weakest_67 rfl (by rw [e4p67]; rfl) (by decide) rfl ?_
              refine vv_goto (pc := 70) (tgt := 20) dX5_weakest_70 (by decide) ?_
              refine vv_sub [4, 5, 2, 1, 0] (ls' := [(0, _), (1, _), (2, _), (3, _), (4, _)]) rfl ?_
              exact ih (k + 1) _ _ _ _ hrm2 (by omega) (by omega) (by rw [e4p67, e4, nI_1]) he2 he3
    refine vv_sub [3, 4, 2, 1, 0] (ls' := [(0, _), (1, _), (2, _), (3, _), (4, _)]) rfl ?_
    exact lp20 9 0 _ _ _ S (fun _ _ _ => rfl) (by omega) (Nat.zero_le _) e4p18 e2p14 e3p16
  -- f@6 path f
  · refine vv_bipush (pc := 9) (v := (-2)) dX5_weakest_9 (by decide) ?_
    refine vr_i (pc := 11) dX5_weakest_11 ?_
    have hb : sp_in x1 0 1 = 0 := by rw [← h3]; exact c6
    rw [sp_in_iff, show (0 : Int32).toInt = 0 by decide, show (1 : Int32).toInt = 1 by decide] at hb
    have hk : ∀ j : Int32, 0 ≤ j.toInt → j.toInt ≤ 1 → x1 ≠ j := fun j h0 h1 e => by rw [e] at hb; omega
    refine ⟨fun _ _ _ => rfl, ?_⟩
    unfold rd_we
    rw [if_neg (hk 0 (by decide) (by decide)), if_neg (hk 1 (by decide) (by decide))]
