/-! THE OTHER PROGRAM: all is one row -/
def mR (S : Mem) (j : Nat) (r : Nat → Int32) : Mem := fun i => if i = j then r else S i
theorem mR_s (S : Mem) (j : Nat) (r : Nat → Int32) : mR S j r j = r := by simp [mR]
theorem mR_o (S : Mem) {j i : Nat} (r : Nat → Int32) (h : i ≠ j) : mR S j r i = S i := by simp [mR, h]
theorem mR_mR (S : Mem) (j : Nat) (r r2 : Nat → Int32) : mR (mR S j r) j r2 = mR S j r2 := by
  funext i
  unfold mR
  by_cases h : i = j
  · rw [if_pos h, if_pos h]
  · rw [if_neg h, if_neg h, if_neg h]
theorem mR_self (S : Mem) (j : Nat) : mR S j (S j) = S := by
  funext i
  unfold mR
  by_cases h : i = j
  · rw [if_pos h, h]
  · rw [if_neg h]
theorem mR_wr (S : Mem) (j k : Nat) (x : Int32) : mm_wr S j k x = mR S j (upd (S j) k x) := by
  funext i
  by_cases h : i = j
  · subst h
    rw [mm_wr_row, mR_s]
  · rw [mm_wr_orow _ _ h, mR_o _ _ h]
theorem mR_up (S : Mem) (w f : Nat) (v : Int32) : mm_wr S 8 (30 + 14 * w + f) v = mR S 8 (sp_up (S 8) w f v) := by
  rw [mR_wr]
  congr 1
theorem nI_mul (a b : Nat) : nI a * nI b = nI (a * b) := (Int32.ofNat_mul a b).symm
theorem ix_n {w f : Nat} : (30 : Int32) + 14 * nI w + nI f = nI (30 + 14 * w + f) := by
  show nI 30 + nI 14 * nI w + nI f = _
  rw [nI_mul, nI_add, nI_add]
theorem mo_wire {C : Nat} (hC : C ≤ 8) (x : Int32) : sp_in x 0 (nI C - 1) = if sp_wi C x = 99 then 0 else 1 := by
  unfold sp_wi
  have hc : (nI C - 1).toInt = (C : Int) - 1 := by
    rw [i32_sub] <;> rw [nI_toInt (by omega), show (1 : Int32).toInt = 1 by decide] <;> omega
  have hn : (nI C).toInt = C := nI_toInt (by omega)
  by_cases h : 0 ≤ x ∧ x < nI C
  · rw [if_pos h, if_neg]
    · unfold sp_in
      rw [if_pos]
      rw [Int32.le_iff_toInt_le, Int32.lt_iff_toInt_lt] at h
      rw [Int32.le_iff_toInt_le, Int32.le_iff_toInt_le]
      omega
    · rw [Int32.le_iff_toInt_le, Int32.lt_iff_toInt_lt, show (0 : Int32).toInt = 0 by decide] at h
      have := sp_cl (x := x) (by omega)
      omega
  · rw [if_neg h, if_pos rfl]
    unfold sp_in
    rw [if_neg]
    rw [Int32.le_iff_toInt_le, Int32.lt_iff_toInt_lt] at h
    rw [Int32.le_iff_toInt_le, Int32.le_iff_toInt_le]
    omega
/-- a set of wires as bits -/
def msk (z : Nat → Int32) (g : Nat) : Nat → Int32
  | 0 => 0
  | c + 1 => msk z g c ||| (if sp_f z c g = 0 then 1 <<< (nI c &&& 31) else 0)
set_option maxRecDepth 100000 in
set_option maxHeartbeats 4000000 in
theorem c_X5_in (l : Launch) (G : gG) (S : Mem) (x a b : Int32) : mm_C l G yX5_in cX5_in 3 (some .boolean) (mm_rm 0 0) [.int x, .int a, .int b] S (mm_Qi G (fun r S2 => S2 = S ∧ r = sp_in x a b)) := by
  refine mm_ofV (own := RX5) (by decide +kernel) rfl (Nat.le_of_ble_eq_true rfl) (ls0 := [(0, .int x), (1, .int a), (2, .int b)]) rfl ?_
  refine vv_iload_n (pc := 0) 0 dX5_in_0 rfl rfl ?_
  refine vv_iload_n (pc := 1) 1 dX5_in_1 rfl rfl ?_
  refine vv_icmp_lt (pc := 2) (tgt := 14) dX5_in_2 (by decide) (fun c2 => ?_) (fun c2 => ?_)
  -- t@2 path t
  · refine vv_iconst (pc := 14) (v := 0) dX5_in_14 (by decide) ?_
    refine vr_z (pc := 15) dX5_in_15 (by first | exact Or.inl rfl | exact Or.inr rfl | assumption) ?_
    refine ⟨rfl, ?_⟩
    unfold sp_in
    split <;> first | rfl | (exfalso; simp only [Int32.lt_iff_toInt_lt, Int32.le_iff_toInt_le, ← Int32.toInt_inj, ne_eq] at *; omega)
  -- f@2 path f
  · refine vv_iload_n (pc := 5) 0 dX5_in_5 rfl rfl ?_
    refine vv_iload_n (pc := 6) 2 dX5_in_6 rfl rfl ?_
    refine vv_icmp_gt (pc := 7) (tgt := 14) dX5_in_7 (by decide) (fun c7 => ?_) (fun c7 => ?_)
    -- t@7 path ft
    · refine vv_iconst (pc := 14) (v := 0) dX5_in_14 (by decide) ?_
      refine vr_z (pc := 15) dX5_in_15 (by first | exact Or.inl rfl | exact Or.inr rfl | assumption) ?_
      refine ⟨rfl, ?_⟩
      unfold sp_in
      split <;> first | rfl | (exfalso; simp only [Int32.lt_iff_toInt_lt, Int32.le_iff_toInt_le, ← Int32.toInt_inj, ne_eq] at *; omega)
    -- f@7 path ff
    · refine vv_iconst (pc := 10) (v := 1) dX5_in_10 (by decide) ?_
      refine vv_goto (pc := 11) (tgt := 15) dX5_in_11 (by decide) ?_
      refine vr_z (pc := 15) dX5_in_15 (by first | exact Or.inl rfl | exact Or.inr rfl | assumption) ?_
      refine ⟨rfl, ?_⟩
      unfold sp_in
      split <;> first | rfl | (exfalso; simp only [Int32.lt_iff_toInt_lt, Int32.le_iff_toInt_le, ← Int32.toInt_inj, ne_eq] at *; omega)
set_option maxRecDepth 100000 in
set_option maxHeartbeats 4000000 in
theorem c_X5_of (l : Launch) (G : gG) (S : Mem) {w f : Nat} {x y : Int32} (hx : x = nI w) (hy : y = nI f) (hw : w < 8) (hf : f < 14) : mm_C l G yX5_of cX5_of 3 (some .int) (mm_rm 0 0) [.ref (gad G 7), .int x, .int y] S (mm_Qi G (fun r S2 => S2 = S ∧ r = sp_f (S 8) w f)) := by
  refine mm_ofV (own := RX5) (by decide +kernel) rfl (Nat.le_of_ble_eq_true rfl) (ls0 := [(0, .ref (gad G 7)), (1, .int x), (2, .int y)]) rfl ?_
  refine vv_aload_n (pc := 0) 0 dX5_of_0 rfl rfl ?_
  refine vg_X5_now (pc := 1) mw_F_X5_7 dX5_of_1 ?_
  refine vv_bipush (pc := 4) (v := 30) dX5_of_4 (by decide) ?_
  refine vv_bipush (pc := 6) (v := 14) dX5_of_6 (by decide) ?_
  refine vv_iload_n (pc := 8) 1 dX5_of_8 rfl rfl ?_
  refine vv_imul (pc := 9) dX5_of_9 ?_
  refine vv_iadd (pc := 10) dX5_of_10 ?_
  refine vv_iload_n (pc := 11) 2 dX5_of_11 rfl rfl ?_
  refine vv_iadd (pc := 12) dX5_of_12 ?_
  refine vl_8 (pc := 13) (by rw [hx, hy, ix_n]; exact vp_in_nI (by omega) (by decide)) dX5_of_13 ?_
  refine vr_i (pc := 14) dX5_of_14 ?_
  exact ⟨rfl, by rw [hx, hy, ix_n, cl_n (by omega)]; rfl⟩
set_option maxRecDepth 100000 in
set_option maxHeartbeats 4000000 in
theorem c_X5_book (l : Launch) (G : gG) (S : Mem) {w f : Nat} {x y : Int32} (hx : x = nI w) (hy : y = nI f) (hw : w < 8) (hf : f < 14) (v : Int32) : mm_C l G yX5_book cX5_book 4 (none) (mm_rm 0 0) [.ref (gad G 7), .int x, .int y, .int v] S (mm_Qv G (fun S2 => S2 = mR S 8 (sp_up (S 8) w f v))) := by
  refine mm_ofV (own := RX5) (by decide +kernel) rfl (Nat.le_of_ble_eq_true rfl) (ls0 := [(0, .ref (gad G 7)), (1, .int x), (2, .int y), (3, .int v)]) rfl ?_
  refine vv_aload_n (pc := 0) 0 dX5_book_0 rfl rfl ?_
  refine vg_X5_now (pc := 1) mw_F_X5_7 dX5_book_1 ?_
  refine vv_bipush (pc := 4) (v := 30) dX5_book_4 (by decide) ?_
  refine vv_bipush (pc := 6) (v := 14) dX5_book_6 (by decide) ?_
  refine vv_iload_n (pc := 8) 1 dX5_book_8 rfl rfl ?_
  refine vv_imul (pc := 9) dX5_book_9 ?_
  refine vv_iadd (pc := 10) dX5_book_10 ?_
  refine vv_iload_n (pc := 11) 2 dX5_book_11 rfl rfl ?_
  refine vv_iadd (pc := 12) dX5_book_12 ?_
  refine vv_iload_n (pc := 13) 3 dX5_book_13 rfl rfl ?_
  refine vs_8 (pc := 14) (by rw [hx, hy, ix_n]; exact vp_in_nI (by omega) (by decide)) dX5_book_14 ?_
  refine vr_v (pc := 15) dX5_book_15 ?_
  rw [hx, hy, ix_n, cl_n (by omega)]
  exact mR_up S w f v
set_option maxRecDepth 100000 in
set_option maxHeartbeats 4000000 in
theorem c_X5_isWhole (l : Launch) (G : gG) (S : Mem) {w : Nat} {x : Int32} (hx : x = nI w) (hw : w < 8) : mm_C l G yX5_isWhole cX5_isWhole 2 (some .boolean) (mm_rm 1 22) [.ref (gad G 7), .int x] S (mm_Qi G (fun r S2 => S2 = S ∧ r = if sp_f (S 8) w 5 = 0 then 1 else 0)) := by
  refine mm_ofV (own := RX5) (by decide +kernel) rfl (Nat.le_of_ble_eq_true rfl) (ls0 := [(0, .ref (gad G 7)), (1, .int x)]) rfl ?_
  refine vv_aload_n (pc := 0) 0 dX5_isWhole_0 rfl rfl ?_
  refine vv_iload_n (pc := 1) 1 dX5_isWhole_1 rfl rfl ?_
  refine vv_iconst (pc := 2) (v := 5) dX5_isWhole_2 (by decide) ?_
  refine vc_Vi (pc := 3) (c_X5_of l G _ (by assumption) rfl (by assumption) (by decide)) mw_M_X5_47 my_X5_of mm_rv_X5 ⟨by decide, by decide⟩ rfl rfl (Nat.le_of_ble_eq_true rfl) dX5_isWhole_3 (fun r3 S3 h3 => ?_)
  obtain ⟨qS3, h3⟩ := h3
  replace qS3 := qS3.symm
  subst qS3
  refine vv_if_ne (pc := 6) (tgt := 13) dX5_isWhole_6 (by decide) (fun c6 => ?_) (fun c6 => ?_)
  -- t@6 path t
  · refine vv_iconst (pc := 13) (v := 0) dX5_isWhole_13 (by decide) ?_
    refine vr_z (pc := 14) dX5_isWhole_14 (by first | exact Or.inl rfl | exact Or.inr rfl | assumption) ?_
    exact ⟨rfl, by rw [if_neg (fun h => c6 (h3.trans h))]⟩
  -- f@6 path f
  · refine vv_iconst (pc := 9) (v := 1) dX5_isWhole_9 (by decide) ?_
    refine vv_goto (pc := 10) (tgt := 14) dX5_isWhole_10 (by decide) ?_
    refine vr_z (pc := 14) dX5_isWhole_14 (by first | exact Or.inl rfl | exact Or.inr rfl | assumption) ?_
    exact ⟨rfl, by rw [if_pos (h3.symm.trans c6)]⟩
set_option maxRecDepth 100000 in
set_option maxHeartbeats 4000000 in
theorem c_X5_isWire (l : Launch) (G : gG) (S : Mem) {C : Nat} (hC : C ≤ 8) (h3 : S 8 3 = nI C) (x : Int32) : mm_C l G yX5_isWire cX5_isWire 2 (some .boolean) (mm_rm 1 22) [.ref (gad G 7), .int x] S (mm_Qi G (fun r S2 => S2 = S ∧ r = if sp_wi C x = 99 then 0 else 1)) := by
  refine mm_ofV (own := RX5) (by decide +kernel) rfl (Nat.le_of_ble_eq_true rfl) (ls0 := [(0, .ref (gad G 7)), (1, .int x)]) rfl ?_
  refine vv_iload_n (pc := 0) 1 dX5_isWire_0 rfl rfl ?_
  refine vv_iconst (pc := 1) (v := 0) dX5_isWire_1 (by decide) ?_
  refine vv_aload_n (pc := 2) 0 dX5_isWire_2 rfl rfl ?_
  refine vg_X5_now (pc := 3) mw_F_X5_7 dX5_isWire_3 ?_
  refine vv_iconst (pc := 6) (v := 3) dX5_isWire_6 (by decide) ?_
  refine vl_8 (pc := 7) (vp_in_nI (n := 3) (by decide) (by decide)) dX5_isWire_7 ?_
  refine vv_iconst (pc := 8) (v := 1) dX5_isWire_8 (by decide) ?_
  refine vv_isub (pc := 9) dX5_isWire_9 ?_
  refine vc_Si (pc := 10) (c_X5_in l G _ _ _ _) mw_M_X5_43 my_X5_in ⟨by decide, by decide⟩ rfl rfl (Nat.le_of_ble_eq_true rfl) dX5_isWire_10 (fun r10 S10 h10 => ?_)
  obtain ⟨qS10, h10⟩ := h10
  replace qS10 := qS10.symm
  subst qS10
  refine vr_z (pc := 13) dX5_isWire_13 (by rw [h10]; exact sp_in_01 _ _ _) ?_
  refine ⟨rfl, ?_⟩
  rw [h10]
  rw [show S 8 (Int32.toNatClampNeg 3) = nI C from h3]
  exact mo_wire hC x
set_option maxRecDepth 100000 in
set_option maxHeartbeats 4000000 in
theorem c_X5_breakWire (l : Launch) (G : gG) (S : Mem) {w : Nat} {x : Int32} (hx : x = nI w) (hw : w < 8) : mm_C l G yX5_breakWire cX5_breakWire 2 (none) (mm_rm 1 23) [.ref (gad G 7), .int x] S (mm_Qv G (fun S2 => S2 = mR S 8 (sp_brk (S 8) w))) := by
  refine mm_ofV (own := RX5) (by decide +kernel) rfl (Nat.le_of_ble_eq_true rfl) (ls0 := [(0, .ref (gad G 7)), (1, .int x)]) rfl ?_
  refine vv_aload_n (pc := 0) 0 dX5_breakWire_0 rfl rfl ?_
  refine vv_iload_n (pc := 1) 1 dX5_breakWire_1 rfl rfl ?_
  refine vv_iconst (pc := 2) (v := 5) dX5_breakWire_2 (by decide) ?_
  refine vv_iconst (pc := 3) (v := 1) dX5_breakWire_3 (by decide) ?_
  refine vc_Vv (pc := 4) (c_X5_book l G _ (by assumption) rfl (by assumption) (by decide) _) mw_M_X5_73 my_X5_book mm_rv_X5 ⟨by decide, by decide⟩ rfl rfl (Nat.le_of_ble_eq_true rfl) dX5_breakWire_4 (fun S4 h4 => ?_)
  refine vv_aload_n (pc := 7) 0 dX5_breakWire_7 rfl rfl ?_
  refine vv_iload_n (pc := 8) 1 dX5_breakWire_8 rfl rfl ?_
  refine vv_iconst (pc := 9) (v := 4) dX5_breakWire_9 (by decide) ?_
  refine vv_iconst (pc := 10) (v := 0) dX5_breakWire_10 (by decide) ?_
  refine vc_Vv (pc := 11) (c_X5_book l G _ (by assumption) rfl (by assumption) (by decide) _) mw_M_X5_73 my_X5_book mm_rv_X5 ⟨by decide, by decide⟩ rfl rfl (Nat.le_of_ble_eq_true rfl) dX5_breakWire_11 (fun S11 h11 => ?_)
  refine vv_aload_n (pc := 14) 0 dX5_breakWire_14 rfl rfl ?_
  refine vv_iload_n (pc := 15) 1 dX5_breakWire_15 rfl rfl ?_
  refine vv_bipush (pc := 16) (v := 6) dX5_breakWire_16 (by decide) ?_
  refine vv_aload_n (pc := 18) 0 dX5_breakWire_18 rfl rfl ?_
  refine vg_X5_now (pc := 19) mw_F_X5_7 dX5_breakWire_19 ?_
  refine vv_iconst (pc := 22) (v := 2) dX5_breakWire_22 (by decide) ?_
  refine vl_8 (pc := 23) (vp_in_nI (n := 2) (by decide) (by decide)) dX5_breakWire_23 ?_
  refine vc_Vv (pc := 24) (c_X5_book l G _ (by assumption) rfl (by assumption) (by decide) _) mw_M_X5_73 my_X5_book mm_rv_X5 ⟨by decide, by decide⟩ rfl rfl (Nat.le_of_ble_eq_true rfl) dX5_breakWire_24 (fun S24 h24 => ?_)
  refine vr_v (pc := 27) dX5_breakWire_27 ?_
  rw [h24, h11, h4]
  simp only [mR_s, mR_mR]
  rw [show (2 : Int32).toNatClampNeg = 2 from by decide, sp_up_lo _ _ _ _ (by decide), sp_up_lo _ _ _ _ (by decide)]
  rfl
set_option maxRecDepth 100000 in
set_option maxHeartbeats 4000000 in
theorem c_X5_wholeBy (l : Launch) (G : gG) (S : Mem) {C g : Nat} {x : Int32} (hC : C ≤ 8) (h3 : S 8 3 = nI C) (hg : (x = 0 ∧ g = 5) ∨ (x = 1 ∧ g = 10)) : mm_C l G yX5_wholeBy cX5_wholeBy 4 (some .int) (mm_rm 1 22) [.ref (gad G 7), .int x] S (mm_Qi G (fun r S2 => S2 = S ∧ r = msk (S 8) g C)) := by
  refine mm_ofV (own := RX5) (by decide +kernel) rfl (Nat.le_of_ble_eq_true rfl) (ls0 := [(0, .ref (gad G 7)), (1, .int x)]) rfl ?_
  refine vv_iconst (pc := 0) (v := 0) dX5_wholeBy_0 (by decide) ?_
  refine vv_topi (fun x2p1 e2p1 => ?_)
  refine vv_istore_n (pc := 1) (i := 2) (ls' := [(2, .int x2p1), (0, .ref (gad G 7)), (1, .int x)]) dX5_wholeBy_1 rfl (by decide) rfl ?_
  refine vv_iconst (pc := 2) (v := 0) dX5_wholeBy_2 (by decide) ?_
  refine vv_topi (fun x3p3 e3p3 => ?_)
  refine vv_istore_n (pc := 3) (i := 3) (ls' := [(3, .int x3p3), (2, .int x2p1), (0, .ref (gad G 7)), (1, .int x)]) dX5_wholeBy_3 rfl (by decide) rfl ?_
  have lp4 : ∀ (n : Nat) (k : Nat) (x2 x3 : Int32), 9 ≤ n + k → k ≤ C → x3 = nI k → x2 = msk (S 8) g k → mm_V l G RX5 cX5_wholeBy 4 (some .int) (mm_rm 1 22) 0 0 (fun _ => True) (fun _ => mm_F G) (mm_Qf G (mm_Qi G (fun r S2 => S2 = S ∧ r = msk (S 8) g C))) S 4 [(0, .ref (gad G 7)), (1, .int x), (2, .int x2), (3, .int x3)] [] := by
    intro n
    induction n with
    | zero =>
      intro k x2 x3 hn hkl e3 e2
      exact absurd hn (by omega)
    | succ n ih =>
      intro k x2 x3 hn hkl e3 e2
      refine vv_iload_n (pc := 4) 3 dX5_wholeBy_4 rfl rfl ?_
      refine vv_aload_n (pc := 5) 0 dX5_wholeBy_5 rfl rfl ?_
      refine vg_X5_now (pc := 6) mw_F_X5_7 dX5_wholeBy_6 ?_
      refine vv_iconst (pc := 9) (v := 3) dX5_wholeBy_9 (by decide) ?_
      refine vl_8 (pc := 10) (vp_in_nI (n := 3) (by decide) (by decide)) dX5_wholeBy_10 ?_
      rw [show S 8 (Int32.toNatClampNeg 3) = nI C from h3]
      refine vv_icmp_ge (pc := 11) (tgt := 48) dX5_wholeBy_11 (by decide) (fun c11 => ?_) (fun c11 => ?_)
      -- t@11 path L4t
      · refine vv_iload_n (pc := 48) 2 dX5_wholeBy_48 rfl rfl ?_
        refine vr_i (pc := 49) dX5_wholeBy_49 ?_
        have hkC := sp_geN (by omega) hkl e3 c11
        subst hkC
        exact ⟨rfl, e2⟩
      -- f@11 path L4f
      · have hkC : k < C := sp_ltN (by omega) hkl e3 c11
        have hk8 : k < 8 := by omega
        refine vv_iload_n (pc := 14) 2 dX5_wholeBy_14 rfl rfl ?_
        refine vv_aload_n (pc := 15) 0 dX5_wholeBy_15 rfl rfl ?_
        refine vv_iload_n (pc := 16) 3 dX5_wholeBy_16 rfl rfl ?_
        refine vv_iload_n (pc := 17) 1 dX5_wholeBy_17 rfl rfl ?_
        refine vv_if_ne (pc := 18) (tgt := 25) dX5_wholeBy_18 (by decide) (fun c18 => ?_) (fun c18 => ?_)
        -- t@18 path L4ft
        · obtain ⟨hx0, rfl⟩ : x = 1 ∧ g = 10 := by rcases hg with h | h; exact absurd h.1 c18; exact h
          refine vv_bipush (pc := 25) (v := 10) dX5_wholeBy_25 (by decide) ?_
          refine vc_Vi (pc := 27) (c_X5_of l G _ (by assumption) rfl (by assumption) (by decide)) mw_M_X5_47 my_X5_of mm_rv_X5 ⟨by decide, by decide⟩ rfl rfl (Nat.le_of_ble_eq_true rfl) dX5_wholeBy_27 (fun r27 S27 h27 => ?_)
          obtain ⟨qS27, h27⟩ := h27
          replace qS27 := qS27.symm
          subst qS27
          refine vv_if_ne (pc := 30) (tgt := 39) dX5_wholeBy_30 (by decide) (fun c30 => ?_) (fun c30 => ?_)
          -- t@30 path L4ftt
          · have hf0 := fun h => c30 (h27.trans h)
            refine vv_iconst (pc := 39) (v := 0) dX5_wholeBy_39 (by decide) ?_
            refine vv_ior (pc := 40) dX5_wholeBy_40 ?_
            refine vv_topi (fun x2p41 e2p41 => ?_)
            refine vv_istore_n (pc := 41) (i := 2) (ls' := [(2, .int x2p41), (0, .ref (gad G 7)), (1, .int x), (3, .int x3)]) dX5_wholeBy_41 rfl (by decide) rfl ?_
            obtain ⟨x3p42, e3p42⟩ : ∃ y : Int32, y = x3 + 1 := ⟨_, rfl⟩
            refine vv_iinc (pc := 42) (q := 3) (v := x3p42) (ls' := [(3, .int x3p42), (2, .int x2p41), (0, .ref (gad G 7)), (1, .int x)]) dX5_wholeBy_42 rfl (by rw [e3p42]; rfl) (by decide) rfl ?_
            refine vv_goto (pc := 45) (tgt := 4) dX5_wholeBy_45 (by decide) ?_
            refine vv_sub [2, 3, 1, 0] (ls' := [(0, _), (1, _), (2, _), (3, _)]) rfl ?_
            exact ih (k + 1) x2p41 x3p42 (by omega) (by omega) (by rw [e3p42, e3, nI_1]) (by rw [e2p41, e2, msk]; first | rw [if_pos hf0, e3] | rw [if_neg hf0])
          -- f@30 path L4ftf
          · have hf0 := h27.symm.trans c30
            refine vv_iconst (pc := 33) (v := 1) dX5_wholeBy_33 (by decide) ?_
            refine vv_iload_n (pc := 34) 3 dX5_wholeBy_34 rfl rfl ?_
            refine vv_ishl (pc := 35) dX5_wholeBy_35 ?_
            refine vv_goto (pc := 36) (tgt := 40) dX5_wholeBy_36 (by decide) ?_
            refine vv_ior (pc := 40) dX5_wholeBy_40 ?_
            refine vv_topi (fun x2p41 e2p41 => ?_)
            refine vv_istore_n (pc := 41) (i := 2) (ls' := [(2, .int x2p41), (0, .ref (gad G 7)), (1, .int x), (3, .int x3)]) dX5_wholeBy_41 rfl (by decide) rfl ?_
            obtain ⟨x3p42, e3p42⟩ : ∃ y : Int32, y = x3 + 1 := ⟨_, rfl⟩
            refine vv_iinc (pc := 42) (q := 3) (v := x3p42) (ls' := [(3, .int x3p42), (2, .int x2p41), (0, .ref (gad G 7)), (1, .int x)]) dX5_wholeBy_42 rfl (by rw [e3p42]; rfl) (by decide) rfl ?_
            refine vv_goto (pc := 45) (tgt := 4) dX5_wholeBy_45 (by decide) ?_
            refine vv_sub [2, 3, 1, 0] (ls' := [(0, _), (1, _), (2, _), (3, _)]) rfl ?_
            exact ih (k + 1) x2p41 x3p42 (by omega) (by omega) (by rw [e3p42, e3, nI_1]) (by rw [e2p41, e2, msk]; first | rw [if_pos hf0, e3] | rw [if_neg hf0])
        -- f@18 path L4ff
        · obtain ⟨hx0, rfl⟩ : x = 0 ∧ g = 5 := by rcases hg with h | h; exact h; exact absurd (h.1.symm.trans c18) (by decide)
          refine vv_iconst (pc := 21) (v := 5) dX5_wholeBy_21 (by decide) ?_
          refine vv_goto (pc := 22) (tgt := 27) dX5_wholeBy_22 (by decide) ?_
          refine vc_Vi (pc := 27) (c_X5_of l G _ (by assumption) rfl (by assumption) (by decide)) mw_M_X5_47 my_X5_of mm_rv_X5 ⟨by decide, by decide⟩ rfl rfl (Nat.le_of_ble_eq_true rfl) dX5_wholeBy_27 (fun r27 S27 h27 => ?_)
          obtain ⟨qS27, h27⟩ := h27
          replace qS27 := qS27.symm
          subst qS27
          refine vv_if_ne (pc := 30) (tgt := 39) dX5_wholeBy_30 (by decide) (fun c30 => ?_) (fun c30 => ?_)
          -- t@30 path L4fft
          · have hf0 := fun h => c30 (h27.trans h)
            refine vv_iconst (pc := 39) (v := 0) dX5_wholeBy_39 (by decide) ?_
            refine vv_ior (pc := 40) dX5_wholeBy_40 ?_
            refine vv_topi (fun x2p41 e2p41 => ?_)
            refine vv_istore_n (pc := 41) (i := 2) (ls' := [(2, .int x2p41), (0, .ref (gad G 7)), (1, .int x), (3, .int x3)]) dX5_wholeBy_41 rfl (by decide) rfl ?_
            obtain ⟨x3p42, e3p42⟩ : ∃ y : Int32, y = x3 + 1 := ⟨_, rfl⟩
            refine vv_iinc (pc := 42) (q := 3) (v := x3p42) (ls' := [(3, .int x3p42), (2, .int x2p41), (0, .ref (gad G 7)), (1, .int x)]) dX5_wholeBy_42 rfl (by rw [e3p42]; rfl) (by decide) rfl ?_
            refine vv_goto (pc := 45) (tgt := 4) dX5_wholeBy_45 (by decide) ?_
            refine vv_sub [2, 3, 1, 0] (ls' := [(0, _), (1, _), (2, _), (3, _)]) rfl ?_
            exact ih (k + 1) x2p41 x3p42 (by omega) (by omega) (by rw [e3p42, e3, nI_1]) (by rw [e2p41, e2, msk]; first | rw [if_pos hf0, e3] | rw [if_neg hf0])
          -- f@30 path L4fff
          · have hf0 := h27.symm.trans c30
            refine vv_iconst (pc := 33) (v := 1) dX5_wholeBy_33 (by decide) ?_
            refine vv_iload_n (pc := 34) 3 dX5_wholeBy_34 rfl rfl ?_
            refine vv_ishl (pc := 35) dX5_wholeBy_35 ?_
            refine vv_goto (pc := 36) (tgt := 40) dX5_wholeBy_36 (by decide) ?_
            refine vv_ior (pc := 40) dX5_wholeBy_40 ?_
            refine vv_topi (fun x2p41 e2p41 => ?_)
            refine vv_istore_n (pc := 41) (i := 2) (ls' := [(2, .int x2p41), (0, .ref (gad G 7)), (1, .int x), (3, .int x3)]) dX5_wholeBy_41 rfl (by decide) rfl ?_
            obtain ⟨x3p42, e3p42⟩ : ∃ y : Int32, y = x3 + 1 := ⟨_, rfl⟩
            refine vv_iinc (pc := 42) (q := 3) (v := x3p42) (ls' := [(3, .int x3p42), (2, .int x2p41), (0, .ref (gad G 7)), (1, .int x)]) dX5_wholeBy_42 rfl (by rw [e3p42]; rfl) (by decide) rfl ?_
            refine vv_goto (pc := 45) (tgt := 4) dX5_wholeBy_45 (by decide) ?_
            refine vv_sub [2, 3, 1, 0] (ls' := [(0, _), (1, _), (2, _), (3, _)]) rfl ?_
            exact ih (k + 1) x2p41 x3p42 (by omega) (by omega) (by rw [e3p42, e3, nI_1]) (by rw [e2p41, e2, msk]; first | rw [if_pos hf0, e3] | rw [if_neg hf0])
  refine vv_sub [2, 3, 1, 0] (ls' := [(0, _), (1, _), (2, _), (3, _)]) rfl ?_
  exact lp4 9 0 x2p1 x3p3 (by omega) (Nat.zero_le _) e3p3 e2p1
