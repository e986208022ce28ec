theorem sp_lo_low (C : Nat) (z : Nat → Int32) {i : Nat} (hi : i < 30) : sp_lo C z i = z i := by
  unfold sp_lo
  rw [if_neg (by omega)]
theorem sp_lo_f (C : Nat) (z : Nat → Int32) {k f : Nat} (hf : f < 14) : sp_f (sp_lo C z) k f = if k < C ∧ (f = 4 ∨ f = 8 ∨ f = 9) then sp_lz (sp_f z k f) (z 0) else sp_f z k f := by
  unfold sp_f sp_lo
  have e1 : (30 + 14 * k + f - 30) / 14 = k := by omega
  have e2 : (30 + 14 * k + f - 30) % 14 = f := by omega
  rw [e1, e2]
  by_cases h : k < C ∧ (f = 4 ∨ f = 8 ∨ f = 9)
  · rw [if_pos h, if_pos ⟨by omega, h⟩]
  · rw [if_neg h, if_neg (fun g => h g.2)]
theorem i32_add {a b : Int32} (h1 : -2147483648 ≤ a.toInt + b.toInt) (h2 : a.toInt + b.toInt < 2147483648) : (a + b).toInt = a.toInt + b.toInt := by
  rw [Int32.toInt_add, Int.bmod_eq_of_le (by omega) (by omega)]
theorem i32_sub {a b : Int32} (h1 : -2147483648 ≤ a.toInt - b.toInt) (h2 : a.toInt - b.toInt < 2147483648) : (a - b).toInt = a.toInt - b.toInt := by
  rw [Int32.toInt_sub, Int.bmod_eq_of_le (by omega) (by omega)]
theorem i32_mul {a b : Int32} (h1 : -2147483648 ≤ a.toInt * b.toInt) (h2 : a.toInt * b.toInt < 2147483648) : (a * b).toInt = a.toInt * b.toInt := by
  rw [Int32.toInt_mul, Int.bmod_eq_of_le (by omega) (by omega)]
theorem sp_crept_N {t c : Nat} (ht : t ≤ 50000) (hc : c ≤ 100) : sp_crept (nI t) (nI c) = nI (t - (t * c + 999) / 1000) ∧ (t * c + 999) / 1000 ≤ t := by
  have h1 : t * c ≤ t * 100 := Nat.mul_le_mul_left t hc
  have h2 : (t * c + 999) / 1000 ≤ t := by omega
  refine ⟨?_, h2⟩
  unfold sp_crept
  rw [pk_mul]
  show nI t - (nI (t * c) + nI 999) / nI 1000 = _
  rw [nI_add, pk_div (by omega) (by decide) (by decide), pk_sub h2]
theorem sp_crept_rng {t c : Int32} (h1 : 0 ≤ t.toInt) (h2 : t.toInt ≤ 50000) (h3 : 0 ≤ c.toInt) (h4 : c.toInt ≤ 100) : 0 ≤ (sp_crept t c).toInt ∧ (sp_crept t c).toInt ≤ t.toInt := by
  have e1 := sp_cl h1
  have e2 := sp_cl h3
  have h := sp_crept_N (t := t.toNatClampNeg) (c := c.toNatClampNeg) (by omega) (by omega)
  rw [← sp_nI h1, ← sp_nI h3] at h
  rw [h.1, nI_toInt (by omega)]
  omega
theorem sp_crept_0 (c : Int32) : sp_crept 0 c = 0 := by
  unfold sp_crept
  rw [Int32.zero_mul]
  decide
theorem sp_lz_pos {t c : Int32} (h1 : 0 ≤ t.toInt) : sp_lz t c = sp_crept t c := by
  unfold sp_lz
  rw [if_neg (by rw [Int32.lt_iff_toInt_lt]; have : (0 : Int32).toInt = 0 := (by decide); omega)]
theorem sp_lo_ww {C : Nat} {z : Nat → Int32} {k : Nat} (hk : k < C) (h : sp_ww z k) (h0 : 0 ≤ (z 0).toInt ∧ (z 0).toInt ≤ 100) : sp_ww (sp_lo C z) k := by
  unfold sp_ww at h ⊢
  obtain ⟨a1, a2, a3, a4, a5, a6, a7, a8, a9, a10, a11, a12, a13, a14, a15⟩ := h
  rw [sp_lo_f C z (show 0 < 14 by decide), sp_lo_f C z (show 1 < 14 by decide), sp_lo_f C z (show 2 < 14 by decide), sp_lo_f C z (show 3 < 14 by decide), sp_lo_f C z (show 4 < 14 by decide), sp_lo_f C z (show 5 < 14 by decide), sp_lo_f C z (show 7 < 14 by decide), sp_lo_f C z (show 8 < 14 by decide), sp_lo_f C z (show 9 < 14 by decide), sp_lo_f C z (show 10 < 14 by decide)]
  have c4 := sp_crept_rng a9 a10 h0.1 h0.2
  simp only [hk, true_and, true_or, or_true, if_true, show (0 : Nat) = 4 ↔ False by decide, show (0 : Nat) = 8 ↔ False by decide, show (0 : Nat) = 9 ↔ False by decide, show (1 : Nat) = 4 ↔ False by decide, show (1 : Nat) = 8 ↔ False by decide, show (1 : Nat) = 9 ↔ False by decide, show (2 : Nat) = 4 ↔ False by decide, show (2 : Nat) = 8 ↔ False by decide, show (2 : Nat) = 9 ↔ False by decide, show (3 : Nat) = 4 ↔ False by decide, show (3 : Nat) = 8 ↔ False by decide, show (3 : Nat) = 9 ↔ False by decide, show (5 : Nat) = 4 ↔ False by decide, show (5 : Nat) = 8 ↔ False by decide, show (5 : Nat) = 9 ↔ False by decide, show (7 : Nat) = 4 ↔ False by decide, show (7 : Nat) = 8 ↔ False by decide, show (7 : Nat) = 9 ↔ False by decide, show (10 : Nat) = 4 ↔ False by decide, show (10 : Nat) = 8 ↔ False by decide, show (10 : Nat) = 9 ↔ False by decide, or_false, if_false]
  rw [sp_lz_pos a9]
  refine ⟨a1, a2, a3, a4, a5, a6, a7, a8, c4.1, by omega, a11, a12, fun q => by rw [a13 q]; exact sp_crept_0 _, fun q => ?_, ?_⟩
  · obtain ⟨q1, q2, q3, q4⟩ := a14 q
    refine ⟨q1, ?_, ?_, q4⟩
    · rw [q2, sp_lz_pos (by decide)]; exact sp_crept_0 _
    · rw [q3, sp_lz_pos (by decide)]; exact sp_crept_0 _
  · rcases a15 with ⟨q1, q2, q3⟩ | ⟨q1, q2, q3, q4, q5⟩
    · refine Or.inl ⟨q1, ?_, ?_⟩
      · rw [q2]; unfold sp_lz; rw [if_pos (by decide)]
      · rw [q3]; unfold sp_lz; rw [if_pos (by decide)]
    · have c8 := sp_crept_rng q2 q3 h0.1 h0.2
      have c9 := sp_crept_rng q4 q5 h0.1 h0.2
      rw [sp_lz_pos q2, sp_lz_pos q4]
      exact Or.inr ⟨q1, c8.1, by omega, c9.1, by omega⟩
theorem sp_lo_0 (C : Nat) (z : Nat → Int32) (k : Nat) {f : Nat} (hf : f < 14) (h4 : f ≠ 4) (h8 : f ≠ 8) (h9 : f ≠ 9) : sp_f (sp_lo C z) k f = sp_f z k f := by
  rw [sp_lo_f C z hf, if_neg (by omega)]
theorem sp_lo_wf {C : Nat} {z : Nat → Int32} (h : sp_wf C z) : sp_wf C (sp_lo C z) := by
  obtain ⟨h1, h2, h3, h4, h5, h6, h7, h8⟩ := h
  refine ⟨sp_up_ws h1 (sp_lo_low C z (by decide)) (fun k _ => sp_lo_0 C z k (by decide) (by decide) (by decide) (by decide)), fun k hk => sp_lo_ww hk (h2 k hk) h5, fun p hp => by rw [sp_lo_low C z (by omega)]; exact h3 p hp, by rw [sp_lo_low C z (by decide)]; exact h4, by rw [sp_lo_low C z (by decide)]; exact h5, by rw [sp_lo_low C z (by decide)]; exact h6, by rw [sp_lo_low C z (by decide)]; exact h7, fun k f hk hk8 hf => ?_⟩
  rw [sp_lo_f C z hf, if_neg (by omega)]
  exact h8 k f hk hk8 hf
theorem sp_bs_congr {C : Nat} {z z' : Nat → Int32} (hC : C ≤ 8) (h : ∀ k, k < C → sp_f z' k 0 = sp_f z k 0 ∧ sp_f z' k 5 = sp_f z k 5 ∧ sp_f z' k 3 = sp_f z k 3) (hl : ∀ p, p < 20 → z' (10 + p) = z (10 + p)) : ∀ c, c ≤ C → sp_bs z' C c = sp_bs z C c
  | 0, _ => rfl
  | c + 1, hc => by
    have e : sp_ov z' C c = sp_ov z C c := by
      unfold sp_ov
      rw [(h c (by omega)).2.1, (h c (by omega)).2.2, sp_tk_congr hC (fun k hk => ⟨(h k hk).1, by rw [(h k hk).2.1]⟩) hl]
    unfold sp_bs
    rw [sp_bs_congr hC h hl c (by omega), e]
theorem sp_bu_congr {C : Nat} {z z' : Nat → Int32} (hC : C ≤ 8) (h : ∀ k, k < C → sp_f z' k 0 = sp_f z k 0 ∧ sp_f z' k 5 = sp_f z k 5 ∧ sp_f z' k 3 = sp_f z k 3) (hl : ∀ p, p < 20 → z' (10 + p) = z (10 + p)) : sp_bu z' C = sp_bu z C := by
  unfold sp_bu
  rw [sp_bs_congr hC h hl C (Nat.le_refl C)]
theorem sp_lo_bu {C : Nat} {z : Nat → Int32} (hC : C ≤ 8) : sp_bu (sp_lo C z) C = sp_bu z C :=
  sp_bu_congr hC (fun k _ => ⟨sp_lo_0 C z k (by decide) (by decide) (by decide) (by decide), sp_lo_0 C z k (by decide) (by decide) (by decide) (by decide), sp_lo_0 C z k (by decide) (by decide) (by decide) (by decide)⟩) (fun p hp => sp_lo_low C z (by omega))
theorem sp_stl_calm {C : Nat} {z : Nat → Int32} (h : sp_bu z C = 99) : ∀ k, sp_stl C k z = z
  | 0 => rfl
  | k + 1 => by unfold sp_stl; rw [if_pos h]
theorem sp_sto_calm {C : Nat} {z : Nat → Int32} (h : sp_bu z C = 99) (m : Int32) : ∀ k, sp_sto C k z m = m
  | 0 => rfl
  | k + 1 => by unfold sp_sto; rw [if_pos h]
theorem sp_day_wf {C : Nat} {z : Nat → Int32} (h : sp_wf C z) (h2 : (z 2).toInt < 2147483647) : sp_wf C (sp_day C z) := by
  have h1 := sp_lo_wf h
  have hd : (z 2 + 1).toInt = (z 2).toInt + 1 := by
    have e1 : (1 : Int32).toInt = 1 := (by decide)
    have e2 := h.2.2.2.2.2.2.1
    rw [i32_add (by omega) (by omega), e1]
  unfold sp_day
  refine sp_wf_low h1 (fun k f => sp_f_upd _ (by decide) _ k f) (upd_n _ _ (by decide)) (fun p hp => by rw [upd_n _ _ (by omega)]; exact h1.2.2.1 p hp) (by rw [upd_n _ _ (by decide)]; exact h1.2.2.2.1) (by rw [upd_n _ _ (by decide)]; exact h1.2.2.2.2.1) (by rw [upd_n _ _ (by decide)]; exact h1.2.2.2.2.2.1) ?_
  rw [upd_s, hd]
  have := h.2.2.2.2.2.2.1
  omega
theorem sp_day_bu {C : Nat} {z : Nat → Int32} (hC : C ≤ 8) : sp_bu (sp_day C z) C = sp_bu z C := by
  rw [← sp_lo_bu hC (z := z)]
  exact sp_bu_congr hC (fun k _ => ⟨sp_f_upd _ (by decide) _ k _, sp_f_upd _ (by decide) _ k _, sp_f_upd _ (by decide) _ k _⟩) (fun p hp => upd_n _ _ (by omega))
theorem sp_day_2 {C : Nat} {z : Nat → Int32} (h0 : 0 ≤ (z 2).toInt) (h2 : (z 2).toInt < 2147483647) : (sp_day C z 2).toInt = (z 2).toInt + 1 := by
  unfold sp_day
  rw [upd_s]
  have e1 : (1 : Int32).toInt = 1 := (by decide)
  rw [i32_add (by omega) (by omega), e1]
/-- one wire loosens -/
theorem rb_loose {C b w : Nat} {S : Mem} {z : Nat → Int32} {c : Int32} (h : rb C S b (sp_lo w z)) (hC : C ≤ 8) (hw : w < C) (hww : sp_ww z w) (hc : c = z 0) : rb C (mm_wr (mm_wr (mm_wr S (mm_W b w) 4 (sp_crept (S (mm_W b w) 4) c)) (mm_W b w) 9 (sp_crept (S (mm_W b w) 9) c)) (mm_W b w) 10 (sp_crept (S (mm_W b w) 10) c)) b (sp_lo (w + 1) z) := by
  obtain ⟨a1, a2, a3, a4, a5, a6, a7, a8, a9, a10, a11⟩ := h.2.2.2.2.2.2.2.2 w hw
  have e0 : ∀ f, f < 14 → sp_f (sp_lo w z) w f = sp_f z w f := fun f hf => by rw [sp_lo_f w z hf, if_neg (by omega)]
  have e1 : ∀ f, f < 14 → f ≠ 4 → f ≠ 8 → f ≠ 9 → sp_f (sp_lo (w + 1) z) w f = sp_f z w f := fun f hf h4 h8 h9 => sp_lo_0 (w + 1) z w hf h4 h8 h9
  have e2 : ∀ f, f < 14 → (f = 4 ∨ f = 8 ∨ f = 9) → sp_f (sp_lo (w + 1) z) w f = sp_lz (sp_f z w f) (z 0) := fun f hf h4 => by rw [sp_lo_f (w + 1) z hf, if_pos ⟨by omega, h4⟩]
  have p4 := hww.2.2.2.2.2.2.2.2.1
  have p15 := hww.2.2.2.2.2.2.2.2.2.2.2.2.2.2
  unfold sp_lw at a9 a10
  simp only [e0 0 (by decide), e0 1 (by decide), e0 2 (by decide), e0 3 (by decide), e0 4 (by decide), e0 5 (by decide), e0 6 (by decide), e0 7 (by decide), e0 8 (by decide), e0 9 (by decide), e0 10 (by decide)] at a1 a2 a3 a4 a5 a6 a7 a8 a9 a10 a11
  refine rb_wire h hC hw (fun j hj => mm_wr3_o j hj) (fun i hi => by rw [sp_lo_low _ _ hi, sp_lo_low _ _ hi]) (fun i f hi hf => ?_) (by rw [e1 0 (by decide) (by decide) (by decide) (by decide), e0 0 (by decide)]) ?_
  · rw [sp_lo_f _ z hf, sp_lo_f _ z hf]
    by_cases g : i < w
    · have g2 : i < w + 1 := by omega
      simp only [g, g2]
    · have g2 : ¬ i < w + 1 := by omega
      simp only [g, g2]
  · unfold sp_lw
    rw [e1 0 (by decide) (by decide) (by decide) (by decide), e1 1 (by decide) (by decide) (by decide) (by decide), e1 2 (by decide) (by decide) (by decide) (by decide), e1 3 (by decide) (by decide) (by decide) (by decide), e1 5 (by decide) (by decide) (by decide) (by decide), e1 6 (by decide) (by decide) (by decide) (by decide), e1 7 (by decide) (by decide) (by decide) (by decide), e1 10 (by decide) (by decide) (by decide) (by decide), e2 4 (by decide) (by decide), e2 8 (by decide) (by decide), e2 9 (by decide) (by decide), sp_lz_pos p4]
    simp only [mm_wr_eq]
    have f9 : sp_crept (S (mm_W b w) 9) c = if sp_f z w 7 = -6 then 0 else sp_lz (sp_f z w 8) (z 0) := by
      rw [a9]
      by_cases g : sp_f z w 7 = -6
      · rw [if_pos g, if_pos g, sp_crept_0]
      · rw [if_neg g, if_neg g, hc]
        rcases p15 with q | q
        · exact absurd q.1 g
        · rw [sp_lz_pos q.2.1]
    have f10 : sp_crept (S (mm_W b w) 10) c = if sp_f z w 7 = -6 then 0 else sp_lz (sp_f z w 9) (z 0) := by
      rw [a10]
      by_cases g : sp_f z w 7 = -6
      · rw [if_pos g, if_pos g, sp_crept_0]
      · rw [if_neg g, if_neg g, hc]
        rcases p15 with q | q
        · exact absurd q.1 g
        · rw [sp_lz_pos q.2.2.2.1]
    rw [← f9, ← f10]
    simp [a1, a2, a3, a4, a5, a6, a7, a8, a11, hc]
theorem sp_lo_z (z : Nat → Int32) : sp_lo 0 z = z := by
  funext i
  unfold sp_lo
  rw [if_neg (fun h => absurd h.2.1 (Nat.not_lt_zero _))]
/-- the bridge as the listener believes it: broken are those that were heard to be -/
def sp_hd (C : Nat) (z : Nat → Int32) : Nat → Int32 := fun i => if 30 ≤ i ∧ (i - 30) / 14 < C ∧ (i - 30) % 14 = 5 then z (i + 5) else z i
theorem sp_hd_low (C : Nat) (z : Nat → Int32) {i : Nat} (hi : i < 30) : sp_hd C z i = z i := by
  unfold sp_hd
  rw [if_neg (by omega)]
theorem sp_hd_f (C : Nat) (z : Nat → Int32) {k f : Nat} (hf : f < 14) : sp_f (sp_hd C z) k f = if k < C ∧ f = 5 then sp_f z k 10 else sp_f z k f := by
  unfold sp_f sp_hd
  have e1 : (30 + 14 * k + f - 30) / 14 = k := by omega
  have e2 : (30 + 14 * k + f - 30) % 14 = f := by omega
  rw [e1, e2]
  by_cases h : k < C ∧ f = 5
  · rw [if_pos h, if_pos ⟨by omega, h⟩, show 30 + 14 * k + f + 5 = 30 + 14 * k + 10 by omega]
  · rw [if_neg h, if_neg (fun g => h g.2)]
theorem sp_hd_z (z : Nat → Int32) : sp_hd 0 z = z := by
  funext i
  unfold sp_hd
  rw [if_neg (fun h => absurd h.2.1 (Nat.not_lt_zero _))]
theorem sp_hd_ws {C q : Nat} {z : Nat → Int32} (h : sp_ws C z) : sp_ws C (sp_hd q z) := sp_up_ws h (sp_hd_low q z (by decide)) (fun k _ => by rw [sp_hd_f q z (by decide), if_neg (by omega)])
theorem sp_hd_wf {C : Nat} {z : Nat → Int32} (h : sp_wf C z) : sp_wf C (sp_hd C z) := by
  obtain ⟨h1, h2, h3, h4, h5, h6, h7, h8⟩ := h
  refine ⟨sp_hd_ws h1, fun k hk => ?_, fun p hp => by rw [sp_hd_low C z (by omega)]; exact h3 p hp, by rw [sp_hd_low C z (by decide)]; exact h4, by rw [sp_hd_low C z (by decide)]; exact h5, by rw [sp_hd_low C z (by decide)]; exact h6, by rw [sp_hd_low C z (by decide)]; exact h7, fun k f hk hk8 hf => ?_⟩
  · have e : ∀ f, f < 14 → f ≠ 5 → sp_f (sp_hd C z) k f = sp_f z k f := fun f hf h5 => by rw [sp_hd_f C z hf, if_neg (fun g => h5 g.2)]
    have e5 : sp_f (sp_hd C z) k 5 = sp_f z k 10 := by rw [sp_hd_f C z (by decide), if_pos ⟨hk, rfl⟩]
    have g := h2 k hk
    unfold sp_ww at g ⊢
    rw [e 0 (by decide) (by decide), e 1 (by decide) (by decide), e 2 (by decide) (by decide), e 3 (by decide) (by decide), e 4 (by decide) (by decide), e5, e 7 (by decide) (by decide), e 8 (by decide) (by decide), e 9 (by decide) (by decide), e 10 (by decide) (by decide)]
    obtain ⟨a1, a2, a3, a4, a5, a6, a7, a8, a9, a10, a11, a12, a13, a14, a15⟩ := g
    exact ⟨a1, a2, a3, a4, a5, a6, a7, a8, a9, a10, a12, a12, fun q => a13 (a14 q).1, fun q => ⟨q, (a14 q).2⟩, a15⟩
  · rw [sp_hd_f C z hf, if_neg (by omega)]
    exact h8 k f hk hk8 hf
theorem sp_hd_tk {C : Nat} {z : Nat → Int32} {w : Nat} (hC : C ≤ 8) : sp_tk (sp_hd C z) 5 C w = sp_tk z 10 C w :=
  sp_tk_congr hC (fun k hk => ⟨by rw [sp_hd_f C z (by decide), if_neg (by omega)], by rw [sp_hd_f C z (by decide), if_pos ⟨hk, rfl⟩]⟩) (fun p hp => sp_hd_low C z (by omega))
theorem rb_heard {C b w : Nat} {S : Mem} {z : Nat → Int32} (h : rb C S b (sp_hd w z)) (hC : C ≤ 8) (hw : w < C) : rb C (mm_wr S (mm_W b w) 6 (S (mm_W b w) 11)) b (sp_hd (w + 1) z) := by
  obtain ⟨a1, a2, a3, a4, a5, a6, a7, a8, a9, a10, a11⟩ := h.2.2.2.2.2.2.2.2 w hw
  have e0 : ∀ f, f < 14 → sp_f (sp_hd w z) w f = sp_f z w f := fun f hf => by rw [sp_hd_f w z hf, if_neg (by omega)]
  have e1 : ∀ f, f < 14 → f ≠ 5 → sp_f (sp_hd (w + 1) z) w f = sp_f z w f := fun f hf h5 => by rw [sp_hd_f (w + 1) z hf, if_neg (by omega)]
  have e5 : sp_f (sp_hd (w + 1) z) w 5 = sp_f z w 10 := by rw [sp_hd_f (w + 1) z (by decide), if_pos ⟨by omega, rfl⟩]
  unfold sp_lw at a9 a10
  simp only [e0 0 (by decide), e0 1 (by decide), e0 2 (by decide), e0 3 (by decide), e0 4 (by decide), e0 6 (by decide), e0 7 (by decide), e0 8 (by decide), e0 9 (by decide), e0 10 (by decide)] at a1 a2 a3 a4 a5 a7 a8 a9 a10 a11
  refine rb_wire h hC hw (fun j hj => mm_wr_orow S _ hj) (fun i hi => by rw [sp_hd_low _ _ hi, sp_hd_low _ _ hi]) (fun i f hi hf => ?_) (by rw [e1 0 (by decide) (by decide), e0 0 (by decide)]) ?_
  · rw [sp_hd_f _ z hf, sp_hd_f _ z hf]
    by_cases g : i < w
    · have g2 : i < w + 1 := by omega
      simp only [g, g2]
    · have g2 : ¬ i < w + 1 := by omega
      simp only [g, g2]
  · unfold sp_lw
    rw [e1 0 (by decide) (by decide), e1 1 (by decide) (by decide), e1 2 (by decide) (by decide), e1 3 (by decide) (by decide), e1 4 (by decide) (by decide), e5, e1 6 (by decide) (by decide), e1 7 (by decide) (by decide), e1 8 (by decide) (by decide), e1 9 (by decide) (by decide), e1 10 (by decide) (by decide)]
    simp only [mm_wr_eq]
    simp [a1, a2, a3, a4, a5, a7, a8, a9, a10, a11]
