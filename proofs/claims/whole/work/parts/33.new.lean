theorem sp_new_low (C : Nat) (z : Nat → Int32) (a b c d e : Int32) {i : Nat} (hi : i < 30) : sp_new C z a b c d e i = if i = 3 then nI (C + 1) else z i := by
  unfold sp_new
  simp only [sp_up_lo _ _ _ _ hi]
  rfl
theorem sp_new_f (C : Nat) (z : Nat → Int32) (a b c d e : Int32) {k f : Nat} (hf : f < 14) : sp_f (sp_new C z a b c d e) k f = if k = C ∧ f = 9 then -6 else if k = C ∧ f = 8 then -6 else if k = C ∧ f = 7 then -6 else if k = C ∧ f = 6 then -6 else if k = C ∧ f = 4 then e else if k = C ∧ f = 3 then d else if k = C ∧ f = 2 then c else if k = C ∧ f = 1 then b else if k = C ∧ f = 0 then a else sp_f z k f := by
  unfold sp_new
  rw [sp_up_f _ _ (by decide) hf, sp_up_f _ _ (by decide) hf, sp_up_f _ _ (by decide) hf, sp_up_f _ _ (by decide) hf, sp_up_f _ _ (by decide) hf, sp_up_f _ _ (by decide) hf, sp_up_f _ _ (by decide) hf, sp_up_f _ _ (by decide) hf, sp_up_f _ _ (by decide) hf, sp_f_upd z (by decide)]
theorem sp_new_o (C : Nat) (z : Nat → Int32) (a b c d e : Int32) {k f : Nat} (hf : f < 14) (hk : k ≠ C) : sp_f (sp_new C z a b c d e) k f = sp_f z k f := by
  rw [sp_new_f C z a b c d e hf]
  simp [hk]
theorem sp_new_ws {C : Nat} {z : Nat → Int32} {a b c d e : Int32} (h : sp_ws C z) (hC : C < 8) (ha : 0 ≤ a.toInt ∧ a.toInt < 20) (hn : sp_wa z a.toNatClampNeg C = -1) : sp_ws (C + 1) (sp_new C z a b c d e) := by
  have e0 : sp_f (sp_new C z a b c d e) C 0 = a := by rw [sp_new_f C z a b c d e (by decide)]; simp
  have eC : sp_at (sp_new C z a b c d e) C = a.toNatClampNeg := by unfold sp_at; rw [e0]
  have eo : ∀ k, k ≠ C → sp_at (sp_new C z a b c d e) k = sp_at z k := fun k hk => by unfold sp_at; rw [sp_new_o C z a b c d e (by decide) hk]
  have hl := sp_cl ha.1
  have hnw : ∀ k, k < C → sp_at z k ≠ a.toNatClampNeg := by
    rcases sp_wa_spec (n := z) a.toNatClampNeg C (Nat.le_refl _) with ⟨-, g⟩ | ⟨k, g1, g2, g3⟩
    · exact g
    · rw [hn] at g2
      exfalso
      have := congrArg Int32.toInt g2
      rw [nI_toInt (by omega)] at this
      have h9 : (-1 : Int32).toInt = -1 := (by decide)
      omega
  refine ⟨by omega, ?_, fun k hk => ?_, fun i j hi hj g => ?_⟩
  · rw [sp_new_low C z a b c d e (by decide)]; rfl
  · by_cases q : k = C
    · subst q
      rw [eC, e0]
      exact ⟨sp_nI ha.1, by omega⟩
    · rw [eo k q, sp_new_o C z a b c d e (by decide) q]
      exact h.2.2.1 k (by omega)
  · by_cases qi : i = C
    · by_cases qj : j = C
      · omega
      · subst qi
        rw [eC, eo j qj] at g
        exact absurd g.symm (hnw j (by omega))
    · by_cases qj : j = C
      · subst qj
        rw [eC, eo i qi] at g
        exact absurd g (hnw i (by omega))
      · rw [eo i qi, eo j qj] at g
        exact h.2.2.2 i j (by omega) (by omega) g
theorem sp_new_wf {C : Nat} {z : Nat → Int32} {a b c d e : Int32} (h : sp_wf C z) (hC : C < 8) (ha : 0 ≤ a.toInt ∧ a.toInt < 20) (hb : 10 ≤ b.toInt ∧ b.toInt ≤ 200) (hc : 1 ≤ c.toInt ∧ c.toInt ≤ 20) (hd : 100 ≤ d.toInt ∧ d.toInt ≤ 50000) (he : 0 ≤ e.toInt ∧ e.toInt ≤ 50000) (hn : sp_wa z a.toNatClampNeg C = -1) : sp_wf (C + 1) (sp_new C z a b c d e) := by
  obtain ⟨h1, h2, h3, h4, h5, h6, h7, h8⟩ := h
  refine ⟨sp_new_ws h1 hC ha hn, fun k hk => ?_, fun p hp => by rw [sp_new_low C z a b c d e (by omega), if_neg (by omega)]; exact h3 p hp, by rw [sp_new_low C z a b c d e (by decide), if_neg (by decide)]; exact h4, by rw [sp_new_low C z a b c d e (by decide), if_neg (by decide)]; exact h5, by rw [sp_new_low C z a b c d e (by decide), if_neg (by decide)]; exact h6, by rw [sp_new_low C z a b c d e (by decide), if_neg (by decide)]; exact h7, fun k f hk hk8 hf => by rw [sp_new_o C z a b c d e hf (by omega)]; exact h8 k f (by omega) hk8 hf⟩
  by_cases q : k = C
  · subst q
    unfold sp_ww
    have z5 := h8 k 5 (Nat.le_refl _) hC (by decide)
    have z10 := h8 k 10 (Nat.le_refl _) hC (by decide)
    have f0 : sp_f (sp_new k z a b c d e) k 0 = a := by rw [sp_new_f k z a b c d e (by decide)]; simp
    have f1 : sp_f (sp_new k z a b c d e) k 1 = b := by rw [sp_new_f k z a b c d e (by decide)]; simp
    have f2 : sp_f (sp_new k z a b c d e) k 2 = c := by rw [sp_new_f k z a b c d e (by decide)]; simp
    have f3 : sp_f (sp_new k z a b c d e) k 3 = d := by rw [sp_new_f k z a b c d e (by decide)]; simp
    have f4 : sp_f (sp_new k z a b c d e) k 4 = e := by rw [sp_new_f k z a b c d e (by decide)]; simp
    have f5 : sp_f (sp_new k z a b c d e) k 5 = 0 := by rw [sp_new_f k z a b c d e (by decide)]; simp [z5]
    have f7 : sp_f (sp_new k z a b c d e) k 7 = -6 := by rw [sp_new_f k z a b c d e (by decide)]; simp
    have f8 : sp_f (sp_new k z a b c d e) k 8 = -6 := by rw [sp_new_f k z a b c d e (by decide)]; simp
    have f9 : sp_f (sp_new k z a b c d e) k 9 = -6 := by rw [sp_new_f k z a b c d e (by decide)]; simp
    have f10 : sp_f (sp_new k z a b c d e) k 10 = 0 := by rw [sp_new_f k z a b c d e (by decide)]; simp [z10]
    rw [f0, f1, f2, f3, f4, f5, f7, f8, f9, f10]
    exact ⟨ha.1, ha.2, hb.1, hb.2, hc.1, hc.2, hd.1, hd.2, he.1, he.2, Or.inl rfl, Or.inl rfl, fun q => absurd q (by decide), fun q => absurd q (by decide), Or.inl ⟨rfl, rfl, rfl⟩⟩
  · have g := h2 k (by omega)
    unfold sp_ww at g ⊢
    rw [sp_new_o C z a b c d e (show 0 < 14 by decide) q, sp_new_o C z a b c d e (show 1 < 14 by decide) q, sp_new_o C z a b c d e (show 2 < 14 by decide) q, sp_new_o C z a b c d e (show 3 < 14 by decide) q, sp_new_o C z a b c d e (show 4 < 14 by decide) q, sp_new_o C z a b c d e (show 5 < 14 by decide) q, sp_new_o C z a b c d e (show 7 < 14 by decide) q, sp_new_o C z a b c d e (show 8 < 14 by decide) q, sp_new_o C z a b c d e (show 9 < 14 by decide) q, sp_new_o C z a b c d e (show 10 < 14 by decide) q]
    exact g
/-- a wire is hung -/
theorem rb_new {C w : Nat} {S : Mem} {z : Nat → Int32} {a b c d e : Int32} (h : rb C S w z) (hC : C < 8) (hz5 : sp_f z C 5 = 0) (hz10 : sp_f z C 10 = 0) (ha : 0 ≤ a.toInt ∧ a.toInt < 20) : rb (C + 1) (mm_wr (mm_wr (mm_mk S (mm_W w C) a b c d e) (mm_A w) a.toNatClampNeg (nI C)) (mm_B w) 3 (nI (C + 1))) w (sp_new C z a b c d e) := by
  obtain ⟨g1, g2, g3, g4, g5, g6, g7, g8, g9⟩ := h
  have hB : ∀ f, f ≠ 3 → mm_wr (mm_wr (mm_mk S (mm_W w C) a b c d e) (mm_A w) a.toNatClampNeg (nI C)) (mm_B w) 3 (nI (C + 1)) (mm_B w) f = S (mm_B w) f := fun f hf => by
    rw [mm_wr_n _ _ (Or.inr hf), mm_wr_orow _ _ (mm_BA w)]
    unfold mm_mk
    rw [if_neg (mm_BW w C)]
  have hlo : ∀ i, i < 30 → i ≠ 3 → sp_new C z a b c d e i = z i := fun i hi h3 => by rw [sp_new_low C z a b c d e hi, if_neg h3]
  have e0 : sp_f (sp_new C z a b c d e) C 0 = a := by rw [sp_new_f C z a b c d e (by decide)]; simp
  have eC : sp_at (sp_new C z a b c d e) C = a.toNatClampNeg := by unfold sp_at; rw [e0]
  have hl := sp_cl ha.1
  unfold rb
  rw [hB 4 (by decide), hB 5 (by decide), hB 6 (by decide), hB 7 (by decide), hB 8 (by decide), hlo 0 (by decide) (by decide), hlo 1 (by decide) (by decide), hlo 2 (by decide) (by decide), hlo 4 (by decide) (by decide), hlo 5 (by decide) (by decide)]
  refine ⟨?_, g2, g3, g4, g5, g6, fun p hp => ?_, fun p hp => ?_, fun k hk => ?_⟩
  · rw [mm_wr_s, sp_new_low C z a b c d e (by decide)]; rfl
  · rw [mm_wr_orow _ _ (Ne.symm (mm_BL w)), mm_wr_orow _ _ (mm_LA w), hlo (10 + p) (by omega) (by omega)]
    unfold mm_mk
    rw [if_neg (mm_LW w C)]
    exact g7 p hp
  · rw [mm_wr_orow _ _ (Ne.symm (mm_BA w))]
    unfold sp_wa
    rw [eC]
    by_cases q : a.toNatClampNeg = p
    · subst q
      rw [mm_wr_s, if_pos rfl]
    · rw [mm_wr_n _ _ (Or.inr (Ne.symm q)), if_neg q, sp_wa_congr (z := z) (fun i hi => by unfold sp_at; rw [sp_new_o C z a b c d e (by decide) (by omega)])]
      unfold mm_mk
      rw [if_neg (mm_AW w C)]
      exact g8 p hp
  · rw [mm_wr_orow _ _ (Ne.symm (mm_BW w k)), mm_wr_orow _ _ (Ne.symm (mm_AW w k))]
    by_cases q : k = C
    · subst q
      have f1 : sp_f (sp_new k z a b c d e) k 1 = b := by rw [sp_new_f k z a b c d e (by decide)]; simp
      have f2 : sp_f (sp_new k z a b c d e) k 2 = c := by rw [sp_new_f k z a b c d e (by decide)]; simp
      have f3 : sp_f (sp_new k z a b c d e) k 3 = d := by rw [sp_new_f k z a b c d e (by decide)]; simp
      have f4 : sp_f (sp_new k z a b c d e) k 4 = e := by rw [sp_new_f k z a b c d e (by decide)]; simp
      have f5 : sp_f (sp_new k z a b c d e) k 5 = 0 := by rw [sp_new_f k z a b c d e (by decide)]; simp [hz5]
      have f6 : sp_f (sp_new k z a b c d e) k 6 = -6 := by rw [sp_new_f k z a b c d e (by decide)]; simp
      have f7 : sp_f (sp_new k z a b c d e) k 7 = -6 := by rw [sp_new_f k z a b c d e (by decide)]; simp
      have f10 : sp_f (sp_new k z a b c d e) k 10 = 0 := by rw [sp_new_f k z a b c d e (by decide)]; simp [hz10]
      unfold sp_lw
      rw [e0, f1, f2, f3, f4, f5, f6, f7, f10]
      simp [mm_mk]
    · unfold sp_lw
      rw [sp_new_o C z a b c d e (show 0 < 14 by decide) q, sp_new_o C z a b c d e (show 1 < 14 by decide) q, sp_new_o C z a b c d e (show 2 < 14 by decide) q, sp_new_o C z a b c d e (show 3 < 14 by decide) q, sp_new_o C z a b c d e (show 4 < 14 by decide) q, sp_new_o C z a b c d e (show 5 < 14 by decide) q, sp_new_o C z a b c d e (show 6 < 14 by decide) q, sp_new_o C z a b c d e (show 7 < 14 by decide) q, sp_new_o C z a b c d e (show 8 < 14 by decide) q, sp_new_o C z a b c d e (show 9 < 14 by decide) q, sp_new_o C z a b c d e (show 10 < 14 by decide) q]
      have e2 : mm_mk S (mm_W w C) a b c d e (mm_W w k) = S (mm_W w k) := by unfold mm_mk; rw [if_neg (mm_W_ne2 q)]
      rw [e2]
      exact g9 k (by omega)
theorem fr_new {C w : Nat} {S : Mem} {a b c d e x y : Int32} {i : Nat} (hC : C < 8) : fr_ w S (mm_wr (mm_wr (mm_mk S (mm_W w C) a b c d e) (mm_A w) i x) (mm_B w) 3 y) := by
  intro j hj
  rw [mm_wr_orow _ _ (by unfold mm_B at *; omega), mm_wr_orow _ _ (by unfold mm_A mm_B at *; omega)]
  unfold mm_mk
  rw [if_neg (by unfold mm_W mm_B at *; omega)]
theorem sp_load_wf {C p : Nat} {z : Nat → Int32} {v : Int32} (h : sp_wf C z) (hp : p < 20) (hv : 0 ≤ v.toInt ∧ v.toInt ≤ 1000) : sp_wf C (upd z (10 + p) v) :=
  sp_wf_low h (fun k f => sp_f_upd z (by omega) v k f) (upd_n z v (by omega)) (fun q hq => if e : q = p then (by rw [e, upd_s]; exact hv) else (by rw [upd_n z v (by omega)]; exact h.2.2.1 q hq)) (by rw [upd_n z v (by omega)]; exact h.2.2.2.1) (by rw [upd_n z v (by omega)]; exact h.2.2.2.2.1) (by rw [upd_n z v (by omega)]; exact h.2.2.2.2.2.1) (by rw [upd_n z v (by omega)]; exact h.2.2.2.2.2.2.1)
theorem i_m1 : (-1 : Int32).toInt = -1 := by decide
theorem i_0 : (0 : Int32).toInt = 0 := by decide
theorem sp_nI_m1 {k : Nat} (h : k < 1000) : nI k ≠ -1 := fun e => by
  have := congrArg Int32.toInt e
  rw [nI_toInt (by omega), i_m1] at this
  omega
theorem sp_ixm_m1 {k : Nat} (h : k < 1000) : sp_ixm k = -1 ↔ k = 99 := by
  unfold sp_ixm
  by_cases e : k = 99
  · simp [e]
  · rw [if_neg e]
    exact ⟨fun g => absurd g (sp_nI_m1 h), fun g => absurd g e⟩
