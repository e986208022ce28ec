theorem rb_wire {C b k : Nat} {S S' : Mem} {z z' : Nat → Int32} (h : rb C S b z) (hC : C ≤ 8) (hk : k < C) (hS : ∀ j, j ≠ mm_W b k → S' j = S j) (hz : ∀ i, i < 30 → z' i = z i) (hzf : ∀ i f, i ≠ k → f < 14 → sp_f z' i f = sp_f z i f) (h0 : sp_f z' k 0 = sp_f z k 0)
    (hr : S' (mm_W b k) 0 = sp_f z' k 0 ∧ S' (mm_W b k) 1 = sp_f z' k 1 ∧ S' (mm_W b k) 2 = sp_f z' k 2 ∧ S' (mm_W b k) 3 = sp_f z' k 3 ∧ S' (mm_W b k) 4 = sp_f z' k 4 ∧ S' (mm_W b k) 6 = sp_f z' k 5 ∧ S' (mm_W b k) 7 = sp_f z' k 6 ∧ S' (mm_W b k) 8 = sp_f z' k 7 ∧ S' (mm_W b k) 9 = sp_lw z' k 8 ∧ S' (mm_W b k) 10 = sp_lw z' k 9 ∧ S' (mm_W b k) 11 = sp_f z' k 10) : rb C S' b z' := by
  obtain ⟨h1, h2, h3, h4, h5, h6, h7, h8, h9⟩ := h
  have eB := hS (mm_B b) (by unfold mm_B mm_W; omega)
  have eL := hS (mm_L b) (by unfold mm_L mm_W; omega)
  have eA := hS (mm_A b) (by unfold mm_A mm_W; omega)
  have ea : ∀ i, sp_at z' i = sp_at z i := by
    intro i
    unfold sp_at
    by_cases e : i = k
    · rw [e, h0]
    · rw [hzf i 0 e (by decide)]
  unfold rb
  rw [eB, eL, eA, hz 3 (by decide), hz 0 (by decide), hz 1 (by decide), hz 2 (by decide), hz 4 (by decide), hz 5 (by decide)]
  refine ⟨h1, h2, h3, h4, h5, h6, fun p hp => by rw [hz _ (by omega)]; exact h7 p hp, fun p hp => by rw [sp_wa_congr (fun i _ => ea i)]; exact h8 p hp, fun i hi => ?_⟩
  by_cases e : i = k
  · subst e; exact hr
  · rw [hS (mm_W b i) (mm_W_ne2 e)]
    unfold sp_lw
    rw [hzf i 0 e (by decide), hzf i 1 e (by decide), hzf i 2 e (by decide), hzf i 3 e (by decide), hzf i 4 e (by decide), hzf i 5 e (by decide), hzf i 6 e (by decide), hzf i 7 e (by decide), hzf i 8 e (by decide), hzf i 9 e (by decide), hzf i 10 e (by decide)]
    exact h9 i hi
theorem rt_wire {C b k : Nat} {S S' : Mem} {z z' : Nat → Int32} (h : rt_ C S b z) (hC : C ≤ 8) (hS : ∀ j, j ≠ mm_W b k → S' j = S j) (h5 : S' (mm_W b k) 5 = S (mm_W b k) 5) (hz : ∀ i, i < 30 → z' i = z i) (hzf : ∀ i, i < C → sp_f z' i 0 = sp_f z i 0 ∧ (sp_f z' i 5 = 0 ↔ sp_f z i 5 = 0)) : rt_ C S' b z' := by
  intro i hi
  rw [sp_tk_congr hC hzf (fun p hp => hz _ (by omega)), ← h i hi]
  by_cases e : i = k
  · rw [e, h5]
  · rw [hS (mm_W b i) (mm_W_ne2 e)]
theorem mm_wr3_o {S : Mem} {j k1 k2 k3 : Nat} {x1 x2 x3 : Int32} (i : Nat) (h : i ≠ j) : mm_wr (mm_wr (mm_wr S j k1 x1) j k2 x2) j k3 x3 i = S i := by
  rw [mm_wr_orow _ _ h, mm_wr_orow _ _ h, mm_wr_orow _ _ h]
/-- a wire of the class breaks -/
theorem rb_snap {C b k : Nat} {S : Mem} {z : Nat → Int32} {d : Int32} (h : rb C S b z) (hC : C ≤ 8) (hk : k < C) (hd : d = z 2) : rb C (mm_wr (mm_wr (mm_wr S (mm_W b k) 6 1) (mm_W b k) 7 d) (mm_W b k) 4 0) b (sp_brk z k) := by
  obtain ⟨a1, a2, a3, a4, a5, a6, a7, a8, a9, a10, a11⟩ := h.2.2.2.2.2.2.2.2 k hk
  have e2 : ∀ f, f < 14 → f ≠ 4 → f ≠ 5 → f ≠ 6 → sp_f (sp_brk z k) k f = sp_f z k f := fun f hf h4 h5 h6 => by rw [sp_brk_f z k hf]; simp [h4, h5, h6]
  refine rb_wire h hC hk (fun j hj => mm_wr3_o j hj) (fun i hi => sp_brk_lo z k hi) (fun i f hi hf => by rw [sp_brk_f z k hf]; simp [hi]) (e2 0 (by decide) (by decide) (by decide) (by decide)) ?_
  unfold sp_lw
  rw [e2 0 (by decide) (by decide) (by decide) (by decide), e2 1 (by decide) (by decide) (by decide) (by decide), e2 2 (by decide) (by decide) (by decide) (by decide), e2 3 (by decide) (by decide) (by decide) (by decide), e2 7 (by decide) (by decide) (by decide) (by decide), e2 8 (by decide) (by decide) (by decide) (by decide), e2 9 (by decide) (by decide) (by decide) (by decide), e2 10 (by decide) (by decide) (by decide) (by decide), sp_brk_f z k (show 4 < 14 by decide), sp_brk_f z k (show 5 < 14 by decide), sp_brk_f z k (show 6 < 14 by decide)]
  simp only [mm_wr_eq]
  unfold sp_lw at a9 a10
  simp [a1, a2, a3, a4, a8, a9, a10, a11, hd]
theorem fr_snap {b k : Nat} {S : Mem} {d : Int32} (hk : k < 8) : fr_ b S (mm_wr (mm_wr (mm_wr S (mm_W b k) 6 1) (mm_W b k) 7 d) (mm_W b k) 4 0) := fun j hj => mm_wr3_o j (by unfold mm_B mm_W at *; omega)
def sp_ixm (k : Nat) : Int32 := if k = 99 then -1 else nI k
theorem sp_bs_stp {z : Nat → Int32} {C q : Nat} {x2 x4 : Int32} (e2 : x2 = (sp_bs z C q).2) (hon : sp_f z q 5 = 0 → x4 = sp_ov z C q) (hoff : sp_f z q 5 ≠ 0 → x4 < 0) : (x4 ≤ x2 → sp_bs z C (q + 1) = sp_bs z C q) ∧ (¬ x4 ≤ x2 → sp_bs z C (q + 1) = (q, x4)) := by
  have hp := sp_bs_pos z C q
  by_cases e : sp_f z q 5 = 0
  · have h := hon e
    refine ⟨fun g => ?_, fun g => ?_⟩
    · rw [sp_bs, if_neg (by rw [← h, ← e2]; exact Int32.not_lt.mpr g)]
    · rw [sp_bs, if_pos (by rw [← h, ← e2]; exact Int32.not_le.mp g), ← h]
  · have h := hoff e
    have h0 : sp_ov z C q = 0 := by unfold sp_ov; rw [if_neg e]
    refine ⟨fun g => ?_, fun g => ?_⟩
    · rw [sp_bs, if_neg (by rw [h0]; exact Int32.not_lt.mpr hp)]
    · exact absurd (Int32.le_of_lt (Int32.lt_of_lt_of_le h (by rw [e2]; exact hp))) g
theorem sp_stl_wf {C : Nat} : ∀ (k : Nat) {z : Nat → Int32}, sp_wf C z → sp_wf C (sp_stl C k z)
  | 0, _, h => h
  | k + 1, z, h => by
    unfold sp_stl
    by_cases e : sp_bu z C = 99
    · rw [if_pos e]; exact h
    · rw [if_neg e]; exact sp_stl_wf k (sp_brk_wf h (sp_bu_lt e).1)
theorem sp_neg {x : Int32} (h : 100 ≤ x.toInt) : (0 : Int32) - x < 0 := by
  have h1 : x.toInt ≤ 2147483647 := by have := x.toInt_lt; omega
  rw [Int32.lt_iff_toInt_lt, Int32.toInt_sub]
  have h0 : (0 : Int32).toInt = 0 := (by decide)
  rw [h0, Int.bmod_eq_of_le (by omega) (by omega)]
  omega
