theorem sp_kn_low (z : Nat → Int32) (k : Nat) (lo hi : Int32) {i : Nat} (h : i < 30) : sp_kn z k lo hi i = z i := by
  unfold sp_kn
  rw [sp_up_lo _ _ _ _ h, sp_up_lo _ _ _ _ h, sp_up_lo _ _ _ _ h]
theorem sp_kn_f (z : Nat → Int32) (k : Nat) (lo hi : Int32) {k' f' : Nat} (hf : f' < 14) : sp_f (sp_kn z k lo hi) k' f' = if k' = k ∧ f' = 9 then hi else if k' = k ∧ f' = 8 then lo else if k' = k ∧ f' = 7 then z 2 else sp_f z k' f' := by
  unfold sp_kn
  rw [sp_up_f _ _ (by decide) hf, sp_up_f _ _ (by decide) hf, sp_up_f _ _ (by decide) hf]
theorem sp_kn_o (z : Nat → Int32) {k : Nat} (lo hi : Int32) {k' f' : Nat} (hf : f' < 14) (h : k' ≠ k ∨ (f' ≠ 7 ∧ f' ≠ 8 ∧ f' ≠ 9)) : sp_f (sp_kn z k lo hi) k' f' = sp_f z k' f' := by
  rw [sp_kn_f z k lo hi hf, if_neg (by omega), if_neg (by omega), if_neg (by omega)]
/-- what is known of a wire is put down, with one more number of the wire anew (g: its place in the class's wire, f: in the row) -/
theorem rb_know {C b k : Nat} {S S' : Mem} {z z1 : Nat → Int32} {lo hi d : Int32} (h : rb C S b z) (hC : C ≤ 8) (hk : k < C) (hS : ∀ j, j ≠ mm_W b k → S' j = S j) (hd : d = z 2) (hd2 : 0 ≤ (z 2).toInt) (h1l : ∀ i, i < 30 → z1 i = z i) (h1o : ∀ i f, i ≠ k → f < 14 → sp_f z1 i f = sp_f z i f) (h10 : sp_f z1 k 0 = sp_f z k 0)
    (hr : S' (mm_W b k) 0 = sp_f z1 k 0 ∧ S' (mm_W b k) 1 = sp_f z1 k 1 ∧ S' (mm_W b k) 2 = sp_f z1 k 2 ∧ S' (mm_W b k) 3 = sp_f z1 k 3 ∧ S' (mm_W b k) 4 = sp_f z1 k 4 ∧ S' (mm_W b k) 6 = sp_f z1 k 5 ∧ S' (mm_W b k) 7 = sp_f z1 k 6 ∧ S' (mm_W b k) 8 = d ∧ S' (mm_W b k) 9 = lo ∧ S' (mm_W b k) 10 = hi ∧ S' (mm_W b k) 11 = sp_f z1 k 10) : rb C S' b (sp_kn z1 k lo hi) := by
  obtain ⟨a1, a2, a3, a4, a5, a6, a7, a8, a9, a10, a11⟩ := hr
  have e7 : sp_f (sp_kn z1 k lo hi) k 7 = z 2 := by rw [sp_kn_f _ _ _ _ (by decide), h1l 2 (by decide)]; simp
  have e8 : sp_f (sp_kn z1 k lo hi) k 8 = lo := by rw [sp_kn_f _ _ _ _ (by decide)]; simp
  have e9 : sp_f (sp_kn z1 k lo hi) k 9 = hi := by rw [sp_kn_f _ _ _ _ (by decide)]; simp
  have hne : z 2 ≠ -6 := fun e => by rw [e] at hd2; exact absurd hd2 (by decide)
  refine rb_wire h hC hk hS (fun i hi2 => by rw [sp_kn_low _ _ _ _ hi2, h1l i hi2]) (fun i f hi2 hf => by rw [sp_kn_o _ _ _ hf (Or.inl hi2), h1o i f hi2 hf]) (by rw [sp_kn_o _ _ _ (by decide) (Or.inr (by decide)), h10]) ?_
  unfold sp_lw
  rw [e7, e8, e9, sp_kn_o _ _ _ (show 0 < 14 by decide) (Or.inr (by decide)), sp_kn_o _ _ _ (show 1 < 14 by decide) (Or.inr (by decide)), sp_kn_o _ _ _ (show 2 < 14 by decide) (Or.inr (by decide)), sp_kn_o _ _ _ (show 3 < 14 by decide) (Or.inr (by decide)), sp_kn_o _ _ _ (show 4 < 14 by decide) (Or.inr (by decide)), sp_kn_o _ _ _ (show 5 < 14 by decide) (Or.inr (by decide)), sp_kn_o _ _ _ (show 6 < 14 by decide) (Or.inr (by decide)), sp_kn_o _ _ _ (show 10 < 14 by decide) (Or.inr (by decide)), if_neg hne, if_neg hne]
  exact ⟨a1, a2, a3, a4, a5, a6, a7, a8.trans hd, a9, a10, a11⟩
theorem rt_know {C b k : Nat} {S S' : Mem} {z z1 : Nat → Int32} {lo hi : Int32} (h : rt_ C S b z) (hC : C ≤ 8) (hS : ∀ j, j ≠ mm_W b k → S' j = S j) (h5 : S' (mm_W b k) 5 = S (mm_W b k) 5) (h1l : ∀ i, i < 30 → z1 i = z i) (h1 : ∀ i, i < C → sp_f z1 i 0 = sp_f z i 0 ∧ sp_f z1 i 5 = sp_f z i 5) : rt_ C S' b (sp_kn z1 k lo hi) :=
  rt_wire h hC hS h5 (fun i hi2 => by rw [sp_kn_low _ _ _ _ hi2, h1l i hi2]) (fun i hi2 => ⟨by rw [sp_kn_o _ _ _ (by decide) (Or.inr (by decide)), (h1 i hi2).1], by rw [sp_kn_o _ _ _ (by decide) (Or.inr (by decide)), (h1 i hi2).2]⟩)
theorem fr_W {b k : Nat} {S S' : Mem} (hk : k < 8) (hS : ∀ j, j ≠ mm_W b k → S' j = S j) : fr_ b S S' := fun j hj => hS j (by unfold mm_B mm_W at *; omega)
def sp_sum (z : Nat → Int32) : Nat → Int32
  | 0 => 0
  | p + 1 => sp_sum z p + z (10 + p)
def sp_cnt (g : Nat → Int32) : Nat → Int32
  | 0 => 0
  | c + 1 => sp_cnt g c + g c
def sp_g0 (z : Nat → Int32) (k : Nat) : Int32 := if sp_f z k 5 = 0 then 1 else 0
def sp_g1 (z : Nat → Int32) (C k : Nat) : Int32 := if sp_f z k 5 = 0 ∧ sp_f z k 4 < sp_tk z 5 C k then 1 else 0
def sp_g2 (z : Nat → Int32) (C k : Nat) : Int32 := if sp_f z k 5 = 0 ∧ 1000 < sp_f z k 4 ∧ sp_tk z 5 C k + sp_tk z 5 C k * z 1 / 100 < sp_f z k 4 then 1 else 0
abbrev sp_db (z : Nat → Int32) (C k : Nat) : Prop := sp_f z k 10 = 0 ∧ (sp_f z k 7 = -6 ∨ sp_f z k 9 < sp_tk z 5 C k ∨ sp_f z k 8 < sp_tk z 5 C k)
def sp_wk (z : Nat → Int32) (C : Nat) : Nat → Int32 × Int32
  | 0 => (20, -1)
  | c + 1 => if sp_db z C c then (if sp_f z c 0 < (sp_wk z C c).1 then sp_f z c 0 else (sp_wk z C c).1, if (sp_wk z C c).2 < sp_f z c 0 then sp_f z c 0 else (sp_wk z C c).2) else sp_wk z C c
def sp_abs (x : Int32) : Int32 := if 0 ≤ x then x else 0 - x
def sp_rnd (fi la pl : Int32) : Int32 := if la < fi then 0 else la - fi + (if sp_abs (pl - la) < sp_abs (pl - fi) then sp_abs (pl - la) else sp_abs (pl - fi))
theorem sp_one_if (c : Prop) [Decidable c] : sp_one (if c then 1 else 0) = if c then 1 else 0 := by
  by_cases h : c
  · simp only [h, if_true]; decide
  · simp only [h, if_false]; decide
theorem sp_db_iff {C b k : Nat} {S : Mem} {z : Nat → Int32} (ht : S (mm_W b k) 5 = sp_tk z 5 C k) (h : S (mm_W b k) 0 = sp_f z k 0 ∧ S (mm_W b k) 1 = sp_f z k 1 ∧ S (mm_W b k) 2 = sp_f z k 2 ∧ S (mm_W b k) 3 = sp_f z k 3 ∧ S (mm_W b k) 4 = sp_f z k 4 ∧ S (mm_W b k) 6 = sp_f z k 5 ∧ S (mm_W b k) 7 = sp_f z k 6 ∧ S (mm_W b k) 8 = sp_f z k 7 ∧ S (mm_W b k) 9 = sp_lw z k 8 ∧ S (mm_W b k) 10 = sp_lw z k 9 ∧ S (mm_W b k) 11 = sp_f z k 10) : sp_db z C k ↔ S (mm_W b k) 11 = 0 ∧ (sp_wSs (S (mm_W b k)) ≠ 0 ∨ sp_wMs (S (mm_W b k)) ≠ 0) := by
  obtain ⟨a1, a2, a3, a4, a5, a6, a7, a8, a9, a10, a11⟩ := h
  unfold sp_db sp_wSs sp_wMs
  unfold sp_lw at a9 a10
  rw [a8, a9, a10, a11, ht]
  by_cases h1 : sp_f z k 10 = 0 <;> by_cases h2 : sp_f z k 7 = -6 <;> by_cases h3 : sp_f z k 9 < sp_tk z 5 C k <;> by_cases h4 : sp_f z k 8 < sp_tk z 5 C k <;> simp [h1, h2, h3, h4]
