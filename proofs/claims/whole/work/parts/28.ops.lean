/-! WHAT THE CALLS DO TO THE STATE -/
def op_set (z : Nat → Int32) (s v : Int32) : Int32 × (Nat → Int32) := if sp_in v 0 100 = 0 then (-2, z) else if s = 0 then (z 0, upd z 0 v) else if s = 1 then (z 1, upd z 1 v) else (-2, z)
def sp_far (p q : Int32) : Int32 := if 0 ≤ p - q then p - q else 0 - (p - q)
def op_walk (z : Nat → Int32) (p : Int32) : Int32 × (Nat → Int32) := if sp_in p 0 19 = 0 then (-1, z) else (sp_far p (z 4), upd (upd z 4 p) 5 (z 5 + sp_far p (z 4)))
def op_load (C : Nat) (z : Nat → Int32) (p v : Int32) : Int32 × (Nat → Int32) := if sp_in p 0 19 = 0 then (-1, z) else if sp_in v 0 1000 = 0 then (-2, z) else (z (10 + p.toNatClampNeg), sp_stl C 8 (upd z (10 + p.toNatClampNeg) v))
def sp_lz (t c : Int32) : Int32 := if t < 0 then t else sp_crept t c
def sp_lo (C : Nat) (z : Nat → Int32) : Nat → Int32 := fun i => if 30 ≤ i ∧ (i - 30) / 14 < C ∧ ((i - 30) % 14 = 4 ∨ (i - 30) % 14 = 8 ∨ (i - 30) % 14 = 9) then sp_lz (z i) (z 0) else z i
def sp_day (C : Nat) (z : Nat → Int32) : Nat → Int32 := upd (sp_lo C z) 2 (z 2 + 1)
def sp_dz (C : Nat) : Nat → (Nat → Int32) → Nat → Int32
  | 0, z => z
  | k + 1, z => sp_dz C k (sp_day C z)
def op_days (C : Nat) (z : Nat → Int32) (d : Int32) : Int32 × (Nat → Int32) := if sp_in d 1 100 = 0 then (-2, z) else (0, sp_dz C d.toNatClampNeg z)
/-- the wire where the listener is (99: none) -/
def sp_hw (z : Nat → Int32) (C : Nat) : Nat := sp_wi C (sp_wa z (z 4).toNatClampNeg C)
def sp_kn (z : Nat → Int32) (k : Nat) (lo hi : Int32) : Nat → Int32 := sp_up (sp_up (sp_up z k 7 (z 2)) k 8 lo) k 9 hi
def op_hear (C : Nat) (z : Nat → Int32) : Int32 × (Nat → Int32) :=
  if sp_hw z C = 99 then (-5, z) else
  if sp_f z (sp_hw z C) 5 = 0 then
    (sp_pt (sp_f z (sp_hw z C) 1) (sp_f z (sp_hw z C) 2) (sp_f z (sp_hw z C) 4), sp_kn z (sp_hw z C) (sp_ls (sp_pt (sp_f z (sp_hw z C) 1) (sp_f z (sp_hw z C) 2) (sp_f z (sp_hw z C) 4)).toInt64 (sp_f z (sp_hw z C) 1) (sp_f z (sp_hw z C) 2)).toInt32 (sp_hi (sp_pt (sp_f z (sp_hw z C) 1) (sp_f z (sp_hw z C) 2) (sp_f z (sp_hw z C) 4)) (sp_f z (sp_hw z C) 1) (sp_f z (sp_hw z C) 2)))
  else (-6, sp_kn (sp_up z (sp_hw z C) 10 1) (sp_hw z C) 0 0)
def op_tight (C : Nat) (z : Nat → Int32) (t : Int32) : Int32 × (Nat → Int32) :=
  if sp_in t 0 50000 = 0 then (-2, z) else
  if sp_hw z C = 99 then (-5, z) else
  if sp_f z (sp_hw z C) 5 = 0 ∧ t ≤ sp_f z (sp_hw z C) 3 then (sp_f z (sp_hw z C) 4, sp_kn (sp_up z (sp_hw z C) 4 t) (sp_hw z C) t t) else (-5, z)
def sp_new (C : Nat) (z : Nat → Int32) (a b c d e : Int32) : Nat → Int32 := sp_up (sp_up (sp_up (sp_up (sp_up (sp_up (sp_up (sp_up (sp_up (upd z 3 (nI (C + 1))) C 0 a) C 1 b) C 2 c) C 3 d) C 4 e) C 6 (-6)) C 7 (-6)) C 8 (-6)) C 9 (-6)
def op_wbad (C : Nat) (z : Nat → Int32) (a b c d e : Int32) : Int32 :=
  if sp_in a 0 19 = 0 ∨ sp_in b 10 200 = 0 ∨ sp_in c 1 20 = 0 ∨ sp_in d 100 50000 = 0 ∨ sp_in e 0 50000 = 0 then -2 else if C = 8 then -4 else if sp_wa z a.toNatClampNeg C ≠ -1 ∨ d < e then -5 else 0
/-- the outcome of a bridge's method -/
def sp_res (C b : Nat) (S S2 : Mem) (r : Int32) (o : Int32 × (Nat → Int32)) : Prop := r = o.1 ∧ rb C S2 b o.2 ∧ rt_ C S2 b o.2 ∧ fr_ b S S2
theorem sp_f_upd (z : Nat → Int32) {i : Nat} (hi : i < 30) (x : Int32) (k f : Nat) : sp_f (upd z i x) k f = sp_f z k f := by
  unfold sp_f upd
  rw [if_neg (by omega)]
theorem upd_s (z : Nat → Int32) (i : Nat) (x : Int32) : upd z i x i = x := by simp [upd]
theorem upd_n (z : Nat → Int32) {i j : Nat} (x : Int32) (h : j ≠ i) : upd z i x j = z j := by simp [upd, h]
theorem rb_low {C b : Nat} {S S' : Mem} {z z' : Nat → Int32} (h : rb C S b z) (hC : C ≤ 8) (hf : ∀ k f, sp_f z' k f = sp_f z k f) (hW : ∀ w, w < 8 → S' (mm_W b w) = S (mm_W b w)) (hA : S' (mm_A b) = S (mm_A b)) (hB : S' (mm_B b) 3 = z' 3 ∧ S' (mm_B b) 4 = z' 0 ∧ S' (mm_B b) 5 = z' 1 ∧ S' (mm_B b) 6 = z' 2 ∧ S' (mm_B b) 7 = z' 4 ∧ S' (mm_B b) 8 = z' 5) (hL : ∀ p, p < 20 → S' (mm_L b) p = z' (10 + p)) : rb C S' b z' := by
  obtain ⟨-, -, -, -, -, -, -, h8, h9⟩ := h
  refine ⟨hB.1, hB.2.1, hB.2.2.1, hB.2.2.2.1, hB.2.2.2.2.1, hB.2.2.2.2.2, hL, fun p hp => ?_, fun k hk => ?_⟩
  · rw [hA, sp_wa_congr (z := z) (fun i _ => by unfold sp_at; rw [hf])]
    exact h8 p hp
  · rw [hW k (by omega)]
    unfold sp_lw
    simp only [hf]
    exact h9 k hk
theorem rt_low {C b : Nat} {S S' : Mem} {z z' : Nat → Int32} (h : rt_ C S b z) (hC : C ≤ 8) (hf : ∀ k f, sp_f z' k f = sp_f z k f) (hW : ∀ w, w < 8 → S' (mm_W b w) = S (mm_W b w)) (hL : ∀ p, p < 20 → z' (10 + p) = z (10 + p)) : rt_ C S' b z' := by
  intro k hk
  rw [hW k (by omega), sp_tk_congr hC (fun i _ => ⟨hf i 0, by rw [hf]⟩) hL]
  exact h k hk
theorem mm_BW (b w : Nat) : mm_B b ≠ mm_W b w := by unfold mm_B mm_W; omega
theorem mm_BL (b : Nat) : mm_B b ≠ mm_L b := by unfold mm_B mm_L; omega
theorem mm_BA (b : Nat) : mm_B b ≠ mm_A b := by unfold mm_B mm_A; omega
theorem mm_LW (b w : Nat) : mm_L b ≠ mm_W b w := by unfold mm_L mm_W; omega
theorem mm_LA (b : Nat) : mm_L b ≠ mm_A b := by unfold mm_L mm_A; omega
theorem mm_AW (b w : Nat) : mm_A b ≠ mm_W b w := by unfold mm_A mm_W; omega
/-- one number of a bridge's own -/
theorem rb_hd {C b : Nat} {S : Mem} {z : Nat → Int32} {x : Int32} (h : rb C S b z) (hC : C ≤ 8) (i f : Nat) (hi : (i = 0 ∧ f = 4) ∨ (i = 1 ∧ f = 5) ∨ (i = 2 ∧ f = 6) ∨ (i = 4 ∧ f = 7) ∨ (i = 5 ∧ f = 8)) : rb C (mm_wr S (mm_B b) f x) b (upd z i x) := by
  obtain ⟨g1, g2, g3, g4, g5, g6, g7, g8, g9⟩ := id h
  refine rb_low h hC (fun k f' => sp_f_upd z (by omega) x k f') (fun w _ => mm_wr_orow S x (Ne.symm (mm_BW b w))) (mm_wr_orow S x (Ne.symm (mm_BA b))) ?_ (fun p hp => by rw [mm_wr_orow S x (Ne.symm (mm_BL b)), upd_n z x (by omega)]; exact g7 p hp)
  rcases hi with ⟨rfl, rfl⟩ | ⟨rfl, rfl⟩ | ⟨rfl, rfl⟩ | ⟨rfl, rfl⟩ | ⟨rfl, rfl⟩ <;> simp [mm_wr_eq, upd, g1, g2, g3, g4, g5, g6]
theorem rt_hd {C b : Nat} {S : Mem} {z : Nat → Int32} {x : Int32} (h : rt_ C S b z) (hC : C ≤ 8) (i f : Nat) (hi : i < 6) : rt_ C (mm_wr S (mm_B b) f x) b (upd z i x) :=
  rt_low h hC (fun k f' => sp_f_upd z (by omega) x k f') (fun w _ => mm_wr_orow S x (Ne.symm (mm_BW b w))) (fun p hp => upd_n z x (by omega))
theorem fr_B {b f : Nat} {S : Mem} {x : Int32} : fr_ b S (mm_wr S (mm_B b) f x) := fr_wr (Nat.le_refl _) (by omega)
/-- a load -/
theorem rb_ld {C b p : Nat} {S : Mem} {z : Nat → Int32} {x : Int32} (h : rb C S b z) (hC : C ≤ 8) (hp : p < 20) : rb C (mm_wr S (mm_L b) p x) b (upd z (10 + p) x) := by
  obtain ⟨g1, g2, g3, g4, g5, g6, g7, g8, g9⟩ := id h
  refine rb_low h hC (fun k f' => sp_f_upd z (by omega) x k f') (fun w _ => mm_wr_orow S x (Ne.symm (mm_LW b w))) (mm_wr_orow S x (Ne.symm (mm_LA b))) ?_ (fun q hq => ?_)
  · rw [mm_wr_orow S x (mm_BL b), upd_n z x (by omega), upd_n z x (by omega), upd_n z x (by omega), upd_n z x (by omega), upd_n z x (by omega), upd_n z x (by omega)]
    exact ⟨g1, g2, g3, g4, g5, g6⟩
  · by_cases e : q = p
    · subst e; rw [mm_wr_s, upd_s]
    · rw [mm_wr_n S x (Or.inr e), upd_n z x (by omega)]; exact g7 q hq
theorem fr_L {b p : Nat} {S : Mem} {x : Int32} : fr_ b S (mm_wr S (mm_L b) p x) := fr_wr (by unfold mm_B mm_L; omega) (by unfold mm_B mm_L; omega)
theorem sp_up_ws {C : Nat} {z z' : Nat → Int32} (h : sp_ws C z) (h3 : z' 3 = z 3) (h0 : ∀ k, k < C → sp_f z' k 0 = sp_f z k 0) : sp_ws C z' := by
  have ea : ∀ k, k < C → sp_at z' k = sp_at z k := fun k hk => by unfold sp_at; rw [h0 k hk]
  exact ⟨h.1, h3.trans h.2.1, fun k hk => by rw [ea k hk, h0 k hk]; exact h.2.2.1 k hk, fun i j hi hj e => h.2.2.2 i j hi hj (by rw [ea i hi, ea j hj] at e; exact e)⟩
/-- a row of numbers below the wires, within the ranges -/
theorem sp_wf_low {C : Nat} {z z' : Nat → Int32} (h : sp_wf C z) (hf : ∀ k f, sp_f z' k f = sp_f z k f) (h3 : z' 3 = z 3) (hl : ∀ p, p < 20 → 0 ≤ (z' (10 + p)).toInt ∧ (z' (10 + p)).toInt ≤ 1000) (h4 : 0 ≤ (z' 4).toInt ∧ (z' 4).toInt < 20) (h0 : 0 ≤ (z' 0).toInt ∧ (z' 0).toInt ≤ 100) (h1 : 0 ≤ (z' 1).toInt ∧ (z' 1).toInt ≤ 100) (h2 : 0 ≤ (z' 2).toInt) : sp_wf C z' := by
  refine ⟨sp_up_ws h.1 h3 (fun k _ => hf k 0), fun k hk => ?_, hl, h4, h0, h1, h2, fun k f hk hk8 hf' => by rw [hf]; exact h.2.2.2.2.2.2.2 k f hk hk8 hf'⟩
  have := h.2.1 k hk
  unfold sp_ww at *
  simp only [hf]
  exact this
theorem sp_in_iff {x a b : Int32} : sp_in x a b = 0 ↔ ¬ (a.toInt ≤ x.toInt ∧ x.toInt ≤ b.toInt) := by
  unfold sp_in
  simp only [Int32.le_iff_toInt_le]
  by_cases h : a.toInt ≤ x.toInt ∧ x.toInt ≤ b.toInt
  · rw [if_pos h]; simp [h]
  · rw [if_neg h]; simp [h]
theorem sp_in_01 (x a b : Int32) : sp_in x a b = 0 ∨ sp_in x a b = 1 := by
  unfold sp_in
  split
  · exact Or.inr rfl
  · exact Or.inl rfl
theorem sp_hw_lt {z : Nat → Int32} {C : Nat} (hC : C ≤ 8) (h : sp_hw z C ≠ 99) : sp_hw z C < C ∧ sp_wa z (z 4).toNatClampNeg C = nI (sp_hw z C) := by
  have hs := sp_wa_spec (n := z) (z 4).toNatClampNeg C (Nat.le_refl _)
  rcases hs with ⟨h1, -⟩ | ⟨k, h1, h2, h3⟩
  · exact absurd (show sp_hw z C = 99 by unfold sp_hw; rw [h1]; exact sp_wi_lo (by decide)) h
  · have e : sp_hw z C = k := by
      unfold sp_hw
      rw [h2]
      have := sp_wi_in (C := C) (x := nI k) hC (nI_pos (by omega)) (nI_ge h1 (by omega))
      rw [this.1, cl_n (by omega)]
    rw [e]
    exact ⟨h1, h2⟩
/-- how many bits are 1, as the library reckons it -/
def sp_us (x y : Int32) : Int32 := (x.toUInt32 >>> (y.toUInt32 &&& Int32.toUInt32 31)).toInt32
def sp_b1 (x : Int32) : Int32 := x - (sp_us x 1 &&& 1431655765)
def sp_b2 (x : Int32) : Int32 := (x &&& 858993459) + (sp_us x 2 &&& 858993459)
def sp_b3 (x : Int32) : Int32 := (x + sp_us x 4) &&& 252645135
def sp_b4 (x : Int32) : Int32 := x + sp_us x 8
def sp_b5 (x : Int32) : Int32 := x + sp_us x 16
def sp_bc (x : Int32) : Int32 := sp_b5 (sp_b4 (sp_b3 (sp_b2 (sp_b1 x)))) &&& 63
