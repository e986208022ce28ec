/-! THE STATE AS ONE ROW OF NUMBERS (n): settings 0, 1; day 2; wires 3; place 4; walked 5; loads 10..29; wire w's number f at 30 + 14 * w + f -/
def sp_f (n : Nat → Int32) (w f : Nat) : Int32 := n (30 + 14 * w + f)
def sp_at (n : Nat → Int32) (k : Nat) : Nat := (sp_f n k 0).toNatClampNeg
/-- what the places of wires are -/
def sp_ws (C : Nat) (n : Nat → Int32) : Prop := C ≤ 8 ∧ n 3 = nI C ∧ (∀ k, k < C → sp_f n k 0 = nI (sp_at n k) ∧ sp_at n k < 20) ∧ ∀ i j, i < C → j < C → sp_at n i = sp_at n j → i = j
/-- the nearest wire to the left (right) of place p that has 0 at f; 99: none -/
def sp_lf (n : Nat → Int32) (f p : Nat) : Nat → Nat
  | 0 => 99
  | c + 1 => if sp_f n c f = 0 ∧ sp_at n c ≤ p ∧ (sp_lf n f p c = 99 ∨ sp_at n (sp_lf n f p c) < sp_at n c) then c else sp_lf n f p c
def sp_rt (n : Nat → Int32) (f p : Nat) : Nat → Nat
  | 0 => 99
  | c + 1 => if sp_f n c f = 0 ∧ p ≤ sp_at n c ∧ (sp_rt n f p c = 99 ∨ sp_at n c < sp_at n (sp_rt n f p c)) then c else sp_rt n f p c
/-- the wire at a place; -1: none -/
def sp_wa (n : Nat → Int32) (p : Nat) : Nat → Int32
  | 0 => -1
  | c + 1 => if sp_at n c = p then nI c else sp_wa n p c
def sp_ctb (n : Nat → Int32) (f C p w : Nat) : Int32 :=
  if sp_lf n f p C ≠ 99 ∧ sp_rt n f p C ≠ 99 ∧ sp_lf n f p C ≠ sp_rt n f p C then
    (if w = sp_rt n f p C then 10 * (n (10 + p) * (nI p - sp_f n (sp_lf n f p C) 0) / (sp_f n (sp_rt n f p C) 0 - sp_f n (sp_lf n f p C) 0))
     else if w = sp_lf n f p C then 10 * (n (10 + p) - n (10 + p) * (nI p - sp_f n (sp_lf n f p C) 0) / (sp_f n (sp_rt n f p C) 0 - sp_f n (sp_lf n f p C) 0)) else 0)
  else if sp_lf n f p C ≠ 99 then (if w = sp_lf n f p C then 10 * n (10 + p) else 0)
  else if sp_rt n f p C ≠ 99 then (if w = sp_rt n f p C then 10 * n (10 + p) else 0) else 0
def sp_T (n : Nat → Int32) (f C w : Nat) : Nat → Int32
  | 0 => 0
  | p + 1 => sp_T n f C w p + sp_ctb n f C p w
/-- the task of wire w -/
def sp_tk (n : Nat → Int32) (f C w : Nat) : Int32 := sp_T n f C w 20
theorem sp_lf_spec (n : Nat → Int32) (f p : Nat) : ∀ c, c ≤ 8 → (sp_lf n f p c = 99 ∧ ∀ k, k < c → sp_f n k f = 0 → ¬ sp_at n k ≤ p) ∨ (sp_lf n f p c < c ∧ sp_f n (sp_lf n f p c) f = 0 ∧ sp_at n (sp_lf n f p c) ≤ p ∧ ∀ k, k < c → sp_f n k f = 0 → sp_at n k ≤ p → sp_at n k ≤ sp_at n (sp_lf n f p c))
  | 0, _ => Or.inl ⟨rfl, fun k h => absurd h (Nat.not_lt_zero k)⟩
  | c + 1, h8 => by
    have ih := sp_lf_spec n f p c (by omega)
    unfold sp_lf
    by_cases h : sp_f n c f = 0 ∧ sp_at n c ≤ p ∧ (sp_lf n f p c = 99 ∨ sp_at n (sp_lf n f p c) < sp_at n c)
    · rw [if_pos h]
      refine Or.inr ⟨Nat.lt_succ_self c, h.1, h.2.1, fun k hk h0 h1 => ?_⟩
      rcases Nat.lt_or_eq_of_le (Nat.le_of_lt_succ hk) with hk | rfl
      · rcases ih with ⟨e, g⟩ | ⟨e1, e2, e3, g⟩
        · exact absurd h1 (g k hk h0)
        · have := g k hk h0 h1
          rcases h.2.2 with h9 | h9
          · omega
          · omega
      · exact Nat.le_refl _
    · rw [if_neg h]
      rcases ih with ⟨e, g⟩ | ⟨e1, e2, e3, g⟩
      · refine Or.inl ⟨e, fun k hk h0 h1 => ?_⟩
        rcases Nat.lt_or_eq_of_le (Nat.le_of_lt_succ hk) with hk | rfl
        · exact g k hk h0 h1
        · exact h ⟨h0, h1, Or.inl e⟩
      · refine Or.inr ⟨by omega, e2, e3, fun k hk h0 h1 => ?_⟩
        rcases Nat.lt_or_eq_of_le (Nat.le_of_lt_succ hk) with hk | rfl
        · exact g k hk h0 h1
        · rcases Nat.lt_or_ge (sp_at n (sp_lf n f p k)) (sp_at n k) with q | q
          · exact absurd ⟨h0, h1, Or.inr q⟩ h
          · exact q
theorem sp_rt_spec (n : Nat → Int32) (f p : Nat) : ∀ c, c ≤ 8 → (sp_rt n f p c = 99 ∧ ∀ k, k < c → sp_f n k f = 0 → ¬ p ≤ sp_at n k) ∨ (sp_rt n f p c < c ∧ sp_f n (sp_rt n f p c) f = 0 ∧ p ≤ sp_at n (sp_rt n f p c) ∧ ∀ k, k < c → sp_f n k f = 0 → p ≤ sp_at n k → sp_at n (sp_rt n f p c) ≤ sp_at n k)
  | 0, _ => Or.inl ⟨rfl, fun k h => absurd h (Nat.not_lt_zero k)⟩
  | c + 1, h8 => by
    have ih := sp_rt_spec n f p c (by omega)
    unfold sp_rt
    by_cases h : sp_f n c f = 0 ∧ p ≤ sp_at n c ∧ (sp_rt n f p c = 99 ∨ sp_at n c < sp_at n (sp_rt n f p c))
    · rw [if_pos h]
      refine Or.inr ⟨Nat.lt_succ_self c, h.1, h.2.1, fun k hk h0 h1 => ?_⟩
      rcases Nat.lt_or_eq_of_le (Nat.le_of_lt_succ hk) with hk | rfl
      · rcases ih with ⟨e, g⟩ | ⟨e1, e2, e3, g⟩
        · exact absurd h1 (g k hk h0)
        · have := g k hk h0 h1
          rcases h.2.2 with h9 | h9
          · omega
          · omega
      · exact Nat.le_refl _
    · rw [if_neg h]
      rcases ih with ⟨e, g⟩ | ⟨e1, e2, e3, g⟩
      · refine Or.inl ⟨e, fun k hk h0 h1 => ?_⟩
        rcases Nat.lt_or_eq_of_le (Nat.le_of_lt_succ hk) with hk | rfl
        · exact g k hk h0 h1
        · exact h ⟨h0, h1, Or.inl e⟩
      · refine Or.inr ⟨by omega, e2, e3, fun k hk h0 h1 => ?_⟩
        rcases Nat.lt_or_eq_of_le (Nat.le_of_lt_succ hk) with hk | rfl
        · exact g k hk h0 h1
        · rcases Nat.lt_or_ge (sp_at n k) (sp_at n (sp_rt n f p k)) with q | q
          · exact absurd ⟨h0, h1, Or.inr q⟩ h
          · exact q
theorem sp_wa_spec {C : Nat} {n : Nat → Int32} (p : Nat) : ∀ c, c ≤ C → (sp_wa n p c = -1 ∧ ∀ k, k < c → sp_at n k ≠ p) ∨ ∃ k, k < c ∧ sp_wa n p c = nI k ∧ sp_at n k = p
  | 0, _ => Or.inl ⟨rfl, fun k h => absurd h (Nat.not_lt_zero k)⟩
  | c + 1, h => by
    unfold sp_wa
    by_cases e : sp_at n c = p
    · rw [if_pos e]
      exact Or.inr ⟨c, Nat.lt_succ_self c, rfl, e⟩
    · rw [if_neg e]
      rcases sp_wa_spec (C := C) p c (by omega) with ⟨h1, h2⟩ | ⟨k, h1, h2, h3⟩
      · refine Or.inl ⟨h1, fun k hk => ?_⟩
        rcases Nat.lt_or_eq_of_le (Nat.le_of_lt_succ hk) with hk | rfl
        · exact h2 k hk
        · exact e
      · exact Or.inr ⟨k, by omega, h2, h3⟩
/-- the wire at a place is one -/
theorem sp_wa_at {C : Nat} {n : Nat → Int32} (h : sp_ws C n) {k : Nat} (hk : k < C) : sp_wa n (sp_at n k) C = nI k := by
  rcases sp_wa_spec (n := n) (sp_at n k) C (Nat.le_refl _) with ⟨-, h2⟩ | ⟨k', h1, h2, h3⟩
  · exact absurd rfl (h2 k hk)
  · rw [h2, h.2.2.2 k' k h1 hk h3]
theorem sp_rt_of {C : Nat} {n : Nat → Int32} (h : sp_ws C n) {f p k : Nat} (hk : k < C) (h0 : sp_f n k f = 0) (h1 : p ≤ sp_at n k) (hm : ∀ i, i < C → sp_f n i f = 0 → p ≤ sp_at n i → sp_at n k ≤ sp_at n i) : sp_rt n f p C = k := by
  rcases sp_rt_spec n f p C h.1 with ⟨-, g⟩ | ⟨e1, e2, e3, g⟩
  · exact absurd h1 (g k hk h0)
  · exact h.2.2.2 _ _ e1 hk (Nat.le_antisymm (g k hk h0 h1) (hm _ e1 e2 e3))
theorem sp_lf_of {C : Nat} {n : Nat → Int32} (h : sp_ws C n) {f p k : Nat} (hk : k < C) (h0 : sp_f n k f = 0) (h1 : sp_at n k ≤ p) (hm : ∀ i, i < C → sp_f n i f = 0 → sp_at n i ≤ p → sp_at n i ≤ sp_at n k) : sp_lf n f p C = k := by
  rcases sp_lf_spec n f p C h.1 with ⟨-, g⟩ | ⟨e1, e2, e3, g⟩
  · exact absurd h1 (g k hk h0)
  · exact h.2.2.2 _ _ e1 hk (Nat.le_antisymm (hm _ e1 e2 e3) (g k hk h0 h1))
theorem sp_rt_no {C : Nat} {n : Nat → Int32} (hC : C ≤ 8) {f p : Nat} (hm : ∀ i, i < C → sp_f n i f = 0 → ¬ p ≤ sp_at n i) : sp_rt n f p C = 99 := by
  rcases sp_rt_spec n f p C hC with ⟨g, -⟩ | ⟨e1, e2, e3, g⟩
  · exact g
  · exact absurd e3 (hm _ e1 e2)
theorem sp_lf_no {C : Nat} {n : Nat → Int32} (hC : C ≤ 8) {f p : Nat} (hm : ∀ i, i < C → sp_f n i f = 0 → ¬ sp_at n i ≤ p) : sp_lf n f p C = 99 := by
  rcases sp_lf_spec n f p C hC with ⟨g, -⟩ | ⟨e1, e2, e3, g⟩
  · exact g
  · exact absurd e3 (hm _ e1 e2)
/-- going on one place to the right -/
theorem sp_rt_no1 {C : Nat} {n : Nat → Int32} (hC : C ≤ 8) {f p : Nat} (h : sp_rt n f p C = 99) : sp_rt n f (p + 1) C = 99 := by
  refine sp_rt_no hC (fun i hi h0 h1 => ?_)
  rcases sp_rt_spec n f p C hC with ⟨-, g⟩ | ⟨e1, -⟩
  · exact g i hi h0 (by omega)
  · omega
theorem sp_rt_k1 {C : Nat} {n : Nat → Int32} (hw : sp_ws C n) {f p : Nat} (h : sp_rt n f p C ≠ 99) (h1 : p + 1 ≤ sp_at n (sp_rt n f p C)) : sp_rt n f (p + 1) C = sp_rt n f p C := by
  rcases sp_rt_spec n f p C hw.1 with ⟨g, -⟩ | ⟨e1, e2, e3, g⟩
  · exact absurd g h
  · exact sp_rt_of hw e1 e2 h1 (fun i hi h0 h9 => g i hi h0 (by omega))
theorem sp_lf_here {C : Nat} {n : Nat → Int32} (hw : sp_ws C n) {f p : Nat} (h : sp_rt n f p C ≠ 99) (h1 : sp_at n (sp_rt n f p C) = p) : sp_lf n f p C = sp_rt n f p C := by
  rcases sp_rt_spec n f p C hw.1 with ⟨g, -⟩ | ⟨e1, e2, e3, g⟩
  · exact absurd g h
  · exact sp_lf_of hw e1 e2 (by omega) (fun i hi h0 h9 => by omega)
theorem sp_lf_on {C : Nat} {n : Nat → Int32} (hw : sp_ws C n) {f p : Nat} (h : sp_rt n f (p + 1) C = 99 ∨ sp_at n (sp_rt n f (p + 1) C) ≠ p + 1) : sp_lf n f (p + 1) C = sp_lf n f p C := by
  have hC8 := hw.1
  have key : ∀ i, i < C → sp_f n i f = 0 → sp_at n i ≠ p + 1 := by
    intro i hi h0 h9
    rcases sp_rt_spec n f (p + 1) C hw.1 with ⟨-, g⟩ | ⟨e1, e2, e3, g⟩
    · exact g i hi h0 (by omega)
    · have := g i hi h0 (by omega)
      rcases h with h | h
      · omega
      · omega
  rcases sp_lf_spec n f p C hw.1 with ⟨g, g2⟩ | ⟨e1, e2, e3, g⟩
  · rw [g]
    exact sp_lf_no hw.1 (fun i hi h0 h9 => g2 i hi h0 (by have := key i hi h0; omega))
  · exact sp_lf_of hw e1 e2 (by omega) (fun i hi h0 h9 => g i hi h0 (by have := key i hi h0; omega))
theorem sp_lf_0 {C : Nat} {n : Nat → Int32} (hw : sp_ws C n) {f : Nat} (h : sp_rt n f 0 C = 99 ∨ sp_at n (sp_rt n f 0 C) ≠ 0) : sp_lf n f 0 C = 99 := by
  have hC8 := hw.1
  refine sp_lf_no hw.1 (fun i hi h0 h9 => ?_)
  rcases sp_rt_spec n f 0 C hw.1 with ⟨-, g⟩ | ⟨e1, e2, e3, g⟩
  · exact g i hi h0 (Nat.zero_le _)
  · have := g i hi h0 (Nat.zero_le _)
    rcases h with h | h
    · omega
    · omega
/-! BRIDGES -/
/-- bridge b of the memory is the row n with C wires (its tasks aside) -/
def sp_lw (n : Nat → Int32) (k f : Nat) : Int32 := if sp_f n k 7 = -6 then 0 else sp_f n k f
def rb (C : Nat) (S : Mem) (b : Nat) (n : Nat → Int32) : Prop :=
  S (mm_B b) 3 = n 3 ∧ S (mm_B b) 4 = n 0 ∧ S (mm_B b) 5 = n 1 ∧ S (mm_B b) 6 = n 2 ∧ S (mm_B b) 7 = n 4 ∧ S (mm_B b) 8 = n 5 ∧
  (∀ p, p < 20 → S (mm_L b) p = n (10 + p)) ∧ (∀ p, p < 20 → S (mm_A b) p = sp_wa n p C) ∧
  ∀ k, k < C → S (mm_W b k) 0 = sp_f n k 0 ∧ S (mm_W b k) 1 = sp_f n k 1 ∧ S (mm_W b k) 2 = sp_f n k 2 ∧ S (mm_W b k) 3 = sp_f n k 3 ∧ S (mm_W b k) 4 = sp_f n k 4 ∧ S (mm_W b k) 6 = sp_f n k 5 ∧ S (mm_W b k) 7 = sp_f n k 6 ∧ S (mm_W b k) 8 = sp_f n k 7 ∧ S (mm_W b k) 9 = sp_lw n k 8 ∧ S (mm_W b k) 10 = sp_lw n k 9 ∧ S (mm_W b k) 11 = sp_f n k 10
/-- its tasks are current -/
def rt_ (C : Nat) (S : Mem) (b : Nat) (n : Nat → Int32) : Prop := ∀ k, k < C → S (mm_W b k) 5 = sp_tk n 5 C k
/-- nothing but bridge b has changed -/
def fr_ (b : Nat) (S S' : Mem) : Prop := ∀ j, (j < mm_B b ∨ mm_B b + 12 ≤ j) → S' j = S j
theorem fr_refl (b : Nat) (S : Mem) : fr_ b S S := fun _ _ => rfl
theorem fr_trans {b : Nat} {S S1 S2 : Mem} (h : fr_ b S S1) (h2 : fr_ b S1 S2) : fr_ b S S2 := fun j hj => (h2 j hj).trans (h j hj)
theorem fr_wr {b j k : Nat} {S : Mem} {x : Int32} (h : mm_B b ≤ j) (h2 : j < mm_B b + 12) : fr_ b S (mm_wr S j k x) := fun a ha => mm_wr_orow S x (by omega)
/-- another bridge stands as it stood -/
theorem rb_fr {C b b' : Nat} {S S' : Mem} {n : Nat → Int32} (hb : b ≠ b') (hC : C ≤ 8) (h : fr_ b S S') (hr : rb C S b' n) : rb C S' b' n := by
  have e : ∀ j, mm_B b' ≤ j → j < mm_B b' + 12 → S' j = S j := fun j h1 h2 => h j (by unfold mm_B at *; omega)
  have e0 := e (mm_B b') (by unfold mm_B; omega) (by unfold mm_B; omega)
  have e1 := e (mm_L b') (by unfold mm_B mm_L; omega) (by unfold mm_B mm_L; omega)
  have e2 := e (mm_A b') (by unfold mm_B mm_A; omega) (by unfold mm_B mm_A; omega)
  unfold rb
  rw [e0, e1, e2]
  obtain ⟨h1, h2, h3, h4, h5, h6, h7, h8, h9⟩ := hr
  refine ⟨h1, h2, h3, h4, h5, h6, h7, h8, fun k hk => ?_⟩
  rw [e (mm_W b' k) (by unfold mm_B mm_W; omega) (by unfold mm_B mm_W; omega)]
  exact h9 k hk
theorem rt_fr {C b b' : Nat} {S S' : Mem} {n : Nat → Int32} (hb : b ≠ b') (hC : C ≤ 8) (h : fr_ b S S') (hr : rt_ C S b' n) : rt_ C S' b' n := by
  intro k hk
  rw [h (mm_W b' k) (by unfold mm_B mm_W; omega)]
  exact hr k hk
def sp_rf (G : gG) (b k : Nat) : Option Nat := if k = 99 then none else some (gad G (mm_W b k))
theorem sp_rf_cases (G : gG) (b k : Nat) : (k = 99 ∧ sp_rf G b k = none) ∨ (k ≠ 99 ∧ sp_rf G b k = some (gad G (mm_W b k))) := by
  by_cases h : k = 99
  · exact Or.inl ⟨h, by simp [sp_rf, h]⟩
  · exact Or.inr ⟨h, by simp [sp_rf, h]⟩
theorem sp_rt_lt {C : Nat} {z : Nat → Int32} (hC : C ≤ 8) {f p : Nat} (h : sp_rt z f p C ≠ 99) : sp_rt z f p C < C := by
  rcases sp_rt_spec z f p C hC with ⟨g, -⟩ | ⟨e1, -⟩
  · exact absurd g h
  · exact e1
theorem sp_lf_lt {C : Nat} {z : Nat → Int32} (hC : C ≤ 8) {f p : Nat} (h : sp_lf z f p C ≠ 99) : sp_lf z f p C < C := by
  rcases sp_lf_spec z f p C hC with ⟨g, -⟩ | ⟨e1, -⟩
  · exact absurd g h
  · exact e1
theorem sp_lf_le {C : Nat} {z : Nat → Int32} (hC : C ≤ 8) {f p : Nat} (h : sp_lf z f p C ≠ 99) : sp_at z (sp_lf z f p C) ≤ p := by
  rcases sp_lf_spec z f p C hC with ⟨g, -⟩ | ⟨e1, e2, e3, -⟩
  · exact absurd g h
  · exact e3
theorem sp_rt_ge {C : Nat} {z : Nat → Int32} (hC : C ≤ 8) {f p : Nat} (h : sp_rt z f p C ≠ 99) : p ≤ sp_at z (sp_rt z f p C) := by
  rcases sp_rt_spec z f p C hC with ⟨g, -⟩ | ⟨e1, e2, e3, -⟩
  · exact absurd g h
  · exact e3
/-- only tasks of bridge b have changed -/
def f5_ (C b : Nat) (S S' : Mem) : Prop := ∀ j k, (∀ w, w < C → ¬ (j = mm_W b w ∧ k = 5)) → S' j k = S j k
theorem f5_refl (C b : Nat) (S : Mem) : f5_ C b S S := fun _ _ _ => rfl
theorem f5_wr {C b w : Nat} {S S' : Mem} (h : f5_ C b S S') (hw : w < C) (x : Int32) : f5_ C b S (mm_wr S' (mm_W b w) 5 x) := by
  intro j k hj
  have := hj w hw
  rw [mm_wr_eq, if_neg this]
  exact h j k hj
theorem f5_fr {C b : Nat} {S S' : Mem} (hC : C ≤ 8) (h : f5_ C b S S') : fr_ b S S' := by
  intro j hj
  funext k
  refine h j k (fun w hw e => ?_)
  have := e.1
  unfold mm_W mm_B at *
  omega
theorem f5_rb {C b : Nat} {S S' : Mem} {z : Nat → Int32} (hC : C ≤ 8) (h : f5_ C b S S') (hr : rb C S b z) : rb C S' b z := by
  have e : ∀ j k, k ≠ 5 → S' j k = S j k := fun j k hk => h j k (fun w hw e => hk e.2)
  have e2 : ∀ j k, (j < mm_W b 0) → S' j k = S j k := fun j k hj => h j k (fun w hw e => by have := e.1; unfold mm_W at *; omega)
  obtain ⟨h1, h2, h3, h4, h5, h6, h7, h8, h9⟩ := hr
  refine ⟨(e2 _ _ (by unfold mm_B mm_W; omega)).trans h1, (e2 _ _ (by unfold mm_B mm_W; omega)).trans h2, (e2 _ _ (by unfold mm_B mm_W; omega)).trans h3, (e2 _ _ (by unfold mm_B mm_W; omega)).trans h4, (e2 _ _ (by unfold mm_B mm_W; omega)).trans h5, (e2 _ _ (by unfold mm_B mm_W; omega)).trans h6, fun p hp => (e2 _ _ (by unfold mm_L mm_W; omega)).trans (h7 p hp), fun p hp => (e2 _ _ (by unfold mm_A mm_W; omega)).trans (h8 p hp), fun k hk => ?_⟩
  obtain ⟨g1, g2, g3, g4, g5, g6, g7, g8, g9, g10, g11⟩ := h9 k hk
  exact ⟨(e _ _ (by decide)).trans g1, (e _ _ (by decide)).trans g2, (e _ _ (by decide)).trans g3, (e _ _ (by decide)).trans g4, (e _ _ (by decide)).trans g5, (e _ _ (by decide)).trans g6, (e _ _ (by decide)).trans g7, (e _ _ (by decide)).trans g8, (e _ _ (by decide)).trans g9, (e _ _ (by decide)).trans g10, (e _ _ (by decide)).trans g11⟩
theorem sp_T0 (z : Nat → Int32) (f C w : Nat) : sp_T z f C w 0 = 0 := rfl
theorem vp_20 {p : Nat} (h : p < 20) : vp_in (nI p) 20 := vp_in_nI h (by decide)
theorem vp_8 {p : Nat} (h : p < 8) : vp_in (nI p) 8 := vp_in_nI h (by decide)
theorem cl_n {p : Nat} (h : p < 1000) : (nI p).toNatClampNeg = p := nI_clamp (by omega)
theorem sp_ltN {N q : Nat} {x : Int32} (hN : N < 2 ^ 31) (hq : q ≤ N) (e : x = nI q) (c : ¬ nI N ≤ x) : q < N := by
  rcases Nat.lt_or_ge q N with h | h
  · exact h
  · exact absurd (by rw [e]; exact nI_le h (by omega)) c
theorem sp_geN {N q : Nat} {x : Int32} (hN : N < 2 ^ 31) (hq : q ≤ N) (e : x = nI q) (c : nI N ≤ x) : q = N := by
  rcases Nat.lt_or_ge q N with h | h
  · exact absurd (e ▸ c) (nI_ge h hN)
  · omega
def sp_wi (C : Nat) (x : Int32) : Nat := if 0 ≤ x ∧ x < nI C then x.toNatClampNeg else 99
theorem sp_wi_in {C : Nat} {x : Int32} (hC : C ≤ 8) (h0 : ¬ x < 0) (h1 : ¬ nI C ≤ x) : sp_wi C x = x.toNatClampNeg ∧ x.toNatClampNeg < C ∧ x = nI x.toNatClampNeg := by
  have h2 : 0 ≤ x := Int32.not_lt.mp h0
  have h3 : x < nI C := Int32.not_le.mp h1
  refine ⟨by unfold sp_wi; rw [if_pos ⟨h2, h3⟩], ?_, ?_⟩
  · have h4 := Int32.le_iff_toInt_le.mp h2
    have h5 := Int32.lt_iff_toInt_lt.mp h3
    rw [nI_toInt (by omega)] at h5
    have h6 : (0 : Int32).toInt = 0 := (by decide)
    have h7 := sp_cl (x := x) (by omega)
    omega
  · have h4 := Int32.le_iff_toInt_le.mp h2
    have h6 : (0 : Int32).toInt = 0 := (by decide)
    exact sp_nI (by omega)
theorem sp_wi_lo {C : Nat} {x : Int32} (h0 : x < 0) : sp_wi C x = 99 := by
  unfold sp_wi
  rw [if_neg (fun h => Int32.not_lt.mpr h.1 h0)]
theorem sp_wi_hi {C : Nat} {x : Int32} (h0 : nI C ≤ x) : sp_wi C x = 99 := by
  unfold sp_wi
  rw [if_neg (fun h => Int32.not_le.mpr h.2 h0)]
theorem sp_vin {x : Int32} {N : Nat} (h : x = nI x.toNatClampNeg) (h2 : x.toNatClampNeg < N) (hN : N < 2 ^ 31) : vp_in x N := by
  rw [h]; exact vp_in_nI h2 hN
/-- the search to the right goes on one place -/
theorem sp_nw {C : Nat} {z : Nat → Int32} {f p q : Nat} (h : ∀ k, k < C → sp_f z k f = 0 → p ≤ sp_at z k → ¬ sp_at z k < q) (h2 : ∀ k, k < C → sp_f z k f = 0 → p ≤ sp_at z k → sp_at z k ≠ q) : ∀ k, k < C → sp_f z k f = 0 → p ≤ sp_at z k → ¬ sp_at z k < q + 1 := by
  intro k hk h0 h1 h3
  have := h k hk h0 h1
  have := h2 k hk h0 h1
  omega
theorem sp_ctb_nn {z : Nat → Int32} {f C p w : Nat} (hL : sp_lf z f p C = 99) (hR : sp_rt z f p C = 99) : sp_ctb z f C p w = 0 := by
  unfold sp_ctb; simp [hL, hR]
theorem sp_ctb_nr {z : Nat → Int32} {f C p w : Nat} (hL : sp_lf z f p C = 99) (hR : sp_rt z f p C ≠ 99) : sp_ctb z f C p w = if w = sp_rt z f p C then 10 * z (10 + p) else 0 := by
  unfold sp_ctb; simp [hL, hR]
theorem sp_ctb_rn {z : Nat → Int32} {f C p w : Nat} (hL : sp_lf z f p C ≠ 99) (hR : sp_rt z f p C = 99) : sp_ctb z f C p w = if w = sp_lf z f p C then 10 * z (10 + p) else 0 := by
  unfold sp_ctb; simp [hL, hR]
theorem sp_ctb_eq {z : Nat → Int32} {f C p w : Nat} (hL : sp_lf z f p C ≠ 99) (he : sp_lf z f p C = sp_rt z f p C) : sp_ctb z f C p w = if w = sp_lf z f p C then 10 * z (10 + p) else 0 := by
  unfold sp_ctb; rw [if_neg (fun h => h.2.2 he), if_pos hL]
theorem sp_ctb_ne {z : Nat → Int32} {f C p w : Nat} (hL : sp_lf z f p C ≠ 99) (hR : sp_rt z f p C ≠ 99) (he : sp_lf z f p C ≠ sp_rt z f p C) : sp_ctb z f C p w = (if w = sp_rt z f p C then 10 * (z (10 + p) * (nI p - sp_f z (sp_lf z f p C) 0) / (sp_f z (sp_rt z f p C) 0 - sp_f z (sp_lf z f p C) 0))
     else if w = sp_lf z f p C then 10 * (z (10 + p) - z (10 + p) * (nI p - sp_f z (sp_lf z f p C) 0) / (sp_f z (sp_rt z f p C) 0 - sp_f z (sp_lf z f p C) 0)) else 0) := by
  unfold sp_ctb; rw [if_pos ⟨hL, hR, he⟩]
theorem sp_mulsub (a b c : Int32) : a * b - a * c = a * (b - c) := by grind
/-- what 'share' does to the tasks, in its four cases -/
def sp_sh1 (S : Mem) (b p k : Nat) : Mem := mm_wr S (mm_W b k) 5 (S (mm_W b k) 5 + 10 * S (mm_L b) p)
def sp_pt2 (S : Mem) (b p kl kr : Nat) : Int32 := if S (mm_W b kr) 0 - S (mm_W b kl) 0 ≤ 0 then 0 else S (mm_L b) p * (nI p - S (mm_W b kl) 0) / (S (mm_W b kr) 0 - S (mm_W b kl) 0)
def sp_sh2 (S : Mem) (b p kl kr : Nat) : Mem := mm_wr (mm_wr S (mm_W b kr) 5 (S (mm_W b kr) 5 + 10 * sp_pt2 S b p kl kr)) (mm_W b kl) 5 (mm_wr S (mm_W b kr) 5 (S (mm_W b kr) 5 + 10 * sp_pt2 S b p kl kr) (mm_W b kl) 5 + (10 * S (mm_L b) p - 10 * sp_pt2 S b p kl kr))
theorem sp_sh1_T {C b p k : Nat} {z : Nat → Int32} {S : Mem} (hk : k < C) (hl : S (mm_L b) p = z (10 + p)) (hT : ∀ w, w < C → S (mm_W b w) 5 = sp_T z 5 C w p) (hc : ∀ w, w < C → sp_ctb z 5 C p w = if w = k then 10 * z (10 + p) else 0) : ∀ w, w < C → sp_sh1 S b p k (mm_W b w) 5 = sp_T z 5 C w (p + 1) := by
  intro w hw
  unfold sp_sh1
  rw [sp_T, hc w hw, ← hT w hw]
  by_cases e : w = k
  · subst e
    rw [mm_wr_s, if_pos rfl, hl]
  · rw [mm_wr_n _ _ (Or.inl (mm_W_ne2 e)), if_neg e, Int32.add_zero]
theorem sp_sh2_eq {C b p k : Nat} {z : Nat → Int32} {S : Mem} (hk : k < C) (hl : S (mm_L b) p = z (10 + p)) (hT : ∀ w, w < C → S (mm_W b w) 5 = sp_T z 5 C w p) (hc : ∀ w, w < C → sp_ctb z 5 C p w = if w = k then 10 * z (10 + p) else 0) : ∀ w, w < C → sp_sh2 S b p k k (mm_W b w) 5 = sp_T z 5 C w (p + 1) := by
  intro w hw
  have e0 : sp_pt2 S b p k k = 0 := by unfold sp_pt2; rw [Int32.sub_self, if_pos (by decide)]
  unfold sp_sh2
  rw [e0, sp_T, hc w hw, ← hT w hw]
  by_cases e : w = k
  · subst e
    rw [mm_wr_s, mm_wr_s, if_pos rfl, hl]
    grind
  · rw [mm_wr_n _ _ (Or.inl (mm_W_ne2 e)), mm_wr_n _ _ (Or.inl (mm_W_ne2 e)), if_neg e, Int32.add_zero]
theorem sp_sh2_ne {C b p kl kr : Nat} {z : Nat → Int32} {S : Mem} (hne : kl ≠ kr) (hl : S (mm_L b) p = z (10 + p)) (h1 : S (mm_W b kl) 0 = sp_f z kl 0) (h2 : S (mm_W b kr) 0 = sp_f z kr 0) (hpos : ¬ sp_f z kr 0 - sp_f z kl 0 ≤ 0) (hT : ∀ w, w < C → S (mm_W b w) 5 = sp_T z 5 C w p)
    (hc : ∀ w, w < C → sp_ctb z 5 C p w = (if w = kr then 10 * (z (10 + p) * (nI p - sp_f z kl 0) / (sp_f z kr 0 - sp_f z kl 0)) else if w = kl then 10 * (z (10 + p) - z (10 + p) * (nI p - sp_f z kl 0) / (sp_f z kr 0 - sp_f z kl 0)) else 0)) : ∀ w, w < C → sp_sh2 S b p kl kr (mm_W b w) 5 = sp_T z 5 C w (p + 1) := by
  intro w hw
  have e0 : sp_pt2 S b p kl kr = z (10 + p) * (nI p - sp_f z kl 0) / (sp_f z kr 0 - sp_f z kl 0) := by unfold sp_pt2; rw [h1, h2, if_neg hpos, hl]
  unfold sp_sh2
  rw [e0, sp_T, hc w hw, ← hT w hw, hl]
  by_cases e : w = kr
  · subst e
    rw [mm_wr_n _ _ (Or.inl (mm_W_ne2 (fun h => hne h.symm))), mm_wr_s, if_pos rfl]
  · rw [if_neg e]
    by_cases e2 : w = kl
    · subst e2
      rw [mm_wr_s, mm_wr_n _ _ (Or.inl (mm_W_ne2 e)), if_pos rfl, sp_mulsub]
    · rw [mm_wr_n _ _ (Or.inl (mm_W_ne2 e2)), mm_wr_n _ _ (Or.inl (mm_W_ne2 e)), if_neg e2, Int32.add_zero]
theorem sp_sh1_f5 {C b p k : Nat} {S S' : Mem} (h : f5_ C b S S') (hk : k < C) : f5_ C b S (sp_sh1 S' b p k) := f5_wr h hk _
theorem sp_sh2_f5 {C b p kl kr : Nat} {S S' : Mem} (h : f5_ C b S S') (hk : kl < C) (hk2 : kr < C) : f5_ C b S (sp_sh2 S' b p kl kr) := f5_wr (f5_wr h hk2 _) hk _
theorem sp_pos {a b : Nat} (ha : a < 1000) (hb : b < 1000) (h : a < b) : ¬ nI b - nI a ≤ 0 := by
  rw [Int32.le_iff_toInt_le, pk_sub_toInt (by omega) (by omega)]
  have h6 : (0 : Int32).toInt = 0 := (by decide)
  omega
