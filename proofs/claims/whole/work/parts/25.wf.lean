/-! WHAT HOLDS OF EVERY STATE -/
def sp_ww (z : Nat → Int32) (k : Nat) : Prop :=
  0 ≤ (sp_f z k 0).toInt ∧ (sp_f z k 0).toInt < 20 ∧ 10 ≤ (sp_f z k 1).toInt ∧ (sp_f z k 1).toInt ≤ 200 ∧ 1 ≤ (sp_f z k 2).toInt ∧ (sp_f z k 2).toInt ≤ 20 ∧
  100 ≤ (sp_f z k 3).toInt ∧ (sp_f z k 3).toInt ≤ 50000 ∧ 0 ≤ (sp_f z k 4).toInt ∧ (sp_f z k 4).toInt ≤ 50000 ∧
  (sp_f z k 5 = 0 ∨ sp_f z k 5 = 1) ∧ (sp_f z k 10 = 0 ∨ sp_f z k 10 = 1) ∧ (sp_f z k 5 = 1 → sp_f z k 4 = 0) ∧ (sp_f z k 10 = 1 → sp_f z k 5 = 1 ∧ sp_f z k 8 = 0 ∧ sp_f z k 9 = 0 ∧ sp_f z k 7 ≠ -6) ∧
  ((sp_f z k 7 = -6 ∧ sp_f z k 8 = -6 ∧ sp_f z k 9 = -6) ∨ (0 ≤ (sp_f z k 7).toInt ∧ 0 ≤ (sp_f z k 8).toInt ∧ (sp_f z k 8).toInt ≤ 50000 ∧ 0 ≤ (sp_f z k 9).toInt ∧ (sp_f z k 9).toInt ≤ 50000))
def sp_wf (C : Nat) (z : Nat → Int32) : Prop :=
  sp_ws C z ∧ (∀ k, k < C → sp_ww z k) ∧ (∀ p, p < 20 → 0 ≤ (z (10 + p)).toInt ∧ (z (10 + p)).toInt ≤ 1000) ∧ (0 ≤ (z 4).toInt ∧ (z 4).toInt < 20) ∧
  (0 ≤ (z 0).toInt ∧ (z 0).toInt ≤ 100) ∧ (0 ≤ (z 1).toInt ∧ (z 1).toInt ≤ 100) ∧ 0 ≤ (z 2).toInt ∧ ∀ k f, C ≤ k → k < 8 → f < 14 → sp_f z k f = 0
/-- one row of the state anew -/
def sp_up (z : Nat → Int32) (k f : Nat) (x : Int32) : Nat → Int32 := fun i => if i = 30 + 14 * k + f then x else z i
theorem sp_up_f (z : Nat → Int32) {k f : Nat} (x : Int32) {k' f' : Nat} (hf : f < 14) (hf' : f' < 14) : sp_f (sp_up z k f x) k' f' = if k' = k ∧ f' = f then x else sp_f z k' f' := by
  unfold sp_f sp_up
  by_cases h : k' = k ∧ f' = f
  · rw [if_pos h, h.1, h.2, if_pos rfl]
  · rw [if_neg h, if_neg (by omega)]
theorem sp_up_lo (z : Nat → Int32) (k f : Nat) (x : Int32) {i : Nat} (hi : i < 30) : sp_up z k f x i = z i := by
  unfold sp_up
  rw [if_neg (by omega)]
def sp_brk (z : Nat → Int32) (k : Nat) : Nat → Int32 := sp_up (sp_up (sp_up z k 5 1) k 4 0) k 6 (z 2)
theorem sp_brk_lo (z : Nat → Int32) (k : Nat) {i : Nat} (hi : i < 30) : sp_brk z k i = z i := by
  unfold sp_brk
  rw [sp_up_lo _ _ _ _ hi, sp_up_lo _ _ _ _ hi, sp_up_lo _ _ _ _ hi]
theorem sp_brk_f (z : Nat → Int32) (k : Nat) {k' f' : Nat} (hf : f' < 14) : sp_f (sp_brk z k) k' f' = if k' = k ∧ f' = 6 then z 2 else if k' = k ∧ f' = 4 then 0 else if k' = k ∧ f' = 5 then 1 else sp_f z k' f' := by
  unfold sp_brk
  rw [sp_up_f _ _ (by decide) hf, sp_up_f _ _ (by decide) hf, sp_up_f _ _ (by decide) hf]
theorem sp_brk_at (z : Nat → Int32) (k k' : Nat) : sp_at (sp_brk z k) k' = sp_at z k' := by
  unfold sp_at
  rw [sp_brk_f z k (by decide)]
  simp
theorem sp_wa_congr {z z' : Nat → Int32} {p : Nat} : ∀ {c : Nat}, (∀ k, k < c → sp_at z' k = sp_at z k) → sp_wa z' p c = sp_wa z p c
  | 0, _ => rfl
  | c + 1, h => by
    unfold sp_wa
    rw [h c (Nat.lt_succ_self c), sp_wa_congr (fun k hk => h k (by omega))]
theorem sp_lf_congr {z z' : Nat → Int32} {f f' p : Nat} : ∀ {c : Nat}, c ≤ 8 → (∀ k, k < c → sp_at z' k = sp_at z k ∧ (sp_f z' k f' = 0 ↔ sp_f z k f = 0)) → sp_lf z' f' p c = sp_lf z f p c
  | 0, _, _ => rfl
  | c + 1, hc, h => by
    unfold sp_lf
    have ih := sp_lf_congr (z := z) (z' := z') (f := f) (f' := f') (p := p) (c := c) (by omega) (fun k hk => h k (by omega))
    rw [ih]
    have h1 := h c (Nat.lt_succ_self c)
    have h2 : (sp_lf z f p c = 99 ∨ sp_at z' (sp_lf z f p c) < sp_at z' c) ↔ (sp_lf z f p c = 99 ∨ sp_at z (sp_lf z f p c) < sp_at z c) := by
      by_cases e : sp_lf z f p c = 99
      · simp [e]
      · rw [h1.1, (h _ (by have := sp_lf_lt (z := z) (f := f) (p := p) (C := c) (by omega) e; omega)).1]
    rw [h1.1] at h2 ⊢
    simp only [h1.2, h2]
theorem sp_rt_congr {z z' : Nat → Int32} {f f' p : Nat} : ∀ {c : Nat}, c ≤ 8 → (∀ k, k < c → sp_at z' k = sp_at z k ∧ (sp_f z' k f' = 0 ↔ sp_f z k f = 0)) → sp_rt z' f' p c = sp_rt z f p c
  | 0, _, _ => rfl
  | c + 1, hc, h => by
    unfold sp_rt
    have ih := sp_rt_congr (z := z) (z' := z') (f := f) (f' := f') (p := p) (c := c) (by omega) (fun k hk => h k (by omega))
    rw [ih]
    have h1 := h c (Nat.lt_succ_self c)
    have h2 : (sp_rt z f p c = 99 ∨ sp_at z' c < sp_at z' (sp_rt z f p c)) ↔ (sp_rt z f p c = 99 ∨ sp_at z c < sp_at z (sp_rt z f p c)) := by
      by_cases e : sp_rt z f p c = 99
      · simp [e]
      · rw [h1.1, (h _ (by have := sp_rt_lt (z := z) (f := f) (p := p) (C := c) (by omega) e; omega)).1]
    rw [h1.1] at h2 ⊢
    simp only [h1.2, h2]
/-- tasks hang on loads, places and whole wires alone -/
theorem sp_tk_congr {C : Nat} {z z' : Nat → Int32} {f f' w : Nat} (hC : C ≤ 8) (h : ∀ k, k < C → sp_f z' k 0 = sp_f z k 0 ∧ (sp_f z' k f' = 0 ↔ sp_f z k f = 0)) (hl : ∀ p, p < 20 → z' (10 + p) = z (10 + p)) : sp_tk z' f' C w = sp_tk z f C w := by
  have h2 : ∀ k, k < C → sp_at z' k = sp_at z k ∧ (sp_f z' k f' = 0 ↔ sp_f z k f = 0) := fun k hk => ⟨by unfold sp_at; rw [(h k hk).1], (h k hk).2⟩
  have key : ∀ p, p ≤ 20 → sp_T z' f' C w p = sp_T z f C w p := by
    intro p
    induction p with
    | zero => intro _; rfl
    | succ p ih =>
      intro hp
      unfold sp_T
      rw [ih (by omega)]
      congr 1
      unfold sp_ctb
      have eL := sp_lf_congr (p := p) hC h2
      have eR := sp_rt_congr (p := p) hC h2
      rw [eL, eR, hl p (by omega)]
      by_cases cL : sp_lf z f p C = 99
      · by_cases cR : sp_rt z f p C = 99
        · simp [cL, cR]
        · simp [cL, cR]
      · by_cases cR : sp_rt z f p C = 99
        · simp [cL, cR]
        · rw [(h _ (sp_lf_lt hC cL)).1, (h _ (sp_rt_lt hC cR)).1]
  exact key 20 (Nat.le_refl _)
/-- a wire that carries nothing -/
theorem sp_tk_off {C : Nat} {z : Nat → Int32} {f w : Nat} (hC : C ≤ 8) (h : sp_f z w f ≠ 0) : sp_tk z f C w = 0 := by
  have key : ∀ p, sp_T z f C w p = 0 := by
    intro p
    induction p with
    | zero => rfl
    | succ p ih =>
      unfold sp_T
      rw [ih]
      have hL : w ≠ sp_lf z f p C ∨ sp_lf z f p C = 99 := by
        rcases sp_lf_spec z f p C hC with ⟨g, -⟩ | ⟨e1, e2, -⟩
        · exact Or.inr g
        · exact Or.inl (fun e => h (by rw [e]; exact e2))
      have hR : w ≠ sp_rt z f p C ∨ sp_rt z f p C = 99 := by
        rcases sp_rt_spec z f p C hC with ⟨g, -⟩ | ⟨e1, e2, -⟩
        · exact Or.inr g
        · exact Or.inl (fun e => h (by rw [e]; exact e2))
      have : sp_ctb z f C p w = 0 := by
        unfold sp_ctb
        rcases hL with hL | hL <;> rcases hR with hR | hR <;> simp [hL, hR]
      rw [this]
      rfl
  exact key 20
/-- by how much a wire's task is above its strength -/
def sp_ov (z : Nat → Int32) (C c : Nat) : Int32 := if sp_f z c 5 = 0 then sp_tk z 5 C c - sp_f z c 3 else 0
/-- the wire that bursts first, and by how much: the first with the greatest excess (99: none) -/
def sp_bs (z : Nat → Int32) (C : Nat) : Nat → Nat × Int32
  | 0 => (99, 0)
  | c + 1 => if (sp_bs z C c).2 < sp_ov z C c then (c, sp_ov z C c) else sp_bs z C c
def sp_bu (z : Nat → Int32) (C : Nat) : Nat := (sp_bs z C C).1
theorem sp_bs_pos (z : Nat → Int32) (C : Nat) : ∀ c, 0 ≤ (sp_bs z C c).2
  | 0 => Int32.le_refl 0
  | c + 1 => by
    unfold sp_bs
    have ih := sp_bs_pos z C c
    by_cases h : (sp_bs z C c).2 < sp_ov z C c
    · rw [if_pos h]
      exact Int32.le_of_lt (Int32.lt_of_le_of_lt ih h)
    · rw [if_neg h]
      exact ih
theorem sp_bs_lt (z : Nat → Int32) (C : Nat) : ∀ c, (sp_bs z C c).1 = 99 ∨ ((sp_bs z C c).1 < c ∧ sp_f z (sp_bs z C c).1 5 = 0)
  | 0 => Or.inl rfl
  | c + 1 => by
    have ih := sp_bs_lt z C c
    have ihp := sp_bs_pos z C c
    unfold sp_bs
    by_cases h : (sp_bs z C c).2 < sp_ov z C c
    · rw [if_pos h]
      refine Or.inr ⟨Nat.lt_succ_self c, ?_⟩
      by_cases e : sp_f z c 5 = 0
      · exact e
      · unfold sp_ov at h
        rw [if_neg e] at h
        exact absurd ihp (Int32.not_le.mpr h)
    · rw [if_neg h]
      rcases ih with g | g
      · exact Or.inl g
      · exact Or.inr ⟨by omega, g.2⟩
theorem sp_bu_lt {z : Nat → Int32} {C : Nat} (h : sp_bu z C ≠ 99) : sp_bu z C < C ∧ sp_f z (sp_bu z C) 5 = 0 := by
  rcases sp_bs_lt z C C with g | g
  · exact absurd g h
  · exact g
def sp_stl (C : Nat) : Nat → (Nat → Int32) → Nat → Int32
  | 0, z => z
  | k + 1, z => if sp_bu z C = 99 then z else sp_stl C k (sp_brk z (sp_bu z C))
def sp_sto (C : Nat) : Nat → (Nat → Int32) → Int32 → Int32
  | 0, _, m => m
  | k + 1, z, m => if sp_bu z C = 99 then m else sp_sto C k (sp_brk z (sp_bu z C)) (m ||| (1 <<< (nI (sp_bu z C) &&& 31)))
/-- what a break keeps -/
theorem sp_brk_ws {C : Nat} {z : Nat → Int32} (h : sp_ws C z) (k : Nat) : sp_ws C (sp_brk z k) := by
  refine ⟨h.1, (sp_brk_lo z k (by decide)).trans h.2.1, fun i hi => ?_, fun i j hi hj e => h.2.2.2 i j hi hj (by rw [sp_brk_at, sp_brk_at] at e; exact e)⟩
  rw [sp_brk_at, sp_brk_f z k (by decide)]
  simpa using h.2.2.1 i hi
theorem sp_brk_wf {C : Nat} {z : Nat → Int32} (h : sp_wf C z) {k : Nat} (hk : k < C) : sp_wf C (sp_brk z k) := by
  obtain ⟨h1, h2, h3, h4, h5, h6, h7, h8⟩ := h
  refine ⟨sp_brk_ws h1 k, fun i hi => ?_, fun p hp => by rw [sp_brk_lo z k (by omega)]; exact h3 p hp, by rw [sp_brk_lo z k (by decide)]; exact h4, by rw [sp_brk_lo z k (by decide)]; exact h5, by rw [sp_brk_lo z k (by decide)]; exact h6, by rw [sp_brk_lo z k (by decide)]; exact h7, fun i f hi hi8 hf => ?_⟩
  · have g := h2 i hi
    unfold sp_ww at g ⊢
    by_cases e : i = k
    · subst e
      obtain ⟨a1, a2, a3, a4, a5, a6, a7, a8, a9, a10, a11, a12, a13, a14, a15⟩ := g
      have e4 : sp_f (sp_brk z i) i 4 = 0 := by rw [sp_brk_f z i (by decide)]; simp
      have e5 : sp_f (sp_brk z i) i 5 = 1 := by rw [sp_brk_f z i (by decide)]; simp
      have e2 : ∀ f, f < 14 → f ≠ 4 → f ≠ 5 → f ≠ 6 → sp_f (sp_brk z i) i f = sp_f z i f := fun f hf h4 h5 h6 => by rw [sp_brk_f z i hf]; simp [h4, h5, h6]
      rw [e2 0 (by decide) (by decide) (by decide) (by decide), e2 1 (by decide) (by decide) (by decide) (by decide), e2 2 (by decide) (by decide) (by decide) (by decide), e2 3 (by decide) (by decide) (by decide) (by decide), e4, e5, e2 7 (by decide) (by decide) (by decide) (by decide), e2 8 (by decide) (by decide) (by decide) (by decide), e2 9 (by decide) (by decide) (by decide) (by decide), e2 10 (by decide) (by decide) (by decide) (by decide)]
      exact ⟨a1, a2, a3, a4, a5, a6, a7, a8, by decide, by decide, Or.inr rfl, a12, fun _ => rfl, fun q => ⟨rfl, (a14 q).2⟩, a15⟩
    · have e2 : ∀ f, f < 14 → sp_f (sp_brk z k) i f = sp_f z i f := fun f hf => by rw [sp_brk_f z k hf]; simp [e]
      rw [e2 0 (by decide), e2 1 (by decide), e2 2 (by decide), e2 3 (by decide), e2 4 (by decide), e2 5 (by decide), e2 7 (by decide), e2 8 (by decide), e2 9 (by decide), e2 10 (by decide)]
      exact g
  · rw [sp_brk_f z k hf]
    have e : ¬ i = k := by omega
    simp only [e, false_and, if_false]
    exact h8 i f hi hi8 hf
