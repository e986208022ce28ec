/-! HISTORY -/
abbrev St : Type := Nat × (Nat → Int32)
/-- bridge b holds the state q -/
def bo (S : Mem) (b : Nat) (q : St) : Prop := q.1 ≤ 8 ∧ q.2 3 = nI q.1 ∧ rb q.1 S b q.2 ∧ rt_ q.1 S b q.2
theorem bo_eq {S S' : Mem} {b : Nat} {q : St} (h : bo S b q) (e : ∀ j, mm_B b ≤ j → j < mm_B b + 12 → S' j = S j) : bo S' b q := by
  obtain ⟨h1, h2, ⟨g1, g2, g3, g4, g5, g6, g7, g8, g9⟩, h4⟩ := h
  have e0 := e (mm_B b) (by unfold mm_B; omega) (by unfold mm_B; omega)
  have e1 := e (mm_L b) (by unfold mm_B mm_L; omega) (by unfold mm_B mm_L; omega)
  have e2 := e (mm_A b) (by unfold mm_B mm_A; omega) (by unfold mm_B mm_A; omega)
  have e3 : ∀ k, k < 8 → S' (mm_W b k) = S (mm_W b k) := fun k hk => e (mm_W b k) (by unfold mm_B mm_W; omega) (by unfold mm_B mm_W; omega)
  refine ⟨h1, h2, ?_, fun k hk => by rw [e3 k (by omega)]; exact h4 k hk⟩
  unfold rb
  rw [e0, e1, e2]
  exact ⟨g1, g2, g3, g4, g5, g6, g7, g8, fun k hk => by rw [e3 k (by omega)]; exact g9 k hk⟩
/-- m states of the history stand, kk of them count; the row of states is a permutation of the bridges 4..10 -/
def ch (S : Mem) (kk m : Nat) (hs : Nat → St) : Prop := (kk ≤ 6 ∧ m ≤ 7) ∧ S 3 1 = nI kk ∧ ∃ hb : Nat → Nat, (∀ i, i < 7 → S 4 i = nI (hb i) ∧ 4 ≤ hb i ∧ hb i < 11) ∧ (∀ i j, i < 7 → j < 7 → hb i = hb j → i = j) ∧ ∀ i, i < m → bo S (hb i) (hs i)
def sp_pk (kk : Nat) : Nat := if kk < 6 then kk + 1 else 6
def sp_psh (kk : Nat) (hs : Nat → St) : Nat → St := if kk < 6 then hs else fun i => hs (i + 1)
def sp_rot (r : Nat → Int32) : Nat → Int32 := fun i => if i < 6 then r (i + 1) else if i = 6 then r 0 else r i
theorem ch_mono {S : Mem} {kk m m' : Nat} {hs : Nat → St} (h : ch S kk m hs) (hm : m' ≤ m) : ch S kk m' hs := by
  obtain ⟨h1, h2, hb, h3, h4, h5⟩ := h
  exact ⟨⟨h1.1, by omega⟩, h2, hb, h3, h4, fun i hi => h5 i (by omega)⟩
theorem ch_eq {S S' : Mem} {kk m : Nat} {hs : Nat → St} (h : ch S kk m hs) (e3 : S' 3 = S 3) (e4 : S' 4 = S 4) (e : ∀ j, mm_B 4 ≤ j → S' j = S j) : ch S' kk m hs := by
  obtain ⟨h1, h2, hb, h3, h4, h5⟩ := h
  exact ⟨h1, by rw [e3]; exact h2, hb, fun i hi => by rw [e4]; exact h3 i hi, h4, fun i hi => bo_eq (h5 i hi) (fun j hj _ => e j (by have := (h3 i (by omega)).2.1; unfold mm_B at *; omega))⟩
/-- the noted state stands behind the kept ones -/
theorem ch_note {S S' : Mem} {kk : Nat} {hs : Nat → St} {q : St} (h : ch S kk kk hs) (e3 : S' 3 = S 3) (e4 : S' 4 = S 4) (hn : ∀ hb, S 4 kk = nI hb → 4 ≤ hb → hb < 11 → bo S' hb q ∧ ∀ j, (j < mm_B hb ∨ mm_B hb + 12 ≤ j) → S' j = S j) : ch S' kk (kk + 1) (va_up hs kk q) := by
  obtain ⟨h1, h2, hb, h3, h4, h5⟩ := h
  obtain ⟨n1, n2⟩ := hn (hb kk) (h3 kk (by omega)).1 (h3 kk (by omega)).2.1 (h3 kk (by omega)).2.2
  refine ⟨⟨h1.1, by omega⟩, by rw [e3]; exact h2, hb, fun i hi => by rw [e4]; exact h3 i hi, h4, fun i hi => ?_⟩
  by_cases g : i = kk
  · subst g
    rw [va_up_self]
    exact n1
  · rw [va_up_ne _ _ g]
    refine bo_eq (h5 i (by omega)) (fun j hj hj2 => n2 j ?_)
    have : hb i ≠ hb kk := fun e => g (h4 i kk (by omega) (by omega) e)
    unfold mm_B at *
    omega
theorem ch_more {S S' : Mem} {kk : Nat} {hs : Nat → St} (h : ch S kk (kk + 1) hs) (hk : kk < 6) (e3 : S' 3 1 = nI (kk + 1)) (e4 : S' 4 = S 4) (e : ∀ j, mm_B 4 ≤ j → S' j = S j) : ch S' (kk + 1) (kk + 1) hs := by
  obtain ⟨h1, h2, hb, h3, h4, h5⟩ := h
  exact ⟨⟨by omega, by omega⟩, e3, hb, fun i hi => by rw [e4]; exact h3 i hi, h4, fun i hi => bo_eq (h5 i hi) (fun j hj _ => e j (by have := (h3 i (by omega)).2.1; unfold mm_B at *; omega))⟩
theorem ch_rot {S S' : Mem} {hs : Nat → St} (h : ch S 6 7 hs) (e3 : S' 3 = S 3) (e4 : S' 4 = sp_rot (S 4)) (e : ∀ j, mm_B 4 ≤ j → S' j = S j) : ch S' 6 6 (fun i => hs (i + 1)) := by
  obtain ⟨h1, h2, hb, h3, h4, h5⟩ := h
  refine ⟨⟨by omega, by omega⟩, by rw [e3]; exact h2, fun i => hb (if i < 6 then i + 1 else 0), fun i hi => ?_, fun i j hi hj g => ?_, fun i hi => ?_⟩
  · rw [e4]
    unfold sp_rot
    dsimp only
    by_cases g : i < 6
    · rw [if_pos g, if_pos g]
      exact h3 (i + 1) (by omega)
    · rw [if_neg g, if_neg g, if_pos (by omega)]
      exact h3 0 (by omega)
  · have := h4 _ _ (by split <;> omega) (by split <;> omega) g
    split at this <;> split at this <;> omega
  · show bo S' (hb (if i < 6 then i + 1 else 0)) (hs (i + 1))
    rw [if_pos hi]
    exact bo_eq (h5 (i + 1) (by omega)) (fun j hj _ => e j (by have := (h3 (i + 1) (by omega)).2.1; unfold mm_B at *; omega))
theorem sp_err_01 (x : Int32) : sp_err x = 0 ∨ sp_err x = 1 := by
  unfold sp_err
  split
  · exact Or.inr rfl
  · exact Or.inl rfl
