/-! ONE ORDER, CHECKED AND READ -/
theorem m1_le {t : Nat → Int32} {L b : Nat} (h : b < L) : (m1 t L b).2.2 ≤ L ∧ b + 1 ≤ (m1 t L b).2.2 ∧ ((m1 t L b).2.1 = 0 ∨ (m1 t L b).2.1 = 1) := by
  unfold m1
  by_cases c : sg t L b = 104
  · rw [if_pos c]; exact ⟨h, Nat.le_refl _, Or.inl rfl⟩
  · rw [if_neg c]
    have := mn_le (t := t) (i := b + 1) h
    exact ⟨this.1, this.2.1, this.2.2⟩
theorem m2_le {t : Nat → Int32} {L j : Nat} (h : j ≤ L) : (m2 t L j).2.2 ≤ L ∧ j ≤ (m2 t L j).2.2 ∧ ((m2 t L j).2.1 = 0 ∨ (m2 t L j).2.1 = 1) := by
  unfold m2
  by_cases c : sg t L j = 61
  · rw [if_pos c]
    have := mn_le (t := t) (i := j + 1) (sg_61 c (by decide))
    exact ⟨this.1, by have := this.2.1; omega, this.2.2⟩
  · rw [if_neg c]; exact ⟨h, Nat.le_refl _, Or.inr rfl⟩
theorem au_bad {t : Nat → Int32} {L b : Nat} (hb : b ≤ L) (h : ¬ mk (sg t L b)) : au_f t L (L - b) b 0 0 0 = nI b := by
  rcases Nat.lt_or_ge b L with g | g
  · rw [sg_t g] at h
    rw [au_lt g, au_ok0, if_pos]
    exact if_neg (fun k => h k)
  · have e : b = L := by omega
    subst e
    rw [au_eq, if_neg (fun k => k.elim (fun k => absurd k (by decide)) (fun k => absurd k.1 (by decide)))]
theorem au_one {t : Nat → Int32} {L b : Nat} (hL : L ≤ 60) (h : mk (sg t L b)) (hn : ¬ (sg t L b = 112 ∧ (m1 t L b).2.1 = 0)) : au_f t L (L - b) b 0 0 0 = if (m1 t L b).2.1 = 0 then fin_ t L (m1 t L b).2.2 else nI (m1 t L b).2.2 := by
  have g := mk_lt h
  unfold m1 at hn ⊢
  rw [sg_t g] at h hn ⊢
  rw [au_lt g, au_ok0, au_d0, au_e0, au_v0, if_neg (fun k => absurd (k.symm.trans (if_pos h)) (by decide))]
  by_cases c : t b = 104
  · simp only [if_pos c]
    rw [if_neg (show ¬ t b = 112 by rw [c]; decide), if_pos trivial]
    unfold fin_
    rcases Nat.lt_or_ge (b + 1) L with g2 | g2
    · rw [if_neg (by omega), au_lt g2, au_ok3, au_d3, au_e3, au_v3]
      by_cases k : t (b + 1) = 59
      · rw [if_pos k, if_neg (by decide), if_pos k]
      · rw [if_neg k, if_pos rfl, if_neg k]
    · rw [if_pos g2]
      have e : L = b + 1 := by omega
      rw [e, au_eq, if_pos (Or.inl rfl)]
  · simp only [if_neg c] at hn ⊢
    by_cases k : t b = 112
    · have hw : ¬ (mn t L (b + 1)).2.1 = 0 := fun e => hn ⟨k, e⟩
      rw [au_1n g hL, if_neg hw, if_neg hw]
    · rw [if_neg k, au_1n g hL]
      by_cases hw : (mn t L (b + 1)).2.1 = 0
      · rw [if_pos hw, if_pos hw, if_pos rfl]
      · rw [if_neg hw, if_neg hw]
theorem au_two {t : Nat → Int32} {L b : Nat} (hL : L ≤ 60) (h : sg t L b = 112) (hw : (m1 t L b).2.1 = 0) : au_f t L (L - b) b 0 0 0 = if (m2 t L (m1 t L b).2.2).2.1 = 0 then fin_ t L (m2 t L (m1 t L b).2.2).2.2 else nI (m2 t L (m1 t L b).2.2).2.2 := by
  have g := sg_61 h (by decide)
  have e1 : m1 t L b = mn t L (b + 1) := by unfold m1; rw [if_neg (by rw [h]; decide)]
  have hl := mn_le (t := t) (i := b + 1) g
  rw [e1] at hw ⊢
  rw [sg_t g] at h
  rw [au_lt g, au_ok0, au_d0, au_e0, au_v0, if_neg (by rw [h]; decide), if_neg (by rw [h]; decide), if_pos h, au_1n g hL, if_pos hw, if_neg (by decide)]
  generalize (mn t L (b + 1)).2.2 = j at hl
  unfold m2
  rcases Nat.lt_or_ge j L with g2 | g2
  · rw [if_neg (by omega), sg_t g2]
    by_cases k : t j = 61
    · rw [if_pos k, if_pos k, au_1n g2 hL]
      rw [if_pos rfl]
    · rw [if_neg k, if_neg k]
      rw [if_neg (show ¬ (1 : Int32) = 0 by decide)]
  · have hsg : ¬ sg t L j = 61 := fun k => absurd (sg_61 k (by decide)) (by omega)
    rw [if_pos g2, if_neg hsg]
    rw [if_neg (show ¬ (1 : Int32) = 0 by decide)]
/-- an order that ends well is followed by the end or a semicolon -/
def cnf (t : Nat → Int32) (L j : Nat) : Prop := L ≤ j ∨ t j = 59
theorem cnf_nd {t : Nat → Int32} {L j : Nat} (h : cnf t L j) : ¬ (j < L ∧ sp_in (t j) 48 57 ≠ 0) := fun k => by
  rcases h with h | h
  · omega
  · rw [h] at k; exact absurd (by decide) k.2
theorem rn_mnum {t : Nat → Int32} {L : Nat} : ∀ (k k' i : Nat) (v : Int32), L ≤ i + k → L ≤ i + k' → ¬ ((mnum t L k' i v).2 < L ∧ sp_in (t (mnum t L k' i v).2) 48 57 ≠ 0) → rn t L k i v = mnum t L k' i v
  | k, 0, i, v, h1, h2, h3 => by
    have e : L ≤ i := by omega
    rw [mnum]
    cases k with
    | zero => rfl
    | succ k => rw [rn, if_neg (fun g => absurd g.1 (by omega))]
  | k, k' + 1, i, v, h1, h2, h3 => by
    by_cases c : 0 < v ∧ sp_in (sg t L i) 48 57 ≠ 0 ∧ 10 * v + sg t L i - 48 ≤ 99999
    · obtain ⟨g, d1, d2, d3⟩ := dg_b c.2.1
      rw [mnum, if_pos c] at h3 ⊢
      obtain ⟨k1, rfl⟩ : ∃ k1, k = k1 + 1 := ⟨k - 1, by omega⟩
      rw [rn, if_pos ⟨g, d3⟩, sg_t g, as_48]
      rw [sg_t g, as_48] at h3
      exact rn_mnum k1 k' (i + 1) _ (by omega) (by omega) h3
    · rw [mnum_stop c] at h3 ⊢
      cases k with
      | zero => rfl
      | succ k => rw [rn, if_neg h3]
theorem rn_mn {t : Nat → Int32} {L i : Nat} (hL : L ≤ 60) (hw : (mn t L i).2.1 = 0) (hn : ¬ ((mn t L i).2.2 < L ∧ sp_in (t (mn t L i).2.2) 48 57 ≠ 0)) : rn t L 60 i 0 = ((mn t L i).1, (mn t L i).2.2) := by
  unfold mn at hw hn ⊢
  by_cases c : sp_in (sg t L i) 48 57 = 0
  · rw [if_pos c] at hw
    exact absurd hw (show ¬ (1 : Int32) = 0 by decide)
  · obtain ⟨g, d1, d2, d3⟩ := dg_b c
    rw [if_neg c] at hn ⊢
    rw [rn, if_pos ⟨g, d3⟩, show (10 : Int32) * 0 + (t i - 48) = t i - 48 from by rw [show (10 : Int32) * 0 = 0 by decide, Int32.zero_add]]
    rw [sg_t g] at hn ⊢
    exact rn_mnum 59 60 (i + 1) _ (by omega) (by omega) hn
theorem ro_two {t : Nat → Int32} {L b : Nat} (hL : L ≤ 60) (h : sg t L b = 112) (hw : (m1 t L b).2.1 = 0) (hw2 : (m2 t L (m1 t L b).2.2).2.1 = 0) (hc : cnf t L (m2 t L (m1 t L b).2.2).2.2) : ro_1 t L b = (m1 t L b).1 ∧ ro_2 t L b = (m2 t L (m1 t L b).2.2).1 ∧ ro_n t L b = (m2 t L (m1 t L b).2.2).2.2 + 1 := by
  have g := sg_61 h (by decide)
  have e1 : m1 t L b = mn t L (b + 1) := by unfold m1; rw [if_neg (by rw [h]; decide)]
  rw [e1] at hw hw2 hc ⊢
  have h61 : sg t L (mn t L (b + 1)).2.2 = 61 := by
    by_cases k : sg t L (mn t L (b + 1)).2.2 = 61
    · exact k
    · unfold m2 at hw2
      rw [if_neg k] at hw2
      exact absurd hw2 (show ¬ (1 : Int32) = 0 by decide)
  have e2 : m2 t L (mn t L (b + 1)).2.2 = mn t L ((mn t L (b + 1)).2.2 + 1) := by unfold m2; rw [if_pos h61]
  have g2 := sg_61 h61 (by decide)
  rw [e2] at hw2 hc ⊢
  have ht : t (mn t L (b + 1)).2.2 = 61 := (sg_t g2).symm.trans h61
  have r1 := rn_mn (i := b + 1) hL hw (fun k => by rw [ht] at k; exact absurd (by decide) k.2)
  have r2 := rn_mn (i := (mn t L (b + 1)).2.2 + 1) hL hw2 (cnf_nd hc)
  unfold ro_1 ro_2 ro_n
  rw [r1]
  dsimp only
  rw [if_pos ⟨g2, ht⟩, if_pos ⟨g2, ht⟩, r2]
  exact ⟨rfl, rfl, rfl⟩
theorem ro_one {t : Nat → Int32} {L b : Nat} (hL : L ≤ 60) (h : mk (sg t L b)) (hw : (m1 t L b).2.1 = 0) (hc : cnf t L (m1 t L b).2.2) : ro_1 t L b = (m1 t L b).1 ∧ ro_n t L b = (m1 t L b).2.2 + 1 := by
  have g := mk_lt h
  have r1 : rn t L 60 (b + 1) 0 = ((m1 t L b).1, (m1 t L b).2.2) := by
    unfold m1 at hw hc ⊢
    by_cases c : sg t L b = 104
    · rw [if_pos c] at hc ⊢
      rw [rn, if_neg (cnf_nd hc)]
    · rw [if_neg c] at hw hc ⊢
      exact rn_mn hL hw (cnf_nd hc)
  unfold ro_1 ro_n
  rw [r1]
  dsimp only
  refine ⟨rfl, if_neg (fun k => ?_)⟩
  rcases hc with hc | hc
  · omega
  · rw [hc] at k; exact absurd k.2 (by decide)
