/-! THE CHECKER AND THE READER AGREE -/
theorem au_lt {t : Nat → Int32} {L j : Nat} (h : j < L) (d e v : Int32) : au_f t L (L - j) j d e v = if au_ok d e v (t j) = 0 then nI j else au_f t L (L - (j + 1)) (j + 1) (au_d d e v (t j)) (au_e d e v (t j)) (au_v d e v (t j)) := by
  rw [show L - j = (L - (j + 1)) + 1 by omega]
  rfl
theorem au_eq {t : Nat → Int32} {L : Nat} (d e v : Int32) : au_f t L (L - L) L d e v = if d = 3 ∨ (d = 2 ∧ e = 0) then -6 else nI L := by
  rw [Nat.sub_self]; rfl
theorem au_ok0 (e v c : Int32) : au_ok 0 e v c = if c = 103 ∨ c = 104 ∨ c = 116 ∨ c = 112 ∨ c = 100 then 1 else 0 := by unfold au_ok; rw [if_pos rfl]
theorem au_d0 (e v c : Int32) : au_d 0 e v c = if c = 104 then 3 else 1 := by unfold au_d; rw [if_pos rfl]
theorem au_e0 (e v c : Int32) : au_e 0 e v c = if c = 112 then 1 else 0 := by unfold au_e; rw [if_pos rfl]
theorem au_v0 (e v c : Int32) : au_v 0 e v c = v := by unfold au_v; rw [if_pos rfl]
theorem au_ok1 (e v c : Int32) : au_ok 1 e v c = sp_in c 48 57 := by unfold au_ok; rw [if_neg (by decide), if_pos rfl]
theorem au_d1 (e v c : Int32) : au_d 1 e v c = 2 := by unfold au_d; rw [if_neg (by decide), if_pos rfl]
theorem au_e1 (e v c : Int32) : au_e 1 e v c = e := by unfold au_e; rw [if_neg (by decide), if_pos rfl]
theorem au_v1 (e v c : Int32) : au_v 1 e v c = c - 48 := by unfold au_v; rw [if_neg (by decide), if_pos rfl]
theorem au_ok2 (e v c : Int32) : au_ok 2 e v c = if sp_in c 48 57 = 0 then (if e = 0 then (if c = 59 then 1 else 0) else (if c = 61 then 1 else 0)) else (if v = 0 then 0 else if 10 * v + (c - 48) ≤ 99999 then 1 else 0) := by unfold au_ok; rw [if_neg (by decide), if_neg (by decide), if_pos rfl]
theorem au_d2 (e v c : Int32) : au_d 2 e v c = if sp_in c 48 57 = 0 then (if e = 0 then 0 else 1) else 2 := by unfold au_d; rw [if_neg (by decide), if_neg (by decide), if_pos rfl]
theorem au_e2 (e v c : Int32) : au_e 2 e v c = if sp_in c 48 57 = 0 then (if e = 0 then e else 0) else e := by unfold au_e; rw [if_neg (by decide), if_neg (by decide), if_pos rfl]
theorem au_v2 (e v c : Int32) : au_v 2 e v c = if sp_in c 48 57 = 0 then v else (if v = 0 then v else 10 * v + (c - 48)) := by unfold au_v; rw [if_neg (by decide), if_neg (by decide), if_pos rfl]
theorem au_ok3 (e v c : Int32) : au_ok 3 e v c = if c = 59 then 1 else 0 := by unfold au_ok; rw [if_neg (by decide), if_neg (by decide), if_neg (by decide)]
theorem au_d3 (e v c : Int32) : au_d 3 e v c = 0 := by unfold au_d; rw [if_neg (by decide), if_neg (by decide), if_neg (by decide)]
theorem au_e3 (e v c : Int32) : au_e 3 e v c = e := by unfold au_e; rw [if_neg (by decide), if_neg (by decide), if_neg (by decide)]
theorem au_v3 (e v c : Int32) : au_v 3 e v c = v := by unfold au_v; rw [if_neg (by decide), if_neg (by decide), if_neg (by decide)]
theorem au_ind (t : Nat → Int32) (L : Nat) : ∀ (k i : Nat), (∀ e v e' v', au_f t L k i 0 e v = au_f t L k i 0 e' v') ∧ (∀ e v v', au_f t L k i 1 e v = au_f t L k i 1 e v') ∧ (∀ e v e' v', au_f t L k i 3 e v = au_f t L k i 3 e' v')
  | 0, i => ⟨fun _ _ _ _ => rfl, fun _ _ _ => rfl, fun _ _ _ _ => rfl⟩
  | k + 1, i => by
    obtain ⟨h0, h1, h3⟩ := au_ind t L k (i + 1)
    refine ⟨fun e v e' v' => ?_, fun e v v' => ?_, fun e v e' v' => ?_⟩
    · rw [au_f, au_f, au_ok0, au_ok0, au_d0, au_d0, au_e0, au_e0, au_v0, au_v0]
      by_cases c : t i = 104
      · rw [if_pos c, h3 _ v _ v']
      · rw [if_neg c, h1 _ v v']
    · rw [au_f, au_f, au_ok1, au_ok1, au_d1, au_d1, au_e1, au_e1, au_v1, au_v1]
    · rw [au_f, au_f, au_ok3, au_ok3, au_d3, au_d3, au_e3, au_e3, au_v3, au_v3, h0 e v e' v']
theorem au_i0 (t : Nat → Int32) (L k i : Nat) (e v : Int32) : au_f t L k i 0 e v = au_f t L k i 0 0 0 := (au_ind t L k i).1 e v 0 0
theorem au_i1 (t : Nat → Int32) (L k i : Nat) (e v : Int32) : au_f t L k i 1 e v = au_f t L k i 1 e 0 := (au_ind t L k i).2.1 e v 0
/-- what comes behind an order -/
def fin_ (t : Nat → Int32) (L j : Nat) : Int32 := if L ≤ j then -6 else if t j = 59 then au_f t L (L - (j + 1)) (j + 1) 0 0 0 else nI j
theorem sg_t {t : Nat → Int32} {L j : Nat} (h : j < L) : sg t L j = t j := by unfold sg; rw [if_pos h]
def stp (t : Nat → Int32) (L j : Nat) (v : Int32) : Prop := ¬ (0 < v ∧ sp_in (sg t L j) 48 57 ≠ 0 ∧ 10 * v + sg t L j - 48 ≤ 99999)
theorem as_48 (a b : Int32) : a + b - 48 = a + (b - 48) := by rw [Int32.sub_eq_add_neg, Int32.sub_eq_add_neg, Int32.add_assoc]
/-- in a number that does not grow -/
theorem au_2s {t : Nat → Int32} {L j : Nat} {e v : Int32} (hj : j ≤ L) (hv : 0 ≤ v) (hs : stp t L j v) : au_f t L (L - j) j 2 e v = if e = 0 then fin_ t L j else if L ≤ j then nI j else if t j = 61 then au_f t L (L - (j + 1)) (j + 1) 1 0 0 else nI j := by
  have hz : j < L → ¬ sp_in (t j) 48 57 = 0 → (if v = 0 then (0 : Int32) else if 10 * v + (t j - 48) ≤ 99999 then 1 else 0) = 0 := fun g c => by
    by_cases h : v = 0
    · rw [if_pos h]
    · rw [if_neg h, if_neg]
      intro k
      refine hs ⟨?_, by rw [sg_t g]; exact c, by rw [sg_t g, as_48]; exact k⟩
      rcases Int32.le_iff_lt_or_eq.mp hv with a | a
      · exact a
      · exact absurd a.symm h
  have n59 : ¬ sp_in (t j) 48 57 = 0 → ¬ t j = 59 := fun c k => c (by rw [k]; decide)
  have n61 : ¬ sp_in (t j) 48 57 = 0 → ¬ t j = 61 := fun c k => c (by rw [k]; decide)
  unfold fin_
  rcases Nat.lt_or_ge j L with g | g
  · simp only [if_neg (show ¬ L ≤ j by omega)]
    rw [au_lt g, au_ok2, au_d2, au_e2, au_v2]
    by_cases c : sp_in (t j) 48 57 = 0
    · simp only [if_pos c]
      by_cases h : e = 0
      · simp only [if_pos h]
        by_cases k : t j = 59
        · simp only [if_pos k]
          rw [if_neg (by decide), au_i0]
        · simp only [if_neg k, if_true]
      · simp only [if_neg h]
        by_cases k : t j = 61
        · simp only [if_pos k]
          rw [if_neg (by decide), au_i1]
        · simp only [if_neg k, if_true]
    · simp only [if_neg c, hz g c, if_true, if_neg (n59 c), if_neg (n61 c)]
      split <;> rfl
  · have e1 : j = L := by omega
    subst e1
    rw [au_eq]
    simp only [if_pos g]
    by_cases h : e = 0
    · rw [if_pos h, if_pos (Or.inr ⟨trivial, h⟩)]
    · rw [if_neg h, if_neg (fun k => k.elim (fun k => absurd k (by decide)) (fun k => h k.2))]
theorem dg_b {t : Nat → Int32} {L j : Nat} (h : sp_in (sg t L j) 48 57 ≠ 0) : j < L ∧ 48 ≤ (t j).toInt ∧ (t j).toInt ≤ 57 ∧ sp_in (t j) 48 57 ≠ 0 := by
  rcases Nat.lt_or_ge j L with g | g
  · have h2 := h
    rw [sg_t g] at h2
    have := sp_in_1 h2
    rw [show (48 : Int32).toInt = 48 by decide, show (57 : Int32).toInt = 57 by decide] at this
    exact ⟨g, this.1, this.2, h2⟩
  · exact absurd (sg_no g) h
/-- the number in a state that grows -/
theorem au_2n {t : Nat → Int32} {L : Nat} {e : Int32} : ∀ (k j : Nat) (v : Int32), j ≤ L → L ≤ j + k → 0 ≤ v.toInt → v.toInt ≤ 99999 → au_f t L (L - j) j 2 e v = au_f t L (L - (mnum t L k j v).2) (mnum t L k j v).2 2 e (mnum t L k j v).1 ∧ 0 ≤ (mnum t L k j v).1 ∧ stp t L (mnum t L k j v).2 (mnum t L k j v).1
  | 0, j, v, h1, h2, h3, h4 => by
    refine ⟨rfl, ?_, fun h => h.2.1 (sg_no (by show L ≤ j; omega))⟩
    rw [Int32.le_iff_toInt_le]
    exact h3
  | k + 1, j, v, h1, h2, h3, h4 => by
    by_cases c : 0 < v ∧ sp_in (sg t L j) 48 57 ≠ 0 ∧ 10 * v + sg t L j - 48 ≤ 99999
    · obtain ⟨g, d1, d2, d3⟩ := dg_b c.2.1
      have e0 : sg t L j = t j := sg_t g
      have e1 : (10 * v).toInt = 10 * v.toInt := by
        rw [i32_mul] <;> rw [show (10 : Int32).toInt = 10 by decide] <;> omega
      have e2 : (t j - 48).toInt = (t j).toInt - 48 := by
        rw [i32_sub] <;> rw [show (48 : Int32).toInt = 48 by decide] <;> omega
      have e3 : (10 * v + (t j - 48)).toInt = 10 * v.toInt + ((t j).toInt - 48) := by
        rw [i32_add] <;> rw [e1, e2] <;> omega
      have c3 := c.2.2
      rw [e0, as_48] at c3
      have h5 := c3
      rw [Int32.le_iff_toInt_le, e3, show (99999 : Int32).toInt = 99999 by decide] at h5
      have hv0 : ¬ v = 0 := fun h => by rw [h] at c; exact absurd c.1 (by decide)
      rw [mnum, if_pos c, e0, as_48, au_lt g, au_ok2, au_d2, au_e2, au_v2]
      simp only [if_neg d3, if_neg hv0, if_pos c3]
      rw [if_neg (by decide)]
      exact au_2n k (j + 1) _ g (by omega) (by omega) (by omega)
    · rw [mnum_stop c]
      refine ⟨rfl, ?_, c⟩
      rw [Int32.le_iff_toInt_le]
      exact h3
/-- a number is due -/
theorem au_1n {t : Nat → Int32} {L i : Nat} {e : Int32} (hi : i ≤ L) (hL : L ≤ 60) : au_f t L (L - i) i 1 e 0 = if (mn t L i).2.1 = 0 then (if e = 0 then fin_ t L (mn t L i).2.2 else if L ≤ (mn t L i).2.2 then nI (mn t L i).2.2 else if t (mn t L i).2.2 = 61 then au_f t L (L - ((mn t L i).2.2 + 1)) ((mn t L i).2.2 + 1) 1 0 0 else nI (mn t L i).2.2) else nI (mn t L i).2.2 := by
  have hle := (mn_le (t := t) hi).1
  unfold mn at hle ⊢
  by_cases c : sp_in (sg t L i) 48 57 = 0
  · rw [if_pos c]
    dsimp only
    rw [if_neg (by decide)]
    rcases Nat.lt_or_ge i L with g | g
    · rw [sg_t g] at c
      rw [au_lt g, au_ok1, if_pos c]
    · have e1 : i = L := by omega
      subst e1
      rw [au_eq, if_neg (fun k => k.elim (fun k => absurd k (by decide)) (fun k => absurd k.1 (by decide)))]
  · obtain ⟨g, d1, d2, d3⟩ := dg_b c
    rw [if_neg c] at hle ⊢
    dsimp only at hle ⊢
    have e2 : (t i - 48).toInt = (t i).toInt - 48 := by
      rw [i32_sub] <;> rw [show (48 : Int32).toInt = 48 by decide] <;> omega
    rw [if_pos rfl, au_lt g, au_ok1, if_neg d3, au_d1, au_e1, au_v1]
    rw [sg_t g] at hle ⊢
    obtain ⟨a1, a2, a3⟩ := au_2n (t := t) (L := L) (e := e) 60 (i + 1) (t i - 48) g (by omega) (by omega) (by omega)
    rw [a1, au_2s hle a2 a3]
