theorem i2c_n {n : Nat} (h : n < 65536) : ((nI n).toUInt32 % 65536).toInt32 = nI n := by
  rw [pk_char, pk_tn (by omega), Nat.mod_eq_of_lt h]
theorem ok_char {n : Nat} (h : n < 65536) : mm_ok .char (nI n) := pk_charN h
theorem nI_m1 (m : Nat) : nI (m + 1) - 1 = nI m := nI_pred m
/-- reading: a number from a place on -/
def rn (t : Nat → Int32) (L : Nat) : Nat → Nat → Int32 → Int32 × Nat
  | 0, i, v => (v, i)
  | k + 1, i, v => if i < L ∧ sp_in (t i) 48 57 ≠ 0 then rn t L k (i + 1) (10 * v + (t i - 48)) else (v, i)
theorem rn_le (t : Nat → Int32) (L : Nat) : ∀ (k i : Nat) (v : Int32), i ≤ L → i ≤ (rn t L k i v).2 ∧ (rn t L k i v).2 ≤ L
  | 0, i, _, h => ⟨Nat.le_refl i, h⟩
  | k + 1, i, v, h => by
    unfold rn
    by_cases c : i < L ∧ sp_in (t i) 48 57 ≠ 0
    · rw [if_pos c]
      have := rn_le t L k (i + 1) (10 * v + (t i - 48)) c.1
      omega
    · rw [if_neg c]
      exact ⟨Nat.le_refl i, h⟩
/-- an order: first number, second number, where the next begins -/
def ro_1 (t : Nat → Int32) (L i : Nat) : Int32 := (rn t L 60 (i + 1) 0).1
def ro_c (t : Nat → Int32) (L i : Nat) : Prop := (rn t L 60 (i + 1) 0).2 < L ∧ t (rn t L 60 (i + 1) 0).2 = 61
def ro_2 (t : Nat → Int32) (L i : Nat) : Int32 := if (rn t L 60 (i + 1) 0).2 < L ∧ t (rn t L 60 (i + 1) 0).2 = 61 then (rn t L 60 ((rn t L 60 (i + 1) 0).2 + 1) 0).1 else 0
def ro_n (t : Nat → Int32) (L i : Nat) : Nat := if (rn t L 60 (i + 1) 0).2 < L ∧ t (rn t L 60 (i + 1) 0).2 = 61 then (rn t L 60 ((rn t L 60 (i + 1) 0).2 + 1) 0).2 + 1 else (rn t L 60 (i + 1) 0).2 + 1
theorem ro_n_le {t : Nat → Int32} {L i : Nat} (h : i < L) : i < ro_n t L i ∧ ro_n t L i ≤ L + 1 := by
  have h1 := rn_le t L 60 (i + 1) 0 h
  unfold ro_n
  by_cases c : (rn t L 60 (i + 1) 0).2 < L ∧ t (rn t L 60 (i + 1) 0).2 = 61
  · rw [if_pos c]
    have := rn_le t L 60 ((rn t L 60 (i + 1) 0).2 + 1) 0 c.1
    omega
  · rw [if_neg c]
    omega
/-- an order is carried out -/
def ord (q : St) (l a b : Int32) : Int32 × St := if l = 100 then os_days q a else if l = 103 then os_walk q a else if l = 104 then os_hear q else if l = 112 then os_load q a b else if l = 116 then os_tight q a else (-3, q)
def oc (t : Nat → Int32) (L : Nat) : Nat → Nat → St → Nat → Nat × St
  | 0, _, q, dn => (dn, q)
  | k + 1, i, q, dn => if L ≤ i then (dn, q) else if sp_err (ord q (t i) (ro_1 t L i) (ro_2 t L i)).1 = 0 then oc t L k (ro_n t L i) (ord q (t i) (ro_1 t L i) (ro_2 t L i)).2 (dn + 1) else (dn, (ord q (t i) (ro_1 t L i) (ro_2 t L i)).2)
theorem gd_ord {q : St} {l a b : Int32} (h : gd q) (hd : (q.2 2).toInt ≤ 1000000000) : gs q (ord q l a b).2 100 := by
  have w : ∀ q', gs q q' 0 → gs q q' 100 := fun q' g => ⟨g.1, g.2.1, by have := g.2.2; omega⟩
  unfold ord
  split
  · exact gd_days h hd
  · split
    · exact w _ (gd_walk h)
    · split
      · exact w _ (gd_hear h)
      · split
        · exact w _ (gd_load h)
        · split
          · exact w _ (gd_tight h)
          · exact w _ (gs_refl h)
theorem oc_le (t : Nat → Int32) (L : Nat) : ∀ (k i : Nat) (q : St) (dn : Nat), dn ≤ (oc t L k i q dn).1 ∧ (oc t L k i q dn).1 ≤ dn + k
  | 0, _, _, dn => ⟨Nat.le_refl dn, Nat.le_refl dn⟩
  | k + 1, i, q, dn => by
    unfold oc
    split
    · exact ⟨Nat.le_refl _, by omega⟩
    · split
      · have := oc_le t L k (ro_n t L i) (ord q (t i) (ro_1 t L i) (ro_2 t L i)).2 (dn + 1)
        omega
      · exact ⟨Nat.le_refl _, by omega⟩
theorem oc_gd (t : Nat → Int32) (L : Nat) : ∀ (k i : Nat) (q : St) (dn : Nat), gd q → (q.2 2).toInt + 100 * (k : Int) ≤ 1000000000 → gs q (oc t L k i q dn).2 (100 * (k : Int))
  | 0, _, q, _, h, _ => ⟨h, Int.le_refl _, by show (q.2 2).toInt ≤ _; omega⟩
  | k + 1, i, q, dn, h, hd => by
    have g := gd_ord (l := t i) (a := ro_1 t L i) (b := ro_2 t L i) h (by omega)
    have g2 := g.2.2
    have g1 := g.2.1
    unfold oc
    split
    · exact ⟨h, Int.le_refl _, by dsimp only; omega⟩
    · split
      · have r := oc_gd t L k (ro_n t L i) (ord q (t i) (ro_1 t L i) (ro_2 t L i)).2 (dn + 1) g.1 (by omega)
        exact ⟨r.1, by have := r.2.1; omega, by have := r.2.2; omega⟩
      · exact ⟨g.1, g1, by dsimp only; omega⟩
theorem sp_err_nI {n : Nat} (h : n < 2 ^ 31) : sp_err (nI n) = 0 := by
  unfold sp_err
  rw [if_neg (fun g => nI_pos h g.1)]
