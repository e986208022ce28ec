theorem sp_pf_le (m w : Nat) : ∀ (k p : Nat), p * p * w ≤ m → sp_pf m w k p * sp_pf m w k p * w ≤ m
  | 0, _, h => h
  | k + 1, p, h => by
    unfold sp_pf
    by_cases e : (p + 2 ^ k) * (p + 2 ^ k) * w ≤ m
    · rw [if_pos e]; exact sp_pf_le m w k _ e
    · rw [if_neg e]; exact sp_pf_le m w k _ h
theorem sp_pf_lt (m w : Nat) : ∀ (k p : Nat), sp_pf m w k p < p + 2 ^ k
  | 0, p => by show p < p + 2 ^ 0; omega
  | k + 1, p => by
    unfold sp_pf
    have h2 : 2 ^ (k + 1) = 2 * 2 ^ k := by rw [Nat.pow_succ]; omega
    by_cases e : (p + 2 ^ k) * (p + 2 ^ k) * w ≤ m
    · rw [if_pos e]; have := sp_pf_lt m w k (p + 2 ^ k); omega
    · rw [if_neg e]; have := sp_pf_lt m w k p; omega
theorem sp_lsN {p : Nat} {len mass : Int32} (h1 : 10 ≤ len.toInt ∧ len.toInt ≤ 200) (h2 : 1 ≤ mass.toInt ∧ mass.toInt ≤ 20) (hp : p ≤ 100000) : sp_ls (lN p) len mass = lN ((p * p * (len.toNatClampNeg * len.toNatClampNeg * mass.toNatClampNeg) + 999999) / 1000000) ∧ len.toNatClampNeg * len.toNatClampNeg * mass.toNatClampNeg ≤ 800000 ∧ 1 ≤ len.toNatClampNeg * len.toNatClampNeg * mass.toNatClampNeg := by
  have l1 := sp_cl (x := len) (by omega)
  have l2 := sp_cl (x := mass) (by omega)
  have hW : len.toNatClampNeg * len.toNatClampNeg * mass.toNatClampNeg ≤ 800000 := Nat.mul_le_mul (Nat.mul_le_mul (by omega : _ ≤ 200) (by omega : _ ≤ 200)) (by omega : _ ≤ 20)
  have hW1 : 1 * 1 * 1 ≤ len.toNatClampNeg * len.toNatClampNeg * mass.toNatClampNeg := Nat.mul_le_mul (Nat.mul_le_mul (by omega) (by omega)) (by omega)
  have hP : p * p * (len.toNatClampNeg * len.toNatClampNeg * mass.toNatClampNeg) ≤ 100000 * 100000 * 800000 := Nat.mul_le_mul (Nat.mul_le_mul hp hp) hW
  refine ⟨?_, hW, hW1⟩
  unfold sp_ls
  rw [sp_wtN (by omega) (by omega), lN_mul, lN_mul]
  show (lN _ + lN 1000000 - lN 1) / lN 1000000 = _
  have e9 : ∀ X : Nat, X + 1000000 - 1 = X + 999999 := fun X => by omega
  rw [lN_add, lN_sub (by omega), pk_lDiv (by omega) (by decide) (by decide), e9]
theorem lN_I {n : Nat} (h : n ≤ 50000) : (lN n).toInt32.toInt = (n : Int) := by
  rw [lN_i, nI_toInt (by omega)]
theorem sp_know_rng {len mass t : Int32} (h : sp_rg len mass t) : ∃ P : Nat, P < 32768 ∧ sp_pt len mass t = nI P ∧ (0 ≤ (sp_ls (sp_pt len mass t).toInt64 len mass).toInt32.toInt ∧ (sp_ls (sp_pt len mass t).toInt64 len mass).toInt32.toInt ≤ 50000) ∧ 0 ≤ (sp_hi (sp_pt len mass t) len mass).toInt ∧ (sp_hi (sp_pt len mass t) len mass).toInt ≤ 50000 := by
  obtain ⟨h1, h2, h3, h4, h5, h6⟩ := h
  have l3 := sp_cl (x := t) (by omega)
  obtain ⟨P, hP⟩ : ∃ P, P = sp_pf (t.toNatClampNeg * 1000000) (len.toNatClampNeg * len.toNatClampNeg * mass.toNatClampNeg) 15 0 := ⟨_, rfl⟩
  have hlt := sp_pf_lt (t.toNatClampNeg * 1000000) (len.toNatClampNeg * len.toNatClampNeg * mass.toNatClampNeg) 15 0
  have hle := sp_pf_le (t.toNatClampNeg * 1000000) (len.toNatClampNeg * len.toNatClampNeg * mass.toNatClampNeg) 15 0 (by simp)
  rw [← hP] at hlt hle
  have hP2 : P < 32768 := by have h15 : (2 : Nat) ^ 15 = 32768 := (by decide); omega
  have e : sp_pt len mass t = nI P := by unfold sp_pt; rw [← hP]
  rw [e]
  obtain ⟨g1, g2, g3⟩ := sp_lsN (p := P) (len := len) (mass := mass) ⟨h1, h2⟩ ⟨h3, h4⟩ (by omega)
  refine ⟨P, hP2, rfl, ?_, ?_⟩
  · rw [nI_l (by omega), g1, lN_I (by omega)]
    omega
  · obtain ⟨k1, k2, k3⟩ := sp_lsN (p := P + 1) (len := len) (mass := mass) ⟨h1, h2⟩ ⟨h3, h4⟩ (by omega)
    unfold sp_hi
    rw [nI_1, nI_l (by omega), k1]
    have hX : 1 * 1 * 1 ≤ (P + 1) * (P + 1) * (len.toNatClampNeg * len.toNatClampNeg * mass.toNatClampNeg) := Nat.mul_le_mul (Nat.mul_le_mul (by omega) (by omega)) k3
    have hX2 : (P + 1) * (P + 1) * (len.toNatClampNeg * len.toNatClampNeg * mass.toNatClampNeg) ≤ 32768 * 32768 * 800000 := Nat.mul_le_mul (Nat.mul_le_mul (by omega) (by omega)) k2
    obtain ⟨X, hXe⟩ : ∃ X, X = (P + 1) * (P + 1) * (len.toNatClampNeg * len.toNatClampNeg * mass.toNatClampNeg) := ⟨_, rfl⟩
    rw [← hXe] at hX hX2 ⊢
    have es : lN ((X + 999999) / 1000000) - 1 = lN ((X + 999999) / 1000000 - 1) := lN_sub (a := (X + 999999) / 1000000) (b := 1) (by omega)
    rw [es]
    by_cases c : (50000 : Int64) < lN ((X + 999999) / 1000000 - 1)
    · rw [if_pos c]; decide
    · rw [if_neg c]
      have c2 : ¬ 50000 < (X + 999999) / 1000000 - 1 := fun q => c ((pk_lLT (a := 50000) (by decide) (by omega)).mpr q)
      rw [lN_I (by omega)]
      omega
theorem gd_hear {q : St} (h : gd q) : gs q (os_hear q).2 0 := by
  obtain ⟨C, z⟩ := q
  obtain ⟨hw, hc⟩ := id h
  dsimp only at hw hc
  unfold os_hear op_hear
  dsimp only
  split
  · exact gs_refl h
  · next h2 =>
    have hk := (sp_hw_lt hw.1.1 h2).1
    have hww := hw.2.1 _ hk
    split
    · next h3 =>
      obtain ⟨P, -, -, p1, p2⟩ := sp_know_rng (len := sp_f z (sp_hw z C) 1) (mass := sp_f z (sp_hw z C) 2) (t := sp_f z (sp_hw z C) 4) ⟨hww.2.2.1, hww.2.2.2.1, hww.2.2.2.2.1, hww.2.2.2.2.2.1, hww.2.2.2.2.2.2.2.2.1, hww.2.2.2.2.2.2.2.2.2.1⟩
      dsimp only
      refine gd_know h hk (fun _ _ => rfl) (fun _ _ _ _ => rfl) (fun _ _ _ _ => rfl) ⟨hww.2.2.2.2.2.2.2.2.1, hww.2.2.2.2.2.2.2.2.2.1, hww.2.2.2.2.2.2.2.2.2.2.2.2.1⟩ ⟨hww.2.2.2.2.2.2.2.2.2.2.2.1, fun g => ?_⟩ p1 p2
      have := (hww.2.2.2.2.2.2.2.2.2.2.2.2.2.1 g).1
      rw [h3] at this
      exact absurd this (by decide)
    · next h3 =>
      have h5 : sp_f z (sp_hw z C) 5 = 1 := hww.2.2.2.2.2.2.2.2.2.2.1.resolve_left h3
      have e10 : sp_f (sp_up z (sp_hw z C) 10 1) (sp_hw z C) 10 = 1 := by rw [sp_up_f _ _ (by decide) (by decide), if_pos ⟨rfl, rfl⟩]
      have e4 : sp_f (sp_up z (sp_hw z C) 10 1) (sp_hw z C) 4 = sp_f z (sp_hw z C) 4 := by rw [sp_up_f _ _ (by decide) (by decide), if_neg (by omega)]
      dsimp only
      refine gd_know h hk (fun i hi => sp_up_lo _ _ _ _ hi) (fun i f hi hf => by rw [sp_up_f _ _ (by decide) hf, if_neg (fun g => hi g.1)]) (fun f hf h4 h10 => by rw [sp_up_f _ _ (by decide) hf, if_neg (fun g => h10 g.2)]) (by rw [e4]; exact ⟨hww.2.2.2.2.2.2.2.2.1, hww.2.2.2.2.2.2.2.2.2.1, hww.2.2.2.2.2.2.2.2.2.2.2.2.1⟩) (by rw [e10]; exact ⟨Or.inr rfl, fun _ => ⟨h5, rfl, rfl⟩⟩) (by decide) (by decide)
theorem gd_wire {q : St} {a b c d e : Int32} (h : gd q) : gs q (os_wire q a b c d e).2 0 := by
  obtain ⟨C, z⟩ := q
  obtain ⟨hw, hc⟩ := id h
  dsimp only at hw hc
  unfold os_wire
  dsimp only
  by_cases g : op_wbad C z a b c d e = 0
  · rw [if_pos g]
    unfold op_wbad at g
    by_cases g1 : sp_in a 0 19 = 0 ∨ sp_in b 10 200 = 0 ∨ sp_in c 1 20 = 0 ∨ sp_in d 100 50000 = 0 ∨ sp_in e 0 50000 = 0
    · rw [if_pos g1] at g; exact absurd g (by decide)
    · rw [if_neg g1] at g
      by_cases g2 : C = 8
      · rw [if_pos g2] at g; exact absurd g (by decide)
      · rw [if_neg g2] at g
        by_cases g3 : sp_wa z a.toNatClampNeg C ≠ -1 ∨ d < e
        · rw [if_pos g3] at g; exact absurd g (by decide)
        · simp only [sp_in_iff, show (0 : Int32).toInt = 0 by decide, show (19 : Int32).toInt = 19 by decide, show (10 : Int32).toInt = 10 by decide, show (200 : Int32).toInt = 200 by decide, show (1 : Int32).toInt = 1 by decide, show (20 : Int32).toInt = 20 by decide, show (100 : Int32).toInt = 100 by decide, show (50000 : Int32).toInt = 50000 by decide] at g1
          have hwa : sp_wa z a.toNatClampNeg C = -1 := by
            by_cases e1 : sp_wa z a.toNatClampNeg C = -1
            · exact e1
            · exact absurd (Or.inl e1) g3
          have hC := hw.1.1
          have hwn := sp_new_wf (a := a) (b := b) (c := c) (d := d) (e := e) hw (by omega) (by omega) (by omega) (by omega) (by omega) (by omega) hwa
          dsimp only
          refine gs_mk (sp_stl_wf 8 hwn) (sp_stl_8 (by omega) _) ?_ ?_
          · rw [stl_3 8 _ (by decide), sp_new_low _ _ _ _ _ _ _ (by decide), if_neg (by decide)]; exact Int.le_refl _
          · rw [stl_3 8 _ (by decide), sp_new_low _ _ _ _ _ _ _ (by decide), if_neg (by decide)]; omega
  · rw [if_neg g]
    exact gs_refl h
