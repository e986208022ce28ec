/-! THE NUMBERS OF BOTH SIDES: pure functions -/
def sp_in (x a b : Int32) : Int32 := if a ≤ x ∧ x ≤ b then 1 else 0
def sp_err (x : Int32) : Int32 := if x < 0 ∧ x ≠ -6 then 1 else 0
def sp_one (x : Int32) : Int32 := if x = 0 then 0 else 1
def sp_crept (t c : Int32) : Int32 := t - (t * c + 999) / 1000
def sp_wt (len mass : Int32) : Int64 := len.toInt64 * len.toInt64 * mass.toInt64
def sp_ls (p : Int64) (len mass : Int32) : Int64 := (p * p * sp_wt len mass + 1000000 - 1) / 1000000
/-- the greatest number p below 2^k over p0 with p * p * w at most m, by halving steps -/
def sp_pf (m w : Nat) : Nat → Nat → Nat
  | 0, p => p
  | k + 1, p => sp_pf m w k (if (p + 2 ^ k) * (p + 2 ^ k) * w ≤ m then p + 2 ^ k else p)
/-- the pitch -/
def sp_pt (len mass t : Int32) : Int32 := nI (sp_pf (t.toNatClampNeg * 1000000) (len.toNatClampNeg * len.toNatClampNeg * mass.toNatClampNeg) 15 0)
def sp_hi (p len mass : Int32) : Int32 := if 50000 < sp_ls (p + 1).toInt64 len mass - 1 then 50000 else (sp_ls (p + 1).toInt64 len mass - 1).toInt32
def mm_mk (S : Mem) (j : Nat) (a b c d e : Int32) : Mem := fun i => if i = j then (fun k => if k = 0 then a else if k = 1 then b else if k = 2 then c else if k = 3 then d else if k = 4 then e else if k = 5 then 0 else if k = 6 then 0 else if k = 7 then -6 else if k = 8 then -6 else if k = 9 then 0 else if k = 10 then 0 else if k = 11 then 0 else S j k) else S i
theorem mm_W_ne {b b' w w' : Nat} (hb : b ≠ b') (hw : w < 8) (hw' : w' < 8) : mm_W b w ≠ mm_W b' w' := by unfold mm_W; omega
theorem mm_W_ne2 {b w w' : Nat} (h : w ≠ w') : mm_W b w ≠ mm_W b w' := by unfold mm_W; omega
theorem mm_bool {x : Int32} (h : mm_ok .boolean x) : x = 0 ∨ x = 1 := by
  have h1 : narrow .boolean (.int x) = .int x := h.1
  have h2 : x &&& 1 = x := by
    have := h1
    simp only [narrow] at this
    exact Value.int.inj this
  obtain ⟨j, hj, e⟩ := pk_andE x (m := 1) 1 (by decide)
  rw [h2] at e
  rcases (by omega : j = 0 ∨ j = 1) with rfl | rfl
  · exact Or.inl e
  · exact Or.inr e
theorem mm_bW6 {S : Mem} (h : mm_okS S) (b : Nat) {w : Nat} (hw : w < 8) : S (mm_W b w) 6 = 0 ∨ S (mm_W b w) 6 = 1 := mm_bool (by have := h (mm_W b w) 6; rwa [mm_ty_W b w 6 hw] at this)
theorem mm_bW11 {S : Mem} (h : mm_okS S) (b : Nat) {w : Nat} (hw : w < 8) : S (mm_W b w) 11 = 0 ∨ S (mm_W b w) 11 = 1 := mm_bool (by have := h (mm_W b w) 11; rwa [mm_ty_W b w 11 hw] at this)
def sp_wSl (r : Nat → Int32) : Int32 := if r 6 = 0 ∧ r 4 < r 5 then 1 else 0
def sp_wTt (r : Nat → Int32) (sp : Int32) : Int32 := if r 6 = 0 ∧ 1000 < r 4 ∧ r 5 + r 5 * sp / 100 < r 4 then 1 else 0
def sp_wKn (r : Nat → Int32) : Int32 := if r 8 = -6 then 0 else 1
def sp_wSs (r : Nat → Int32) : Int32 := if r 8 ≠ -6 ∧ r 10 < r 5 then 1 else 0
def sp_wMs (r : Nat → Int32) : Int32 := if r 11 = 0 ∧ ¬ (r 8 ≠ -6 ∧ r 10 < r 5) ∧ (r 8 = -6 ∨ r 9 < r 5) then 1 else 0
/-- the ranges that the pitch needs -/
def sp_rg (len mass t : Int32) : Prop := 10 ≤ len.toInt ∧ len.toInt ≤ 200 ∧ 1 ≤ mass.toInt ∧ mass.toInt ≤ 20 ∧ 0 ≤ t.toInt ∧ t.toInt ≤ 50000
theorem sp_nI {x : Int32} (h : 0 ≤ x.toInt) : x = nI x.toNatClampNeg := by
  obtain ⟨j, hj, rfl⟩ := nI_of (x := x) (by rw [Int32.lt_iff_toInt_lt]; have h0 : (0 : Int32).toInt = 0 := (by decide); omega)
  rw [nI_clamp hj]
theorem sp_cl {x : Int32} (h : 0 ≤ x.toInt) : (x.toNatClampNeg : Int) = x.toInt := by
  show ((x.toInt.toNat : Nat) : Int) = x.toInt
  omega
theorem sp_toL {x : Int32} (h : 0 ≤ x.toInt) : x.toInt64 = lN x.toNatClampNeg := by
  have h1 := sp_nI h
  have h2 : x.toNatClampNeg < 2 ^ 31 := by
    have := x.toInt_lt
    have := sp_cl h
    omega
  rw [h1, nI_l h2, nI_clamp h2]
theorem sp_wtN {len mass : Int32} (h1 : 0 ≤ len.toInt) (h2 : 0 ≤ mass.toInt) : sp_wt len mass = lN (len.toNatClampNeg * len.toNatClampNeg * mass.toNatClampNeg) := by
  unfold sp_wt
  rw [sp_toL h1, sp_toL h2, lN_mul, lN_mul]
