/-! the family wb_ of kit/laws/BITS.to-paste (a starting text), and TEXTS -/
theorem wb_tb (n : Nat) : (lN n).toBitVec = BitVec.ofNat 64 n := rfl
theorem wb_inj {a b : Int64} (h : a.toBitVec = b.toBitVec) : a = b := Int64.toBitVec_inj.mp h
theorem wb_tn {n : Nat} (h : n < 2 ^ 64) : (lN n).toBitVec.toNat = n := by rw [wb_tb, BitVec.toNat_ofNat, Nat.mod_eq_of_lt h]
theorem wb_of (x : Int64) : ∃ n, n < 2 ^ 64 ∧ x = lN n := ⟨x.toBitVec.toNat, x.toBitVec.isLt, wb_inj (by rw [wb_tb]; simp)⟩
theorem wb_of32 (x : Int32) : ∃ n, n < 2 ^ 32 ∧ x = nI n := ⟨x.toBitVec.toNat, x.toBitVec.isLt, Int32.toBitVec_inj.mp (by show _ = BitVec.ofNat 32 _; simp)⟩
theorem wb_c : ∀ k, k < 64 → ((nI k).toInt64 &&& 63) = lN k := by decide +kernel
theorem wb_cu : ∀ k, k < 64 → ((nI k).toInt64.toUInt64 &&& Int64.toUInt64 63) = UInt64.ofNat k := by decide +kernel
theorem wb_sm : ∀ k, k < 64 → (BitVec.ofNat 64 k).smod 64 = BitVec.ofNat 64 k := by decide +kernel
theorem wb_pw {a b : Nat} (h : a ≤ b) : 2 ^ b = 2 ^ a * 2 ^ (b - a) := by rw [← Nat.pow_add]; congr 1; omega
theorem wb_lt2 {a b : Nat} (h : a < b) : 2 ^ a < 2 ^ b := Nat.pow_lt_pow_right (by decide) h
theorem wb_mod (n : Nat) : lN n = lN (n % 2 ^ 64) := wb_inj (by rw [wb_tb, wb_tb]; apply BitVec.eq_of_toNat_eq; rw [BitVec.toNat_ofNat, BitVec.toNat_ofNat, Nat.mod_mod])
theorem wb_shr {n k : Nat} (hn : n < 2 ^ 64) (hk : k < 64) : ((lN n).toUInt64 >>> ((nI k).toInt64.toUInt64 &&& Int64.toUInt64 63)).toInt64 = lN (n / 2 ^ k) := by
  rw [wb_cu k hk]
  apply wb_inj
  apply BitVec.eq_of_toNat_eq
  show ((lN n).toUInt64 >>> UInt64.ofNat k).toNat = (BitVec.ofNat 64 _).toNat
  have h1 : (UInt64.ofNat k).toNat = k := by
    show (BitVec.ofNat 64 k).toNat = k
    rw [BitVec.toNat_ofNat, Nat.mod_eq_of_lt (by omega)]
  have h2 : (lN n).toUInt64.toNat = n := wb_tn hn
  rw [UInt64.toNat_shiftRight, h1, h2, Nat.mod_eq_of_lt hk, Nat.shiftRight_eq_div_pow, BitVec.toNat_ofNat, Nat.mod_eq_of_lt (Nat.lt_of_le_of_lt (Nat.div_le_self _ _) hn)]
theorem wb_shl (n : Nat) {k : Nat} (hk : k < 64) : lN n <<< ((nI k).toInt64 &&& 63) = lN (n * 2 ^ k) := by
  rw [wb_c k hk]
  apply wb_inj
  rw [Int64.toBitVec_shiftLeft, wb_tb, wb_tb, wb_tb, wb_sm k hk]
  apply BitVec.eq_of_toNat_eq
  rw [BitVec.shiftLeft_eq', BitVec.toNat_shiftLeft, BitVec.toNat_ofNat, BitVec.toNat_ofNat, BitVec.toNat_ofNat, Nat.mod_eq_of_lt (show k < 2 ^ 64 by omega), Nat.shiftLeft_eq, Nat.mul_mod, Nat.mod_mod, ← Nat.mul_mod]
theorem wb_and {a b : Nat} (ha : a < 2 ^ 64) (hb : b < 2 ^ 64) : lN a &&& lN b = lN (a &&& b) := by
  apply wb_inj
  rw [Int64.toBitVec_and, wb_tb, wb_tb, wb_tb]
  apply BitVec.eq_of_toNat_eq
  rw [BitVec.toNat_and, BitVec.toNat_ofNat, BitVec.toNat_ofNat, BitVec.toNat_ofNat, Nat.mod_eq_of_lt ha, Nat.mod_eq_of_lt hb, Nat.mod_eq_of_lt (Nat.and_lt_two_pow _ hb)]
theorem wb_or {a b : Nat} (ha : a < 2 ^ 64) (hb : b < 2 ^ 64) : lN a ||| lN b = lN (a ||| b) := by
  apply wb_inj
  rw [Int64.toBitVec_or, wb_tb, wb_tb, wb_tb]
  apply BitVec.eq_of_toNat_eq
  rw [BitVec.toNat_or, BitVec.toNat_ofNat, BitVec.toNat_ofNat, BitVec.toNat_ofNat, Nat.mod_eq_of_lt ha, Nat.mod_eq_of_lt hb, Nat.mod_eq_of_lt (Nat.or_lt_two_pow ha hb)]
theorem wb_mask {n k : Nat} (hn : n < 2 ^ 64) (hk : k < 64) : lN n &&& lN (2 ^ k - 1) = lN (n % 2 ^ k) := by
  rw [wb_and hn (by have := wb_lt2 hk; omega), Nat.and_two_pow_sub_one_eq_mod]
theorem wb_a1 {n : Nat} (hn : n < 2 ^ 64) : lN n &&& 1 = lN (n % 2) := wb_mask (k := 1) hn (by decide)
theorem wb_bit {n k : Nat} (hn : n < 2 ^ 64) (hk : k < 64) : ((lN n).toUInt64 >>> ((nI k).toInt64.toUInt64 &&& Int64.toUInt64 63)).toInt64 &&& 1 = lN (n / 2 ^ k % 2) := by
  rw [wb_shr hn hk, wb_a1 (Nat.lt_of_le_of_lt (Nat.div_le_self _ _) hn)]
/-! the checker of texts: what is due (0 an order, 1 a number, 2 in a number, 3 an order is ended), whether '=' is due, the number -/
def au_ok (d e v c : Int32) : Int32 :=
  if d = 0 then (if c = 103 ∨ c = 104 ∨ c = 116 ∨ c = 112 ∨ c = 100 then 1 else 0) else if d = 1 then sp_in c 48 57 else
  if d = 2 then (if sp_in c 48 57 = 0 then (if e = 0 then (if c = 59 then 1 else 0) else (if c = 61 then 1 else 0)) else (if v = 0 then 0 else if 10 * v + (c - 48) ≤ 99999 then 1 else 0)) else (if c = 59 then 1 else 0)
def au_d (d e v c : Int32) : Int32 :=
  if d = 0 then (if c = 104 then 3 else 1) else if d = 1 then 2 else if d = 2 then (if sp_in c 48 57 = 0 then (if e = 0 then 0 else 1) else 2) else 0
def au_e (d e v c : Int32) : Int32 :=
  if d = 0 then (if c = 112 then 1 else 0) else if d = 1 then e else if d = 2 then (if sp_in c 48 57 = 0 then (if e = 0 then e else 0) else e) else e
def au_v (d e v c : Int32) : Int32 :=
  if d = 0 then v else if d = 1 then c - 48 else if d = 2 then (if sp_in c 48 57 = 0 then v else (if v = 0 then v else 10 * v + (c - 48))) else v
def au_f (t : Nat → Int32) (L : Nat) : Nat → Nat → Int32 → Int32 → Int32 → Int32
  | 0, _, d, e, _ => if d = 3 ∨ (d = 2 ∧ e = 0) then -6 else nI L
  | k + 1, i, d, e, v => if au_ok d e v (t i) = 0 then nI i else au_f t L k (i + 1) (au_d d e v (t i)) (au_e d e v (t i)) (au_v d e v (t i))
def op_ff (t : Nat → Int32) (L : Nat) (v : Int32) : Int32 := au_f t L L 0 0 0 v
def mm_pd (S : Mem) (d e v : Int32) : Mem := fun j => if j = 5 then (fun k => if k = 6 then d else if k = 7 then e else if k = 8 then v else S 5 k) else S j
theorem mm_pd_self (S : Mem) : mm_pd S (S 5 6) (S 5 7) (S 5 8) = S := by
  funext j
  unfold mm_pd
  by_cases h : j = 5
  · subst h
    rw [if_pos rfl]
    funext k
    by_cases h6 : k = 6
    · simp [h6]
    · by_cases h7 : k = 7
      · simp [h7]
      · by_cases h8 : k = 8
        · simp [h8]
        · simp [h6, h7, h8]
  · rw [if_neg h]
theorem mm_pd_5 (S : Mem) (d e v : Int32) (k : Nat) : mm_pd S d e v 5 k = if k = 6 then d else if k = 7 then e else if k = 8 then v else S 5 k := by
  unfold mm_pd
  rw [if_pos rfl]
theorem mm_pd_o (S : Mem) (d e v : Int32) {j : Nat} (h : j ≠ 5) : mm_pd S d e v j = S j := by
  unfold mm_pd
  rw [if_neg h]
theorem mm_pd_pd (S : Mem) (d e v d' e' v' : Int32) : mm_pd (mm_pd S d e v) d' e' v' = mm_pd S d' e' v' := by
  funext j
  unfold mm_pd
  by_cases h : j = 5
  · subst h
    simp only [if_true]
    funext k
    by_cases h6 : k = 6
    · simp [h6]
    · by_cases h7 : k = 7
      · simp [h7]
      · by_cases h8 : k = 8
        · simp [h8]
        · simp [h6, h7, h8]
  · simp [h]
theorem mm_pd_6 (S : Mem) (x : Int32) : mm_wr S 5 6 x = mm_pd S x (S 5 7) (S 5 8) := by
  have h := mm_pd_self (mm_wr S 5 6 x)
  rw [mm_wr_s, mm_wr_n S x (Or.inr (by decide)), mm_wr_n S x (Or.inr (by decide))] at h
  rw [← h]
  funext j
  unfold mm_pd
  by_cases g : j = 5
  · subst g
    simp only [if_true]
    funext k
    by_cases h6 : k = 6
    · simp [h6]
    · rw [mm_wr_n S x (Or.inr h6)]
  · simp [g, mm_wr_orow]
theorem mm_pd_7 (S : Mem) (x : Int32) : mm_wr S 5 7 x = mm_pd S (S 5 6) x (S 5 8) := by
  have h := mm_pd_self (mm_wr S 5 7 x)
  rw [mm_wr_s, mm_wr_n S x (Or.inr (by decide)), mm_wr_n S x (Or.inr (by decide))] at h
  rw [← h]
  funext j
  unfold mm_pd
  by_cases g : j = 5
  · subst g
    simp only [if_true]
    funext k
    by_cases h7 : k = 7
    · simp [h7]
    · rw [mm_wr_n S x (Or.inr h7)]
  · simp [g, mm_wr_orow]
theorem mm_pd_8 (S : Mem) (x : Int32) : mm_wr S 5 8 x = mm_pd S (S 5 6) (S 5 7) x := by
  have h := mm_pd_self (mm_wr S 5 8 x)
  rw [mm_wr_s, mm_wr_n S x (Or.inr (by decide)), mm_wr_n S x (Or.inr (by decide))] at h
  rw [← h]
  funext j
  unfold mm_pd
  by_cases g : j = 5
  · subst g
    simp only [if_true]
    funext k
    by_cases h8 : k = 8
    · simp [h8]
    · rw [mm_wr_n S x (Or.inr h8)]
  · simp [g, mm_wr_orow]
/-- a character of a number: u's byte k -/
def sp_by (u k : Nat) : Nat := u / 256 ^ k % 256
/-- how many characters the number u holds (0: it is not a row of them) -/
def sp_nch (u : Nat) : Nat → Nat → Nat
  | 0, k => k
  | r + 1, k => if sp_by u k = 0 then (if u / 256 ^ k = 0 then k else 0) else if 33 ≤ sp_by u k ∧ sp_by u k ≤ 126 then sp_nch u r (k + 1) else 0
def sp_put (t : Nat → Int32) (L u n : Nat) : Nat → Int32 := fun i => if L ≤ i ∧ i < L + n then nI (sp_by u (n - 1 - (i - L))) else t i
def op_put (t : Nat → Int32) (L u : Nat) : Int32 := if sp_nch u 8 0 = 0 then -2 else if 60 < L + sp_nch u 8 0 then -4 else nI (L + sp_nch u 8 0)
theorem sp_nch_le (u : Nat) : ∀ r k, sp_nch u r k ≤ k + r
  | 0, k => by unfold sp_nch; omega
  | r + 1, k => by
    unfold sp_nch
    have := sp_nch_le u r (k + 1)
    split
    · split <;> omega
    · split <;> omega
theorem sp_by_lt (u k : Nat) : sp_by u k < 256 := Nat.mod_lt _ (by decide)
theorem sp_pow8 (k : Nat) : 2 ^ (8 * k) = 256 ^ k := by rw [Nat.pow_mul]
/-- the class's codeAt -/
theorem sp_code {u k : Nat} (hu : u < 2 ^ 64) (hk : k < 8) : (((lN u).toUInt64 >>> ((8 * nI k).toInt64.toUInt64 &&& Int64.toUInt64 63)).toInt64).toInt32 &&& 255 = nI (sp_by u k) := by
  have e : 8 * nI k = nI (8 * k) := pk_mul 8 k
  rw [e, wb_shr hu (by omega), lN_i, pk_and _ (m := 255) 8 (by decide), sp_pow8]
  unfold sp_by
  congr 1
  show (BitVec.ofNat 32 (u / 256 ^ k)).toNat % 2 ^ 8 = _
  rw [BitVec.toNat_ofNat]
  omega
theorem sp_ush {u k : Nat} (hu : u < 2 ^ 64) (hk : k < 8) : ((lN u).toUInt64 >>> ((8 * nI k).toInt64.toUInt64 &&& Int64.toUInt64 63)).toInt64 = lN (u / 256 ^ k) := by
  have e : 8 * nI k = nI (8 * k) := pk_mul 8 k
  rw [e, wb_shr hu (by omega), sp_pow8]
theorem lN_0 {n : Nat} (h : n < 2 ^ 64) : lN n = 0 ↔ n = 0 := by
  constructor
  · intro e
    have := congrArg (fun x : Int64 => x.toBitVec.toNat) e
    rw [show (lN n).toBitVec.toNat = n from wb_tn h] at this
    exact this
  · rintro rfl; rfl
