/-! THE CALLS THAT CHANGE NOTHING -/
def sp_su (z : Nat → Int32) (C i : Nat) : Prop := sp_f z i 7 ≠ -6 ∧ sp_f z i 9 < sp_tk z 10 C i
def sp_ma (z : Nat → Int32) (C i : Nat) : Prop := ¬ (sp_f z i 7 ≠ -6 ∧ sp_f z i 9 < sp_tk z 10 C i) ∧ (sp_f z i 7 = -6 ∨ sp_f z i 8 < sp_tk z 10 C i)
def rd_of1 (C : Nat) (z : Nat → Int32) (i : Nat) (k : Int32) : Int32 :=
  if k = 0 then sp_f z i 0 else if k = 1 then sp_f z i 1 else if k = 2 then sp_f z i 2 else if k = 3 then sp_f z i 3 else if k = 4 then sp_f z i 4 else if k = 5 then sp_f z i 5 else
  if k = 6 then sp_pt (sp_f z i 1) (sp_f z i 2) (sp_f z i 4) else if k = 7 then sp_tk z 5 C i else if k = 8 then sp_g1 z C i else if k = 9 then sp_g2 z C i else if k = 10 then sp_f z i 6 else -2
def rd_of (q : St) (w k : Int32) : Int32 := if sp_wi q.1 w = 99 then -1 else rd_of1 q.1 q.2 (sp_wi q.1 w) k
def sp_kn5 (z : Nat → Int32) (C i : Nat) : Int32 := if sp_f z i 7 ≠ -6 ∧ sp_f z i 9 < sp_tk z 10 C i then 1 else 0
def sp_kn6 (z : Nat → Int32) (C i : Nat) : Int32 := if ¬ (sp_f z i 7 ≠ -6 ∧ sp_f z i 9 < sp_tk z 10 C i) ∧ (sp_f z i 7 = -6 ∨ sp_f z i 8 < sp_tk z 10 C i) then 1 else 0
def rd_kn1 (C : Nat) (z : Nat → Int32) (i : Nat) (k : Int32) : Int32 :=
  if k = 0 then sp_f z i 7 else if k = 1 then sp_f z i 8 else if k = 2 then sp_f z i 9 else if k = 3 then sp_f z i 10 else if k = 4 then sp_tk z 10 C i else if k = 5 then sp_kn5 z C i else if k = 6 then sp_kn6 z C i else -2
def rd_kn (q : St) (w k : Int32) : Int32 := if sp_wi q.1 w = 99 then -1 else rd_kn1 q.1 q.2 (sp_wi q.1 w) k
def rd_ct (q : St) (len kept k : Int32) : Int32 :=
  if k = 0 then q.2 2 else if k = 1 then q.2 3 else if k = 2 then q.2 3 - sp_cnt (sp_g0 q.2) q.1 else if k = 3 then q.2 4 else if k = 4 then q.2 5 else if k = 5 then sp_sum q.2 20 else
  if k = 6 then (if sp_cnt (sp_g0 q.2) q.1 = 0 then sp_sum q.2 20 else 0) else if k = 7 then sp_cnt (sp_g1 q.2 q.1) q.1 else if k = 8 then sp_cnt (sp_g2 q.2 q.1) q.1 else if k = 9 then len else if k = 10 then kept else if k = 11 then q.2 0 else if k = 12 then q.2 1 else -2
def rd_pa (q : St) (w t : Int32) : Int32 := if sp_wi q.1 w = 99 then -1 else if sp_in t 0 50000 = 0 then -2 else sp_pt (sp_f q.2 (sp_wi q.1 w) 1) (sp_f q.2 (sp_wi q.1 w) 2) t
def rd_tf (q : St) (w p : Int32) : Int32 := if sp_wi q.1 w = 99 then -1 else if sp_in p 0 100000 = 0 then -2 else if 50000 < sp_ls p.toInt64 (sp_f q.2 (sp_wi q.1 w) 1) (sp_f q.2 (sp_wi q.1 w) 2) then -6 else (sp_ls p.toInt64 (sp_f q.2 (sp_wi q.1 w) 1) (sp_f q.2 (sp_wi q.1 w) 2)).toInt32
def sp_fal (C : Nat) (z : Nat → Int32) (w : Nat) : Int32 := (1 <<< (nI w &&& 31)) ||| sp_sto C 8 (sp_brk z w) 0
def rd_fw (q : St) (w : Int32) : Int32 := if sp_wi q.1 w = 99 then -1 else if sp_f q.2 (sp_wi q.1 w) 5 = 0 then sp_fal q.1 q.2 (sp_wi q.1 w) else -5
def sp_wst (C : Nat) (z : Nat → Int32) : Nat → Int32 × Int32
  | 0 => (-6, -6)
  | c + 1 => if sp_f z c 5 = 0 ∧ (sp_wst C z c).2 < sp_bc (sp_fal C z c) then (nI c, sp_bc (sp_fal C z c)) else sp_wst C z c
def rd_we (q : St) (k : Int32) : Int32 := if k = 0 then (sp_wst q.1 q.2 q.1).1 else if k = 1 then (sp_wst q.1 q.2 q.1).2 else -2
def sp_bz (C : Nat) (z : Nat → Int32) (p v : Nat) : Prop := sp_bu (upd z (10 + p) (nI v)) C = 99
def sp_mo (C : Nat) (z : Nat → Int32) (p : Nat) : Nat → Nat → Nat
  | 0, m => m
  | k + 1, m => sp_mo C z p k (if m + 2 ^ k ≤ 1000 ∧ sp_bu (upd z (10 + p) (nI (m + 2 ^ k))) C = 99 then m + 2 ^ k else m)
def rd_mo (q : St) (p : Int32) : Int32 := if sp_in p 0 19 = 0 then -1 else if sp_bu (upd q.2 (10 + p.toNatClampNeg) 0) q.1 = 99 then nI (sp_mo q.1 q.2 p.toNatClampNeg 10 0) else -6
def sp_sl (c task : Int32) : Nat → Nat → Int32 → Int32
  | 0, _, _ => -6
  | k + 1, d, t => if t < task then nI d else sp_sl c task k (d + 1) (sp_crept t c)
def rd_si (q : St) (w : Int32) : Int32 := if sp_wi q.1 w = 99 then -1 else if sp_f q.2 (sp_wi q.1 w) 5 = 0 then sp_sl (q.2 0) (sp_tk q.2 5 q.1 (sp_wi q.1 w)) 301 0 (sp_f q.2 (sp_wi q.1 w) 4) else -6
def rd_ro (q : St) : Int32 := sp_rnd (sp_wk (sp_hd q.1 q.2) q.1 q.1).1 (sp_wk (sp_hd q.1 q.2) q.1 q.1).2 (q.2 4)
theorem i32_of {x : Int32} (j : Int32) {n : Int} (h : x.toInt = n) (hj : j.toInt = n) : x = j := Int32.toInt_inj.mp (h.trans hj.symm)
theorem sp_one_b {x : Int32} (h : x = 0 ∨ x = 1) : sp_one x = x := by rcases h with rfl | rfl <;> decide
theorem sp_wi_lt {C : Nat} {x : Int32} (hC : C ≤ 8) (h : sp_wi C x ≠ 99) : sp_wi C x < C ∧ x = nI (sp_wi C x) := by
  unfold sp_wi at h ⊢
  by_cases g : 0 ≤ x ∧ x < nI C
  · rw [if_pos g]
    have := sp_wi_in hC (Int32.not_lt.mpr g.1) (Int32.not_le.mpr g.2)
    exact ⟨this.2.1, this.2.2⟩
  · rw [if_neg g] at h
    exact absurd rfl h
/-- the class's 'may be slack' is the model's -/
theorem sp_kn6_ms {C b i : Nat} {S : Mem} {z : Nat → Int32} (hC : C ≤ 8) (hi : i < C) (hw : sp_ww z i) (ht : S (mm_W b i) 5 = sp_tk z 10 C i) (h8 : S (mm_W b i) 8 = sp_f z i 7) (h9 : S (mm_W b i) 9 = sp_lw z i 8) (h10 : S (mm_W b i) 10 = sp_lw z i 9) (h11 : S (mm_W b i) 11 = sp_f z i 10) : sp_wMs (S (mm_W b i)) = sp_kn6 z C i ∧ sp_wSs (S (mm_W b i)) = sp_kn5 z C i := by
  unfold sp_wMs sp_kn6 sp_wSs sp_kn5
  unfold sp_lw at h9 h10
  rw [ht, h8, h9, h10, h11]
  have hz : (0 : Int32) < 0 ↔ False := by decide
  by_cases g : sp_f z i 10 = 0
  · by_cases g2 : sp_f z i 7 = -6
    · simp [g, g2]
    · simp [g, g2]
  · have h1 : sp_f z i 10 = 1 := hw.2.2.2.2.2.2.2.2.2.2.2.1.resolve_left g
    obtain ⟨a, b, c, d⟩ := hw.2.2.2.2.2.2.2.2.2.2.2.2.2.1 h1
    have ht0 : sp_tk z 10 C i = 0 := sp_tk_off hC g
    simp [h1, b, c, d, ht0, hz]
theorem upd_upd (f : Nat → Int32) (i : Nat) (x y : Int32) : upd (upd f i x) i y = upd f i y := by
  funext j
  unfold upd
  by_cases h : j = i <;> simp [h]
