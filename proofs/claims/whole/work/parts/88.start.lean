/-! THE MEMORY AT THE START -/
def g0 (u v : Nat → Nat) : Nat → Nat := fun j => if 7 ≤ j ∧ j < 16 then v (j - 7) else u j
abbrev G0 (D : va_G) (cI : Nat → ClassId) (u v : Nat → Nat) : gG := (D, g0 u v, cI)
def S0 : Mem := fun j => if j = 4 then (fun i => nI (4 + i)) else if j = 8 then n0 else if 16 ≤ j ∧ (j - 16) % 12 = 0 then (fun k => if k = 4 then 10 else if k = 5 then 20 else 0) else if 16 ≤ j ∧ (j - 16) % 12 = 2 then neg 20 else fun _ => 0
theorem S0_B (b : Nat) : S0 (mm_B b) = fun k => if k = 4 then 10 else if k = 5 then 20 else 0 := by
  unfold S0 mm_B
  rw [if_neg (by omega), if_neg (by omega), if_pos (by omega)]
theorem S0_A (b : Nat) : S0 (mm_A b) = neg 20 := by
  unfold S0 mm_A
  rw [if_neg (by omega), if_neg (by omega), if_neg (by omega), if_pos (by omega)]
theorem S0_o {j : Nat} (h4 : j ≠ 4) (h8 : j ≠ 8) (hB : ¬ (16 ≤ j ∧ (j - 16) % 12 = 0)) (hA : ¬ (16 ≤ j ∧ (j - 16) % 12 = 2)) : S0 j = fun _ => 0 := by
  unfold S0
  rw [if_neg h4, if_neg h8, if_neg hB, if_neg hA]
theorem S0_L (b : Nat) : S0 (mm_L b) = fun _ => 0 := S0_o (by unfold mm_L; omega) (by unfold mm_L; omega) (by unfold mm_L; omega) (by unfold mm_L; omega)
theorem S0_W (b : Nat) {k : Nat} (hk : k < 8) : S0 (mm_W b k) = fun _ => 0 := S0_o (by unfold mm_W; omega) (by unfold mm_W; omega) (by unfold mm_W; omega) (by unfold mm_W; omega)
theorem S0_ok : mm_okS S0 := by
  intro j k
  by_cases h : mm_ty j k = .int
  · rw [h]; exact mm_ok_int _
  · have hz : S0 j k = 0 := by
      have hj : ¬ (j = 4 ∨ j = 8 ∨ (16 ≤ j ∧ (j - 16) % 12 = 0) ∨ (16 ≤ j ∧ (j - 16) % 12 = 2)) := fun hc => by
        apply h
        unfold mm_ty
        rw [if_neg (by omega), if_neg (by omega), if_neg (by omega), if_neg (by omega), if_neg (by omega)]
      rw [S0_o (by omega) (by omega) (by omega) (by omega)]
    rw [hz]
    unfold mm_ty
    split
    · exact mm_ok_b 0 (Or.inl rfl)
    · split
      · exact ok_char (n := 0) (by decide)
      · split
        · split
          · exact ok_char (n := 0) (by decide)
          · split
            · exact mm_ok_b 0 (Or.inl rfl)
            · exact mm_ok_int _
        · split
          · split
            · exact mm_ok_b 0 (Or.inl rfl)
            · exact mm_ok_int _
          · split
            · exact mm_ok_b 0 (Or.inl rfl)
            · exact mm_ok_int _
theorem ofFn_q {n : Nat} {f g : Nat → Value} (h : ∀ j, j < n → f j = g j) (c : ClassId) : arrV c n f = arrV c n g := by
  unfold arrV
  congr 1
  congr 1
  funext j
  exact h j.val j.isLt
theorem cell_q {D : va_G} {a n : Nat} {c : ClassId} {f g : Nat → Option Nat} {H : Heap} (h : ∀ j, j < n → f j = g j) (hv : va_at D vwCl (a, .inl (c, n, .inr (.inr (.inr (.inr f))))) H) : va_at D vwCl (a, .inl (c, n, .inr (.inr (.inr (.inr g))))) H := by
  show H[a]? = some (arrV c n (fun j => va_rf (g j)))
  rw [← ofFn_q (f := fun j => va_rf (f j)) (fun j hj => by rw [h j hj]) c]
  exact hv
theorem bcs_mem {cI : Nat → ClassId} {B : Nat → Nat → Nat} {x : Nat × va_E} : ∀ (k j : Nat), j < k → x ∈ bc cI (B j) → x ∈ bcs cI B k
  | 0, _, h, _ => absurd h (by omega)
  | k + 1, j, h, hx => by
    rw [bcs]
    by_cases e : j = k
    · rw [e] at hx; exact List.mem_append_right _ hx
    · exact List.mem_append_left _ (bcs_mem k j (by omega) hx)
theorem sw_R {cI : Nat → ClassId} {u : Nat → Nat} {x : Nat × va_E} (h : x ∈ swR cI u) : x ∈ swl cI u := List.mem_cons_of_mem _ (List.mem_cons_of_mem _ (List.mem_append_left _ (List.mem_append_left _ (List.mem_append_left _ (List.mem_append_left _ h)))))
theorem sw_h {cI : Nat → ClassId} {u : Nat → Nat} {x : Nat × va_E} (h : x ∈ hw cI (uh u)) : x ∈ swl cI u := sw_R (List.mem_append_right _ h)
theorem uh_ub (u : Nat → Nat) (j i : Nat) : uh u (2 + 12 * j + i) = ub u (4 + j) i := by
  unfold uh ub
  rw [if_neg (by omega), if_neg (by omega)]
  congr 1
  omega
theorem sw_mem {cI : Nat → ClassId} {u : Nat → Nat} {b : Nat} (hb : b < 11) {x : Nat × va_E} (hx : x ∈ bc cI (ub u b)) : x ∈ swl cI u := by
  rcases Nat.lt_or_ge b 4 with h | h
  · have hc : b = 0 ∨ b = 1 ∨ b = 2 ∨ b = 3 := by omega
    rcases hc with rfl | rfl | rfl | rfl
    · exact sw_R (List.mem_append_left _ (List.mem_append_left _ hx))
    · exact sw_R (List.mem_append_left _ (List.mem_append_right _ hx))
    · exact List.mem_cons_of_mem _ (List.mem_cons_of_mem _ (List.mem_append_left _ (List.mem_append_left _ (List.mem_append_left _ (List.mem_append_right _ hx)))))
    · exact List.mem_cons_of_mem _ (List.mem_cons_of_mem _ (List.mem_append_left _ (List.mem_append_left _ (List.mem_append_right _ hx))))
  · obtain ⟨j, rfl⟩ : ∃ j, b = 4 + j := ⟨b - 4, by omega⟩
    refine sw_h (List.mem_cons_of_mem _ (List.mem_cons_of_mem _ (bcs_mem 7 j (by omega) ?_)))
    rw [show (fun i => uh u (2 + 12 * j + i)) = ub u (4 + j) from funext (uh_ub u j)]
    exact hx
theorem g0_B {u v : Nat → Nat} (b i : Nat) : g0 u v (16 + 12 * b + i) = ub u b i := by
  unfold g0
  rw [if_neg (by omega)]
  rfl
theorem blk {D : va_G} {cI : Nat → ClassId} {u v : Nat → Nat} {H : Heap} {b : Nat} (hb : b < 11) (h : ∀ x, x ∈ bc cI (ub u b) → va_at D vwCl x H) : ∀ i, i < 12 → va_at D vwCl (gad (G0 D cI u v) (16 + 12 * b + i), mm_enc (G0 D cI u v) (16 + 12 * b + i) (S0 (16 + 12 * b + i))) H := by
  intro i hi
  have gL : gad (G0 D cI u v) (mm_L b) = ub u b 1 := by show g0 u v (17 + 12 * b) = _; rw [show 17 + 12 * b = 16 + 12 * b + 1 by omega]; exact g0_B b 1
  have gA : gad (G0 D cI u v) (mm_A b) = ub u b 2 := by show g0 u v (18 + 12 * b) = _; rw [show 18 + 12 * b = 16 + 12 * b + 2 by omega]; exact g0_B b 2
  have gR : gad (G0 D cI u v) (mm_R b) = ub u b 3 := by show g0 u v (19 + 12 * b) = _; rw [show 19 + 12 * b = 16 + 12 * b + 3 by omega]; exact g0_B b 3
  have gW : ∀ k, gad (G0 D cI u v) (mm_W b k) = ub u b (4 + k) := fun k => by show g0 u v (20 + 12 * b + k) = _; rw [show 20 + 12 * b + k = 16 + 12 * b + (4 + k) by omega]; exact g0_B b (4 + k)
  have hc : i = 0 ∨ i = 1 ∨ i = 2 ∨ i = 3 ∨ ∃ k, k < 8 ∧ i = 4 + k := by
    rcases Nat.lt_or_ge i 4 with g | g
    · omega
    · exact Or.inr (Or.inr (Or.inr (Or.inr ⟨i - 4, by omega, by omega⟩)))
  rcases hc with rfl | rfl | rfl | rfl | ⟨k, hk, rfl⟩
  · rw [show 16 + 12 * b + 0 = mm_B b from rfl, mm_enc_B, S0_B, gL, gA, gR, show gad (G0 D cI u v) (mm_B b) = ub u b 0 from g0_B b 0]
    exact h _ List.mem_cons_self
  · rw [show 16 + 12 * b + 1 = mm_L b by unfold mm_L; omega, mm_enc_L, S0_L, gL]
    exact h _ (List.mem_cons_of_mem _ List.mem_cons_self)
  · rw [show 16 + 12 * b + 2 = mm_A b by unfold mm_A; omega, mm_enc_A, S0_A, gA]
    exact h _ (List.mem_cons_of_mem _ (List.mem_cons_of_mem _ List.mem_cons_self))
  · rw [show 16 + 12 * b + 3 = mm_R b by unfold mm_R; omega, mm_enc_R, gR]
    exact cell_q (fun j hj => by rw [if_pos hj, gW]) (h _ (List.mem_cons_of_mem _ (List.mem_cons_of_mem _ (List.mem_cons_of_mem _ List.mem_cons_self))))
  · rw [show 16 + 12 * b + (4 + k) = mm_W b k by unfold mm_W; omega, mm_enc_W _ _ hk, S0_W b hk, gW]
    exact h _ (List.mem_cons_of_mem _ (List.mem_cons_of_mem _ (List.mem_cons_of_mem _ (List.mem_cons_of_mem _ (List.mem_map.mpr ⟨k, List.mem_range.mpr hk, rfl⟩)))))
set_option maxRecDepth 100000 in
set_option maxHeartbeats 4000000 in
theorem H0_at {D : va_G} {cI : Nat → ClassId} {u v : Nat → Nat} {H : Heap} (h : ∀ x, x ∈ swl cI u → va_at D vwCl x H) (h2 : ∀ x, x ∈ mcl cI v → va_at D vwCl x H) : mm_H (G0 D cI u v) S0 H := by
  refine ⟨S0_ok, fun j hj => ?_⟩
  rcases Nat.lt_or_ge j 16 with g | g
  · have gB : ∀ b, gad (G0 D cI u v) (mm_B b) = ub u b 0 := fun b => g0_B b 0
    have m2 : ∀ {x : Nat × va_E}, x ∈ ([(u 2, .inl (cI 1, 2, .inl (fun _ => 0)))] : va_W) → x ∈ swl cI u := fun hx => List.mem_cons_of_mem _ (List.mem_cons_of_mem _ (List.mem_append_left _ (List.mem_append_right _ hx)))
    have mp : ∀ {x : Nat × va_E}, x ∈ pc2 cI (up_ u) → x ∈ swl cI u := fun hx => List.mem_cons_of_mem _ (List.mem_cons_of_mem _ (List.mem_append_right _ hx))
    have hc : j = 0 ∨ j = 1 ∨ j = 2 ∨ j = 3 ∨ j = 4 ∨ j = 5 ∨ j = 6 ∨ j = 7 ∨ j = 8 ∨ j = 9 ∨ j = 10 ∨ j = 11 ∨ j = 12 ∨ j = 13 ∨ j = 14 ∨ j = 15 := by omega
    rcases hc with rfl | rfl | rfl | rfl | rfl | rfl | rfl | rfl | rfl | rfl | rfl | rfl | rfl | rfl | rfl | rfl
    · exact h _ List.mem_cons_self
    · refine cell_q (f := fun i => if i = 1 then some (u 52) else if i = 0 then some (u 40) else none) (fun i hi => ?_) (h _ (List.mem_cons_of_mem _ List.mem_cons_self))
      have hi2 : i = 0 ∨ i = 1 := by omega
      rcases hi2 with rfl | rfl
      · exact congrArg some (gB 2).symm
      · exact congrArg some (gB 3).symm
    · exact h _ (m2 (List.mem_singleton.mpr rfl))
    · exact h _ (sw_h List.mem_cons_self)
    · refine cell_q (f := fun i => if i < 7 then some (uh u (2 + 12 * i)) else none) (fun i hi => ?_) (h _ (sw_h (List.mem_cons_of_mem _ List.mem_cons_self)))
      rw [if_pos hi]
      refine congrArg some ?_
      show _ = gad (G0 D cI u v) (mm_B (nI (4 + i)).toNatClampNeg)
      rw [cl_n (by omega), gB]
      exact uh_ub u i 0
    · exact h _ (mp List.mem_cons_self)
    · exact h _ (mp (List.mem_cons_of_mem _ List.mem_cons_self))
    · exact h2 _ List.mem_cons_self
    · exact h2 _ (List.mem_cons_of_mem _ List.mem_cons_self)
    · exact h2 _ (List.mem_cons_of_mem _ (List.mem_cons_of_mem _ List.mem_cons_self))
    · exact h2 _ (List.mem_cons_of_mem _ (List.mem_cons_of_mem _ (List.mem_cons_of_mem _ List.mem_cons_self)))
    · exact h2 _ (List.mem_cons_of_mem _ (List.mem_cons_of_mem _ (List.mem_cons_of_mem _ (List.mem_cons_of_mem _ List.mem_cons_self))))
    · exact h2 _ (List.mem_cons_of_mem _ (List.mem_cons_of_mem _ (List.mem_cons_of_mem _ (List.mem_cons_of_mem _ (List.mem_cons_of_mem _ List.mem_cons_self)))))
    · exact h2 _ (List.mem_cons_of_mem _ (List.mem_cons_of_mem _ (List.mem_cons_of_mem _ (List.mem_cons_of_mem _ (List.mem_cons_of_mem _ (List.mem_cons_of_mem _ List.mem_cons_self))))))
    · exact h2 _ (List.mem_cons_of_mem _ (List.mem_cons_of_mem _ (List.mem_cons_of_mem _ (List.mem_cons_of_mem _ (List.mem_cons_of_mem _ (List.mem_cons_of_mem _ (List.mem_cons_of_mem _ List.mem_cons_self)))))))
    · exact h2 _ (List.mem_cons_of_mem _ (List.mem_cons_of_mem _ (List.mem_cons_of_mem _ (List.mem_cons_of_mem _ (List.mem_cons_of_mem _ (List.mem_cons_of_mem _ (List.mem_cons_of_mem _ (List.mem_cons_of_mem _ List.mem_cons_self))))))))
  · obtain ⟨b, i, hb, hi, rfl⟩ : ∃ b i, b < 11 ∧ i < 12 ∧ j = 16 + 12 * b + i := ⟨(j - 16) / 12, (j - 16) % 12, by omega, by omega, by omega⟩
    exact blk hb (fun x hx => h x (sw_mem hb hx)) i hi
