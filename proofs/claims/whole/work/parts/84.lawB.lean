/-! THE LAW: texts, undo, saved states -/
theorem LI_fault {d : Int} {S S1 S2 : Mem} {q : St} {kk L : Nat} {hs sl : Nat → St} (h : LI d S q kk L hs sl) (h1 : ∃ a b c, S1 = mm_pd S a b c) (h2 : ∃ N i w O, S2 = mQ S1 (nI N) (nI i) w O) : LI d S2 q kk L hs sl := by
  obtain ⟨a, b, c, rfl⟩ := h1
  obtain ⟨N, i, w, O, rfl⟩ := h2
  refine LI_keep h (fun j _ c5 c7 _ _ c15 => by rw [mQ_o _ _ _ _ _ c7 c15, mm_pd_o _ _ _ _ c5]) ?_ ?_ ?_ ?_
  · rw [mQ_o _ _ _ _ _ (by decide) (by decide), mm_pd_5]; rfl
  · rw [mQ_r3, mm_pd_o _ _ _ _ (by decide)]
  · rw [mQ_r7, mm_pd_o _ _ _ _ (by decide)]
  · rw [mQ_r8, mm_pd_o _ _ _ _ (by decide)]
theorem LI_put {d : Int} {S S1 S2 : Mem} {q : St} {kk L u : Nat} {hs sl : Nat → St} {r1 r2 : Int32} (h : LI d S q kk L hs sl)
    (h1 : r1 = op_put (S 6) L u ∧ (sp_err r1 ≠ 0 → S1 = S) ∧ (sp_err r1 = 0 → S1 5 1 = nI (L + sp_nch u 8 0) ∧ S1 6 = sp_put (S 6) L u (sp_nch u 8 0) ∧ L + sp_nch u 8 0 ≤ 60 ∧ sp_nch u 8 0 ≠ 0) ∧ ∀ j k, (j ≠ 5 ∨ k ≠ 1) → j ≠ 6 → S1 j k = S j k)
    (h2 : r2 = op_put (S1 13) L u ∧ (sp_err r2 ≠ 0 → S2 = S1) ∧ (sp_err r2 = 0 → S2 = mR (mm_wr S1 7 7 (nI (L + sp_nch u 8 0))) 13 (sp_put (S1 13) L u (sp_nch u 8 0)) ∧ L + sp_nch u 8 0 ≤ 60 ∧ sp_nch u 8 0 ≠ 0)) : r1 = r2 ∧ LE d S2 := by
  obtain ⟨a1, a2, a3, a4⟩ := h1
  obtain ⟨b1, b2, b3⟩ := h2
  have er : r1 = r2 := a1.trans b1.symm
  refine ⟨er, ?_⟩
  have e : ∀ j, j ≠ 5 → j ≠ 6 → S1 j = S j := fun j c5 c6 => funext fun k => a4 j k (Or.inl c5) c6
  by_cases c : sp_err r1 = 0
  · obtain ⟨p1, p2, p3, p4⟩ := a3 c
    obtain ⟨s1, -, -⟩ := b3 (er ▸ c)
    obtain ⟨⟨g1, g2, g3, g4, g5, g6⟩, hx, hm⟩ := h
    rw [e 13 (by decide) (by decide)] at s1
    have e2 : ∀ j, j ≠ 5 → j ≠ 6 → j ≠ 7 → j ≠ 13 → S2 j = S j := fun j c5 c6 c7 c13 => by rw [s1, mR_o _ _ c13, mm_wr_orow _ _ c7, e j c5 c6]
    have e13 : S2 13 = sp_put (S 13) L u (sp_nch u 8 0) := by rw [s1, mR_s]
    have e7 : ∀ k, k ≠ 7 → S2 7 k = S 7 k := fun k hk => by rw [s1, mR_o _ _ (by decide), mm_wr_n _ _ (Or.inr hk), e 7 (by decide) (by decide)]
    have e5 : S2 5 = S1 5 := by rw [s1, mR_o _ _ (by decide), mm_wr_orow _ _ (by decide)]
    have e6 : S2 6 = S1 6 := by rw [s1, mR_o _ _ (by decide), mm_wr_orow _ _ (by decide)]
    refine ⟨q, kk, L + sp_nch u 8 0, hs, sl, ⟨g1, g2, p3, by rw [e13]; exact put_chz g4 p4, by rw [e6, p2, e13, g5], fun x hx => ?_⟩, ⟨?_, ?_, ?_, ?_⟩, ⟨?_, ?_, ?_, ?_, ?_⟩⟩
    · rw [e2 2 (by decide) (by decide) (by decide) (by decide), e2 12 (by decide) (by decide) (by decide) (by decide)]
      exact g6 x hx
    · exact bo_eq hx.1 (fun j a b => e2 j (by unfold mm_B at *; omega) (by unfold mm_B at *; omega) (by unfold mm_B at *; omega) (by unfold mm_B at *; omega))
    · exact ch_eq hx.2.1 (e2 3 (by decide) (by decide) (by decide) (by decide)) (e2 4 (by decide) (by decide) (by decide) (by decide)) (fun j a => e2 j (by unfold mm_B at *; omega) (by unfold mm_B at *; omega) (by unfold mm_B at *; omega) (by unfold mm_B at *; omega))
    · rw [e5]; exact p1
    · intro x hx2 hn
      rw [e2 2 (by decide) (by decide) (by decide) (by decide)] at hn
      exact bo_eq (hx.2.2.2 x hx2 hn) (fun j a b => e2 j (by unfold mm_B at *; omega) (by unfold mm_B at *; omega) (by unfold mm_B at *; omega) (by unfold mm_B at *; omega))
    · rw [e2 8 (by decide) (by decide) (by decide) (by decide)]; exact hm.1
    · exact mh_of hm.2.1 (e7 3 (by decide)) (e2 10 (by decide) (by decide) (by decide) (by decide))
    · rw [s1, mR_o _ _ (by decide), mm_wr_s]
    · rw [e7 8 (by decide)]; exact hm.2.2.2.1
    · intro x hx2 hn i hi
      rw [e2 12 (by decide) (by decide) (by decide) (by decide)] at hn
      rw [e2 11 (by decide) (by decide) (by decide) (by decide)]
      exact hm.2.2.2.2 x hx2 hn i hi
  · rw [b2 (er ▸ c), a2 c]
    exact ⟨q, kk, L, hs, sl, h⟩
theorem LI_undo {d : Int} {S S1 S2 : Mem} {q : St} {kk L : Nat} {hs sl : Nat → St} {r1 r2 : Int32} (h : LI d S q kk L hs sl)
    (h1 : (kk = 0 → r1 = -5 ∧ S1 = S) ∧ (∀ k, kk = k + 1 → r1 = nI k ∧ ch S1 k k hs ∧ bo S1 0 (hs k) ∧ fX S S1))
    (h2 : (kk = 0 → r2 = -5 ∧ S2 = S1) ∧ (∀ u, kk = u + 1 → r2 = nI u ∧ mh S2 u hs ∧ (∀ i, i < 150 → S2 8 i = (hs u).2 i) ∧ (∀ i, 150 ≤ i → S2 8 i = S1 8 i) ∧ (∀ j, j ≠ 7 → j ≠ 8 → S2 j = S1 j) ∧ ∀ k, k ≠ 3 → S2 7 k = S1 7 k)) : r1 = r2 ∧ LE d S2 := by
  rcases kk with _ | k
  · obtain ⟨a1, a2⟩ := h1.1 rfl
    obtain ⟨b1, b2⟩ := h2.1 rfl
    exact ⟨a1.trans b1.symm, by rw [b2, a2]; exact ⟨q, 0, L, hs, sl, h⟩⟩
  · obtain ⟨a1, a2, a3, a4⟩ := h1.2 k rfl
    obtain ⟨b1, b2, b3, b4, b5, b6⟩ := h2.2 k rfl
    obtain ⟨⟨g1, g2, g3, g4, g5, g6⟩, hx, hm⟩ := h
    have e : ∀ j, (j < 3 ∨ 5 ≤ j ∧ j < 16 ∨ mm_B 1 ≤ j ∧ j < mm_B 4) → j ≠ 7 → j ≠ 8 → S2 j = S j := fun j a c7 c8 => (b5 j c7 c8).trans (a4 j a)
    have e7 : ∀ k, k ≠ 3 → S2 7 k = S 7 k := fun k hk => by rw [b6 k hk, a4 7 (by omega)]
    have hg := g2 k (by omega)
    refine ⟨a1.trans b1.symm, hs k, k, L, hs, sl, ⟨hg, fun j hj => g2 j (by omega), g3, ?_, ?_, fun x hx => ?_⟩, ⟨?_, ?_, ?_, ?_⟩, ⟨?_, b2, ?_, ?_, ?_⟩⟩
    · rw [e 13 (by omega) (by omega) (by omega)]; exact g4
    · rw [e 6 (by omega) (by omega) (by omega), e 13 (by omega) (by omega) (by omega)]; exact g5
    · rw [e 2 (by omega) (by omega) (by omega), e 12 (by omega) (by omega) (by omega)]; exact g6 x hx
    · exact bo_eq a3 (fun j a b => b5 j (by unfold mm_B at *; omega) (by unfold mm_B at *; omega))
    · exact ch_eq a2 (b5 3 (by decide) (by decide)) (b5 4 (by decide) (by decide)) (fun j a => b5 j (by unfold mm_B at *; omega) (by unfold mm_B at *; omega))
    · rw [e 5 (by omega) (by omega) (by omega)]; exact hx.2.2.1
    · intro x hx2 hn
      rw [e 2 (by omega) (by omega) (by omega)] at hn
      exact bo_eq (hx.2.2.2 x hx2 hn) (fun j a b => e j (by unfold mm_B at *; omega) (by unfold mm_B at *; omega) (by unfold mm_B at *; omega))
    · funext i
      by_cases c : i < 150
      · exact (b3 i c).symm
      · rw [b4 i (by omega), a4 8 (by omega), ← hm.1, g1.2.2 i (by omega), hg.2.2 i (by omega)]
    · rw [e7 7 (by decide)]; exact hm.2.2.1
    · rw [e7 8 (by decide)]; exact hm.2.2.2.1
    · intro x hx2 hn i hi
      rw [e 12 (by omega) (by omega) (by omega)] at hn
      rw [e 11 (by omega) (by omega) (by omega)]
      exact hm.2.2.2.2 x hx2 hn i hi
theorem in01 {x : Int32} (h : sp_in x 0 1 ≠ 0) : x.toNatClampNeg < 2 := by
  have hb := sp_in_1 h
  rw [show (0 : Int32).toInt = 0 by decide, show (1 : Int32).toInt = 1 by decide] at hb
  have := sp_cl hb.1
  omega
theorem LI_save {d : Int} {S S1 S2 : Mem} {q : St} {kk L : Nat} {hs sl : Nat → St} {x r1 r2 : Int32} (h : LI d S q kk L hs sl)
    (h1 : (sp_in x 0 1 = 0 → r1 = -2 ∧ S1 = S) ∧ (sp_in x 0 1 ≠ 0 → r1 = q.2 2 ∧ bo S1 (2 + x.toNatClampNeg) q ∧ S1 2 x.toNatClampNeg = 1 ∧ (∀ j k, (j ≠ 2 ∨ k ≠ x.toNatClampNeg) → (j < mm_B (2 + x.toNatClampNeg) ∨ mm_B (2 + x.toNatClampNeg) + 12 ≤ j) → S1 j k = S j k)))
    (h2 : (sp_in x 0 1 = 0 → r2 = -2 ∧ S2 = S1) ∧ (sp_in x 0 1 ≠ 0 → r2 = S1 8 2 ∧ S2 12 x.toNatClampNeg = 1 ∧ (∀ i, i < 150 → S2 11 (150 * x.toNatClampNeg + i) = S1 8 i) ∧ (∀ i, (i < 150 * x.toNatClampNeg ∨ 150 * x.toNatClampNeg + 150 ≤ i) → S2 11 i = S1 11 i) ∧ (∀ k, k ≠ x.toNatClampNeg → S2 12 k = S1 12 k) ∧ ∀ j, j ≠ 11 → j ≠ 12 → S2 j = S1 j)) : r1 = r2 ∧ LE d S2 := by
  by_cases c : sp_in x 0 1 = 0
  · obtain ⟨a1, a2⟩ := h1.1 c
    obtain ⟨b1, b2⟩ := h2.1 c
    exact ⟨a1.trans b1.symm, by rw [b2, a2]; exact ⟨q, kk, L, hs, sl, h⟩⟩
  · obtain ⟨a1, a2, a3, a4⟩ := h1.2 c
    obtain ⟨b1, b2, b3, b4, b5, b6⟩ := h2.2 c
    obtain ⟨⟨g1, g2, g3, g4, g5, g6⟩, hx, hm⟩ := h
    have hX := in01 c
    generalize x.toNatClampNeg = X at *
    have e1 : ∀ j, j ≠ 2 → (j < mm_B (2 + X) ∨ mm_B (2 + X) + 12 ≤ j) → S1 j = S j := fun j c2 cb => funext fun k => a4 j k (Or.inl c2) cb
    have e : ∀ j, j ≠ 2 → j ≠ 11 → j ≠ 12 → (j < mm_B (2 + X) ∨ mm_B (2 + X) + 12 ≤ j) → S2 j = S j := fun j c2 c11 c12 cb => (b6 j c11 c12).trans (e1 j c2 cb)
    have e22 : ∀ k, k ≠ X → S2 2 k = S 2 k := fun k hk => by rw [b6 2 (by decide) (by decide)]; exact a4 2 k (Or.inr hk) (by unfold mm_B; omega)
    have e2X : S2 2 X = 1 := by rw [b6 2 (by decide) (by decide)]; exact a3
    have e12 : ∀ k, k ≠ X → S2 12 k = S 12 k := fun k hk => by rw [b5 k hk, e1 12 (by decide) (by unfold mm_B; omega)]
    have e8 : S1 8 = S 8 := e1 8 (by decide) (by unfold mm_B; omega)
    refine ⟨by rw [a1, b1, e8, hm.1], q, kk, L, hs, va_up sl X q, ⟨g1, g2, g3, ?_, ?_, fun y hy => ?_⟩, ⟨?_, ?_, ?_, ?_⟩, ⟨?_, ?_, ?_, ?_, ?_⟩⟩
    · rw [e 13 (by decide) (by decide) (by decide) (by unfold mm_B; omega)]; exact g4
    · rw [e 6 (by decide) (by decide) (by decide) (by unfold mm_B; omega), e 13 (by decide) (by decide) (by decide) (by unfold mm_B; omega)]; exact g5
    · by_cases cy : y = X
      · rw [cy, e2X, b2, va_up_self]; exact ⟨rfl, fun _ => g1⟩
      · rw [e22 y cy, e12 y cy, va_up_ne _ _ cy]; exact g6 y hy
    · exact bo_eq hx.1 (fun j a b => e j (by unfold mm_B at *; omega) (by unfold mm_B at *; omega) (by unfold mm_B at *; omega) (by unfold mm_B at *; omega))
    · exact ch_eq hx.2.1 (e 3 (by decide) (by decide) (by decide) (by unfold mm_B; omega)) (e 4 (by decide) (by decide) (by decide) (by unfold mm_B; omega)) (fun j a => e j (by unfold mm_B at *; omega) (by unfold mm_B at *; omega) (by unfold mm_B at *; omega) (by unfold mm_B at *; omega))
    · rw [e 5 (by decide) (by decide) (by decide) (by unfold mm_B; omega)]; exact hx.2.2.1
    · intro y hy hn
      by_cases cy : y = X
      · rw [cy, va_up_self]; exact bo_eq a2 (fun j a b => b6 j (by unfold mm_B at *; omega) (by unfold mm_B at *; omega))
      · rw [e22 y cy] at hn
        rw [va_up_ne _ _ cy]
        exact bo_eq (hx.2.2.2 y hy hn) (fun j a b => e j (by unfold mm_B at *; omega) (by unfold mm_B at *; omega) (by unfold mm_B at *; omega) (by unfold mm_B at *; omega))
    · rw [e 8 (by decide) (by decide) (by decide) (by unfold mm_B; omega)]; exact hm.1
    · exact mh_of hm.2.1 (by rw [e 7 (by decide) (by decide) (by decide) (by unfold mm_B; omega)]) (e 10 (by decide) (by decide) (by decide) (by unfold mm_B; omega))
    · rw [e 7 (by decide) (by decide) (by decide) (by unfold mm_B; omega)]; exact hm.2.2.1
    · rw [e 7 (by decide) (by decide) (by decide) (by unfold mm_B; omega)]; exact hm.2.2.2.1
    · intro y hy hn i hi
      by_cases cy : y = X
      · rw [cy, va_up_self, b3 i hi, e8, hm.1]
      · rw [e12 y cy] at hn
        rw [va_up_ne _ _ cy, b4 _ (by omega), e1 11 (by decide) (by unfold mm_B; omega)]
        exact hm.2.2.2.2 y hy hn i hi
theorem day_err {d : Int} {q : St} (h : lok d q) : sp_err (q.2 2) = 0 := sp_err_nn h.1.1.2.2.2.2.2.2.1
theorem LI_restore {d : Int} {S S1 S2 : Mem} {q : St} {kk L : Nat} {hs sl : Nat → St} {x r1 r2 : Int32} (h : LI d S q kk L hs sl)
    (h1 : (sp_in x 0 1 = 0 → r1 = -2 ∧ S1 = S) ∧ (sp_in x 0 1 ≠ 0 → (S 2 x.toNatClampNeg = 0 → r1 = -5 ∧ S1 = S) ∧ (S 2 x.toNatClampNeg ≠ 0 → mx S S1 q kk hs r1 ((sl x.toNatClampNeg).2 2, sl x.toNatClampNeg))))
    (h2 : (sp_in x 0 1 = 0 → r2 = -2 ∧ S2 = S1) ∧ (sp_in x 0 1 ≠ 0 → (S1 12 x.toNatClampNeg = 0 → r2 = -5 ∧ S2 = S1) ∧ (S1 12 x.toNatClampNeg ≠ 0 → md S1 S2 q kk hs r2 ((sl x.toNatClampNeg).2 2, sl x.toNatClampNeg)))) : r1 = r2 ∧ LE (d + 6000) S2 := by
  have hL : LE (d + 6000) S := ⟨q, kk, L, hs, sl, LI_mono h (by omega)⟩
  by_cases c : sp_in x 0 1 = 0
  · obtain ⟨a1, a2⟩ := h1.1 c
    obtain ⟨b1, b2⟩ := h2.1 c
    exact ⟨a1.trans b1.symm, by rw [b2, a2]; exact hL⟩
  · have hX := in01 c
    obtain ⟨a1, a2⟩ := h1.2 c
    obtain ⟨b1, b2⟩ := h2.2 c
    obtain ⟨e1, e2⟩ := h.1.2.2.2.2.2 _ hX
    by_cases c2 : S 2 x.toNatClampNeg = 0
    · obtain ⟨a3, a4⟩ := a1 c2
      rw [a4] at b1
      obtain ⟨b3, b4⟩ := b1 (e1 ▸ c2)
      exact ⟨a3.trans b3.symm, by rw [b4]; exact hL⟩
    · have hm := a2 c2
      have e12 : S1 12 x.toNatClampNeg = S 12 x.toNatClampNeg := by rw [fX_mod hm.2.2.2 12 (by decide) (by decide)]
      exact LI_mx h hm (b2 (by rw [e12, ← e1]; exact c2)) (lok_mono (e2 c2) (by omega))
theorem LI_carry {d : Int} {S S1 S2 : Mem} {q : St} {kk L : Nat} {hs sl : Nat → St} {r1 r2 : Int32} (hd : d + 6000 ≤ 1000000000) (h : LI d S q kk L hs sl)
    (h1 : ∃ v, (op_ff (S 6) L v ≠ -6 → r1 = -3 ∧ ∃ a b c, S1 = mm_pd S a b c) ∧ (op_ff (S 6) L v = -6 → r1 = nI (oc (S 6) L 60 0 q 0).1 ∧ bo S1 0 (oc (S 6) L 60 0 q 0).2 ∧ ch S1 (sp_pk kk) (sp_pk kk) (sp_psh kk (va_up hs kk q)) ∧ S1 5 1 = 0 ∧ (∀ j, j ≠ 5 → (j < 3 ∨ (5 ≤ j ∧ j < 16) ∨ (mm_B 1 ≤ j ∧ j < mm_B 4)) → S1 j = S j)))
    (h2 : (op_ff (S1 13) L 0 ≠ -6 → r2 = -3 ∧ ∃ N i w O, S2 = mQ S1 (nI N) (nI i) w O) ∧ (op_ff (S1 13) L 0 = -6 → r2 = nI (oc (S1 13) L 60 0 q 0).1 ∧ S2 8 = (oc (S1 13) L 60 0 q 0).2.2 ∧ mh S2 (sp_pk kk) (sp_psh kk (va_up hs kk q)) ∧ S2 7 7 = 0 ∧ S2 7 8 = 0 ∧ (∀ j, j ≠ 7 → j ≠ 8 → j ≠ 9 → j ≠ 10 → j ≠ 14 → j ≠ 15 → S2 j = S1 j))) : r1 = r2 ∧ LE (d + 6000) S2 := by
  obtain ⟨v, a1, a2⟩ := h1
  obtain ⟨b1, b2⟩ := h2
  rw [ff_v, h.1.2.2.2.2.1] at a1 a2
  by_cases c : op_ff (S 13) L 0 = -6
  · obtain ⟨p1, p2, p3, p4, p5⟩ := a2 c
    have e13 : S1 13 = S 13 := p5 13 (by decide) (by omega)
    rw [e13] at b2
    obtain ⟨s1, s2, s3, s4, s5, s6⟩ := b2 c
    obtain ⟨⟨g1, g2, g3, g4, g5, g6⟩, hx, hm⟩ := h
    have e : ∀ j, j ≠ 5 → (j < 3 ∨ (5 ≤ j ∧ j < 16) ∨ (mm_B 1 ≤ j ∧ j < mm_B 4)) → j ≠ 7 → j ≠ 8 → j ≠ 9 → j ≠ 10 → j ≠ 14 → j ≠ 15 → S2 j = S j := fun j c5 cj c7 c8 c9 c10 c14 c15 => (s6 j c7 c8 c9 c10 c14 c15).trans (p5 j c5 cj)
    have hnl := hn_lok (e := 0) hx.2.1.1.1 g2 g1
    unfold hn at hnl
    rw [if_pos rfl] at hnl
    refine ⟨p1.trans s1.symm, (oc (S 13) L 60 0 q 0).2, sp_pk kk, 0, sp_psh kk (va_up hs kk q), sl, ⟨lk_oc g1 hd, fun j hj => lok_mono (hnl j hj) (by omega), by omega, fun i hi => absurd hi (by omega), ?_, fun x hx => ?_⟩, ⟨?_, ?_, ?_, ?_⟩, ⟨s2.symm, s3, s4, s5, ?_⟩⟩
    · rw [e 6 (by decide) (by omega) (by decide) (by decide) (by decide) (by decide) (by decide) (by decide), e 13 (by decide) (by omega) (by decide) (by decide) (by decide) (by decide) (by decide) (by decide)]; exact g5
    · rw [e 2 (by decide) (by omega) (by decide) (by decide) (by decide) (by decide) (by decide) (by decide), e 12 (by decide) (by omega) (by decide) (by decide) (by decide) (by decide) (by decide) (by decide)]
      exact ⟨(g6 x hx).1, fun hn => lok_mono ((g6 x hx).2 hn) (by omega)⟩
    · exact bo_eq p2 (fun j a b => s6 j (by unfold mm_B at *; omega) (by unfold mm_B at *; omega) (by unfold mm_B at *; omega) (by unfold mm_B at *; omega) (by unfold mm_B at *; omega) (by unfold mm_B at *; omega))
    · exact ch_eq p3 (s6 3 (by decide) (by decide) (by decide) (by decide) (by decide) (by decide)) (s6 4 (by decide) (by decide) (by decide) (by decide) (by decide) (by decide)) (fun j a => s6 j (by unfold mm_B at *; omega) (by unfold mm_B at *; omega) (by unfold mm_B at *; omega) (by unfold mm_B at *; omega) (by unfold mm_B at *; omega) (by unfold mm_B at *; omega))
    · rw [s6 5 (by decide) (by decide) (by decide) (by decide) (by decide) (by decide)]; exact p4
    · intro x hx2 hn
      rw [e 2 (by decide) (by omega) (by decide) (by decide) (by decide) (by decide) (by decide) (by decide)] at hn
      exact bo_eq (hx.2.2.2 x hx2 hn) (fun j a b => e j (by unfold mm_B at *; omega) (by unfold mm_B at *; omega) (by unfold mm_B at *; omega) (by unfold mm_B at *; omega) (by unfold mm_B at *; omega) (by unfold mm_B at *; omega) (by unfold mm_B at *; omega) (by unfold mm_B at *; omega))
    · intro x hx2 hn i hi
      rw [e 12 (by decide) (by omega) (by decide) (by decide) (by decide) (by decide) (by decide) (by decide)] at hn
      rw [e 11 (by decide) (by omega) (by decide) (by decide) (by decide) (by decide) (by decide) (by decide)]
      exact hm.2.2.2.2 x hx2 hn i hi
  · obtain ⟨p1, p2⟩ := a1 c
    have e13 : S1 13 = S 13 := by
      obtain ⟨x, y, z, e⟩ := p2
      rw [e, mm_pd_o _ _ _ _ (by decide)]
    rw [e13] at b1
    obtain ⟨s1, s2⟩ := b1 c
    exact ⟨p1.trans s1.symm, q, kk, L, hs, sl, LI_mono (LI_fault h p2 s2) (by omega)⟩
