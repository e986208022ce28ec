/-! THE LAW: what holds between the calls -/
def lok (d : Int) (q : St) : Prop := gd q ∧ (q.2 2).toInt ≤ d ∧ ∀ i, 150 ≤ i → q.2 i = 0
theorem lok_mono {d d' : Int} {q : St} (h : lok d q) (hd : d ≤ d') : lok d' q := ⟨h.1, by have := h.2.1; omega, h.2.2⟩
def LIg (d : Int) (S : Mem) (q : St) (kk L : Nat) (hs sl : Nat → St) : Prop := lok d q ∧ (∀ j, j < kk → lok d (hs j)) ∧ L ≤ 60 ∧ chz (S 13) L ∧ S 6 = S 13 ∧ ∀ x, x < 2 → S 2 x = S 12 x ∧ (S 2 x ≠ 0 → lok d (sl x))
def LIx (S : Mem) (q : St) (kk L : Nat) (hs sl : Nat → St) : Prop := bo S 0 q ∧ ch S kk kk hs ∧ S 5 1 = nI L ∧ ∀ x, x < 2 → S 2 x ≠ 0 → bo S (2 + x) (sl x)
def LIm (S : Mem) (q : St) (kk L : Nat) (hs sl : Nat → St) : Prop := q.2 = S 8 ∧ mh S kk hs ∧ S 7 7 = nI L ∧ S 7 8 = 0 ∧ ∀ x, x < 2 → S 12 x ≠ 0 → ∀ i, i < 150 → S 11 (150 * x + i) = (sl x).2 i
def LI (d : Int) (S : Mem) (q : St) (kk L : Nat) (hs sl : Nat → St) : Prop := LIg d S q kk L hs sl ∧ LIx S q kk L hs sl ∧ LIm S q kk L hs sl
/-- what holds at the loop's head -/
def LE (d : Int) (S : Mem) : Prop := ∃ q kk L hs sl, LI d S q kk L hs sl
theorem LI_mono {d d' : Int} {S : Mem} {q : St} {kk L : Nat} {hs sl : Nat → St} (h : LI d S q kk L hs sl) (hd : d ≤ d') : LI d' S q kk L hs sl := by
  obtain ⟨⟨g1, g2, g3, g4, g5, g6⟩, hx, hm⟩ := h
  exact ⟨⟨lok_mono g1 hd, fun j hj => lok_mono (g2 j hj) hd, g3, g4, g5, fun x hx => ⟨(g6 x hx).1, fun hn => lok_mono ((g6 x hx).2 hn) hd⟩⟩, hx, hm⟩
theorem LIx_keep {S S2 : Mem} {q : St} {kk L : Nat} {hs sl : Nat → St} (h : LIx S q kk L hs sl) (e : ∀ j, (j < 28 ∨ 40 ≤ j) → j ≠ 5 → ¬ (7 ≤ j ∧ j < 16) → S2 j = S j) (e5 : S2 5 1 = S 5 1) : LIx S2 q kk L hs sl := by
  obtain ⟨x1, x2, x3, x4⟩ := h
  refine ⟨bo_eq x1 (fun j h1 h2 => e j (by unfold mm_B at *; omega) (by unfold mm_B at *; omega) (by unfold mm_B at *; omega)), ch_eq x2 (e 3 (by omega) (by omega) (by omega)) (e 4 (by omega) (by omega) (by omega)) (fun j hj => e j (by unfold mm_B at *; omega) (by unfold mm_B at *; omega) (by unfold mm_B at *; omega)), e5.trans x3, fun x hx hn => ?_⟩
  rw [e 2 (by omega) (by omega) (by omega)] at hn
  exact bo_eq (x4 x hx hn) (fun j h1 h2 => e j (by unfold mm_B at *; omega) (by unfold mm_B at *; omega) (by unfold mm_B at *; omega))
theorem LIm_keep {S S2 : Mem} {q : St} {kk L : Nat} {hs sl : Nat → St} (h : LIm S q kk L hs sl) (e : ∀ j, j = 8 ∨ j = 10 ∨ j = 11 ∨ j = 12 → S2 j = S j) (e3 : S2 7 3 = S 7 3) (e7 : S2 7 7 = S 7 7) (e8 : S2 7 8 = S 7 8) : LIm S2 q kk L hs sl := by
  obtain ⟨m1, m2, m3, m4, m5⟩ := h
  exact ⟨m1.trans (e 8 (by omega)).symm, mh_of m2 e3 (e 10 (by omega)), e7.trans m3, e8.trans m4, fun x hx hn i hi => by
    rw [e 12 (by omega)] at hn
    rw [e 11 (by omega)]
    exact m5 x hx hn i hi⟩
theorem LIg_keep {d : Int} {S S2 : Mem} {q : St} {kk L : Nat} {hs sl : Nat → St} (h : LIg d S q kk L hs sl) (e : ∀ j, j = 2 ∨ j = 6 ∨ j = 12 ∨ j = 13 → S2 j = S j) : LIg d S2 q kk L hs sl := by
  obtain ⟨g1, g2, g3, g4, g5, g6⟩ := h
  refine ⟨g1, g2, g3, by rw [e 13 (by omega)]; exact g4, by rw [e 6 (by omega), e 13 (by omega)]; exact g5, fun x hx => ?_⟩
  rw [e 2 (by omega), e 12 (by omega)]
  exact g6 x hx
/-- a call that changes nothing that counts -/
theorem LI_keep {d : Int} {S S2 : Mem} {q : St} {kk L : Nat} {hs sl : Nat → St} (h : LI d S q kk L hs sl) (e : ∀ j, (j < 28 ∨ 40 ≤ j) → j ≠ 5 → j ≠ 7 → j ≠ 9 → j ≠ 14 → j ≠ 15 → S2 j = S j) (e5 : S2 5 1 = S 5 1) (e3 : S2 7 3 = S 7 3) (e7 : S2 7 7 = S 7 7) (e8 : S2 7 8 = S 7 8) : LI d S2 q kk L hs sl :=
  ⟨LIg_keep h.1 (fun j hj => e j (by omega) (by omega) (by omega) (by omega) (by omega) (by omega)), LIx_keep h.2.1 (fun j a b c => e j a b (by omega) (by omega) (by omega) (by omega)) e5, LIm_keep h.2.2 (fun j hj => e j (by omega) (by omega) (by omega) (by omega) (by omega) (by omega)) e3 e7 e8⟩
theorem LI_rd {d : Int} {S S1 S2 : Mem} {q : St} {kk L : Nat} {hs sl : Nat → St} (h : LI d S q kk L hs sl) (h1 : fr_ 1 S S1) (h2 : rm S1 S2) : LI d S2 q kk L hs sl := by
  have e : ∀ j, (j < 28 ∨ 40 ≤ j) → j ≠ 9 → j ≠ 14 → S2 j = S j := fun j a b c => (h2 j b c).trans (h1 j (by unfold mm_B; omega))
  exact LI_keep h (fun j a _ _ b c _ => e j a b c) (by rw [e 5 (by omega) (by omega) (by omega)]) (by rw [e 7 (by omega) (by omega) (by omega)]) (by rw [e 7 (by omega) (by omega) (by omega)]) (by rw [e 7 (by omega) (by omega) (by omega)])
theorem LIm_fr {S S1 : Mem} {q : St} {kk L : Nat} {hs sl : Nat → St} (h : LIm S q kk L hs sl) (e : ∀ j, 7 ≤ j → j < 16 → S1 j = S j) : LIm S1 q kk L hs sl := LIm_keep h (fun j hj => e j (by omega) (by omega)) (by rw [e 7 (by omega) (by omega)]) (by rw [e 7 (by omega) (by omega)]) (by rw [e 7 (by omega) (by omega)])
theorem fr_mod {S S1 : Mem} (h : fr_ 1 S S1) : ∀ j, 7 ≤ j → j < 16 → S1 j = S j := fun j a b => h j (by unfold mm_B; omega)
theorem fX_mod {S S1 : Mem} (h : fX S S1) : ∀ j, 7 ≤ j → j < 16 → S1 j = S j := fun j a b => h j (by omega)
theorem hn_lok {d : Int} {kk : Nat} {hs : Nat → St} {q : St} {e : Int32} (hk : kk ≤ 6) (h : ∀ j, j < kk → lok d (hs j)) (hq : lok d q) : ∀ j, j < (hn kk hs q e).1 → lok d ((hn kk hs q e).2 j) := by
  have hu : ∀ j, j < kk + 1 → lok d (va_up hs kk q j) := fun j hj => by
    by_cases c : j = kk
    · rw [c, va_up_self]; exact hq
    · rw [va_up_ne _ _ c]; exact h j (by omega)
  intro j hj
  unfold hn at hj ⊢
  by_cases c : e = 0
  · rw [if_pos c] at hj ⊢
    dsimp only at hj ⊢
    unfold sp_pk at hj
    unfold sp_psh
    by_cases g : kk < 6
    · rw [if_pos g] at hj ⊢
      exact hu j hj
    · rw [if_neg g] at hj ⊢
      exact hu (j + 1) (by omega)
  · rw [if_neg c] at hj ⊢
    exact h j hj
/-- a change, on both sides -/
theorem LI_mx {d : Int} {S S1 S2 : Mem} {q : St} {kk L : Nat} {hs sl : Nat → St} {r1 r2 : Int32} {o : Int32 × St} (h : LI d S q kk L hs sl) (h1 : mx S S1 q kk hs r1 o) (h2 : md S1 S2 q kk hs r2 o) (hg : lok (d + 6000) o.2) : r1 = r2 ∧ LE (d + 6000) S2 := by
  obtain ⟨⟨g1, g2, g3, g4, g5, g6⟩, ⟨x1, x2, x3, x4⟩, hm⟩ := h
  obtain ⟨a1, a2, a3, a4⟩ := h1
  obtain ⟨m1, m2, m3, m4, m5⟩ := LIm_fr hm (fX_mod a4)
  obtain ⟨b1, b2, -, b4, b5⟩ := h2
  obtain ⟨b4, b6⟩ := b4 m4
  have e : ∀ j, (j < 3 ∨ 5 ≤ j ∧ j < 16 ∨ mm_B 1 ≤ j ∧ j < mm_B 4) → j ≠ 7 → j ≠ 8 → j ≠ 9 → j ≠ 10 → j ≠ 14 → S2 j = S j := fun j a c7 c8 c9 c10 c14 => (b5 j c7 c8 c9 c10 c14).trans (a4 j a)
  have e2 := e 2 (by omega) (by omega) (by omega) (by omega) (by omega) (by omega)
  have e12 := e 12 (by omega) (by omega) (by omega) (by omega) (by omega) (by omega)
  have e13 := e 13 (by omega) (by omega) (by omega) (by omega) (by omega) (by omega)
  have e6 := e 6 (by omega) (by omega) (by omega) (by omega) (by omega) (by omega)
  have e5 := e 5 (by omega) (by omega) (by omega) (by omega) (by omega) (by omega)
  refine ⟨a1.trans b1.symm, o.2, (hn kk hs q (sp_err o.1)).1, L, (hn kk hs q (sp_err o.1)).2, sl, ⟨hg, fun j hj => lok_mono (hn_lok x2.1.1 g2 g1 j hj) (by omega), g3, by rw [e13]; exact g4, by rw [e6, e13]; exact g5, fun x hx => ?_⟩, ⟨bo_eq a2 (fun j c1 c2 => b5 j (by unfold mm_B at *; omega) (by unfold mm_B at *; omega) (by unfold mm_B at *; omega) (by unfold mm_B at *; omega) (by unfold mm_B at *; omega)), ch_eq a3 (b5 3 (by decide) (by decide) (by decide) (by decide) (by decide)) (b5 4 (by decide) (by decide) (by decide) (by decide) (by decide)) (fun j c1 => b5 j (by unfold mm_B at *; omega) (by unfold mm_B at *; omega) (by unfold mm_B at *; omega) (by unfold mm_B at *; omega) (by unfold mm_B at *; omega)), by rw [e5]; exact x3, fun x hx hn => ?_⟩, b2.symm, b4, ?_, ?_, fun x hx hn i hi => ?_⟩
  · rw [e2, e12]
    exact ⟨(g6 x hx).1, fun hn => lok_mono ((g6 x hx).2 hn) (by omega)⟩
  · rw [e2] at hn
    exact bo_eq (x4 x hx hn) (fun j c1 c2 => e j (by unfold mm_B at *; omega) (by unfold mm_B at *; omega) (by unfold mm_B at *; omega) (by unfold mm_B at *; omega) (by unfold mm_B at *; omega) (by unfold mm_B at *; omega))
  · rw [b6 7 (by decide)]; exact m3
  · rw [b6 8 (by decide)]; exact m4
  · rw [b5 12 (by decide) (by decide) (by decide) (by decide) (by decide)] at hn
    rw [b5 11 (by decide) (by decide) (by decide) (by decide) (by decide)]
    exact m5 x hx hn i hi
