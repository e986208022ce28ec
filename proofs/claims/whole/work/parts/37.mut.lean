/-! THE CALLS THAT ARE CHANGES -/
def gd (q : St) : Prop := sp_wf q.1 q.2 ∧ sp_bu q.2 q.1 = 99
def hn (kk : Nat) (hs : Nat → St) (q : St) (e : Int32) : Nat × (Nat → St) := if e = 0 then (sp_pk kk, sp_psh kk (va_up hs kk q)) else (kk, hs)
def fX (S S2 : Mem) : Prop := ∀ j, (j < 3 ∨ (5 ≤ j ∧ j < 16) ∨ (mm_B 1 ≤ j ∧ j < mm_B 4)) → S2 j = S j
def mx (S S2 : Mem) (q : St) (kk : Nat) (hs : Nat → St) (r : Int32) (o : Int32 × St) : Prop := r = o.1 ∧ bo S2 0 o.2 ∧ ch S2 (hn kk hs q (sp_err o.1)).1 (hn kk hs q (sp_err o.1)).1 (hn kk hs q (sp_err o.1)).2 ∧ fX S S2
theorem bo_of {C b : Nat} {S : Mem} {z : Nat → Int32} (h : sp_wf C z) (hr : rb C S b z) (ht : rt_ C S b z) : bo S b (C, z) := ⟨h.1.1, h.1.2.1, hr, ht⟩
theorem ch_congr {S : Mem} {kk m : Nat} {hs hs' : Nat → St} (h : ch S kk m hs) (e : ∀ i, i < m → hs' i = hs i) : ch S kk m hs' := by
  obtain ⟨h1, h2, hb, h3, h4, h5⟩ := h
  exact ⟨h1, h2, hb, h3, h4, fun i hi => by rw [e i hi]; exact h5 i hi⟩
/-- note, a change of the bridge, keepUnlessError -/
theorem mx_of {S S1 S2 S3 : Mem} {q : St} {kk : Nat} {hs : Nat → St} {r1 r3 : Int32} {o : Int32 × St} (h1 : ch S1 kk (kk + 1) (va_up hs kk q) ∧ ∀ j, j < mm_B 4 → S1 j = S j) (hr : r1 = o.1) (h2 : bo S2 0 o.2) (hf : fr_ 0 S1 S2)
    (h3 : r3 = r1 ∧ (sp_err r1 ≠ 0 → S3 = S2) ∧ (sp_err r1 = 0 → ch S3 (sp_pk kk) (sp_pk kk) (sp_psh kk (va_up hs kk q))) ∧ ∀ j, j ≠ 3 → j ≠ 4 → S3 j = S2 j) : mx S S3 q kk hs r3 o := by
  obtain ⟨k1, k2, k3, k4⟩ := h3
  have e : ∀ j, j ≠ 3 → j ≠ 4 → (j < mm_B 0 ∨ mm_B 1 ≤ j) → S3 j = S1 j := fun j a b c => (k4 j a b).trans (hf j (by unfold mm_B at *; omega))
  refine ⟨k1.trans hr, bo_eq h2 (fun j hj _ => k4 j (by unfold mm_B at hj; omega) (by unfold mm_B at hj; omega)), ?_, fun j hj => (e j (by unfold mm_B at *; omega) (by unfold mm_B at *; omega) (by unfold mm_B at *; omega)).trans (h1.2 j (by unfold mm_B at *; omega))⟩
  unfold hn
  rw [← hr]
  by_cases c : sp_err r1 = 0
  · rw [if_pos c]
    exact k3 c
  · rw [if_neg c]
    have e3 := k2 c
    subst e3
    refine ch_congr (hs := va_up hs kk q) (ch_mono (ch_eq h1.1 (hf 3 (by unfold mm_B; omega)) (hf 4 (by unfold mm_B; omega)) (fun j hj => hf j (by unfold mm_B at *; omega))) (Nat.le_succ _)) (fun i hi => (va_up_ne _ _ (by omega)).symm)
theorem note_ch {S1 S2 : Mem} {kk : Nat} {hs : Nat → St} (h1 : ch S1 kk (kk + 1) hs) (hf : fr_ 0 S1 S2) : ch S2 kk (kk + 1) hs :=
  ch_eq h1 (hf 3 (by unfold mm_B; omega)) (hf 4 (by unfold mm_B; omega)) (fun j hj => hf j (by unfold mm_B at *; omega))
theorem note_bo {S S1 : Mem} {b : Nat} {q : St} (hb : b < 4) (h : bo S b q) (e : ∀ j, j < mm_B 4 → S1 j = S j) : bo S1 b q := bo_eq h (fun j _ hj => e j (by unfold mm_B at *; omega))
def os_set (q : St) (s v : Int32) : Int32 × St := ((op_set q.2 s v).1, (q.1, (op_set q.2 s v).2))
def os_load (q : St) (p v : Int32) : Int32 × St := ((op_load q.1 q.2 p v).1, (q.1, (op_load q.1 q.2 p v).2))
def os_days (q : St) (d : Int32) : Int32 × St := ((op_days q.1 q.2 d).1, (q.1, (op_days q.1 q.2 d).2))
def os_walk (q : St) (p : Int32) : Int32 × St := ((op_walk q.2 p).1, (q.1, (op_walk q.2 p).2))
def os_hear (q : St) : Int32 × St := ((op_hear q.1 q.2).1, (q.1, (op_hear q.1 q.2).2))
def os_tight (q : St) (t : Int32) : Int32 × St := ((op_tight q.1 q.2 t).1, (q.1, (op_tight q.1 q.2 t).2))
def os_wire (q : St) (a b c d e : Int32) : Int32 × St := if op_wbad q.1 q.2 a b c d e = 0 then (nI q.1, (q.1 + 1, sp_stl (q.1 + 1) 8 (sp_new q.1 q.2 a b c d e))) else (op_wbad q.1 q.2 a b c d e, q)
theorem stl_3 {C : Nat} : ∀ (k : Nat) (z : Nat → Int32) {i : Nat}, i < 30 → sp_stl C k z i = z i
  | 0, _, _, _ => rfl
  | k + 1, z, i, hi => by
    unfold sp_stl
    by_cases h : sp_bu z C = 99
    · rw [if_pos h]
    · rw [if_neg h, stl_3 k _ hi, sp_brk_lo z _ hi]
theorem dz_3 {C : Nat} : ∀ (k : Nat) (z : Nat → Int32) {i : Nat}, i < 30 → i ≠ 2 → sp_dz C k z i = z i
  | 0, _, _, _, _ => rfl
  | k + 1, z, i, hi, h2 => by
    unfold sp_dz
    rw [dz_3 k _ hi h2]
    unfold sp_day
    rw [upd_n _ _ h2, sp_lo_low C z hi]
theorem op_set_3 {C : Nat} {z : Nat → Int32} {s v : Int32} (h : z 3 = nI C) : (op_set z s v).2 3 = nI C := by
  unfold op_set
  split
  · exact h
  · split
    · dsimp only; rw [upd_n z v (by decide)]; exact h
    · split
      · dsimp only; rw [upd_n z v (by decide)]; exact h
      · exact h
theorem op_load_3 {C : Nat} {z : Nat → Int32} {p v : Int32} (h : z 3 = nI C) : (op_load C z p v).2 3 = nI C := by
  unfold op_load
  split
  · exact h
  · split
    · exact h
    · dsimp only; rw [stl_3 8 _ (by decide), upd_n z v (by omega)]; exact h
theorem op_days_3 {C : Nat} {z : Nat → Int32} {d : Int32} (h : z 3 = nI C) : (op_days C z d).2 3 = nI C := by
  unfold op_days
  split
  · exact h
  · dsimp only; rw [dz_3 _ z (by decide) (by decide)]; exact h
theorem op_walk_3 {C : Nat} {z : Nat → Int32} {p : Int32} (h : z 3 = nI C) : (op_walk z p).2 3 = nI C := by
  unfold op_walk
  split
  · exact h
  · dsimp only; rw [upd_n _ _ (by decide), upd_n _ _ (by decide)]; exact h
theorem op_hear_3 {C : Nat} {z : Nat → Int32} (h : z 3 = nI C) : (op_hear C z).2 3 = nI C := by
  unfold op_hear
  split
  · exact h
  · split
    · dsimp only; rw [sp_kn_low _ _ _ _ (by decide)]; exact h
    · dsimp only; rw [sp_kn_low _ _ _ _ (by decide), sp_up_lo _ _ _ _ (by decide)]; exact h
theorem op_tight_3 {C : Nat} {z : Nat → Int32} {t : Int32} (h : z 3 = nI C) : (op_tight C z t).2 3 = nI C := by
  unfold op_tight
  split
  · exact h
  · split
    · exact h
    · split
      · dsimp only; rw [sp_kn_low _ _ _ _ (by decide), sp_up_lo _ _ _ _ (by decide)]; exact h
      · exact h
