/-! WHAT EVERY CHANGE KEEPS -/
def sp_nx (z : Nat → Int32) : Nat → Nat
  | 0 => 0
  | c + 1 => sp_nx z c + if sp_f z c 5 = 0 then 1 else 0
theorem sp_nx_le (z : Nat → Int32) : ∀ c, sp_nx z c ≤ c
  | 0 => Nat.le_refl 0
  | c + 1 => by
    have := sp_nx_le z c
    unfold sp_nx
    split <;> omega
theorem sp_nx_same {z : Nat → Int32} {k : Nat} : ∀ c, c ≤ k → sp_nx (sp_brk z k) c = sp_nx z c
  | 0, _ => rfl
  | c + 1, h => by
    have e : sp_f (sp_brk z k) c 5 = sp_f z c 5 := by
      rw [sp_brk_f z k (by decide)]
      have : ¬ c = k := by omega
      simp [this]
    unfold sp_nx
    rw [sp_nx_same c (by omega), e]
theorem sp_nx_brk {z : Nat → Int32} {k : Nat} (h0 : sp_f z k 5 = 0) : ∀ c, k < c → sp_nx (sp_brk z k) c + 1 = sp_nx z c
  | 0, h => absurd h (Nat.not_lt_zero k)
  | c + 1, h => by
    unfold sp_nx
    by_cases e : c = k
    · subst e
      have e1 : sp_f (sp_brk z c) c 5 = 1 := by rw [sp_brk_f z c (by decide)]; simp
      rw [sp_nx_same c (Nat.le_refl c), e1, if_neg (by decide), if_pos h0]
    · have e1 : sp_f (sp_brk z k) c 5 = sp_f z c 5 := by rw [sp_brk_f z k (by decide)]; simp [e]
      have ih := sp_nx_brk h0 c (by omega)
      rw [e1]
      omega
theorem sp_stl_bu {C : Nat} : ∀ (k : Nat) (z : Nat → Int32), sp_nx z C ≤ k → sp_bu (sp_stl C k z) C = 99
  | 0, z, h => by
    show sp_bu z C = 99
    rcases Nat.decEq (sp_bu z C) 99 with e | e
    · have := sp_bu_lt e
      have := sp_nx_brk this.2 C this.1
      omega
    · exact e
  | k + 1, z, h => by
    unfold sp_stl
    by_cases e : sp_bu z C = 99
    · rw [if_pos e]; exact e
    · rw [if_neg e]
      have h1 := sp_bu_lt e
      have h2 := sp_nx_brk h1.2 C h1.1
      exact sp_stl_bu k _ (by omega)
theorem sp_stl_8 {C : Nat} (hC : C ≤ 8) (z : Nat → Int32) : sp_bu (sp_stl C 8 z) C = 99 := sp_stl_bu 8 z (by have := sp_nx_le z C; omega)
theorem gd_bu {C : Nat} {z z' : Nat → Int32} (hC : C ≤ 8) (h : sp_bu z C = 99) (e : ∀ k f, (f = 0 ∨ f = 3 ∨ f = 5) → sp_f z' k f = sp_f z k f) (hl : ∀ p, p < 20 → z' (10 + p) = z (10 + p)) : sp_bu z' C = 99 := by
  rw [sp_bu_congr hC (fun k _ => ⟨e k 0 (Or.inl rfl), e k 5 (Or.inr (Or.inr rfl)), e k 3 (Or.inr (Or.inl rfl))⟩) hl]
  exact h
/-- good states stay good, and the day grows by at most b -/
def gs (q q' : St) (b : Int) : Prop := gd q' ∧ (q.2 2).toInt ≤ (q'.2 2).toInt ∧ (q'.2 2).toInt ≤ (q.2 2).toInt + b
theorem gs_mk {C C' : Nat} {z z' : Nat → Int32} {b : Int} (h1 : sp_wf C' z') (h2 : sp_bu z' C' = 99) (h3 : (z 2).toInt ≤ (z' 2).toInt) (h4 : (z' 2).toInt ≤ (z 2).toInt + b) : gs (C, z) (C', z') b := ⟨⟨h1, h2⟩, h3, h4⟩
theorem gs_refl {q : St} (h : gd q) : gs q q 0 := ⟨h, Int.le_refl _, by omega⟩
theorem gd_set {q : St} {s v : Int32} (h : gd q) : gs q (os_set q s v).2 0 := by
  obtain ⟨C, z⟩ := q
  obtain ⟨hw, hc⟩ := id h
  dsimp only at hw hc
  unfold os_set op_set
  dsimp only
  split
  · exact gs_refl h
  · next hin =>
    rw [sp_in_iff, show (0 : Int32).toInt = 0 by decide, show (100 : Int32).toInt = 100 by decide] at hin
    have key : ∀ i, i < 2 → gs (C, z) (C, upd z i v) 0 := by
      intro i hi
      refine gs_mk ?_ (gd_bu hw.1.1 hc (fun k f _ => sp_f_upd z (by omega) v k f) (fun p hp => upd_n z v (by omega))) ?_ ?_
      · refine sp_wf_low hw (fun k f => sp_f_upd z (by omega) v k f) (upd_n z v (by omega)) (fun p hp => by rw [upd_n z v (by omega)]; exact hw.2.2.1 p hp) (by rw [upd_n z v (by omega)]; exact hw.2.2.2.1) ?_ ?_ (by rw [upd_n z v (by omega)]; exact hw.2.2.2.2.2.2.1)
        · by_cases e : i = 0
          · subst e; rw [upd_s]; omega
          · rw [upd_n z v (Ne.symm e)]; exact hw.2.2.2.2.1
        · by_cases e : i = 1
          · subst e; rw [upd_s]; omega
          · rw [upd_n z v (Ne.symm e)]; exact hw.2.2.2.2.2.1
      · show (z 2).toInt ≤ (upd z i v 2).toInt
        rw [upd_n z v (by omega)]; exact Int.le_refl _
      · show (upd z i v 2).toInt ≤ (z 2).toInt + 0
        rw [upd_n z v (by omega)]; omega
    split
    · exact key 0 (by decide)
    · split
      · exact key 1 (by decide)
      · exact gs_refl h
theorem gd_load {q : St} {p v : Int32} (h : gd q) : gs q (os_load q p v).2 0 := by
  obtain ⟨C, z⟩ := q
  obtain ⟨hw, hc⟩ := id h
  dsimp only at hw hc
  unfold os_load op_load
  dsimp only
  split
  · exact gs_refl h
  · next h1 =>
    split
    · exact gs_refl h
    · next h2 =>
      rw [sp_in_iff, show (0 : Int32).toInt = 0 by decide, show (19 : Int32).toInt = 19 by decide] at h1
      rw [sp_in_iff, show (0 : Int32).toInt = 0 by decide, show (1000 : Int32).toInt = 1000 by decide] at h2
      have hl := sp_cl (x := p) (by omega)
      have hw1 := sp_load_wf (v := v) hw (p := p.toNatClampNeg) (by omega) (by omega)
      dsimp only
      refine gs_mk (sp_stl_wf 8 hw1) (sp_stl_8 hw.1.1 _) ?_ ?_
      · show (z 2).toInt ≤ (sp_stl C 8 (upd z (10 + p.toNatClampNeg) v) 2).toInt
        rw [stl_3 8 _ (by decide), upd_n z v (by omega)]; exact Int.le_refl _
      · show (sp_stl C 8 (upd z (10 + p.toNatClampNeg) v) 2).toInt ≤ _
        rw [stl_3 8 _ (by decide), upd_n z v (by omega)]; omega
theorem dz_gd {C : Nat} : ∀ (k : Nat) (z : Nat → Int32), sp_wf C z → sp_bu z C = 99 → (z 2).toInt + (k : Int) ≤ 2000000000 → sp_wf C (sp_dz C k z) ∧ sp_bu (sp_dz C k z) C = 99 ∧ (sp_dz C k z 2).toInt = (z 2).toInt + (k : Int)
  | 0, z, h1, h2, _ => ⟨h1, h2, by show (z 2).toInt = _; omega⟩
  | k + 1, z, h1, h2, h3 => by
    unfold sp_dz
    have h0 := h1.2.2.2.2.2.2.1
    have e := sp_day_2 (C := C) h0 (by omega)
    obtain ⟨a, b, c⟩ := dz_gd k (sp_day C z) (sp_day_wf h1 (by omega)) ((sp_day_bu h1.1.1).trans h2) (by omega)
    exact ⟨a, b, by omega⟩
theorem gd_days {q : St} {d : Int32} (h : gd q) (hd : (q.2 2).toInt ≤ 1000000000) : gs q (os_days q d).2 100 := by
  obtain ⟨C, z⟩ := q
  obtain ⟨hw, hc⟩ := id h
  dsimp only at hw hc hd
  unfold os_days op_days
  dsimp only
  split
  · exact ⟨h, Int.le_refl _, by dsimp only; omega⟩
  · next h1 =>
    rw [sp_in_iff, show (1 : Int32).toInt = 1 by decide, show (100 : Int32).toInt = 100 by decide] at h1
    have hl := sp_cl (x := d) (by omega)
    obtain ⟨a, b, c⟩ := dz_gd d.toNatClampNeg z hw hc (by omega)
    dsimp only
    exact gs_mk a b (by omega) (by omega)
theorem gd_walk {q : St} {p : Int32} (h : gd q) : gs q (os_walk q p).2 0 := by
  obtain ⟨C, z⟩ := q
  obtain ⟨hw, hc⟩ := id h
  dsimp only at hw hc
  unfold os_walk op_walk
  dsimp only
  split
  · exact gs_refl h
  · next h1 =>
    rw [sp_in_iff, show (0 : Int32).toInt = 0 by decide, show (19 : Int32).toInt = 19 by decide] at h1
    have hf : ∀ k f, sp_f (upd (upd z 4 p) 5 (z 5 + sp_far p (z 4))) k f = sp_f z k f := fun k f => by rw [sp_f_upd _ (by decide), sp_f_upd _ (by decide)]
    have hn : ∀ i, i ≠ 4 → i ≠ 5 → upd (upd z 4 p) 5 (z 5 + sp_far p (z 4)) i = z i := fun i h4 h5 => by rw [upd_n _ _ h5, upd_n _ _ h4]
    dsimp only
    refine gs_mk (sp_wf_low hw hf (hn 3 (by decide) (by decide)) (fun i hi => by rw [hn _ (by omega) (by omega)]; exact hw.2.2.1 i hi) (by rw [upd_n _ _ (by decide), upd_s]; omega) (by rw [hn 0 (by decide) (by decide)]; exact hw.2.2.2.2.1) (by rw [hn 1 (by decide) (by decide)]; exact hw.2.2.2.2.2.1) (by rw [hn 2 (by decide) (by decide)]; exact hw.2.2.2.2.2.2.1)) (gd_bu hw.1.1 hc (fun k f _ => hf k f) (fun i hi => hn _ (by omega) (by omega))) ?_ ?_
    · show (z 2).toInt ≤ (upd (upd z 4 p) 5 (z 5 + sp_far p (z 4)) 2).toInt
      rw [hn 2 (by decide) (by decide)]; exact Int.le_refl _
    · show (upd (upd z 4 p) 5 (z 5 + sp_far p (z 4)) 2).toInt ≤ (z 2).toInt + 0
      rw [hn 2 (by decide) (by decide)]; omega
/-- what is known is put down: the state stays good -/
theorem gd_know {C k : Nat} {z z1 : Nat → Int32} {lo hi : Int32} (h : gd (C, z)) (hk : k < C) (h1l : ∀ i, i < 30 → z1 i = z i) (h1o : ∀ i f, i ≠ k → f < 14 → sp_f z1 i f = sp_f z i f) (h1k : ∀ f, f < 14 → f ≠ 4 → f ≠ 10 → sp_f z1 k f = sp_f z k f) (h4 : 0 ≤ (sp_f z1 k 4).toInt ∧ (sp_f z1 k 4).toInt ≤ 50000 ∧ (sp_f z k 5 = 1 → sp_f z1 k 4 = 0)) (h10 : (sp_f z1 k 10 = 0 ∨ sp_f z1 k 10 = 1) ∧ (sp_f z1 k 10 = 1 → sp_f z k 5 = 1 ∧ lo = 0 ∧ hi = 0)) (hlo : 0 ≤ lo.toInt ∧ lo.toInt ≤ 50000) (hhi : 0 ≤ hi.toInt ∧ hi.toInt ≤ 50000) : gs (C, z) (C, sp_kn z1 k lo hi) 0 := by
  obtain ⟨hw, hc⟩ := id h
  dsimp only at hw hc
  have hlw : ∀ i, i < 30 → sp_kn z1 k lo hi i = z i := fun i hi2 => by rw [sp_kn_low _ _ _ _ hi2, h1l i hi2]
  have ho : ∀ i f, i ≠ k → f < 14 → sp_f (sp_kn z1 k lo hi) i f = sp_f z i f := fun i f hi2 hf => by rw [sp_kn_o _ _ _ hf (Or.inl hi2), h1o i f hi2 hf]
  have hkk : ∀ f, f < 14 → f ≠ 7 → f ≠ 8 → f ≠ 9 → f ≠ 4 → f ≠ 10 → sp_f (sp_kn z1 k lo hi) k f = sp_f z k f := fun f hf h7 h8 h9 h4 h10 => by rw [sp_kn_o _ _ _ hf (Or.inr ⟨h7, h8, h9⟩), h1k f hf h4 h10]
  have e7 : sp_f (sp_kn z1 k lo hi) k 7 = z 2 := by rw [sp_kn_f _ _ _ _ (by decide), h1l 2 (by decide)]; simp
  have e8 : sp_f (sp_kn z1 k lo hi) k 8 = lo := by rw [sp_kn_f _ _ _ _ (by decide)]; simp
  have e9 : sp_f (sp_kn z1 k lo hi) k 9 = hi := by rw [sp_kn_f _ _ _ _ (by decide)]; simp
  have e4 : sp_f (sp_kn z1 k lo hi) k 4 = sp_f z1 k 4 := sp_kn_o _ _ _ (by decide) (Or.inr (by decide))
  have e10 : sp_f (sp_kn z1 k lo hi) k 10 = sp_f z1 k 10 := sp_kn_o _ _ _ (by decide) (Or.inr (by decide))
  have hd := hw.2.2.2.2.2.2.1
  have hne : z 2 ≠ -6 := fun e => by rw [e] at hd; exact absurd hd (by decide)
  have h035 : ∀ i f, (f = 0 ∨ f = 3 ∨ f = 5) → sp_f (sp_kn z1 k lo hi) i f = sp_f z i f := by
    intro i f hf
    by_cases e : i = k
    · subst e
      exact hkk f (by omega) (by omega) (by omega) (by omega) (by omega) (by omega)
    · exact ho i f e (by omega)
  refine gs_mk ⟨sp_up_ws hw.1 (hlw 3 (by decide)) (fun i _ => h035 i 0 (Or.inl rfl)), fun i hi2 => ?_, fun p hp => by rw [hlw _ (by omega)]; exact hw.2.2.1 p hp, by rw [hlw 4 (by decide)]; exact hw.2.2.2.1, by rw [hlw 0 (by decide)]; exact hw.2.2.2.2.1, by rw [hlw 1 (by decide)]; exact hw.2.2.2.2.2.1, by rw [hlw 2 (by decide)]; exact hd, fun i f hi2 hi8 hf => by rw [ho i f (by omega) hf]; exact hw.2.2.2.2.2.2.2 i f hi2 hi8 hf⟩ (gd_bu hw.1.1 hc h035 (fun p hp => hlw _ (by omega))) ?_ ?_
  · have g := hw.2.1 i hi2
    by_cases e : i = k
    · subst e
      unfold sp_ww at g ⊢
      obtain ⟨a1, a2, a3, a4, a5, a6, a7, a8, a9, a10, a11, a12, a13, a14, a15⟩ := g
      rw [hkk 0 (by decide) (by decide) (by decide) (by decide) (by decide) (by decide), hkk 1 (by decide) (by decide) (by decide) (by decide) (by decide) (by decide), hkk 2 (by decide) (by decide) (by decide) (by decide) (by decide) (by decide), hkk 3 (by decide) (by decide) (by decide) (by decide) (by decide) (by decide), hkk 5 (by decide) (by decide) (by decide) (by decide) (by decide) (by decide), e4, e7, e8, e9, e10]
      exact ⟨a1, a2, a3, a4, a5, a6, a7, a8, h4.1, h4.2.1, a11, h10.1, h4.2.2, fun q => ⟨(h10.2 q).1, (h10.2 q).2.1, (h10.2 q).2.2, hne⟩, Or.inr ⟨hd, hlo.1, hlo.2, hhi.1, hhi.2⟩⟩
    · unfold sp_ww at g ⊢
      rw [ho i 0 e (by decide), ho i 1 e (by decide), ho i 2 e (by decide), ho i 3 e (by decide), ho i 4 e (by decide), ho i 5 e (by decide), ho i 7 e (by decide), ho i 8 e (by decide), ho i 9 e (by decide), ho i 10 e (by decide)]
      exact g
  · show (z 2).toInt ≤ (sp_kn z1 k lo hi 2).toInt
    rw [hlw 2 (by decide)]; exact Int.le_refl _
  · show (sp_kn z1 k lo hi 2).toInt ≤ (z 2).toInt + 0
    rw [hlw 2 (by decide)]; omega
theorem gd_tight {q : St} {t : Int32} (h : gd q) : gs q (os_tight q t).2 0 := by
  obtain ⟨C, z⟩ := q
  obtain ⟨hw, hc⟩ := id h
  dsimp only at hw hc
  unfold os_tight op_tight
  dsimp only
  split
  · exact gs_refl h
  · next h1 =>
    split
    · exact gs_refl h
    · next h2 =>
      split
      · next h3 =>
        rw [sp_in_iff, show (0 : Int32).toInt = 0 by decide, show (50000 : Int32).toInt = 50000 by decide] at h1
        have hk := (sp_hw_lt hw.1.1 h2).1
        have hww := hw.2.1 _ hk
        have ht : 0 ≤ t.toInt ∧ t.toInt ≤ 50000 := by omega
        have e10 : sp_f (sp_up z (sp_hw z C) 4 t) (sp_hw z C) 10 = sp_f z (sp_hw z C) 10 := by rw [sp_up_f _ _ (by decide) (by decide), if_neg (by omega)]
        have e4 : sp_f (sp_up z (sp_hw z C) 4 t) (sp_hw z C) 4 = t := by rw [sp_up_f _ _ (by decide) (by decide), if_pos ⟨rfl, rfl⟩]
        dsimp only
        refine gd_know h hk (fun i hi => sp_up_lo _ _ _ _ hi) (fun i f hi hf => by rw [sp_up_f _ _ (by decide) hf, if_neg (fun g => hi g.1)]) (fun f hf h4 h10 => by rw [sp_up_f _ _ (by decide) hf, if_neg (fun g => h4 g.2)]) ?_ ?_ ht ht
        · rw [e4]
          exact ⟨ht.1, ht.2, fun g => by rw [h3.1] at g; exact absurd g (by decide)⟩
        · rw [e10]
          refine ⟨hww.2.2.2.2.2.2.2.2.2.2.2.1, fun g => ?_⟩
          have := (hww.2.2.2.2.2.2.2.2.2.2.2.2.2.1 g).1
          rw [h3.1] at this
          exact absurd this (by decide)
      · exact gs_refl h
