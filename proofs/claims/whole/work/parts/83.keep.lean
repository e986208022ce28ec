/-! WHAT THE CALLS KEEP -/
theorem lok_gs {d b : Int} {q q' : St} (h : lok d q) (g : gs q q' b) (hb : b ≤ 6000) (t : ∀ i, 150 ≤ i → q'.2 i = q.2 i) : lok (d + 6000) q' := ⟨g.1, by have := g.2.2; have := h.2.1; omega, fun i hi => (t i hi).trans (h.2.2 i hi)⟩
theorem up_hi {z : Nat → Int32} {k f i : Nat} {x : Int32} (hk : k < 8) (hf : f < 14) (hi : 150 ≤ i) : sp_up z k f x i = z i := by
  unfold sp_up
  rw [if_neg (by omega)]
theorem kn_hi {z : Nat → Int32} {k i : Nat} {a b : Int32} (hk : k < 8) (hi : 150 ≤ i) : sp_kn z k a b i = z i := by
  unfold sp_kn
  rw [up_hi hk (by decide) hi, up_hi hk (by decide) hi, up_hi hk (by decide) hi]
theorem tl_set {q : St} {s v : Int32} : ∀ i, 150 ≤ i → (os_set q s v).2.2 i = q.2 i := fun i hi => by
  unfold os_set op_set
  dsimp only
  split
  · rfl
  · split
    · exact upd_n _ _ (by omega)
    · split
      · exact upd_n _ _ (by omega)
      · rfl
theorem tl_walk {q : St} {p : Int32} : ∀ i, 150 ≤ i → (os_walk q p).2.2 i = q.2 i := fun i hi => by
  unfold os_walk op_walk
  dsimp only
  split
  · rfl
  · dsimp only
    rw [upd_n _ _ (by omega), upd_n _ _ (by omega)]
theorem tl_load {q : St} {p v : Int32} (hC : q.1 ≤ 8) : ∀ i, 150 ≤ i → (os_load q p v).2.2 i = q.2 i := fun i hi => by
  unfold os_load op_load
  dsimp only
  split
  · rfl
  · next hp =>
    have hb := sp_in_1 hp
    rw [show (0 : Int32).toInt = 0 by decide, show (19 : Int32).toInt = 19 by decide] at hb
    have hc := sp_cl hb.1
    split
    · rfl
    · dsimp only
      rw [stl_hi hC hi, upd_n _ _ (by omega)]
theorem dz_hi {C : Nat} (hC : C ≤ 8) {i : Nat} (hi : 150 ≤ i) : ∀ (k : Nat) (z : Nat → Int32), sp_dz C k z i = z i
  | 0, _ => rfl
  | k + 1, z => by rw [sp_dz, dz_hi hC hi k, day_hi hC hi]
theorem tl_days {q : St} {n : Int32} (hC : q.1 ≤ 8) : ∀ i, 150 ≤ i → (os_days q n).2.2 i = q.2 i := fun i hi => by
  unfold os_days op_days
  dsimp only
  split
  · rfl
  · exact dz_hi hC hi _ _
theorem hw_8 {q : St} (hC : q.1 ≤ 8) (h : ¬ sp_hw q.2 q.1 = 99) : sp_hw q.2 q.1 < 8 := by
  have := (sp_hw_lt hC h).1
  omega
theorem tl_hear {q : St} (hC : q.1 ≤ 8) : ∀ i, 150 ≤ i → (os_hear q).2.2 i = q.2 i := fun i hi => by
  unfold os_hear op_hear
  dsimp only
  split
  · rfl
  · next h =>
    have h8 := hw_8 hC h
    split
    · exact kn_hi h8 hi
    · dsimp only
      rw [kn_hi h8 hi, up_hi h8 (by decide) hi]
theorem tl_tight {q : St} {t : Int32} (hC : q.1 ≤ 8) : ∀ i, 150 ≤ i → (os_tight q t).2.2 i = q.2 i := fun i hi => by
  unfold os_tight op_tight
  dsimp only
  split
  · rfl
  · split
    · rfl
    · next h =>
      have h8 := hw_8 hC h
      split
      · dsimp only
        rw [kn_hi h8 hi, up_hi h8 (by decide) hi]
      · rfl
theorem tl_ord {q : St} {k a b : Int32} (hC : q.1 ≤ 8) : ∀ i, 150 ≤ i → (ord q k a b).2.2 i = q.2 i := fun i hi => by
  unfold ord
  split
  · exact tl_days hC i hi
  · split
    · exact tl_walk i hi
    · split
      · exact tl_hear hC i hi
      · split
        · exact tl_load hC i hi
        · split
          · exact tl_tight hC i hi
          · rfl
theorem ord_C (q : St) (k a b : Int32) : (ord q k a b).2.1 = q.1 := by
  unfold ord
  split
  · rfl
  · split
    · rfl
    · split
      · rfl
      · split
        · rfl
        · split <;> rfl
theorem tl_oc {t : Nat → Int32} {L : Nat} : ∀ (k i : Nat) (q : St) (dn : Nat), q.1 ≤ 8 → ∀ j, 150 ≤ j → (oc t L k i q dn).2.2 j = q.2 j
  | 0, _, _, _, _, _, _ => rfl
  | k + 1, i, q, dn, hC, j, hj => by
    rw [oc]
    split
    · rfl
    · split
      · rw [tl_oc k _ _ _ (by rw [ord_C]; exact hC) j hj, tl_ord hC j hj]
      · exact tl_ord hC j hj
theorem wbad_8 {C : Nat} {z : Nat → Int32} {a b c d e : Int32} (hC : C ≤ 8) (h : op_wbad C z a b c d e = 0) : C < 8 := by
  unfold op_wbad at h
  split at h
  · exact absurd h (by decide)
  · split at h
    · exact absurd h (by decide)
    · omega
theorem tl_wire {q : St} {a b c e f : Int32} (hC : q.1 ≤ 8) : ∀ i, 150 ≤ i → (os_wire q a b c e f).2.2 i = q.2 i := fun i hi => by
  unfold os_wire
  split
  · next h =>
    have h8 : q.1 < 8 := wbad_8 hC h
    dsimp only
    rw [stl_hi (by omega) hi]
    unfold sp_new
    rw [up_hi h8 (by decide) hi, up_hi h8 (by decide) hi, up_hi h8 (by decide) hi, up_hi h8 (by decide) hi, up_hi h8 (by decide) hi, up_hi h8 (by decide) hi, up_hi h8 (by decide) hi, up_hi h8 (by decide) hi, up_hi h8 (by decide) hi, upd_n _ _ (by omega)]
  · rfl
theorem lk_set {d : Int} {q : St} {a b : Int32} (h : lok d q) : lok (d + 6000) (os_set q a b).2 := lok_gs h (gd_set h.1) (by omega) tl_set
theorem lk_walk {d : Int} {q : St} {a : Int32} (h : lok d q) : lok (d + 6000) (os_walk q a).2 := lok_gs h (gd_walk h.1) (by omega) tl_walk
theorem lk_load {d : Int} {q : St} {a b : Int32} (h : lok d q) : lok (d + 6000) (os_load q a b).2 := lok_gs h (gd_load h.1) (by omega) (tl_load h.1.1.1.1)
theorem lk_days {d : Int} {q : St} {a : Int32} (h : lok d q) (hd : d ≤ 1000000000) : lok (d + 6000) (os_days q a).2 := lok_gs h (gd_days h.1 (by have := h.2.1; omega)) (by omega) (tl_days h.1.1.1.1)
theorem lk_hear {d : Int} {q : St} (h : lok d q) : lok (d + 6000) (os_hear q).2 := lok_gs h (gd_hear h.1) (by omega) (tl_hear h.1.1.1.1)
theorem lk_tight {d : Int} {q : St} {a : Int32} (h : lok d q) : lok (d + 6000) (os_tight q a).2 := lok_gs h (gd_tight h.1) (by omega) (tl_tight h.1.1.1.1)
theorem lk_wire {d : Int} {q : St} {a b c e f : Int32} (h : lok d q) : lok (d + 6000) (os_wire q a b c e f).2 := lok_gs h (gd_wire h.1) (by omega) (tl_wire h.1.1.1.1)
theorem lk_oc {d : Int} {q : St} {t : Nat → Int32} {L : Nat} (h : lok d q) (hd : d + 6000 ≤ 1000000000) : lok (d + 6000) (oc t L 60 0 q 0).2 := lok_gs h (oc_gd t L 60 0 q 0 h.1 (by have := h.2.1; omega)) (by omega) (tl_oc 60 0 q 0 h.1.1.1.1)
theorem LI_wipe {d : Int} {S : Mem} {q : St} {kk L : Nat} {hs sl : Nat → St} (h : LI d S q kk L hs sl) : LI d (mm_wr (mm_wr S 5 1 0) 7 7 0) q kk 0 hs sl := by
  obtain ⟨⟨g1, g2, g3, g4, g5, g6⟩, hx, hm⟩ := h
  have e : ∀ j, j ≠ 5 → j ≠ 7 → mm_wr (mm_wr S 5 1 0) 7 7 0 j = S j := fun j a b => by rw [mm_wr_orow _ _ b, mm_wr_orow _ _ a]
  refine ⟨LIg_keep (S := S) ⟨g1, g2, by omega, fun i hi => absurd hi (by omega), g5, g6⟩ (fun j hj => e j (by omega) (by omega)), ⟨?_, ?_, ?_, ?_⟩, ⟨?_, ?_, ?_, ?_, ?_⟩⟩
  · exact bo_eq hx.1 (fun j a b => e j (by unfold mm_B at *; omega) (by unfold mm_B at *; omega))
  · exact ch_eq hx.2.1 (e 3 (by omega) (by omega)) (e 4 (by omega) (by omega)) (fun j a => e j (by unfold mm_B at *; omega) (by unfold mm_B at *; omega))
  · rw [mm_wr_orow _ _ (by decide), mm_wr_s]; rfl
  · intro x hx2 hn
    rw [e 2 (by omega) (by omega)] at hn
    exact bo_eq (hx.2.2.2 x hx2 hn) (fun j a b => e j (by unfold mm_B at *; omega) (by unfold mm_B at *; omega))
  · rw [e 8 (by omega) (by omega)]; exact hm.1
  · exact mh_of hm.2.1 (by rw [mm_wr_n _ _ (Or.inr (by decide)), mm_wr_orow _ _ (by decide)]) (e 10 (by omega) (by omega))
  · rw [mm_wr_s]; rfl
  · rw [mm_wr_n _ _ (Or.inr (by decide)), mm_wr_orow _ _ (by decide)]; exact hm.2.2.2.1
  · intro x hx2 hn i hi
    rw [e 12 (by omega) (by omega)] at hn
    rw [e 11 (by omega) (by omega)]
    exact hm.2.2.2.2 x hx2 hn i hi
theorem nch_by {u : Nat} : ∀ (r k : Nat), sp_nch u r k ≠ 0 → ∀ j, k ≤ j → j < sp_nch u r k → 33 ≤ sp_by u j ∧ sp_by u j ≤ 126
  | 0, k, _, j, h1, h2 => by rw [sp_nch] at h2; omega
  | r + 1, k, h, j, h1, h2 => by
    rw [sp_nch] at h h2
    by_cases c : sp_by u k = 0
    · rw [if_pos c] at h h2
      by_cases c2 : u / 256 ^ k = 0
      · rw [if_pos c2] at h2; omega
      · rw [if_neg c2] at h; exact absurd rfl h
    · rw [if_neg c] at h h2
      by_cases c2 : 33 ≤ sp_by u k ∧ sp_by u k ≤ 126
      · rw [if_pos c2] at h h2
        by_cases e : j = k
        · rw [e]; exact c2
        · exact nch_by r (k + 1) h j (by omega) h2
      · rw [if_neg c2] at h; exact absurd rfl h
theorem put_chz {t : Nat → Int32} {L u : Nat} (h : chz t L) (hn : sp_nch u 8 0 ≠ 0) : chz (sp_put t L u (sp_nch u 8 0)) (L + sp_nch u 8 0) := fun i hi => by
  unfold sp_put
  by_cases c : L ≤ i
  · rw [if_pos ⟨c, hi⟩]
    have hb := nch_by 8 0 hn (sp_nch u 8 0 - 1 - (i - L)) (by omega) (by omega)
    rw [nI_toInt (by omega)]
    omega
  · rw [if_neg (by omega)]
    exact h i (by omega)
