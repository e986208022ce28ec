/-! THE GREATEST LOAD THAT STANDS: MORE LOAD LEAVES NO WIRE WITH LESS -/
theorem nI_sub {a b : Nat} (h : b ≤ a) : nI a - nI b = nI (a - b) := by
  have e := nI_add (a - b) b
  rw [Nat.sub_add_cancel h] at e
  grind
theorem nI_10 (a : Nat) : 10 * nI a = nI (10 * a) := nI_mul 10 a
theorem part_le {u v d s : Nat} (h : u ≤ v) (hd : d ≤ s) (hs : 0 < s) : u * d / s ≤ v * d / s ∧ v * d / s ≤ v ∧ u * d / s ≤ u ∧ u - u * d / s ≤ v - v * d / s := by
  have e1 : u * d / s ≤ v * d / s := Nat.div_le_div_right (Nat.mul_le_mul_right d h)
  have e2 : ∀ x, x * d / s ≤ x := fun x => by
    have := Nat.div_le_div_right (c := s) (Nat.mul_le_mul_left x hd)
    rwa [Nat.mul_div_cancel _ hs] at this
  have e3 : v * d / s ≤ u * d / s + (v - u) := by
    rw [← Nat.add_mul_div_right _ _ hs]
    refine Nat.div_le_div_right ?_
    have h1 : v * d = u * d + (v - u) * d := by rw [← Nat.add_mul]; congr 1; omega
    have h2 := Nat.mul_le_mul_left (v - u) hd
    omega
  have h3 := e2 u
  have h4 := e2 v
  exact ⟨e1, h4, h3, by omega⟩
theorem part_n {a b p u : Nat} (h1 : a ≤ p) (h2 : p ≤ b) (h3 : a < b) (hb : b < 20) (hu : u ≤ 1000) : nI u * (nI p - nI a) / (nI b - nI a) = nI (u * (p - a) / (b - a)) := by
  have h4 : u * (p - a) ≤ 1000 * 20 := Nat.mul_le_mul hu (by omega)
  rw [nI_sub h1, nI_sub (by omega), nI_mul]
  exact pk_div (by omega) (by omega) (by omega)
theorem ctb_le {C p w u v : Nat} {z z' : Nat → Int32} (h : sp_ws C z) (hp : p < 20) (hf : ∀ k f, sp_f z' k f = sp_f z k f) (hu : z (10 + p) = nI u) (hv : z' (10 + p) = nI v) (huv : u ≤ v) (hv1 : v ≤ 1000) : ∃ a b, sp_ctb z 5 C p w = nI a ∧ sp_ctb z' 5 C p w = nI b ∧ a ≤ b ∧ b ≤ 10000 := by
  obtain ⟨hC, h3, hat, hinj⟩ := id h
  have ha : ∀ k, sp_at z' k = sp_at z k := fun k => by unfold sp_at; rw [hf]
  have eL : sp_lf z' 5 p C = sp_lf z 5 p C := sp_lf_congr hC (fun k _ => ⟨ha k, by rw [hf]⟩)
  have eR : sp_rt z' 5 p C = sp_rt z 5 p C := sp_rt_congr hC (fun k _ => ⟨ha k, by rw [hf]⟩)
  unfold sp_ctb
  rw [eL, eR, hu, hv, hf, hf]
  obtain ⟨L, hL⟩ : ∃ L, L = sp_lf z 5 p C := ⟨_, rfl⟩
  obtain ⟨R, hR⟩ : ∃ R, R = sp_rt z 5 p C := ⟨_, rfl⟩
  have one : ∀ q : Prop, [Decidable q] → ∃ a b : Nat, (if q then 10 * nI u else 0) = nI a ∧ (if q then 10 * nI v else 0) = nI b ∧ a ≤ b ∧ b ≤ 10000 := fun q _ => by
    by_cases e : q
    · rw [if_pos e, if_pos e, nI_10, nI_10]; exact ⟨_, _, rfl, rfl, by omega, by omega⟩
    · rw [if_neg e, if_neg e]; exact ⟨0, 0, rfl, rfl, Nat.le_refl _, by omega⟩
  rw [← hL, ← hR]
  by_cases c1 : L ≠ 99 ∧ R ≠ 99 ∧ L ≠ R
  · rw [if_pos c1, if_pos c1]
    have l1 := sp_lf_lt hC (hL ▸ c1.1)
    have l2 := sp_lf_le hC (hL ▸ c1.1)
    have r1 := sp_rt_lt hC (hR ▸ c1.2.1)
    have r2 := sp_rt_ge hC (hR ▸ c1.2.1)
    rw [← hL] at l1 l2
    rw [← hR] at r1 r2
    have hlt : sp_at z L < sp_at z R := by
      rcases Nat.lt_or_ge (sp_at z L) (sp_at z R) with g | g
      · exact g
      · exact absurd (hinj L R l1 r1 (by omega)) c1.2.2
    have hb := (hat R r1).2
    rw [(hat L l1).1, (hat R r1).1, part_n l2 r2 hlt hb (by omega), part_n l2 r2 hlt hb hv1]
    obtain ⟨p1, p2, p3, p4⟩ := part_le (d := p - sp_at z L) (s := sp_at z R - sp_at z L) huv (by omega) (by omega)
    by_cases e : w = R
    · rw [if_pos e, if_pos e, nI_10, nI_10]
      exact ⟨_, _, rfl, rfl, by omega, by omega⟩
    · rw [if_neg e, if_neg e]
      by_cases e2 : w = L
      · rw [if_pos e2, if_pos e2, nI_sub p3, nI_sub p2, nI_10, nI_10]
        exact ⟨_, _, rfl, rfl, Nat.mul_le_mul_left 10 p4, Nat.mul_le_mul_left 10 (Nat.le_trans (Nat.sub_le _ _) hv1)⟩
      · rw [if_neg e2, if_neg e2]
        exact ⟨0, 0, rfl, rfl, Nat.le_refl _, by omega⟩
  · rw [if_neg c1, if_neg c1]
    by_cases c2 : L ≠ 99
    · rw [if_pos c2, if_pos c2]; exact one _
    · rw [if_neg c2, if_neg c2]
      by_cases c3 : R ≠ 99
      · rw [if_pos c3, if_pos c3]; exact one _
      · rw [if_neg c3, if_neg c3]
        exact ⟨0, 0, rfl, rfl, Nat.le_refl _, by omega⟩
/-- the loads of one state are nowhere above those of another -/
def ld_le (z z' : Nat → Int32) : Prop := ∀ p, p < 20 → ∃ u v, z (10 + p) = nI u ∧ z' (10 + p) = nI v ∧ u ≤ v ∧ v ≤ 1000
theorem T_le {C w : Nat} {z z' : Nat → Int32} (h : sp_ws C z) (hf : ∀ k f, sp_f z' k f = sp_f z k f) (hl : ld_le z z') : ∀ p, p ≤ 20 → ∃ a b, sp_T z 5 C w p = nI a ∧ sp_T z' 5 C w p = nI b ∧ a ≤ b ∧ b ≤ 10000 * p
  | 0, _ => ⟨0, 0, rfl, rfl, Nat.le_refl _, by omega⟩
  | p + 1, hp => by
    obtain ⟨a, b, e1, e2, e3, e4⟩ := T_le (w := w) h hf hl p (by omega)
    obtain ⟨u, v, hu, hv, huv, hv1⟩ := hl p (by omega)
    obtain ⟨a', b', f1, f2, f3, f4⟩ := ctb_le (w := w) h (by omega) hf hu hv huv hv1
    rw [sp_T, sp_T, e1, e2, f1, f2, nI_add, nI_add]
    exact ⟨_, _, rfl, rfl, by omega, by omega⟩
theorem bs_no {C : Nat} {z : Nat → Int32} : ∀ c, c ≤ 8 → ((sp_bs z C c).1 = 99 ∧ (sp_bs z C c).2 = 0 ∧ ∀ w, w < c → ¬ 0 < sp_ov z C w) ∨ ((sp_bs z C c).1 ≠ 99 ∧ ∃ w, w < c ∧ 0 < sp_ov z C w)
  | 0, _ => Or.inl ⟨rfl, rfl, fun w h => absurd h (by omega)⟩
  | c + 1, h => by
    have hp := sp_bs_pos z C c
    rw [sp_bs]
    by_cases e : (sp_bs z C c).2 < sp_ov z C c
    · rw [if_pos e]
      exact Or.inr ⟨by dsimp only; omega, c, by omega, Int32.lt_of_le_of_lt hp e⟩
    · rw [if_neg e]
      rcases bs_no c (by omega) with ⟨a, b, d⟩ | ⟨a, w, hw, d⟩
      · refine Or.inl ⟨a, b, fun w hw => ?_⟩
        by_cases g : w = c
        · rw [g]; rwa [b] at e
        · exact d w (by omega)
      · exact Or.inr ⟨a, w, by omega, d⟩
theorem bu_no {C : Nat} {z : Nat → Int32} (hC : C ≤ 8) : sp_bu z C = 99 ↔ ∀ w, w < C → ¬ 0 < sp_ov z C w := by
  unfold sp_bu
  rcases bs_no (z := z) (C := C) C hC with ⟨a, -, d⟩ | ⟨a, w, hw, d⟩
  · exact ⟨fun _ => d, fun _ => a⟩
  · exact ⟨fun g => absurd g a, fun g => absurd d (g w hw)⟩
theorem bu_le {C : Nat} {z z' : Nat → Int32} (h : sp_ws C z) (hs : ∀ w, w < C → 0 ≤ (sp_f z w 3).toInt ∧ (sp_f z w 3).toInt ≤ 50000) (hf : ∀ k f, sp_f z' k f = sp_f z k f) (hl : ld_le z z') (hb : sp_bu z' C = 99) : sp_bu z C = 99 := by
  rw [bu_no h.1] at hb ⊢
  intro w hw hp
  have h2 := hb w hw
  obtain ⟨a, b, e1, e2, e3, e4⟩ := T_le (w := w) h hf hl 20 (Nat.le_refl _)
  have h3 := hs w hw
  unfold sp_ov at hp h2
  rw [hf, hf, show sp_tk z' 5 C w = nI b from e2] at h2
  rw [show sp_tk z 5 C w = nI a from e1] at hp
  by_cases g : sp_f z w 5 = 0
  · rw [if_pos g, Int32.lt_iff_toInt_lt, i32_sub (by rw [nI_toInt (by omega)]; omega) (by rw [nI_toInt (by omega)]; omega), nI_toInt (by omega)] at hp h2
    omega
  · rw [if_neg g] at hp
    exact absurd hp (by decide)
theorem mo_h {C p L : Nat} {z : Nat → Int32} (hL1 : L ≤ 1000) (hL : ∀ v, v ≤ 1000 → (sp_bu (upd z (10 + p) (nI v)) C = 99 ↔ v ≤ L)) : ∀ k m, m ≤ L → L < m + 2 ^ k → sp_mo C z p k m = L
  | 0, m, h1, h2 => by
    rw [sp_mo]
    rw [Nat.pow_zero] at h2
    omega
  | k + 1, m, h1, h2 => by
    rw [Nat.pow_succ] at h2
    rw [sp_mo]
    by_cases e : m + 2 ^ k ≤ L
    · rw [if_pos ⟨by omega, (hL _ (by omega)).mpr e⟩]
      exact mo_h hL1 hL k _ e (by omega)
    · rw [if_neg (fun g => e ((hL _ g.1).mp g.2))]
      exact mo_h hL1 hL k _ h1 (by omega)
theorem mo_mono {C p u v : Nat} {z : Nat → Int32} (hwf : sp_wf C z) (hp : p < 20) (huv : u ≤ v) (hv : v ≤ 1000) (h : sp_bu (upd z (10 + p) (nI v)) C = 99) : sp_bu (upd z (10 + p) (nI u)) C = 99 := by
  have hf : ∀ x k f, sp_f (upd z (10 + p) x) k f = sp_f z k f := fun x k f => sp_f_upd z (by omega) x k f
  refine bu_le (z' := upd z (10 + p) (nI v)) (sp_up_ws hwf.1 (upd_n _ _ (by omega)) (fun k _ => hf _ k 0)) ?_ ?_ ?_ h
  · intro w hw
    rw [hf]
    have := hwf.2.1 w hw
    exact ⟨by have := this.2.2.2.2.2.2.1; omega, this.2.2.2.2.2.2.2.1⟩
  · intro k f; rw [hf, hf]
  · intro q hq
    by_cases e : q = p
    · subst e
      exact ⟨u, v, upd_s _ _ _, upd_s _ _ _, huv, hv⟩
    · rw [upd_n _ _ (by omega), upd_n _ _ (by omega)]
      have := hwf.2.2.1 q hq
      have hc := sp_cl this.1
      exact ⟨_, _, sp_nI this.1, sp_nI this.1, Nat.le_refl _, by omega⟩
theorem mo_max {C p L : Nat} {z : Nat → Int32} (hwf : sp_wf C z) (hp : p < 20) (hL1 : L ≤ 1000) (h : sp_bu (upd z (10 + p) (nI L)) C = 99) (hn : ∀ v, L < v → v ≤ 1000 → ¬ sp_bu (upd z (10 + p) (nI v)) C = 99) : sp_bu (upd z (10 + p) 0) C = 99 ∧ sp_mo C z p 10 0 = L := by
  refine ⟨mo_mono (u := 0) hwf hp (Nat.zero_le _) hL1 h, mo_h hL1 (fun v hv => ⟨fun g => ?_, fun g => mo_mono hwf hp g hL1 h⟩) 10 0 (Nat.zero_le _) (by omega)⟩
  rcases Nat.lt_or_ge L v with e | e
  · exact absurd g (hn v e hv)
  · exact e
/-- nothing but the row and the tasks is changed -/
def rm8 (S S2 : Mem) : Prop := ∀ j, j ≠ 8 → j ≠ 14 → S2 j = S j
theorem rm_back {S Sd : Mem} {i k : Nat} {x y : Int32} (h : rm8 S Sd) (h8 : Sd 8 = upd (S 8) i y) (hx : x = S 8 i) (hk : k = i) : rm S (mm_wr Sd 8 k x) := by
  subst hk
  intro j h9 h14
  by_cases e : j = 8
  · subst e
    rw [mm_wr_row, h8, upd_upd, hx]
    funext a
    by_cases g : a = k
    · subst g; exact upd_s _ _ _
    · exact upd_n _ _ g
  · rw [mm_wr_orow _ _ e, h j e h14]
theorem nI_lt0 {m : Nat} (hm : m ≤ 1001) : nI m - 1 < 0 ↔ m = 0 := by
  rcases m with _ | m
  · exact ⟨fun _ => rfl, fun _ => by decide⟩
  · rw [nI_m1]
    exact ⟨fun h => absurd h (nI_pos (by omega)), fun h => absurd h (by omega)⟩
set_option maxRecDepth 100000 in
set_option maxHeartbeats 4000000 in
theorem c_X5_mostAt (l : Launch) (G : gG) {q : St} (S : Mem) (hg : gd q) (hz : q.2 = S 8) (x1 : Int32) : mm_C l G yX5_mostAt cX5_mostAt 4 (some .int) (mm_rm 4 99) [.ref (gad G 7), .int x1] S (mm_Qi G (fun r S2 => rm S S2 ∧ r = rd_mo q x1)) := by
  obtain ⟨C, z⟩ := q
  dsimp only at hz
  subst hz
  obtain ⟨hwf, hcalm⟩ := id hg
  dsimp only at hwf hcalm
  obtain ⟨hC, hn3, hat, hinj⟩ := id hwf.1
  refine mm_ofV (own := RX5) (by decide +kernel) rfl (Nat.le_of_ble_eq_true rfl) (ls0 := [(0, .ref (gad G 7)), (1, .int x1)]) rfl ?_
  refine vv_iload_n (pc := 0) 1 dX5_mostAt_0 rfl rfl ?_
  refine vv_iconst (pc := 1) (v := 0) dX5_mostAt_1 (by decide) ?_
  refine vv_bipush (pc := 2) (v := 19) dX5_mostAt_2 (by decide) ?_
  refine vc_Si (pc := 4) (c_X5_in l G _ _ _ _) mw_M_X5_43 my_X5_in ⟨by decide, by decide⟩ rfl rfl (Nat.le_of_ble_eq_true rfl) dX5_mostAt_4 (fun r4 S4 h4 => ?_)
  obtain ⟨qS4, h4⟩ := h4
  replace qS4 := qS4.symm
  subst qS4
  refine vv_if_ne (pc := 7) (tgt := 12) dX5_mostAt_7 (by decide) (fun c7 => ?_) (fun c7 => ?_)
  -- t@7 path t
  · have hb := sp_in_1 (by rw [← h4]; exact c7)
    rw [show (0 : Int32).toInt = 0 by decide, show (19 : Int32).toInt = 19 by decide] at hb
    have hcl := sp_cl (x := x1) hb.1
    have hx := sp_nI hb.1
    obtain ⟨p, hp⟩ : ∃ p, p = x1.toNatClampNeg := ⟨_, rfl⟩
    rw [← hp] at hx hcl
    have hp20 : p < 20 := by omega
    have h4n : ¬ sp_in x1 0 19 = 0 := by rw [← h4]; exact c7
    refine vv_aload_n (pc := 12) 0 dX5_mostAt_12 rfl rfl ?_
    refine vg_X5_now (pc := 13) mw_F_X5_7 dX5_mostAt_13 ?_
    refine vv_bipush (pc := 16) (v := 10) dX5_mostAt_16 (by decide) ?_
    refine vv_iload_n (pc := 18) 1 dX5_mostAt_18 rfl rfl ?_
    refine vv_iadd (pc := 19) dX5_mostAt_19 ?_
    rw [show (10 : Int32) + x1 = nI (10 + p) from by rw [hx]; exact nI_add 10 p]
    refine vl_8 (pc := 20) (vp_in_nI (by omega) (by decide)) dX5_mostAt_20 ?_
    rw [show S 8 (nI (10 + p)).toNatClampNeg = S 8 (10 + p) from by rw [cl_n (by omega)]]
    refine vv_topi (fun x2p21 e2p21 => ?_)
    refine vv_istore_n (pc := 21) (i := 2) (ls' := [(2, .int x2p21), (0, .ref (gad G 7)), (1, .int x1)]) dX5_mostAt_21 rfl (by decide) rfl ?_
    refine vv_sipush (pc := 22) (v := 1000) dX5_mostAt_22 (by decide) ?_
    refine vv_topi (fun x3p25 e3p25 => ?_)
    refine vv_istore_n (pc := 25) (i := 3) (ls' := [(3, .int x3p25), (2, .int x2p21), (0, .ref (gad G 7)), (1, .int x1)]) dX5_mostAt_25 rfl (by decide) rfl ?_
    refine vv_aload_n (pc := 26) 2 dX5_mostAt_26 rfl rfl ?_
    refine vg_X5_now (pc := 27) mw_F_X5_7 dX5_mostAt_27 ?_
    refine vv_bipush (pc := 30) (v := 10) dX5_mostAt_30 (by decide) ?_
    refine vv_iload_n (pc := 32) 3 dX5_mostAt_32 rfl rfl ?_
    refine vv_iadd (pc := 33) dX5_mostAt_33 ?_
    refine vv_iload_n (pc := 34) 0 dX5_mostAt_34 rfl rfl ?_
    rw [show (10 : Int32) + x1 = nI (10 + p) from by rw [hx]; exact nI_add 10 p]
    refine vs_8 (pc := 35) (vp_in_nI (by omega) (by decide)) dX5_mostAt_35 ?_
    have lp36 : ∀ (n : Nat) (m : Nat) (x3 : Int32) (Sd : Mem), Sd 8 = upd (S 8) (10 + p) x3 → rm8 S Sd → m ≤ 1001 → x3 = nI m - 1 → (∀ v, m ≤ v → v ≤ 1000 → ¬ sp_bu (upd (S 8) (10 + p) (nI v)) C = 99) → m < n → mm_V l G RX5 cX5_mostAt 4 (some .int) (mm_rm 4 99) 0 0 (fun _ => True) (fun _ => mm_F G) (mm_Qf G (mm_Qi G (fun r S2 => rm S S2 ∧ r = rd_mo (C, S 8) x1))) Sd 36 [(0, .ref (gad G 7)), (1, .int x1), (2, .int x2p21), (3, .int x3)] [] := by
      intro n
      induction n with
      | zero =>
        intro m x3 Sd hy8 hyo hm e3 hno hn
        exact absurd hn (by omega)
      | succ n ih =>
        intro m x3 Sd hy8 hyo hm e3 hno hn
        refine vv_iload_n (pc := 36) 3 dX5_mostAt_36 rfl rfl ?_
        refine vv_if_lt (pc := 37) (tgt := 63) dX5_mostAt_37 (by decide) (fun c37 => ?_) (fun c37 => ?_)
        -- t@37 path tL36t
        · refine vv_aload_n (pc := 63) 0 dX5_mostAt_63 rfl rfl ?_
          refine vg_X5_now (pc := 64) mw_F_X5_7 dX5_mostAt_64 ?_
          refine vv_bipush (pc := 67) (v := 10) dX5_mostAt_67 (by decide) ?_
          refine vv_iload_n (pc := 69) 1 dX5_mostAt_69 rfl rfl ?_
          refine vv_iadd (pc := 70) dX5_mostAt_70 ?_
          refine vv_iload_n (pc := 71) 2 dX5_mostAt_71 rfl rfl ?_
          rw [show (10 : Int32) + x1 = nI (10 + p) from by rw [hx]; exact nI_add 10 p]
          refine vs_8 (pc := 72) (vp_in_nI (by omega) (by decide)) dX5_mostAt_72 ?_
          refine vv_iload_n (pc := 73) 3 dX5_mostAt_73 rfl rfl ?_
          refine vv_if_ge (pc := 74) (tgt := 82) dX5_mostAt_74 (by decide) (fun c74 => ?_) (fun c74 => ?_)
          -- t@74 path tL36tt
          · exact absurd c74 (Int32.not_le.mpr c37)
          -- f@74 path tL36tf
          · refine vv_bipush (pc := 77) (v := (-6)) dX5_mostAt_77 (by decide) ?_
            refine vv_goto (pc := 79) (tgt := 83) dX5_mostAt_79 (by decide) ?_
            refine vr_i (pc := 83) dX5_mostAt_83 ?_
            rw [e3, nI_lt0 hm] at c37
            refine ⟨rm_back hyo hy8 e2p21 (cl_n (by omega)), ?_⟩
            have h0 := hno 0 (by omega) (by omega)
            unfold rd_mo
            dsimp only
            rw [if_neg h4n, ← hp]
            exact (if_neg h0).symm
        -- f@37 path tL36f
        · refine vv_aload_n (pc := 40) 0 dX5_mostAt_40 rfl rfl ?_
          refine vc_Vi (pc := 41) (c_X5_burst l G _ (C := C) (by rw [hy8]; exact sp_up_ws hwf.1 (upd_n _ _ (by omega)) (fun k _ => sp_f_upd (S 8) (by omega) _ k 0))) mw_M_X5_77 my_X5_burst mm_rv_X5 ⟨by decide, by decide⟩ rfl rfl (Nat.le_of_ble_eq_true rfl) dX5_mostAt_41 (fun r41 S41 h41 => ?_)
          refine vv_if_lt (pc := 44) (tgt := 63) dX5_mostAt_44 (by decide) (fun c44 => ?_) (fun c44 => ?_)
          -- t@44 path tL36ft
          · refine vv_aload_n (pc := 63) 0 dX5_mostAt_63 rfl rfl ?_
            refine vg_X5_now (pc := 64) mw_F_X5_7 dX5_mostAt_64 ?_
            refine vv_bipush (pc := 67) (v := 10) dX5_mostAt_67 (by decide) ?_
            refine vv_iload_n (pc := 69) 1 dX5_mostAt_69 rfl rfl ?_
            refine vv_iadd (pc := 70) dX5_mostAt_70 ?_
            refine vv_iload_n (pc := 71) 2 dX5_mostAt_71 rfl rfl ?_
            rw [show (10 : Int32) + x1 = nI (10 + p) from by rw [hx]; exact nI_add 10 p]
            refine vs_8 (pc := 72) (vp_in_nI (by omega) (by decide)) dX5_mostAt_72 ?_
            refine vv_iload_n (pc := 73) 3 dX5_mostAt_73 rfl rfl ?_
            refine vv_if_ge (pc := 74) (tgt := 82) dX5_mostAt_74 (by decide) (fun c74 => ?_) (fun c74 => ?_)
            -- t@74 path tL36ftt
            · refine vv_iload_n (pc := 82) 3 dX5_mostAt_82 rfl rfl ?_
              refine vr_i (pc := 83) dX5_mostAt_83 ?_
              obtain ⟨h41, T, hT, eS41⟩ := h41
              rw [e3, nI_lt0 hm] at c37
              obtain ⟨m1, rfl⟩ : ∃ m1, m = m1 + 1 := ⟨m - 1, by omega⟩
              rw [nI_m1] at e3
              refine ⟨rm_back (y := x3) (fun j a b => by rw [eS41, mR_o _ _ b, hyo j a b]) (by rw [eS41, mR_o _ _ (by decide), hy8]) e2p21 (cl_n (by omega)), ?_⟩
              rw [h41, hy8, e3] at c44
              have hst : sp_bu (upd (S 8) (10 + p) (nI m1)) C = 99 := by
                refine enc_lt (c := 8) ?_ c44 (by decide)
                by_cases e : sp_bu (upd (S 8) (10 + p) (nI m1)) C = 99
                · exact Or.inl e
                · exact Or.inr (by have := (sp_bu_lt e).1; omega)
              obtain ⟨f1, f2⟩ := mo_max hwf hp20 (by omega) hst (fun v h1 h2 => hno v (by omega) h2)
              unfold rd_mo
              dsimp only
              rw [if_neg h4n, ← hp, if_pos f1, f2, e3]
            -- f@74 path tL36ftf
            · exact absurd (Int32.not_lt.mp c37) c74
          -- f@44 path tL36ff
          · obtain ⟨h41, T, hT, eS41⟩ := h41
            rw [e3, nI_lt0 hm] at c37
            obtain ⟨m1, rfl⟩ : ∃ m1, m = m1 + 1 := ⟨m - 1, by omega⟩
            rw [nI_m1] at e3
            rw [h41, hy8, e3] at c44
            have hne : ¬ sp_bu (upd (S 8) (10 + p) (nI m1)) C = 99 := fun h => by rw [h] at c44; exact c44 (by decide)
            have hno2 : ∀ v, m1 ≤ v → v ≤ 1000 → ¬ sp_bu (upd (S 8) (10 + p) (nI v)) C = 99 := fun v h1 h2 => by
              by_cases e : v = m1
              · rw [e]; exact hne
              · exact hno v (by omega) h2
            obtain ⟨x3p47, e3p47⟩ : ∃ y : Int32, y = x3 + (-1) := ⟨_, rfl⟩
            refine vv_iinc (pc := 47) (q := 3) (v := x3p47) (ls' := [(3, .int x3p47), (0, .ref (gad G 7)), (1, .int x1), (2, .int x2p21)]) dX5_mostAt_47 rfl (by rw [e3p47]; rfl) (by decide) rfl ?_
            refine vv_aload_n (pc := 50) 1 dX5_mostAt_50 rfl rfl ?_
            refine vg_X5_now (pc := 51) mw_F_X5_7 dX5_mostAt_51 ?_
            refine vv_bipush (pc := 54) (v := 10) dX5_mostAt_54 (by decide) ?_
            refine vv_iload_n (pc := 56) 2 dX5_mostAt_56 rfl rfl ?_
            refine vv_iadd (pc := 57) dX5_mostAt_57 ?_
            refine vv_iload_n (pc := 58) 0 dX5_mostAt_58 rfl rfl ?_
            rw [show (10 : Int32) + x1 = nI (10 + p) from by rw [hx]; exact nI_add 10 p]
            refine vs_8 (pc := 59) (vp_in_nI (by omega) (by decide)) dX5_mostAt_59 ?_
            refine vv_mem (fun Sa eSa => ?_)
            have hsa : Sa 8 = upd (S 8) (10 + p) x3p47 := by rw [eSa, cl_n (by omega), mm_wr_row, eS41, mR_o _ _ (by decide), hy8, upd_upd]
            have hsb : rm8 S Sa := fun j a b => by rw [eSa, mm_wr_orow _ _ a, eS41, mR_o _ _ b, hyo j a b]
            refine vv_goto (pc := 60) (tgt := 36) dX5_mostAt_60 (by decide) ?_
            refine vv_sub [1, 2, 3, 0] (ls' := [(0, _), (1, _), (2, _), (3, _)]) rfl ?_
            exact ih m1 _ _ hsa hsb (by omega) (by rw [e3p47, e3, Int32.sub_eq_add_neg]) hno2 (by omega)
    refine vv_sub [2, 3, 1, 0] (ls' := [(0, _), (1, _), (2, _), (3, _)]) rfl ?_
    refine vv_mem (fun Sa eSa => ?_)
    have hsa : Sa 8 = upd (S 8) (10 + p) x3p25 := by rw [eSa, cl_n (by omega), mm_wr_row]
    have hsb : rm8 S Sa := fun j a b => by rw [eSa, mm_wr_orow _ _ a]
    exact lp36 1002 1001 _ _ hsa hsb (Nat.le_refl _) (by rw [e3p25]; decide) (fun v h1 h2 => absurd h1 (by omega)) (by omega)
  -- f@7 path f
  · refine vv_iconst (pc := 10) (v := (-1)) dX5_mostAt_10 (by decide) ?_
    refine vr_i (pc := 11) dX5_mostAt_11 ?_
    exact ⟨fun _ _ _ => rfl, by unfold rd_mo; rw [if_pos (by rw [← h4]; exact c7)]⟩
