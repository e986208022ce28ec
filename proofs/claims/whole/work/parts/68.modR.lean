/-! THE SHORTEST WALK, AS THE MODEL FINDS IT -/
theorem db_m {C k : Nat} {z : Nat → Int32} (hC : C ≤ 8) (hk : k < C) (hw : sp_ww z k) : sp_db (sp_hd C z) C k ↔ sp_f z k 10 = 0 ∧ ((¬ sp_f z k 7 < 0 ∧ sp_f z k 9 < sp_tk z 10 C k) ∨ (¬ (¬ sp_f z k 7 < 0 ∧ sp_f z k 9 < sp_tk z 10 C k) ∧ (sp_f z k 7 < 0 ∨ sp_f z k 8 < sp_tk z 10 C k))) := by
  unfold sp_db
  rw [sp_hd_f C z (by decide), sp_hd_f C z (by decide), sp_hd_f C z (by decide), sp_hd_f C z (by decide), if_neg (by omega), if_neg (by omega), if_neg (by omega), if_neg (by omega), sp_hd_tk hC, hd_iff hw]
  by_cases h1 : sp_f z k 10 = 0 <;> by_cases h2 : sp_f z k 7 = -6 <;> by_cases h3 : sp_f z k 9 < sp_tk z 10 C k <;> by_cases h4 : sp_f z k 8 < sp_tk z 10 C k <;> simp [h1, h2, h3, h4]
/-- how far to the left and to the right of the listener -/
def wlr (z : Nat → Int32) (C : Nat) : Nat → Int32 × Int32
  | 0 => (0, 0)
  | c + 1 => if sp_db (sp_hd C z) C c then (if (wlr z C c).1 < -(sp_f z c 0 - z 4) then -(sp_f z c 0 - z 4) else (wlr z C c).1, if (wlr z C c).2 < sp_f z c 0 - z 4 then sp_f z c 0 - z 4 else (wlr z C c).2) else wlr z C c
def wlk (fi la l r pl : Int32) : Prop := (fi = 20 ∧ la = -1 ∧ l = 0 ∧ r = 0) ∨ (0 ≤ fi.toInt ∧ fi.toInt ≤ la.toInt ∧ la.toInt ≤ 19 ∧ 0 ≤ l.toInt ∧ pl.toInt - fi.toInt ≤ l.toInt ∧ (l.toInt = 0 ∨ l.toInt = pl.toInt - fi.toInt) ∧ 0 ≤ r.toInt ∧ la.toInt - pl.toInt ≤ r.toInt ∧ (r.toInt = 0 ∨ r.toInt = la.toInt - pl.toInt))
theorem far_n {f p : Int32} (hf : 0 ≤ f.toInt ∧ f.toInt < 20) (hp : 0 ≤ p.toInt ∧ p.toInt < 20) : (f - p).toInt = f.toInt - p.toInt ∧ (-(f - p)).toInt = p.toInt - f.toInt := by
  have h := i32_sub (a := f) (b := p) (by omega) (by omega)
  refine ⟨h, ?_⟩
  rw [Int32.toInt_neg, h, Int.bmod_eq_of_le (by omega) (by omega)]
  omega
theorem wlk_s {fi la l r pl f : Int32} (hf : 0 ≤ f.toInt ∧ f.toInt < 20) (hp : 0 ≤ pl.toInt ∧ pl.toInt < 20) (h : wlk fi la l r pl) : wlk (if f < fi then f else fi) (if la < f then f else la) (if l < -(f - pl) then -(f - pl) else l) (if r < f - pl then f - pl else r) pl := by
  obtain ⟨e1, e2⟩ := far_n hf hp
  simp only [Int32.lt_iff_toInt_lt, e1, e2]
  right
  rcases h with ⟨rfl, rfl, rfl, rfl⟩ | h
  · rw [show (20 : Int32).toInt = 20 by decide, show (-1 : Int32).toInt = -1 by decide, show (0 : Int32).toInt = 0 by decide, if_pos (by omega), if_pos (by omega)]
    refine ⟨hf.1, Int.le_refl _, by omega, ?_⟩
    have e0 : (0 : Int32).toInt = 0 := by decide
    split <;> split <;> omega
  · split <;> split <;> split <;> split <;> omega
theorem wlr_e {C : Nat} {z : Nat → Int32} (hw : ∀ k, k < C → sp_ww z k) (hp : 0 ≤ (z 4).toInt ∧ (z 4).toInt < 20) : ∀ c, c ≤ C → wlk (sp_wk (sp_hd C z) C c).1 (sp_wk (sp_hd C z) C c).2 (wlr z C c).1 (wlr z C c).2 (z 4)
  | 0, _ => Or.inl ⟨rfl, rfl, rfl, rfl⟩
  | c + 1, h => by
    have ih := wlr_e hw hp c (by omega)
    have hww := hw c (by omega)
    rw [sp_wk, wlr, show sp_f (sp_hd C z) c 0 = sp_f z c 0 from by rw [sp_hd_f C z (by decide), if_neg (by omega)]]
    by_cases e : sp_db (sp_hd C z) C c
    · rw [if_pos e, if_pos e]
      exact wlk_s ⟨hww.1, hww.2.1⟩ hp ih
    · rw [if_neg e, if_neg e]
      exact ih
theorem sp_abs_c {x : Int32} (h : -100 ≤ x.toInt ∧ x.toInt ≤ 100) : (0 ≤ x.toInt ∧ (sp_abs x).toInt = x.toInt) ∨ (x.toInt < 0 ∧ (sp_abs x).toInt = - x.toInt) := by
  unfold sp_abs
  by_cases e : 0 ≤ x
  · rw [if_pos e]
    rw [Int32.le_iff_toInt_le, show (0 : Int32).toInt = 0 by decide] at e
    exact Or.inl ⟨e, rfl⟩
  · rw [if_neg e]
    rw [Int32.le_iff_toInt_le, show (0 : Int32).toInt = 0 by decide] at e
    refine Or.inr ⟨by omega, ?_⟩
    rw [i32_sub, show (0 : Int32).toInt = 0 by decide] <;> (try rw [show (0 : Int32).toInt = 0 by decide]) <;> omega
theorem rnd_m {fi la l r pl : Int32} (hp : 0 ≤ pl.toInt ∧ pl.toInt < 20) (h : wlk fi la l r pl) : l + r + (if l < r then l else r) = sp_rnd fi la pl := by
  rcases h with ⟨rfl, rfl, rfl, rfl⟩ | h
  · unfold sp_rnd
    rw [if_neg (show ¬ (0 : Int32) < 0 by decide), if_pos (show (-1 : Int32) < 20 by decide)]
    decide
  · unfold sp_rnd
    rw [if_neg (show ¬ la < fi by rw [Int32.lt_iff_toInt_lt]; omega)]
    have h1 := i32_sub (a := la) (b := fi) (by omega) (by omega)
    have h2 := i32_sub (a := pl) (b := la) (by omega) (by omega)
    have h3 := i32_sub (a := pl) (b := fi) (by omega) (by omega)
    have h4 := sp_abs_c (x := pl - la) (by omega)
    have h5 := sp_abs_c (x := pl - fi) (by omega)
    have h6 := i32_add (a := l) (b := r) (by omega) (by omega)
    have hm : ∀ a b : Int32, ((a.toInt < b.toInt) ∧ (if a < b then a else b) = a) ∨ (¬ a.toInt < b.toInt ∧ (if a < b then a else b) = b) := fun a b => by
      by_cases e : a < b
      · exact Or.inl ⟨Int32.lt_iff_toInt_lt.mp e, if_pos e⟩
      · exact Or.inr ⟨fun g => e (Int32.lt_iff_toInt_lt.mpr g), if_neg e⟩
    apply Int32.toInt_inj.mp
    rcases hm l r with ⟨a1, a2⟩ | ⟨a1, a2⟩ <;> rcases hm (sp_abs (pl - la)) (sp_abs (pl - fi)) with ⟨b1, b2⟩ | ⟨b1, b2⟩ <;> rw [a2, b2, i32_add (a := l + r) (by omega) (by omega), i32_add (a := la - fi) (by omega) (by omega), h1, h6] <;> omega
set_option maxRecDepth 100000 in
set_option maxHeartbeats 4000000 in
theorem c_X5_round (l : Launch) (G : gG) {q : St} (S : Mem) (hg : gd q) (hz : q.2 = S 8) : mm_C l G yX5_round cX5_round 5 (some .int) (mm_rm 3 75) [.ref (gad G 7)] S (mm_Qi G (fun r S2 => rm S S2 ∧ r = rd_ro q)) := by
  obtain ⟨C, z⟩ := q
  dsimp only at hz
  subst hz
  obtain ⟨hwf, hcalm⟩ := id hg
  dsimp only at hwf hcalm
  obtain ⟨hC, hn3, hat, hinj⟩ := id hwf.1
  refine mm_ofV (own := RX5) (by decide +kernel) rfl (Nat.le_of_ble_eq_true rfl) (ls0 := [(0, .ref (gad G 7))]) rfl ?_
  refine vv_aload_n (pc := 0) 0 dX5_round_0 rfl rfl ?_
  refine vv_aload_n (pc := 1) 0 dX5_round_1 rfl rfl ?_
  refine vv_iconst (pc := 2) (v := 1) dX5_round_2 (by decide) ?_
  refine vc_Vi (pc := 3) (c_X5_wholeBy l G _ hC hn3 (Or.inr ⟨rfl, rfl⟩)) mw_M_X5_61 my_X5_wholeBy mm_rv_X5 ⟨by decide, by decide⟩ rfl rfl (Nat.le_of_ble_eq_true rfl) dX5_round_3 (fun r3 S3 h3 => ?_)
  obtain ⟨qS3, h3⟩ := h3
  replace qS3 := qS3.symm
  subst qS3
  refine vc_Vv (pc := 6) (c_X5_layTasks l G _ (C := C) (g := 10) hwf.1 (by rw [h3]; exact msk_b hC)) mw_M_X5_65 my_X5_layTasks mm_rv_X5 ⟨by decide, by decide⟩ rfl rfl (Nat.le_of_ble_eq_true rfl) dX5_round_6 (fun S6 h6 => ?_)
  obtain ⟨T, hT, eS6⟩ := h6
  subst eS6
  have h8 : mR S 14 T 8 = S 8 := mR_o S T (by decide)
  refine vv_iconst (pc := 9) (v := 0) dX5_round_9 (by decide) ?_
  refine vv_topi (fun x1p10 e1p10 => ?_)
  refine vv_istore_n (pc := 10) (i := 1) (ls' := [(1, .int x1p10), (0, .ref (gad G 7))]) dX5_round_10 rfl (by decide) rfl ?_
  refine vv_iconst (pc := 11) (v := 0) dX5_round_11 (by decide) ?_
  refine vv_topi (fun x2p12 e2p12 => ?_)
  refine vv_istore_n (pc := 12) (i := 2) (ls' := [(2, .int x2p12), (1, .int x1p10), (0, .ref (gad G 7))]) dX5_round_12 rfl (by decide) rfl ?_
  refine vv_iconst (pc := 13) (v := 0) dX5_round_13 (by decide) ?_
  refine vv_topi (fun x3p14 e3p14 => ?_)
  refine vv_istore_n (pc := 14) (i := 3) (ls' := [(3, .int x3p14), (2, .int x2p12), (1, .int x1p10), (0, .ref (gad G 7))]) dX5_round_14 rfl (by decide) rfl ?_
  have lp15 : ∀ (n : Nat) (k : Nat) (x1 x2 x3 : Int32), 9 ≤ n + k → k ≤ C → x3 = nI k → x1 = (wlr (S 8) C k).1 → x2 = (wlr (S 8) C k).2 → mm_V l G RX5 cX5_round 5 (some .int) (mm_rm 3 75) 0 0 (fun _ => True) (fun _ => mm_F G) (mm_Qf G (mm_Qi G (fun r S2 => rm S S2 ∧ r = rd_ro (C, S 8)))) (mR S 14 T) 15 [(0, .ref (gad G 7)), (1, .int x1), (2, .int x2), (3, .int x3)] [] := by
    intro n
    induction n with
    | zero =>
      intro k x1 x2 x3 hn hkl e3 e1 e2
      exact absurd hn (by omega)
    | succ n ih =>
      intro k x1 x2 x3 hn hkl e3 e1 e2
      refine vv_iload_n (pc := 15) 3 dX5_round_15 rfl rfl ?_
      refine vv_aload_n (pc := 16) 0 dX5_round_16 rfl rfl ?_
      refine vg_X5_now (pc := 17) mw_F_X5_7 dX5_round_17 ?_
      refine vv_iconst (pc := 20) (v := 3) dX5_round_20 (by decide) ?_
      refine vl_8 (pc := 21) (vp_in_nI (n := 3) (by decide) (by decide)) dX5_round_21 ?_
      rw [show mR S 14 T 8 (Int32.toNatClampNeg 3) = nI C from by rw [h8]; exact hn3]
      refine vv_icmp_ge (pc := 22) (tgt := 100) dX5_round_22 (by decide) (fun c22 => ?_) (fun c22 => ?_)
      -- t@22 path L15t
      · refine vv_iload_n (pc := 100) 1 dX5_round_100 rfl rfl ?_
        refine vv_iload_n (pc := 101) 2 dX5_round_101 rfl rfl ?_
        refine vv_iadd (pc := 102) dX5_round_102 ?_
        refine vv_iload_n (pc := 103) 1 dX5_round_103 rfl rfl ?_
        refine vv_iload_n (pc := 104) 2 dX5_round_104 rfl rfl ?_
        refine vv_icmp_ge (pc := 105) (tgt := 112) dX5_round_105 (by decide) (fun c105 => ?_) (fun c105 => ?_)
        -- t@105 path L15tt
        · refine vv_iload_n (pc := 112) 2 dX5_round_112 rfl rfl ?_
          refine vv_iadd (pc := 113) dX5_round_113 ?_
          refine vr_i (pc := 114) dX5_round_114 ?_
          have hkC := sp_geN (by omega) hkl e3 c22
          subst hkC
          refine ⟨rm_T S T, ?_⟩
          unfold rd_ro
          rw [← rnd_m hwf.2.2.2.1 (wlr_e hwf.2.1 hwf.2.2.2.1 k (Nat.le_refl _)), ← e1, ← e2]
          rw [if_neg (Int32.not_lt.mpr c105)]
        -- f@105 path L15tf
        · refine vv_iload_n (pc := 108) 1 dX5_round_108 rfl rfl ?_
          refine vv_goto (pc := 109) (tgt := 113) dX5_round_109 (by decide) ?_
          refine vv_iadd (pc := 113) dX5_round_113 ?_
          refine vr_i (pc := 114) dX5_round_114 ?_
          have hkC := sp_geN (by omega) hkl e3 c22
          subst hkC
          refine ⟨rm_T S T, ?_⟩
          unfold rd_ro
          rw [← rnd_m hwf.2.2.2.1 (wlr_e hwf.2.1 hwf.2.2.2.1 k (Nat.le_refl _)), ← e1, ← e2]
          rw [if_pos (Int32.not_le.mp c105)]
      -- f@22 path L15f
      · have hkC : k < C := sp_ltN (by omega) hkl e3 c22
        have hk8 : k < 8 := by omega
        have hdm := db_m hC hkC (hwf.2.1 k hkC)
        refine vv_aload_n (pc := 25) 0 dX5_round_25 rfl rfl ?_
        refine vv_iload_n (pc := 26) 3 dX5_round_26 rfl rfl ?_
        refine vv_bipush (pc := 27) (v := 10) dX5_round_27 (by decide) ?_
        refine vc_Vi (pc := 29) (c_X5_of l G _ e3 rfl hk8 (by decide)) mw_M_X5_47 my_X5_of mm_rv_X5 ⟨by decide, by decide⟩ rfl rfl (Nat.le_of_ble_eq_true rfl) dX5_round_29 (fun r29 S29 h29 => ?_)
        obtain ⟨qS29, h29⟩ := h29
        replace qS29 := qS29.symm
        subst qS29
        refine vv_if_ne (pc := 32) (tgt := 94) dX5_round_32 (by decide) (fun c32 => ?_) (fun c32 => ?_)
        -- t@32 path L15ft
        · rw [h29, h8] at c32
          have hnd : ¬ sp_db (sp_hd C (S 8)) C k := fun h => c32 (hdm.mp h).1
          have hst : wlr (S 8) C (k + 1) = wlr (S 8) C k := by rw [wlr, if_neg hnd]
          have he1 : x1 = (wlr (S 8) C (k + 1)).1 := by rw [hst, e1]
          have he2 : x2 = (wlr (S 8) C (k + 1)).2 := by rw [hst, e2]
          obtain ⟨x3p94, e3p94⟩ : ∃ y : Int32, y = x3 + 1 := ⟨_, rfl⟩
          refine vv_iinc (pc := 94) (q := 3) (v := x3p94) (ls' := [(3, .int x3p94), (0, .ref (gad G 7)), (1, .int x1), (2, .int x2)]) dX5_round_94 rfl (by rw [e3p94]; rfl) (by decide) rfl ?_
          refine vv_goto (pc := 97) (tgt := 15) dX5_round_97 (by decide) ?_
          refine vv_sub [1, 2, 3, 0] (ls' := [(0, _), (1, _), (2, _), (3, _)]) rfl ?_
          exact ih (k + 1) _ _ _ (by omega) (by omega) (by rw [e3p94, e3, nI_1]) he1 he2
        -- f@32 path L15ff
        · refine vv_aload_n (pc := 35) 0 dX5_round_35 rfl rfl ?_
          refine vv_iload_n (pc := 36) 3 dX5_round_36 rfl rfl ?_
          refine vc_Vi (pc := 37) (c_X5_isSurely l G _ e3 hk8) mw_M_X5_121 my_X5_isSurely mm_rv_X5 ⟨by decide, by decide⟩ rfl rfl (Nat.le_of_ble_eq_true rfl) dX5_round_37 (fun r37 S37 h37 => ?_)
          obtain ⟨qS37, h37⟩ := h37
          replace qS37 := qS37.symm
          subst qS37
          refine vv_if_ne (pc := 40) (tgt := 51) dX5_round_40 (by decide) (fun c40 => ?_) (fun c40 => ?_)
          -- t@40 path L15fft
          · rw [h29, h8] at c32
            rw [h37, mR_s, h8, hT _ hkC, i01] at c40
            have hdb : sp_db (sp_hd C (S 8)) C k := hdm.mpr ⟨c32, Or.inl (Classical.not_not.mp c40)⟩
            refine vv_aload_n (pc := 51) 0 dX5_round_51 rfl rfl ?_
            refine vv_iload_n (pc := 52) 3 dX5_round_52 rfl rfl ?_
            refine vv_iconst (pc := 53) (v := 0) dX5_round_53 (by decide) ?_
            refine vc_Vi (pc := 54) (c_X5_of l G _ e3 rfl hk8 (by decide)) mw_M_X5_47 my_X5_of mm_rv_X5 ⟨by decide, by decide⟩ rfl rfl (Nat.le_of_ble_eq_true rfl) dX5_round_54 (fun r54 S54 h54 => ?_)
            obtain ⟨qS54, h54⟩ := h54
            replace qS54 := qS54.symm
            subst qS54
            refine vv_aload_n (pc := 57) 0 dX5_round_57 rfl rfl ?_
            refine vg_X5_now (pc := 58) mw_F_X5_7 dX5_round_58 ?_
            refine vv_iconst (pc := 61) (v := 4) dX5_round_61 (by decide) ?_
            refine vl_8 (pc := 62) (vp_in_nI (n := 4) (by decide) (by decide)) dX5_round_62 ?_
            refine vv_isub (pc := 63) dX5_round_63 ?_
            refine vv_topi (fun x4p64 e4p64 => ?_)
            refine vv_istore (pc := 64) (i := 4) (ls' := [(4, .int x4p64), (0, .ref (gad G 7)), (1, .int x1), (2, .int x2), (3, .int x3)]) dX5_round_64 (by decide) rfl ?_
            refine vv_iload (pc := 66) 0 dX5_round_66 rfl ?_
            refine vv_ineg (pc := 68) dX5_round_68 ?_
            refine vv_iload_n (pc := 69) 2 dX5_round_69 rfl rfl ?_
            refine vv_icmp_le (pc := 70) (tgt := 79) dX5_round_70 (by decide) (fun c70 => ?_) (fun c70 => ?_)
            -- t@70 path L15fftt
            · refine vv_iload_n (pc := 79) 2 dX5_round_79 rfl rfl ?_
              refine vv_topi (fun x1p80 e1p80 => ?_)
              refine vv_istore_n (pc := 80) (i := 1) (ls' := [(1, .int x1p80), (4, .int x4p64), (0, .ref (gad G 7)), (2, .int x2), (3, .int x3)]) dX5_round_80 rfl (by decide) rfl ?_
              refine vv_iload (pc := 81) 1 dX5_round_81 rfl ?_
              refine vv_iload_n (pc := 83) 3 dX5_round_83 rfl rfl ?_
              refine vv_icmp_le (pc := 84) (tgt := 92) dX5_round_84 (by decide) (fun c84 => ?_) (fun c84 => ?_)
              -- t@84 path L15ffttt
              · refine vv_iload_n (pc := 92) 3 dX5_round_92 rfl rfl ?_
                refine vv_topi (fun x2p93 e2p93 => ?_)
                refine vv_istore_n (pc := 93) (i := 2) (ls' := [(2, .int x2p93), (1, .int x1p80), (4, .int x4p64), (0, .ref (gad G 7)), (3, .int x3)]) dX5_round_93 rfl (by decide) rfl ?_
                rw [h54, h8, show S 8 (Int32.toNatClampNeg 4) = S 8 4 from rfl] at e4p64
                rw [e4p64, e1] at c70
                rw [e4p64, e2] at c84
                have hst : wlr (S 8) C (k + 1) = (if (wlr (S 8) C k).1 < -(sp_f (S 8) k 0 - S 8 4) then -(sp_f (S 8) k 0 - S 8 4) else (wlr (S 8) C k).1, if (wlr (S 8) C k).2 < sp_f (S 8) k 0 - S 8 4 then sp_f (S 8) k 0 - S 8 4 else (wlr (S 8) C k).2) := by rw [wlr, if_pos hdb]
                have he1 : x1p80 = (wlr (S 8) C (k + 1)).1 := by rw [hst, e1p80]; dsimp only; rw [if_neg (Int32.not_lt.mpr c70), e1]
                have he2 : x2p93 = (wlr (S 8) C (k + 1)).2 := by rw [hst, e2p93]; dsimp only; rw [if_neg (Int32.not_lt.mpr c84), e2]
                obtain ⟨x3p94, e3p94⟩ : ∃ y : Int32, y = x3 + 1 := ⟨_, rfl⟩
                refine vv_iinc (pc := 94) (q := 4) (v := x3p94) (ls' := [(3, .int x3p94), (2, .int x2p93), (1, .int x1p80), (4, .int x4p64), (0, .ref (gad G 7))]) dX5_round_94 rfl (by rw [e3p94]; rfl) (by decide) rfl ?_
                refine vv_goto (pc := 97) (tgt := 15) dX5_round_97 (by decide) ?_
                refine vv_sub [4, 2, 1, 0] (ls' := [(0, _), (1, _), (2, _), (3, _)]) rfl ?_
                exact ih (k + 1) _ _ _ (by omega) (by omega) (by rw [e3p94, e3, nI_1]) he1 he2
              -- f@84 path L15ffttf
              · refine vv_iload (pc := 87) 1 dX5_round_87 rfl ?_
                refine vv_goto (pc := 89) (tgt := 93) dX5_round_89 (by decide) ?_
                refine vv_topi (fun x2p93 e2p93 => ?_)
                refine vv_istore_n (pc := 93) (i := 2) (ls' := [(2, .int x2p93), (1, .int x1p80), (4, .int x4p64), (0, .ref (gad G 7)), (3, .int x3)]) dX5_round_93 rfl (by decide) rfl ?_
                rw [h54, h8, show S 8 (Int32.toNatClampNeg 4) = S 8 4 from rfl] at e4p64
                rw [e4p64, e1] at c70
                rw [e4p64, e2] at c84
                have hst : wlr (S 8) C (k + 1) = (if (wlr (S 8) C k).1 < -(sp_f (S 8) k 0 - S 8 4) then -(sp_f (S 8) k 0 - S 8 4) else (wlr (S 8) C k).1, if (wlr (S 8) C k).2 < sp_f (S 8) k 0 - S 8 4 then sp_f (S 8) k 0 - S 8 4 else (wlr (S 8) C k).2) := by rw [wlr, if_pos hdb]
                have he1 : x1p80 = (wlr (S 8) C (k + 1)).1 := by rw [hst, e1p80]; dsimp only; rw [if_neg (Int32.not_lt.mpr c70), e1]
                have he2 : x2p93 = (wlr (S 8) C (k + 1)).2 := by rw [hst, e2p93]; dsimp only; rw [if_pos (Int32.not_le.mp c84), e4p64]
                obtain ⟨x3p94, e3p94⟩ : ∃ y : Int32, y = x3 + 1 := ⟨_, rfl⟩
                refine vv_iinc (pc := 94) (q := 4) (v := x3p94) (ls' := [(3, .int x3p94), (2, .int x2p93), (1, .int x1p80), (4, .int x4p64), (0, .ref (gad G 7))]) dX5_round_94 rfl (by rw [e3p94]; rfl) (by decide) rfl ?_
                refine vv_goto (pc := 97) (tgt := 15) dX5_round_97 (by decide) ?_
                refine vv_sub [4, 2, 1, 0] (ls' := [(0, _), (1, _), (2, _), (3, _)]) rfl ?_
                exact ih (k + 1) _ _ _ (by omega) (by omega) (by rw [e3p94, e3, nI_1]) he1 he2
            -- f@70 path L15fftf
            · refine vv_iload (pc := 73) 0 dX5_round_73 rfl ?_
              refine vv_ineg (pc := 75) dX5_round_75 ?_
              refine vv_goto (pc := 76) (tgt := 80) dX5_round_76 (by decide) ?_
              refine vv_topi (fun x1p80 e1p80 => ?_)
              refine vv_istore_n (pc := 80) (i := 1) (ls' := [(1, .int x1p80), (4, .int x4p64), (0, .ref (gad G 7)), (2, .int x2), (3, .int x3)]) dX5_round_80 rfl (by decide) rfl ?_
              refine vv_iload (pc := 81) 1 dX5_round_81 rfl ?_
              refine vv_iload_n (pc := 83) 3 dX5_round_83 rfl rfl ?_
              refine vv_icmp_le (pc := 84) (tgt := 92) dX5_round_84 (by decide) (fun c84 => ?_) (fun c84 => ?_)
              -- t@84 path L15fftft
              · refine vv_iload_n (pc := 92) 3 dX5_round_92 rfl rfl ?_
                refine vv_topi (fun x2p93 e2p93 => ?_)
                refine vv_istore_n (pc := 93) (i := 2) (ls' := [(2, .int x2p93), (1, .int x1p80), (4, .int x4p64), (0, .ref (gad G 7)), (3, .int x3)]) dX5_round_93 rfl (by decide) rfl ?_
                rw [h54, h8, show S 8 (Int32.toNatClampNeg 4) = S 8 4 from rfl] at e4p64
                rw [e4p64, e1] at c70
                rw [e4p64, e2] at c84
                have hst : wlr (S 8) C (k + 1) = (if (wlr (S 8) C k).1 < -(sp_f (S 8) k 0 - S 8 4) then -(sp_f (S 8) k 0 - S 8 4) else (wlr (S 8) C k).1, if (wlr (S 8) C k).2 < sp_f (S 8) k 0 - S 8 4 then sp_f (S 8) k 0 - S 8 4 else (wlr (S 8) C k).2) := by rw [wlr, if_pos hdb]
                have he1 : x1p80 = (wlr (S 8) C (k + 1)).1 := by rw [hst, e1p80]; dsimp only; rw [if_pos (Int32.not_le.mp c70), e4p64]
                have he2 : x2p93 = (wlr (S 8) C (k + 1)).2 := by rw [hst, e2p93]; dsimp only; rw [if_neg (Int32.not_lt.mpr c84), e2]
                obtain ⟨x3p94, e3p94⟩ : ∃ y : Int32, y = x3 + 1 := ⟨_, rfl⟩
                refine vv_iinc (pc := 94) (q := 4) (v := x3p94) (ls' := [(3, .int x3p94), (2, .int x2p93), (1, .int x1p80), (4, .int x4p64), (0, .ref (gad G 7))]) dX5_round_94 rfl (by rw [e3p94]; rfl) (by decide) rfl ?_
                refine vv_goto (pc := 97) (tgt := 15) dX5_round_97 (by decide) ?_
                refine vv_sub [4, 2, 1, 0] (ls' := [(0, _), (1, _), (2, _), (3, _)]) rfl ?_
                exact ih (k + 1) _ _ _ (by omega) (by omega) (by rw [e3p94, e3, nI_1]) he1 he2
              -- f@84 path L15fftff
              · refine vv_iload (pc := 87) 1 dX5_round_87 rfl ?_
                refine vv_goto (pc := 89) (tgt := 93) dX5_round_89 (by decide) ?_
                refine vv_topi (fun x2p93 e2p93 => ?_)
                refine vv_istore_n (pc := 93) (i := 2) (ls' := [(2, .int x2p93), (1, .int x1p80), (4, .int x4p64), (0, .ref (gad G 7)), (3, .int x3)]) dX5_round_93 rfl (by decide) rfl ?_
                rw [h54, h8, show S 8 (Int32.toNatClampNeg 4) = S 8 4 from rfl] at e4p64
                rw [e4p64, e1] at c70
                rw [e4p64, e2] at c84
                have hst : wlr (S 8) C (k + 1) = (if (wlr (S 8) C k).1 < -(sp_f (S 8) k 0 - S 8 4) then -(sp_f (S 8) k 0 - S 8 4) else (wlr (S 8) C k).1, if (wlr (S 8) C k).2 < sp_f (S 8) k 0 - S 8 4 then sp_f (S 8) k 0 - S 8 4 else (wlr (S 8) C k).2) := by rw [wlr, if_pos hdb]
                have he1 : x1p80 = (wlr (S 8) C (k + 1)).1 := by rw [hst, e1p80]; dsimp only; rw [if_pos (Int32.not_le.mp c70), e4p64]
                have he2 : x2p93 = (wlr (S 8) C (k + 1)).2 := by rw [hst, e2p93]; dsimp only; rw [if_pos (Int32.not_le.mp c84), e4p64]
                obtain ⟨x3p94, e3p94⟩ : ∃ y : Int32, y = x3 + 1 := ⟨_, rfl⟩
                refine vv_iinc (pc := 94) (q := 4) (v := x3p94) (ls' := [(3, .int x3p94), (2, .int x2p93), (1, .int x1p80), (4, .int x4p64), (0, .ref (gad G 7))]) dX5_round_94 rfl (by rw [e3p94]; rfl) (by decide) rfl ?_
                refine vv_goto (pc := 97) (tgt := 15) dX5_round_97 (by decide) ?_
                refine vv_sub [4, 2, 1, 0] (ls' := [(0, _), (1, _), (2, _), (3, _)]) rfl ?_
                exact ih (k + 1) _ _ _ (by omega) (by omega) (by rw [e3p94, e3, nI_1]) he1 he2
          -- f@40 path L15fff
          · refine vv_aload_n (pc := 43) 0 dX5_round_43 rfl rfl ?_
            refine vv_iload_n (pc := 44) 3 dX5_round_44 rfl rfl ?_
            refine vc_Vi (pc := 45) (c_X5_mayBe l G _ e3 hk8) mw_M_X5_124 my_X5_mayBe mm_rv_X5 ⟨by decide, by decide⟩ rfl rfl (Nat.le_of_ble_eq_true rfl) dX5_round_45 (fun r45 S45 h45 => ?_)
            obtain ⟨qS45, h45⟩ := h45
            replace qS45 := qS45.symm
            subst qS45
            refine vv_if_eq (pc := 48) (tgt := 94) dX5_round_48 (by decide) (fun c48 => ?_) (fun c48 => ?_)
            -- t@48 path L15ffft
            · rw [h37, mR_s, h8, hT _ hkC, i01] at c40
              rw [h45, mR_s, h8, hT _ hkC, i01] at c48
              have hnd : ¬ sp_db (sp_hd C (S 8)) C k := fun h => (hdm.mp h).2.elim c40 c48
              have hst : wlr (S 8) C (k + 1) = wlr (S 8) C k := by rw [wlr, if_neg hnd]
              have he1 : x1 = (wlr (S 8) C (k + 1)).1 := by rw [hst, e1]
              have he2 : x2 = (wlr (S 8) C (k + 1)).2 := by rw [hst, e2]
              obtain ⟨x3p94, e3p94⟩ : ∃ y : Int32, y = x3 + 1 := ⟨_, rfl⟩
              refine vv_iinc (pc := 94) (q := 3) (v := x3p94) (ls' := [(3, .int x3p94), (0, .ref (gad G 7)), (1, .int x1), (2, .int x2)]) dX5_round_94 rfl (by rw [e3p94]; rfl) (by decide) rfl ?_
              refine vv_goto (pc := 97) (tgt := 15) dX5_round_97 (by decide) ?_
              refine vv_sub [1, 2, 3, 0] (ls' := [(0, _), (1, _), (2, _), (3, _)]) rfl ?_
              exact ih (k + 1) _ _ _ (by omega) (by omega) (by rw [e3p94, e3, nI_1]) he1 he2
            -- f@48 path L15ffff
            · rw [h29, h8] at c32
              rw [h45, mR_s, h8, hT _ hkC, i01] at c48
              have hdb : sp_db (sp_hd C (S 8)) C k := hdm.mpr ⟨c32, Or.inr (Classical.not_not.mp c48)⟩
              refine vv_aload_n (pc := 51) 0 dX5_round_51 rfl rfl ?_
              refine vv_iload_n (pc := 52) 3 dX5_round_52 rfl rfl ?_
              refine vv_iconst (pc := 53) (v := 0) dX5_round_53 (by decide) ?_
              refine vc_Vi (pc := 54) (c_X5_of l G _ e3 rfl hk8 (by decide)) mw_M_X5_47 my_X5_of mm_rv_X5 ⟨by decide, by decide⟩ rfl rfl (Nat.le_of_ble_eq_true rfl) dX5_round_54 (fun r54 S54 h54 => ?_)
              obtain ⟨qS54, h54⟩ := h54
              replace qS54 := qS54.symm
              subst qS54
              refine vv_aload_n (pc := 57) 0 dX5_round_57 rfl rfl ?_
              refine vg_X5_now (pc := 58) mw_F_X5_7 dX5_round_58 ?_
              refine vv_iconst (pc := 61) (v := 4) dX5_round_61 (by decide) ?_
              refine vl_8 (pc := 62) (vp_in_nI (n := 4) (by decide) (by decide)) dX5_round_62 ?_
              refine vv_isub (pc := 63) dX5_round_63 ?_
              refine vv_topi (fun x4p64 e4p64 => ?_)
              refine vv_istore (pc := 64) (i := 4) (ls' := [(4, .int x4p64), (0, .ref (gad G 7)), (1, .int x1), (2, .int x2), (3, .int x3)]) dX5_round_64 (by decide) rfl ?_
              refine vv_iload (pc := 66) 0 dX5_round_66 rfl ?_
              refine vv_ineg (pc := 68) dX5_round_68 ?_
              refine vv_iload_n (pc := 69) 2 dX5_round_69 rfl rfl ?_
              refine vv_icmp_le (pc := 70) (tgt := 79) dX5_round_70 (by decide) (fun c70 => ?_) (fun c70 => ?_)
              -- t@70 path L15fffft
              · refine vv_iload_n (pc := 79) 2 dX5_round_79 rfl rfl ?_
                refine vv_topi (fun x1p80 e1p80 => ?_)
                refine vv_istore_n (pc := 80) (i := 1) (ls' := [(1, .int x1p80), (4, .int x4p64), (0, .ref (gad G 7)), (2, .int x2), (3, .int x3)]) dX5_round_80 rfl (by decide) rfl ?_
                refine vv_iload (pc := 81) 1 dX5_round_81 rfl ?_
                refine vv_iload_n (pc := 83) 3 dX5_round_83 rfl rfl ?_
                refine vv_icmp_le (pc := 84) (tgt := 92) dX5_round_84 (by decide) (fun c84 => ?_) (fun c84 => ?_)
                -- t@84 path L15fffftt
                · refine vv_iload_n (pc := 92) 3 dX5_round_92 rfl rfl ?_
                  refine vv_topi (fun x2p93 e2p93 => ?_)
                  refine vv_istore_n (pc := 93) (i := 2) (ls' := [(2, .int x2p93), (1, .int x1p80), (4, .int x4p64), (0, .ref (gad G 7)), (3, .int x3)]) dX5_round_93 rfl (by decide) rfl ?_
                  rw [h54, h8, show S 8 (Int32.toNatClampNeg 4) = S 8 4 from rfl] at e4p64
                  rw [e4p64, e1] at c70
                  rw [e4p64, e2] at c84
                  have hst : wlr (S 8) C (k + 1) = (if (wlr (S 8) C k).1 < -(sp_f (S 8) k 0 - S 8 4) then -(sp_f (S 8) k 0 - S 8 4) else (wlr (S 8) C k).1, if (wlr (S 8) C k).2 < sp_f (S 8) k 0 - S 8 4 then sp_f (S 8) k 0 - S 8 4 else (wlr (S 8) C k).2) := by rw [wlr, if_pos hdb]
                  have he1 : x1p80 = (wlr (S 8) C (k + 1)).1 := by rw [hst, e1p80]; dsimp only; rw [if_neg (Int32.not_lt.mpr c70), e1]
                  have he2 : x2p93 = (wlr (S 8) C (k + 1)).2 := by rw [hst, e2p93]; dsimp only; rw [if_neg (Int32.not_lt.mpr c84), e2]
                  obtain ⟨x3p94, e3p94⟩ : ∃ y : Int32, y = x3 + 1 := ⟨_, rfl⟩
                  refine vv_iinc (pc := 94) (q := 4) (v := x3p94) (ls' := [(3, .int x3p94), (2, .int x2p93), (1, .int x1p80), (4, .int x4p64), (0, .ref (gad G 7))]) dX5_round_94 rfl (by rw [e3p94]; rfl) (by decide) rfl ?_
                  refine vv_goto (pc := 97) (tgt := 15) dX5_round_97 (by decide) ?_
                  refine vv_sub [4, 2, 1, 0] (ls' := [(0, _), (1, _), (2, _), (3, _)]) rfl ?_
                  exact ih (k + 1) _ _ _ (by omega) (by omega) (by rw [e3p94, e3, nI_1]) he1 he2
                -- f@84 path L15fffftf
                · refine vv_iload (pc := 87) 1 dX5_round_87 rfl ?_
                  refine vv_goto (pc := 89) (tgt := 93) dX5_round_89 (by decide) ?_
                  refine vv_topi (fun x2p93 e2p93 => ?_)
                  refine vv_istore_n (pc := 93) (i := 2) (ls' := [(2, .int x2p93), (1, .int x1p80), (4, .int x4p64), (0, .ref (gad G 7)), (3, .int x3)]) dX5_round_93 rfl (by decide) rfl ?_
                  rw [h54, h8, show S 8 (Int32.toNatClampNeg 4) = S 8 4 from rfl] at e4p64
                  rw [e4p64, e1] at c70
                  rw [e4p64, e2] at c84
                  have hst : wlr (S 8) C (k + 1) = (if (wlr (S 8) C k).1 < -(sp_f (S 8) k 0 - S 8 4) then -(sp_f (S 8) k 0 - S 8 4) else (wlr (S 8) C k).1, if (wlr (S 8) C k).2 < sp_f (S 8) k 0 - S 8 4 then sp_f (S 8) k 0 - S 8 4 else (wlr (S 8) C k).2) := by rw [wlr, if_pos hdb]
                  have he1 : x1p80 = (wlr (S 8) C (k + 1)).1 := by rw [hst, e1p80]; dsimp only; rw [if_neg (Int32.not_lt.mpr c70), e1]
                  have he2 : x2p93 = (wlr (S 8) C (k + 1)).2 := by rw [hst, e2p93]; dsimp only; rw [if_pos (Int32.not_le.mp c84), e4p64]
                  obtain ⟨x3p94, e3p94⟩ : ∃ y : Int32, y = x3 + 1 := ⟨_, rfl⟩
                  refine vv_iinc (pc := 94) (q := 4) (v := x3p94) (ls' := [(3, .int x3p94), (2, .int x2p93), (1, .int x1p80), (4, .int x4p64), (0, .ref (gad G 7))]) dX5_round_94 rfl (by rw [e3p94]; rfl) (by decide) rfl ?_
                  refine vv_goto (pc := 97) (tgt := 15) dX5_round_97 (by decide) ?_
                  refine vv_sub [4, 2, 1, 0] (ls' := [(0, _), (1, _), (2, _), (3, _)]) rfl ?_
                  exact ih (k + 1) _ _ _ (by omega) (by omega) (by rw [e3p94, e3, nI_1]) he1 he2
              -- f@70 path L15fffff
              · refine vv_iload (pc := 73) 0 dX5_round_73 rfl ?_
                refine vv_ineg (pc := 75) dX5_round_75 ?_
                refine vv_goto (pc := 76) (tgt := 80) dX5_round_76 (by decide) ?_
                refine vv_topi (fun x1p80 e1p80 => ?_)
                refine vv_istore_n (pc := 80) (i := 1) (ls' := [(1, .int x1p80), (4, .int x4p64), (0, .ref (gad G 7)), (2, .int x2), (3, .int x3)]) dX5_round_80 rfl (by decide) rfl ?_
                refine vv_iload (pc := 81) 1 dX5_round_81 rfl ?_
                refine vv_iload_n (pc := 83) 3 dX5_round_83 rfl rfl ?_
                refine vv_icmp_le (pc := 84) (tgt := 92) dX5_round_84 (by decide) (fun c84 => ?_) (fun c84 => ?_)
                -- t@84 path L15ffffft
                · refine vv_iload_n (pc := 92) 3 dX5_round_92 rfl rfl ?_
                  refine vv_topi (fun x2p93 e2p93 => ?_)
                  refine vv_istore_n (pc := 93) (i := 2) (ls' := [(2, .int x2p93), (1, .int x1p80), (4, .int x4p64), (0, .ref (gad G 7)), (3, .int x3)]) dX5_round_93 rfl (by decide) rfl ?_
                  rw [h54, h8, show S 8 (Int32.toNatClampNeg 4) = S 8 4 from rfl] at e4p64
                  rw [e4p64, e1] at c70
                  rw [e4p64, e2] at c84
                  have hst : wlr (S 8) C (k + 1) = (if (wlr (S 8) C k).1 < -(sp_f (S 8) k 0 - S 8 4) then -(sp_f (S 8) k 0 - S 8 4) else (wlr (S 8) C k).1, if (wlr (S 8) C k).2 < sp_f (S 8) k 0 - S 8 4 then sp_f (S 8) k 0 - S 8 4 else (wlr (S 8) C k).2) := by rw [wlr, if_pos hdb]
                  have he1 : x1p80 = (wlr (S 8) C (k + 1)).1 := by rw [hst, e1p80]; dsimp only; rw [if_pos (Int32.not_le.mp c70), e4p64]
                  have he2 : x2p93 = (wlr (S 8) C (k + 1)).2 := by rw [hst, e2p93]; dsimp only; rw [if_neg (Int32.not_lt.mpr c84), e2]
                  obtain ⟨x3p94, e3p94⟩ : ∃ y : Int32, y = x3 + 1 := ⟨_, rfl⟩
                  refine vv_iinc (pc := 94) (q := 4) (v := x3p94) (ls' := [(3, .int x3p94), (2, .int x2p93), (1, .int x1p80), (4, .int x4p64), (0, .ref (gad G 7))]) dX5_round_94 rfl (by rw [e3p94]; rfl) (by decide) rfl ?_
                  refine vv_goto (pc := 97) (tgt := 15) dX5_round_97 (by decide) ?_
                  refine vv_sub [4, 2, 1, 0] (ls' := [(0, _), (1, _), (2, _), (3, _)]) rfl ?_
                  exact ih (k + 1) _ _ _ (by omega) (by omega) (by rw [e3p94, e3, nI_1]) he1 he2
                -- f@84 path L15ffffff
                · refine vv_iload (pc := 87) 1 dX5_round_87 rfl ?_
                  refine vv_goto (pc := 89) (tgt := 93) dX5_round_89 (by decide) ?_
                  refine vv_topi (fun x2p93 e2p93 => ?_)
                  refine vv_istore_n (pc := 93) (i := 2) (ls' := [(2, .int x2p93), (1, .int x1p80), (4, .int x4p64), (0, .ref (gad G 7)), (3, .int x3)]) dX5_round_93 rfl (by decide) rfl ?_
                  rw [h54, h8, show S 8 (Int32.toNatClampNeg 4) = S 8 4 from rfl] at e4p64
                  rw [e4p64, e1] at c70
                  rw [e4p64, e2] at c84
                  have hst : wlr (S 8) C (k + 1) = (if (wlr (S 8) C k).1 < -(sp_f (S 8) k 0 - S 8 4) then -(sp_f (S 8) k 0 - S 8 4) else (wlr (S 8) C k).1, if (wlr (S 8) C k).2 < sp_f (S 8) k 0 - S 8 4 then sp_f (S 8) k 0 - S 8 4 else (wlr (S 8) C k).2) := by rw [wlr, if_pos hdb]
                  have he1 : x1p80 = (wlr (S 8) C (k + 1)).1 := by rw [hst, e1p80]; dsimp only; rw [if_pos (Int32.not_le.mp c70), e4p64]
                  have he2 : x2p93 = (wlr (S 8) C (k + 1)).2 := by rw [hst, e2p93]; dsimp only; rw [if_pos (Int32.not_le.mp c84), e4p64]
                  obtain ⟨x3p94, e3p94⟩ : ∃ y : Int32, y = x3 + 1 := ⟨_, rfl⟩
                  refine vv_iinc (pc := 94) (q := 4) (v := x3p94) (ls' := [(3, .int x3p94), (2, .int x2p93), (1, .int x1p80), (4, .int x4p64), (0, .ref (gad G 7))]) dX5_round_94 rfl (by rw [e3p94]; rfl) (by decide) rfl ?_
                  refine vv_goto (pc := 97) (tgt := 15) dX5_round_97 (by decide) ?_
                  refine vv_sub [4, 2, 1, 0] (ls' := [(0, _), (1, _), (2, _), (3, _)]) rfl ?_
                  exact ih (k + 1) _ _ _ (by omega) (by omega) (by rw [e3p94, e3, nI_1]) he1 he2
  refine vv_sub [3, 2, 1, 0] (ls' := [(0, _), (1, _), (2, _), (3, _)]) rfl ?_
  exact lp15 9 0 _ _ _ (by omega) (Nat.zero_le _) e3p14 e1p10 e2p12
