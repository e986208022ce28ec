/-! THE LAW'S LOOP -/
theorem LE_up {d : Int} {S : Mem} (h : LE d S) : LE (d + 6000) S := by
  obtain ⟨q, kk, Lp, hs, sl, h⟩ := h
  exact ⟨q, kk, Lp, hs, sl, LI_mono h (by omega)⟩
set_option maxRecDepth 100000 in
set_option maxHeartbeats 4000000 in
theorem law_loop (l : Launch) (G : gG) {b L : Nat} {xs : Nat → Int32} (hL : L ≤ 3072) : ∀ (n i : Nat) (x3 : Int32) (S : Mem), L < n + i → i ≤ L → x3 = nI i → LE (1000 * (i : Int)) S → mm_V l G RL cL_law 4 ret room_1 600000 7302250 (lXt b L xs) lA lw_Z S 18 [(0, .ref b), (1, .ref (gad G 0)), (2, .ref (gad G 7)), (3, .int x3)] [] := by
  intro n
  induction n with
  | zero =>
    intro i x3 S hn hi e3 h
    exact absurd hn (by omega)
  | succ n ih =>
    intro i x3 S hn hi e3 h
    refine vv_iload_n (pc := 18) 3 dL_law_18 rfl rfl ?_
    refine vv_aload_n (pc := 19) 0 dL_law_19 rfl rfl ?_
    refine vl_len (pc := 20) dL_law_20 ?_
    refine vv_bipush (pc := 21) (v := 6) dL_law_21 (by decide) ?_
    refine vv_isub (pc := 23) dL_law_23 ?_
    have e6 : (nI L - 6).toInt = (L : Int) - 6 := by
      rw [i32_sub] <;> rw [nI_toInt (by omega), show (6 : Int32).toInt = 6 by decide] <;> omega
    refine vv_icmp_gt (pc := 24) (tgt := 772) dL_law_24 (by decide) (fun c24 => ?_) (fun c24 => ?_)
    · refine vv_iconst (pc := 772) (v := 1) dL_law_772 (by decide) ?_
      exact vr_law (pc := 773) dL_law_773
    · have hi6 : i + 6 ≤ L := by
        rw [Int32.lt_iff_toInt_lt, e6, e3, nI_toInt (by omega)] at c24
        omega
      have hd : (1000 * (i : Int)) + 6000 ≤ 1000000000 := by omega
      have K : ∀ S2, LE (1000 * (i : Int) + 6000) S2 → mm_V l G RL cL_law 4 ret room_1 600000 7302250 (lXt b L xs) lA lw_Z S2 766 [(0, .ref b), (1, .ref (gad G 0)), (2, .ref (gad G 7)), (3, .int x3)] [] := by
        intro S2 h2
        obtain ⟨y3, ey3⟩ : ∃ y : Int32, y = x3 + 6 := ⟨_, rfl⟩
        refine vv_iinc (pc := 766) (q := 3) (v := y3) (ls' := [(3, .int y3), (0, .ref b), (1, .ref (gad G 0)), (2, .ref (gad G 7))]) dL_law_766 rfl (by rw [ey3]; rfl) (by decide) rfl ?_
        refine vv_goto (pc := 769) (tgt := 18) dL_law_769 (by decide) ?_
        refine vv_sub [1, 2, 3, 0] (ls' := [(0, .ref b), (1, .ref (gad G 0)), (2, .ref (gad G 7)), (3, .int y3)]) rfl ?_
        exact ih (i + 6) y3 S2 (by omega) (by omega) (by rw [ey3, e3]; exact nI_add i 6) (by rw [show (1000 : Int) * ((i + 6 : Nat) : Int) = 1000 * (i : Int) + 6000 by omega]; exact h2)
      refine vv_aload_n (pc := 27) 0 dL_law_27 rfl rfl ?_
      refine vv_iload_n (pc := 28) 3 dL_law_28 rfl rfl ?_
      refine vl_law (pc := 29) (by rw [e3]; exact vp_in_nI (by omega) (by omega)) dL_law_29 ?_
      refine vv_bipush (pc := 30) (v := 31) dL_law_30 (by decide) ?_
      refine vv_iand (pc := 32) dL_law_32 ?_
      refine vv_topi (fun sw33 esw33 => ?_)
      by_cases qsw33 : sw33.toInt < 0 ∨ 23 < sw33.toInt
      · refine vv_tableOut (pc := 33) (tgt := 766) dL_law_33 qsw33 (by decide) ?_
        exact K _ (LE_up h)
      · have hsw33 : sw33.toInt = 0 ∨ sw33.toInt = 1 ∨ sw33.toInt = 2 ∨ sw33.toInt = 3 ∨ sw33.toInt = 4 ∨ sw33.toInt = 5 ∨ sw33.toInt = 6 ∨ sw33.toInt = 7 ∨ sw33.toInt = 8 ∨ sw33.toInt = 9 ∨ sw33.toInt = 10 ∨ sw33.toInt = 11 ∨ sw33.toInt = 12 ∨ sw33.toInt = 13 ∨ sw33.toInt = 14 ∨ sw33.toInt = 15 ∨ sw33.toInt = 16 ∨ sw33.toInt = 17 ∨ sw33.toInt = 18 ∨ sw33.toInt = 19 ∨ sw33.toInt = 20 ∨ sw33.toInt = 21 ∨ sw33.toInt = 22 ∨ sw33.toInt = 23 := by omega
        rcases hsw33 with ksw33 | ksw33 | ksw33 | ksw33 | ksw33 | ksw33 | ksw33 | ksw33 | ksw33 | ksw33 | ksw33 | ksw33 | ksw33 | ksw33 | ksw33 | ksw33 | ksw33 | ksw33 | ksw33 | ksw33 | ksw33 | ksw33 | ksw33 | ksw33
        · refine vv_tableIn (pc := 33) (off := 111) (tgt := 144) dL_law_33 (by omega) (by omega) (by rw [ksw33]; rfl) (by decide) ?_
          -- path <0>
          exact law_0 l G hL hi6 e3 hd h K
        · refine vv_tableIn (pc := 33) (off := 144) (tgt := 177) dL_law_33 (by omega) (by omega) (by rw [ksw33]; rfl) (by decide) ?_
          -- path <1>
          exact law_1 l G hL hi6 e3 hd h K
        · refine vv_tableIn (pc := 33) (off := 207) (tgt := 240) dL_law_33 (by omega) (by omega) (by rw [ksw33]; rfl) (by decide) ?_
          -- path <2>
          exact law_2 l G hL hi6 e3 hd h K
        · refine vv_tableIn (pc := 33) (off := 240) (tgt := 273) dL_law_33 (by omega) (by omega) (by rw [ksw33]; rfl) (by decide) ?_
          -- path <3>
          exact law_3 l G hL hi6 e3 hd h K
        · refine vv_tableIn (pc := 33) (off := 263) (tgt := 296) dL_law_33 (by omega) (by omega) (by rw [ksw33]; rfl) (by decide) ?_
          -- path <4>
          exact law_4 l G hL hi6 e3 hd h K
        · refine vv_tableIn (pc := 33) (off := 286) (tgt := 319) dL_law_33 (by omega) (by omega) (by rw [ksw33]; rfl) (by decide) ?_
          -- path <5>
          exact law_5 l G hL hi6 e3 hd h K
        · refine vv_tableIn (pc := 33) (off := 299) (tgt := 332) dL_law_33 (by omega) (by omega) (by rw [ksw33]; rfl) (by decide) ?_
          -- path <6>
          exact law_6 l G hL hi6 e3 hd h K
        · refine vv_tableIn (pc := 33) (off := 322) (tgt := 355) dL_law_33 (by omega) (by omega) (by rw [ksw33]; rfl) (by decide) ?_
          -- path <7>
          exact law_7 l G hL hi6 e3 hd h K
        · refine vv_tableIn (pc := 33) (off := 355) (tgt := 388) dL_law_33 (by omega) (by omega) (by rw [ksw33]; rfl) (by decide) ?_
          -- path <8>
          exact law_8 l G hL hi6 e3 hd h K
        · refine vv_tableIn (pc := 33) (off := 388) (tgt := 421) dL_law_33 (by omega) (by omega) (by rw [ksw33]; rfl) (by decide) ?_
          -- path <9>
          exact law_9 l G hL hi6 e3 hd h K
        · refine vv_tableIn (pc := 33) (off := 411) (tgt := 444) dL_law_33 (by omega) (by omega) (by rw [ksw33]; rfl) (by decide) ?_
          -- path <10>
          exact law_10 l G hL hi6 e3 hd h K
        · refine vv_tableIn (pc := 33) (off := 444) (tgt := 477) dL_law_33 (by omega) (by omega) (by rw [ksw33]; rfl) (by decide) ?_
          -- path <11>
          exact law_11 l G hL hi6 e3 hd h K
        · refine vv_tableIn (pc := 33) (off := 477) (tgt := 510) dL_law_33 (by omega) (by omega) (by rw [ksw33]; rfl) (by decide) ?_
          -- path <12>
          exact law_12 l G hL hi6 e3 hd h K
        · refine vv_tableIn (pc := 33) (off := 500) (tgt := 533) dL_law_33 (by omega) (by omega) (by rw [ksw33]; rfl) (by decide) ?_
          -- path <13>
          exact law_13 l G hL hi6 e3 hd h K
        · refine vv_tableIn (pc := 33) (off := 523) (tgt := 556) dL_law_33 (by omega) (by omega) (by rw [ksw33]; rfl) (by decide) ?_
          -- path <14>
          exact law_14 l G hL hi6 e3 hd h K
        · refine vv_tableIn (pc := 33) (off := 546) (tgt := 579) dL_law_33 (by omega) (by omega) (by rw [ksw33]; rfl) (by decide) ?_
          -- path <15>
          exact law_15 l G hL hi6 e3 hd h K
        · refine vv_tableIn (pc := 33) (off := 559) (tgt := 592) dL_law_33 (by omega) (by omega) (by rw [ksw33]; rfl) (by decide) ?_
          -- path <16>
          exact law_16 l G hL hi6 e3 hd h K
        · refine vv_tableIn (pc := 33) (off := 582) (tgt := 615) dL_law_33 (by omega) (by omega) (by rw [ksw33]; rfl) (by decide) ?_
          -- path <17>
          exact law_17 l G hL hi6 e3 hd h K
        · refine vv_tableIn (pc := 33) (off := 635) (tgt := 668) dL_law_33 (by omega) (by omega) (by rw [ksw33]; rfl) (by decide) ?_
          -- path <18>
          exact law_18 l G hL hi6 e3 hd h K
        · refine vv_tableIn (pc := 33) (off := 648) (tgt := 681) dL_law_33 (by omega) (by omega) (by rw [ksw33]; rfl) (by decide) ?_
          -- path <19>
          exact law_19 l G hL hi6 e3 hd h K
        · refine vv_tableIn (pc := 33) (off := 661) (tgt := 694) dL_law_33 (by omega) (by omega) (by rw [ksw33]; rfl) (by decide) ?_
          -- path <20>
          exact law_20 l G hL hi6 e3 hd h K
        · refine vv_tableIn (pc := 33) (off := 674) (tgt := 707) dL_law_33 (by omega) (by omega) (by rw [ksw33]; rfl) (by decide) ?_
          -- path <21>
          exact law_21 l G hL hi6 e3 hd h K
        · refine vv_tableIn (pc := 33) (off := 687) (tgt := 720) dL_law_33 (by omega) (by omega) (by rw [ksw33]; rfl) (by decide) ?_
          -- path <22>
          exact law_22 l G hL hi6 e3 hd h K
        · refine vv_tableIn (pc := 33) (off := 710) (tgt := 743) dL_law_33 (by omega) (by omega) (by rw [ksw33]; rfl) (by decide) ?_
          -- path <23>
          exact law_23 l G hL hi6 e3 hd h K
