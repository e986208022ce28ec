/-! THE LAW FROM ITS ENTRY -/
def idx0 : List Nat := [0, 1] ++ (List.range 24).map (fun i => 16 + i) ++ [3, 4] ++ (List.range 84).map (fun i => 64 + i) ++ (List.range 24).map (fun i => 40 + i) ++ [2, 5, 6] ++ (List.range 9).map (fun i => 7 + i)
theorem idx0_all : ∀ j, j < 148 → j ∈ idx0 := by decide +kernel
set_option maxRecDepth 100000 in
set_option maxHeartbeats 4000000 in
theorem adr0 {cI : Nat → ClassId} {u v : Nat → Nat} : (swl cI u ++ mcl cI v).map Prod.fst = idx0.map (g0 u v) := rfl
theorem inj0 {cI : Nat → ClassId} {D : va_G} {u v : Nat → Nat} {A : Nat → Prop} (h : va_D A (swl cI u ++ mcl cI v)) : mm_inj (G0 D cI u v) := by
  intro i j hi hj e
  obtain ⟨a, ha⟩ := List.getElem?_of_mem (idx0_all i hi)
  obtain ⟨b, hb⟩ := List.getElem?_of_mem (idx0_all j hj)
  have key : ∀ (k x : Nat), idx0[k]? = some x → ∃ p : Nat × va_E, (swl cI u ++ mcl cI v)[k]? = some p ∧ p.1 = g0 u v x := fun k x hk => by
    have h1 : ((swl cI u ++ mcl cI v).map Prod.fst)[k]? = some (g0 u v x) := by rw [adr0, List.getElem?_map, hk]; rfl
    rw [List.getElem?_map] at h1
    cases hp : (swl cI u ++ mcl cI v)[k]? with
    | none => rw [hp] at h1; cases h1
    | some p => rw [hp] at h1; exact ⟨p, rfl, Option.some.inj h1⟩
  obtain ⟨p, hp, ep⟩ := key a i ha
  obtain ⟨r, hr, er⟩ := key b j hb
  have hab := h.1 a b p r hp hr (by rw [ep, er]; exact e)
  subst hab
  exact Option.some.inj (ha.symm.trans hb)
theorem free0 {cI : Nat → ClassId} {D : va_G} {u v : Nat → Nat} {A : Nat → Prop} (h : va_D A (swl cI u ++ mcl cI v)) : ∀ q, mm_F (G0 D cI u v) q → A q := by
  rintro q ⟨j, hj, rfl⟩
  obtain ⟨a, ha⟩ := List.getElem?_of_mem (idx0_all j hj)
  have h1 : ((swl cI u ++ mcl cI v).map Prod.fst)[a]? = some (g0 u v j) := by rw [adr0, List.getElem?_map, ha]; rfl
  rw [List.getElem?_map] at h1
  cases hp : (swl cI u ++ mcl cI v)[a]? with
  | none => rw [hp] at h1; cases h1
  | some p =>
    rw [hp] at h1
    have e := Option.some.inj h1
    have := h.2 a p hp
    show A (g0 u v j)
    rw [← e]
    exact this
theorem n0_o {i : Nat} (h0 : i ≠ 0) (h1 : i ≠ 1) : n0 i = 0 := by
  unfold n0
  rw [upd_n _ _ h1, upd_n _ _ h0]
theorem n0_0 : n0 0 = 10 := by
  unfold n0
  rw [upd_n _ _ (by decide), upd_s]
theorem n0_1 : n0 1 = 20 := by
  unfold n0
  rw [upd_s]
theorem n0_f (k f : Nat) : sp_f n0 k f = 0 := n0_o (by omega) (by omega)
theorem LE_0 : LE 0 S0 := by
  have z0 : (0 : Int32).toInt = 0 := by decide
  have hwf : sp_wf 0 n0 := ⟨⟨by omega, n0_o (by decide) (by decide), fun k hk => absurd hk (by omega), fun i j hi => absurd hi (by omega)⟩, fun k hk => absurd hk (by omega), fun p hp => by rw [n0_o (by omega) (by omega), z0]; omega, by rw [n0_o (by decide) (by decide), z0]; omega, by rw [n0_0, show (10 : Int32).toInt = 10 by decide]; omega, by rw [n0_1, show (20 : Int32).toInt = 20 by decide]; omega, by rw [n0_o (by decide) (by decide), z0]; omega, fun k f _ _ _ => n0_f k f⟩
  have hlok : lok 0 (0, n0) := ⟨⟨hwf, rfl⟩, by show (n0 2).toInt ≤ 0; rw [n0_o (by decide) (by decide), z0]; omega, fun i hi => n0_o (by omega) (by omega)⟩
  have hB : S0 (mm_B 0) = fun k => if k = 4 then 10 else if k = 5 then 20 else 0 := S0_B 0
  refine ⟨(0, n0), 0, 0, fun _ => (0, n0), fun _ => (0, n0), ⟨hlok, fun j hj => absurd hj (by omega), by omega, fun i hi => absurd hi (by omega), rfl, fun x _ => ⟨rfl, fun hn => absurd rfl hn⟩⟩, ⟨⟨by omega, show n0 3 = nI 0 from n0_o (by decide) (by decide), ⟨?_, ?_, ?_, ?_, ?_, ?_, ?_, ?_, fun k hk => absurd hk (by omega)⟩, fun k hk => absurd hk (by omega)⟩, ⟨⟨by omega, by omega⟩, rfl, fun i => 4 + i, fun i hi => ⟨rfl, by dsimp only; omega, by dsimp only; omega⟩, fun i j _ _ e => by dsimp only at e; omega, fun i hi => absurd hi (by omega)⟩, rfl, fun x _ hn => absurd rfl hn⟩, ⟨rfl, ⟨rfl, by omega, fun j hj => absurd hj (by omega)⟩, rfl, rfl, fun x _ hn => absurd rfl hn⟩⟩
  · rw [hB]; exact (n0_o (i := 3) (by decide) (by decide)).symm
  · rw [hB]; exact n0_0.symm
  · rw [hB]; exact n0_1.symm
  · rw [hB]; exact (n0_o (i := 2) (by decide) (by decide)).symm
  · rw [hB]; exact (n0_o (i := 4) (by decide) (by decide)).symm
  · rw [hB]; exact (n0_o (i := 5) (by decide) (by decide)).symm
  · intro p hp
    rw [S0_L 0]; exact (n0_o (by omega) (by omega)).symm
  · intro p hp
    rw [S0_A 0]; exact if_pos hp
theorem cv_to {l : Launch} {D : va_G} {cI : Nat → ClassId} {b L : Nat} {xs : Nat → Int32} (hL : L ≤ 3072) {u v : Nat → Nat} {x3 : Int32} (e3 : x3 = 0) {kc ns : Nat} (hkc : kc ≤ 600000) (hns : ns ≤ 7302250) : cv_V l D cI RL cL_law 4 ret room_1 (fun s _ => lXt b L xs s) lA lw_Z (swl cI u ++ mcl cI v) kc ns 18 [(0, .ref b), (1, .ref (u 0)), (2, .ref (v 0)), (3, .int x3)] [] := by
  intro p e s m args below meth c hC H locs la h1 h2 h3
  obtain ⟨hx, hb, hr, hml, hown, hts, hlk, hck, hA, hXt⟩ := id hC
  refine W.widen (k := 600000) (n := 7302250) hkc hns ?_
  have hm : ∀ x, x ∈ swl cI u ++ mcl cI v → va_at D vwCl x H := fun x hx => by
    obtain ⟨k, hk⟩ := List.getElem?_of_mem hx
    exact h1.1 k x hk
  exact law_loop l (G0 D cI u v) hL (L + 1) 0 x3 S0 (by omega) (Nat.zero_le _) e3 LE_0 p e s m args below meth c ⟨hx, hb, hr, hml, hown, hts, hlk, ⟨inj0 h1.2, hck.1, hck.2.1⟩, Nat.le_refl _, Nat.le_refl _, hXt, free0 h1.2⟩ H locs la (H0_at (fun x hx => hm x (List.mem_append_left _ hx)) (fun x hx => hm x (List.mem_append_right _ hx))) h2 h3
set_option maxRecDepth 100000 in
set_option maxHeartbeats 4000000 in
theorem law_go (l : Launch) (D : va_G) (cI : Nat → ClassId) {b L : Nat} {xs : Nat → Int32} (hL : L ≤ 3072) : cv_V l D cI RL cL_law 4 ret room_1 (fun s _ => lXt b L xs s) lA lw_Z [] 0 0 0 [(0, .ref b)] [] := by
  refine cv_new (pc := 0) (C := RX4) (T := TX4) (N := 6) (ci := 4) (fs := swz) mw_W_X4 tyX4 tyX4_ok mw_G_L_7 mw_O_X4 mw_N_X4 rfl (by decide +kernel) (Nat.le_of_ble_eq_true rfl) (Nat.le_of_ble_eq_true rfl) dL_law_0 (fun w1 => ?_)
  refine cv_dup (pc := 3) dL_law_3 rfl ?_
  refine cv_call (pc := 4) (i_X4 l D cI) mw_M_L_9 cy_X4 ⟨by decide, by decide⟩ (Nat.le_of_ble_eq_true rfl) (Nat.le_of_ble_eq_true rfl) (Nat.le_of_ble_eq_true rfl) dL_law_4 (fun u hu => ?_)
  rw [← hu]
  refine cv_astore_n (pc := 7) (i := 1) (ls' := [(1, .ref (u 0)), (0, .ref b)]) dL_law_7 rfl (by decide) rfl ?_
  refine cv_new (pc := 8) (C := RX5) (T := TX5) (N := 14) (ci := 5) (fs := mz) mw_W_X5 tyX5 tyX5_ok mw_G_L_10 mw_O_X5 mw_N_X5 rfl (by decide +kernel) (Nat.le_of_ble_eq_true rfl) (Nat.le_of_ble_eq_true rfl) dL_law_8 (fun w2 => ?_)
  refine cv_dup (pc := 11) dL_law_11 rfl ?_
  refine cv_call (pc := 12) (i_X5 l D cI) mw_M_L_12 cy_X5 ⟨by decide, by decide⟩ (Nat.le_of_ble_eq_true rfl) (Nat.le_of_ble_eq_true rfl) (Nat.le_of_ble_eq_true rfl) dL_law_12 (fun v hv => ?_)
  rw [← hv]
  refine cv_astore_n (pc := 15) (i := 2) (ls' := [(2, .ref (v 0)), (1, .ref (u 0)), (0, .ref b)]) dL_law_15 rfl (by decide) rfl ?_
  refine cv_iconst (pc := 16) (v := 0) dL_law_16 (by decide) ?_
  refine cv_topi (fun x3p17 e3p17 => ?_)
  refine cv_istore_n (pc := 17) (i := 3) (ls' := [(3, .int x3p17), (2, .ref (v 0)), (1, .ref (u 0)), (0, .ref b)]) dL_law_17 rfl (by decide) rfl ?_
  refine cv_sub [3, 2, 1, 0] (ls' := [(0, .ref b), (1, .ref (u 0)), (2, .ref (v 0)), (3, .int x3p17)]) rfl ?_
  refine cv_ws (ws' := swl cI u ++ mcl cI v) rfl ?_
  exact cv_to hL e3p17 (Nat.le_of_ble_eq_true rfl) (Nat.le_of_ble_eq_true rfl)
theorem arr_of {s : State} {args : Array Value} {ty : FieldType} (h : (Cond.arrayClass ty).before args s = true) (hty : ∀ C, ty ≠ .object C) : ∃ cA, ArrOfT s cA ty ∧ va_RA s cA ty := by
  obtain ⟨cA, kA, comp, h1, h2, h3⟩ := Cond.arrayClass_spec h
  refine ⟨cA, fun n z => ⟨fun k h => (by cases h), kA, h2, comp, h3⟩, ?_⟩
  cases ty with
  | object C => exact absurd rfl (hty C)
  | _ => exact h1
theorem arr_ao {s : State} {C : String} (h : va_AO C s) : ∃ cA, ArrOfT s cA (.object C) ∧ va_RA s cA (.object C) := by
  obtain ⟨comp, c, k, h1, h2, h3, h4, h5⟩ := Cond.arrayOver_spec h
  exact ⟨c, fun n z => ⟨fun k h => (by cases h), k, h3, comp, h4⟩, k, comp, h3, h4, h1, h5⟩
theorem mw_V_X3 : Cond.arrayOver (.object RX3) ∈ lw_tbl := List.mem_of_getElem? (i := 60) (by decide +kernel)
theorem mw_V_X0 : Cond.arrayOver (.object RX0) ∈ lw_tbl := List.mem_of_getElem? (i := 163) (by decide +kernel)
set_option maxRecDepth 100000 in
set_option maxHeartbeats 4000000 in
/-- the law, from its entry -/
theorem whole_start {p : Program} {e : Env} {s : State} {m : MethodId} {below : List Frame} {meth : Method} {c : Code} (l : Launch) (hflags : l.flags = flags0) {b L : Nat} {xs : Nat → Int32} (hL : L ≤ 3072) (C0 : lw_At p s m meth c b L xs) : W p l e room_1 s m #[Value.ref b] below meth c s.heap [] 0 0 (lw_Z below #[Value.ref b] s) (entryFrame m ([Value.ref b] : List Value).toArray 4) := by
  obtain ⟨hx, hb, hr, hml, hown, hts, hX, hbl, hlocks, hgv⟩ := id C0
  have htW : ∀ w ∈ WW, w.before #[Value.ref b] s = true := fun w hw => hts w (mm_WW w hw)
  obtain ⟨c0, i0, k0⟩ := u_known (C := RX0) (T := TX0) (N := 9) (n := 9) htW mw_W_X0 (htW _ mw_O_X0)
  obtain ⟨c1, i1, k1⟩ := u_known (C := RX1) (T := TX1) (N := 2) (n := 2) htW mw_W_X1 (htW _ mw_O_X1)
  obtain ⟨c2, i2, k2⟩ := u_known (C := RX2) (T := TX2) (N := 9) (n := 9) htW mw_W_X2 (htW _ mw_O_X2)
  obtain ⟨c3, i3, k3⟩ := u_known (C := RX3) (T := TX3) (N := 12) (n := 12) htW mw_W_X3 (htW _ mw_O_X3)
  obtain ⟨c4, i4, k4⟩ := u_known (C := RX4) (T := TX4) (N := 6) (n := 6) htW mw_W_X4 (htW _ mw_O_X4)
  obtain ⟨c5, i5, k5⟩ := u_known (C := RX5) (T := TX5) (N := 14) (n := 14) htW mw_W_X5 (htW _ mw_O_X5)
  have ao3 : va_AO RX3 s := va_AO.of (hts _ mw_V_X3)
  have ao0 : va_AO RX0 s := va_AO.of (hts _ mw_V_X0)
  obtain ⟨a0, r0⟩ := arr_of (htW _ mw_A_int) (fun C h => by cases h)
  obtain ⟨a1, r1⟩ := arr_of (htW _ mw_A_boolean) (fun C h => by cases h)
  obtain ⟨a2, r2⟩ := arr_of (htW _ mw_A_char) (fun C h => by cases h)
  obtain ⟨a3, r3⟩ := arr_ao ao3
  obtain ⟨a4, r4⟩ := arr_ao ao0
  obtain ⟨dC, dI, hKc⟩ : ∃ (dC : Nat → ClassId) (dI : Nat → Nat → Nat), ∀ (k : Nat) (q : vw_C), vwCl[k]? = some q → u_Kn s q.1 q.2.1 q.2.2 (dC k) (dI k) := by
    refine ⟨fun k => if k = 0 then c0 else if k = 1 then c1 else if k = 2 then c2 else if k = 3 then c3 else if k = 4 then c4 else c5, fun k => if k = 0 then i0 else if k = 1 then i1 else if k = 2 then i2 else if k = 3 then i3 else if k = 4 then i4 else i5, ?_⟩
    intro k q hq
    match k, hq with
    | 0, hq => cases hq; exact k0
    | 1, hq => cases hq; exact k1
    | 2, hq => cases hq; exact k2
    | 3, hq => cases hq; exact k3
    | 4, hq => cases hq; exact k4
    | 5, hq => cases hq; exact k5
    | k + 6, hq => simp [vwCl] at hq
  obtain ⟨cI, hcI⟩ : ∃ cI : Nat → ClassId, ∀ (k : Nat) (q : ClassId × FieldType), (ctys cI)[k]? = some q → ArrOfT s q.1 q.2 ∧ va_RA s q.1 q.2 := by
    refine ⟨fun k => if k = 0 then a0 else if k = 1 then a1 else if k = 2 then a2 else if k = 3 then a3 else a4, ?_⟩
    intro k q hq
    match k, hq with
    | 0, hq => cases hq; exact r0
    | 1, hq => cases hq; exact r1
    | 2, hq => cases hq; exact r2
    | 3, hq => cases hq; exact r3
    | 4, hq => cases hq; exact r4
    | k + 5, hq => simp [ctys] at hq
  have hN : mm_N s := by
    intro q hq
    unfold mm_nest at hq
    simp only [List.mem_cons, List.not_mem_nil, or_false] at hq
    rcases hq with rfl | rfl | rfl | rfl | rfl | rfl | rfl
    · exact va_Nw.of rfl (hts _ mw_X_X0_147)
    · exact va_Nw.of rfl (hts _ mw_X_X0_24)
    · exact va_Nw.of rfl (hts _ mw_X_X0_67)
    · exact va_Nw.of rfl (hts _ mw_X_X1_22)
    · exact va_Nw.of rfl (hts _ mw_X_X1_30)
    · exact va_Nw.of rfl (hts _ mw_X_X2_27)
    · exact va_Nw.of rfl (hts _ mw_X_X3_75)
  have hP : va_P (dC, dI) vwCl [] s.heap := fun k q h => by simp at h
  have hD : va_D (fun q : Nat => s.heap.size ≤ q) [] := ⟨fun i j p q h => by simp at h, fun k q h => by simp at h⟩
  rw [lg_entry_eq]
  exact law_go l (dC, dI) cI hL p e s m #[Value.ref b] below meth c ⟨hx, hb, hr, hml, hown, htW, hlocks, ⟨⟨hKc, hcI⟩, hN, ao3, ao0⟩, fun q h => h, hX, hbl⟩ s.heap [] _ ⟨hP, hD⟩ va_S.rf (lv_entry [.ref b] (Nat.le_of_ble_eq_true rfl))
