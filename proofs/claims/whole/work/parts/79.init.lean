/-! THE CONSTRUCTORS -/
def wz : List Value := [.int 0, .int 0, .int 0, .int 0, .int 0, .int 0, .int 0, .int 0, .int 0, .int 0, .int 0, .int 0]
def bz : List Value := [.null, .null, .null, .int 0, .int 0, .int 0, .int 0, .int 0, .int 0]
def neg (k : Nat) : Nat → Int32 := fun i => if i < k then -1 else 0
theorem neg_s (k : Nat) : upd (neg k) k (-1) = neg (k + 1) := by
  funext i
  unfold neg
  by_cases e : i = k
  · subst e; rw [upd_s, if_pos (by omega)]
  · rw [upd_n _ _ e]
    by_cases g : i < k
    · rw [if_pos g, if_pos (by omega)]
    · rw [if_neg g, if_neg (by omega)]
def bob (a1 a2 a3 : Nat) (c s : Int32) : List Value := [.ref a1, .ref a2, .ref a3, .int 0, .int c, .int s, .int 0, .int 0, .int 0]
/-- a bridge's cells, k wires of which are there -/
def wl (cI : Nat → ClassId) (q : Nat) (u : Nat → Nat) (c s : Int32) (k : Nat) : va_W := (q, .inr (0, bob (u 1) (u 2) (u 3) c s)) :: (u 1, .inl (cI 0, 20, .inl (fun _ => 0))) :: (u 2, .inl (cI 0, 20, .inl (neg 20))) :: (u 3, .inl (cI 3, 8, .inr (.inr (.inr (.inr (fun i => if i < k then some (u (4 + i)) else none)))))) :: (List.range k).map (fun j => (u (4 + j), .inr (3, wz)))
def bc (cI : Nat → ClassId) (u : Nat → Nat) : va_W := wl cI (u 0) u 10 20 8
theorem wl_s {cI : Nat → ClassId} {q v k : Nat} {u : Nat → Nat} {c s : Int32} {x : Nat} (hx : x = k) : (wl cI q u c s k ++ [(v, (.inr (3, wz) : va_E))]).set 3 (u 3, (.inl (cI 3, 8, .inr (.inr (.inr (.inr (va_up (fun i => if i < k then some (u (4 + i)) else none) x (some v)))))) : va_E)) = wl cI q (va_up u (4 + k) v) c s (k + 1) := by
  subst hx
  have h : ∀ i, i ≠ 4 + x → va_up u (4 + x) v i = u i := fun i hi => if_neg hi
  unfold wl
  rw [h 1 (by omega), h 2 (by omega), h 3 (by omega), List.range_succ, List.map_append]
  have hm : (List.range x).map (fun j => (va_up u (4 + x) v (4 + j), (.inr (3, wz) : va_E))) = (List.range x).map (fun j => (u (4 + j), .inr (3, wz))) := List.map_congr_left (fun j hj => by rw [h (4 + j) (by have := List.mem_range.mp hj; omega)])
  have hr : va_up (fun i => if i < x then some (u (4 + i)) else none) x (some v) = fun i => if i < x + 1 then some (va_up u (4 + x) v (4 + i)) else none := by
    funext i
    unfold va_up
    by_cases e : i = x
    · subst e; rw [if_pos rfl, if_pos (by omega), if_pos rfl]
    · rw [if_neg e]
      dsimp only
      by_cases g : i < x
      · rw [if_pos g, if_pos (by omega), if_neg (by omega)]
      · rw [if_neg g, if_neg (by omega)]
  rw [hm, ← hr]
  have hv : va_up u (4 + x) v (4 + x) = v := if_pos rfl
  rw [List.map_singleton, hv]
  rfl
theorem wl_at {cI : Nat → ClassId} {q v k : Nat} {u : Nat → Nat} {c s : Int32} : (wl cI q u c s k ++ [(v, (.inr (3, wz) : va_E))])[4 + k]? = some (v, .inr (3, wz)) := by
  have hl : (wl cI q u c s k).length = 4 + k := by unfold wl; simp only [List.length_cons, List.length_map, List.length_range]; omega
  rw [List.getElem?_append_right (by omega), hl, Nat.sub_self]; rfl
theorem wl_q {cI : Nat → ClassId} {q k : Nat} {u u' : Nat → Nat} {c s : Int32} (h : ∀ j, j ≠ 0 → u' j = u j) : wl cI q u' c s k = wl cI q u c s k := by
  unfold wl
  rw [h 1 (by decide), h 2 (by decide), h 3 (by decide)]
  have hm : (List.range k).map (fun j => (u' (4 + j), (.inr (3, wz) : va_E))) = (List.range k).map (fun j => (u (4 + j), .inr (3, wz))) := List.map_congr_left (fun j _ => by rw [h (4 + j) (by omega)])
  have hr : (fun i => if i < k then some (u' (4 + i)) else none) = fun i => if i < k then some (u (4 + i)) else none := funext fun i => by rw [h (4 + i) (by omega)]
  rw [hm, hr]
theorem cy_X0 : cv_y yX0_init cX0_init 2 := ⟨mw_I_X0_init, mw_N_X0, mw_C_X0_init, rfl, by decide +kernel, by decide +kernel, by decide +kernel⟩
theorem cy_X1 : cv_y yX1_init cX1_init 2 := ⟨mw_I_X1_init, mw_N_X1, mw_C_X1_init, rfl, by decide +kernel, by decide +kernel, by decide +kernel⟩
theorem cy_X2 : cv_y yX2_init cX2_init 1 := ⟨mw_I_X2_init, mw_N_X2, mw_C_X2_init, rfl, by decide +kernel, by decide +kernel, by decide +kernel⟩
theorem cy_X3 : cv_y yX3_init cX3_init 1 := ⟨mw_I_X3_init, mw_N_X3, mw_C_X3_init, rfl, by decide +kernel, by decide +kernel, by decide +kernel⟩
theorem cy_X4 : cv_y yX4_init cX4_init 2 := ⟨mw_I_X4_init, mw_N_X4, mw_C_X4_init, rfl, by decide +kernel, by decide +kernel, by decide +kernel⟩
theorem cy_X5 : cv_y yX5_init cX5_init 1 := ⟨mw_I_X5_init, mw_N_X5, mw_C_X5_init, rfl, by decide +kernel, by decide +kernel, by decide +kernel⟩
def rmX3 : Room := { frames := 1, cells := 0, slots := 0, locals := 12 }
def rmX0 : Room := { frames := 2, cells := 11, slots := 144, locals := 32 }
def rmX2 : Room := { frames := 1, cells := 1, slots := 60, locals := 12 }
set_option maxRecDepth 100000 in
set_option maxHeartbeats 4000000 in
theorem i_X3 (l : Launch) (D : va_G) (cI : Nat → ClassId) : cv_C l D cI yX3_init cX3_init 1 rmX3 3 wz (fun u => [(u 0, .inr (3, wz))]) := by
  refine cv_ofV (own := RX3) (by decide +kernel) rfl rfl (by decide) (fun q sz => ?_)
  refine cv_aload_n (pc := 0) 0 dX3_init_0 rfl rfl ?_
  refine cv_obj (pc := 1) mw_M_X3_3 (Nat.le_of_ble_eq_true rfl) (Nat.le_of_ble_eq_true rfl) dX3_init_1 ?_
  exact cv_ret (pc := 4) (mc := rmX3.cells) (ms := rmX3.slots) (fun _ => q) rfl rfl dX3_init_4
def pz : List Value := [.null, .int 0, .int 0, .int 0, .int 0, .int 0, .int 0, .int 0, .int 0]
def pc2 (cI : Nat → ClassId) (u : Nat → Nat) : va_W := [(u 0, .inr (2, [.ref (u 1), .int 0, .int 0, .int 0, .int 0, .int 0, .int 0, .int 0, .int 0])), (u 1, .inl (cI 2, 60, .inl (fun _ => 0)))]
set_option maxRecDepth 100000 in
set_option maxHeartbeats 4000000 in
theorem i_X2 (l : Launch) (D : va_G) (cI : Nat → ClassId) : cv_C l D cI yX2_init cX2_init 1 rmX2 2 pz (pc2 cI) := by
  refine cv_ofV (own := RX2) (by decide +kernel) rfl rfl (by decide) (fun q sz => ?_)
  refine cv_aload_n (pc := 0) 0 dX2_init_0 rfl rfl ?_
  refine cv_obj (pc := 1) mw_M_X2_3 (Nat.le_of_ble_eq_true rfl) (Nat.le_of_ble_eq_true rfl) dX2_init_1 ?_
  refine cv_aload_n (pc := 4) 0 dX2_init_4 rfl rfl ?_
  refine cv_bipush (pc := 5) (v := 60) dX2_init_5 (by decide) ?_
  refine cv_newa (pc := 7) (atype := .char) (ty := .char) (ti := 2) (N := 60) mw_A_char rfl rfl rfl (by decide) (by decide) (Nat.le_of_ble_eq_true rfl) (Nat.le_of_ble_eq_true rfl) (Nat.le_of_ble_eq_true rfl) dX2_init_7 (fun a1 => ?_)
  refine cv_putF (pc := 9) (q0 := 0) (ci := 2) (f := 0) (C := RX2) (T := TX2) (N := 9) (ty := (.array .char)) mw_W_X2 tyX2 tyX2_ok nmX2 rfl (by decide) rfl rfl rfl (by decide +kernel) rfl rfl (Nat.le_of_ble_eq_true rfl) mw_F_X2_9 dX2_init_9 ?_
  refine cv_ws (ws' := (pc2 cI (fun j => if j = 0 then q else a1))) rfl ?_
  refine cv_n (kc' := rmX2.cells) (ns' := rmX2.slots) rfl rfl ?_
  exact cv_ret (pc := 12) (fun j => if j = 0 then q else a1) rfl rfl dX2_init_12
set_option maxRecDepth 100000 in
set_option maxHeartbeats 4000000 in
theorem i_X0 (l : Launch) (D : va_G) (cI : Nat → ClassId) : cv_C l D cI yX0_init cX0_init 2 rmX0 0 bz (bc cI) := by
  refine cv_ofV (own := RX0) (by decide +kernel) rfl rfl (by decide) (fun q sz => ?_)
  refine cv_aload_n (pc := 0) 0 dX0_init_0 rfl rfl ?_
  refine cv_obj (pc := 1) mw_M_X0_3 (Nat.le_of_ble_eq_true rfl) (Nat.le_of_ble_eq_true rfl) dX0_init_1 ?_
  refine cv_aload_n (pc := 4) 0 dX0_init_4 rfl rfl ?_
  refine cv_bipush (pc := 5) (v := 20) dX0_init_5 (by decide) ?_
  refine cv_newa (pc := 7) (atype := .int) (ty := .int) (ti := 0) (N := 20) mw_A_int rfl rfl rfl (by decide) (by decide) (Nat.le_of_ble_eq_true rfl) (Nat.le_of_ble_eq_true rfl) (Nat.le_of_ble_eq_true rfl) dX0_init_7 (fun a1 => ?_)
  refine cv_putF (pc := 9) (q0 := 0) (ci := 0) (f := 0) (C := RX0) (T := TX0) (N := 9) (ty := (.array .int)) mw_W_X0 tyX0 tyX0_ok nmX0 rfl (by decide) rfl rfl rfl (by decide +kernel) rfl rfl (Nat.le_of_ble_eq_true rfl) mw_F_X0_9 dX0_init_9 ?_
  refine cv_aload_n (pc := 12) 0 dX0_init_12 rfl rfl ?_
  refine cv_bipush (pc := 13) (v := 20) dX0_init_13 (by decide) ?_
  refine cv_newa (pc := 15) (atype := .int) (ty := .int) (ti := 0) (N := 20) mw_A_int rfl rfl rfl (by decide) (by decide) (Nat.le_of_ble_eq_true rfl) (Nat.le_of_ble_eq_true rfl) (Nat.le_of_ble_eq_true rfl) dX0_init_15 (fun a2 => ?_)
  refine cv_putF (pc := 17) (q0 := 0) (ci := 0) (f := 1) (C := RX0) (T := TX0) (N := 9) (ty := (.array .int)) mw_W_X0 tyX0 tyX0_ok nmX0 rfl (by decide) rfl rfl rfl (by decide +kernel) rfl rfl (Nat.le_of_ble_eq_true rfl) mw_F_X0_15 dX0_init_17 ?_
  refine cv_iconst (pc := 20) (v := 0) dX0_init_20 (by decide) ?_
  refine cv_topi (fun x1p21 e1p21 => ?_)
  refine cv_istore_n (pc := 21) (i := 1) (ls' := [(1, .int x1p21), (0, .ref q)]) dX0_init_21 rfl (by decide) rfl ?_
  refine cv_ws (ws' := [(q, .inr (0, [.ref a1, .ref a2, .null, .int 0, .int 0, .int 0, .int 0, .int 0, .int 0])), (a1, .inl (cI 0, 20, .inl (fun _ => 0))), (a2, .inl (cI 0, 20, .inl (fun _ => 0)))]) rfl ?_
  refine cv_n (kc' := 2) (ns' := 40) rfl rfl ?_
  have lp1 : ∀ (n k : Nat) (x1 : Int32), 21 ≤ n + k → k ≤ 20 → x1 = nI k → cv_V l D cI RX0 cX0_init 2 none rmX0 (fun s meth => meth.name = "<init>" ∧ s.heap.size = sz) (fun s => va_A [(q, .inr (0, bz))] s.heap.size) (fun below args s => MQ below (cv_Q D q sz 0 bz (bc cI)) args s rmX0.cells rmX0.slots (va_A [(q, .inr (0, bz))] sz)) [(q, .inr (0, [.ref a1, .ref a2, .null, .int 0, .int 0, .int 0, .int 0, .int 0, .int 0])), (a1, .inl (cI 0, 20, .inl (fun _ => 0))), (a2, .inl (cI 0, 20, .inl (neg k)))] 2 40 22 [(0, .ref q), (1, .int x1)] [] := by
    intro n
    induction n with
    | zero =>
      intro k x1 hn hk e1
      exact absurd hn (by omega)
    | succ n ih =>
      intro k x1 hn hk e1
      refine cv_iload_n (pc := 22) 1 dX0_init_22 rfl rfl ?_
      refine cv_bipush (pc := 23) (v := 20) dX0_init_23 (by decide) ?_
      refine cv_icmp_ge (pc := 25) (tgt := 41) dX0_init_25 (by decide) (fun c25 => ?_) (fun c25 => ?_)
      · have hke := sp_geN (N := 20) (by decide) hk e1 c25
        subst hke
        refine cv_aload_n (pc := 41) 0 dX0_init_41 rfl rfl ?_
        refine cv_bipush (pc := 42) (v := 8) dX0_init_42 (by decide) ?_
        refine cv_newq (pc := 44) (C := RX3) (ti := 3) (N := 8) mw_G_X0_18 (fun U h => h.2.2.1) rfl (by decide) (by decide) (Nat.le_of_ble_eq_true rfl) (Nat.le_of_ble_eq_true rfl) (Nat.le_of_ble_eq_true rfl) dX0_init_44 (fun a3 => ?_)
        refine cv_putF (pc := 47) (q0 := 0) (ci := 0) (f := 2) (C := RX0) (T := TX0) (N := 9) (ty := (.array (.object "SingingWires$Wire"))) mw_W_X0 tyX0 tyX0_ok nmX0 rfl (by decide) rfl rfl rfl (by decide +kernel) rfl rfl (Nat.le_of_ble_eq_true rfl) mw_F_X0_20 dX0_init_47 ?_
        refine cv_iconst (pc := 50) (v := 0) dX0_init_50 (by decide) ?_
        refine cv_topi (fun x1p51 e1p51 => ?_)
        refine cv_istore_n (pc := 51) (i := 1) (ls' := [(1, .int x1p51), (0, .ref q)]) dX0_init_51 rfl (by decide) rfl ?_
        refine cv_ws (ws' := (wl cI q (fun j => if j = 0 then q else if j = 1 then a1 else if j = 2 then a2 else a3) 0 0 0)) rfl ?_
        refine cv_n (kc' := 3) (ns' := 48) rfl rfl ?_
        have lp2 : ∀ (m k : Nat) (x1 : Int32) (u : Nat → Nat), 9 ≤ m + k → k ≤ 8 → x1 = nI k → cv_V l D cI RX0 cX0_init 2 none rmX0 (fun s meth => meth.name = "<init>" ∧ s.heap.size = sz) (fun s => va_A [(q, .inr (0, bz))] s.heap.size) (fun below args s => MQ below (cv_Q D q sz 0 bz (bc cI)) args s rmX0.cells rmX0.slots (va_A [(q, .inr (0, bz))] sz)) (wl cI q u 0 0 k) (3 + k) (48 + 12 * k) 52 [(0, .ref q), (1, .int x1)] [] := by
          intro m
          induction m with
          | zero =>
            intro k x1 u hn hk e1
            exact absurd hn (by omega)
          | succ m ih2 =>
            intro k x1 u hn hk e1
            refine cv_iload_n (pc := 52) 1 dX0_init_52 rfl rfl ?_
            refine cv_bipush (pc := 53) (v := 8) dX0_init_53 (by decide) ?_
            refine cv_icmp_ge (pc := 55) (tgt := 77) dX0_init_55 (by decide) (fun c55 => ?_) (fun c55 => ?_)
            · have hke := sp_geN (N := 8) (by decide) hk e1 c55
              subst hke
              refine cv_aload_n (pc := 77) 0 dX0_init_77 rfl rfl ?_
              refine cv_bipush (pc := 78) (v := 10) dX0_init_78 (by decide) ?_
              refine cv_put (pc := 80) (q0 := 0) (ci := 0) (f := 4) (C := RX0) (T := TX0) (N := 9) (ty := .int) mw_W_X0 tyX0 tyX0_ok nmX0 rfl (by decide) rfl rfl (by decide +kernel) rfl rfl (Nat.le_of_ble_eq_true rfl) mw_F_X0_25 dX0_init_80 ?_
              refine cv_aload_n (pc := 83) 0 dX0_init_83 rfl rfl ?_
              refine cv_bipush (pc := 84) (v := 20) dX0_init_84 (by decide) ?_
              refine cv_put (pc := 86) (q0 := 0) (ci := 0) (f := 5) (C := RX0) (T := TX0) (N := 9) (ty := .int) mw_W_X0 tyX0 tyX0_ok nmX0 rfl (by decide) rfl rfl (by decide +kernel) rfl rfl (Nat.le_of_ble_eq_true rfl) mw_F_X0_29 dX0_init_86 ?_
              refine cv_ws (ws' := (wl cI q u 10 20 8)) rfl ?_
              refine cv_n (kc' := rmX0.cells) (ns' := rmX0.slots) rfl rfl ?_
              exact cv_ret (pc := 89) (fun j => if j = 0 then q else u j) rfl (wl_q (u' := fun j => if j = 0 then q else u j) (fun j hj => if_neg hj)).symm dX0_init_89
            · have hk8 : k < 8 := sp_ltN (N := 8) (by decide) hk e1 c55
              refine cv_aload_n (pc := 58) 0 dX0_init_58 rfl rfl ?_
              refine cv_get (pc := 59) (q0 := 0) (ci := 0) (f := 2) (C := RX0) (T := TX0) (N := 9) mw_W_X0 rfl (by decide) rfl rfl mw_F_X0_20 dX0_init_59 ?_
              refine cv_iload_n (pc := 62) 1 dX0_init_62 rfl rfl ?_
              refine cv_new (pc := 63) (C := RX3) (T := TX3) (N := 12) (ci := 3) (fs := wz) mw_W_X3 tyX3 tyX3_ok mw_G_X0_18 mw_O_X3 mw_N_X3 rfl (by decide +kernel) (show 3 + k + 1 ≤ 11 by omega) (show 48 + 12 * k + 12 ≤ 144 by omega) dX0_init_63 (fun v => ?_)
              refine cv_dup (pc := 66) dX0_init_66 rfl ?_
              refine cv_callN (pc := 67) (i_X3 l D cI) (host := RX4) (by decide +kernel) cy_X3 ⟨by decide, by decide⟩ (show 3 + k + 1 + 0 ≤ 11 by omega) (show 48 + 12 * k + 12 + 0 ≤ 144 by omega) (Nat.le_of_ble_eq_true rfl) dX0_init_67 (fun w hw => ?_)
              rw [hw]
              refine cv_qst (pc := 70) (q0 := 3) (ti := 3) (qk := 4 + k) (ci := 3) (C := RX3) (T := TX3) (N := 12) rfl rfl wl_at rfl (by rw [e1]; exact vp_in_nI hk8 (by decide)) dX0_init_70 ?_
              refine cv_ws (wl_s (by rw [e1, cl_n (by omega)])) ?_
              obtain ⟨x1p71, e1p71⟩ : ∃ y : Int32, y = x1 + 1 := ⟨_, rfl⟩
              refine cv_iinc (pc := 71) (q := 1) (v := x1p71) (ls' := [(1, .int x1p71), (0, .ref q)]) dX0_init_71 rfl (by rw [e1p71]; rfl) (by decide) rfl ?_
              refine cv_goto (pc := 74) (tgt := 52) dX0_init_74 (by decide) ?_
              refine cv_n (kc' := 3 + (k + 1)) (ns' := 48 + 12 * (k + 1)) (by show 3 + k + 1 + 0 = _; omega) (by show 48 + 12 * k + 12 + 0 = _; omega) ?_
              refine cv_sub [1, 0] (ls' := [(0, .ref q), (1, .int x1p71)]) rfl ?_
              exact ih2 (k + 1) x1p71 _ (by omega) (by omega) (by rw [e1p71, e1, nI_1])
        refine cv_sub [1, 0] (ls' := [(0, .ref q), (1, .int x1p51)]) rfl ?_
        exact lp2 9 0 x1p51 (fun j => if j = 0 then q else if j = 1 then a1 else if j = 2 then a2 else a3) (by omega) (by omega) e1p51
      · have hk20 : k < 20 := sp_ltN (N := 20) (by decide) hk e1 c25
        refine cv_aload_n (pc := 28) 0 dX0_init_28 rfl rfl ?_
        refine cv_get (pc := 29) (q0 := 0) (ci := 0) (f := 1) (C := RX0) (T := TX0) (N := 9) mw_W_X0 rfl (by decide) rfl rfl mw_F_X0_15 dX0_init_29 ?_
        refine cv_iload_n (pc := 32) 1 dX0_init_32 rfl rfl ?_
        refine cv_iconst (pc := 33) (v := (-1)) dX0_init_33 (by decide) ?_
        refine cv_ist (pc := 34) (q0 := 2) rfl (by rw [e1]; exact vp_in_nI hk20 (by decide)) dX0_init_34 ?_
        refine cv_ws (ws' := [(q, .inr (0, [.ref a1, .ref a2, .null, .int 0, .int 0, .int 0, .int 0, .int 0, .int 0])), (a1, .inl (cI 0, 20, .inl (fun _ => 0))), (a2, .inl (cI 0, 20, .inl (neg (k + 1))))]) (by rw [show x1.toNatClampNeg = k from by rw [e1, cl_n (by omega)], neg_s]; rfl) ?_
        obtain ⟨x1p35, e1p35⟩ : ∃ y : Int32, y = x1 + 1 := ⟨_, rfl⟩
        refine cv_iinc (pc := 35) (q := 1) (v := x1p35) (ls' := [(1, .int x1p35), (0, .ref q)]) dX0_init_35 rfl (by rw [e1p35]; rfl) (by decide) rfl ?_
        refine cv_goto (pc := 38) (tgt := 22) dX0_init_38 (by decide) ?_
        refine cv_sub [1, 0] (ls' := [(0, .ref q), (1, .int x1p35)]) rfl ?_
        exact ih (k + 1) x1p35 (by omega) (by omega) (by rw [e1p35, e1, nI_1])
  refine cv_sub [1, 0] (ls' := [(0, .ref q), (1, .int x1p21)]) rfl ?_
  exact lp1 21 0 x1p21 (by omega) (by omega) e1p21
