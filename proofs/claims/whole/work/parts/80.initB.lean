/-! THE CONSTRUCTORS, part two -/
theorem bc_c {cI : Nat → ClassId} {u v : Nat → Nat} (h : ∀ i, i < 12 → u i = v i) : bc cI u = bc cI v := by
  unfold bc wl
  rw [h 0 (by decide), h 1 (by decide), h 2 (by decide), h 3 (by decide)]
  have hm : (List.range 8).map (fun j => (u (4 + j), (.inr (3, wz) : va_E))) = (List.range 8).map (fun j => (v (4 + j), .inr (3, wz))) := List.map_congr_left (fun j hj => by rw [h (4 + j) (by have := List.mem_range.mp hj; omega)])
  have hr : (fun i => if i < 8 then some (u (4 + i)) else none) = fun i => if i < 8 then some (v (4 + i)) else none := funext fun i => by
    by_cases g : i < 8
    · rw [if_pos g, if_pos g, h (4 + i) (by omega)]
    · rw [if_neg g, if_neg g]
  rw [hm, hr]
theorem bc_len (cI : Nat → ClassId) (u : Nat → Nat) : (bc cI u).length = 12 := rfl
/-- the cells of k bridges -/
def bcs (cI : Nat → ClassId) (B : Nat → Nat → Nat) : Nat → va_W
  | 0 => []
  | k + 1 => bcs cI B k ++ bc cI (B k)
theorem bcs_len (cI : Nat → ClassId) (B : Nat → Nat → Nat) : ∀ k, (bcs cI B k).length = 12 * k
  | 0 => rfl
  | k + 1 => by rw [bcs, List.length_append, bcs_len cI B k, bc_len]; omega
theorem bcs_c {cI : Nat → ClassId} {B B' : Nat → Nat → Nat} : ∀ k, (∀ j i, j < k → i < 12 → B j i = B' j i) → bcs cI B k = bcs cI B' k
  | 0, _ => rfl
  | k + 1, h => by rw [bcs, bcs, bcs_c k (fun j i hj hi => h j i (by omega) hi), bc_c (fun i hi => h k i (by omega) hi)]
/-- a history's cells, k bridges of which are there -/
def hl (cI : Nat → ClassId) (q : Nat) (u : Nat → Nat) (k : Nat) : va_W := (q, .inr (1, [.ref (u 1), .int 0])) :: (u 1, .inl (cI 4, 7, .inr (.inr (.inr (.inr (fun i => if i < k then some (u (2 + 12 * i)) else none)))))) :: bcs cI (fun j i => u (2 + 12 * j + i)) k
theorem hl_at {cI : Nat → ClassId} {q k : Nat} {u v : Nat → Nat} : (hl cI q u k ++ bc cI v)[2 + 12 * k]? = some (v 0, .inr (0, bob (v 1) (v 2) (v 3) 10 20)) := by
  have hlen : (hl cI q u k).length = 2 + 12 * k := by unfold hl; rw [List.length_cons, List.length_cons, bcs_len]; omega
  rw [List.getElem?_append_right (by omega), hlen, Nat.sub_self]; rfl
def hu (u v : Nat → Nat) (k : Nat) : Nat → Nat := fun i => if 2 + 12 * k ≤ i ∧ i < 2 + 12 * (k + 1) then v (i - (2 + 12 * k)) else u i
theorem hl_s {cI : Nat → ClassId} {q k x : Nat} {u v : Nat → Nat} (hx : x = k) : (hl cI q u k ++ bc cI v).set 1 (u 1, (.inl (cI 4, 7, .inr (.inr (.inr (.inr (va_up (fun i => if i < k then some (u (2 + 12 * i)) else none) x (some (v 0))))))) : va_E)) = hl cI q (hu u v k) (k + 1) := by
  subst hx
  have h : ∀ i, ¬ (2 + 12 * x ≤ i ∧ i < 2 + 12 * (x + 1)) → hu u v x i = u i := fun i hi => if_neg hi
  have h2 : ∀ i, i < 12 → hu u v x (2 + 12 * x + i) = v i := fun i hi => by unfold hu; rw [if_pos (by omega)]; congr 1; omega
  unfold hl
  rw [h 1 (by omega), bcs, bcs_c (B := fun j i => hu u v x (2 + 12 * j + i)) (B' := fun j i => u (2 + 12 * j + i)) x (fun j i hj hi => h _ (by omega)), bc_c (u := fun i => hu u v x (2 + 12 * x + i)) (v := v) h2]
  have hr : va_up (fun i => if i < x then some (u (2 + 12 * i)) else none) x (some (v 0)) = fun i => if i < x + 1 then some (hu u v x (2 + 12 * i)) else none := by
    funext i
    unfold va_up
    by_cases e : i = x
    · subst e; rw [if_pos rfl, if_pos (by omega)]; exact congrArg some (h2 0 (by decide)).symm
    · rw [if_neg e]
      dsimp only
      by_cases g : i < x
      · rw [if_pos g, if_pos (by omega), h _ (by omega)]
      · rw [if_neg g, if_neg (by omega)]
  rw [← hr]
  rfl
theorem hl_q {cI : Nat → ClassId} {q k : Nat} {u u' : Nat → Nat} (h : ∀ j, j ≠ 0 → j < 2 + 12 * k → u' j = u j) : hl cI q u' k = hl cI q u k := by
  unfold hl
  rw [h 1 (by decide) (by omega), bcs_c (B := fun j i => u' (2 + 12 * j + i)) (B' := fun j i => u (2 + 12 * j + i)) k (fun j i hj hi => h _ (by omega) (by omega))]
  have hr : (fun i => if i < k then some (u' (2 + 12 * i)) else none) = fun i => if i < k then some (u (2 + 12 * i)) else none := funext fun i => by
    by_cases g : i < k
    · rw [if_pos g, if_pos g, h _ (by omega) (by omega)]
    · rw [if_neg g, if_neg g]
  rw [hr]
def rmX1 : Room := { frames := 3, cells := 85, slots := 1078, locals := 53 }
def hz0 : List Value := [.null, .int 0]
def hw (cI : Nat → ClassId) (u : Nat → Nat) : va_W := hl cI (u 0) u 7
set_option maxRecDepth 100000 in
set_option maxHeartbeats 4000000 in
theorem i_X1 (l : Launch) (D : va_G) (cI : Nat → ClassId) : cv_C l D cI yX1_init cX1_init 2 rmX1 1 hz0 (hw cI) := by
  refine cv_ofV (own := RX1) (by decide +kernel) rfl rfl (by decide) (fun q sz => ?_)
  refine cv_aload_n (pc := 0) 0 dX1_init_0 rfl rfl ?_
  refine cv_obj (pc := 1) mw_M_X1_3 (Nat.le_of_ble_eq_true rfl) (Nat.le_of_ble_eq_true rfl) dX1_init_1 ?_
  refine cv_aload_n (pc := 4) 0 dX1_init_4 rfl rfl ?_
  refine cv_bipush (pc := 5) (v := 7) dX1_init_5 (by decide) ?_
  refine cv_newq (pc := 7) (C := RX0) (ti := 4) (N := 7) mw_G_X1_9 (fun U h => h.2.2.2) rfl (by decide) (by decide) (Nat.le_of_ble_eq_true rfl) (Nat.le_of_ble_eq_true rfl) (Nat.le_of_ble_eq_true rfl) dX1_init_7 (fun a1 => ?_)
  refine cv_putF (pc := 10) (q0 := 0) (ci := 1) (f := 0) (C := RX1) (T := TX1) (N := 2) (ty := (.array (.object "SingingWires$Bridge"))) mw_W_X1 tyX1 tyX1_ok nmX1 rfl (by decide) rfl rfl rfl (by decide +kernel) rfl rfl (Nat.le_of_ble_eq_true rfl) mw_F_X1_11 dX1_init_10 ?_
  refine cv_iconst (pc := 13) (v := 0) dX1_init_13 (by decide) ?_
  refine cv_topi (fun x1p14 e1p14 => ?_)
  refine cv_istore_n (pc := 14) (i := 1) (ls' := [(1, .int x1p14), (0, .ref q)]) dX1_init_14 rfl (by decide) rfl ?_
  refine cv_ws (ws' := (hl cI q (fun _ => a1) 0)) rfl ?_
  refine cv_n (kc' := 1) (ns' := 7) rfl rfl ?_
  have lp : ∀ (n k : Nat) (x1 : Int32) (u : Nat → Nat), 8 ≤ n + k → k ≤ 7 → x1 = nI k → cv_V l D cI RX1 cX1_init 2 none rmX1 (fun s meth => meth.name = "<init>" ∧ s.heap.size = sz) (fun s => va_A [(q, .inr (1, hz0))] s.heap.size) (fun below args s => MQ below (cv_Q D q sz 1 hz0 (hw cI)) args s rmX1.cells rmX1.slots (va_A [(q, .inr (1, hz0))] sz)) (hl cI q u k) (1 + 12 * k) (7 + 153 * k) 15 [(0, .ref q), (1, .int x1)] [] := by
    intro n
    induction n with
    | zero =>
      intro k x1 u hn hk e1
      exact absurd hn (by omega)
    | succ n ih =>
      intro k x1 u hn hk e1
      refine cv_iload_n (pc := 15) 1 dX1_init_15 rfl rfl ?_
      refine cv_bipush (pc := 16) (v := 6) dX1_init_16 (by decide) ?_
      refine cv_icmp_gt (pc := 18) (tgt := 40) dX1_init_18 (by decide) (fun c18 => ?_) (fun c18 => ?_)
      · have hk7 : k = 7 := by
          rw [e1, show (6 : Int32) = nI 6 from rfl, nI_ltI (by decide) (by omega)] at c18
          omega
        subst hk7
        refine cv_n (kc' := rmX1.cells) (ns' := rmX1.slots) rfl rfl ?_
        exact cv_ret (pc := 40) (fun j => if j = 0 then q else u j) rfl (hl_q (u' := fun j => if j = 0 then q else u j) (fun j hj _ => if_neg hj)).symm dX1_init_40
      · have hk7 : k < 7 := by
          rw [e1, show (6 : Int32) = nI 6 from rfl, nI_ltI (by decide) (by omega)] at c18
          omega
        refine cv_aload_n (pc := 21) 0 dX1_init_21 rfl rfl ?_
        refine cv_get (pc := 22) (q0 := 0) (ci := 1) (f := 0) (C := RX1) (T := TX1) (N := 2) mw_W_X1 rfl (by decide) rfl rfl mw_F_X1_11 dX1_init_22 ?_
        refine cv_iload_n (pc := 25) 1 dX1_init_25 rfl rfl ?_
        refine cv_new (pc := 26) (C := RX0) (T := TX0) (N := 9) (ci := 0) (fs := bz) mw_W_X0 tyX0 tyX0_ok mw_G_X1_9 mw_O_X0 mw_N_X0 rfl (by decide +kernel) (show 1 + 12 * k + 1 ≤ 85 by omega) (show 7 + 153 * k + 9 ≤ 1078 by omega) dX1_init_26 (fun w => ?_)
        refine cv_dup (pc := 29) dX1_init_29 rfl ?_
        refine cv_call (pc := 30) (i_X0 l D cI) mw_M_X1_17 cy_X0 ⟨by decide, by decide⟩ (show 1 + 12 * k + 1 + 11 ≤ 85 by omega) (show 7 + 153 * k + 9 + 144 ≤ 1078 by omega) (Nat.le_of_ble_eq_true rfl) dX1_init_30 (fun v hv => ?_)
        rw [← hv]
        refine cv_qst (pc := 33) (q0 := 1) (ti := 4) (qk := 2 + 12 * k) (ci := 0) (C := RX0) (T := TX0) (N := 9) rfl rfl hl_at rfl (by rw [e1]; exact vp_in_nI hk7 (by decide)) dX1_init_33 ?_
        refine cv_ws (hl_s (by rw [e1, cl_n (by omega)])) ?_
        obtain ⟨x1p34, e1p34⟩ : ∃ y : Int32, y = x1 + 1 := ⟨_, rfl⟩
        refine cv_iinc (pc := 34) (q := 1) (v := x1p34) (ls' := [(1, .int x1p34), (0, .ref q)]) dX1_init_34 rfl (by rw [e1p34]; rfl) (by decide) rfl ?_
        refine cv_goto (pc := 37) (tgt := 15) dX1_init_37 (by decide) ?_
        refine cv_n (kc' := 1 + 12 * (k + 1)) (ns' := 7 + 153 * (k + 1)) (by show 1 + 12 * k + 1 + 11 = _; omega) (by show 7 + 153 * k + 9 + 144 = _; omega) ?_
        refine cv_sub [1, 0] (ls' := [(0, .ref q), (1, .int x1p34)]) rfl ?_
        exact ih (k + 1) x1p34 _ (by omega) (by omega) (by rw [e1p34, e1, nI_1])
  refine cv_sub [1, 0] (ls' := [(0, .ref q), (1, .int x1p14)]) rfl ?_
  exact lp 8 0 x1p14 (fun _ => a1) (by omega) (by omega) e1p14
def rmX5 : Room := { frames := 1, cells := 8, slots := 1750, locals := 12 }
def mz : List Value := [.null, .null, .null, .int 0, .null, .null, .null, .int 0, .int 0, .null, .null, .int 0, .int 0, .int 0]
def n0 : Nat → Int32 := upd (upd (fun _ => 0) 0 10) 1 20
def mcl (cI : Nat → ClassId) (u : Nat → Nat) : va_W := [(u 0, .inr (5, [.ref (u 1), .ref (u 2), .ref (u 3), .int 0, .ref (u 4), .ref (u 5), .ref (u 6), .int 0, .int 0, .ref (u 7), .ref (u 8), .int 0, .int 0, .int 0])), (u 1, .inl (cI 0, 150, .inl n0)), (u 2, .inl (cI 0, 150, .inl (fun _ => 0))), (u 3, .inl (cI 0, 900, .inl (fun _ => 0))), (u 4, .inl (cI 0, 300, .inl (fun _ => 0))), (u 5, .inl (cI 1, 2, .inl (fun _ => 0))), (u 6, .inl (cI 0, 60, .inl (fun _ => 0))), (u 7, .inl (cI 0, 8, .inl (fun _ => 0))), (u 8, .inl (cI 0, 180, .inl (fun _ => 0)))]
set_option maxRecDepth 100000 in
set_option maxHeartbeats 4000000 in
theorem i_X5 (l : Launch) (D : va_G) (cI : Nat → ClassId) : cv_C l D cI yX5_init cX5_init 1 rmX5 5 mz (mcl cI) := by
  refine cv_ofV (own := RX5) (by decide +kernel) rfl rfl (by decide) (fun q sz => ?_)
  refine cv_aload_n (pc := 0) 0 dX5_init_0 rfl rfl ?_
  refine cv_obj (pc := 1) mw_M_X5_1 (Nat.le_of_ble_eq_true rfl) (Nat.le_of_ble_eq_true rfl) dX5_init_1 ?_
  refine cv_aload_n (pc := 4) 0 dX5_init_4 rfl rfl ?_
  refine cv_sipush (pc := 5) (v := 150) dX5_init_5 (by decide) ?_
  refine cv_newa (pc := 8) (atype := .int) (ty := .int) (ti := 0) (N := 150) mw_A_int rfl rfl rfl (by decide) (by decide) (Nat.le_of_ble_eq_true rfl) (Nat.le_of_ble_eq_true rfl) (Nat.le_of_ble_eq_true rfl) dX5_init_8 (fun a1 => ?_)
  refine cv_putF (pc := 10) (q0 := 0) (ci := 5) (f := 0) (C := RX5) (T := TX5) (N := 14) (ty := (.array .int)) mw_W_X5 tyX5 tyX5_ok nmX5 rfl (by decide) rfl rfl rfl (by decide +kernel) rfl rfl (Nat.le_of_ble_eq_true rfl) mw_F_X5_7 dX5_init_10 ?_
  refine cv_aload_n (pc := 13) 0 dX5_init_13 rfl rfl ?_
  refine cv_sipush (pc := 14) (v := 150) dX5_init_14 (by decide) ?_
  refine cv_newa (pc := 17) (atype := .int) (ty := .int) (ti := 0) (N := 150) mw_A_int rfl rfl rfl (by decide) (by decide) (Nat.le_of_ble_eq_true rfl) (Nat.le_of_ble_eq_true rfl) (Nat.le_of_ble_eq_true rfl) dX5_init_17 (fun a2 => ?_)
  refine cv_putF (pc := 19) (q0 := 0) (ci := 5) (f := 1) (C := RX5) (T := TX5) (N := 14) (ty := (.array .int)) mw_W_X5 tyX5 tyX5_ok nmX5 rfl (by decide) rfl rfl rfl (by decide +kernel) rfl rfl (Nat.le_of_ble_eq_true rfl) mw_F_X5_13 dX5_init_19 ?_
  refine cv_aload_n (pc := 22) 0 dX5_init_22 rfl rfl ?_
  refine cv_sipush (pc := 23) (v := 900) dX5_init_23 (by decide) ?_
  refine cv_newa (pc := 26) (atype := .int) (ty := .int) (ti := 0) (N := 900) mw_A_int rfl rfl rfl (by decide) (by decide) (Nat.le_of_ble_eq_true rfl) (Nat.le_of_ble_eq_true rfl) (Nat.le_of_ble_eq_true rfl) dX5_init_26 (fun a3 => ?_)
  refine cv_putF (pc := 28) (q0 := 0) (ci := 5) (f := 2) (C := RX5) (T := TX5) (N := 14) (ty := (.array .int)) mw_W_X5 tyX5 tyX5_ok nmX5 rfl (by decide) rfl rfl rfl (by decide +kernel) rfl rfl (Nat.le_of_ble_eq_true rfl) mw_F_X5_16 dX5_init_28 ?_
  refine cv_aload_n (pc := 31) 0 dX5_init_31 rfl rfl ?_
  refine cv_sipush (pc := 32) (v := 300) dX5_init_32 (by decide) ?_
  refine cv_newa (pc := 35) (atype := .int) (ty := .int) (ti := 0) (N := 300) mw_A_int rfl rfl rfl (by decide) (by decide) (Nat.le_of_ble_eq_true rfl) (Nat.le_of_ble_eq_true rfl) (Nat.le_of_ble_eq_true rfl) dX5_init_35 (fun a4 => ?_)
  refine cv_putF (pc := 37) (q0 := 0) (ci := 5) (f := 4) (C := RX5) (T := TX5) (N := 14) (ty := (.array .int)) mw_W_X5 tyX5 tyX5_ok nmX5 rfl (by decide) rfl rfl rfl (by decide +kernel) rfl rfl (Nat.le_of_ble_eq_true rfl) mw_F_X5_19 dX5_init_37 ?_
  refine cv_aload_n (pc := 40) 0 dX5_init_40 rfl rfl ?_
  refine cv_iconst (pc := 41) (v := 2) dX5_init_41 (by decide) ?_
  refine cv_newa (pc := 42) (atype := .boolean) (ty := .boolean) (ti := 1) (N := 2) mw_A_boolean rfl rfl rfl (by decide) (by decide) (Nat.le_of_ble_eq_true rfl) (Nat.le_of_ble_eq_true rfl) (Nat.le_of_ble_eq_true rfl) dX5_init_42 (fun a5 => ?_)
  refine cv_putF (pc := 44) (q0 := 0) (ci := 5) (f := 5) (C := RX5) (T := TX5) (N := 14) (ty := (.array .boolean)) mw_W_X5 tyX5 tyX5_ok nmX5 rfl (by decide) rfl rfl rfl (by decide +kernel) rfl rfl (Nat.le_of_ble_eq_true rfl) mw_F_X5_22 dX5_init_44 ?_
  refine cv_aload_n (pc := 47) 0 dX5_init_47 rfl rfl ?_
  refine cv_bipush (pc := 48) (v := 60) dX5_init_48 (by decide) ?_
  refine cv_newa (pc := 50) (atype := .int) (ty := .int) (ti := 0) (N := 60) mw_A_int rfl rfl rfl (by decide) (by decide) (Nat.le_of_ble_eq_true rfl) (Nat.le_of_ble_eq_true rfl) (Nat.le_of_ble_eq_true rfl) dX5_init_50 (fun a6 => ?_)
  refine cv_putF (pc := 52) (q0 := 0) (ci := 5) (f := 6) (C := RX5) (T := TX5) (N := 14) (ty := (.array .int)) mw_W_X5 tyX5 tyX5_ok nmX5 rfl (by decide) rfl rfl rfl (by decide +kernel) rfl rfl (Nat.le_of_ble_eq_true rfl) mw_F_X5_26 dX5_init_52 ?_
  refine cv_aload_n (pc := 55) 0 dX5_init_55 rfl rfl ?_
  refine cv_bipush (pc := 56) (v := 8) dX5_init_56 (by decide) ?_
  refine cv_newa (pc := 58) (atype := .int) (ty := .int) (ti := 0) (N := 8) mw_A_int rfl rfl rfl (by decide) (by decide) (Nat.le_of_ble_eq_true rfl) (Nat.le_of_ble_eq_true rfl) (Nat.le_of_ble_eq_true rfl) dX5_init_58 (fun a7 => ?_)
  refine cv_putF (pc := 60) (q0 := 0) (ci := 5) (f := 9) (C := RX5) (T := TX5) (N := 14) (ty := (.array .int)) mw_W_X5 tyX5 tyX5_ok nmX5 rfl (by decide) rfl rfl rfl (by decide +kernel) rfl rfl (Nat.le_of_ble_eq_true rfl) mw_F_X5_29 dX5_init_60 ?_
  refine cv_aload_n (pc := 63) 0 dX5_init_63 rfl rfl ?_
  refine cv_sipush (pc := 64) (v := 180) dX5_init_64 (by decide) ?_
  refine cv_newa (pc := 67) (atype := .int) (ty := .int) (ti := 0) (N := 180) mw_A_int rfl rfl rfl (by decide) (by decide) (Nat.le_of_ble_eq_true rfl) (Nat.le_of_ble_eq_true rfl) (Nat.le_of_ble_eq_true rfl) dX5_init_67 (fun a8 => ?_)
  refine cv_putF (pc := 69) (q0 := 0) (ci := 5) (f := 10) (C := RX5) (T := TX5) (N := 14) (ty := (.array .int)) mw_W_X5 tyX5 tyX5_ok nmX5 rfl (by decide) rfl rfl rfl (by decide +kernel) rfl rfl (Nat.le_of_ble_eq_true rfl) mw_F_X5_32 dX5_init_69 ?_
  refine cv_aload_n (pc := 72) 0 dX5_init_72 rfl rfl ?_
  refine cv_get (pc := 73) (q0 := 0) (ci := 5) (f := 0) (C := RX5) (T := TX5) (N := 14) mw_W_X5 rfl (by decide) rfl rfl mw_F_X5_7 dX5_init_73 ?_
  refine cv_iconst (pc := 76) (v := 0) dX5_init_76 (by decide) ?_
  refine cv_bipush (pc := 77) (v := 10) dX5_init_77 (by decide) ?_
  refine cv_ist (pc := 79) (q0 := 1) rfl (vp_in_nI (n := 0) (by decide) (by decide)) dX5_init_79 ?_
  refine cv_aload_n (pc := 80) 0 dX5_init_80 rfl rfl ?_
  refine cv_get (pc := 81) (q0 := 0) (ci := 5) (f := 0) (C := RX5) (T := TX5) (N := 14) mw_W_X5 rfl (by decide) rfl rfl mw_F_X5_7 dX5_init_81 ?_
  refine cv_iconst (pc := 84) (v := 1) dX5_init_84 (by decide) ?_
  refine cv_bipush (pc := 85) (v := 20) dX5_init_85 (by decide) ?_
  refine cv_ist (pc := 87) (q0 := 1) rfl (vp_in_nI (n := 1) (by decide) (by decide)) dX5_init_87 ?_
  refine cv_ws (ws' := (mcl cI (fun j => if j = 0 then q else if j = 1 then a1 else if j = 2 then a2 else if j = 3 then a3 else if j = 4 then a4 else if j = 5 then a5 else if j = 6 then a6 else if j = 7 then a7 else a8))) rfl ?_
  refine cv_n (kc' := rmX5.cells) (ns' := rmX5.slots) rfl rfl ?_
  exact cv_ret (pc := 88) (fun j => if j = 0 then q else if j = 1 then a1 else if j = 2 then a2 else if j = 3 then a3 else if j = 4 then a4 else if j = 5 then a5 else if j = 6 then a6 else if j = 7 then a7 else a8) rfl rfl dX5_init_88
