/-- what a call of an instance method needs of the tables -/
def mm_y (C : String) (y : MethodName) (cy : ByteArray) (ny : Nat) (rty : Option FieldType) (n : Nat) : Prop := Cond.instanceMethod y ∈ WW ∧ Cond.selects C y y ∈ WW ∧ Cond.initialized C ∈ WW ∧ Cond.code y cy ny rty ∈ WW ∧ y.cls = C ∧ y.cls ≠ "java/lang/invoke/MethodHandle" ∧ y.cls ≠ "java/lang/invoke/VarHandle" ∧ (parseMethodDescriptor y.desc).map (fun d => d.parameters.length) = some n
def mm_ys (y : MethodName) (cy : ByteArray) (ny : Nat) (rty : Option FieldType) (n : Nat) : Prop := Cond.static y ∈ WW ∧ Cond.initialized y.cls ∈ WW ∧ Cond.code y cy ny rty ∈ WW ∧ y.cls ≠ "java/lang/invoke/MethodHandle" ∧ y.cls ≠ "java/lang/invoke/VarHandle" ∧ (parseMethodDescriptor y.desc).map (fun d => d.parameters.length) = some n
def mm_rv (G : gG) (S : Mem) (j : Nat) (C : String) : Prop := j < 148 ∧ ∃ (ci : Nat) (T : u_T) (N : Nat) (fs : List Value), vwCl[ci]? = some (C, T, N) ∧ mm_enc G j (S j) = .inr (ci, fs)
theorem mm_rv_B {G : gG} {S : Mem} {b : Nat} (hb : b < 11) : mm_rv G S (mm_B b) RX0 := ⟨mm_lt_B hb, 0, _, _, _, rfl, mm_enc_B G b _⟩
theorem mm_rv_W {G : gG} {S : Mem} {b w : Nat} (hb : b < 11) (hw : w < 8) : mm_rv G S (mm_W b w) RX3 := ⟨mm_lt_W hb hw, 3, _, _, _, rfl, mm_enc_W G b hw _⟩
theorem mm_rv_X1 {G : gG} {S : Mem} : mm_rv G S 3 RX1 := ⟨by decide, 1, _, _, _, rfl, rfl⟩
theorem mm_rv_X2 {G : gG} {S : Mem} : mm_rv G S 5 RX2 := ⟨by decide, 2, _, _, _, rfl, rfl⟩
theorem mm_rv_X4 {G : gG} {S : Mem} : mm_rv G S 0 RX4 := ⟨by decide, 4, _, _, _, rfl, rfl⟩
theorem mm_rv_X5 {G : gG} {S : Mem} : mm_rv G S 7 RX5 := ⟨by decide, 5, _, _, _, rfl, rfl⟩
theorem mm_blind {G : gG} {av : List Value} {S : Mem} : FrameBlind (mm_Pc G av S) := fun a U g mk h => ⟨h.1, mm_St_same (u := U) (U := U.calling g mk a) rfl h.2.1, h.2.2⟩
def mm_rm (f lo : Nat) : Room := { frames := f, cells := 0, slots := 0, locals := lo }
section VC
variable {l : Launch} {G : gG} {own : String} {cc : ByteArray} {nL : Nat} {rt : Option FieldType} {R : Room} {kc ns : Nat} {Xt : State → Prop} {A : State → Nat → Prop} {Qf : List Frame → Array Value → State → State → Prop} {S : Mem} {pc : Nat} {ls ls' : List (Nat × Value)} {st : List Value}
variable {y : MethodName} {cy : ByteArray} {ny n index : Nat} {rty : Option FieldType} {fr lo : Nat} {C : String} {j : Nat} {As st0 : List Value}
theorem vc_Vi {P : Int32 → Mem → Prop} (hM : mm_C l G y cy ny rty (mm_rm fr lo) (.ref (gad G j) :: As) S (mm_Qi G P)) (hlk2 : Cond.methodLink own index y ∈ WW) (hy : mm_y C y cy ny rty n) (hv : mm_rv G S j C) (hrm : fr + 1 ≤ R.frames ∧ 8 + (ny + 11) + lo ≤ R.locals) (hn : As.length = n) (hst : st0 = As.reverse ++ .ref (gad G j) :: st) (hcat : (st.map fun v => v.category).sum ≤ 8) (hd : decode cc pc = .ok (.invokevirtual index, 3)) (k : ∀ (r : Int32) (S1 : Mem), P r S1 → mm_V l G own cc nL rt R kc ns Xt A Qf S1 (pc + 3) ls (.int r :: st)) : mm_V l G own cc nL rt R kc ns Xt A Qf S pc ls st0 := by
  intro p e s m args below meth c hC H locs la h1 h2 h3
  obtain ⟨hx, hb, hr, hml, hown, hts, hlk, hSt, hkc, hns, hXt, hA⟩ := id hC
  subst hst
  obtain ⟨hj, ci, T, N, fs, hc, he⟩ := hv
  refine va_calli (va_runV (Ts := WW) (C := C) (As := As) (rest := st) ⟨hx, hb, hml, hown, hts⟩ hM (cwV n hts (mm_good (ws := wsV own index C y (Cond.code y cy ny rty :: WW)) (fun w hw => by
    rcases List.mem_append.mp hw with h | h
    · simp only [List.mem_cons, List.not_mem_nil, or_false] at h
      rcases h with rfl | rfl | rfl | rfl
      · exact hlk2
      · exact hy.1
      · exact hy.2.1
      · exact hy.2.2.1
    · rcases List.mem_cons.mp h with rfl | h
      · exact hy.2.2.2.1
      · exact h)) rfl rfl rfl hy.2.2.2.2 hrm) ⟨mm_blind, va_recv hSt.2.1 (mm_P h1) (ci := ci) (q0 := j) hc (by rw [mm_l_at G S hj, he]), fun U hU hW => ⟨rfl, mm_St_warm hW hSt, by rw [hU]; exact h1⟩⟩ rfl hn h3.1 rfl (lv_room hcat) hd ⟨hkc, hns⟩) h2 (fun q _ h => hA q h) (fun q h => hA q h) (fun r u t H1 locs1 ht hvm hp hB hz hk hS => ?_)
  rw [ht] at hB
  exact k r u hp p e s m args below meth c hC H1 locs1 la hB hS h3
theorem vc_Si {P : Int32 → Mem → Prop} (hM : mm_C l G y cy ny rty (mm_rm fr lo) As S (mm_Qi G P)) (hlk2 : Cond.methodLink own index y ∈ WW) (hy : mm_ys y cy ny rty n) (hrm : fr + 1 ≤ R.frames ∧ 8 + (ny + 11) + lo ≤ R.locals) (hn : As.length = n) (hst : st0 = As.reverse ++ st) (hcat : (st.map fun v => v.category).sum ≤ 8) (hd : decode cc pc = .ok (.invokestatic index, 3)) (k : ∀ (r : Int32) (S1 : Mem), P r S1 → mm_V l G own cc nL rt R kc ns Xt A Qf S1 (pc + 3) ls (.int r :: st)) : mm_V l G own cc nL rt R kc ns Xt A Qf S pc ls st0 := by
  intro p e s m args below meth c hC H locs la h1 h2 h3
  obtain ⟨hx, hb, hr, hml, hown, hts, hlk, hSt, hkc, hns, hXt, hA⟩ := id hC
  subst hst
  refine va_calli (va_runS (Ts := WW) (As := As) (rest := st) ⟨hx, hb, hml, hown, hts⟩ hM (va_cwS n hts (mm_good (ws := va_wsS own index y (Cond.code y cy ny rty :: WW)) (fun w hw => by
    rcases List.mem_append.mp hw with h | h
    · simp only [List.mem_cons, List.not_mem_nil, or_false] at h
      rcases h with rfl | rfl | rfl
      · exact hlk2
      · exact hy.1
      · exact hy.2.1
    · rcases List.mem_cons.mp h with rfl | h
      · exact hy.2.2.1
      · exact h)) rfl rfl rfl hy.2.2.2 hrm) ⟨mm_blind, fun U hU hW => ⟨rfl, mm_St_warm hW hSt, by rw [hU]; exact h1⟩⟩ rfl hn h3.1 rfl (lv_room hcat) hd ⟨hkc, hns⟩) h2 (fun q _ h => hA q h) (fun q h => hA q h) (fun r u t H1 locs1 ht hvm hp hB hz hk hS => ?_)
  rw [ht] at hB
  exact k r u hp p e s m args below meth c hC H1 locs1 la hB hS h3
theorem vc_Ni {host : String} {P : Int32 → Mem → Prop} (hM : mm_C l G y cy ny rty (mm_rm fr lo) As S (mm_Qi G P)) (hnest : (own, index, y, host) ∈ mm_nest) (hy : mm_ys y cy ny rty n) (hrm : fr + 1 ≤ R.frames ∧ 8 + (ny + 11) + lo ≤ R.locals) (hn : As.length = n) (hst : st0 = As.reverse ++ st) (hcat : (st.map fun v => v.category).sum ≤ 8) (hd : decode cc pc = .ok (.invokestatic index, 3)) (k : ∀ (r : Int32) (S1 : Mem), P r S1 → mm_V l G own cc nL rt R kc ns Xt A Qf S1 (pc + 3) ls (.int r :: st)) : mm_V l G own cc nL rt R kc ns Xt A Qf S pc ls st0 := by
  intro p e s m args below meth c hC H locs la h1 h2 h3
  obtain ⟨hx, hb, hr, hml, hown, hts, hlk, hSt, hkc, hns, hXt, hA⟩ := id hC
  subst hst
  refine va_calli (va_runSN (Ts := WW) (As := As) (rest := st) ⟨hx, hb, hml, hown, hts⟩ hM ⟨va_cnB (host := host) n hts (mm_good (ws := Cond.code y cy ny rty :: WW) (fun w hw => by
    rcases List.mem_cons.mp hw with rfl | h
    · exact hy.2.2.1
    · exact h)) rfl rfl rfl (hSt.2.2 _ hnest) (hts _ hy.2.1) hy.2.2.2 hrm, hts _ hy.1, trivial⟩ ⟨mm_blind, fun U hU hW => ⟨rfl, mm_St_warm hW hSt, by rw [hU]; exact h1⟩⟩ rfl hn h3.1 rfl (lv_room hcat) hd ⟨hkc, hns⟩) h2 (fun q _ h => hA q h) (fun q h => hA q h) (fun r u t H1 locs1 ht hvm hp hB hz hk hS => ?_)
  rw [ht] at hB
  exact k r u hp p e s m args below meth c hC H1 locs1 la hB hS h3
theorem vc_Vl {P : Int64 → Mem → Prop} (hM : mm_C l G y cy ny rty (mm_rm fr lo) (.ref (gad G j) :: As) S (mm_Ql G P)) (hlk2 : Cond.methodLink own index y ∈ WW) (hy : mm_y C y cy ny rty n) (hv : mm_rv G S j C) (hrm : fr + 1 ≤ R.frames ∧ 8 + (ny + 11) + lo ≤ R.locals) (hn : As.length = n) (hst : st0 = As.reverse ++ .ref (gad G j) :: st) (hcat : (st.map fun v => v.category).sum ≤ 8) (hd : decode cc pc = .ok (.invokevirtual index, 3)) (k : ∀ (r : Int64) (S1 : Mem), P r S1 → mm_V l G own cc nL rt R kc ns Xt A Qf S1 (pc + 3) ls (.long r :: st)) : mm_V l G own cc nL rt R kc ns Xt A Qf S pc ls st0 := by
  intro p e s m args below meth c hC H locs la h1 h2 h3
  obtain ⟨hx, hb, hr, hml, hown, hts, hlk, hSt, hkc, hns, hXt, hA⟩ := id hC
  subst hst
  obtain ⟨hj, ci, T, N, fs, hc, he⟩ := hv
  refine va_calll (va_runV (Ts := WW) (C := C) (As := As) (rest := st) ⟨hx, hb, hml, hown, hts⟩ hM (cwV n hts (mm_good (ws := wsV own index C y (Cond.code y cy ny rty :: WW)) (fun w hw => by
    rcases List.mem_append.mp hw with h | h
    · simp only [List.mem_cons, List.not_mem_nil, or_false] at h
      rcases h with rfl | rfl | rfl | rfl
      · exact hlk2
      · exact hy.1
      · exact hy.2.1
      · exact hy.2.2.1
    · rcases List.mem_cons.mp h with rfl | h
      · exact hy.2.2.2.1
      · exact h)) rfl rfl rfl hy.2.2.2.2 hrm) ⟨mm_blind, va_recv hSt.2.1 (mm_P h1) (ci := ci) (q0 := j) hc (by rw [mm_l_at G S hj, he]), fun U hU hW => ⟨rfl, mm_St_warm hW hSt, by rw [hU]; exact h1⟩⟩ rfl hn h3.1 rfl (lv_room hcat) hd ⟨hkc, hns⟩) h2 (fun q _ h => hA q h) (fun q h => hA q h) (fun r u t H1 locs1 ht hvm hp hB hz hk hS => ?_)
  rw [ht] at hB
  exact k r u hp p e s m args below meth c hC H1 locs1 la hB hS h3
theorem vc_Sl {P : Int64 → Mem → Prop} (hM : mm_C l G y cy ny rty (mm_rm fr lo) As S (mm_Ql G P)) (hlk2 : Cond.methodLink own index y ∈ WW) (hy : mm_ys y cy ny rty n) (hrm : fr + 1 ≤ R.frames ∧ 8 + (ny + 11) + lo ≤ R.locals) (hn : As.length = n) (hst : st0 = As.reverse ++ st) (hcat : (st.map fun v => v.category).sum ≤ 8) (hd : decode cc pc = .ok (.invokestatic index, 3)) (k : ∀ (r : Int64) (S1 : Mem), P r S1 → mm_V l G own cc nL rt R kc ns Xt A Qf S1 (pc + 3) ls (.long r :: st)) : mm_V l G own cc nL rt R kc ns Xt A Qf S pc ls st0 := by
  intro p e s m args below meth c hC H locs la h1 h2 h3
  obtain ⟨hx, hb, hr, hml, hown, hts, hlk, hSt, hkc, hns, hXt, hA⟩ := id hC
  subst hst
  refine va_calll (va_runS (Ts := WW) (As := As) (rest := st) ⟨hx, hb, hml, hown, hts⟩ hM (va_cwS n hts (mm_good (ws := va_wsS own index y (Cond.code y cy ny rty :: WW)) (fun w hw => by
    rcases List.mem_append.mp hw with h | h
    · simp only [List.mem_cons, List.not_mem_nil, or_false] at h
      rcases h with rfl | rfl | rfl
      · exact hlk2
      · exact hy.1
      · exact hy.2.1
    · rcases List.mem_cons.mp h with rfl | h
      · exact hy.2.2.1
      · exact h)) rfl rfl rfl hy.2.2.2 hrm) ⟨mm_blind, fun U hU hW => ⟨rfl, mm_St_warm hW hSt, by rw [hU]; exact h1⟩⟩ rfl hn h3.1 rfl (lv_room hcat) hd ⟨hkc, hns⟩) h2 (fun q _ h => hA q h) (fun q h => hA q h) (fun r u t H1 locs1 ht hvm hp hB hz hk hS => ?_)
  rw [ht] at hB
  exact k r u hp p e s m args below meth c hC H1 locs1 la hB hS h3
theorem vc_Nl {host : String} {P : Int64 → Mem → Prop} (hM : mm_C l G y cy ny rty (mm_rm fr lo) As S (mm_Ql G P)) (hnest : (own, index, y, host) ∈ mm_nest) (hy : mm_ys y cy ny rty n) (hrm : fr + 1 ≤ R.frames ∧ 8 + (ny + 11) + lo ≤ R.locals) (hn : As.length = n) (hst : st0 = As.reverse ++ st) (hcat : (st.map fun v => v.category).sum ≤ 8) (hd : decode cc pc = .ok (.invokestatic index, 3)) (k : ∀ (r : Int64) (S1 : Mem), P r S1 → mm_V l G own cc nL rt R kc ns Xt A Qf S1 (pc + 3) ls (.long r :: st)) : mm_V l G own cc nL rt R kc ns Xt A Qf S pc ls st0 := by
  intro p e s m args below meth c hC H locs la h1 h2 h3
  obtain ⟨hx, hb, hr, hml, hown, hts, hlk, hSt, hkc, hns, hXt, hA⟩ := id hC
  subst hst
  refine va_calll (va_runSN (Ts := WW) (As := As) (rest := st) ⟨hx, hb, hml, hown, hts⟩ hM ⟨va_cnB (host := host) n hts (mm_good (ws := Cond.code y cy ny rty :: WW) (fun w hw => by
    rcases List.mem_cons.mp hw with rfl | h
    · exact hy.2.2.1
    · exact h)) rfl rfl rfl (hSt.2.2 _ hnest) (hts _ hy.2.1) hy.2.2.2 hrm, hts _ hy.1, trivial⟩ ⟨mm_blind, fun U hU hW => ⟨rfl, mm_St_warm hW hSt, by rw [hU]; exact h1⟩⟩ rfl hn h3.1 rfl (lv_room hcat) hd ⟨hkc, hns⟩) h2 (fun q _ h => hA q h) (fun q h => hA q h) (fun r u t H1 locs1 ht hvm hp hB hz hk hS => ?_)
  rw [ht] at hB
  exact k r u hp p e s m args below meth c hC H1 locs1 la hB hS h3
theorem vc_Vq {P : Option Nat → Mem → Prop} (hM : mm_C l G y cy ny rty (mm_rm fr lo) (.ref (gad G j) :: As) S (mm_Qq G P)) (hlk2 : Cond.methodLink own index y ∈ WW) (hy : mm_y C y cy ny rty n) (hv : mm_rv G S j C) (hrm : fr + 1 ≤ R.frames ∧ 8 + (ny + 11) + lo ≤ R.locals) (hn : As.length = n) (hst : st0 = As.reverse ++ .ref (gad G j) :: st) (hcat : (st.map fun v => v.category).sum ≤ 8) (hd : decode cc pc = .ok (.invokevirtual index, 3)) (k : ∀ (r : Option Nat) (S1 : Mem), P r S1 → mm_V l G own cc nL rt R kc ns Xt A Qf S1 (pc + 3) ls (va_rf r :: st)) : mm_V l G own cc nL rt R kc ns Xt A Qf S pc ls st0 := by
  intro p e s m args below meth c hC H locs la h1 h2 h3
  obtain ⟨hx, hb, hr, hml, hown, hts, hlk, hSt, hkc, hns, hXt, hA⟩ := id hC
  subst hst
  obtain ⟨hj, ci, T, N, fs, hc, he⟩ := hv
  refine va_callq (va_runV (Ts := WW) (C := C) (As := As) (rest := st) ⟨hx, hb, hml, hown, hts⟩ hM (cwV n hts (mm_good (ws := wsV own index C y (Cond.code y cy ny rty :: WW)) (fun w hw => by
    rcases List.mem_append.mp hw with h | h
    · simp only [List.mem_cons, List.not_mem_nil, or_false] at h
      rcases h with rfl | rfl | rfl | rfl
      · exact hlk2
      · exact hy.1
      · exact hy.2.1
      · exact hy.2.2.1
    · rcases List.mem_cons.mp h with rfl | h
      · exact hy.2.2.2.1
      · exact h)) rfl rfl rfl hy.2.2.2.2 hrm) ⟨mm_blind, va_recv hSt.2.1 (mm_P h1) (ci := ci) (q0 := j) hc (by rw [mm_l_at G S hj, he]), fun U hU hW => ⟨rfl, mm_St_warm hW hSt, by rw [hU]; exact h1⟩⟩ rfl hn h3.1 rfl (lv_room hcat) hd ⟨hkc, hns⟩) h2 (fun q _ h => hA q h) (fun q h => hA q h) (fun r u t H1 locs1 ht hvm hp hB hz hk hS => ?_)
  rw [ht] at hB
  exact k r u hp p e s m args below meth c hC H1 locs1 la hB hS h3
theorem vc_Sq {P : Option Nat → Mem → Prop} (hM : mm_C l G y cy ny rty (mm_rm fr lo) As S (mm_Qq G P)) (hlk2 : Cond.methodLink own index y ∈ WW) (hy : mm_ys y cy ny rty n) (hrm : fr + 1 ≤ R.frames ∧ 8 + (ny + 11) + lo ≤ R.locals) (hn : As.length = n) (hst : st0 = As.reverse ++ st) (hcat : (st.map fun v => v.category).sum ≤ 8) (hd : decode cc pc = .ok (.invokestatic index, 3)) (k : ∀ (r : Option Nat) (S1 : Mem), P r S1 → mm_V l G own cc nL rt R kc ns Xt A Qf S1 (pc + 3) ls (va_rf r :: st)) : mm_V l G own cc nL rt R kc ns Xt A Qf S pc ls st0 := by
  intro p e s m args below meth c hC H locs la h1 h2 h3
  obtain ⟨hx, hb, hr, hml, hown, hts, hlk, hSt, hkc, hns, hXt, hA⟩ := id hC
  subst hst
  refine va_callq (va_runS (Ts := WW) (As := As) (rest := st) ⟨hx, hb, hml, hown, hts⟩ hM (va_cwS n hts (mm_good (ws := va_wsS own index y (Cond.code y cy ny rty :: WW)) (fun w hw => by
    rcases List.mem_append.mp hw with h | h
    · simp only [List.mem_cons, List.not_mem_nil, or_false] at h
      rcases h with rfl | rfl | rfl
      · exact hlk2
      · exact hy.1
      · exact hy.2.1
    · rcases List.mem_cons.mp h with rfl | h
      · exact hy.2.2.1
      · exact h)) rfl rfl rfl hy.2.2.2 hrm) ⟨mm_blind, fun U hU hW => ⟨rfl, mm_St_warm hW hSt, by rw [hU]; exact h1⟩⟩ rfl hn h3.1 rfl (lv_room hcat) hd ⟨hkc, hns⟩) h2 (fun q _ h => hA q h) (fun q h => hA q h) (fun r u t H1 locs1 ht hvm hp hB hz hk hS => ?_)
  rw [ht] at hB
  exact k r u hp p e s m args below meth c hC H1 locs1 la hB hS h3
theorem vc_Nq {host : String} {P : Option Nat → Mem → Prop} (hM : mm_C l G y cy ny rty (mm_rm fr lo) As S (mm_Qq G P)) (hnest : (own, index, y, host) ∈ mm_nest) (hy : mm_ys y cy ny rty n) (hrm : fr + 1 ≤ R.frames ∧ 8 + (ny + 11) + lo ≤ R.locals) (hn : As.length = n) (hst : st0 = As.reverse ++ st) (hcat : (st.map fun v => v.category).sum ≤ 8) (hd : decode cc pc = .ok (.invokestatic index, 3)) (k : ∀ (r : Option Nat) (S1 : Mem), P r S1 → mm_V l G own cc nL rt R kc ns Xt A Qf S1 (pc + 3) ls (va_rf r :: st)) : mm_V l G own cc nL rt R kc ns Xt A Qf S pc ls st0 := by
  intro p e s m args below meth c hC H locs la h1 h2 h3
  obtain ⟨hx, hb, hr, hml, hown, hts, hlk, hSt, hkc, hns, hXt, hA⟩ := id hC
  subst hst
  refine va_callq (va_runSN (Ts := WW) (As := As) (rest := st) ⟨hx, hb, hml, hown, hts⟩ hM ⟨va_cnB (host := host) n hts (mm_good (ws := Cond.code y cy ny rty :: WW) (fun w hw => by
    rcases List.mem_cons.mp hw with rfl | h
    · exact hy.2.2.1
    · exact h)) rfl rfl rfl (hSt.2.2 _ hnest) (hts _ hy.2.1) hy.2.2.2 hrm, hts _ hy.1, trivial⟩ ⟨mm_blind, fun U hU hW => ⟨rfl, mm_St_warm hW hSt, by rw [hU]; exact h1⟩⟩ rfl hn h3.1 rfl (lv_room hcat) hd ⟨hkc, hns⟩) h2 (fun q _ h => hA q h) (fun q h => hA q h) (fun r u t H1 locs1 ht hvm hp hB hz hk hS => ?_)
  rw [ht] at hB
  exact k r u hp p e s m args below meth c hC H1 locs1 la hB hS h3
theorem vc_Vv {P : Mem → Prop} (hM : mm_C l G y cy ny rty (mm_rm fr lo) (.ref (gad G j) :: As) S (mm_Qv G P)) (hlk2 : Cond.methodLink own index y ∈ WW) (hy : mm_y C y cy ny rty n) (hv : mm_rv G S j C) (hrm : fr + 1 ≤ R.frames ∧ 8 + (ny + 11) + lo ≤ R.locals) (hn : As.length = n) (hst : st0 = As.reverse ++ .ref (gad G j) :: st) (hcat : (st.map fun v => v.category).sum ≤ 8) (hd : decode cc pc = .ok (.invokevirtual index, 3)) (k : ∀ S1 : Mem, P S1 → mm_V l G own cc nL rt R kc ns Xt A Qf S1 (pc + 3) ls (st)) : mm_V l G own cc nL rt R kc ns Xt A Qf S pc ls st0 := by
  intro p e s m args below meth c hC H locs la h1 h2 h3
  obtain ⟨hx, hb, hr, hml, hown, hts, hlk, hSt, hkc, hns, hXt, hA⟩ := id hC
  subst hst
  obtain ⟨hj, ci, T, N, fs, hc, he⟩ := hv
  refine va_callv (va_runV (Ts := WW) (C := C) (As := As) (rest := st) ⟨hx, hb, hml, hown, hts⟩ hM (cwV n hts (mm_good (ws := wsV own index C y (Cond.code y cy ny rty :: WW)) (fun w hw => by
    rcases List.mem_append.mp hw with h | h
    · simp only [List.mem_cons, List.not_mem_nil, or_false] at h
      rcases h with rfl | rfl | rfl | rfl
      · exact hlk2
      · exact hy.1
      · exact hy.2.1
      · exact hy.2.2.1
    · rcases List.mem_cons.mp h with rfl | h
      · exact hy.2.2.2.1
      · exact h)) rfl rfl rfl hy.2.2.2.2 hrm) ⟨mm_blind, va_recv hSt.2.1 (mm_P h1) (ci := ci) (q0 := j) hc (by rw [mm_l_at G S hj, he]), fun U hU hW => ⟨rfl, mm_St_warm hW hSt, by rw [hU]; exact h1⟩⟩ rfl hn h3.1 rfl (lv_room hcat) hd ⟨hkc, hns⟩) h2 (fun q _ h => hA q h) (fun q h => hA q h) (fun u t H1 locs1 ht hvm hp hB hz hk hS => ?_)
  rw [ht] at hB
  exact k u hp p e s m args below meth c hC H1 locs1 la hB hS h3
theorem vc_Sv {P : Mem → Prop} (hM : mm_C l G y cy ny rty (mm_rm fr lo) As S (mm_Qv G P)) (hlk2 : Cond.methodLink own index y ∈ WW) (hy : mm_ys y cy ny rty n) (hrm : fr + 1 ≤ R.frames ∧ 8 + (ny + 11) + lo ≤ R.locals) (hn : As.length = n) (hst : st0 = As.reverse ++ st) (hcat : (st.map fun v => v.category).sum ≤ 8) (hd : decode cc pc = .ok (.invokestatic index, 3)) (k : ∀ S1 : Mem, P S1 → mm_V l G own cc nL rt R kc ns Xt A Qf S1 (pc + 3) ls (st)) : mm_V l G own cc nL rt R kc ns Xt A Qf S pc ls st0 := by
  intro p e s m args below meth c hC H locs la h1 h2 h3
  obtain ⟨hx, hb, hr, hml, hown, hts, hlk, hSt, hkc, hns, hXt, hA⟩ := id hC
  subst hst
  refine va_callv (va_runS (Ts := WW) (As := As) (rest := st) ⟨hx, hb, hml, hown, hts⟩ hM (va_cwS n hts (mm_good (ws := va_wsS own index y (Cond.code y cy ny rty :: WW)) (fun w hw => by
    rcases List.mem_append.mp hw with h | h
    · simp only [List.mem_cons, List.not_mem_nil, or_false] at h
      rcases h with rfl | rfl | rfl
      · exact hlk2
      · exact hy.1
      · exact hy.2.1
    · rcases List.mem_cons.mp h with rfl | h
      · exact hy.2.2.1
      · exact h)) rfl rfl rfl hy.2.2.2 hrm) ⟨mm_blind, fun U hU hW => ⟨rfl, mm_St_warm hW hSt, by rw [hU]; exact h1⟩⟩ rfl hn h3.1 rfl (lv_room hcat) hd ⟨hkc, hns⟩) h2 (fun q _ h => hA q h) (fun q h => hA q h) (fun u t H1 locs1 ht hvm hp hB hz hk hS => ?_)
  rw [ht] at hB
  exact k u hp p e s m args below meth c hC H1 locs1 la hB hS h3
theorem vc_Nv {host : String} {P : Mem → Prop} (hM : mm_C l G y cy ny rty (mm_rm fr lo) As S (mm_Qv G P)) (hnest : (own, index, y, host) ∈ mm_nest) (hy : mm_ys y cy ny rty n) (hrm : fr + 1 ≤ R.frames ∧ 8 + (ny + 11) + lo ≤ R.locals) (hn : As.length = n) (hst : st0 = As.reverse ++ st) (hcat : (st.map fun v => v.category).sum ≤ 8) (hd : decode cc pc = .ok (.invokestatic index, 3)) (k : ∀ S1 : Mem, P S1 → mm_V l G own cc nL rt R kc ns Xt A Qf S1 (pc + 3) ls (st)) : mm_V l G own cc nL rt R kc ns Xt A Qf S pc ls st0 := by
  intro p e s m args below meth c hC H locs la h1 h2 h3
  obtain ⟨hx, hb, hr, hml, hown, hts, hlk, hSt, hkc, hns, hXt, hA⟩ := id hC
  subst hst
  refine va_callv (va_runSN (Ts := WW) (As := As) (rest := st) ⟨hx, hb, hml, hown, hts⟩ hM ⟨va_cnB (host := host) n hts (mm_good (ws := Cond.code y cy ny rty :: WW) (fun w hw => by
    rcases List.mem_cons.mp hw with rfl | h
    · exact hy.2.2.1
    · exact h)) rfl rfl rfl (hSt.2.2 _ hnest) (hts _ hy.2.1) hy.2.2.2 hrm, hts _ hy.1, trivial⟩ ⟨mm_blind, fun U hU hW => ⟨rfl, mm_St_warm hW hSt, by rw [hU]; exact h1⟩⟩ rfl hn h3.1 rfl (lv_room hcat) hd ⟨hkc, hns⟩) h2 (fun q _ h => hA q h) (fun q h => hA q h) (fun u t H1 locs1 ht hvm hp hB hz hk hS => ?_)
  rw [ht] at hB
  exact k u hp p e s m args below meth c hC H1 locs1 la hB hS h3
end VC
section VT
variable {l : Launch} {G : gG} {own : String} {cc : ByteArray} {nL : Nat} {R : Room} {Xt : State → Prop} {S : Mem} {pc : Nat} {ls ls' : List (Nat × Value)} {st : List Value}
theorem vr_i {P : Int32 → Mem → Prop} {v : Int32} (hd : decode cc pc = .ok (.ireturn, 1)) (h : P v S) : mm_V l G own cc nL (some .int) R 0 0 Xt (fun _ => mm_F G) (mm_Qf G (mm_Qi G P)) S pc ls [.int v] := by
  intro p e s m args below meth c hC H locs la h1 h2 h3
  obtain ⟨hx, hb, hr, hml, hown, hts, hlocks, hSt, hkc, hns, hXt, hA⟩ := id hC
  exact W.iret hx hb hr (fun t ht hW => ⟨⟨v, S, rfl, h, by show mm_H G S t.heap; rw [ht]; exact h1⟩, va_S.F h2 ht⟩) h2.2.2 hd hlocks
theorem vr_z {P : Int32 → Mem → Prop} {v : Int32} (hd : decode cc pc = .ok (.ireturn, 1)) (hv : v = 0 ∨ v = 1) (h : P v S) : mm_V l G own cc nL (some .boolean) R 0 0 Xt (fun _ => mm_F G) (mm_Qf G (mm_Qi G P)) S pc ls [.int v] := by
  intro p e s m args below meth c hC H locs la h1 h2 h3
  obtain ⟨hx, hb, hr, hml, hown, hts, hlocks, hSt, hkc, hns, hXt, hA⟩ := id hC
  exact W.zret hx hb hr (mm_ok_b v hv).1 (fun t ht hW => ⟨⟨v, S, rfl, h, by show mm_H G S t.heap; rw [ht]; exact h1⟩, va_S.F h2 ht⟩) h2.2.2 hd hlocks
theorem vr_l {P : Int64 → Mem → Prop} {v : Int64} (hd : decode cc pc = .ok (.lreturn, 1)) (h : P v S) : mm_V l G own cc nL (some .long) R 0 0 Xt (fun _ => mm_F G) (mm_Qf G (mm_Ql G P)) S pc ls [.long v] := by
  intro p e s m args below meth c hC H locs la h1 h2 h3
  obtain ⟨hx, hb, hr, hml, hown, hts, hlocks, hSt, hkc, hns, hXt, hA⟩ := id hC
  exact W.lret hx hb hr (fun t ht hW => ⟨⟨v, S, rfl, h, by show mm_H G S t.heap; rw [ht]; exact h1⟩, va_S.F h2 ht⟩) h2.2.2 hd hlocks
theorem vr_v {P : Mem → Prop} (hd : decode cc pc = .ok (.return_, 1)) (h : P S) : mm_V l G own cc nL none R 0 0 Xt (fun _ => mm_F G) (mm_Qf G (mm_Qv G P)) S pc ls [] := by
  intro p e s m args below meth c hC H locs la h1 h2 h3
  obtain ⟨hx, hb, hr, hml, hown, hts, hlocks, hSt, hkc, hns, hXt, hA⟩ := id hC
  exact W.vret hx hb hr (fun t ht hW => ⟨⟨S, rfl, h, by show mm_H G S t.heap; rw [ht]; exact h1⟩, va_S.F h2 ht⟩) h2.2.2 hd hlocks
theorem vr_q {C : String} {P : Option Nat → Mem → Prop} {a : Nat} (hd : decode cc pc = .ok (.areturn, 1)) (h : P (some a) S) : mm_V l G own cc nL (some (.object C)) R 0 0 Xt (fun _ => mm_F G) (mm_Qf G (mm_Qq G P)) S pc ls [.ref a] := by
  intro p e s m args below meth c hC H locs la h1 h2 h3
  obtain ⟨hx, hb, hr, hml, hown, hts, hlocks, hSt, hkc, hns, hXt, hA⟩ := id hC
  exact W.aret hx hb hr (Or.inl ⟨_, rfl⟩) (Or.inr ⟨_, rfl⟩) (fun t ht hW => ⟨⟨some a, S, rfl, h, by show mm_H G S t.heap; rw [ht]; exact h1⟩, va_S.F h2 ht⟩) h2.2.2 hd hlocks
theorem vr_qN {C : String} {P : Option Nat → Mem → Prop} (hd : decode cc pc = .ok (.areturn, 1)) (h : P none S) : mm_V l G own cc nL (some (.object C)) R 0 0 Xt (fun _ => mm_F G) (mm_Qf G (mm_Qq G P)) S pc ls [.null] := by
  intro p e s m args below meth c hC H locs la h1 h2 h3
  obtain ⟨hx, hb, hr, hml, hown, hts, hlocks, hSt, hkc, hns, hXt, hA⟩ := id hC
  exact W.aret hx hb hr (Or.inl ⟨_, rfl⟩) (Or.inl rfl) (fun t ht hW => ⟨⟨none, S, rfl, h, by show mm_H G S t.heap; rw [ht]; exact h1⟩, va_S.F h2 ht⟩) h2.2.2 hd hlocks
end VT
