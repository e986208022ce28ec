/-! CONSTRUCTORS: worlds that grow -/
def ctys (cI : Nat → ClassId) : List (ClassId × FieldType) := [(cI 0, .int), (cI 1, .boolean), (cI 2, .char), (cI 3, .object RX3), (cI 4, .object RX0)]
def ck (D : va_G) (cI : Nat → ClassId) (U : State) : Prop := va_K D vwCl (ctys cI) U ∧ mm_N U ∧ va_AO RX3 U ∧ va_AO RX0 U
theorem ck_warm {D : va_G} {cI : Nat → ClassId} {s U : State} (hW : s.WarmedH U.vm) (h : ck D cI s) : ck D cI U := ⟨va_K.moved hW.alike h.1, mm_N_warm hW h.2.1, h.2.2.1.moved hW.alike, h.2.2.2.moved hW.alike⟩
theorem ck_same {D : va_G} {cI : Nat → ClassId} {u U : State} (hvm : u.vm = U.vm) (h : ck D cI u) : ck D cI U := ⟨va_K.moved (by rw [hvm]; exact Vm.Alike.refl _) h.1, mm_N_same hvm h.2.1, h.2.2.1.moved (by rw [hvm]; exact Vm.Alike.refl _), h.2.2.2.moved (by rw [hvm]; exact Vm.Alike.refl _)⟩
def cv_X (D : va_G) (cI : Nat → ClassId) (own : String) (cc : ByteArray) (nL : Nat) (rt : Option FieldType) (Xt : State → Method → Prop) (A : State → Nat → Prop) (p : Program) (s : State) (m : MethodId) (args : Array Value) (meth : Method) (c : Code) : Prop :=
  p.tables.exec = Jvm.exec ∧ c.code = cc ∧ meth.sig.returnType = rt ∧ c.maxLocals = nL ∧ s.vm.findClass own = some m.cls ∧ (∀ w ∈ WW, w.before args s = true) ∧ meth.locks = false ∧ ck D cI s ∧ (∀ q, s.heap.size ≤ q → A s q) ∧ Xt s meth
def cv_V (l : Launch) (D : va_G) (cI : Nat → ClassId) (own : String) (cc : ByteArray) (nL : Nat) (rt : Option FieldType) (R : Room) (Xt : State → Method → Prop) (A : State → Nat → Prop) (Qf : List Frame → Array Value → State → State → Prop) (ws : va_W) (kc ns pc : Nat) (ls : List (Nat × Value)) (st : List Value) : Prop :=
  ∀ (p : Program) (e : Env) (s : State) (m : MethodId) (args : Array Value) (below : List Frame) (meth : Method) (c : Code), cv_X D cI own cc nL rt Xt A p s m args meth c → ∀ (H : Heap) (locs : List Loc) (la : Array Slot), (va_P D vwCl ws H ∧ va_D (A s) ws) → va_S (A s) s.heap H locs → lv_has la nL ls → W p l e R s m args below meth c H locs kc ns (Qf below args s) (F0 m pc la st)
/-- a constructor's contract: from the new object's cell to the cells w1 u -/
def cv_P (D : va_G) (cI : Nat → ClassId) (q sz ci : Nat) (fs : List Value) : Array Value → State → Prop := va_Pc [.ref q] (fun U => U.heap.size = sz ∧ ck D cI U ∧ va_P D vwCl [(q, .inr (ci, fs))] U.heap)
def cv_Q (D : va_G) (q sz ci : Nat) (fs : List Value) (w1 : (Nat → Nat) → va_W) : Array Value → State → Outcome → State → Prop := va_Qv (fun (u : Nat → Nat) => u 0 = q) (fun u t => va_P D vwCl (w1 u) t.heap ∧ va_D (va_A [(q, .inr (ci, fs))] sz) (w1 u)) (va_A [(q, .inr (ci, fs))] sz)
def cv_C (l : Launch) (D : va_G) (cI : Nat → ClassId) (y : MethodName) (cy : ByteArray) (ny : Nat) (rm : Room) (ci : Nat) (fs : List Value) (w1 : (Nat → Nat) → va_W) : Prop := ∀ q sz, Met l y (Cond.code y cy ny none :: WW) rm (cv_P D cI q sz ci fs) (cv_Q D q sz ci fs w1) rm.cells rm.slots (va_A [(q, .inr (ci, fs))] sz)
theorem cv_ofV {l : Launch} {D : va_G} {cI : Nat → ClassId} {y : MethodName} {cy : ByteArray} {ny : Nat} {rm : Room} {ci : Nat} {fs : List Value} {w1 : (Nat → Nat) → va_W} {own : String} (hy : plainName y.cls = true) (hown : y.cls = own) (hyn : y.name = "<init>") (hl : 1 ≤ ny)
    (k : ∀ q sz, cv_V l D cI own cy ny none rm (fun s meth => meth.name = "<init>" ∧ s.heap.size = sz) (fun s => va_A [(q, .inr (ci, fs))] s.heap.size) (fun below args s => MQ below (cv_Q D q sz ci fs w1) args s rm.cells rm.slots (va_A [(q, .inr (ci, fs))] sz)) [(q, .inr (ci, fs))] 0 0 0 [(0, .ref q)] []) : cv_C l D cI y cy ny rm ci fs w1 := by
  intro q sz
  refine Met.ofW (cc := cy) (maxL := ny) (ret := none) hy rfl ?_
  intro p e s m args below meth c s₁ B hml hv
  obtain ⟨rfl, hsz, hck, hP⟩ := hv
  rw [lg_entry_eq]
  subst hown
  have hin : meth.name = "<init>" := (name_of_methodNamed B.named B.method).1.trans hyn
  exact k q sz p e s m [Value.ref q].toArray below meth c ⟨B.exec, B.bytes, B.returns, hml, findClass_of_methodNamed B.named, fun w hw => atoms_spec (ws := Cond.code y cy ny none :: WW) B.pre w (List.mem_cons_of_mem _ hw), B.notSynchronized, hck, fun q h => Or.inr h, hin, hsz⟩ s.heap [] _ ⟨hP, ⟨fun i j a b h1 h2 _ => by
    have hi : i < 1 := (List.getElem?_eq_some_iff.mp h1).1
    have hj : j < 1 := (List.getElem?_eq_some_iff.mp h2).1
    omega, fun k q hk => va_A.in hk⟩⟩ va_S.rf (lv_entry [.ref q] (show (lg_sl [Value.ref q]).length ≤ ny from hl))
section CV
variable {l : Launch} {D : va_G} {cI : Nat → ClassId} {own : String} {cc : ByteArray} {nL : Nat} {rt : Option FieldType} {R : Room} {kc ns : Nat} {Xt : State → Method → Prop} {A : State → Nat → Prop} {Qf : List Frame → Array Value → State → State → Prop} {ws : va_W} {pc : Nat} {ls ls' : List (Nat × Value)} {st : List Value}
theorem cv_topi {x : Int32} (k : ∀ y : Int32, y = x → cv_V l D cI own cc nL rt R Xt A Qf ws kc ns pc ls (.int y :: st)) : cv_V l D cI own cc nL rt R Xt A Qf ws kc ns pc ls (.int x :: st) := k x rfl
theorem cv_iconst {n : Int} {v : Int32} (hd : decode cc pc = .ok (.iconst n, 1)) (hv : Int32.ofInt n = v) (k : cv_V l D cI own cc nL rt R Xt A Qf ws kc ns (pc + 1) ls (.int v :: st)) : cv_V l D cI own cc nL rt R Xt A Qf ws kc ns pc ls (st) := by
  intro p e s m args below meth c hC H locs la h1 h2 h3
  exact lv_iconst hC.1 hC.2.1 hd hv (k p e s m args below meth c hC H locs la h1 h2 h3)
theorem cv_bipush {n : Int} {v : Int32} (hd : decode cc pc = .ok (.bipush n, 2)) (hv : (Int8.ofInt n).toInt32 = v) (k : cv_V l D cI own cc nL rt R Xt A Qf ws kc ns (pc + 2) ls (.int v :: st)) : cv_V l D cI own cc nL rt R Xt A Qf ws kc ns pc ls (st) := by
  intro p e s m args below meth c hC H locs la h1 h2 h3
  exact lv_bipush hC.1 hC.2.1 hd hv (k p e s m args below meth c hC H locs la h1 h2 h3)
theorem cv_sipush {n : Int} {v : Int32} (hd : decode cc pc = .ok (.sipush n, 3)) (hv : (Int16.ofInt n).toInt32 = v) (k : cv_V l D cI own cc nL rt R Xt A Qf ws kc ns (pc + 3) ls (.int v :: st)) : cv_V l D cI own cc nL rt R Xt A Qf ws kc ns pc ls (st) := by
  intro p e s m args below meth c hC H locs la h1 h2 h3
  exact lv_sipush hC.1 hC.2.1 hd hv (k p e s m args below meth c hC H locs la h1 h2 h3)
theorem cv_iload_n {kf : Fin 4} {i : Nat} {x : Int32} (q : Nat) (hd : decode cc pc = .ok (.iload_n kf, 1)) (hi : (kf : Nat) = i) (hl : ls[q]? = some (i, .int x)) (k : cv_V l D cI own cc nL rt R Xt A Qf ws kc ns (pc + 1) ls (.int x :: st)) : cv_V l D cI own cc nL rt R Xt A Qf ws kc ns pc ls (st) := by
  intro p e s m args below meth c hC H locs la h1 h2 h3
  exact lv_iload_n hC.1 hC.2.1 hd hi (lv_at h3 q hl) (k p e s m args below meth c hC H locs la h1 h2 h3)
theorem cv_aload_n {kf : Fin 4} {i : Nat} {x : Nat} (q : Nat) (hd : decode cc pc = .ok (.aload_n kf, 1)) (hi : (kf : Nat) = i) (hl : ls[q]? = some (i, .ref x)) (k : cv_V l D cI own cc nL rt R Xt A Qf ws kc ns (pc + 1) ls (.ref x :: st)) : cv_V l D cI own cc nL rt R Xt A Qf ws kc ns pc ls (st) := by
  intro p e s m args below meth c hC H locs la h1 h2 h3
  exact lv_aload_n hC.1 hC.2.1 hd hi (lv_at h3 q hl) (k p e s m args below meth c hC H locs la h1 h2 h3)
theorem cv_istore_n {kf : Fin 4} {i : Nat} {x : Int32} (hd : decode cc pc = .ok (.istore_n kf, 1)) (hi : (kf : Nat) = i) (hn : i < nL) (hl : (i, Value.int x) :: ls.filter (fun q => !(q.1 == i) && !(q.1 + 1 == i && q.2.category == 2)) = ls') (k : cv_V l D cI own cc nL rt R Xt A Qf ws kc ns (pc + 1) ls' st) : cv_V l D cI own cc nL rt R Xt A Qf ws kc ns pc ls (Value.int x :: st) := by
  intro p e s m args below meth c hC H locs la h1 h2 h3
  exact lv_istore_n hC.1 hC.2.1 hd hi h3 hn hl (fun la' h3' => k p e s m args below meth c hC H locs la' h1 h2 h3')
theorem cv_astore_n {kf : Fin 4} {i : Nat} {x : Nat} (hd : decode cc pc = .ok (.astore_n kf, 1)) (hi : (kf : Nat) = i) (hn : i < nL) (hl : (i, Value.ref x) :: ls.filter (fun q => !(q.1 == i) && !(q.1 + 1 == i && q.2.category == 2)) = ls') (k : cv_V l D cI own cc nL rt R Xt A Qf ws kc ns (pc + 1) ls' st) : cv_V l D cI own cc nL rt R Xt A Qf ws kc ns pc ls (Value.ref x :: st) := by
  intro p e s m args below meth c hC H locs la h1 h2 h3
  exact lv_astore_n hC.1 hC.2.1 hd hi h3 hn hl (fun la' h3' => k p e s m args below meth c hC H locs la' h1 h2 h3')
theorem cv_iinc {i q : Nat} {n : Int} {x v : Int32} (hd : decode cc pc = .ok (.iinc i n, 3)) (hq : ls[q]? = some (i, .int x)) (hv : x + Int32.ofInt n = v) (hn : i < nL) (hl : (i, Value.int v) :: ls.filter (fun q => !(q.1 == i) && !(q.1 + 1 == i && q.2.category == 2)) = ls') (k : cv_V l D cI own cc nL rt R Xt A Qf ws kc ns (pc + 3) ls' st) : cv_V l D cI own cc nL rt R Xt A Qf ws kc ns pc ls st := by
  intro p e s m args below meth c hC H locs la h1 h2 h3
  exact lv_iinc hC.1 hC.2.1 hd h3 hq hv hn hl (fun la' h3' => k p e s m args below meth c hC H locs la' h1 h2 h3')
theorem cv_goto {off : Int} {tgt : Nat} (hd : decode cc pc = .ok (.goto off, 3)) (ht : (pc : Int) + off = (tgt : Int)) (k : cv_V l D cI own cc nL rt R Xt A Qf ws kc ns tgt ls st) : cv_V l D cI own cc nL rt R Xt A Qf ws kc ns pc ls st := by
  intro p e s m args below meth c hC H locs la h1 h2 h3
  exact lv_goto hC.1 hC.2.1 hd ht (k p e s m args below meth c hC H locs la h1 h2 h3)
theorem cv_icmp_ge {x y : Int32} {off : Int} {tgt : Nat} (hd : decode cc pc = .ok (.if_icmp .ge off, 3)) (ht : (pc : Int) + off = (tgt : Int)) (kt : y ≤ x → cv_V l D cI own cc nL rt R Xt A Qf ws kc ns tgt ls st) (kf : ¬ y ≤ x → cv_V l D cI own cc nL rt R Xt A Qf ws kc ns (pc + 3) ls st) : cv_V l D cI own cc nL rt R Xt A Qf ws kc ns pc ls (.int y :: .int x :: st) := by
  intro p e s m args below meth c hC H locs la h1 h2 h3
  exact lv_icmp_ge hC.1 hC.2.1 hd ht (fun q => kt q p e s m args below meth c hC H locs la h1 h2 h3) (fun q => kf q p e s m args below meth c hC H locs la h1 h2 h3)
theorem cv_icmp_gt {x y : Int32} {off : Int} {tgt : Nat} (hd : decode cc pc = .ok (.if_icmp .gt off, 3)) (ht : (pc : Int) + off = (tgt : Int)) (kt : y < x → cv_V l D cI own cc nL rt R Xt A Qf ws kc ns tgt ls st) (kf : ¬ y < x → cv_V l D cI own cc nL rt R Xt A Qf ws kc ns (pc + 3) ls st) : cv_V l D cI own cc nL rt R Xt A Qf ws kc ns pc ls (.int y :: .int x :: st) := by
  intro p e s m args below meth c hC H locs la h1 h2 h3
  exact lv_icmp_gt hC.1 hC.2.1 hd ht (fun q => kt q p e s m args below meth c hC H locs la h1 h2 h3) (fun q => kf q p e s m args below meth c hC H locs la h1 h2 h3)
theorem cv_dup {va : Value} (hd : decode cc pc = .ok (.dup, 1)) (hva : va.category = 1) (k : cv_V l D cI own cc nL rt R Xt A Qf ws kc ns (pc + 1) ls (va :: va :: st)) : cv_V l D cI own cc nL rt R Xt A Qf ws kc ns pc ls (va :: st) := by
  intro p e s m args below meth c hC H locs la h1 h2 h3
  exact lv_dup hC.1 hC.2.1 hd hva (k p e s m args below meth c hC H locs la h1 h2 h3)
theorem cv_sub (ks : List Nat) (hl : lv_pick ls ks = ls') (k : cv_V l D cI own cc nL rt R Xt A Qf ws kc ns pc ls' st) : cv_V l D cI own cc nL rt R Xt A Qf ws kc ns pc ls st := by
  intro p e s m args below meth c hC H locs la h1 h2 h3
  exact k p e s m args below meth c hC H locs la h1 h2 (lv_sub h3 ks hl)
theorem cv_icmp_eq {x y : Int32} {off : Int} {tgt : Nat} (hd : decode cc pc = .ok (.if_icmp .eq off, 3)) (ht : (pc : Int) + off = (tgt : Int)) (kt : x = y → cv_V l D cI own cc nL rt R Xt A Qf ws kc ns tgt ls st) (kf : ¬ x = y → cv_V l D cI own cc nL rt R Xt A Qf ws kc ns (pc + 3) ls st) : cv_V l D cI own cc nL rt R Xt A Qf ws kc ns pc ls (.int y :: .int x :: st) := by
  intro p e s m args below meth c hC H locs la h1 h2 h3
  exact lv_icmp_eq hC.1 hC.2.1 hd ht (fun q => kt q p e s m args below meth c hC H locs la h1 h2 h3) (fun q => kf q p e s m args below meth c hC H locs la h1 h2 h3)
theorem RA_inj {U : State} {a b : ClassId} {ty : FieldType} (h1 : va_RA U a ty) (h2 : va_RA U b ty) : a = b := by
  cases ty with
  | object C =>
    obtain ⟨_, _, _, _, _, h1⟩ := h1
    obtain ⟨_, _, _, _, _, h2⟩ := h2
    exact Option.some.inj (h1.symm.trans h2)
  | _ => exact Option.some.inj (Eq.trans (Eq.symm h1) h2)
theorem cv_ws {ws' : va_W} (h : ws = ws') (k : cv_V l D cI own cc nL rt R Xt A Qf ws' kc ns pc ls st) : cv_V l D cI own cc nL rt R Xt A Qf ws kc ns pc ls st := h ▸ k
theorem cv_n {kc' ns' : Nat} (h1 : kc = kc') (h2 : ns = ns') (k : cv_V l D cI own cc nL rt R Xt A Qf ws kc' ns' pc ls st) : cv_V l D cI own cc nL rt R Xt A Qf ws kc ns pc ls st := h1 ▸ h2 ▸ k
theorem cv_newa {atype : ArrayType} {ty : FieldType} {ti N : Nat} {n : Int32} (harr : Cond.arrayClass (newarray.typeOf atype) ∈ WW) (hty : newarray.typeOf atype = ty) (ht : (ctys cI)[ti]? = some (cI ti, ty)) (hdv : defaultValue ty = .int 0) (hn : ¬ n < 0) (hN : n.toNatClampNeg = N) (hbytes : N * componentBytes ty ≤ 536870912) (hcells : kc + 1 ≤ R.cells) (hslots : ns + N ≤ R.slots) (hd : decode cc pc = .ok (.newarray atype, 2)) (k : ∀ q, cv_V l D cI own cc nL rt R Xt A Qf (ws ++ [(q, .inl (cI ti, N, .inl (fun _ => 0)))]) (kc + 1) (ns + N) (pc + 2) ls (.ref q :: st)) : cv_V l D cI own cc nL rt R Xt A Qf ws kc ns pc ls (.int n :: st) := by
  intro p e s m args below meth c hC H locs la h1 h2 h3
  obtain ⟨hx, hb, hr, hml, hown, hts, hlk, hck, hA, hXt⟩ := id hC
  refine va_newa (a0 := (N, .inl (fun _ => 0))) hx hb (hts _ harr) hty hck.1 h1.1 h1.2 h2 hA (fun cA => by rw [hdv]; rfl) hn hN hbytes hcells hslots hd (fun q cA H1 hK hP hD hS => ?_)
  have hc : cA = cI ti := by
    have e1 := (hK.2 (ctys cI).length (cA, ty) (by rw [List.getElem?_append_right (Nat.le_refl _), Nat.sub_self]; rfl)).2
    exact RA_inj e1 (hck.1.2 ti _ ht).2
  subst hc
  exact k q p e s m args below meth c hC H1 locs la ⟨hP, hD⟩ hS h3
theorem cv_newq {C : String} {index ti N : Nat} {n : Int32} (hl : Cond.classLink own index C ∈ WW) (hao : ∀ U, ck D cI U → va_AO C U) (ht : (ctys cI)[ti]? = some (cI ti, .object C)) (hn : ¬ n < 0) (hN : n.toNatClampNeg = N) (hbytes : N * 4 ≤ 536870912) (hcells : kc + 1 ≤ R.cells) (hslots : ns + N ≤ R.slots) (hd : decode cc pc = .ok (.anewarray index, 3)) (k : ∀ q, cv_V l D cI own cc nL rt R Xt A Qf (ws ++ [(q, .inl (cI ti, N, .inr (.inr (.inr (.inr (fun _ => none))))))]) (kc + 1) (ns + N) (pc + 3) ls (.ref q :: st)) : cv_V l D cI own cc nL rt R Xt A Qf ws kc ns pc ls (.int n :: st) := by
  intro p e s m args below meth c hC H locs la h1 h2 h3
  obtain ⟨hx, hb, hr, hml, hown, hts, hlk, hck, hA, hXt⟩ := id hC
  refine va_newq hx hb hown (hts _ hl) (hao s hck) hck.1 h1.1 h1.2 h2 hA hn hN hbytes hcells hslots hd (fun q cA H1 hK hP hD hS => ?_)
  have hc : cA = cI ti := by
    have e1 := (hK.2 (ctys cI).length (cA, .object C) (by rw [List.getElem?_append_right (Nat.le_refl _), Nat.sub_self]; rfl)).2
    exact RA_inj e1 (hck.1.2 ti _ ht).2
  subst hc
  exact k q p e s m args below meth c hC H1 locs la ⟨hP, hD⟩ hS h3
theorem cv_new {C : String} {T : u_T} {N ci index : Nat} {fs : List Value} (hW : ∀ w ∈ u_ws C T N, w ∈ WW) (ty : Nat → FieldType) (hty : ∀ k, k < N → parseFieldDescriptor (T k).2.2.1 = some (ty k)) (hl : Cond.classLink own index C ∈ WW) (hi : Cond.instantiable C N ∈ WW) (hini : Cond.initialized C ∈ WW) (hc : vwCl[ci]? = some (C, T, N)) (hfs : ∀ j, j < N → defaultValue (ty j) = vp_V fs j) (hcells : kc + 1 ≤ R.cells) (hslots : ns + N ≤ R.slots) (hd : decode cc pc = .ok (.new index, 3)) (k : ∀ q, cv_V l D cI own cc nL rt R Xt A Qf (ws ++ [(q, .inr (ci, fs))]) (kc + 1) (ns + N) (pc + 3) ls (.ref q :: st)) : cv_V l D cI own cc nL rt R Xt A Qf ws kc ns pc ls st := by
  intro p e s m args below meth c hC H locs la h1 h2 h3
  obtain ⟨hx, hb, hr, hml, hown, hts, hlk, hck, hA, hXt⟩ := id hC
  exact va_new (Ts := WW) hx hb hts hW ty hty hown (hts _ hl) (hts _ hi) (hts _ hini) hck.1 h1.1 h1.2 h2 hA hc hfs hcells hslots hd (fun q H1 hP hD hS => k q p e s m args below meth c hC H1 locs la ⟨hP, hD⟩ hS h3)
theorem cv_get {a q0 ci f : Nat} {C : String} {T : u_T} {N : Nat} {fs : List Value} {v : Value} {index : Nat} (hW : ∀ w ∈ u_ws C T N, w ∈ WW) (hc : vwCl[ci]? = some (C, T, N)) (hf : f < N) (he : ws[q0]? = some (a, .inr (ci, fs))) (hv : fs[f]? = some v) (hl : Cond.fieldLink own index (T f).1 (T f).2.1 (T f).2.2.1 ∈ WW) (hd : decode cc pc = .ok (.getfield index, 3)) (k : cv_V l D cI own cc nL rt R Xt A Qf ws kc ns (pc + 3) ls (v :: st)) : cv_V l D cI own cc nL rt R Xt A Qf ws kc ns pc ls (.ref a :: st) := by
  intro p e s m args below meth c hC H locs la h1 h2 h3
  obtain ⟨hx, hb, hr, hml, hown, hts, hlk, hck, hA, hXt⟩ := id hC
  exact va_get (Ts := WW) hx hb hts hW hown hck.1 h1.1 q0 he hc f hf (hts _ hl) (fun _ h => h) hv hd (k p e s m args below meth c hC H locs la h1 h2 h3)
theorem cv_put {a q0 ci f : Nat} {C : String} {T : u_T} {N : Nat} {fs : List Value} {v : Value} {index : Nat} {ty : FieldType} (hW : ∀ w ∈ u_ws C T N, w ∈ WW) (ty0 : Nat → FieldType) (hty0 : ∀ k, k < N → parseFieldDescriptor (T k).2.2.1 = some (ty0 k)) (hnm : ∀ a, a < N → ∀ b, b < N → a ≠ b → (T a).2.1 ≠ (T b).2.1) (hc : vwCl[ci]? = some (C, T, N)) (hf : f < N) (he : ws[q0]? = some (a, .inr (ci, fs))) (hfin : (T f).2.2.2 = false) (hpt : parseFieldDescriptor (T f).2.2.1 = some ty) (hnr : narrow ty v = v) (hft : fits ty v = true) (hlen : f < fs.length) (hl : Cond.fieldLink own index (T f).1 (T f).2.1 (T f).2.2.1 ∈ WW) (hd : decode cc pc = .ok (.putfield index, 3)) (k : cv_V l D cI own cc nL rt R Xt A Qf (ws.set q0 (a, .inr (ci, fs.set f v))) kc ns (pc + 3) ls st) : cv_V l D cI own cc nL rt R Xt A Qf ws kc ns pc ls (v :: .ref a :: st) := by
  intro p e s m args below meth c hC H locs la h1 h2 h3
  obtain ⟨hx, hb, hr, hml, hown, hts, hlk, hck, hA, hXt⟩ := id hC
  exact va_put (Ts := WW) hx hb hts hW ty0 hty0 hnm hown hck.1 h1.1 h1.2 h2 q0 he hc f hf (hts _ hl) (fun _ h => h) hfin hpt hnr hft hlen hd (fun H1 locs1 hP hD hS => k p e s m args below meth c hC H1 locs1 la ⟨hP, hD⟩ hS h3)
theorem cv_putF {a q0 ci f sz : Nat} {C : String} {T : u_T} {N : Nat} {fs : List Value} {v : Value} {index : Nat} {ty : FieldType} (hW : ∀ w ∈ u_ws C T N, w ∈ WW) (ty0 : Nat → FieldType) (hty0 : ∀ k, k < N → parseFieldDescriptor (T k).2.2.1 = some (ty0 k)) (hnm : ∀ a, a < N → ∀ b, b < N → a ≠ b → (T a).2.1 ≠ (T b).2.1) (hc : vwCl[ci]? = some (C, T, N)) (hf : f < N) (he : ws[q0]? = some (a, .inr (ci, fs))) (hfin : (T f).2.2.2 = true) (hdecl : (T f).1 = own) (hpt : parseFieldDescriptor (T f).2.2.1 = some ty) (hnr : narrow ty v = v) (hft : fits ty v = true) (hlen : f < fs.length) (hl : Cond.fieldLink own index (T f).1 (T f).2.1 (T f).2.2.1 ∈ WW) (hd : decode cc pc = .ok (.putfield index, 3)) (k : cv_V l D cI own cc nL rt R (fun s meth => meth.name = "<init>" ∧ s.heap.size = sz) A Qf (ws.set q0 (a, .inr (ci, fs.set f v))) kc ns (pc + 3) ls st) : cv_V l D cI own cc nL rt R (fun s meth => meth.name = "<init>" ∧ s.heap.size = sz) A Qf ws kc ns pc ls (v :: .ref a :: st) := by
  intro p e s m args below meth c hC H locs la h1 h2 h3
  obtain ⟨hx, hb, hr, hml, hown, hts, hlk, hck, hA, hXt⟩ := id hC
  exact va_putF (Ts := WW) hx hb hts hW ty0 hty0 hnm hown hck.1 h1.1 h1.2 h2 q0 he hc f hf (hts _ hl) (fun _ h => h) hfin hXt.1 hdecl hpt hnr hft hlen hd (fun H1 locs1 hP hD hS => k p e s m args below meth c hC H1 locs1 la ⟨hP, hD⟩ hS h3)
theorem cv_ist {a q0 n : Nat} {f : Nat → Int32} {i x : Int32} (ha : ws[q0]? = some (a, .inl (cI 0, n, .inl f))) (hin : vp_in i n) (hd : decode cc pc = .ok (.iastore, 1)) (k : cv_V l D cI own cc nL rt R Xt A Qf (ws.set q0 (a, .inl (cI 0, n, .inl (upd f i.toNatClampNeg x)))) kc ns (pc + 1) ls st) : cv_V l D cI own cc nL rt R Xt A Qf ws kc ns pc ls (.int x :: .int i :: .ref a :: st) := by
  intro p e s m args below meth c hC H locs la h1 h2 h3
  obtain ⟨hx, hb, hr, hml, hown, hts, hlk, hck, hA, hXt⟩ := id hC
  exact va_iast hx hb hck.1 h1.1 h1.2 h2 q0 0 ha rfl hin hd (fun H1 locs1 hP hD hS => k p e s m args below meth c hC H1 locs1 la ⟨hP, hD⟩ hS h3)
theorem cv_qst {a q0 ti qk ci n v : Nat} {C : String} {T : u_T} {N : Nat} {vs : List Value} {f : Nat → Option Nat} {i : Int32} (ha : ws[q0]? = some (a, .inl (cI ti, n, .inr (.inr (.inr (.inr f)))))) (ht : (ctys cI)[ti]? = some (cI ti, .object C)) (hv : ws[qk]? = some (v, .inr (ci, vs))) (hc : vwCl[ci]? = some (C, T, N)) (hin : vp_in i n) (hd : decode cc pc = .ok (.aastore, 1)) (k : cv_V l D cI own cc nL rt R Xt A Qf (ws.set q0 (a, .inl (cI ti, n, .inr (.inr (.inr (.inr (va_up f i.toNatClampNeg (some v)))))))) kc ns (pc + 1) ls st) : cv_V l D cI own cc nL rt R Xt A Qf ws kc ns pc ls (.ref v :: .int i :: .ref a :: st) := by
  intro p e s m args below meth c hC H locs la h1 h2 h3
  obtain ⟨hx, hb, hr, hml, hown, hts, hlk, hck, hA, hXt⟩ := id hC
  exact va_astq hx hb hck.1 h1.1 h1.2 h2 q0 ti qk ci ha ht hv hc hin hd (fun H1 locs1 hP hD hS => k p e s m args below meth c hC H1 locs1 la ⟨hP, hD⟩ hS h3)
theorem cv_obj {a idx : Nat} (hl : Cond.methodLink own idx objectInit ∈ WW) (hfr : 1 ≤ R.frames) (hlo : 12 ≤ R.locals) (hd : decode cc pc = .ok (.invokespecial idx, 3)) (k : cv_V l D cI own cc nL rt R Xt A Qf ws kc ns (pc + 3) ls []) : cv_V l D cI own cc nL rt R Xt A Qf ws kc ns pc ls [.ref a] := by
  intro p e s m args below meth c hC H locs la h1 h2 h3
  obtain ⟨hx, hb, hr, hml, hown, hts, hlk, hck, hA, hXt⟩ := id hC
  refine W.objInit hx hb hown (hts _ hl) (hts _ mw_I_object) (hts _ mw_C_object) rfl (by rw [hml]; exact h3.1) rfl hd hfr hlo ?_
  exact W.eq (g2 := F0 m (pc + 3) la []) rfl (k p e s m args below meth c hC H locs la h1 h2 h3)
/-- a callee's one cell, the last of the world, becomes its cells -/
theorem cj_last {A0 : Nat → Prop} {D : va_G} {cl : List vw_C} {wr w1 : va_W} {x : Nat × va_E} {H H1 : Heap} (hP : va_P D cl (wr ++ [x]) H) (hD : va_D A0 (wr ++ [x])) (hk : ∀ q : Nat, q < H.size → ¬ va_A [x] H.size q → H1[q]? = H[q]?) (hF : ∀ q, va_A [x] H.size q → A0 q) (hP1 : va_P D cl w1 H1) (hD1 : va_D (va_A [x] H.size) w1) : va_P D cl (wr ++ w1) H1 ∧ va_D A0 (wr ++ w1) := by
  have hx : (wr ++ [x])[wr.length]? = some x := by rw [List.getElem?_append_right (Nat.le_refl _), Nat.sub_self]; rfl
  have hl : ∀ {k : Nat} {q : Nat × va_E}, wr[k]? = some q → k < wr.length ∧ (wr ++ [x])[k]? = some q := fun {k q} h => by
    have := (List.getElem?_eq_some_iff.mp h).1
    exact ⟨this, by rw [List.getElem?_append_left this]; exact h⟩
  have apart : ∀ (k : Nat) (q : Nat × va_E), wr[k]? = some q → q.1 < H.size ∧ ¬ va_A [x] H.size q.1 := by
    intro k q hq
    obtain ⟨g1, g2⟩ := hl hq
    have hlt := (hP k q g2).lt
    refine ⟨hlt, fun h => ?_⟩
    rcases h with ⟨k2, e, h⟩ | h
    · have hz : k2 < 1 := (List.getElem?_eq_some_iff.mp h).1
      rw [show k2 = 0 by omega] at h
      have hxe : x = (q.1, e) := Option.some.inj h
      have := hD.1 k wr.length q x g2 hx (by rw [hxe])
      omega
    · omega
  refine ⟨va_P.app (fun k q hq => ?_) hP1, va_D.app ⟨fun i j p q hi hj he => hD.1 i j p q (hl hi).2 (hl hj).2 he, fun k q hq => hD.2 k q (hl hq).2⟩ (hD1.weaken (fun k q _ h => hF q.1 h)) (fun i j a b ha hb hab => ?_)⟩
  · obtain ⟨g1, g2⟩ := apart k q hq
    exact (hP k q (hl hq).2).kept (hk q.1 g1 g2)
  · exact (apart i a ha).2 (by rw [hab]; exact hD1.2 j b hb)
theorem cv_blind {q sz ci : Nat} {fs : List Value} : FrameBlind (cv_P D cI q sz ci fs) := fun a U g mk h => ⟨h.1, h.2.1, ck_same (u := U) (U := U.calling g mk a) rfl h.2.2.1, h.2.2.2⟩
def cv_y (y : MethodName) (cy : ByteArray) (ny : Nat) : Prop := Cond.instanceMethod y ∈ WW ∧ Cond.initialized y.cls ∈ WW ∧ Cond.code y cy ny none ∈ WW ∧ y.name = "<init>" ∧ y.cls ≠ "java/lang/invoke/MethodHandle" ∧ y.cls ≠ "java/lang/invoke/VarHandle" ∧ (parseMethodDescriptor y.desc).map (fun d => d.parameters.length) = some 0
theorem cv_last {wr : va_W} {x : Nat × va_E} {H : Heap} (hP : va_P D vwCl (wr ++ [x]) H) : va_P D vwCl [x] H := fun k q hk => by
  have hz : k < 1 := (List.getElem?_eq_some_iff.mp hk).1
  rw [show k = 0 by omega] at hk
  exact hP wr.length q (by rw [List.getElem?_append_right (Nat.le_refl _), Nat.sub_self]; exact hk)
theorem cv_freeL {A0 : Nat → Prop} {wr : va_W} {x : Nat × va_E} {H0 H : Heap} {locs : List Loc} (hD : va_D A0 (wr ++ [x])) (hS : va_S A0 H0 H locs) (hA : ∀ q, H0.size ≤ q → A0 q) : ∀ q, va_A [x] H.size q → A0 q := by
  intro q h
  rcases h with ⟨k, e, h⟩ | h
  · have hz : k < 1 := (List.getElem?_eq_some_iff.mp h).1
    rw [show k = 0 by omega] at h
    exact hD.2 wr.length (q, e) (by rw [List.getElem?_append_right (Nat.le_refl _), Nat.sub_self]; exact h)
  · exact hA q (Nat.le_trans hS.1 h)
theorem cv_call {y : MethodName} {cy : ByteArray} {ny index q ci : Nat} {rm : Room} {fs : List Value} {w1 : (Nat → Nat) → va_W} {wr : va_W} (hM : cv_C l D cI y cy ny rm ci fs w1) (hlk2 : Cond.methodLink own index y ∈ WW) (hy : cv_y y cy ny) (hrm : rm.frames + 1 ≤ R.frames ∧ 8 + (ny + 11) + rm.locals ≤ R.locals) (hkc : kc + rm.cells ≤ R.cells) (hns : ns + rm.slots ≤ R.slots) (hcat : (st.map fun v => v.category).sum ≤ 8) (hd : decode cc pc = .ok (.invokespecial index, 3)) (k : ∀ u : Nat → Nat, u 0 = q → cv_V l D cI own cc nL rt R Xt A Qf (wr ++ w1 u) (kc + rm.cells) (ns + rm.slots) (pc + 3) ls st) : cv_V l D cI own cc nL rt R Xt A Qf (wr ++ [(q, .inr (ci, fs))]) kc ns pc ls (.ref q :: st) := by
  intro p e s m args below meth c hC H locs la h1 h2 h3
  obtain ⟨hx, hb, hr, hml, hown, hts, hlk, hck, hA, hXt⟩ := id hC
  have hFc := cv_freeL h1.2 h2 hA
  refine va_callv (va_runI (Ts := WW) (As := []) (rest := st) ⟨hx, hb, hml, hown, hts⟩ (hM q H.size) (cwI 0 hts (mm_good (ws := Cond.code y cy ny none :: WW) (fun w hw => by
    rcases List.mem_cons.mp hw with rfl | h
    · exact hy.2.2.1
    · exact h)) rfl rfl rfl (hts _ hy.2.1) (hts _ hlk2) (hts _ hy.1) hy.2.2.2.1 hy.2.2.2.2 hrm) ⟨cv_blind, fun U hU hW => ⟨rfl, by rw [hU], ck_warm hW hck, by rw [hU]; exact cv_last h1.1⟩⟩ rfl rfl h3.1 rfl (lv_room hcat) hd ⟨hkc, hns⟩) h2 (fun q _ h => hFc q h) hFc (fun u t H1 locs1 ht hvm hu hB hz hk hS => ?_)
  rw [ht] at hB
  exact k u hu p e s m args below meth c hC H1 locs1 la (cj_last h1.1 h1.2 hk hFc hB.1 hB.2) hS h3
theorem cv_callN {y : MethodName} {cy : ByteArray} {ny index q ci : Nat} {rm : Room} {fs : List Value} {host : String} {w1 : (Nat → Nat) → va_W} {wr : va_W} (hM : cv_C l D cI y cy ny rm ci fs w1) (hn : (own, index, y, host) ∈ mm_nest) (hy : cv_y y cy ny) (hrm : rm.frames + 1 ≤ R.frames ∧ 8 + (ny + 11) + rm.locals ≤ R.locals) (hkc : kc + rm.cells ≤ R.cells) (hns : ns + rm.slots ≤ R.slots) (hcat : (st.map fun v => v.category).sum ≤ 8) (hd : decode cc pc = .ok (.invokespecial index, 3)) (k : ∀ u : Nat → Nat, u 0 = q → cv_V l D cI own cc nL rt R Xt A Qf (wr ++ w1 u) (kc + rm.cells) (ns + rm.slots) (pc + 3) ls st) : cv_V l D cI own cc nL rt R Xt A Qf (wr ++ [(q, .inr (ci, fs))]) kc ns pc ls (.ref q :: st) := by
  intro p e s m args below meth c hC H locs la h1 h2 h3
  obtain ⟨hx, hb, hr, hml, hown, hts, hlk, hck, hA, hXt⟩ := id hC
  have hFc := cv_freeL h1.2 h2 hA
  refine va_callv (va_runIN (Ts := WW) (As := []) (rest := st) ⟨hx, hb, hml, hown, hts⟩ (hM q H.size) ⟨va_cnB 0 hts (mm_good (ws := Cond.code y cy ny none :: WW) (fun w hw => by
    rcases List.mem_cons.mp hw with rfl | h
    · exact hy.2.2.1
    · exact h)) rfl rfl rfl (hck.2.1 _ hn) (hts _ hy.2.1) hy.2.2.2.2 hrm, hy.2.2.2.1, hts _ hy.1⟩ ⟨cv_blind, fun U hU hW => ⟨rfl, by rw [hU], ck_warm hW hck, by rw [hU]; exact cv_last h1.1⟩⟩ rfl rfl h3.1 rfl (lv_room hcat) hd ⟨hkc, hns⟩) h2 (fun q _ h => hFc q h) hFc (fun u t H1 locs1 ht hvm hu hB hz hk hS => ?_)
  rw [ht] at hB
  exact k u hu p e s m args below meth c hC H1 locs1 la (cj_last h1.1 h1.2 hk hFc hB.1 hB.2) hS h3
theorem cv_ret {q sz ci mc ms : Nat} {fs : List Value} {w1 : (Nat → Nat) → va_W} (u : Nat → Nat) (hu : u 0 = q) (hws : ws = w1 u) (hd : decode cc pc = .ok (.return_, 1)) : cv_V l D cI own cc nL none R (fun s meth => meth.name = "<init>" ∧ s.heap.size = sz) (fun s => va_A [(q, .inr (ci, fs))] s.heap.size) (fun below args s => MQ below (cv_Q D q sz ci fs w1) args s mc ms (va_A [(q, .inr (ci, fs))] sz)) ws mc ms pc ls [] := by
  intro p e s m args below meth c hC H locs la h1 h2 h3
  obtain ⟨hx, hb, hr, hml, hown, hts, hlk, hck, hA, hXt⟩ := id hC
  obtain ⟨-, rfl⟩ := hXt
  subst hws
  exact W.vret hx hb hr (fun t ht hW => ⟨⟨u, rfl, hu, by rw [ht]; exact h1.1, h1.2⟩, h2.F ht⟩) h2.2.2 hd hlk
end CV
