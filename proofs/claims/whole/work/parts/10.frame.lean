/-! THE MEMORY: every cell of the system is a row of ints; the references never change (but for the history's row of states, that holds numbers of bridges) -/
abbrev Mem : Type := Nat → Nat → Int32
abbrev gG : Type := va_G × (Nat → Nat) × (Nat → ClassId)
abbrev gad (G : gG) (j : Nat) : Nat := G.2.1 j
/-- cells of bridge b: the object, loads, wireAt, the row of wires, its wires -/
def mm_B (b : Nat) : Nat := 16 + 12 * b
def mm_L (b : Nat) : Nat := 17 + 12 * b
def mm_A (b : Nat) : Nat := 18 + 12 * b
def mm_R (b : Nat) : Nat := 19 + 12 * b
def mm_W (b k : Nat) : Nat := 20 + 12 * b + k
def mm_wr (S : Mem) (j k : Nat) (x : Int32) : Mem := fun j' => if j' = j then upd (S j) k x else S j'
theorem mm_wr_eq (S : Mem) (j k : Nat) (x : Int32) (a b : Nat) : mm_wr S j k x a b = if a = j ∧ b = k then x else S a b := by
  unfold mm_wr upd
  by_cases h : a = j
  · subst h
    by_cases h2 : b = k
    · simp [h2]
    · simp [h2]
  · simp [h]
theorem mm_wr_s (S : Mem) (j k : Nat) (x : Int32) : mm_wr S j k x j k = x := by rw [mm_wr_eq]; simp
theorem mm_wr_n (S : Mem) {j k a b : Nat} (x : Int32) (h : a ≠ j ∨ b ≠ k) : mm_wr S j k x a b = S a b := by
  rw [mm_wr_eq, if_neg]
  rintro ⟨rfl, rfl⟩
  rcases h with h | h <;> exact h rfl
theorem mm_wr_row (S : Mem) (j k : Nat) (x : Int32) : mm_wr S j k x j = upd (S j) k x := by simp [mm_wr]
theorem mm_wr_orow (S : Mem) {j k a : Nat} (x : Int32) (h : a ≠ j) : mm_wr S j k x a = S a := by simp [mm_wr, h]
def mm_q (f : Nat → Option Nat) : (Nat → Int32) ⊕ (Nat → Int64) ⊕ (Nat → UInt32) ⊕ (Nat → UInt64) ⊕ (Nat → Option Nat) := .inr (.inr (.inr (.inr f)))
/-- what the cell j holds, when its row is r -/
def mm_enc (G : gG) (j : Nat) (r : Nat → Int32) : va_E :=
  if j = 0 then .inr (4, [.ref (gad G 16), .ref (gad G 28), .ref (gad G 3), .ref (gad G 1), .ref (gad G 2), .ref (gad G 5)]) else
  if j = 1 then .inl (G.2.2 4, 2, .inr (.inr (.inr (.inr (fun i => some (gad G (mm_B (2 + i)))))))) else
  if j = 2 then .inl (G.2.2 1, 2, .inl r) else
  if j = 3 then .inr (1, [.ref (gad G 4), .int (r 1)]) else
  if j = 4 then .inl (G.2.2 4, 7, .inr (.inr (.inr (.inr (fun i => some (gad G (mm_B (r i).toNatClampNeg))))))) else
  if j = 5 then .inr (2, [.ref (gad G 6), .int (r 1), .int (r 2), .int (r 3), .int (r 4), .int (r 5), .int (r 6), .int (r 7), .int (r 8)]) else
  if j = 6 then .inl (G.2.2 2, 60, .inl r) else
  if j = 7 then .inr (5, [.ref (gad G 8), .ref (gad G 9), .ref (gad G 10), .int (r 3), .ref (gad G 11), .ref (gad G 12), .ref (gad G 13), .int (r 7), .int (r 8), .ref (gad G 14), .ref (gad G 15), .int (r 11), .int (r 12), .int (r 13)]) else
  if j = 8 then .inl (G.2.2 0, 150, .inl r) else
  if j = 9 then .inl (G.2.2 0, 150, .inl r) else
  if j = 10 then .inl (G.2.2 0, 900, .inl r) else
  if j = 11 then .inl (G.2.2 0, 300, .inl r) else
  if j = 12 then .inl (G.2.2 1, 2, .inl r) else
  if j = 13 then .inl (G.2.2 0, 60, .inl r) else
  if j = 14 then .inl (G.2.2 0, 8, .inl r) else
  if j = 15 then .inl (G.2.2 0, 180, .inl r) else
  if (j - 16) % 12 = 0 then .inr (0, [.ref (gad G (j + 1)), .ref (gad G (j + 2)), .ref (gad G (j + 3)), .int (r 3), .int (r 4), .int (r 5), .int (r 6), .int (r 7), .int (r 8)]) else
  if (j - 16) % 12 = 1 then .inl (G.2.2 0, 20, .inl r) else
  if (j - 16) % 12 = 2 then .inl (G.2.2 0, 20, .inl r) else
  if (j - 16) % 12 = 3 then .inl (G.2.2 3, 8, .inr (.inr (.inr (.inr (fun i => some (gad G (j + 1 + i))))))) else
  .inr (3, [.int (r 0), .int (r 1), .int (r 2), .int (r 3), .int (r 4), .int (r 5), .int (r 6), .int (r 7), .int (r 8), .int (r 9), .int (r 10), .int (r 11)])
theorem mm_enc_B (G : gG) (b : Nat) (r : Nat → Int32) : mm_enc G (mm_B b) r = .inr (0, [.ref (gad G (mm_L b)), .ref (gad G (mm_A b)), .ref (gad G (mm_R b)), .int (r 3), .int (r 4), .int (r 5), .int (r 6), .int (r 7), .int (r 8)]) := by
  unfold mm_enc mm_B mm_L mm_A mm_R
  have e0 : (16 + 12 * b - 16) % 12 = 0 := by omega
  simp only [e0, show ∀ k, k < 16 → (16 + 12 * b = k) = False from fun k h => by simp; omega, if_true, if_false, show 16 + 12 * b + 1 = 17 + 12 * b by omega, show 16 + 12 * b + 2 = 18 + 12 * b by omega, show 16 + 12 * b + 3 = 19 + 12 * b by omega, Nat.reduceLT]
theorem mm_enc_hi (G : gG) {j : Nat} (h : 16 ≤ j) (r : Nat → Int32) : mm_enc G j r = if (j - 16) % 12 = 0 then .inr (0, [.ref (gad G (j + 1)), .ref (gad G (j + 2)), .ref (gad G (j + 3)), .int (r 3), .int (r 4), .int (r 5), .int (r 6), .int (r 7), .int (r 8)]) else
  if (j - 16) % 12 = 1 then .inl (G.2.2 0, 20, .inl r) else
  if (j - 16) % 12 = 2 then .inl (G.2.2 0, 20, .inl r) else
  if (j - 16) % 12 = 3 then .inl (G.2.2 3, 8, .inr (.inr (.inr (.inr (fun i => some (gad G (j + 1 + i))))))) else
  .inr (3, [.int (r 0), .int (r 1), .int (r 2), .int (r 3), .int (r 4), .int (r 5), .int (r 6), .int (r 7), .int (r 8), .int (r 9), .int (r 10), .int (r 11)]) := by
  unfold mm_enc
  simp only [show ∀ k, k < 16 → (j = k) = False from fun k h => by simp; omega, if_false, Nat.reduceLT]
theorem mm_enc_L (G : gG) (b : Nat) (r : Nat → Int32) : mm_enc G (mm_L b) r = .inl (G.2.2 0, 20, .inl r) := by
  unfold mm_L
  rw [mm_enc_hi G (by omega), if_neg (by omega), if_pos (by omega)]
theorem mm_enc_A (G : gG) (b : Nat) (r : Nat → Int32) : mm_enc G (mm_A b) r = .inl (G.2.2 0, 20, .inl r) := by
  unfold mm_A
  rw [mm_enc_hi G (by omega), if_neg (by omega), if_neg (by omega), if_pos (by omega)]
theorem mm_enc_R (G : gG) (b : Nat) (r : Nat → Int32) : mm_enc G (mm_R b) r = .inl (G.2.2 3, 8, .inr (.inr (.inr (.inr (fun i => some (gad G (mm_W b i))))))) := by
  unfold mm_R mm_W
  rw [mm_enc_hi G (by omega), if_neg (by omega), if_neg (by omega), if_neg (by omega), if_pos (by omega)]
  simp only [show ∀ i, 19 + 12 * b + 1 + i = 20 + 12 * b + i from fun i => by omega]
theorem mm_enc_W (G : gG) (b : Nat) {k : Nat} (hk : k < 8) (r : Nat → Int32) : mm_enc G (mm_W b k) r = .inr (3, [.int (r 0), .int (r 1), .int (r 2), .int (r 3), .int (r 4), .int (r 5), .int (r 6), .int (r 7), .int (r 8), .int (r 9), .int (r 10), .int (r 11)]) := by
  unfold mm_W
  rw [mm_enc_hi G (by omega), if_neg (by omega), if_neg (by omega), if_neg (by omega), if_neg (by omega)]
/-- the type of a place -/
def mm_ty (j k : Nat) : FieldType :=
  if j = 2 ∨ j = 12 then .boolean else if j = 6 then .char else if j = 5 then (if k = 3 then .char else if k = 7 then .boolean else .int) else
  if j = 7 then (if k = 8 ∨ k = 13 then .boolean else .int) else if 20 ≤ j ∧ 4 ≤ (j - 16) % 12 ∧ (k = 6 ∨ k = 11) then .boolean else .int
def mm_ok (ty : FieldType) (x : Int32) : Prop := narrow ty (.int x) = .int x ∧ fits ty (.int x) = true
def mm_okS (S : Mem) : Prop := ∀ j k, mm_ok (mm_ty j k) (S j k)
theorem mm_ok_int (x : Int32) : mm_ok .int x := ⟨rfl, rfl⟩
theorem mm_ok_b (x : Int32) (h : x = 0 ∨ x = 1) : mm_ok .boolean x := by
  rcases h with rfl | rfl <;> exact ⟨by decide +kernel, by decide +kernel⟩
theorem mm_okS_wr {S : Mem} {j k : Nat} {x : Int32} (h : mm_okS S) (hx : mm_ok (mm_ty j k) x) : mm_okS (mm_wr S j k x) := by
  intro a b
  rw [mm_wr_eq]
  by_cases c : a = j ∧ b = k
  · rw [if_pos c, c.1, c.2]; exact hx
  · rw [if_neg c]; exact h a b
def mm_H (G : gG) (S : Mem) (H : Heap) : Prop := mm_okS S ∧ ∀ j, j < 148 → va_at G.1 vwCl (gad G j, mm_enc G j (S j)) H
def mm_tys (G : gG) : List (ClassId × FieldType) := [(G.2.2 0, .int), (G.2.2 1, .boolean), (G.2.2 2, .char), (G.2.2 3, .object RX3), (G.2.2 4, .object RX0)]
/-- the links to private members of nest mates -/
def mm_nest : List (String × Nat × MethodName × String) := [(RX0, 147, yX4_oneIf, RX4), (RX0, 24, yX3_init, RX4), (RX0, 67, yX4_within, RX4), (RX1, 22, yX4_within, RX4), (RX1, 30, yX4_isError, RX4), (RX2, 27, yX4_within, RX4), (RX3, 75, yX4_crept, RX4)]
def mm_N (U : State) : Prop := ∀ q ∈ mm_nest, va_Nw (.methodLinkNest q.1 q.2.1 q.2.2.1 q.2.2.2) U
theorem mm_N_warm {s U : State} (hW : s.WarmedH U.vm) (h : mm_N s) : mm_N U := fun q hq => va_Nw.warmM hW (h q hq)
theorem mm_N_same {u U : State} (hvm : u.vm = U.vm) (h : mm_N u) : mm_N U := fun q hq => va_Nw.same rfl hvm (h q hq)
def mm_inj (G : gG) : Prop := ∀ i j, i < 148 → j < 148 → gad G i = gad G j → i = j
def mm_St (G : gG) (U : State) : Prop := mm_inj G ∧ va_K G.1 vwCl (mm_tys G) U ∧ mm_N U
theorem mm_St_warm {G : gG} {s U : State} (hW : s.WarmedH U.vm) (h : mm_St G s) : mm_St G U := ⟨h.1, va_K.moved hW.alike h.2.1, mm_N_warm hW h.2.2⟩
theorem mm_St_same {G : gG} {u U : State} (hvm : u.vm = U.vm) (h : mm_St G u) : mm_St G U := ⟨h.1, va_K.moved (by rw [hvm]; exact Vm.Alike.refl _) h.2.1, mm_N_same hvm h.2.2⟩
/-- the cells of the system -/
def mm_F (G : gG) : Nat → Prop := fun q => ∃ j, j < 148 ∧ q = gad G j
def mm_l (G : gG) (S : Mem) : va_W := (List.range 148).map (fun j => (gad G j, mm_enc G j (S j)))
theorem mm_l_at (G : gG) (S : Mem) {j : Nat} (h : j < 148) : (mm_l G S)[j]? = some (gad G j, mm_enc G j (S j)) := by
  unfold mm_l
  rw [List.getElem?_map, List.getElem?_range h]
  rfl
theorem mm_l_inv {G : gG} {S : Mem} {j : Nat} {q : Nat × va_E} (h : (mm_l G S)[j]? = some q) : j < 148 ∧ q = (gad G j, mm_enc G j (S j)) := by
  have hl := (List.getElem?_eq_some_iff.mp h).1
  have h1 : j < 148 := by unfold mm_l at hl; rw [List.length_map, List.length_range] at hl; exact hl
  rw [mm_l_at G S h1] at h
  exact ⟨h1, (Option.some.inj h).symm⟩
theorem mm_P {G : gG} {S : Mem} {H : Heap} (h : mm_H G S H) : va_P G.1 vwCl (mm_l G S) H := by
  intro k q hq
  obtain ⟨h1, rfl⟩ := mm_l_inv hq
  exact h.2 k h1
theorem mm_D {G : gG} (S : Mem) (h : mm_inj G) : va_D (mm_F G) (mm_l G S) := by
  refine ⟨fun i j p q hi hj hpq => ?_, fun k q hq => ?_⟩
  · obtain ⟨h1, rfl⟩ := mm_l_inv hi
    obtain ⟨h2, rfl⟩ := mm_l_inv hj
    exact h i j h1 h2 hpq
  · obtain ⟨h1, rfl⟩ := mm_l_inv hq
    exact ⟨k, h1, rfl⟩
theorem mm_set {G : gG} {S S' : Mem} {H1 : Heap} {j : Nat} {e : va_E} (hj : j < 148) (hok : mm_okS S') (ho : ∀ a, a ≠ j → S' a = S a) (he : mm_enc G j (S' j) = e) (h : va_P G.1 vwCl ((mm_l G S).set j (gad G j, e)) H1) : mm_H G S' H1 := by
  refine ⟨hok, fun a ha => ?_⟩
  have hl : j < (mm_l G S).length := by unfold mm_l; rw [List.length_map, List.length_range]; exact hj
  by_cases c : a = j
  · subst c
    rw [he]
    exact h a _ (List.getElem?_set_self hl)
  · rw [ho a c]
    exact h a _ (by rw [List.getElem?_set_ne (Ne.symm c)]; exact mm_l_at G S ha)
theorem mm_lt_B {b : Nat} (h : b < 11) : mm_B b < 148 := by unfold mm_B; omega
theorem mm_lt_L {b : Nat} (h : b < 11) : mm_L b < 148 := by unfold mm_L; omega
theorem mm_lt_A {b : Nat} (h : b < 11) : mm_A b < 148 := by unfold mm_A; omega
theorem mm_lt_R {b : Nat} (h : b < 11) : mm_R b < 148 := by unfold mm_R; omega
theorem mm_lt_W {b k : Nat} (h : b < 11) (hk : k < 8) : mm_W b k < 148 := by unfold mm_W; omega
/-! THE JUDGEMENT: a state of a method's walk, in the memory's words -/
def mm_X (G : gG) (own : String) (cc : ByteArray) (nL : Nat) (rt : Option FieldType) (R : Room) (kc ns : Nat) (Xt : State → Prop) (A : State → Nat → Prop) (p : Program) (s : State) (m : MethodId) (args : Array Value) (meth : Method) (c : Code) : Prop :=
  p.tables.exec = Jvm.exec ∧ c.code = cc ∧ meth.sig.returnType = rt ∧ c.maxLocals = nL ∧ s.vm.findClass own = some m.cls ∧ (∀ w ∈ WW, w.before args s = true) ∧ meth.locks = false ∧ mm_St G s ∧ kc ≤ R.cells ∧ ns ≤ R.slots ∧ Xt s ∧ ∀ q, mm_F G q → A s q
def mm_V (l : Launch) (G : gG) (own : String) (cc : ByteArray) (nL : Nat) (rt : Option FieldType) (R : Room) (kc ns : Nat) (Xt : State → Prop) (A : State → Nat → Prop) (Qf : List Frame → Array Value → State → State → Prop) (S : Mem) (pc : Nat) (ls : List (Nat × Value)) (st : List Value) : Prop :=
  ∀ (p : Program) (e : Env) (s : State) (m : MethodId) (args : Array Value) (below : List Frame) (meth : Method) (c : Code), mm_X G own cc nL rt R kc ns Xt A p s m args meth c → ∀ (H : Heap) (locs : List Loc) (la : Array Slot), mm_H G S H → va_S (A s) s.heap H locs → lv_has la nL ls → W p l e R s m args below meth c H locs kc ns (Qf below args s) (F0 m pc la st)
/-- contracts: int, void, long, reference -/
abbrev mm_Pc (G : gG) (av : List Value) (S : Mem) : Array Value → State → Prop := va_Pc av (fun U => mm_St G U ∧ mm_H G S U.heap)
abbrev mm_Qi (G : gG) (P : Int32 → Mem → Prop) : Array Value → State → Outcome → State → Prop := va_Qi P (fun u t => mm_H G u t.heap) (mm_F G)
abbrev mm_Ql (G : gG) (P : Int64 → Mem → Prop) : Array Value → State → Outcome → State → Prop := va_Ql P (fun u t => mm_H G u t.heap) (mm_F G)
abbrev mm_Qv (G : gG) (P : Mem → Prop) : Array Value → State → Outcome → State → Prop := va_Qv P (fun u t => mm_H G u t.heap) (mm_F G)
abbrev mm_Qq (G : gG) (P : Option Nat → Mem → Prop) : Array Value → State → Outcome → State → Prop := va_Qq P (fun u t => mm_H G u t.heap) (mm_F G)
abbrev mm_Qf (G : gG) (Qc : Array Value → State → Outcome → State → Prop) : List Frame → Array Value → State → State → Prop := fun below args s => MQ below Qc args s 0 0 (mm_F G)
def mm_C (l : Launch) (G : gG) (y : MethodName) (cy : ByteArray) (ny : Nat) (rt : Option FieldType) (rm : Room) (av : List Value) (S : Mem) (Qc : Array Value → State → Outcome → State → Prop) : Prop := Met l y (Cond.code y cy ny rt :: WW) rm (mm_Pc G av S) Qc 0 0 (mm_F G)
/-- a method's contract out of the walk from its entry -/
theorem mm_ofV {l : Launch} {G : gG} {y : MethodName} {rm : Room} {av : List Value} {S : Mem} {Qc : Array Value → State → Outcome → State → Prop} {cc : ByteArray} {nL : Nat} {rt : Option FieldType} {own : String} (hy : plainName y.cls = true) (hown : y.cls = own) (hl : (lg_sl av).length ≤ nL) {ls0 : List (Nat × Value)} (hls : lv_args 0 av = ls0)
    (k : mm_V l G own cc nL rt rm 0 0 (fun _ => True) (fun _ => mm_F G) (mm_Qf G Qc) S 0 ls0 []) : mm_C l G y cc nL rt rm av S Qc := by
  refine Met.ofW (cc := cc) (maxL := nL) (ret := rt) hy rfl ?_
  intro p e s m args below meth c s₁ B hml hv
  obtain ⟨rfl, hSt, hH⟩ := hv
  rw [lg_entry_eq]
  subst hown
  exact k p e s m av.toArray below meth c ⟨B.exec, B.bytes, B.returns, hml, findClass_of_methodNamed B.named, fun w hw => atoms_spec (ws := Cond.code y cc nL rt :: WW) B.pre w (List.mem_cons_of_mem _ hw), B.notSynchronized, hSt, Nat.zero_le _, Nat.zero_le _, trivial, fun _ h => h⟩ s.heap [] _ hH va_S.rf (by rw [← hls]; exact lv_entry av hl)
