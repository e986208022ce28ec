/-! THE CLAIM OUT OF ONE WALK OF THE LAW'S BODY. Your part is whole_start (and what it stands on); all else here is the same for every law, but numbers. -/
def R_law : String := "SingingWiresLaw"
def lw_P (b : Addr) (xs : List Int32) (args : Array Value) (s : State) : Prop := args = #[.ref b] ∧ s.IntsAt b xs ∧ xs.length ≤ 3072 ∧ (Jvm.Cond.and given_1 narrow_1).before args s = true
def lw_Q (_ : Array Value) (s : State) (o : Outcome) (t : State) : Prop := o = .returned (some (.int 1)) ∧ Framed s o t [] 600000 7302250
def lw_Z (below : List Frame) (a : Array Value) (s : State) : State → Prop := fun t => ∃ o, t.status = .running ∧ Ended t below o ∧ lw_Q a s o t
/-- the law's own end, with 1 on the stack, nothing written that was there before, its room as the claim has it -/
theorem lw_ret {p : Program} {l : Launch} {e : Env} {s : State} {m : MethodId} {below : List Frame} {meth : Method} {c : Code} {b : Nat} (hx : p.tables.exec = Jvm.exec) (hb : c.code = code) (hr : meth.sig.returnType = ret) (hlocks : meth.locks = false) {pc : Nat} {H : Heap} {ls : Array Slot} (hdg : decode code pc = .ok (.ireturn, 1)) : W p l e room_1 s m #[Value.ref b] below meth c H [] 600000 7302250 (lw_Z below #[Value.ref b] s) (F0 m pc ls [.int 1]) := by
  intro T hT X
  obtain ⟨fs, hret, hrun, hended, hW, hframe⟩ := X.leave (v := some (.int 1)) (hlocks := hlocks) (fun h => by rw [hr] at h; cases h)
  have hmeth' : T.vm.method? m = some meth := X.method'
  refine ⟨T.setFrames fs, ?_, .returned (some (.int 1)), hrun, hended, rfl, ⟨_, rfl⟩, hW, hframe⟩
  jvm_step X.here [X.here.top, hx, hb, hdg, hmeth', hr, ret, narrow_b1]
  (try refine ⟨rfl, ?_⟩); (try refine ⟨rfl, ?_⟩)
  first | (intro acts; rw [hret _ acts rfl rfl rfl]) | rw [hret _ _ rfl rfl rfl]
  exact Steps.refl _
/-- what holds at the law's entry: the machine, the code, the tables' words (any of lw_tbl by 'hts w (by decide +kernel)'), the script of L ints xs at the cell b, what the Statement gives of the start (any of its parts by flat_of_before) -/
def lw_At (p : Program) (s : State) (m : MethodId) (meth : Method) (c : Code) (b L : Nat) (xs : Nat → Int32) : Prop :=
  p.tables.exec = Jvm.exec ∧ c.code = code ∧ meth.sig.returnType = ret ∧ c.maxLocals = 4 ∧ s.vm.findClass R_law = some m.cls ∧ (∀ w ∈ lw_tbl, w.before #[Value.ref b] s = true) ∧ va_X b L xs s s.heap ∧ b < s.heap.size ∧ meth.locks = false ∧ (Jvm.Cond.and given_1 narrow_1).before #[Value.ref b] s = true
/-! THE LAW'S WALK -/
theorem lw_ret2 {p : Program} {l : Launch} {e : Env} {s : State} {m : MethodId} {a : Array Value} {below : List Frame} {meth : Method} {c : Code} (hx : p.tables.exec = Jvm.exec) (hb : c.code = code) (hr : meth.sig.returnType = ret) (hlocks : meth.locks = false) {pc : Nat} {H : Heap} {ls : Array Slot} (hdg : decode code pc = .ok (.ireturn, 1)) : W p l e room_1 s m a below meth c H [] 600000 7302250 (lw_Z below a s) (F0 m pc ls [.int 1]) := by
  intro T hT X
  obtain ⟨fs, hret, hrun, hended, hW, hframe⟩ := X.leave (v := some (.int 1)) (hlocks := hlocks) (fun h => by rw [hr] at h; cases h)
  have hmeth' : T.vm.method? m = some meth := X.method'
  refine ⟨T.setFrames fs, ?_, .returned (some (.int 1)), hrun, hended, rfl, ⟨_, rfl⟩, hW, hframe⟩
  jvm_step X.here [X.here.top, hx, hb, hdg, hmeth', hr, ret, narrow_b1]
  (try refine ⟨rfl, ?_⟩); (try refine ⟨rfl, ?_⟩)
  first | (intro acts; rw [hret _ acts rfl rfl rfl]) | rw [hret _ _ rfl rfl rfl]
  exact Steps.refl _
abbrev lXt (b L : Nat) (xs : Nat → Int32) : State → Prop := fun s => va_X b L xs s s.heap ∧ b < s.heap.size
abbrev lA : State → Nat → Prop := fun s q => s.heap.size ≤ q
theorem vl_law {l : Launch} {G : gG} {b L : Nat} {xs : Nat → Int32} {S : Mem} {pc : Nat} {ls : List (Nat × Value)} {st : List Value} {i : Int32} (hin : vp_in i L) (hd : decode cL_law pc = .ok (.iaload, 1)) (k : mm_V l G RL cL_law 4 ret room_1 600000 7302250 (lXt b L xs) lA lw_Z S (pc + 1) ls (.int (xs i.toNatClampNeg) :: st)) : mm_V l G RL cL_law 4 ret room_1 600000 7302250 (lXt b L xs) lA lw_Z S pc ls (.int i :: .ref b :: st) := by
  intro p e s m args below meth c hC H locs la h1 h2 h3
  obtain ⟨hx, hb, hr, hml, hown, hts, hlk, hSt, hkc, hns, hXt, hA⟩ := id hC
  exact va_sld hx hb hXt.1 hXt.2 (Nat.not_le.mpr hXt.2) h2 hin hd (k p e s m args below meth c hC H locs la h1 h2 h3)
theorem vl_len {l : Launch} {G : gG} {b L : Nat} {xs : Nat → Int32} {S : Mem} {pc : Nat} {ls : List (Nat × Value)} {st : List Value} (hd : decode cL_law pc = .ok (.arraylength, 1)) (k : mm_V l G RL cL_law 4 ret room_1 600000 7302250 (lXt b L xs) lA lw_Z S (pc + 1) ls (.int (nI L) :: st)) : mm_V l G RL cL_law 4 ret room_1 600000 7302250 (lXt b L xs) lA lw_Z S pc ls (.ref b :: st) := by
  intro p e s m args below meth c hC H locs la h1 h2 h3
  obtain ⟨hx, hb, hr, hml, hown, hts, hlk, hSt, hkc, hns, hXt, hA⟩ := id hC
  exact va_slen hx hb hXt.1 hXt.2 (Nat.not_le.mpr hXt.2) h2 hd (k p e s m args below meth c hC H locs la h1 h2 h3)
theorem vr_law {l : Launch} {G : gG} {b L : Nat} {xs : Nat → Int32} {S : Mem} {pc : Nat} {ls : List (Nat × Value)} (hd : decode cL_law pc = .ok (.ireturn, 1)) : mm_V l G RL cL_law 4 ret room_1 600000 7302250 (lXt b L xs) lA lw_Z S pc ls [.int 1] := by
  intro p e s m args below meth c hC H locs la h1 h2 h3
  obtain ⟨hx, hb, hr, hml, hown, hts, hlk, hSt, hkc, hns, hXt, hA⟩ := id hC
  exact va_forget (fun q hq => h2.2.2 q hq) (lw_ret2 hx hb hr hlk hd)
theorem lw_in {i L k : Nat} (hi : i + 6 ≤ L) (hL : L ≤ 3072) (hk : k < 6) : vp_in (nI i + nI k) L := by
  rw [nI_add]
  exact vp_in_nI (by omega) (by omega)
