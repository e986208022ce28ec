section VR
variable {l : Launch} {G : gG} {own : String} {cc : ByteArray} {nL : Nat} {rt : Option FieldType} {R : Room} {kc ns : Nat} {Xt : State → Prop} {A : State → Nat → Prop} {Qf : List Frame → Array Value → State → State → Prop} {S : Mem} {pc : Nat} {ls ls' : List (Nat × Value)} {st : List Value}
theorem vv_topi {x : Int32} (k : ∀ y : Int32, y = x → mm_V l G own cc nL rt R kc ns Xt A Qf S pc ls (.int y :: st)) : mm_V l G own cc nL rt R kc ns Xt A Qf S pc ls (.int x :: st) := k x rfl
theorem vv_topl {x : Int64} (k : ∀ y : Int64, y = x → mm_V l G own cc nL rt R kc ns Xt A Qf S pc ls (.long y :: st)) : mm_V l G own cc nL rt R kc ns Xt A Qf S pc ls (.long x :: st) := k x rfl
theorem vv_mem (k : ∀ S1 : Mem, S1 = S → mm_V l G own cc nL rt R kc ns Xt A Qf S1 pc ls st) : mm_V l G own cc nL rt R kc ns Xt A Qf S pc ls st := k S rfl
theorem vv_eqi {x y : Int32} (h : x = y) (k : mm_V l G own cc nL rt R kc ns Xt A Qf S pc ls (.int y :: st)) : mm_V l G own cc nL rt R kc ns Xt A Qf S pc ls (.int x :: st) := h ▸ k
theorem vv_eql {x y : Int64} (h : x = y) (k : mm_V l G own cc nL rt R kc ns Xt A Qf S pc ls (.long y :: st)) : mm_V l G own cc nL rt R kc ns Xt A Qf S pc ls (.long x :: st) := h ▸ k
theorem vv_eqS {S1 : Mem} (h : S = S1) (k : mm_V l G own cc nL rt R kc ns Xt A Qf S1 pc ls st) : mm_V l G own cc nL rt R kc ns Xt A Qf S pc ls st := h ▸ k
theorem vv_pc {pc1 : Nat} (h : pc = pc1) (k : mm_V l G own cc nL rt R kc ns Xt A Qf S pc1 ls st) : mm_V l G own cc nL rt R kc ns Xt A Qf S pc ls st := h ▸ k
theorem vv_okS (k : mm_okS S → mm_V l G own cc nL rt R kc ns Xt A Qf S pc ls st) : mm_V l G own cc nL rt R kc ns Xt A Qf S pc ls st := by
  intro p e s m args below meth c hC H locs la h1 h2 h3
  exact k h1.1 p e s m args below meth c hC H locs la h1 h2 h3
theorem vv_sub (ks : List Nat) (hl : lv_pick ls ks = ls') (k : mm_V l G own cc nL rt R kc ns Xt A Qf S pc ls' st) : mm_V l G own cc nL rt R kc ns Xt A Qf S pc ls st := by
  intro p e s m args below meth c hC H locs la h1 h2 h3
  exact k p e s m args below meth c hC H locs la h1 h2 (lv_sub h3 ks hl)
theorem vv_iconst {n : Int} {v : Int32} (hd : decode cc pc = .ok (.iconst n, 1)) (hv : Int32.ofInt n = v) (k : mm_V l G own cc nL rt R kc ns Xt A Qf S (pc + 1) ls (.int v :: st)) : mm_V l G own cc nL rt R kc ns Xt A Qf S pc ls (st) := by
  intro p e s m args below meth c hC H locs la h1 h2 h3
  exact lv_iconst hC.1 hC.2.1 hd hv (k p e s m args below meth c hC H locs la h1 h2 h3)
theorem vv_bipush {n : Int} {v : Int32} (hd : decode cc pc = .ok (.bipush n, 2)) (hv : (Int8.ofInt n).toInt32 = v) (k : mm_V l G own cc nL rt R kc ns Xt A Qf S (pc + 2) ls (.int v :: st)) : mm_V l G own cc nL rt R kc ns Xt A Qf S pc ls (st) := by
  intro p e s m args below meth c hC H locs la h1 h2 h3
  exact lv_bipush hC.1 hC.2.1 hd hv (k p e s m args below meth c hC H locs la h1 h2 h3)
theorem vv_sipush {n : Int} {v : Int32} (hd : decode cc pc = .ok (.sipush n, 3)) (hv : (Int16.ofInt n).toInt32 = v) (k : mm_V l G own cc nL rt R kc ns Xt A Qf S (pc + 3) ls (.int v :: st)) : mm_V l G own cc nL rt R kc ns Xt A Qf S pc ls (st) := by
  intro p e s m args below meth c hC H locs la h1 h2 h3
  exact lv_sipush hC.1 hC.2.1 hd hv (k p e s m args below meth c hC H locs la h1 h2 h3)
theorem vv_lconst {n : Fin 2} {v : Int64} (hd : decode cc pc = .ok (.lconst n, 1)) (hv : Int64.ofNat (n : Nat) = v) (k : mm_V l G own cc nL rt R kc ns Xt A Qf S (pc + 1) ls (.long v :: st)) : mm_V l G own cc nL rt R kc ns Xt A Qf S pc ls (st) := by
  intro p e s m args below meth c hC H locs la h1 h2 h3
  exact lv_lconst hC.1 hC.2.1 hd hv (k p e s m args below meth c hC H locs la h1 h2 h3)
theorem vv_iload_n {kf : Fin 4} {i : Nat} {x : Int32} (q : Nat) (hd : decode cc pc = .ok (.iload_n kf, 1)) (hi : (kf : Nat) = i) (hl : ls[q]? = some (i, .int x)) (k : mm_V l G own cc nL rt R kc ns Xt A Qf S (pc + 1) ls (.int x :: st)) : mm_V l G own cc nL rt R kc ns Xt A Qf S pc ls (st) := by
  intro p e s m args below meth c hC H locs la h1 h2 h3
  exact lv_iload_n hC.1 hC.2.1 hd hi (lv_at h3 q hl) (k p e s m args below meth c hC H locs la h1 h2 h3)
theorem vv_iload {i : Nat} {x : Int32} (q : Nat) (hd : decode cc pc = .ok (.iload i, 2)) (hl : ls[q]? = some (i, .int x)) (k : mm_V l G own cc nL rt R kc ns Xt A Qf S (pc + 2) ls (.int x :: st)) : mm_V l G own cc nL rt R kc ns Xt A Qf S pc ls (st) := by
  intro p e s m args below meth c hC H locs la h1 h2 h3
  exact lv_iload hC.1 hC.2.1 hd (lv_at h3 q hl) (k p e s m args below meth c hC H locs la h1 h2 h3)
theorem vv_lload_n {kf : Fin 4} {i : Nat} {x : Int64} (q : Nat) (hd : decode cc pc = .ok (.lload_n kf, 1)) (hi : (kf : Nat) = i) (hl : ls[q]? = some (i, .long x)) (k : mm_V l G own cc nL rt R kc ns Xt A Qf S (pc + 1) ls (.long x :: st)) : mm_V l G own cc nL rt R kc ns Xt A Qf S pc ls (st) := by
  intro p e s m args below meth c hC H locs la h1 h2 h3
  exact lv_lload_n hC.1 hC.2.1 hd hi (lv_at h3 q hl) (k p e s m args below meth c hC H locs la h1 h2 h3)
theorem vv_lload {i : Nat} {x : Int64} (q : Nat) (hd : decode cc pc = .ok (.lload i, 2)) (hl : ls[q]? = some (i, .long x)) (k : mm_V l G own cc nL rt R kc ns Xt A Qf S (pc + 2) ls (.long x :: st)) : mm_V l G own cc nL rt R kc ns Xt A Qf S pc ls (st) := by
  intro p e s m args below meth c hC H locs la h1 h2 h3
  exact lv_lload hC.1 hC.2.1 hd (lv_at h3 q hl) (k p e s m args below meth c hC H locs la h1 h2 h3)
theorem vv_aload_n {kf : Fin 4} {i : Nat} {x : Nat} (q : Nat) (hd : decode cc pc = .ok (.aload_n kf, 1)) (hi : (kf : Nat) = i) (hl : ls[q]? = some (i, .ref x)) (k : mm_V l G own cc nL rt R kc ns Xt A Qf S (pc + 1) ls (.ref x :: st)) : mm_V l G own cc nL rt R kc ns Xt A Qf S pc ls (st) := by
  intro p e s m args below meth c hC H locs la h1 h2 h3
  exact lv_aload_n hC.1 hC.2.1 hd hi (lv_at h3 q hl) (k p e s m args below meth c hC H locs la h1 h2 h3)
theorem vv_aload {i : Nat} {x : Nat} (q : Nat) (hd : decode cc pc = .ok (.aload i, 2)) (hl : ls[q]? = some (i, .ref x)) (k : mm_V l G own cc nL rt R kc ns Xt A Qf S (pc + 2) ls (.ref x :: st)) : mm_V l G own cc nL rt R kc ns Xt A Qf S pc ls (st) := by
  intro p e s m args below meth c hC H locs la h1 h2 h3
  exact lv_aload hC.1 hC.2.1 hd (lv_at h3 q hl) (k p e s m args below meth c hC H locs la h1 h2 h3)
theorem vv_aload_nN {kf : Fin 4} {i : Nat} (q : Nat) (hd : decode cc pc = .ok (.aload_n kf, 1)) (hi : (kf : Nat) = i) (hl : ls[q]? = some (i, .null)) (k : mm_V l G own cc nL rt R kc ns Xt A Qf S (pc + 1) ls (.null :: st)) : mm_V l G own cc nL rt R kc ns Xt A Qf S pc ls (st) := by
  intro p e s m args below meth c hC H locs la h1 h2 h3
  exact lv_aload_nN hC.1 hC.2.1 hd hi (lv_at h3 q hl) (k p e s m args below meth c hC H locs la h1 h2 h3)
theorem vv_istore_n {kf : Fin 4} {i : Nat} {x : Int32} (hd : decode cc pc = .ok (.istore_n kf, 1)) (hi : (kf : Nat) = i) (hn : i < nL) (hl : (i, Value.int x) :: ls.filter (fun q => !(q.1 == i) && !(q.1 + 1 == i && q.2.category == 2)) = ls') (k : mm_V l G own cc nL rt R kc ns Xt A Qf S (pc + 1) ls' st) : mm_V l G own cc nL rt R kc ns Xt A Qf S pc ls (Value.int x :: st) := by
  intro p e s m args below meth c hC H locs la h1 h2 h3
  exact lv_istore_n hC.1 hC.2.1 hd hi h3 hn hl (fun la' h3' => k p e s m args below meth c hC H locs la' h1 h2 h3')
theorem vv_istore {i : Nat} {x : Int32} (hd : decode cc pc = .ok (.istore i, 2)) (hn : i < nL) (hl : (i, Value.int x) :: ls.filter (fun q => !(q.1 == i) && !(q.1 + 1 == i && q.2.category == 2)) = ls') (k : mm_V l G own cc nL rt R kc ns Xt A Qf S (pc + 2) ls' st) : mm_V l G own cc nL rt R kc ns Xt A Qf S pc ls (Value.int x :: st) := by
  intro p e s m args below meth c hC H locs la h1 h2 h3
  exact lv_istore hC.1 hC.2.1 hd h3 hn hl (fun la' h3' => k p e s m args below meth c hC H locs la' h1 h2 h3')
theorem vv_lstore_n {kf : Fin 4} {i : Nat} {x : Int64} (hd : decode cc pc = .ok (.lstore_n kf, 1)) (hi : (kf : Nat) = i) (hn : i + 1 < nL) (hl : (i, Value.long x) :: ls.filter (fun q => !(q.1 == i) && (!(q.1 == i + 1) && !(q.1 + 1 == i && q.2.category == 2))) = ls') (k : mm_V l G own cc nL rt R kc ns Xt A Qf S (pc + 1) ls' st) : mm_V l G own cc nL rt R kc ns Xt A Qf S pc ls (Value.long x :: st) := by
  intro p e s m args below meth c hC H locs la h1 h2 h3
  exact lv_lstore_n hC.1 hC.2.1 hd hi h3 hn hl (fun la' h3' => k p e s m args below meth c hC H locs la' h1 h2 h3')
theorem vv_lstore {i : Nat} {x : Int64} (hd : decode cc pc = .ok (.lstore i, 2)) (hn : i + 1 < nL) (hl : (i, Value.long x) :: ls.filter (fun q => !(q.1 == i) && (!(q.1 == i + 1) && !(q.1 + 1 == i && q.2.category == 2))) = ls') (k : mm_V l G own cc nL rt R kc ns Xt A Qf S (pc + 2) ls' st) : mm_V l G own cc nL rt R kc ns Xt A Qf S pc ls (Value.long x :: st) := by
  intro p e s m args below meth c hC H locs la h1 h2 h3
  exact lv_lstore hC.1 hC.2.1 hd h3 hn hl (fun la' h3' => k p e s m args below meth c hC H locs la' h1 h2 h3')
theorem vv_astore_n {kf : Fin 4} {i : Nat} {x : Nat} (hd : decode cc pc = .ok (.astore_n kf, 1)) (hi : (kf : Nat) = i) (hn : i < nL) (hl : (i, Value.ref x) :: ls.filter (fun q => !(q.1 == i) && !(q.1 + 1 == i && q.2.category == 2)) = ls') (k : mm_V l G own cc nL rt R kc ns Xt A Qf S (pc + 1) ls' st) : mm_V l G own cc nL rt R kc ns Xt A Qf S pc ls (Value.ref x :: st) := by
  intro p e s m args below meth c hC H locs la h1 h2 h3
  exact lv_astore_n hC.1 hC.2.1 hd hi h3 hn hl (fun la' h3' => k p e s m args below meth c hC H locs la' h1 h2 h3')
theorem vv_astore {i : Nat} {x : Nat} (hd : decode cc pc = .ok (.astore i, 2)) (hn : i < nL) (hl : (i, Value.ref x) :: ls.filter (fun q => !(q.1 == i) && !(q.1 + 1 == i && q.2.category == 2)) = ls') (k : mm_V l G own cc nL rt R kc ns Xt A Qf S (pc + 2) ls' st) : mm_V l G own cc nL rt R kc ns Xt A Qf S pc ls (Value.ref x :: st) := by
  intro p e s m args below meth c hC H locs la h1 h2 h3
  exact lv_astore hC.1 hC.2.1 hd h3 hn hl (fun la' h3' => k p e s m args below meth c hC H locs la' h1 h2 h3')
theorem vv_astore_nN {kf : Fin 4} {i : Nat} (hd : decode cc pc = .ok (.astore_n kf, 1)) (hi : (kf : Nat) = i) (hn : i < nL) (hl : (i, Value.null) :: ls.filter (fun q => !(q.1 == i) && !(q.1 + 1 == i && q.2.category == 2)) = ls') (k : mm_V l G own cc nL rt R kc ns Xt A Qf S (pc + 1) ls' st) : mm_V l G own cc nL rt R kc ns Xt A Qf S pc ls (Value.null :: st) := by
  intro p e s m args below meth c hC H locs la h1 h2 h3
  exact lv_astore_nN hC.1 hC.2.1 hd hi h3 hn hl (fun la' h3' => k p e s m args below meth c hC H locs la' h1 h2 h3')
theorem vv_iinc {i q : Nat} {n : Int} {x v : Int32} (hd : decode cc pc = .ok (.iinc i n, 3)) (hq : ls[q]? = some (i, .int x)) (hv : x + Int32.ofInt n = v) (hn : i < nL) (hl : (i, Value.int v) :: ls.filter (fun q => !(q.1 == i) && !(q.1 + 1 == i && q.2.category == 2)) = ls') (k : mm_V l G own cc nL rt R kc ns Xt A Qf S (pc + 3) ls' st) : mm_V l G own cc nL rt R kc ns Xt A Qf S pc ls st := by
  intro p e s m args below meth c hC H locs la h1 h2 h3
  exact lv_iinc hC.1 hC.2.1 hd h3 hq hv hn hl (fun la' h3' => k p e s m args below meth c hC H locs la' h1 h2 h3')
theorem vv_iadd {x y : Int32} (hd : decode cc pc = .ok (.iadd, 1)) (k : mm_V l G own cc nL rt R kc ns Xt A Qf S (pc + 1) ls (.int (x + y) :: st)) : mm_V l G own cc nL rt R kc ns Xt A Qf S pc ls (.int y :: .int x :: st) := by
  intro p e s m args below meth c hC H locs la h1 h2 h3
  exact lv_iadd hC.1 hC.2.1 hd (k p e s m args below meth c hC H locs la h1 h2 h3)
theorem vv_isub {x y : Int32} (hd : decode cc pc = .ok (.isub, 1)) (k : mm_V l G own cc nL rt R kc ns Xt A Qf S (pc + 1) ls (.int (x - y) :: st)) : mm_V l G own cc nL rt R kc ns Xt A Qf S pc ls (.int y :: .int x :: st) := by
  intro p e s m args below meth c hC H locs la h1 h2 h3
  exact lv_isub hC.1 hC.2.1 hd (k p e s m args below meth c hC H locs la h1 h2 h3)
theorem vv_imul {x y : Int32} (hd : decode cc pc = .ok (.imul, 1)) (k : mm_V l G own cc nL rt R kc ns Xt A Qf S (pc + 1) ls (.int (x * y) :: st)) : mm_V l G own cc nL rt R kc ns Xt A Qf S pc ls (.int y :: .int x :: st) := by
  intro p e s m args below meth c hC H locs la h1 h2 h3
  exact lv_imul hC.1 hC.2.1 hd (k p e s m args below meth c hC H locs la h1 h2 h3)
theorem vv_iand {x y : Int32} (hd : decode cc pc = .ok (.iand, 1)) (k : mm_V l G own cc nL rt R kc ns Xt A Qf S (pc + 1) ls (.int (x &&& y) :: st)) : mm_V l G own cc nL rt R kc ns Xt A Qf S pc ls (.int y :: .int x :: st) := by
  intro p e s m args below meth c hC H locs la h1 h2 h3
  exact lv_iand hC.1 hC.2.1 hd (k p e s m args below meth c hC H locs la h1 h2 h3)
theorem vv_ior {x y : Int32} (hd : decode cc pc = .ok (.ior, 1)) (k : mm_V l G own cc nL rt R kc ns Xt A Qf S (pc + 1) ls (.int (x ||| y) :: st)) : mm_V l G own cc nL rt R kc ns Xt A Qf S pc ls (.int y :: .int x :: st) := by
  intro p e s m args below meth c hC H locs la h1 h2 h3
  exact lv_ior hC.1 hC.2.1 hd (k p e s m args below meth c hC H locs la h1 h2 h3)
theorem vv_ixor {x y : Int32} (hd : decode cc pc = .ok (.ixor, 1)) (k : mm_V l G own cc nL rt R kc ns Xt A Qf S (pc + 1) ls (.int (x ^^^ y) :: st)) : mm_V l G own cc nL rt R kc ns Xt A Qf S pc ls (.int y :: .int x :: st) := by
  intro p e s m args below meth c hC H locs la h1 h2 h3
  exact lv_ixor hC.1 hC.2.1 hd (k p e s m args below meth c hC H locs la h1 h2 h3)
theorem vv_ladd {x y : Int64} (hd : decode cc pc = .ok (.ladd, 1)) (k : mm_V l G own cc nL rt R kc ns Xt A Qf S (pc + 1) ls (.long (x + y) :: st)) : mm_V l G own cc nL rt R kc ns Xt A Qf S pc ls (.long y :: .long x :: st) := by
  intro p e s m args below meth c hC H locs la h1 h2 h3
  exact lv_ladd hC.1 hC.2.1 hd (k p e s m args below meth c hC H locs la h1 h2 h3)
theorem vv_lsub {x y : Int64} (hd : decode cc pc = .ok (.lsub, 1)) (k : mm_V l G own cc nL rt R kc ns Xt A Qf S (pc + 1) ls (.long (x - y) :: st)) : mm_V l G own cc nL rt R kc ns Xt A Qf S pc ls (.long y :: .long x :: st) := by
  intro p e s m args below meth c hC H locs la h1 h2 h3
  exact lv_lsub hC.1 hC.2.1 hd (k p e s m args below meth c hC H locs la h1 h2 h3)
theorem vv_lmul {x y : Int64} (hd : decode cc pc = .ok (.lmul, 1)) (k : mm_V l G own cc nL rt R kc ns Xt A Qf S (pc + 1) ls (.long (x * y) :: st)) : mm_V l G own cc nL rt R kc ns Xt A Qf S pc ls (.long y :: .long x :: st) := by
  intro p e s m args below meth c hC H locs la h1 h2 h3
  exact lv_lmul hC.1 hC.2.1 hd (k p e s m args below meth c hC H locs la h1 h2 h3)
theorem vv_land {x y : Int64} (hd : decode cc pc = .ok (.land, 1)) (k : mm_V l G own cc nL rt R kc ns Xt A Qf S (pc + 1) ls (.long (x &&& y) :: st)) : mm_V l G own cc nL rt R kc ns Xt A Qf S pc ls (.long y :: .long x :: st) := by
  intro p e s m args below meth c hC H locs la h1 h2 h3
  exact lv_land hC.1 hC.2.1 hd (k p e s m args below meth c hC H locs la h1 h2 h3)
theorem vv_lor {x y : Int64} (hd : decode cc pc = .ok (.lor, 1)) (k : mm_V l G own cc nL rt R kc ns Xt A Qf S (pc + 1) ls (.long (x ||| y) :: st)) : mm_V l G own cc nL rt R kc ns Xt A Qf S pc ls (.long y :: .long x :: st) := by
  intro p e s m args below meth c hC H locs la h1 h2 h3
  exact lv_lor hC.1 hC.2.1 hd (k p e s m args below meth c hC H locs la h1 h2 h3)
theorem vv_idiv {x y : Int32} (hd : decode cc pc = .ok (.idiv, 1)) (hne : ¬ y = 0) (k : mm_V l G own cc nL rt R kc ns Xt A Qf S (pc + 1) ls (.int (x / y) :: st)) : mm_V l G own cc nL rt R kc ns Xt A Qf S pc ls (.int y :: .int x :: st) := by
  intro p e s m args below meth c hC H locs la h1 h2 h3
  exact lv_idiv hC.1 hC.2.1 hd hne (k p e s m args below meth c hC H locs la h1 h2 h3)
theorem vv_ldiv {x y : Int64} (hd : decode cc pc = .ok (.ldiv, 1)) (hne : ¬ y = 0) (k : mm_V l G own cc nL rt R kc ns Xt A Qf S (pc + 1) ls (.long (x / y) :: st)) : mm_V l G own cc nL rt R kc ns Xt A Qf S pc ls (.long y :: .long x :: st) := by
  intro p e s m args below meth c hC H locs la h1 h2 h3
  exact lv_ldiv hC.1 hC.2.1 hd hne (k p e s m args below meth c hC H locs la h1 h2 h3)
theorem vv_ineg {x : Int32} (hd : decode cc pc = .ok (.ineg, 1)) (k : mm_V l G own cc nL rt R kc ns Xt A Qf S (pc + 1) ls (.int (-x) :: st)) : mm_V l G own cc nL rt R kc ns Xt A Qf S pc ls (.int x :: st) := by
  intro p e s m args below meth c hC H locs la h1 h2 h3
  exact lv_ineg hC.1 hC.2.1 hd (k p e s m args below meth c hC H locs la h1 h2 h3)
theorem vv_ishl {x y : Int32} (hd : decode cc pc = .ok (.ishl, 1)) (k : mm_V l G own cc nL rt R kc ns Xt A Qf S (pc + 1) ls (.int (x <<< (y &&& 31)) :: st)) : mm_V l G own cc nL rt R kc ns Xt A Qf S pc ls (.int y :: .int x :: st) := by
  intro p e s m args below meth c hC H locs la h1 h2 h3
  exact lv_ishl hC.1 hC.2.1 hd (k p e s m args below meth c hC H locs la h1 h2 h3)
theorem vv_ishr {x y : Int32} (hd : decode cc pc = .ok (.ishr, 1)) (k : mm_V l G own cc nL rt R kc ns Xt A Qf S (pc + 1) ls (.int (x >>> (y &&& 31)) :: st)) : mm_V l G own cc nL rt R kc ns Xt A Qf S pc ls (.int y :: .int x :: st) := by
  intro p e s m args below meth c hC H locs la h1 h2 h3
  exact lv_ishr hC.1 hC.2.1 hd (k p e s m args below meth c hC H locs la h1 h2 h3)
theorem vv_iushr {x y v : Int32} (hd : decode cc pc = .ok (.iushr, 1)) (hv : (x.toUInt32 >>> (y.toUInt32 &&& Int32.toUInt32 31)).toInt32 = v) (k : mm_V l G own cc nL rt R kc ns Xt A Qf S (pc + 1) ls (.int v :: st)) : mm_V l G own cc nL rt R kc ns Xt A Qf S pc ls (.int y :: .int x :: st) := by
  intro p e s m args below meth c hC H locs la h1 h2 h3
  exact lv_iushr hC.1 hC.2.1 hd hv (k p e s m args below meth c hC H locs la h1 h2 h3)
theorem vv_lushr {x v : Int64} {y : Int32} (hd : decode cc pc = .ok (.lushr, 1)) (hv : (x.toUInt64 >>> (y.toInt64.toUInt64 &&& Int64.toUInt64 63)).toInt64 = v) (k : mm_V l G own cc nL rt R kc ns Xt A Qf S (pc + 1) ls (.long v :: st)) : mm_V l G own cc nL rt R kc ns Xt A Qf S pc ls (.int y :: .long x :: st) := by
  intro p e s m args below meth c hC H locs la h1 h2 h3
  exact lv_lushr hC.1 hC.2.1 hd hv (k p e s m args below meth c hC H locs la h1 h2 h3)
theorem vv_lshl {x v : Int64} {y : Int32} (hd : decode cc pc = .ok (.lshl, 1)) (hv : x <<< (y.toInt64 &&& 63) = v) (k : mm_V l G own cc nL rt R kc ns Xt A Qf S (pc + 1) ls (.long v :: st)) : mm_V l G own cc nL rt R kc ns Xt A Qf S pc ls (.int y :: .long x :: st) := by
  intro p e s m args below meth c hC H locs la h1 h2 h3
  exact lv_lshl hC.1 hC.2.1 hd hv (k p e s m args below meth c hC H locs la h1 h2 h3)
theorem vv_i2l {x : Int32} (hd : decode cc pc = .ok (.i2l, 1)) (k : mm_V l G own cc nL rt R kc ns Xt A Qf S (pc + 1) ls (.long x.toInt64 :: st)) : mm_V l G own cc nL rt R kc ns Xt A Qf S pc ls (.int x :: st) := by
  intro p e s m args below meth c hC H locs la h1 h2 h3
  exact lv_i2l hC.1 hC.2.1 hd rfl (k p e s m args below meth c hC H locs la h1 h2 h3)
theorem vv_l2i {x : Int64} (hd : decode cc pc = .ok (.l2i, 1)) (k : mm_V l G own cc nL rt R kc ns Xt A Qf S (pc + 1) ls (.int x.toInt32 :: st)) : mm_V l G own cc nL rt R kc ns Xt A Qf S pc ls (.long x :: st) := by
  intro p e s m args below meth c hC H locs la h1 h2 h3
  exact lv_l2i hC.1 hC.2.1 hd rfl (k p e s m args below meth c hC H locs la h1 h2 h3)
theorem vv_i2c {x : Int32} (hd : decode cc pc = .ok (.i2c, 1)) (k : mm_V l G own cc nL rt R kc ns Xt A Qf S (pc + 1) ls (.int (x.toUInt32 % 65536).toInt32 :: st)) : mm_V l G own cc nL rt R kc ns Xt A Qf S pc ls (.int x :: st) := by
  intro p e s m args below meth c hC H locs la h1 h2 h3
  exact lv_i2c hC.1 hC.2.1 hd rfl (k p e s m args below meth c hC H locs la h1 h2 h3)
theorem vv_dup {va : Value} (hd : decode cc pc = .ok (.dup, 1)) (hva : va.category = 1) (k : mm_V l G own cc nL rt R kc ns Xt A Qf S (pc + 1) ls (va :: va :: st)) : mm_V l G own cc nL rt R kc ns Xt A Qf S pc ls (va :: st) := by
  intro p e s m args below meth c hC H locs la h1 h2 h3
  exact lv_dup hC.1 hC.2.1 hd hva (k p e s m args below meth c hC H locs la h1 h2 h3)
theorem vv_pop {va : Value} (hd : decode cc pc = .ok (.pop, 1)) (hva : va.category = 1) (k : mm_V l G own cc nL rt R kc ns Xt A Qf S (pc + 1) ls (st)) : mm_V l G own cc nL rt R kc ns Xt A Qf S pc ls (va :: st) := by
  intro p e s m args below meth c hC H locs la h1 h2 h3
  exact lv_pop hC.1 hC.2.1 hd hva (k p e s m args below meth c hC H locs la h1 h2 h3)
theorem vv_dup2 {va vb : Value} (hd : decode cc pc = .ok (.dup2, 1)) (hva : va.category = 1) (hvb : vb.category = 1) (k : mm_V l G own cc nL rt R kc ns Xt A Qf S (pc + 1) ls (va :: vb :: va :: vb :: st)) : mm_V l G own cc nL rt R kc ns Xt A Qf S pc ls (va :: vb :: st) := by
  intro p e s m args below meth c hC H locs la h1 h2 h3
  exact lv_dup2_11 hC.1 hC.2.1 hd hva hvb (k p e s m args below meth c hC H locs la h1 h2 h3)
theorem vv_lcmp {x y : Int64} (hd : decode cc pc = .ok (.lcmp, 1)) (k : mm_V l G own cc nL rt R kc ns Xt A Qf S (pc + 1) ls (.int (lg_cmp x y) :: st)) : mm_V l G own cc nL rt R kc ns Xt A Qf S pc ls (.long y :: .long x :: st) := by
  intro p e s m args below meth c hC H locs la h1 h2 h3
  exact W.lcmp hC.1 hC.2.1 hd (k p e s m args below meth c hC H locs la h1 h2 h3)
theorem vv_null  (hd : decode cc pc = .ok (.aconst_null, 1)) (k : mm_V l G own cc nL rt R kc ns Xt A Qf S (pc + 1) ls (.null :: st)) : mm_V l G own cc nL rt R kc ns Xt A Qf S pc ls (st) := by
  intro p e s m args below meth c hC H locs la h1 h2 h3
  exact lv_null hC.1 hC.2.1 hd (k p e s m args below meth c hC H locs la h1 h2 h3)
theorem vv_if_eq {x : Int32} {off : Int} {tgt : Nat} (hd : decode cc pc = .ok (.ifCond .eq off, 3)) (ht : (pc : Int) + off = (tgt : Int)) (kt : x = 0 → mm_V l G own cc nL rt R kc ns Xt A Qf S tgt ls st) (kf : ¬ x = 0 → mm_V l G own cc nL rt R kc ns Xt A Qf S (pc + 3) ls st) : mm_V l G own cc nL rt R kc ns Xt A Qf S pc ls (.int x :: st) := by
  intro p e s m args below meth c hC H locs la h1 h2 h3
  exact lv_if_eq hC.1 hC.2.1 hd ht (fun q => kt q p e s m args below meth c hC H locs la h1 h2 h3) (fun q => kf q p e s m args below meth c hC H locs la h1 h2 h3)
theorem vv_icmp_eq {x y : Int32} {off : Int} {tgt : Nat} (hd : decode cc pc = .ok (.if_icmp .eq off, 3)) (ht : (pc : Int) + off = (tgt : Int)) (kt : x = y → mm_V l G own cc nL rt R kc ns Xt A Qf S tgt ls st) (kf : ¬ x = y → mm_V l G own cc nL rt R kc ns Xt A Qf S (pc + 3) ls st) : mm_V l G own cc nL rt R kc ns Xt A Qf S pc ls (.int y :: .int x :: st) := by
  intro p e s m args below meth c hC H locs la h1 h2 h3
  exact lv_icmp_eq hC.1 hC.2.1 hd ht (fun q => kt q p e s m args below meth c hC H locs la h1 h2 h3) (fun q => kf q p e s m args below meth c hC H locs la h1 h2 h3)
theorem vv_if_ne {x : Int32} {off : Int} {tgt : Nat} (hd : decode cc pc = .ok (.ifCond .ne off, 3)) (ht : (pc : Int) + off = (tgt : Int)) (kt : ¬ x = 0 → mm_V l G own cc nL rt R kc ns Xt A Qf S tgt ls st) (kf : x = 0 → mm_V l G own cc nL rt R kc ns Xt A Qf S (pc + 3) ls st) : mm_V l G own cc nL rt R kc ns Xt A Qf S pc ls (.int x :: st) := by
  intro p e s m args below meth c hC H locs la h1 h2 h3
  exact lv_if_ne hC.1 hC.2.1 hd ht (fun q => kt q p e s m args below meth c hC H locs la h1 h2 h3) (fun q => kf q p e s m args below meth c hC H locs la h1 h2 h3)
theorem vv_icmp_ne {x y : Int32} {off : Int} {tgt : Nat} (hd : decode cc pc = .ok (.if_icmp .ne off, 3)) (ht : (pc : Int) + off = (tgt : Int)) (kt : ¬ x = y → mm_V l G own cc nL rt R kc ns Xt A Qf S tgt ls st) (kf : x = y → mm_V l G own cc nL rt R kc ns Xt A Qf S (pc + 3) ls st) : mm_V l G own cc nL rt R kc ns Xt A Qf S pc ls (.int y :: .int x :: st) := by
  intro p e s m args below meth c hC H locs la h1 h2 h3
  exact lv_icmp_ne hC.1 hC.2.1 hd ht (fun q => kt q p e s m args below meth c hC H locs la h1 h2 h3) (fun q => kf q p e s m args below meth c hC H locs la h1 h2 h3)
theorem vv_if_lt {x : Int32} {off : Int} {tgt : Nat} (hd : decode cc pc = .ok (.ifCond .lt off, 3)) (ht : (pc : Int) + off = (tgt : Int)) (kt : x < 0 → mm_V l G own cc nL rt R kc ns Xt A Qf S tgt ls st) (kf : ¬ x < 0 → mm_V l G own cc nL rt R kc ns Xt A Qf S (pc + 3) ls st) : mm_V l G own cc nL rt R kc ns Xt A Qf S pc ls (.int x :: st) := by
  intro p e s m args below meth c hC H locs la h1 h2 h3
  exact lv_if_lt hC.1 hC.2.1 hd ht (fun q => kt q p e s m args below meth c hC H locs la h1 h2 h3) (fun q => kf q p e s m args below meth c hC H locs la h1 h2 h3)
theorem vv_icmp_lt {x y : Int32} {off : Int} {tgt : Nat} (hd : decode cc pc = .ok (.if_icmp .lt off, 3)) (ht : (pc : Int) + off = (tgt : Int)) (kt : x < y → mm_V l G own cc nL rt R kc ns Xt A Qf S tgt ls st) (kf : ¬ x < y → mm_V l G own cc nL rt R kc ns Xt A Qf S (pc + 3) ls st) : mm_V l G own cc nL rt R kc ns Xt A Qf S pc ls (.int y :: .int x :: st) := by
  intro p e s m args below meth c hC H locs la h1 h2 h3
  exact lv_icmp_lt hC.1 hC.2.1 hd ht (fun q => kt q p e s m args below meth c hC H locs la h1 h2 h3) (fun q => kf q p e s m args below meth c hC H locs la h1 h2 h3)
theorem vv_if_ge {x : Int32} {off : Int} {tgt : Nat} (hd : decode cc pc = .ok (.ifCond .ge off, 3)) (ht : (pc : Int) + off = (tgt : Int)) (kt : 0 ≤ x → mm_V l G own cc nL rt R kc ns Xt A Qf S tgt ls st) (kf : ¬ 0 ≤ x → mm_V l G own cc nL rt R kc ns Xt A Qf S (pc + 3) ls st) : mm_V l G own cc nL rt R kc ns Xt A Qf S pc ls (.int x :: st) := by
  intro p e s m args below meth c hC H locs la h1 h2 h3
  exact lv_if_ge hC.1 hC.2.1 hd ht (fun q => kt q p e s m args below meth c hC H locs la h1 h2 h3) (fun q => kf q p e s m args below meth c hC H locs la h1 h2 h3)
theorem vv_icmp_ge {x y : Int32} {off : Int} {tgt : Nat} (hd : decode cc pc = .ok (.if_icmp .ge off, 3)) (ht : (pc : Int) + off = (tgt : Int)) (kt : y ≤ x → mm_V l G own cc nL rt R kc ns Xt A Qf S tgt ls st) (kf : ¬ y ≤ x → mm_V l G own cc nL rt R kc ns Xt A Qf S (pc + 3) ls st) : mm_V l G own cc nL rt R kc ns Xt A Qf S pc ls (.int y :: .int x :: st) := by
  intro p e s m args below meth c hC H locs la h1 h2 h3
  exact lv_icmp_ge hC.1 hC.2.1 hd ht (fun q => kt q p e s m args below meth c hC H locs la h1 h2 h3) (fun q => kf q p e s m args below meth c hC H locs la h1 h2 h3)
theorem vv_if_gt {x : Int32} {off : Int} {tgt : Nat} (hd : decode cc pc = .ok (.ifCond .gt off, 3)) (ht : (pc : Int) + off = (tgt : Int)) (kt : 0 < x → mm_V l G own cc nL rt R kc ns Xt A Qf S tgt ls st) (kf : ¬ 0 < x → mm_V l G own cc nL rt R kc ns Xt A Qf S (pc + 3) ls st) : mm_V l G own cc nL rt R kc ns Xt A Qf S pc ls (.int x :: st) := by
  intro p e s m args below meth c hC H locs la h1 h2 h3
  exact lv_if_gt hC.1 hC.2.1 hd ht (fun q => kt q p e s m args below meth c hC H locs la h1 h2 h3) (fun q => kf q p e s m args below meth c hC H locs la h1 h2 h3)
theorem vv_icmp_gt {x y : Int32} {off : Int} {tgt : Nat} (hd : decode cc pc = .ok (.if_icmp .gt off, 3)) (ht : (pc : Int) + off = (tgt : Int)) (kt : y < x → mm_V l G own cc nL rt R kc ns Xt A Qf S tgt ls st) (kf : ¬ y < x → mm_V l G own cc nL rt R kc ns Xt A Qf S (pc + 3) ls st) : mm_V l G own cc nL rt R kc ns Xt A Qf S pc ls (.int y :: .int x :: st) := by
  intro p e s m args below meth c hC H locs la h1 h2 h3
  exact lv_icmp_gt hC.1 hC.2.1 hd ht (fun q => kt q p e s m args below meth c hC H locs la h1 h2 h3) (fun q => kf q p e s m args below meth c hC H locs la h1 h2 h3)
theorem vv_if_le {x : Int32} {off : Int} {tgt : Nat} (hd : decode cc pc = .ok (.ifCond .le off, 3)) (ht : (pc : Int) + off = (tgt : Int)) (kt : x ≤ 0 → mm_V l G own cc nL rt R kc ns Xt A Qf S tgt ls st) (kf : ¬ x ≤ 0 → mm_V l G own cc nL rt R kc ns Xt A Qf S (pc + 3) ls st) : mm_V l G own cc nL rt R kc ns Xt A Qf S pc ls (.int x :: st) := by
  intro p e s m args below meth c hC H locs la h1 h2 h3
  exact lv_if_le hC.1 hC.2.1 hd ht (fun q => kt q p e s m args below meth c hC H locs la h1 h2 h3) (fun q => kf q p e s m args below meth c hC H locs la h1 h2 h3)
theorem vv_icmp_le {x y : Int32} {off : Int} {tgt : Nat} (hd : decode cc pc = .ok (.if_icmp .le off, 3)) (ht : (pc : Int) + off = (tgt : Int)) (kt : x ≤ y → mm_V l G own cc nL rt R kc ns Xt A Qf S tgt ls st) (kf : ¬ x ≤ y → mm_V l G own cc nL rt R kc ns Xt A Qf S (pc + 3) ls st) : mm_V l G own cc nL rt R kc ns Xt A Qf S pc ls (.int y :: .int x :: st) := by
  intro p e s m args below meth c hC H locs la h1 h2 h3
  exact lv_icmp_le hC.1 hC.2.1 hd ht (fun q => kt q p e s m args below meth c hC H locs la h1 h2 h3) (fun q => kf q p e s m args below meth c hC H locs la h1 h2 h3)
theorem vv_goto {off : Int} {tgt : Nat} (hd : decode cc pc = .ok (.goto off, 3)) (ht : (pc : Int) + off = (tgt : Int)) (k : mm_V l G own cc nL rt R kc ns Xt A Qf S tgt ls st) : mm_V l G own cc nL rt R kc ns Xt A Qf S pc ls st := by
  intro p e s m args below meth c hC H locs la h1 h2 h3
  exact lv_goto hC.1 hC.2.1 hd ht (k p e s m args below meth c hC H locs la h1 h2 h3)
theorem vv_ifnonnull {x : Nat} {off : Int} {tgt : Nat} (hd : decode cc pc = .ok (.ifnonnull off, 3)) (ht : (pc : Int) + off = (tgt : Int)) (k : mm_V l G own cc nL rt R kc ns Xt A Qf S tgt ls st) : mm_V l G own cc nL rt R kc ns Xt A Qf S pc ls (.ref x :: st) := by
  intro p e s m args below meth c hC H locs la h1 h2 h3
  exact lv_ifnonnull hC.1 hC.2.1 hd ht (k p e s m args below meth c hC H locs la h1 h2 h3)
theorem vv_ifnonnullN {off : Int} (hd : decode cc pc = .ok (.ifnonnull off, 3)) (k : mm_V l G own cc nL rt R kc ns Xt A Qf S (pc + 3) ls st) : mm_V l G own cc nL rt R kc ns Xt A Qf S pc ls (.null :: st) := by
  intro p e s m args below meth c hC H locs la h1 h2 h3
  exact lv_ifnonnullN hC.1 hC.2.1 hd (k p e s m args below meth c hC H locs la h1 h2 h3)
theorem vv_ifnull {x : Nat} {off : Int} (hd : decode cc pc = .ok (.ifnull off, 3)) (k : mm_V l G own cc nL rt R kc ns Xt A Qf S (pc + 3) ls st) : mm_V l G own cc nL rt R kc ns Xt A Qf S pc ls (.ref x :: st) := by
  intro p e s m args below meth c hC H locs la h1 h2 h3
  exact lv_ifnull hC.1 hC.2.1 hd (k p e s m args below meth c hC H locs la h1 h2 h3)
theorem vv_ifnullN {off : Int} {tgt : Nat} (hd : decode cc pc = .ok (.ifnull off, 3)) (ht : (pc : Int) + off = (tgt : Int)) (k : mm_V l G own cc nL rt R kc ns Xt A Qf S tgt ls st) : mm_V l G own cc nL rt R kc ns Xt A Qf S pc ls (.null :: st) := by
  intro p e s m args below meth c hC H locs la h1 h2 h3
  exact lv_ifnullN hC.1 hC.2.1 hd ht (k p e s m args below meth c hC H locs la h1 h2 h3)
theorem vv_ldc {index : Nat} {v : Int32} (hc : Jvm.Cond.constant own index v ∈ WW) (hd : decode cc pc = .ok (.ldc index, 2)) (k : mm_V l G own cc nL rt R kc ns Xt A Qf S (pc + 2) ls (.int v :: st)) : mm_V l G own cc nL rt R kc ns Xt A Qf S pc ls st := by
  intro p e s m args below meth c hC H locs la h1 h2 h3
  exact lv_ldc hC.1 hC.2.1 hC.2.2.2.2.1 (hC.2.2.2.2.2.1 _ hc) hd (k p e s m args below meth c hC H locs la h1 h2 h3)
theorem vv_ldcw {index : Nat} {v : Int32} (hc : Jvm.Cond.constant own index v ∈ WW) (hd : decode cc pc = .ok (.ldc_w index, 3)) (k : mm_V l G own cc nL rt R kc ns Xt A Qf S (pc + 3) ls (.int v :: st)) : mm_V l G own cc nL rt R kc ns Xt A Qf S pc ls st := by
  intro p e s m args below meth c hC H locs la h1 h2 h3
  exact lv_ldcw hC.1 hC.2.1 hC.2.2.2.2.1 (hC.2.2.2.2.2.1 _ hc) hd (k p e s m args below meth c hC H locs la h1 h2 h3)
theorem vv_ldc2 {index : Nat} {v : Int64} (hc : Jvm.Cond.constantLong own index v ∈ WW) (hd : decode cc pc = .ok (.ldc2_w index, 3)) (k : mm_V l G own cc nL rt R kc ns Xt A Qf S (pc + 3) ls (.long v :: st)) : mm_V l G own cc nL rt R kc ns Xt A Qf S pc ls st := by
  intro p e s m args below meth c hC H locs la h1 h2 h3
  exact lv_ldc2 hC.1 hC.2.1 hC.2.2.2.2.1 (hC.2.2.2.2.2.1 _ hc) hd (k p e s m args below meth c hC H locs la h1 h2 h3)
theorem vv_lookup {dflt : Int} {ps : Array (Int × Int)} {len : Nat} {x : Int32} {off : Int} {tgt : Nat} (hd : decode cc pc = .ok (.lookupswitch dflt ps, len)) (hp : (ps.toList.zip (ps.toList.drop 1)).all (fun (a, next) => a.1 < next.1) = true) (ho : Op.lookupswitch.offset ps.toList dflt x.toInt = off) (ht : (pc : Int) + off = (tgt : Int)) (k : mm_V l G own cc nL rt R kc ns Xt A Qf S tgt ls st) : mm_V l G own cc nL rt R kc ns Xt A Qf S pc ls (.int x :: st) := by
  intro p e s m args below meth c hC H locs la h1 h2 h3
  exact lv_lookup hC.1 hC.2.1 hd hp ho ht (k p e s m args below meth c hC H locs la h1 h2 h3)
theorem vv_tableOut {dflt lo hi : Int} {offs : Array Int} {len : Nat} {x : Int32} {tgt : Nat} (hd : decode cc pc = .ok (.tableswitch dflt lo hi offs, len)) (h : x.toInt < lo ∨ hi < x.toInt) (ht : (pc : Int) + dflt = (tgt : Int)) (k : mm_V l G own cc nL rt R kc ns Xt A Qf S tgt ls st) : mm_V l G own cc nL rt R kc ns Xt A Qf S pc ls (.int x :: st) := by
  intro p e s m args below meth c hC H locs la h1 h2 h3
  exact lv_tableOut hC.1 hC.2.1 hd h ht (k p e s m args below meth c hC H locs la h1 h2 h3)
theorem vv_tableIn {dflt lo hi : Int} {offs : Array Int} {len : Nat} {x : Int32} {off : Int} {tgt : Nat} (hd : decode cc pc = .ok (.tableswitch dflt lo hi offs, len)) (q1 : ¬ x.toInt < lo) (q2 : ¬ hi < x.toInt) (ho : offs[(x.toInt - lo).toNat]? = some off) (ht : (pc : Int) + off = (tgt : Int)) (k : mm_V l G own cc nL rt R kc ns Xt A Qf S tgt ls st) : mm_V l G own cc nL rt R kc ns Xt A Qf S pc ls (.int x :: st) := by
  intro p e s m args below meth c hC H locs la h1 h2 h3
  exact lv_tableIn hC.1 hC.2.1 hd q1 q2 ho ht (k p e s m args below meth c hC H locs la h1 h2 h3)
end VR
