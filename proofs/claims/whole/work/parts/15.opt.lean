section VO
variable {l : Launch} {G : gG} {own : String} {cc : ByteArray} {nL : Nat} {rt : Option FieldType} {R : Room} {kc ns : Nat} {Xt : State → Prop} {A : State → Nat → Prop} {Qf : List Frame → Array Value → State → State → Prop} {S : Mem} {pc : Nat} {ls ls' : List (Nat × Value)} {st : List Value}
theorem vv_astore_nQ {kf : Fin 4} {i : Nat} {o : Option Nat} (hd : decode cc pc = .ok (.astore_n kf, 1)) (hi : (kf : Nat) = i) (hn : i < nL) (hl : (i, va_rf o) :: ls.filter (fun q => !(q.1 == i) && !(q.1 + 1 == i && q.2.category == 2)) = ls') (k : mm_V l G own cc nL rt R kc ns Xt A Qf S (pc + 1) ls' st) : mm_V l G own cc nL rt R kc ns Xt A Qf S pc ls (va_rf o :: st) := by
  cases o with
  | none => exact vv_astore_nN hd hi hn hl k
  | some a => exact vv_astore_n hd hi hn hl k
theorem vv_aload_nQ {kf : Fin 4} {i : Nat} {o : Option Nat} (q : Nat) (hd : decode cc pc = .ok (.aload_n kf, 1)) (hi : (kf : Nat) = i) (hl : ls[q]? = some (i, va_rf o)) (k : mm_V l G own cc nL rt R kc ns Xt A Qf S (pc + 1) ls (va_rf o :: st)) : mm_V l G own cc nL rt R kc ns Xt A Qf S pc ls st := by
  cases o with
  | none => exact vv_aload_nN q hd hi hl k
  | some a => exact vv_aload_n q hd hi hl k
end VO
theorem mm_rfcat (o : Option Nat) : (va_rf o).category = 1 := by cases o <;> rfl
theorem vr_qo {l : Launch} {G : gG} {own : String} {cc : ByteArray} {nL : Nat} {R : Room} {Xt : State → Prop} {S : Mem} {pc : Nat} {ls : List (Nat × Value)} {C : String} {P : Option Nat → Mem → Prop} {o : Option Nat} (hd : decode cc pc = .ok (.areturn, 1)) (h : P o S) : mm_V l G own cc nL (some (.object C)) R 0 0 Xt (fun _ => mm_F G) (mm_Qf G (mm_Qq G P)) S pc ls [va_rf o] := by
  cases o with
  | none => exact vr_qN hd h
  | some a => exact vr_q hd h
