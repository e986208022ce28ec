section
-- ===== PART A: goes FIRST, ahead of the names: the tables' words, and 'selects' of the private methods out of them =====
/-- a private method of a class that the tables say can be made, by its rows of tables_1 -/
def lw_okq (q : MethodName × Nat) : Prop := (q.1.cls ≠ "java/lang/invoke/MethodHandle" ∧ q.1.cls ≠ "java/lang/invoke/VarHandle") ∧ Cond.instantiable q.1.cls q.2 ∈ tables_1 ∧ Cond.privateMethod q.1 ∈ tables_1 ∧ Cond.instanceMethod q.1 ∈ tables_1
theorem lw_p0 : lw_okq (⟨"SingingWires", "fallenWith", "(I)I"⟩, 6) := ⟨⟨by decide +kernel, by decide +kernel⟩, List.mem_of_getElem? (i := 11) (by decide +kernel), List.mem_of_getElem? (i := 444) (by decide +kernel), List.mem_of_getElem? (i := 445) (by decide +kernel)⟩
theorem lw_p1 : lw_okq (⟨"SingingWires", "ordersCarriedOut", "()I"⟩, 6) := ⟨⟨by decide +kernel, by decide +kernel⟩, List.mem_of_getElem? (i := 11) (by decide +kernel), List.mem_of_getElem? (i := 549) (by decide +kernel), List.mem_of_getElem? (i := 550) (by decide +kernel)⟩
theorem lw_p2 : lw_okq (⟨"SingingWires", "answerTo", "(CII)I"⟩, 6) := ⟨⟨by decide +kernel, by decide +kernel⟩, List.mem_of_getElem? (i := 11) (by decide +kernel), List.mem_of_getElem? (i := 565) (by decide +kernel), List.mem_of_getElem? (i := 566) (by decide +kernel)⟩
theorem lw_p3 : lw_okq (⟨"SingingWiresModel", "record", "()V"⟩, 14) := ⟨⟨by decide +kernel, by decide +kernel⟩, List.mem_of_getElem? (i := 586) (by decide +kernel), List.mem_of_getElem? (i := 642) (by decide +kernel), List.mem_of_getElem? (i := 643) (by decide +kernel)⟩
theorem lw_p4 : lw_okq (⟨"SingingWiresModel", "wireAt", "(I)I"⟩, 14) := ⟨⟨by decide +kernel, by decide +kernel⟩, List.mem_of_getElem? (i := 586) (by decide +kernel), List.mem_of_getElem? (i := 651) (by decide +kernel), List.mem_of_getElem? (i := 652) (by decide +kernel)⟩
theorem lw_p5 : lw_okq (⟨"SingingWiresModel", "of", "(II)I"⟩, 14) := ⟨⟨by decide +kernel, by decide +kernel⟩, List.mem_of_getElem? (i := 586) (by decide +kernel), List.mem_of_getElem? (i := 655) (by decide +kernel), List.mem_of_getElem? (i := 656) (by decide +kernel)⟩
theorem lw_p6 : lw_okq (⟨"SingingWiresModel", "book", "(III)V"⟩, 14) := ⟨⟨by decide +kernel, by decide +kernel⟩, List.mem_of_getElem? (i := 586) (by decide +kernel), List.mem_of_getElem? (i := 659) (by decide +kernel), List.mem_of_getElem? (i := 660) (by decide +kernel)⟩
theorem lw_p7 : lw_okq (⟨"SingingWiresModel", "settle", "()I"⟩, 14) := ⟨⟨by decide +kernel, by decide +kernel⟩, List.mem_of_getElem? (i := 586) (by decide +kernel), List.mem_of_getElem? (i := 663) (by decide +kernel), List.mem_of_getElem? (i := 664) (by decide +kernel)⟩
theorem lw_p8 : lw_okq (⟨"SingingWiresModel", "burst", "()I"⟩, 14) := ⟨⟨by decide +kernel, by decide +kernel⟩, List.mem_of_getElem? (i := 586) (by decide +kernel), List.mem_of_getElem? (i := 667) (by decide +kernel), List.mem_of_getElem? (i := 668) (by decide +kernel)⟩
theorem lw_p9 : lw_okq (⟨"SingingWiresModel", "wholeBy", "(I)I"⟩, 14) := ⟨⟨by decide +kernel, by decide +kernel⟩, List.mem_of_getElem? (i := 586) (by decide +kernel), List.mem_of_getElem? (i := 671) (by decide +kernel), List.mem_of_getElem? (i := 672) (by decide +kernel)⟩
theorem lw_p10 : lw_okq (⟨"SingingWiresModel", "layTasks", "(I)V"⟩, 14) := ⟨⟨by decide +kernel, by decide +kernel⟩, List.mem_of_getElem? (i := 586) (by decide +kernel), List.mem_of_getElem? (i := 675) (by decide +kernel), List.mem_of_getElem? (i := 676) (by decide +kernel)⟩
theorem lw_p11 : lw_okq (⟨"SingingWiresModel", "nearest", "(III)I"⟩, 14) := ⟨⟨by decide +kernel, by decide +kernel⟩, List.mem_of_getElem? (i := 586) (by decide +kernel), List.mem_of_getElem? (i := 679) (by decide +kernel), List.mem_of_getElem? (i := 680) (by decide +kernel)⟩
theorem lw_p12 : lw_okq (⟨"SingingWiresModel", "isWhole", "(I)Z"⟩, 14) := ⟨⟨by decide +kernel, by decide +kernel⟩, List.mem_of_getElem? (i := 586) (by decide +kernel), List.mem_of_getElem? (i := 683) (by decide +kernel), List.mem_of_getElem? (i := 684) (by decide +kernel)⟩
theorem lw_p13 : lw_okq (⟨"SingingWiresModel", "breakWire", "(I)V"⟩, 14) := ⟨⟨by decide +kernel, by decide +kernel⟩, List.mem_of_getElem? (i := 586) (by decide +kernel), List.mem_of_getElem? (i := 687) (by decide +kernel), List.mem_of_getElem? (i := 688) (by decide +kernel)⟩
theorem lw_p14 : lw_okq (⟨"SingingWiresModel", "pass", "()I"⟩, 14) := ⟨⟨by decide +kernel, by decide +kernel⟩, List.mem_of_getElem? (i := 586) (by decide +kernel), List.mem_of_getElem? (i := 699) (by decide +kernel), List.mem_of_getElem? (i := 700) (by decide +kernel)⟩
theorem lw_p15 : lw_okq (⟨"SingingWiresModel", "loosened", "(I)I"⟩, 14) := ⟨⟨by decide +kernel, by decide +kernel⟩, List.mem_of_getElem? (i := 586) (by decide +kernel), List.mem_of_getElem? (i := 703) (by decide +kernel), List.mem_of_getElem? (i := 704) (by decide +kernel)⟩
def lw_privs_1 : List (MethodName × Nat) := [(⟨"SingingWires", "fallenWith", "(I)I"⟩, 6), (⟨"SingingWires", "ordersCarriedOut", "()I"⟩, 6), (⟨"SingingWires", "answerTo", "(CII)I"⟩, 6), (⟨"SingingWiresModel", "record", "()V"⟩, 14), (⟨"SingingWiresModel", "wireAt", "(I)I"⟩, 14), (⟨"SingingWiresModel", "of", "(II)I"⟩, 14), (⟨"SingingWiresModel", "book", "(III)V"⟩, 14), (⟨"SingingWiresModel", "settle", "()I"⟩, 14), (⟨"SingingWiresModel", "burst", "()I"⟩, 14), (⟨"SingingWiresModel", "wholeBy", "(I)I"⟩, 14), (⟨"SingingWiresModel", "layTasks", "(I)V"⟩, 14), (⟨"SingingWiresModel", "nearest", "(III)I"⟩, 14), (⟨"SingingWiresModel", "isWhole", "(I)Z"⟩, 14), (⟨"SingingWiresModel", "breakWire", "(I)V"⟩, 14), (⟨"SingingWiresModel", "pass", "()I"⟩, 14), (⟨"SingingWiresModel", "loosened", "(I)I"⟩, 14)]
theorem lw_r1 : ∀ q ∈ lw_privs_1, lw_okq q := List.forall_mem_cons.mpr ⟨lw_p0, List.forall_mem_cons.mpr ⟨lw_p1, List.forall_mem_cons.mpr ⟨lw_p2, List.forall_mem_cons.mpr ⟨lw_p3, List.forall_mem_cons.mpr ⟨lw_p4, List.forall_mem_cons.mpr ⟨lw_p5, List.forall_mem_cons.mpr ⟨lw_p6, List.forall_mem_cons.mpr ⟨lw_p7, List.forall_mem_cons.mpr ⟨lw_p8, List.forall_mem_cons.mpr ⟨lw_p9, List.forall_mem_cons.mpr ⟨lw_p10, List.forall_mem_cons.mpr ⟨lw_p11, List.forall_mem_cons.mpr ⟨lw_p12, List.forall_mem_cons.mpr ⟨lw_p13, List.forall_mem_cons.mpr ⟨lw_p14, List.forall_mem_cons.mpr ⟨lw_p15, fun _ h => absurd h List.not_mem_nil⟩⟩⟩⟩⟩⟩⟩⟩⟩⟩⟩⟩⟩⟩⟩⟩
theorem lw_p16 : lw_okq (⟨"SingingWiresModel", "know", "(III)V"⟩, 14) := ⟨⟨by decide +kernel, by decide +kernel⟩, List.mem_of_getElem? (i := 586) (by decide +kernel), List.mem_of_getElem? (i := 715) (by decide +kernel), List.mem_of_getElem? (i := 716) (by decide +kernel)⟩
theorem lw_p17 : lw_okq (⟨"SingingWiresModel", "pitch", "(II)I"⟩, 14) := ⟨⟨by decide +kernel, by decide +kernel⟩, List.mem_of_getElem? (i := 586) (by decide +kernel), List.mem_of_getElem? (i := 719) (by decide +kernel), List.mem_of_getElem? (i := 720) (by decide +kernel)⟩
theorem lw_p18 : lw_okq (⟨"SingingWiresModel", "weight", "(I)J"⟩, 14) := ⟨⟨by decide +kernel, by decide +kernel⟩, List.mem_of_getElem? (i := 586) (by decide +kernel), List.mem_of_getElem? (i := 724) (by decide +kernel), List.mem_of_getElem? (i := 725) (by decide +kernel)⟩
theorem lw_p19 : lw_okq (⟨"SingingWiresModel", "leastFor", "(II)J"⟩, 14) := ⟨⟨by decide +kernel, by decide +kernel⟩, List.mem_of_getElem? (i := 586) (by decide +kernel), List.mem_of_getElem? (i := 728) (by decide +kernel), List.mem_of_getElem? (i := 729) (by decide +kernel)⟩
theorem lw_p20 : lw_okq (⟨"SingingWiresModel", "isWire", "(I)Z"⟩, 14) := ⟨⟨by decide +kernel, by decide +kernel⟩, List.mem_of_getElem? (i := 586) (by decide +kernel), List.mem_of_getElem? (i := 741) (by decide +kernel), List.mem_of_getElem? (i := 742) (by decide +kernel)⟩
theorem lw_p21 : lw_okq (⟨"SingingWiresModel", "isSlack", "(I)Z"⟩, 14) := ⟨⟨by decide +kernel, by decide +kernel⟩, List.mem_of_getElem? (i := 586) (by decide +kernel), List.mem_of_getElem? (i := 745) (by decide +kernel), List.mem_of_getElem? (i := 746) (by decide +kernel)⟩
theorem lw_p22 : lw_okq (⟨"SingingWiresModel", "isTight", "(I)Z"⟩, 14) := ⟨⟨by decide +kernel, by decide +kernel⟩, List.mem_of_getElem? (i := 586) (by decide +kernel), List.mem_of_getElem? (i := 749) (by decide +kernel), List.mem_of_getElem? (i := 750) (by decide +kernel)⟩
theorem lw_p23 : lw_okq (⟨"SingingWiresModel", "isSurely", "(I)Z"⟩, 14) := ⟨⟨by decide +kernel, by decide +kernel⟩, List.mem_of_getElem? (i := 586) (by decide +kernel), List.mem_of_getElem? (i := 757) (by decide +kernel), List.mem_of_getElem? (i := 758) (by decide +kernel)⟩
theorem lw_p24 : lw_okq (⟨"SingingWiresModel", "mayBe", "(I)Z"⟩, 14) := ⟨⟨by decide +kernel, by decide +kernel⟩, List.mem_of_getElem? (i := 586) (by decide +kernel), List.mem_of_getElem? (i := 761) (by decide +kernel), List.mem_of_getElem? (i := 762) (by decide +kernel)⟩
theorem lw_p25 : lw_okq (⟨"SingingWiresModel", "wiresWith", "(I)I"⟩, 14) := ⟨⟨by decide +kernel, by decide +kernel⟩, List.mem_of_getElem? (i := 586) (by decide +kernel), List.mem_of_getElem? (i := 769) (by decide +kernel), List.mem_of_getElem? (i := 770) (by decide +kernel)⟩
theorem lw_p26 : lw_okq (⟨"SingingWiresModel", "loads", "()I"⟩, 14) := ⟨⟨by decide +kernel, by decide +kernel⟩, List.mem_of_getElem? (i := 586) (by decide +kernel), List.mem_of_getElem? (i := 773) (by decide +kernel), List.mem_of_getElem? (i := 774) (by decide +kernel)⟩
theorem lw_p27 : lw_okq (⟨"SingingWiresModel", "fallen", "(I)I"⟩, 14) := ⟨⟨by decide +kernel, by decide +kernel⟩, List.mem_of_getElem? (i := 586) (by decide +kernel), List.mem_of_getElem? (i := 790) (by decide +kernel), List.mem_of_getElem? (i := 791) (by decide +kernel)⟩
theorem lw_p28 : lw_okq (⟨"SingingWiresModel", "keep", "()V"⟩, 14) := ⟨⟨by decide +kernel, by decide +kernel⟩, List.mem_of_getElem? (i := 586) (by decide +kernel), List.mem_of_getElem? (i := 794) (by decide +kernel), List.mem_of_getElem? (i := 795) (by decide +kernel)⟩
theorem lw_p29 : lw_okq (⟨"SingingWiresModel", "comeBack", "()V"⟩, 14) := ⟨⟨by decide +kernel, by decide +kernel⟩, List.mem_of_getElem? (i := 586) (by decide +kernel), List.mem_of_getElem? (i := 798) (by decide +kernel), List.mem_of_getElem? (i := 799) (by decide +kernel)⟩
theorem lw_p30 : lw_okq (⟨"SingingWiresModel", "faultOf", "()I"⟩, 14) := ⟨⟨by decide +kernel, by decide +kernel⟩, List.mem_of_getElem? (i := 586) (by decide +kernel), List.mem_of_getElem? (i := 834) (by decide +kernel), List.mem_of_getElem? (i := 835) (by decide +kernel)⟩
theorem lw_p31 : lw_okq (⟨"SingingWiresModel", "readOne", "()V"⟩, 14) := ⟨⟨by decide +kernel, by decide +kernel⟩, List.mem_of_getElem? (i := 586) (by decide +kernel), List.mem_of_getElem? (i := 838) (by decide +kernel), List.mem_of_getElem? (i := 839) (by decide +kernel)⟩
def lw_privs_2 : List (MethodName × Nat) := [(⟨"SingingWiresModel", "know", "(III)V"⟩, 14), (⟨"SingingWiresModel", "pitch", "(II)I"⟩, 14), (⟨"SingingWiresModel", "weight", "(I)J"⟩, 14), (⟨"SingingWiresModel", "leastFor", "(II)J"⟩, 14), (⟨"SingingWiresModel", "isWire", "(I)Z"⟩, 14), (⟨"SingingWiresModel", "isSlack", "(I)Z"⟩, 14), (⟨"SingingWiresModel", "isTight", "(I)Z"⟩, 14), (⟨"SingingWiresModel", "isSurely", "(I)Z"⟩, 14), (⟨"SingingWiresModel", "mayBe", "(I)Z"⟩, 14), (⟨"SingingWiresModel", "wiresWith", "(I)I"⟩, 14), (⟨"SingingWiresModel", "loads", "()I"⟩, 14), (⟨"SingingWiresModel", "fallen", "(I)I"⟩, 14), (⟨"SingingWiresModel", "keep", "()V"⟩, 14), (⟨"SingingWiresModel", "comeBack", "()V"⟩, 14), (⟨"SingingWiresModel", "faultOf", "()I"⟩, 14), (⟨"SingingWiresModel", "readOne", "()V"⟩, 14)]
theorem lw_r2 : ∀ q ∈ lw_privs_2, lw_okq q := List.forall_mem_cons.mpr ⟨lw_p16, List.forall_mem_cons.mpr ⟨lw_p17, List.forall_mem_cons.mpr ⟨lw_p18, List.forall_mem_cons.mpr ⟨lw_p19, List.forall_mem_cons.mpr ⟨lw_p20, List.forall_mem_cons.mpr ⟨lw_p21, List.forall_mem_cons.mpr ⟨lw_p22, List.forall_mem_cons.mpr ⟨lw_p23, List.forall_mem_cons.mpr ⟨lw_p24, List.forall_mem_cons.mpr ⟨lw_p25, List.forall_mem_cons.mpr ⟨lw_p26, List.forall_mem_cons.mpr ⟨lw_p27, List.forall_mem_cons.mpr ⟨lw_p28, List.forall_mem_cons.mpr ⟨lw_p29, List.forall_mem_cons.mpr ⟨lw_p30, List.forall_mem_cons.mpr ⟨lw_p31, fun _ h => absurd h List.not_mem_nil⟩⟩⟩⟩⟩⟩⟩⟩⟩⟩⟩⟩⟩⟩⟩⟩
theorem lw_p32 : lw_okq (⟨"SingingWiresModel", "sign", "()I"⟩, 14) := ⟨⟨by decide +kernel, by decide +kernel⟩, List.mem_of_getElem? (i := 586) (by decide +kernel), List.mem_of_getElem? (i := 842) (by decide +kernel), List.mem_of_getElem? (i := 843) (by decide +kernel)⟩
theorem lw_p33 : lw_okq (⟨"SingingWiresModel", "number", "()I"⟩, 14) := ⟨⟨by decide +kernel, by decide +kernel⟩, List.mem_of_getElem? (i := 586) (by decide +kernel), List.mem_of_getElem? (i := 846) (by decide +kernel), List.mem_of_getElem? (i := 847) (by decide +kernel)⟩
theorem lw_p34 : lw_okq (⟨"SingingWiresModel", "carry", "(I)I"⟩, 14) := ⟨⟨by decide +kernel, by decide +kernel⟩, List.mem_of_getElem? (i := 586) (by decide +kernel), List.mem_of_getElem? (i := 855) (by decide +kernel), List.mem_of_getElem? (i := 856) (by decide +kernel)⟩
def lw_privs_3 : List (MethodName × Nat) := [(⟨"SingingWiresModel", "sign", "()I"⟩, 14), (⟨"SingingWiresModel", "number", "()I"⟩, 14), (⟨"SingingWiresModel", "carry", "(I)I"⟩, 14)]
theorem lw_r3 : ∀ q ∈ lw_privs_3, lw_okq q := List.forall_mem_cons.mpr ⟨lw_p32, List.forall_mem_cons.mpr ⟨lw_p33, List.forall_mem_cons.mpr ⟨lw_p34, fun _ h => absurd h List.not_mem_nil⟩⟩⟩
def lw_privs : List (MethodName × Nat) := lw_privs_1 ++ (lw_privs_2 ++ (lw_privs_3))
def lw_tbl : List Cond := k2_sels lw_privs ++ tables_1
theorem lw_privs_ok : ∀ q ∈ lw_privs, lw_okq q := by
  show ∀ q ∈ lw_privs_1 ++ (lw_privs_2 ++ (lw_privs_3)), lw_okq q
  exact List.forall_mem_append.mpr ⟨lw_r1, List.forall_mem_append.mpr ⟨lw_r2, lw_r3⟩⟩
end
section
def RX0 : String := "SingingWires$Bridge"
def TX0 : u_T := fun k => match k with
  | 0 => ("SingingWires$Bridge", "loads", "[I", true)
  | 1 => ("SingingWires$Bridge", "wireAt", "[I", true)
  | 2 => ("SingingWires$Bridge", "wires", "[LSingingWires$Wire;", true)
  | 3 => ("SingingWires$Bridge", "wireCount", "I", false)
  | 4 => ("SingingWires$Bridge", "creep", "I", false)
  | 5 => ("SingingWires$Bridge", "spare", "I", false)
  | 6 => ("SingingWires$Bridge", "day", "I", false)
  | 7 => ("SingingWires$Bridge", "place", "I", false)
  | _ => ("SingingWires$Bridge", "walked", "I", false)
def tyX0 : Nat → FieldType := fun k => match k with
  | 0 => .array .int
  | 1 => .array .int
  | 2 => .array (.object "SingingWires$Wire")
  | 3 => .int
  | 4 => .int
  | 5 => .int
  | 6 => .int
  | 7 => .int
  | _ => .int
abbrev wsX00 : List Cond := u_ws RX0 TX0 9
theorem nmX0 : ∀ a, a < 9 → ∀ b, b < 9 → a ≠ b → (TX0 a).2.1 ≠ (TX0 b).2.1 := by decide +kernel
theorem tyX0_ok : ∀ k, k < 9 → parseFieldDescriptor (TX0 k).2.2.1 = some (tyX0 k) := by decide +kernel
abbrev cX0_init : ByteArray := prog_2_method_1_code
def yX0_init : MethodName := ⟨RX0, "<init>", "()V"⟩
abbrev cX0_takeFrom : ByteArray := prog_2_method_2_code
def yX0_takeFrom : MethodName := ⟨RX0, "takeFrom", "(LSingingWires$Bridge;)V"⟩
abbrev cX0_takeAsHeard : ByteArray := prog_2_method_3_code
def yX0_takeAsHeard : MethodName := ⟨RX0, "takeAsHeard", "(LSingingWires$Bridge;)V"⟩
abbrev cX0_wireNumbered : ByteArray := prog_2_method_4_code
def yX0_wireNumbered : MethodName := ⟨RX0, "wireNumbered", "(I)LSingingWires$Wire;"⟩
abbrev cX0_changeSetting : ByteArray := prog_2_method_5_code
def yX0_changeSetting : MethodName := ⟨RX0, "changeSetting", "(II)I"⟩
abbrev cX0_hang : ByteArray := prog_2_method_6_code
def yX0_hang : MethodName := ⟨RX0, "hang", "(IIIII)I"⟩
abbrev cX0_changeLoad : ByteArray := prog_2_method_7_code
def yX0_changeLoad : MethodName := ⟨RX0, "changeLoad", "(II)I"⟩
abbrev cX0_letPass : ByteArray := prog_2_method_8_code
def yX0_letPass : MethodName := ⟨RX0, "letPass", "(I)I"⟩
abbrev cX0_goTo : ByteArray := prog_2_method_9_code
def yX0_goTo : MethodName := ⟨RX0, "goTo", "(I)I"⟩
abbrev cX0_wireHere : ByteArray := prog_2_method_10_code
def yX0_wireHere : MethodName := ⟨RX0, "wireHere", "()LSingingWires$Wire;"⟩
abbrev cX0_listen : ByteArray := prog_2_method_11_code
def yX0_listen : MethodName := ⟨RX0, "listen", "()I"⟩
abbrev cX0_changeTension : ByteArray := prog_2_method_12_code
def yX0_changeTension : MethodName := ⟨RX0, "changeTension", "(I)I"⟩
abbrev cX0_settle : ByteArray := prog_2_method_13_code
def yX0_settle : MethodName := ⟨RX0, "settle", "()I"⟩
abbrev cX0_worstBursting : ByteArray := prog_2_method_14_code
def yX0_worstBursting : MethodName := ⟨RX0, "worstBursting", "()I"⟩
abbrev cX0_standsWith : ByteArray := prog_2_method_15_code
def yX0_standsWith : MethodName := ⟨RX0, "standsWith", "(II)Z"⟩
abbrev cX0_reckon : ByteArray := prog_2_method_16_code
def yX0_reckon : MethodName := ⟨RX0, "reckon", "()V"⟩
abbrev cX0_nextWhole : ByteArray := prog_2_method_17_code
def yX0_nextWhole : MethodName := ⟨RX0, "nextWhole", "(I)LSingingWires$Wire;"⟩
abbrev cX0_share : ByteArray := prog_2_method_18_code
def yX0_share : MethodName := ⟨RX0, "share", "(ILSingingWires$Wire;LSingingWires$Wire;)V"⟩
abbrev cX0_walkToDoubtful : ByteArray := prog_2_method_19_code
def yX0_walkToDoubtful : MethodName := ⟨RX0, "walkToDoubtful", "()I"⟩
abbrev cX0_allLoads : ByteArray := prog_2_method_20_code
def yX0_allLoads : MethodName := ⟨RX0, "allLoads", "()I"⟩
abbrev cX0_wholeWires : ByteArray := prog_2_method_21_code
def yX0_wholeWires : MethodName := ⟨RX0, "wholeWires", "()I"⟩
abbrev cX0_slackWires : ByteArray := prog_2_method_22_code
def yX0_slackWires : MethodName := ⟨RX0, "slackWires", "()I"⟩
abbrev cX0_tooTightWires : ByteArray := prog_2_method_23_code
def yX0_tooTightWires : MethodName := ⟨RX0, "tooTightWires", "()I"⟩
def RX1 : String := "SingingWires$History"
def TX1 : u_T := fun k => match k with
  | 0 => ("SingingWires$History", "states", "[LSingingWires$Bridge;", true)
  | _ => ("SingingWires$History", "kept", "I", false)
def tyX1 : Nat → FieldType := fun k => match k with
  | 0 => .array (.object "SingingWires$Bridge")
  | _ => .int
abbrev wsX10 : List Cond := u_ws RX1 TX1 2
theorem nmX1 : ∀ a, a < 2 → ∀ b, b < 2 → a ≠ b → (TX1 a).2.1 ≠ (TX1 b).2.1 := by decide +kernel
theorem tyX1_ok : ∀ k, k < 2 → parseFieldDescriptor (TX1 k).2.2.1 = some (tyX1 k) := by decide +kernel
abbrev cX1_init : ByteArray := prog_3_method_1_code
def yX1_init : MethodName := ⟨RX1, "<init>", "()V"⟩
abbrev cX1_note : ByteArray := prog_3_method_2_code
def yX1_note : MethodName := ⟨RX1, "note", "(LSingingWires$Bridge;)V"⟩
abbrev cX1_keepUnlessError : ByteArray := prog_3_method_3_code
def yX1_keepUnlessError : MethodName := ⟨RX1, "keepUnlessError", "(I)I"⟩
abbrev cX1_dropOldest : ByteArray := prog_3_method_4_code
def yX1_dropOldest : MethodName := ⟨RX1, "dropOldest", "()V"⟩
abbrev cX1_giveBack : ByteArray := prog_3_method_5_code
def yX1_giveBack : MethodName := ⟨RX1, "giveBack", "(LSingingWires$Bridge;)I"⟩
def RX2 : String := "SingingWires$Pad"
def TX2 : u_T := fun k => match k with
  | 0 => ("SingingWires$Pad", "signs", "[C", true)
  | 1 => ("SingingWires$Pad", "length", "I", false)
  | 2 => ("SingingWires$Pad", "at", "I", false)
  | 3 => ("SingingWires$Pad", "letter", "C", false)
  | 4 => ("SingingWires$Pad", "first", "I", false)
  | 5 => ("SingingWires$Pad", "second", "I", false)
  | 6 => ("SingingWires$Pad", "due", "I", false)
  | 7 => ("SingingWires$Pad", "equalsDue", "Z", false)
  | _ => ("SingingWires$Pad", "number", "I", false)
def tyX2 : Nat → FieldType := fun k => match k with
  | 0 => .array .char
  | 1 => .int
  | 2 => .int
  | 3 => .char
  | 4 => .int
  | 5 => .int
  | 6 => .int
  | 7 => .boolean
  | _ => .int
abbrev wsX20 : List Cond := u_ws RX2 TX2 9
theorem nmX2 : ∀ a, a < 9 → ∀ b, b < 9 → a ≠ b → (TX2 a).2.1 ≠ (TX2 b).2.1 := by decide +kernel
theorem tyX2_ok : ∀ k, k < 9 → parseFieldDescriptor (TX2 k).2.2.1 = some (tyX2 k) := by decide +kernel
abbrev cX2_init : ByteArray := prog_4_method_1_code
def yX2_init : MethodName := ⟨RX2, "<init>", "()V"⟩
abbrev cX2_append : ByteArray := prog_4_method_2_code
def yX2_append : MethodName := ⟨RX2, "append", "(J)I"⟩
abbrev cX2_charactersIn : ByteArray := prog_4_method_3_code
def yX2_charactersIn : MethodName := ⟨RX2, "charactersIn", "(J)I"⟩
abbrev cX2_codeAt : ByteArray := prog_4_method_4_code
def yX2_codeAt : MethodName := ⟨RX2, "codeAt", "(JI)I"⟩
abbrev cX2_empty : ByteArray := prog_4_method_5_code
def yX2_empty : MethodName := ⟨RX2, "empty", "()I"⟩
abbrev cX2_firstFault : ByteArray := prog_4_method_6_code
def yX2_firstFault : MethodName := ⟨RX2, "firstFault", "()I"⟩
abbrev cX2_canStand : ByteArray := prog_4_method_7_code
def yX2_canStand : MethodName := ⟨RX2, "canStand", "(C)Z"⟩
abbrev cX2_startsOrder : ByteArray := prog_4_method_8_code
def yX2_startsOrder : MethodName := ⟨RX2, "startsOrder", "(C)Z"⟩
abbrev cX2_startsNumber : ByteArray := prog_4_method_9_code
def yX2_startsNumber : MethodName := ⟨RX2, "startsNumber", "(C)Z"⟩
abbrev cX2_growsNumber : ByteArray := prog_4_method_10_code
def yX2_growsNumber : MethodName := ⟨RX2, "growsNumber", "(C)Z"⟩
abbrev cX2_endsNumber : ByteArray := prog_4_method_11_code
def yX2_endsNumber : MethodName := ⟨RX2, "endsNumber", "(C)Z"⟩
abbrev cX2_endsOrder : ByteArray := prog_4_method_12_code
def yX2_endsOrder : MethodName := ⟨RX2, "endsOrder", "(C)Z"⟩
abbrev cX2_isDigit : ByteArray := prog_4_method_13_code
def yX2_isDigit : MethodName := ⟨RX2, "isDigit", "(C)Z"⟩
abbrev cX2_startReading : ByteArray := prog_4_method_14_code
def yX2_startReading : MethodName := ⟨RX2, "startReading", "()V"⟩
abbrev cX2_readOrder : ByteArray := prog_4_method_15_code
def yX2_readOrder : MethodName := ⟨RX2, "readOrder", "()Z"⟩
abbrev cX2_readNumber : ByteArray := prog_4_method_16_code
def yX2_readNumber : MethodName := ⟨RX2, "readNumber", "()I"⟩
def RX3 : String := "SingingWires$Wire"
def TX3 : u_T := fun k => match k with
  | 0 => ("SingingWires$Wire", "place", "I", false)
  | 1 => ("SingingWires$Wire", "length", "I", false)
  | 2 => ("SingingWires$Wire", "mass", "I", false)
  | 3 => ("SingingWires$Wire", "strength", "I", false)
  | 4 => ("SingingWires$Wire", "tension", "I", false)
  | 5 => ("SingingWires$Wire", "task", "I", false)
  | 6 => ("SingingWires$Wire", "broken", "Z", false)
  | 7 => ("SingingWires$Wire", "brokeOn", "I", false)
  | 8 => ("SingingWires$Wire", "heardOn", "I", false)
  | 9 => ("SingingWires$Wire", "low", "I", false)
  | 10 => ("SingingWires$Wire", "high", "I", false)
  | _ => ("SingingWires$Wire", "heardBroken", "Z", false)
def tyX3 : Nat → FieldType := fun k => match k with
  | 0 => .int
  | 1 => .int
  | 2 => .int
  | 3 => .int
  | 4 => .int
  | 5 => .int
  | 6 => .boolean
  | 7 => .int
  | 8 => .int
  | 9 => .int
  | 10 => .int
  | _ => .boolean
abbrev wsX30 : List Cond := u_ws RX3 TX3 12
theorem nmX3 : ∀ a, a < 12 → ∀ b, b < 12 → a ≠ b → (TX3 a).2.1 ≠ (TX3 b).2.1 := by decide +kernel
theorem tyX3_ok : ∀ k, k < 12 → parseFieldDescriptor (TX3 k).2.2.1 = some (tyX3 k) := by decide +kernel
abbrev cX3_init : ByteArray := prog_5_method_1_code
def yX3_init : MethodName := ⟨RX3, "<init>", "()V"⟩
abbrev cX3_makeNew : ByteArray := prog_5_method_2_code
def yX3_makeNew : MethodName := ⟨RX3, "makeNew", "(IIIII)V"⟩
abbrev cX3_takeFrom : ByteArray := prog_5_method_3_code
def yX3_takeFrom : MethodName := ⟨RX3, "takeFrom", "(LSingingWires$Wire;)V"⟩
abbrev cX3_weight : ByteArray := prog_5_method_4_code
def yX3_weight : MethodName := ⟨RX3, "weight", "()J"⟩
abbrev cX3_pitchWith : ByteArray := prog_5_method_5_code
def yX3_pitchWith : MethodName := ⟨RX3, "pitchWith", "(I)I"⟩
abbrev cX3_leastTension : ByteArray := prog_5_method_6_code
def yX3_leastTension : MethodName := ⟨RX3, "leastTension", "(J)J"⟩
abbrev cX3_snap : ByteArray := prog_5_method_7_code
def yX3_snap : MethodName := ⟨RX3, "snap", "(I)V"⟩
abbrev cX3_pull : ByteArray := prog_5_method_8_code
def yX3_pull : MethodName := ⟨RX3, "pull", "(II)V"⟩
abbrev cX3_sing : ByteArray := prog_5_method_9_code
def yX3_sing : MethodName := ⟨RX3, "sing", "(I)I"⟩
abbrev cX3_loosen : ByteArray := prog_5_method_10_code
def yX3_loosen : MethodName := ⟨RX3, "loosen", "(I)V"⟩
abbrev cX3_isSlack : ByteArray := prog_5_method_11_code
def yX3_isSlack : MethodName := ⟨RX3, "isSlack", "()Z"⟩
abbrev cX3_isTooTight : ByteArray := prog_5_method_12_code
def yX3_isTooTight : MethodName := ⟨RX3, "isTooTight", "(I)Z"⟩
abbrev cX3_isKnown : ByteArray := prog_5_method_13_code
def yX3_isKnown : MethodName := ⟨RX3, "isKnown", "()Z"⟩
abbrev cX3_isSurelySlack : ByteArray := prog_5_method_14_code
def yX3_isSurelySlack : MethodName := ⟨RX3, "isSurelySlack", "()Z"⟩
abbrev cX3_maybeSlack : ByteArray := prog_5_method_15_code
def yX3_maybeSlack : MethodName := ⟨RX3, "maybeSlack", "()Z"⟩
def RX4 : String := "SingingWires"
def TX4 : u_T := fun k => match k with
  | 0 => ("SingingWires", "bridge", "LSingingWires$Bridge;", true)
  | 1 => ("SingingWires", "trial", "LSingingWires$Bridge;", true)
  | 2 => ("SingingWires", "history", "LSingingWires$History;", true)
  | 3 => ("SingingWires", "slots", "[LSingingWires$Bridge;", true)
  | 4 => ("SingingWires", "saved", "[Z", true)
  | _ => ("SingingWires", "pad", "LSingingWires$Pad;", true)
def tyX4 : Nat → FieldType := fun k => match k with
  | 0 => .object "SingingWires$Bridge"
  | 1 => .object "SingingWires$Bridge"
  | 2 => .object "SingingWires$History"
  | 3 => .array (.object "SingingWires$Bridge")
  | 4 => .array .boolean
  | _ => .object "SingingWires$Pad"
abbrev wsX40 : List Cond := u_ws RX4 TX4 6
theorem nmX4 : ∀ a, a < 6 → ∀ b, b < 6 → a ≠ b → (TX4 a).2.1 ≠ (TX4 b).2.1 := by decide +kernel
theorem tyX4_ok : ∀ k, k < 6 → parseFieldDescriptor (TX4 k).2.2.1 = some (tyX4 k) := by decide +kernel
abbrev cX4_init : ByteArray := prog_1_method_1_code
def yX4_init : MethodName := ⟨RX4, "<init>", "()V"⟩
abbrev cX4_set : ByteArray := prog_1_method_2_code
def yX4_set : MethodName := ⟨RX4, "set", "(II)I"⟩
abbrev cX4_wire : ByteArray := prog_1_method_3_code
def yX4_wire : MethodName := ⟨RX4, "wire", "(IIIII)I"⟩
abbrev cX4_load : ByteArray := prog_1_method_4_code
def yX4_load : MethodName := ⟨RX4, "load", "(II)I"⟩
abbrev cX4_days : ByteArray := prog_1_method_5_code
def yX4_days : MethodName := ⟨RX4, "days", "(I)I"⟩
abbrev cX4_walk : ByteArray := prog_1_method_6_code
def yX4_walk : MethodName := ⟨RX4, "walk", "(I)I"⟩
abbrev cX4_hear : ByteArray := prog_1_method_7_code
def yX4_hear : MethodName := ⟨RX4, "hear", "()I"⟩
abbrev cX4_tighten : ByteArray := prog_1_method_8_code
def yX4_tighten : MethodName := ⟨RX4, "tighten", "(I)I"⟩
abbrev cX4_ofWire : ByteArray := prog_1_method_9_code
def yX4_ofWire : MethodName := ⟨RX4, "ofWire", "(II)I"⟩
abbrev cX4_known : ByteArray := prog_1_method_10_code
def yX4_known : MethodName := ⟨RX4, "known", "(II)I"⟩
abbrev cX4_count : ByteArray := prog_1_method_11_code
def yX4_count : MethodName := ⟨RX4, "count", "(I)I"⟩
abbrev cX4_pitchAt : ByteArray := prog_1_method_12_code
def yX4_pitchAt : MethodName := ⟨RX4, "pitchAt", "(II)I"⟩
abbrev cX4_tensionFor : ByteArray := prog_1_method_13_code
def yX4_tensionFor : MethodName := ⟨RX4, "tensionFor", "(II)I"⟩
abbrev cX4_fallsWith : ByteArray := prog_1_method_14_code
def yX4_fallsWith : MethodName := ⟨RX4, "fallsWith", "(I)I"⟩
abbrev cX4_mostAt : ByteArray := prog_1_method_15_code
def yX4_mostAt : MethodName := ⟨RX4, "mostAt", "(I)I"⟩
abbrev cX4_slackIn : ByteArray := prog_1_method_16_code
def yX4_slackIn : MethodName := ⟨RX4, "slackIn", "(I)I"⟩
abbrev cX4_round : ByteArray := prog_1_method_17_code
def yX4_round : MethodName := ⟨RX4, "round", "()I"⟩
abbrev cX4_weakest : ByteArray := prog_1_method_18_code
def yX4_weakest : MethodName := ⟨RX4, "weakest", "(I)I"⟩
abbrev cX4_put : ByteArray := prog_1_method_19_code
def yX4_put : MethodName := ⟨RX4, "put", "(J)I"⟩
abbrev cX4_wipe : ByteArray := prog_1_method_20_code
def yX4_wipe : MethodName := ⟨RX4, "wipe", "()I"⟩
abbrev cX4_fault : ByteArray := prog_1_method_21_code
def yX4_fault : MethodName := ⟨RX4, "fault", "()I"⟩
abbrev cX4_carryOut : ByteArray := prog_1_method_22_code
def yX4_carryOut : MethodName := ⟨RX4, "carryOut", "()I"⟩
abbrev cX4_undo : ByteArray := prog_1_method_23_code
def yX4_undo : MethodName := ⟨RX4, "undo", "()I"⟩
abbrev cX4_save : ByteArray := prog_1_method_24_code
def yX4_save : MethodName := ⟨RX4, "save", "(I)I"⟩
abbrev cX4_restore : ByteArray := prog_1_method_25_code
def yX4_restore : MethodName := ⟨RX4, "restore", "(I)I"⟩
abbrev cX4_fallenWith : ByteArray := prog_1_method_26_code
def yX4_fallenWith : MethodName := ⟨RX4, "fallenWith", "(I)I"⟩
abbrev cX4_ordersCarriedOut : ByteArray := prog_1_method_27_code
def yX4_ordersCarriedOut : MethodName := ⟨RX4, "ordersCarriedOut", "()I"⟩
abbrev cX4_answerTo : ByteArray := prog_1_method_28_code
def yX4_answerTo : MethodName := ⟨RX4, "answerTo", "(CII)I"⟩
abbrev cX4_isError : ByteArray := prog_1_method_29_code
def yX4_isError : MethodName := ⟨RX4, "isError", "(I)Z"⟩
abbrev cX4_within : ByteArray := prog_1_method_30_code
def yX4_within : MethodName := ⟨RX4, "within", "(III)Z"⟩
abbrev cX4_oneIf : ByteArray := prog_1_method_31_code
def yX4_oneIf : MethodName := ⟨RX4, "oneIf", "(Z)I"⟩
abbrev cX4_crept : ByteArray := prog_1_method_32_code
def yX4_crept : MethodName := ⟨RX4, "crept", "(II)I"⟩
def RX5 : String := "SingingWiresModel"
def TX5 : u_T := fun k => match k with
  | 0 => ("SingingWiresModel", "now", "[I", true)
  | 1 => ("SingingWiresModel", "kept", "[I", true)
  | 2 => ("SingingWiresModel", "history", "[I", true)
  | 3 => ("SingingWiresModel", "undos", "I", false)
  | 4 => ("SingingWiresModel", "saved", "[I", true)
  | 5 => ("SingingWiresModel", "isSaved", "[Z", true)
  | 6 => ("SingingWiresModel", "pad", "[I", true)
  | 7 => ("SingingWiresModel", "signs", "I", false)
  | 8 => ("SingingWiresModel", "isInText", "Z", false)
  | 9 => ("SingingWiresModel", "task", "[I", true)
  | 10 => ("SingingWiresModel", "orders", "[I", true)
  | 11 => ("SingingWiresModel", "read", "I", false)
  | 12 => ("SingingWiresModel", "at", "I", false)
  | _ => ("SingingWiresModel", "isWrong", "Z", false)
def tyX5 : Nat → FieldType := fun k => match k with
  | 0 => .array .int
  | 1 => .array .int
  | 2 => .array .int
  | 3 => .int
  | 4 => .array .int
  | 5 => .array .boolean
  | 6 => .array .int
  | 7 => .int
  | 8 => .boolean
  | 9 => .array .int
  | 10 => .array .int
  | 11 => .int
  | 12 => .int
  | _ => .boolean
abbrev wsX50 : List Cond := u_ws RX5 TX5 14
theorem nmX5 : ∀ a, a < 14 → ∀ b, b < 14 → a ≠ b → (TX5 a).2.1 ≠ (TX5 b).2.1 := by decide +kernel
theorem tyX5_ok : ∀ k, k < 14 → parseFieldDescriptor (TX5 k).2.2.1 = some (tyX5 k) := by decide +kernel
abbrev cX5_init : ByteArray := prog_7_method_1_code
def yX5_init : MethodName := ⟨RX5, "<init>", "()V"⟩
abbrev cX5_in : ByteArray := prog_7_method_2_code
def yX5_in : MethodName := ⟨RX5, "in", "(III)Z"⟩
abbrev cX5_record : ByteArray := prog_7_method_3_code
def yX5_record : MethodName := ⟨RX5, "record", "()V"⟩
abbrev cX5_keep : ByteArray := prog_7_method_4_code
def yX5_keep : MethodName := ⟨RX5, "keep", "()V"⟩
abbrev cX5_comeBack : ByteArray := prog_7_method_5_code
def yX5_comeBack : MethodName := ⟨RX5, "comeBack", "()V"⟩
abbrev cX5_of : ByteArray := prog_7_method_6_code
def yX5_of : MethodName := ⟨RX5, "of", "(II)I"⟩
abbrev cX5_book : ByteArray := prog_7_method_7_code
def yX5_book : MethodName := ⟨RX5, "book", "(III)V"⟩
abbrev cX5_isWire : ByteArray := prog_7_method_8_code
def yX5_isWire : MethodName := ⟨RX5, "isWire", "(I)Z"⟩
abbrev cX5_isWhole : ByteArray := prog_7_method_9_code
def yX5_isWhole : MethodName := ⟨RX5, "isWhole", "(I)Z"⟩
abbrev cX5_wholeBy : ByteArray := prog_7_method_10_code
def yX5_wholeBy : MethodName := ⟨RX5, "wholeBy", "(I)I"⟩
abbrev cX5_weight : ByteArray := prog_7_method_11_code
def yX5_weight : MethodName := ⟨RX5, "weight", "(I)J"⟩
abbrev cX5_pitch : ByteArray := prog_7_method_12_code
def yX5_pitch : MethodName := ⟨RX5, "pitch", "(II)I"⟩
abbrev cX5_leastFor : ByteArray := prog_7_method_13_code
def yX5_leastFor : MethodName := ⟨RX5, "leastFor", "(II)J"⟩
abbrev cX5_nearest : ByteArray := prog_7_method_14_code
def yX5_nearest : MethodName := ⟨RX5, "nearest", "(III)I"⟩
abbrev cX5_layTasks : ByteArray := prog_7_method_15_code
def yX5_layTasks : MethodName := ⟨RX5, "layTasks", "(I)V"⟩
abbrev cX5_burst : ByteArray := prog_7_method_16_code
def yX5_burst : MethodName := ⟨RX5, "burst", "()I"⟩
abbrev cX5_breakWire : ByteArray := prog_7_method_17_code
def yX5_breakWire : MethodName := ⟨RX5, "breakWire", "(I)V"⟩
abbrev cX5_settle : ByteArray := prog_7_method_18_code
def yX5_settle : MethodName := ⟨RX5, "settle", "()I"⟩
abbrev cX5_set : ByteArray := prog_7_method_19_code
def yX5_set : MethodName := ⟨RX5, "set", "(II)I"⟩
abbrev cX5_wireAt : ByteArray := prog_7_method_20_code
def yX5_wireAt : MethodName := ⟨RX5, "wireAt", "(I)I"⟩
abbrev cX5_wire : ByteArray := prog_7_method_21_code
def yX5_wire : MethodName := ⟨RX5, "wire", "(IIIII)I"⟩
abbrev cX5_load : ByteArray := prog_7_method_22_code
def yX5_load : MethodName := ⟨RX5, "load", "(II)I"⟩
abbrev cX5_loosened : ByteArray := prog_7_method_23_code
def yX5_loosened : MethodName := ⟨RX5, "loosened", "(I)I"⟩
abbrev cX5_pass : ByteArray := prog_7_method_24_code
def yX5_pass : MethodName := ⟨RX5, "pass", "()I"⟩
abbrev cX5_days : ByteArray := prog_7_method_25_code
def yX5_days : MethodName := ⟨RX5, "days", "(I)I"⟩
abbrev cX5_walk : ByteArray := prog_7_method_26_code
def yX5_walk : MethodName := ⟨RX5, "walk", "(I)I"⟩
abbrev cX5_know : ByteArray := prog_7_method_27_code
def yX5_know : MethodName := ⟨RX5, "know", "(III)V"⟩
abbrev cX5_hear : ByteArray := prog_7_method_28_code
def yX5_hear : MethodName := ⟨RX5, "hear", "()I"⟩
abbrev cX5_tighten : ByteArray := prog_7_method_29_code
def yX5_tighten : MethodName := ⟨RX5, "tighten", "(I)I"⟩
abbrev cX5_isSlack : ByteArray := prog_7_method_30_code
def yX5_isSlack : MethodName := ⟨RX5, "isSlack", "(I)Z"⟩
abbrev cX5_isTight : ByteArray := prog_7_method_31_code
def yX5_isTight : MethodName := ⟨RX5, "isTight", "(I)Z"⟩
abbrev cX5_ofWire : ByteArray := prog_7_method_32_code
def yX5_ofWire : MethodName := ⟨RX5, "ofWire", "(II)I"⟩
abbrev cX5_isSurely : ByteArray := prog_7_method_33_code
def yX5_isSurely : MethodName := ⟨RX5, "isSurely", "(I)Z"⟩
abbrev cX5_mayBe : ByteArray := prog_7_method_34_code
def yX5_mayBe : MethodName := ⟨RX5, "mayBe", "(I)Z"⟩
abbrev cX5_known : ByteArray := prog_7_method_35_code
def yX5_known : MethodName := ⟨RX5, "known", "(II)I"⟩
abbrev cX5_loads : ByteArray := prog_7_method_36_code
def yX5_loads : MethodName := ⟨RX5, "loads", "()I"⟩
abbrev cX5_wiresWith : ByteArray := prog_7_method_37_code
def yX5_wiresWith : MethodName := ⟨RX5, "wiresWith", "(I)I"⟩
abbrev cX5_count : ByteArray := prog_7_method_38_code
def yX5_count : MethodName := ⟨RX5, "count", "(I)I"⟩
abbrev cX5_pitchAt : ByteArray := prog_7_method_39_code
def yX5_pitchAt : MethodName := ⟨RX5, "pitchAt", "(II)I"⟩
abbrev cX5_tensionFor : ByteArray := prog_7_method_40_code
def yX5_tensionFor : MethodName := ⟨RX5, "tensionFor", "(II)I"⟩
abbrev cX5_fallen : ByteArray := prog_7_method_41_code
def yX5_fallen : MethodName := ⟨RX5, "fallen", "(I)I"⟩
abbrev cX5_fallsWith : ByteArray := prog_7_method_42_code
def yX5_fallsWith : MethodName := ⟨RX5, "fallsWith", "(I)I"⟩
abbrev cX5_mostAt : ByteArray := prog_7_method_43_code
def yX5_mostAt : MethodName := ⟨RX5, "mostAt", "(I)I"⟩
abbrev cX5_slackIn : ByteArray := prog_7_method_44_code
def yX5_slackIn : MethodName := ⟨RX5, "slackIn", "(I)I"⟩
abbrev cX5_round : ByteArray := prog_7_method_45_code
def yX5_round : MethodName := ⟨RX5, "round", "()I"⟩
abbrev cX5_size : ByteArray := prog_7_method_46_code
def yX5_size : MethodName := ⟨RX5, "size", "(I)I"⟩
abbrev cX5_weakest : ByteArray := prog_7_method_47_code
def yX5_weakest : MethodName := ⟨RX5, "weakest", "(I)I"⟩
abbrev cX5_sign : ByteArray := prog_7_method_48_code
def yX5_sign : MethodName := ⟨RX5, "sign", "()I"⟩
abbrev cX5_number : ByteArray := prog_7_method_49_code
def yX5_number : MethodName := ⟨RX5, "number", "()I"⟩
abbrev cX5_readOne : ByteArray := prog_7_method_50_code
def yX5_readOne : MethodName := ⟨RX5, "readOne", "()V"⟩
abbrev cX5_faultOf : ByteArray := prog_7_method_51_code
def yX5_faultOf : MethodName := ⟨RX5, "faultOf", "()I"⟩
abbrev cX5_put : ByteArray := prog_7_method_52_code
def yX5_put : MethodName := ⟨RX5, "put", "(J)I"⟩
abbrev cX5_wipe : ByteArray := prog_7_method_53_code
def yX5_wipe : MethodName := ⟨RX5, "wipe", "()I"⟩
abbrev cX5_fault : ByteArray := prog_7_method_54_code
def yX5_fault : MethodName := ⟨RX5, "fault", "()I"⟩
abbrev cX5_carry : ByteArray := prog_7_method_55_code
def yX5_carry : MethodName := ⟨RX5, "carry", "(I)I"⟩
abbrev cX5_carryOut : ByteArray := prog_7_method_56_code
def yX5_carryOut : MethodName := ⟨RX5, "carryOut", "()I"⟩
abbrev cX5_undo : ByteArray := prog_7_method_57_code
def yX5_undo : MethodName := ⟨RX5, "undo", "()I"⟩
abbrev cX5_save : ByteArray := prog_7_method_58_code
def yX5_save : MethodName := ⟨RX5, "save", "(I)I"⟩
abbrev cX5_restore : ByteArray := prog_7_method_59_code
def yX5_restore : MethodName := ⟨RX5, "restore", "(I)I"⟩
def RJ6 : String := "java/lang/Integer"
def TJ6 : u_T := fun k => match k with
  | _ => ("", "", "", false)
def tyJ6 : Nat → FieldType := fun k => match k with
  | _ => .int
abbrev wsJ60 : List Cond := u_ws RJ6 TJ6 0
theorem nmJ6 : ∀ a, a < 0 → ∀ b, b < 0 → a ≠ b → (TJ6 a).2.1 ≠ (TJ6 b).2.1 := by decide +kernel
theorem tyJ6_ok : ∀ k, k < 0 → parseFieldDescriptor (TJ6 k).2.2.1 = some (tyJ6 k) := by decide +kernel
abbrev cJ6_bitCount_0f7a4 : ByteArray := prog_8_method_49_code
def yJ6_bitCount_0f7a4 : MethodName := ⟨RJ6, "bitCount", "(I)I"⟩
def RJ9 : String := "java/lang/Math"
def TJ9 : u_T := fun k => match k with
  | _ => ("", "", "", false)
def tyJ9 : Nat → FieldType := fun k => match k with
  | _ => .int
abbrev wsJ90 : List Cond := u_ws RJ9 TJ9 0
theorem nmJ9 : ∀ a, a < 0 → ∀ b, b < 0 → a ≠ b → (TJ9 a).2.1 ≠ (TJ9 b).2.1 := by decide +kernel
theorem tyJ9_ok : ∀ k, k < 0 → parseFieldDescriptor (TJ9 k).2.2.1 = some (tyJ9 k) := by decide +kernel
abbrev cJ9_abs_0f7a4 : ByteArray := prog_9_method_59_code
def yJ9_abs_0f7a4 : MethodName := ⟨RJ9, "abs", "(I)I"⟩
abbrev cJ9_max_7cf53 : ByteArray := prog_9_method_65_code
def yJ9_max_7cf53 : MethodName := ⟨RJ9, "max", "(II)I"⟩
abbrev cJ9_min_7cf53 : ByteArray := prog_9_method_69_code
def yJ9_min_7cf53 : MethodName := ⟨RJ9, "min", "(II)I"⟩
abbrev cJ9_min_f86c9 : ByteArray := prog_9_method_70_code
def yJ9_min_f86c9 : MethodName := ⟨RJ9, "min", "(JJ)J"⟩
def RJ10 : String := "java/lang/System"
def TJ10 : u_T := fun k => match k with
  | _ => ("", "", "", false)
def tyJ10 : Nat → FieldType := fun k => match k with
  | _ => .int
abbrev wsJ100 : List Cond := u_ws RJ10 TJ10 0
theorem nmJ10 : ∀ a, a < 0 → ∀ b, b < 0 → a ≠ b → (TJ10 a).2.1 ≠ (TJ10 b).2.1 := by decide +kernel
theorem tyJ10_ok : ∀ k, k < 0 → parseFieldDescriptor (TJ10 k).2.2.1 = some (tyJ10 k) := by decide +kernel
def RL : String := "SingingWiresLaw"
abbrev cL_law : ByteArray := code
def yL_law : MethodName := ⟨RL, "law", "([I)Z"⟩
abbrev vwCl : List vw_C := [(RX0, TX0, 9), (RX1, TX1, 2), (RX2, TX2, 9), (RX3, TX3, 12), (RX4, TX4, 6), (RX5, TX5, 14)]
end
section
theorem dX0_init_0 : decode cX0_init 0 = .ok (.aload_n 0, 1) := by decide +kernel
theorem dX0_init_1 : decode cX0_init 1 = .ok (.invokespecial 3, 3) := by decide +kernel
theorem dX0_init_4 : decode cX0_init 4 = .ok (.aload_n 0, 1) := by decide +kernel
theorem dX0_init_5 : decode cX0_init 5 = .ok (.bipush 20, 2) := by decide +kernel
theorem dX0_init_7 : decode cX0_init 7 = .ok (.newarray .int, 2) := by decide +kernel
theorem dX0_init_9 : decode cX0_init 9 = .ok (.putfield 9, 3) := by decide +kernel
theorem dX0_init_12 : decode cX0_init 12 = .ok (.aload_n 0, 1) := by decide +kernel
theorem dX0_init_13 : decode cX0_init 13 = .ok (.bipush 20, 2) := by decide +kernel
theorem dX0_init_15 : decode cX0_init 15 = .ok (.newarray .int, 2) := by decide +kernel
theorem dX0_init_17 : decode cX0_init 17 = .ok (.putfield 15, 3) := by decide +kernel
theorem dX0_init_20 : decode cX0_init 20 = .ok (.iconst 0, 1) := by decide +kernel
theorem dX0_init_21 : decode cX0_init 21 = .ok (.istore_n 1, 1) := by decide +kernel
theorem dX0_init_22 : decode cX0_init 22 = .ok (.iload_n 1, 1) := by decide +kernel
theorem dX0_init_23 : decode cX0_init 23 = .ok (.bipush 20, 2) := by decide +kernel
theorem dX0_init_25 : decode cX0_init 25 = .ok (.if_icmp .ge 16, 3) := by decide +kernel
theorem dX0_init_28 : decode cX0_init 28 = .ok (.aload_n 0, 1) := by decide +kernel
theorem dX0_init_29 : decode cX0_init 29 = .ok (.getfield 15, 3) := by decide +kernel
theorem dX0_init_32 : decode cX0_init 32 = .ok (.iload_n 1, 1) := by decide +kernel
theorem dX0_init_33 : decode cX0_init 33 = .ok (.iconst (-1), 1) := by decide +kernel
theorem dX0_init_34 : decode cX0_init 34 = .ok (.iastore, 1) := by decide +kernel
theorem dX0_init_35 : decode cX0_init 35 = .ok (.iinc 1 1, 3) := by decide +kernel
theorem dX0_init_38 : decode cX0_init 38 = .ok (.goto (-16), 3) := by decide +kernel
theorem dX0_init_41 : decode cX0_init 41 = .ok (.aload_n 0, 1) := by decide +kernel
theorem dX0_init_42 : decode cX0_init 42 = .ok (.bipush 8, 2) := by decide +kernel
theorem dX0_init_44 : decode cX0_init 44 = .ok (.anewarray 18, 3) := by decide +kernel
theorem dX0_init_47 : decode cX0_init 47 = .ok (.putfield 20, 3) := by decide +kernel
theorem dX0_init_50 : decode cX0_init 50 = .ok (.iconst 0, 1) := by decide +kernel
theorem dX0_init_51 : decode cX0_init 51 = .ok (.istore_n 1, 1) := by decide +kernel
theorem dX0_init_52 : decode cX0_init 52 = .ok (.iload_n 1, 1) := by decide +kernel
theorem dX0_init_53 : decode cX0_init 53 = .ok (.bipush 8, 2) := by decide +kernel
theorem dX0_init_55 : decode cX0_init 55 = .ok (.if_icmp .ge 22, 3) := by decide +kernel
theorem dX0_init_58 : decode cX0_init 58 = .ok (.aload_n 0, 1) := by decide +kernel
theorem dX0_init_59 : decode cX0_init 59 = .ok (.getfield 20, 3) := by decide +kernel
theorem dX0_init_62 : decode cX0_init 62 = .ok (.iload_n 1, 1) := by decide +kernel
theorem dX0_init_63 : decode cX0_init 63 = .ok (.new 18, 3) := by decide +kernel
theorem dX0_init_66 : decode cX0_init 66 = .ok (.dup, 1) := by decide +kernel
theorem dX0_init_67 : decode cX0_init 67 = .ok (.invokespecial 24, 3) := by decide +kernel
theorem dX0_init_70 : decode cX0_init 70 = .ok (.aastore, 1) := by decide +kernel
theorem dX0_init_71 : decode cX0_init 71 = .ok (.iinc 1 1, 3) := by decide +kernel
theorem dX0_init_74 : decode cX0_init 74 = .ok (.goto (-22), 3) := by decide +kernel
theorem dX0_init_77 : decode cX0_init 77 = .ok (.aload_n 0, 1) := by decide +kernel
theorem dX0_init_78 : decode cX0_init 78 = .ok (.bipush 10, 2) := by decide +kernel
theorem dX0_init_80 : decode cX0_init 80 = .ok (.putfield 25, 3) := by decide +kernel
theorem dX0_init_83 : decode cX0_init 83 = .ok (.aload_n 0, 1) := by decide +kernel
theorem dX0_init_84 : decode cX0_init 84 = .ok (.bipush 20, 2) := by decide +kernel
theorem dX0_init_86 : decode cX0_init 86 = .ok (.putfield 29, 3) := by decide +kernel
theorem dX0_init_89 : decode cX0_init 89 = .ok (.return_, 1) := by decide +kernel
theorem dX0_takeFrom_0 : decode cX0_takeFrom 0 = .ok (.aload_n 1, 1) := by decide +kernel
theorem dX0_takeFrom_1 : decode cX0_takeFrom 1 = .ok (.getfield 9, 3) := by decide +kernel
theorem dX0_takeFrom_4 : decode cX0_takeFrom 4 = .ok (.iconst 0, 1) := by decide +kernel
theorem dX0_takeFrom_5 : decode cX0_takeFrom 5 = .ok (.aload_n 0, 1) := by decide +kernel
theorem dX0_takeFrom_6 : decode cX0_takeFrom 6 = .ok (.getfield 9, 3) := by decide +kernel
theorem dX0_takeFrom_9 : decode cX0_takeFrom 9 = .ok (.iconst 0, 1) := by decide +kernel
theorem dX0_takeFrom_10 : decode cX0_takeFrom 10 = .ok (.bipush 20, 2) := by decide +kernel
theorem dX0_takeFrom_12 : decode cX0_takeFrom 12 = .ok (.invokestatic 32, 3) := by decide +kernel
theorem dX0_takeFrom_15 : decode cX0_takeFrom 15 = .ok (.aload_n 1, 1) := by decide +kernel
theorem dX0_takeFrom_16 : decode cX0_takeFrom 16 = .ok (.getfield 15, 3) := by decide +kernel
theorem dX0_takeFrom_19 : decode cX0_takeFrom 19 = .ok (.iconst 0, 1) := by decide +kernel
theorem dX0_takeFrom_20 : decode cX0_takeFrom 20 = .ok (.aload_n 0, 1) := by decide +kernel
theorem dX0_takeFrom_21 : decode cX0_takeFrom 21 = .ok (.getfield 15, 3) := by decide +kernel
theorem dX0_takeFrom_24 : decode cX0_takeFrom 24 = .ok (.iconst 0, 1) := by decide +kernel
theorem dX0_takeFrom_25 : decode cX0_takeFrom 25 = .ok (.bipush 20, 2) := by decide +kernel
theorem dX0_takeFrom_27 : decode cX0_takeFrom 27 = .ok (.invokestatic 32, 3) := by decide +kernel
theorem dX0_takeFrom_30 : decode cX0_takeFrom 30 = .ok (.aload_n 0, 1) := by decide +kernel
theorem dX0_takeFrom_31 : decode cX0_takeFrom 31 = .ok (.aload_n 1, 1) := by decide +kernel
theorem dX0_takeFrom_32 : decode cX0_takeFrom 32 = .ok (.getfield 38, 3) := by decide +kernel
theorem dX0_takeFrom_35 : decode cX0_takeFrom 35 = .ok (.putfield 38, 3) := by decide +kernel
theorem dX0_takeFrom_38 : decode cX0_takeFrom 38 = .ok (.iconst 0, 1) := by decide +kernel
theorem dX0_takeFrom_39 : decode cX0_takeFrom 39 = .ok (.istore_n 2, 1) := by decide +kernel
theorem dX0_takeFrom_40 : decode cX0_takeFrom 40 = .ok (.iload_n 2, 1) := by decide +kernel
theorem dX0_takeFrom_41 : decode cX0_takeFrom 41 = .ok (.aload_n 0, 1) := by decide +kernel
theorem dX0_takeFrom_42 : decode cX0_takeFrom 42 = .ok (.getfield 38, 3) := by decide +kernel
theorem dX0_takeFrom_45 : decode cX0_takeFrom 45 = .ok (.if_icmp .ge 24, 3) := by decide +kernel
theorem dX0_takeFrom_48 : decode cX0_takeFrom 48 = .ok (.aload_n 0, 1) := by decide +kernel
theorem dX0_takeFrom_49 : decode cX0_takeFrom 49 = .ok (.getfield 20, 3) := by decide +kernel
theorem dX0_takeFrom_52 : decode cX0_takeFrom 52 = .ok (.iload_n 2, 1) := by decide +kernel
theorem dX0_takeFrom_53 : decode cX0_takeFrom 53 = .ok (.aaload, 1) := by decide +kernel
theorem dX0_takeFrom_54 : decode cX0_takeFrom 54 = .ok (.aload_n 1, 1) := by decide +kernel
theorem dX0_takeFrom_55 : decode cX0_takeFrom 55 = .ok (.getfield 20, 3) := by decide +kernel
theorem dX0_takeFrom_58 : decode cX0_takeFrom 58 = .ok (.iload_n 2, 1) := by decide +kernel
theorem dX0_takeFrom_59 : decode cX0_takeFrom 59 = .ok (.aaload, 1) := by decide +kernel
theorem dX0_takeFrom_60 : decode cX0_takeFrom 60 = .ok (.invokevirtual 41, 3) := by decide +kernel
theorem dX0_takeFrom_63 : decode cX0_takeFrom 63 = .ok (.iinc 2 1, 3) := by decide +kernel
theorem dX0_takeFrom_66 : decode cX0_takeFrom 66 = .ok (.goto (-26), 3) := by decide +kernel
theorem dX0_takeFrom_69 : decode cX0_takeFrom 69 = .ok (.aload_n 0, 1) := by decide +kernel
theorem dX0_takeFrom_70 : decode cX0_takeFrom 70 = .ok (.aload_n 1, 1) := by decide +kernel
theorem dX0_takeFrom_71 : decode cX0_takeFrom 71 = .ok (.getfield 25, 3) := by decide +kernel
theorem dX0_takeFrom_74 : decode cX0_takeFrom 74 = .ok (.putfield 25, 3) := by decide +kernel
theorem dX0_takeFrom_77 : decode cX0_takeFrom 77 = .ok (.aload_n 0, 1) := by decide +kernel
theorem dX0_takeFrom_78 : decode cX0_takeFrom 78 = .ok (.aload_n 1, 1) := by decide +kernel
theorem dX0_takeFrom_79 : decode cX0_takeFrom 79 = .ok (.getfield 29, 3) := by decide +kernel
theorem dX0_takeFrom_82 : decode cX0_takeFrom 82 = .ok (.putfield 29, 3) := by decide +kernel
theorem dX0_takeFrom_85 : decode cX0_takeFrom 85 = .ok (.aload_n 0, 1) := by decide +kernel
theorem dX0_takeFrom_86 : decode cX0_takeFrom 86 = .ok (.aload_n 1, 1) := by decide +kernel
theorem dX0_takeFrom_87 : decode cX0_takeFrom 87 = .ok (.getfield 45, 3) := by decide +kernel
theorem dX0_takeFrom_90 : decode cX0_takeFrom 90 = .ok (.putfield 45, 3) := by decide +kernel
theorem dX0_takeFrom_93 : decode cX0_takeFrom 93 = .ok (.aload_n 0, 1) := by decide +kernel
theorem dX0_takeFrom_94 : decode cX0_takeFrom 94 = .ok (.aload_n 1, 1) := by decide +kernel
theorem dX0_takeFrom_95 : decode cX0_takeFrom 95 = .ok (.getfield 48, 3) := by decide +kernel
theorem dX0_takeFrom_98 : decode cX0_takeFrom 98 = .ok (.putfield 48, 3) := by decide +kernel
theorem dX0_takeFrom_101 : decode cX0_takeFrom 101 = .ok (.aload_n 0, 1) := by decide +kernel
theorem dX0_takeFrom_102 : decode cX0_takeFrom 102 = .ok (.aload_n 1, 1) := by decide +kernel
theorem dX0_takeFrom_103 : decode cX0_takeFrom 103 = .ok (.getfield 51, 3) := by decide +kernel
theorem dX0_takeFrom_106 : decode cX0_takeFrom 106 = .ok (.putfield 51, 3) := by decide +kernel
theorem dX0_takeFrom_109 : decode cX0_takeFrom 109 = .ok (.return_, 1) := by decide +kernel
theorem dX0_takeAsHeard_0 : decode cX0_takeAsHeard 0 = .ok (.aload_n 0, 1) := by decide +kernel
theorem dX0_takeAsHeard_1 : decode cX0_takeAsHeard 1 = .ok (.aload_n 1, 1) := by decide +kernel
theorem dX0_takeAsHeard_2 : decode cX0_takeAsHeard 2 = .ok (.invokevirtual 54, 3) := by decide +kernel
theorem dX0_takeAsHeard_5 : decode cX0_takeAsHeard 5 = .ok (.iconst 0, 1) := by decide +kernel
theorem dX0_takeAsHeard_6 : decode cX0_takeAsHeard 6 = .ok (.istore_n 2, 1) := by decide +kernel
theorem dX0_takeAsHeard_7 : decode cX0_takeAsHeard 7 = .ok (.iload_n 2, 1) := by decide +kernel
theorem dX0_takeAsHeard_8 : decode cX0_takeAsHeard 8 = .ok (.aload_n 0, 1) := by decide +kernel
theorem dX0_takeAsHeard_9 : decode cX0_takeAsHeard 9 = .ok (.getfield 38, 3) := by decide +kernel
theorem dX0_takeAsHeard_12 : decode cX0_takeAsHeard 12 = .ok (.if_icmp .ge 27, 3) := by decide +kernel
theorem dX0_takeAsHeard_15 : decode cX0_takeAsHeard 15 = .ok (.aload_n 0, 1) := by decide +kernel
theorem dX0_takeAsHeard_16 : decode cX0_takeAsHeard 16 = .ok (.getfield 20, 3) := by decide +kernel
theorem dX0_takeAsHeard_19 : decode cX0_takeAsHeard 19 = .ok (.iload_n 2, 1) := by decide +kernel
theorem dX0_takeAsHeard_20 : decode cX0_takeAsHeard 20 = .ok (.aaload, 1) := by decide +kernel
theorem dX0_takeAsHeard_21 : decode cX0_takeAsHeard 21 = .ok (.aload_n 0, 1) := by decide +kernel
theorem dX0_takeAsHeard_22 : decode cX0_takeAsHeard 22 = .ok (.getfield 20, 3) := by decide +kernel
theorem dX0_takeAsHeard_25 : decode cX0_takeAsHeard 25 = .ok (.iload_n 2, 1) := by decide +kernel
theorem dX0_takeAsHeard_26 : decode cX0_takeAsHeard 26 = .ok (.aaload, 1) := by decide +kernel
theorem dX0_takeAsHeard_27 : decode cX0_takeAsHeard 27 = .ok (.getfield 57, 3) := by decide +kernel
theorem dX0_takeAsHeard_30 : decode cX0_takeAsHeard 30 = .ok (.putfield 61, 3) := by decide +kernel
theorem dX0_takeAsHeard_33 : decode cX0_takeAsHeard 33 = .ok (.iinc 2 1, 3) := by decide +kernel
theorem dX0_takeAsHeard_36 : decode cX0_takeAsHeard 36 = .ok (.goto (-29), 3) := by decide +kernel
theorem dX0_takeAsHeard_39 : decode cX0_takeAsHeard 39 = .ok (.aload_n 0, 1) := by decide +kernel
theorem dX0_takeAsHeard_40 : decode cX0_takeAsHeard 40 = .ok (.invokevirtual 64, 3) := by decide +kernel
theorem dX0_takeAsHeard_43 : decode cX0_takeAsHeard 43 = .ok (.return_, 1) := by decide +kernel
theorem dX0_wireNumbered_0 : decode cX0_wireNumbered 0 = .ok (.iload_n 1, 1) := by decide +kernel
theorem dX0_wireNumbered_1 : decode cX0_wireNumbered 1 = .ok (.ifCond .lt 20, 3) := by decide +kernel
theorem dX0_wireNumbered_4 : decode cX0_wireNumbered 4 = .ok (.iload_n 1, 1) := by decide +kernel
theorem dX0_wireNumbered_5 : decode cX0_wireNumbered 5 = .ok (.aload_n 0, 1) := by decide +kernel
theorem dX0_wireNumbered_6 : decode cX0_wireNumbered 6 = .ok (.getfield 38, 3) := by decide +kernel
theorem dX0_wireNumbered_9 : decode cX0_wireNumbered 9 = .ok (.if_icmp .ge 12, 3) := by decide +kernel
theorem dX0_wireNumbered_12 : decode cX0_wireNumbered 12 = .ok (.aload_n 0, 1) := by decide +kernel
theorem dX0_wireNumbered_13 : decode cX0_wireNumbered 13 = .ok (.getfield 20, 3) := by decide +kernel
theorem dX0_wireNumbered_16 : decode cX0_wireNumbered 16 = .ok (.iload_n 1, 1) := by decide +kernel
theorem dX0_wireNumbered_17 : decode cX0_wireNumbered 17 = .ok (.aaload, 1) := by decide +kernel
theorem dX0_wireNumbered_18 : decode cX0_wireNumbered 18 = .ok (.goto 4, 3) := by decide +kernel
theorem dX0_wireNumbered_21 : decode cX0_wireNumbered 21 = .ok (.aconst_null, 1) := by decide +kernel
theorem dX0_wireNumbered_22 : decode cX0_wireNumbered 22 = .ok (.areturn, 1) := by decide +kernel
theorem dX0_changeSetting_0 : decode cX0_changeSetting 0 = .ok (.iload_n 2, 1) := by decide +kernel
theorem dX0_changeSetting_1 : decode cX0_changeSetting 1 = .ok (.iconst 0, 1) := by decide +kernel
theorem dX0_changeSetting_2 : decode cX0_changeSetting 2 = .ok (.bipush 100, 2) := by decide +kernel
theorem dX0_changeSetting_4 : decode cX0_changeSetting 4 = .ok (.invokestatic 67, 3) := by decide +kernel
theorem dX0_changeSetting_7 : decode cX0_changeSetting 7 = .ok (.ifCond .ne 6, 3) := by decide +kernel
theorem dX0_changeSetting_10 : decode cX0_changeSetting 10 = .ok (.bipush (-2), 2) := by decide +kernel
theorem dX0_changeSetting_12 : decode cX0_changeSetting 12 = .ok (.ireturn, 1) := by decide +kernel
theorem dX0_changeSetting_13 : decode cX0_changeSetting 13 = .ok (.iload_n 1, 1) := by decide +kernel
theorem dX0_changeSetting_14 : decode cX0_changeSetting 14 = .ok (.ifCond .ne 15, 3) := by decide +kernel
theorem dX0_changeSetting_17 : decode cX0_changeSetting 17 = .ok (.aload_n 0, 1) := by decide +kernel
theorem dX0_changeSetting_18 : decode cX0_changeSetting 18 = .ok (.getfield 25, 3) := by decide +kernel
theorem dX0_changeSetting_21 : decode cX0_changeSetting 21 = .ok (.istore_n 3, 1) := by decide +kernel
theorem dX0_changeSetting_22 : decode cX0_changeSetting 22 = .ok (.aload_n 0, 1) := by decide +kernel
theorem dX0_changeSetting_23 : decode cX0_changeSetting 23 = .ok (.iload_n 2, 1) := by decide +kernel
theorem dX0_changeSetting_24 : decode cX0_changeSetting 24 = .ok (.putfield 25, 3) := by decide +kernel
theorem dX0_changeSetting_27 : decode cX0_changeSetting 27 = .ok (.iload_n 3, 1) := by decide +kernel
theorem dX0_changeSetting_28 : decode cX0_changeSetting 28 = .ok (.ireturn, 1) := by decide +kernel
theorem dX0_changeSetting_29 : decode cX0_changeSetting 29 = .ok (.iload_n 1, 1) := by decide +kernel
theorem dX0_changeSetting_30 : decode cX0_changeSetting 30 = .ok (.iconst 1, 1) := by decide +kernel
theorem dX0_changeSetting_31 : decode cX0_changeSetting 31 = .ok (.if_icmp .ne 15, 3) := by decide +kernel
theorem dX0_changeSetting_34 : decode cX0_changeSetting 34 = .ok (.aload_n 0, 1) := by decide +kernel
theorem dX0_changeSetting_35 : decode cX0_changeSetting 35 = .ok (.getfield 29, 3) := by decide +kernel
theorem dX0_changeSetting_38 : decode cX0_changeSetting 38 = .ok (.istore_n 3, 1) := by decide +kernel
theorem dX0_changeSetting_39 : decode cX0_changeSetting 39 = .ok (.aload_n 0, 1) := by decide +kernel
theorem dX0_changeSetting_40 : decode cX0_changeSetting 40 = .ok (.iload_n 2, 1) := by decide +kernel
theorem dX0_changeSetting_41 : decode cX0_changeSetting 41 = .ok (.putfield 29, 3) := by decide +kernel
theorem dX0_changeSetting_44 : decode cX0_changeSetting 44 = .ok (.iload_n 3, 1) := by decide +kernel
theorem dX0_changeSetting_45 : decode cX0_changeSetting 45 = .ok (.ireturn, 1) := by decide +kernel
theorem dX0_changeSetting_46 : decode cX0_changeSetting 46 = .ok (.bipush (-2), 2) := by decide +kernel
theorem dX0_changeSetting_48 : decode cX0_changeSetting 48 = .ok (.ireturn, 1) := by decide +kernel
theorem dX0_hang_0 : decode cX0_hang 0 = .ok (.iload_n 1, 1) := by decide +kernel
theorem dX0_hang_1 : decode cX0_hang 1 = .ok (.iconst 0, 1) := by decide +kernel
theorem dX0_hang_2 : decode cX0_hang 2 = .ok (.bipush 19, 2) := by decide +kernel
theorem dX0_hang_4 : decode cX0_hang 4 = .ok (.invokestatic 67, 3) := by decide +kernel
theorem dX0_hang_7 : decode cX0_hang 7 = .ok (.ifCond .eq 48, 3) := by decide +kernel
theorem dX0_hang_10 : decode cX0_hang 10 = .ok (.iload_n 2, 1) := by decide +kernel
theorem dX0_hang_11 : decode cX0_hang 11 = .ok (.bipush 10, 2) := by decide +kernel
theorem dX0_hang_13 : decode cX0_hang 13 = .ok (.sipush 200, 3) := by decide +kernel
theorem dX0_hang_16 : decode cX0_hang 16 = .ok (.invokestatic 67, 3) := by decide +kernel
theorem dX0_hang_19 : decode cX0_hang 19 = .ok (.ifCond .eq 36, 3) := by decide +kernel
theorem dX0_hang_22 : decode cX0_hang 22 = .ok (.iload_n 3, 1) := by decide +kernel
theorem dX0_hang_23 : decode cX0_hang 23 = .ok (.iconst 1, 1) := by decide +kernel
theorem dX0_hang_24 : decode cX0_hang 24 = .ok (.bipush 20, 2) := by decide +kernel
theorem dX0_hang_26 : decode cX0_hang 26 = .ok (.invokestatic 67, 3) := by decide +kernel
theorem dX0_hang_29 : decode cX0_hang 29 = .ok (.ifCond .eq 26, 3) := by decide +kernel
theorem dX0_hang_32 : decode cX0_hang 32 = .ok (.iload 4, 2) := by decide +kernel
theorem dX0_hang_34 : decode cX0_hang 34 = .ok (.bipush 100, 2) := by decide +kernel
theorem dX0_hang_36 : decode cX0_hang 36 = .ok (.ldc 71, 2) := by decide +kernel
theorem dX0_hang_38 : decode cX0_hang 38 = .ok (.invokestatic 67, 3) := by decide +kernel
theorem dX0_hang_41 : decode cX0_hang 41 = .ok (.ifCond .eq 14, 3) := by decide +kernel
theorem dX0_hang_44 : decode cX0_hang 44 = .ok (.iload 5, 2) := by decide +kernel
theorem dX0_hang_46 : decode cX0_hang 46 = .ok (.iconst 0, 1) := by decide +kernel
theorem dX0_hang_47 : decode cX0_hang 47 = .ok (.ldc 71, 2) := by decide +kernel
theorem dX0_hang_49 : decode cX0_hang 49 = .ok (.invokestatic 67, 3) := by decide +kernel
theorem dX0_hang_52 : decode cX0_hang 52 = .ok (.ifCond .ne 6, 3) := by decide +kernel
theorem dX0_hang_55 : decode cX0_hang 55 = .ok (.bipush (-2), 2) := by decide +kernel
theorem dX0_hang_57 : decode cX0_hang 57 = .ok (.ireturn, 1) := by decide +kernel
theorem dX0_hang_58 : decode cX0_hang 58 = .ok (.aload_n 0, 1) := by decide +kernel
theorem dX0_hang_59 : decode cX0_hang 59 = .ok (.getfield 38, 3) := by decide +kernel
theorem dX0_hang_62 : decode cX0_hang 62 = .ok (.bipush 8, 2) := by decide +kernel
theorem dX0_hang_64 : decode cX0_hang 64 = .ok (.if_icmp .lt 6, 3) := by decide +kernel
theorem dX0_hang_67 : decode cX0_hang 67 = .ok (.bipush (-4), 2) := by decide +kernel
theorem dX0_hang_69 : decode cX0_hang 69 = .ok (.ireturn, 1) := by decide +kernel
theorem dX0_hang_70 : decode cX0_hang 70 = .ok (.aload_n 0, 1) := by decide +kernel
theorem dX0_hang_71 : decode cX0_hang 71 = .ok (.getfield 15, 3) := by decide +kernel
theorem dX0_hang_74 : decode cX0_hang 74 = .ok (.iload_n 1, 1) := by decide +kernel
theorem dX0_hang_75 : decode cX0_hang 75 = .ok (.iaload, 1) := by decide +kernel
theorem dX0_hang_76 : decode cX0_hang 76 = .ok (.iconst (-1), 1) := by decide +kernel
theorem dX0_hang_77 : decode cX0_hang 77 = .ok (.if_icmp .ne 10, 3) := by decide +kernel
theorem dX0_hang_80 : decode cX0_hang 80 = .ok (.iload 5, 2) := by decide +kernel
theorem dX0_hang_82 : decode cX0_hang 82 = .ok (.iload 4, 2) := by decide +kernel
theorem dX0_hang_84 : decode cX0_hang 84 = .ok (.if_icmp .le 6, 3) := by decide +kernel
theorem dX0_hang_87 : decode cX0_hang 87 = .ok (.bipush (-5), 2) := by decide +kernel
theorem dX0_hang_89 : decode cX0_hang 89 = .ok (.ireturn, 1) := by decide +kernel
theorem dX0_hang_90 : decode cX0_hang 90 = .ok (.aload_n 0, 1) := by decide +kernel
theorem dX0_hang_91 : decode cX0_hang 91 = .ok (.getfield 38, 3) := by decide +kernel
theorem dX0_hang_94 : decode cX0_hang 94 = .ok (.istore 6, 2) := by decide +kernel
theorem dX0_hang_96 : decode cX0_hang 96 = .ok (.aload_n 0, 1) := by decide +kernel
theorem dX0_hang_97 : decode cX0_hang 97 = .ok (.getfield 20, 3) := by decide +kernel
theorem dX0_hang_100 : decode cX0_hang 100 = .ok (.iload 6, 2) := by decide +kernel
theorem dX0_hang_102 : decode cX0_hang 102 = .ok (.aaload, 1) := by decide +kernel
theorem dX0_hang_103 : decode cX0_hang 103 = .ok (.iload_n 1, 1) := by decide +kernel
theorem dX0_hang_104 : decode cX0_hang 104 = .ok (.iload_n 2, 1) := by decide +kernel
theorem dX0_hang_105 : decode cX0_hang 105 = .ok (.iload_n 3, 1) := by decide +kernel
theorem dX0_hang_106 : decode cX0_hang 106 = .ok (.iload 4, 2) := by decide +kernel
theorem dX0_hang_108 : decode cX0_hang 108 = .ok (.iload 5, 2) := by decide +kernel
theorem dX0_hang_110 : decode cX0_hang 110 = .ok (.invokevirtual 72, 3) := by decide +kernel
theorem dX0_hang_113 : decode cX0_hang 113 = .ok (.aload_n 0, 1) := by decide +kernel
theorem dX0_hang_114 : decode cX0_hang 114 = .ok (.getfield 15, 3) := by decide +kernel
theorem dX0_hang_117 : decode cX0_hang 117 = .ok (.iload_n 1, 1) := by decide +kernel
theorem dX0_hang_118 : decode cX0_hang 118 = .ok (.iload 6, 2) := by decide +kernel
theorem dX0_hang_120 : decode cX0_hang 120 = .ok (.iastore, 1) := by decide +kernel
theorem dX0_hang_121 : decode cX0_hang 121 = .ok (.aload_n 0, 1) := by decide +kernel
theorem dX0_hang_122 : decode cX0_hang 122 = .ok (.dup, 1) := by decide +kernel
theorem dX0_hang_123 : decode cX0_hang 123 = .ok (.getfield 38, 3) := by decide +kernel
theorem dX0_hang_126 : decode cX0_hang 126 = .ok (.iconst 1, 1) := by decide +kernel
theorem dX0_hang_127 : decode cX0_hang 127 = .ok (.iadd, 1) := by decide +kernel
theorem dX0_hang_128 : decode cX0_hang 128 = .ok (.putfield 38, 3) := by decide +kernel
theorem dX0_hang_131 : decode cX0_hang 131 = .ok (.aload_n 0, 1) := by decide +kernel
theorem dX0_hang_132 : decode cX0_hang 132 = .ok (.invokevirtual 64, 3) := by decide +kernel
theorem dX0_hang_135 : decode cX0_hang 135 = .ok (.aload_n 0, 1) := by decide +kernel
theorem dX0_hang_136 : decode cX0_hang 136 = .ok (.invokevirtual 76, 3) := by decide +kernel
theorem dX0_hang_139 : decode cX0_hang 139 = .ok (.pop, 1) := by decide +kernel
theorem dX0_hang_140 : decode cX0_hang 140 = .ok (.iload 6, 2) := by decide +kernel
theorem dX0_hang_142 : decode cX0_hang 142 = .ok (.ireturn, 1) := by decide +kernel
theorem dX0_changeLoad_0 : decode cX0_changeLoad 0 = .ok (.iload_n 1, 1) := by decide +kernel
theorem dX0_changeLoad_1 : decode cX0_changeLoad 1 = .ok (.iconst 0, 1) := by decide +kernel
theorem dX0_changeLoad_2 : decode cX0_changeLoad 2 = .ok (.bipush 19, 2) := by decide +kernel
theorem dX0_changeLoad_4 : decode cX0_changeLoad 4 = .ok (.invokestatic 67, 3) := by decide +kernel
theorem dX0_changeLoad_7 : decode cX0_changeLoad 7 = .ok (.ifCond .ne 5, 3) := by decide +kernel
theorem dX0_changeLoad_10 : decode cX0_changeLoad 10 = .ok (.iconst (-1), 1) := by decide +kernel
theorem dX0_changeLoad_11 : decode cX0_changeLoad 11 = .ok (.ireturn, 1) := by decide +kernel
theorem dX0_changeLoad_12 : decode cX0_changeLoad 12 = .ok (.iload_n 2, 1) := by decide +kernel
theorem dX0_changeLoad_13 : decode cX0_changeLoad 13 = .ok (.iconst 0, 1) := by decide +kernel
theorem dX0_changeLoad_14 : decode cX0_changeLoad 14 = .ok (.sipush 1000, 3) := by decide +kernel
theorem dX0_changeLoad_17 : decode cX0_changeLoad 17 = .ok (.invokestatic 67, 3) := by decide +kernel
theorem dX0_changeLoad_20 : decode cX0_changeLoad 20 = .ok (.ifCond .ne 6, 3) := by decide +kernel
theorem dX0_changeLoad_23 : decode cX0_changeLoad 23 = .ok (.bipush (-2), 2) := by decide +kernel
theorem dX0_changeLoad_25 : decode cX0_changeLoad 25 = .ok (.ireturn, 1) := by decide +kernel
theorem dX0_changeLoad_26 : decode cX0_changeLoad 26 = .ok (.aload_n 0, 1) := by decide +kernel
theorem dX0_changeLoad_27 : decode cX0_changeLoad 27 = .ok (.getfield 9, 3) := by decide +kernel
theorem dX0_changeLoad_30 : decode cX0_changeLoad 30 = .ok (.iload_n 1, 1) := by decide +kernel
theorem dX0_changeLoad_31 : decode cX0_changeLoad 31 = .ok (.iaload, 1) := by decide +kernel
theorem dX0_changeLoad_32 : decode cX0_changeLoad 32 = .ok (.istore_n 3, 1) := by decide +kernel
theorem dX0_changeLoad_33 : decode cX0_changeLoad 33 = .ok (.aload_n 0, 1) := by decide +kernel
theorem dX0_changeLoad_34 : decode cX0_changeLoad 34 = .ok (.getfield 9, 3) := by decide +kernel
theorem dX0_changeLoad_37 : decode cX0_changeLoad 37 = .ok (.iload_n 1, 1) := by decide +kernel
theorem dX0_changeLoad_38 : decode cX0_changeLoad 38 = .ok (.iload_n 2, 1) := by decide +kernel
theorem dX0_changeLoad_39 : decode cX0_changeLoad 39 = .ok (.iastore, 1) := by decide +kernel
theorem dX0_changeLoad_40 : decode cX0_changeLoad 40 = .ok (.aload_n 0, 1) := by decide +kernel
theorem dX0_changeLoad_41 : decode cX0_changeLoad 41 = .ok (.invokevirtual 64, 3) := by decide +kernel
theorem dX0_changeLoad_44 : decode cX0_changeLoad 44 = .ok (.aload_n 0, 1) := by decide +kernel
theorem dX0_changeLoad_45 : decode cX0_changeLoad 45 = .ok (.invokevirtual 76, 3) := by decide +kernel
theorem dX0_changeLoad_48 : decode cX0_changeLoad 48 = .ok (.pop, 1) := by decide +kernel
theorem dX0_changeLoad_49 : decode cX0_changeLoad 49 = .ok (.iload_n 3, 1) := by decide +kernel
theorem dX0_changeLoad_50 : decode cX0_changeLoad 50 = .ok (.ireturn, 1) := by decide +kernel
theorem dX0_letPass_0 : decode cX0_letPass 0 = .ok (.iload_n 1, 1) := by decide +kernel
theorem dX0_letPass_1 : decode cX0_letPass 1 = .ok (.iconst 1, 1) := by decide +kernel
theorem dX0_letPass_2 : decode cX0_letPass 2 = .ok (.bipush 100, 2) := by decide +kernel
theorem dX0_letPass_4 : decode cX0_letPass 4 = .ok (.invokestatic 67, 3) := by decide +kernel
theorem dX0_letPass_7 : decode cX0_letPass 7 = .ok (.ifCond .ne 6, 3) := by decide +kernel
theorem dX0_letPass_10 : decode cX0_letPass 10 = .ok (.bipush (-2), 2) := by decide +kernel
theorem dX0_letPass_12 : decode cX0_letPass 12 = .ok (.ireturn, 1) := by decide +kernel
theorem dX0_letPass_13 : decode cX0_letPass 13 = .ok (.iconst 0, 1) := by decide +kernel
theorem dX0_letPass_14 : decode cX0_letPass 14 = .ok (.istore_n 2, 1) := by decide +kernel
theorem dX0_letPass_15 : decode cX0_letPass 15 = .ok (.iconst 0, 1) := by decide +kernel
theorem dX0_letPass_16 : decode cX0_letPass 16 = .ok (.istore_n 3, 1) := by decide +kernel
theorem dX0_letPass_17 : decode cX0_letPass 17 = .ok (.iload_n 3, 1) := by decide +kernel
theorem dX0_letPass_18 : decode cX0_letPass 18 = .ok (.iload_n 1, 1) := by decide +kernel
theorem dX0_letPass_19 : decode cX0_letPass 19 = .ok (.if_icmp .ge 61, 3) := by decide +kernel
theorem dX0_letPass_22 : decode cX0_letPass 22 = .ok (.iconst 0, 1) := by decide +kernel
theorem dX0_letPass_23 : decode cX0_letPass 23 = .ok (.istore 4, 2) := by decide +kernel
theorem dX0_letPass_25 : decode cX0_letPass 25 = .ok (.iload 4, 2) := by decide +kernel
theorem dX0_letPass_27 : decode cX0_letPass 27 = .ok (.aload_n 0, 1) := by decide +kernel
theorem dX0_letPass_28 : decode cX0_letPass 28 = .ok (.getfield 38, 3) := by decide +kernel
theorem dX0_letPass_31 : decode cX0_letPass 31 = .ok (.if_icmp .ge 23, 3) := by decide +kernel
theorem dX0_letPass_34 : decode cX0_letPass 34 = .ok (.aload_n 0, 1) := by decide +kernel
theorem dX0_letPass_35 : decode cX0_letPass 35 = .ok (.getfield 20, 3) := by decide +kernel
theorem dX0_letPass_38 : decode cX0_letPass 38 = .ok (.iload 4, 2) := by decide +kernel
theorem dX0_letPass_40 : decode cX0_letPass 40 = .ok (.aaload, 1) := by decide +kernel
theorem dX0_letPass_41 : decode cX0_letPass 41 = .ok (.aload_n 0, 1) := by decide +kernel
theorem dX0_letPass_42 : decode cX0_letPass 42 = .ok (.getfield 25, 3) := by decide +kernel
theorem dX0_letPass_45 : decode cX0_letPass 45 = .ok (.invokevirtual 80, 3) := by decide +kernel
theorem dX0_letPass_48 : decode cX0_letPass 48 = .ok (.iinc 4 1, 3) := by decide +kernel
theorem dX0_letPass_51 : decode cX0_letPass 51 = .ok (.goto (-26), 3) := by decide +kernel
theorem dX0_letPass_54 : decode cX0_letPass 54 = .ok (.iload_n 2, 1) := by decide +kernel
theorem dX0_letPass_55 : decode cX0_letPass 55 = .ok (.aload_n 0, 1) := by decide +kernel
theorem dX0_letPass_56 : decode cX0_letPass 56 = .ok (.invokevirtual 76, 3) := by decide +kernel
theorem dX0_letPass_59 : decode cX0_letPass 59 = .ok (.invokestatic 84, 3) := by decide +kernel
theorem dX0_letPass_62 : decode cX0_letPass 62 = .ok (.iadd, 1) := by decide +kernel
theorem dX0_letPass_63 : decode cX0_letPass 63 = .ok (.istore_n 2, 1) := by decide +kernel
theorem dX0_letPass_64 : decode cX0_letPass 64 = .ok (.aload_n 0, 1) := by decide +kernel
theorem dX0_letPass_65 : decode cX0_letPass 65 = .ok (.dup, 1) := by decide +kernel
theorem dX0_letPass_66 : decode cX0_letPass 66 = .ok (.getfield 45, 3) := by decide +kernel
theorem dX0_letPass_69 : decode cX0_letPass 69 = .ok (.iconst 1, 1) := by decide +kernel
theorem dX0_letPass_70 : decode cX0_letPass 70 = .ok (.iadd, 1) := by decide +kernel
theorem dX0_letPass_71 : decode cX0_letPass 71 = .ok (.putfield 45, 3) := by decide +kernel
theorem dX0_letPass_74 : decode cX0_letPass 74 = .ok (.iinc 3 1, 3) := by decide +kernel
theorem dX0_letPass_77 : decode cX0_letPass 77 = .ok (.goto (-60), 3) := by decide +kernel
theorem dX0_letPass_80 : decode cX0_letPass 80 = .ok (.iload_n 2, 1) := by decide +kernel
theorem dX0_letPass_81 : decode cX0_letPass 81 = .ok (.ireturn, 1) := by decide +kernel
theorem dX0_goTo_0 : decode cX0_goTo 0 = .ok (.iload_n 1, 1) := by decide +kernel
theorem dX0_goTo_1 : decode cX0_goTo 1 = .ok (.iconst 0, 1) := by decide +kernel
theorem dX0_goTo_2 : decode cX0_goTo 2 = .ok (.bipush 19, 2) := by decide +kernel
theorem dX0_goTo_4 : decode cX0_goTo 4 = .ok (.invokestatic 67, 3) := by decide +kernel
theorem dX0_goTo_7 : decode cX0_goTo 7 = .ok (.ifCond .ne 5, 3) := by decide +kernel
theorem dX0_goTo_10 : decode cX0_goTo 10 = .ok (.iconst (-1), 1) := by decide +kernel
theorem dX0_goTo_11 : decode cX0_goTo 11 = .ok (.ireturn, 1) := by decide +kernel
theorem dX0_goTo_12 : decode cX0_goTo 12 = .ok (.iload_n 1, 1) := by decide +kernel
theorem dX0_goTo_13 : decode cX0_goTo 13 = .ok (.aload_n 0, 1) := by decide +kernel
theorem dX0_goTo_14 : decode cX0_goTo 14 = .ok (.getfield 48, 3) := by decide +kernel
theorem dX0_goTo_17 : decode cX0_goTo 17 = .ok (.isub, 1) := by decide +kernel
theorem dX0_goTo_18 : decode cX0_goTo 18 = .ok (.invokestatic 90, 3) := by decide +kernel
theorem dX0_goTo_21 : decode cX0_goTo 21 = .ok (.istore_n 2, 1) := by decide +kernel
theorem dX0_goTo_22 : decode cX0_goTo 22 = .ok (.aload_n 0, 1) := by decide +kernel
theorem dX0_goTo_23 : decode cX0_goTo 23 = .ok (.iload_n 1, 1) := by decide +kernel
theorem dX0_goTo_24 : decode cX0_goTo 24 = .ok (.putfield 48, 3) := by decide +kernel
theorem dX0_goTo_27 : decode cX0_goTo 27 = .ok (.aload_n 0, 1) := by decide +kernel
theorem dX0_goTo_28 : decode cX0_goTo 28 = .ok (.dup, 1) := by decide +kernel
theorem dX0_goTo_29 : decode cX0_goTo 29 = .ok (.getfield 51, 3) := by decide +kernel
theorem dX0_goTo_32 : decode cX0_goTo 32 = .ok (.iload_n 2, 1) := by decide +kernel
theorem dX0_goTo_33 : decode cX0_goTo 33 = .ok (.iadd, 1) := by decide +kernel
theorem dX0_goTo_34 : decode cX0_goTo 34 = .ok (.putfield 51, 3) := by decide +kernel
theorem dX0_goTo_37 : decode cX0_goTo 37 = .ok (.iload_n 2, 1) := by decide +kernel
theorem dX0_goTo_38 : decode cX0_goTo 38 = .ok (.ireturn, 1) := by decide +kernel
theorem dX0_wireHere_0 : decode cX0_wireHere 0 = .ok (.aload_n 0, 1) := by decide +kernel
theorem dX0_wireHere_1 : decode cX0_wireHere 1 = .ok (.getfield 48, 3) := by decide +kernel
theorem dX0_wireHere_4 : decode cX0_wireHere 4 = .ok (.iconst 0, 1) := by decide +kernel
theorem dX0_wireHere_5 : decode cX0_wireHere 5 = .ok (.bipush 19, 2) := by decide +kernel
theorem dX0_wireHere_7 : decode cX0_wireHere 7 = .ok (.invokestatic 67, 3) := by decide +kernel
theorem dX0_wireHere_10 : decode cX0_wireHere 10 = .ok (.ifCond .eq 19, 3) := by decide +kernel
theorem dX0_wireHere_13 : decode cX0_wireHere 13 = .ok (.aload_n 0, 1) := by decide +kernel
theorem dX0_wireHere_14 : decode cX0_wireHere 14 = .ok (.aload_n 0, 1) := by decide +kernel
theorem dX0_wireHere_15 : decode cX0_wireHere 15 = .ok (.getfield 15, 3) := by decide +kernel
theorem dX0_wireHere_18 : decode cX0_wireHere 18 = .ok (.aload_n 0, 1) := by decide +kernel
theorem dX0_wireHere_19 : decode cX0_wireHere 19 = .ok (.getfield 48, 3) := by decide +kernel
theorem dX0_wireHere_22 : decode cX0_wireHere 22 = .ok (.iaload, 1) := by decide +kernel
theorem dX0_wireHere_23 : decode cX0_wireHere 23 = .ok (.invokevirtual 95, 3) := by decide +kernel
theorem dX0_wireHere_26 : decode cX0_wireHere 26 = .ok (.goto 4, 3) := by decide +kernel
theorem dX0_wireHere_29 : decode cX0_wireHere 29 = .ok (.aconst_null, 1) := by decide +kernel
theorem dX0_wireHere_30 : decode cX0_wireHere 30 = .ok (.areturn, 1) := by decide +kernel
theorem dX0_listen_0 : decode cX0_listen 0 = .ok (.aload_n 0, 1) := by decide +kernel
theorem dX0_listen_1 : decode cX0_listen 1 = .ok (.invokevirtual 99, 3) := by decide +kernel
theorem dX0_listen_4 : decode cX0_listen 4 = .ok (.astore_n 1, 1) := by decide +kernel
theorem dX0_listen_5 : decode cX0_listen 5 = .ok (.aload_n 1, 1) := by decide +kernel
theorem dX0_listen_6 : decode cX0_listen 6 = .ok (.ifnonnull 8, 3) := by decide +kernel
theorem dX0_listen_9 : decode cX0_listen 9 = .ok (.bipush (-5), 2) := by decide +kernel
theorem dX0_listen_11 : decode cX0_listen 11 = .ok (.goto 11, 3) := by decide +kernel
theorem dX0_listen_14 : decode cX0_listen 14 = .ok (.aload_n 1, 1) := by decide +kernel
theorem dX0_listen_15 : decode cX0_listen 15 = .ok (.aload_n 0, 1) := by decide +kernel
theorem dX0_listen_16 : decode cX0_listen 16 = .ok (.getfield 45, 3) := by decide +kernel
theorem dX0_listen_19 : decode cX0_listen 19 = .ok (.invokevirtual 103, 3) := by decide +kernel
theorem dX0_listen_22 : decode cX0_listen 22 = .ok (.ireturn, 1) := by decide +kernel
theorem dX0_changeTension_0 : decode cX0_changeTension 0 = .ok (.iload_n 1, 1) := by decide +kernel
theorem dX0_changeTension_1 : decode cX0_changeTension 1 = .ok (.iconst 0, 1) := by decide +kernel
theorem dX0_changeTension_2 : decode cX0_changeTension 2 = .ok (.ldc 71, 2) := by decide +kernel
theorem dX0_changeTension_4 : decode cX0_changeTension 4 = .ok (.invokestatic 67, 3) := by decide +kernel
theorem dX0_changeTension_7 : decode cX0_changeTension 7 = .ok (.ifCond .ne 6, 3) := by decide +kernel
theorem dX0_changeTension_10 : decode cX0_changeTension 10 = .ok (.bipush (-2), 2) := by decide +kernel
theorem dX0_changeTension_12 : decode cX0_changeTension 12 = .ok (.ireturn, 1) := by decide +kernel
theorem dX0_changeTension_13 : decode cX0_changeTension 13 = .ok (.aload_n 0, 1) := by decide +kernel
theorem dX0_changeTension_14 : decode cX0_changeTension 14 = .ok (.invokevirtual 99, 3) := by decide +kernel
theorem dX0_changeTension_17 : decode cX0_changeTension 17 = .ok (.astore_n 2, 1) := by decide +kernel
theorem dX0_changeTension_18 : decode cX0_changeTension 18 = .ok (.aload_n 2, 1) := by decide +kernel
theorem dX0_changeTension_19 : decode cX0_changeTension 19 = .ok (.ifnull 18, 3) := by decide +kernel
theorem dX0_changeTension_22 : decode cX0_changeTension 22 = .ok (.aload_n 2, 1) := by decide +kernel
theorem dX0_changeTension_23 : decode cX0_changeTension 23 = .ok (.getfield 61, 3) := by decide +kernel
theorem dX0_changeTension_26 : decode cX0_changeTension 26 = .ok (.ifCond .ne 11, 3) := by decide +kernel
theorem dX0_changeTension_29 : decode cX0_changeTension 29 = .ok (.iload_n 1, 1) := by decide +kernel
theorem dX0_changeTension_30 : decode cX0_changeTension 30 = .ok (.aload_n 2, 1) := by decide +kernel
theorem dX0_changeTension_31 : decode cX0_changeTension 31 = .ok (.getfield 106, 3) := by decide +kernel
theorem dX0_changeTension_34 : decode cX0_changeTension 34 = .ok (.if_icmp .le 6, 3) := by decide +kernel
theorem dX0_changeTension_37 : decode cX0_changeTension 37 = .ok (.bipush (-5), 2) := by decide +kernel
theorem dX0_changeTension_39 : decode cX0_changeTension 39 = .ok (.ireturn, 1) := by decide +kernel
theorem dX0_changeTension_40 : decode cX0_changeTension 40 = .ok (.aload_n 2, 1) := by decide +kernel
theorem dX0_changeTension_41 : decode cX0_changeTension 41 = .ok (.getfield 109, 3) := by decide +kernel
theorem dX0_changeTension_44 : decode cX0_changeTension 44 = .ok (.istore_n 3, 1) := by decide +kernel
theorem dX0_changeTension_45 : decode cX0_changeTension 45 = .ok (.aload_n 2, 1) := by decide +kernel
theorem dX0_changeTension_46 : decode cX0_changeTension 46 = .ok (.iload_n 1, 1) := by decide +kernel
theorem dX0_changeTension_47 : decode cX0_changeTension 47 = .ok (.aload_n 0, 1) := by decide +kernel
theorem dX0_changeTension_48 : decode cX0_changeTension 48 = .ok (.getfield 45, 3) := by decide +kernel
theorem dX0_changeTension_51 : decode cX0_changeTension 51 = .ok (.invokevirtual 112, 3) := by decide +kernel
theorem dX0_changeTension_54 : decode cX0_changeTension 54 = .ok (.iload_n 3, 1) := by decide +kernel
theorem dX0_changeTension_55 : decode cX0_changeTension 55 = .ok (.ireturn, 1) := by decide +kernel
theorem dX0_settle_0 : decode cX0_settle 0 = .ok (.iconst 0, 1) := by decide +kernel
theorem dX0_settle_1 : decode cX0_settle 1 = .ok (.istore_n 1, 1) := by decide +kernel
theorem dX0_settle_2 : decode cX0_settle 2 = .ok (.iconst 0, 1) := by decide +kernel
theorem dX0_settle_3 : decode cX0_settle 3 = .ok (.istore_n 2, 1) := by decide +kernel
theorem dX0_settle_4 : decode cX0_settle 4 = .ok (.iload_n 2, 1) := by decide +kernel
theorem dX0_settle_5 : decode cX0_settle 5 = .ok (.bipush 8, 2) := by decide +kernel
theorem dX0_settle_7 : decode cX0_settle 7 = .ok (.if_icmp .ge 44, 3) := by decide +kernel
theorem dX0_settle_10 : decode cX0_settle 10 = .ok (.aload_n 0, 1) := by decide +kernel
theorem dX0_settle_11 : decode cX0_settle 11 = .ok (.invokevirtual 116, 3) := by decide +kernel
theorem dX0_settle_14 : decode cX0_settle 14 = .ok (.istore_n 3, 1) := by decide +kernel
theorem dX0_settle_15 : decode cX0_settle 15 = .ok (.iload_n 3, 1) := by decide +kernel
theorem dX0_settle_16 : decode cX0_settle 16 = .ok (.iconst (-1), 1) := by decide +kernel
theorem dX0_settle_17 : decode cX0_settle 17 = .ok (.if_icmp .ne 5, 3) := by decide +kernel
theorem dX0_settle_20 : decode cX0_settle 20 = .ok (.iload_n 1, 1) := by decide +kernel
theorem dX0_settle_21 : decode cX0_settle 21 = .ok (.ireturn, 1) := by decide +kernel
theorem dX0_settle_22 : decode cX0_settle 22 = .ok (.aload_n 0, 1) := by decide +kernel
theorem dX0_settle_23 : decode cX0_settle 23 = .ok (.getfield 20, 3) := by decide +kernel
theorem dX0_settle_26 : decode cX0_settle 26 = .ok (.iload_n 3, 1) := by decide +kernel
theorem dX0_settle_27 : decode cX0_settle 27 = .ok (.aaload, 1) := by decide +kernel
theorem dX0_settle_28 : decode cX0_settle 28 = .ok (.aload_n 0, 1) := by decide +kernel
theorem dX0_settle_29 : decode cX0_settle 29 = .ok (.getfield 45, 3) := by decide +kernel
theorem dX0_settle_32 : decode cX0_settle 32 = .ok (.invokevirtual 119, 3) := by decide +kernel
theorem dX0_settle_35 : decode cX0_settle 35 = .ok (.iload_n 1, 1) := by decide +kernel
theorem dX0_settle_36 : decode cX0_settle 36 = .ok (.iconst 1, 1) := by decide +kernel
theorem dX0_settle_37 : decode cX0_settle 37 = .ok (.iload_n 3, 1) := by decide +kernel
theorem dX0_settle_38 : decode cX0_settle 38 = .ok (.ishl, 1) := by decide +kernel
theorem dX0_settle_39 : decode cX0_settle 39 = .ok (.ior, 1) := by decide +kernel
theorem dX0_settle_40 : decode cX0_settle 40 = .ok (.istore_n 1, 1) := by decide +kernel
theorem dX0_settle_41 : decode cX0_settle 41 = .ok (.aload_n 0, 1) := by decide +kernel
theorem dX0_settle_42 : decode cX0_settle 42 = .ok (.invokevirtual 64, 3) := by decide +kernel
theorem dX0_settle_45 : decode cX0_settle 45 = .ok (.iinc 2 1, 3) := by decide +kernel
theorem dX0_settle_48 : decode cX0_settle 48 = .ok (.goto (-44), 3) := by decide +kernel
theorem dX0_settle_51 : decode cX0_settle 51 = .ok (.iload_n 1, 1) := by decide +kernel
theorem dX0_settle_52 : decode cX0_settle 52 = .ok (.ireturn, 1) := by decide +kernel
theorem dX0_worstBursting_0 : decode cX0_worstBursting 0 = .ok (.iconst (-1), 1) := by decide +kernel
theorem dX0_worstBursting_1 : decode cX0_worstBursting 1 = .ok (.istore_n 1, 1) := by decide +kernel
theorem dX0_worstBursting_2 : decode cX0_worstBursting 2 = .ok (.iconst 0, 1) := by decide +kernel
theorem dX0_worstBursting_3 : decode cX0_worstBursting 3 = .ok (.istore_n 2, 1) := by decide +kernel
theorem dX0_worstBursting_4 : decode cX0_worstBursting 4 = .ok (.iconst 0, 1) := by decide +kernel
theorem dX0_worstBursting_5 : decode cX0_worstBursting 5 = .ok (.istore_n 3, 1) := by decide +kernel
theorem dX0_worstBursting_6 : decode cX0_worstBursting 6 = .ok (.iload_n 3, 1) := by decide +kernel
theorem dX0_worstBursting_7 : decode cX0_worstBursting 7 = .ok (.aload_n 0, 1) := by decide +kernel
theorem dX0_worstBursting_8 : decode cX0_worstBursting 8 = .ok (.getfield 38, 3) := by decide +kernel
theorem dX0_worstBursting_11 : decode cX0_worstBursting 11 = .ok (.if_icmp .ge 41, 3) := by decide +kernel
theorem dX0_worstBursting_14 : decode cX0_worstBursting 14 = .ok (.aload_n 0, 1) := by decide +kernel
theorem dX0_worstBursting_15 : decode cX0_worstBursting 15 = .ok (.getfield 20, 3) := by decide +kernel
theorem dX0_worstBursting_18 : decode cX0_worstBursting 18 = .ok (.iload_n 3, 1) := by decide +kernel
theorem dX0_worstBursting_19 : decode cX0_worstBursting 19 = .ok (.aaload, 1) := by decide +kernel
theorem dX0_worstBursting_20 : decode cX0_worstBursting 20 = .ok (.getfield 122, 3) := by decide +kernel
theorem dX0_worstBursting_23 : decode cX0_worstBursting 23 = .ok (.aload_n 0, 1) := by decide +kernel
theorem dX0_worstBursting_24 : decode cX0_worstBursting 24 = .ok (.getfield 20, 3) := by decide +kernel
theorem dX0_worstBursting_27 : decode cX0_worstBursting 27 = .ok (.iload_n 3, 1) := by decide +kernel
theorem dX0_worstBursting_28 : decode cX0_worstBursting 28 = .ok (.aaload, 1) := by decide +kernel
theorem dX0_worstBursting_29 : decode cX0_worstBursting 29 = .ok (.getfield 106, 3) := by decide +kernel
theorem dX0_worstBursting_32 : decode cX0_worstBursting 32 = .ok (.isub, 1) := by decide +kernel
theorem dX0_worstBursting_33 : decode cX0_worstBursting 33 = .ok (.istore 4, 2) := by decide +kernel
theorem dX0_worstBursting_35 : decode cX0_worstBursting 35 = .ok (.iload 4, 2) := by decide +kernel
theorem dX0_worstBursting_37 : decode cX0_worstBursting 37 = .ok (.iload_n 2, 1) := by decide +kernel
theorem dX0_worstBursting_38 : decode cX0_worstBursting 38 = .ok (.if_icmp .le 8, 3) := by decide +kernel
theorem dX0_worstBursting_41 : decode cX0_worstBursting 41 = .ok (.iload_n 3, 1) := by decide +kernel
theorem dX0_worstBursting_42 : decode cX0_worstBursting 42 = .ok (.istore_n 1, 1) := by decide +kernel
theorem dX0_worstBursting_43 : decode cX0_worstBursting 43 = .ok (.iload 4, 2) := by decide +kernel
theorem dX0_worstBursting_45 : decode cX0_worstBursting 45 = .ok (.istore_n 2, 1) := by decide +kernel
theorem dX0_worstBursting_46 : decode cX0_worstBursting 46 = .ok (.iinc 3 1, 3) := by decide +kernel
theorem dX0_worstBursting_49 : decode cX0_worstBursting 49 = .ok (.goto (-43), 3) := by decide +kernel
theorem dX0_worstBursting_52 : decode cX0_worstBursting 52 = .ok (.iload_n 1, 1) := by decide +kernel
theorem dX0_worstBursting_53 : decode cX0_worstBursting 53 = .ok (.ireturn, 1) := by decide +kernel
theorem dX0_standsWith_0 : decode cX0_standsWith 0 = .ok (.iload_n 1, 1) := by decide +kernel
theorem dX0_standsWith_1 : decode cX0_standsWith 1 = .ok (.iconst 0, 1) := by decide +kernel
theorem dX0_standsWith_2 : decode cX0_standsWith 2 = .ok (.bipush 19, 2) := by decide +kernel
theorem dX0_standsWith_4 : decode cX0_standsWith 4 = .ok (.invokestatic 67, 3) := by decide +kernel
theorem dX0_standsWith_7 : decode cX0_standsWith 7 = .ok (.ifCond .ne 5, 3) := by decide +kernel
theorem dX0_standsWith_10 : decode cX0_standsWith 10 = .ok (.iconst 0, 1) := by decide +kernel
theorem dX0_standsWith_11 : decode cX0_standsWith 11 = .ok (.ireturn, 1) := by decide +kernel
theorem dX0_standsWith_12 : decode cX0_standsWith 12 = .ok (.aload_n 0, 1) := by decide +kernel
theorem dX0_standsWith_13 : decode cX0_standsWith 13 = .ok (.getfield 9, 3) := by decide +kernel
theorem dX0_standsWith_16 : decode cX0_standsWith 16 = .ok (.iload_n 1, 1) := by decide +kernel
theorem dX0_standsWith_17 : decode cX0_standsWith 17 = .ok (.iload_n 2, 1) := by decide +kernel
theorem dX0_standsWith_18 : decode cX0_standsWith 18 = .ok (.iastore, 1) := by decide +kernel
theorem dX0_standsWith_19 : decode cX0_standsWith 19 = .ok (.aload_n 0, 1) := by decide +kernel
theorem dX0_standsWith_20 : decode cX0_standsWith 20 = .ok (.invokevirtual 64, 3) := by decide +kernel
theorem dX0_standsWith_23 : decode cX0_standsWith 23 = .ok (.aload_n 0, 1) := by decide +kernel
theorem dX0_standsWith_24 : decode cX0_standsWith 24 = .ok (.invokevirtual 116, 3) := by decide +kernel
theorem dX0_standsWith_27 : decode cX0_standsWith 27 = .ok (.iconst (-1), 1) := by decide +kernel
theorem dX0_standsWith_28 : decode cX0_standsWith 28 = .ok (.if_icmp .ne 7, 3) := by decide +kernel
theorem dX0_standsWith_31 : decode cX0_standsWith 31 = .ok (.iconst 1, 1) := by decide +kernel
theorem dX0_standsWith_32 : decode cX0_standsWith 32 = .ok (.goto 4, 3) := by decide +kernel
theorem dX0_standsWith_35 : decode cX0_standsWith 35 = .ok (.iconst 0, 1) := by decide +kernel
theorem dX0_standsWith_36 : decode cX0_standsWith 36 = .ok (.ireturn, 1) := by decide +kernel
theorem dX0_reckon_0 : decode cX0_reckon 0 = .ok (.iconst 0, 1) := by decide +kernel
theorem dX0_reckon_1 : decode cX0_reckon 1 = .ok (.istore_n 1, 1) := by decide +kernel
theorem dX0_reckon_2 : decode cX0_reckon 2 = .ok (.iload_n 1, 1) := by decide +kernel
theorem dX0_reckon_3 : decode cX0_reckon 3 = .ok (.aload_n 0, 1) := by decide +kernel
theorem dX0_reckon_4 : decode cX0_reckon 4 = .ok (.getfield 38, 3) := by decide +kernel
theorem dX0_reckon_7 : decode cX0_reckon 7 = .ok (.if_icmp .ge 19, 3) := by decide +kernel
theorem dX0_reckon_10 : decode cX0_reckon 10 = .ok (.aload_n 0, 1) := by decide +kernel
theorem dX0_reckon_11 : decode cX0_reckon 11 = .ok (.getfield 20, 3) := by decide +kernel
theorem dX0_reckon_14 : decode cX0_reckon 14 = .ok (.iload_n 1, 1) := by decide +kernel
theorem dX0_reckon_15 : decode cX0_reckon 15 = .ok (.aaload, 1) := by decide +kernel
theorem dX0_reckon_16 : decode cX0_reckon 16 = .ok (.iconst 0, 1) := by decide +kernel
theorem dX0_reckon_17 : decode cX0_reckon 17 = .ok (.putfield 122, 3) := by decide +kernel
theorem dX0_reckon_20 : decode cX0_reckon 20 = .ok (.iinc 1 1, 3) := by decide +kernel
theorem dX0_reckon_23 : decode cX0_reckon 23 = .ok (.goto (-21), 3) := by decide +kernel
theorem dX0_reckon_26 : decode cX0_reckon 26 = .ok (.aconst_null, 1) := by decide +kernel
theorem dX0_reckon_27 : decode cX0_reckon 27 = .ok (.astore_n 1, 1) := by decide +kernel
theorem dX0_reckon_28 : decode cX0_reckon 28 = .ok (.aload_n 0, 1) := by decide +kernel
theorem dX0_reckon_29 : decode cX0_reckon 29 = .ok (.iconst 0, 1) := by decide +kernel
theorem dX0_reckon_30 : decode cX0_reckon 30 = .ok (.invokevirtual 125, 3) := by decide +kernel
theorem dX0_reckon_33 : decode cX0_reckon 33 = .ok (.astore_n 2, 1) := by decide +kernel
theorem dX0_reckon_34 : decode cX0_reckon 34 = .ok (.iconst 0, 1) := by decide +kernel
theorem dX0_reckon_35 : decode cX0_reckon 35 = .ok (.istore_n 3, 1) := by decide +kernel
theorem dX0_reckon_36 : decode cX0_reckon 36 = .ok (.iload_n 3, 1) := by decide +kernel
theorem dX0_reckon_37 : decode cX0_reckon 37 = .ok (.bipush 20, 2) := by decide +kernel
theorem dX0_reckon_39 : decode cX0_reckon 39 = .ok (.if_icmp .ge 48, 3) := by decide +kernel
theorem dX0_reckon_42 : decode cX0_reckon 42 = .ok (.aload_n 2, 1) := by decide +kernel
theorem dX0_reckon_43 : decode cX0_reckon 43 = .ok (.ifnull 17, 3) := by decide +kernel
theorem dX0_reckon_46 : decode cX0_reckon 46 = .ok (.aload_n 2, 1) := by decide +kernel
theorem dX0_reckon_47 : decode cX0_reckon 47 = .ok (.getfield 128, 3) := by decide +kernel
theorem dX0_reckon_50 : decode cX0_reckon 50 = .ok (.iload_n 3, 1) := by decide +kernel
theorem dX0_reckon_51 : decode cX0_reckon 51 = .ok (.if_icmp .ge 9, 3) := by decide +kernel
theorem dX0_reckon_54 : decode cX0_reckon 54 = .ok (.aload_n 0, 1) := by decide +kernel
theorem dX0_reckon_55 : decode cX0_reckon 55 = .ok (.iload_n 3, 1) := by decide +kernel
theorem dX0_reckon_56 : decode cX0_reckon 56 = .ok (.invokevirtual 125, 3) := by decide +kernel
theorem dX0_reckon_59 : decode cX0_reckon 59 = .ok (.astore_n 2, 1) := by decide +kernel
theorem dX0_reckon_60 : decode cX0_reckon 60 = .ok (.aload_n 2, 1) := by decide +kernel
theorem dX0_reckon_61 : decode cX0_reckon 61 = .ok (.ifnull 13, 3) := by decide +kernel
theorem dX0_reckon_64 : decode cX0_reckon 64 = .ok (.aload_n 2, 1) := by decide +kernel
theorem dX0_reckon_65 : decode cX0_reckon 65 = .ok (.getfield 128, 3) := by decide +kernel
theorem dX0_reckon_68 : decode cX0_reckon 68 = .ok (.iload_n 3, 1) := by decide +kernel
theorem dX0_reckon_69 : decode cX0_reckon 69 = .ok (.if_icmp .ne 5, 3) := by decide +kernel
theorem dX0_reckon_72 : decode cX0_reckon 72 = .ok (.aload_n 2, 1) := by decide +kernel
theorem dX0_reckon_73 : decode cX0_reckon 73 = .ok (.astore_n 1, 1) := by decide +kernel
theorem dX0_reckon_74 : decode cX0_reckon 74 = .ok (.aload_n 0, 1) := by decide +kernel
theorem dX0_reckon_75 : decode cX0_reckon 75 = .ok (.iload_n 3, 1) := by decide +kernel
theorem dX0_reckon_76 : decode cX0_reckon 76 = .ok (.aload_n 1, 1) := by decide +kernel
theorem dX0_reckon_77 : decode cX0_reckon 77 = .ok (.aload_n 2, 1) := by decide +kernel
theorem dX0_reckon_78 : decode cX0_reckon 78 = .ok (.invokevirtual 129, 3) := by decide +kernel
theorem dX0_reckon_81 : decode cX0_reckon 81 = .ok (.iinc 3 1, 3) := by decide +kernel
theorem dX0_reckon_84 : decode cX0_reckon 84 = .ok (.goto (-48), 3) := by decide +kernel
theorem dX0_reckon_87 : decode cX0_reckon 87 = .ok (.return_, 1) := by decide +kernel
theorem dX0_nextWhole_0 : decode cX0_nextWhole 0 = .ok (.iconst 0, 1) := by decide +kernel
theorem dX0_nextWhole_1 : decode cX0_nextWhole 1 = .ok (.istore_n 2, 1) := by decide +kernel
theorem dX0_nextWhole_2 : decode cX0_nextWhole 2 = .ok (.iload_n 2, 1) := by decide +kernel
theorem dX0_nextWhole_3 : decode cX0_nextWhole 3 = .ok (.bipush 20, 2) := by decide +kernel
theorem dX0_nextWhole_5 : decode cX0_nextWhole 5 = .ok (.if_icmp .ge 52, 3) := by decide +kernel
theorem dX0_nextWhole_8 : decode cX0_nextWhole 8 = .ok (.aload_n 0, 1) := by decide +kernel
theorem dX0_nextWhole_9 : decode cX0_nextWhole 9 = .ok (.getfield 15, 3) := by decide +kernel
theorem dX0_nextWhole_12 : decode cX0_nextWhole 12 = .ok (.iload_n 2, 1) := by decide +kernel
theorem dX0_nextWhole_13 : decode cX0_nextWhole 13 = .ok (.iaload, 1) := by decide +kernel
theorem dX0_nextWhole_14 : decode cX0_nextWhole 14 = .ok (.istore_n 3, 1) := by decide +kernel
theorem dX0_nextWhole_15 : decode cX0_nextWhole 15 = .ok (.iload_n 2, 1) := by decide +kernel
theorem dX0_nextWhole_16 : decode cX0_nextWhole 16 = .ok (.iload_n 1, 1) := by decide +kernel
theorem dX0_nextWhole_17 : decode cX0_nextWhole 17 = .ok (.if_icmp .lt 34, 3) := by decide +kernel
theorem dX0_nextWhole_20 : decode cX0_nextWhole 20 = .ok (.iload_n 3, 1) := by decide +kernel
theorem dX0_nextWhole_21 : decode cX0_nextWhole 21 = .ok (.ifCond .lt 30, 3) := by decide +kernel
theorem dX0_nextWhole_24 : decode cX0_nextWhole 24 = .ok (.iload_n 3, 1) := by decide +kernel
theorem dX0_nextWhole_25 : decode cX0_nextWhole 25 = .ok (.aload_n 0, 1) := by decide +kernel
theorem dX0_nextWhole_26 : decode cX0_nextWhole 26 = .ok (.getfield 38, 3) := by decide +kernel
theorem dX0_nextWhole_29 : decode cX0_nextWhole 29 = .ok (.if_icmp .ge 22, 3) := by decide +kernel
theorem dX0_nextWhole_32 : decode cX0_nextWhole 32 = .ok (.aload_n 0, 1) := by decide +kernel
theorem dX0_nextWhole_33 : decode cX0_nextWhole 33 = .ok (.getfield 20, 3) := by decide +kernel
theorem dX0_nextWhole_36 : decode cX0_nextWhole 36 = .ok (.iload_n 3, 1) := by decide +kernel
theorem dX0_nextWhole_37 : decode cX0_nextWhole 37 = .ok (.aaload, 1) := by decide +kernel
theorem dX0_nextWhole_38 : decode cX0_nextWhole 38 = .ok (.getfield 61, 3) := by decide +kernel
theorem dX0_nextWhole_41 : decode cX0_nextWhole 41 = .ok (.ifCond .ne 10, 3) := by decide +kernel
theorem dX0_nextWhole_44 : decode cX0_nextWhole 44 = .ok (.aload_n 0, 1) := by decide +kernel
theorem dX0_nextWhole_45 : decode cX0_nextWhole 45 = .ok (.getfield 20, 3) := by decide +kernel
theorem dX0_nextWhole_48 : decode cX0_nextWhole 48 = .ok (.iload_n 3, 1) := by decide +kernel
theorem dX0_nextWhole_49 : decode cX0_nextWhole 49 = .ok (.aaload, 1) := by decide +kernel
theorem dX0_nextWhole_50 : decode cX0_nextWhole 50 = .ok (.areturn, 1) := by decide +kernel
theorem dX0_nextWhole_51 : decode cX0_nextWhole 51 = .ok (.iinc 2 1, 3) := by decide +kernel
theorem dX0_nextWhole_54 : decode cX0_nextWhole 54 = .ok (.goto (-52), 3) := by decide +kernel
theorem dX0_nextWhole_57 : decode cX0_nextWhole 57 = .ok (.aconst_null, 1) := by decide +kernel
theorem dX0_nextWhole_58 : decode cX0_nextWhole 58 = .ok (.areturn, 1) := by decide +kernel
theorem dX0_share_0 : decode cX0_share 0 = .ok (.bipush 10, 2) := by decide +kernel
theorem dX0_share_2 : decode cX0_share 2 = .ok (.aload_n 0, 1) := by decide +kernel
theorem dX0_share_3 : decode cX0_share 3 = .ok (.getfield 9, 3) := by decide +kernel
theorem dX0_share_6 : decode cX0_share 6 = .ok (.iload_n 1, 1) := by decide +kernel
theorem dX0_share_7 : decode cX0_share 7 = .ok (.iaload, 1) := by decide +kernel
theorem dX0_share_8 : decode cX0_share 8 = .ok (.imul, 1) := by decide +kernel
theorem dX0_share_9 : decode cX0_share 9 = .ok (.istore 4, 2) := by decide +kernel
theorem dX0_share_11 : decode cX0_share 11 = .ok (.aload_n 2, 1) := by decide +kernel
theorem dX0_share_12 : decode cX0_share 12 = .ok (.ifnonnull 19, 3) := by decide +kernel
theorem dX0_share_15 : decode cX0_share 15 = .ok (.aload_n 3, 1) := by decide +kernel
theorem dX0_share_16 : decode cX0_share 16 = .ok (.ifnull 14, 3) := by decide +kernel
theorem dX0_share_19 : decode cX0_share 19 = .ok (.aload_n 3, 1) := by decide +kernel
theorem dX0_share_20 : decode cX0_share 20 = .ok (.dup, 1) := by decide +kernel
theorem dX0_share_21 : decode cX0_share 21 = .ok (.getfield 122, 3) := by decide +kernel
theorem dX0_share_24 : decode cX0_share 24 = .ok (.iload 4, 2) := by decide +kernel
theorem dX0_share_26 : decode cX0_share 26 = .ok (.iadd, 1) := by decide +kernel
theorem dX0_share_27 : decode cX0_share 27 = .ok (.putfield 122, 3) := by decide +kernel
theorem dX0_share_30 : decode cX0_share 30 = .ok (.return_, 1) := by decide +kernel
theorem dX0_share_31 : decode cX0_share 31 = .ok (.aload_n 3, 1) := by decide +kernel
theorem dX0_share_32 : decode cX0_share 32 = .ok (.ifnonnull 15, 3) := by decide +kernel
theorem dX0_share_35 : decode cX0_share 35 = .ok (.aload_n 2, 1) := by decide +kernel
theorem dX0_share_36 : decode cX0_share 36 = .ok (.dup, 1) := by decide +kernel
theorem dX0_share_37 : decode cX0_share 37 = .ok (.getfield 122, 3) := by decide +kernel
theorem dX0_share_40 : decode cX0_share 40 = .ok (.iload 4, 2) := by decide +kernel
theorem dX0_share_42 : decode cX0_share 42 = .ok (.iadd, 1) := by decide +kernel
theorem dX0_share_43 : decode cX0_share 43 = .ok (.putfield 122, 3) := by decide +kernel
theorem dX0_share_46 : decode cX0_share 46 = .ok (.return_, 1) := by decide +kernel
theorem dX0_share_47 : decode cX0_share 47 = .ok (.aload_n 3, 1) := by decide +kernel
theorem dX0_share_48 : decode cX0_share 48 = .ok (.getfield 128, 3) := by decide +kernel
theorem dX0_share_51 : decode cX0_share 51 = .ok (.aload_n 2, 1) := by decide +kernel
theorem dX0_share_52 : decode cX0_share 52 = .ok (.getfield 128, 3) := by decide +kernel
theorem dX0_share_55 : decode cX0_share 55 = .ok (.isub, 1) := by decide +kernel
theorem dX0_share_56 : decode cX0_share 56 = .ok (.istore 5, 2) := by decide +kernel
theorem dX0_share_58 : decode cX0_share 58 = .ok (.iload 5, 2) := by decide +kernel
theorem dX0_share_60 : decode cX0_share 60 = .ok (.ifCond .gt 7, 3) := by decide +kernel
theorem dX0_share_63 : decode cX0_share 63 = .ok (.iconst 0, 1) := by decide +kernel
theorem dX0_share_64 : decode cX0_share 64 = .ok (.goto 19, 3) := by decide +kernel
theorem dX0_share_67 : decode cX0_share 67 = .ok (.aload_n 0, 1) := by decide +kernel
theorem dX0_share_68 : decode cX0_share 68 = .ok (.getfield 9, 3) := by decide +kernel
theorem dX0_share_71 : decode cX0_share 71 = .ok (.iload_n 1, 1) := by decide +kernel
theorem dX0_share_72 : decode cX0_share 72 = .ok (.iaload, 1) := by decide +kernel
theorem dX0_share_73 : decode cX0_share 73 = .ok (.iload_n 1, 1) := by decide +kernel
theorem dX0_share_74 : decode cX0_share 74 = .ok (.aload_n 2, 1) := by decide +kernel
theorem dX0_share_75 : decode cX0_share 75 = .ok (.getfield 128, 3) := by decide +kernel
theorem dX0_share_78 : decode cX0_share 78 = .ok (.isub, 1) := by decide +kernel
theorem dX0_share_79 : decode cX0_share 79 = .ok (.imul, 1) := by decide +kernel
theorem dX0_share_80 : decode cX0_share 80 = .ok (.iload 5, 2) := by decide +kernel
theorem dX0_share_82 : decode cX0_share 82 = .ok (.idiv, 1) := by decide +kernel
theorem dX0_share_83 : decode cX0_share 83 = .ok (.istore 6, 2) := by decide +kernel
theorem dX0_share_85 : decode cX0_share 85 = .ok (.aload_n 3, 1) := by decide +kernel
theorem dX0_share_86 : decode cX0_share 86 = .ok (.dup, 1) := by decide +kernel
theorem dX0_share_87 : decode cX0_share 87 = .ok (.getfield 122, 3) := by decide +kernel
theorem dX0_share_90 : decode cX0_share 90 = .ok (.bipush 10, 2) := by decide +kernel
theorem dX0_share_92 : decode cX0_share 92 = .ok (.iload 6, 2) := by decide +kernel
theorem dX0_share_94 : decode cX0_share 94 = .ok (.imul, 1) := by decide +kernel
theorem dX0_share_95 : decode cX0_share 95 = .ok (.iadd, 1) := by decide +kernel
theorem dX0_share_96 : decode cX0_share 96 = .ok (.putfield 122, 3) := by decide +kernel
theorem dX0_share_99 : decode cX0_share 99 = .ok (.aload_n 2, 1) := by decide +kernel
theorem dX0_share_100 : decode cX0_share 100 = .ok (.dup, 1) := by decide +kernel
theorem dX0_share_101 : decode cX0_share 101 = .ok (.getfield 122, 3) := by decide +kernel
theorem dX0_share_104 : decode cX0_share 104 = .ok (.iload 4, 2) := by decide +kernel
theorem dX0_share_106 : decode cX0_share 106 = .ok (.bipush 10, 2) := by decide +kernel
theorem dX0_share_108 : decode cX0_share 108 = .ok (.iload 6, 2) := by decide +kernel
theorem dX0_share_110 : decode cX0_share 110 = .ok (.imul, 1) := by decide +kernel
theorem dX0_share_111 : decode cX0_share 111 = .ok (.isub, 1) := by decide +kernel
theorem dX0_share_112 : decode cX0_share 112 = .ok (.iadd, 1) := by decide +kernel
theorem dX0_share_113 : decode cX0_share 113 = .ok (.putfield 122, 3) := by decide +kernel
theorem dX0_share_116 : decode cX0_share 116 = .ok (.return_, 1) := by decide +kernel
theorem dX0_walkToDoubtful_0 : decode cX0_walkToDoubtful 0 = .ok (.bipush 20, 2) := by decide +kernel
theorem dX0_walkToDoubtful_2 : decode cX0_walkToDoubtful 2 = .ok (.istore_n 1, 1) := by decide +kernel
theorem dX0_walkToDoubtful_3 : decode cX0_walkToDoubtful 3 = .ok (.iconst (-1), 1) := by decide +kernel
theorem dX0_walkToDoubtful_4 : decode cX0_walkToDoubtful 4 = .ok (.istore_n 2, 1) := by decide +kernel
theorem dX0_walkToDoubtful_5 : decode cX0_walkToDoubtful 5 = .ok (.iconst 0, 1) := by decide +kernel
theorem dX0_walkToDoubtful_6 : decode cX0_walkToDoubtful 6 = .ok (.istore_n 3, 1) := by decide +kernel
theorem dX0_walkToDoubtful_7 : decode cX0_walkToDoubtful 7 = .ok (.iload_n 3, 1) := by decide +kernel
theorem dX0_walkToDoubtful_8 : decode cX0_walkToDoubtful 8 = .ok (.aload_n 0, 1) := by decide +kernel
theorem dX0_walkToDoubtful_9 : decode cX0_walkToDoubtful 9 = .ok (.getfield 38, 3) := by decide +kernel
theorem dX0_walkToDoubtful_12 : decode cX0_walkToDoubtful 12 = .ok (.if_icmp .ge 61, 3) := by decide +kernel
theorem dX0_walkToDoubtful_15 : decode cX0_walkToDoubtful 15 = .ok (.aload_n 0, 1) := by decide +kernel
theorem dX0_walkToDoubtful_16 : decode cX0_walkToDoubtful 16 = .ok (.getfield 20, 3) := by decide +kernel
theorem dX0_walkToDoubtful_19 : decode cX0_walkToDoubtful 19 = .ok (.iload_n 3, 1) := by decide +kernel
theorem dX0_walkToDoubtful_20 : decode cX0_walkToDoubtful 20 = .ok (.aaload, 1) := by decide +kernel
theorem dX0_walkToDoubtful_21 : decode cX0_walkToDoubtful 21 = .ok (.astore 4, 2) := by decide +kernel
theorem dX0_walkToDoubtful_23 : decode cX0_walkToDoubtful 23 = .ok (.aload 4, 2) := by decide +kernel
theorem dX0_walkToDoubtful_25 : decode cX0_walkToDoubtful 25 = .ok (.getfield 57, 3) := by decide +kernel
theorem dX0_walkToDoubtful_28 : decode cX0_walkToDoubtful 28 = .ok (.ifCond .ne 39, 3) := by decide +kernel
theorem dX0_walkToDoubtful_31 : decode cX0_walkToDoubtful 31 = .ok (.aload 4, 2) := by decide +kernel
theorem dX0_walkToDoubtful_33 : decode cX0_walkToDoubtful 33 = .ok (.invokevirtual 133, 3) := by decide +kernel
theorem dX0_walkToDoubtful_36 : decode cX0_walkToDoubtful 36 = .ok (.ifCond .ne 11, 3) := by decide +kernel
theorem dX0_walkToDoubtful_39 : decode cX0_walkToDoubtful 39 = .ok (.aload 4, 2) := by decide +kernel
theorem dX0_walkToDoubtful_41 : decode cX0_walkToDoubtful 41 = .ok (.invokevirtual 137, 3) := by decide +kernel
theorem dX0_walkToDoubtful_44 : decode cX0_walkToDoubtful 44 = .ok (.ifCond .eq 23, 3) := by decide +kernel
theorem dX0_walkToDoubtful_47 : decode cX0_walkToDoubtful 47 = .ok (.iload_n 1, 1) := by decide +kernel
theorem dX0_walkToDoubtful_48 : decode cX0_walkToDoubtful 48 = .ok (.aload 4, 2) := by decide +kernel
theorem dX0_walkToDoubtful_50 : decode cX0_walkToDoubtful 50 = .ok (.getfield 128, 3) := by decide +kernel
theorem dX0_walkToDoubtful_53 : decode cX0_walkToDoubtful 53 = .ok (.invokestatic 140, 3) := by decide +kernel
theorem dX0_walkToDoubtful_56 : decode cX0_walkToDoubtful 56 = .ok (.istore_n 1, 1) := by decide +kernel
theorem dX0_walkToDoubtful_57 : decode cX0_walkToDoubtful 57 = .ok (.iload_n 2, 1) := by decide +kernel
theorem dX0_walkToDoubtful_58 : decode cX0_walkToDoubtful 58 = .ok (.aload 4, 2) := by decide +kernel
theorem dX0_walkToDoubtful_60 : decode cX0_walkToDoubtful 60 = .ok (.getfield 128, 3) := by decide +kernel
theorem dX0_walkToDoubtful_63 : decode cX0_walkToDoubtful 63 = .ok (.invokestatic 144, 3) := by decide +kernel
theorem dX0_walkToDoubtful_66 : decode cX0_walkToDoubtful 66 = .ok (.istore_n 2, 1) := by decide +kernel
theorem dX0_walkToDoubtful_67 : decode cX0_walkToDoubtful 67 = .ok (.iinc 3 1, 3) := by decide +kernel
theorem dX0_walkToDoubtful_70 : decode cX0_walkToDoubtful 70 = .ok (.goto (-63), 3) := by decide +kernel
theorem dX0_walkToDoubtful_73 : decode cX0_walkToDoubtful 73 = .ok (.iload_n 2, 1) := by decide +kernel
theorem dX0_walkToDoubtful_74 : decode cX0_walkToDoubtful 74 = .ok (.iload_n 1, 1) := by decide +kernel
theorem dX0_walkToDoubtful_75 : decode cX0_walkToDoubtful 75 = .ok (.if_icmp .ge 5, 3) := by decide +kernel
theorem dX0_walkToDoubtful_78 : decode cX0_walkToDoubtful 78 = .ok (.iconst 0, 1) := by decide +kernel
theorem dX0_walkToDoubtful_79 : decode cX0_walkToDoubtful 79 = .ok (.ireturn, 1) := by decide +kernel
theorem dX0_walkToDoubtful_80 : decode cX0_walkToDoubtful 80 = .ok (.iload_n 2, 1) := by decide +kernel
theorem dX0_walkToDoubtful_81 : decode cX0_walkToDoubtful 81 = .ok (.iload_n 1, 1) := by decide +kernel
theorem dX0_walkToDoubtful_82 : decode cX0_walkToDoubtful 82 = .ok (.isub, 1) := by decide +kernel
theorem dX0_walkToDoubtful_83 : decode cX0_walkToDoubtful 83 = .ok (.aload_n 0, 1) := by decide +kernel
theorem dX0_walkToDoubtful_84 : decode cX0_walkToDoubtful 84 = .ok (.getfield 48, 3) := by decide +kernel
theorem dX0_walkToDoubtful_87 : decode cX0_walkToDoubtful 87 = .ok (.iload_n 1, 1) := by decide +kernel
theorem dX0_walkToDoubtful_88 : decode cX0_walkToDoubtful 88 = .ok (.isub, 1) := by decide +kernel
theorem dX0_walkToDoubtful_89 : decode cX0_walkToDoubtful 89 = .ok (.invokestatic 90, 3) := by decide +kernel
theorem dX0_walkToDoubtful_92 : decode cX0_walkToDoubtful 92 = .ok (.aload_n 0, 1) := by decide +kernel
theorem dX0_walkToDoubtful_93 : decode cX0_walkToDoubtful 93 = .ok (.getfield 48, 3) := by decide +kernel
theorem dX0_walkToDoubtful_96 : decode cX0_walkToDoubtful 96 = .ok (.iload_n 2, 1) := by decide +kernel
theorem dX0_walkToDoubtful_97 : decode cX0_walkToDoubtful 97 = .ok (.isub, 1) := by decide +kernel
theorem dX0_walkToDoubtful_98 : decode cX0_walkToDoubtful 98 = .ok (.invokestatic 90, 3) := by decide +kernel
theorem dX0_walkToDoubtful_101 : decode cX0_walkToDoubtful 101 = .ok (.invokestatic 140, 3) := by decide +kernel
theorem dX0_walkToDoubtful_104 : decode cX0_walkToDoubtful 104 = .ok (.iadd, 1) := by decide +kernel
theorem dX0_walkToDoubtful_105 : decode cX0_walkToDoubtful 105 = .ok (.ireturn, 1) := by decide +kernel
theorem dX0_allLoads_0 : decode cX0_allLoads 0 = .ok (.iconst 0, 1) := by decide +kernel
theorem dX0_allLoads_1 : decode cX0_allLoads 1 = .ok (.istore_n 1, 1) := by decide +kernel
theorem dX0_allLoads_2 : decode cX0_allLoads 2 = .ok (.iconst 0, 1) := by decide +kernel
theorem dX0_allLoads_3 : decode cX0_allLoads 3 = .ok (.istore_n 2, 1) := by decide +kernel
theorem dX0_allLoads_4 : decode cX0_allLoads 4 = .ok (.iload_n 2, 1) := by decide +kernel
theorem dX0_allLoads_5 : decode cX0_allLoads 5 = .ok (.bipush 20, 2) := by decide +kernel
theorem dX0_allLoads_7 : decode cX0_allLoads 7 = .ok (.if_icmp .ge 18, 3) := by decide +kernel
theorem dX0_allLoads_10 : decode cX0_allLoads 10 = .ok (.iload_n 1, 1) := by decide +kernel
theorem dX0_allLoads_11 : decode cX0_allLoads 11 = .ok (.aload_n 0, 1) := by decide +kernel
theorem dX0_allLoads_12 : decode cX0_allLoads 12 = .ok (.getfield 9, 3) := by decide +kernel
theorem dX0_allLoads_15 : decode cX0_allLoads 15 = .ok (.iload_n 2, 1) := by decide +kernel
theorem dX0_allLoads_16 : decode cX0_allLoads 16 = .ok (.iaload, 1) := by decide +kernel
theorem dX0_allLoads_17 : decode cX0_allLoads 17 = .ok (.iadd, 1) := by decide +kernel
theorem dX0_allLoads_18 : decode cX0_allLoads 18 = .ok (.istore_n 1, 1) := by decide +kernel
theorem dX0_allLoads_19 : decode cX0_allLoads 19 = .ok (.iinc 2 1, 3) := by decide +kernel
theorem dX0_allLoads_22 : decode cX0_allLoads 22 = .ok (.goto (-18), 3) := by decide +kernel
theorem dX0_allLoads_25 : decode cX0_allLoads 25 = .ok (.iload_n 1, 1) := by decide +kernel
theorem dX0_allLoads_26 : decode cX0_allLoads 26 = .ok (.ireturn, 1) := by decide +kernel
theorem dX0_wholeWires_0 : decode cX0_wholeWires 0 = .ok (.iconst 0, 1) := by decide +kernel
theorem dX0_wholeWires_1 : decode cX0_wholeWires 1 = .ok (.istore_n 1, 1) := by decide +kernel
theorem dX0_wholeWires_2 : decode cX0_wholeWires 2 = .ok (.iconst 0, 1) := by decide +kernel
theorem dX0_wholeWires_3 : decode cX0_wholeWires 3 = .ok (.istore_n 2, 1) := by decide +kernel
theorem dX0_wholeWires_4 : decode cX0_wholeWires 4 = .ok (.iload_n 2, 1) := by decide +kernel
theorem dX0_wholeWires_5 : decode cX0_wholeWires 5 = .ok (.aload_n 0, 1) := by decide +kernel
theorem dX0_wholeWires_6 : decode cX0_wholeWires 6 = .ok (.getfield 38, 3) := by decide +kernel
theorem dX0_wholeWires_9 : decode cX0_wholeWires 9 = .ok (.if_icmp .ge 32, 3) := by decide +kernel
theorem dX0_wholeWires_12 : decode cX0_wholeWires 12 = .ok (.iload_n 1, 1) := by decide +kernel
theorem dX0_wholeWires_13 : decode cX0_wholeWires 13 = .ok (.aload_n 0, 1) := by decide +kernel
theorem dX0_wholeWires_14 : decode cX0_wholeWires 14 = .ok (.getfield 20, 3) := by decide +kernel
theorem dX0_wholeWires_17 : decode cX0_wholeWires 17 = .ok (.iload_n 2, 1) := by decide +kernel
theorem dX0_wholeWires_18 : decode cX0_wholeWires 18 = .ok (.aaload, 1) := by decide +kernel
theorem dX0_wholeWires_19 : decode cX0_wholeWires 19 = .ok (.getfield 61, 3) := by decide +kernel
theorem dX0_wholeWires_22 : decode cX0_wholeWires 22 = .ok (.ifCond .ne 7, 3) := by decide +kernel
theorem dX0_wholeWires_25 : decode cX0_wholeWires 25 = .ok (.iconst 1, 1) := by decide +kernel
theorem dX0_wholeWires_26 : decode cX0_wholeWires 26 = .ok (.goto 4, 3) := by decide +kernel
theorem dX0_wholeWires_29 : decode cX0_wholeWires 29 = .ok (.iconst 0, 1) := by decide +kernel
theorem dX0_wholeWires_30 : decode cX0_wholeWires 30 = .ok (.invokestatic 147, 3) := by decide +kernel
theorem dX0_wholeWires_33 : decode cX0_wholeWires 33 = .ok (.iadd, 1) := by decide +kernel
theorem dX0_wholeWires_34 : decode cX0_wholeWires 34 = .ok (.istore_n 1, 1) := by decide +kernel
theorem dX0_wholeWires_35 : decode cX0_wholeWires 35 = .ok (.iinc 2 1, 3) := by decide +kernel
theorem dX0_wholeWires_38 : decode cX0_wholeWires 38 = .ok (.goto (-34), 3) := by decide +kernel
theorem dX0_wholeWires_41 : decode cX0_wholeWires 41 = .ok (.iload_n 1, 1) := by decide +kernel
theorem dX0_wholeWires_42 : decode cX0_wholeWires 42 = .ok (.ireturn, 1) := by decide +kernel
theorem dX0_slackWires_0 : decode cX0_slackWires 0 = .ok (.iconst 0, 1) := by decide +kernel
theorem dX0_slackWires_1 : decode cX0_slackWires 1 = .ok (.istore_n 1, 1) := by decide +kernel
theorem dX0_slackWires_2 : decode cX0_slackWires 2 = .ok (.iconst 0, 1) := by decide +kernel
theorem dX0_slackWires_3 : decode cX0_slackWires 3 = .ok (.istore_n 2, 1) := by decide +kernel
theorem dX0_slackWires_4 : decode cX0_slackWires 4 = .ok (.iload_n 2, 1) := by decide +kernel
theorem dX0_slackWires_5 : decode cX0_slackWires 5 = .ok (.aload_n 0, 1) := by decide +kernel
theorem dX0_slackWires_6 : decode cX0_slackWires 6 = .ok (.getfield 38, 3) := by decide +kernel
theorem dX0_slackWires_9 : decode cX0_slackWires 9 = .ok (.if_icmp .ge 24, 3) := by decide +kernel
theorem dX0_slackWires_12 : decode cX0_slackWires 12 = .ok (.iload_n 1, 1) := by decide +kernel
theorem dX0_slackWires_13 : decode cX0_slackWires 13 = .ok (.aload_n 0, 1) := by decide +kernel
theorem dX0_slackWires_14 : decode cX0_slackWires 14 = .ok (.getfield 20, 3) := by decide +kernel
theorem dX0_slackWires_17 : decode cX0_slackWires 17 = .ok (.iload_n 2, 1) := by decide +kernel
theorem dX0_slackWires_18 : decode cX0_slackWires 18 = .ok (.aaload, 1) := by decide +kernel
theorem dX0_slackWires_19 : decode cX0_slackWires 19 = .ok (.invokevirtual 151, 3) := by decide +kernel
theorem dX0_slackWires_22 : decode cX0_slackWires 22 = .ok (.invokestatic 147, 3) := by decide +kernel
theorem dX0_slackWires_25 : decode cX0_slackWires 25 = .ok (.iadd, 1) := by decide +kernel
theorem dX0_slackWires_26 : decode cX0_slackWires 26 = .ok (.istore_n 1, 1) := by decide +kernel
theorem dX0_slackWires_27 : decode cX0_slackWires 27 = .ok (.iinc 2 1, 3) := by decide +kernel
theorem dX0_slackWires_30 : decode cX0_slackWires 30 = .ok (.goto (-26), 3) := by decide +kernel
theorem dX0_slackWires_33 : decode cX0_slackWires 33 = .ok (.iload_n 1, 1) := by decide +kernel
theorem dX0_slackWires_34 : decode cX0_slackWires 34 = .ok (.ireturn, 1) := by decide +kernel
theorem dX0_tooTightWires_0 : decode cX0_tooTightWires 0 = .ok (.iconst 0, 1) := by decide +kernel
theorem dX0_tooTightWires_1 : decode cX0_tooTightWires 1 = .ok (.istore_n 1, 1) := by decide +kernel
theorem dX0_tooTightWires_2 : decode cX0_tooTightWires 2 = .ok (.iconst 0, 1) := by decide +kernel
theorem dX0_tooTightWires_3 : decode cX0_tooTightWires 3 = .ok (.istore_n 2, 1) := by decide +kernel
theorem dX0_tooTightWires_4 : decode cX0_tooTightWires 4 = .ok (.iload_n 2, 1) := by decide +kernel
theorem dX0_tooTightWires_5 : decode cX0_tooTightWires 5 = .ok (.aload_n 0, 1) := by decide +kernel
theorem dX0_tooTightWires_6 : decode cX0_tooTightWires 6 = .ok (.getfield 38, 3) := by decide +kernel
theorem dX0_tooTightWires_9 : decode cX0_tooTightWires 9 = .ok (.if_icmp .ge 28, 3) := by decide +kernel
theorem dX0_tooTightWires_12 : decode cX0_tooTightWires 12 = .ok (.iload_n 1, 1) := by decide +kernel
theorem dX0_tooTightWires_13 : decode cX0_tooTightWires 13 = .ok (.aload_n 0, 1) := by decide +kernel
theorem dX0_tooTightWires_14 : decode cX0_tooTightWires 14 = .ok (.getfield 20, 3) := by decide +kernel
theorem dX0_tooTightWires_17 : decode cX0_tooTightWires 17 = .ok (.iload_n 2, 1) := by decide +kernel
theorem dX0_tooTightWires_18 : decode cX0_tooTightWires 18 = .ok (.aaload, 1) := by decide +kernel
theorem dX0_tooTightWires_19 : decode cX0_tooTightWires 19 = .ok (.aload_n 0, 1) := by decide +kernel
theorem dX0_tooTightWires_20 : decode cX0_tooTightWires 20 = .ok (.getfield 29, 3) := by decide +kernel
theorem dX0_tooTightWires_23 : decode cX0_tooTightWires 23 = .ok (.invokevirtual 154, 3) := by decide +kernel
theorem dX0_tooTightWires_26 : decode cX0_tooTightWires 26 = .ok (.invokestatic 147, 3) := by decide +kernel
theorem dX0_tooTightWires_29 : decode cX0_tooTightWires 29 = .ok (.iadd, 1) := by decide +kernel
theorem dX0_tooTightWires_30 : decode cX0_tooTightWires 30 = .ok (.istore_n 1, 1) := by decide +kernel
theorem dX0_tooTightWires_31 : decode cX0_tooTightWires 31 = .ok (.iinc 2 1, 3) := by decide +kernel
theorem dX0_tooTightWires_34 : decode cX0_tooTightWires 34 = .ok (.goto (-30), 3) := by decide +kernel
theorem dX0_tooTightWires_37 : decode cX0_tooTightWires 37 = .ok (.iload_n 1, 1) := by decide +kernel
theorem dX0_tooTightWires_38 : decode cX0_tooTightWires 38 = .ok (.ireturn, 1) := by decide +kernel
theorem dX1_init_0 : decode cX1_init 0 = .ok (.aload_n 0, 1) := by decide +kernel
theorem dX1_init_1 : decode cX1_init 1 = .ok (.invokespecial 3, 3) := by decide +kernel
theorem dX1_init_4 : decode cX1_init 4 = .ok (.aload_n 0, 1) := by decide +kernel
theorem dX1_init_5 : decode cX1_init 5 = .ok (.bipush 7, 2) := by decide +kernel
theorem dX1_init_7 : decode cX1_init 7 = .ok (.anewarray 9, 3) := by decide +kernel
theorem dX1_init_10 : decode cX1_init 10 = .ok (.putfield 11, 3) := by decide +kernel
theorem dX1_init_13 : decode cX1_init 13 = .ok (.iconst 0, 1) := by decide +kernel
theorem dX1_init_14 : decode cX1_init 14 = .ok (.istore_n 1, 1) := by decide +kernel
theorem dX1_init_15 : decode cX1_init 15 = .ok (.iload_n 1, 1) := by decide +kernel
theorem dX1_init_16 : decode cX1_init 16 = .ok (.bipush 6, 2) := by decide +kernel
theorem dX1_init_18 : decode cX1_init 18 = .ok (.if_icmp .gt 22, 3) := by decide +kernel
theorem dX1_init_21 : decode cX1_init 21 = .ok (.aload_n 0, 1) := by decide +kernel
theorem dX1_init_22 : decode cX1_init 22 = .ok (.getfield 11, 3) := by decide +kernel
theorem dX1_init_25 : decode cX1_init 25 = .ok (.iload_n 1, 1) := by decide +kernel
theorem dX1_init_26 : decode cX1_init 26 = .ok (.new 9, 3) := by decide +kernel
theorem dX1_init_29 : decode cX1_init 29 = .ok (.dup, 1) := by decide +kernel
theorem dX1_init_30 : decode cX1_init 30 = .ok (.invokespecial 17, 3) := by decide +kernel
theorem dX1_init_33 : decode cX1_init 33 = .ok (.aastore, 1) := by decide +kernel
theorem dX1_init_34 : decode cX1_init 34 = .ok (.iinc 1 1, 3) := by decide +kernel
theorem dX1_init_37 : decode cX1_init 37 = .ok (.goto (-22), 3) := by decide +kernel
theorem dX1_init_40 : decode cX1_init 40 = .ok (.return_, 1) := by decide +kernel
theorem dX1_note_0 : decode cX1_note 0 = .ok (.aload_n 0, 1) := by decide +kernel
theorem dX1_note_1 : decode cX1_note 1 = .ok (.getfield 18, 3) := by decide +kernel
theorem dX1_note_4 : decode cX1_note 4 = .ok (.iconst 0, 1) := by decide +kernel
theorem dX1_note_5 : decode cX1_note 5 = .ok (.bipush 6, 2) := by decide +kernel
theorem dX1_note_7 : decode cX1_note 7 = .ok (.invokestatic 22, 3) := by decide +kernel
theorem dX1_note_10 : decode cX1_note 10 = .ok (.ifCond .eq 16, 3) := by decide +kernel
theorem dX1_note_13 : decode cX1_note 13 = .ok (.aload_n 0, 1) := by decide +kernel
theorem dX1_note_14 : decode cX1_note 14 = .ok (.getfield 11, 3) := by decide +kernel
theorem dX1_note_17 : decode cX1_note 17 = .ok (.aload_n 0, 1) := by decide +kernel
theorem dX1_note_18 : decode cX1_note 18 = .ok (.getfield 18, 3) := by decide +kernel
theorem dX1_note_21 : decode cX1_note 21 = .ok (.aaload, 1) := by decide +kernel
theorem dX1_note_22 : decode cX1_note 22 = .ok (.aload_n 1, 1) := by decide +kernel
theorem dX1_note_23 : decode cX1_note 23 = .ok (.invokevirtual 26, 3) := by decide +kernel
theorem dX1_note_26 : decode cX1_note 26 = .ok (.return_, 1) := by decide +kernel
theorem dX1_keepUnlessError_0 : decode cX1_keepUnlessError 0 = .ok (.iload_n 1, 1) := by decide +kernel
theorem dX1_keepUnlessError_1 : decode cX1_keepUnlessError 1 = .ok (.invokestatic 30, 3) := by decide +kernel
theorem dX1_keepUnlessError_4 : decode cX1_keepUnlessError 4 = .ok (.ifCond .eq 5, 3) := by decide +kernel
theorem dX1_keepUnlessError_7 : decode cX1_keepUnlessError 7 = .ok (.iload_n 1, 1) := by decide +kernel
theorem dX1_keepUnlessError_8 : decode cX1_keepUnlessError 8 = .ok (.ireturn, 1) := by decide +kernel
theorem dX1_keepUnlessError_9 : decode cX1_keepUnlessError 9 = .ok (.aload_n 0, 1) := by decide +kernel
theorem dX1_keepUnlessError_10 : decode cX1_keepUnlessError 10 = .ok (.getfield 18, 3) := by decide +kernel
theorem dX1_keepUnlessError_13 : decode cX1_keepUnlessError 13 = .ok (.bipush 6, 2) := by decide +kernel
theorem dX1_keepUnlessError_15 : decode cX1_keepUnlessError 15 = .ok (.if_icmp .ge 16, 3) := by decide +kernel
theorem dX1_keepUnlessError_18 : decode cX1_keepUnlessError 18 = .ok (.aload_n 0, 1) := by decide +kernel
theorem dX1_keepUnlessError_19 : decode cX1_keepUnlessError 19 = .ok (.dup, 1) := by decide +kernel
theorem dX1_keepUnlessError_20 : decode cX1_keepUnlessError 20 = .ok (.getfield 18, 3) := by decide +kernel
theorem dX1_keepUnlessError_23 : decode cX1_keepUnlessError 23 = .ok (.iconst 1, 1) := by decide +kernel
theorem dX1_keepUnlessError_24 : decode cX1_keepUnlessError 24 = .ok (.iadd, 1) := by decide +kernel
theorem dX1_keepUnlessError_25 : decode cX1_keepUnlessError 25 = .ok (.putfield 18, 3) := by decide +kernel
theorem dX1_keepUnlessError_28 : decode cX1_keepUnlessError 28 = .ok (.goto 7, 3) := by decide +kernel
theorem dX1_keepUnlessError_31 : decode cX1_keepUnlessError 31 = .ok (.aload_n 0, 1) := by decide +kernel
theorem dX1_keepUnlessError_32 : decode cX1_keepUnlessError 32 = .ok (.invokevirtual 34, 3) := by decide +kernel
theorem dX1_keepUnlessError_35 : decode cX1_keepUnlessError 35 = .ok (.iload_n 1, 1) := by decide +kernel
theorem dX1_keepUnlessError_36 : decode cX1_keepUnlessError 36 = .ok (.ireturn, 1) := by decide +kernel
theorem dX1_dropOldest_0 : decode cX1_dropOldest 0 = .ok (.aload_n 0, 1) := by decide +kernel
theorem dX1_dropOldest_1 : decode cX1_dropOldest 1 = .ok (.getfield 11, 3) := by decide +kernel
theorem dX1_dropOldest_4 : decode cX1_dropOldest 4 = .ok (.iconst 0, 1) := by decide +kernel
theorem dX1_dropOldest_5 : decode cX1_dropOldest 5 = .ok (.aaload, 1) := by decide +kernel
theorem dX1_dropOldest_6 : decode cX1_dropOldest 6 = .ok (.astore_n 1, 1) := by decide +kernel
theorem dX1_dropOldest_7 : decode cX1_dropOldest 7 = .ok (.iconst 0, 1) := by decide +kernel
theorem dX1_dropOldest_8 : decode cX1_dropOldest 8 = .ok (.istore_n 2, 1) := by decide +kernel
theorem dX1_dropOldest_9 : decode cX1_dropOldest 9 = .ok (.iload_n 2, 1) := by decide +kernel
theorem dX1_dropOldest_10 : decode cX1_dropOldest 10 = .ok (.bipush 6, 2) := by decide +kernel
theorem dX1_dropOldest_12 : decode cX1_dropOldest 12 = .ok (.if_icmp .ge 23, 3) := by decide +kernel
theorem dX1_dropOldest_15 : decode cX1_dropOldest 15 = .ok (.aload_n 0, 1) := by decide +kernel
theorem dX1_dropOldest_16 : decode cX1_dropOldest 16 = .ok (.getfield 11, 3) := by decide +kernel
theorem dX1_dropOldest_19 : decode cX1_dropOldest 19 = .ok (.iload_n 2, 1) := by decide +kernel
theorem dX1_dropOldest_20 : decode cX1_dropOldest 20 = .ok (.aload_n 0, 1) := by decide +kernel
theorem dX1_dropOldest_21 : decode cX1_dropOldest 21 = .ok (.getfield 11, 3) := by decide +kernel
theorem dX1_dropOldest_24 : decode cX1_dropOldest 24 = .ok (.iload_n 2, 1) := by decide +kernel
theorem dX1_dropOldest_25 : decode cX1_dropOldest 25 = .ok (.iconst 1, 1) := by decide +kernel
theorem dX1_dropOldest_26 : decode cX1_dropOldest 26 = .ok (.iadd, 1) := by decide +kernel
theorem dX1_dropOldest_27 : decode cX1_dropOldest 27 = .ok (.aaload, 1) := by decide +kernel
theorem dX1_dropOldest_28 : decode cX1_dropOldest 28 = .ok (.aastore, 1) := by decide +kernel
theorem dX1_dropOldest_29 : decode cX1_dropOldest 29 = .ok (.iinc 2 1, 3) := by decide +kernel
theorem dX1_dropOldest_32 : decode cX1_dropOldest 32 = .ok (.goto (-23), 3) := by decide +kernel
theorem dX1_dropOldest_35 : decode cX1_dropOldest 35 = .ok (.aload_n 0, 1) := by decide +kernel
theorem dX1_dropOldest_36 : decode cX1_dropOldest 36 = .ok (.getfield 11, 3) := by decide +kernel
theorem dX1_dropOldest_39 : decode cX1_dropOldest 39 = .ok (.bipush 6, 2) := by decide +kernel
theorem dX1_dropOldest_41 : decode cX1_dropOldest 41 = .ok (.aload_n 1, 1) := by decide +kernel
theorem dX1_dropOldest_42 : decode cX1_dropOldest 42 = .ok (.aastore, 1) := by decide +kernel
theorem dX1_dropOldest_43 : decode cX1_dropOldest 43 = .ok (.return_, 1) := by decide +kernel
theorem dX1_giveBack_0 : decode cX1_giveBack 0 = .ok (.aload_n 0, 1) := by decide +kernel
theorem dX1_giveBack_1 : decode cX1_giveBack 1 = .ok (.getfield 18, 3) := by decide +kernel
theorem dX1_giveBack_4 : decode cX1_giveBack 4 = .ok (.ifCond .gt 6, 3) := by decide +kernel
theorem dX1_giveBack_7 : decode cX1_giveBack 7 = .ok (.bipush (-5), 2) := by decide +kernel
theorem dX1_giveBack_9 : decode cX1_giveBack 9 = .ok (.ireturn, 1) := by decide +kernel
theorem dX1_giveBack_10 : decode cX1_giveBack 10 = .ok (.aload_n 0, 1) := by decide +kernel
theorem dX1_giveBack_11 : decode cX1_giveBack 11 = .ok (.dup, 1) := by decide +kernel
theorem dX1_giveBack_12 : decode cX1_giveBack 12 = .ok (.getfield 18, 3) := by decide +kernel
theorem dX1_giveBack_15 : decode cX1_giveBack 15 = .ok (.iconst 1, 1) := by decide +kernel
theorem dX1_giveBack_16 : decode cX1_giveBack 16 = .ok (.isub, 1) := by decide +kernel
theorem dX1_giveBack_17 : decode cX1_giveBack 17 = .ok (.putfield 18, 3) := by decide +kernel
theorem dX1_giveBack_20 : decode cX1_giveBack 20 = .ok (.aload_n 1, 1) := by decide +kernel
theorem dX1_giveBack_21 : decode cX1_giveBack 21 = .ok (.aload_n 0, 1) := by decide +kernel
theorem dX1_giveBack_22 : decode cX1_giveBack 22 = .ok (.getfield 11, 3) := by decide +kernel
theorem dX1_giveBack_25 : decode cX1_giveBack 25 = .ok (.aload_n 0, 1) := by decide +kernel
theorem dX1_giveBack_26 : decode cX1_giveBack 26 = .ok (.getfield 18, 3) := by decide +kernel
theorem dX1_giveBack_29 : decode cX1_giveBack 29 = .ok (.aaload, 1) := by decide +kernel
theorem dX1_giveBack_30 : decode cX1_giveBack 30 = .ok (.invokevirtual 26, 3) := by decide +kernel
theorem dX1_giveBack_33 : decode cX1_giveBack 33 = .ok (.aload_n 0, 1) := by decide +kernel
theorem dX1_giveBack_34 : decode cX1_giveBack 34 = .ok (.getfield 18, 3) := by decide +kernel
theorem dX1_giveBack_37 : decode cX1_giveBack 37 = .ok (.ireturn, 1) := by decide +kernel
theorem dX2_init_0 : decode cX2_init 0 = .ok (.aload_n 0, 1) := by decide +kernel
theorem dX2_init_1 : decode cX2_init 1 = .ok (.invokespecial 3, 3) := by decide +kernel
theorem dX2_init_4 : decode cX2_init 4 = .ok (.aload_n 0, 1) := by decide +kernel
theorem dX2_init_5 : decode cX2_init 5 = .ok (.bipush 60, 2) := by decide +kernel
theorem dX2_init_7 : decode cX2_init 7 = .ok (.newarray .char, 2) := by decide +kernel
theorem dX2_init_9 : decode cX2_init 9 = .ok (.putfield 9, 3) := by decide +kernel
theorem dX2_init_12 : decode cX2_init 12 = .ok (.return_, 1) := by decide +kernel
theorem dX2_append_0 : decode cX2_append 0 = .ok (.lload_n 1, 1) := by decide +kernel
theorem dX2_append_1 : decode cX2_append 1 = .ok (.invokestatic 15, 3) := by decide +kernel
theorem dX2_append_4 : decode cX2_append 4 = .ok (.istore_n 3, 1) := by decide +kernel
theorem dX2_append_5 : decode cX2_append 5 = .ok (.iload_n 3, 1) := by decide +kernel
theorem dX2_append_6 : decode cX2_append 6 = .ok (.ifCond .gt 6, 3) := by decide +kernel
theorem dX2_append_9 : decode cX2_append 9 = .ok (.bipush (-2), 2) := by decide +kernel
theorem dX2_append_11 : decode cX2_append 11 = .ok (.ireturn, 1) := by decide +kernel
theorem dX2_append_12 : decode cX2_append 12 = .ok (.aload_n 0, 1) := by decide +kernel
theorem dX2_append_13 : decode cX2_append 13 = .ok (.getfield 19, 3) := by decide +kernel
theorem dX2_append_16 : decode cX2_append 16 = .ok (.iload_n 3, 1) := by decide +kernel
theorem dX2_append_17 : decode cX2_append 17 = .ok (.iadd, 1) := by decide +kernel
theorem dX2_append_18 : decode cX2_append 18 = .ok (.bipush 60, 2) := by decide +kernel
theorem dX2_append_20 : decode cX2_append 20 = .ok (.if_icmp .le 6, 3) := by decide +kernel
theorem dX2_append_23 : decode cX2_append 23 = .ok (.bipush (-4), 2) := by decide +kernel
theorem dX2_append_25 : decode cX2_append 25 = .ok (.ireturn, 1) := by decide +kernel
theorem dX2_append_26 : decode cX2_append 26 = .ok (.iload_n 3, 1) := by decide +kernel
theorem dX2_append_27 : decode cX2_append 27 = .ok (.iconst 1, 1) := by decide +kernel
theorem dX2_append_28 : decode cX2_append 28 = .ok (.isub, 1) := by decide +kernel
theorem dX2_append_29 : decode cX2_append 29 = .ok (.istore 4, 2) := by decide +kernel
theorem dX2_append_31 : decode cX2_append 31 = .ok (.iload 4, 2) := by decide +kernel
theorem dX2_append_33 : decode cX2_append 33 = .ok (.ifCond .lt 35, 3) := by decide +kernel
theorem dX2_append_36 : decode cX2_append 36 = .ok (.aload_n 0, 1) := by decide +kernel
theorem dX2_append_37 : decode cX2_append 37 = .ok (.getfield 9, 3) := by decide +kernel
theorem dX2_append_40 : decode cX2_append 40 = .ok (.aload_n 0, 1) := by decide +kernel
theorem dX2_append_41 : decode cX2_append 41 = .ok (.getfield 19, 3) := by decide +kernel
theorem dX2_append_44 : decode cX2_append 44 = .ok (.lload_n 1, 1) := by decide +kernel
theorem dX2_append_45 : decode cX2_append 45 = .ok (.iload 4, 2) := by decide +kernel
theorem dX2_append_47 : decode cX2_append 47 = .ok (.invokestatic 23, 3) := by decide +kernel
theorem dX2_append_50 : decode cX2_append 50 = .ok (.i2c, 1) := by decide +kernel
theorem dX2_append_51 : decode cX2_append 51 = .ok (.castore, 1) := by decide +kernel
theorem dX2_append_52 : decode cX2_append 52 = .ok (.aload_n 0, 1) := by decide +kernel
theorem dX2_append_53 : decode cX2_append 53 = .ok (.dup, 1) := by decide +kernel
theorem dX2_append_54 : decode cX2_append 54 = .ok (.getfield 19, 3) := by decide +kernel
theorem dX2_append_57 : decode cX2_append 57 = .ok (.iconst 1, 1) := by decide +kernel
theorem dX2_append_58 : decode cX2_append 58 = .ok (.iadd, 1) := by decide +kernel
theorem dX2_append_59 : decode cX2_append 59 = .ok (.putfield 19, 3) := by decide +kernel
theorem dX2_append_62 : decode cX2_append 62 = .ok (.iinc 4 (-1), 3) := by decide +kernel
theorem dX2_append_65 : decode cX2_append 65 = .ok (.goto (-34), 3) := by decide +kernel
theorem dX2_append_68 : decode cX2_append 68 = .ok (.aload_n 0, 1) := by decide +kernel
theorem dX2_append_69 : decode cX2_append 69 = .ok (.getfield 19, 3) := by decide +kernel
theorem dX2_append_72 : decode cX2_append 72 = .ok (.ireturn, 1) := by decide +kernel
theorem dX2_charactersIn_0 : decode cX2_charactersIn 0 = .ok (.iconst 0, 1) := by decide +kernel
theorem dX2_charactersIn_1 : decode cX2_charactersIn 1 = .ok (.istore_n 2, 1) := by decide +kernel
theorem dX2_charactersIn_2 : decode cX2_charactersIn 2 = .ok (.iload_n 2, 1) := by decide +kernel
theorem dX2_charactersIn_3 : decode cX2_charactersIn 3 = .ok (.bipush 8, 2) := by decide +kernel
theorem dX2_charactersIn_5 : decode cX2_charactersIn 5 = .ok (.if_icmp .ge 49, 3) := by decide +kernel
theorem dX2_charactersIn_8 : decode cX2_charactersIn 8 = .ok (.lload_n 0, 1) := by decide +kernel
theorem dX2_charactersIn_9 : decode cX2_charactersIn 9 = .ok (.iload_n 2, 1) := by decide +kernel
theorem dX2_charactersIn_10 : decode cX2_charactersIn 10 = .ok (.invokestatic 23, 3) := by decide +kernel
theorem dX2_charactersIn_13 : decode cX2_charactersIn 13 = .ok (.istore_n 3, 1) := by decide +kernel
theorem dX2_charactersIn_14 : decode cX2_charactersIn 14 = .ok (.iload_n 3, 1) := by decide +kernel
theorem dX2_charactersIn_15 : decode cX2_charactersIn 15 = .ok (.ifCond .ne 20, 3) := by decide +kernel
theorem dX2_charactersIn_18 : decode cX2_charactersIn 18 = .ok (.lload_n 0, 1) := by decide +kernel
theorem dX2_charactersIn_19 : decode cX2_charactersIn 19 = .ok (.bipush 8, 2) := by decide +kernel
theorem dX2_charactersIn_21 : decode cX2_charactersIn 21 = .ok (.iload_n 2, 1) := by decide +kernel
theorem dX2_charactersIn_22 : decode cX2_charactersIn 22 = .ok (.imul, 1) := by decide +kernel
theorem dX2_charactersIn_23 : decode cX2_charactersIn 23 = .ok (.lushr, 1) := by decide +kernel
theorem dX2_charactersIn_24 : decode cX2_charactersIn 24 = .ok (.lconst 0, 1) := by decide +kernel
theorem dX2_charactersIn_25 : decode cX2_charactersIn 25 = .ok (.lcmp, 1) := by decide +kernel
theorem dX2_charactersIn_26 : decode cX2_charactersIn 26 = .ok (.ifCond .ne 7, 3) := by decide +kernel
theorem dX2_charactersIn_29 : decode cX2_charactersIn 29 = .ok (.iload_n 2, 1) := by decide +kernel
theorem dX2_charactersIn_30 : decode cX2_charactersIn 30 = .ok (.goto 4, 3) := by decide +kernel
theorem dX2_charactersIn_33 : decode cX2_charactersIn 33 = .ok (.iconst 0, 1) := by decide +kernel
theorem dX2_charactersIn_34 : decode cX2_charactersIn 34 = .ok (.ireturn, 1) := by decide +kernel
theorem dX2_charactersIn_35 : decode cX2_charactersIn 35 = .ok (.iload_n 3, 1) := by decide +kernel
theorem dX2_charactersIn_36 : decode cX2_charactersIn 36 = .ok (.bipush 33, 2) := by decide +kernel
theorem dX2_charactersIn_38 : decode cX2_charactersIn 38 = .ok (.bipush 126, 2) := by decide +kernel
theorem dX2_charactersIn_40 : decode cX2_charactersIn 40 = .ok (.invokestatic 27, 3) := by decide +kernel
theorem dX2_charactersIn_43 : decode cX2_charactersIn 43 = .ok (.ifCond .ne 5, 3) := by decide +kernel
theorem dX2_charactersIn_46 : decode cX2_charactersIn 46 = .ok (.iconst 0, 1) := by decide +kernel
theorem dX2_charactersIn_47 : decode cX2_charactersIn 47 = .ok (.ireturn, 1) := by decide +kernel
theorem dX2_charactersIn_48 : decode cX2_charactersIn 48 = .ok (.iinc 2 1, 3) := by decide +kernel
theorem dX2_charactersIn_51 : decode cX2_charactersIn 51 = .ok (.goto (-49), 3) := by decide +kernel
theorem dX2_charactersIn_54 : decode cX2_charactersIn 54 = .ok (.bipush 8, 2) := by decide +kernel
theorem dX2_charactersIn_56 : decode cX2_charactersIn 56 = .ok (.ireturn, 1) := by decide +kernel
theorem dX2_codeAt_0 : decode cX2_codeAt 0 = .ok (.lload_n 0, 1) := by decide +kernel
theorem dX2_codeAt_1 : decode cX2_codeAt 1 = .ok (.bipush 8, 2) := by decide +kernel
theorem dX2_codeAt_3 : decode cX2_codeAt 3 = .ok (.iload_n 2, 1) := by decide +kernel
theorem dX2_codeAt_4 : decode cX2_codeAt 4 = .ok (.imul, 1) := by decide +kernel
theorem dX2_codeAt_5 : decode cX2_codeAt 5 = .ok (.lushr, 1) := by decide +kernel
theorem dX2_codeAt_6 : decode cX2_codeAt 6 = .ok (.l2i, 1) := by decide +kernel
theorem dX2_codeAt_7 : decode cX2_codeAt 7 = .ok (.sipush 255, 3) := by decide +kernel
theorem dX2_codeAt_10 : decode cX2_codeAt 10 = .ok (.iand, 1) := by decide +kernel
theorem dX2_codeAt_11 : decode cX2_codeAt 11 = .ok (.ireturn, 1) := by decide +kernel
theorem dX2_empty_0 : decode cX2_empty 0 = .ok (.aload_n 0, 1) := by decide +kernel
theorem dX2_empty_1 : decode cX2_empty 1 = .ok (.getfield 19, 3) := by decide +kernel
theorem dX2_empty_4 : decode cX2_empty 4 = .ok (.istore_n 1, 1) := by decide +kernel
theorem dX2_empty_5 : decode cX2_empty 5 = .ok (.aload_n 0, 1) := by decide +kernel
theorem dX2_empty_6 : decode cX2_empty 6 = .ok (.iconst 0, 1) := by decide +kernel
theorem dX2_empty_7 : decode cX2_empty 7 = .ok (.putfield 19, 3) := by decide +kernel
theorem dX2_empty_10 : decode cX2_empty 10 = .ok (.iload_n 1, 1) := by decide +kernel
theorem dX2_empty_11 : decode cX2_empty 11 = .ok (.ireturn, 1) := by decide +kernel
theorem dX2_firstFault_0 : decode cX2_firstFault 0 = .ok (.aload_n 0, 1) := by decide +kernel
theorem dX2_firstFault_1 : decode cX2_firstFault 1 = .ok (.iconst 0, 1) := by decide +kernel
theorem dX2_firstFault_2 : decode cX2_firstFault 2 = .ok (.putfield 31, 3) := by decide +kernel
theorem dX2_firstFault_5 : decode cX2_firstFault 5 = .ok (.aload_n 0, 1) := by decide +kernel
theorem dX2_firstFault_6 : decode cX2_firstFault 6 = .ok (.iconst 0, 1) := by decide +kernel
theorem dX2_firstFault_7 : decode cX2_firstFault 7 = .ok (.putfield 34, 3) := by decide +kernel
theorem dX2_firstFault_10 : decode cX2_firstFault 10 = .ok (.iconst 0, 1) := by decide +kernel
theorem dX2_firstFault_11 : decode cX2_firstFault 11 = .ok (.istore_n 1, 1) := by decide +kernel
theorem dX2_firstFault_12 : decode cX2_firstFault 12 = .ok (.iload_n 1, 1) := by decide +kernel
theorem dX2_firstFault_13 : decode cX2_firstFault 13 = .ok (.aload_n 0, 1) := by decide +kernel
theorem dX2_firstFault_14 : decode cX2_firstFault 14 = .ok (.getfield 19, 3) := by decide +kernel
theorem dX2_firstFault_17 : decode cX2_firstFault 17 = .ok (.if_icmp .ge 24, 3) := by decide +kernel
theorem dX2_firstFault_20 : decode cX2_firstFault 20 = .ok (.aload_n 0, 1) := by decide +kernel
theorem dX2_firstFault_21 : decode cX2_firstFault 21 = .ok (.aload_n 0, 1) := by decide +kernel
theorem dX2_firstFault_22 : decode cX2_firstFault 22 = .ok (.getfield 9, 3) := by decide +kernel
theorem dX2_firstFault_25 : decode cX2_firstFault 25 = .ok (.iload_n 1, 1) := by decide +kernel
theorem dX2_firstFault_26 : decode cX2_firstFault 26 = .ok (.caload, 1) := by decide +kernel
theorem dX2_firstFault_27 : decode cX2_firstFault 27 = .ok (.invokevirtual 38, 3) := by decide +kernel
theorem dX2_firstFault_30 : decode cX2_firstFault 30 = .ok (.ifCond .ne 5, 3) := by decide +kernel
theorem dX2_firstFault_33 : decode cX2_firstFault 33 = .ok (.iload_n 1, 1) := by decide +kernel
theorem dX2_firstFault_34 : decode cX2_firstFault 34 = .ok (.ireturn, 1) := by decide +kernel
theorem dX2_firstFault_35 : decode cX2_firstFault 35 = .ok (.iinc 1 1, 3) := by decide +kernel
theorem dX2_firstFault_38 : decode cX2_firstFault 38 = .ok (.goto (-26), 3) := by decide +kernel
theorem dX2_firstFault_41 : decode cX2_firstFault 41 = .ok (.aload_n 0, 1) := by decide +kernel
theorem dX2_firstFault_42 : decode cX2_firstFault 42 = .ok (.getfield 31, 3) := by decide +kernel
theorem dX2_firstFault_45 : decode cX2_firstFault 45 = .ok (.iconst 3, 1) := by decide +kernel
theorem dX2_firstFault_46 : decode cX2_firstFault 46 = .ok (.if_icmp .eq 18, 3) := by decide +kernel
theorem dX2_firstFault_49 : decode cX2_firstFault 49 = .ok (.aload_n 0, 1) := by decide +kernel
theorem dX2_firstFault_50 : decode cX2_firstFault 50 = .ok (.getfield 31, 3) := by decide +kernel
theorem dX2_firstFault_53 : decode cX2_firstFault 53 = .ok (.iconst 2, 1) := by decide +kernel
theorem dX2_firstFault_54 : decode cX2_firstFault 54 = .ok (.if_icmp .ne 14, 3) := by decide +kernel
theorem dX2_firstFault_57 : decode cX2_firstFault 57 = .ok (.aload_n 0, 1) := by decide +kernel
theorem dX2_firstFault_58 : decode cX2_firstFault 58 = .ok (.getfield 34, 3) := by decide +kernel
theorem dX2_firstFault_61 : decode cX2_firstFault 61 = .ok (.ifCond .ne 7, 3) := by decide +kernel
theorem dX2_firstFault_64 : decode cX2_firstFault 64 = .ok (.iconst 1, 1) := by decide +kernel
theorem dX2_firstFault_65 : decode cX2_firstFault 65 = .ok (.goto 4, 3) := by decide +kernel
theorem dX2_firstFault_68 : decode cX2_firstFault 68 = .ok (.iconst 0, 1) := by decide +kernel
theorem dX2_firstFault_69 : decode cX2_firstFault 69 = .ok (.istore_n 1, 1) := by decide +kernel
theorem dX2_firstFault_70 : decode cX2_firstFault 70 = .ok (.iload_n 1, 1) := by decide +kernel
theorem dX2_firstFault_71 : decode cX2_firstFault 71 = .ok (.ifCond .eq 8, 3) := by decide +kernel
theorem dX2_firstFault_74 : decode cX2_firstFault 74 = .ok (.bipush (-6), 2) := by decide +kernel
theorem dX2_firstFault_76 : decode cX2_firstFault 76 = .ok (.goto 7, 3) := by decide +kernel
theorem dX2_firstFault_79 : decode cX2_firstFault 79 = .ok (.aload_n 0, 1) := by decide +kernel
theorem dX2_firstFault_80 : decode cX2_firstFault 80 = .ok (.getfield 19, 3) := by decide +kernel
theorem dX2_firstFault_83 : decode cX2_firstFault 83 = .ok (.ireturn, 1) := by decide +kernel
theorem dX2_canStand_0 : decode cX2_canStand 0 = .ok (.aload_n 0, 1) := by decide +kernel
theorem dX2_canStand_1 : decode cX2_canStand 1 = .ok (.getfield 31, 3) := by decide +kernel
theorem dX2_canStand_4 : decode cX2_canStand 4 = .ok (.tableswitch 61 0 2 #[28, 34, 40], 28) := by decide +kernel
theorem dX2_canStand_32 : decode cX2_canStand 32 = .ok (.aload_n 0, 1) := by decide +kernel
theorem dX2_canStand_33 : decode cX2_canStand 33 = .ok (.iload_n 1, 1) := by decide +kernel
theorem dX2_canStand_34 : decode cX2_canStand 34 = .ok (.invokevirtual 42, 3) := by decide +kernel
theorem dX2_canStand_37 : decode cX2_canStand 37 = .ok (.ireturn, 1) := by decide +kernel
theorem dX2_canStand_38 : decode cX2_canStand 38 = .ok (.aload_n 0, 1) := by decide +kernel
theorem dX2_canStand_39 : decode cX2_canStand 39 = .ok (.iload_n 1, 1) := by decide +kernel
theorem dX2_canStand_40 : decode cX2_canStand 40 = .ok (.invokevirtual 45, 3) := by decide +kernel
theorem dX2_canStand_43 : decode cX2_canStand 43 = .ok (.ireturn, 1) := by decide +kernel
theorem dX2_canStand_44 : decode cX2_canStand 44 = .ok (.iload_n 1, 1) := by decide +kernel
theorem dX2_canStand_45 : decode cX2_canStand 45 = .ok (.invokestatic 48, 3) := by decide +kernel
theorem dX2_canStand_48 : decode cX2_canStand 48 = .ok (.ifCond .eq 11, 3) := by decide +kernel
theorem dX2_canStand_51 : decode cX2_canStand 51 = .ok (.aload_n 0, 1) := by decide +kernel
theorem dX2_canStand_52 : decode cX2_canStand 52 = .ok (.iload_n 1, 1) := by decide +kernel
theorem dX2_canStand_53 : decode cX2_canStand 53 = .ok (.invokevirtual 51, 3) := by decide +kernel
theorem dX2_canStand_56 : decode cX2_canStand 56 = .ok (.goto 8, 3) := by decide +kernel
theorem dX2_canStand_59 : decode cX2_canStand 59 = .ok (.aload_n 0, 1) := by decide +kernel
theorem dX2_canStand_60 : decode cX2_canStand 60 = .ok (.iload_n 1, 1) := by decide +kernel
theorem dX2_canStand_61 : decode cX2_canStand 61 = .ok (.invokevirtual 54, 3) := by decide +kernel
theorem dX2_canStand_64 : decode cX2_canStand 64 = .ok (.ireturn, 1) := by decide +kernel
theorem dX2_canStand_65 : decode cX2_canStand 65 = .ok (.aload_n 0, 1) := by decide +kernel
theorem dX2_canStand_66 : decode cX2_canStand 66 = .ok (.iload_n 1, 1) := by decide +kernel
theorem dX2_canStand_67 : decode cX2_canStand 67 = .ok (.invokevirtual 57, 3) := by decide +kernel
theorem dX2_canStand_70 : decode cX2_canStand 70 = .ok (.ireturn, 1) := by decide +kernel
theorem dX2_startsOrder_0 : decode cX2_startsOrder 0 = .ok (.aload_n 0, 1) := by decide +kernel
theorem dX2_startsOrder_1 : decode cX2_startsOrder 1 = .ok (.iload_n 1, 1) := by decide +kernel
theorem dX2_startsOrder_2 : decode cX2_startsOrder 2 = .ok (.bipush 104, 2) := by decide +kernel
theorem dX2_startsOrder_4 : decode cX2_startsOrder 4 = .ok (.if_icmp .ne 7, 3) := by decide +kernel
theorem dX2_startsOrder_7 : decode cX2_startsOrder 7 = .ok (.iconst 3, 1) := by decide +kernel
theorem dX2_startsOrder_8 : decode cX2_startsOrder 8 = .ok (.goto 4, 3) := by decide +kernel
theorem dX2_startsOrder_11 : decode cX2_startsOrder 11 = .ok (.iconst 1, 1) := by decide +kernel
theorem dX2_startsOrder_12 : decode cX2_startsOrder 12 = .ok (.putfield 31, 3) := by decide +kernel
theorem dX2_startsOrder_15 : decode cX2_startsOrder 15 = .ok (.aload_n 0, 1) := by decide +kernel
theorem dX2_startsOrder_16 : decode cX2_startsOrder 16 = .ok (.iload_n 1, 1) := by decide +kernel
theorem dX2_startsOrder_17 : decode cX2_startsOrder 17 = .ok (.bipush 112, 2) := by decide +kernel
theorem dX2_startsOrder_19 : decode cX2_startsOrder 19 = .ok (.if_icmp .ne 7, 3) := by decide +kernel
theorem dX2_startsOrder_22 : decode cX2_startsOrder 22 = .ok (.iconst 1, 1) := by decide +kernel
theorem dX2_startsOrder_23 : decode cX2_startsOrder 23 = .ok (.goto 4, 3) := by decide +kernel
theorem dX2_startsOrder_26 : decode cX2_startsOrder 26 = .ok (.iconst 0, 1) := by decide +kernel
theorem dX2_startsOrder_27 : decode cX2_startsOrder 27 = .ok (.putfield 34, 3) := by decide +kernel
theorem dX2_startsOrder_30 : decode cX2_startsOrder 30 = .ok (.iload_n 1, 1) := by decide +kernel
theorem dX2_startsOrder_31 : decode cX2_startsOrder 31 = .ok (.bipush 103, 2) := by decide +kernel
theorem dX2_startsOrder_33 : decode cX2_startsOrder 33 = .ok (.if_icmp .eq 27, 3) := by decide +kernel
theorem dX2_startsOrder_36 : decode cX2_startsOrder 36 = .ok (.iload_n 1, 1) := by decide +kernel
theorem dX2_startsOrder_37 : decode cX2_startsOrder 37 = .ok (.bipush 104, 2) := by decide +kernel
theorem dX2_startsOrder_39 : decode cX2_startsOrder 39 = .ok (.if_icmp .eq 21, 3) := by decide +kernel
theorem dX2_startsOrder_42 : decode cX2_startsOrder 42 = .ok (.iload_n 1, 1) := by decide +kernel
theorem dX2_startsOrder_43 : decode cX2_startsOrder 43 = .ok (.bipush 116, 2) := by decide +kernel
theorem dX2_startsOrder_45 : decode cX2_startsOrder 45 = .ok (.if_icmp .eq 15, 3) := by decide +kernel
theorem dX2_startsOrder_48 : decode cX2_startsOrder 48 = .ok (.iload_n 1, 1) := by decide +kernel
theorem dX2_startsOrder_49 : decode cX2_startsOrder 49 = .ok (.bipush 112, 2) := by decide +kernel
theorem dX2_startsOrder_51 : decode cX2_startsOrder 51 = .ok (.if_icmp .eq 9, 3) := by decide +kernel
theorem dX2_startsOrder_54 : decode cX2_startsOrder 54 = .ok (.iload_n 1, 1) := by decide +kernel
theorem dX2_startsOrder_55 : decode cX2_startsOrder 55 = .ok (.bipush 100, 2) := by decide +kernel
theorem dX2_startsOrder_57 : decode cX2_startsOrder 57 = .ok (.if_icmp .ne 7, 3) := by decide +kernel
theorem dX2_startsOrder_60 : decode cX2_startsOrder 60 = .ok (.iconst 1, 1) := by decide +kernel
theorem dX2_startsOrder_61 : decode cX2_startsOrder 61 = .ok (.goto 4, 3) := by decide +kernel
theorem dX2_startsOrder_64 : decode cX2_startsOrder 64 = .ok (.iconst 0, 1) := by decide +kernel
theorem dX2_startsOrder_65 : decode cX2_startsOrder 65 = .ok (.ireturn, 1) := by decide +kernel
theorem dX2_startsNumber_0 : decode cX2_startsNumber 0 = .ok (.aload_n 0, 1) := by decide +kernel
theorem dX2_startsNumber_1 : decode cX2_startsNumber 1 = .ok (.iload_n 1, 1) := by decide +kernel
theorem dX2_startsNumber_2 : decode cX2_startsNumber 2 = .ok (.bipush 48, 2) := by decide +kernel
theorem dX2_startsNumber_4 : decode cX2_startsNumber 4 = .ok (.isub, 1) := by decide +kernel
theorem dX2_startsNumber_5 : decode cX2_startsNumber 5 = .ok (.putfield 60, 3) := by decide +kernel
theorem dX2_startsNumber_8 : decode cX2_startsNumber 8 = .ok (.aload_n 0, 1) := by decide +kernel
theorem dX2_startsNumber_9 : decode cX2_startsNumber 9 = .ok (.iconst 2, 1) := by decide +kernel
theorem dX2_startsNumber_10 : decode cX2_startsNumber 10 = .ok (.putfield 31, 3) := by decide +kernel
theorem dX2_startsNumber_13 : decode cX2_startsNumber 13 = .ok (.iload_n 1, 1) := by decide +kernel
theorem dX2_startsNumber_14 : decode cX2_startsNumber 14 = .ok (.invokestatic 48, 3) := by decide +kernel
theorem dX2_startsNumber_17 : decode cX2_startsNumber 17 = .ok (.ireturn, 1) := by decide +kernel
theorem dX2_growsNumber_0 : decode cX2_growsNumber 0 = .ok (.aload_n 0, 1) := by decide +kernel
theorem dX2_growsNumber_1 : decode cX2_growsNumber 1 = .ok (.getfield 60, 3) := by decide +kernel
theorem dX2_growsNumber_4 : decode cX2_growsNumber 4 = .ok (.ifCond .ne 5, 3) := by decide +kernel
theorem dX2_growsNumber_7 : decode cX2_growsNumber 7 = .ok (.iconst 0, 1) := by decide +kernel
theorem dX2_growsNumber_8 : decode cX2_growsNumber 8 = .ok (.ireturn, 1) := by decide +kernel
theorem dX2_growsNumber_9 : decode cX2_growsNumber 9 = .ok (.aload_n 0, 1) := by decide +kernel
theorem dX2_growsNumber_10 : decode cX2_growsNumber 10 = .ok (.bipush 10, 2) := by decide +kernel
theorem dX2_growsNumber_12 : decode cX2_growsNumber 12 = .ok (.aload_n 0, 1) := by decide +kernel
theorem dX2_growsNumber_13 : decode cX2_growsNumber 13 = .ok (.getfield 60, 3) := by decide +kernel
theorem dX2_growsNumber_16 : decode cX2_growsNumber 16 = .ok (.imul, 1) := by decide +kernel
theorem dX2_growsNumber_17 : decode cX2_growsNumber 17 = .ok (.iload_n 1, 1) := by decide +kernel
theorem dX2_growsNumber_18 : decode cX2_growsNumber 18 = .ok (.bipush 48, 2) := by decide +kernel
theorem dX2_growsNumber_20 : decode cX2_growsNumber 20 = .ok (.isub, 1) := by decide +kernel
theorem dX2_growsNumber_21 : decode cX2_growsNumber 21 = .ok (.iadd, 1) := by decide +kernel
theorem dX2_growsNumber_22 : decode cX2_growsNumber 22 = .ok (.putfield 60, 3) := by decide +kernel
theorem dX2_growsNumber_25 : decode cX2_growsNumber 25 = .ok (.aload_n 0, 1) := by decide +kernel
theorem dX2_growsNumber_26 : decode cX2_growsNumber 26 = .ok (.getfield 60, 3) := by decide +kernel
theorem dX2_growsNumber_29 : decode cX2_growsNumber 29 = .ok (.ldc 63, 2) := by decide +kernel
theorem dX2_growsNumber_31 : decode cX2_growsNumber 31 = .ok (.if_icmp .gt 7, 3) := by decide +kernel
theorem dX2_growsNumber_34 : decode cX2_growsNumber 34 = .ok (.iconst 1, 1) := by decide +kernel
theorem dX2_growsNumber_35 : decode cX2_growsNumber 35 = .ok (.goto 4, 3) := by decide +kernel
theorem dX2_growsNumber_38 : decode cX2_growsNumber 38 = .ok (.iconst 0, 1) := by decide +kernel
theorem dX2_growsNumber_39 : decode cX2_growsNumber 39 = .ok (.ireturn, 1) := by decide +kernel
theorem dX2_endsNumber_0 : decode cX2_endsNumber 0 = .ok (.aload_n 0, 1) := by decide +kernel
theorem dX2_endsNumber_1 : decode cX2_endsNumber 1 = .ok (.getfield 34, 3) := by decide +kernel
theorem dX2_endsNumber_4 : decode cX2_endsNumber 4 = .ok (.ifCond .eq 25, 3) := by decide +kernel
theorem dX2_endsNumber_7 : decode cX2_endsNumber 7 = .ok (.aload_n 0, 1) := by decide +kernel
theorem dX2_endsNumber_8 : decode cX2_endsNumber 8 = .ok (.iconst 0, 1) := by decide +kernel
theorem dX2_endsNumber_9 : decode cX2_endsNumber 9 = .ok (.putfield 34, 3) := by decide +kernel
theorem dX2_endsNumber_12 : decode cX2_endsNumber 12 = .ok (.aload_n 0, 1) := by decide +kernel
theorem dX2_endsNumber_13 : decode cX2_endsNumber 13 = .ok (.iconst 1, 1) := by decide +kernel
theorem dX2_endsNumber_14 : decode cX2_endsNumber 14 = .ok (.putfield 31, 3) := by decide +kernel
theorem dX2_endsNumber_17 : decode cX2_endsNumber 17 = .ok (.iload_n 1, 1) := by decide +kernel
theorem dX2_endsNumber_18 : decode cX2_endsNumber 18 = .ok (.bipush 61, 2) := by decide +kernel
theorem dX2_endsNumber_20 : decode cX2_endsNumber 20 = .ok (.if_icmp .ne 7, 3) := by decide +kernel
theorem dX2_endsNumber_23 : decode cX2_endsNumber 23 = .ok (.iconst 1, 1) := by decide +kernel
theorem dX2_endsNumber_24 : decode cX2_endsNumber 24 = .ok (.goto 4, 3) := by decide +kernel
theorem dX2_endsNumber_27 : decode cX2_endsNumber 27 = .ok (.iconst 0, 1) := by decide +kernel
theorem dX2_endsNumber_28 : decode cX2_endsNumber 28 = .ok (.ireturn, 1) := by decide +kernel
theorem dX2_endsNumber_29 : decode cX2_endsNumber 29 = .ok (.aload_n 0, 1) := by decide +kernel
theorem dX2_endsNumber_30 : decode cX2_endsNumber 30 = .ok (.iload_n 1, 1) := by decide +kernel
theorem dX2_endsNumber_31 : decode cX2_endsNumber 31 = .ok (.invokevirtual 57, 3) := by decide +kernel
theorem dX2_endsNumber_34 : decode cX2_endsNumber 34 = .ok (.ireturn, 1) := by decide +kernel
theorem dX2_endsOrder_0 : decode cX2_endsOrder 0 = .ok (.aload_n 0, 1) := by decide +kernel
theorem dX2_endsOrder_1 : decode cX2_endsOrder 1 = .ok (.iconst 0, 1) := by decide +kernel
theorem dX2_endsOrder_2 : decode cX2_endsOrder 2 = .ok (.putfield 31, 3) := by decide +kernel
theorem dX2_endsOrder_5 : decode cX2_endsOrder 5 = .ok (.iload_n 1, 1) := by decide +kernel
theorem dX2_endsOrder_6 : decode cX2_endsOrder 6 = .ok (.bipush 59, 2) := by decide +kernel
theorem dX2_endsOrder_8 : decode cX2_endsOrder 8 = .ok (.if_icmp .ne 7, 3) := by decide +kernel
theorem dX2_endsOrder_11 : decode cX2_endsOrder 11 = .ok (.iconst 1, 1) := by decide +kernel
theorem dX2_endsOrder_12 : decode cX2_endsOrder 12 = .ok (.goto 4, 3) := by decide +kernel
theorem dX2_endsOrder_15 : decode cX2_endsOrder 15 = .ok (.iconst 0, 1) := by decide +kernel
theorem dX2_endsOrder_16 : decode cX2_endsOrder 16 = .ok (.ireturn, 1) := by decide +kernel
theorem dX2_isDigit_0 : decode cX2_isDigit 0 = .ok (.iload_n 0, 1) := by decide +kernel
theorem dX2_isDigit_1 : decode cX2_isDigit 1 = .ok (.bipush 48, 2) := by decide +kernel
theorem dX2_isDigit_3 : decode cX2_isDigit 3 = .ok (.if_icmp .lt 13, 3) := by decide +kernel
theorem dX2_isDigit_6 : decode cX2_isDigit 6 = .ok (.iload_n 0, 1) := by decide +kernel
theorem dX2_isDigit_7 : decode cX2_isDigit 7 = .ok (.bipush 57, 2) := by decide +kernel
theorem dX2_isDigit_9 : decode cX2_isDigit 9 = .ok (.if_icmp .gt 7, 3) := by decide +kernel
theorem dX2_isDigit_12 : decode cX2_isDigit 12 = .ok (.iconst 1, 1) := by decide +kernel
theorem dX2_isDigit_13 : decode cX2_isDigit 13 = .ok (.goto 4, 3) := by decide +kernel
theorem dX2_isDigit_16 : decode cX2_isDigit 16 = .ok (.iconst 0, 1) := by decide +kernel
theorem dX2_isDigit_17 : decode cX2_isDigit 17 = .ok (.ireturn, 1) := by decide +kernel
theorem dX2_startReading_0 : decode cX2_startReading 0 = .ok (.aload_n 0, 1) := by decide +kernel
theorem dX2_startReading_1 : decode cX2_startReading 1 = .ok (.iconst 0, 1) := by decide +kernel
theorem dX2_startReading_2 : decode cX2_startReading 2 = .ok (.putfield 64, 3) := by decide +kernel
theorem dX2_startReading_5 : decode cX2_startReading 5 = .ok (.return_, 1) := by decide +kernel
theorem dX2_readOrder_0 : decode cX2_readOrder 0 = .ok (.aload_n 0, 1) := by decide +kernel
theorem dX2_readOrder_1 : decode cX2_readOrder 1 = .ok (.getfield 64, 3) := by decide +kernel
theorem dX2_readOrder_4 : decode cX2_readOrder 4 = .ok (.aload_n 0, 1) := by decide +kernel
theorem dX2_readOrder_5 : decode cX2_readOrder 5 = .ok (.getfield 19, 3) := by decide +kernel
theorem dX2_readOrder_8 : decode cX2_readOrder 8 = .ok (.if_icmp .lt 5, 3) := by decide +kernel
theorem dX2_readOrder_11 : decode cX2_readOrder 11 = .ok (.iconst 0, 1) := by decide +kernel
theorem dX2_readOrder_12 : decode cX2_readOrder 12 = .ok (.ireturn, 1) := by decide +kernel
theorem dX2_readOrder_13 : decode cX2_readOrder 13 = .ok (.aload_n 0, 1) := by decide +kernel
theorem dX2_readOrder_14 : decode cX2_readOrder 14 = .ok (.aload_n 0, 1) := by decide +kernel
theorem dX2_readOrder_15 : decode cX2_readOrder 15 = .ok (.getfield 9, 3) := by decide +kernel
theorem dX2_readOrder_18 : decode cX2_readOrder 18 = .ok (.aload_n 0, 1) := by decide +kernel
theorem dX2_readOrder_19 : decode cX2_readOrder 19 = .ok (.getfield 64, 3) := by decide +kernel
theorem dX2_readOrder_22 : decode cX2_readOrder 22 = .ok (.caload, 1) := by decide +kernel
theorem dX2_readOrder_23 : decode cX2_readOrder 23 = .ok (.putfield 67, 3) := by decide +kernel
theorem dX2_readOrder_26 : decode cX2_readOrder 26 = .ok (.aload_n 0, 1) := by decide +kernel
theorem dX2_readOrder_27 : decode cX2_readOrder 27 = .ok (.dup, 1) := by decide +kernel
theorem dX2_readOrder_28 : decode cX2_readOrder 28 = .ok (.getfield 64, 3) := by decide +kernel
theorem dX2_readOrder_31 : decode cX2_readOrder 31 = .ok (.iconst 1, 1) := by decide +kernel
theorem dX2_readOrder_32 : decode cX2_readOrder 32 = .ok (.iadd, 1) := by decide +kernel
theorem dX2_readOrder_33 : decode cX2_readOrder 33 = .ok (.putfield 64, 3) := by decide +kernel
theorem dX2_readOrder_36 : decode cX2_readOrder 36 = .ok (.aload_n 0, 1) := by decide +kernel
theorem dX2_readOrder_37 : decode cX2_readOrder 37 = .ok (.aload_n 0, 1) := by decide +kernel
theorem dX2_readOrder_38 : decode cX2_readOrder 38 = .ok (.invokevirtual 71, 3) := by decide +kernel
theorem dX2_readOrder_41 : decode cX2_readOrder 41 = .ok (.putfield 75, 3) := by decide +kernel
theorem dX2_readOrder_44 : decode cX2_readOrder 44 = .ok (.aload_n 0, 1) := by decide +kernel
theorem dX2_readOrder_45 : decode cX2_readOrder 45 = .ok (.iconst 0, 1) := by decide +kernel
theorem dX2_readOrder_46 : decode cX2_readOrder 46 = .ok (.putfield 78, 3) := by decide +kernel
theorem dX2_readOrder_49 : decode cX2_readOrder 49 = .ok (.aload_n 0, 1) := by decide +kernel
theorem dX2_readOrder_50 : decode cX2_readOrder 50 = .ok (.getfield 64, 3) := by decide +kernel
theorem dX2_readOrder_53 : decode cX2_readOrder 53 = .ok (.aload_n 0, 1) := by decide +kernel
theorem dX2_readOrder_54 : decode cX2_readOrder 54 = .ok (.getfield 19, 3) := by decide +kernel
theorem dX2_readOrder_57 : decode cX2_readOrder 57 = .ok (.if_icmp .ge 35, 3) := by decide +kernel
theorem dX2_readOrder_60 : decode cX2_readOrder 60 = .ok (.aload_n 0, 1) := by decide +kernel
theorem dX2_readOrder_61 : decode cX2_readOrder 61 = .ok (.getfield 9, 3) := by decide +kernel
theorem dX2_readOrder_64 : decode cX2_readOrder 64 = .ok (.aload_n 0, 1) := by decide +kernel
theorem dX2_readOrder_65 : decode cX2_readOrder 65 = .ok (.getfield 64, 3) := by decide +kernel
theorem dX2_readOrder_68 : decode cX2_readOrder 68 = .ok (.caload, 1) := by decide +kernel
theorem dX2_readOrder_69 : decode cX2_readOrder 69 = .ok (.bipush 61, 2) := by decide +kernel
theorem dX2_readOrder_71 : decode cX2_readOrder 71 = .ok (.if_icmp .ne 21, 3) := by decide +kernel
theorem dX2_readOrder_74 : decode cX2_readOrder 74 = .ok (.aload_n 0, 1) := by decide +kernel
theorem dX2_readOrder_75 : decode cX2_readOrder 75 = .ok (.dup, 1) := by decide +kernel
theorem dX2_readOrder_76 : decode cX2_readOrder 76 = .ok (.getfield 64, 3) := by decide +kernel
theorem dX2_readOrder_79 : decode cX2_readOrder 79 = .ok (.iconst 1, 1) := by decide +kernel
theorem dX2_readOrder_80 : decode cX2_readOrder 80 = .ok (.iadd, 1) := by decide +kernel
theorem dX2_readOrder_81 : decode cX2_readOrder 81 = .ok (.putfield 64, 3) := by decide +kernel
theorem dX2_readOrder_84 : decode cX2_readOrder 84 = .ok (.aload_n 0, 1) := by decide +kernel
theorem dX2_readOrder_85 : decode cX2_readOrder 85 = .ok (.aload_n 0, 1) := by decide +kernel
theorem dX2_readOrder_86 : decode cX2_readOrder 86 = .ok (.invokevirtual 71, 3) := by decide +kernel
theorem dX2_readOrder_89 : decode cX2_readOrder 89 = .ok (.putfield 78, 3) := by decide +kernel
theorem dX2_readOrder_92 : decode cX2_readOrder 92 = .ok (.aload_n 0, 1) := by decide +kernel
theorem dX2_readOrder_93 : decode cX2_readOrder 93 = .ok (.dup, 1) := by decide +kernel
theorem dX2_readOrder_94 : decode cX2_readOrder 94 = .ok (.getfield 64, 3) := by decide +kernel
theorem dX2_readOrder_97 : decode cX2_readOrder 97 = .ok (.iconst 1, 1) := by decide +kernel
theorem dX2_readOrder_98 : decode cX2_readOrder 98 = .ok (.iadd, 1) := by decide +kernel
theorem dX2_readOrder_99 : decode cX2_readOrder 99 = .ok (.putfield 64, 3) := by decide +kernel
theorem dX2_readOrder_102 : decode cX2_readOrder 102 = .ok (.iconst 1, 1) := by decide +kernel
theorem dX2_readOrder_103 : decode cX2_readOrder 103 = .ok (.ireturn, 1) := by decide +kernel
theorem dX2_readNumber_0 : decode cX2_readNumber 0 = .ok (.iconst 0, 1) := by decide +kernel
theorem dX2_readNumber_1 : decode cX2_readNumber 1 = .ok (.istore_n 1, 1) := by decide +kernel
theorem dX2_readNumber_2 : decode cX2_readNumber 2 = .ok (.aload_n 0, 1) := by decide +kernel
theorem dX2_readNumber_3 : decode cX2_readNumber 3 = .ok (.getfield 64, 3) := by decide +kernel
theorem dX2_readNumber_6 : decode cX2_readNumber 6 = .ok (.aload_n 0, 1) := by decide +kernel
theorem dX2_readNumber_7 : decode cX2_readNumber 7 = .ok (.getfield 19, 3) := by decide +kernel
theorem dX2_readNumber_10 : decode cX2_readNumber 10 = .ok (.if_icmp .ge 49, 3) := by decide +kernel
theorem dX2_readNumber_13 : decode cX2_readNumber 13 = .ok (.aload_n 0, 1) := by decide +kernel
theorem dX2_readNumber_14 : decode cX2_readNumber 14 = .ok (.getfield 9, 3) := by decide +kernel
theorem dX2_readNumber_17 : decode cX2_readNumber 17 = .ok (.aload_n 0, 1) := by decide +kernel
theorem dX2_readNumber_18 : decode cX2_readNumber 18 = .ok (.getfield 64, 3) := by decide +kernel
theorem dX2_readNumber_21 : decode cX2_readNumber 21 = .ok (.caload, 1) := by decide +kernel
theorem dX2_readNumber_22 : decode cX2_readNumber 22 = .ok (.invokestatic 48, 3) := by decide +kernel
theorem dX2_readNumber_25 : decode cX2_readNumber 25 = .ok (.ifCond .eq 34, 3) := by decide +kernel
theorem dX2_readNumber_28 : decode cX2_readNumber 28 = .ok (.bipush 10, 2) := by decide +kernel
theorem dX2_readNumber_30 : decode cX2_readNumber 30 = .ok (.iload_n 1, 1) := by decide +kernel
theorem dX2_readNumber_31 : decode cX2_readNumber 31 = .ok (.imul, 1) := by decide +kernel
theorem dX2_readNumber_32 : decode cX2_readNumber 32 = .ok (.aload_n 0, 1) := by decide +kernel
theorem dX2_readNumber_33 : decode cX2_readNumber 33 = .ok (.getfield 9, 3) := by decide +kernel
theorem dX2_readNumber_36 : decode cX2_readNumber 36 = .ok (.aload_n 0, 1) := by decide +kernel
theorem dX2_readNumber_37 : decode cX2_readNumber 37 = .ok (.getfield 64, 3) := by decide +kernel
theorem dX2_readNumber_40 : decode cX2_readNumber 40 = .ok (.caload, 1) := by decide +kernel
theorem dX2_readNumber_41 : decode cX2_readNumber 41 = .ok (.bipush 48, 2) := by decide +kernel
theorem dX2_readNumber_43 : decode cX2_readNumber 43 = .ok (.isub, 1) := by decide +kernel
theorem dX2_readNumber_44 : decode cX2_readNumber 44 = .ok (.iadd, 1) := by decide +kernel
theorem dX2_readNumber_45 : decode cX2_readNumber 45 = .ok (.istore_n 1, 1) := by decide +kernel
theorem dX2_readNumber_46 : decode cX2_readNumber 46 = .ok (.aload_n 0, 1) := by decide +kernel
theorem dX2_readNumber_47 : decode cX2_readNumber 47 = .ok (.dup, 1) := by decide +kernel
theorem dX2_readNumber_48 : decode cX2_readNumber 48 = .ok (.getfield 64, 3) := by decide +kernel
theorem dX2_readNumber_51 : decode cX2_readNumber 51 = .ok (.iconst 1, 1) := by decide +kernel
theorem dX2_readNumber_52 : decode cX2_readNumber 52 = .ok (.iadd, 1) := by decide +kernel
theorem dX2_readNumber_53 : decode cX2_readNumber 53 = .ok (.putfield 64, 3) := by decide +kernel
theorem dX2_readNumber_56 : decode cX2_readNumber 56 = .ok (.goto (-54), 3) := by decide +kernel
theorem dX2_readNumber_59 : decode cX2_readNumber 59 = .ok (.iload_n 1, 1) := by decide +kernel
theorem dX2_readNumber_60 : decode cX2_readNumber 60 = .ok (.ireturn, 1) := by decide +kernel
theorem dX3_init_0 : decode cX3_init 0 = .ok (.aload_n 0, 1) := by decide +kernel
theorem dX3_init_1 : decode cX3_init 1 = .ok (.invokespecial 3, 3) := by decide +kernel
theorem dX3_init_4 : decode cX3_init 4 = .ok (.return_, 1) := by decide +kernel
theorem dX3_makeNew_0 : decode cX3_makeNew 0 = .ok (.aload_n 0, 1) := by decide +kernel
theorem dX3_makeNew_1 : decode cX3_makeNew 1 = .ok (.iload_n 1, 1) := by decide +kernel
theorem dX3_makeNew_2 : decode cX3_makeNew 2 = .ok (.putfield 9, 3) := by decide +kernel
theorem dX3_makeNew_5 : decode cX3_makeNew 5 = .ok (.aload_n 0, 1) := by decide +kernel
theorem dX3_makeNew_6 : decode cX3_makeNew 6 = .ok (.iload_n 2, 1) := by decide +kernel
theorem dX3_makeNew_7 : decode cX3_makeNew 7 = .ok (.putfield 15, 3) := by decide +kernel
theorem dX3_makeNew_10 : decode cX3_makeNew 10 = .ok (.aload_n 0, 1) := by decide +kernel
theorem dX3_makeNew_11 : decode cX3_makeNew 11 = .ok (.iload_n 3, 1) := by decide +kernel
theorem dX3_makeNew_12 : decode cX3_makeNew 12 = .ok (.putfield 18, 3) := by decide +kernel
theorem dX3_makeNew_15 : decode cX3_makeNew 15 = .ok (.aload_n 0, 1) := by decide +kernel
theorem dX3_makeNew_16 : decode cX3_makeNew 16 = .ok (.iload 4, 2) := by decide +kernel
theorem dX3_makeNew_18 : decode cX3_makeNew 18 = .ok (.putfield 21, 3) := by decide +kernel
theorem dX3_makeNew_21 : decode cX3_makeNew 21 = .ok (.aload_n 0, 1) := by decide +kernel
theorem dX3_makeNew_22 : decode cX3_makeNew 22 = .ok (.iload 5, 2) := by decide +kernel
theorem dX3_makeNew_24 : decode cX3_makeNew 24 = .ok (.putfield 24, 3) := by decide +kernel
theorem dX3_makeNew_27 : decode cX3_makeNew 27 = .ok (.aload_n 0, 1) := by decide +kernel
theorem dX3_makeNew_28 : decode cX3_makeNew 28 = .ok (.iconst 0, 1) := by decide +kernel
theorem dX3_makeNew_29 : decode cX3_makeNew 29 = .ok (.putfield 27, 3) := by decide +kernel
theorem dX3_makeNew_32 : decode cX3_makeNew 32 = .ok (.aload_n 0, 1) := by decide +kernel
theorem dX3_makeNew_33 : decode cX3_makeNew 33 = .ok (.iconst 0, 1) := by decide +kernel
theorem dX3_makeNew_34 : decode cX3_makeNew 34 = .ok (.putfield 30, 3) := by decide +kernel
theorem dX3_makeNew_37 : decode cX3_makeNew 37 = .ok (.aload_n 0, 1) := by decide +kernel
theorem dX3_makeNew_38 : decode cX3_makeNew 38 = .ok (.bipush (-6), 2) := by decide +kernel
theorem dX3_makeNew_40 : decode cX3_makeNew 40 = .ok (.putfield 34, 3) := by decide +kernel
theorem dX3_makeNew_43 : decode cX3_makeNew 43 = .ok (.aload_n 0, 1) := by decide +kernel
theorem dX3_makeNew_44 : decode cX3_makeNew 44 = .ok (.bipush (-6), 2) := by decide +kernel
theorem dX3_makeNew_46 : decode cX3_makeNew 46 = .ok (.putfield 37, 3) := by decide +kernel
theorem dX3_makeNew_49 : decode cX3_makeNew 49 = .ok (.aload_n 0, 1) := by decide +kernel
theorem dX3_makeNew_50 : decode cX3_makeNew 50 = .ok (.iconst 0, 1) := by decide +kernel
theorem dX3_makeNew_51 : decode cX3_makeNew 51 = .ok (.putfield 40, 3) := by decide +kernel
theorem dX3_makeNew_54 : decode cX3_makeNew 54 = .ok (.aload_n 0, 1) := by decide +kernel
theorem dX3_makeNew_55 : decode cX3_makeNew 55 = .ok (.iconst 0, 1) := by decide +kernel
theorem dX3_makeNew_56 : decode cX3_makeNew 56 = .ok (.putfield 43, 3) := by decide +kernel
theorem dX3_makeNew_59 : decode cX3_makeNew 59 = .ok (.aload_n 0, 1) := by decide +kernel
theorem dX3_makeNew_60 : decode cX3_makeNew 60 = .ok (.iconst 0, 1) := by decide +kernel
theorem dX3_makeNew_61 : decode cX3_makeNew 61 = .ok (.putfield 46, 3) := by decide +kernel
theorem dX3_makeNew_64 : decode cX3_makeNew 64 = .ok (.return_, 1) := by decide +kernel
theorem dX3_takeFrom_0 : decode cX3_takeFrom 0 = .ok (.aload_n 0, 1) := by decide +kernel
theorem dX3_takeFrom_1 : decode cX3_takeFrom 1 = .ok (.aload_n 1, 1) := by decide +kernel
theorem dX3_takeFrom_2 : decode cX3_takeFrom 2 = .ok (.getfield 9, 3) := by decide +kernel
theorem dX3_takeFrom_5 : decode cX3_takeFrom 5 = .ok (.putfield 9, 3) := by decide +kernel
theorem dX3_takeFrom_8 : decode cX3_takeFrom 8 = .ok (.aload_n 0, 1) := by decide +kernel
theorem dX3_takeFrom_9 : decode cX3_takeFrom 9 = .ok (.aload_n 1, 1) := by decide +kernel
theorem dX3_takeFrom_10 : decode cX3_takeFrom 10 = .ok (.getfield 15, 3) := by decide +kernel
theorem dX3_takeFrom_13 : decode cX3_takeFrom 13 = .ok (.putfield 15, 3) := by decide +kernel
theorem dX3_takeFrom_16 : decode cX3_takeFrom 16 = .ok (.aload_n 0, 1) := by decide +kernel
theorem dX3_takeFrom_17 : decode cX3_takeFrom 17 = .ok (.aload_n 1, 1) := by decide +kernel
theorem dX3_takeFrom_18 : decode cX3_takeFrom 18 = .ok (.getfield 18, 3) := by decide +kernel
theorem dX3_takeFrom_21 : decode cX3_takeFrom 21 = .ok (.putfield 18, 3) := by decide +kernel
theorem dX3_takeFrom_24 : decode cX3_takeFrom 24 = .ok (.aload_n 0, 1) := by decide +kernel
theorem dX3_takeFrom_25 : decode cX3_takeFrom 25 = .ok (.aload_n 1, 1) := by decide +kernel
theorem dX3_takeFrom_26 : decode cX3_takeFrom 26 = .ok (.getfield 21, 3) := by decide +kernel
theorem dX3_takeFrom_29 : decode cX3_takeFrom 29 = .ok (.putfield 21, 3) := by decide +kernel
theorem dX3_takeFrom_32 : decode cX3_takeFrom 32 = .ok (.aload_n 0, 1) := by decide +kernel
theorem dX3_takeFrom_33 : decode cX3_takeFrom 33 = .ok (.aload_n 1, 1) := by decide +kernel
theorem dX3_takeFrom_34 : decode cX3_takeFrom 34 = .ok (.getfield 24, 3) := by decide +kernel
theorem dX3_takeFrom_37 : decode cX3_takeFrom 37 = .ok (.putfield 24, 3) := by decide +kernel
theorem dX3_takeFrom_40 : decode cX3_takeFrom 40 = .ok (.aload_n 0, 1) := by decide +kernel
theorem dX3_takeFrom_41 : decode cX3_takeFrom 41 = .ok (.aload_n 1, 1) := by decide +kernel
theorem dX3_takeFrom_42 : decode cX3_takeFrom 42 = .ok (.getfield 27, 3) := by decide +kernel
theorem dX3_takeFrom_45 : decode cX3_takeFrom 45 = .ok (.putfield 27, 3) := by decide +kernel
theorem dX3_takeFrom_48 : decode cX3_takeFrom 48 = .ok (.aload_n 0, 1) := by decide +kernel
theorem dX3_takeFrom_49 : decode cX3_takeFrom 49 = .ok (.aload_n 1, 1) := by decide +kernel
theorem dX3_takeFrom_50 : decode cX3_takeFrom 50 = .ok (.getfield 30, 3) := by decide +kernel
theorem dX3_takeFrom_53 : decode cX3_takeFrom 53 = .ok (.putfield 30, 3) := by decide +kernel
theorem dX3_takeFrom_56 : decode cX3_takeFrom 56 = .ok (.aload_n 0, 1) := by decide +kernel
theorem dX3_takeFrom_57 : decode cX3_takeFrom 57 = .ok (.aload_n 1, 1) := by decide +kernel
theorem dX3_takeFrom_58 : decode cX3_takeFrom 58 = .ok (.getfield 34, 3) := by decide +kernel
theorem dX3_takeFrom_61 : decode cX3_takeFrom 61 = .ok (.putfield 34, 3) := by decide +kernel
theorem dX3_takeFrom_64 : decode cX3_takeFrom 64 = .ok (.aload_n 0, 1) := by decide +kernel
theorem dX3_takeFrom_65 : decode cX3_takeFrom 65 = .ok (.aload_n 1, 1) := by decide +kernel
theorem dX3_takeFrom_66 : decode cX3_takeFrom 66 = .ok (.getfield 37, 3) := by decide +kernel
theorem dX3_takeFrom_69 : decode cX3_takeFrom 69 = .ok (.putfield 37, 3) := by decide +kernel
theorem dX3_takeFrom_72 : decode cX3_takeFrom 72 = .ok (.aload_n 0, 1) := by decide +kernel
theorem dX3_takeFrom_73 : decode cX3_takeFrom 73 = .ok (.aload_n 1, 1) := by decide +kernel
theorem dX3_takeFrom_74 : decode cX3_takeFrom 74 = .ok (.getfield 40, 3) := by decide +kernel
theorem dX3_takeFrom_77 : decode cX3_takeFrom 77 = .ok (.putfield 40, 3) := by decide +kernel
theorem dX3_takeFrom_80 : decode cX3_takeFrom 80 = .ok (.aload_n 0, 1) := by decide +kernel
theorem dX3_takeFrom_81 : decode cX3_takeFrom 81 = .ok (.aload_n 1, 1) := by decide +kernel
theorem dX3_takeFrom_82 : decode cX3_takeFrom 82 = .ok (.getfield 43, 3) := by decide +kernel
theorem dX3_takeFrom_85 : decode cX3_takeFrom 85 = .ok (.putfield 43, 3) := by decide +kernel
theorem dX3_takeFrom_88 : decode cX3_takeFrom 88 = .ok (.aload_n 0, 1) := by decide +kernel
theorem dX3_takeFrom_89 : decode cX3_takeFrom 89 = .ok (.aload_n 1, 1) := by decide +kernel
theorem dX3_takeFrom_90 : decode cX3_takeFrom 90 = .ok (.getfield 46, 3) := by decide +kernel
theorem dX3_takeFrom_93 : decode cX3_takeFrom 93 = .ok (.putfield 46, 3) := by decide +kernel
theorem dX3_takeFrom_96 : decode cX3_takeFrom 96 = .ok (.return_, 1) := by decide +kernel
theorem dX3_weight_0 : decode cX3_weight 0 = .ok (.aload_n 0, 1) := by decide +kernel
theorem dX3_weight_1 : decode cX3_weight 1 = .ok (.getfield 15, 3) := by decide +kernel
theorem dX3_weight_4 : decode cX3_weight 4 = .ok (.i2l, 1) := by decide +kernel
theorem dX3_weight_5 : decode cX3_weight 5 = .ok (.aload_n 0, 1) := by decide +kernel
theorem dX3_weight_6 : decode cX3_weight 6 = .ok (.getfield 15, 3) := by decide +kernel
theorem dX3_weight_9 : decode cX3_weight 9 = .ok (.i2l, 1) := by decide +kernel
theorem dX3_weight_10 : decode cX3_weight 10 = .ok (.lmul, 1) := by decide +kernel
theorem dX3_weight_11 : decode cX3_weight 11 = .ok (.aload_n 0, 1) := by decide +kernel
theorem dX3_weight_12 : decode cX3_weight 12 = .ok (.getfield 18, 3) := by decide +kernel
theorem dX3_weight_15 : decode cX3_weight 15 = .ok (.i2l, 1) := by decide +kernel
theorem dX3_weight_16 : decode cX3_weight 16 = .ok (.lmul, 1) := by decide +kernel
theorem dX3_weight_17 : decode cX3_weight 17 = .ok (.lreturn, 1) := by decide +kernel
theorem dX3_pitchWith_0 : decode cX3_pitchWith 0 = .ok (.iload_n 1, 1) := by decide +kernel
theorem dX3_pitchWith_1 : decode cX3_pitchWith 1 = .ok (.i2l, 1) := by decide +kernel
theorem dX3_pitchWith_2 : decode cX3_pitchWith 2 = .ok (.ldc2_w 49, 3) := by decide +kernel
theorem dX3_pitchWith_5 : decode cX3_pitchWith 5 = .ok (.lmul, 1) := by decide +kernel
theorem dX3_pitchWith_6 : decode cX3_pitchWith 6 = .ok (.lstore_n 2, 1) := by decide +kernel
theorem dX3_pitchWith_7 : decode cX3_pitchWith 7 = .ok (.aload_n 0, 1) := by decide +kernel
theorem dX3_pitchWith_8 : decode cX3_pitchWith 8 = .ok (.invokevirtual 51, 3) := by decide +kernel
theorem dX3_pitchWith_11 : decode cX3_pitchWith 11 = .ok (.lstore 4, 2) := by decide +kernel
theorem dX3_pitchWith_13 : decode cX3_pitchWith 13 = .ok (.lconst 0, 1) := by decide +kernel
theorem dX3_pitchWith_14 : decode cX3_pitchWith 14 = .ok (.lstore 6, 2) := by decide +kernel
theorem dX3_pitchWith_16 : decode cX3_pitchWith 16 = .ok (.ldc2_w 55, 3) := by decide +kernel
theorem dX3_pitchWith_19 : decode cX3_pitchWith 19 = .ok (.lstore 8, 2) := by decide +kernel
theorem dX3_pitchWith_21 : decode cX3_pitchWith 21 = .ok (.lload 8, 2) := by decide +kernel
theorem dX3_pitchWith_23 : decode cX3_pitchWith 23 = .ok (.lconst 0, 1) := by decide +kernel
theorem dX3_pitchWith_24 : decode cX3_pitchWith 24 = .ok (.lcmp, 1) := by decide +kernel
theorem dX3_pitchWith_25 : decode cX3_pitchWith 25 = .ok (.ifCond .le 40, 3) := by decide +kernel
theorem dX3_pitchWith_28 : decode cX3_pitchWith 28 = .ok (.lload 6, 2) := by decide +kernel
theorem dX3_pitchWith_30 : decode cX3_pitchWith 30 = .ok (.lload 8, 2) := by decide +kernel
theorem dX3_pitchWith_32 : decode cX3_pitchWith 32 = .ok (.ladd, 1) := by decide +kernel
theorem dX3_pitchWith_33 : decode cX3_pitchWith 33 = .ok (.lload 6, 2) := by decide +kernel
theorem dX3_pitchWith_35 : decode cX3_pitchWith 35 = .ok (.lload 8, 2) := by decide +kernel
theorem dX3_pitchWith_37 : decode cX3_pitchWith 37 = .ok (.ladd, 1) := by decide +kernel
theorem dX3_pitchWith_38 : decode cX3_pitchWith 38 = .ok (.lmul, 1) := by decide +kernel
theorem dX3_pitchWith_39 : decode cX3_pitchWith 39 = .ok (.lload 4, 2) := by decide +kernel
theorem dX3_pitchWith_41 : decode cX3_pitchWith 41 = .ok (.lmul, 1) := by decide +kernel
theorem dX3_pitchWith_42 : decode cX3_pitchWith 42 = .ok (.lload_n 2, 1) := by decide +kernel
theorem dX3_pitchWith_43 : decode cX3_pitchWith 43 = .ok (.lcmp, 1) := by decide +kernel
theorem dX3_pitchWith_44 : decode cX3_pitchWith 44 = .ok (.ifCond .gt 10, 3) := by decide +kernel
theorem dX3_pitchWith_47 : decode cX3_pitchWith 47 = .ok (.lload 6, 2) := by decide +kernel
theorem dX3_pitchWith_49 : decode cX3_pitchWith 49 = .ok (.lload 8, 2) := by decide +kernel
theorem dX3_pitchWith_51 : decode cX3_pitchWith 51 = .ok (.ladd, 1) := by decide +kernel
theorem dX3_pitchWith_52 : decode cX3_pitchWith 52 = .ok (.lstore 6, 2) := by decide +kernel
theorem dX3_pitchWith_54 : decode cX3_pitchWith 54 = .ok (.lload 8, 2) := by decide +kernel
theorem dX3_pitchWith_56 : decode cX3_pitchWith 56 = .ok (.ldc2_w 57, 3) := by decide +kernel
theorem dX3_pitchWith_59 : decode cX3_pitchWith 59 = .ok (.ldiv, 1) := by decide +kernel
theorem dX3_pitchWith_60 : decode cX3_pitchWith 60 = .ok (.lstore 8, 2) := by decide +kernel
theorem dX3_pitchWith_62 : decode cX3_pitchWith 62 = .ok (.goto (-41), 3) := by decide +kernel
theorem dX3_pitchWith_65 : decode cX3_pitchWith 65 = .ok (.lload 6, 2) := by decide +kernel
theorem dX3_pitchWith_67 : decode cX3_pitchWith 67 = .ok (.l2i, 1) := by decide +kernel
theorem dX3_pitchWith_68 : decode cX3_pitchWith 68 = .ok (.ireturn, 1) := by decide +kernel
theorem dX3_leastTension_0 : decode cX3_leastTension 0 = .ok (.lload_n 1, 1) := by decide +kernel
theorem dX3_leastTension_1 : decode cX3_leastTension 1 = .ok (.lload_n 1, 1) := by decide +kernel
theorem dX3_leastTension_2 : decode cX3_leastTension 2 = .ok (.lmul, 1) := by decide +kernel
theorem dX3_leastTension_3 : decode cX3_leastTension 3 = .ok (.aload_n 0, 1) := by decide +kernel
theorem dX3_leastTension_4 : decode cX3_leastTension 4 = .ok (.invokevirtual 51, 3) := by decide +kernel
theorem dX3_leastTension_7 : decode cX3_leastTension 7 = .ok (.lmul, 1) := by decide +kernel
theorem dX3_leastTension_8 : decode cX3_leastTension 8 = .ok (.ldc2_w 49, 3) := by decide +kernel
theorem dX3_leastTension_11 : decode cX3_leastTension 11 = .ok (.ladd, 1) := by decide +kernel
theorem dX3_leastTension_12 : decode cX3_leastTension 12 = .ok (.lconst 1, 1) := by decide +kernel
theorem dX3_leastTension_13 : decode cX3_leastTension 13 = .ok (.lsub, 1) := by decide +kernel
theorem dX3_leastTension_14 : decode cX3_leastTension 14 = .ok (.ldc2_w 49, 3) := by decide +kernel
theorem dX3_leastTension_17 : decode cX3_leastTension 17 = .ok (.ldiv, 1) := by decide +kernel
theorem dX3_leastTension_18 : decode cX3_leastTension 18 = .ok (.lreturn, 1) := by decide +kernel
theorem dX3_snap_0 : decode cX3_snap 0 = .ok (.aload_n 0, 1) := by decide +kernel
theorem dX3_snap_1 : decode cX3_snap 1 = .ok (.iconst 1, 1) := by decide +kernel
theorem dX3_snap_2 : decode cX3_snap 2 = .ok (.putfield 30, 3) := by decide +kernel
theorem dX3_snap_5 : decode cX3_snap 5 = .ok (.aload_n 0, 1) := by decide +kernel
theorem dX3_snap_6 : decode cX3_snap 6 = .ok (.iload_n 1, 1) := by decide +kernel
theorem dX3_snap_7 : decode cX3_snap 7 = .ok (.putfield 34, 3) := by decide +kernel
theorem dX3_snap_10 : decode cX3_snap 10 = .ok (.aload_n 0, 1) := by decide +kernel
theorem dX3_snap_11 : decode cX3_snap 11 = .ok (.iconst 0, 1) := by decide +kernel
theorem dX3_snap_12 : decode cX3_snap 12 = .ok (.putfield 24, 3) := by decide +kernel
theorem dX3_snap_15 : decode cX3_snap 15 = .ok (.return_, 1) := by decide +kernel
theorem dX3_pull_0 : decode cX3_pull 0 = .ok (.aload_n 0, 1) := by decide +kernel
theorem dX3_pull_1 : decode cX3_pull 1 = .ok (.iload_n 1, 1) := by decide +kernel
theorem dX3_pull_2 : decode cX3_pull 2 = .ok (.putfield 24, 3) := by decide +kernel
theorem dX3_pull_5 : decode cX3_pull 5 = .ok (.aload_n 0, 1) := by decide +kernel
theorem dX3_pull_6 : decode cX3_pull 6 = .ok (.iload_n 1, 1) := by decide +kernel
theorem dX3_pull_7 : decode cX3_pull 7 = .ok (.putfield 40, 3) := by decide +kernel
theorem dX3_pull_10 : decode cX3_pull 10 = .ok (.aload_n 0, 1) := by decide +kernel
theorem dX3_pull_11 : decode cX3_pull 11 = .ok (.iload_n 1, 1) := by decide +kernel
theorem dX3_pull_12 : decode cX3_pull 12 = .ok (.putfield 43, 3) := by decide +kernel
theorem dX3_pull_15 : decode cX3_pull 15 = .ok (.aload_n 0, 1) := by decide +kernel
theorem dX3_pull_16 : decode cX3_pull 16 = .ok (.iload_n 2, 1) := by decide +kernel
theorem dX3_pull_17 : decode cX3_pull 17 = .ok (.putfield 37, 3) := by decide +kernel
theorem dX3_pull_20 : decode cX3_pull 20 = .ok (.return_, 1) := by decide +kernel
theorem dX3_sing_0 : decode cX3_sing 0 = .ok (.aload_n 0, 1) := by decide +kernel
theorem dX3_sing_1 : decode cX3_sing 1 = .ok (.iload_n 1, 1) := by decide +kernel
theorem dX3_sing_2 : decode cX3_sing 2 = .ok (.putfield 37, 3) := by decide +kernel
theorem dX3_sing_5 : decode cX3_sing 5 = .ok (.aload_n 0, 1) := by decide +kernel
theorem dX3_sing_6 : decode cX3_sing 6 = .ok (.getfield 30, 3) := by decide +kernel
theorem dX3_sing_9 : decode cX3_sing 9 = .ok (.ifCond .eq 21, 3) := by decide +kernel
theorem dX3_sing_12 : decode cX3_sing 12 = .ok (.aload_n 0, 1) := by decide +kernel
theorem dX3_sing_13 : decode cX3_sing 13 = .ok (.iconst 1, 1) := by decide +kernel
theorem dX3_sing_14 : decode cX3_sing 14 = .ok (.putfield 46, 3) := by decide +kernel
theorem dX3_sing_17 : decode cX3_sing 17 = .ok (.aload_n 0, 1) := by decide +kernel
theorem dX3_sing_18 : decode cX3_sing 18 = .ok (.iconst 0, 1) := by decide +kernel
theorem dX3_sing_19 : decode cX3_sing 19 = .ok (.putfield 40, 3) := by decide +kernel
theorem dX3_sing_22 : decode cX3_sing 22 = .ok (.aload_n 0, 1) := by decide +kernel
theorem dX3_sing_23 : decode cX3_sing 23 = .ok (.iconst 0, 1) := by decide +kernel
theorem dX3_sing_24 : decode cX3_sing 24 = .ok (.putfield 43, 3) := by decide +kernel
theorem dX3_sing_27 : decode cX3_sing 27 = .ok (.bipush (-6), 2) := by decide +kernel
theorem dX3_sing_29 : decode cX3_sing 29 = .ok (.ireturn, 1) := by decide +kernel
theorem dX3_sing_30 : decode cX3_sing 30 = .ok (.aload_n 0, 1) := by decide +kernel
theorem dX3_sing_31 : decode cX3_sing 31 = .ok (.aload_n 0, 1) := by decide +kernel
theorem dX3_sing_32 : decode cX3_sing 32 = .ok (.getfield 24, 3) := by decide +kernel
theorem dX3_sing_35 : decode cX3_sing 35 = .ok (.invokevirtual 59, 3) := by decide +kernel
theorem dX3_sing_38 : decode cX3_sing 38 = .ok (.istore_n 2, 1) := by decide +kernel
theorem dX3_sing_39 : decode cX3_sing 39 = .ok (.aload_n 0, 1) := by decide +kernel
theorem dX3_sing_40 : decode cX3_sing 40 = .ok (.aload_n 0, 1) := by decide +kernel
theorem dX3_sing_41 : decode cX3_sing 41 = .ok (.iload_n 2, 1) := by decide +kernel
theorem dX3_sing_42 : decode cX3_sing 42 = .ok (.i2l, 1) := by decide +kernel
theorem dX3_sing_43 : decode cX3_sing 43 = .ok (.invokevirtual 63, 3) := by decide +kernel
theorem dX3_sing_46 : decode cX3_sing 46 = .ok (.l2i, 1) := by decide +kernel
theorem dX3_sing_47 : decode cX3_sing 47 = .ok (.putfield 40, 3) := by decide +kernel
theorem dX3_sing_50 : decode cX3_sing 50 = .ok (.aload_n 0, 1) := by decide +kernel
theorem dX3_sing_51 : decode cX3_sing 51 = .ok (.aload_n 0, 1) := by decide +kernel
theorem dX3_sing_52 : decode cX3_sing 52 = .ok (.iload_n 2, 1) := by decide +kernel
theorem dX3_sing_53 : decode cX3_sing 53 = .ok (.iconst 1, 1) := by decide +kernel
theorem dX3_sing_54 : decode cX3_sing 54 = .ok (.iadd, 1) := by decide +kernel
theorem dX3_sing_55 : decode cX3_sing 55 = .ok (.i2l, 1) := by decide +kernel
theorem dX3_sing_56 : decode cX3_sing 56 = .ok (.invokevirtual 63, 3) := by decide +kernel
theorem dX3_sing_59 : decode cX3_sing 59 = .ok (.lconst 1, 1) := by decide +kernel
theorem dX3_sing_60 : decode cX3_sing 60 = .ok (.lsub, 1) := by decide +kernel
theorem dX3_sing_61 : decode cX3_sing 61 = .ok (.ldc2_w 67, 3) := by decide +kernel
theorem dX3_sing_64 : decode cX3_sing 64 = .ok (.invokestatic 69, 3) := by decide +kernel
theorem dX3_sing_67 : decode cX3_sing 67 = .ok (.l2i, 1) := by decide +kernel
theorem dX3_sing_68 : decode cX3_sing 68 = .ok (.putfield 43, 3) := by decide +kernel
theorem dX3_sing_71 : decode cX3_sing 71 = .ok (.iload_n 2, 1) := by decide +kernel
theorem dX3_sing_72 : decode cX3_sing 72 = .ok (.ireturn, 1) := by decide +kernel
theorem dX3_loosen_0 : decode cX3_loosen 0 = .ok (.aload_n 0, 1) := by decide +kernel
theorem dX3_loosen_1 : decode cX3_loosen 1 = .ok (.aload_n 0, 1) := by decide +kernel
theorem dX3_loosen_2 : decode cX3_loosen 2 = .ok (.getfield 24, 3) := by decide +kernel
theorem dX3_loosen_5 : decode cX3_loosen 5 = .ok (.iload_n 1, 1) := by decide +kernel
theorem dX3_loosen_6 : decode cX3_loosen 6 = .ok (.invokestatic 75, 3) := by decide +kernel
theorem dX3_loosen_9 : decode cX3_loosen 9 = .ok (.putfield 24, 3) := by decide +kernel
theorem dX3_loosen_12 : decode cX3_loosen 12 = .ok (.aload_n 0, 1) := by decide +kernel
theorem dX3_loosen_13 : decode cX3_loosen 13 = .ok (.aload_n 0, 1) := by decide +kernel
theorem dX3_loosen_14 : decode cX3_loosen 14 = .ok (.getfield 40, 3) := by decide +kernel
theorem dX3_loosen_17 : decode cX3_loosen 17 = .ok (.iload_n 1, 1) := by decide +kernel
theorem dX3_loosen_18 : decode cX3_loosen 18 = .ok (.invokestatic 75, 3) := by decide +kernel
theorem dX3_loosen_21 : decode cX3_loosen 21 = .ok (.putfield 40, 3) := by decide +kernel
theorem dX3_loosen_24 : decode cX3_loosen 24 = .ok (.aload_n 0, 1) := by decide +kernel
theorem dX3_loosen_25 : decode cX3_loosen 25 = .ok (.aload_n 0, 1) := by decide +kernel
theorem dX3_loosen_26 : decode cX3_loosen 26 = .ok (.getfield 43, 3) := by decide +kernel
theorem dX3_loosen_29 : decode cX3_loosen 29 = .ok (.iload_n 1, 1) := by decide +kernel
theorem dX3_loosen_30 : decode cX3_loosen 30 = .ok (.invokestatic 75, 3) := by decide +kernel
theorem dX3_loosen_33 : decode cX3_loosen 33 = .ok (.putfield 43, 3) := by decide +kernel
theorem dX3_loosen_36 : decode cX3_loosen 36 = .ok (.return_, 1) := by decide +kernel
theorem dX3_isSlack_0 : decode cX3_isSlack 0 = .ok (.aload_n 0, 1) := by decide +kernel
theorem dX3_isSlack_1 : decode cX3_isSlack 1 = .ok (.getfield 30, 3) := by decide +kernel
theorem dX3_isSlack_4 : decode cX3_isSlack 4 = .ok (.ifCond .ne 18, 3) := by decide +kernel
theorem dX3_isSlack_7 : decode cX3_isSlack 7 = .ok (.aload_n 0, 1) := by decide +kernel
theorem dX3_isSlack_8 : decode cX3_isSlack 8 = .ok (.getfield 24, 3) := by decide +kernel
theorem dX3_isSlack_11 : decode cX3_isSlack 11 = .ok (.aload_n 0, 1) := by decide +kernel
theorem dX3_isSlack_12 : decode cX3_isSlack 12 = .ok (.getfield 27, 3) := by decide +kernel
theorem dX3_isSlack_15 : decode cX3_isSlack 15 = .ok (.if_icmp .ge 7, 3) := by decide +kernel
theorem dX3_isSlack_18 : decode cX3_isSlack 18 = .ok (.iconst 1, 1) := by decide +kernel
theorem dX3_isSlack_19 : decode cX3_isSlack 19 = .ok (.goto 4, 3) := by decide +kernel
theorem dX3_isSlack_22 : decode cX3_isSlack 22 = .ok (.iconst 0, 1) := by decide +kernel
theorem dX3_isSlack_23 : decode cX3_isSlack 23 = .ok (.ireturn, 1) := by decide +kernel
theorem dX3_isTooTight_0 : decode cX3_isTooTight 0 = .ok (.aload_n 0, 1) := by decide +kernel
theorem dX3_isTooTight_1 : decode cX3_isTooTight 1 = .ok (.getfield 30, 3) := by decide +kernel
theorem dX3_isTooTight_4 : decode cX3_isTooTight 4 = .ok (.ifCond .ne 38, 3) := by decide +kernel
theorem dX3_isTooTight_7 : decode cX3_isTooTight 7 = .ok (.aload_n 0, 1) := by decide +kernel
theorem dX3_isTooTight_8 : decode cX3_isTooTight 8 = .ok (.getfield 24, 3) := by decide +kernel
theorem dX3_isTooTight_11 : decode cX3_isTooTight 11 = .ok (.sipush 1000, 3) := by decide +kernel
theorem dX3_isTooTight_14 : decode cX3_isTooTight 14 = .ok (.if_icmp .le 28, 3) := by decide +kernel
theorem dX3_isTooTight_17 : decode cX3_isTooTight 17 = .ok (.aload_n 0, 1) := by decide +kernel
theorem dX3_isTooTight_18 : decode cX3_isTooTight 18 = .ok (.getfield 24, 3) := by decide +kernel
theorem dX3_isTooTight_21 : decode cX3_isTooTight 21 = .ok (.aload_n 0, 1) := by decide +kernel
theorem dX3_isTooTight_22 : decode cX3_isTooTight 22 = .ok (.getfield 27, 3) := by decide +kernel
theorem dX3_isTooTight_25 : decode cX3_isTooTight 25 = .ok (.aload_n 0, 1) := by decide +kernel
theorem dX3_isTooTight_26 : decode cX3_isTooTight 26 = .ok (.getfield 27, 3) := by decide +kernel
theorem dX3_isTooTight_29 : decode cX3_isTooTight 29 = .ok (.iload_n 1, 1) := by decide +kernel
theorem dX3_isTooTight_30 : decode cX3_isTooTight 30 = .ok (.imul, 1) := by decide +kernel
theorem dX3_isTooTight_31 : decode cX3_isTooTight 31 = .ok (.bipush 100, 2) := by decide +kernel
theorem dX3_isTooTight_33 : decode cX3_isTooTight 33 = .ok (.idiv, 1) := by decide +kernel
theorem dX3_isTooTight_34 : decode cX3_isTooTight 34 = .ok (.iadd, 1) := by decide +kernel
theorem dX3_isTooTight_35 : decode cX3_isTooTight 35 = .ok (.if_icmp .le 7, 3) := by decide +kernel
theorem dX3_isTooTight_38 : decode cX3_isTooTight 38 = .ok (.iconst 1, 1) := by decide +kernel
theorem dX3_isTooTight_39 : decode cX3_isTooTight 39 = .ok (.goto 4, 3) := by decide +kernel
theorem dX3_isTooTight_42 : decode cX3_isTooTight 42 = .ok (.iconst 0, 1) := by decide +kernel
theorem dX3_isTooTight_43 : decode cX3_isTooTight 43 = .ok (.ireturn, 1) := by decide +kernel
theorem dX3_isKnown_0 : decode cX3_isKnown 0 = .ok (.aload_n 0, 1) := by decide +kernel
theorem dX3_isKnown_1 : decode cX3_isKnown 1 = .ok (.getfield 37, 3) := by decide +kernel
theorem dX3_isKnown_4 : decode cX3_isKnown 4 = .ok (.bipush (-6), 2) := by decide +kernel
theorem dX3_isKnown_6 : decode cX3_isKnown 6 = .ok (.if_icmp .eq 7, 3) := by decide +kernel
theorem dX3_isKnown_9 : decode cX3_isKnown 9 = .ok (.iconst 1, 1) := by decide +kernel
theorem dX3_isKnown_10 : decode cX3_isKnown 10 = .ok (.goto 4, 3) := by decide +kernel
theorem dX3_isKnown_13 : decode cX3_isKnown 13 = .ok (.iconst 0, 1) := by decide +kernel
theorem dX3_isKnown_14 : decode cX3_isKnown 14 = .ok (.ireturn, 1) := by decide +kernel
theorem dX3_isSurelySlack_0 : decode cX3_isSurelySlack 0 = .ok (.aload_n 0, 1) := by decide +kernel
theorem dX3_isSurelySlack_1 : decode cX3_isSurelySlack 1 = .ok (.invokevirtual 79, 3) := by decide +kernel
theorem dX3_isSurelySlack_4 : decode cX3_isSurelySlack 4 = .ok (.ifCond .eq 18, 3) := by decide +kernel
theorem dX3_isSurelySlack_7 : decode cX3_isSurelySlack 7 = .ok (.aload_n 0, 1) := by decide +kernel
theorem dX3_isSurelySlack_8 : decode cX3_isSurelySlack 8 = .ok (.getfield 43, 3) := by decide +kernel
theorem dX3_isSurelySlack_11 : decode cX3_isSurelySlack 11 = .ok (.aload_n 0, 1) := by decide +kernel
theorem dX3_isSurelySlack_12 : decode cX3_isSurelySlack 12 = .ok (.getfield 27, 3) := by decide +kernel
theorem dX3_isSurelySlack_15 : decode cX3_isSurelySlack 15 = .ok (.if_icmp .ge 7, 3) := by decide +kernel
theorem dX3_isSurelySlack_18 : decode cX3_isSurelySlack 18 = .ok (.iconst 1, 1) := by decide +kernel
theorem dX3_isSurelySlack_19 : decode cX3_isSurelySlack 19 = .ok (.goto 4, 3) := by decide +kernel
theorem dX3_isSurelySlack_22 : decode cX3_isSurelySlack 22 = .ok (.iconst 0, 1) := by decide +kernel
theorem dX3_isSurelySlack_23 : decode cX3_isSurelySlack 23 = .ok (.ireturn, 1) := by decide +kernel
theorem dX3_maybeSlack_0 : decode cX3_maybeSlack 0 = .ok (.aload_n 0, 1) := by decide +kernel
theorem dX3_maybeSlack_1 : decode cX3_maybeSlack 1 = .ok (.getfield 46, 3) := by decide +kernel
theorem dX3_maybeSlack_4 : decode cX3_maybeSlack 4 = .ok (.ifCond .ne 32, 3) := by decide +kernel
theorem dX3_maybeSlack_7 : decode cX3_maybeSlack 7 = .ok (.aload_n 0, 1) := by decide +kernel
theorem dX3_maybeSlack_8 : decode cX3_maybeSlack 8 = .ok (.invokevirtual 83, 3) := by decide +kernel
theorem dX3_maybeSlack_11 : decode cX3_maybeSlack 11 = .ok (.ifCond .ne 25, 3) := by decide +kernel
theorem dX3_maybeSlack_14 : decode cX3_maybeSlack 14 = .ok (.aload_n 0, 1) := by decide +kernel
theorem dX3_maybeSlack_15 : decode cX3_maybeSlack 15 = .ok (.invokevirtual 79, 3) := by decide +kernel
theorem dX3_maybeSlack_18 : decode cX3_maybeSlack 18 = .ok (.ifCond .eq 14, 3) := by decide +kernel
theorem dX3_maybeSlack_21 : decode cX3_maybeSlack 21 = .ok (.aload_n 0, 1) := by decide +kernel
theorem dX3_maybeSlack_22 : decode cX3_maybeSlack 22 = .ok (.getfield 40, 3) := by decide +kernel
theorem dX3_maybeSlack_25 : decode cX3_maybeSlack 25 = .ok (.aload_n 0, 1) := by decide +kernel
theorem dX3_maybeSlack_26 : decode cX3_maybeSlack 26 = .ok (.getfield 27, 3) := by decide +kernel
theorem dX3_maybeSlack_29 : decode cX3_maybeSlack 29 = .ok (.if_icmp .ge 7, 3) := by decide +kernel
theorem dX3_maybeSlack_32 : decode cX3_maybeSlack 32 = .ok (.iconst 1, 1) := by decide +kernel
theorem dX3_maybeSlack_33 : decode cX3_maybeSlack 33 = .ok (.goto 4, 3) := by decide +kernel
theorem dX3_maybeSlack_36 : decode cX3_maybeSlack 36 = .ok (.iconst 0, 1) := by decide +kernel
theorem dX3_maybeSlack_37 : decode cX3_maybeSlack 37 = .ok (.ireturn, 1) := by decide +kernel
end
section
theorem dX4_init_0 : decode cX4_init 0 = .ok (.aload_n 0, 1) := by decide +kernel
theorem dX4_init_1 : decode cX4_init 1 = .ok (.invokespecial 1, 3) := by decide +kernel
theorem dX4_init_4 : decode cX4_init 4 = .ok (.aload_n 0, 1) := by decide +kernel
theorem dX4_init_5 : decode cX4_init 5 = .ok (.new 7, 3) := by decide +kernel
theorem dX4_init_8 : decode cX4_init 8 = .ok (.dup, 1) := by decide +kernel
theorem dX4_init_9 : decode cX4_init 9 = .ok (.invokespecial 9, 3) := by decide +kernel
theorem dX4_init_12 : decode cX4_init 12 = .ok (.putfield 10, 3) := by decide +kernel
theorem dX4_init_15 : decode cX4_init 15 = .ok (.aload_n 0, 1) := by decide +kernel
theorem dX4_init_16 : decode cX4_init 16 = .ok (.new 7, 3) := by decide +kernel
theorem dX4_init_19 : decode cX4_init 19 = .ok (.dup, 1) := by decide +kernel
theorem dX4_init_20 : decode cX4_init 20 = .ok (.invokespecial 9, 3) := by decide +kernel
theorem dX4_init_23 : decode cX4_init 23 = .ok (.putfield 16, 3) := by decide +kernel
theorem dX4_init_26 : decode cX4_init 26 = .ok (.aload_n 0, 1) := by decide +kernel
theorem dX4_init_27 : decode cX4_init 27 = .ok (.new 19, 3) := by decide +kernel
theorem dX4_init_30 : decode cX4_init 30 = .ok (.dup, 1) := by decide +kernel
theorem dX4_init_31 : decode cX4_init 31 = .ok (.invokespecial 21, 3) := by decide +kernel
theorem dX4_init_34 : decode cX4_init 34 = .ok (.putfield 22, 3) := by decide +kernel
theorem dX4_init_37 : decode cX4_init 37 = .ok (.aload_n 0, 1) := by decide +kernel
theorem dX4_init_38 : decode cX4_init 38 = .ok (.iconst 2, 1) := by decide +kernel
theorem dX4_init_39 : decode cX4_init 39 = .ok (.anewarray 7, 3) := by decide +kernel
theorem dX4_init_42 : decode cX4_init 42 = .ok (.putfield 26, 3) := by decide +kernel
theorem dX4_init_45 : decode cX4_init 45 = .ok (.iconst 0, 1) := by decide +kernel
theorem dX4_init_46 : decode cX4_init 46 = .ok (.istore_n 1, 1) := by decide +kernel
theorem dX4_init_47 : decode cX4_init 47 = .ok (.iload_n 1, 1) := by decide +kernel
theorem dX4_init_48 : decode cX4_init 48 = .ok (.iconst 2, 1) := by decide +kernel
theorem dX4_init_49 : decode cX4_init 49 = .ok (.if_icmp .ge 22, 3) := by decide +kernel
theorem dX4_init_52 : decode cX4_init 52 = .ok (.aload_n 0, 1) := by decide +kernel
theorem dX4_init_53 : decode cX4_init 53 = .ok (.getfield 26, 3) := by decide +kernel
theorem dX4_init_56 : decode cX4_init 56 = .ok (.iload_n 1, 1) := by decide +kernel
theorem dX4_init_57 : decode cX4_init 57 = .ok (.new 7, 3) := by decide +kernel
theorem dX4_init_60 : decode cX4_init 60 = .ok (.dup, 1) := by decide +kernel
theorem dX4_init_61 : decode cX4_init 61 = .ok (.invokespecial 9, 3) := by decide +kernel
theorem dX4_init_64 : decode cX4_init 64 = .ok (.aastore, 1) := by decide +kernel
theorem dX4_init_65 : decode cX4_init 65 = .ok (.iinc 1 1, 3) := by decide +kernel
theorem dX4_init_68 : decode cX4_init 68 = .ok (.goto (-21), 3) := by decide +kernel
theorem dX4_init_71 : decode cX4_init 71 = .ok (.aload_n 0, 1) := by decide +kernel
theorem dX4_init_72 : decode cX4_init 72 = .ok (.iconst 2, 1) := by decide +kernel
theorem dX4_init_73 : decode cX4_init 73 = .ok (.newarray .boolean, 2) := by decide +kernel
theorem dX4_init_75 : decode cX4_init 75 = .ok (.putfield 30, 3) := by decide +kernel
theorem dX4_init_78 : decode cX4_init 78 = .ok (.aload_n 0, 1) := by decide +kernel
theorem dX4_init_79 : decode cX4_init 79 = .ok (.new 34, 3) := by decide +kernel
theorem dX4_init_82 : decode cX4_init 82 = .ok (.dup, 1) := by decide +kernel
theorem dX4_init_83 : decode cX4_init 83 = .ok (.invokespecial 36, 3) := by decide +kernel
theorem dX4_init_86 : decode cX4_init 86 = .ok (.putfield 37, 3) := by decide +kernel
theorem dX4_init_89 : decode cX4_init 89 = .ok (.return_, 1) := by decide +kernel
theorem dX4_set_0 : decode cX4_set 0 = .ok (.aload_n 0, 1) := by decide +kernel
theorem dX4_set_1 : decode cX4_set 1 = .ok (.getfield 22, 3) := by decide +kernel
theorem dX4_set_4 : decode cX4_set 4 = .ok (.aload_n 0, 1) := by decide +kernel
theorem dX4_set_5 : decode cX4_set 5 = .ok (.getfield 10, 3) := by decide +kernel
theorem dX4_set_8 : decode cX4_set 8 = .ok (.invokevirtual 41, 3) := by decide +kernel
theorem dX4_set_11 : decode cX4_set 11 = .ok (.aload_n 0, 1) := by decide +kernel
theorem dX4_set_12 : decode cX4_set 12 = .ok (.getfield 22, 3) := by decide +kernel
theorem dX4_set_15 : decode cX4_set 15 = .ok (.aload_n 0, 1) := by decide +kernel
theorem dX4_set_16 : decode cX4_set 16 = .ok (.getfield 10, 3) := by decide +kernel
theorem dX4_set_19 : decode cX4_set 19 = .ok (.iload_n 1, 1) := by decide +kernel
theorem dX4_set_20 : decode cX4_set 20 = .ok (.iload_n 2, 1) := by decide +kernel
theorem dX4_set_21 : decode cX4_set 21 = .ok (.invokevirtual 45, 3) := by decide +kernel
theorem dX4_set_24 : decode cX4_set 24 = .ok (.invokevirtual 49, 3) := by decide +kernel
theorem dX4_set_27 : decode cX4_set 27 = .ok (.ireturn, 1) := by decide +kernel
theorem dX4_wire_0 : decode cX4_wire 0 = .ok (.aload_n 0, 1) := by decide +kernel
theorem dX4_wire_1 : decode cX4_wire 1 = .ok (.getfield 22, 3) := by decide +kernel
theorem dX4_wire_4 : decode cX4_wire 4 = .ok (.aload_n 0, 1) := by decide +kernel
theorem dX4_wire_5 : decode cX4_wire 5 = .ok (.getfield 10, 3) := by decide +kernel
theorem dX4_wire_8 : decode cX4_wire 8 = .ok (.invokevirtual 41, 3) := by decide +kernel
theorem dX4_wire_11 : decode cX4_wire 11 = .ok (.aload_n 0, 1) := by decide +kernel
theorem dX4_wire_12 : decode cX4_wire 12 = .ok (.getfield 22, 3) := by decide +kernel
theorem dX4_wire_15 : decode cX4_wire 15 = .ok (.aload_n 0, 1) := by decide +kernel
theorem dX4_wire_16 : decode cX4_wire 16 = .ok (.getfield 10, 3) := by decide +kernel
theorem dX4_wire_19 : decode cX4_wire 19 = .ok (.iload_n 1, 1) := by decide +kernel
theorem dX4_wire_20 : decode cX4_wire 20 = .ok (.iload_n 2, 1) := by decide +kernel
theorem dX4_wire_21 : decode cX4_wire 21 = .ok (.iload_n 3, 1) := by decide +kernel
theorem dX4_wire_22 : decode cX4_wire 22 = .ok (.iload 4, 2) := by decide +kernel
theorem dX4_wire_24 : decode cX4_wire 24 = .ok (.iload 5, 2) := by decide +kernel
theorem dX4_wire_26 : decode cX4_wire 26 = .ok (.invokevirtual 53, 3) := by decide +kernel
theorem dX4_wire_29 : decode cX4_wire 29 = .ok (.invokevirtual 49, 3) := by decide +kernel
theorem dX4_wire_32 : decode cX4_wire 32 = .ok (.ireturn, 1) := by decide +kernel
theorem dX4_load_0 : decode cX4_load 0 = .ok (.aload_n 0, 1) := by decide +kernel
theorem dX4_load_1 : decode cX4_load 1 = .ok (.getfield 22, 3) := by decide +kernel
theorem dX4_load_4 : decode cX4_load 4 = .ok (.aload_n 0, 1) := by decide +kernel
theorem dX4_load_5 : decode cX4_load 5 = .ok (.getfield 10, 3) := by decide +kernel
theorem dX4_load_8 : decode cX4_load 8 = .ok (.invokevirtual 41, 3) := by decide +kernel
theorem dX4_load_11 : decode cX4_load 11 = .ok (.aload_n 0, 1) := by decide +kernel
theorem dX4_load_12 : decode cX4_load 12 = .ok (.getfield 22, 3) := by decide +kernel
theorem dX4_load_15 : decode cX4_load 15 = .ok (.aload_n 0, 1) := by decide +kernel
theorem dX4_load_16 : decode cX4_load 16 = .ok (.getfield 10, 3) := by decide +kernel
theorem dX4_load_19 : decode cX4_load 19 = .ok (.iload_n 1, 1) := by decide +kernel
theorem dX4_load_20 : decode cX4_load 20 = .ok (.iload_n 2, 1) := by decide +kernel
theorem dX4_load_21 : decode cX4_load 21 = .ok (.invokevirtual 57, 3) := by decide +kernel
theorem dX4_load_24 : decode cX4_load 24 = .ok (.invokevirtual 49, 3) := by decide +kernel
theorem dX4_load_27 : decode cX4_load 27 = .ok (.ireturn, 1) := by decide +kernel
theorem dX4_days_0 : decode cX4_days 0 = .ok (.aload_n 0, 1) := by decide +kernel
theorem dX4_days_1 : decode cX4_days 1 = .ok (.getfield 22, 3) := by decide +kernel
theorem dX4_days_4 : decode cX4_days 4 = .ok (.aload_n 0, 1) := by decide +kernel
theorem dX4_days_5 : decode cX4_days 5 = .ok (.getfield 10, 3) := by decide +kernel
theorem dX4_days_8 : decode cX4_days 8 = .ok (.invokevirtual 41, 3) := by decide +kernel
theorem dX4_days_11 : decode cX4_days 11 = .ok (.aload_n 0, 1) := by decide +kernel
theorem dX4_days_12 : decode cX4_days 12 = .ok (.getfield 22, 3) := by decide +kernel
theorem dX4_days_15 : decode cX4_days 15 = .ok (.aload_n 0, 1) := by decide +kernel
theorem dX4_days_16 : decode cX4_days 16 = .ok (.getfield 10, 3) := by decide +kernel
theorem dX4_days_19 : decode cX4_days 19 = .ok (.iload_n 1, 1) := by decide +kernel
theorem dX4_days_20 : decode cX4_days 20 = .ok (.invokevirtual 60, 3) := by decide +kernel
theorem dX4_days_23 : decode cX4_days 23 = .ok (.invokevirtual 49, 3) := by decide +kernel
theorem dX4_days_26 : decode cX4_days 26 = .ok (.ireturn, 1) := by decide +kernel
theorem dX4_walk_0 : decode cX4_walk 0 = .ok (.aload_n 0, 1) := by decide +kernel
theorem dX4_walk_1 : decode cX4_walk 1 = .ok (.getfield 22, 3) := by decide +kernel
theorem dX4_walk_4 : decode cX4_walk 4 = .ok (.aload_n 0, 1) := by decide +kernel
theorem dX4_walk_5 : decode cX4_walk 5 = .ok (.getfield 10, 3) := by decide +kernel
theorem dX4_walk_8 : decode cX4_walk 8 = .ok (.invokevirtual 41, 3) := by decide +kernel
theorem dX4_walk_11 : decode cX4_walk 11 = .ok (.aload_n 0, 1) := by decide +kernel
theorem dX4_walk_12 : decode cX4_walk 12 = .ok (.getfield 22, 3) := by decide +kernel
theorem dX4_walk_15 : decode cX4_walk 15 = .ok (.aload_n 0, 1) := by decide +kernel
theorem dX4_walk_16 : decode cX4_walk 16 = .ok (.getfield 10, 3) := by decide +kernel
theorem dX4_walk_19 : decode cX4_walk 19 = .ok (.iload_n 1, 1) := by decide +kernel
theorem dX4_walk_20 : decode cX4_walk 20 = .ok (.invokevirtual 63, 3) := by decide +kernel
theorem dX4_walk_23 : decode cX4_walk 23 = .ok (.invokevirtual 49, 3) := by decide +kernel
theorem dX4_walk_26 : decode cX4_walk 26 = .ok (.ireturn, 1) := by decide +kernel
theorem dX4_hear_0 : decode cX4_hear 0 = .ok (.aload_n 0, 1) := by decide +kernel
theorem dX4_hear_1 : decode cX4_hear 1 = .ok (.getfield 22, 3) := by decide +kernel
theorem dX4_hear_4 : decode cX4_hear 4 = .ok (.aload_n 0, 1) := by decide +kernel
theorem dX4_hear_5 : decode cX4_hear 5 = .ok (.getfield 10, 3) := by decide +kernel
theorem dX4_hear_8 : decode cX4_hear 8 = .ok (.invokevirtual 41, 3) := by decide +kernel
theorem dX4_hear_11 : decode cX4_hear 11 = .ok (.aload_n 0, 1) := by decide +kernel
theorem dX4_hear_12 : decode cX4_hear 12 = .ok (.getfield 22, 3) := by decide +kernel
theorem dX4_hear_15 : decode cX4_hear 15 = .ok (.aload_n 0, 1) := by decide +kernel
theorem dX4_hear_16 : decode cX4_hear 16 = .ok (.getfield 10, 3) := by decide +kernel
theorem dX4_hear_19 : decode cX4_hear 19 = .ok (.invokevirtual 66, 3) := by decide +kernel
theorem dX4_hear_22 : decode cX4_hear 22 = .ok (.invokevirtual 49, 3) := by decide +kernel
theorem dX4_hear_25 : decode cX4_hear 25 = .ok (.ireturn, 1) := by decide +kernel
theorem dX4_tighten_0 : decode cX4_tighten 0 = .ok (.aload_n 0, 1) := by decide +kernel
theorem dX4_tighten_1 : decode cX4_tighten 1 = .ok (.getfield 22, 3) := by decide +kernel
theorem dX4_tighten_4 : decode cX4_tighten 4 = .ok (.aload_n 0, 1) := by decide +kernel
theorem dX4_tighten_5 : decode cX4_tighten 5 = .ok (.getfield 10, 3) := by decide +kernel
theorem dX4_tighten_8 : decode cX4_tighten 8 = .ok (.invokevirtual 41, 3) := by decide +kernel
theorem dX4_tighten_11 : decode cX4_tighten 11 = .ok (.aload_n 0, 1) := by decide +kernel
theorem dX4_tighten_12 : decode cX4_tighten 12 = .ok (.getfield 22, 3) := by decide +kernel
theorem dX4_tighten_15 : decode cX4_tighten 15 = .ok (.aload_n 0, 1) := by decide +kernel
theorem dX4_tighten_16 : decode cX4_tighten 16 = .ok (.getfield 10, 3) := by decide +kernel
theorem dX4_tighten_19 : decode cX4_tighten 19 = .ok (.iload_n 1, 1) := by decide +kernel
theorem dX4_tighten_20 : decode cX4_tighten 20 = .ok (.invokevirtual 70, 3) := by decide +kernel
theorem dX4_tighten_23 : decode cX4_tighten 23 = .ok (.invokevirtual 49, 3) := by decide +kernel
theorem dX4_tighten_26 : decode cX4_tighten 26 = .ok (.ireturn, 1) := by decide +kernel
theorem dX4_ofWire_0 : decode cX4_ofWire 0 = .ok (.aload_n 0, 1) := by decide +kernel
theorem dX4_ofWire_1 : decode cX4_ofWire 1 = .ok (.getfield 10, 3) := by decide +kernel
theorem dX4_ofWire_4 : decode cX4_ofWire 4 = .ok (.iload_n 1, 1) := by decide +kernel
theorem dX4_ofWire_5 : decode cX4_ofWire 5 = .ok (.invokevirtual 73, 3) := by decide +kernel
theorem dX4_ofWire_8 : decode cX4_ofWire 8 = .ok (.astore_n 3, 1) := by decide +kernel
theorem dX4_ofWire_9 : decode cX4_ofWire 9 = .ok (.aload_n 3, 1) := by decide +kernel
theorem dX4_ofWire_10 : decode cX4_ofWire 10 = .ok (.ifnonnull 5, 3) := by decide +kernel
theorem dX4_ofWire_13 : decode cX4_ofWire 13 = .ok (.iconst (-1), 1) := by decide +kernel
theorem dX4_ofWire_14 : decode cX4_ofWire 14 = .ok (.ireturn, 1) := by decide +kernel
theorem dX4_ofWire_15 : decode cX4_ofWire 15 = .ok (.iload_n 2, 1) := by decide +kernel
theorem dX4_ofWire_16 : decode cX4_ofWire 16 = .ok (.tableswitch 135 0 10 #[60, 65, 70, 75, 80, 85, 93, 102, 107, 115, 130], 60) := by decide +kernel
theorem dX4_ofWire_76 : decode cX4_ofWire 76 = .ok (.aload_n 3, 1) := by decide +kernel
theorem dX4_ofWire_77 : decode cX4_ofWire 77 = .ok (.getfield 77, 3) := by decide +kernel
theorem dX4_ofWire_80 : decode cX4_ofWire 80 = .ok (.ireturn, 1) := by decide +kernel
theorem dX4_ofWire_81 : decode cX4_ofWire 81 = .ok (.aload_n 3, 1) := by decide +kernel
theorem dX4_ofWire_82 : decode cX4_ofWire 82 = .ok (.getfield 83, 3) := by decide +kernel
theorem dX4_ofWire_85 : decode cX4_ofWire 85 = .ok (.ireturn, 1) := by decide +kernel
theorem dX4_ofWire_86 : decode cX4_ofWire 86 = .ok (.aload_n 3, 1) := by decide +kernel
theorem dX4_ofWire_87 : decode cX4_ofWire 87 = .ok (.getfield 86, 3) := by decide +kernel
theorem dX4_ofWire_90 : decode cX4_ofWire 90 = .ok (.ireturn, 1) := by decide +kernel
theorem dX4_ofWire_91 : decode cX4_ofWire 91 = .ok (.aload_n 3, 1) := by decide +kernel
theorem dX4_ofWire_92 : decode cX4_ofWire 92 = .ok (.getfield 89, 3) := by decide +kernel
theorem dX4_ofWire_95 : decode cX4_ofWire 95 = .ok (.ireturn, 1) := by decide +kernel
theorem dX4_ofWire_96 : decode cX4_ofWire 96 = .ok (.aload_n 3, 1) := by decide +kernel
theorem dX4_ofWire_97 : decode cX4_ofWire 97 = .ok (.getfield 92, 3) := by decide +kernel
theorem dX4_ofWire_100 : decode cX4_ofWire 100 = .ok (.ireturn, 1) := by decide +kernel
theorem dX4_ofWire_101 : decode cX4_ofWire 101 = .ok (.aload_n 3, 1) := by decide +kernel
theorem dX4_ofWire_102 : decode cX4_ofWire 102 = .ok (.getfield 95, 3) := by decide +kernel
theorem dX4_ofWire_105 : decode cX4_ofWire 105 = .ok (.invokestatic 99, 3) := by decide +kernel
theorem dX4_ofWire_108 : decode cX4_ofWire 108 = .ok (.ireturn, 1) := by decide +kernel
theorem dX4_ofWire_109 : decode cX4_ofWire 109 = .ok (.aload_n 3, 1) := by decide +kernel
theorem dX4_ofWire_110 : decode cX4_ofWire 110 = .ok (.aload_n 3, 1) := by decide +kernel
theorem dX4_ofWire_111 : decode cX4_ofWire 111 = .ok (.getfield 92, 3) := by decide +kernel
theorem dX4_ofWire_114 : decode cX4_ofWire 114 = .ok (.invokevirtual 103, 3) := by decide +kernel
theorem dX4_ofWire_117 : decode cX4_ofWire 117 = .ok (.ireturn, 1) := by decide +kernel
theorem dX4_ofWire_118 : decode cX4_ofWire 118 = .ok (.aload_n 3, 1) := by decide +kernel
theorem dX4_ofWire_119 : decode cX4_ofWire 119 = .ok (.getfield 106, 3) := by decide +kernel
theorem dX4_ofWire_122 : decode cX4_ofWire 122 = .ok (.ireturn, 1) := by decide +kernel
theorem dX4_ofWire_123 : decode cX4_ofWire 123 = .ok (.aload_n 3, 1) := by decide +kernel
theorem dX4_ofWire_124 : decode cX4_ofWire 124 = .ok (.invokevirtual 109, 3) := by decide +kernel
theorem dX4_ofWire_127 : decode cX4_ofWire 127 = .ok (.invokestatic 99, 3) := by decide +kernel
theorem dX4_ofWire_130 : decode cX4_ofWire 130 = .ok (.ireturn, 1) := by decide +kernel
theorem dX4_ofWire_131 : decode cX4_ofWire 131 = .ok (.aload_n 3, 1) := by decide +kernel
theorem dX4_ofWire_132 : decode cX4_ofWire 132 = .ok (.aload_n 0, 1) := by decide +kernel
theorem dX4_ofWire_133 : decode cX4_ofWire 133 = .ok (.getfield 10, 3) := by decide +kernel
theorem dX4_ofWire_136 : decode cX4_ofWire 136 = .ok (.getfield 113, 3) := by decide +kernel
theorem dX4_ofWire_139 : decode cX4_ofWire 139 = .ok (.invokevirtual 116, 3) := by decide +kernel
theorem dX4_ofWire_142 : decode cX4_ofWire 142 = .ok (.invokestatic 99, 3) := by decide +kernel
theorem dX4_ofWire_145 : decode cX4_ofWire 145 = .ok (.ireturn, 1) := by decide +kernel
theorem dX4_ofWire_146 : decode cX4_ofWire 146 = .ok (.aload_n 3, 1) := by decide +kernel
theorem dX4_ofWire_147 : decode cX4_ofWire 147 = .ok (.getfield 120, 3) := by decide +kernel
theorem dX4_ofWire_150 : decode cX4_ofWire 150 = .ok (.ireturn, 1) := by decide +kernel
theorem dX4_ofWire_151 : decode cX4_ofWire 151 = .ok (.bipush (-2), 2) := by decide +kernel
theorem dX4_ofWire_153 : decode cX4_ofWire 153 = .ok (.ireturn, 1) := by decide +kernel
theorem dX4_known_0 : decode cX4_known 0 = .ok (.aload_n 0, 1) := by decide +kernel
theorem dX4_known_1 : decode cX4_known 1 = .ok (.getfield 16, 3) := by decide +kernel
theorem dX4_known_4 : decode cX4_known 4 = .ok (.aload_n 0, 1) := by decide +kernel
theorem dX4_known_5 : decode cX4_known 5 = .ok (.getfield 10, 3) := by decide +kernel
theorem dX4_known_8 : decode cX4_known 8 = .ok (.invokevirtual 123, 3) := by decide +kernel
theorem dX4_known_11 : decode cX4_known 11 = .ok (.aload_n 0, 1) := by decide +kernel
theorem dX4_known_12 : decode cX4_known 12 = .ok (.getfield 16, 3) := by decide +kernel
theorem dX4_known_15 : decode cX4_known 15 = .ok (.iload_n 1, 1) := by decide +kernel
theorem dX4_known_16 : decode cX4_known 16 = .ok (.invokevirtual 73, 3) := by decide +kernel
theorem dX4_known_19 : decode cX4_known 19 = .ok (.astore_n 3, 1) := by decide +kernel
theorem dX4_known_20 : decode cX4_known 20 = .ok (.aload_n 3, 1) := by decide +kernel
theorem dX4_known_21 : decode cX4_known 21 = .ok (.ifnonnull 5, 3) := by decide +kernel
theorem dX4_known_24 : decode cX4_known 24 = .ok (.iconst (-1), 1) := by decide +kernel
theorem dX4_known_25 : decode cX4_known 25 = .ok (.ireturn, 1) := by decide +kernel
theorem dX4_known_26 : decode cX4_known 26 = .ok (.iload_n 2, 1) := by decide +kernel
theorem dX4_known_27 : decode cX4_known 27 = .ok (.tableswitch 109 0 6 #[41, 46, 63, 80, 88, 93, 101], 41) := by decide +kernel
theorem dX4_known_68 : decode cX4_known 68 = .ok (.aload_n 3, 1) := by decide +kernel
theorem dX4_known_69 : decode cX4_known 69 = .ok (.getfield 126, 3) := by decide +kernel
theorem dX4_known_72 : decode cX4_known 72 = .ok (.ireturn, 1) := by decide +kernel
theorem dX4_known_73 : decode cX4_known 73 = .ok (.aload_n 3, 1) := by decide +kernel
theorem dX4_known_74 : decode cX4_known 74 = .ok (.invokevirtual 129, 3) := by decide +kernel
theorem dX4_known_77 : decode cX4_known 77 = .ok (.ifCond .eq 10, 3) := by decide +kernel
theorem dX4_known_80 : decode cX4_known 80 = .ok (.aload_n 3, 1) := by decide +kernel
theorem dX4_known_81 : decode cX4_known 81 = .ok (.getfield 132, 3) := by decide +kernel
theorem dX4_known_84 : decode cX4_known 84 = .ok (.goto 5, 3) := by decide +kernel
theorem dX4_known_87 : decode cX4_known 87 = .ok (.bipush (-6), 2) := by decide +kernel
theorem dX4_known_89 : decode cX4_known 89 = .ok (.ireturn, 1) := by decide +kernel
theorem dX4_known_90 : decode cX4_known 90 = .ok (.aload_n 3, 1) := by decide +kernel
theorem dX4_known_91 : decode cX4_known 91 = .ok (.invokevirtual 129, 3) := by decide +kernel
theorem dX4_known_94 : decode cX4_known 94 = .ok (.ifCond .eq 10, 3) := by decide +kernel
theorem dX4_known_97 : decode cX4_known 97 = .ok (.aload_n 3, 1) := by decide +kernel
theorem dX4_known_98 : decode cX4_known 98 = .ok (.getfield 135, 3) := by decide +kernel
theorem dX4_known_101 : decode cX4_known 101 = .ok (.goto 5, 3) := by decide +kernel
theorem dX4_known_104 : decode cX4_known 104 = .ok (.bipush (-6), 2) := by decide +kernel
theorem dX4_known_106 : decode cX4_known 106 = .ok (.ireturn, 1) := by decide +kernel
theorem dX4_known_107 : decode cX4_known 107 = .ok (.aload_n 3, 1) := by decide +kernel
theorem dX4_known_108 : decode cX4_known 108 = .ok (.getfield 138, 3) := by decide +kernel
theorem dX4_known_111 : decode cX4_known 111 = .ok (.invokestatic 99, 3) := by decide +kernel
theorem dX4_known_114 : decode cX4_known 114 = .ok (.ireturn, 1) := by decide +kernel
theorem dX4_known_115 : decode cX4_known 115 = .ok (.aload_n 3, 1) := by decide +kernel
theorem dX4_known_116 : decode cX4_known 116 = .ok (.getfield 106, 3) := by decide +kernel
theorem dX4_known_119 : decode cX4_known 119 = .ok (.ireturn, 1) := by decide +kernel
theorem dX4_known_120 : decode cX4_known 120 = .ok (.aload_n 3, 1) := by decide +kernel
theorem dX4_known_121 : decode cX4_known 121 = .ok (.invokevirtual 141, 3) := by decide +kernel
theorem dX4_known_124 : decode cX4_known 124 = .ok (.invokestatic 99, 3) := by decide +kernel
theorem dX4_known_127 : decode cX4_known 127 = .ok (.ireturn, 1) := by decide +kernel
theorem dX4_known_128 : decode cX4_known 128 = .ok (.aload_n 3, 1) := by decide +kernel
theorem dX4_known_129 : decode cX4_known 129 = .ok (.invokevirtual 144, 3) := by decide +kernel
theorem dX4_known_132 : decode cX4_known 132 = .ok (.invokestatic 99, 3) := by decide +kernel
theorem dX4_known_135 : decode cX4_known 135 = .ok (.ireturn, 1) := by decide +kernel
theorem dX4_known_136 : decode cX4_known 136 = .ok (.bipush (-2), 2) := by decide +kernel
theorem dX4_known_138 : decode cX4_known 138 = .ok (.ireturn, 1) := by decide +kernel
theorem dX4_count_0 : decode cX4_count 0 = .ok (.iload_n 1, 1) := by decide +kernel
theorem dX4_count_1 : decode cX4_count 1 = .ok (.tableswitch 193 0 12 #[67, 75, 83, 99, 107, 115, 123, 145, 153, 161, 169, 177, 185], 67) := by decide +kernel
theorem dX4_count_68 : decode cX4_count 68 = .ok (.aload_n 0, 1) := by decide +kernel
theorem dX4_count_69 : decode cX4_count 69 = .ok (.getfield 10, 3) := by decide +kernel
theorem dX4_count_72 : decode cX4_count 72 = .ok (.getfield 147, 3) := by decide +kernel
theorem dX4_count_75 : decode cX4_count 75 = .ok (.ireturn, 1) := by decide +kernel
theorem dX4_count_76 : decode cX4_count 76 = .ok (.aload_n 0, 1) := by decide +kernel
theorem dX4_count_77 : decode cX4_count 77 = .ok (.getfield 10, 3) := by decide +kernel
theorem dX4_count_80 : decode cX4_count 80 = .ok (.getfield 150, 3) := by decide +kernel
theorem dX4_count_83 : decode cX4_count 83 = .ok (.ireturn, 1) := by decide +kernel
theorem dX4_count_84 : decode cX4_count 84 = .ok (.aload_n 0, 1) := by decide +kernel
theorem dX4_count_85 : decode cX4_count 85 = .ok (.getfield 10, 3) := by decide +kernel
theorem dX4_count_88 : decode cX4_count 88 = .ok (.getfield 150, 3) := by decide +kernel
theorem dX4_count_91 : decode cX4_count 91 = .ok (.aload_n 0, 1) := by decide +kernel
theorem dX4_count_92 : decode cX4_count 92 = .ok (.getfield 10, 3) := by decide +kernel
theorem dX4_count_95 : decode cX4_count 95 = .ok (.invokevirtual 153, 3) := by decide +kernel
theorem dX4_count_98 : decode cX4_count 98 = .ok (.isub, 1) := by decide +kernel
theorem dX4_count_99 : decode cX4_count 99 = .ok (.ireturn, 1) := by decide +kernel
theorem dX4_count_100 : decode cX4_count 100 = .ok (.aload_n 0, 1) := by decide +kernel
theorem dX4_count_101 : decode cX4_count 101 = .ok (.getfield 10, 3) := by decide +kernel
theorem dX4_count_104 : decode cX4_count 104 = .ok (.getfield 156, 3) := by decide +kernel
theorem dX4_count_107 : decode cX4_count 107 = .ok (.ireturn, 1) := by decide +kernel
theorem dX4_count_108 : decode cX4_count 108 = .ok (.aload_n 0, 1) := by decide +kernel
theorem dX4_count_109 : decode cX4_count 109 = .ok (.getfield 10, 3) := by decide +kernel
theorem dX4_count_112 : decode cX4_count 112 = .ok (.getfield 157, 3) := by decide +kernel
theorem dX4_count_115 : decode cX4_count 115 = .ok (.ireturn, 1) := by decide +kernel
theorem dX4_count_116 : decode cX4_count 116 = .ok (.aload_n 0, 1) := by decide +kernel
theorem dX4_count_117 : decode cX4_count 117 = .ok (.getfield 10, 3) := by decide +kernel
theorem dX4_count_120 : decode cX4_count 120 = .ok (.invokevirtual 160, 3) := by decide +kernel
theorem dX4_count_123 : decode cX4_count 123 = .ok (.ireturn, 1) := by decide +kernel
theorem dX4_count_124 : decode cX4_count 124 = .ok (.aload_n 0, 1) := by decide +kernel
theorem dX4_count_125 : decode cX4_count 125 = .ok (.getfield 10, 3) := by decide +kernel
theorem dX4_count_128 : decode cX4_count 128 = .ok (.invokevirtual 153, 3) := by decide +kernel
theorem dX4_count_131 : decode cX4_count 131 = .ok (.ifCond .ne 13, 3) := by decide +kernel
theorem dX4_count_134 : decode cX4_count 134 = .ok (.aload_n 0, 1) := by decide +kernel
theorem dX4_count_135 : decode cX4_count 135 = .ok (.getfield 10, 3) := by decide +kernel
theorem dX4_count_138 : decode cX4_count 138 = .ok (.invokevirtual 160, 3) := by decide +kernel
theorem dX4_count_141 : decode cX4_count 141 = .ok (.goto 4, 3) := by decide +kernel
theorem dX4_count_144 : decode cX4_count 144 = .ok (.iconst 0, 1) := by decide +kernel
theorem dX4_count_145 : decode cX4_count 145 = .ok (.ireturn, 1) := by decide +kernel
theorem dX4_count_146 : decode cX4_count 146 = .ok (.aload_n 0, 1) := by decide +kernel
theorem dX4_count_147 : decode cX4_count 147 = .ok (.getfield 10, 3) := by decide +kernel
theorem dX4_count_150 : decode cX4_count 150 = .ok (.invokevirtual 163, 3) := by decide +kernel
theorem dX4_count_153 : decode cX4_count 153 = .ok (.ireturn, 1) := by decide +kernel
theorem dX4_count_154 : decode cX4_count 154 = .ok (.aload_n 0, 1) := by decide +kernel
theorem dX4_count_155 : decode cX4_count 155 = .ok (.getfield 10, 3) := by decide +kernel
theorem dX4_count_158 : decode cX4_count 158 = .ok (.invokevirtual 166, 3) := by decide +kernel
theorem dX4_count_161 : decode cX4_count 161 = .ok (.ireturn, 1) := by decide +kernel
theorem dX4_count_162 : decode cX4_count 162 = .ok (.aload_n 0, 1) := by decide +kernel
theorem dX4_count_163 : decode cX4_count 163 = .ok (.getfield 37, 3) := by decide +kernel
theorem dX4_count_166 : decode cX4_count 166 = .ok (.getfield 169, 3) := by decide +kernel
theorem dX4_count_169 : decode cX4_count 169 = .ok (.ireturn, 1) := by decide +kernel
theorem dX4_count_170 : decode cX4_count 170 = .ok (.aload_n 0, 1) := by decide +kernel
theorem dX4_count_171 : decode cX4_count 171 = .ok (.getfield 22, 3) := by decide +kernel
theorem dX4_count_174 : decode cX4_count 174 = .ok (.getfield 170, 3) := by decide +kernel
theorem dX4_count_177 : decode cX4_count 177 = .ok (.ireturn, 1) := by decide +kernel
theorem dX4_count_178 : decode cX4_count 178 = .ok (.aload_n 0, 1) := by decide +kernel
theorem dX4_count_179 : decode cX4_count 179 = .ok (.getfield 10, 3) := by decide +kernel
theorem dX4_count_182 : decode cX4_count 182 = .ok (.getfield 173, 3) := by decide +kernel
theorem dX4_count_185 : decode cX4_count 185 = .ok (.ireturn, 1) := by decide +kernel
theorem dX4_count_186 : decode cX4_count 186 = .ok (.aload_n 0, 1) := by decide +kernel
theorem dX4_count_187 : decode cX4_count 187 = .ok (.getfield 10, 3) := by decide +kernel
theorem dX4_count_190 : decode cX4_count 190 = .ok (.getfield 113, 3) := by decide +kernel
theorem dX4_count_193 : decode cX4_count 193 = .ok (.ireturn, 1) := by decide +kernel
theorem dX4_count_194 : decode cX4_count 194 = .ok (.bipush (-2), 2) := by decide +kernel
theorem dX4_count_196 : decode cX4_count 196 = .ok (.ireturn, 1) := by decide +kernel
theorem dX4_pitchAt_0 : decode cX4_pitchAt 0 = .ok (.aload_n 0, 1) := by decide +kernel
theorem dX4_pitchAt_1 : decode cX4_pitchAt 1 = .ok (.getfield 10, 3) := by decide +kernel
theorem dX4_pitchAt_4 : decode cX4_pitchAt 4 = .ok (.iload_n 1, 1) := by decide +kernel
theorem dX4_pitchAt_5 : decode cX4_pitchAt 5 = .ok (.invokevirtual 73, 3) := by decide +kernel
theorem dX4_pitchAt_8 : decode cX4_pitchAt 8 = .ok (.astore_n 3, 1) := by decide +kernel
theorem dX4_pitchAt_9 : decode cX4_pitchAt 9 = .ok (.aload_n 3, 1) := by decide +kernel
theorem dX4_pitchAt_10 : decode cX4_pitchAt 10 = .ok (.ifnonnull 5, 3) := by decide +kernel
theorem dX4_pitchAt_13 : decode cX4_pitchAt 13 = .ok (.iconst (-1), 1) := by decide +kernel
theorem dX4_pitchAt_14 : decode cX4_pitchAt 14 = .ok (.ireturn, 1) := by decide +kernel
theorem dX4_pitchAt_15 : decode cX4_pitchAt 15 = .ok (.iload_n 2, 1) := by decide +kernel
theorem dX4_pitchAt_16 : decode cX4_pitchAt 16 = .ok (.iconst 0, 1) := by decide +kernel
theorem dX4_pitchAt_17 : decode cX4_pitchAt 17 = .ok (.ldc 176, 2) := by decide +kernel
theorem dX4_pitchAt_19 : decode cX4_pitchAt 19 = .ok (.invokestatic 177, 3) := by decide +kernel
theorem dX4_pitchAt_22 : decode cX4_pitchAt 22 = .ok (.ifCond .ne 6, 3) := by decide +kernel
theorem dX4_pitchAt_25 : decode cX4_pitchAt 25 = .ok (.bipush (-2), 2) := by decide +kernel
theorem dX4_pitchAt_27 : decode cX4_pitchAt 27 = .ok (.ireturn, 1) := by decide +kernel
theorem dX4_pitchAt_28 : decode cX4_pitchAt 28 = .ok (.aload_n 3, 1) := by decide +kernel
theorem dX4_pitchAt_29 : decode cX4_pitchAt 29 = .ok (.iload_n 2, 1) := by decide +kernel
theorem dX4_pitchAt_30 : decode cX4_pitchAt 30 = .ok (.invokevirtual 103, 3) := by decide +kernel
theorem dX4_pitchAt_33 : decode cX4_pitchAt 33 = .ok (.ireturn, 1) := by decide +kernel
theorem dX4_tensionFor_0 : decode cX4_tensionFor 0 = .ok (.aload_n 0, 1) := by decide +kernel
theorem dX4_tensionFor_1 : decode cX4_tensionFor 1 = .ok (.getfield 10, 3) := by decide +kernel
theorem dX4_tensionFor_4 : decode cX4_tensionFor 4 = .ok (.iload_n 1, 1) := by decide +kernel
theorem dX4_tensionFor_5 : decode cX4_tensionFor 5 = .ok (.invokevirtual 73, 3) := by decide +kernel
theorem dX4_tensionFor_8 : decode cX4_tensionFor 8 = .ok (.astore_n 3, 1) := by decide +kernel
theorem dX4_tensionFor_9 : decode cX4_tensionFor 9 = .ok (.aload_n 3, 1) := by decide +kernel
theorem dX4_tensionFor_10 : decode cX4_tensionFor 10 = .ok (.ifnonnull 5, 3) := by decide +kernel
theorem dX4_tensionFor_13 : decode cX4_tensionFor 13 = .ok (.iconst (-1), 1) := by decide +kernel
theorem dX4_tensionFor_14 : decode cX4_tensionFor 14 = .ok (.ireturn, 1) := by decide +kernel
theorem dX4_tensionFor_15 : decode cX4_tensionFor 15 = .ok (.iload_n 2, 1) := by decide +kernel
theorem dX4_tensionFor_16 : decode cX4_tensionFor 16 = .ok (.iconst 0, 1) := by decide +kernel
theorem dX4_tensionFor_17 : decode cX4_tensionFor 17 = .ok (.ldc 181, 2) := by decide +kernel
theorem dX4_tensionFor_19 : decode cX4_tensionFor 19 = .ok (.invokestatic 177, 3) := by decide +kernel
theorem dX4_tensionFor_22 : decode cX4_tensionFor 22 = .ok (.ifCond .ne 6, 3) := by decide +kernel
theorem dX4_tensionFor_25 : decode cX4_tensionFor 25 = .ok (.bipush (-2), 2) := by decide +kernel
theorem dX4_tensionFor_27 : decode cX4_tensionFor 27 = .ok (.ireturn, 1) := by decide +kernel
theorem dX4_tensionFor_28 : decode cX4_tensionFor 28 = .ok (.aload_n 3, 1) := by decide +kernel
theorem dX4_tensionFor_29 : decode cX4_tensionFor 29 = .ok (.iload_n 2, 1) := by decide +kernel
theorem dX4_tensionFor_30 : decode cX4_tensionFor 30 = .ok (.i2l, 1) := by decide +kernel
theorem dX4_tensionFor_31 : decode cX4_tensionFor 31 = .ok (.invokevirtual 182, 3) := by decide +kernel
theorem dX4_tensionFor_34 : decode cX4_tensionFor 34 = .ok (.lstore 4, 2) := by decide +kernel
theorem dX4_tensionFor_36 : decode cX4_tensionFor 36 = .ok (.lload 4, 2) := by decide +kernel
theorem dX4_tensionFor_38 : decode cX4_tensionFor 38 = .ok (.ldc2_w 186, 3) := by decide +kernel
theorem dX4_tensionFor_41 : decode cX4_tensionFor 41 = .ok (.lcmp, 1) := by decide +kernel
theorem dX4_tensionFor_42 : decode cX4_tensionFor 42 = .ok (.ifCond .le 8, 3) := by decide +kernel
theorem dX4_tensionFor_45 : decode cX4_tensionFor 45 = .ok (.bipush (-6), 2) := by decide +kernel
theorem dX4_tensionFor_47 : decode cX4_tensionFor 47 = .ok (.goto 6, 3) := by decide +kernel
theorem dX4_tensionFor_50 : decode cX4_tensionFor 50 = .ok (.lload 4, 2) := by decide +kernel
theorem dX4_tensionFor_52 : decode cX4_tensionFor 52 = .ok (.l2i, 1) := by decide +kernel
theorem dX4_tensionFor_53 : decode cX4_tensionFor 53 = .ok (.ireturn, 1) := by decide +kernel
theorem dX4_fallsWith_0 : decode cX4_fallsWith 0 = .ok (.aload_n 0, 1) := by decide +kernel
theorem dX4_fallsWith_1 : decode cX4_fallsWith 1 = .ok (.getfield 10, 3) := by decide +kernel
theorem dX4_fallsWith_4 : decode cX4_fallsWith 4 = .ok (.iload_n 1, 1) := by decide +kernel
theorem dX4_fallsWith_5 : decode cX4_fallsWith 5 = .ok (.invokevirtual 73, 3) := by decide +kernel
theorem dX4_fallsWith_8 : decode cX4_fallsWith 8 = .ok (.astore_n 2, 1) := by decide +kernel
theorem dX4_fallsWith_9 : decode cX4_fallsWith 9 = .ok (.aload_n 2, 1) := by decide +kernel
theorem dX4_fallsWith_10 : decode cX4_fallsWith 10 = .ok (.ifnonnull 5, 3) := by decide +kernel
theorem dX4_fallsWith_13 : decode cX4_fallsWith 13 = .ok (.iconst (-1), 1) := by decide +kernel
theorem dX4_fallsWith_14 : decode cX4_fallsWith 14 = .ok (.ireturn, 1) := by decide +kernel
theorem dX4_fallsWith_15 : decode cX4_fallsWith 15 = .ok (.aload_n 2, 1) := by decide +kernel
theorem dX4_fallsWith_16 : decode cX4_fallsWith 16 = .ok (.getfield 95, 3) := by decide +kernel
theorem dX4_fallsWith_19 : decode cX4_fallsWith 19 = .ok (.ifCond .eq 6, 3) := by decide +kernel
theorem dX4_fallsWith_22 : decode cX4_fallsWith 22 = .ok (.bipush (-5), 2) := by decide +kernel
theorem dX4_fallsWith_24 : decode cX4_fallsWith 24 = .ok (.ireturn, 1) := by decide +kernel
theorem dX4_fallsWith_25 : decode cX4_fallsWith 25 = .ok (.aload_n 0, 1) := by decide +kernel
theorem dX4_fallsWith_26 : decode cX4_fallsWith 26 = .ok (.iload_n 1, 1) := by decide +kernel
theorem dX4_fallsWith_27 : decode cX4_fallsWith 27 = .ok (.invokevirtual 188, 3) := by decide +kernel
theorem dX4_fallsWith_30 : decode cX4_fallsWith 30 = .ok (.ireturn, 1) := by decide +kernel
theorem dX4_mostAt_0 : decode cX4_mostAt 0 = .ok (.iload_n 1, 1) := by decide +kernel
theorem dX4_mostAt_1 : decode cX4_mostAt 1 = .ok (.iconst 0, 1) := by decide +kernel
theorem dX4_mostAt_2 : decode cX4_mostAt 2 = .ok (.bipush 19, 2) := by decide +kernel
theorem dX4_mostAt_4 : decode cX4_mostAt 4 = .ok (.invokestatic 177, 3) := by decide +kernel
theorem dX4_mostAt_7 : decode cX4_mostAt 7 = .ok (.ifCond .ne 5, 3) := by decide +kernel
theorem dX4_mostAt_10 : decode cX4_mostAt 10 = .ok (.iconst (-1), 1) := by decide +kernel
theorem dX4_mostAt_11 : decode cX4_mostAt 11 = .ok (.ireturn, 1) := by decide +kernel
theorem dX4_mostAt_12 : decode cX4_mostAt 12 = .ok (.aload_n 0, 1) := by decide +kernel
theorem dX4_mostAt_13 : decode cX4_mostAt 13 = .ok (.getfield 16, 3) := by decide +kernel
theorem dX4_mostAt_16 : decode cX4_mostAt 16 = .ok (.aload_n 0, 1) := by decide +kernel
theorem dX4_mostAt_17 : decode cX4_mostAt 17 = .ok (.getfield 10, 3) := by decide +kernel
theorem dX4_mostAt_20 : decode cX4_mostAt 20 = .ok (.invokevirtual 191, 3) := by decide +kernel
theorem dX4_mostAt_23 : decode cX4_mostAt 23 = .ok (.aload_n 0, 1) := by decide +kernel
theorem dX4_mostAt_24 : decode cX4_mostAt 24 = .ok (.getfield 16, 3) := by decide +kernel
theorem dX4_mostAt_27 : decode cX4_mostAt 27 = .ok (.iload_n 1, 1) := by decide +kernel
theorem dX4_mostAt_28 : decode cX4_mostAt 28 = .ok (.iconst 0, 1) := by decide +kernel
theorem dX4_mostAt_29 : decode cX4_mostAt 29 = .ok (.invokevirtual 194, 3) := by decide +kernel
theorem dX4_mostAt_32 : decode cX4_mostAt 32 = .ok (.ifCond .ne 6, 3) := by decide +kernel
theorem dX4_mostAt_35 : decode cX4_mostAt 35 = .ok (.bipush (-6), 2) := by decide +kernel
theorem dX4_mostAt_37 : decode cX4_mostAt 37 = .ok (.ireturn, 1) := by decide +kernel
theorem dX4_mostAt_38 : decode cX4_mostAt 38 = .ok (.iconst 0, 1) := by decide +kernel
theorem dX4_mostAt_39 : decode cX4_mostAt 39 = .ok (.istore_n 2, 1) := by decide +kernel
theorem dX4_mostAt_40 : decode cX4_mostAt 40 = .ok (.sipush 512, 3) := by decide +kernel
theorem dX4_mostAt_43 : decode cX4_mostAt 43 = .ok (.istore_n 3, 1) := by decide +kernel
theorem dX4_mostAt_44 : decode cX4_mostAt 44 = .ok (.iload_n 3, 1) := by decide +kernel
theorem dX4_mostAt_45 : decode cX4_mostAt 45 = .ok (.ifCond .le 37, 3) := by decide +kernel
theorem dX4_mostAt_48 : decode cX4_mostAt 48 = .ok (.iload_n 2, 1) := by decide +kernel
theorem dX4_mostAt_49 : decode cX4_mostAt 49 = .ok (.iload_n 3, 1) := by decide +kernel
theorem dX4_mostAt_50 : decode cX4_mostAt 50 = .ok (.iadd, 1) := by decide +kernel
theorem dX4_mostAt_51 : decode cX4_mostAt 51 = .ok (.sipush 1000, 3) := by decide +kernel
theorem dX4_mostAt_54 : decode cX4_mostAt 54 = .ok (.if_icmp .gt 21, 3) := by decide +kernel
theorem dX4_mostAt_57 : decode cX4_mostAt 57 = .ok (.aload_n 0, 1) := by decide +kernel
theorem dX4_mostAt_58 : decode cX4_mostAt 58 = .ok (.getfield 16, 3) := by decide +kernel
theorem dX4_mostAt_61 : decode cX4_mostAt 61 = .ok (.iload_n 1, 1) := by decide +kernel
theorem dX4_mostAt_62 : decode cX4_mostAt 62 = .ok (.iload_n 2, 1) := by decide +kernel
theorem dX4_mostAt_63 : decode cX4_mostAt 63 = .ok (.iload_n 3, 1) := by decide +kernel
theorem dX4_mostAt_64 : decode cX4_mostAt 64 = .ok (.iadd, 1) := by decide +kernel
theorem dX4_mostAt_65 : decode cX4_mostAt 65 = .ok (.invokevirtual 194, 3) := by decide +kernel
theorem dX4_mostAt_68 : decode cX4_mostAt 68 = .ok (.ifCond .eq 7, 3) := by decide +kernel
theorem dX4_mostAt_71 : decode cX4_mostAt 71 = .ok (.iload_n 2, 1) := by decide +kernel
theorem dX4_mostAt_72 : decode cX4_mostAt 72 = .ok (.iload_n 3, 1) := by decide +kernel
theorem dX4_mostAt_73 : decode cX4_mostAt 73 = .ok (.iadd, 1) := by decide +kernel
theorem dX4_mostAt_74 : decode cX4_mostAt 74 = .ok (.istore_n 2, 1) := by decide +kernel
theorem dX4_mostAt_75 : decode cX4_mostAt 75 = .ok (.iload_n 3, 1) := by decide +kernel
theorem dX4_mostAt_76 : decode cX4_mostAt 76 = .ok (.iconst 2, 1) := by decide +kernel
theorem dX4_mostAt_77 : decode cX4_mostAt 77 = .ok (.idiv, 1) := by decide +kernel
theorem dX4_mostAt_78 : decode cX4_mostAt 78 = .ok (.istore_n 3, 1) := by decide +kernel
theorem dX4_mostAt_79 : decode cX4_mostAt 79 = .ok (.goto (-35), 3) := by decide +kernel
theorem dX4_mostAt_82 : decode cX4_mostAt 82 = .ok (.iload_n 2, 1) := by decide +kernel
theorem dX4_mostAt_83 : decode cX4_mostAt 83 = .ok (.ireturn, 1) := by decide +kernel
theorem dX4_slackIn_0 : decode cX4_slackIn 0 = .ok (.aload_n 0, 1) := by decide +kernel
theorem dX4_slackIn_1 : decode cX4_slackIn 1 = .ok (.getfield 10, 3) := by decide +kernel
theorem dX4_slackIn_4 : decode cX4_slackIn 4 = .ok (.iload_n 1, 1) := by decide +kernel
theorem dX4_slackIn_5 : decode cX4_slackIn 5 = .ok (.invokevirtual 73, 3) := by decide +kernel
theorem dX4_slackIn_8 : decode cX4_slackIn 8 = .ok (.astore_n 2, 1) := by decide +kernel
theorem dX4_slackIn_9 : decode cX4_slackIn 9 = .ok (.aload_n 2, 1) := by decide +kernel
theorem dX4_slackIn_10 : decode cX4_slackIn 10 = .ok (.ifnonnull 5, 3) := by decide +kernel
theorem dX4_slackIn_13 : decode cX4_slackIn 13 = .ok (.iconst (-1), 1) := by decide +kernel
theorem dX4_slackIn_14 : decode cX4_slackIn 14 = .ok (.ireturn, 1) := by decide +kernel
theorem dX4_slackIn_15 : decode cX4_slackIn 15 = .ok (.aload_n 2, 1) := by decide +kernel
theorem dX4_slackIn_16 : decode cX4_slackIn 16 = .ok (.getfield 95, 3) := by decide +kernel
theorem dX4_slackIn_19 : decode cX4_slackIn 19 = .ok (.ifCond .eq 6, 3) := by decide +kernel
theorem dX4_slackIn_22 : decode cX4_slackIn 22 = .ok (.bipush (-6), 2) := by decide +kernel
theorem dX4_slackIn_24 : decode cX4_slackIn 24 = .ok (.ireturn, 1) := by decide +kernel
theorem dX4_slackIn_25 : decode cX4_slackIn 25 = .ok (.aload_n 2, 1) := by decide +kernel
theorem dX4_slackIn_26 : decode cX4_slackIn 26 = .ok (.getfield 92, 3) := by decide +kernel
theorem dX4_slackIn_29 : decode cX4_slackIn 29 = .ok (.istore_n 3, 1) := by decide +kernel
theorem dX4_slackIn_30 : decode cX4_slackIn 30 = .ok (.iconst 0, 1) := by decide +kernel
theorem dX4_slackIn_31 : decode cX4_slackIn 31 = .ok (.istore 4, 2) := by decide +kernel
theorem dX4_slackIn_33 : decode cX4_slackIn 33 = .ok (.iload 4, 2) := by decide +kernel
theorem dX4_slackIn_35 : decode cX4_slackIn 35 = .ok (.sipush 300, 3) := by decide +kernel
theorem dX4_slackIn_38 : decode cX4_slackIn 38 = .ok (.if_icmp .gt 32, 3) := by decide +kernel
theorem dX4_slackIn_41 : decode cX4_slackIn 41 = .ok (.iload_n 3, 1) := by decide +kernel
theorem dX4_slackIn_42 : decode cX4_slackIn 42 = .ok (.aload_n 2, 1) := by decide +kernel
theorem dX4_slackIn_43 : decode cX4_slackIn 43 = .ok (.getfield 106, 3) := by decide +kernel
theorem dX4_slackIn_46 : decode cX4_slackIn 46 = .ok (.if_icmp .ge 6, 3) := by decide +kernel
theorem dX4_slackIn_49 : decode cX4_slackIn 49 = .ok (.iload 4, 2) := by decide +kernel
theorem dX4_slackIn_51 : decode cX4_slackIn 51 = .ok (.ireturn, 1) := by decide +kernel
theorem dX4_slackIn_52 : decode cX4_slackIn 52 = .ok (.iload_n 3, 1) := by decide +kernel
theorem dX4_slackIn_53 : decode cX4_slackIn 53 = .ok (.aload_n 0, 1) := by decide +kernel
theorem dX4_slackIn_54 : decode cX4_slackIn 54 = .ok (.getfield 10, 3) := by decide +kernel
theorem dX4_slackIn_57 : decode cX4_slackIn 57 = .ok (.getfield 173, 3) := by decide +kernel
theorem dX4_slackIn_60 : decode cX4_slackIn 60 = .ok (.invokestatic 198, 3) := by decide +kernel
theorem dX4_slackIn_63 : decode cX4_slackIn 63 = .ok (.istore_n 3, 1) := by decide +kernel
theorem dX4_slackIn_64 : decode cX4_slackIn 64 = .ok (.iinc 4 1, 3) := by decide +kernel
theorem dX4_slackIn_67 : decode cX4_slackIn 67 = .ok (.goto (-34), 3) := by decide +kernel
theorem dX4_slackIn_70 : decode cX4_slackIn 70 = .ok (.bipush (-6), 2) := by decide +kernel
theorem dX4_slackIn_72 : decode cX4_slackIn 72 = .ok (.ireturn, 1) := by decide +kernel
theorem dX4_round_0 : decode cX4_round 0 = .ok (.aload_n 0, 1) := by decide +kernel
theorem dX4_round_1 : decode cX4_round 1 = .ok (.getfield 16, 3) := by decide +kernel
theorem dX4_round_4 : decode cX4_round 4 = .ok (.aload_n 0, 1) := by decide +kernel
theorem dX4_round_5 : decode cX4_round 5 = .ok (.getfield 10, 3) := by decide +kernel
theorem dX4_round_8 : decode cX4_round 8 = .ok (.invokevirtual 123, 3) := by decide +kernel
theorem dX4_round_11 : decode cX4_round 11 = .ok (.aload_n 0, 1) := by decide +kernel
theorem dX4_round_12 : decode cX4_round 12 = .ok (.getfield 16, 3) := by decide +kernel
theorem dX4_round_15 : decode cX4_round 15 = .ok (.invokevirtual 201, 3) := by decide +kernel
theorem dX4_round_18 : decode cX4_round 18 = .ok (.ireturn, 1) := by decide +kernel
theorem dX4_weakest_0 : decode cX4_weakest 0 = .ok (.iload_n 1, 1) := by decide +kernel
theorem dX4_weakest_1 : decode cX4_weakest 1 = .ok (.ifCond .eq 11, 3) := by decide +kernel
theorem dX4_weakest_4 : decode cX4_weakest 4 = .ok (.iload_n 1, 1) := by decide +kernel
theorem dX4_weakest_5 : decode cX4_weakest 5 = .ok (.iconst 1, 1) := by decide +kernel
theorem dX4_weakest_6 : decode cX4_weakest 6 = .ok (.if_icmp .eq 6, 3) := by decide +kernel
theorem dX4_weakest_9 : decode cX4_weakest 9 = .ok (.bipush (-2), 2) := by decide +kernel
theorem dX4_weakest_11 : decode cX4_weakest 11 = .ok (.ireturn, 1) := by decide +kernel
theorem dX4_weakest_12 : decode cX4_weakest 12 = .ok (.bipush (-6), 2) := by decide +kernel
theorem dX4_weakest_14 : decode cX4_weakest 14 = .ok (.istore_n 2, 1) := by decide +kernel
theorem dX4_weakest_15 : decode cX4_weakest 15 = .ok (.bipush (-6), 2) := by decide +kernel
theorem dX4_weakest_17 : decode cX4_weakest 17 = .ok (.istore_n 3, 1) := by decide +kernel
theorem dX4_weakest_18 : decode cX4_weakest 18 = .ok (.iconst 0, 1) := by decide +kernel
theorem dX4_weakest_19 : decode cX4_weakest 19 = .ok (.istore 4, 2) := by decide +kernel
theorem dX4_weakest_21 : decode cX4_weakest 21 = .ok (.iload 4, 2) := by decide +kernel
theorem dX4_weakest_23 : decode cX4_weakest 23 = .ok (.aload_n 0, 1) := by decide +kernel
theorem dX4_weakest_24 : decode cX4_weakest 24 = .ok (.getfield 10, 3) := by decide +kernel
theorem dX4_weakest_27 : decode cX4_weakest 27 = .ok (.getfield 150, 3) := by decide +kernel
theorem dX4_weakest_30 : decode cX4_weakest 30 = .ok (.if_icmp .ge 56, 3) := by decide +kernel
theorem dX4_weakest_33 : decode cX4_weakest 33 = .ok (.aload_n 0, 1) := by decide +kernel
theorem dX4_weakest_34 : decode cX4_weakest 34 = .ok (.getfield 10, 3) := by decide +kernel
theorem dX4_weakest_37 : decode cX4_weakest 37 = .ok (.iload 4, 2) := by decide +kernel
theorem dX4_weakest_39 : decode cX4_weakest 39 = .ok (.invokevirtual 73, 3) := by decide +kernel
theorem dX4_weakest_42 : decode cX4_weakest 42 = .ok (.astore 5, 2) := by decide +kernel
theorem dX4_weakest_44 : decode cX4_weakest 44 = .ok (.aload 5, 2) := by decide +kernel
theorem dX4_weakest_46 : decode cX4_weakest 46 = .ok (.ifnull 34, 3) := by decide +kernel
theorem dX4_weakest_49 : decode cX4_weakest 49 = .ok (.aload 5, 2) := by decide +kernel
theorem dX4_weakest_51 : decode cX4_weakest 51 = .ok (.getfield 95, 3) := by decide +kernel
theorem dX4_weakest_54 : decode cX4_weakest 54 = .ok (.ifCond .ne 26, 3) := by decide +kernel
theorem dX4_weakest_57 : decode cX4_weakest 57 = .ok (.aload_n 0, 1) := by decide +kernel
theorem dX4_weakest_58 : decode cX4_weakest 58 = .ok (.iload 4, 2) := by decide +kernel
theorem dX4_weakest_60 : decode cX4_weakest 60 = .ok (.invokevirtual 188, 3) := by decide +kernel
theorem dX4_weakest_63 : decode cX4_weakest 63 = .ok (.invokestatic 204, 3) := by decide +kernel
theorem dX4_weakest_66 : decode cX4_weakest 66 = .ok (.istore 6, 2) := by decide +kernel
theorem dX4_weakest_68 : decode cX4_weakest 68 = .ok (.iload 6, 2) := by decide +kernel
theorem dX4_weakest_70 : decode cX4_weakest 70 = .ok (.iload_n 3, 1) := by decide +kernel
theorem dX4_weakest_71 : decode cX4_weakest 71 = .ok (.if_icmp .le 9, 3) := by decide +kernel
theorem dX4_weakest_74 : decode cX4_weakest 74 = .ok (.iload 6, 2) := by decide +kernel
theorem dX4_weakest_76 : decode cX4_weakest 76 = .ok (.istore_n 3, 1) := by decide +kernel
theorem dX4_weakest_77 : decode cX4_weakest 77 = .ok (.iload 4, 2) := by decide +kernel
theorem dX4_weakest_79 : decode cX4_weakest 79 = .ok (.istore_n 2, 1) := by decide +kernel
theorem dX4_weakest_80 : decode cX4_weakest 80 = .ok (.iinc 4 1, 3) := by decide +kernel
theorem dX4_weakest_83 : decode cX4_weakest 83 = .ok (.goto (-62), 3) := by decide +kernel
theorem dX4_weakest_86 : decode cX4_weakest 86 = .ok (.iload_n 1, 1) := by decide +kernel
theorem dX4_weakest_87 : decode cX4_weakest 87 = .ok (.ifCond .ne 7, 3) := by decide +kernel
theorem dX4_weakest_90 : decode cX4_weakest 90 = .ok (.iload_n 2, 1) := by decide +kernel
theorem dX4_weakest_91 : decode cX4_weakest 91 = .ok (.goto 4, 3) := by decide +kernel
theorem dX4_weakest_94 : decode cX4_weakest 94 = .ok (.iload_n 3, 1) := by decide +kernel
theorem dX4_weakest_95 : decode cX4_weakest 95 = .ok (.ireturn, 1) := by decide +kernel
theorem dX4_put_0 : decode cX4_put 0 = .ok (.aload_n 0, 1) := by decide +kernel
theorem dX4_put_1 : decode cX4_put 1 = .ok (.getfield 37, 3) := by decide +kernel
theorem dX4_put_4 : decode cX4_put 4 = .ok (.lload_n 1, 1) := by decide +kernel
theorem dX4_put_5 : decode cX4_put 5 = .ok (.invokevirtual 209, 3) := by decide +kernel
theorem dX4_put_8 : decode cX4_put 8 = .ok (.ireturn, 1) := by decide +kernel
theorem dX4_wipe_0 : decode cX4_wipe 0 = .ok (.aload_n 0, 1) := by decide +kernel
theorem dX4_wipe_1 : decode cX4_wipe 1 = .ok (.getfield 37, 3) := by decide +kernel
theorem dX4_wipe_4 : decode cX4_wipe 4 = .ok (.invokevirtual 213, 3) := by decide +kernel
theorem dX4_wipe_7 : decode cX4_wipe 7 = .ok (.ireturn, 1) := by decide +kernel
theorem dX4_fault_0 : decode cX4_fault 0 = .ok (.aload_n 0, 1) := by decide +kernel
theorem dX4_fault_1 : decode cX4_fault 1 = .ok (.getfield 37, 3) := by decide +kernel
theorem dX4_fault_4 : decode cX4_fault 4 = .ok (.invokevirtual 216, 3) := by decide +kernel
theorem dX4_fault_7 : decode cX4_fault 7 = .ok (.ireturn, 1) := by decide +kernel
theorem dX4_carryOut_0 : decode cX4_carryOut 0 = .ok (.aload_n 0, 1) := by decide +kernel
theorem dX4_carryOut_1 : decode cX4_carryOut 1 = .ok (.getfield 37, 3) := by decide +kernel
theorem dX4_carryOut_4 : decode cX4_carryOut 4 = .ok (.invokevirtual 216, 3) := by decide +kernel
theorem dX4_carryOut_7 : decode cX4_carryOut 7 = .ok (.bipush (-6), 2) := by decide +kernel
theorem dX4_carryOut_9 : decode cX4_carryOut 9 = .ok (.if_icmp .eq 6, 3) := by decide +kernel
theorem dX4_carryOut_12 : decode cX4_carryOut 12 = .ok (.bipush (-3), 2) := by decide +kernel
theorem dX4_carryOut_14 : decode cX4_carryOut 14 = .ok (.ireturn, 1) := by decide +kernel
theorem dX4_carryOut_15 : decode cX4_carryOut 15 = .ok (.aload_n 0, 1) := by decide +kernel
theorem dX4_carryOut_16 : decode cX4_carryOut 16 = .ok (.getfield 22, 3) := by decide +kernel
theorem dX4_carryOut_19 : decode cX4_carryOut 19 = .ok (.aload_n 0, 1) := by decide +kernel
theorem dX4_carryOut_20 : decode cX4_carryOut 20 = .ok (.getfield 10, 3) := by decide +kernel
theorem dX4_carryOut_23 : decode cX4_carryOut 23 = .ok (.invokevirtual 41, 3) := by decide +kernel
theorem dX4_carryOut_26 : decode cX4_carryOut 26 = .ok (.aload_n 0, 1) := by decide +kernel
theorem dX4_carryOut_27 : decode cX4_carryOut 27 = .ok (.getfield 22, 3) := by decide +kernel
theorem dX4_carryOut_30 : decode cX4_carryOut 30 = .ok (.aload_n 0, 1) := by decide +kernel
theorem dX4_carryOut_31 : decode cX4_carryOut 31 = .ok (.invokevirtual 219, 3) := by decide +kernel
theorem dX4_carryOut_34 : decode cX4_carryOut 34 = .ok (.invokevirtual 49, 3) := by decide +kernel
theorem dX4_carryOut_37 : decode cX4_carryOut 37 = .ok (.istore_n 1, 1) := by decide +kernel
theorem dX4_carryOut_38 : decode cX4_carryOut 38 = .ok (.aload_n 0, 1) := by decide +kernel
theorem dX4_carryOut_39 : decode cX4_carryOut 39 = .ok (.getfield 37, 3) := by decide +kernel
theorem dX4_carryOut_42 : decode cX4_carryOut 42 = .ok (.invokevirtual 213, 3) := by decide +kernel
theorem dX4_carryOut_45 : decode cX4_carryOut 45 = .ok (.pop, 1) := by decide +kernel
theorem dX4_carryOut_46 : decode cX4_carryOut 46 = .ok (.iload_n 1, 1) := by decide +kernel
theorem dX4_carryOut_47 : decode cX4_carryOut 47 = .ok (.ireturn, 1) := by decide +kernel
theorem dX4_undo_0 : decode cX4_undo 0 = .ok (.aload_n 0, 1) := by decide +kernel
theorem dX4_undo_1 : decode cX4_undo 1 = .ok (.getfield 22, 3) := by decide +kernel
theorem dX4_undo_4 : decode cX4_undo 4 = .ok (.aload_n 0, 1) := by decide +kernel
theorem dX4_undo_5 : decode cX4_undo 5 = .ok (.getfield 10, 3) := by decide +kernel
theorem dX4_undo_8 : decode cX4_undo 8 = .ok (.invokevirtual 222, 3) := by decide +kernel
theorem dX4_undo_11 : decode cX4_undo 11 = .ok (.ireturn, 1) := by decide +kernel
theorem dX4_save_0 : decode cX4_save 0 = .ok (.iload_n 1, 1) := by decide +kernel
theorem dX4_save_1 : decode cX4_save 1 = .ok (.iconst 0, 1) := by decide +kernel
theorem dX4_save_2 : decode cX4_save 2 = .ok (.iconst 1, 1) := by decide +kernel
theorem dX4_save_3 : decode cX4_save 3 = .ok (.invokestatic 177, 3) := by decide +kernel
theorem dX4_save_6 : decode cX4_save 6 = .ok (.ifCond .ne 6, 3) := by decide +kernel
theorem dX4_save_9 : decode cX4_save 9 = .ok (.bipush (-2), 2) := by decide +kernel
theorem dX4_save_11 : decode cX4_save 11 = .ok (.ireturn, 1) := by decide +kernel
theorem dX4_save_12 : decode cX4_save 12 = .ok (.aload_n 0, 1) := by decide +kernel
theorem dX4_save_13 : decode cX4_save 13 = .ok (.getfield 26, 3) := by decide +kernel
theorem dX4_save_16 : decode cX4_save 16 = .ok (.iload_n 1, 1) := by decide +kernel
theorem dX4_save_17 : decode cX4_save 17 = .ok (.aaload, 1) := by decide +kernel
theorem dX4_save_18 : decode cX4_save 18 = .ok (.aload_n 0, 1) := by decide +kernel
theorem dX4_save_19 : decode cX4_save 19 = .ok (.getfield 10, 3) := by decide +kernel
theorem dX4_save_22 : decode cX4_save 22 = .ok (.invokevirtual 191, 3) := by decide +kernel
theorem dX4_save_25 : decode cX4_save 25 = .ok (.aload_n 0, 1) := by decide +kernel
theorem dX4_save_26 : decode cX4_save 26 = .ok (.getfield 30, 3) := by decide +kernel
theorem dX4_save_29 : decode cX4_save 29 = .ok (.iload_n 1, 1) := by decide +kernel
theorem dX4_save_30 : decode cX4_save 30 = .ok (.iconst 1, 1) := by decide +kernel
theorem dX4_save_31 : decode cX4_save 31 = .ok (.bastore, 1) := by decide +kernel
theorem dX4_save_32 : decode cX4_save 32 = .ok (.aload_n 0, 1) := by decide +kernel
theorem dX4_save_33 : decode cX4_save 33 = .ok (.getfield 10, 3) := by decide +kernel
theorem dX4_save_36 : decode cX4_save 36 = .ok (.getfield 147, 3) := by decide +kernel
theorem dX4_save_39 : decode cX4_save 39 = .ok (.ireturn, 1) := by decide +kernel
theorem dX4_restore_0 : decode cX4_restore 0 = .ok (.iload_n 1, 1) := by decide +kernel
theorem dX4_restore_1 : decode cX4_restore 1 = .ok (.iconst 0, 1) := by decide +kernel
theorem dX4_restore_2 : decode cX4_restore 2 = .ok (.iconst 1, 1) := by decide +kernel
theorem dX4_restore_3 : decode cX4_restore 3 = .ok (.invokestatic 177, 3) := by decide +kernel
theorem dX4_restore_6 : decode cX4_restore 6 = .ok (.ifCond .ne 6, 3) := by decide +kernel
theorem dX4_restore_9 : decode cX4_restore 9 = .ok (.bipush (-2), 2) := by decide +kernel
theorem dX4_restore_11 : decode cX4_restore 11 = .ok (.ireturn, 1) := by decide +kernel
theorem dX4_restore_12 : decode cX4_restore 12 = .ok (.aload_n 0, 1) := by decide +kernel
theorem dX4_restore_13 : decode cX4_restore 13 = .ok (.getfield 30, 3) := by decide +kernel
theorem dX4_restore_16 : decode cX4_restore 16 = .ok (.iload_n 1, 1) := by decide +kernel
theorem dX4_restore_17 : decode cX4_restore 17 = .ok (.baload, 1) := by decide +kernel
theorem dX4_restore_18 : decode cX4_restore 18 = .ok (.ifCond .ne 6, 3) := by decide +kernel
theorem dX4_restore_21 : decode cX4_restore 21 = .ok (.bipush (-5), 2) := by decide +kernel
theorem dX4_restore_23 : decode cX4_restore 23 = .ok (.ireturn, 1) := by decide +kernel
theorem dX4_restore_24 : decode cX4_restore 24 = .ok (.aload_n 0, 1) := by decide +kernel
theorem dX4_restore_25 : decode cX4_restore 25 = .ok (.getfield 22, 3) := by decide +kernel
theorem dX4_restore_28 : decode cX4_restore 28 = .ok (.aload_n 0, 1) := by decide +kernel
theorem dX4_restore_29 : decode cX4_restore 29 = .ok (.getfield 10, 3) := by decide +kernel
theorem dX4_restore_32 : decode cX4_restore 32 = .ok (.invokevirtual 41, 3) := by decide +kernel
theorem dX4_restore_35 : decode cX4_restore 35 = .ok (.aload_n 0, 1) := by decide +kernel
theorem dX4_restore_36 : decode cX4_restore 36 = .ok (.getfield 10, 3) := by decide +kernel
theorem dX4_restore_39 : decode cX4_restore 39 = .ok (.aload_n 0, 1) := by decide +kernel
theorem dX4_restore_40 : decode cX4_restore 40 = .ok (.getfield 26, 3) := by decide +kernel
theorem dX4_restore_43 : decode cX4_restore 43 = .ok (.iload_n 1, 1) := by decide +kernel
theorem dX4_restore_44 : decode cX4_restore 44 = .ok (.aaload, 1) := by decide +kernel
theorem dX4_restore_45 : decode cX4_restore 45 = .ok (.invokevirtual 191, 3) := by decide +kernel
theorem dX4_restore_48 : decode cX4_restore 48 = .ok (.aload_n 0, 1) := by decide +kernel
theorem dX4_restore_49 : decode cX4_restore 49 = .ok (.getfield 22, 3) := by decide +kernel
theorem dX4_restore_52 : decode cX4_restore 52 = .ok (.aload_n 0, 1) := by decide +kernel
theorem dX4_restore_53 : decode cX4_restore 53 = .ok (.getfield 10, 3) := by decide +kernel
theorem dX4_restore_56 : decode cX4_restore 56 = .ok (.getfield 147, 3) := by decide +kernel
theorem dX4_restore_59 : decode cX4_restore 59 = .ok (.invokevirtual 49, 3) := by decide +kernel
theorem dX4_restore_62 : decode cX4_restore 62 = .ok (.ireturn, 1) := by decide +kernel
theorem dX4_fallenWith_0 : decode cX4_fallenWith 0 = .ok (.aload_n 0, 1) := by decide +kernel
theorem dX4_fallenWith_1 : decode cX4_fallenWith 1 = .ok (.getfield 16, 3) := by decide +kernel
theorem dX4_fallenWith_4 : decode cX4_fallenWith 4 = .ok (.aload_n 0, 1) := by decide +kernel
theorem dX4_fallenWith_5 : decode cX4_fallenWith 5 = .ok (.getfield 10, 3) := by decide +kernel
theorem dX4_fallenWith_8 : decode cX4_fallenWith 8 = .ok (.invokevirtual 191, 3) := by decide +kernel
theorem dX4_fallenWith_11 : decode cX4_fallenWith 11 = .ok (.aload_n 0, 1) := by decide +kernel
theorem dX4_fallenWith_12 : decode cX4_fallenWith 12 = .ok (.getfield 16, 3) := by decide +kernel
theorem dX4_fallenWith_15 : decode cX4_fallenWith 15 = .ok (.iload_n 1, 1) := by decide +kernel
theorem dX4_fallenWith_16 : decode cX4_fallenWith 16 = .ok (.invokevirtual 73, 3) := by decide +kernel
theorem dX4_fallenWith_19 : decode cX4_fallenWith 19 = .ok (.astore_n 2, 1) := by decide +kernel
theorem dX4_fallenWith_20 : decode cX4_fallenWith 20 = .ok (.aload_n 2, 1) := by decide +kernel
theorem dX4_fallenWith_21 : decode cX4_fallenWith 21 = .ok (.ifnonnull 5, 3) := by decide +kernel
theorem dX4_fallenWith_24 : decode cX4_fallenWith 24 = .ok (.iconst 0, 1) := by decide +kernel
theorem dX4_fallenWith_25 : decode cX4_fallenWith 25 = .ok (.ireturn, 1) := by decide +kernel
theorem dX4_fallenWith_26 : decode cX4_fallenWith 26 = .ok (.aload_n 2, 1) := by decide +kernel
theorem dX4_fallenWith_27 : decode cX4_fallenWith 27 = .ok (.aload_n 0, 1) := by decide +kernel
theorem dX4_fallenWith_28 : decode cX4_fallenWith 28 = .ok (.getfield 16, 3) := by decide +kernel
theorem dX4_fallenWith_31 : decode cX4_fallenWith 31 = .ok (.getfield 147, 3) := by decide +kernel
theorem dX4_fallenWith_34 : decode cX4_fallenWith 34 = .ok (.invokevirtual 226, 3) := by decide +kernel
theorem dX4_fallenWith_37 : decode cX4_fallenWith 37 = .ok (.aload_n 0, 1) := by decide +kernel
theorem dX4_fallenWith_38 : decode cX4_fallenWith 38 = .ok (.getfield 16, 3) := by decide +kernel
theorem dX4_fallenWith_41 : decode cX4_fallenWith 41 = .ok (.invokevirtual 230, 3) := by decide +kernel
theorem dX4_fallenWith_44 : decode cX4_fallenWith 44 = .ok (.iconst 1, 1) := by decide +kernel
theorem dX4_fallenWith_45 : decode cX4_fallenWith 45 = .ok (.iload_n 1, 1) := by decide +kernel
theorem dX4_fallenWith_46 : decode cX4_fallenWith 46 = .ok (.ishl, 1) := by decide +kernel
theorem dX4_fallenWith_47 : decode cX4_fallenWith 47 = .ok (.aload_n 0, 1) := by decide +kernel
theorem dX4_fallenWith_48 : decode cX4_fallenWith 48 = .ok (.getfield 16, 3) := by decide +kernel
theorem dX4_fallenWith_51 : decode cX4_fallenWith 51 = .ok (.invokevirtual 233, 3) := by decide +kernel
theorem dX4_fallenWith_54 : decode cX4_fallenWith 54 = .ok (.ior, 1) := by decide +kernel
theorem dX4_fallenWith_55 : decode cX4_fallenWith 55 = .ok (.ireturn, 1) := by decide +kernel
theorem dX4_ordersCarriedOut_0 : decode cX4_ordersCarriedOut 0 = .ok (.iconst 0, 1) := by decide +kernel
theorem dX4_ordersCarriedOut_1 : decode cX4_ordersCarriedOut 1 = .ok (.istore_n 1, 1) := by decide +kernel
theorem dX4_ordersCarriedOut_2 : decode cX4_ordersCarriedOut 2 = .ok (.aload_n 0, 1) := by decide +kernel
theorem dX4_ordersCarriedOut_3 : decode cX4_ordersCarriedOut 3 = .ok (.getfield 37, 3) := by decide +kernel
theorem dX4_ordersCarriedOut_6 : decode cX4_ordersCarriedOut 6 = .ok (.invokevirtual 236, 3) := by decide +kernel
theorem dX4_ordersCarriedOut_9 : decode cX4_ordersCarriedOut 9 = .ok (.iconst 0, 1) := by decide +kernel
theorem dX4_ordersCarriedOut_10 : decode cX4_ordersCarriedOut 10 = .ok (.istore_n 2, 1) := by decide +kernel
theorem dX4_ordersCarriedOut_11 : decode cX4_ordersCarriedOut 11 = .ok (.iload_n 2, 1) := by decide +kernel
theorem dX4_ordersCarriedOut_12 : decode cX4_ordersCarriedOut 12 = .ok (.bipush 60, 2) := by decide +kernel
theorem dX4_ordersCarriedOut_14 : decode cX4_ordersCarriedOut 14 = .ok (.if_icmp .ge 55, 3) := by decide +kernel
theorem dX4_ordersCarriedOut_17 : decode cX4_ordersCarriedOut 17 = .ok (.aload_n 0, 1) := by decide +kernel
theorem dX4_ordersCarriedOut_18 : decode cX4_ordersCarriedOut 18 = .ok (.getfield 37, 3) := by decide +kernel
theorem dX4_ordersCarriedOut_21 : decode cX4_ordersCarriedOut 21 = .ok (.invokevirtual 239, 3) := by decide +kernel
theorem dX4_ordersCarriedOut_24 : decode cX4_ordersCarriedOut 24 = .ok (.ifCond .eq 45, 3) := by decide +kernel
theorem dX4_ordersCarriedOut_27 : decode cX4_ordersCarriedOut 27 = .ok (.aload_n 0, 1) := by decide +kernel
theorem dX4_ordersCarriedOut_28 : decode cX4_ordersCarriedOut 28 = .ok (.aload_n 0, 1) := by decide +kernel
theorem dX4_ordersCarriedOut_29 : decode cX4_ordersCarriedOut 29 = .ok (.getfield 37, 3) := by decide +kernel
theorem dX4_ordersCarriedOut_32 : decode cX4_ordersCarriedOut 32 = .ok (.getfield 242, 3) := by decide +kernel
theorem dX4_ordersCarriedOut_35 : decode cX4_ordersCarriedOut 35 = .ok (.aload_n 0, 1) := by decide +kernel
theorem dX4_ordersCarriedOut_36 : decode cX4_ordersCarriedOut 36 = .ok (.getfield 37, 3) := by decide +kernel
theorem dX4_ordersCarriedOut_39 : decode cX4_ordersCarriedOut 39 = .ok (.getfield 246, 3) := by decide +kernel
theorem dX4_ordersCarriedOut_42 : decode cX4_ordersCarriedOut 42 = .ok (.aload_n 0, 1) := by decide +kernel
theorem dX4_ordersCarriedOut_43 : decode cX4_ordersCarriedOut 43 = .ok (.getfield 37, 3) := by decide +kernel
theorem dX4_ordersCarriedOut_46 : decode cX4_ordersCarriedOut 46 = .ok (.getfield 249, 3) := by decide +kernel
theorem dX4_ordersCarriedOut_49 : decode cX4_ordersCarriedOut 49 = .ok (.invokevirtual 252, 3) := by decide +kernel
theorem dX4_ordersCarriedOut_52 : decode cX4_ordersCarriedOut 52 = .ok (.invokestatic 256, 3) := by decide +kernel
theorem dX4_ordersCarriedOut_55 : decode cX4_ordersCarriedOut 55 = .ok (.ifCond .eq 5, 3) := by decide +kernel
theorem dX4_ordersCarriedOut_58 : decode cX4_ordersCarriedOut 58 = .ok (.iload_n 1, 1) := by decide +kernel
theorem dX4_ordersCarriedOut_59 : decode cX4_ordersCarriedOut 59 = .ok (.ireturn, 1) := by decide +kernel
theorem dX4_ordersCarriedOut_60 : decode cX4_ordersCarriedOut 60 = .ok (.iinc 1 1, 3) := by decide +kernel
theorem dX4_ordersCarriedOut_63 : decode cX4_ordersCarriedOut 63 = .ok (.iinc 2 1, 3) := by decide +kernel
theorem dX4_ordersCarriedOut_66 : decode cX4_ordersCarriedOut 66 = .ok (.goto (-55), 3) := by decide +kernel
theorem dX4_ordersCarriedOut_69 : decode cX4_ordersCarriedOut 69 = .ok (.iload_n 1, 1) := by decide +kernel
theorem dX4_ordersCarriedOut_70 : decode cX4_ordersCarriedOut 70 = .ok (.ireturn, 1) := by decide +kernel
theorem dX4_answerTo_0 : decode cX4_answerTo 0 = .ok (.iload_n 1, 1) := by decide +kernel
theorem dX4_answerTo_1 : decode cX4_answerTo 1 = .ok (.lookupswitch 96 #[(100, 87), (103, 51), (104, 60), (112, 77), (116, 68)], 51) := by decide +kernel
theorem dX4_answerTo_52 : decode cX4_answerTo 52 = .ok (.aload_n 0, 1) := by decide +kernel
theorem dX4_answerTo_53 : decode cX4_answerTo 53 = .ok (.getfield 10, 3) := by decide +kernel
theorem dX4_answerTo_56 : decode cX4_answerTo 56 = .ok (.iload_n 2, 1) := by decide +kernel
theorem dX4_answerTo_57 : decode cX4_answerTo 57 = .ok (.invokevirtual 63, 3) := by decide +kernel
theorem dX4_answerTo_60 : decode cX4_answerTo 60 = .ok (.ireturn, 1) := by decide +kernel
theorem dX4_answerTo_61 : decode cX4_answerTo 61 = .ok (.aload_n 0, 1) := by decide +kernel
theorem dX4_answerTo_62 : decode cX4_answerTo 62 = .ok (.getfield 10, 3) := by decide +kernel
theorem dX4_answerTo_65 : decode cX4_answerTo 65 = .ok (.invokevirtual 66, 3) := by decide +kernel
theorem dX4_answerTo_68 : decode cX4_answerTo 68 = .ok (.ireturn, 1) := by decide +kernel
theorem dX4_answerTo_69 : decode cX4_answerTo 69 = .ok (.aload_n 0, 1) := by decide +kernel
theorem dX4_answerTo_70 : decode cX4_answerTo 70 = .ok (.getfield 10, 3) := by decide +kernel
theorem dX4_answerTo_73 : decode cX4_answerTo 73 = .ok (.iload_n 2, 1) := by decide +kernel
theorem dX4_answerTo_74 : decode cX4_answerTo 74 = .ok (.invokevirtual 70, 3) := by decide +kernel
theorem dX4_answerTo_77 : decode cX4_answerTo 77 = .ok (.ireturn, 1) := by decide +kernel
theorem dX4_answerTo_78 : decode cX4_answerTo 78 = .ok (.aload_n 0, 1) := by decide +kernel
theorem dX4_answerTo_79 : decode cX4_answerTo 79 = .ok (.getfield 10, 3) := by decide +kernel
theorem dX4_answerTo_82 : decode cX4_answerTo 82 = .ok (.iload_n 2, 1) := by decide +kernel
theorem dX4_answerTo_83 : decode cX4_answerTo 83 = .ok (.iload_n 3, 1) := by decide +kernel
theorem dX4_answerTo_84 : decode cX4_answerTo 84 = .ok (.invokevirtual 57, 3) := by decide +kernel
theorem dX4_answerTo_87 : decode cX4_answerTo 87 = .ok (.ireturn, 1) := by decide +kernel
theorem dX4_answerTo_88 : decode cX4_answerTo 88 = .ok (.aload_n 0, 1) := by decide +kernel
theorem dX4_answerTo_89 : decode cX4_answerTo 89 = .ok (.getfield 10, 3) := by decide +kernel
theorem dX4_answerTo_92 : decode cX4_answerTo 92 = .ok (.iload_n 2, 1) := by decide +kernel
theorem dX4_answerTo_93 : decode cX4_answerTo 93 = .ok (.invokevirtual 60, 3) := by decide +kernel
theorem dX4_answerTo_96 : decode cX4_answerTo 96 = .ok (.ireturn, 1) := by decide +kernel
theorem dX4_answerTo_97 : decode cX4_answerTo 97 = .ok (.bipush (-3), 2) := by decide +kernel
theorem dX4_answerTo_99 : decode cX4_answerTo 99 = .ok (.ireturn, 1) := by decide +kernel
theorem dX4_isError_0 : decode cX4_isError 0 = .ok (.iload_n 0, 1) := by decide +kernel
theorem dX4_isError_1 : decode cX4_isError 1 = .ok (.ifCond .ge 13, 3) := by decide +kernel
theorem dX4_isError_4 : decode cX4_isError 4 = .ok (.iload_n 0, 1) := by decide +kernel
theorem dX4_isError_5 : decode cX4_isError 5 = .ok (.bipush (-6), 2) := by decide +kernel
theorem dX4_isError_7 : decode cX4_isError 7 = .ok (.if_icmp .eq 7, 3) := by decide +kernel
theorem dX4_isError_10 : decode cX4_isError 10 = .ok (.iconst 1, 1) := by decide +kernel
theorem dX4_isError_11 : decode cX4_isError 11 = .ok (.goto 4, 3) := by decide +kernel
theorem dX4_isError_14 : decode cX4_isError 14 = .ok (.iconst 0, 1) := by decide +kernel
theorem dX4_isError_15 : decode cX4_isError 15 = .ok (.ireturn, 1) := by decide +kernel
theorem dX4_within_0 : decode cX4_within 0 = .ok (.iload_n 0, 1) := by decide +kernel
theorem dX4_within_1 : decode cX4_within 1 = .ok (.iload_n 1, 1) := by decide +kernel
theorem dX4_within_2 : decode cX4_within 2 = .ok (.if_icmp .lt 12, 3) := by decide +kernel
theorem dX4_within_5 : decode cX4_within 5 = .ok (.iload_n 0, 1) := by decide +kernel
theorem dX4_within_6 : decode cX4_within 6 = .ok (.iload_n 2, 1) := by decide +kernel
theorem dX4_within_7 : decode cX4_within 7 = .ok (.if_icmp .gt 7, 3) := by decide +kernel
theorem dX4_within_10 : decode cX4_within 10 = .ok (.iconst 1, 1) := by decide +kernel
theorem dX4_within_11 : decode cX4_within 11 = .ok (.goto 4, 3) := by decide +kernel
theorem dX4_within_14 : decode cX4_within 14 = .ok (.iconst 0, 1) := by decide +kernel
theorem dX4_within_15 : decode cX4_within 15 = .ok (.ireturn, 1) := by decide +kernel
theorem dX4_oneIf_0 : decode cX4_oneIf 0 = .ok (.iload_n 0, 1) := by decide +kernel
theorem dX4_oneIf_1 : decode cX4_oneIf 1 = .ok (.ifCond .eq 7, 3) := by decide +kernel
theorem dX4_oneIf_4 : decode cX4_oneIf 4 = .ok (.iconst 1, 1) := by decide +kernel
theorem dX4_oneIf_5 : decode cX4_oneIf 5 = .ok (.goto 4, 3) := by decide +kernel
theorem dX4_oneIf_8 : decode cX4_oneIf 8 = .ok (.iconst 0, 1) := by decide +kernel
theorem dX4_oneIf_9 : decode cX4_oneIf 9 = .ok (.ireturn, 1) := by decide +kernel
theorem dX4_crept_0 : decode cX4_crept 0 = .ok (.iload_n 0, 1) := by decide +kernel
theorem dX4_crept_1 : decode cX4_crept 1 = .ok (.iload_n 0, 1) := by decide +kernel
theorem dX4_crept_2 : decode cX4_crept 2 = .ok (.iload_n 1, 1) := by decide +kernel
theorem dX4_crept_3 : decode cX4_crept 3 = .ok (.imul, 1) := by decide +kernel
theorem dX4_crept_4 : decode cX4_crept 4 = .ok (.sipush 999, 3) := by decide +kernel
theorem dX4_crept_7 : decode cX4_crept 7 = .ok (.iadd, 1) := by decide +kernel
theorem dX4_crept_8 : decode cX4_crept 8 = .ok (.sipush 1000, 3) := by decide +kernel
theorem dX4_crept_11 : decode cX4_crept 11 = .ok (.idiv, 1) := by decide +kernel
theorem dX4_crept_12 : decode cX4_crept 12 = .ok (.isub, 1) := by decide +kernel
theorem dX4_crept_13 : decode cX4_crept 13 = .ok (.ireturn, 1) := by decide +kernel
theorem dJ6_bitCount_0f7a4_0 : decode cJ6_bitCount_0f7a4 0 = .ok (.iload_n 0, 1) := by decide +kernel
theorem dJ6_bitCount_0f7a4_1 : decode cJ6_bitCount_0f7a4 1 = .ok (.iload_n 0, 1) := by decide +kernel
theorem dJ6_bitCount_0f7a4_2 : decode cJ6_bitCount_0f7a4 2 = .ok (.iconst 1, 1) := by decide +kernel
theorem dJ6_bitCount_0f7a4_3 : decode cJ6_bitCount_0f7a4 3 = .ok (.iushr, 1) := by decide +kernel
theorem dJ6_bitCount_0f7a4_4 : decode cJ6_bitCount_0f7a4 4 = .ok (.ldc_w 265, 3) := by decide +kernel
theorem dJ6_bitCount_0f7a4_7 : decode cJ6_bitCount_0f7a4 7 = .ok (.iand, 1) := by decide +kernel
theorem dJ6_bitCount_0f7a4_8 : decode cJ6_bitCount_0f7a4 8 = .ok (.isub, 1) := by decide +kernel
theorem dJ6_bitCount_0f7a4_9 : decode cJ6_bitCount_0f7a4 9 = .ok (.istore_n 0, 1) := by decide +kernel
theorem dJ6_bitCount_0f7a4_10 : decode cJ6_bitCount_0f7a4 10 = .ok (.iload_n 0, 1) := by decide +kernel
theorem dJ6_bitCount_0f7a4_11 : decode cJ6_bitCount_0f7a4 11 = .ok (.ldc_w 266, 3) := by decide +kernel
theorem dJ6_bitCount_0f7a4_14 : decode cJ6_bitCount_0f7a4 14 = .ok (.iand, 1) := by decide +kernel
theorem dJ6_bitCount_0f7a4_15 : decode cJ6_bitCount_0f7a4 15 = .ok (.iload_n 0, 1) := by decide +kernel
theorem dJ6_bitCount_0f7a4_16 : decode cJ6_bitCount_0f7a4 16 = .ok (.iconst 2, 1) := by decide +kernel
theorem dJ6_bitCount_0f7a4_17 : decode cJ6_bitCount_0f7a4 17 = .ok (.iushr, 1) := by decide +kernel
theorem dJ6_bitCount_0f7a4_18 : decode cJ6_bitCount_0f7a4 18 = .ok (.ldc_w 266, 3) := by decide +kernel
theorem dJ6_bitCount_0f7a4_21 : decode cJ6_bitCount_0f7a4 21 = .ok (.iand, 1) := by decide +kernel
theorem dJ6_bitCount_0f7a4_22 : decode cJ6_bitCount_0f7a4 22 = .ok (.iadd, 1) := by decide +kernel
theorem dJ6_bitCount_0f7a4_23 : decode cJ6_bitCount_0f7a4 23 = .ok (.istore_n 0, 1) := by decide +kernel
theorem dJ6_bitCount_0f7a4_24 : decode cJ6_bitCount_0f7a4 24 = .ok (.iload_n 0, 1) := by decide +kernel
theorem dJ6_bitCount_0f7a4_25 : decode cJ6_bitCount_0f7a4 25 = .ok (.iload_n 0, 1) := by decide +kernel
theorem dJ6_bitCount_0f7a4_26 : decode cJ6_bitCount_0f7a4 26 = .ok (.iconst 4, 1) := by decide +kernel
theorem dJ6_bitCount_0f7a4_27 : decode cJ6_bitCount_0f7a4 27 = .ok (.iushr, 1) := by decide +kernel
theorem dJ6_bitCount_0f7a4_28 : decode cJ6_bitCount_0f7a4 28 = .ok (.iadd, 1) := by decide +kernel
theorem dJ6_bitCount_0f7a4_29 : decode cJ6_bitCount_0f7a4 29 = .ok (.ldc_w 267, 3) := by decide +kernel
theorem dJ6_bitCount_0f7a4_32 : decode cJ6_bitCount_0f7a4 32 = .ok (.iand, 1) := by decide +kernel
theorem dJ6_bitCount_0f7a4_33 : decode cJ6_bitCount_0f7a4 33 = .ok (.istore_n 0, 1) := by decide +kernel
theorem dJ6_bitCount_0f7a4_34 : decode cJ6_bitCount_0f7a4 34 = .ok (.iload_n 0, 1) := by decide +kernel
theorem dJ6_bitCount_0f7a4_35 : decode cJ6_bitCount_0f7a4 35 = .ok (.iload_n 0, 1) := by decide +kernel
theorem dJ6_bitCount_0f7a4_36 : decode cJ6_bitCount_0f7a4 36 = .ok (.bipush 8, 2) := by decide +kernel
theorem dJ6_bitCount_0f7a4_38 : decode cJ6_bitCount_0f7a4 38 = .ok (.iushr, 1) := by decide +kernel
theorem dJ6_bitCount_0f7a4_39 : decode cJ6_bitCount_0f7a4 39 = .ok (.iadd, 1) := by decide +kernel
theorem dJ6_bitCount_0f7a4_40 : decode cJ6_bitCount_0f7a4 40 = .ok (.istore_n 0, 1) := by decide +kernel
theorem dJ6_bitCount_0f7a4_41 : decode cJ6_bitCount_0f7a4 41 = .ok (.iload_n 0, 1) := by decide +kernel
theorem dJ6_bitCount_0f7a4_42 : decode cJ6_bitCount_0f7a4 42 = .ok (.iload_n 0, 1) := by decide +kernel
theorem dJ6_bitCount_0f7a4_43 : decode cJ6_bitCount_0f7a4 43 = .ok (.bipush 16, 2) := by decide +kernel
theorem dJ6_bitCount_0f7a4_45 : decode cJ6_bitCount_0f7a4 45 = .ok (.iushr, 1) := by decide +kernel
theorem dJ6_bitCount_0f7a4_46 : decode cJ6_bitCount_0f7a4 46 = .ok (.iadd, 1) := by decide +kernel
theorem dJ6_bitCount_0f7a4_47 : decode cJ6_bitCount_0f7a4 47 = .ok (.istore_n 0, 1) := by decide +kernel
theorem dJ6_bitCount_0f7a4_48 : decode cJ6_bitCount_0f7a4 48 = .ok (.iload_n 0, 1) := by decide +kernel
theorem dJ6_bitCount_0f7a4_49 : decode cJ6_bitCount_0f7a4 49 = .ok (.bipush 63, 2) := by decide +kernel
theorem dJ6_bitCount_0f7a4_51 : decode cJ6_bitCount_0f7a4 51 = .ok (.iand, 1) := by decide +kernel
theorem dJ6_bitCount_0f7a4_52 : decode cJ6_bitCount_0f7a4 52 = .ok (.ireturn, 1) := by decide +kernel
theorem dJ9_abs_0f7a4_0 : decode cJ9_abs_0f7a4 0 = .ok (.iload_n 0, 1) := by decide +kernel
theorem dJ9_abs_0f7a4_1 : decode cJ9_abs_0f7a4 1 = .ok (.ifCond .ge 8, 3) := by decide +kernel
theorem dJ9_abs_0f7a4_4 : decode cJ9_abs_0f7a4 4 = .ok (.iload_n 0, 1) := by decide +kernel
theorem dJ9_abs_0f7a4_5 : decode cJ9_abs_0f7a4 5 = .ok (.ineg, 1) := by decide +kernel
theorem dJ9_abs_0f7a4_6 : decode cJ9_abs_0f7a4 6 = .ok (.goto 4, 3) := by decide +kernel
theorem dJ9_abs_0f7a4_9 : decode cJ9_abs_0f7a4 9 = .ok (.iload_n 0, 1) := by decide +kernel
theorem dJ9_abs_0f7a4_10 : decode cJ9_abs_0f7a4 10 = .ok (.ireturn, 1) := by decide +kernel
theorem dJ9_max_7cf53_0 : decode cJ9_max_7cf53 0 = .ok (.iload_n 0, 1) := by decide +kernel
theorem dJ9_max_7cf53_1 : decode cJ9_max_7cf53 1 = .ok (.iload_n 1, 1) := by decide +kernel
theorem dJ9_max_7cf53_2 : decode cJ9_max_7cf53 2 = .ok (.if_icmp .lt 7, 3) := by decide +kernel
theorem dJ9_max_7cf53_5 : decode cJ9_max_7cf53 5 = .ok (.iload_n 0, 1) := by decide +kernel
theorem dJ9_max_7cf53_6 : decode cJ9_max_7cf53 6 = .ok (.goto 4, 3) := by decide +kernel
theorem dJ9_max_7cf53_9 : decode cJ9_max_7cf53 9 = .ok (.iload_n 1, 1) := by decide +kernel
theorem dJ9_max_7cf53_10 : decode cJ9_max_7cf53 10 = .ok (.ireturn, 1) := by decide +kernel
theorem dJ9_min_7cf53_0 : decode cJ9_min_7cf53 0 = .ok (.iload_n 0, 1) := by decide +kernel
theorem dJ9_min_7cf53_1 : decode cJ9_min_7cf53 1 = .ok (.iload_n 1, 1) := by decide +kernel
theorem dJ9_min_7cf53_2 : decode cJ9_min_7cf53 2 = .ok (.if_icmp .gt 7, 3) := by decide +kernel
theorem dJ9_min_7cf53_5 : decode cJ9_min_7cf53 5 = .ok (.iload_n 0, 1) := by decide +kernel
theorem dJ9_min_7cf53_6 : decode cJ9_min_7cf53 6 = .ok (.goto 4, 3) := by decide +kernel
theorem dJ9_min_7cf53_9 : decode cJ9_min_7cf53 9 = .ok (.iload_n 1, 1) := by decide +kernel
theorem dJ9_min_7cf53_10 : decode cJ9_min_7cf53 10 = .ok (.ireturn, 1) := by decide +kernel
theorem dJ9_min_f86c9_0 : decode cJ9_min_f86c9 0 = .ok (.lload_n 0, 1) := by decide +kernel
theorem dJ9_min_f86c9_1 : decode cJ9_min_f86c9 1 = .ok (.lload_n 2, 1) := by decide +kernel
theorem dJ9_min_f86c9_2 : decode cJ9_min_f86c9 2 = .ok (.lcmp, 1) := by decide +kernel
theorem dJ9_min_f86c9_3 : decode cJ9_min_f86c9 3 = .ok (.ifCond .gt 7, 3) := by decide +kernel
theorem dJ9_min_f86c9_6 : decode cJ9_min_f86c9 6 = .ok (.lload_n 0, 1) := by decide +kernel
theorem dJ9_min_f86c9_7 : decode cJ9_min_f86c9 7 = .ok (.goto 4, 3) := by decide +kernel
theorem dJ9_min_f86c9_10 : decode cJ9_min_f86c9 10 = .ok (.lload_n 2, 1) := by decide +kernel
theorem dJ9_min_f86c9_11 : decode cJ9_min_f86c9 11 = .ok (.lreturn, 1) := by decide +kernel
theorem dL_law_0 : decode cL_law 0 = .ok (.new 7, 3) := by decide +kernel
theorem dL_law_3 : decode cL_law 3 = .ok (.dup, 1) := by decide +kernel
theorem dL_law_4 : decode cL_law 4 = .ok (.invokespecial 9, 3) := by decide +kernel
theorem dL_law_7 : decode cL_law 7 = .ok (.astore_n 1, 1) := by decide +kernel
theorem dL_law_8 : decode cL_law 8 = .ok (.new 10, 3) := by decide +kernel
theorem dL_law_11 : decode cL_law 11 = .ok (.dup, 1) := by decide +kernel
theorem dL_law_12 : decode cL_law 12 = .ok (.invokespecial 12, 3) := by decide +kernel
theorem dL_law_15 : decode cL_law 15 = .ok (.astore_n 2, 1) := by decide +kernel
theorem dL_law_16 : decode cL_law 16 = .ok (.iconst 0, 1) := by decide +kernel
theorem dL_law_17 : decode cL_law 17 = .ok (.istore_n 3, 1) := by decide +kernel
theorem dL_law_18 : decode cL_law 18 = .ok (.iload_n 3, 1) := by decide +kernel
theorem dL_law_19 : decode cL_law 19 = .ok (.aload_n 0, 1) := by decide +kernel
theorem dL_law_20 : decode cL_law 20 = .ok (.arraylength, 1) := by decide +kernel
theorem dL_law_21 : decode cL_law 21 = .ok (.bipush 6, 2) := by decide +kernel
theorem dL_law_23 : decode cL_law 23 = .ok (.isub, 1) := by decide +kernel
theorem dL_law_24 : decode cL_law 24 = .ok (.if_icmp .gt 748, 3) := by decide +kernel
theorem dL_law_27 : decode cL_law 27 = .ok (.aload_n 0, 1) := by decide +kernel
theorem dL_law_28 : decode cL_law 28 = .ok (.iload_n 3, 1) := by decide +kernel
theorem dL_law_29 : decode cL_law 29 = .ok (.iaload, 1) := by decide +kernel
theorem dL_law_30 : decode cL_law 30 = .ok (.bipush 31, 2) := by decide +kernel
theorem dL_law_32 : decode cL_law 32 = .ok (.iand, 1) := by decide +kernel
theorem dL_law_33 : decode cL_law 33 = .ok (.tableswitch 733 0 23 #[111, 144, 207, 240, 263, 286, 299, 322, 355, 388, 411, 444, 477, 500, 523, 546, 559, 582, 635, 648, 661, 674, 687, 710], 111) := by decide +kernel
theorem dL_law_144 : decode cL_law 144 = .ok (.aload_n 1, 1) := by decide +kernel
theorem dL_law_145 : decode cL_law 145 = .ok (.aload_n 0, 1) := by decide +kernel
theorem dL_law_146 : decode cL_law 146 = .ok (.iload_n 3, 1) := by decide +kernel
theorem dL_law_147 : decode cL_law 147 = .ok (.iconst 1, 1) := by decide +kernel
theorem dL_law_148 : decode cL_law 148 = .ok (.iadd, 1) := by decide +kernel
theorem dL_law_149 : decode cL_law 149 = .ok (.iaload, 1) := by decide +kernel
theorem dL_law_150 : decode cL_law 150 = .ok (.aload_n 0, 1) := by decide +kernel
theorem dL_law_151 : decode cL_law 151 = .ok (.iload_n 3, 1) := by decide +kernel
theorem dL_law_152 : decode cL_law 152 = .ok (.iconst 2, 1) := by decide +kernel
theorem dL_law_153 : decode cL_law 153 = .ok (.iadd, 1) := by decide +kernel
theorem dL_law_154 : decode cL_law 154 = .ok (.iaload, 1) := by decide +kernel
theorem dL_law_155 : decode cL_law 155 = .ok (.invokevirtual 13, 3) := by decide +kernel
theorem dL_law_158 : decode cL_law 158 = .ok (.aload_n 2, 1) := by decide +kernel
theorem dL_law_159 : decode cL_law 159 = .ok (.aload_n 0, 1) := by decide +kernel
theorem dL_law_160 : decode cL_law 160 = .ok (.iload_n 3, 1) := by decide +kernel
theorem dL_law_161 : decode cL_law 161 = .ok (.iconst 1, 1) := by decide +kernel
theorem dL_law_162 : decode cL_law 162 = .ok (.iadd, 1) := by decide +kernel
theorem dL_law_163 : decode cL_law 163 = .ok (.iaload, 1) := by decide +kernel
theorem dL_law_164 : decode cL_law 164 = .ok (.aload_n 0, 1) := by decide +kernel
theorem dL_law_165 : decode cL_law 165 = .ok (.iload_n 3, 1) := by decide +kernel
theorem dL_law_166 : decode cL_law 166 = .ok (.iconst 2, 1) := by decide +kernel
theorem dL_law_167 : decode cL_law 167 = .ok (.iadd, 1) := by decide +kernel
theorem dL_law_168 : decode cL_law 168 = .ok (.iaload, 1) := by decide +kernel
theorem dL_law_169 : decode cL_law 169 = .ok (.invokevirtual 17, 3) := by decide +kernel
theorem dL_law_172 : decode cL_law 172 = .ok (.if_icmp .eq 594, 3) := by decide +kernel
theorem dL_law_175 : decode cL_law 175 = .ok (.iconst 0, 1) := by decide +kernel
theorem dL_law_176 : decode cL_law 176 = .ok (.ireturn, 1) := by decide +kernel
theorem dL_law_177 : decode cL_law 177 = .ok (.aload_n 1, 1) := by decide +kernel
theorem dL_law_178 : decode cL_law 178 = .ok (.aload_n 0, 1) := by decide +kernel
theorem dL_law_179 : decode cL_law 179 = .ok (.iload_n 3, 1) := by decide +kernel
theorem dL_law_180 : decode cL_law 180 = .ok (.iconst 1, 1) := by decide +kernel
theorem dL_law_181 : decode cL_law 181 = .ok (.iadd, 1) := by decide +kernel
theorem dL_law_182 : decode cL_law 182 = .ok (.iaload, 1) := by decide +kernel
theorem dL_law_183 : decode cL_law 183 = .ok (.aload_n 0, 1) := by decide +kernel
theorem dL_law_184 : decode cL_law 184 = .ok (.iload_n 3, 1) := by decide +kernel
theorem dL_law_185 : decode cL_law 185 = .ok (.iconst 2, 1) := by decide +kernel
theorem dL_law_186 : decode cL_law 186 = .ok (.iadd, 1) := by decide +kernel
theorem dL_law_187 : decode cL_law 187 = .ok (.iaload, 1) := by decide +kernel
theorem dL_law_188 : decode cL_law 188 = .ok (.aload_n 0, 1) := by decide +kernel
theorem dL_law_189 : decode cL_law 189 = .ok (.iload_n 3, 1) := by decide +kernel
theorem dL_law_190 : decode cL_law 190 = .ok (.iconst 3, 1) := by decide +kernel
theorem dL_law_191 : decode cL_law 191 = .ok (.iadd, 1) := by decide +kernel
theorem dL_law_192 : decode cL_law 192 = .ok (.iaload, 1) := by decide +kernel
theorem dL_law_193 : decode cL_law 193 = .ok (.aload_n 0, 1) := by decide +kernel
theorem dL_law_194 : decode cL_law 194 = .ok (.iload_n 3, 1) := by decide +kernel
theorem dL_law_195 : decode cL_law 195 = .ok (.iconst 4, 1) := by decide +kernel
theorem dL_law_196 : decode cL_law 196 = .ok (.iadd, 1) := by decide +kernel
theorem dL_law_197 : decode cL_law 197 = .ok (.iaload, 1) := by decide +kernel
theorem dL_law_198 : decode cL_law 198 = .ok (.aload_n 0, 1) := by decide +kernel
theorem dL_law_199 : decode cL_law 199 = .ok (.iload_n 3, 1) := by decide +kernel
theorem dL_law_200 : decode cL_law 200 = .ok (.iconst 5, 1) := by decide +kernel
theorem dL_law_201 : decode cL_law 201 = .ok (.iadd, 1) := by decide +kernel
theorem dL_law_202 : decode cL_law 202 = .ok (.iaload, 1) := by decide +kernel
theorem dL_law_203 : decode cL_law 203 = .ok (.invokevirtual 18, 3) := by decide +kernel
theorem dL_law_206 : decode cL_law 206 = .ok (.aload_n 2, 1) := by decide +kernel
theorem dL_law_207 : decode cL_law 207 = .ok (.aload_n 0, 1) := by decide +kernel
theorem dL_law_208 : decode cL_law 208 = .ok (.iload_n 3, 1) := by decide +kernel
theorem dL_law_209 : decode cL_law 209 = .ok (.iconst 1, 1) := by decide +kernel
theorem dL_law_210 : decode cL_law 210 = .ok (.iadd, 1) := by decide +kernel
theorem dL_law_211 : decode cL_law 211 = .ok (.iaload, 1) := by decide +kernel
theorem dL_law_212 : decode cL_law 212 = .ok (.aload_n 0, 1) := by decide +kernel
theorem dL_law_213 : decode cL_law 213 = .ok (.iload_n 3, 1) := by decide +kernel
theorem dL_law_214 : decode cL_law 214 = .ok (.iconst 2, 1) := by decide +kernel
theorem dL_law_215 : decode cL_law 215 = .ok (.iadd, 1) := by decide +kernel
theorem dL_law_216 : decode cL_law 216 = .ok (.iaload, 1) := by decide +kernel
theorem dL_law_217 : decode cL_law 217 = .ok (.aload_n 0, 1) := by decide +kernel
theorem dL_law_218 : decode cL_law 218 = .ok (.iload_n 3, 1) := by decide +kernel
theorem dL_law_219 : decode cL_law 219 = .ok (.iconst 3, 1) := by decide +kernel
theorem dL_law_220 : decode cL_law 220 = .ok (.iadd, 1) := by decide +kernel
theorem dL_law_221 : decode cL_law 221 = .ok (.iaload, 1) := by decide +kernel
theorem dL_law_222 : decode cL_law 222 = .ok (.aload_n 0, 1) := by decide +kernel
theorem dL_law_223 : decode cL_law 223 = .ok (.iload_n 3, 1) := by decide +kernel
theorem dL_law_224 : decode cL_law 224 = .ok (.iconst 4, 1) := by decide +kernel
theorem dL_law_225 : decode cL_law 225 = .ok (.iadd, 1) := by decide +kernel
theorem dL_law_226 : decode cL_law 226 = .ok (.iaload, 1) := by decide +kernel
theorem dL_law_227 : decode cL_law 227 = .ok (.aload_n 0, 1) := by decide +kernel
theorem dL_law_228 : decode cL_law 228 = .ok (.iload_n 3, 1) := by decide +kernel
theorem dL_law_229 : decode cL_law 229 = .ok (.iconst 5, 1) := by decide +kernel
theorem dL_law_230 : decode cL_law 230 = .ok (.iadd, 1) := by decide +kernel
theorem dL_law_231 : decode cL_law 231 = .ok (.iaload, 1) := by decide +kernel
theorem dL_law_232 : decode cL_law 232 = .ok (.invokevirtual 22, 3) := by decide +kernel
theorem dL_law_235 : decode cL_law 235 = .ok (.if_icmp .eq 531, 3) := by decide +kernel
theorem dL_law_238 : decode cL_law 238 = .ok (.iconst 0, 1) := by decide +kernel
theorem dL_law_239 : decode cL_law 239 = .ok (.ireturn, 1) := by decide +kernel
theorem dL_law_240 : decode cL_law 240 = .ok (.aload_n 1, 1) := by decide +kernel
theorem dL_law_241 : decode cL_law 241 = .ok (.aload_n 0, 1) := by decide +kernel
theorem dL_law_242 : decode cL_law 242 = .ok (.iload_n 3, 1) := by decide +kernel
theorem dL_law_243 : decode cL_law 243 = .ok (.iconst 1, 1) := by decide +kernel
theorem dL_law_244 : decode cL_law 244 = .ok (.iadd, 1) := by decide +kernel
theorem dL_law_245 : decode cL_law 245 = .ok (.iaload, 1) := by decide +kernel
theorem dL_law_246 : decode cL_law 246 = .ok (.aload_n 0, 1) := by decide +kernel
theorem dL_law_247 : decode cL_law 247 = .ok (.iload_n 3, 1) := by decide +kernel
theorem dL_law_248 : decode cL_law 248 = .ok (.iconst 2, 1) := by decide +kernel
theorem dL_law_249 : decode cL_law 249 = .ok (.iadd, 1) := by decide +kernel
theorem dL_law_250 : decode cL_law 250 = .ok (.iaload, 1) := by decide +kernel
theorem dL_law_251 : decode cL_law 251 = .ok (.invokevirtual 23, 3) := by decide +kernel
theorem dL_law_254 : decode cL_law 254 = .ok (.aload_n 2, 1) := by decide +kernel
theorem dL_law_255 : decode cL_law 255 = .ok (.aload_n 0, 1) := by decide +kernel
theorem dL_law_256 : decode cL_law 256 = .ok (.iload_n 3, 1) := by decide +kernel
theorem dL_law_257 : decode cL_law 257 = .ok (.iconst 1, 1) := by decide +kernel
theorem dL_law_258 : decode cL_law 258 = .ok (.iadd, 1) := by decide +kernel
theorem dL_law_259 : decode cL_law 259 = .ok (.iaload, 1) := by decide +kernel
theorem dL_law_260 : decode cL_law 260 = .ok (.aload_n 0, 1) := by decide +kernel
theorem dL_law_261 : decode cL_law 261 = .ok (.iload_n 3, 1) := by decide +kernel
theorem dL_law_262 : decode cL_law 262 = .ok (.iconst 2, 1) := by decide +kernel
theorem dL_law_263 : decode cL_law 263 = .ok (.iadd, 1) := by decide +kernel
theorem dL_law_264 : decode cL_law 264 = .ok (.iaload, 1) := by decide +kernel
theorem dL_law_265 : decode cL_law 265 = .ok (.invokevirtual 26, 3) := by decide +kernel
theorem dL_law_268 : decode cL_law 268 = .ok (.if_icmp .eq 498, 3) := by decide +kernel
theorem dL_law_271 : decode cL_law 271 = .ok (.iconst 0, 1) := by decide +kernel
theorem dL_law_272 : decode cL_law 272 = .ok (.ireturn, 1) := by decide +kernel
theorem dL_law_273 : decode cL_law 273 = .ok (.aload_n 1, 1) := by decide +kernel
theorem dL_law_274 : decode cL_law 274 = .ok (.aload_n 0, 1) := by decide +kernel
theorem dL_law_275 : decode cL_law 275 = .ok (.iload_n 3, 1) := by decide +kernel
theorem dL_law_276 : decode cL_law 276 = .ok (.iconst 1, 1) := by decide +kernel
theorem dL_law_277 : decode cL_law 277 = .ok (.iadd, 1) := by decide +kernel
theorem dL_law_278 : decode cL_law 278 = .ok (.iaload, 1) := by decide +kernel
theorem dL_law_279 : decode cL_law 279 = .ok (.invokevirtual 27, 3) := by decide +kernel
theorem dL_law_282 : decode cL_law 282 = .ok (.aload_n 2, 1) := by decide +kernel
theorem dL_law_283 : decode cL_law 283 = .ok (.aload_n 0, 1) := by decide +kernel
theorem dL_law_284 : decode cL_law 284 = .ok (.iload_n 3, 1) := by decide +kernel
theorem dL_law_285 : decode cL_law 285 = .ok (.iconst 1, 1) := by decide +kernel
theorem dL_law_286 : decode cL_law 286 = .ok (.iadd, 1) := by decide +kernel
theorem dL_law_287 : decode cL_law 287 = .ok (.iaload, 1) := by decide +kernel
theorem dL_law_288 : decode cL_law 288 = .ok (.invokevirtual 31, 3) := by decide +kernel
theorem dL_law_291 : decode cL_law 291 = .ok (.if_icmp .eq 475, 3) := by decide +kernel
theorem dL_law_294 : decode cL_law 294 = .ok (.iconst 0, 1) := by decide +kernel
theorem dL_law_295 : decode cL_law 295 = .ok (.ireturn, 1) := by decide +kernel
theorem dL_law_296 : decode cL_law 296 = .ok (.aload_n 1, 1) := by decide +kernel
theorem dL_law_297 : decode cL_law 297 = .ok (.aload_n 0, 1) := by decide +kernel
theorem dL_law_298 : decode cL_law 298 = .ok (.iload_n 3, 1) := by decide +kernel
theorem dL_law_299 : decode cL_law 299 = .ok (.iconst 1, 1) := by decide +kernel
theorem dL_law_300 : decode cL_law 300 = .ok (.iadd, 1) := by decide +kernel
theorem dL_law_301 : decode cL_law 301 = .ok (.iaload, 1) := by decide +kernel
theorem dL_law_302 : decode cL_law 302 = .ok (.invokevirtual 32, 3) := by decide +kernel
theorem dL_law_305 : decode cL_law 305 = .ok (.aload_n 2, 1) := by decide +kernel
theorem dL_law_306 : decode cL_law 306 = .ok (.aload_n 0, 1) := by decide +kernel
theorem dL_law_307 : decode cL_law 307 = .ok (.iload_n 3, 1) := by decide +kernel
theorem dL_law_308 : decode cL_law 308 = .ok (.iconst 1, 1) := by decide +kernel
theorem dL_law_309 : decode cL_law 309 = .ok (.iadd, 1) := by decide +kernel
theorem dL_law_310 : decode cL_law 310 = .ok (.iaload, 1) := by decide +kernel
theorem dL_law_311 : decode cL_law 311 = .ok (.invokevirtual 35, 3) := by decide +kernel
theorem dL_law_314 : decode cL_law 314 = .ok (.if_icmp .eq 452, 3) := by decide +kernel
theorem dL_law_317 : decode cL_law 317 = .ok (.iconst 0, 1) := by decide +kernel
theorem dL_law_318 : decode cL_law 318 = .ok (.ireturn, 1) := by decide +kernel
theorem dL_law_319 : decode cL_law 319 = .ok (.aload_n 1, 1) := by decide +kernel
theorem dL_law_320 : decode cL_law 320 = .ok (.invokevirtual 36, 3) := by decide +kernel
theorem dL_law_323 : decode cL_law 323 = .ok (.aload_n 2, 1) := by decide +kernel
theorem dL_law_324 : decode cL_law 324 = .ok (.invokevirtual 40, 3) := by decide +kernel
theorem dL_law_327 : decode cL_law 327 = .ok (.if_icmp .eq 439, 3) := by decide +kernel
theorem dL_law_330 : decode cL_law 330 = .ok (.iconst 0, 1) := by decide +kernel
theorem dL_law_331 : decode cL_law 331 = .ok (.ireturn, 1) := by decide +kernel
theorem dL_law_332 : decode cL_law 332 = .ok (.aload_n 1, 1) := by decide +kernel
theorem dL_law_333 : decode cL_law 333 = .ok (.aload_n 0, 1) := by decide +kernel
theorem dL_law_334 : decode cL_law 334 = .ok (.iload_n 3, 1) := by decide +kernel
theorem dL_law_335 : decode cL_law 335 = .ok (.iconst 1, 1) := by decide +kernel
theorem dL_law_336 : decode cL_law 336 = .ok (.iadd, 1) := by decide +kernel
theorem dL_law_337 : decode cL_law 337 = .ok (.iaload, 1) := by decide +kernel
theorem dL_law_338 : decode cL_law 338 = .ok (.invokevirtual 41, 3) := by decide +kernel
theorem dL_law_341 : decode cL_law 341 = .ok (.aload_n 2, 1) := by decide +kernel
theorem dL_law_342 : decode cL_law 342 = .ok (.aload_n 0, 1) := by decide +kernel
theorem dL_law_343 : decode cL_law 343 = .ok (.iload_n 3, 1) := by decide +kernel
theorem dL_law_344 : decode cL_law 344 = .ok (.iconst 1, 1) := by decide +kernel
theorem dL_law_345 : decode cL_law 345 = .ok (.iadd, 1) := by decide +kernel
theorem dL_law_346 : decode cL_law 346 = .ok (.iaload, 1) := by decide +kernel
theorem dL_law_347 : decode cL_law 347 = .ok (.invokevirtual 44, 3) := by decide +kernel
theorem dL_law_350 : decode cL_law 350 = .ok (.if_icmp .eq 416, 3) := by decide +kernel
theorem dL_law_353 : decode cL_law 353 = .ok (.iconst 0, 1) := by decide +kernel
theorem dL_law_354 : decode cL_law 354 = .ok (.ireturn, 1) := by decide +kernel
theorem dL_law_355 : decode cL_law 355 = .ok (.aload_n 1, 1) := by decide +kernel
theorem dL_law_356 : decode cL_law 356 = .ok (.aload_n 0, 1) := by decide +kernel
theorem dL_law_357 : decode cL_law 357 = .ok (.iload_n 3, 1) := by decide +kernel
theorem dL_law_358 : decode cL_law 358 = .ok (.iconst 1, 1) := by decide +kernel
theorem dL_law_359 : decode cL_law 359 = .ok (.iadd, 1) := by decide +kernel
theorem dL_law_360 : decode cL_law 360 = .ok (.iaload, 1) := by decide +kernel
theorem dL_law_361 : decode cL_law 361 = .ok (.aload_n 0, 1) := by decide +kernel
theorem dL_law_362 : decode cL_law 362 = .ok (.iload_n 3, 1) := by decide +kernel
theorem dL_law_363 : decode cL_law 363 = .ok (.iconst 2, 1) := by decide +kernel
theorem dL_law_364 : decode cL_law 364 = .ok (.iadd, 1) := by decide +kernel
theorem dL_law_365 : decode cL_law 365 = .ok (.iaload, 1) := by decide +kernel
theorem dL_law_366 : decode cL_law 366 = .ok (.invokevirtual 45, 3) := by decide +kernel
theorem dL_law_369 : decode cL_law 369 = .ok (.aload_n 2, 1) := by decide +kernel
theorem dL_law_370 : decode cL_law 370 = .ok (.aload_n 0, 1) := by decide +kernel
theorem dL_law_371 : decode cL_law 371 = .ok (.iload_n 3, 1) := by decide +kernel
theorem dL_law_372 : decode cL_law 372 = .ok (.iconst 1, 1) := by decide +kernel
theorem dL_law_373 : decode cL_law 373 = .ok (.iadd, 1) := by decide +kernel
theorem dL_law_374 : decode cL_law 374 = .ok (.iaload, 1) := by decide +kernel
theorem dL_law_375 : decode cL_law 375 = .ok (.aload_n 0, 1) := by decide +kernel
theorem dL_law_376 : decode cL_law 376 = .ok (.iload_n 3, 1) := by decide +kernel
theorem dL_law_377 : decode cL_law 377 = .ok (.iconst 2, 1) := by decide +kernel
theorem dL_law_378 : decode cL_law 378 = .ok (.iadd, 1) := by decide +kernel
theorem dL_law_379 : decode cL_law 379 = .ok (.iaload, 1) := by decide +kernel
theorem dL_law_380 : decode cL_law 380 = .ok (.invokevirtual 48, 3) := by decide +kernel
theorem dL_law_383 : decode cL_law 383 = .ok (.if_icmp .eq 383, 3) := by decide +kernel
theorem dL_law_386 : decode cL_law 386 = .ok (.iconst 0, 1) := by decide +kernel
theorem dL_law_387 : decode cL_law 387 = .ok (.ireturn, 1) := by decide +kernel
theorem dL_law_388 : decode cL_law 388 = .ok (.aload_n 1, 1) := by decide +kernel
theorem dL_law_389 : decode cL_law 389 = .ok (.aload_n 0, 1) := by decide +kernel
theorem dL_law_390 : decode cL_law 390 = .ok (.iload_n 3, 1) := by decide +kernel
theorem dL_law_391 : decode cL_law 391 = .ok (.iconst 1, 1) := by decide +kernel
theorem dL_law_392 : decode cL_law 392 = .ok (.iadd, 1) := by decide +kernel
theorem dL_law_393 : decode cL_law 393 = .ok (.iaload, 1) := by decide +kernel
theorem dL_law_394 : decode cL_law 394 = .ok (.aload_n 0, 1) := by decide +kernel
theorem dL_law_395 : decode cL_law 395 = .ok (.iload_n 3, 1) := by decide +kernel
theorem dL_law_396 : decode cL_law 396 = .ok (.iconst 2, 1) := by decide +kernel
theorem dL_law_397 : decode cL_law 397 = .ok (.iadd, 1) := by decide +kernel
theorem dL_law_398 : decode cL_law 398 = .ok (.iaload, 1) := by decide +kernel
theorem dL_law_399 : decode cL_law 399 = .ok (.invokevirtual 49, 3) := by decide +kernel
theorem dL_law_402 : decode cL_law 402 = .ok (.aload_n 2, 1) := by decide +kernel
theorem dL_law_403 : decode cL_law 403 = .ok (.aload_n 0, 1) := by decide +kernel
theorem dL_law_404 : decode cL_law 404 = .ok (.iload_n 3, 1) := by decide +kernel
theorem dL_law_405 : decode cL_law 405 = .ok (.iconst 1, 1) := by decide +kernel
theorem dL_law_406 : decode cL_law 406 = .ok (.iadd, 1) := by decide +kernel
theorem dL_law_407 : decode cL_law 407 = .ok (.iaload, 1) := by decide +kernel
theorem dL_law_408 : decode cL_law 408 = .ok (.aload_n 0, 1) := by decide +kernel
theorem dL_law_409 : decode cL_law 409 = .ok (.iload_n 3, 1) := by decide +kernel
theorem dL_law_410 : decode cL_law 410 = .ok (.iconst 2, 1) := by decide +kernel
theorem dL_law_411 : decode cL_law 411 = .ok (.iadd, 1) := by decide +kernel
theorem dL_law_412 : decode cL_law 412 = .ok (.iaload, 1) := by decide +kernel
theorem dL_law_413 : decode cL_law 413 = .ok (.invokevirtual 52, 3) := by decide +kernel
theorem dL_law_416 : decode cL_law 416 = .ok (.if_icmp .eq 350, 3) := by decide +kernel
theorem dL_law_419 : decode cL_law 419 = .ok (.iconst 0, 1) := by decide +kernel
theorem dL_law_420 : decode cL_law 420 = .ok (.ireturn, 1) := by decide +kernel
theorem dL_law_421 : decode cL_law 421 = .ok (.aload_n 1, 1) := by decide +kernel
theorem dL_law_422 : decode cL_law 422 = .ok (.aload_n 0, 1) := by decide +kernel
theorem dL_law_423 : decode cL_law 423 = .ok (.iload_n 3, 1) := by decide +kernel
theorem dL_law_424 : decode cL_law 424 = .ok (.iconst 1, 1) := by decide +kernel
theorem dL_law_425 : decode cL_law 425 = .ok (.iadd, 1) := by decide +kernel
theorem dL_law_426 : decode cL_law 426 = .ok (.iaload, 1) := by decide +kernel
theorem dL_law_427 : decode cL_law 427 = .ok (.invokevirtual 53, 3) := by decide +kernel
theorem dL_law_430 : decode cL_law 430 = .ok (.aload_n 2, 1) := by decide +kernel
theorem dL_law_431 : decode cL_law 431 = .ok (.aload_n 0, 1) := by decide +kernel
theorem dL_law_432 : decode cL_law 432 = .ok (.iload_n 3, 1) := by decide +kernel
theorem dL_law_433 : decode cL_law 433 = .ok (.iconst 1, 1) := by decide +kernel
theorem dL_law_434 : decode cL_law 434 = .ok (.iadd, 1) := by decide +kernel
theorem dL_law_435 : decode cL_law 435 = .ok (.iaload, 1) := by decide +kernel
theorem dL_law_436 : decode cL_law 436 = .ok (.invokevirtual 56, 3) := by decide +kernel
theorem dL_law_439 : decode cL_law 439 = .ok (.if_icmp .eq 327, 3) := by decide +kernel
theorem dL_law_442 : decode cL_law 442 = .ok (.iconst 0, 1) := by decide +kernel
theorem dL_law_443 : decode cL_law 443 = .ok (.ireturn, 1) := by decide +kernel
theorem dL_law_444 : decode cL_law 444 = .ok (.aload_n 1, 1) := by decide +kernel
theorem dL_law_445 : decode cL_law 445 = .ok (.aload_n 0, 1) := by decide +kernel
theorem dL_law_446 : decode cL_law 446 = .ok (.iload_n 3, 1) := by decide +kernel
theorem dL_law_447 : decode cL_law 447 = .ok (.iconst 1, 1) := by decide +kernel
theorem dL_law_448 : decode cL_law 448 = .ok (.iadd, 1) := by decide +kernel
theorem dL_law_449 : decode cL_law 449 = .ok (.iaload, 1) := by decide +kernel
theorem dL_law_450 : decode cL_law 450 = .ok (.aload_n 0, 1) := by decide +kernel
theorem dL_law_451 : decode cL_law 451 = .ok (.iload_n 3, 1) := by decide +kernel
theorem dL_law_452 : decode cL_law 452 = .ok (.iconst 2, 1) := by decide +kernel
theorem dL_law_453 : decode cL_law 453 = .ok (.iadd, 1) := by decide +kernel
theorem dL_law_454 : decode cL_law 454 = .ok (.iaload, 1) := by decide +kernel
theorem dL_law_455 : decode cL_law 455 = .ok (.invokevirtual 57, 3) := by decide +kernel
theorem dL_law_458 : decode cL_law 458 = .ok (.aload_n 2, 1) := by decide +kernel
theorem dL_law_459 : decode cL_law 459 = .ok (.aload_n 0, 1) := by decide +kernel
theorem dL_law_460 : decode cL_law 460 = .ok (.iload_n 3, 1) := by decide +kernel
theorem dL_law_461 : decode cL_law 461 = .ok (.iconst 1, 1) := by decide +kernel
theorem dL_law_462 : decode cL_law 462 = .ok (.iadd, 1) := by decide +kernel
theorem dL_law_463 : decode cL_law 463 = .ok (.iaload, 1) := by decide +kernel
theorem dL_law_464 : decode cL_law 464 = .ok (.aload_n 0, 1) := by decide +kernel
theorem dL_law_465 : decode cL_law 465 = .ok (.iload_n 3, 1) := by decide +kernel
theorem dL_law_466 : decode cL_law 466 = .ok (.iconst 2, 1) := by decide +kernel
theorem dL_law_467 : decode cL_law 467 = .ok (.iadd, 1) := by decide +kernel
theorem dL_law_468 : decode cL_law 468 = .ok (.iaload, 1) := by decide +kernel
theorem dL_law_469 : decode cL_law 469 = .ok (.invokevirtual 60, 3) := by decide +kernel
theorem dL_law_472 : decode cL_law 472 = .ok (.if_icmp .eq 294, 3) := by decide +kernel
theorem dL_law_475 : decode cL_law 475 = .ok (.iconst 0, 1) := by decide +kernel
theorem dL_law_476 : decode cL_law 476 = .ok (.ireturn, 1) := by decide +kernel
theorem dL_law_477 : decode cL_law 477 = .ok (.aload_n 1, 1) := by decide +kernel
theorem dL_law_478 : decode cL_law 478 = .ok (.aload_n 0, 1) := by decide +kernel
theorem dL_law_479 : decode cL_law 479 = .ok (.iload_n 3, 1) := by decide +kernel
theorem dL_law_480 : decode cL_law 480 = .ok (.iconst 1, 1) := by decide +kernel
theorem dL_law_481 : decode cL_law 481 = .ok (.iadd, 1) := by decide +kernel
theorem dL_law_482 : decode cL_law 482 = .ok (.iaload, 1) := by decide +kernel
theorem dL_law_483 : decode cL_law 483 = .ok (.aload_n 0, 1) := by decide +kernel
theorem dL_law_484 : decode cL_law 484 = .ok (.iload_n 3, 1) := by decide +kernel
theorem dL_law_485 : decode cL_law 485 = .ok (.iconst 2, 1) := by decide +kernel
theorem dL_law_486 : decode cL_law 486 = .ok (.iadd, 1) := by decide +kernel
theorem dL_law_487 : decode cL_law 487 = .ok (.iaload, 1) := by decide +kernel
theorem dL_law_488 : decode cL_law 488 = .ok (.invokevirtual 61, 3) := by decide +kernel
theorem dL_law_491 : decode cL_law 491 = .ok (.aload_n 2, 1) := by decide +kernel
theorem dL_law_492 : decode cL_law 492 = .ok (.aload_n 0, 1) := by decide +kernel
theorem dL_law_493 : decode cL_law 493 = .ok (.iload_n 3, 1) := by decide +kernel
theorem dL_law_494 : decode cL_law 494 = .ok (.iconst 1, 1) := by decide +kernel
theorem dL_law_495 : decode cL_law 495 = .ok (.iadd, 1) := by decide +kernel
theorem dL_law_496 : decode cL_law 496 = .ok (.iaload, 1) := by decide +kernel
theorem dL_law_497 : decode cL_law 497 = .ok (.aload_n 0, 1) := by decide +kernel
theorem dL_law_498 : decode cL_law 498 = .ok (.iload_n 3, 1) := by decide +kernel
theorem dL_law_499 : decode cL_law 499 = .ok (.iconst 2, 1) := by decide +kernel
theorem dL_law_500 : decode cL_law 500 = .ok (.iadd, 1) := by decide +kernel
theorem dL_law_501 : decode cL_law 501 = .ok (.iaload, 1) := by decide +kernel
theorem dL_law_502 : decode cL_law 502 = .ok (.invokevirtual 64, 3) := by decide +kernel
theorem dL_law_505 : decode cL_law 505 = .ok (.if_icmp .eq 261, 3) := by decide +kernel
theorem dL_law_508 : decode cL_law 508 = .ok (.iconst 0, 1) := by decide +kernel
theorem dL_law_509 : decode cL_law 509 = .ok (.ireturn, 1) := by decide +kernel
theorem dL_law_510 : decode cL_law 510 = .ok (.aload_n 1, 1) := by decide +kernel
theorem dL_law_511 : decode cL_law 511 = .ok (.aload_n 0, 1) := by decide +kernel
theorem dL_law_512 : decode cL_law 512 = .ok (.iload_n 3, 1) := by decide +kernel
theorem dL_law_513 : decode cL_law 513 = .ok (.iconst 1, 1) := by decide +kernel
theorem dL_law_514 : decode cL_law 514 = .ok (.iadd, 1) := by decide +kernel
theorem dL_law_515 : decode cL_law 515 = .ok (.iaload, 1) := by decide +kernel
theorem dL_law_516 : decode cL_law 516 = .ok (.invokevirtual 65, 3) := by decide +kernel
theorem dL_law_519 : decode cL_law 519 = .ok (.aload_n 2, 1) := by decide +kernel
theorem dL_law_520 : decode cL_law 520 = .ok (.aload_n 0, 1) := by decide +kernel
theorem dL_law_521 : decode cL_law 521 = .ok (.iload_n 3, 1) := by decide +kernel
theorem dL_law_522 : decode cL_law 522 = .ok (.iconst 1, 1) := by decide +kernel
theorem dL_law_523 : decode cL_law 523 = .ok (.iadd, 1) := by decide +kernel
theorem dL_law_524 : decode cL_law 524 = .ok (.iaload, 1) := by decide +kernel
theorem dL_law_525 : decode cL_law 525 = .ok (.invokevirtual 68, 3) := by decide +kernel
theorem dL_law_528 : decode cL_law 528 = .ok (.if_icmp .eq 238, 3) := by decide +kernel
theorem dL_law_531 : decode cL_law 531 = .ok (.iconst 0, 1) := by decide +kernel
theorem dL_law_532 : decode cL_law 532 = .ok (.ireturn, 1) := by decide +kernel
theorem dL_law_533 : decode cL_law 533 = .ok (.aload_n 1, 1) := by decide +kernel
theorem dL_law_534 : decode cL_law 534 = .ok (.aload_n 0, 1) := by decide +kernel
theorem dL_law_535 : decode cL_law 535 = .ok (.iload_n 3, 1) := by decide +kernel
theorem dL_law_536 : decode cL_law 536 = .ok (.iconst 1, 1) := by decide +kernel
theorem dL_law_537 : decode cL_law 537 = .ok (.iadd, 1) := by decide +kernel
theorem dL_law_538 : decode cL_law 538 = .ok (.iaload, 1) := by decide +kernel
theorem dL_law_539 : decode cL_law 539 = .ok (.invokevirtual 69, 3) := by decide +kernel
theorem dL_law_542 : decode cL_law 542 = .ok (.aload_n 2, 1) := by decide +kernel
theorem dL_law_543 : decode cL_law 543 = .ok (.aload_n 0, 1) := by decide +kernel
theorem dL_law_544 : decode cL_law 544 = .ok (.iload_n 3, 1) := by decide +kernel
theorem dL_law_545 : decode cL_law 545 = .ok (.iconst 1, 1) := by decide +kernel
theorem dL_law_546 : decode cL_law 546 = .ok (.iadd, 1) := by decide +kernel
theorem dL_law_547 : decode cL_law 547 = .ok (.iaload, 1) := by decide +kernel
theorem dL_law_548 : decode cL_law 548 = .ok (.invokevirtual 72, 3) := by decide +kernel
theorem dL_law_551 : decode cL_law 551 = .ok (.if_icmp .eq 215, 3) := by decide +kernel
theorem dL_law_554 : decode cL_law 554 = .ok (.iconst 0, 1) := by decide +kernel
theorem dL_law_555 : decode cL_law 555 = .ok (.ireturn, 1) := by decide +kernel
theorem dL_law_556 : decode cL_law 556 = .ok (.aload_n 1, 1) := by decide +kernel
theorem dL_law_557 : decode cL_law 557 = .ok (.aload_n 0, 1) := by decide +kernel
theorem dL_law_558 : decode cL_law 558 = .ok (.iload_n 3, 1) := by decide +kernel
theorem dL_law_559 : decode cL_law 559 = .ok (.iconst 1, 1) := by decide +kernel
theorem dL_law_560 : decode cL_law 560 = .ok (.iadd, 1) := by decide +kernel
theorem dL_law_561 : decode cL_law 561 = .ok (.iaload, 1) := by decide +kernel
theorem dL_law_562 : decode cL_law 562 = .ok (.invokevirtual 73, 3) := by decide +kernel
theorem dL_law_565 : decode cL_law 565 = .ok (.aload_n 2, 1) := by decide +kernel
theorem dL_law_566 : decode cL_law 566 = .ok (.aload_n 0, 1) := by decide +kernel
theorem dL_law_567 : decode cL_law 567 = .ok (.iload_n 3, 1) := by decide +kernel
theorem dL_law_568 : decode cL_law 568 = .ok (.iconst 1, 1) := by decide +kernel
theorem dL_law_569 : decode cL_law 569 = .ok (.iadd, 1) := by decide +kernel
theorem dL_law_570 : decode cL_law 570 = .ok (.iaload, 1) := by decide +kernel
theorem dL_law_571 : decode cL_law 571 = .ok (.invokevirtual 76, 3) := by decide +kernel
theorem dL_law_574 : decode cL_law 574 = .ok (.if_icmp .eq 192, 3) := by decide +kernel
theorem dL_law_577 : decode cL_law 577 = .ok (.iconst 0, 1) := by decide +kernel
theorem dL_law_578 : decode cL_law 578 = .ok (.ireturn, 1) := by decide +kernel
theorem dL_law_579 : decode cL_law 579 = .ok (.aload_n 1, 1) := by decide +kernel
theorem dL_law_580 : decode cL_law 580 = .ok (.invokevirtual 77, 3) := by decide +kernel
theorem dL_law_583 : decode cL_law 583 = .ok (.aload_n 2, 1) := by decide +kernel
theorem dL_law_584 : decode cL_law 584 = .ok (.invokevirtual 80, 3) := by decide +kernel
theorem dL_law_587 : decode cL_law 587 = .ok (.if_icmp .eq 179, 3) := by decide +kernel
theorem dL_law_590 : decode cL_law 590 = .ok (.iconst 0, 1) := by decide +kernel
theorem dL_law_591 : decode cL_law 591 = .ok (.ireturn, 1) := by decide +kernel
theorem dL_law_592 : decode cL_law 592 = .ok (.aload_n 1, 1) := by decide +kernel
theorem dL_law_593 : decode cL_law 593 = .ok (.aload_n 0, 1) := by decide +kernel
theorem dL_law_594 : decode cL_law 594 = .ok (.iload_n 3, 1) := by decide +kernel
theorem dL_law_595 : decode cL_law 595 = .ok (.iconst 1, 1) := by decide +kernel
theorem dL_law_596 : decode cL_law 596 = .ok (.iadd, 1) := by decide +kernel
theorem dL_law_597 : decode cL_law 597 = .ok (.iaload, 1) := by decide +kernel
theorem dL_law_598 : decode cL_law 598 = .ok (.invokevirtual 81, 3) := by decide +kernel
theorem dL_law_601 : decode cL_law 601 = .ok (.aload_n 2, 1) := by decide +kernel
theorem dL_law_602 : decode cL_law 602 = .ok (.aload_n 0, 1) := by decide +kernel
theorem dL_law_603 : decode cL_law 603 = .ok (.iload_n 3, 1) := by decide +kernel
theorem dL_law_604 : decode cL_law 604 = .ok (.iconst 1, 1) := by decide +kernel
theorem dL_law_605 : decode cL_law 605 = .ok (.iadd, 1) := by decide +kernel
theorem dL_law_606 : decode cL_law 606 = .ok (.iaload, 1) := by decide +kernel
theorem dL_law_607 : decode cL_law 607 = .ok (.invokevirtual 84, 3) := by decide +kernel
theorem dL_law_610 : decode cL_law 610 = .ok (.if_icmp .eq 156, 3) := by decide +kernel
theorem dL_law_613 : decode cL_law 613 = .ok (.iconst 0, 1) := by decide +kernel
theorem dL_law_614 : decode cL_law 614 = .ok (.ireturn, 1) := by decide +kernel
theorem dL_law_615 : decode cL_law 615 = .ok (.aload_n 1, 1) := by decide +kernel
theorem dL_law_616 : decode cL_law 616 = .ok (.aload_n 0, 1) := by decide +kernel
theorem dL_law_617 : decode cL_law 617 = .ok (.iload_n 3, 1) := by decide +kernel
theorem dL_law_618 : decode cL_law 618 = .ok (.iconst 1, 1) := by decide +kernel
theorem dL_law_619 : decode cL_law 619 = .ok (.iadd, 1) := by decide +kernel
theorem dL_law_620 : decode cL_law 620 = .ok (.iaload, 1) := by decide +kernel
theorem dL_law_621 : decode cL_law 621 = .ok (.i2l, 1) := by decide +kernel
theorem dL_law_622 : decode cL_law 622 = .ok (.bipush 32, 2) := by decide +kernel
theorem dL_law_624 : decode cL_law 624 = .ok (.lshl, 1) := by decide +kernel
theorem dL_law_625 : decode cL_law 625 = .ok (.aload_n 0, 1) := by decide +kernel
theorem dL_law_626 : decode cL_law 626 = .ok (.iload_n 3, 1) := by decide +kernel
theorem dL_law_627 : decode cL_law 627 = .ok (.iconst 2, 1) := by decide +kernel
theorem dL_law_628 : decode cL_law 628 = .ok (.iadd, 1) := by decide +kernel
theorem dL_law_629 : decode cL_law 629 = .ok (.iaload, 1) := by decide +kernel
theorem dL_law_630 : decode cL_law 630 = .ok (.i2l, 1) := by decide +kernel
theorem dL_law_631 : decode cL_law 631 = .ok (.ldc2_w 85, 3) := by decide +kernel
theorem dL_law_634 : decode cL_law 634 = .ok (.land, 1) := by decide +kernel
theorem dL_law_635 : decode cL_law 635 = .ok (.lor, 1) := by decide +kernel
theorem dL_law_636 : decode cL_law 636 = .ok (.invokevirtual 87, 3) := by decide +kernel
theorem dL_law_639 : decode cL_law 639 = .ok (.aload_n 2, 1) := by decide +kernel
theorem dL_law_640 : decode cL_law 640 = .ok (.aload_n 0, 1) := by decide +kernel
theorem dL_law_641 : decode cL_law 641 = .ok (.iload_n 3, 1) := by decide +kernel
theorem dL_law_642 : decode cL_law 642 = .ok (.iconst 1, 1) := by decide +kernel
theorem dL_law_643 : decode cL_law 643 = .ok (.iadd, 1) := by decide +kernel
theorem dL_law_644 : decode cL_law 644 = .ok (.iaload, 1) := by decide +kernel
theorem dL_law_645 : decode cL_law 645 = .ok (.i2l, 1) := by decide +kernel
theorem dL_law_646 : decode cL_law 646 = .ok (.bipush 32, 2) := by decide +kernel
theorem dL_law_648 : decode cL_law 648 = .ok (.lshl, 1) := by decide +kernel
theorem dL_law_649 : decode cL_law 649 = .ok (.aload_n 0, 1) := by decide +kernel
theorem dL_law_650 : decode cL_law 650 = .ok (.iload_n 3, 1) := by decide +kernel
theorem dL_law_651 : decode cL_law 651 = .ok (.iconst 2, 1) := by decide +kernel
theorem dL_law_652 : decode cL_law 652 = .ok (.iadd, 1) := by decide +kernel
theorem dL_law_653 : decode cL_law 653 = .ok (.iaload, 1) := by decide +kernel
theorem dL_law_654 : decode cL_law 654 = .ok (.i2l, 1) := by decide +kernel
theorem dL_law_655 : decode cL_law 655 = .ok (.ldc2_w 85, 3) := by decide +kernel
theorem dL_law_658 : decode cL_law 658 = .ok (.land, 1) := by decide +kernel
theorem dL_law_659 : decode cL_law 659 = .ok (.lor, 1) := by decide +kernel
theorem dL_law_660 : decode cL_law 660 = .ok (.invokevirtual 91, 3) := by decide +kernel
theorem dL_law_663 : decode cL_law 663 = .ok (.if_icmp .eq 103, 3) := by decide +kernel
theorem dL_law_666 : decode cL_law 666 = .ok (.iconst 0, 1) := by decide +kernel
theorem dL_law_667 : decode cL_law 667 = .ok (.ireturn, 1) := by decide +kernel
theorem dL_law_668 : decode cL_law 668 = .ok (.aload_n 1, 1) := by decide +kernel
theorem dL_law_669 : decode cL_law 669 = .ok (.invokevirtual 92, 3) := by decide +kernel
theorem dL_law_672 : decode cL_law 672 = .ok (.aload_n 2, 1) := by decide +kernel
theorem dL_law_673 : decode cL_law 673 = .ok (.invokevirtual 95, 3) := by decide +kernel
theorem dL_law_676 : decode cL_law 676 = .ok (.if_icmp .eq 90, 3) := by decide +kernel
theorem dL_law_679 : decode cL_law 679 = .ok (.iconst 0, 1) := by decide +kernel
theorem dL_law_680 : decode cL_law 680 = .ok (.ireturn, 1) := by decide +kernel
theorem dL_law_681 : decode cL_law 681 = .ok (.aload_n 1, 1) := by decide +kernel
theorem dL_law_682 : decode cL_law 682 = .ok (.invokevirtual 96, 3) := by decide +kernel
theorem dL_law_685 : decode cL_law 685 = .ok (.aload_n 2, 1) := by decide +kernel
theorem dL_law_686 : decode cL_law 686 = .ok (.invokevirtual 99, 3) := by decide +kernel
theorem dL_law_689 : decode cL_law 689 = .ok (.if_icmp .eq 77, 3) := by decide +kernel
theorem dL_law_692 : decode cL_law 692 = .ok (.iconst 0, 1) := by decide +kernel
theorem dL_law_693 : decode cL_law 693 = .ok (.ireturn, 1) := by decide +kernel
theorem dL_law_694 : decode cL_law 694 = .ok (.aload_n 1, 1) := by decide +kernel
theorem dL_law_695 : decode cL_law 695 = .ok (.invokevirtual 100, 3) := by decide +kernel
theorem dL_law_698 : decode cL_law 698 = .ok (.aload_n 2, 1) := by decide +kernel
theorem dL_law_699 : decode cL_law 699 = .ok (.invokevirtual 103, 3) := by decide +kernel
theorem dL_law_702 : decode cL_law 702 = .ok (.if_icmp .eq 64, 3) := by decide +kernel
theorem dL_law_705 : decode cL_law 705 = .ok (.iconst 0, 1) := by decide +kernel
theorem dL_law_706 : decode cL_law 706 = .ok (.ireturn, 1) := by decide +kernel
theorem dL_law_707 : decode cL_law 707 = .ok (.aload_n 1, 1) := by decide +kernel
theorem dL_law_708 : decode cL_law 708 = .ok (.invokevirtual 104, 3) := by decide +kernel
theorem dL_law_711 : decode cL_law 711 = .ok (.aload_n 2, 1) := by decide +kernel
theorem dL_law_712 : decode cL_law 712 = .ok (.invokevirtual 107, 3) := by decide +kernel
theorem dL_law_715 : decode cL_law 715 = .ok (.if_icmp .eq 51, 3) := by decide +kernel
theorem dL_law_718 : decode cL_law 718 = .ok (.iconst 0, 1) := by decide +kernel
theorem dL_law_719 : decode cL_law 719 = .ok (.ireturn, 1) := by decide +kernel
theorem dL_law_720 : decode cL_law 720 = .ok (.aload_n 1, 1) := by decide +kernel
theorem dL_law_721 : decode cL_law 721 = .ok (.aload_n 0, 1) := by decide +kernel
theorem dL_law_722 : decode cL_law 722 = .ok (.iload_n 3, 1) := by decide +kernel
theorem dL_law_723 : decode cL_law 723 = .ok (.iconst 1, 1) := by decide +kernel
theorem dL_law_724 : decode cL_law 724 = .ok (.iadd, 1) := by decide +kernel
theorem dL_law_725 : decode cL_law 725 = .ok (.iaload, 1) := by decide +kernel
theorem dL_law_726 : decode cL_law 726 = .ok (.invokevirtual 108, 3) := by decide +kernel
theorem dL_law_729 : decode cL_law 729 = .ok (.aload_n 2, 1) := by decide +kernel
theorem dL_law_730 : decode cL_law 730 = .ok (.aload_n 0, 1) := by decide +kernel
theorem dL_law_731 : decode cL_law 731 = .ok (.iload_n 3, 1) := by decide +kernel
theorem dL_law_732 : decode cL_law 732 = .ok (.iconst 1, 1) := by decide +kernel
theorem dL_law_733 : decode cL_law 733 = .ok (.iadd, 1) := by decide +kernel
theorem dL_law_734 : decode cL_law 734 = .ok (.iaload, 1) := by decide +kernel
theorem dL_law_735 : decode cL_law 735 = .ok (.invokevirtual 111, 3) := by decide +kernel
theorem dL_law_738 : decode cL_law 738 = .ok (.if_icmp .eq 28, 3) := by decide +kernel
theorem dL_law_741 : decode cL_law 741 = .ok (.iconst 0, 1) := by decide +kernel
theorem dL_law_742 : decode cL_law 742 = .ok (.ireturn, 1) := by decide +kernel
theorem dL_law_743 : decode cL_law 743 = .ok (.aload_n 1, 1) := by decide +kernel
theorem dL_law_744 : decode cL_law 744 = .ok (.aload_n 0, 1) := by decide +kernel
theorem dL_law_745 : decode cL_law 745 = .ok (.iload_n 3, 1) := by decide +kernel
theorem dL_law_746 : decode cL_law 746 = .ok (.iconst 1, 1) := by decide +kernel
theorem dL_law_747 : decode cL_law 747 = .ok (.iadd, 1) := by decide +kernel
theorem dL_law_748 : decode cL_law 748 = .ok (.iaload, 1) := by decide +kernel
theorem dL_law_749 : decode cL_law 749 = .ok (.invokevirtual 112, 3) := by decide +kernel
theorem dL_law_752 : decode cL_law 752 = .ok (.aload_n 2, 1) := by decide +kernel
theorem dL_law_753 : decode cL_law 753 = .ok (.aload_n 0, 1) := by decide +kernel
theorem dL_law_754 : decode cL_law 754 = .ok (.iload_n 3, 1) := by decide +kernel
theorem dL_law_755 : decode cL_law 755 = .ok (.iconst 1, 1) := by decide +kernel
theorem dL_law_756 : decode cL_law 756 = .ok (.iadd, 1) := by decide +kernel
theorem dL_law_757 : decode cL_law 757 = .ok (.iaload, 1) := by decide +kernel
theorem dL_law_758 : decode cL_law 758 = .ok (.invokevirtual 115, 3) := by decide +kernel
theorem dL_law_761 : decode cL_law 761 = .ok (.if_icmp .eq 5, 3) := by decide +kernel
theorem dL_law_764 : decode cL_law 764 = .ok (.iconst 0, 1) := by decide +kernel
theorem dL_law_765 : decode cL_law 765 = .ok (.ireturn, 1) := by decide +kernel
theorem dL_law_766 : decode cL_law 766 = .ok (.iinc 3 6, 3) := by decide +kernel
theorem dL_law_769 : decode cL_law 769 = .ok (.goto (-751), 3) := by decide +kernel
theorem dL_law_772 : decode cL_law 772 = .ok (.iconst 1, 1) := by decide +kernel
theorem dL_law_773 : decode cL_law 773 = .ok (.ireturn, 1) := by decide +kernel
end
section
theorem dX5_init_0 : decode cX5_init 0 = .ok (.aload_n 0, 1) := by decide +kernel
theorem dX5_init_1 : decode cX5_init 1 = .ok (.invokespecial 1, 3) := by decide +kernel
theorem dX5_init_4 : decode cX5_init 4 = .ok (.aload_n 0, 1) := by decide +kernel
theorem dX5_init_5 : decode cX5_init 5 = .ok (.sipush 150, 3) := by decide +kernel
theorem dX5_init_8 : decode cX5_init 8 = .ok (.newarray .int, 2) := by decide +kernel
theorem dX5_init_10 : decode cX5_init 10 = .ok (.putfield 7, 3) := by decide +kernel
theorem dX5_init_13 : decode cX5_init 13 = .ok (.aload_n 0, 1) := by decide +kernel
theorem dX5_init_14 : decode cX5_init 14 = .ok (.sipush 150, 3) := by decide +kernel
theorem dX5_init_17 : decode cX5_init 17 = .ok (.newarray .int, 2) := by decide +kernel
theorem dX5_init_19 : decode cX5_init 19 = .ok (.putfield 13, 3) := by decide +kernel
theorem dX5_init_22 : decode cX5_init 22 = .ok (.aload_n 0, 1) := by decide +kernel
theorem dX5_init_23 : decode cX5_init 23 = .ok (.sipush 900, 3) := by decide +kernel
theorem dX5_init_26 : decode cX5_init 26 = .ok (.newarray .int, 2) := by decide +kernel
theorem dX5_init_28 : decode cX5_init 28 = .ok (.putfield 16, 3) := by decide +kernel
theorem dX5_init_31 : decode cX5_init 31 = .ok (.aload_n 0, 1) := by decide +kernel
theorem dX5_init_32 : decode cX5_init 32 = .ok (.sipush 300, 3) := by decide +kernel
theorem dX5_init_35 : decode cX5_init 35 = .ok (.newarray .int, 2) := by decide +kernel
theorem dX5_init_37 : decode cX5_init 37 = .ok (.putfield 19, 3) := by decide +kernel
theorem dX5_init_40 : decode cX5_init 40 = .ok (.aload_n 0, 1) := by decide +kernel
theorem dX5_init_41 : decode cX5_init 41 = .ok (.iconst 2, 1) := by decide +kernel
theorem dX5_init_42 : decode cX5_init 42 = .ok (.newarray .boolean, 2) := by decide +kernel
theorem dX5_init_44 : decode cX5_init 44 = .ok (.putfield 22, 3) := by decide +kernel
theorem dX5_init_47 : decode cX5_init 47 = .ok (.aload_n 0, 1) := by decide +kernel
theorem dX5_init_48 : decode cX5_init 48 = .ok (.bipush 60, 2) := by decide +kernel
theorem dX5_init_50 : decode cX5_init 50 = .ok (.newarray .int, 2) := by decide +kernel
theorem dX5_init_52 : decode cX5_init 52 = .ok (.putfield 26, 3) := by decide +kernel
theorem dX5_init_55 : decode cX5_init 55 = .ok (.aload_n 0, 1) := by decide +kernel
theorem dX5_init_56 : decode cX5_init 56 = .ok (.bipush 8, 2) := by decide +kernel
theorem dX5_init_58 : decode cX5_init 58 = .ok (.newarray .int, 2) := by decide +kernel
theorem dX5_init_60 : decode cX5_init 60 = .ok (.putfield 29, 3) := by decide +kernel
theorem dX5_init_63 : decode cX5_init 63 = .ok (.aload_n 0, 1) := by decide +kernel
theorem dX5_init_64 : decode cX5_init 64 = .ok (.sipush 180, 3) := by decide +kernel
theorem dX5_init_67 : decode cX5_init 67 = .ok (.newarray .int, 2) := by decide +kernel
theorem dX5_init_69 : decode cX5_init 69 = .ok (.putfield 32, 3) := by decide +kernel
theorem dX5_init_72 : decode cX5_init 72 = .ok (.aload_n 0, 1) := by decide +kernel
theorem dX5_init_73 : decode cX5_init 73 = .ok (.getfield 7, 3) := by decide +kernel
theorem dX5_init_76 : decode cX5_init 76 = .ok (.iconst 0, 1) := by decide +kernel
theorem dX5_init_77 : decode cX5_init 77 = .ok (.bipush 10, 2) := by decide +kernel
theorem dX5_init_79 : decode cX5_init 79 = .ok (.iastore, 1) := by decide +kernel
theorem dX5_init_80 : decode cX5_init 80 = .ok (.aload_n 0, 1) := by decide +kernel
theorem dX5_init_81 : decode cX5_init 81 = .ok (.getfield 7, 3) := by decide +kernel
theorem dX5_init_84 : decode cX5_init 84 = .ok (.iconst 1, 1) := by decide +kernel
theorem dX5_init_85 : decode cX5_init 85 = .ok (.bipush 20, 2) := by decide +kernel
theorem dX5_init_87 : decode cX5_init 87 = .ok (.iastore, 1) := by decide +kernel
theorem dX5_init_88 : decode cX5_init 88 = .ok (.return_, 1) := by decide +kernel
theorem dX5_in_0 : decode cX5_in 0 = .ok (.iload_n 0, 1) := by decide +kernel
theorem dX5_in_1 : decode cX5_in 1 = .ok (.iload_n 1, 1) := by decide +kernel
theorem dX5_in_2 : decode cX5_in 2 = .ok (.if_icmp .lt 12, 3) := by decide +kernel
theorem dX5_in_5 : decode cX5_in 5 = .ok (.iload_n 0, 1) := by decide +kernel
theorem dX5_in_6 : decode cX5_in 6 = .ok (.iload_n 2, 1) := by decide +kernel
theorem dX5_in_7 : decode cX5_in 7 = .ok (.if_icmp .gt 7, 3) := by decide +kernel
theorem dX5_in_10 : decode cX5_in 10 = .ok (.iconst 1, 1) := by decide +kernel
theorem dX5_in_11 : decode cX5_in 11 = .ok (.goto 4, 3) := by decide +kernel
theorem dX5_in_14 : decode cX5_in 14 = .ok (.iconst 0, 1) := by decide +kernel
theorem dX5_in_15 : decode cX5_in 15 = .ok (.ireturn, 1) := by decide +kernel
theorem dX5_record_0 : decode cX5_record 0 = .ok (.aload_n 0, 1) := by decide +kernel
theorem dX5_record_1 : decode cX5_record 1 = .ok (.getfield 35, 3) := by decide +kernel
theorem dX5_record_4 : decode cX5_record 4 = .ok (.ifCond .eq 4, 3) := by decide +kernel
theorem dX5_record_7 : decode cX5_record 7 = .ok (.return_, 1) := by decide +kernel
theorem dX5_record_8 : decode cX5_record 8 = .ok (.aload_n 0, 1) := by decide +kernel
theorem dX5_record_9 : decode cX5_record 9 = .ok (.getfield 39, 3) := by decide +kernel
theorem dX5_record_12 : decode cX5_record 12 = .ok (.bipush 6, 2) := by decide +kernel
theorem dX5_record_14 : decode cX5_record 14 = .ok (.if_icmp .ne 39, 3) := by decide +kernel
theorem dX5_record_17 : decode cX5_record 17 = .ok (.iconst 0, 1) := by decide +kernel
theorem dX5_record_18 : decode cX5_record 18 = .ok (.istore_n 1, 1) := by decide +kernel
theorem dX5_record_19 : decode cX5_record 19 = .ok (.iload_n 1, 1) := by decide +kernel
theorem dX5_record_20 : decode cX5_record 20 = .ok (.sipush 750, 3) := by decide +kernel
theorem dX5_record_23 : decode cX5_record 23 = .ok (.if_icmp .ge 25, 3) := by decide +kernel
theorem dX5_record_26 : decode cX5_record 26 = .ok (.aload_n 0, 1) := by decide +kernel
theorem dX5_record_27 : decode cX5_record 27 = .ok (.getfield 16, 3) := by decide +kernel
theorem dX5_record_30 : decode cX5_record 30 = .ok (.iload_n 1, 1) := by decide +kernel
theorem dX5_record_31 : decode cX5_record 31 = .ok (.aload_n 0, 1) := by decide +kernel
theorem dX5_record_32 : decode cX5_record 32 = .ok (.getfield 16, 3) := by decide +kernel
theorem dX5_record_35 : decode cX5_record 35 = .ok (.iload_n 1, 1) := by decide +kernel
theorem dX5_record_36 : decode cX5_record 36 = .ok (.sipush 150, 3) := by decide +kernel
theorem dX5_record_39 : decode cX5_record 39 = .ok (.iadd, 1) := by decide +kernel
theorem dX5_record_40 : decode cX5_record 40 = .ok (.iaload, 1) := by decide +kernel
theorem dX5_record_41 : decode cX5_record 41 = .ok (.iastore, 1) := by decide +kernel
theorem dX5_record_42 : decode cX5_record 42 = .ok (.iinc 1 1, 3) := by decide +kernel
theorem dX5_record_45 : decode cX5_record 45 = .ok (.goto (-26), 3) := by decide +kernel
theorem dX5_record_48 : decode cX5_record 48 = .ok (.aload_n 0, 1) := by decide +kernel
theorem dX5_record_49 : decode cX5_record 49 = .ok (.iconst 5, 1) := by decide +kernel
theorem dX5_record_50 : decode cX5_record 50 = .ok (.putfield 39, 3) := by decide +kernel
theorem dX5_record_53 : decode cX5_record 53 = .ok (.iconst 0, 1) := by decide +kernel
theorem dX5_record_54 : decode cX5_record 54 = .ok (.istore_n 1, 1) := by decide +kernel
theorem dX5_record_55 : decode cX5_record 55 = .ok (.iload_n 1, 1) := by decide +kernel
theorem dX5_record_56 : decode cX5_record 56 = .ok (.sipush 150, 3) := by decide +kernel
theorem dX5_record_59 : decode cX5_record 59 = .ok (.if_icmp .ge 30, 3) := by decide +kernel
theorem dX5_record_62 : decode cX5_record 62 = .ok (.aload_n 0, 1) := by decide +kernel
theorem dX5_record_63 : decode cX5_record 63 = .ok (.getfield 16, 3) := by decide +kernel
theorem dX5_record_66 : decode cX5_record 66 = .ok (.aload_n 0, 1) := by decide +kernel
theorem dX5_record_67 : decode cX5_record 67 = .ok (.getfield 39, 3) := by decide +kernel
theorem dX5_record_70 : decode cX5_record 70 = .ok (.sipush 150, 3) := by decide +kernel
theorem dX5_record_73 : decode cX5_record 73 = .ok (.imul, 1) := by decide +kernel
theorem dX5_record_74 : decode cX5_record 74 = .ok (.iload_n 1, 1) := by decide +kernel
theorem dX5_record_75 : decode cX5_record 75 = .ok (.iadd, 1) := by decide +kernel
theorem dX5_record_76 : decode cX5_record 76 = .ok (.aload_n 0, 1) := by decide +kernel
theorem dX5_record_77 : decode cX5_record 77 = .ok (.getfield 7, 3) := by decide +kernel
theorem dX5_record_80 : decode cX5_record 80 = .ok (.iload_n 1, 1) := by decide +kernel
theorem dX5_record_81 : decode cX5_record 81 = .ok (.iaload, 1) := by decide +kernel
theorem dX5_record_82 : decode cX5_record 82 = .ok (.iastore, 1) := by decide +kernel
theorem dX5_record_83 : decode cX5_record 83 = .ok (.iinc 1 1, 3) := by decide +kernel
theorem dX5_record_86 : decode cX5_record 86 = .ok (.goto (-31), 3) := by decide +kernel
theorem dX5_record_89 : decode cX5_record 89 = .ok (.aload_n 0, 1) := by decide +kernel
theorem dX5_record_90 : decode cX5_record 90 = .ok (.dup, 1) := by decide +kernel
theorem dX5_record_91 : decode cX5_record 91 = .ok (.getfield 39, 3) := by decide +kernel
theorem dX5_record_94 : decode cX5_record 94 = .ok (.iconst 1, 1) := by decide +kernel
theorem dX5_record_95 : decode cX5_record 95 = .ok (.iadd, 1) := by decide +kernel
theorem dX5_record_96 : decode cX5_record 96 = .ok (.putfield 39, 3) := by decide +kernel
theorem dX5_record_99 : decode cX5_record 99 = .ok (.return_, 1) := by decide +kernel
theorem dX5_keep_0 : decode cX5_keep 0 = .ok (.iconst 0, 1) := by decide +kernel
theorem dX5_keep_1 : decode cX5_keep 1 = .ok (.istore_n 1, 1) := by decide +kernel
theorem dX5_keep_2 : decode cX5_keep 2 = .ok (.iload_n 1, 1) := by decide +kernel
theorem dX5_keep_3 : decode cX5_keep 3 = .ok (.sipush 150, 3) := by decide +kernel
theorem dX5_keep_6 : decode cX5_keep 6 = .ok (.if_icmp .ge 21, 3) := by decide +kernel
theorem dX5_keep_9 : decode cX5_keep 9 = .ok (.aload_n 0, 1) := by decide +kernel
theorem dX5_keep_10 : decode cX5_keep 10 = .ok (.getfield 13, 3) := by decide +kernel
theorem dX5_keep_13 : decode cX5_keep 13 = .ok (.iload_n 1, 1) := by decide +kernel
theorem dX5_keep_14 : decode cX5_keep 14 = .ok (.aload_n 0, 1) := by decide +kernel
theorem dX5_keep_15 : decode cX5_keep 15 = .ok (.getfield 7, 3) := by decide +kernel
theorem dX5_keep_18 : decode cX5_keep 18 = .ok (.iload_n 1, 1) := by decide +kernel
theorem dX5_keep_19 : decode cX5_keep 19 = .ok (.iaload, 1) := by decide +kernel
theorem dX5_keep_20 : decode cX5_keep 20 = .ok (.iastore, 1) := by decide +kernel
theorem dX5_keep_21 : decode cX5_keep 21 = .ok (.iinc 1 1, 3) := by decide +kernel
theorem dX5_keep_24 : decode cX5_keep 24 = .ok (.goto (-22), 3) := by decide +kernel
theorem dX5_keep_27 : decode cX5_keep 27 = .ok (.return_, 1) := by decide +kernel
theorem dX5_comeBack_0 : decode cX5_comeBack 0 = .ok (.iconst 0, 1) := by decide +kernel
theorem dX5_comeBack_1 : decode cX5_comeBack 1 = .ok (.istore_n 1, 1) := by decide +kernel
theorem dX5_comeBack_2 : decode cX5_comeBack 2 = .ok (.iload_n 1, 1) := by decide +kernel
theorem dX5_comeBack_3 : decode cX5_comeBack 3 = .ok (.sipush 150, 3) := by decide +kernel
theorem dX5_comeBack_6 : decode cX5_comeBack 6 = .ok (.if_icmp .ge 21, 3) := by decide +kernel
theorem dX5_comeBack_9 : decode cX5_comeBack 9 = .ok (.aload_n 0, 1) := by decide +kernel
theorem dX5_comeBack_10 : decode cX5_comeBack 10 = .ok (.getfield 7, 3) := by decide +kernel
theorem dX5_comeBack_13 : decode cX5_comeBack 13 = .ok (.iload_n 1, 1) := by decide +kernel
theorem dX5_comeBack_14 : decode cX5_comeBack 14 = .ok (.aload_n 0, 1) := by decide +kernel
theorem dX5_comeBack_15 : decode cX5_comeBack 15 = .ok (.getfield 13, 3) := by decide +kernel
theorem dX5_comeBack_18 : decode cX5_comeBack 18 = .ok (.iload_n 1, 1) := by decide +kernel
theorem dX5_comeBack_19 : decode cX5_comeBack 19 = .ok (.iaload, 1) := by decide +kernel
theorem dX5_comeBack_20 : decode cX5_comeBack 20 = .ok (.iastore, 1) := by decide +kernel
theorem dX5_comeBack_21 : decode cX5_comeBack 21 = .ok (.iinc 1 1, 3) := by decide +kernel
theorem dX5_comeBack_24 : decode cX5_comeBack 24 = .ok (.goto (-22), 3) := by decide +kernel
theorem dX5_comeBack_27 : decode cX5_comeBack 27 = .ok (.return_, 1) := by decide +kernel
theorem dX5_of_0 : decode cX5_of 0 = .ok (.aload_n 0, 1) := by decide +kernel
theorem dX5_of_1 : decode cX5_of 1 = .ok (.getfield 7, 3) := by decide +kernel
theorem dX5_of_4 : decode cX5_of 4 = .ok (.bipush 30, 2) := by decide +kernel
theorem dX5_of_6 : decode cX5_of 6 = .ok (.bipush 14, 2) := by decide +kernel
theorem dX5_of_8 : decode cX5_of 8 = .ok (.iload_n 1, 1) := by decide +kernel
theorem dX5_of_9 : decode cX5_of 9 = .ok (.imul, 1) := by decide +kernel
theorem dX5_of_10 : decode cX5_of 10 = .ok (.iadd, 1) := by decide +kernel
theorem dX5_of_11 : decode cX5_of 11 = .ok (.iload_n 2, 1) := by decide +kernel
theorem dX5_of_12 : decode cX5_of 12 = .ok (.iadd, 1) := by decide +kernel
theorem dX5_of_13 : decode cX5_of 13 = .ok (.iaload, 1) := by decide +kernel
theorem dX5_of_14 : decode cX5_of 14 = .ok (.ireturn, 1) := by decide +kernel
theorem dX5_book_0 : decode cX5_book 0 = .ok (.aload_n 0, 1) := by decide +kernel
theorem dX5_book_1 : decode cX5_book 1 = .ok (.getfield 7, 3) := by decide +kernel
theorem dX5_book_4 : decode cX5_book 4 = .ok (.bipush 30, 2) := by decide +kernel
theorem dX5_book_6 : decode cX5_book 6 = .ok (.bipush 14, 2) := by decide +kernel
theorem dX5_book_8 : decode cX5_book 8 = .ok (.iload_n 1, 1) := by decide +kernel
theorem dX5_book_9 : decode cX5_book 9 = .ok (.imul, 1) := by decide +kernel
theorem dX5_book_10 : decode cX5_book 10 = .ok (.iadd, 1) := by decide +kernel
theorem dX5_book_11 : decode cX5_book 11 = .ok (.iload_n 2, 1) := by decide +kernel
theorem dX5_book_12 : decode cX5_book 12 = .ok (.iadd, 1) := by decide +kernel
theorem dX5_book_13 : decode cX5_book 13 = .ok (.iload_n 3, 1) := by decide +kernel
theorem dX5_book_14 : decode cX5_book 14 = .ok (.iastore, 1) := by decide +kernel
theorem dX5_book_15 : decode cX5_book 15 = .ok (.return_, 1) := by decide +kernel
theorem dX5_isWire_0 : decode cX5_isWire 0 = .ok (.iload_n 1, 1) := by decide +kernel
theorem dX5_isWire_1 : decode cX5_isWire 1 = .ok (.iconst 0, 1) := by decide +kernel
theorem dX5_isWire_2 : decode cX5_isWire 2 = .ok (.aload_n 0, 1) := by decide +kernel
theorem dX5_isWire_3 : decode cX5_isWire 3 = .ok (.getfield 7, 3) := by decide +kernel
theorem dX5_isWire_6 : decode cX5_isWire 6 = .ok (.iconst 3, 1) := by decide +kernel
theorem dX5_isWire_7 : decode cX5_isWire 7 = .ok (.iaload, 1) := by decide +kernel
theorem dX5_isWire_8 : decode cX5_isWire 8 = .ok (.iconst 1, 1) := by decide +kernel
theorem dX5_isWire_9 : decode cX5_isWire 9 = .ok (.isub, 1) := by decide +kernel
theorem dX5_isWire_10 : decode cX5_isWire 10 = .ok (.invokestatic 43, 3) := by decide +kernel
theorem dX5_isWire_13 : decode cX5_isWire 13 = .ok (.ireturn, 1) := by decide +kernel
theorem dX5_isWhole_0 : decode cX5_isWhole 0 = .ok (.aload_n 0, 1) := by decide +kernel
theorem dX5_isWhole_1 : decode cX5_isWhole 1 = .ok (.iload_n 1, 1) := by decide +kernel
theorem dX5_isWhole_2 : decode cX5_isWhole 2 = .ok (.iconst 5, 1) := by decide +kernel
theorem dX5_isWhole_3 : decode cX5_isWhole 3 = .ok (.invokevirtual 47, 3) := by decide +kernel
theorem dX5_isWhole_6 : decode cX5_isWhole 6 = .ok (.ifCond .ne 7, 3) := by decide +kernel
theorem dX5_isWhole_9 : decode cX5_isWhole 9 = .ok (.iconst 1, 1) := by decide +kernel
theorem dX5_isWhole_10 : decode cX5_isWhole 10 = .ok (.goto 4, 3) := by decide +kernel
theorem dX5_isWhole_13 : decode cX5_isWhole 13 = .ok (.iconst 0, 1) := by decide +kernel
theorem dX5_isWhole_14 : decode cX5_isWhole 14 = .ok (.ireturn, 1) := by decide +kernel
theorem dX5_wholeBy_0 : decode cX5_wholeBy 0 = .ok (.iconst 0, 1) := by decide +kernel
theorem dX5_wholeBy_1 : decode cX5_wholeBy 1 = .ok (.istore_n 2, 1) := by decide +kernel
theorem dX5_wholeBy_2 : decode cX5_wholeBy 2 = .ok (.iconst 0, 1) := by decide +kernel
theorem dX5_wholeBy_3 : decode cX5_wholeBy 3 = .ok (.istore_n 3, 1) := by decide +kernel
theorem dX5_wholeBy_4 : decode cX5_wholeBy 4 = .ok (.iload_n 3, 1) := by decide +kernel
theorem dX5_wholeBy_5 : decode cX5_wholeBy 5 = .ok (.aload_n 0, 1) := by decide +kernel
theorem dX5_wholeBy_6 : decode cX5_wholeBy 6 = .ok (.getfield 7, 3) := by decide +kernel
theorem dX5_wholeBy_9 : decode cX5_wholeBy 9 = .ok (.iconst 3, 1) := by decide +kernel
theorem dX5_wholeBy_10 : decode cX5_wholeBy 10 = .ok (.iaload, 1) := by decide +kernel
theorem dX5_wholeBy_11 : decode cX5_wholeBy 11 = .ok (.if_icmp .ge 37, 3) := by decide +kernel
theorem dX5_wholeBy_14 : decode cX5_wholeBy 14 = .ok (.iload_n 2, 1) := by decide +kernel
theorem dX5_wholeBy_15 : decode cX5_wholeBy 15 = .ok (.aload_n 0, 1) := by decide +kernel
theorem dX5_wholeBy_16 : decode cX5_wholeBy 16 = .ok (.iload_n 3, 1) := by decide +kernel
theorem dX5_wholeBy_17 : decode cX5_wholeBy 17 = .ok (.iload_n 1, 1) := by decide +kernel
theorem dX5_wholeBy_18 : decode cX5_wholeBy 18 = .ok (.ifCond .ne 7, 3) := by decide +kernel
theorem dX5_wholeBy_21 : decode cX5_wholeBy 21 = .ok (.iconst 5, 1) := by decide +kernel
theorem dX5_wholeBy_22 : decode cX5_wholeBy 22 = .ok (.goto 5, 3) := by decide +kernel
theorem dX5_wholeBy_25 : decode cX5_wholeBy 25 = .ok (.bipush 10, 2) := by decide +kernel
theorem dX5_wholeBy_27 : decode cX5_wholeBy 27 = .ok (.invokevirtual 47, 3) := by decide +kernel
theorem dX5_wholeBy_30 : decode cX5_wholeBy 30 = .ok (.ifCond .ne 9, 3) := by decide +kernel
theorem dX5_wholeBy_33 : decode cX5_wholeBy 33 = .ok (.iconst 1, 1) := by decide +kernel
theorem dX5_wholeBy_34 : decode cX5_wholeBy 34 = .ok (.iload_n 3, 1) := by decide +kernel
theorem dX5_wholeBy_35 : decode cX5_wholeBy 35 = .ok (.ishl, 1) := by decide +kernel
theorem dX5_wholeBy_36 : decode cX5_wholeBy 36 = .ok (.goto 4, 3) := by decide +kernel
theorem dX5_wholeBy_39 : decode cX5_wholeBy 39 = .ok (.iconst 0, 1) := by decide +kernel
theorem dX5_wholeBy_40 : decode cX5_wholeBy 40 = .ok (.ior, 1) := by decide +kernel
theorem dX5_wholeBy_41 : decode cX5_wholeBy 41 = .ok (.istore_n 2, 1) := by decide +kernel
theorem dX5_wholeBy_42 : decode cX5_wholeBy 42 = .ok (.iinc 3 1, 3) := by decide +kernel
theorem dX5_wholeBy_45 : decode cX5_wholeBy 45 = .ok (.goto (-41), 3) := by decide +kernel
theorem dX5_wholeBy_48 : decode cX5_wholeBy 48 = .ok (.iload_n 2, 1) := by decide +kernel
theorem dX5_wholeBy_49 : decode cX5_wholeBy 49 = .ok (.ireturn, 1) := by decide +kernel
theorem dX5_weight_0 : decode cX5_weight 0 = .ok (.aload_n 0, 1) := by decide +kernel
theorem dX5_weight_1 : decode cX5_weight 1 = .ok (.iload_n 1, 1) := by decide +kernel
theorem dX5_weight_2 : decode cX5_weight 2 = .ok (.iconst 1, 1) := by decide +kernel
theorem dX5_weight_3 : decode cX5_weight 3 = .ok (.invokevirtual 47, 3) := by decide +kernel
theorem dX5_weight_6 : decode cX5_weight 6 = .ok (.i2l, 1) := by decide +kernel
theorem dX5_weight_7 : decode cX5_weight 7 = .ok (.aload_n 0, 1) := by decide +kernel
theorem dX5_weight_8 : decode cX5_weight 8 = .ok (.iload_n 1, 1) := by decide +kernel
theorem dX5_weight_9 : decode cX5_weight 9 = .ok (.iconst 1, 1) := by decide +kernel
theorem dX5_weight_10 : decode cX5_weight 10 = .ok (.invokevirtual 47, 3) := by decide +kernel
theorem dX5_weight_13 : decode cX5_weight 13 = .ok (.i2l, 1) := by decide +kernel
theorem dX5_weight_14 : decode cX5_weight 14 = .ok (.lmul, 1) := by decide +kernel
theorem dX5_weight_15 : decode cX5_weight 15 = .ok (.aload_n 0, 1) := by decide +kernel
theorem dX5_weight_16 : decode cX5_weight 16 = .ok (.iload_n 1, 1) := by decide +kernel
theorem dX5_weight_17 : decode cX5_weight 17 = .ok (.iconst 2, 1) := by decide +kernel
theorem dX5_weight_18 : decode cX5_weight 18 = .ok (.invokevirtual 47, 3) := by decide +kernel
theorem dX5_weight_21 : decode cX5_weight 21 = .ok (.i2l, 1) := by decide +kernel
theorem dX5_weight_22 : decode cX5_weight 22 = .ok (.lmul, 1) := by decide +kernel
theorem dX5_weight_23 : decode cX5_weight 23 = .ok (.lreturn, 1) := by decide +kernel
theorem dX5_pitch_0 : decode cX5_pitch 0 = .ok (.iload_n 2, 1) := by decide +kernel
theorem dX5_pitch_1 : decode cX5_pitch 1 = .ok (.i2l, 1) := by decide +kernel
theorem dX5_pitch_2 : decode cX5_pitch 2 = .ok (.ldc2_w 51, 3) := by decide +kernel
theorem dX5_pitch_5 : decode cX5_pitch 5 = .ok (.lmul, 1) := by decide +kernel
theorem dX5_pitch_6 : decode cX5_pitch 6 = .ok (.aload_n 0, 1) := by decide +kernel
theorem dX5_pitch_7 : decode cX5_pitch 7 = .ok (.iload_n 1, 1) := by decide +kernel
theorem dX5_pitch_8 : decode cX5_pitch 8 = .ok (.invokevirtual 53, 3) := by decide +kernel
theorem dX5_pitch_11 : decode cX5_pitch 11 = .ok (.ldiv, 1) := by decide +kernel
theorem dX5_pitch_12 : decode cX5_pitch 12 = .ok (.lstore_n 3, 1) := by decide +kernel
theorem dX5_pitch_13 : decode cX5_pitch 13 = .ok (.iconst 0, 1) := by decide +kernel
theorem dX5_pitch_14 : decode cX5_pitch 14 = .ok (.istore 5, 2) := by decide +kernel
theorem dX5_pitch_16 : decode cX5_pitch 16 = .ok (.sipush 16384, 3) := by decide +kernel
theorem dX5_pitch_19 : decode cX5_pitch 19 = .ok (.istore 6, 2) := by decide +kernel
theorem dX5_pitch_21 : decode cX5_pitch 21 = .ok (.iload 6, 2) := by decide +kernel
theorem dX5_pitch_23 : decode cX5_pitch 23 = .ok (.ifCond .le 41, 3) := by decide +kernel
theorem dX5_pitch_26 : decode cX5_pitch 26 = .ok (.iload 5, 2) := by decide +kernel
theorem dX5_pitch_28 : decode cX5_pitch 28 = .ok (.iload 5, 2) := by decide +kernel
theorem dX5_pitch_30 : decode cX5_pitch 30 = .ok (.iload 6, 2) := by decide +kernel
theorem dX5_pitch_32 : decode cX5_pitch 32 = .ok (.iadd, 1) := by decide +kernel
theorem dX5_pitch_33 : decode cX5_pitch 33 = .ok (.i2l, 1) := by decide +kernel
theorem dX5_pitch_34 : decode cX5_pitch 34 = .ok (.iload 5, 2) := by decide +kernel
theorem dX5_pitch_36 : decode cX5_pitch 36 = .ok (.iload 6, 2) := by decide +kernel
theorem dX5_pitch_38 : decode cX5_pitch 38 = .ok (.iadd, 1) := by decide +kernel
theorem dX5_pitch_39 : decode cX5_pitch 39 = .ok (.i2l, 1) := by decide +kernel
theorem dX5_pitch_40 : decode cX5_pitch 40 = .ok (.lmul, 1) := by decide +kernel
theorem dX5_pitch_41 : decode cX5_pitch 41 = .ok (.lload_n 3, 1) := by decide +kernel
theorem dX5_pitch_42 : decode cX5_pitch 42 = .ok (.lcmp, 1) := by decide +kernel
theorem dX5_pitch_43 : decode cX5_pitch 43 = .ok (.ifCond .gt 8, 3) := by decide +kernel
theorem dX5_pitch_46 : decode cX5_pitch 46 = .ok (.iload 6, 2) := by decide +kernel
theorem dX5_pitch_48 : decode cX5_pitch 48 = .ok (.goto 4, 3) := by decide +kernel
theorem dX5_pitch_51 : decode cX5_pitch 51 = .ok (.iconst 0, 1) := by decide +kernel
theorem dX5_pitch_52 : decode cX5_pitch 52 = .ok (.iadd, 1) := by decide +kernel
theorem dX5_pitch_53 : decode cX5_pitch 53 = .ok (.istore 5, 2) := by decide +kernel
theorem dX5_pitch_55 : decode cX5_pitch 55 = .ok (.iload 6, 2) := by decide +kernel
theorem dX5_pitch_57 : decode cX5_pitch 57 = .ok (.iconst 2, 1) := by decide +kernel
theorem dX5_pitch_58 : decode cX5_pitch 58 = .ok (.idiv, 1) := by decide +kernel
theorem dX5_pitch_59 : decode cX5_pitch 59 = .ok (.istore 6, 2) := by decide +kernel
theorem dX5_pitch_61 : decode cX5_pitch 61 = .ok (.goto (-40), 3) := by decide +kernel
theorem dX5_pitch_64 : decode cX5_pitch 64 = .ok (.iload 5, 2) := by decide +kernel
theorem dX5_pitch_66 : decode cX5_pitch 66 = .ok (.ireturn, 1) := by decide +kernel
theorem dX5_leastFor_0 : decode cX5_leastFor 0 = .ok (.iload_n 2, 1) := by decide +kernel
theorem dX5_leastFor_1 : decode cX5_leastFor 1 = .ok (.i2l, 1) := by decide +kernel
theorem dX5_leastFor_2 : decode cX5_leastFor 2 = .ok (.iload_n 2, 1) := by decide +kernel
theorem dX5_leastFor_3 : decode cX5_leastFor 3 = .ok (.i2l, 1) := by decide +kernel
theorem dX5_leastFor_4 : decode cX5_leastFor 4 = .ok (.lmul, 1) := by decide +kernel
theorem dX5_leastFor_5 : decode cX5_leastFor 5 = .ok (.aload_n 0, 1) := by decide +kernel
theorem dX5_leastFor_6 : decode cX5_leastFor 6 = .ok (.iload_n 1, 1) := by decide +kernel
theorem dX5_leastFor_7 : decode cX5_leastFor 7 = .ok (.invokevirtual 53, 3) := by decide +kernel
theorem dX5_leastFor_10 : decode cX5_leastFor 10 = .ok (.lmul, 1) := by decide +kernel
theorem dX5_leastFor_11 : decode cX5_leastFor 11 = .ok (.ldc2_w 51, 3) := by decide +kernel
theorem dX5_leastFor_14 : decode cX5_leastFor 14 = .ok (.ladd, 1) := by decide +kernel
theorem dX5_leastFor_15 : decode cX5_leastFor 15 = .ok (.lconst 1, 1) := by decide +kernel
theorem dX5_leastFor_16 : decode cX5_leastFor 16 = .ok (.lsub, 1) := by decide +kernel
theorem dX5_leastFor_17 : decode cX5_leastFor 17 = .ok (.ldc2_w 51, 3) := by decide +kernel
theorem dX5_leastFor_20 : decode cX5_leastFor 20 = .ok (.ldiv, 1) := by decide +kernel
theorem dX5_leastFor_21 : decode cX5_leastFor 21 = .ok (.lreturn, 1) := by decide +kernel
theorem dX5_nearest_0 : decode cX5_nearest 0 = .ok (.bipush (-6), 2) := by decide +kernel
theorem dX5_nearest_2 : decode cX5_nearest 2 = .ok (.istore 4, 2) := by decide +kernel
theorem dX5_nearest_4 : decode cX5_nearest 4 = .ok (.iconst 0, 1) := by decide +kernel
theorem dX5_nearest_5 : decode cX5_nearest 5 = .ok (.istore 5, 2) := by decide +kernel
theorem dX5_nearest_7 : decode cX5_nearest 7 = .ok (.iload 5, 2) := by decide +kernel
theorem dX5_nearest_9 : decode cX5_nearest 9 = .ok (.aload_n 0, 1) := by decide +kernel
theorem dX5_nearest_10 : decode cX5_nearest 10 = .ok (.getfield 7, 3) := by decide +kernel
theorem dX5_nearest_13 : decode cX5_nearest 13 = .ok (.iconst 3, 1) := by decide +kernel
theorem dX5_nearest_14 : decode cX5_nearest 14 = .ok (.iaload, 1) := by decide +kernel
theorem dX5_nearest_15 : decode cX5_nearest 15 = .ok (.if_icmp .ge 79, 3) := by decide +kernel
theorem dX5_nearest_18 : decode cX5_nearest 18 = .ok (.iload_n 1, 1) := by decide +kernel
theorem dX5_nearest_19 : decode cX5_nearest 19 = .ok (.iload 5, 2) := by decide +kernel
theorem dX5_nearest_21 : decode cX5_nearest 21 = .ok (.ishr, 1) := by decide +kernel
theorem dX5_nearest_22 : decode cX5_nearest 22 = .ok (.iconst 1, 1) := by decide +kernel
theorem dX5_nearest_23 : decode cX5_nearest 23 = .ok (.iand, 1) := by decide +kernel
theorem dX5_nearest_24 : decode cX5_nearest 24 = .ok (.iconst 1, 1) := by decide +kernel
theorem dX5_nearest_25 : decode cX5_nearest 25 = .ok (.if_icmp .ne 21, 3) := by decide +kernel
theorem dX5_nearest_28 : decode cX5_nearest 28 = .ok (.aload_n 0, 1) := by decide +kernel
theorem dX5_nearest_29 : decode cX5_nearest 29 = .ok (.iload 5, 2) := by decide +kernel
theorem dX5_nearest_31 : decode cX5_nearest 31 = .ok (.iconst 0, 1) := by decide +kernel
theorem dX5_nearest_32 : decode cX5_nearest 32 = .ok (.invokevirtual 47, 3) := by decide +kernel
theorem dX5_nearest_35 : decode cX5_nearest 35 = .ok (.iload_n 2, 1) := by decide +kernel
theorem dX5_nearest_36 : decode cX5_nearest 36 = .ok (.isub, 1) := by decide +kernel
theorem dX5_nearest_37 : decode cX5_nearest 37 = .ok (.iload_n 3, 1) := by decide +kernel
theorem dX5_nearest_38 : decode cX5_nearest 38 = .ok (.imul, 1) := by decide +kernel
theorem dX5_nearest_39 : decode cX5_nearest 39 = .ok (.ifCond .lt 7, 3) := by decide +kernel
theorem dX5_nearest_42 : decode cX5_nearest 42 = .ok (.iconst 1, 1) := by decide +kernel
theorem dX5_nearest_43 : decode cX5_nearest 43 = .ok (.goto 4, 3) := by decide +kernel
theorem dX5_nearest_46 : decode cX5_nearest 46 = .ok (.iconst 0, 1) := by decide +kernel
theorem dX5_nearest_47 : decode cX5_nearest 47 = .ok (.istore 6, 2) := by decide +kernel
theorem dX5_nearest_49 : decode cX5_nearest 49 = .ok (.iload 6, 2) := by decide +kernel
theorem dX5_nearest_51 : decode cX5_nearest 51 = .ok (.ifCond .eq 33, 3) := by decide +kernel
theorem dX5_nearest_54 : decode cX5_nearest 54 = .ok (.iload 4, 2) := by decide +kernel
theorem dX5_nearest_56 : decode cX5_nearest 56 = .ok (.ifCond .lt 23, 3) := by decide +kernel
theorem dX5_nearest_59 : decode cX5_nearest 59 = .ok (.aload_n 0, 1) := by decide +kernel
theorem dX5_nearest_60 : decode cX5_nearest 60 = .ok (.iload 5, 2) := by decide +kernel
theorem dX5_nearest_62 : decode cX5_nearest 62 = .ok (.iconst 0, 1) := by decide +kernel
theorem dX5_nearest_63 : decode cX5_nearest 63 = .ok (.invokevirtual 47, 3) := by decide +kernel
theorem dX5_nearest_66 : decode cX5_nearest 66 = .ok (.aload_n 0, 1) := by decide +kernel
theorem dX5_nearest_67 : decode cX5_nearest 67 = .ok (.iload 4, 2) := by decide +kernel
theorem dX5_nearest_69 : decode cX5_nearest 69 = .ok (.iconst 0, 1) := by decide +kernel
theorem dX5_nearest_70 : decode cX5_nearest 70 = .ok (.invokevirtual 47, 3) := by decide +kernel
theorem dX5_nearest_73 : decode cX5_nearest 73 = .ok (.isub, 1) := by decide +kernel
theorem dX5_nearest_74 : decode cX5_nearest 74 = .ok (.iload_n 3, 1) := by decide +kernel
theorem dX5_nearest_75 : decode cX5_nearest 75 = .ok (.imul, 1) := by decide +kernel
theorem dX5_nearest_76 : decode cX5_nearest 76 = .ok (.ifCond .ge 8, 3) := by decide +kernel
theorem dX5_nearest_79 : decode cX5_nearest 79 = .ok (.iload 5, 2) := by decide +kernel
theorem dX5_nearest_81 : decode cX5_nearest 81 = .ok (.goto 5, 3) := by decide +kernel
theorem dX5_nearest_84 : decode cX5_nearest 84 = .ok (.iload 4, 2) := by decide +kernel
theorem dX5_nearest_86 : decode cX5_nearest 86 = .ok (.istore 4, 2) := by decide +kernel
theorem dX5_nearest_88 : decode cX5_nearest 88 = .ok (.iinc 5 1, 3) := by decide +kernel
theorem dX5_nearest_91 : decode cX5_nearest 91 = .ok (.goto (-84), 3) := by decide +kernel
theorem dX5_nearest_94 : decode cX5_nearest 94 = .ok (.iload 4, 2) := by decide +kernel
theorem dX5_nearest_96 : decode cX5_nearest 96 = .ok (.ireturn, 1) := by decide +kernel
theorem dX5_layTasks_0 : decode cX5_layTasks 0 = .ok (.iconst 0, 1) := by decide +kernel
theorem dX5_layTasks_1 : decode cX5_layTasks 1 = .ok (.istore_n 2, 1) := by decide +kernel
theorem dX5_layTasks_2 : decode cX5_layTasks 2 = .ok (.iload_n 2, 1) := by decide +kernel
theorem dX5_layTasks_3 : decode cX5_layTasks 3 = .ok (.bipush 8, 2) := by decide +kernel
theorem dX5_layTasks_5 : decode cX5_layTasks 5 = .ok (.if_icmp .ge 16, 3) := by decide +kernel
theorem dX5_layTasks_8 : decode cX5_layTasks 8 = .ok (.aload_n 0, 1) := by decide +kernel
theorem dX5_layTasks_9 : decode cX5_layTasks 9 = .ok (.getfield 29, 3) := by decide +kernel
theorem dX5_layTasks_12 : decode cX5_layTasks 12 = .ok (.iload_n 2, 1) := by decide +kernel
theorem dX5_layTasks_13 : decode cX5_layTasks 13 = .ok (.iconst 0, 1) := by decide +kernel
theorem dX5_layTasks_14 : decode cX5_layTasks 14 = .ok (.iastore, 1) := by decide +kernel
theorem dX5_layTasks_15 : decode cX5_layTasks 15 = .ok (.iinc 2 1, 3) := by decide +kernel
theorem dX5_layTasks_18 : decode cX5_layTasks 18 = .ok (.goto (-16), 3) := by decide +kernel
theorem dX5_layTasks_21 : decode cX5_layTasks 21 = .ok (.iconst 0, 1) := by decide +kernel
theorem dX5_layTasks_22 : decode cX5_layTasks 22 = .ok (.istore_n 2, 1) := by decide +kernel
theorem dX5_layTasks_23 : decode cX5_layTasks 23 = .ok (.iload_n 2, 1) := by decide +kernel
theorem dX5_layTasks_24 : decode cX5_layTasks 24 = .ok (.bipush 20, 2) := by decide +kernel
theorem dX5_layTasks_26 : decode cX5_layTasks 26 = .ok (.if_icmp .ge 156, 3) := by decide +kernel
theorem dX5_layTasks_29 : decode cX5_layTasks 29 = .ok (.aload_n 0, 1) := by decide +kernel
theorem dX5_layTasks_30 : decode cX5_layTasks 30 = .ok (.getfield 7, 3) := by decide +kernel
theorem dX5_layTasks_33 : decode cX5_layTasks 33 = .ok (.bipush 10, 2) := by decide +kernel
theorem dX5_layTasks_35 : decode cX5_layTasks 35 = .ok (.iload_n 2, 1) := by decide +kernel
theorem dX5_layTasks_36 : decode cX5_layTasks 36 = .ok (.iadd, 1) := by decide +kernel
theorem dX5_layTasks_37 : decode cX5_layTasks 37 = .ok (.iaload, 1) := by decide +kernel
theorem dX5_layTasks_38 : decode cX5_layTasks 38 = .ok (.istore_n 3, 1) := by decide +kernel
theorem dX5_layTasks_39 : decode cX5_layTasks 39 = .ok (.aload_n 0, 1) := by decide +kernel
theorem dX5_layTasks_40 : decode cX5_layTasks 40 = .ok (.iload_n 1, 1) := by decide +kernel
theorem dX5_layTasks_41 : decode cX5_layTasks 41 = .ok (.iload_n 2, 1) := by decide +kernel
theorem dX5_layTasks_42 : decode cX5_layTasks 42 = .ok (.iconst (-1), 1) := by decide +kernel
theorem dX5_layTasks_43 : decode cX5_layTasks 43 = .ok (.invokevirtual 57, 3) := by decide +kernel
theorem dX5_layTasks_46 : decode cX5_layTasks 46 = .ok (.istore 4, 2) := by decide +kernel
theorem dX5_layTasks_48 : decode cX5_layTasks 48 = .ok (.aload_n 0, 1) := by decide +kernel
theorem dX5_layTasks_49 : decode cX5_layTasks 49 = .ok (.iload_n 1, 1) := by decide +kernel
theorem dX5_layTasks_50 : decode cX5_layTasks 50 = .ok (.iload_n 2, 1) := by decide +kernel
theorem dX5_layTasks_51 : decode cX5_layTasks 51 = .ok (.iconst 1, 1) := by decide +kernel
theorem dX5_layTasks_52 : decode cX5_layTasks 52 = .ok (.invokevirtual 57, 3) := by decide +kernel
theorem dX5_layTasks_55 : decode cX5_layTasks 55 = .ok (.istore 5, 2) := by decide +kernel
theorem dX5_layTasks_57 : decode cX5_layTasks 57 = .ok (.iload 4, 2) := by decide +kernel
theorem dX5_layTasks_59 : decode cX5_layTasks 59 = .ok (.ifCond .lt 83, 3) := by decide +kernel
theorem dX5_layTasks_62 : decode cX5_layTasks 62 = .ok (.iload 5, 2) := by decide +kernel
theorem dX5_layTasks_64 : decode cX5_layTasks 64 = .ok (.ifCond .lt 78, 3) := by decide +kernel
theorem dX5_layTasks_67 : decode cX5_layTasks 67 = .ok (.iload 4, 2) := by decide +kernel
theorem dX5_layTasks_69 : decode cX5_layTasks 69 = .ok (.iload 5, 2) := by decide +kernel
theorem dX5_layTasks_71 : decode cX5_layTasks 71 = .ok (.if_icmp .eq 71, 3) := by decide +kernel
theorem dX5_layTasks_74 : decode cX5_layTasks 74 = .ok (.iload_n 2, 1) := by decide +kernel
theorem dX5_layTasks_75 : decode cX5_layTasks 75 = .ok (.aload_n 0, 1) := by decide +kernel
theorem dX5_layTasks_76 : decode cX5_layTasks 76 = .ok (.iload 4, 2) := by decide +kernel
theorem dX5_layTasks_78 : decode cX5_layTasks 78 = .ok (.iconst 0, 1) := by decide +kernel
theorem dX5_layTasks_79 : decode cX5_layTasks 79 = .ok (.invokevirtual 47, 3) := by decide +kernel
theorem dX5_layTasks_82 : decode cX5_layTasks 82 = .ok (.isub, 1) := by decide +kernel
theorem dX5_layTasks_83 : decode cX5_layTasks 83 = .ok (.istore 6, 2) := by decide +kernel
theorem dX5_layTasks_85 : decode cX5_layTasks 85 = .ok (.iload_n 3, 1) := by decide +kernel
theorem dX5_layTasks_86 : decode cX5_layTasks 86 = .ok (.iload 6, 2) := by decide +kernel
theorem dX5_layTasks_88 : decode cX5_layTasks 88 = .ok (.imul, 1) := by decide +kernel
theorem dX5_layTasks_89 : decode cX5_layTasks 89 = .ok (.aload_n 0, 1) := by decide +kernel
theorem dX5_layTasks_90 : decode cX5_layTasks 90 = .ok (.iload 5, 2) := by decide +kernel
theorem dX5_layTasks_92 : decode cX5_layTasks 92 = .ok (.iconst 0, 1) := by decide +kernel
theorem dX5_layTasks_93 : decode cX5_layTasks 93 = .ok (.invokevirtual 47, 3) := by decide +kernel
theorem dX5_layTasks_96 : decode cX5_layTasks 96 = .ok (.aload_n 0, 1) := by decide +kernel
theorem dX5_layTasks_97 : decode cX5_layTasks 97 = .ok (.iload 4, 2) := by decide +kernel
theorem dX5_layTasks_99 : decode cX5_layTasks 99 = .ok (.iconst 0, 1) := by decide +kernel
theorem dX5_layTasks_100 : decode cX5_layTasks 100 = .ok (.invokevirtual 47, 3) := by decide +kernel
theorem dX5_layTasks_103 : decode cX5_layTasks 103 = .ok (.isub, 1) := by decide +kernel
theorem dX5_layTasks_104 : decode cX5_layTasks 104 = .ok (.idiv, 1) := by decide +kernel
theorem dX5_layTasks_105 : decode cX5_layTasks 105 = .ok (.istore 7, 2) := by decide +kernel
theorem dX5_layTasks_107 : decode cX5_layTasks 107 = .ok (.aload_n 0, 1) := by decide +kernel
theorem dX5_layTasks_108 : decode cX5_layTasks 108 = .ok (.getfield 29, 3) := by decide +kernel
theorem dX5_layTasks_111 : decode cX5_layTasks 111 = .ok (.iload 5, 2) := by decide +kernel
theorem dX5_layTasks_113 : decode cX5_layTasks 113 = .ok (.dup2, 1) := by decide +kernel
theorem dX5_layTasks_114 : decode cX5_layTasks 114 = .ok (.iaload, 1) := by decide +kernel
theorem dX5_layTasks_115 : decode cX5_layTasks 115 = .ok (.bipush 10, 2) := by decide +kernel
theorem dX5_layTasks_117 : decode cX5_layTasks 117 = .ok (.iload 7, 2) := by decide +kernel
theorem dX5_layTasks_119 : decode cX5_layTasks 119 = .ok (.imul, 1) := by decide +kernel
theorem dX5_layTasks_120 : decode cX5_layTasks 120 = .ok (.iadd, 1) := by decide +kernel
theorem dX5_layTasks_121 : decode cX5_layTasks 121 = .ok (.iastore, 1) := by decide +kernel
theorem dX5_layTasks_122 : decode cX5_layTasks 122 = .ok (.aload_n 0, 1) := by decide +kernel
theorem dX5_layTasks_123 : decode cX5_layTasks 123 = .ok (.getfield 29, 3) := by decide +kernel
theorem dX5_layTasks_126 : decode cX5_layTasks 126 = .ok (.iload 4, 2) := by decide +kernel
theorem dX5_layTasks_128 : decode cX5_layTasks 128 = .ok (.dup2, 1) := by decide +kernel
theorem dX5_layTasks_129 : decode cX5_layTasks 129 = .ok (.iaload, 1) := by decide +kernel
theorem dX5_layTasks_130 : decode cX5_layTasks 130 = .ok (.bipush 10, 2) := by decide +kernel
theorem dX5_layTasks_132 : decode cX5_layTasks 132 = .ok (.iload_n 3, 1) := by decide +kernel
theorem dX5_layTasks_133 : decode cX5_layTasks 133 = .ok (.iload 7, 2) := by decide +kernel
theorem dX5_layTasks_135 : decode cX5_layTasks 135 = .ok (.isub, 1) := by decide +kernel
theorem dX5_layTasks_136 : decode cX5_layTasks 136 = .ok (.imul, 1) := by decide +kernel
theorem dX5_layTasks_137 : decode cX5_layTasks 137 = .ok (.iadd, 1) := by decide +kernel
theorem dX5_layTasks_138 : decode cX5_layTasks 138 = .ok (.iastore, 1) := by decide +kernel
theorem dX5_layTasks_139 : decode cX5_layTasks 139 = .ok (.goto 37, 3) := by decide +kernel
theorem dX5_layTasks_142 : decode cX5_layTasks 142 = .ok (.iload 4, 2) := by decide +kernel
theorem dX5_layTasks_144 : decode cX5_layTasks 144 = .ok (.ifCond .ge 8, 3) := by decide +kernel
theorem dX5_layTasks_147 : decode cX5_layTasks 147 = .ok (.iload 5, 2) := by decide +kernel
theorem dX5_layTasks_149 : decode cX5_layTasks 149 = .ok (.ifCond .lt 27, 3) := by decide +kernel
theorem dX5_layTasks_152 : decode cX5_layTasks 152 = .ok (.aload_n 0, 1) := by decide +kernel
theorem dX5_layTasks_153 : decode cX5_layTasks 153 = .ok (.getfield 29, 3) := by decide +kernel
theorem dX5_layTasks_156 : decode cX5_layTasks 156 = .ok (.iload 4, 2) := by decide +kernel
theorem dX5_layTasks_158 : decode cX5_layTasks 158 = .ok (.ifCond .lt 8, 3) := by decide +kernel
theorem dX5_layTasks_161 : decode cX5_layTasks 161 = .ok (.iload 4, 2) := by decide +kernel
theorem dX5_layTasks_163 : decode cX5_layTasks 163 = .ok (.goto 5, 3) := by decide +kernel
theorem dX5_layTasks_166 : decode cX5_layTasks 166 = .ok (.iload 5, 2) := by decide +kernel
theorem dX5_layTasks_168 : decode cX5_layTasks 168 = .ok (.dup2, 1) := by decide +kernel
theorem dX5_layTasks_169 : decode cX5_layTasks 169 = .ok (.iaload, 1) := by decide +kernel
theorem dX5_layTasks_170 : decode cX5_layTasks 170 = .ok (.bipush 10, 2) := by decide +kernel
theorem dX5_layTasks_172 : decode cX5_layTasks 172 = .ok (.iload_n 3, 1) := by decide +kernel
theorem dX5_layTasks_173 : decode cX5_layTasks 173 = .ok (.imul, 1) := by decide +kernel
theorem dX5_layTasks_174 : decode cX5_layTasks 174 = .ok (.iadd, 1) := by decide +kernel
theorem dX5_layTasks_175 : decode cX5_layTasks 175 = .ok (.iastore, 1) := by decide +kernel
theorem dX5_layTasks_176 : decode cX5_layTasks 176 = .ok (.iinc 2 1, 3) := by decide +kernel
theorem dX5_layTasks_179 : decode cX5_layTasks 179 = .ok (.goto (-156), 3) := by decide +kernel
theorem dX5_layTasks_182 : decode cX5_layTasks 182 = .ok (.return_, 1) := by decide +kernel
theorem dX5_burst_0 : decode cX5_burst 0 = .ok (.aload_n 0, 1) := by decide +kernel
theorem dX5_burst_1 : decode cX5_burst 1 = .ok (.aload_n 0, 1) := by decide +kernel
theorem dX5_burst_2 : decode cX5_burst 2 = .ok (.iconst 0, 1) := by decide +kernel
theorem dX5_burst_3 : decode cX5_burst 3 = .ok (.invokevirtual 61, 3) := by decide +kernel
theorem dX5_burst_6 : decode cX5_burst 6 = .ok (.invokevirtual 65, 3) := by decide +kernel
theorem dX5_burst_9 : decode cX5_burst 9 = .ok (.bipush (-6), 2) := by decide +kernel
theorem dX5_burst_11 : decode cX5_burst 11 = .ok (.istore_n 1, 1) := by decide +kernel
theorem dX5_burst_12 : decode cX5_burst 12 = .ok (.iconst 0, 1) := by decide +kernel
theorem dX5_burst_13 : decode cX5_burst 13 = .ok (.istore_n 2, 1) := by decide +kernel
theorem dX5_burst_14 : decode cX5_burst 14 = .ok (.iconst 0, 1) := by decide +kernel
theorem dX5_burst_15 : decode cX5_burst 15 = .ok (.istore_n 3, 1) := by decide +kernel
theorem dX5_burst_16 : decode cX5_burst 16 = .ok (.iload_n 3, 1) := by decide +kernel
theorem dX5_burst_17 : decode cX5_burst 17 = .ok (.aload_n 0, 1) := by decide +kernel
theorem dX5_burst_18 : decode cX5_burst 18 = .ok (.getfield 7, 3) := by decide +kernel
theorem dX5_burst_21 : decode cX5_burst 21 = .ok (.iconst 3, 1) := by decide +kernel
theorem dX5_burst_22 : decode cX5_burst 22 = .ok (.iaload, 1) := by decide +kernel
theorem dX5_burst_23 : decode cX5_burst 23 = .ok (.if_icmp .ge 47, 3) := by decide +kernel
theorem dX5_burst_26 : decode cX5_burst 26 = .ok (.aload_n 0, 1) := by decide +kernel
theorem dX5_burst_27 : decode cX5_burst 27 = .ok (.iload_n 3, 1) := by decide +kernel
theorem dX5_burst_28 : decode cX5_burst 28 = .ok (.invokevirtual 69, 3) := by decide +kernel
theorem dX5_burst_31 : decode cX5_burst 31 = .ok (.ifCond .eq 19, 3) := by decide +kernel
theorem dX5_burst_34 : decode cX5_burst 34 = .ok (.aload_n 0, 1) := by decide +kernel
theorem dX5_burst_35 : decode cX5_burst 35 = .ok (.getfield 29, 3) := by decide +kernel
theorem dX5_burst_38 : decode cX5_burst 38 = .ok (.iload_n 3, 1) := by decide +kernel
theorem dX5_burst_39 : decode cX5_burst 39 = .ok (.iaload, 1) := by decide +kernel
theorem dX5_burst_40 : decode cX5_burst 40 = .ok (.aload_n 0, 1) := by decide +kernel
theorem dX5_burst_41 : decode cX5_burst 41 = .ok (.iload_n 3, 1) := by decide +kernel
theorem dX5_burst_42 : decode cX5_burst 42 = .ok (.iconst 3, 1) := by decide +kernel
theorem dX5_burst_43 : decode cX5_burst 43 = .ok (.invokevirtual 47, 3) := by decide +kernel
theorem dX5_burst_46 : decode cX5_burst 46 = .ok (.isub, 1) := by decide +kernel
theorem dX5_burst_47 : decode cX5_burst 47 = .ok (.goto 4, 3) := by decide +kernel
theorem dX5_burst_50 : decode cX5_burst 50 = .ok (.iconst 0, 1) := by decide +kernel
theorem dX5_burst_51 : decode cX5_burst 51 = .ok (.istore 4, 2) := by decide +kernel
theorem dX5_burst_53 : decode cX5_burst 53 = .ok (.iload 4, 2) := by decide +kernel
theorem dX5_burst_55 : decode cX5_burst 55 = .ok (.iload_n 2, 1) := by decide +kernel
theorem dX5_burst_56 : decode cX5_burst 56 = .ok (.if_icmp .le 8, 3) := by decide +kernel
theorem dX5_burst_59 : decode cX5_burst 59 = .ok (.iload_n 3, 1) := by decide +kernel
theorem dX5_burst_60 : decode cX5_burst 60 = .ok (.istore_n 1, 1) := by decide +kernel
theorem dX5_burst_61 : decode cX5_burst 61 = .ok (.iload 4, 2) := by decide +kernel
theorem dX5_burst_63 : decode cX5_burst 63 = .ok (.istore_n 2, 1) := by decide +kernel
theorem dX5_burst_64 : decode cX5_burst 64 = .ok (.iinc 3 1, 3) := by decide +kernel
theorem dX5_burst_67 : decode cX5_burst 67 = .ok (.goto (-51), 3) := by decide +kernel
theorem dX5_burst_70 : decode cX5_burst 70 = .ok (.iload_n 1, 1) := by decide +kernel
theorem dX5_burst_71 : decode cX5_burst 71 = .ok (.ireturn, 1) := by decide +kernel
theorem dX5_breakWire_0 : decode cX5_breakWire 0 = .ok (.aload_n 0, 1) := by decide +kernel
theorem dX5_breakWire_1 : decode cX5_breakWire 1 = .ok (.iload_n 1, 1) := by decide +kernel
theorem dX5_breakWire_2 : decode cX5_breakWire 2 = .ok (.iconst 5, 1) := by decide +kernel
theorem dX5_breakWire_3 : decode cX5_breakWire 3 = .ok (.iconst 1, 1) := by decide +kernel
theorem dX5_breakWire_4 : decode cX5_breakWire 4 = .ok (.invokevirtual 73, 3) := by decide +kernel
theorem dX5_breakWire_7 : decode cX5_breakWire 7 = .ok (.aload_n 0, 1) := by decide +kernel
theorem dX5_breakWire_8 : decode cX5_breakWire 8 = .ok (.iload_n 1, 1) := by decide +kernel
theorem dX5_breakWire_9 : decode cX5_breakWire 9 = .ok (.iconst 4, 1) := by decide +kernel
theorem dX5_breakWire_10 : decode cX5_breakWire 10 = .ok (.iconst 0, 1) := by decide +kernel
theorem dX5_breakWire_11 : decode cX5_breakWire 11 = .ok (.invokevirtual 73, 3) := by decide +kernel
theorem dX5_breakWire_14 : decode cX5_breakWire 14 = .ok (.aload_n 0, 1) := by decide +kernel
theorem dX5_breakWire_15 : decode cX5_breakWire 15 = .ok (.iload_n 1, 1) := by decide +kernel
theorem dX5_breakWire_16 : decode cX5_breakWire 16 = .ok (.bipush 6, 2) := by decide +kernel
theorem dX5_breakWire_18 : decode cX5_breakWire 18 = .ok (.aload_n 0, 1) := by decide +kernel
theorem dX5_breakWire_19 : decode cX5_breakWire 19 = .ok (.getfield 7, 3) := by decide +kernel
theorem dX5_breakWire_22 : decode cX5_breakWire 22 = .ok (.iconst 2, 1) := by decide +kernel
theorem dX5_breakWire_23 : decode cX5_breakWire 23 = .ok (.iaload, 1) := by decide +kernel
theorem dX5_breakWire_24 : decode cX5_breakWire 24 = .ok (.invokevirtual 73, 3) := by decide +kernel
theorem dX5_breakWire_27 : decode cX5_breakWire 27 = .ok (.return_, 1) := by decide +kernel
theorem dX5_settle_0 : decode cX5_settle 0 = .ok (.iconst 0, 1) := by decide +kernel
theorem dX5_settle_1 : decode cX5_settle 1 = .ok (.istore_n 1, 1) := by decide +kernel
theorem dX5_settle_2 : decode cX5_settle 2 = .ok (.aload_n 0, 1) := by decide +kernel
theorem dX5_settle_3 : decode cX5_settle 3 = .ok (.invokevirtual 77, 3) := by decide +kernel
theorem dX5_settle_6 : decode cX5_settle 6 = .ok (.istore_n 2, 1) := by decide +kernel
theorem dX5_settle_7 : decode cX5_settle 7 = .ok (.iload_n 2, 1) := by decide +kernel
theorem dX5_settle_8 : decode cX5_settle 8 = .ok (.ifCond .lt 19, 3) := by decide +kernel
theorem dX5_settle_11 : decode cX5_settle 11 = .ok (.aload_n 0, 1) := by decide +kernel
theorem dX5_settle_12 : decode cX5_settle 12 = .ok (.iload_n 2, 1) := by decide +kernel
theorem dX5_settle_13 : decode cX5_settle 13 = .ok (.invokevirtual 81, 3) := by decide +kernel
theorem dX5_settle_16 : decode cX5_settle 16 = .ok (.iinc 1 1, 3) := by decide +kernel
theorem dX5_settle_19 : decode cX5_settle 19 = .ok (.aload_n 0, 1) := by decide +kernel
theorem dX5_settle_20 : decode cX5_settle 20 = .ok (.invokevirtual 77, 3) := by decide +kernel
theorem dX5_settle_23 : decode cX5_settle 23 = .ok (.istore_n 2, 1) := by decide +kernel
theorem dX5_settle_24 : decode cX5_settle 24 = .ok (.goto (-17), 3) := by decide +kernel
theorem dX5_settle_27 : decode cX5_settle 27 = .ok (.iload_n 1, 1) := by decide +kernel
theorem dX5_settle_28 : decode cX5_settle 28 = .ok (.ireturn, 1) := by decide +kernel
theorem dX5_set_0 : decode cX5_set 0 = .ok (.iload_n 1, 1) := by decide +kernel
theorem dX5_set_1 : decode cX5_set 1 = .ok (.iconst 0, 1) := by decide +kernel
theorem dX5_set_2 : decode cX5_set 2 = .ok (.iconst 1, 1) := by decide +kernel
theorem dX5_set_3 : decode cX5_set 3 = .ok (.invokestatic 43, 3) := by decide +kernel
theorem dX5_set_6 : decode cX5_set 6 = .ok (.ifCond .eq 13, 3) := by decide +kernel
theorem dX5_set_9 : decode cX5_set 9 = .ok (.iload_n 2, 1) := by decide +kernel
theorem dX5_set_10 : decode cX5_set 10 = .ok (.iconst 0, 1) := by decide +kernel
theorem dX5_set_11 : decode cX5_set 11 = .ok (.bipush 100, 2) := by decide +kernel
theorem dX5_set_13 : decode cX5_set 13 = .ok (.invokestatic 43, 3) := by decide +kernel
theorem dX5_set_16 : decode cX5_set 16 = .ok (.ifCond .ne 6, 3) := by decide +kernel
theorem dX5_set_19 : decode cX5_set 19 = .ok (.bipush (-2), 2) := by decide +kernel
theorem dX5_set_21 : decode cX5_set 21 = .ok (.ireturn, 1) := by decide +kernel
theorem dX5_set_22 : decode cX5_set 22 = .ok (.aload_n 0, 1) := by decide +kernel
theorem dX5_set_23 : decode cX5_set 23 = .ok (.invokevirtual 84, 3) := by decide +kernel
theorem dX5_set_26 : decode cX5_set 26 = .ok (.aload_n 0, 1) := by decide +kernel
theorem dX5_set_27 : decode cX5_set 27 = .ok (.getfield 7, 3) := by decide +kernel
theorem dX5_set_30 : decode cX5_set 30 = .ok (.iload_n 1, 1) := by decide +kernel
theorem dX5_set_31 : decode cX5_set 31 = .ok (.iaload, 1) := by decide +kernel
theorem dX5_set_32 : decode cX5_set 32 = .ok (.istore_n 3, 1) := by decide +kernel
theorem dX5_set_33 : decode cX5_set 33 = .ok (.aload_n 0, 1) := by decide +kernel
theorem dX5_set_34 : decode cX5_set 34 = .ok (.getfield 7, 3) := by decide +kernel
theorem dX5_set_37 : decode cX5_set 37 = .ok (.iload_n 1, 1) := by decide +kernel
theorem dX5_set_38 : decode cX5_set 38 = .ok (.iload_n 2, 1) := by decide +kernel
theorem dX5_set_39 : decode cX5_set 39 = .ok (.iastore, 1) := by decide +kernel
theorem dX5_set_40 : decode cX5_set 40 = .ok (.iload_n 3, 1) := by decide +kernel
theorem dX5_set_41 : decode cX5_set 41 = .ok (.ireturn, 1) := by decide +kernel
theorem dX5_wireAt_0 : decode cX5_wireAt 0 = .ok (.bipush (-6), 2) := by decide +kernel
theorem dX5_wireAt_2 : decode cX5_wireAt 2 = .ok (.istore_n 2, 1) := by decide +kernel
theorem dX5_wireAt_3 : decode cX5_wireAt 3 = .ok (.iconst 0, 1) := by decide +kernel
theorem dX5_wireAt_4 : decode cX5_wireAt 4 = .ok (.istore_n 3, 1) := by decide +kernel
theorem dX5_wireAt_5 : decode cX5_wireAt 5 = .ok (.iload_n 3, 1) := by decide +kernel
theorem dX5_wireAt_6 : decode cX5_wireAt 6 = .ok (.aload_n 0, 1) := by decide +kernel
theorem dX5_wireAt_7 : decode cX5_wireAt 7 = .ok (.getfield 7, 3) := by decide +kernel
theorem dX5_wireAt_10 : decode cX5_wireAt 10 = .ok (.iconst 3, 1) := by decide +kernel
theorem dX5_wireAt_11 : decode cX5_wireAt 11 = .ok (.iaload, 1) := by decide +kernel
theorem dX5_wireAt_12 : decode cX5_wireAt 12 = .ok (.if_icmp .ge 25, 3) := by decide +kernel
theorem dX5_wireAt_15 : decode cX5_wireAt 15 = .ok (.aload_n 0, 1) := by decide +kernel
theorem dX5_wireAt_16 : decode cX5_wireAt 16 = .ok (.iload_n 3, 1) := by decide +kernel
theorem dX5_wireAt_17 : decode cX5_wireAt 17 = .ok (.iconst 0, 1) := by decide +kernel
theorem dX5_wireAt_18 : decode cX5_wireAt 18 = .ok (.invokevirtual 47, 3) := by decide +kernel
theorem dX5_wireAt_21 : decode cX5_wireAt 21 = .ok (.iload_n 1, 1) := by decide +kernel
theorem dX5_wireAt_22 : decode cX5_wireAt 22 = .ok (.if_icmp .ne 7, 3) := by decide +kernel
theorem dX5_wireAt_25 : decode cX5_wireAt 25 = .ok (.iload_n 3, 1) := by decide +kernel
theorem dX5_wireAt_26 : decode cX5_wireAt 26 = .ok (.goto 4, 3) := by decide +kernel
theorem dX5_wireAt_29 : decode cX5_wireAt 29 = .ok (.iload_n 2, 1) := by decide +kernel
theorem dX5_wireAt_30 : decode cX5_wireAt 30 = .ok (.istore_n 2, 1) := by decide +kernel
theorem dX5_wireAt_31 : decode cX5_wireAt 31 = .ok (.iinc 3 1, 3) := by decide +kernel
theorem dX5_wireAt_34 : decode cX5_wireAt 34 = .ok (.goto (-29), 3) := by decide +kernel
theorem dX5_wireAt_37 : decode cX5_wireAt 37 = .ok (.iload_n 2, 1) := by decide +kernel
theorem dX5_wireAt_38 : decode cX5_wireAt 38 = .ok (.ireturn, 1) := by decide +kernel
theorem dX5_wire_0 : decode cX5_wire 0 = .ok (.iload_n 1, 1) := by decide +kernel
theorem dX5_wire_1 : decode cX5_wire 1 = .ok (.iconst 0, 1) := by decide +kernel
theorem dX5_wire_2 : decode cX5_wire 2 = .ok (.bipush 19, 2) := by decide +kernel
theorem dX5_wire_4 : decode cX5_wire 4 = .ok (.invokestatic 43, 3) := by decide +kernel
theorem dX5_wire_7 : decode cX5_wire 7 = .ok (.ifCond .eq 48, 3) := by decide +kernel
theorem dX5_wire_10 : decode cX5_wire 10 = .ok (.iload_n 2, 1) := by decide +kernel
theorem dX5_wire_11 : decode cX5_wire 11 = .ok (.bipush 10, 2) := by decide +kernel
theorem dX5_wire_13 : decode cX5_wire 13 = .ok (.sipush 200, 3) := by decide +kernel
theorem dX5_wire_16 : decode cX5_wire 16 = .ok (.invokestatic 43, 3) := by decide +kernel
theorem dX5_wire_19 : decode cX5_wire 19 = .ok (.ifCond .eq 36, 3) := by decide +kernel
theorem dX5_wire_22 : decode cX5_wire 22 = .ok (.iload_n 3, 1) := by decide +kernel
theorem dX5_wire_23 : decode cX5_wire 23 = .ok (.iconst 1, 1) := by decide +kernel
theorem dX5_wire_24 : decode cX5_wire 24 = .ok (.bipush 20, 2) := by decide +kernel
theorem dX5_wire_26 : decode cX5_wire 26 = .ok (.invokestatic 43, 3) := by decide +kernel
theorem dX5_wire_29 : decode cX5_wire 29 = .ok (.ifCond .eq 26, 3) := by decide +kernel
theorem dX5_wire_32 : decode cX5_wire 32 = .ok (.iload 4, 2) := by decide +kernel
theorem dX5_wire_34 : decode cX5_wire 34 = .ok (.bipush 100, 2) := by decide +kernel
theorem dX5_wire_36 : decode cX5_wire 36 = .ok (.ldc 87, 2) := by decide +kernel
theorem dX5_wire_38 : decode cX5_wire 38 = .ok (.invokestatic 43, 3) := by decide +kernel
theorem dX5_wire_41 : decode cX5_wire 41 = .ok (.ifCond .eq 14, 3) := by decide +kernel
theorem dX5_wire_44 : decode cX5_wire 44 = .ok (.iload 5, 2) := by decide +kernel
theorem dX5_wire_46 : decode cX5_wire 46 = .ok (.iconst 0, 1) := by decide +kernel
theorem dX5_wire_47 : decode cX5_wire 47 = .ok (.ldc 87, 2) := by decide +kernel
theorem dX5_wire_49 : decode cX5_wire 49 = .ok (.invokestatic 43, 3) := by decide +kernel
theorem dX5_wire_52 : decode cX5_wire 52 = .ok (.ifCond .ne 6, 3) := by decide +kernel
theorem dX5_wire_55 : decode cX5_wire 55 = .ok (.bipush (-2), 2) := by decide +kernel
theorem dX5_wire_57 : decode cX5_wire 57 = .ok (.ireturn, 1) := by decide +kernel
theorem dX5_wire_58 : decode cX5_wire 58 = .ok (.aload_n 0, 1) := by decide +kernel
theorem dX5_wire_59 : decode cX5_wire 59 = .ok (.getfield 7, 3) := by decide +kernel
theorem dX5_wire_62 : decode cX5_wire 62 = .ok (.iconst 3, 1) := by decide +kernel
theorem dX5_wire_63 : decode cX5_wire 63 = .ok (.iaload, 1) := by decide +kernel
theorem dX5_wire_64 : decode cX5_wire 64 = .ok (.bipush 8, 2) := by decide +kernel
theorem dX5_wire_66 : decode cX5_wire 66 = .ok (.if_icmp .ne 6, 3) := by decide +kernel
theorem dX5_wire_69 : decode cX5_wire 69 = .ok (.bipush (-4), 2) := by decide +kernel
theorem dX5_wire_71 : decode cX5_wire 71 = .ok (.ireturn, 1) := by decide +kernel
theorem dX5_wire_72 : decode cX5_wire 72 = .ok (.aload_n 0, 1) := by decide +kernel
theorem dX5_wire_73 : decode cX5_wire 73 = .ok (.iload_n 1, 1) := by decide +kernel
theorem dX5_wire_74 : decode cX5_wire 74 = .ok (.invokevirtual 88, 3) := by decide +kernel
theorem dX5_wire_77 : decode cX5_wire 77 = .ok (.ifCond .ge 10, 3) := by decide +kernel
theorem dX5_wire_80 : decode cX5_wire 80 = .ok (.iload 5, 2) := by decide +kernel
theorem dX5_wire_82 : decode cX5_wire 82 = .ok (.iload 4, 2) := by decide +kernel
theorem dX5_wire_84 : decode cX5_wire 84 = .ok (.if_icmp .le 6, 3) := by decide +kernel
theorem dX5_wire_87 : decode cX5_wire 87 = .ok (.bipush (-5), 2) := by decide +kernel
theorem dX5_wire_89 : decode cX5_wire 89 = .ok (.ireturn, 1) := by decide +kernel
theorem dX5_wire_90 : decode cX5_wire 90 = .ok (.aload_n 0, 1) := by decide +kernel
theorem dX5_wire_91 : decode cX5_wire 91 = .ok (.invokevirtual 84, 3) := by decide +kernel
theorem dX5_wire_94 : decode cX5_wire 94 = .ok (.aload_n 0, 1) := by decide +kernel
theorem dX5_wire_95 : decode cX5_wire 95 = .ok (.getfield 7, 3) := by decide +kernel
theorem dX5_wire_98 : decode cX5_wire 98 = .ok (.iconst 3, 1) := by decide +kernel
theorem dX5_wire_99 : decode cX5_wire 99 = .ok (.iaload, 1) := by decide +kernel
theorem dX5_wire_100 : decode cX5_wire 100 = .ok (.istore 6, 2) := by decide +kernel
theorem dX5_wire_102 : decode cX5_wire 102 = .ok (.aload_n 0, 1) := by decide +kernel
theorem dX5_wire_103 : decode cX5_wire 103 = .ok (.getfield 7, 3) := by decide +kernel
theorem dX5_wire_106 : decode cX5_wire 106 = .ok (.iconst 3, 1) := by decide +kernel
theorem dX5_wire_107 : decode cX5_wire 107 = .ok (.dup2, 1) := by decide +kernel
theorem dX5_wire_108 : decode cX5_wire 108 = .ok (.iaload, 1) := by decide +kernel
theorem dX5_wire_109 : decode cX5_wire 109 = .ok (.iconst 1, 1) := by decide +kernel
theorem dX5_wire_110 : decode cX5_wire 110 = .ok (.iadd, 1) := by decide +kernel
theorem dX5_wire_111 : decode cX5_wire 111 = .ok (.iastore, 1) := by decide +kernel
theorem dX5_wire_112 : decode cX5_wire 112 = .ok (.aload_n 0, 1) := by decide +kernel
theorem dX5_wire_113 : decode cX5_wire 113 = .ok (.iload 6, 2) := by decide +kernel
theorem dX5_wire_115 : decode cX5_wire 115 = .ok (.iconst 0, 1) := by decide +kernel
theorem dX5_wire_116 : decode cX5_wire 116 = .ok (.iload_n 1, 1) := by decide +kernel
theorem dX5_wire_117 : decode cX5_wire 117 = .ok (.invokevirtual 73, 3) := by decide +kernel
theorem dX5_wire_120 : decode cX5_wire 120 = .ok (.aload_n 0, 1) := by decide +kernel
theorem dX5_wire_121 : decode cX5_wire 121 = .ok (.iload 6, 2) := by decide +kernel
theorem dX5_wire_123 : decode cX5_wire 123 = .ok (.iconst 1, 1) := by decide +kernel
theorem dX5_wire_124 : decode cX5_wire 124 = .ok (.iload_n 2, 1) := by decide +kernel
theorem dX5_wire_125 : decode cX5_wire 125 = .ok (.invokevirtual 73, 3) := by decide +kernel
theorem dX5_wire_128 : decode cX5_wire 128 = .ok (.aload_n 0, 1) := by decide +kernel
theorem dX5_wire_129 : decode cX5_wire 129 = .ok (.iload 6, 2) := by decide +kernel
theorem dX5_wire_131 : decode cX5_wire 131 = .ok (.iconst 2, 1) := by decide +kernel
theorem dX5_wire_132 : decode cX5_wire 132 = .ok (.iload_n 3, 1) := by decide +kernel
theorem dX5_wire_133 : decode cX5_wire 133 = .ok (.invokevirtual 73, 3) := by decide +kernel
theorem dX5_wire_136 : decode cX5_wire 136 = .ok (.aload_n 0, 1) := by decide +kernel
theorem dX5_wire_137 : decode cX5_wire 137 = .ok (.iload 6, 2) := by decide +kernel
theorem dX5_wire_139 : decode cX5_wire 139 = .ok (.iconst 3, 1) := by decide +kernel
theorem dX5_wire_140 : decode cX5_wire 140 = .ok (.iload 4, 2) := by decide +kernel
theorem dX5_wire_142 : decode cX5_wire 142 = .ok (.invokevirtual 73, 3) := by decide +kernel
theorem dX5_wire_145 : decode cX5_wire 145 = .ok (.aload_n 0, 1) := by decide +kernel
theorem dX5_wire_146 : decode cX5_wire 146 = .ok (.iload 6, 2) := by decide +kernel
theorem dX5_wire_148 : decode cX5_wire 148 = .ok (.iconst 4, 1) := by decide +kernel
theorem dX5_wire_149 : decode cX5_wire 149 = .ok (.iload 5, 2) := by decide +kernel
theorem dX5_wire_151 : decode cX5_wire 151 = .ok (.invokevirtual 73, 3) := by decide +kernel
theorem dX5_wire_154 : decode cX5_wire 154 = .ok (.aload_n 0, 1) := by decide +kernel
theorem dX5_wire_155 : decode cX5_wire 155 = .ok (.iload 6, 2) := by decide +kernel
theorem dX5_wire_157 : decode cX5_wire 157 = .ok (.bipush 6, 2) := by decide +kernel
theorem dX5_wire_159 : decode cX5_wire 159 = .ok (.bipush (-6), 2) := by decide +kernel
theorem dX5_wire_161 : decode cX5_wire 161 = .ok (.invokevirtual 73, 3) := by decide +kernel
theorem dX5_wire_164 : decode cX5_wire 164 = .ok (.aload_n 0, 1) := by decide +kernel
theorem dX5_wire_165 : decode cX5_wire 165 = .ok (.iload 6, 2) := by decide +kernel
theorem dX5_wire_167 : decode cX5_wire 167 = .ok (.bipush 7, 2) := by decide +kernel
theorem dX5_wire_169 : decode cX5_wire 169 = .ok (.bipush (-6), 2) := by decide +kernel
theorem dX5_wire_171 : decode cX5_wire 171 = .ok (.invokevirtual 73, 3) := by decide +kernel
theorem dX5_wire_174 : decode cX5_wire 174 = .ok (.aload_n 0, 1) := by decide +kernel
theorem dX5_wire_175 : decode cX5_wire 175 = .ok (.iload 6, 2) := by decide +kernel
theorem dX5_wire_177 : decode cX5_wire 177 = .ok (.bipush 8, 2) := by decide +kernel
theorem dX5_wire_179 : decode cX5_wire 179 = .ok (.bipush (-6), 2) := by decide +kernel
theorem dX5_wire_181 : decode cX5_wire 181 = .ok (.invokevirtual 73, 3) := by decide +kernel
theorem dX5_wire_184 : decode cX5_wire 184 = .ok (.aload_n 0, 1) := by decide +kernel
theorem dX5_wire_185 : decode cX5_wire 185 = .ok (.iload 6, 2) := by decide +kernel
theorem dX5_wire_187 : decode cX5_wire 187 = .ok (.bipush 9, 2) := by decide +kernel
theorem dX5_wire_189 : decode cX5_wire 189 = .ok (.bipush (-6), 2) := by decide +kernel
theorem dX5_wire_191 : decode cX5_wire 191 = .ok (.invokevirtual 73, 3) := by decide +kernel
theorem dX5_wire_194 : decode cX5_wire 194 = .ok (.aload_n 0, 1) := by decide +kernel
theorem dX5_wire_195 : decode cX5_wire 195 = .ok (.invokevirtual 91, 3) := by decide +kernel
theorem dX5_wire_198 : decode cX5_wire 198 = .ok (.pop, 1) := by decide +kernel
theorem dX5_wire_199 : decode cX5_wire 199 = .ok (.iload 6, 2) := by decide +kernel
theorem dX5_wire_201 : decode cX5_wire 201 = .ok (.ireturn, 1) := by decide +kernel
theorem dX5_load_0 : decode cX5_load 0 = .ok (.iload_n 1, 1) := by decide +kernel
theorem dX5_load_1 : decode cX5_load 1 = .ok (.iconst 0, 1) := by decide +kernel
theorem dX5_load_2 : decode cX5_load 2 = .ok (.bipush 19, 2) := by decide +kernel
theorem dX5_load_4 : decode cX5_load 4 = .ok (.invokestatic 43, 3) := by decide +kernel
theorem dX5_load_7 : decode cX5_load 7 = .ok (.ifCond .ne 5, 3) := by decide +kernel
theorem dX5_load_10 : decode cX5_load 10 = .ok (.iconst (-1), 1) := by decide +kernel
theorem dX5_load_11 : decode cX5_load 11 = .ok (.ireturn, 1) := by decide +kernel
theorem dX5_load_12 : decode cX5_load 12 = .ok (.iload_n 2, 1) := by decide +kernel
theorem dX5_load_13 : decode cX5_load 13 = .ok (.iconst 0, 1) := by decide +kernel
theorem dX5_load_14 : decode cX5_load 14 = .ok (.sipush 1000, 3) := by decide +kernel
theorem dX5_load_17 : decode cX5_load 17 = .ok (.invokestatic 43, 3) := by decide +kernel
theorem dX5_load_20 : decode cX5_load 20 = .ok (.ifCond .ne 6, 3) := by decide +kernel
theorem dX5_load_23 : decode cX5_load 23 = .ok (.bipush (-2), 2) := by decide +kernel
theorem dX5_load_25 : decode cX5_load 25 = .ok (.ireturn, 1) := by decide +kernel
theorem dX5_load_26 : decode cX5_load 26 = .ok (.aload_n 0, 1) := by decide +kernel
theorem dX5_load_27 : decode cX5_load 27 = .ok (.invokevirtual 84, 3) := by decide +kernel
theorem dX5_load_30 : decode cX5_load 30 = .ok (.aload_n 0, 1) := by decide +kernel
theorem dX5_load_31 : decode cX5_load 31 = .ok (.getfield 7, 3) := by decide +kernel
theorem dX5_load_34 : decode cX5_load 34 = .ok (.bipush 10, 2) := by decide +kernel
theorem dX5_load_36 : decode cX5_load 36 = .ok (.iload_n 1, 1) := by decide +kernel
theorem dX5_load_37 : decode cX5_load 37 = .ok (.iadd, 1) := by decide +kernel
theorem dX5_load_38 : decode cX5_load 38 = .ok (.iaload, 1) := by decide +kernel
theorem dX5_load_39 : decode cX5_load 39 = .ok (.istore_n 3, 1) := by decide +kernel
theorem dX5_load_40 : decode cX5_load 40 = .ok (.aload_n 0, 1) := by decide +kernel
theorem dX5_load_41 : decode cX5_load 41 = .ok (.getfield 7, 3) := by decide +kernel
theorem dX5_load_44 : decode cX5_load 44 = .ok (.bipush 10, 2) := by decide +kernel
theorem dX5_load_46 : decode cX5_load 46 = .ok (.iload_n 1, 1) := by decide +kernel
theorem dX5_load_47 : decode cX5_load 47 = .ok (.iadd, 1) := by decide +kernel
theorem dX5_load_48 : decode cX5_load 48 = .ok (.iload_n 2, 1) := by decide +kernel
theorem dX5_load_49 : decode cX5_load 49 = .ok (.iastore, 1) := by decide +kernel
theorem dX5_load_50 : decode cX5_load 50 = .ok (.aload_n 0, 1) := by decide +kernel
theorem dX5_load_51 : decode cX5_load 51 = .ok (.invokevirtual 91, 3) := by decide +kernel
theorem dX5_load_54 : decode cX5_load 54 = .ok (.pop, 1) := by decide +kernel
theorem dX5_load_55 : decode cX5_load 55 = .ok (.iload_n 3, 1) := by decide +kernel
theorem dX5_load_56 : decode cX5_load 56 = .ok (.ireturn, 1) := by decide +kernel
theorem dX5_loosened_0 : decode cX5_loosened 0 = .ok (.iload_n 1, 1) := by decide +kernel
theorem dX5_loosened_1 : decode cX5_loosened 1 = .ok (.ifCond .ge 7, 3) := by decide +kernel
theorem dX5_loosened_4 : decode cX5_loosened 4 = .ok (.iload_n 1, 1) := by decide +kernel
theorem dX5_loosened_5 : decode cX5_loosened 5 = .ok (.goto 21, 3) := by decide +kernel
theorem dX5_loosened_8 : decode cX5_loosened 8 = .ok (.iload_n 1, 1) := by decide +kernel
theorem dX5_loosened_9 : decode cX5_loosened 9 = .ok (.iload_n 1, 1) := by decide +kernel
theorem dX5_loosened_10 : decode cX5_loosened 10 = .ok (.aload_n 0, 1) := by decide +kernel
theorem dX5_loosened_11 : decode cX5_loosened 11 = .ok (.getfield 7, 3) := by decide +kernel
theorem dX5_loosened_14 : decode cX5_loosened 14 = .ok (.iconst 0, 1) := by decide +kernel
theorem dX5_loosened_15 : decode cX5_loosened 15 = .ok (.iaload, 1) := by decide +kernel
theorem dX5_loosened_16 : decode cX5_loosened 16 = .ok (.imul, 1) := by decide +kernel
theorem dX5_loosened_17 : decode cX5_loosened 17 = .ok (.sipush 999, 3) := by decide +kernel
theorem dX5_loosened_20 : decode cX5_loosened 20 = .ok (.iadd, 1) := by decide +kernel
theorem dX5_loosened_21 : decode cX5_loosened 21 = .ok (.sipush 1000, 3) := by decide +kernel
theorem dX5_loosened_24 : decode cX5_loosened 24 = .ok (.idiv, 1) := by decide +kernel
theorem dX5_loosened_25 : decode cX5_loosened 25 = .ok (.isub, 1) := by decide +kernel
theorem dX5_loosened_26 : decode cX5_loosened 26 = .ok (.ireturn, 1) := by decide +kernel
theorem dX5_pass_0 : decode cX5_pass 0 = .ok (.iconst 0, 1) := by decide +kernel
theorem dX5_pass_1 : decode cX5_pass 1 = .ok (.istore_n 1, 1) := by decide +kernel
theorem dX5_pass_2 : decode cX5_pass 2 = .ok (.iload_n 1, 1) := by decide +kernel
theorem dX5_pass_3 : decode cX5_pass 3 = .ok (.aload_n 0, 1) := by decide +kernel
theorem dX5_pass_4 : decode cX5_pass 4 = .ok (.getfield 7, 3) := by decide +kernel
theorem dX5_pass_7 : decode cX5_pass 7 = .ok (.iconst 3, 1) := by decide +kernel
theorem dX5_pass_8 : decode cX5_pass 8 = .ok (.iaload, 1) := by decide +kernel
theorem dX5_pass_9 : decode cX5_pass 9 = .ok (.if_icmp .ge 61, 3) := by decide +kernel
theorem dX5_pass_12 : decode cX5_pass 12 = .ok (.aload_n 0, 1) := by decide +kernel
theorem dX5_pass_13 : decode cX5_pass 13 = .ok (.iload_n 1, 1) := by decide +kernel
theorem dX5_pass_14 : decode cX5_pass 14 = .ok (.iconst 4, 1) := by decide +kernel
theorem dX5_pass_15 : decode cX5_pass 15 = .ok (.aload_n 0, 1) := by decide +kernel
theorem dX5_pass_16 : decode cX5_pass 16 = .ok (.aload_n 0, 1) := by decide +kernel
theorem dX5_pass_17 : decode cX5_pass 17 = .ok (.iload_n 1, 1) := by decide +kernel
theorem dX5_pass_18 : decode cX5_pass 18 = .ok (.iconst 4, 1) := by decide +kernel
theorem dX5_pass_19 : decode cX5_pass 19 = .ok (.invokevirtual 47, 3) := by decide +kernel
theorem dX5_pass_22 : decode cX5_pass 22 = .ok (.invokevirtual 94, 3) := by decide +kernel
theorem dX5_pass_25 : decode cX5_pass 25 = .ok (.invokevirtual 73, 3) := by decide +kernel
theorem dX5_pass_28 : decode cX5_pass 28 = .ok (.aload_n 0, 1) := by decide +kernel
theorem dX5_pass_29 : decode cX5_pass 29 = .ok (.iload_n 1, 1) := by decide +kernel
theorem dX5_pass_30 : decode cX5_pass 30 = .ok (.bipush 8, 2) := by decide +kernel
theorem dX5_pass_32 : decode cX5_pass 32 = .ok (.aload_n 0, 1) := by decide +kernel
theorem dX5_pass_33 : decode cX5_pass 33 = .ok (.aload_n 0, 1) := by decide +kernel
theorem dX5_pass_34 : decode cX5_pass 34 = .ok (.iload_n 1, 1) := by decide +kernel
theorem dX5_pass_35 : decode cX5_pass 35 = .ok (.bipush 8, 2) := by decide +kernel
theorem dX5_pass_37 : decode cX5_pass 37 = .ok (.invokevirtual 47, 3) := by decide +kernel
theorem dX5_pass_40 : decode cX5_pass 40 = .ok (.invokevirtual 94, 3) := by decide +kernel
theorem dX5_pass_43 : decode cX5_pass 43 = .ok (.invokevirtual 73, 3) := by decide +kernel
theorem dX5_pass_46 : decode cX5_pass 46 = .ok (.aload_n 0, 1) := by decide +kernel
theorem dX5_pass_47 : decode cX5_pass 47 = .ok (.iload_n 1, 1) := by decide +kernel
theorem dX5_pass_48 : decode cX5_pass 48 = .ok (.bipush 9, 2) := by decide +kernel
theorem dX5_pass_50 : decode cX5_pass 50 = .ok (.aload_n 0, 1) := by decide +kernel
theorem dX5_pass_51 : decode cX5_pass 51 = .ok (.aload_n 0, 1) := by decide +kernel
theorem dX5_pass_52 : decode cX5_pass 52 = .ok (.iload_n 1, 1) := by decide +kernel
theorem dX5_pass_53 : decode cX5_pass 53 = .ok (.bipush 9, 2) := by decide +kernel
theorem dX5_pass_55 : decode cX5_pass 55 = .ok (.invokevirtual 47, 3) := by decide +kernel
theorem dX5_pass_58 : decode cX5_pass 58 = .ok (.invokevirtual 94, 3) := by decide +kernel
theorem dX5_pass_61 : decode cX5_pass 61 = .ok (.invokevirtual 73, 3) := by decide +kernel
theorem dX5_pass_64 : decode cX5_pass 64 = .ok (.iinc 1 1, 3) := by decide +kernel
theorem dX5_pass_67 : decode cX5_pass 67 = .ok (.goto (-65), 3) := by decide +kernel
theorem dX5_pass_70 : decode cX5_pass 70 = .ok (.aload_n 0, 1) := by decide +kernel
theorem dX5_pass_71 : decode cX5_pass 71 = .ok (.invokevirtual 91, 3) := by decide +kernel
theorem dX5_pass_74 : decode cX5_pass 74 = .ok (.istore_n 1, 1) := by decide +kernel
theorem dX5_pass_75 : decode cX5_pass 75 = .ok (.aload_n 0, 1) := by decide +kernel
theorem dX5_pass_76 : decode cX5_pass 76 = .ok (.getfield 7, 3) := by decide +kernel
theorem dX5_pass_79 : decode cX5_pass 79 = .ok (.iconst 2, 1) := by decide +kernel
theorem dX5_pass_80 : decode cX5_pass 80 = .ok (.dup2, 1) := by decide +kernel
theorem dX5_pass_81 : decode cX5_pass 81 = .ok (.iaload, 1) := by decide +kernel
theorem dX5_pass_82 : decode cX5_pass 82 = .ok (.iconst 1, 1) := by decide +kernel
theorem dX5_pass_83 : decode cX5_pass 83 = .ok (.iadd, 1) := by decide +kernel
theorem dX5_pass_84 : decode cX5_pass 84 = .ok (.iastore, 1) := by decide +kernel
theorem dX5_pass_85 : decode cX5_pass 85 = .ok (.iload_n 1, 1) := by decide +kernel
theorem dX5_pass_86 : decode cX5_pass 86 = .ok (.ireturn, 1) := by decide +kernel
theorem dX5_days_0 : decode cX5_days 0 = .ok (.iload_n 1, 1) := by decide +kernel
theorem dX5_days_1 : decode cX5_days 1 = .ok (.iconst 1, 1) := by decide +kernel
theorem dX5_days_2 : decode cX5_days 2 = .ok (.bipush 100, 2) := by decide +kernel
theorem dX5_days_4 : decode cX5_days 4 = .ok (.invokestatic 43, 3) := by decide +kernel
theorem dX5_days_7 : decode cX5_days 7 = .ok (.ifCond .ne 6, 3) := by decide +kernel
theorem dX5_days_10 : decode cX5_days 10 = .ok (.bipush (-2), 2) := by decide +kernel
theorem dX5_days_12 : decode cX5_days 12 = .ok (.ireturn, 1) := by decide +kernel
theorem dX5_days_13 : decode cX5_days 13 = .ok (.aload_n 0, 1) := by decide +kernel
theorem dX5_days_14 : decode cX5_days 14 = .ok (.invokevirtual 84, 3) := by decide +kernel
theorem dX5_days_17 : decode cX5_days 17 = .ok (.iconst 0, 1) := by decide +kernel
theorem dX5_days_18 : decode cX5_days 18 = .ok (.istore_n 2, 1) := by decide +kernel
theorem dX5_days_19 : decode cX5_days 19 = .ok (.iconst 0, 1) := by decide +kernel
theorem dX5_days_20 : decode cX5_days 20 = .ok (.istore_n 3, 1) := by decide +kernel
theorem dX5_days_21 : decode cX5_days 21 = .ok (.iload_n 3, 1) := by decide +kernel
theorem dX5_days_22 : decode cX5_days 22 = .ok (.iload_n 1, 1) := by decide +kernel
theorem dX5_days_23 : decode cX5_days 23 = .ok (.if_icmp .ge 16, 3) := by decide +kernel
theorem dX5_days_26 : decode cX5_days 26 = .ok (.iload_n 2, 1) := by decide +kernel
theorem dX5_days_27 : decode cX5_days 27 = .ok (.aload_n 0, 1) := by decide +kernel
theorem dX5_days_28 : decode cX5_days 28 = .ok (.invokevirtual 97, 3) := by decide +kernel
theorem dX5_days_31 : decode cX5_days 31 = .ok (.iadd, 1) := by decide +kernel
theorem dX5_days_32 : decode cX5_days 32 = .ok (.istore_n 2, 1) := by decide +kernel
theorem dX5_days_33 : decode cX5_days 33 = .ok (.iinc 3 1, 3) := by decide +kernel
theorem dX5_days_36 : decode cX5_days 36 = .ok (.goto (-15), 3) := by decide +kernel
theorem dX5_days_39 : decode cX5_days 39 = .ok (.iload_n 2, 1) := by decide +kernel
theorem dX5_days_40 : decode cX5_days 40 = .ok (.ireturn, 1) := by decide +kernel
theorem dX5_walk_0 : decode cX5_walk 0 = .ok (.iload_n 1, 1) := by decide +kernel
theorem dX5_walk_1 : decode cX5_walk 1 = .ok (.iconst 0, 1) := by decide +kernel
theorem dX5_walk_2 : decode cX5_walk 2 = .ok (.bipush 19, 2) := by decide +kernel
theorem dX5_walk_4 : decode cX5_walk 4 = .ok (.invokestatic 43, 3) := by decide +kernel
theorem dX5_walk_7 : decode cX5_walk 7 = .ok (.ifCond .ne 5, 3) := by decide +kernel
theorem dX5_walk_10 : decode cX5_walk 10 = .ok (.iconst (-1), 1) := by decide +kernel
theorem dX5_walk_11 : decode cX5_walk 11 = .ok (.ireturn, 1) := by decide +kernel
theorem dX5_walk_12 : decode cX5_walk 12 = .ok (.aload_n 0, 1) := by decide +kernel
theorem dX5_walk_13 : decode cX5_walk 13 = .ok (.invokevirtual 84, 3) := by decide +kernel
theorem dX5_walk_16 : decode cX5_walk 16 = .ok (.iload_n 1, 1) := by decide +kernel
theorem dX5_walk_17 : decode cX5_walk 17 = .ok (.aload_n 0, 1) := by decide +kernel
theorem dX5_walk_18 : decode cX5_walk 18 = .ok (.getfield 7, 3) := by decide +kernel
theorem dX5_walk_21 : decode cX5_walk 21 = .ok (.iconst 4, 1) := by decide +kernel
theorem dX5_walk_22 : decode cX5_walk 22 = .ok (.iaload, 1) := by decide +kernel
theorem dX5_walk_23 : decode cX5_walk 23 = .ok (.if_icmp .ge 14, 3) := by decide +kernel
theorem dX5_walk_26 : decode cX5_walk 26 = .ok (.aload_n 0, 1) := by decide +kernel
theorem dX5_walk_27 : decode cX5_walk 27 = .ok (.getfield 7, 3) := by decide +kernel
theorem dX5_walk_30 : decode cX5_walk 30 = .ok (.iconst 4, 1) := by decide +kernel
theorem dX5_walk_31 : decode cX5_walk 31 = .ok (.iaload, 1) := by decide +kernel
theorem dX5_walk_32 : decode cX5_walk 32 = .ok (.iload_n 1, 1) := by decide +kernel
theorem dX5_walk_33 : decode cX5_walk 33 = .ok (.isub, 1) := by decide +kernel
theorem dX5_walk_34 : decode cX5_walk 34 = .ok (.goto 11, 3) := by decide +kernel
theorem dX5_walk_37 : decode cX5_walk 37 = .ok (.iload_n 1, 1) := by decide +kernel
theorem dX5_walk_38 : decode cX5_walk 38 = .ok (.aload_n 0, 1) := by decide +kernel
theorem dX5_walk_39 : decode cX5_walk 39 = .ok (.getfield 7, 3) := by decide +kernel
theorem dX5_walk_42 : decode cX5_walk 42 = .ok (.iconst 4, 1) := by decide +kernel
theorem dX5_walk_43 : decode cX5_walk 43 = .ok (.iaload, 1) := by decide +kernel
theorem dX5_walk_44 : decode cX5_walk 44 = .ok (.isub, 1) := by decide +kernel
theorem dX5_walk_45 : decode cX5_walk 45 = .ok (.istore_n 2, 1) := by decide +kernel
theorem dX5_walk_46 : decode cX5_walk 46 = .ok (.aload_n 0, 1) := by decide +kernel
theorem dX5_walk_47 : decode cX5_walk 47 = .ok (.getfield 7, 3) := by decide +kernel
theorem dX5_walk_50 : decode cX5_walk 50 = .ok (.iconst 4, 1) := by decide +kernel
theorem dX5_walk_51 : decode cX5_walk 51 = .ok (.iload_n 1, 1) := by decide +kernel
theorem dX5_walk_52 : decode cX5_walk 52 = .ok (.iastore, 1) := by decide +kernel
theorem dX5_walk_53 : decode cX5_walk 53 = .ok (.aload_n 0, 1) := by decide +kernel
theorem dX5_walk_54 : decode cX5_walk 54 = .ok (.getfield 7, 3) := by decide +kernel
theorem dX5_walk_57 : decode cX5_walk 57 = .ok (.iconst 5, 1) := by decide +kernel
theorem dX5_walk_58 : decode cX5_walk 58 = .ok (.dup2, 1) := by decide +kernel
theorem dX5_walk_59 : decode cX5_walk 59 = .ok (.iaload, 1) := by decide +kernel
theorem dX5_walk_60 : decode cX5_walk 60 = .ok (.iload_n 2, 1) := by decide +kernel
theorem dX5_walk_61 : decode cX5_walk 61 = .ok (.iadd, 1) := by decide +kernel
theorem dX5_walk_62 : decode cX5_walk 62 = .ok (.iastore, 1) := by decide +kernel
theorem dX5_walk_63 : decode cX5_walk 63 = .ok (.iload_n 2, 1) := by decide +kernel
theorem dX5_walk_64 : decode cX5_walk 64 = .ok (.ireturn, 1) := by decide +kernel
theorem dX5_know_0 : decode cX5_know 0 = .ok (.aload_n 0, 1) := by decide +kernel
theorem dX5_know_1 : decode cX5_know 1 = .ok (.iload_n 1, 1) := by decide +kernel
theorem dX5_know_2 : decode cX5_know 2 = .ok (.bipush 7, 2) := by decide +kernel
theorem dX5_know_4 : decode cX5_know 4 = .ok (.aload_n 0, 1) := by decide +kernel
theorem dX5_know_5 : decode cX5_know 5 = .ok (.getfield 7, 3) := by decide +kernel
theorem dX5_know_8 : decode cX5_know 8 = .ok (.iconst 2, 1) := by decide +kernel
theorem dX5_know_9 : decode cX5_know 9 = .ok (.iaload, 1) := by decide +kernel
theorem dX5_know_10 : decode cX5_know 10 = .ok (.invokevirtual 73, 3) := by decide +kernel
theorem dX5_know_13 : decode cX5_know 13 = .ok (.aload_n 0, 1) := by decide +kernel
theorem dX5_know_14 : decode cX5_know 14 = .ok (.iload_n 1, 1) := by decide +kernel
theorem dX5_know_15 : decode cX5_know 15 = .ok (.bipush 8, 2) := by decide +kernel
theorem dX5_know_17 : decode cX5_know 17 = .ok (.iload_n 2, 1) := by decide +kernel
theorem dX5_know_18 : decode cX5_know 18 = .ok (.invokevirtual 73, 3) := by decide +kernel
theorem dX5_know_21 : decode cX5_know 21 = .ok (.aload_n 0, 1) := by decide +kernel
theorem dX5_know_22 : decode cX5_know 22 = .ok (.iload_n 1, 1) := by decide +kernel
theorem dX5_know_23 : decode cX5_know 23 = .ok (.bipush 9, 2) := by decide +kernel
theorem dX5_know_25 : decode cX5_know 25 = .ok (.iload_n 3, 1) := by decide +kernel
theorem dX5_know_26 : decode cX5_know 26 = .ok (.invokevirtual 73, 3) := by decide +kernel
theorem dX5_know_29 : decode cX5_know 29 = .ok (.return_, 1) := by decide +kernel
theorem dX5_hear_0 : decode cX5_hear 0 = .ok (.aload_n 0, 1) := by decide +kernel
theorem dX5_hear_1 : decode cX5_hear 1 = .ok (.aload_n 0, 1) := by decide +kernel
theorem dX5_hear_2 : decode cX5_hear 2 = .ok (.getfield 7, 3) := by decide +kernel
theorem dX5_hear_5 : decode cX5_hear 5 = .ok (.iconst 4, 1) := by decide +kernel
theorem dX5_hear_6 : decode cX5_hear 6 = .ok (.iaload, 1) := by decide +kernel
theorem dX5_hear_7 : decode cX5_hear 7 = .ok (.invokevirtual 88, 3) := by decide +kernel
theorem dX5_hear_10 : decode cX5_hear 10 = .ok (.istore_n 1, 1) := by decide +kernel
theorem dX5_hear_11 : decode cX5_hear 11 = .ok (.iload_n 1, 1) := by decide +kernel
theorem dX5_hear_12 : decode cX5_hear 12 = .ok (.ifCond .ge 6, 3) := by decide +kernel
theorem dX5_hear_15 : decode cX5_hear 15 = .ok (.bipush (-5), 2) := by decide +kernel
theorem dX5_hear_17 : decode cX5_hear 17 = .ok (.ireturn, 1) := by decide +kernel
theorem dX5_hear_18 : decode cX5_hear 18 = .ok (.aload_n 0, 1) := by decide +kernel
theorem dX5_hear_19 : decode cX5_hear 19 = .ok (.invokevirtual 84, 3) := by decide +kernel
theorem dX5_hear_22 : decode cX5_hear 22 = .ok (.aload_n 0, 1) := by decide +kernel
theorem dX5_hear_23 : decode cX5_hear 23 = .ok (.iload_n 1, 1) := by decide +kernel
theorem dX5_hear_24 : decode cX5_hear 24 = .ok (.invokevirtual 69, 3) := by decide +kernel
theorem dX5_hear_27 : decode cX5_hear 27 = .ok (.ifCond .ne 21, 3) := by decide +kernel
theorem dX5_hear_30 : decode cX5_hear 30 = .ok (.aload_n 0, 1) := by decide +kernel
theorem dX5_hear_31 : decode cX5_hear 31 = .ok (.iload_n 1, 1) := by decide +kernel
theorem dX5_hear_32 : decode cX5_hear 32 = .ok (.bipush 10, 2) := by decide +kernel
theorem dX5_hear_34 : decode cX5_hear 34 = .ok (.iconst 1, 1) := by decide +kernel
theorem dX5_hear_35 : decode cX5_hear 35 = .ok (.invokevirtual 73, 3) := by decide +kernel
theorem dX5_hear_38 : decode cX5_hear 38 = .ok (.aload_n 0, 1) := by decide +kernel
theorem dX5_hear_39 : decode cX5_hear 39 = .ok (.iload_n 1, 1) := by decide +kernel
theorem dX5_hear_40 : decode cX5_hear 40 = .ok (.iconst 0, 1) := by decide +kernel
theorem dX5_hear_41 : decode cX5_hear 41 = .ok (.iconst 0, 1) := by decide +kernel
theorem dX5_hear_42 : decode cX5_hear 42 = .ok (.invokevirtual 100, 3) := by decide +kernel
theorem dX5_hear_45 : decode cX5_hear 45 = .ok (.bipush (-6), 2) := by decide +kernel
theorem dX5_hear_47 : decode cX5_hear 47 = .ok (.ireturn, 1) := by decide +kernel
theorem dX5_hear_48 : decode cX5_hear 48 = .ok (.aload_n 0, 1) := by decide +kernel
theorem dX5_hear_49 : decode cX5_hear 49 = .ok (.iload_n 1, 1) := by decide +kernel
theorem dX5_hear_50 : decode cX5_hear 50 = .ok (.aload_n 0, 1) := by decide +kernel
theorem dX5_hear_51 : decode cX5_hear 51 = .ok (.iload_n 1, 1) := by decide +kernel
theorem dX5_hear_52 : decode cX5_hear 52 = .ok (.iconst 4, 1) := by decide +kernel
theorem dX5_hear_53 : decode cX5_hear 53 = .ok (.invokevirtual 47, 3) := by decide +kernel
theorem dX5_hear_56 : decode cX5_hear 56 = .ok (.invokevirtual 103, 3) := by decide +kernel
theorem dX5_hear_59 : decode cX5_hear 59 = .ok (.istore_n 2, 1) := by decide +kernel
theorem dX5_hear_60 : decode cX5_hear 60 = .ok (.aload_n 0, 1) := by decide +kernel
theorem dX5_hear_61 : decode cX5_hear 61 = .ok (.iload_n 1, 1) := by decide +kernel
theorem dX5_hear_62 : decode cX5_hear 62 = .ok (.iload_n 2, 1) := by decide +kernel
theorem dX5_hear_63 : decode cX5_hear 63 = .ok (.iconst 1, 1) := by decide +kernel
theorem dX5_hear_64 : decode cX5_hear 64 = .ok (.iadd, 1) := by decide +kernel
theorem dX5_hear_65 : decode cX5_hear 65 = .ok (.invokevirtual 106, 3) := by decide +kernel
theorem dX5_hear_68 : decode cX5_hear 68 = .ok (.lconst 1, 1) := by decide +kernel
theorem dX5_hear_69 : decode cX5_hear 69 = .ok (.lsub, 1) := by decide +kernel
theorem dX5_hear_70 : decode cX5_hear 70 = .ok (.lstore_n 3, 1) := by decide +kernel
theorem dX5_hear_71 : decode cX5_hear 71 = .ok (.aload_n 0, 1) := by decide +kernel
theorem dX5_hear_72 : decode cX5_hear 72 = .ok (.iload_n 1, 1) := by decide +kernel
theorem dX5_hear_73 : decode cX5_hear 73 = .ok (.aload_n 0, 1) := by decide +kernel
theorem dX5_hear_74 : decode cX5_hear 74 = .ok (.iload_n 1, 1) := by decide +kernel
theorem dX5_hear_75 : decode cX5_hear 75 = .ok (.iload_n 2, 1) := by decide +kernel
theorem dX5_hear_76 : decode cX5_hear 76 = .ok (.invokevirtual 106, 3) := by decide +kernel
theorem dX5_hear_79 : decode cX5_hear 79 = .ok (.l2i, 1) := by decide +kernel
theorem dX5_hear_80 : decode cX5_hear 80 = .ok (.lload_n 3, 1) := by decide +kernel
theorem dX5_hear_81 : decode cX5_hear 81 = .ok (.ldc2_w 110, 3) := by decide +kernel
theorem dX5_hear_84 : decode cX5_hear 84 = .ok (.lcmp, 1) := by decide +kernel
theorem dX5_hear_85 : decode cX5_hear 85 = .ok (.ifCond .le 8, 3) := by decide +kernel
theorem dX5_hear_88 : decode cX5_hear 88 = .ok (.ldc 87, 2) := by decide +kernel
theorem dX5_hear_90 : decode cX5_hear 90 = .ok (.goto 5, 3) := by decide +kernel
theorem dX5_hear_93 : decode cX5_hear 93 = .ok (.lload_n 3, 1) := by decide +kernel
theorem dX5_hear_94 : decode cX5_hear 94 = .ok (.l2i, 1) := by decide +kernel
theorem dX5_hear_95 : decode cX5_hear 95 = .ok (.invokevirtual 100, 3) := by decide +kernel
theorem dX5_hear_98 : decode cX5_hear 98 = .ok (.iload_n 2, 1) := by decide +kernel
theorem dX5_hear_99 : decode cX5_hear 99 = .ok (.ireturn, 1) := by decide +kernel
theorem dX5_tighten_0 : decode cX5_tighten 0 = .ok (.iload_n 1, 1) := by decide +kernel
theorem dX5_tighten_1 : decode cX5_tighten 1 = .ok (.iconst 0, 1) := by decide +kernel
theorem dX5_tighten_2 : decode cX5_tighten 2 = .ok (.ldc 87, 2) := by decide +kernel
theorem dX5_tighten_4 : decode cX5_tighten 4 = .ok (.invokestatic 43, 3) := by decide +kernel
theorem dX5_tighten_7 : decode cX5_tighten 7 = .ok (.ifCond .ne 6, 3) := by decide +kernel
theorem dX5_tighten_10 : decode cX5_tighten 10 = .ok (.bipush (-2), 2) := by decide +kernel
theorem dX5_tighten_12 : decode cX5_tighten 12 = .ok (.ireturn, 1) := by decide +kernel
theorem dX5_tighten_13 : decode cX5_tighten 13 = .ok (.aload_n 0, 1) := by decide +kernel
theorem dX5_tighten_14 : decode cX5_tighten 14 = .ok (.aload_n 0, 1) := by decide +kernel
theorem dX5_tighten_15 : decode cX5_tighten 15 = .ok (.getfield 7, 3) := by decide +kernel
theorem dX5_tighten_18 : decode cX5_tighten 18 = .ok (.iconst 4, 1) := by decide +kernel
theorem dX5_tighten_19 : decode cX5_tighten 19 = .ok (.iaload, 1) := by decide +kernel
theorem dX5_tighten_20 : decode cX5_tighten 20 = .ok (.invokevirtual 88, 3) := by decide +kernel
theorem dX5_tighten_23 : decode cX5_tighten 23 = .ok (.istore_n 2, 1) := by decide +kernel
theorem dX5_tighten_24 : decode cX5_tighten 24 = .ok (.iload_n 2, 1) := by decide +kernel
theorem dX5_tighten_25 : decode cX5_tighten 25 = .ok (.ifCond .lt 21, 3) := by decide +kernel
theorem dX5_tighten_28 : decode cX5_tighten 28 = .ok (.aload_n 0, 1) := by decide +kernel
theorem dX5_tighten_29 : decode cX5_tighten 29 = .ok (.iload_n 2, 1) := by decide +kernel
theorem dX5_tighten_30 : decode cX5_tighten 30 = .ok (.invokevirtual 69, 3) := by decide +kernel
theorem dX5_tighten_33 : decode cX5_tighten 33 = .ok (.ifCond .eq 13, 3) := by decide +kernel
theorem dX5_tighten_36 : decode cX5_tighten 36 = .ok (.iload_n 1, 1) := by decide +kernel
theorem dX5_tighten_37 : decode cX5_tighten 37 = .ok (.aload_n 0, 1) := by decide +kernel
theorem dX5_tighten_38 : decode cX5_tighten 38 = .ok (.iload_n 2, 1) := by decide +kernel
theorem dX5_tighten_39 : decode cX5_tighten 39 = .ok (.iconst 3, 1) := by decide +kernel
theorem dX5_tighten_40 : decode cX5_tighten 40 = .ok (.invokevirtual 47, 3) := by decide +kernel
theorem dX5_tighten_43 : decode cX5_tighten 43 = .ok (.if_icmp .le 6, 3) := by decide +kernel
theorem dX5_tighten_46 : decode cX5_tighten 46 = .ok (.bipush (-5), 2) := by decide +kernel
theorem dX5_tighten_48 : decode cX5_tighten 48 = .ok (.ireturn, 1) := by decide +kernel
theorem dX5_tighten_49 : decode cX5_tighten 49 = .ok (.aload_n 0, 1) := by decide +kernel
theorem dX5_tighten_50 : decode cX5_tighten 50 = .ok (.invokevirtual 84, 3) := by decide +kernel
theorem dX5_tighten_53 : decode cX5_tighten 53 = .ok (.aload_n 0, 1) := by decide +kernel
theorem dX5_tighten_54 : decode cX5_tighten 54 = .ok (.iload_n 2, 1) := by decide +kernel
theorem dX5_tighten_55 : decode cX5_tighten 55 = .ok (.iconst 4, 1) := by decide +kernel
theorem dX5_tighten_56 : decode cX5_tighten 56 = .ok (.invokevirtual 47, 3) := by decide +kernel
theorem dX5_tighten_59 : decode cX5_tighten 59 = .ok (.istore_n 3, 1) := by decide +kernel
theorem dX5_tighten_60 : decode cX5_tighten 60 = .ok (.aload_n 0, 1) := by decide +kernel
theorem dX5_tighten_61 : decode cX5_tighten 61 = .ok (.iload_n 2, 1) := by decide +kernel
theorem dX5_tighten_62 : decode cX5_tighten 62 = .ok (.iconst 4, 1) := by decide +kernel
theorem dX5_tighten_63 : decode cX5_tighten 63 = .ok (.iload_n 1, 1) := by decide +kernel
theorem dX5_tighten_64 : decode cX5_tighten 64 = .ok (.invokevirtual 73, 3) := by decide +kernel
theorem dX5_tighten_67 : decode cX5_tighten 67 = .ok (.aload_n 0, 1) := by decide +kernel
theorem dX5_tighten_68 : decode cX5_tighten 68 = .ok (.iload_n 2, 1) := by decide +kernel
theorem dX5_tighten_69 : decode cX5_tighten 69 = .ok (.iload_n 1, 1) := by decide +kernel
theorem dX5_tighten_70 : decode cX5_tighten 70 = .ok (.iload_n 1, 1) := by decide +kernel
theorem dX5_tighten_71 : decode cX5_tighten 71 = .ok (.invokevirtual 100, 3) := by decide +kernel
theorem dX5_tighten_74 : decode cX5_tighten 74 = .ok (.iload_n 3, 1) := by decide +kernel
theorem dX5_tighten_75 : decode cX5_tighten 75 = .ok (.ireturn, 1) := by decide +kernel
theorem dX5_isSlack_0 : decode cX5_isSlack 0 = .ok (.aload_n 0, 1) := by decide +kernel
theorem dX5_isSlack_1 : decode cX5_isSlack 1 = .ok (.iload_n 1, 1) := by decide +kernel
theorem dX5_isSlack_2 : decode cX5_isSlack 2 = .ok (.invokevirtual 69, 3) := by decide +kernel
theorem dX5_isSlack_5 : decode cX5_isSlack 5 = .ok (.ifCond .eq 22, 3) := by decide +kernel
theorem dX5_isSlack_8 : decode cX5_isSlack 8 = .ok (.aload_n 0, 1) := by decide +kernel
theorem dX5_isSlack_9 : decode cX5_isSlack 9 = .ok (.iload_n 1, 1) := by decide +kernel
theorem dX5_isSlack_10 : decode cX5_isSlack 10 = .ok (.iconst 4, 1) := by decide +kernel
theorem dX5_isSlack_11 : decode cX5_isSlack 11 = .ok (.invokevirtual 47, 3) := by decide +kernel
theorem dX5_isSlack_14 : decode cX5_isSlack 14 = .ok (.aload_n 0, 1) := by decide +kernel
theorem dX5_isSlack_15 : decode cX5_isSlack 15 = .ok (.getfield 29, 3) := by decide +kernel
theorem dX5_isSlack_18 : decode cX5_isSlack 18 = .ok (.iload_n 1, 1) := by decide +kernel
theorem dX5_isSlack_19 : decode cX5_isSlack 19 = .ok (.iaload, 1) := by decide +kernel
theorem dX5_isSlack_20 : decode cX5_isSlack 20 = .ok (.if_icmp .ge 7, 3) := by decide +kernel
theorem dX5_isSlack_23 : decode cX5_isSlack 23 = .ok (.iconst 1, 1) := by decide +kernel
theorem dX5_isSlack_24 : decode cX5_isSlack 24 = .ok (.goto 4, 3) := by decide +kernel
theorem dX5_isSlack_27 : decode cX5_isSlack 27 = .ok (.iconst 0, 1) := by decide +kernel
theorem dX5_isSlack_28 : decode cX5_isSlack 28 = .ok (.ireturn, 1) := by decide +kernel
theorem dX5_isTight_0 : decode cX5_isTight 0 = .ok (.aload_n 0, 1) := by decide +kernel
theorem dX5_isTight_1 : decode cX5_isTight 1 = .ok (.getfield 29, 3) := by decide +kernel
theorem dX5_isTight_4 : decode cX5_isTight 4 = .ok (.iload_n 1, 1) := by decide +kernel
theorem dX5_isTight_5 : decode cX5_isTight 5 = .ok (.iaload, 1) := by decide +kernel
theorem dX5_isTight_6 : decode cX5_isTight 6 = .ok (.aload_n 0, 1) := by decide +kernel
theorem dX5_isTight_7 : decode cX5_isTight 7 = .ok (.getfield 29, 3) := by decide +kernel
theorem dX5_isTight_10 : decode cX5_isTight 10 = .ok (.iload_n 1, 1) := by decide +kernel
theorem dX5_isTight_11 : decode cX5_isTight 11 = .ok (.iaload, 1) := by decide +kernel
theorem dX5_isTight_12 : decode cX5_isTight 12 = .ok (.aload_n 0, 1) := by decide +kernel
theorem dX5_isTight_13 : decode cX5_isTight 13 = .ok (.getfield 7, 3) := by decide +kernel
theorem dX5_isTight_16 : decode cX5_isTight 16 = .ok (.iconst 1, 1) := by decide +kernel
theorem dX5_isTight_17 : decode cX5_isTight 17 = .ok (.iaload, 1) := by decide +kernel
theorem dX5_isTight_18 : decode cX5_isTight 18 = .ok (.imul, 1) := by decide +kernel
theorem dX5_isTight_19 : decode cX5_isTight 19 = .ok (.bipush 100, 2) := by decide +kernel
theorem dX5_isTight_21 : decode cX5_isTight 21 = .ok (.idiv, 1) := by decide +kernel
theorem dX5_isTight_22 : decode cX5_isTight 22 = .ok (.iadd, 1) := by decide +kernel
theorem dX5_isTight_23 : decode cX5_isTight 23 = .ok (.istore_n 2, 1) := by decide +kernel
theorem dX5_isTight_24 : decode cX5_isTight 24 = .ok (.aload_n 0, 1) := by decide +kernel
theorem dX5_isTight_25 : decode cX5_isTight 25 = .ok (.iload_n 1, 1) := by decide +kernel
theorem dX5_isTight_26 : decode cX5_isTight 26 = .ok (.invokevirtual 69, 3) := by decide +kernel
theorem dX5_isTight_29 : decode cX5_isTight 29 = .ok (.ifCond .eq 29, 3) := by decide +kernel
theorem dX5_isTight_32 : decode cX5_isTight 32 = .ok (.aload_n 0, 1) := by decide +kernel
theorem dX5_isTight_33 : decode cX5_isTight 33 = .ok (.iload_n 1, 1) := by decide +kernel
theorem dX5_isTight_34 : decode cX5_isTight 34 = .ok (.iconst 4, 1) := by decide +kernel
theorem dX5_isTight_35 : decode cX5_isTight 35 = .ok (.invokevirtual 47, 3) := by decide +kernel
theorem dX5_isTight_38 : decode cX5_isTight 38 = .ok (.iload_n 2, 1) := by decide +kernel
theorem dX5_isTight_39 : decode cX5_isTight 39 = .ok (.if_icmp .le 19, 3) := by decide +kernel
theorem dX5_isTight_42 : decode cX5_isTight 42 = .ok (.aload_n 0, 1) := by decide +kernel
theorem dX5_isTight_43 : decode cX5_isTight 43 = .ok (.iload_n 1, 1) := by decide +kernel
theorem dX5_isTight_44 : decode cX5_isTight 44 = .ok (.iconst 4, 1) := by decide +kernel
theorem dX5_isTight_45 : decode cX5_isTight 45 = .ok (.invokevirtual 47, 3) := by decide +kernel
theorem dX5_isTight_48 : decode cX5_isTight 48 = .ok (.sipush 1000, 3) := by decide +kernel
theorem dX5_isTight_51 : decode cX5_isTight 51 = .ok (.if_icmp .le 7, 3) := by decide +kernel
theorem dX5_isTight_54 : decode cX5_isTight 54 = .ok (.iconst 1, 1) := by decide +kernel
theorem dX5_isTight_55 : decode cX5_isTight 55 = .ok (.goto 4, 3) := by decide +kernel
theorem dX5_isTight_58 : decode cX5_isTight 58 = .ok (.iconst 0, 1) := by decide +kernel
theorem dX5_isTight_59 : decode cX5_isTight 59 = .ok (.ireturn, 1) := by decide +kernel
theorem dX5_ofWire_0 : decode cX5_ofWire 0 = .ok (.aload_n 0, 1) := by decide +kernel
theorem dX5_ofWire_1 : decode cX5_ofWire 1 = .ok (.iload_n 1, 1) := by decide +kernel
theorem dX5_ofWire_2 : decode cX5_ofWire 2 = .ok (.invokevirtual 112, 3) := by decide +kernel
theorem dX5_ofWire_5 : decode cX5_ofWire 5 = .ok (.ifCond .ne 5, 3) := by decide +kernel
theorem dX5_ofWire_8 : decode cX5_ofWire 8 = .ok (.iconst (-1), 1) := by decide +kernel
theorem dX5_ofWire_9 : decode cX5_ofWire 9 = .ok (.ireturn, 1) := by decide +kernel
theorem dX5_ofWire_10 : decode cX5_ofWire 10 = .ok (.aload_n 0, 1) := by decide +kernel
theorem dX5_ofWire_11 : decode cX5_ofWire 11 = .ok (.aload_n 0, 1) := by decide +kernel
theorem dX5_ofWire_12 : decode cX5_ofWire 12 = .ok (.iconst 0, 1) := by decide +kernel
theorem dX5_ofWire_13 : decode cX5_ofWire 13 = .ok (.invokevirtual 61, 3) := by decide +kernel
theorem dX5_ofWire_16 : decode cX5_ofWire 16 = .ok (.invokevirtual 65, 3) := by decide +kernel
theorem dX5_ofWire_19 : decode cX5_ofWire 19 = .ok (.iload_n 2, 1) := by decide +kernel
theorem dX5_ofWire_20 : decode cX5_ofWire 20 = .ok (.tableswitch 91 6 10 #[36, 48, 55, 69, 83], 36) := by decide +kernel
theorem dX5_ofWire_56 : decode cX5_ofWire 56 = .ok (.aload_n 0, 1) := by decide +kernel
theorem dX5_ofWire_57 : decode cX5_ofWire 57 = .ok (.iload_n 1, 1) := by decide +kernel
theorem dX5_ofWire_58 : decode cX5_ofWire 58 = .ok (.aload_n 0, 1) := by decide +kernel
theorem dX5_ofWire_59 : decode cX5_ofWire 59 = .ok (.iload_n 1, 1) := by decide +kernel
theorem dX5_ofWire_60 : decode cX5_ofWire 60 = .ok (.iconst 4, 1) := by decide +kernel
theorem dX5_ofWire_61 : decode cX5_ofWire 61 = .ok (.invokevirtual 47, 3) := by decide +kernel
theorem dX5_ofWire_64 : decode cX5_ofWire 64 = .ok (.invokevirtual 103, 3) := by decide +kernel
theorem dX5_ofWire_67 : decode cX5_ofWire 67 = .ok (.ireturn, 1) := by decide +kernel
theorem dX5_ofWire_68 : decode cX5_ofWire 68 = .ok (.aload_n 0, 1) := by decide +kernel
theorem dX5_ofWire_69 : decode cX5_ofWire 69 = .ok (.getfield 29, 3) := by decide +kernel
theorem dX5_ofWire_72 : decode cX5_ofWire 72 = .ok (.iload_n 1, 1) := by decide +kernel
theorem dX5_ofWire_73 : decode cX5_ofWire 73 = .ok (.iaload, 1) := by decide +kernel
theorem dX5_ofWire_74 : decode cX5_ofWire 74 = .ok (.ireturn, 1) := by decide +kernel
theorem dX5_ofWire_75 : decode cX5_ofWire 75 = .ok (.aload_n 0, 1) := by decide +kernel
theorem dX5_ofWire_76 : decode cX5_ofWire 76 = .ok (.iload_n 1, 1) := by decide +kernel
theorem dX5_ofWire_77 : decode cX5_ofWire 77 = .ok (.invokevirtual 115, 3) := by decide +kernel
theorem dX5_ofWire_80 : decode cX5_ofWire 80 = .ok (.ifCond .eq 7, 3) := by decide +kernel
theorem dX5_ofWire_83 : decode cX5_ofWire 83 = .ok (.iconst 1, 1) := by decide +kernel
theorem dX5_ofWire_84 : decode cX5_ofWire 84 = .ok (.goto 4, 3) := by decide +kernel
theorem dX5_ofWire_87 : decode cX5_ofWire 87 = .ok (.iconst 0, 1) := by decide +kernel
theorem dX5_ofWire_88 : decode cX5_ofWire 88 = .ok (.ireturn, 1) := by decide +kernel
theorem dX5_ofWire_89 : decode cX5_ofWire 89 = .ok (.aload_n 0, 1) := by decide +kernel
theorem dX5_ofWire_90 : decode cX5_ofWire 90 = .ok (.iload_n 1, 1) := by decide +kernel
theorem dX5_ofWire_91 : decode cX5_ofWire 91 = .ok (.invokevirtual 118, 3) := by decide +kernel
theorem dX5_ofWire_94 : decode cX5_ofWire 94 = .ok (.ifCond .eq 7, 3) := by decide +kernel
theorem dX5_ofWire_97 : decode cX5_ofWire 97 = .ok (.iconst 1, 1) := by decide +kernel
theorem dX5_ofWire_98 : decode cX5_ofWire 98 = .ok (.goto 4, 3) := by decide +kernel
theorem dX5_ofWire_101 : decode cX5_ofWire 101 = .ok (.iconst 0, 1) := by decide +kernel
theorem dX5_ofWire_102 : decode cX5_ofWire 102 = .ok (.ireturn, 1) := by decide +kernel
theorem dX5_ofWire_103 : decode cX5_ofWire 103 = .ok (.aload_n 0, 1) := by decide +kernel
theorem dX5_ofWire_104 : decode cX5_ofWire 104 = .ok (.iload_n 1, 1) := by decide +kernel
theorem dX5_ofWire_105 : decode cX5_ofWire 105 = .ok (.bipush 6, 2) := by decide +kernel
theorem dX5_ofWire_107 : decode cX5_ofWire 107 = .ok (.invokevirtual 47, 3) := by decide +kernel
theorem dX5_ofWire_110 : decode cX5_ofWire 110 = .ok (.ireturn, 1) := by decide +kernel
theorem dX5_ofWire_111 : decode cX5_ofWire 111 = .ok (.iload_n 2, 1) := by decide +kernel
theorem dX5_ofWire_112 : decode cX5_ofWire 112 = .ok (.iconst 0, 1) := by decide +kernel
theorem dX5_ofWire_113 : decode cX5_ofWire 113 = .ok (.iconst 5, 1) := by decide +kernel
theorem dX5_ofWire_114 : decode cX5_ofWire 114 = .ok (.invokestatic 43, 3) := by decide +kernel
theorem dX5_ofWire_117 : decode cX5_ofWire 117 = .ok (.ifCond .eq 12, 3) := by decide +kernel
theorem dX5_ofWire_120 : decode cX5_ofWire 120 = .ok (.aload_n 0, 1) := by decide +kernel
theorem dX5_ofWire_121 : decode cX5_ofWire 121 = .ok (.iload_n 1, 1) := by decide +kernel
theorem dX5_ofWire_122 : decode cX5_ofWire 122 = .ok (.iload_n 2, 1) := by decide +kernel
theorem dX5_ofWire_123 : decode cX5_ofWire 123 = .ok (.invokevirtual 47, 3) := by decide +kernel
theorem dX5_ofWire_126 : decode cX5_ofWire 126 = .ok (.goto 5, 3) := by decide +kernel
theorem dX5_ofWire_129 : decode cX5_ofWire 129 = .ok (.bipush (-2), 2) := by decide +kernel
theorem dX5_ofWire_131 : decode cX5_ofWire 131 = .ok (.ireturn, 1) := by decide +kernel
theorem dX5_isSurely_0 : decode cX5_isSurely 0 = .ok (.aload_n 0, 1) := by decide +kernel
theorem dX5_isSurely_1 : decode cX5_isSurely 1 = .ok (.iload_n 1, 1) := by decide +kernel
theorem dX5_isSurely_2 : decode cX5_isSurely 2 = .ok (.bipush 7, 2) := by decide +kernel
theorem dX5_isSurely_4 : decode cX5_isSurely 4 = .ok (.invokevirtual 47, 3) := by decide +kernel
theorem dX5_isSurely_7 : decode cX5_isSurely 7 = .ok (.ifCond .lt 23, 3) := by decide +kernel
theorem dX5_isSurely_10 : decode cX5_isSurely 10 = .ok (.aload_n 0, 1) := by decide +kernel
theorem dX5_isSurely_11 : decode cX5_isSurely 11 = .ok (.iload_n 1, 1) := by decide +kernel
theorem dX5_isSurely_12 : decode cX5_isSurely 12 = .ok (.bipush 9, 2) := by decide +kernel
theorem dX5_isSurely_14 : decode cX5_isSurely 14 = .ok (.invokevirtual 47, 3) := by decide +kernel
theorem dX5_isSurely_17 : decode cX5_isSurely 17 = .ok (.aload_n 0, 1) := by decide +kernel
theorem dX5_isSurely_18 : decode cX5_isSurely 18 = .ok (.getfield 29, 3) := by decide +kernel
theorem dX5_isSurely_21 : decode cX5_isSurely 21 = .ok (.iload_n 1, 1) := by decide +kernel
theorem dX5_isSurely_22 : decode cX5_isSurely 22 = .ok (.iaload, 1) := by decide +kernel
theorem dX5_isSurely_23 : decode cX5_isSurely 23 = .ok (.if_icmp .ge 7, 3) := by decide +kernel
theorem dX5_isSurely_26 : decode cX5_isSurely 26 = .ok (.iconst 1, 1) := by decide +kernel
theorem dX5_isSurely_27 : decode cX5_isSurely 27 = .ok (.goto 4, 3) := by decide +kernel
theorem dX5_isSurely_30 : decode cX5_isSurely 30 = .ok (.iconst 0, 1) := by decide +kernel
theorem dX5_isSurely_31 : decode cX5_isSurely 31 = .ok (.ireturn, 1) := by decide +kernel
theorem dX5_mayBe_0 : decode cX5_mayBe 0 = .ok (.aload_n 0, 1) := by decide +kernel
theorem dX5_mayBe_1 : decode cX5_mayBe 1 = .ok (.iload_n 1, 1) := by decide +kernel
theorem dX5_mayBe_2 : decode cX5_mayBe 2 = .ok (.invokevirtual 121, 3) := by decide +kernel
theorem dX5_mayBe_5 : decode cX5_mayBe 5 = .ok (.ifCond .ne 33, 3) := by decide +kernel
theorem dX5_mayBe_8 : decode cX5_mayBe 8 = .ok (.aload_n 0, 1) := by decide +kernel
theorem dX5_mayBe_9 : decode cX5_mayBe 9 = .ok (.iload_n 1, 1) := by decide +kernel
theorem dX5_mayBe_10 : decode cX5_mayBe 10 = .ok (.bipush 7, 2) := by decide +kernel
theorem dX5_mayBe_12 : decode cX5_mayBe 12 = .ok (.invokevirtual 47, 3) := by decide +kernel
theorem dX5_mayBe_15 : decode cX5_mayBe 15 = .ok (.ifCond .lt 19, 3) := by decide +kernel
theorem dX5_mayBe_18 : decode cX5_mayBe 18 = .ok (.aload_n 0, 1) := by decide +kernel
theorem dX5_mayBe_19 : decode cX5_mayBe 19 = .ok (.iload_n 1, 1) := by decide +kernel
theorem dX5_mayBe_20 : decode cX5_mayBe 20 = .ok (.bipush 8, 2) := by decide +kernel
theorem dX5_mayBe_22 : decode cX5_mayBe 22 = .ok (.invokevirtual 47, 3) := by decide +kernel
theorem dX5_mayBe_25 : decode cX5_mayBe 25 = .ok (.aload_n 0, 1) := by decide +kernel
theorem dX5_mayBe_26 : decode cX5_mayBe 26 = .ok (.getfield 29, 3) := by decide +kernel
theorem dX5_mayBe_29 : decode cX5_mayBe 29 = .ok (.iload_n 1, 1) := by decide +kernel
theorem dX5_mayBe_30 : decode cX5_mayBe 30 = .ok (.iaload, 1) := by decide +kernel
theorem dX5_mayBe_31 : decode cX5_mayBe 31 = .ok (.if_icmp .ge 7, 3) := by decide +kernel
theorem dX5_mayBe_34 : decode cX5_mayBe 34 = .ok (.iconst 1, 1) := by decide +kernel
theorem dX5_mayBe_35 : decode cX5_mayBe 35 = .ok (.goto 4, 3) := by decide +kernel
theorem dX5_mayBe_38 : decode cX5_mayBe 38 = .ok (.iconst 0, 1) := by decide +kernel
theorem dX5_mayBe_39 : decode cX5_mayBe 39 = .ok (.ireturn, 1) := by decide +kernel
theorem dX5_known_0 : decode cX5_known 0 = .ok (.aload_n 0, 1) := by decide +kernel
theorem dX5_known_1 : decode cX5_known 1 = .ok (.iload_n 1, 1) := by decide +kernel
theorem dX5_known_2 : decode cX5_known 2 = .ok (.invokevirtual 112, 3) := by decide +kernel
theorem dX5_known_5 : decode cX5_known 5 = .ok (.ifCond .ne 5, 3) := by decide +kernel
theorem dX5_known_8 : decode cX5_known 8 = .ok (.iconst (-1), 1) := by decide +kernel
theorem dX5_known_9 : decode cX5_known 9 = .ok (.ireturn, 1) := by decide +kernel
theorem dX5_known_10 : decode cX5_known 10 = .ok (.aload_n 0, 1) := by decide +kernel
theorem dX5_known_11 : decode cX5_known 11 = .ok (.aload_n 0, 1) := by decide +kernel
theorem dX5_known_12 : decode cX5_known 12 = .ok (.iconst 1, 1) := by decide +kernel
theorem dX5_known_13 : decode cX5_known 13 = .ok (.invokevirtual 61, 3) := by decide +kernel
theorem dX5_known_16 : decode cX5_known 16 = .ok (.invokevirtual 65, 3) := by decide +kernel
theorem dX5_known_19 : decode cX5_known 19 = .ok (.iload_n 2, 1) := by decide +kernel
theorem dX5_known_20 : decode cX5_known 20 = .ok (.tableswitch 71 0 5 #[40, 40, 40, 40, 50, 57], 40) := by decide +kernel
theorem dX5_known_60 : decode cX5_known 60 = .ok (.aload_n 0, 1) := by decide +kernel
theorem dX5_known_61 : decode cX5_known 61 = .ok (.iload_n 1, 1) := by decide +kernel
theorem dX5_known_62 : decode cX5_known 62 = .ok (.bipush 7, 2) := by decide +kernel
theorem dX5_known_64 : decode cX5_known 64 = .ok (.iload_n 2, 1) := by decide +kernel
theorem dX5_known_65 : decode cX5_known 65 = .ok (.iadd, 1) := by decide +kernel
theorem dX5_known_66 : decode cX5_known 66 = .ok (.invokevirtual 47, 3) := by decide +kernel
theorem dX5_known_69 : decode cX5_known 69 = .ok (.ireturn, 1) := by decide +kernel
theorem dX5_known_70 : decode cX5_known 70 = .ok (.aload_n 0, 1) := by decide +kernel
theorem dX5_known_71 : decode cX5_known 71 = .ok (.getfield 29, 3) := by decide +kernel
theorem dX5_known_74 : decode cX5_known 74 = .ok (.iload_n 1, 1) := by decide +kernel
theorem dX5_known_75 : decode cX5_known 75 = .ok (.iaload, 1) := by decide +kernel
theorem dX5_known_76 : decode cX5_known 76 = .ok (.ireturn, 1) := by decide +kernel
theorem dX5_known_77 : decode cX5_known 77 = .ok (.aload_n 0, 1) := by decide +kernel
theorem dX5_known_78 : decode cX5_known 78 = .ok (.iload_n 1, 1) := by decide +kernel
theorem dX5_known_79 : decode cX5_known 79 = .ok (.invokevirtual 121, 3) := by decide +kernel
theorem dX5_known_82 : decode cX5_known 82 = .ok (.ifCond .eq 7, 3) := by decide +kernel
theorem dX5_known_85 : decode cX5_known 85 = .ok (.iconst 1, 1) := by decide +kernel
theorem dX5_known_86 : decode cX5_known 86 = .ok (.goto 4, 3) := by decide +kernel
theorem dX5_known_89 : decode cX5_known 89 = .ok (.iconst 0, 1) := by decide +kernel
theorem dX5_known_90 : decode cX5_known 90 = .ok (.ireturn, 1) := by decide +kernel
theorem dX5_known_91 : decode cX5_known 91 = .ok (.iload_n 2, 1) := by decide +kernel
theorem dX5_known_92 : decode cX5_known 92 = .ok (.bipush 6, 2) := by decide +kernel
theorem dX5_known_94 : decode cX5_known 94 = .ok (.if_icmp .ne 19, 3) := by decide +kernel
theorem dX5_known_97 : decode cX5_known 97 = .ok (.aload_n 0, 1) := by decide +kernel
theorem dX5_known_98 : decode cX5_known 98 = .ok (.iload_n 1, 1) := by decide +kernel
theorem dX5_known_99 : decode cX5_known 99 = .ok (.invokevirtual 124, 3) := by decide +kernel
theorem dX5_known_102 : decode cX5_known 102 = .ok (.ifCond .eq 7, 3) := by decide +kernel
theorem dX5_known_105 : decode cX5_known 105 = .ok (.iconst 1, 1) := by decide +kernel
theorem dX5_known_106 : decode cX5_known 106 = .ok (.goto 9, 3) := by decide +kernel
theorem dX5_known_109 : decode cX5_known 109 = .ok (.iconst 0, 1) := by decide +kernel
theorem dX5_known_110 : decode cX5_known 110 = .ok (.goto 5, 3) := by decide +kernel
theorem dX5_known_113 : decode cX5_known 113 = .ok (.bipush (-2), 2) := by decide +kernel
theorem dX5_known_115 : decode cX5_known 115 = .ok (.ireturn, 1) := by decide +kernel
theorem dX5_loads_0 : decode cX5_loads 0 = .ok (.iconst 0, 1) := by decide +kernel
theorem dX5_loads_1 : decode cX5_loads 1 = .ok (.istore_n 1, 1) := by decide +kernel
theorem dX5_loads_2 : decode cX5_loads 2 = .ok (.iconst 0, 1) := by decide +kernel
theorem dX5_loads_3 : decode cX5_loads 3 = .ok (.istore_n 2, 1) := by decide +kernel
theorem dX5_loads_4 : decode cX5_loads 4 = .ok (.iload_n 2, 1) := by decide +kernel
theorem dX5_loads_5 : decode cX5_loads 5 = .ok (.bipush 20, 2) := by decide +kernel
theorem dX5_loads_7 : decode cX5_loads 7 = .ok (.if_icmp .ge 21, 3) := by decide +kernel
theorem dX5_loads_10 : decode cX5_loads 10 = .ok (.iload_n 1, 1) := by decide +kernel
theorem dX5_loads_11 : decode cX5_loads 11 = .ok (.aload_n 0, 1) := by decide +kernel
theorem dX5_loads_12 : decode cX5_loads 12 = .ok (.getfield 7, 3) := by decide +kernel
theorem dX5_loads_15 : decode cX5_loads 15 = .ok (.bipush 10, 2) := by decide +kernel
theorem dX5_loads_17 : decode cX5_loads 17 = .ok (.iload_n 2, 1) := by decide +kernel
theorem dX5_loads_18 : decode cX5_loads 18 = .ok (.iadd, 1) := by decide +kernel
theorem dX5_loads_19 : decode cX5_loads 19 = .ok (.iaload, 1) := by decide +kernel
theorem dX5_loads_20 : decode cX5_loads 20 = .ok (.iadd, 1) := by decide +kernel
theorem dX5_loads_21 : decode cX5_loads 21 = .ok (.istore_n 1, 1) := by decide +kernel
theorem dX5_loads_22 : decode cX5_loads 22 = .ok (.iinc 2 1, 3) := by decide +kernel
theorem dX5_loads_25 : decode cX5_loads 25 = .ok (.goto (-21), 3) := by decide +kernel
theorem dX5_loads_28 : decode cX5_loads 28 = .ok (.iload_n 1, 1) := by decide +kernel
theorem dX5_loads_29 : decode cX5_loads 29 = .ok (.ireturn, 1) := by decide +kernel
theorem dX5_wiresWith_0 : decode cX5_wiresWith 0 = .ok (.aload_n 0, 1) := by decide +kernel
theorem dX5_wiresWith_1 : decode cX5_wiresWith 1 = .ok (.aload_n 0, 1) := by decide +kernel
theorem dX5_wiresWith_2 : decode cX5_wiresWith 2 = .ok (.iconst 0, 1) := by decide +kernel
theorem dX5_wiresWith_3 : decode cX5_wiresWith 3 = .ok (.invokevirtual 61, 3) := by decide +kernel
theorem dX5_wiresWith_6 : decode cX5_wiresWith 6 = .ok (.invokevirtual 65, 3) := by decide +kernel
theorem dX5_wiresWith_9 : decode cX5_wiresWith 9 = .ok (.iconst 0, 1) := by decide +kernel
theorem dX5_wiresWith_10 : decode cX5_wiresWith 10 = .ok (.istore_n 2, 1) := by decide +kernel
theorem dX5_wiresWith_11 : decode cX5_wiresWith 11 = .ok (.iconst 0, 1) := by decide +kernel
theorem dX5_wiresWith_12 : decode cX5_wiresWith 12 = .ok (.istore_n 3, 1) := by decide +kernel
theorem dX5_wiresWith_13 : decode cX5_wiresWith 13 = .ok (.iload_n 3, 1) := by decide +kernel
theorem dX5_wiresWith_14 : decode cX5_wiresWith 14 = .ok (.aload_n 0, 1) := by decide +kernel
theorem dX5_wiresWith_15 : decode cX5_wiresWith 15 = .ok (.getfield 7, 3) := by decide +kernel
theorem dX5_wiresWith_18 : decode cX5_wiresWith 18 = .ok (.iconst 3, 1) := by decide +kernel
theorem dX5_wiresWith_19 : decode cX5_wiresWith 19 = .ok (.iaload, 1) := by decide +kernel
theorem dX5_wiresWith_20 : decode cX5_wiresWith 20 = .ok (.if_icmp .ge 62, 3) := by decide +kernel
theorem dX5_wiresWith_23 : decode cX5_wiresWith 23 = .ok (.iload_n 1, 1) := by decide +kernel
theorem dX5_wiresWith_24 : decode cX5_wiresWith 24 = .ok (.ifCond .ne 19, 3) := by decide +kernel
theorem dX5_wiresWith_27 : decode cX5_wiresWith 27 = .ok (.aload_n 0, 1) := by decide +kernel
theorem dX5_wiresWith_28 : decode cX5_wiresWith 28 = .ok (.iload_n 3, 1) := by decide +kernel
theorem dX5_wiresWith_29 : decode cX5_wiresWith 29 = .ok (.invokevirtual 69, 3) := by decide +kernel
theorem dX5_wiresWith_32 : decode cX5_wiresWith 32 = .ok (.ifCond .ne 7, 3) := by decide +kernel
theorem dX5_wiresWith_35 : decode cX5_wiresWith 35 = .ok (.iconst 1, 1) := by decide +kernel
theorem dX5_wiresWith_36 : decode cX5_wiresWith 36 = .ok (.goto 25, 3) := by decide +kernel
theorem dX5_wiresWith_39 : decode cX5_wiresWith 39 = .ok (.iconst 0, 1) := by decide +kernel
theorem dX5_wiresWith_40 : decode cX5_wiresWith 40 = .ok (.goto 21, 3) := by decide +kernel
theorem dX5_wiresWith_43 : decode cX5_wiresWith 43 = .ok (.iload_n 1, 1) := by decide +kernel
theorem dX5_wiresWith_44 : decode cX5_wiresWith 44 = .ok (.iconst 1, 1) := by decide +kernel
theorem dX5_wiresWith_45 : decode cX5_wiresWith 45 = .ok (.if_icmp .ne 11, 3) := by decide +kernel
theorem dX5_wiresWith_48 : decode cX5_wiresWith 48 = .ok (.aload_n 0, 1) := by decide +kernel
theorem dX5_wiresWith_49 : decode cX5_wiresWith 49 = .ok (.iload_n 3, 1) := by decide +kernel
theorem dX5_wiresWith_50 : decode cX5_wiresWith 50 = .ok (.invokevirtual 115, 3) := by decide +kernel
theorem dX5_wiresWith_53 : decode cX5_wiresWith 53 = .ok (.goto 8, 3) := by decide +kernel
theorem dX5_wiresWith_56 : decode cX5_wiresWith 56 = .ok (.aload_n 0, 1) := by decide +kernel
theorem dX5_wiresWith_57 : decode cX5_wiresWith 57 = .ok (.iload_n 3, 1) := by decide +kernel
theorem dX5_wiresWith_58 : decode cX5_wiresWith 58 = .ok (.invokevirtual 118, 3) := by decide +kernel
theorem dX5_wiresWith_61 : decode cX5_wiresWith 61 = .ok (.istore 4, 2) := by decide +kernel
theorem dX5_wiresWith_63 : decode cX5_wiresWith 63 = .ok (.iload_n 2, 1) := by decide +kernel
theorem dX5_wiresWith_64 : decode cX5_wiresWith 64 = .ok (.iload 4, 2) := by decide +kernel
theorem dX5_wiresWith_66 : decode cX5_wiresWith 66 = .ok (.ifCond .eq 7, 3) := by decide +kernel
theorem dX5_wiresWith_69 : decode cX5_wiresWith 69 = .ok (.iconst 1, 1) := by decide +kernel
theorem dX5_wiresWith_70 : decode cX5_wiresWith 70 = .ok (.goto 4, 3) := by decide +kernel
theorem dX5_wiresWith_73 : decode cX5_wiresWith 73 = .ok (.iconst 0, 1) := by decide +kernel
theorem dX5_wiresWith_74 : decode cX5_wiresWith 74 = .ok (.iadd, 1) := by decide +kernel
theorem dX5_wiresWith_75 : decode cX5_wiresWith 75 = .ok (.istore_n 2, 1) := by decide +kernel
theorem dX5_wiresWith_76 : decode cX5_wiresWith 76 = .ok (.iinc 3 1, 3) := by decide +kernel
theorem dX5_wiresWith_79 : decode cX5_wiresWith 79 = .ok (.goto (-66), 3) := by decide +kernel
theorem dX5_wiresWith_82 : decode cX5_wiresWith 82 = .ok (.iload_n 2, 1) := by decide +kernel
theorem dX5_wiresWith_83 : decode cX5_wiresWith 83 = .ok (.ireturn, 1) := by decide +kernel
theorem dX5_count_0 : decode cX5_count 0 = .ok (.iload_n 1, 1) := by decide +kernel
theorem dX5_count_1 : decode cX5_count 1 = .ok (.tableswitch 126 0 10 #[59, 59, 68, 74, 74, 85, 90, 107, 107, 116, 121], 59) := by decide +kernel
theorem dX5_count_60 : decode cX5_count 60 = .ok (.aload_n 0, 1) := by decide +kernel
theorem dX5_count_61 : decode cX5_count 61 = .ok (.getfield 7, 3) := by decide +kernel
theorem dX5_count_64 : decode cX5_count 64 = .ok (.iconst 2, 1) := by decide +kernel
theorem dX5_count_65 : decode cX5_count 65 = .ok (.iload_n 1, 1) := by decide +kernel
theorem dX5_count_66 : decode cX5_count 66 = .ok (.iadd, 1) := by decide +kernel
theorem dX5_count_67 : decode cX5_count 67 = .ok (.iaload, 1) := by decide +kernel
theorem dX5_count_68 : decode cX5_count 68 = .ok (.ireturn, 1) := by decide +kernel
theorem dX5_count_69 : decode cX5_count 69 = .ok (.aload_n 0, 1) := by decide +kernel
theorem dX5_count_70 : decode cX5_count 70 = .ok (.iconst 0, 1) := by decide +kernel
theorem dX5_count_71 : decode cX5_count 71 = .ok (.invokevirtual 127, 3) := by decide +kernel
theorem dX5_count_74 : decode cX5_count 74 = .ok (.ireturn, 1) := by decide +kernel
theorem dX5_count_75 : decode cX5_count 75 = .ok (.aload_n 0, 1) := by decide +kernel
theorem dX5_count_76 : decode cX5_count 76 = .ok (.getfield 7, 3) := by decide +kernel
theorem dX5_count_79 : decode cX5_count 79 = .ok (.iconst 4, 1) := by decide +kernel
theorem dX5_count_80 : decode cX5_count 80 = .ok (.iload_n 1, 1) := by decide +kernel
theorem dX5_count_81 : decode cX5_count 81 = .ok (.iadd, 1) := by decide +kernel
theorem dX5_count_82 : decode cX5_count 82 = .ok (.iconst 3, 1) := by decide +kernel
theorem dX5_count_83 : decode cX5_count 83 = .ok (.isub, 1) := by decide +kernel
theorem dX5_count_84 : decode cX5_count 84 = .ok (.iaload, 1) := by decide +kernel
theorem dX5_count_85 : decode cX5_count 85 = .ok (.ireturn, 1) := by decide +kernel
theorem dX5_count_86 : decode cX5_count 86 = .ok (.aload_n 0, 1) := by decide +kernel
theorem dX5_count_87 : decode cX5_count 87 = .ok (.invokevirtual 130, 3) := by decide +kernel
theorem dX5_count_90 : decode cX5_count 90 = .ok (.ireturn, 1) := by decide +kernel
theorem dX5_count_91 : decode cX5_count 91 = .ok (.aload_n 0, 1) := by decide +kernel
theorem dX5_count_92 : decode cX5_count 92 = .ok (.iconst 0, 1) := by decide +kernel
theorem dX5_count_93 : decode cX5_count 93 = .ok (.invokevirtual 61, 3) := by decide +kernel
theorem dX5_count_96 : decode cX5_count 96 = .ok (.ifCond .ne 10, 3) := by decide +kernel
theorem dX5_count_99 : decode cX5_count 99 = .ok (.aload_n 0, 1) := by decide +kernel
theorem dX5_count_100 : decode cX5_count 100 = .ok (.invokevirtual 130, 3) := by decide +kernel
theorem dX5_count_103 : decode cX5_count 103 = .ok (.goto 4, 3) := by decide +kernel
theorem dX5_count_106 : decode cX5_count 106 = .ok (.iconst 0, 1) := by decide +kernel
theorem dX5_count_107 : decode cX5_count 107 = .ok (.ireturn, 1) := by decide +kernel
theorem dX5_count_108 : decode cX5_count 108 = .ok (.aload_n 0, 1) := by decide +kernel
theorem dX5_count_109 : decode cX5_count 109 = .ok (.iload_n 1, 1) := by decide +kernel
theorem dX5_count_110 : decode cX5_count 110 = .ok (.bipush 6, 2) := by decide +kernel
theorem dX5_count_112 : decode cX5_count 112 = .ok (.isub, 1) := by decide +kernel
theorem dX5_count_113 : decode cX5_count 113 = .ok (.invokevirtual 127, 3) := by decide +kernel
theorem dX5_count_116 : decode cX5_count 116 = .ok (.ireturn, 1) := by decide +kernel
theorem dX5_count_117 : decode cX5_count 117 = .ok (.aload_n 0, 1) := by decide +kernel
theorem dX5_count_118 : decode cX5_count 118 = .ok (.getfield 133, 3) := by decide +kernel
theorem dX5_count_121 : decode cX5_count 121 = .ok (.ireturn, 1) := by decide +kernel
theorem dX5_count_122 : decode cX5_count 122 = .ok (.aload_n 0, 1) := by decide +kernel
theorem dX5_count_123 : decode cX5_count 123 = .ok (.getfield 39, 3) := by decide +kernel
theorem dX5_count_126 : decode cX5_count 126 = .ok (.ireturn, 1) := by decide +kernel
theorem dX5_count_127 : decode cX5_count 127 = .ok (.iload_n 1, 1) := by decide +kernel
theorem dX5_count_128 : decode cX5_count 128 = .ok (.bipush 11, 2) := by decide +kernel
theorem dX5_count_130 : decode cX5_count 130 = .ok (.bipush 12, 2) := by decide +kernel
theorem dX5_count_132 : decode cX5_count 132 = .ok (.invokestatic 43, 3) := by decide +kernel
theorem dX5_count_135 : decode cX5_count 135 = .ok (.ifCond .eq 15, 3) := by decide +kernel
theorem dX5_count_138 : decode cX5_count 138 = .ok (.aload_n 0, 1) := by decide +kernel
theorem dX5_count_139 : decode cX5_count 139 = .ok (.getfield 7, 3) := by decide +kernel
theorem dX5_count_142 : decode cX5_count 142 = .ok (.iload_n 1, 1) := by decide +kernel
theorem dX5_count_143 : decode cX5_count 143 = .ok (.bipush 11, 2) := by decide +kernel
theorem dX5_count_145 : decode cX5_count 145 = .ok (.isub, 1) := by decide +kernel
theorem dX5_count_146 : decode cX5_count 146 = .ok (.iaload, 1) := by decide +kernel
theorem dX5_count_147 : decode cX5_count 147 = .ok (.goto 5, 3) := by decide +kernel
theorem dX5_count_150 : decode cX5_count 150 = .ok (.bipush (-2), 2) := by decide +kernel
theorem dX5_count_152 : decode cX5_count 152 = .ok (.ireturn, 1) := by decide +kernel
theorem dX5_pitchAt_0 : decode cX5_pitchAt 0 = .ok (.aload_n 0, 1) := by decide +kernel
theorem dX5_pitchAt_1 : decode cX5_pitchAt 1 = .ok (.iload_n 1, 1) := by decide +kernel
theorem dX5_pitchAt_2 : decode cX5_pitchAt 2 = .ok (.invokevirtual 112, 3) := by decide +kernel
theorem dX5_pitchAt_5 : decode cX5_pitchAt 5 = .ok (.ifCond .ne 5, 3) := by decide +kernel
theorem dX5_pitchAt_8 : decode cX5_pitchAt 8 = .ok (.iconst (-1), 1) := by decide +kernel
theorem dX5_pitchAt_9 : decode cX5_pitchAt 9 = .ok (.ireturn, 1) := by decide +kernel
theorem dX5_pitchAt_10 : decode cX5_pitchAt 10 = .ok (.iload_n 2, 1) := by decide +kernel
theorem dX5_pitchAt_11 : decode cX5_pitchAt 11 = .ok (.iconst 0, 1) := by decide +kernel
theorem dX5_pitchAt_12 : decode cX5_pitchAt 12 = .ok (.ldc 87, 2) := by decide +kernel
theorem dX5_pitchAt_14 : decode cX5_pitchAt 14 = .ok (.invokestatic 43, 3) := by decide +kernel
theorem dX5_pitchAt_17 : decode cX5_pitchAt 17 = .ok (.ifCond .eq 12, 3) := by decide +kernel
theorem dX5_pitchAt_20 : decode cX5_pitchAt 20 = .ok (.aload_n 0, 1) := by decide +kernel
theorem dX5_pitchAt_21 : decode cX5_pitchAt 21 = .ok (.iload_n 1, 1) := by decide +kernel
theorem dX5_pitchAt_22 : decode cX5_pitchAt 22 = .ok (.iload_n 2, 1) := by decide +kernel
theorem dX5_pitchAt_23 : decode cX5_pitchAt 23 = .ok (.invokevirtual 103, 3) := by decide +kernel
theorem dX5_pitchAt_26 : decode cX5_pitchAt 26 = .ok (.goto 5, 3) := by decide +kernel
theorem dX5_pitchAt_29 : decode cX5_pitchAt 29 = .ok (.bipush (-2), 2) := by decide +kernel
theorem dX5_pitchAt_31 : decode cX5_pitchAt 31 = .ok (.ireturn, 1) := by decide +kernel
theorem dX5_tensionFor_0 : decode cX5_tensionFor 0 = .ok (.aload_n 0, 1) := by decide +kernel
theorem dX5_tensionFor_1 : decode cX5_tensionFor 1 = .ok (.iload_n 1, 1) := by decide +kernel
theorem dX5_tensionFor_2 : decode cX5_tensionFor 2 = .ok (.invokevirtual 112, 3) := by decide +kernel
theorem dX5_tensionFor_5 : decode cX5_tensionFor 5 = .ok (.ifCond .ne 5, 3) := by decide +kernel
theorem dX5_tensionFor_8 : decode cX5_tensionFor 8 = .ok (.iconst (-1), 1) := by decide +kernel
theorem dX5_tensionFor_9 : decode cX5_tensionFor 9 = .ok (.ireturn, 1) := by decide +kernel
theorem dX5_tensionFor_10 : decode cX5_tensionFor 10 = .ok (.iload_n 2, 1) := by decide +kernel
theorem dX5_tensionFor_11 : decode cX5_tensionFor 11 = .ok (.iconst 0, 1) := by decide +kernel
theorem dX5_tensionFor_12 : decode cX5_tensionFor 12 = .ok (.ldc 136, 2) := by decide +kernel
theorem dX5_tensionFor_14 : decode cX5_tensionFor 14 = .ok (.invokestatic 43, 3) := by decide +kernel
theorem dX5_tensionFor_17 : decode cX5_tensionFor 17 = .ok (.ifCond .ne 6, 3) := by decide +kernel
theorem dX5_tensionFor_20 : decode cX5_tensionFor 20 = .ok (.bipush (-2), 2) := by decide +kernel
theorem dX5_tensionFor_22 : decode cX5_tensionFor 22 = .ok (.ireturn, 1) := by decide +kernel
theorem dX5_tensionFor_23 : decode cX5_tensionFor 23 = .ok (.aload_n 0, 1) := by decide +kernel
theorem dX5_tensionFor_24 : decode cX5_tensionFor 24 = .ok (.iload_n 1, 1) := by decide +kernel
theorem dX5_tensionFor_25 : decode cX5_tensionFor 25 = .ok (.iload_n 2, 1) := by decide +kernel
theorem dX5_tensionFor_26 : decode cX5_tensionFor 26 = .ok (.invokevirtual 106, 3) := by decide +kernel
theorem dX5_tensionFor_29 : decode cX5_tensionFor 29 = .ok (.lstore_n 3, 1) := by decide +kernel
theorem dX5_tensionFor_30 : decode cX5_tensionFor 30 = .ok (.lload_n 3, 1) := by decide +kernel
theorem dX5_tensionFor_31 : decode cX5_tensionFor 31 = .ok (.ldc2_w 110, 3) := by decide +kernel
theorem dX5_tensionFor_34 : decode cX5_tensionFor 34 = .ok (.lcmp, 1) := by decide +kernel
theorem dX5_tensionFor_35 : decode cX5_tensionFor 35 = .ok (.ifCond .le 8, 3) := by decide +kernel
theorem dX5_tensionFor_38 : decode cX5_tensionFor 38 = .ok (.bipush (-6), 2) := by decide +kernel
theorem dX5_tensionFor_40 : decode cX5_tensionFor 40 = .ok (.goto 5, 3) := by decide +kernel
theorem dX5_tensionFor_43 : decode cX5_tensionFor 43 = .ok (.lload_n 3, 1) := by decide +kernel
theorem dX5_tensionFor_44 : decode cX5_tensionFor 44 = .ok (.l2i, 1) := by decide +kernel
theorem dX5_tensionFor_45 : decode cX5_tensionFor 45 = .ok (.ireturn, 1) := by decide +kernel
theorem dX5_fallen_0 : decode cX5_fallen 0 = .ok (.aload_n 0, 1) := by decide +kernel
theorem dX5_fallen_1 : decode cX5_fallen 1 = .ok (.iconst 0, 1) := by decide +kernel
theorem dX5_fallen_2 : decode cX5_fallen 2 = .ok (.invokevirtual 61, 3) := by decide +kernel
theorem dX5_fallen_5 : decode cX5_fallen 5 = .ok (.istore_n 2, 1) := by decide +kernel
theorem dX5_fallen_6 : decode cX5_fallen 6 = .ok (.aload_n 0, 1) := by decide +kernel
theorem dX5_fallen_7 : decode cX5_fallen 7 = .ok (.invokevirtual 137, 3) := by decide +kernel
theorem dX5_fallen_10 : decode cX5_fallen 10 = .ok (.aload_n 0, 1) := by decide +kernel
theorem dX5_fallen_11 : decode cX5_fallen 11 = .ok (.iload_n 1, 1) := by decide +kernel
theorem dX5_fallen_12 : decode cX5_fallen 12 = .ok (.invokevirtual 81, 3) := by decide +kernel
theorem dX5_fallen_15 : decode cX5_fallen 15 = .ok (.aload_n 0, 1) := by decide +kernel
theorem dX5_fallen_16 : decode cX5_fallen 16 = .ok (.invokevirtual 91, 3) := by decide +kernel
theorem dX5_fallen_19 : decode cX5_fallen 19 = .ok (.pop, 1) := by decide +kernel
theorem dX5_fallen_20 : decode cX5_fallen 20 = .ok (.iload_n 2, 1) := by decide +kernel
theorem dX5_fallen_21 : decode cX5_fallen 21 = .ok (.aload_n 0, 1) := by decide +kernel
theorem dX5_fallen_22 : decode cX5_fallen 22 = .ok (.iconst 0, 1) := by decide +kernel
theorem dX5_fallen_23 : decode cX5_fallen 23 = .ok (.invokevirtual 61, 3) := by decide +kernel
theorem dX5_fallen_26 : decode cX5_fallen 26 = .ok (.iconst (-1), 1) := by decide +kernel
theorem dX5_fallen_27 : decode cX5_fallen 27 = .ok (.ixor, 1) := by decide +kernel
theorem dX5_fallen_28 : decode cX5_fallen 28 = .ok (.iand, 1) := by decide +kernel
theorem dX5_fallen_29 : decode cX5_fallen 29 = .ok (.istore_n 3, 1) := by decide +kernel
theorem dX5_fallen_30 : decode cX5_fallen 30 = .ok (.aload_n 0, 1) := by decide +kernel
theorem dX5_fallen_31 : decode cX5_fallen 31 = .ok (.invokevirtual 140, 3) := by decide +kernel
theorem dX5_fallen_34 : decode cX5_fallen 34 = .ok (.iload_n 3, 1) := by decide +kernel
theorem dX5_fallen_35 : decode cX5_fallen 35 = .ok (.ireturn, 1) := by decide +kernel
theorem dX5_fallsWith_0 : decode cX5_fallsWith 0 = .ok (.aload_n 0, 1) := by decide +kernel
theorem dX5_fallsWith_1 : decode cX5_fallsWith 1 = .ok (.iload_n 1, 1) := by decide +kernel
theorem dX5_fallsWith_2 : decode cX5_fallsWith 2 = .ok (.invokevirtual 112, 3) := by decide +kernel
theorem dX5_fallsWith_5 : decode cX5_fallsWith 5 = .ok (.ifCond .ne 5, 3) := by decide +kernel
theorem dX5_fallsWith_8 : decode cX5_fallsWith 8 = .ok (.iconst (-1), 1) := by decide +kernel
theorem dX5_fallsWith_9 : decode cX5_fallsWith 9 = .ok (.ireturn, 1) := by decide +kernel
theorem dX5_fallsWith_10 : decode cX5_fallsWith 10 = .ok (.aload_n 0, 1) := by decide +kernel
theorem dX5_fallsWith_11 : decode cX5_fallsWith 11 = .ok (.iload_n 1, 1) := by decide +kernel
theorem dX5_fallsWith_12 : decode cX5_fallsWith 12 = .ok (.invokevirtual 69, 3) := by decide +kernel
theorem dX5_fallsWith_15 : decode cX5_fallsWith 15 = .ok (.ifCond .eq 11, 3) := by decide +kernel
theorem dX5_fallsWith_18 : decode cX5_fallsWith 18 = .ok (.aload_n 0, 1) := by decide +kernel
theorem dX5_fallsWith_19 : decode cX5_fallsWith 19 = .ok (.iload_n 1, 1) := by decide +kernel
theorem dX5_fallsWith_20 : decode cX5_fallsWith 20 = .ok (.invokevirtual 143, 3) := by decide +kernel
theorem dX5_fallsWith_23 : decode cX5_fallsWith 23 = .ok (.goto 5, 3) := by decide +kernel
theorem dX5_fallsWith_26 : decode cX5_fallsWith 26 = .ok (.bipush (-5), 2) := by decide +kernel
theorem dX5_fallsWith_28 : decode cX5_fallsWith 28 = .ok (.ireturn, 1) := by decide +kernel
theorem dX5_mostAt_0 : decode cX5_mostAt 0 = .ok (.iload_n 1, 1) := by decide +kernel
theorem dX5_mostAt_1 : decode cX5_mostAt 1 = .ok (.iconst 0, 1) := by decide +kernel
theorem dX5_mostAt_2 : decode cX5_mostAt 2 = .ok (.bipush 19, 2) := by decide +kernel
theorem dX5_mostAt_4 : decode cX5_mostAt 4 = .ok (.invokestatic 43, 3) := by decide +kernel
theorem dX5_mostAt_7 : decode cX5_mostAt 7 = .ok (.ifCond .ne 5, 3) := by decide +kernel
theorem dX5_mostAt_10 : decode cX5_mostAt 10 = .ok (.iconst (-1), 1) := by decide +kernel
theorem dX5_mostAt_11 : decode cX5_mostAt 11 = .ok (.ireturn, 1) := by decide +kernel
theorem dX5_mostAt_12 : decode cX5_mostAt 12 = .ok (.aload_n 0, 1) := by decide +kernel
theorem dX5_mostAt_13 : decode cX5_mostAt 13 = .ok (.getfield 7, 3) := by decide +kernel
theorem dX5_mostAt_16 : decode cX5_mostAt 16 = .ok (.bipush 10, 2) := by decide +kernel
theorem dX5_mostAt_18 : decode cX5_mostAt 18 = .ok (.iload_n 1, 1) := by decide +kernel
theorem dX5_mostAt_19 : decode cX5_mostAt 19 = .ok (.iadd, 1) := by decide +kernel
theorem dX5_mostAt_20 : decode cX5_mostAt 20 = .ok (.iaload, 1) := by decide +kernel
theorem dX5_mostAt_21 : decode cX5_mostAt 21 = .ok (.istore_n 2, 1) := by decide +kernel
theorem dX5_mostAt_22 : decode cX5_mostAt 22 = .ok (.sipush 1000, 3) := by decide +kernel
theorem dX5_mostAt_25 : decode cX5_mostAt 25 = .ok (.istore_n 3, 1) := by decide +kernel
theorem dX5_mostAt_26 : decode cX5_mostAt 26 = .ok (.aload_n 0, 1) := by decide +kernel
theorem dX5_mostAt_27 : decode cX5_mostAt 27 = .ok (.getfield 7, 3) := by decide +kernel
theorem dX5_mostAt_30 : decode cX5_mostAt 30 = .ok (.bipush 10, 2) := by decide +kernel
theorem dX5_mostAt_32 : decode cX5_mostAt 32 = .ok (.iload_n 1, 1) := by decide +kernel
theorem dX5_mostAt_33 : decode cX5_mostAt 33 = .ok (.iadd, 1) := by decide +kernel
theorem dX5_mostAt_34 : decode cX5_mostAt 34 = .ok (.iload_n 3, 1) := by decide +kernel
theorem dX5_mostAt_35 : decode cX5_mostAt 35 = .ok (.iastore, 1) := by decide +kernel
theorem dX5_mostAt_36 : decode cX5_mostAt 36 = .ok (.iload_n 3, 1) := by decide +kernel
theorem dX5_mostAt_37 : decode cX5_mostAt 37 = .ok (.ifCond .lt 26, 3) := by decide +kernel
theorem dX5_mostAt_40 : decode cX5_mostAt 40 = .ok (.aload_n 0, 1) := by decide +kernel
theorem dX5_mostAt_41 : decode cX5_mostAt 41 = .ok (.invokevirtual 77, 3) := by decide +kernel
theorem dX5_mostAt_44 : decode cX5_mostAt 44 = .ok (.ifCond .lt 19, 3) := by decide +kernel
theorem dX5_mostAt_47 : decode cX5_mostAt 47 = .ok (.iinc 3 (-1), 3) := by decide +kernel
theorem dX5_mostAt_50 : decode cX5_mostAt 50 = .ok (.aload_n 0, 1) := by decide +kernel
theorem dX5_mostAt_51 : decode cX5_mostAt 51 = .ok (.getfield 7, 3) := by decide +kernel
theorem dX5_mostAt_54 : decode cX5_mostAt 54 = .ok (.bipush 10, 2) := by decide +kernel
theorem dX5_mostAt_56 : decode cX5_mostAt 56 = .ok (.iload_n 1, 1) := by decide +kernel
theorem dX5_mostAt_57 : decode cX5_mostAt 57 = .ok (.iadd, 1) := by decide +kernel
theorem dX5_mostAt_58 : decode cX5_mostAt 58 = .ok (.iload_n 3, 1) := by decide +kernel
theorem dX5_mostAt_59 : decode cX5_mostAt 59 = .ok (.iastore, 1) := by decide +kernel
theorem dX5_mostAt_60 : decode cX5_mostAt 60 = .ok (.goto (-24), 3) := by decide +kernel
theorem dX5_mostAt_63 : decode cX5_mostAt 63 = .ok (.aload_n 0, 1) := by decide +kernel
theorem dX5_mostAt_64 : decode cX5_mostAt 64 = .ok (.getfield 7, 3) := by decide +kernel
theorem dX5_mostAt_67 : decode cX5_mostAt 67 = .ok (.bipush 10, 2) := by decide +kernel
theorem dX5_mostAt_69 : decode cX5_mostAt 69 = .ok (.iload_n 1, 1) := by decide +kernel
theorem dX5_mostAt_70 : decode cX5_mostAt 70 = .ok (.iadd, 1) := by decide +kernel
theorem dX5_mostAt_71 : decode cX5_mostAt 71 = .ok (.iload_n 2, 1) := by decide +kernel
theorem dX5_mostAt_72 : decode cX5_mostAt 72 = .ok (.iastore, 1) := by decide +kernel
theorem dX5_mostAt_73 : decode cX5_mostAt 73 = .ok (.iload_n 3, 1) := by decide +kernel
theorem dX5_mostAt_74 : decode cX5_mostAt 74 = .ok (.ifCond .ge 8, 3) := by decide +kernel
theorem dX5_mostAt_77 : decode cX5_mostAt 77 = .ok (.bipush (-6), 2) := by decide +kernel
theorem dX5_mostAt_79 : decode cX5_mostAt 79 = .ok (.goto 4, 3) := by decide +kernel
theorem dX5_mostAt_82 : decode cX5_mostAt 82 = .ok (.iload_n 3, 1) := by decide +kernel
theorem dX5_mostAt_83 : decode cX5_mostAt 83 = .ok (.ireturn, 1) := by decide +kernel
theorem dX5_slackIn_0 : decode cX5_slackIn 0 = .ok (.aload_n 0, 1) := by decide +kernel
theorem dX5_slackIn_1 : decode cX5_slackIn 1 = .ok (.iload_n 1, 1) := by decide +kernel
theorem dX5_slackIn_2 : decode cX5_slackIn 2 = .ok (.invokevirtual 112, 3) := by decide +kernel
theorem dX5_slackIn_5 : decode cX5_slackIn 5 = .ok (.ifCond .ne 5, 3) := by decide +kernel
theorem dX5_slackIn_8 : decode cX5_slackIn 8 = .ok (.iconst (-1), 1) := by decide +kernel
theorem dX5_slackIn_9 : decode cX5_slackIn 9 = .ok (.ireturn, 1) := by decide +kernel
theorem dX5_slackIn_10 : decode cX5_slackIn 10 = .ok (.aload_n 0, 1) := by decide +kernel
theorem dX5_slackIn_11 : decode cX5_slackIn 11 = .ok (.invokevirtual 137, 3) := by decide +kernel
theorem dX5_slackIn_14 : decode cX5_slackIn 14 = .ok (.iconst 0, 1) := by decide +kernel
theorem dX5_slackIn_15 : decode cX5_slackIn 15 = .ok (.istore_n 2, 1) := by decide +kernel
theorem dX5_slackIn_16 : decode cX5_slackIn 16 = .ok (.aload_n 0, 1) := by decide +kernel
theorem dX5_slackIn_17 : decode cX5_slackIn 17 = .ok (.aload_n 0, 1) := by decide +kernel
theorem dX5_slackIn_18 : decode cX5_slackIn 18 = .ok (.iconst 0, 1) := by decide +kernel
theorem dX5_slackIn_19 : decode cX5_slackIn 19 = .ok (.invokevirtual 61, 3) := by decide +kernel
theorem dX5_slackIn_22 : decode cX5_slackIn 22 = .ok (.invokevirtual 65, 3) := by decide +kernel
theorem dX5_slackIn_25 : decode cX5_slackIn 25 = .ok (.iload_n 2, 1) := by decide +kernel
theorem dX5_slackIn_26 : decode cX5_slackIn 26 = .ok (.sipush 300, 3) := by decide +kernel
theorem dX5_slackIn_29 : decode cX5_slackIn 29 = .ok (.if_icmp .ge 39, 3) := by decide +kernel
theorem dX5_slackIn_32 : decode cX5_slackIn 32 = .ok (.aload_n 0, 1) := by decide +kernel
theorem dX5_slackIn_33 : decode cX5_slackIn 33 = .ok (.iload_n 1, 1) := by decide +kernel
theorem dX5_slackIn_34 : decode cX5_slackIn 34 = .ok (.invokevirtual 69, 3) := by decide +kernel
theorem dX5_slackIn_37 : decode cX5_slackIn 37 = .ok (.ifCond .eq 31, 3) := by decide +kernel
theorem dX5_slackIn_40 : decode cX5_slackIn 40 = .ok (.aload_n 0, 1) := by decide +kernel
theorem dX5_slackIn_41 : decode cX5_slackIn 41 = .ok (.iload_n 1, 1) := by decide +kernel
theorem dX5_slackIn_42 : decode cX5_slackIn 42 = .ok (.invokevirtual 115, 3) := by decide +kernel
theorem dX5_slackIn_45 : decode cX5_slackIn 45 = .ok (.ifCond .ne 23, 3) := by decide +kernel
theorem dX5_slackIn_48 : decode cX5_slackIn 48 = .ok (.aload_n 0, 1) := by decide +kernel
theorem dX5_slackIn_49 : decode cX5_slackIn 49 = .ok (.invokevirtual 97, 3) := by decide +kernel
theorem dX5_slackIn_52 : decode cX5_slackIn 52 = .ok (.pop, 1) := by decide +kernel
theorem dX5_slackIn_53 : decode cX5_slackIn 53 = .ok (.iinc 2 1, 3) := by decide +kernel
theorem dX5_slackIn_56 : decode cX5_slackIn 56 = .ok (.aload_n 0, 1) := by decide +kernel
theorem dX5_slackIn_57 : decode cX5_slackIn 57 = .ok (.aload_n 0, 1) := by decide +kernel
theorem dX5_slackIn_58 : decode cX5_slackIn 58 = .ok (.iconst 0, 1) := by decide +kernel
theorem dX5_slackIn_59 : decode cX5_slackIn 59 = .ok (.invokevirtual 61, 3) := by decide +kernel
theorem dX5_slackIn_62 : decode cX5_slackIn 62 = .ok (.invokevirtual 65, 3) := by decide +kernel
theorem dX5_slackIn_65 : decode cX5_slackIn 65 = .ok (.goto (-40), 3) := by decide +kernel
theorem dX5_slackIn_68 : decode cX5_slackIn 68 = .ok (.aload_n 0, 1) := by decide +kernel
theorem dX5_slackIn_69 : decode cX5_slackIn 69 = .ok (.iload_n 1, 1) := by decide +kernel
theorem dX5_slackIn_70 : decode cX5_slackIn 70 = .ok (.invokevirtual 115, 3) := by decide +kernel
theorem dX5_slackIn_73 : decode cX5_slackIn 73 = .ok (.ifCond .eq 7, 3) := by decide +kernel
theorem dX5_slackIn_76 : decode cX5_slackIn 76 = .ok (.iload_n 2, 1) := by decide +kernel
theorem dX5_slackIn_77 : decode cX5_slackIn 77 = .ok (.goto 5, 3) := by decide +kernel
theorem dX5_slackIn_80 : decode cX5_slackIn 80 = .ok (.bipush (-6), 2) := by decide +kernel
theorem dX5_slackIn_82 : decode cX5_slackIn 82 = .ok (.istore_n 3, 1) := by decide +kernel
theorem dX5_slackIn_83 : decode cX5_slackIn 83 = .ok (.aload_n 0, 1) := by decide +kernel
theorem dX5_slackIn_84 : decode cX5_slackIn 84 = .ok (.invokevirtual 140, 3) := by decide +kernel
theorem dX5_slackIn_87 : decode cX5_slackIn 87 = .ok (.iload_n 3, 1) := by decide +kernel
theorem dX5_slackIn_88 : decode cX5_slackIn 88 = .ok (.ireturn, 1) := by decide +kernel
theorem dX5_round_0 : decode cX5_round 0 = .ok (.aload_n 0, 1) := by decide +kernel
theorem dX5_round_1 : decode cX5_round 1 = .ok (.aload_n 0, 1) := by decide +kernel
theorem dX5_round_2 : decode cX5_round 2 = .ok (.iconst 1, 1) := by decide +kernel
theorem dX5_round_3 : decode cX5_round 3 = .ok (.invokevirtual 61, 3) := by decide +kernel
theorem dX5_round_6 : decode cX5_round 6 = .ok (.invokevirtual 65, 3) := by decide +kernel
theorem dX5_round_9 : decode cX5_round 9 = .ok (.iconst 0, 1) := by decide +kernel
theorem dX5_round_10 : decode cX5_round 10 = .ok (.istore_n 1, 1) := by decide +kernel
theorem dX5_round_11 : decode cX5_round 11 = .ok (.iconst 0, 1) := by decide +kernel
theorem dX5_round_12 : decode cX5_round 12 = .ok (.istore_n 2, 1) := by decide +kernel
theorem dX5_round_13 : decode cX5_round 13 = .ok (.iconst 0, 1) := by decide +kernel
theorem dX5_round_14 : decode cX5_round 14 = .ok (.istore_n 3, 1) := by decide +kernel
theorem dX5_round_15 : decode cX5_round 15 = .ok (.iload_n 3, 1) := by decide +kernel
theorem dX5_round_16 : decode cX5_round 16 = .ok (.aload_n 0, 1) := by decide +kernel
theorem dX5_round_17 : decode cX5_round 17 = .ok (.getfield 7, 3) := by decide +kernel
theorem dX5_round_20 : decode cX5_round 20 = .ok (.iconst 3, 1) := by decide +kernel
theorem dX5_round_21 : decode cX5_round 21 = .ok (.iaload, 1) := by decide +kernel
theorem dX5_round_22 : decode cX5_round 22 = .ok (.if_icmp .ge 78, 3) := by decide +kernel
theorem dX5_round_25 : decode cX5_round 25 = .ok (.aload_n 0, 1) := by decide +kernel
theorem dX5_round_26 : decode cX5_round 26 = .ok (.iload_n 3, 1) := by decide +kernel
theorem dX5_round_27 : decode cX5_round 27 = .ok (.bipush 10, 2) := by decide +kernel
theorem dX5_round_29 : decode cX5_round 29 = .ok (.invokevirtual 47, 3) := by decide +kernel
theorem dX5_round_32 : decode cX5_round 32 = .ok (.ifCond .ne 62, 3) := by decide +kernel
theorem dX5_round_35 : decode cX5_round 35 = .ok (.aload_n 0, 1) := by decide +kernel
theorem dX5_round_36 : decode cX5_round 36 = .ok (.iload_n 3, 1) := by decide +kernel
theorem dX5_round_37 : decode cX5_round 37 = .ok (.invokevirtual 121, 3) := by decide +kernel
theorem dX5_round_40 : decode cX5_round 40 = .ok (.ifCond .ne 11, 3) := by decide +kernel
theorem dX5_round_43 : decode cX5_round 43 = .ok (.aload_n 0, 1) := by decide +kernel
theorem dX5_round_44 : decode cX5_round 44 = .ok (.iload_n 3, 1) := by decide +kernel
theorem dX5_round_45 : decode cX5_round 45 = .ok (.invokevirtual 124, 3) := by decide +kernel
theorem dX5_round_48 : decode cX5_round 48 = .ok (.ifCond .eq 46, 3) := by decide +kernel
theorem dX5_round_51 : decode cX5_round 51 = .ok (.aload_n 0, 1) := by decide +kernel
theorem dX5_round_52 : decode cX5_round 52 = .ok (.iload_n 3, 1) := by decide +kernel
theorem dX5_round_53 : decode cX5_round 53 = .ok (.iconst 0, 1) := by decide +kernel
theorem dX5_round_54 : decode cX5_round 54 = .ok (.invokevirtual 47, 3) := by decide +kernel
theorem dX5_round_57 : decode cX5_round 57 = .ok (.aload_n 0, 1) := by decide +kernel
theorem dX5_round_58 : decode cX5_round 58 = .ok (.getfield 7, 3) := by decide +kernel
theorem dX5_round_61 : decode cX5_round 61 = .ok (.iconst 4, 1) := by decide +kernel
theorem dX5_round_62 : decode cX5_round 62 = .ok (.iaload, 1) := by decide +kernel
theorem dX5_round_63 : decode cX5_round 63 = .ok (.isub, 1) := by decide +kernel
theorem dX5_round_64 : decode cX5_round 64 = .ok (.istore 4, 2) := by decide +kernel
theorem dX5_round_66 : decode cX5_round 66 = .ok (.iload 4, 2) := by decide +kernel
theorem dX5_round_68 : decode cX5_round 68 = .ok (.ineg, 1) := by decide +kernel
theorem dX5_round_69 : decode cX5_round 69 = .ok (.iload_n 1, 1) := by decide +kernel
theorem dX5_round_70 : decode cX5_round 70 = .ok (.if_icmp .le 9, 3) := by decide +kernel
theorem dX5_round_73 : decode cX5_round 73 = .ok (.iload 4, 2) := by decide +kernel
theorem dX5_round_75 : decode cX5_round 75 = .ok (.ineg, 1) := by decide +kernel
theorem dX5_round_76 : decode cX5_round 76 = .ok (.goto 4, 3) := by decide +kernel
theorem dX5_round_79 : decode cX5_round 79 = .ok (.iload_n 1, 1) := by decide +kernel
theorem dX5_round_80 : decode cX5_round 80 = .ok (.istore_n 1, 1) := by decide +kernel
theorem dX5_round_81 : decode cX5_round 81 = .ok (.iload 4, 2) := by decide +kernel
theorem dX5_round_83 : decode cX5_round 83 = .ok (.iload_n 2, 1) := by decide +kernel
theorem dX5_round_84 : decode cX5_round 84 = .ok (.if_icmp .le 8, 3) := by decide +kernel
theorem dX5_round_87 : decode cX5_round 87 = .ok (.iload 4, 2) := by decide +kernel
theorem dX5_round_89 : decode cX5_round 89 = .ok (.goto 4, 3) := by decide +kernel
theorem dX5_round_92 : decode cX5_round 92 = .ok (.iload_n 2, 1) := by decide +kernel
theorem dX5_round_93 : decode cX5_round 93 = .ok (.istore_n 2, 1) := by decide +kernel
theorem dX5_round_94 : decode cX5_round 94 = .ok (.iinc 3 1, 3) := by decide +kernel
theorem dX5_round_97 : decode cX5_round 97 = .ok (.goto (-82), 3) := by decide +kernel
theorem dX5_round_100 : decode cX5_round 100 = .ok (.iload_n 1, 1) := by decide +kernel
theorem dX5_round_101 : decode cX5_round 101 = .ok (.iload_n 2, 1) := by decide +kernel
theorem dX5_round_102 : decode cX5_round 102 = .ok (.iadd, 1) := by decide +kernel
theorem dX5_round_103 : decode cX5_round 103 = .ok (.iload_n 1, 1) := by decide +kernel
theorem dX5_round_104 : decode cX5_round 104 = .ok (.iload_n 2, 1) := by decide +kernel
theorem dX5_round_105 : decode cX5_round 105 = .ok (.if_icmp .ge 7, 3) := by decide +kernel
theorem dX5_round_108 : decode cX5_round 108 = .ok (.iload_n 1, 1) := by decide +kernel
theorem dX5_round_109 : decode cX5_round 109 = .ok (.goto 4, 3) := by decide +kernel
theorem dX5_round_112 : decode cX5_round 112 = .ok (.iload_n 2, 1) := by decide +kernel
theorem dX5_round_113 : decode cX5_round 113 = .ok (.iadd, 1) := by decide +kernel
theorem dX5_round_114 : decode cX5_round 114 = .ok (.ireturn, 1) := by decide +kernel
theorem dX5_size_0 : decode cX5_size 0 = .ok (.iconst 0, 1) := by decide +kernel
theorem dX5_size_1 : decode cX5_size 1 = .ok (.istore_n 1, 1) := by decide +kernel
theorem dX5_size_2 : decode cX5_size 2 = .ok (.iconst 0, 1) := by decide +kernel
theorem dX5_size_3 : decode cX5_size 3 = .ok (.istore_n 2, 1) := by decide +kernel
theorem dX5_size_4 : decode cX5_size 4 = .ok (.iload_n 2, 1) := by decide +kernel
theorem dX5_size_5 : decode cX5_size 5 = .ok (.bipush 8, 2) := by decide +kernel
theorem dX5_size_7 : decode cX5_size 7 = .ok (.if_icmp .ge 17, 3) := by decide +kernel
theorem dX5_size_10 : decode cX5_size 10 = .ok (.iload_n 1, 1) := by decide +kernel
theorem dX5_size_11 : decode cX5_size 11 = .ok (.iload_n 0, 1) := by decide +kernel
theorem dX5_size_12 : decode cX5_size 12 = .ok (.iload_n 2, 1) := by decide +kernel
theorem dX5_size_13 : decode cX5_size 13 = .ok (.ishr, 1) := by decide +kernel
theorem dX5_size_14 : decode cX5_size 14 = .ok (.iconst 1, 1) := by decide +kernel
theorem dX5_size_15 : decode cX5_size 15 = .ok (.iand, 1) := by decide +kernel
theorem dX5_size_16 : decode cX5_size 16 = .ok (.iadd, 1) := by decide +kernel
theorem dX5_size_17 : decode cX5_size 17 = .ok (.istore_n 1, 1) := by decide +kernel
theorem dX5_size_18 : decode cX5_size 18 = .ok (.iinc 2 1, 3) := by decide +kernel
theorem dX5_size_21 : decode cX5_size 21 = .ok (.goto (-17), 3) := by decide +kernel
theorem dX5_size_24 : decode cX5_size 24 = .ok (.iload_n 1, 1) := by decide +kernel
theorem dX5_size_25 : decode cX5_size 25 = .ok (.ireturn, 1) := by decide +kernel
theorem dX5_weakest_0 : decode cX5_weakest 0 = .ok (.iload_n 1, 1) := by decide +kernel
theorem dX5_weakest_1 : decode cX5_weakest 1 = .ok (.iconst 0, 1) := by decide +kernel
theorem dX5_weakest_2 : decode cX5_weakest 2 = .ok (.iconst 1, 1) := by decide +kernel
theorem dX5_weakest_3 : decode cX5_weakest 3 = .ok (.invokestatic 43, 3) := by decide +kernel
theorem dX5_weakest_6 : decode cX5_weakest 6 = .ok (.ifCond .ne 6, 3) := by decide +kernel
theorem dX5_weakest_9 : decode cX5_weakest 9 = .ok (.bipush (-2), 2) := by decide +kernel
theorem dX5_weakest_11 : decode cX5_weakest 11 = .ok (.ireturn, 1) := by decide +kernel
theorem dX5_weakest_12 : decode cX5_weakest 12 = .ok (.bipush (-6), 2) := by decide +kernel
theorem dX5_weakest_14 : decode cX5_weakest 14 = .ok (.istore_n 2, 1) := by decide +kernel
theorem dX5_weakest_15 : decode cX5_weakest 15 = .ok (.iconst 0, 1) := by decide +kernel
theorem dX5_weakest_16 : decode cX5_weakest 16 = .ok (.istore_n 3, 1) := by decide +kernel
theorem dX5_weakest_17 : decode cX5_weakest 17 = .ok (.iconst 0, 1) := by decide +kernel
theorem dX5_weakest_18 : decode cX5_weakest 18 = .ok (.istore 4, 2) := by decide +kernel
theorem dX5_weakest_20 : decode cX5_weakest 20 = .ok (.iload 4, 2) := by decide +kernel
theorem dX5_weakest_22 : decode cX5_weakest 22 = .ok (.aload_n 0, 1) := by decide +kernel
theorem dX5_weakest_23 : decode cX5_weakest 23 = .ok (.getfield 7, 3) := by decide +kernel
theorem dX5_weakest_26 : decode cX5_weakest 26 = .ok (.iconst 3, 1) := by decide +kernel
theorem dX5_weakest_27 : decode cX5_weakest 27 = .ok (.iaload, 1) := by decide +kernel
theorem dX5_weakest_28 : decode cX5_weakest 28 = .ok (.if_icmp .ge 45, 3) := by decide +kernel
theorem dX5_weakest_31 : decode cX5_weakest 31 = .ok (.aload_n 0, 1) := by decide +kernel
theorem dX5_weakest_32 : decode cX5_weakest 32 = .ok (.iload 4, 2) := by decide +kernel
theorem dX5_weakest_34 : decode cX5_weakest 34 = .ok (.invokevirtual 69, 3) := by decide +kernel
theorem dX5_weakest_37 : decode cX5_weakest 37 = .ok (.ifCond .eq 15, 3) := by decide +kernel
theorem dX5_weakest_40 : decode cX5_weakest 40 = .ok (.aload_n 0, 1) := by decide +kernel
theorem dX5_weakest_41 : decode cX5_weakest 41 = .ok (.iload 4, 2) := by decide +kernel
theorem dX5_weakest_43 : decode cX5_weakest 43 = .ok (.invokevirtual 143, 3) := by decide +kernel
theorem dX5_weakest_46 : decode cX5_weakest 46 = .ok (.invokestatic 146, 3) := by decide +kernel
theorem dX5_weakest_49 : decode cX5_weakest 49 = .ok (.goto 4, 3) := by decide +kernel
theorem dX5_weakest_52 : decode cX5_weakest 52 = .ok (.iconst 0, 1) := by decide +kernel
theorem dX5_weakest_53 : decode cX5_weakest 53 = .ok (.istore 5, 2) := by decide +kernel
theorem dX5_weakest_55 : decode cX5_weakest 55 = .ok (.iload 5, 2) := by decide +kernel
theorem dX5_weakest_57 : decode cX5_weakest 57 = .ok (.iload_n 3, 1) := by decide +kernel
theorem dX5_weakest_58 : decode cX5_weakest 58 = .ok (.if_icmp .le 9, 3) := by decide +kernel
theorem dX5_weakest_61 : decode cX5_weakest 61 = .ok (.iload 4, 2) := by decide +kernel
theorem dX5_weakest_63 : decode cX5_weakest 63 = .ok (.istore_n 2, 1) := by decide +kernel
theorem dX5_weakest_64 : decode cX5_weakest 64 = .ok (.iload 5, 2) := by decide +kernel
theorem dX5_weakest_66 : decode cX5_weakest 66 = .ok (.istore_n 3, 1) := by decide +kernel
theorem dX5_weakest_67 : decode cX5_weakest 67 = .ok (.iinc 4 1, 3) := by decide +kernel
theorem dX5_weakest_70 : decode cX5_weakest 70 = .ok (.goto (-50), 3) := by decide +kernel
theorem dX5_weakest_73 : decode cX5_weakest 73 = .ok (.iload_n 2, 1) := by decide +kernel
theorem dX5_weakest_74 : decode cX5_weakest 74 = .ok (.ifCond .lt 7, 3) := by decide +kernel
theorem dX5_weakest_77 : decode cX5_weakest 77 = .ok (.iload_n 1, 1) := by decide +kernel
theorem dX5_weakest_78 : decode cX5_weakest 78 = .ok (.ifCond .ne 7, 3) := by decide +kernel
theorem dX5_weakest_81 : decode cX5_weakest 81 = .ok (.iload_n 2, 1) := by decide +kernel
theorem dX5_weakest_82 : decode cX5_weakest 82 = .ok (.goto 4, 3) := by decide +kernel
theorem dX5_weakest_85 : decode cX5_weakest 85 = .ok (.iload_n 3, 1) := by decide +kernel
theorem dX5_weakest_86 : decode cX5_weakest 86 = .ok (.ireturn, 1) := by decide +kernel
theorem dX5_sign_0 : decode cX5_sign 0 = .ok (.aload_n 0, 1) := by decide +kernel
theorem dX5_sign_1 : decode cX5_sign 1 = .ok (.getfield 149, 3) := by decide +kernel
theorem dX5_sign_4 : decode cX5_sign 4 = .ok (.aload_n 0, 1) := by decide +kernel
theorem dX5_sign_5 : decode cX5_sign 5 = .ok (.getfield 133, 3) := by decide +kernel
theorem dX5_sign_8 : decode cX5_sign 8 = .ok (.if_icmp .ge 15, 3) := by decide +kernel
theorem dX5_sign_11 : decode cX5_sign 11 = .ok (.aload_n 0, 1) := by decide +kernel
theorem dX5_sign_12 : decode cX5_sign 12 = .ok (.getfield 26, 3) := by decide +kernel
theorem dX5_sign_15 : decode cX5_sign 15 = .ok (.aload_n 0, 1) := by decide +kernel
theorem dX5_sign_16 : decode cX5_sign 16 = .ok (.getfield 149, 3) := by decide +kernel
theorem dX5_sign_19 : decode cX5_sign 19 = .ok (.iaload, 1) := by decide +kernel
theorem dX5_sign_20 : decode cX5_sign 20 = .ok (.goto 4, 3) := by decide +kernel
theorem dX5_sign_23 : decode cX5_sign 23 = .ok (.iconst 0, 1) := by decide +kernel
theorem dX5_sign_24 : decode cX5_sign 24 = .ok (.ireturn, 1) := by decide +kernel
theorem dX5_number_0 : decode cX5_number 0 = .ok (.aload_n 0, 1) := by decide +kernel
theorem dX5_number_1 : decode cX5_number 1 = .ok (.invokevirtual 152, 3) := by decide +kernel
theorem dX5_number_4 : decode cX5_number 4 = .ok (.bipush 48, 2) := by decide +kernel
theorem dX5_number_6 : decode cX5_number 6 = .ok (.isub, 1) := by decide +kernel
theorem dX5_number_7 : decode cX5_number 7 = .ok (.istore_n 1, 1) := by decide +kernel
theorem dX5_number_8 : decode cX5_number 8 = .ok (.aload_n 0, 1) := by decide +kernel
theorem dX5_number_9 : decode cX5_number 9 = .ok (.aload_n 0, 1) := by decide +kernel
theorem dX5_number_10 : decode cX5_number 10 = .ok (.getfield 155, 3) := by decide +kernel
theorem dX5_number_13 : decode cX5_number 13 = .ok (.ifCond .ne 13, 3) := by decide +kernel
theorem dX5_number_16 : decode cX5_number 16 = .ok (.iload_n 1, 1) := by decide +kernel
theorem dX5_number_17 : decode cX5_number 17 = .ok (.iconst 0, 1) := by decide +kernel
theorem dX5_number_18 : decode cX5_number 18 = .ok (.bipush 9, 2) := by decide +kernel
theorem dX5_number_20 : decode cX5_number 20 = .ok (.invokestatic 43, 3) := by decide +kernel
theorem dX5_number_23 : decode cX5_number 23 = .ok (.ifCond .ne 7, 3) := by decide +kernel
theorem dX5_number_26 : decode cX5_number 26 = .ok (.iconst 1, 1) := by decide +kernel
theorem dX5_number_27 : decode cX5_number 27 = .ok (.goto 4, 3) := by decide +kernel
theorem dX5_number_30 : decode cX5_number 30 = .ok (.iconst 0, 1) := by decide +kernel
theorem dX5_number_31 : decode cX5_number 31 = .ok (.putfield 155, 3) := by decide +kernel
theorem dX5_number_34 : decode cX5_number 34 = .ok (.aload_n 0, 1) := by decide +kernel
theorem dX5_number_35 : decode cX5_number 35 = .ok (.dup, 1) := by decide +kernel
theorem dX5_number_36 : decode cX5_number 36 = .ok (.getfield 149, 3) := by decide +kernel
theorem dX5_number_39 : decode cX5_number 39 = .ok (.aload_n 0, 1) := by decide +kernel
theorem dX5_number_40 : decode cX5_number 40 = .ok (.getfield 155, 3) := by decide +kernel
theorem dX5_number_43 : decode cX5_number 43 = .ok (.ifCond .eq 7, 3) := by decide +kernel
theorem dX5_number_46 : decode cX5_number 46 = .ok (.iconst 0, 1) := by decide +kernel
theorem dX5_number_47 : decode cX5_number 47 = .ok (.goto 4, 3) := by decide +kernel
theorem dX5_number_50 : decode cX5_number 50 = .ok (.iconst 1, 1) := by decide +kernel
theorem dX5_number_51 : decode cX5_number 51 = .ok (.iadd, 1) := by decide +kernel
theorem dX5_number_52 : decode cX5_number 52 = .ok (.putfield 149, 3) := by decide +kernel
theorem dX5_number_55 : decode cX5_number 55 = .ok (.aload_n 0, 1) := by decide +kernel
theorem dX5_number_56 : decode cX5_number 56 = .ok (.getfield 155, 3) := by decide +kernel
theorem dX5_number_59 : decode cX5_number 59 = .ok (.ifCond .ne 64, 3) := by decide +kernel
theorem dX5_number_62 : decode cX5_number 62 = .ok (.iload_n 1, 1) := by decide +kernel
theorem dX5_number_63 : decode cX5_number 63 = .ok (.ifCond .le 60, 3) := by decide +kernel
theorem dX5_number_66 : decode cX5_number 66 = .ok (.aload_n 0, 1) := by decide +kernel
theorem dX5_number_67 : decode cX5_number 67 = .ok (.invokevirtual 152, 3) := by decide +kernel
theorem dX5_number_70 : decode cX5_number 70 = .ok (.bipush 48, 2) := by decide +kernel
theorem dX5_number_72 : decode cX5_number 72 = .ok (.bipush 57, 2) := by decide +kernel
theorem dX5_number_74 : decode cX5_number 74 = .ok (.invokestatic 43, 3) := by decide +kernel
theorem dX5_number_77 : decode cX5_number 77 = .ok (.ifCond .eq 46, 3) := by decide +kernel
theorem dX5_number_80 : decode cX5_number 80 = .ok (.bipush 10, 2) := by decide +kernel
theorem dX5_number_82 : decode cX5_number 82 = .ok (.iload_n 1, 1) := by decide +kernel
theorem dX5_number_83 : decode cX5_number 83 = .ok (.imul, 1) := by decide +kernel
theorem dX5_number_84 : decode cX5_number 84 = .ok (.aload_n 0, 1) := by decide +kernel
theorem dX5_number_85 : decode cX5_number 85 = .ok (.invokevirtual 152, 3) := by decide +kernel
theorem dX5_number_88 : decode cX5_number 88 = .ok (.iadd, 1) := by decide +kernel
theorem dX5_number_89 : decode cX5_number 89 = .ok (.bipush 48, 2) := by decide +kernel
theorem dX5_number_91 : decode cX5_number 91 = .ok (.isub, 1) := by decide +kernel
theorem dX5_number_92 : decode cX5_number 92 = .ok (.ldc 158, 2) := by decide +kernel
theorem dX5_number_94 : decode cX5_number 94 = .ok (.if_icmp .gt 29, 3) := by decide +kernel
theorem dX5_number_97 : decode cX5_number 97 = .ok (.bipush 10, 2) := by decide +kernel
theorem dX5_number_99 : decode cX5_number 99 = .ok (.iload_n 1, 1) := by decide +kernel
theorem dX5_number_100 : decode cX5_number 100 = .ok (.imul, 1) := by decide +kernel
theorem dX5_number_101 : decode cX5_number 101 = .ok (.aload_n 0, 1) := by decide +kernel
theorem dX5_number_102 : decode cX5_number 102 = .ok (.invokevirtual 152, 3) := by decide +kernel
theorem dX5_number_105 : decode cX5_number 105 = .ok (.iadd, 1) := by decide +kernel
theorem dX5_number_106 : decode cX5_number 106 = .ok (.bipush 48, 2) := by decide +kernel
theorem dX5_number_108 : decode cX5_number 108 = .ok (.isub, 1) := by decide +kernel
theorem dX5_number_109 : decode cX5_number 109 = .ok (.istore_n 1, 1) := by decide +kernel
theorem dX5_number_110 : decode cX5_number 110 = .ok (.aload_n 0, 1) := by decide +kernel
theorem dX5_number_111 : decode cX5_number 111 = .ok (.dup, 1) := by decide +kernel
theorem dX5_number_112 : decode cX5_number 112 = .ok (.getfield 149, 3) := by decide +kernel
theorem dX5_number_115 : decode cX5_number 115 = .ok (.iconst 1, 1) := by decide +kernel
theorem dX5_number_116 : decode cX5_number 116 = .ok (.iadd, 1) := by decide +kernel
theorem dX5_number_117 : decode cX5_number 117 = .ok (.putfield 149, 3) := by decide +kernel
theorem dX5_number_120 : decode cX5_number 120 = .ok (.goto (-65), 3) := by decide +kernel
theorem dX5_number_123 : decode cX5_number 123 = .ok (.iload_n 1, 1) := by decide +kernel
theorem dX5_number_124 : decode cX5_number 124 = .ok (.ireturn, 1) := by decide +kernel
theorem dX5_readOne_0 : decode cX5_readOne 0 = .ok (.iconst 3, 1) := by decide +kernel
theorem dX5_readOne_1 : decode cX5_readOne 1 = .ok (.aload_n 0, 1) := by decide +kernel
theorem dX5_readOne_2 : decode cX5_readOne 2 = .ok (.getfield 159, 3) := by decide +kernel
theorem dX5_readOne_5 : decode cX5_readOne 5 = .ok (.imul, 1) := by decide +kernel
theorem dX5_readOne_6 : decode cX5_readOne 6 = .ok (.istore_n 1, 1) := by decide +kernel
theorem dX5_readOne_7 : decode cX5_readOne 7 = .ok (.aload_n 0, 1) := by decide +kernel
theorem dX5_readOne_8 : decode cX5_readOne 8 = .ok (.invokevirtual 152, 3) := by decide +kernel
theorem dX5_readOne_11 : decode cX5_readOne 11 = .ok (.istore_n 2, 1) := by decide +kernel
theorem dX5_readOne_12 : decode cX5_readOne 12 = .ok (.aload_n 0, 1) := by decide +kernel
theorem dX5_readOne_13 : decode cX5_readOne 13 = .ok (.getfield 32, 3) := by decide +kernel
theorem dX5_readOne_16 : decode cX5_readOne 16 = .ok (.iload_n 1, 1) := by decide +kernel
theorem dX5_readOne_17 : decode cX5_readOne 17 = .ok (.iload_n 2, 1) := by decide +kernel
theorem dX5_readOne_18 : decode cX5_readOne 18 = .ok (.iastore, 1) := by decide +kernel
theorem dX5_readOne_19 : decode cX5_readOne 19 = .ok (.aload_n 0, 1) := by decide +kernel
theorem dX5_readOne_20 : decode cX5_readOne 20 = .ok (.iload_n 2, 1) := by decide +kernel
theorem dX5_readOne_21 : decode cX5_readOne 21 = .ok (.bipush 103, 2) := by decide +kernel
theorem dX5_readOne_23 : decode cX5_readOne 23 = .ok (.if_icmp .eq 31, 3) := by decide +kernel
theorem dX5_readOne_26 : decode cX5_readOne 26 = .ok (.iload_n 2, 1) := by decide +kernel
theorem dX5_readOne_27 : decode cX5_readOne 27 = .ok (.bipush 104, 2) := by decide +kernel
theorem dX5_readOne_29 : decode cX5_readOne 29 = .ok (.if_icmp .eq 25, 3) := by decide +kernel
theorem dX5_readOne_32 : decode cX5_readOne 32 = .ok (.iload_n 2, 1) := by decide +kernel
theorem dX5_readOne_33 : decode cX5_readOne 33 = .ok (.bipush 116, 2) := by decide +kernel
theorem dX5_readOne_35 : decode cX5_readOne 35 = .ok (.if_icmp .eq 19, 3) := by decide +kernel
theorem dX5_readOne_38 : decode cX5_readOne 38 = .ok (.iload_n 2, 1) := by decide +kernel
theorem dX5_readOne_39 : decode cX5_readOne 39 = .ok (.bipush 112, 2) := by decide +kernel
theorem dX5_readOne_41 : decode cX5_readOne 41 = .ok (.if_icmp .eq 13, 3) := by decide +kernel
theorem dX5_readOne_44 : decode cX5_readOne 44 = .ok (.iload_n 2, 1) := by decide +kernel
theorem dX5_readOne_45 : decode cX5_readOne 45 = .ok (.bipush 100, 2) := by decide +kernel
theorem dX5_readOne_47 : decode cX5_readOne 47 = .ok (.if_icmp .eq 7, 3) := by decide +kernel
theorem dX5_readOne_50 : decode cX5_readOne 50 = .ok (.iconst 1, 1) := by decide +kernel
theorem dX5_readOne_51 : decode cX5_readOne 51 = .ok (.goto 4, 3) := by decide +kernel
theorem dX5_readOne_54 : decode cX5_readOne 54 = .ok (.iconst 0, 1) := by decide +kernel
theorem dX5_readOne_55 : decode cX5_readOne 55 = .ok (.putfield 155, 3) := by decide +kernel
theorem dX5_readOne_58 : decode cX5_readOne 58 = .ok (.aload_n 0, 1) := by decide +kernel
theorem dX5_readOne_59 : decode cX5_readOne 59 = .ok (.getfield 155, 3) := by decide +kernel
theorem dX5_readOne_62 : decode cX5_readOne 62 = .ok (.ifCond .eq 4, 3) := by decide +kernel
theorem dX5_readOne_65 : decode cX5_readOne 65 = .ok (.return_, 1) := by decide +kernel
theorem dX5_readOne_66 : decode cX5_readOne 66 = .ok (.aload_n 0, 1) := by decide +kernel
theorem dX5_readOne_67 : decode cX5_readOne 67 = .ok (.dup, 1) := by decide +kernel
theorem dX5_readOne_68 : decode cX5_readOne 68 = .ok (.getfield 149, 3) := by decide +kernel
theorem dX5_readOne_71 : decode cX5_readOne 71 = .ok (.iconst 1, 1) := by decide +kernel
theorem dX5_readOne_72 : decode cX5_readOne 72 = .ok (.iadd, 1) := by decide +kernel
theorem dX5_readOne_73 : decode cX5_readOne 73 = .ok (.putfield 149, 3) := by decide +kernel
theorem dX5_readOne_76 : decode cX5_readOne 76 = .ok (.aload_n 0, 1) := by decide +kernel
theorem dX5_readOne_77 : decode cX5_readOne 77 = .ok (.getfield 32, 3) := by decide +kernel
theorem dX5_readOne_80 : decode cX5_readOne 80 = .ok (.iload_n 1, 1) := by decide +kernel
theorem dX5_readOne_81 : decode cX5_readOne 81 = .ok (.iconst 1, 1) := by decide +kernel
theorem dX5_readOne_82 : decode cX5_readOne 82 = .ok (.iadd, 1) := by decide +kernel
theorem dX5_readOne_83 : decode cX5_readOne 83 = .ok (.iload_n 2, 1) := by decide +kernel
theorem dX5_readOne_84 : decode cX5_readOne 84 = .ok (.bipush 104, 2) := by decide +kernel
theorem dX5_readOne_86 : decode cX5_readOne 86 = .ok (.if_icmp .ne 7, 3) := by decide +kernel
theorem dX5_readOne_89 : decode cX5_readOne 89 = .ok (.iconst 0, 1) := by decide +kernel
theorem dX5_readOne_90 : decode cX5_readOne 90 = .ok (.goto 7, 3) := by decide +kernel
theorem dX5_readOne_93 : decode cX5_readOne 93 = .ok (.aload_n 0, 1) := by decide +kernel
theorem dX5_readOne_94 : decode cX5_readOne 94 = .ok (.invokevirtual 162, 3) := by decide +kernel
theorem dX5_readOne_97 : decode cX5_readOne 97 = .ok (.iastore, 1) := by decide +kernel
theorem dX5_readOne_98 : decode cX5_readOne 98 = .ok (.iload_n 2, 1) := by decide +kernel
theorem dX5_readOne_99 : decode cX5_readOne 99 = .ok (.bipush 112, 2) := by decide +kernel
theorem dX5_readOne_101 : decode cX5_readOne 101 = .ok (.if_icmp .ne 72, 3) := by decide +kernel
theorem dX5_readOne_104 : decode cX5_readOne 104 = .ok (.aload_n 0, 1) := by decide +kernel
theorem dX5_readOne_105 : decode cX5_readOne 105 = .ok (.getfield 155, 3) := by decide +kernel
theorem dX5_readOne_108 : decode cX5_readOne 108 = .ok (.ifCond .ne 65, 3) := by decide +kernel
theorem dX5_readOne_111 : decode cX5_readOne 111 = .ok (.aload_n 0, 1) := by decide +kernel
theorem dX5_readOne_112 : decode cX5_readOne 112 = .ok (.aload_n 0, 1) := by decide +kernel
theorem dX5_readOne_113 : decode cX5_readOne 113 = .ok (.invokevirtual 152, 3) := by decide +kernel
theorem dX5_readOne_116 : decode cX5_readOne 116 = .ok (.bipush 61, 2) := by decide +kernel
theorem dX5_readOne_118 : decode cX5_readOne 118 = .ok (.if_icmp .eq 7, 3) := by decide +kernel
theorem dX5_readOne_121 : decode cX5_readOne 121 = .ok (.iconst 1, 1) := by decide +kernel
theorem dX5_readOne_122 : decode cX5_readOne 122 = .ok (.goto 4, 3) := by decide +kernel
theorem dX5_readOne_125 : decode cX5_readOne 125 = .ok (.iconst 0, 1) := by decide +kernel
theorem dX5_readOne_126 : decode cX5_readOne 126 = .ok (.putfield 155, 3) := by decide +kernel
theorem dX5_readOne_129 : decode cX5_readOne 129 = .ok (.aload_n 0, 1) := by decide +kernel
theorem dX5_readOne_130 : decode cX5_readOne 130 = .ok (.dup, 1) := by decide +kernel
theorem dX5_readOne_131 : decode cX5_readOne 131 = .ok (.getfield 149, 3) := by decide +kernel
theorem dX5_readOne_134 : decode cX5_readOne 134 = .ok (.aload_n 0, 1) := by decide +kernel
theorem dX5_readOne_135 : decode cX5_readOne 135 = .ok (.getfield 155, 3) := by decide +kernel
theorem dX5_readOne_138 : decode cX5_readOne 138 = .ok (.ifCond .eq 7, 3) := by decide +kernel
theorem dX5_readOne_141 : decode cX5_readOne 141 = .ok (.iconst 0, 1) := by decide +kernel
theorem dX5_readOne_142 : decode cX5_readOne 142 = .ok (.goto 4, 3) := by decide +kernel
theorem dX5_readOne_145 : decode cX5_readOne 145 = .ok (.iconst 1, 1) := by decide +kernel
theorem dX5_readOne_146 : decode cX5_readOne 146 = .ok (.iadd, 1) := by decide +kernel
theorem dX5_readOne_147 : decode cX5_readOne 147 = .ok (.putfield 149, 3) := by decide +kernel
theorem dX5_readOne_150 : decode cX5_readOne 150 = .ok (.aload_n 0, 1) := by decide +kernel
theorem dX5_readOne_151 : decode cX5_readOne 151 = .ok (.getfield 32, 3) := by decide +kernel
theorem dX5_readOne_154 : decode cX5_readOne 154 = .ok (.iload_n 1, 1) := by decide +kernel
theorem dX5_readOne_155 : decode cX5_readOne 155 = .ok (.iconst 2, 1) := by decide +kernel
theorem dX5_readOne_156 : decode cX5_readOne 156 = .ok (.iadd, 1) := by decide +kernel
theorem dX5_readOne_157 : decode cX5_readOne 157 = .ok (.aload_n 0, 1) := by decide +kernel
theorem dX5_readOne_158 : decode cX5_readOne 158 = .ok (.getfield 155, 3) := by decide +kernel
theorem dX5_readOne_161 : decode cX5_readOne 161 = .ok (.ifCond .eq 7, 3) := by decide +kernel
theorem dX5_readOne_164 : decode cX5_readOne 164 = .ok (.iconst 0, 1) := by decide +kernel
theorem dX5_readOne_165 : decode cX5_readOne 165 = .ok (.goto 7, 3) := by decide +kernel
theorem dX5_readOne_168 : decode cX5_readOne 168 = .ok (.aload_n 0, 1) := by decide +kernel
theorem dX5_readOne_169 : decode cX5_readOne 169 = .ok (.invokevirtual 162, 3) := by decide +kernel
theorem dX5_readOne_172 : decode cX5_readOne 172 = .ok (.iastore, 1) := by decide +kernel
theorem dX5_readOne_173 : decode cX5_readOne 173 = .ok (.aload_n 0, 1) := by decide +kernel
theorem dX5_readOne_174 : decode cX5_readOne 174 = .ok (.dup, 1) := by decide +kernel
theorem dX5_readOne_175 : decode cX5_readOne 175 = .ok (.getfield 159, 3) := by decide +kernel
theorem dX5_readOne_178 : decode cX5_readOne 178 = .ok (.iconst 1, 1) := by decide +kernel
theorem dX5_readOne_179 : decode cX5_readOne 179 = .ok (.iadd, 1) := by decide +kernel
theorem dX5_readOne_180 : decode cX5_readOne 180 = .ok (.putfield 159, 3) := by decide +kernel
theorem dX5_readOne_183 : decode cX5_readOne 183 = .ok (.return_, 1) := by decide +kernel
theorem dX5_faultOf_0 : decode cX5_faultOf 0 = .ok (.aload_n 0, 1) := by decide +kernel
theorem dX5_faultOf_1 : decode cX5_faultOf 1 = .ok (.iconst 0, 1) := by decide +kernel
theorem dX5_faultOf_2 : decode cX5_faultOf 2 = .ok (.putfield 149, 3) := by decide +kernel
theorem dX5_faultOf_5 : decode cX5_faultOf 5 = .ok (.aload_n 0, 1) := by decide +kernel
theorem dX5_faultOf_6 : decode cX5_faultOf 6 = .ok (.iconst 0, 1) := by decide +kernel
theorem dX5_faultOf_7 : decode cX5_faultOf 7 = .ok (.putfield 159, 3) := by decide +kernel
theorem dX5_faultOf_10 : decode cX5_faultOf 10 = .ok (.aload_n 0, 1) := by decide +kernel
theorem dX5_faultOf_11 : decode cX5_faultOf 11 = .ok (.iconst 0, 1) := by decide +kernel
theorem dX5_faultOf_12 : decode cX5_faultOf 12 = .ok (.putfield 155, 3) := by decide +kernel
theorem dX5_faultOf_15 : decode cX5_faultOf 15 = .ok (.aload_n 0, 1) := by decide +kernel
theorem dX5_faultOf_16 : decode cX5_faultOf 16 = .ok (.invokevirtual 165, 3) := by decide +kernel
theorem dX5_faultOf_19 : decode cX5_faultOf 19 = .ok (.aload_n 0, 1) := by decide +kernel
theorem dX5_faultOf_20 : decode cX5_faultOf 20 = .ok (.getfield 155, 3) := by decide +kernel
theorem dX5_faultOf_23 : decode cX5_faultOf 23 = .ok (.ifCond .ne 56, 3) := by decide +kernel
theorem dX5_faultOf_26 : decode cX5_faultOf 26 = .ok (.aload_n 0, 1) := by decide +kernel
theorem dX5_faultOf_27 : decode cX5_faultOf 27 = .ok (.getfield 149, 3) := by decide +kernel
theorem dX5_faultOf_30 : decode cX5_faultOf 30 = .ok (.aload_n 0, 1) := by decide +kernel
theorem dX5_faultOf_31 : decode cX5_faultOf 31 = .ok (.getfield 133, 3) := by decide +kernel
theorem dX5_faultOf_34 : decode cX5_faultOf 34 = .ok (.if_icmp .ge 45, 3) := by decide +kernel
theorem dX5_faultOf_37 : decode cX5_faultOf 37 = .ok (.aload_n 0, 1) := by decide +kernel
theorem dX5_faultOf_38 : decode cX5_faultOf 38 = .ok (.aload_n 0, 1) := by decide +kernel
theorem dX5_faultOf_39 : decode cX5_faultOf 39 = .ok (.invokevirtual 152, 3) := by decide +kernel
theorem dX5_faultOf_42 : decode cX5_faultOf 42 = .ok (.bipush 59, 2) := by decide +kernel
theorem dX5_faultOf_44 : decode cX5_faultOf 44 = .ok (.if_icmp .eq 7, 3) := by decide +kernel
theorem dX5_faultOf_47 : decode cX5_faultOf 47 = .ok (.iconst 1, 1) := by decide +kernel
theorem dX5_faultOf_48 : decode cX5_faultOf 48 = .ok (.goto 4, 3) := by decide +kernel
theorem dX5_faultOf_51 : decode cX5_faultOf 51 = .ok (.iconst 0, 1) := by decide +kernel
theorem dX5_faultOf_52 : decode cX5_faultOf 52 = .ok (.putfield 155, 3) := by decide +kernel
theorem dX5_faultOf_55 : decode cX5_faultOf 55 = .ok (.aload_n 0, 1) := by decide +kernel
theorem dX5_faultOf_56 : decode cX5_faultOf 56 = .ok (.getfield 155, 3) := by decide +kernel
theorem dX5_faultOf_59 : decode cX5_faultOf 59 = .ok (.ifCond .ne (-40), 3) := by decide +kernel
theorem dX5_faultOf_62 : decode cX5_faultOf 62 = .ok (.aload_n 0, 1) := by decide +kernel
theorem dX5_faultOf_63 : decode cX5_faultOf 63 = .ok (.dup, 1) := by decide +kernel
theorem dX5_faultOf_64 : decode cX5_faultOf 64 = .ok (.getfield 149, 3) := by decide +kernel
theorem dX5_faultOf_67 : decode cX5_faultOf 67 = .ok (.iconst 1, 1) := by decide +kernel
theorem dX5_faultOf_68 : decode cX5_faultOf 68 = .ok (.iadd, 1) := by decide +kernel
theorem dX5_faultOf_69 : decode cX5_faultOf 69 = .ok (.putfield 149, 3) := by decide +kernel
theorem dX5_faultOf_72 : decode cX5_faultOf 72 = .ok (.aload_n 0, 1) := by decide +kernel
theorem dX5_faultOf_73 : decode cX5_faultOf 73 = .ok (.invokevirtual 165, 3) := by decide +kernel
theorem dX5_faultOf_76 : decode cX5_faultOf 76 = .ok (.goto (-57), 3) := by decide +kernel
theorem dX5_faultOf_79 : decode cX5_faultOf 79 = .ok (.aload_n 0, 1) := by decide +kernel
theorem dX5_faultOf_80 : decode cX5_faultOf 80 = .ok (.getfield 155, 3) := by decide +kernel
theorem dX5_faultOf_83 : decode cX5_faultOf 83 = .ok (.ifCond .eq 10, 3) := by decide +kernel
theorem dX5_faultOf_86 : decode cX5_faultOf 86 = .ok (.aload_n 0, 1) := by decide +kernel
theorem dX5_faultOf_87 : decode cX5_faultOf 87 = .ok (.getfield 149, 3) := by decide +kernel
theorem dX5_faultOf_90 : decode cX5_faultOf 90 = .ok (.goto 5, 3) := by decide +kernel
theorem dX5_faultOf_93 : decode cX5_faultOf 93 = .ok (.bipush (-6), 2) := by decide +kernel
theorem dX5_faultOf_95 : decode cX5_faultOf 95 = .ok (.ireturn, 1) := by decide +kernel
theorem dX5_put_0 : decode cX5_put 0 = .ok (.iconst 0, 1) := by decide +kernel
theorem dX5_put_1 : decode cX5_put 1 = .ok (.istore_n 3, 1) := by decide +kernel
theorem dX5_put_2 : decode cX5_put 2 = .ok (.lload_n 1, 1) := by decide +kernel
theorem dX5_put_3 : decode cX5_put 3 = .ok (.lstore 4, 2) := by decide +kernel
theorem dX5_put_5 : decode cX5_put 5 = .ok (.lload 4, 2) := by decide +kernel
theorem dX5_put_7 : decode cX5_put 7 = .ok (.ldc2_w 168, 3) := by decide +kernel
theorem dX5_put_10 : decode cX5_put 10 = .ok (.land, 1) := by decide +kernel
theorem dX5_put_11 : decode cX5_put 11 = .ok (.lconst 0, 1) := by decide +kernel
theorem dX5_put_12 : decode cX5_put 12 = .ok (.lcmp, 1) := by decide +kernel
theorem dX5_put_13 : decode cX5_put 13 = .ok (.ifCond .eq 36, 3) := by decide +kernel
theorem dX5_put_16 : decode cX5_put 16 = .ok (.lload 4, 2) := by decide +kernel
theorem dX5_put_18 : decode cX5_put 18 = .ok (.ldc2_w 168, 3) := by decide +kernel
theorem dX5_put_21 : decode cX5_put 21 = .ok (.land, 1) := by decide +kernel
theorem dX5_put_22 : decode cX5_put 22 = .ok (.l2i, 1) := by decide +kernel
theorem dX5_put_23 : decode cX5_put 23 = .ok (.bipush 33, 2) := by decide +kernel
theorem dX5_put_25 : decode cX5_put 25 = .ok (.bipush 126, 2) := by decide +kernel
theorem dX5_put_27 : decode cX5_put 27 = .ok (.invokestatic 43, 3) := by decide +kernel
theorem dX5_put_30 : decode cX5_put 30 = .ok (.ifCond .ne 6, 3) := by decide +kernel
theorem dX5_put_33 : decode cX5_put 33 = .ok (.bipush (-2), 2) := by decide +kernel
theorem dX5_put_35 : decode cX5_put 35 = .ok (.ireturn, 1) := by decide +kernel
theorem dX5_put_36 : decode cX5_put 36 = .ok (.iinc 3 1, 3) := by decide +kernel
theorem dX5_put_39 : decode cX5_put 39 = .ok (.lload 4, 2) := by decide +kernel
theorem dX5_put_41 : decode cX5_put 41 = .ok (.bipush 8, 2) := by decide +kernel
theorem dX5_put_43 : decode cX5_put 43 = .ok (.lushr, 1) := by decide +kernel
theorem dX5_put_44 : decode cX5_put 44 = .ok (.lstore 4, 2) := by decide +kernel
theorem dX5_put_46 : decode cX5_put 46 = .ok (.goto (-41), 3) := by decide +kernel
theorem dX5_put_49 : decode cX5_put 49 = .ok (.lload 4, 2) := by decide +kernel
theorem dX5_put_51 : decode cX5_put 51 = .ok (.lconst 0, 1) := by decide +kernel
theorem dX5_put_52 : decode cX5_put 52 = .ok (.lcmp, 1) := by decide +kernel
theorem dX5_put_53 : decode cX5_put 53 = .ok (.ifCond .ne 7, 3) := by decide +kernel
theorem dX5_put_56 : decode cX5_put 56 = .ok (.iload_n 3, 1) := by decide +kernel
theorem dX5_put_57 : decode cX5_put 57 = .ok (.ifCond .ne 6, 3) := by decide +kernel
theorem dX5_put_60 : decode cX5_put 60 = .ok (.bipush (-2), 2) := by decide +kernel
theorem dX5_put_62 : decode cX5_put 62 = .ok (.ireturn, 1) := by decide +kernel
theorem dX5_put_63 : decode cX5_put 63 = .ok (.aload_n 0, 1) := by decide +kernel
theorem dX5_put_64 : decode cX5_put 64 = .ok (.getfield 133, 3) := by decide +kernel
theorem dX5_put_67 : decode cX5_put 67 = .ok (.iload_n 3, 1) := by decide +kernel
theorem dX5_put_68 : decode cX5_put 68 = .ok (.iadd, 1) := by decide +kernel
theorem dX5_put_69 : decode cX5_put 69 = .ok (.bipush 60, 2) := by decide +kernel
theorem dX5_put_71 : decode cX5_put 71 = .ok (.if_icmp .le 6, 3) := by decide +kernel
theorem dX5_put_74 : decode cX5_put 74 = .ok (.bipush (-4), 2) := by decide +kernel
theorem dX5_put_76 : decode cX5_put 76 = .ok (.ireturn, 1) := by decide +kernel
theorem dX5_put_77 : decode cX5_put 77 = .ok (.lload_n 1, 1) := by decide +kernel
theorem dX5_put_78 : decode cX5_put 78 = .ok (.lstore 4, 2) := by decide +kernel
theorem dX5_put_80 : decode cX5_put 80 = .ok (.iload_n 3, 1) := by decide +kernel
theorem dX5_put_81 : decode cX5_put 81 = .ok (.iconst 1, 1) := by decide +kernel
theorem dX5_put_82 : decode cX5_put 82 = .ok (.isub, 1) := by decide +kernel
theorem dX5_put_83 : decode cX5_put 83 = .ok (.istore 6, 2) := by decide +kernel
theorem dX5_put_85 : decode cX5_put 85 = .ok (.iload 6, 2) := by decide +kernel
theorem dX5_put_87 : decode cX5_put 87 = .ok (.ifCond .lt 35, 3) := by decide +kernel
theorem dX5_put_90 : decode cX5_put 90 = .ok (.aload_n 0, 1) := by decide +kernel
theorem dX5_put_91 : decode cX5_put 91 = .ok (.getfield 26, 3) := by decide +kernel
theorem dX5_put_94 : decode cX5_put 94 = .ok (.aload_n 0, 1) := by decide +kernel
theorem dX5_put_95 : decode cX5_put 95 = .ok (.getfield 133, 3) := by decide +kernel
theorem dX5_put_98 : decode cX5_put 98 = .ok (.iload 6, 2) := by decide +kernel
theorem dX5_put_100 : decode cX5_put 100 = .ok (.iadd, 1) := by decide +kernel
theorem dX5_put_101 : decode cX5_put 101 = .ok (.lload 4, 2) := by decide +kernel
theorem dX5_put_103 : decode cX5_put 103 = .ok (.ldc2_w 168, 3) := by decide +kernel
theorem dX5_put_106 : decode cX5_put 106 = .ok (.land, 1) := by decide +kernel
theorem dX5_put_107 : decode cX5_put 107 = .ok (.l2i, 1) := by decide +kernel
theorem dX5_put_108 : decode cX5_put 108 = .ok (.iastore, 1) := by decide +kernel
theorem dX5_put_109 : decode cX5_put 109 = .ok (.lload 4, 2) := by decide +kernel
theorem dX5_put_111 : decode cX5_put 111 = .ok (.bipush 8, 2) := by decide +kernel
theorem dX5_put_113 : decode cX5_put 113 = .ok (.lushr, 1) := by decide +kernel
theorem dX5_put_114 : decode cX5_put 114 = .ok (.lstore 4, 2) := by decide +kernel
theorem dX5_put_116 : decode cX5_put 116 = .ok (.iinc 6 (-1), 3) := by decide +kernel
theorem dX5_put_119 : decode cX5_put 119 = .ok (.goto (-34), 3) := by decide +kernel
theorem dX5_put_122 : decode cX5_put 122 = .ok (.aload_n 0, 1) := by decide +kernel
theorem dX5_put_123 : decode cX5_put 123 = .ok (.dup, 1) := by decide +kernel
theorem dX5_put_124 : decode cX5_put 124 = .ok (.getfield 133, 3) := by decide +kernel
theorem dX5_put_127 : decode cX5_put 127 = .ok (.iload_n 3, 1) := by decide +kernel
theorem dX5_put_128 : decode cX5_put 128 = .ok (.iadd, 1) := by decide +kernel
theorem dX5_put_129 : decode cX5_put 129 = .ok (.putfield 133, 3) := by decide +kernel
theorem dX5_put_132 : decode cX5_put 132 = .ok (.aload_n 0, 1) := by decide +kernel
theorem dX5_put_133 : decode cX5_put 133 = .ok (.getfield 133, 3) := by decide +kernel
theorem dX5_put_136 : decode cX5_put 136 = .ok (.ireturn, 1) := by decide +kernel
theorem dX5_wipe_0 : decode cX5_wipe 0 = .ok (.aload_n 0, 1) := by decide +kernel
theorem dX5_wipe_1 : decode cX5_wipe 1 = .ok (.getfield 133, 3) := by decide +kernel
theorem dX5_wipe_4 : decode cX5_wipe 4 = .ok (.istore_n 1, 1) := by decide +kernel
theorem dX5_wipe_5 : decode cX5_wipe 5 = .ok (.aload_n 0, 1) := by decide +kernel
theorem dX5_wipe_6 : decode cX5_wipe 6 = .ok (.iconst 0, 1) := by decide +kernel
theorem dX5_wipe_7 : decode cX5_wipe 7 = .ok (.putfield 133, 3) := by decide +kernel
theorem dX5_wipe_10 : decode cX5_wipe 10 = .ok (.iload_n 1, 1) := by decide +kernel
theorem dX5_wipe_11 : decode cX5_wipe 11 = .ok (.ireturn, 1) := by decide +kernel
theorem dX5_fault_0 : decode cX5_fault 0 = .ok (.aload_n 0, 1) := by decide +kernel
theorem dX5_fault_1 : decode cX5_fault 1 = .ok (.invokevirtual 170, 3) := by decide +kernel
theorem dX5_fault_4 : decode cX5_fault 4 = .ok (.ireturn, 1) := by decide +kernel
theorem dX5_carry_0 : decode cX5_carry 0 = .ok (.aload_n 0, 1) := by decide +kernel
theorem dX5_carry_1 : decode cX5_carry 1 = .ok (.getfield 32, 3) := by decide +kernel
theorem dX5_carry_4 : decode cX5_carry 4 = .ok (.iload_n 1, 1) := by decide +kernel
theorem dX5_carry_5 : decode cX5_carry 5 = .ok (.iconst 1, 1) := by decide +kernel
theorem dX5_carry_6 : decode cX5_carry 6 = .ok (.iadd, 1) := by decide +kernel
theorem dX5_carry_7 : decode cX5_carry 7 = .ok (.iaload, 1) := by decide +kernel
theorem dX5_carry_8 : decode cX5_carry 8 = .ok (.istore_n 2, 1) := by decide +kernel
theorem dX5_carry_9 : decode cX5_carry 9 = .ok (.aload_n 0, 1) := by decide +kernel
theorem dX5_carry_10 : decode cX5_carry 10 = .ok (.getfield 32, 3) := by decide +kernel
theorem dX5_carry_13 : decode cX5_carry 13 = .ok (.iload_n 1, 1) := by decide +kernel
theorem dX5_carry_14 : decode cX5_carry 14 = .ok (.iaload, 1) := by decide +kernel
theorem dX5_carry_15 : decode cX5_carry 15 = .ok (.lookupswitch 72 #[(103, 41), (104, 47), (112, 58), (116, 52)], 41) := by decide +kernel
theorem dX5_carry_56 : decode cX5_carry 56 = .ok (.aload_n 0, 1) := by decide +kernel
theorem dX5_carry_57 : decode cX5_carry 57 = .ok (.iload_n 2, 1) := by decide +kernel
theorem dX5_carry_58 : decode cX5_carry 58 = .ok (.invokevirtual 173, 3) := by decide +kernel
theorem dX5_carry_61 : decode cX5_carry 61 = .ok (.ireturn, 1) := by decide +kernel
theorem dX5_carry_62 : decode cX5_carry 62 = .ok (.aload_n 0, 1) := by decide +kernel
theorem dX5_carry_63 : decode cX5_carry 63 = .ok (.invokevirtual 176, 3) := by decide +kernel
theorem dX5_carry_66 : decode cX5_carry 66 = .ok (.ireturn, 1) := by decide +kernel
theorem dX5_carry_67 : decode cX5_carry 67 = .ok (.aload_n 0, 1) := by decide +kernel
theorem dX5_carry_68 : decode cX5_carry 68 = .ok (.iload_n 2, 1) := by decide +kernel
theorem dX5_carry_69 : decode cX5_carry 69 = .ok (.invokevirtual 179, 3) := by decide +kernel
theorem dX5_carry_72 : decode cX5_carry 72 = .ok (.ireturn, 1) := by decide +kernel
theorem dX5_carry_73 : decode cX5_carry 73 = .ok (.aload_n 0, 1) := by decide +kernel
theorem dX5_carry_74 : decode cX5_carry 74 = .ok (.iload_n 2, 1) := by decide +kernel
theorem dX5_carry_75 : decode cX5_carry 75 = .ok (.aload_n 0, 1) := by decide +kernel
theorem dX5_carry_76 : decode cX5_carry 76 = .ok (.getfield 32, 3) := by decide +kernel
theorem dX5_carry_79 : decode cX5_carry 79 = .ok (.iload_n 1, 1) := by decide +kernel
theorem dX5_carry_80 : decode cX5_carry 80 = .ok (.iconst 2, 1) := by decide +kernel
theorem dX5_carry_81 : decode cX5_carry 81 = .ok (.iadd, 1) := by decide +kernel
theorem dX5_carry_82 : decode cX5_carry 82 = .ok (.iaload, 1) := by decide +kernel
theorem dX5_carry_83 : decode cX5_carry 83 = .ok (.invokevirtual 182, 3) := by decide +kernel
theorem dX5_carry_86 : decode cX5_carry 86 = .ok (.ireturn, 1) := by decide +kernel
theorem dX5_carry_87 : decode cX5_carry 87 = .ok (.aload_n 0, 1) := by decide +kernel
theorem dX5_carry_88 : decode cX5_carry 88 = .ok (.iload_n 2, 1) := by decide +kernel
theorem dX5_carry_89 : decode cX5_carry 89 = .ok (.invokevirtual 185, 3) := by decide +kernel
theorem dX5_carry_92 : decode cX5_carry 92 = .ok (.ireturn, 1) := by decide +kernel
theorem dX5_carryOut_0 : decode cX5_carryOut 0 = .ok (.aload_n 0, 1) := by decide +kernel
theorem dX5_carryOut_1 : decode cX5_carryOut 1 = .ok (.invokevirtual 170, 3) := by decide +kernel
theorem dX5_carryOut_4 : decode cX5_carryOut 4 = .ok (.bipush (-6), 2) := by decide +kernel
theorem dX5_carryOut_6 : decode cX5_carryOut 6 = .ok (.if_icmp .eq 6, 3) := by decide +kernel
theorem dX5_carryOut_9 : decode cX5_carryOut 9 = .ok (.bipush (-3), 2) := by decide +kernel
theorem dX5_carryOut_11 : decode cX5_carryOut 11 = .ok (.ireturn, 1) := by decide +kernel
theorem dX5_carryOut_12 : decode cX5_carryOut 12 = .ok (.aload_n 0, 1) := by decide +kernel
theorem dX5_carryOut_13 : decode cX5_carryOut 13 = .ok (.invokevirtual 84, 3) := by decide +kernel
theorem dX5_carryOut_16 : decode cX5_carryOut 16 = .ok (.aload_n 0, 1) := by decide +kernel
theorem dX5_carryOut_17 : decode cX5_carryOut 17 = .ok (.iconst 1, 1) := by decide +kernel
theorem dX5_carryOut_18 : decode cX5_carryOut 18 = .ok (.putfield 35, 3) := by decide +kernel
theorem dX5_carryOut_21 : decode cX5_carryOut 21 = .ok (.iconst 0, 1) := by decide +kernel
theorem dX5_carryOut_22 : decode cX5_carryOut 22 = .ok (.istore_n 1, 1) := by decide +kernel
theorem dX5_carryOut_23 : decode cX5_carryOut 23 = .ok (.iconst 1, 1) := by decide +kernel
theorem dX5_carryOut_24 : decode cX5_carryOut 24 = .ok (.istore_n 2, 1) := by decide +kernel
theorem dX5_carryOut_25 : decode cX5_carryOut 25 = .ok (.iload_n 2, 1) := by decide +kernel
theorem dX5_carryOut_26 : decode cX5_carryOut 26 = .ok (.ifCond .eq 50, 3) := by decide +kernel
theorem dX5_carryOut_29 : decode cX5_carryOut 29 = .ok (.iload_n 1, 1) := by decide +kernel
theorem dX5_carryOut_30 : decode cX5_carryOut 30 = .ok (.aload_n 0, 1) := by decide +kernel
theorem dX5_carryOut_31 : decode cX5_carryOut 31 = .ok (.getfield 159, 3) := by decide +kernel
theorem dX5_carryOut_34 : decode cX5_carryOut 34 = .ok (.if_icmp .ge 42, 3) := by decide +kernel
theorem dX5_carryOut_37 : decode cX5_carryOut 37 = .ok (.aload_n 0, 1) := by decide +kernel
theorem dX5_carryOut_38 : decode cX5_carryOut 38 = .ok (.iconst 3, 1) := by decide +kernel
theorem dX5_carryOut_39 : decode cX5_carryOut 39 = .ok (.iload_n 1, 1) := by decide +kernel
theorem dX5_carryOut_40 : decode cX5_carryOut 40 = .ok (.imul, 1) := by decide +kernel
theorem dX5_carryOut_41 : decode cX5_carryOut 41 = .ok (.invokevirtual 188, 3) := by decide +kernel
theorem dX5_carryOut_44 : decode cX5_carryOut 44 = .ok (.istore_n 3, 1) := by decide +kernel
theorem dX5_carryOut_45 : decode cX5_carryOut 45 = .ok (.iload_n 3, 1) := by decide +kernel
theorem dX5_carryOut_46 : decode cX5_carryOut 46 = .ok (.ifCond .ge 9, 3) := by decide +kernel
theorem dX5_carryOut_49 : decode cX5_carryOut 49 = .ok (.iload_n 3, 1) := by decide +kernel
theorem dX5_carryOut_50 : decode cX5_carryOut 50 = .ok (.bipush (-6), 2) := by decide +kernel
theorem dX5_carryOut_52 : decode cX5_carryOut 52 = .ok (.if_icmp .ne 7, 3) := by decide +kernel
theorem dX5_carryOut_55 : decode cX5_carryOut 55 = .ok (.iconst 1, 1) := by decide +kernel
theorem dX5_carryOut_56 : decode cX5_carryOut 56 = .ok (.goto 4, 3) := by decide +kernel
theorem dX5_carryOut_59 : decode cX5_carryOut 59 = .ok (.iconst 0, 1) := by decide +kernel
theorem dX5_carryOut_60 : decode cX5_carryOut 60 = .ok (.istore_n 2, 1) := by decide +kernel
theorem dX5_carryOut_61 : decode cX5_carryOut 61 = .ok (.iload_n 1, 1) := by decide +kernel
theorem dX5_carryOut_62 : decode cX5_carryOut 62 = .ok (.iload_n 2, 1) := by decide +kernel
theorem dX5_carryOut_63 : decode cX5_carryOut 63 = .ok (.ifCond .eq 7, 3) := by decide +kernel
theorem dX5_carryOut_66 : decode cX5_carryOut 66 = .ok (.iconst 1, 1) := by decide +kernel
theorem dX5_carryOut_67 : decode cX5_carryOut 67 = .ok (.goto 4, 3) := by decide +kernel
theorem dX5_carryOut_70 : decode cX5_carryOut 70 = .ok (.iconst 0, 1) := by decide +kernel
theorem dX5_carryOut_71 : decode cX5_carryOut 71 = .ok (.iadd, 1) := by decide +kernel
theorem dX5_carryOut_72 : decode cX5_carryOut 72 = .ok (.istore_n 1, 1) := by decide +kernel
theorem dX5_carryOut_73 : decode cX5_carryOut 73 = .ok (.goto (-48), 3) := by decide +kernel
theorem dX5_carryOut_76 : decode cX5_carryOut 76 = .ok (.aload_n 0, 1) := by decide +kernel
theorem dX5_carryOut_77 : decode cX5_carryOut 77 = .ok (.iconst 0, 1) := by decide +kernel
theorem dX5_carryOut_78 : decode cX5_carryOut 78 = .ok (.putfield 35, 3) := by decide +kernel
theorem dX5_carryOut_81 : decode cX5_carryOut 81 = .ok (.aload_n 0, 1) := by decide +kernel
theorem dX5_carryOut_82 : decode cX5_carryOut 82 = .ok (.iconst 0, 1) := by decide +kernel
theorem dX5_carryOut_83 : decode cX5_carryOut 83 = .ok (.putfield 133, 3) := by decide +kernel
theorem dX5_carryOut_86 : decode cX5_carryOut 86 = .ok (.iload_n 1, 1) := by decide +kernel
theorem dX5_carryOut_87 : decode cX5_carryOut 87 = .ok (.ireturn, 1) := by decide +kernel
theorem dX5_undo_0 : decode cX5_undo 0 = .ok (.aload_n 0, 1) := by decide +kernel
theorem dX5_undo_1 : decode cX5_undo 1 = .ok (.getfield 39, 3) := by decide +kernel
theorem dX5_undo_4 : decode cX5_undo 4 = .ok (.ifCond .ne 6, 3) := by decide +kernel
theorem dX5_undo_7 : decode cX5_undo 7 = .ok (.bipush (-5), 2) := by decide +kernel
theorem dX5_undo_9 : decode cX5_undo 9 = .ok (.ireturn, 1) := by decide +kernel
theorem dX5_undo_10 : decode cX5_undo 10 = .ok (.aload_n 0, 1) := by decide +kernel
theorem dX5_undo_11 : decode cX5_undo 11 = .ok (.dup, 1) := by decide +kernel
theorem dX5_undo_12 : decode cX5_undo 12 = .ok (.getfield 39, 3) := by decide +kernel
theorem dX5_undo_15 : decode cX5_undo 15 = .ok (.iconst 1, 1) := by decide +kernel
theorem dX5_undo_16 : decode cX5_undo 16 = .ok (.isub, 1) := by decide +kernel
theorem dX5_undo_17 : decode cX5_undo 17 = .ok (.putfield 39, 3) := by decide +kernel
theorem dX5_undo_20 : decode cX5_undo 20 = .ok (.iconst 0, 1) := by decide +kernel
theorem dX5_undo_21 : decode cX5_undo 21 = .ok (.istore_n 1, 1) := by decide +kernel
theorem dX5_undo_22 : decode cX5_undo 22 = .ok (.iload_n 1, 1) := by decide +kernel
theorem dX5_undo_23 : decode cX5_undo 23 = .ok (.sipush 150, 3) := by decide +kernel
theorem dX5_undo_26 : decode cX5_undo 26 = .ok (.if_icmp .ge 30, 3) := by decide +kernel
theorem dX5_undo_29 : decode cX5_undo 29 = .ok (.aload_n 0, 1) := by decide +kernel
theorem dX5_undo_30 : decode cX5_undo 30 = .ok (.getfield 7, 3) := by decide +kernel
theorem dX5_undo_33 : decode cX5_undo 33 = .ok (.iload_n 1, 1) := by decide +kernel
theorem dX5_undo_34 : decode cX5_undo 34 = .ok (.aload_n 0, 1) := by decide +kernel
theorem dX5_undo_35 : decode cX5_undo 35 = .ok (.getfield 16, 3) := by decide +kernel
theorem dX5_undo_38 : decode cX5_undo 38 = .ok (.aload_n 0, 1) := by decide +kernel
theorem dX5_undo_39 : decode cX5_undo 39 = .ok (.getfield 39, 3) := by decide +kernel
theorem dX5_undo_42 : decode cX5_undo 42 = .ok (.sipush 150, 3) := by decide +kernel
theorem dX5_undo_45 : decode cX5_undo 45 = .ok (.imul, 1) := by decide +kernel
theorem dX5_undo_46 : decode cX5_undo 46 = .ok (.iload_n 1, 1) := by decide +kernel
theorem dX5_undo_47 : decode cX5_undo 47 = .ok (.iadd, 1) := by decide +kernel
theorem dX5_undo_48 : decode cX5_undo 48 = .ok (.iaload, 1) := by decide +kernel
theorem dX5_undo_49 : decode cX5_undo 49 = .ok (.iastore, 1) := by decide +kernel
theorem dX5_undo_50 : decode cX5_undo 50 = .ok (.iinc 1 1, 3) := by decide +kernel
theorem dX5_undo_53 : decode cX5_undo 53 = .ok (.goto (-31), 3) := by decide +kernel
theorem dX5_undo_56 : decode cX5_undo 56 = .ok (.aload_n 0, 1) := by decide +kernel
theorem dX5_undo_57 : decode cX5_undo 57 = .ok (.getfield 39, 3) := by decide +kernel
theorem dX5_undo_60 : decode cX5_undo 60 = .ok (.ireturn, 1) := by decide +kernel
theorem dX5_save_0 : decode cX5_save 0 = .ok (.iload_n 1, 1) := by decide +kernel
theorem dX5_save_1 : decode cX5_save 1 = .ok (.iconst 0, 1) := by decide +kernel
theorem dX5_save_2 : decode cX5_save 2 = .ok (.iconst 1, 1) := by decide +kernel
theorem dX5_save_3 : decode cX5_save 3 = .ok (.invokestatic 43, 3) := by decide +kernel
theorem dX5_save_6 : decode cX5_save 6 = .ok (.ifCond .ne 6, 3) := by decide +kernel
theorem dX5_save_9 : decode cX5_save 9 = .ok (.bipush (-2), 2) := by decide +kernel
theorem dX5_save_11 : decode cX5_save 11 = .ok (.ireturn, 1) := by decide +kernel
theorem dX5_save_12 : decode cX5_save 12 = .ok (.iconst 0, 1) := by decide +kernel
theorem dX5_save_13 : decode cX5_save 13 = .ok (.istore_n 2, 1) := by decide +kernel
theorem dX5_save_14 : decode cX5_save 14 = .ok (.iload_n 2, 1) := by decide +kernel
theorem dX5_save_15 : decode cX5_save 15 = .ok (.sipush 150, 3) := by decide +kernel
theorem dX5_save_18 : decode cX5_save 18 = .ok (.if_icmp .ge 27, 3) := by decide +kernel
theorem dX5_save_21 : decode cX5_save 21 = .ok (.aload_n 0, 1) := by decide +kernel
theorem dX5_save_22 : decode cX5_save 22 = .ok (.getfield 19, 3) := by decide +kernel
theorem dX5_save_25 : decode cX5_save 25 = .ok (.iload_n 1, 1) := by decide +kernel
theorem dX5_save_26 : decode cX5_save 26 = .ok (.sipush 150, 3) := by decide +kernel
theorem dX5_save_29 : decode cX5_save 29 = .ok (.imul, 1) := by decide +kernel
theorem dX5_save_30 : decode cX5_save 30 = .ok (.iload_n 2, 1) := by decide +kernel
theorem dX5_save_31 : decode cX5_save 31 = .ok (.iadd, 1) := by decide +kernel
theorem dX5_save_32 : decode cX5_save 32 = .ok (.aload_n 0, 1) := by decide +kernel
theorem dX5_save_33 : decode cX5_save 33 = .ok (.getfield 7, 3) := by decide +kernel
theorem dX5_save_36 : decode cX5_save 36 = .ok (.iload_n 2, 1) := by decide +kernel
theorem dX5_save_37 : decode cX5_save 37 = .ok (.iaload, 1) := by decide +kernel
theorem dX5_save_38 : decode cX5_save 38 = .ok (.iastore, 1) := by decide +kernel
theorem dX5_save_39 : decode cX5_save 39 = .ok (.iinc 2 1, 3) := by decide +kernel
theorem dX5_save_42 : decode cX5_save 42 = .ok (.goto (-28), 3) := by decide +kernel
theorem dX5_save_45 : decode cX5_save 45 = .ok (.aload_n 0, 1) := by decide +kernel
theorem dX5_save_46 : decode cX5_save 46 = .ok (.getfield 22, 3) := by decide +kernel
theorem dX5_save_49 : decode cX5_save 49 = .ok (.iload_n 1, 1) := by decide +kernel
theorem dX5_save_50 : decode cX5_save 50 = .ok (.iconst 1, 1) := by decide +kernel
theorem dX5_save_51 : decode cX5_save 51 = .ok (.bastore, 1) := by decide +kernel
theorem dX5_save_52 : decode cX5_save 52 = .ok (.aload_n 0, 1) := by decide +kernel
theorem dX5_save_53 : decode cX5_save 53 = .ok (.getfield 7, 3) := by decide +kernel
theorem dX5_save_56 : decode cX5_save 56 = .ok (.iconst 2, 1) := by decide +kernel
theorem dX5_save_57 : decode cX5_save 57 = .ok (.iaload, 1) := by decide +kernel
theorem dX5_save_58 : decode cX5_save 58 = .ok (.ireturn, 1) := by decide +kernel
theorem dX5_restore_0 : decode cX5_restore 0 = .ok (.iload_n 1, 1) := by decide +kernel
theorem dX5_restore_1 : decode cX5_restore 1 = .ok (.iconst 0, 1) := by decide +kernel
theorem dX5_restore_2 : decode cX5_restore 2 = .ok (.iconst 1, 1) := by decide +kernel
theorem dX5_restore_3 : decode cX5_restore 3 = .ok (.invokestatic 43, 3) := by decide +kernel
theorem dX5_restore_6 : decode cX5_restore 6 = .ok (.ifCond .ne 6, 3) := by decide +kernel
theorem dX5_restore_9 : decode cX5_restore 9 = .ok (.bipush (-2), 2) := by decide +kernel
theorem dX5_restore_11 : decode cX5_restore 11 = .ok (.ireturn, 1) := by decide +kernel
theorem dX5_restore_12 : decode cX5_restore 12 = .ok (.aload_n 0, 1) := by decide +kernel
theorem dX5_restore_13 : decode cX5_restore 13 = .ok (.getfield 22, 3) := by decide +kernel
theorem dX5_restore_16 : decode cX5_restore 16 = .ok (.iload_n 1, 1) := by decide +kernel
theorem dX5_restore_17 : decode cX5_restore 17 = .ok (.baload, 1) := by decide +kernel
theorem dX5_restore_18 : decode cX5_restore 18 = .ok (.ifCond .ne 6, 3) := by decide +kernel
theorem dX5_restore_21 : decode cX5_restore 21 = .ok (.bipush (-5), 2) := by decide +kernel
theorem dX5_restore_23 : decode cX5_restore 23 = .ok (.ireturn, 1) := by decide +kernel
theorem dX5_restore_24 : decode cX5_restore 24 = .ok (.aload_n 0, 1) := by decide +kernel
theorem dX5_restore_25 : decode cX5_restore 25 = .ok (.invokevirtual 84, 3) := by decide +kernel
theorem dX5_restore_28 : decode cX5_restore 28 = .ok (.iconst 0, 1) := by decide +kernel
theorem dX5_restore_29 : decode cX5_restore 29 = .ok (.istore_n 2, 1) := by decide +kernel
theorem dX5_restore_30 : decode cX5_restore 30 = .ok (.iload_n 2, 1) := by decide +kernel
theorem dX5_restore_31 : decode cX5_restore 31 = .ok (.sipush 150, 3) := by decide +kernel
theorem dX5_restore_34 : decode cX5_restore 34 = .ok (.if_icmp .ge 27, 3) := by decide +kernel
theorem dX5_restore_37 : decode cX5_restore 37 = .ok (.aload_n 0, 1) := by decide +kernel
theorem dX5_restore_38 : decode cX5_restore 38 = .ok (.getfield 7, 3) := by decide +kernel
theorem dX5_restore_41 : decode cX5_restore 41 = .ok (.iload_n 2, 1) := by decide +kernel
theorem dX5_restore_42 : decode cX5_restore 42 = .ok (.aload_n 0, 1) := by decide +kernel
theorem dX5_restore_43 : decode cX5_restore 43 = .ok (.getfield 19, 3) := by decide +kernel
theorem dX5_restore_46 : decode cX5_restore 46 = .ok (.iload_n 1, 1) := by decide +kernel
theorem dX5_restore_47 : decode cX5_restore 47 = .ok (.sipush 150, 3) := by decide +kernel
theorem dX5_restore_50 : decode cX5_restore 50 = .ok (.imul, 1) := by decide +kernel
theorem dX5_restore_51 : decode cX5_restore 51 = .ok (.iload_n 2, 1) := by decide +kernel
theorem dX5_restore_52 : decode cX5_restore 52 = .ok (.iadd, 1) := by decide +kernel
theorem dX5_restore_53 : decode cX5_restore 53 = .ok (.iaload, 1) := by decide +kernel
theorem dX5_restore_54 : decode cX5_restore 54 = .ok (.iastore, 1) := by decide +kernel
theorem dX5_restore_55 : decode cX5_restore 55 = .ok (.iinc 2 1, 3) := by decide +kernel
theorem dX5_restore_58 : decode cX5_restore 58 = .ok (.goto (-28), 3) := by decide +kernel
theorem dX5_restore_61 : decode cX5_restore 61 = .ok (.aload_n 0, 1) := by decide +kernel
theorem dX5_restore_62 : decode cX5_restore 62 = .ok (.getfield 7, 3) := by decide +kernel
theorem dX5_restore_65 : decode cX5_restore 65 = .ok (.iconst 2, 1) := by decide +kernel
theorem dX5_restore_66 : decode cX5_restore 66 = .ok (.iaload, 1) := by decide +kernel
theorem dX5_restore_67 : decode cX5_restore 67 = .ok (.ireturn, 1) := by decide +kernel
end
section
/-! THE WORDS: one list for every method: the good words of the tables -/
def WW : List Cond := lw_tbl.filter goodWord
theorem mm_in {w : Cond} (i : Nat) (h : lw_tbl[i]? = some w) (g : goodWord w = true) : w ∈ WW := List.mem_filter.mpr ⟨List.mem_of_getElem? h, g⟩
theorem mm_WW : ∀ w ∈ WW, w ∈ lw_tbl := fun _ h => (List.mem_filter.mp h).1
theorem mm_WWg : ∀ w ∈ WW, goodWord w = true := fun _ h => (List.mem_filter.mp h).2
theorem mm_good {ws : List Cond} (h : ∀ w ∈ ws, w ∈ WW) : GoodIn WW ws := fun w hw => ⟨h w hw, good_of_word (mm_WWg w (h w hw))⟩
theorem mm_goodT {ws : List Cond} (h : ∀ w ∈ ws, w ∈ WW) : GoodIn lw_tbl ws := fun w hw => ⟨mm_WW w (h w hw), good_of_word (mm_WWg w (h w hw))⟩
theorem mw_S_X4_fallenWith : Cond.selects RX4 yX4_fallenWith yX4_fallenWith ∈ WW := mm_in 0 (by decide +kernel) rfl
theorem mw_S_X4_ordersCarriedOut : Cond.selects RX4 yX4_ordersCarriedOut yX4_ordersCarriedOut ∈ WW := mm_in 1 (by decide +kernel) rfl
theorem mw_S_X4_answerTo : Cond.selects RX4 yX4_answerTo yX4_answerTo ∈ WW := mm_in 2 (by decide +kernel) rfl
theorem mw_S_X5_record : Cond.selects RX5 yX5_record yX5_record ∈ WW := mm_in 3 (by decide +kernel) rfl
theorem mw_S_X5_wireAt : Cond.selects RX5 yX5_wireAt yX5_wireAt ∈ WW := mm_in 4 (by decide +kernel) rfl
theorem mw_S_X5_of : Cond.selects RX5 yX5_of yX5_of ∈ WW := mm_in 5 (by decide +kernel) rfl
theorem mw_S_X5_book : Cond.selects RX5 yX5_book yX5_book ∈ WW := mm_in 6 (by decide +kernel) rfl
theorem mw_S_X5_settle : Cond.selects RX5 yX5_settle yX5_settle ∈ WW := mm_in 7 (by decide +kernel) rfl
theorem mw_S_X5_burst : Cond.selects RX5 yX5_burst yX5_burst ∈ WW := mm_in 8 (by decide +kernel) rfl
theorem mw_S_X5_wholeBy : Cond.selects RX5 yX5_wholeBy yX5_wholeBy ∈ WW := mm_in 9 (by decide +kernel) rfl
theorem mw_S_X5_layTasks : Cond.selects RX5 yX5_layTasks yX5_layTasks ∈ WW := mm_in 10 (by decide +kernel) rfl
theorem mw_S_X5_nearest : Cond.selects RX5 yX5_nearest yX5_nearest ∈ WW := mm_in 11 (by decide +kernel) rfl
theorem mw_S_X5_isWhole : Cond.selects RX5 yX5_isWhole yX5_isWhole ∈ WW := mm_in 12 (by decide +kernel) rfl
theorem mw_S_X5_breakWire : Cond.selects RX5 yX5_breakWire yX5_breakWire ∈ WW := mm_in 13 (by decide +kernel) rfl
theorem mw_S_X5_pass : Cond.selects RX5 yX5_pass yX5_pass ∈ WW := mm_in 14 (by decide +kernel) rfl
theorem mw_S_X5_loosened : Cond.selects RX5 yX5_loosened yX5_loosened ∈ WW := mm_in 15 (by decide +kernel) rfl
theorem mw_S_X5_know : Cond.selects RX5 yX5_know yX5_know ∈ WW := mm_in 16 (by decide +kernel) rfl
theorem mw_S_X5_pitch : Cond.selects RX5 yX5_pitch yX5_pitch ∈ WW := mm_in 17 (by decide +kernel) rfl
theorem mw_S_X5_weight : Cond.selects RX5 yX5_weight yX5_weight ∈ WW := mm_in 18 (by decide +kernel) rfl
theorem mw_S_X5_leastFor : Cond.selects RX5 yX5_leastFor yX5_leastFor ∈ WW := mm_in 19 (by decide +kernel) rfl
theorem mw_S_X5_isWire : Cond.selects RX5 yX5_isWire yX5_isWire ∈ WW := mm_in 20 (by decide +kernel) rfl
theorem mw_S_X5_isSlack : Cond.selects RX5 yX5_isSlack yX5_isSlack ∈ WW := mm_in 21 (by decide +kernel) rfl
theorem mw_S_X5_isTight : Cond.selects RX5 yX5_isTight yX5_isTight ∈ WW := mm_in 22 (by decide +kernel) rfl
theorem mw_S_X5_isSurely : Cond.selects RX5 yX5_isSurely yX5_isSurely ∈ WW := mm_in 23 (by decide +kernel) rfl
theorem mw_S_X5_mayBe : Cond.selects RX5 yX5_mayBe yX5_mayBe ∈ WW := mm_in 24 (by decide +kernel) rfl
theorem mw_S_X5_wiresWith : Cond.selects RX5 yX5_wiresWith yX5_wiresWith ∈ WW := mm_in 25 (by decide +kernel) rfl
theorem mw_S_X5_loads : Cond.selects RX5 yX5_loads yX5_loads ∈ WW := mm_in 26 (by decide +kernel) rfl
theorem mw_S_X5_fallen : Cond.selects RX5 yX5_fallen yX5_fallen ∈ WW := mm_in 27 (by decide +kernel) rfl
theorem mw_S_X5_keep : Cond.selects RX5 yX5_keep yX5_keep ∈ WW := mm_in 28 (by decide +kernel) rfl
theorem mw_S_X5_comeBack : Cond.selects RX5 yX5_comeBack yX5_comeBack ∈ WW := mm_in 29 (by decide +kernel) rfl
theorem mw_S_X5_faultOf : Cond.selects RX5 yX5_faultOf yX5_faultOf ∈ WW := mm_in 30 (by decide +kernel) rfl
theorem mw_S_X5_readOne : Cond.selects RX5 yX5_readOne yX5_readOne ∈ WW := mm_in 31 (by decide +kernel) rfl
theorem mw_S_X5_sign : Cond.selects RX5 yX5_sign yX5_sign ∈ WW := mm_in 32 (by decide +kernel) rfl
theorem mw_S_X5_number : Cond.selects RX5 yX5_number yX5_number ∈ WW := mm_in 33 (by decide +kernel) rfl
theorem mw_S_X5_carry : Cond.selects RX5 yX5_carry yX5_carry ∈ WW := mm_in 34 (by decide +kernel) rfl
theorem mw_N_L : Cond.initialized RL ∈ WW := mm_in 35 (by decide +kernel) rfl
theorem mw_N_X4 : Cond.initialized RX4 ∈ WW := mm_in 36 (by decide +kernel) rfl
theorem mw_N_X0 : Cond.initialized RX0 ∈ WW := mm_in 37 (by decide +kernel) rfl
theorem mw_N_X3 : Cond.initialized RX3 ∈ WW := mm_in 38 (by decide +kernel) rfl
theorem mw_N_X1 : Cond.initialized RX1 ∈ WW := mm_in 39 (by decide +kernel) rfl
theorem mw_N_X2 : Cond.initialized RX2 ∈ WW := mm_in 40 (by decide +kernel) rfl
theorem mw_N_X5 : Cond.initialized RX5 ∈ WW := mm_in 41 (by decide +kernel) rfl
theorem mw_N_J10 : Cond.initialized RJ10 ∈ WW := mm_in 42 (by decide +kernel) rfl
theorem mw_N_J6 : Cond.initialized RJ6 ∈ WW := mm_in 43 (by decide +kernel) rfl
theorem mw_N_J9 : Cond.initialized RJ9 ∈ WW := mm_in 44 (by decide +kernel) rfl
theorem mw_G_L_7 : Cond.classLink RL 7 RX4 ∈ WW := mm_in 45 (by decide +kernel) rfl
theorem mw_O_X4 : Cond.instantiable RX4 6 ∈ WW := mm_in 46 (by decide +kernel) rfl
theorem mw_M_L_9 : Cond.methodLink RL 9 yX4_init ∈ WW := mm_in 47 (by decide +kernel) rfl
theorem mw_I_X4_init : Cond.instanceMethod yX4_init ∈ WW := mm_in 48 (by decide +kernel) rfl
theorem mw_C_X4_init : Cond.code yX4_init cX4_init 2 none ∈ WW := mm_in 49 (by decide +kernel) rfl
theorem mw_M_X4_1 : Cond.methodLink RX4 1 objectInit ∈ WW := mm_in 50 (by decide +kernel) rfl
theorem mw_I_object : Cond.instanceMethod objectInit ∈ WW := mm_in 51 (by decide +kernel) rfl
theorem mw_G_X4_7 : Cond.classLink RX4 7 RX0 ∈ WW := mm_in 53 (by decide +kernel) rfl
theorem mw_O_X0 : Cond.instantiable RX0 9 ∈ WW := mm_in 54 (by decide +kernel) rfl
theorem mw_M_X4_9 : Cond.methodLink RX4 9 yX0_init ∈ WW := mm_in 55 (by decide +kernel) rfl
theorem mw_I_X0_init : Cond.instanceMethod yX0_init ∈ WW := mm_in 56 (by decide +kernel) rfl
theorem mw_C_X0_init : Cond.code yX0_init cX0_init 2 none ∈ WW := mm_in 57 (by decide +kernel) rfl
theorem mw_M_X0_3 : Cond.methodLink RX0 3 objectInit ∈ WW := mm_in 58 (by decide +kernel) rfl
theorem mw_G_X0_18 : Cond.classLink RX0 18 RX3 ∈ WW := mm_in 59 (by decide +kernel) rfl
theorem mw_O_X3 : Cond.instantiable RX3 12 ∈ WW := mm_in 61 (by decide +kernel) rfl
theorem mw_I_X3_init : Cond.instanceMethod yX3_init ∈ WW := mm_in 63 (by decide +kernel) rfl
theorem mw_C_X3_init : Cond.code yX3_init cX3_init 1 none ∈ WW := mm_in 64 (by decide +kernel) rfl
theorem mw_M_X3_3 : Cond.methodLink RX3 3 objectInit ∈ WW := mm_in 65 (by decide +kernel) rfl
theorem mw_F_X3_9 : Cond.fieldLink RX3 9 "SingingWires$Wire" "place" "I" ∈ WW := mm_in 66 (by decide +kernel) rfl
theorem mw_F_X4_77 : Cond.fieldLink RX4 77 "SingingWires$Wire" "place" "I" ∈ WW := mm_in 67 (by decide +kernel) rfl
theorem mw_F_X0_128 : Cond.fieldLink RX0 128 "SingingWires$Wire" "place" "I" ∈ WW := mm_in 68 (by decide +kernel) rfl
theorem mw_F_X3_15 : Cond.fieldLink RX3 15 "SingingWires$Wire" "length" "I" ∈ WW := mm_in 69 (by decide +kernel) rfl
theorem mw_F_X4_83 : Cond.fieldLink RX4 83 "SingingWires$Wire" "length" "I" ∈ WW := mm_in 70 (by decide +kernel) rfl
theorem mw_F_X3_18 : Cond.fieldLink RX3 18 "SingingWires$Wire" "mass" "I" ∈ WW := mm_in 71 (by decide +kernel) rfl
theorem mw_F_X4_86 : Cond.fieldLink RX4 86 "SingingWires$Wire" "mass" "I" ∈ WW := mm_in 72 (by decide +kernel) rfl
theorem mw_F_X3_21 : Cond.fieldLink RX3 21 "SingingWires$Wire" "strength" "I" ∈ WW := mm_in 73 (by decide +kernel) rfl
theorem mw_F_X4_89 : Cond.fieldLink RX4 89 "SingingWires$Wire" "strength" "I" ∈ WW := mm_in 74 (by decide +kernel) rfl
theorem mw_F_X0_106 : Cond.fieldLink RX0 106 "SingingWires$Wire" "strength" "I" ∈ WW := mm_in 75 (by decide +kernel) rfl
theorem mw_F_X3_24 : Cond.fieldLink RX3 24 "SingingWires$Wire" "tension" "I" ∈ WW := mm_in 76 (by decide +kernel) rfl
theorem mw_F_X4_92 : Cond.fieldLink RX4 92 "SingingWires$Wire" "tension" "I" ∈ WW := mm_in 77 (by decide +kernel) rfl
theorem mw_F_X0_109 : Cond.fieldLink RX0 109 "SingingWires$Wire" "tension" "I" ∈ WW := mm_in 78 (by decide +kernel) rfl
theorem mw_F_X3_27 : Cond.fieldLink RX3 27 "SingingWires$Wire" "task" "I" ∈ WW := mm_in 79 (by decide +kernel) rfl
theorem mw_F_X4_106 : Cond.fieldLink RX4 106 "SingingWires$Wire" "task" "I" ∈ WW := mm_in 80 (by decide +kernel) rfl
theorem mw_F_X0_122 : Cond.fieldLink RX0 122 "SingingWires$Wire" "task" "I" ∈ WW := mm_in 81 (by decide +kernel) rfl
theorem mw_F_X3_30 : Cond.fieldLink RX3 30 "SingingWires$Wire" "broken" "Z" ∈ WW := mm_in 82 (by decide +kernel) rfl
theorem mw_F_X0_61 : Cond.fieldLink RX0 61 "SingingWires$Wire" "broken" "Z" ∈ WW := mm_in 83 (by decide +kernel) rfl
theorem mw_F_X4_95 : Cond.fieldLink RX4 95 "SingingWires$Wire" "broken" "Z" ∈ WW := mm_in 84 (by decide +kernel) rfl
theorem mw_F_X3_34 : Cond.fieldLink RX3 34 "SingingWires$Wire" "brokeOn" "I" ∈ WW := mm_in 85 (by decide +kernel) rfl
theorem mw_F_X4_120 : Cond.fieldLink RX4 120 "SingingWires$Wire" "brokeOn" "I" ∈ WW := mm_in 86 (by decide +kernel) rfl
theorem mw_F_X3_37 : Cond.fieldLink RX3 37 "SingingWires$Wire" "heardOn" "I" ∈ WW := mm_in 87 (by decide +kernel) rfl
theorem mw_F_X4_126 : Cond.fieldLink RX4 126 "SingingWires$Wire" "heardOn" "I" ∈ WW := mm_in 88 (by decide +kernel) rfl
theorem mw_F_X3_40 : Cond.fieldLink RX3 40 "SingingWires$Wire" "low" "I" ∈ WW := mm_in 89 (by decide +kernel) rfl
theorem mw_F_X4_132 : Cond.fieldLink RX4 132 "SingingWires$Wire" "low" "I" ∈ WW := mm_in 90 (by decide +kernel) rfl
theorem mw_F_X3_43 : Cond.fieldLink RX3 43 "SingingWires$Wire" "high" "I" ∈ WW := mm_in 91 (by decide +kernel) rfl
theorem mw_F_X4_135 : Cond.fieldLink RX4 135 "SingingWires$Wire" "high" "I" ∈ WW := mm_in 92 (by decide +kernel) rfl
theorem mw_F_X3_46 : Cond.fieldLink RX3 46 "SingingWires$Wire" "heardBroken" "Z" ∈ WW := mm_in 93 (by decide +kernel) rfl
theorem mw_F_X0_57 : Cond.fieldLink RX0 57 "SingingWires$Wire" "heardBroken" "Z" ∈ WW := mm_in 94 (by decide +kernel) rfl
theorem mw_F_X4_138 : Cond.fieldLink RX4 138 "SingingWires$Wire" "heardBroken" "Z" ∈ WW := mm_in 95 (by decide +kernel) rfl
theorem mw_A_int : Cond.arrayClass .int ∈ WW := mm_in 121 (by decide +kernel) rfl
theorem mw_F_X0_9 : Cond.fieldLink RX0 9 "SingingWires$Bridge" "loads" "[I" ∈ WW := mm_in 122 (by decide +kernel) rfl
theorem mw_F_X0_15 : Cond.fieldLink RX0 15 "SingingWires$Bridge" "wireAt" "[I" ∈ WW := mm_in 123 (by decide +kernel) rfl
theorem mw_F_X0_20 : Cond.fieldLink RX0 20 "SingingWires$Bridge" "wires" "[LSingingWires$Wire;" ∈ WW := mm_in 124 (by decide +kernel) rfl
theorem mw_F_X0_38 : Cond.fieldLink RX0 38 "SingingWires$Bridge" "wireCount" "I" ∈ WW := mm_in 125 (by decide +kernel) rfl
theorem mw_F_X4_150 : Cond.fieldLink RX4 150 "SingingWires$Bridge" "wireCount" "I" ∈ WW := mm_in 126 (by decide +kernel) rfl
theorem mw_F_X0_25 : Cond.fieldLink RX0 25 "SingingWires$Bridge" "creep" "I" ∈ WW := mm_in 127 (by decide +kernel) rfl
theorem mw_F_X4_173 : Cond.fieldLink RX4 173 "SingingWires$Bridge" "creep" "I" ∈ WW := mm_in 128 (by decide +kernel) rfl
theorem mw_F_X0_29 : Cond.fieldLink RX0 29 "SingingWires$Bridge" "spare" "I" ∈ WW := mm_in 129 (by decide +kernel) rfl
theorem mw_F_X4_113 : Cond.fieldLink RX4 113 "SingingWires$Bridge" "spare" "I" ∈ WW := mm_in 130 (by decide +kernel) rfl
theorem mw_F_X0_45 : Cond.fieldLink RX0 45 "SingingWires$Bridge" "day" "I" ∈ WW := mm_in 131 (by decide +kernel) rfl
theorem mw_F_X4_147 : Cond.fieldLink RX4 147 "SingingWires$Bridge" "day" "I" ∈ WW := mm_in 132 (by decide +kernel) rfl
theorem mw_F_X0_48 : Cond.fieldLink RX0 48 "SingingWires$Bridge" "place" "I" ∈ WW := mm_in 133 (by decide +kernel) rfl
theorem mw_F_X4_156 : Cond.fieldLink RX4 156 "SingingWires$Bridge" "place" "I" ∈ WW := mm_in 134 (by decide +kernel) rfl
theorem mw_F_X0_51 : Cond.fieldLink RX0 51 "SingingWires$Bridge" "walked" "I" ∈ WW := mm_in 135 (by decide +kernel) rfl
theorem mw_F_X4_157 : Cond.fieldLink RX4 157 "SingingWires$Bridge" "walked" "I" ∈ WW := mm_in 136 (by decide +kernel) rfl
theorem mw_G_X4_19 : Cond.classLink RX4 19 RX1 ∈ WW := mm_in 156 (by decide +kernel) rfl
theorem mw_O_X1 : Cond.instantiable RX1 2 ∈ WW := mm_in 157 (by decide +kernel) rfl
theorem mw_M_X4_21 : Cond.methodLink RX4 21 yX1_init ∈ WW := mm_in 158 (by decide +kernel) rfl
theorem mw_I_X1_init : Cond.instanceMethod yX1_init ∈ WW := mm_in 159 (by decide +kernel) rfl
theorem mw_C_X1_init : Cond.code yX1_init cX1_init 2 none ∈ WW := mm_in 160 (by decide +kernel) rfl
theorem mw_M_X1_3 : Cond.methodLink RX1 3 objectInit ∈ WW := mm_in 161 (by decide +kernel) rfl
theorem mw_G_X1_9 : Cond.classLink RX1 9 RX0 ∈ WW := mm_in 162 (by decide +kernel) rfl
theorem mw_M_X1_17 : Cond.methodLink RX1 17 yX0_init ∈ WW := mm_in 164 (by decide +kernel) rfl
theorem mw_F_X1_11 : Cond.fieldLink RX1 11 "SingingWires$History" "states" "[LSingingWires$Bridge;" ∈ WW := mm_in 165 (by decide +kernel) rfl
theorem mw_F_X1_18 : Cond.fieldLink RX1 18 "SingingWires$History" "kept" "I" ∈ WW := mm_in 166 (by decide +kernel) rfl
theorem mw_F_X4_170 : Cond.fieldLink RX4 170 "SingingWires$History" "kept" "I" ∈ WW := mm_in 167 (by decide +kernel) rfl
theorem mw_G_X4_34 : Cond.classLink RX4 34 RX2 ∈ WW := mm_in 173 (by decide +kernel) rfl
theorem mw_O_X2 : Cond.instantiable RX2 9 ∈ WW := mm_in 174 (by decide +kernel) rfl
theorem mw_M_X4_36 : Cond.methodLink RX4 36 yX2_init ∈ WW := mm_in 175 (by decide +kernel) rfl
theorem mw_I_X2_init : Cond.instanceMethod yX2_init ∈ WW := mm_in 176 (by decide +kernel) rfl
theorem mw_C_X2_init : Cond.code yX2_init cX2_init 1 none ∈ WW := mm_in 177 (by decide +kernel) rfl
theorem mw_M_X2_3 : Cond.methodLink RX2 3 objectInit ∈ WW := mm_in 178 (by decide +kernel) rfl
theorem mw_F_X2_9 : Cond.fieldLink RX2 9 "SingingWires$Pad" "signs" "[C" ∈ WW := mm_in 179 (by decide +kernel) rfl
theorem mw_F_X2_19 : Cond.fieldLink RX2 19 "SingingWires$Pad" "length" "I" ∈ WW := mm_in 180 (by decide +kernel) rfl
theorem mw_F_X4_169 : Cond.fieldLink RX4 169 "SingingWires$Pad" "length" "I" ∈ WW := mm_in 181 (by decide +kernel) rfl
theorem mw_F_X2_64 : Cond.fieldLink RX2 64 "SingingWires$Pad" "at" "I" ∈ WW := mm_in 182 (by decide +kernel) rfl
theorem mw_F_X2_67 : Cond.fieldLink RX2 67 "SingingWires$Pad" "letter" "C" ∈ WW := mm_in 183 (by decide +kernel) rfl
theorem mw_F_X4_242 : Cond.fieldLink RX4 242 "SingingWires$Pad" "letter" "C" ∈ WW := mm_in 184 (by decide +kernel) rfl
theorem mw_F_X2_75 : Cond.fieldLink RX2 75 "SingingWires$Pad" "first" "I" ∈ WW := mm_in 185 (by decide +kernel) rfl
theorem mw_F_X4_246 : Cond.fieldLink RX4 246 "SingingWires$Pad" "first" "I" ∈ WW := mm_in 186 (by decide +kernel) rfl
theorem mw_F_X2_78 : Cond.fieldLink RX2 78 "SingingWires$Pad" "second" "I" ∈ WW := mm_in 187 (by decide +kernel) rfl
theorem mw_F_X4_249 : Cond.fieldLink RX4 249 "SingingWires$Pad" "second" "I" ∈ WW := mm_in 188 (by decide +kernel) rfl
theorem mw_F_X2_31 : Cond.fieldLink RX2 31 "SingingWires$Pad" "due" "I" ∈ WW := mm_in 189 (by decide +kernel) rfl
theorem mw_F_X2_34 : Cond.fieldLink RX2 34 "SingingWires$Pad" "equalsDue" "Z" ∈ WW := mm_in 190 (by decide +kernel) rfl
theorem mw_F_X2_60 : Cond.fieldLink RX2 60 "SingingWires$Pad" "number" "I" ∈ WW := mm_in 191 (by decide +kernel) rfl
theorem mw_A_boolean : Cond.arrayClass .boolean ∈ WW := mm_in 211 (by decide +kernel) rfl
theorem mw_A_char : Cond.arrayClass .char ∈ WW := mm_in 212 (by decide +kernel) rfl
theorem mw_F_X4_10 : Cond.fieldLink RX4 10 "SingingWires" "bridge" "LSingingWires$Bridge;" ∈ WW := mm_in 213 (by decide +kernel) rfl
theorem mw_F_X4_16 : Cond.fieldLink RX4 16 "SingingWires" "trial" "LSingingWires$Bridge;" ∈ WW := mm_in 214 (by decide +kernel) rfl
theorem mw_F_X4_22 : Cond.fieldLink RX4 22 "SingingWires" "history" "LSingingWires$History;" ∈ WW := mm_in 215 (by decide +kernel) rfl
theorem mw_F_X4_26 : Cond.fieldLink RX4 26 "SingingWires" "slots" "[LSingingWires$Bridge;" ∈ WW := mm_in 216 (by decide +kernel) rfl
theorem mw_F_X4_30 : Cond.fieldLink RX4 30 "SingingWires" "saved" "[Z" ∈ WW := mm_in 217 (by decide +kernel) rfl
theorem mw_F_X4_37 : Cond.fieldLink RX4 37 "SingingWires" "pad" "LSingingWires$Pad;" ∈ WW := mm_in 218 (by decide +kernel) rfl
theorem mw_M_L_13 : Cond.methodLink RL 13 yX4_set ∈ WW := mm_in 232 (by decide +kernel) rfl
theorem mw_I_X4_set : Cond.instanceMethod yX4_set ∈ WW := mm_in 233 (by decide +kernel) rfl
theorem mw_S_X4_set : Cond.selects RX4 yX4_set yX4_set ∈ WW := mm_in 234 (by decide +kernel) rfl
theorem mw_C_X4_set : Cond.code yX4_set cX4_set 3 (some .int) ∈ WW := mm_in 235 (by decide +kernel) rfl
theorem mw_M_X4_41 : Cond.methodLink RX4 41 yX1_note ∈ WW := mm_in 236 (by decide +kernel) rfl
theorem mw_I_X1_note : Cond.instanceMethod yX1_note ∈ WW := mm_in 237 (by decide +kernel) rfl
theorem mw_S_X1_note : Cond.selects RX1 yX1_note yX1_note ∈ WW := mm_in 238 (by decide +kernel) rfl
theorem mw_C_X1_note : Cond.code yX1_note cX1_note 2 none ∈ WW := mm_in 239 (by decide +kernel) rfl
theorem mw_T_X4_within : Cond.static yX4_within ∈ WW := mm_in 241 (by decide +kernel) rfl
theorem mw_C_X4_within : Cond.code yX4_within cX4_within 3 (some .boolean) ∈ WW := mm_in 242 (by decide +kernel) rfl
theorem mw_M_X1_26 : Cond.methodLink RX1 26 yX0_takeFrom ∈ WW := mm_in 243 (by decide +kernel) rfl
theorem mw_I_X0_takeFrom : Cond.instanceMethod yX0_takeFrom ∈ WW := mm_in 244 (by decide +kernel) rfl
theorem mw_S_X0_takeFrom : Cond.selects RX0 yX0_takeFrom yX0_takeFrom ∈ WW := mm_in 245 (by decide +kernel) rfl
theorem mw_C_X0_takeFrom : Cond.code yX0_takeFrom cX0_takeFrom 3 none ∈ WW := mm_in 246 (by decide +kernel) rfl
theorem mw_M_X0_32 : Cond.methodLink RX0 32 arraycopyName ∈ WW := mm_in 247 (by decide +kernel) rfl
theorem mw_T_arraycopy : Cond.static arraycopyName ∈ WW := mm_in 248 (by decide +kernel) rfl
theorem mw_U_arraycopy : Cond.native arraycopyName ∈ WW := mm_in 249 (by decide +kernel) rfl
theorem mw_M_X0_41 : Cond.methodLink RX0 41 yX3_takeFrom ∈ WW := mm_in 250 (by decide +kernel) rfl
theorem mw_I_X3_takeFrom : Cond.instanceMethod yX3_takeFrom ∈ WW := mm_in 251 (by decide +kernel) rfl
theorem mw_S_X3_takeFrom : Cond.selects RX3 yX3_takeFrom yX3_takeFrom ∈ WW := mm_in 252 (by decide +kernel) rfl
theorem mw_C_X3_takeFrom : Cond.code yX3_takeFrom cX3_takeFrom 2 none ∈ WW := mm_in 253 (by decide +kernel) rfl
theorem mw_M_X4_45 : Cond.methodLink RX4 45 yX0_changeSetting ∈ WW := mm_in 254 (by decide +kernel) rfl
theorem mw_I_X0_changeSetting : Cond.instanceMethod yX0_changeSetting ∈ WW := mm_in 255 (by decide +kernel) rfl
theorem mw_S_X0_changeSetting : Cond.selects RX0 yX0_changeSetting yX0_changeSetting ∈ WW := mm_in 256 (by decide +kernel) rfl
theorem mw_C_X0_changeSetting : Cond.code yX0_changeSetting cX0_changeSetting 4 (some .int) ∈ WW := mm_in 257 (by decide +kernel) rfl
theorem mw_M_X4_49 : Cond.methodLink RX4 49 yX1_keepUnlessError ∈ WW := mm_in 259 (by decide +kernel) rfl
theorem mw_I_X1_keepUnlessError : Cond.instanceMethod yX1_keepUnlessError ∈ WW := mm_in 260 (by decide +kernel) rfl
theorem mw_S_X1_keepUnlessError : Cond.selects RX1 yX1_keepUnlessError yX1_keepUnlessError ∈ WW := mm_in 261 (by decide +kernel) rfl
theorem mw_C_X1_keepUnlessError : Cond.code yX1_keepUnlessError cX1_keepUnlessError 2 (some .int) ∈ WW := mm_in 262 (by decide +kernel) rfl
theorem mw_T_X4_isError : Cond.static yX4_isError ∈ WW := mm_in 264 (by decide +kernel) rfl
theorem mw_C_X4_isError : Cond.code yX4_isError cX4_isError 1 (some .boolean) ∈ WW := mm_in 265 (by decide +kernel) rfl
theorem mw_M_X1_34 : Cond.methodLink RX1 34 yX1_dropOldest ∈ WW := mm_in 266 (by decide +kernel) rfl
theorem mw_I_X1_dropOldest : Cond.instanceMethod yX1_dropOldest ∈ WW := mm_in 267 (by decide +kernel) rfl
theorem mw_S_X1_dropOldest : Cond.selects RX1 yX1_dropOldest yX1_dropOldest ∈ WW := mm_in 268 (by decide +kernel) rfl
theorem mw_C_X1_dropOldest : Cond.code yX1_dropOldest cX1_dropOldest 3 none ∈ WW := mm_in 269 (by decide +kernel) rfl
theorem mw_M_L_18 : Cond.methodLink RL 18 yX4_wire ∈ WW := mm_in 270 (by decide +kernel) rfl
theorem mw_I_X4_wire : Cond.instanceMethod yX4_wire ∈ WW := mm_in 271 (by decide +kernel) rfl
theorem mw_S_X4_wire : Cond.selects RX4 yX4_wire yX4_wire ∈ WW := mm_in 272 (by decide +kernel) rfl
theorem mw_C_X4_wire : Cond.code yX4_wire cX4_wire 6 (some .int) ∈ WW := mm_in 273 (by decide +kernel) rfl
theorem mw_M_X4_53 : Cond.methodLink RX4 53 yX0_hang ∈ WW := mm_in 274 (by decide +kernel) rfl
theorem mw_I_X0_hang : Cond.instanceMethod yX0_hang ∈ WW := mm_in 275 (by decide +kernel) rfl
theorem mw_S_X0_hang : Cond.selects RX0 yX0_hang yX0_hang ∈ WW := mm_in 276 (by decide +kernel) rfl
theorem mw_C_X0_hang : Cond.code yX0_hang cX0_hang 7 (some .int) ∈ WW := mm_in 277 (by decide +kernel) rfl
theorem mw_K_X0_71 : Cond.constant RX0 71 (50000) ∈ WW := mm_in 278 (by decide +kernel) rfl
theorem mw_M_X0_72 : Cond.methodLink RX0 72 yX3_makeNew ∈ WW := mm_in 279 (by decide +kernel) rfl
theorem mw_I_X3_makeNew : Cond.instanceMethod yX3_makeNew ∈ WW := mm_in 280 (by decide +kernel) rfl
theorem mw_S_X3_makeNew : Cond.selects RX3 yX3_makeNew yX3_makeNew ∈ WW := mm_in 281 (by decide +kernel) rfl
theorem mw_C_X3_makeNew : Cond.code yX3_makeNew cX3_makeNew 6 none ∈ WW := mm_in 282 (by decide +kernel) rfl
theorem mw_M_X0_64 : Cond.methodLink RX0 64 yX0_reckon ∈ WW := mm_in 283 (by decide +kernel) rfl
theorem mw_I_X0_reckon : Cond.instanceMethod yX0_reckon ∈ WW := mm_in 284 (by decide +kernel) rfl
theorem mw_S_X0_reckon : Cond.selects RX0 yX0_reckon yX0_reckon ∈ WW := mm_in 285 (by decide +kernel) rfl
theorem mw_C_X0_reckon : Cond.code yX0_reckon cX0_reckon 4 none ∈ WW := mm_in 286 (by decide +kernel) rfl
theorem mw_M_X0_125 : Cond.methodLink RX0 125 yX0_nextWhole ∈ WW := mm_in 287 (by decide +kernel) rfl
theorem mw_I_X0_nextWhole : Cond.instanceMethod yX0_nextWhole ∈ WW := mm_in 288 (by decide +kernel) rfl
theorem mw_S_X0_nextWhole : Cond.selects RX0 yX0_nextWhole yX0_nextWhole ∈ WW := mm_in 289 (by decide +kernel) rfl
theorem mw_C_X0_nextWhole : Cond.code yX0_nextWhole cX0_nextWhole 4 (some (.object "SingingWires$Wire")) ∈ WW := mm_in 290 (by decide +kernel) rfl
theorem mw_M_X0_129 : Cond.methodLink RX0 129 yX0_share ∈ WW := mm_in 291 (by decide +kernel) rfl
theorem mw_I_X0_share : Cond.instanceMethod yX0_share ∈ WW := mm_in 292 (by decide +kernel) rfl
theorem mw_S_X0_share : Cond.selects RX0 yX0_share yX0_share ∈ WW := mm_in 293 (by decide +kernel) rfl
theorem mw_C_X0_share : Cond.code yX0_share cX0_share 7 none ∈ WW := mm_in 294 (by decide +kernel) rfl
theorem mw_M_X0_76 : Cond.methodLink RX0 76 yX0_settle ∈ WW := mm_in 295 (by decide +kernel) rfl
theorem mw_I_X0_settle : Cond.instanceMethod yX0_settle ∈ WW := mm_in 296 (by decide +kernel) rfl
theorem mw_S_X0_settle : Cond.selects RX0 yX0_settle yX0_settle ∈ WW := mm_in 297 (by decide +kernel) rfl
theorem mw_C_X0_settle : Cond.code yX0_settle cX0_settle 4 (some .int) ∈ WW := mm_in 298 (by decide +kernel) rfl
theorem mw_M_X0_116 : Cond.methodLink RX0 116 yX0_worstBursting ∈ WW := mm_in 299 (by decide +kernel) rfl
theorem mw_I_X0_worstBursting : Cond.instanceMethod yX0_worstBursting ∈ WW := mm_in 300 (by decide +kernel) rfl
theorem mw_S_X0_worstBursting : Cond.selects RX0 yX0_worstBursting yX0_worstBursting ∈ WW := mm_in 301 (by decide +kernel) rfl
theorem mw_C_X0_worstBursting : Cond.code yX0_worstBursting cX0_worstBursting 5 (some .int) ∈ WW := mm_in 302 (by decide +kernel) rfl
theorem mw_M_X0_119 : Cond.methodLink RX0 119 yX3_snap ∈ WW := mm_in 303 (by decide +kernel) rfl
theorem mw_I_X3_snap : Cond.instanceMethod yX3_snap ∈ WW := mm_in 304 (by decide +kernel) rfl
theorem mw_S_X3_snap : Cond.selects RX3 yX3_snap yX3_snap ∈ WW := mm_in 305 (by decide +kernel) rfl
theorem mw_C_X3_snap : Cond.code yX3_snap cX3_snap 2 none ∈ WW := mm_in 306 (by decide +kernel) rfl
theorem mw_M_L_23 : Cond.methodLink RL 23 yX4_load ∈ WW := mm_in 307 (by decide +kernel) rfl
theorem mw_I_X4_load : Cond.instanceMethod yX4_load ∈ WW := mm_in 308 (by decide +kernel) rfl
theorem mw_S_X4_load : Cond.selects RX4 yX4_load yX4_load ∈ WW := mm_in 309 (by decide +kernel) rfl
theorem mw_C_X4_load : Cond.code yX4_load cX4_load 3 (some .int) ∈ WW := mm_in 310 (by decide +kernel) rfl
theorem mw_M_X4_57 : Cond.methodLink RX4 57 yX0_changeLoad ∈ WW := mm_in 311 (by decide +kernel) rfl
theorem mw_I_X0_changeLoad : Cond.instanceMethod yX0_changeLoad ∈ WW := mm_in 312 (by decide +kernel) rfl
theorem mw_S_X0_changeLoad : Cond.selects RX0 yX0_changeLoad yX0_changeLoad ∈ WW := mm_in 313 (by decide +kernel) rfl
theorem mw_C_X0_changeLoad : Cond.code yX0_changeLoad cX0_changeLoad 4 (some .int) ∈ WW := mm_in 314 (by decide +kernel) rfl
theorem mw_M_L_27 : Cond.methodLink RL 27 yX4_days ∈ WW := mm_in 315 (by decide +kernel) rfl
theorem mw_I_X4_days : Cond.instanceMethod yX4_days ∈ WW := mm_in 316 (by decide +kernel) rfl
theorem mw_S_X4_days : Cond.selects RX4 yX4_days yX4_days ∈ WW := mm_in 317 (by decide +kernel) rfl
theorem mw_C_X4_days : Cond.code yX4_days cX4_days 2 (some .int) ∈ WW := mm_in 318 (by decide +kernel) rfl
theorem mw_M_X4_60 : Cond.methodLink RX4 60 yX0_letPass ∈ WW := mm_in 319 (by decide +kernel) rfl
theorem mw_I_X0_letPass : Cond.instanceMethod yX0_letPass ∈ WW := mm_in 320 (by decide +kernel) rfl
theorem mw_S_X0_letPass : Cond.selects RX0 yX0_letPass yX0_letPass ∈ WW := mm_in 321 (by decide +kernel) rfl
theorem mw_C_X0_letPass : Cond.code yX0_letPass cX0_letPass 5 (some .int) ∈ WW := mm_in 322 (by decide +kernel) rfl
theorem mw_M_X0_80 : Cond.methodLink RX0 80 yX3_loosen ∈ WW := mm_in 323 (by decide +kernel) rfl
theorem mw_I_X3_loosen : Cond.instanceMethod yX3_loosen ∈ WW := mm_in 324 (by decide +kernel) rfl
theorem mw_S_X3_loosen : Cond.selects RX3 yX3_loosen yX3_loosen ∈ WW := mm_in 325 (by decide +kernel) rfl
theorem mw_C_X3_loosen : Cond.code yX3_loosen cX3_loosen 2 none ∈ WW := mm_in 326 (by decide +kernel) rfl
theorem mw_T_X4_crept : Cond.static yX4_crept ∈ WW := mm_in 328 (by decide +kernel) rfl
theorem mw_C_X4_crept : Cond.code yX4_crept cX4_crept 2 (some .int) ∈ WW := mm_in 329 (by decide +kernel) rfl
theorem mw_M_X0_84 : Cond.methodLink RX0 84 yJ6_bitCount_0f7a4 ∈ WW := mm_in 330 (by decide +kernel) rfl
theorem mw_T_J6_bitCount_0f7a4 : Cond.static yJ6_bitCount_0f7a4 ∈ WW := mm_in 331 (by decide +kernel) rfl
theorem mw_C_J6_bitCount_0f7a4 : Cond.code yJ6_bitCount_0f7a4 cJ6_bitCount_0f7a4 1 (some .int) ∈ WW := mm_in 332 (by decide +kernel) rfl
theorem mw_K_J6_265 : Cond.constant RJ6 265 (1431655765) ∈ WW := mm_in 333 (by decide +kernel) rfl
theorem mw_K_J6_266 : Cond.constant RJ6 266 (858993459) ∈ WW := mm_in 334 (by decide +kernel) rfl
theorem mw_K_J6_267 : Cond.constant RJ6 267 (252645135) ∈ WW := mm_in 335 (by decide +kernel) rfl
theorem mw_M_L_32 : Cond.methodLink RL 32 yX4_walk ∈ WW := mm_in 336 (by decide +kernel) rfl
theorem mw_I_X4_walk : Cond.instanceMethod yX4_walk ∈ WW := mm_in 337 (by decide +kernel) rfl
theorem mw_S_X4_walk : Cond.selects RX4 yX4_walk yX4_walk ∈ WW := mm_in 338 (by decide +kernel) rfl
theorem mw_C_X4_walk : Cond.code yX4_walk cX4_walk 2 (some .int) ∈ WW := mm_in 339 (by decide +kernel) rfl
theorem mw_M_X4_63 : Cond.methodLink RX4 63 yX0_goTo ∈ WW := mm_in 340 (by decide +kernel) rfl
theorem mw_I_X0_goTo : Cond.instanceMethod yX0_goTo ∈ WW := mm_in 341 (by decide +kernel) rfl
theorem mw_S_X0_goTo : Cond.selects RX0 yX0_goTo yX0_goTo ∈ WW := mm_in 342 (by decide +kernel) rfl
theorem mw_C_X0_goTo : Cond.code yX0_goTo cX0_goTo 3 (some .int) ∈ WW := mm_in 343 (by decide +kernel) rfl
theorem mw_M_X0_90 : Cond.methodLink RX0 90 yJ9_abs_0f7a4 ∈ WW := mm_in 344 (by decide +kernel) rfl
theorem mw_T_J9_abs_0f7a4 : Cond.static yJ9_abs_0f7a4 ∈ WW := mm_in 345 (by decide +kernel) rfl
theorem mw_C_J9_abs_0f7a4 : Cond.code yJ9_abs_0f7a4 cJ9_abs_0f7a4 1 (some .int) ∈ WW := mm_in 346 (by decide +kernel) rfl
theorem mw_M_L_36 : Cond.methodLink RL 36 yX4_hear ∈ WW := mm_in 347 (by decide +kernel) rfl
theorem mw_I_X4_hear : Cond.instanceMethod yX4_hear ∈ WW := mm_in 348 (by decide +kernel) rfl
theorem mw_S_X4_hear : Cond.selects RX4 yX4_hear yX4_hear ∈ WW := mm_in 349 (by decide +kernel) rfl
theorem mw_C_X4_hear : Cond.code yX4_hear cX4_hear 1 (some .int) ∈ WW := mm_in 350 (by decide +kernel) rfl
theorem mw_M_X4_66 : Cond.methodLink RX4 66 yX0_listen ∈ WW := mm_in 351 (by decide +kernel) rfl
theorem mw_I_X0_listen : Cond.instanceMethod yX0_listen ∈ WW := mm_in 352 (by decide +kernel) rfl
theorem mw_S_X0_listen : Cond.selects RX0 yX0_listen yX0_listen ∈ WW := mm_in 353 (by decide +kernel) rfl
theorem mw_C_X0_listen : Cond.code yX0_listen cX0_listen 2 (some .int) ∈ WW := mm_in 354 (by decide +kernel) rfl
theorem mw_M_X0_99 : Cond.methodLink RX0 99 yX0_wireHere ∈ WW := mm_in 355 (by decide +kernel) rfl
theorem mw_I_X0_wireHere : Cond.instanceMethod yX0_wireHere ∈ WW := mm_in 356 (by decide +kernel) rfl
theorem mw_S_X0_wireHere : Cond.selects RX0 yX0_wireHere yX0_wireHere ∈ WW := mm_in 357 (by decide +kernel) rfl
theorem mw_C_X0_wireHere : Cond.code yX0_wireHere cX0_wireHere 1 (some (.object "SingingWires$Wire")) ∈ WW := mm_in 358 (by decide +kernel) rfl
theorem mw_M_X0_95 : Cond.methodLink RX0 95 yX0_wireNumbered ∈ WW := mm_in 359 (by decide +kernel) rfl
theorem mw_I_X0_wireNumbered : Cond.instanceMethod yX0_wireNumbered ∈ WW := mm_in 360 (by decide +kernel) rfl
theorem mw_S_X0_wireNumbered : Cond.selects RX0 yX0_wireNumbered yX0_wireNumbered ∈ WW := mm_in 361 (by decide +kernel) rfl
theorem mw_C_X0_wireNumbered : Cond.code yX0_wireNumbered cX0_wireNumbered 2 (some (.object "SingingWires$Wire")) ∈ WW := mm_in 362 (by decide +kernel) rfl
theorem mw_M_X0_103 : Cond.methodLink RX0 103 yX3_sing ∈ WW := mm_in 363 (by decide +kernel) rfl
theorem mw_I_X3_sing : Cond.instanceMethod yX3_sing ∈ WW := mm_in 364 (by decide +kernel) rfl
theorem mw_S_X3_sing : Cond.selects RX3 yX3_sing yX3_sing ∈ WW := mm_in 365 (by decide +kernel) rfl
theorem mw_C_X3_sing : Cond.code yX3_sing cX3_sing 3 (some .int) ∈ WW := mm_in 366 (by decide +kernel) rfl
theorem mw_M_X3_59 : Cond.methodLink RX3 59 yX3_pitchWith ∈ WW := mm_in 367 (by decide +kernel) rfl
theorem mw_I_X3_pitchWith : Cond.instanceMethod yX3_pitchWith ∈ WW := mm_in 368 (by decide +kernel) rfl
theorem mw_S_X3_pitchWith : Cond.selects RX3 yX3_pitchWith yX3_pitchWith ∈ WW := mm_in 369 (by decide +kernel) rfl
theorem mw_C_X3_pitchWith : Cond.code yX3_pitchWith cX3_pitchWith 10 (some .int) ∈ WW := mm_in 370 (by decide +kernel) rfl
theorem mw_L_X3_49 : Cond.constantLong RX3 49 (1000000) ∈ WW := mm_in 371 (by decide +kernel) rfl
theorem mw_M_X3_51 : Cond.methodLink RX3 51 yX3_weight ∈ WW := mm_in 372 (by decide +kernel) rfl
theorem mw_I_X3_weight : Cond.instanceMethod yX3_weight ∈ WW := mm_in 373 (by decide +kernel) rfl
theorem mw_S_X3_weight : Cond.selects RX3 yX3_weight yX3_weight ∈ WW := mm_in 374 (by decide +kernel) rfl
theorem mw_C_X3_weight : Cond.code yX3_weight cX3_weight 1 (some .long) ∈ WW := mm_in 375 (by decide +kernel) rfl
theorem mw_L_X3_55 : Cond.constantLong RX3 55 (16384) ∈ WW := mm_in 376 (by decide +kernel) rfl
theorem mw_L_X3_57 : Cond.constantLong RX3 57 (2) ∈ WW := mm_in 377 (by decide +kernel) rfl
theorem mw_M_X3_63 : Cond.methodLink RX3 63 yX3_leastTension ∈ WW := mm_in 378 (by decide +kernel) rfl
theorem mw_I_X3_leastTension : Cond.instanceMethod yX3_leastTension ∈ WW := mm_in 379 (by decide +kernel) rfl
theorem mw_S_X3_leastTension : Cond.selects RX3 yX3_leastTension yX3_leastTension ∈ WW := mm_in 380 (by decide +kernel) rfl
theorem mw_C_X3_leastTension : Cond.code yX3_leastTension cX3_leastTension 3 (some .long) ∈ WW := mm_in 381 (by decide +kernel) rfl
theorem mw_L_X3_67 : Cond.constantLong RX3 67 (50000) ∈ WW := mm_in 382 (by decide +kernel) rfl
theorem mw_M_X3_69 : Cond.methodLink RX3 69 yJ9_min_f86c9 ∈ WW := mm_in 383 (by decide +kernel) rfl
theorem mw_T_J9_min_f86c9 : Cond.static yJ9_min_f86c9 ∈ WW := mm_in 384 (by decide +kernel) rfl
theorem mw_C_J9_min_f86c9 : Cond.code yJ9_min_f86c9 cJ9_min_f86c9 4 (some .long) ∈ WW := mm_in 385 (by decide +kernel) rfl
theorem mw_M_L_41 : Cond.methodLink RL 41 yX4_tighten ∈ WW := mm_in 386 (by decide +kernel) rfl
theorem mw_I_X4_tighten : Cond.instanceMethod yX4_tighten ∈ WW := mm_in 387 (by decide +kernel) rfl
theorem mw_S_X4_tighten : Cond.selects RX4 yX4_tighten yX4_tighten ∈ WW := mm_in 388 (by decide +kernel) rfl
theorem mw_C_X4_tighten : Cond.code yX4_tighten cX4_tighten 2 (some .int) ∈ WW := mm_in 389 (by decide +kernel) rfl
theorem mw_M_X4_70 : Cond.methodLink RX4 70 yX0_changeTension ∈ WW := mm_in 390 (by decide +kernel) rfl
theorem mw_I_X0_changeTension : Cond.instanceMethod yX0_changeTension ∈ WW := mm_in 391 (by decide +kernel) rfl
theorem mw_S_X0_changeTension : Cond.selects RX0 yX0_changeTension yX0_changeTension ∈ WW := mm_in 392 (by decide +kernel) rfl
theorem mw_C_X0_changeTension : Cond.code yX0_changeTension cX0_changeTension 4 (some .int) ∈ WW := mm_in 393 (by decide +kernel) rfl
theorem mw_M_X0_112 : Cond.methodLink RX0 112 yX3_pull ∈ WW := mm_in 394 (by decide +kernel) rfl
theorem mw_I_X3_pull : Cond.instanceMethod yX3_pull ∈ WW := mm_in 395 (by decide +kernel) rfl
theorem mw_S_X3_pull : Cond.selects RX3 yX3_pull yX3_pull ∈ WW := mm_in 396 (by decide +kernel) rfl
theorem mw_C_X3_pull : Cond.code yX3_pull cX3_pull 3 none ∈ WW := mm_in 397 (by decide +kernel) rfl
theorem mw_M_L_45 : Cond.methodLink RL 45 yX4_ofWire ∈ WW := mm_in 398 (by decide +kernel) rfl
theorem mw_I_X4_ofWire : Cond.instanceMethod yX4_ofWire ∈ WW := mm_in 399 (by decide +kernel) rfl
theorem mw_S_X4_ofWire : Cond.selects RX4 yX4_ofWire yX4_ofWire ∈ WW := mm_in 400 (by decide +kernel) rfl
theorem mw_C_X4_ofWire : Cond.code yX4_ofWire cX4_ofWire 4 (some .int) ∈ WW := mm_in 401 (by decide +kernel) rfl
theorem mw_M_X4_73 : Cond.methodLink RX4 73 yX0_wireNumbered ∈ WW := mm_in 402 (by decide +kernel) rfl
theorem mw_M_X4_99 : Cond.methodLink RX4 99 yX4_oneIf ∈ WW := mm_in 403 (by decide +kernel) rfl
theorem mw_T_X4_oneIf : Cond.static yX4_oneIf ∈ WW := mm_in 404 (by decide +kernel) rfl
theorem mw_C_X4_oneIf : Cond.code yX4_oneIf cX4_oneIf 1 (some .int) ∈ WW := mm_in 405 (by decide +kernel) rfl
theorem mw_M_X4_103 : Cond.methodLink RX4 103 yX3_pitchWith ∈ WW := mm_in 406 (by decide +kernel) rfl
theorem mw_M_X4_109 : Cond.methodLink RX4 109 yX3_isSlack ∈ WW := mm_in 407 (by decide +kernel) rfl
theorem mw_I_X3_isSlack : Cond.instanceMethod yX3_isSlack ∈ WW := mm_in 408 (by decide +kernel) rfl
theorem mw_S_X3_isSlack : Cond.selects RX3 yX3_isSlack yX3_isSlack ∈ WW := mm_in 409 (by decide +kernel) rfl
theorem mw_C_X3_isSlack : Cond.code yX3_isSlack cX3_isSlack 1 (some .boolean) ∈ WW := mm_in 410 (by decide +kernel) rfl
theorem mw_M_X4_116 : Cond.methodLink RX4 116 yX3_isTooTight ∈ WW := mm_in 411 (by decide +kernel) rfl
theorem mw_I_X3_isTooTight : Cond.instanceMethod yX3_isTooTight ∈ WW := mm_in 412 (by decide +kernel) rfl
theorem mw_S_X3_isTooTight : Cond.selects RX3 yX3_isTooTight yX3_isTooTight ∈ WW := mm_in 413 (by decide +kernel) rfl
theorem mw_C_X3_isTooTight : Cond.code yX3_isTooTight cX3_isTooTight 2 (some .boolean) ∈ WW := mm_in 414 (by decide +kernel) rfl
theorem mw_M_L_49 : Cond.methodLink RL 49 yX4_known ∈ WW := mm_in 415 (by decide +kernel) rfl
theorem mw_I_X4_known : Cond.instanceMethod yX4_known ∈ WW := mm_in 416 (by decide +kernel) rfl
theorem mw_S_X4_known : Cond.selects RX4 yX4_known yX4_known ∈ WW := mm_in 417 (by decide +kernel) rfl
theorem mw_C_X4_known : Cond.code yX4_known cX4_known 4 (some .int) ∈ WW := mm_in 418 (by decide +kernel) rfl
theorem mw_M_X4_123 : Cond.methodLink RX4 123 yX0_takeAsHeard ∈ WW := mm_in 419 (by decide +kernel) rfl
theorem mw_I_X0_takeAsHeard : Cond.instanceMethod yX0_takeAsHeard ∈ WW := mm_in 420 (by decide +kernel) rfl
theorem mw_S_X0_takeAsHeard : Cond.selects RX0 yX0_takeAsHeard yX0_takeAsHeard ∈ WW := mm_in 421 (by decide +kernel) rfl
theorem mw_C_X0_takeAsHeard : Cond.code yX0_takeAsHeard cX0_takeAsHeard 3 none ∈ WW := mm_in 422 (by decide +kernel) rfl
theorem mw_M_X0_54 : Cond.methodLink RX0 54 yX0_takeFrom ∈ WW := mm_in 423 (by decide +kernel) rfl
theorem mw_M_X4_129 : Cond.methodLink RX4 129 yX3_isKnown ∈ WW := mm_in 424 (by decide +kernel) rfl
theorem mw_I_X3_isKnown : Cond.instanceMethod yX3_isKnown ∈ WW := mm_in 425 (by decide +kernel) rfl
theorem mw_S_X3_isKnown : Cond.selects RX3 yX3_isKnown yX3_isKnown ∈ WW := mm_in 426 (by decide +kernel) rfl
theorem mw_C_X3_isKnown : Cond.code yX3_isKnown cX3_isKnown 1 (some .boolean) ∈ WW := mm_in 427 (by decide +kernel) rfl
theorem mw_M_X4_141 : Cond.methodLink RX4 141 yX3_isSurelySlack ∈ WW := mm_in 428 (by decide +kernel) rfl
theorem mw_I_X3_isSurelySlack : Cond.instanceMethod yX3_isSurelySlack ∈ WW := mm_in 429 (by decide +kernel) rfl
theorem mw_S_X3_isSurelySlack : Cond.selects RX3 yX3_isSurelySlack yX3_isSurelySlack ∈ WW := mm_in 430 (by decide +kernel) rfl
theorem mw_C_X3_isSurelySlack : Cond.code yX3_isSurelySlack cX3_isSurelySlack 1 (some .boolean) ∈ WW := mm_in 431 (by decide +kernel) rfl
theorem mw_M_X3_79 : Cond.methodLink RX3 79 yX3_isKnown ∈ WW := mm_in 432 (by decide +kernel) rfl
theorem mw_M_X4_144 : Cond.methodLink RX4 144 yX3_maybeSlack ∈ WW := mm_in 433 (by decide +kernel) rfl
theorem mw_I_X3_maybeSlack : Cond.instanceMethod yX3_maybeSlack ∈ WW := mm_in 434 (by decide +kernel) rfl
theorem mw_S_X3_maybeSlack : Cond.selects RX3 yX3_maybeSlack yX3_maybeSlack ∈ WW := mm_in 435 (by decide +kernel) rfl
theorem mw_C_X3_maybeSlack : Cond.code yX3_maybeSlack cX3_maybeSlack 1 (some .boolean) ∈ WW := mm_in 436 (by decide +kernel) rfl
theorem mw_M_X3_83 : Cond.methodLink RX3 83 yX3_isSurelySlack ∈ WW := mm_in 437 (by decide +kernel) rfl
theorem mw_M_L_53 : Cond.methodLink RL 53 yX4_count ∈ WW := mm_in 438 (by decide +kernel) rfl
theorem mw_I_X4_count : Cond.instanceMethod yX4_count ∈ WW := mm_in 439 (by decide +kernel) rfl
theorem mw_S_X4_count : Cond.selects RX4 yX4_count yX4_count ∈ WW := mm_in 440 (by decide +kernel) rfl
theorem mw_C_X4_count : Cond.code yX4_count cX4_count 2 (some .int) ∈ WW := mm_in 441 (by decide +kernel) rfl
theorem mw_M_X4_153 : Cond.methodLink RX4 153 yX0_wholeWires ∈ WW := mm_in 442 (by decide +kernel) rfl
theorem mw_I_X0_wholeWires : Cond.instanceMethod yX0_wholeWires ∈ WW := mm_in 443 (by decide +kernel) rfl
theorem mw_S_X0_wholeWires : Cond.selects RX0 yX0_wholeWires yX0_wholeWires ∈ WW := mm_in 444 (by decide +kernel) rfl
theorem mw_C_X0_wholeWires : Cond.code yX0_wholeWires cX0_wholeWires 3 (some .int) ∈ WW := mm_in 445 (by decide +kernel) rfl
theorem mw_M_X4_160 : Cond.methodLink RX4 160 yX0_allLoads ∈ WW := mm_in 447 (by decide +kernel) rfl
theorem mw_I_X0_allLoads : Cond.instanceMethod yX0_allLoads ∈ WW := mm_in 448 (by decide +kernel) rfl
theorem mw_S_X0_allLoads : Cond.selects RX0 yX0_allLoads yX0_allLoads ∈ WW := mm_in 449 (by decide +kernel) rfl
theorem mw_C_X0_allLoads : Cond.code yX0_allLoads cX0_allLoads 3 (some .int) ∈ WW := mm_in 450 (by decide +kernel) rfl
theorem mw_M_X4_163 : Cond.methodLink RX4 163 yX0_slackWires ∈ WW := mm_in 451 (by decide +kernel) rfl
theorem mw_I_X0_slackWires : Cond.instanceMethod yX0_slackWires ∈ WW := mm_in 452 (by decide +kernel) rfl
theorem mw_S_X0_slackWires : Cond.selects RX0 yX0_slackWires yX0_slackWires ∈ WW := mm_in 453 (by decide +kernel) rfl
theorem mw_C_X0_slackWires : Cond.code yX0_slackWires cX0_slackWires 3 (some .int) ∈ WW := mm_in 454 (by decide +kernel) rfl
theorem mw_M_X0_151 : Cond.methodLink RX0 151 yX3_isSlack ∈ WW := mm_in 455 (by decide +kernel) rfl
theorem mw_M_X4_166 : Cond.methodLink RX4 166 yX0_tooTightWires ∈ WW := mm_in 456 (by decide +kernel) rfl
theorem mw_I_X0_tooTightWires : Cond.instanceMethod yX0_tooTightWires ∈ WW := mm_in 457 (by decide +kernel) rfl
theorem mw_S_X0_tooTightWires : Cond.selects RX0 yX0_tooTightWires yX0_tooTightWires ∈ WW := mm_in 458 (by decide +kernel) rfl
theorem mw_C_X0_tooTightWires : Cond.code yX0_tooTightWires cX0_tooTightWires 3 (some .int) ∈ WW := mm_in 459 (by decide +kernel) rfl
theorem mw_M_X0_154 : Cond.methodLink RX0 154 yX3_isTooTight ∈ WW := mm_in 460 (by decide +kernel) rfl
theorem mw_M_L_57 : Cond.methodLink RL 57 yX4_pitchAt ∈ WW := mm_in 461 (by decide +kernel) rfl
theorem mw_I_X4_pitchAt : Cond.instanceMethod yX4_pitchAt ∈ WW := mm_in 462 (by decide +kernel) rfl
theorem mw_S_X4_pitchAt : Cond.selects RX4 yX4_pitchAt yX4_pitchAt ∈ WW := mm_in 463 (by decide +kernel) rfl
theorem mw_C_X4_pitchAt : Cond.code yX4_pitchAt cX4_pitchAt 4 (some .int) ∈ WW := mm_in 464 (by decide +kernel) rfl
theorem mw_K_X4_176 : Cond.constant RX4 176 (50000) ∈ WW := mm_in 465 (by decide +kernel) rfl
theorem mw_M_X4_177 : Cond.methodLink RX4 177 yX4_within ∈ WW := mm_in 466 (by decide +kernel) rfl
theorem mw_M_L_61 : Cond.methodLink RL 61 yX4_tensionFor ∈ WW := mm_in 467 (by decide +kernel) rfl
theorem mw_I_X4_tensionFor : Cond.instanceMethod yX4_tensionFor ∈ WW := mm_in 468 (by decide +kernel) rfl
theorem mw_S_X4_tensionFor : Cond.selects RX4 yX4_tensionFor yX4_tensionFor ∈ WW := mm_in 469 (by decide +kernel) rfl
theorem mw_C_X4_tensionFor : Cond.code yX4_tensionFor cX4_tensionFor 6 (some .int) ∈ WW := mm_in 470 (by decide +kernel) rfl
theorem mw_K_X4_181 : Cond.constant RX4 181 (100000) ∈ WW := mm_in 471 (by decide +kernel) rfl
theorem mw_M_X4_182 : Cond.methodLink RX4 182 yX3_leastTension ∈ WW := mm_in 472 (by decide +kernel) rfl
theorem mw_L_X4_186 : Cond.constantLong RX4 186 (50000) ∈ WW := mm_in 473 (by decide +kernel) rfl
theorem mw_M_L_65 : Cond.methodLink RL 65 yX4_fallsWith ∈ WW := mm_in 474 (by decide +kernel) rfl
theorem mw_I_X4_fallsWith : Cond.instanceMethod yX4_fallsWith ∈ WW := mm_in 475 (by decide +kernel) rfl
theorem mw_S_X4_fallsWith : Cond.selects RX4 yX4_fallsWith yX4_fallsWith ∈ WW := mm_in 476 (by decide +kernel) rfl
theorem mw_C_X4_fallsWith : Cond.code yX4_fallsWith cX4_fallsWith 3 (some .int) ∈ WW := mm_in 477 (by decide +kernel) rfl
theorem mw_M_X4_188 : Cond.methodLink RX4 188 yX4_fallenWith ∈ WW := mm_in 478 (by decide +kernel) rfl
theorem mw_I_X4_fallenWith : Cond.instanceMethod yX4_fallenWith ∈ WW := mm_in 480 (by decide +kernel) rfl
theorem mw_C_X4_fallenWith : Cond.code yX4_fallenWith cX4_fallenWith 3 (some .int) ∈ WW := mm_in 481 (by decide +kernel) rfl
theorem mw_M_X4_191 : Cond.methodLink RX4 191 yX0_takeFrom ∈ WW := mm_in 482 (by decide +kernel) rfl
theorem mw_M_X4_226 : Cond.methodLink RX4 226 yX3_snap ∈ WW := mm_in 483 (by decide +kernel) rfl
theorem mw_M_X4_230 : Cond.methodLink RX4 230 yX0_reckon ∈ WW := mm_in 484 (by decide +kernel) rfl
theorem mw_M_X4_233 : Cond.methodLink RX4 233 yX0_settle ∈ WW := mm_in 485 (by decide +kernel) rfl
theorem mw_M_L_69 : Cond.methodLink RL 69 yX4_mostAt ∈ WW := mm_in 486 (by decide +kernel) rfl
theorem mw_I_X4_mostAt : Cond.instanceMethod yX4_mostAt ∈ WW := mm_in 487 (by decide +kernel) rfl
theorem mw_S_X4_mostAt : Cond.selects RX4 yX4_mostAt yX4_mostAt ∈ WW := mm_in 488 (by decide +kernel) rfl
theorem mw_C_X4_mostAt : Cond.code yX4_mostAt cX4_mostAt 4 (some .int) ∈ WW := mm_in 489 (by decide +kernel) rfl
theorem mw_M_X4_194 : Cond.methodLink RX4 194 yX0_standsWith ∈ WW := mm_in 490 (by decide +kernel) rfl
theorem mw_I_X0_standsWith : Cond.instanceMethod yX0_standsWith ∈ WW := mm_in 491 (by decide +kernel) rfl
theorem mw_S_X0_standsWith : Cond.selects RX0 yX0_standsWith yX0_standsWith ∈ WW := mm_in 492 (by decide +kernel) rfl
theorem mw_C_X0_standsWith : Cond.code yX0_standsWith cX0_standsWith 3 (some .boolean) ∈ WW := mm_in 493 (by decide +kernel) rfl
theorem mw_M_L_73 : Cond.methodLink RL 73 yX4_slackIn ∈ WW := mm_in 494 (by decide +kernel) rfl
theorem mw_I_X4_slackIn : Cond.instanceMethod yX4_slackIn ∈ WW := mm_in 495 (by decide +kernel) rfl
theorem mw_S_X4_slackIn : Cond.selects RX4 yX4_slackIn yX4_slackIn ∈ WW := mm_in 496 (by decide +kernel) rfl
theorem mw_C_X4_slackIn : Cond.code yX4_slackIn cX4_slackIn 5 (some .int) ∈ WW := mm_in 497 (by decide +kernel) rfl
theorem mw_M_X4_198 : Cond.methodLink RX4 198 yX4_crept ∈ WW := mm_in 498 (by decide +kernel) rfl
theorem mw_M_L_77 : Cond.methodLink RL 77 yX4_round ∈ WW := mm_in 499 (by decide +kernel) rfl
theorem mw_I_X4_round : Cond.instanceMethod yX4_round ∈ WW := mm_in 500 (by decide +kernel) rfl
theorem mw_S_X4_round : Cond.selects RX4 yX4_round yX4_round ∈ WW := mm_in 501 (by decide +kernel) rfl
theorem mw_C_X4_round : Cond.code yX4_round cX4_round 1 (some .int) ∈ WW := mm_in 502 (by decide +kernel) rfl
theorem mw_M_X4_201 : Cond.methodLink RX4 201 yX0_walkToDoubtful ∈ WW := mm_in 503 (by decide +kernel) rfl
theorem mw_I_X0_walkToDoubtful : Cond.instanceMethod yX0_walkToDoubtful ∈ WW := mm_in 504 (by decide +kernel) rfl
theorem mw_S_X0_walkToDoubtful : Cond.selects RX0 yX0_walkToDoubtful yX0_walkToDoubtful ∈ WW := mm_in 505 (by decide +kernel) rfl
theorem mw_C_X0_walkToDoubtful : Cond.code yX0_walkToDoubtful cX0_walkToDoubtful 5 (some .int) ∈ WW := mm_in 506 (by decide +kernel) rfl
theorem mw_M_X0_133 : Cond.methodLink RX0 133 yX3_isSurelySlack ∈ WW := mm_in 507 (by decide +kernel) rfl
theorem mw_M_X0_137 : Cond.methodLink RX0 137 yX3_maybeSlack ∈ WW := mm_in 508 (by decide +kernel) rfl
theorem mw_M_X0_140 : Cond.methodLink RX0 140 yJ9_min_7cf53 ∈ WW := mm_in 509 (by decide +kernel) rfl
theorem mw_T_J9_min_7cf53 : Cond.static yJ9_min_7cf53 ∈ WW := mm_in 510 (by decide +kernel) rfl
theorem mw_C_J9_min_7cf53 : Cond.code yJ9_min_7cf53 cJ9_min_7cf53 2 (some .int) ∈ WW := mm_in 511 (by decide +kernel) rfl
theorem mw_M_X0_144 : Cond.methodLink RX0 144 yJ9_max_7cf53 ∈ WW := mm_in 512 (by decide +kernel) rfl
theorem mw_T_J9_max_7cf53 : Cond.static yJ9_max_7cf53 ∈ WW := mm_in 513 (by decide +kernel) rfl
theorem mw_C_J9_max_7cf53 : Cond.code yJ9_max_7cf53 cJ9_max_7cf53 2 (some .int) ∈ WW := mm_in 514 (by decide +kernel) rfl
theorem mw_M_L_81 : Cond.methodLink RL 81 yX4_weakest ∈ WW := mm_in 515 (by decide +kernel) rfl
theorem mw_I_X4_weakest : Cond.instanceMethod yX4_weakest ∈ WW := mm_in 516 (by decide +kernel) rfl
theorem mw_S_X4_weakest : Cond.selects RX4 yX4_weakest yX4_weakest ∈ WW := mm_in 517 (by decide +kernel) rfl
theorem mw_C_X4_weakest : Cond.code yX4_weakest cX4_weakest 7 (some .int) ∈ WW := mm_in 518 (by decide +kernel) rfl
theorem mw_M_X4_204 : Cond.methodLink RX4 204 yJ6_bitCount_0f7a4 ∈ WW := mm_in 519 (by decide +kernel) rfl
theorem mw_M_L_87 : Cond.methodLink RL 87 yX4_put ∈ WW := mm_in 520 (by decide +kernel) rfl
theorem mw_I_X4_put : Cond.instanceMethod yX4_put ∈ WW := mm_in 521 (by decide +kernel) rfl
theorem mw_S_X4_put : Cond.selects RX4 yX4_put yX4_put ∈ WW := mm_in 522 (by decide +kernel) rfl
theorem mw_C_X4_put : Cond.code yX4_put cX4_put 3 (some .int) ∈ WW := mm_in 523 (by decide +kernel) rfl
theorem mw_M_X4_209 : Cond.methodLink RX4 209 yX2_append ∈ WW := mm_in 524 (by decide +kernel) rfl
theorem mw_I_X2_append : Cond.instanceMethod yX2_append ∈ WW := mm_in 525 (by decide +kernel) rfl
theorem mw_S_X2_append : Cond.selects RX2 yX2_append yX2_append ∈ WW := mm_in 526 (by decide +kernel) rfl
theorem mw_C_X2_append : Cond.code yX2_append cX2_append 5 (some .int) ∈ WW := mm_in 527 (by decide +kernel) rfl
theorem mw_M_X2_15 : Cond.methodLink RX2 15 yX2_charactersIn ∈ WW := mm_in 528 (by decide +kernel) rfl
theorem mw_T_X2_charactersIn : Cond.static yX2_charactersIn ∈ WW := mm_in 529 (by decide +kernel) rfl
theorem mw_C_X2_charactersIn : Cond.code yX2_charactersIn cX2_charactersIn 4 (some .int) ∈ WW := mm_in 530 (by decide +kernel) rfl
theorem mw_M_X2_23 : Cond.methodLink RX2 23 yX2_codeAt ∈ WW := mm_in 531 (by decide +kernel) rfl
theorem mw_T_X2_codeAt : Cond.static yX2_codeAt ∈ WW := mm_in 532 (by decide +kernel) rfl
theorem mw_C_X2_codeAt : Cond.code yX2_codeAt cX2_codeAt 3 (some .int) ∈ WW := mm_in 533 (by decide +kernel) rfl
theorem mw_M_L_92 : Cond.methodLink RL 92 yX4_wipe ∈ WW := mm_in 535 (by decide +kernel) rfl
theorem mw_I_X4_wipe : Cond.instanceMethod yX4_wipe ∈ WW := mm_in 536 (by decide +kernel) rfl
theorem mw_S_X4_wipe : Cond.selects RX4 yX4_wipe yX4_wipe ∈ WW := mm_in 537 (by decide +kernel) rfl
theorem mw_C_X4_wipe : Cond.code yX4_wipe cX4_wipe 1 (some .int) ∈ WW := mm_in 538 (by decide +kernel) rfl
theorem mw_M_X4_213 : Cond.methodLink RX4 213 yX2_empty ∈ WW := mm_in 539 (by decide +kernel) rfl
theorem mw_I_X2_empty : Cond.instanceMethod yX2_empty ∈ WW := mm_in 540 (by decide +kernel) rfl
theorem mw_S_X2_empty : Cond.selects RX2 yX2_empty yX2_empty ∈ WW := mm_in 541 (by decide +kernel) rfl
theorem mw_C_X2_empty : Cond.code yX2_empty cX2_empty 2 (some .int) ∈ WW := mm_in 542 (by decide +kernel) rfl
theorem mw_M_L_96 : Cond.methodLink RL 96 yX4_fault ∈ WW := mm_in 543 (by decide +kernel) rfl
theorem mw_I_X4_fault : Cond.instanceMethod yX4_fault ∈ WW := mm_in 544 (by decide +kernel) rfl
theorem mw_S_X4_fault : Cond.selects RX4 yX4_fault yX4_fault ∈ WW := mm_in 545 (by decide +kernel) rfl
theorem mw_C_X4_fault : Cond.code yX4_fault cX4_fault 1 (some .int) ∈ WW := mm_in 546 (by decide +kernel) rfl
theorem mw_M_X4_216 : Cond.methodLink RX4 216 yX2_firstFault ∈ WW := mm_in 547 (by decide +kernel) rfl
theorem mw_I_X2_firstFault : Cond.instanceMethod yX2_firstFault ∈ WW := mm_in 548 (by decide +kernel) rfl
theorem mw_S_X2_firstFault : Cond.selects RX2 yX2_firstFault yX2_firstFault ∈ WW := mm_in 549 (by decide +kernel) rfl
theorem mw_C_X2_firstFault : Cond.code yX2_firstFault cX2_firstFault 2 (some .int) ∈ WW := mm_in 550 (by decide +kernel) rfl
theorem mw_M_X2_38 : Cond.methodLink RX2 38 yX2_canStand ∈ WW := mm_in 551 (by decide +kernel) rfl
theorem mw_I_X2_canStand : Cond.instanceMethod yX2_canStand ∈ WW := mm_in 552 (by decide +kernel) rfl
theorem mw_S_X2_canStand : Cond.selects RX2 yX2_canStand yX2_canStand ∈ WW := mm_in 553 (by decide +kernel) rfl
theorem mw_C_X2_canStand : Cond.code yX2_canStand cX2_canStand 2 (some .boolean) ∈ WW := mm_in 554 (by decide +kernel) rfl
theorem mw_M_X2_42 : Cond.methodLink RX2 42 yX2_startsOrder ∈ WW := mm_in 555 (by decide +kernel) rfl
theorem mw_I_X2_startsOrder : Cond.instanceMethod yX2_startsOrder ∈ WW := mm_in 556 (by decide +kernel) rfl
theorem mw_S_X2_startsOrder : Cond.selects RX2 yX2_startsOrder yX2_startsOrder ∈ WW := mm_in 557 (by decide +kernel) rfl
theorem mw_C_X2_startsOrder : Cond.code yX2_startsOrder cX2_startsOrder 2 (some .boolean) ∈ WW := mm_in 558 (by decide +kernel) rfl
theorem mw_M_X2_45 : Cond.methodLink RX2 45 yX2_startsNumber ∈ WW := mm_in 559 (by decide +kernel) rfl
theorem mw_I_X2_startsNumber : Cond.instanceMethod yX2_startsNumber ∈ WW := mm_in 560 (by decide +kernel) rfl
theorem mw_S_X2_startsNumber : Cond.selects RX2 yX2_startsNumber yX2_startsNumber ∈ WW := mm_in 561 (by decide +kernel) rfl
theorem mw_C_X2_startsNumber : Cond.code yX2_startsNumber cX2_startsNumber 2 (some .boolean) ∈ WW := mm_in 562 (by decide +kernel) rfl
theorem mw_M_X2_48 : Cond.methodLink RX2 48 yX2_isDigit ∈ WW := mm_in 563 (by decide +kernel) rfl
theorem mw_T_X2_isDigit : Cond.static yX2_isDigit ∈ WW := mm_in 564 (by decide +kernel) rfl
theorem mw_C_X2_isDigit : Cond.code yX2_isDigit cX2_isDigit 1 (some .boolean) ∈ WW := mm_in 565 (by decide +kernel) rfl
theorem mw_M_X2_51 : Cond.methodLink RX2 51 yX2_growsNumber ∈ WW := mm_in 566 (by decide +kernel) rfl
theorem mw_I_X2_growsNumber : Cond.instanceMethod yX2_growsNumber ∈ WW := mm_in 567 (by decide +kernel) rfl
theorem mw_S_X2_growsNumber : Cond.selects RX2 yX2_growsNumber yX2_growsNumber ∈ WW := mm_in 568 (by decide +kernel) rfl
theorem mw_C_X2_growsNumber : Cond.code yX2_growsNumber cX2_growsNumber 2 (some .boolean) ∈ WW := mm_in 569 (by decide +kernel) rfl
theorem mw_K_X2_63 : Cond.constant RX2 63 (99999) ∈ WW := mm_in 570 (by decide +kernel) rfl
theorem mw_M_X2_54 : Cond.methodLink RX2 54 yX2_endsNumber ∈ WW := mm_in 571 (by decide +kernel) rfl
theorem mw_I_X2_endsNumber : Cond.instanceMethod yX2_endsNumber ∈ WW := mm_in 572 (by decide +kernel) rfl
theorem mw_S_X2_endsNumber : Cond.selects RX2 yX2_endsNumber yX2_endsNumber ∈ WW := mm_in 573 (by decide +kernel) rfl
theorem mw_C_X2_endsNumber : Cond.code yX2_endsNumber cX2_endsNumber 2 (some .boolean) ∈ WW := mm_in 574 (by decide +kernel) rfl
theorem mw_M_X2_57 : Cond.methodLink RX2 57 yX2_endsOrder ∈ WW := mm_in 575 (by decide +kernel) rfl
theorem mw_I_X2_endsOrder : Cond.instanceMethod yX2_endsOrder ∈ WW := mm_in 576 (by decide +kernel) rfl
theorem mw_S_X2_endsOrder : Cond.selects RX2 yX2_endsOrder yX2_endsOrder ∈ WW := mm_in 577 (by decide +kernel) rfl
theorem mw_C_X2_endsOrder : Cond.code yX2_endsOrder cX2_endsOrder 2 (some .boolean) ∈ WW := mm_in 578 (by decide +kernel) rfl
theorem mw_M_L_100 : Cond.methodLink RL 100 yX4_carryOut ∈ WW := mm_in 579 (by decide +kernel) rfl
theorem mw_I_X4_carryOut : Cond.instanceMethod yX4_carryOut ∈ WW := mm_in 580 (by decide +kernel) rfl
theorem mw_S_X4_carryOut : Cond.selects RX4 yX4_carryOut yX4_carryOut ∈ WW := mm_in 581 (by decide +kernel) rfl
theorem mw_C_X4_carryOut : Cond.code yX4_carryOut cX4_carryOut 2 (some .int) ∈ WW := mm_in 582 (by decide +kernel) rfl
theorem mw_M_X4_219 : Cond.methodLink RX4 219 yX4_ordersCarriedOut ∈ WW := mm_in 583 (by decide +kernel) rfl
theorem mw_I_X4_ordersCarriedOut : Cond.instanceMethod yX4_ordersCarriedOut ∈ WW := mm_in 585 (by decide +kernel) rfl
theorem mw_C_X4_ordersCarriedOut : Cond.code yX4_ordersCarriedOut cX4_ordersCarriedOut 3 (some .int) ∈ WW := mm_in 586 (by decide +kernel) rfl
theorem mw_M_X4_236 : Cond.methodLink RX4 236 yX2_startReading ∈ WW := mm_in 587 (by decide +kernel) rfl
theorem mw_I_X2_startReading : Cond.instanceMethod yX2_startReading ∈ WW := mm_in 588 (by decide +kernel) rfl
theorem mw_S_X2_startReading : Cond.selects RX2 yX2_startReading yX2_startReading ∈ WW := mm_in 589 (by decide +kernel) rfl
theorem mw_C_X2_startReading : Cond.code yX2_startReading cX2_startReading 1 none ∈ WW := mm_in 590 (by decide +kernel) rfl
theorem mw_M_X4_239 : Cond.methodLink RX4 239 yX2_readOrder ∈ WW := mm_in 591 (by decide +kernel) rfl
theorem mw_I_X2_readOrder : Cond.instanceMethod yX2_readOrder ∈ WW := mm_in 592 (by decide +kernel) rfl
theorem mw_S_X2_readOrder : Cond.selects RX2 yX2_readOrder yX2_readOrder ∈ WW := mm_in 593 (by decide +kernel) rfl
theorem mw_C_X2_readOrder : Cond.code yX2_readOrder cX2_readOrder 1 (some .boolean) ∈ WW := mm_in 594 (by decide +kernel) rfl
theorem mw_M_X2_71 : Cond.methodLink RX2 71 yX2_readNumber ∈ WW := mm_in 595 (by decide +kernel) rfl
theorem mw_I_X2_readNumber : Cond.instanceMethod yX2_readNumber ∈ WW := mm_in 596 (by decide +kernel) rfl
theorem mw_S_X2_readNumber : Cond.selects RX2 yX2_readNumber yX2_readNumber ∈ WW := mm_in 597 (by decide +kernel) rfl
theorem mw_C_X2_readNumber : Cond.code yX2_readNumber cX2_readNumber 2 (some .int) ∈ WW := mm_in 598 (by decide +kernel) rfl
theorem mw_M_X4_252 : Cond.methodLink RX4 252 yX4_answerTo ∈ WW := mm_in 599 (by decide +kernel) rfl
theorem mw_I_X4_answerTo : Cond.instanceMethod yX4_answerTo ∈ WW := mm_in 601 (by decide +kernel) rfl
theorem mw_C_X4_answerTo : Cond.code yX4_answerTo cX4_answerTo 4 (some .int) ∈ WW := mm_in 602 (by decide +kernel) rfl
theorem mw_M_X4_256 : Cond.methodLink RX4 256 yX4_isError ∈ WW := mm_in 603 (by decide +kernel) rfl
theorem mw_M_L_104 : Cond.methodLink RL 104 yX4_undo ∈ WW := mm_in 604 (by decide +kernel) rfl
theorem mw_I_X4_undo : Cond.instanceMethod yX4_undo ∈ WW := mm_in 605 (by decide +kernel) rfl
theorem mw_S_X4_undo : Cond.selects RX4 yX4_undo yX4_undo ∈ WW := mm_in 606 (by decide +kernel) rfl
theorem mw_C_X4_undo : Cond.code yX4_undo cX4_undo 1 (some .int) ∈ WW := mm_in 607 (by decide +kernel) rfl
theorem mw_M_X4_222 : Cond.methodLink RX4 222 yX1_giveBack ∈ WW := mm_in 608 (by decide +kernel) rfl
theorem mw_I_X1_giveBack : Cond.instanceMethod yX1_giveBack ∈ WW := mm_in 609 (by decide +kernel) rfl
theorem mw_S_X1_giveBack : Cond.selects RX1 yX1_giveBack yX1_giveBack ∈ WW := mm_in 610 (by decide +kernel) rfl
theorem mw_C_X1_giveBack : Cond.code yX1_giveBack cX1_giveBack 2 (some .int) ∈ WW := mm_in 611 (by decide +kernel) rfl
theorem mw_M_L_108 : Cond.methodLink RL 108 yX4_save ∈ WW := mm_in 612 (by decide +kernel) rfl
theorem mw_I_X4_save : Cond.instanceMethod yX4_save ∈ WW := mm_in 613 (by decide +kernel) rfl
theorem mw_S_X4_save : Cond.selects RX4 yX4_save yX4_save ∈ WW := mm_in 614 (by decide +kernel) rfl
theorem mw_C_X4_save : Cond.code yX4_save cX4_save 2 (some .int) ∈ WW := mm_in 615 (by decide +kernel) rfl
theorem mw_M_L_112 : Cond.methodLink RL 112 yX4_restore ∈ WW := mm_in 616 (by decide +kernel) rfl
theorem mw_I_X4_restore : Cond.instanceMethod yX4_restore ∈ WW := mm_in 617 (by decide +kernel) rfl
theorem mw_S_X4_restore : Cond.selects RX4 yX4_restore yX4_restore ∈ WW := mm_in 618 (by decide +kernel) rfl
theorem mw_C_X4_restore : Cond.code yX4_restore cX4_restore 2 (some .int) ∈ WW := mm_in 619 (by decide +kernel) rfl
theorem mw_G_L_10 : Cond.classLink RL 10 RX5 ∈ WW := mm_in 620 (by decide +kernel) rfl
theorem mw_O_X5 : Cond.instantiable RX5 14 ∈ WW := mm_in 621 (by decide +kernel) rfl
theorem mw_M_L_12 : Cond.methodLink RL 12 yX5_init ∈ WW := mm_in 622 (by decide +kernel) rfl
theorem mw_I_X5_init : Cond.instanceMethod yX5_init ∈ WW := mm_in 623 (by decide +kernel) rfl
theorem mw_C_X5_init : Cond.code yX5_init cX5_init 1 none ∈ WW := mm_in 624 (by decide +kernel) rfl
theorem mw_M_X5_1 : Cond.methodLink RX5 1 objectInit ∈ WW := mm_in 625 (by decide +kernel) rfl
theorem mw_F_X5_7 : Cond.fieldLink RX5 7 "SingingWiresModel" "now" "[I" ∈ WW := mm_in 626 (by decide +kernel) rfl
theorem mw_F_X5_13 : Cond.fieldLink RX5 13 "SingingWiresModel" "kept" "[I" ∈ WW := mm_in 627 (by decide +kernel) rfl
theorem mw_F_X5_16 : Cond.fieldLink RX5 16 "SingingWiresModel" "history" "[I" ∈ WW := mm_in 628 (by decide +kernel) rfl
theorem mw_F_X5_39 : Cond.fieldLink RX5 39 "SingingWiresModel" "undos" "I" ∈ WW := mm_in 629 (by decide +kernel) rfl
theorem mw_F_X5_19 : Cond.fieldLink RX5 19 "SingingWiresModel" "saved" "[I" ∈ WW := mm_in 630 (by decide +kernel) rfl
theorem mw_F_X5_22 : Cond.fieldLink RX5 22 "SingingWiresModel" "isSaved" "[Z" ∈ WW := mm_in 631 (by decide +kernel) rfl
theorem mw_F_X5_26 : Cond.fieldLink RX5 26 "SingingWiresModel" "pad" "[I" ∈ WW := mm_in 632 (by decide +kernel) rfl
theorem mw_F_X5_133 : Cond.fieldLink RX5 133 "SingingWiresModel" "signs" "I" ∈ WW := mm_in 633 (by decide +kernel) rfl
theorem mw_F_X5_35 : Cond.fieldLink RX5 35 "SingingWiresModel" "isInText" "Z" ∈ WW := mm_in 634 (by decide +kernel) rfl
theorem mw_F_X5_29 : Cond.fieldLink RX5 29 "SingingWiresModel" "task" "[I" ∈ WW := mm_in 635 (by decide +kernel) rfl
theorem mw_F_X5_32 : Cond.fieldLink RX5 32 "SingingWiresModel" "orders" "[I" ∈ WW := mm_in 636 (by decide +kernel) rfl
theorem mw_F_X5_159 : Cond.fieldLink RX5 159 "SingingWiresModel" "read" "I" ∈ WW := mm_in 637 (by decide +kernel) rfl
theorem mw_F_X5_149 : Cond.fieldLink RX5 149 "SingingWiresModel" "at" "I" ∈ WW := mm_in 638 (by decide +kernel) rfl
theorem mw_F_X5_155 : Cond.fieldLink RX5 155 "SingingWiresModel" "isWrong" "Z" ∈ WW := mm_in 639 (by decide +kernel) rfl
theorem mw_M_L_17 : Cond.methodLink RL 17 yX5_set ∈ WW := mm_in 669 (by decide +kernel) rfl
theorem mw_I_X5_set : Cond.instanceMethod yX5_set ∈ WW := mm_in 670 (by decide +kernel) rfl
theorem mw_S_X5_set : Cond.selects RX5 yX5_set yX5_set ∈ WW := mm_in 671 (by decide +kernel) rfl
theorem mw_C_X5_set : Cond.code yX5_set cX5_set 4 (some .int) ∈ WW := mm_in 672 (by decide +kernel) rfl
theorem mw_M_X5_43 : Cond.methodLink RX5 43 yX5_in ∈ WW := mm_in 673 (by decide +kernel) rfl
theorem mw_T_X5_in : Cond.static yX5_in ∈ WW := mm_in 674 (by decide +kernel) rfl
theorem mw_C_X5_in : Cond.code yX5_in cX5_in 3 (some .boolean) ∈ WW := mm_in 675 (by decide +kernel) rfl
theorem mw_M_X5_84 : Cond.methodLink RX5 84 yX5_record ∈ WW := mm_in 676 (by decide +kernel) rfl
theorem mw_I_X5_record : Cond.instanceMethod yX5_record ∈ WW := mm_in 678 (by decide +kernel) rfl
theorem mw_C_X5_record : Cond.code yX5_record cX5_record 2 none ∈ WW := mm_in 679 (by decide +kernel) rfl
theorem mw_M_L_22 : Cond.methodLink RL 22 yX5_wire ∈ WW := mm_in 680 (by decide +kernel) rfl
theorem mw_I_X5_wire : Cond.instanceMethod yX5_wire ∈ WW := mm_in 681 (by decide +kernel) rfl
theorem mw_S_X5_wire : Cond.selects RX5 yX5_wire yX5_wire ∈ WW := mm_in 682 (by decide +kernel) rfl
theorem mw_C_X5_wire : Cond.code yX5_wire cX5_wire 7 (some .int) ∈ WW := mm_in 683 (by decide +kernel) rfl
theorem mw_K_X5_87 : Cond.constant RX5 87 (50000) ∈ WW := mm_in 684 (by decide +kernel) rfl
theorem mw_M_X5_88 : Cond.methodLink RX5 88 yX5_wireAt ∈ WW := mm_in 685 (by decide +kernel) rfl
theorem mw_I_X5_wireAt : Cond.instanceMethod yX5_wireAt ∈ WW := mm_in 687 (by decide +kernel) rfl
theorem mw_C_X5_wireAt : Cond.code yX5_wireAt cX5_wireAt 4 (some .int) ∈ WW := mm_in 688 (by decide +kernel) rfl
theorem mw_M_X5_47 : Cond.methodLink RX5 47 yX5_of ∈ WW := mm_in 689 (by decide +kernel) rfl
theorem mw_I_X5_of : Cond.instanceMethod yX5_of ∈ WW := mm_in 691 (by decide +kernel) rfl
theorem mw_C_X5_of : Cond.code yX5_of cX5_of 3 (some .int) ∈ WW := mm_in 692 (by decide +kernel) rfl
theorem mw_M_X5_73 : Cond.methodLink RX5 73 yX5_book ∈ WW := mm_in 693 (by decide +kernel) rfl
theorem mw_I_X5_book : Cond.instanceMethod yX5_book ∈ WW := mm_in 695 (by decide +kernel) rfl
theorem mw_C_X5_book : Cond.code yX5_book cX5_book 4 none ∈ WW := mm_in 696 (by decide +kernel) rfl
theorem mw_M_X5_91 : Cond.methodLink RX5 91 yX5_settle ∈ WW := mm_in 697 (by decide +kernel) rfl
theorem mw_I_X5_settle : Cond.instanceMethod yX5_settle ∈ WW := mm_in 699 (by decide +kernel) rfl
theorem mw_C_X5_settle : Cond.code yX5_settle cX5_settle 3 (some .int) ∈ WW := mm_in 700 (by decide +kernel) rfl
theorem mw_M_X5_77 : Cond.methodLink RX5 77 yX5_burst ∈ WW := mm_in 701 (by decide +kernel) rfl
theorem mw_I_X5_burst : Cond.instanceMethod yX5_burst ∈ WW := mm_in 703 (by decide +kernel) rfl
theorem mw_C_X5_burst : Cond.code yX5_burst cX5_burst 5 (some .int) ∈ WW := mm_in 704 (by decide +kernel) rfl
theorem mw_M_X5_61 : Cond.methodLink RX5 61 yX5_wholeBy ∈ WW := mm_in 705 (by decide +kernel) rfl
theorem mw_I_X5_wholeBy : Cond.instanceMethod yX5_wholeBy ∈ WW := mm_in 707 (by decide +kernel) rfl
theorem mw_C_X5_wholeBy : Cond.code yX5_wholeBy cX5_wholeBy 4 (some .int) ∈ WW := mm_in 708 (by decide +kernel) rfl
theorem mw_M_X5_65 : Cond.methodLink RX5 65 yX5_layTasks ∈ WW := mm_in 709 (by decide +kernel) rfl
theorem mw_I_X5_layTasks : Cond.instanceMethod yX5_layTasks ∈ WW := mm_in 711 (by decide +kernel) rfl
theorem mw_C_X5_layTasks : Cond.code yX5_layTasks cX5_layTasks 8 none ∈ WW := mm_in 712 (by decide +kernel) rfl
theorem mw_M_X5_57 : Cond.methodLink RX5 57 yX5_nearest ∈ WW := mm_in 713 (by decide +kernel) rfl
theorem mw_I_X5_nearest : Cond.instanceMethod yX5_nearest ∈ WW := mm_in 715 (by decide +kernel) rfl
theorem mw_C_X5_nearest : Cond.code yX5_nearest cX5_nearest 7 (some .int) ∈ WW := mm_in 716 (by decide +kernel) rfl
theorem mw_M_X5_69 : Cond.methodLink RX5 69 yX5_isWhole ∈ WW := mm_in 717 (by decide +kernel) rfl
theorem mw_I_X5_isWhole : Cond.instanceMethod yX5_isWhole ∈ WW := mm_in 719 (by decide +kernel) rfl
theorem mw_C_X5_isWhole : Cond.code yX5_isWhole cX5_isWhole 2 (some .boolean) ∈ WW := mm_in 720 (by decide +kernel) rfl
theorem mw_M_X5_81 : Cond.methodLink RX5 81 yX5_breakWire ∈ WW := mm_in 721 (by decide +kernel) rfl
theorem mw_I_X5_breakWire : Cond.instanceMethod yX5_breakWire ∈ WW := mm_in 723 (by decide +kernel) rfl
theorem mw_C_X5_breakWire : Cond.code yX5_breakWire cX5_breakWire 2 none ∈ WW := mm_in 724 (by decide +kernel) rfl
theorem mw_M_L_26 : Cond.methodLink RL 26 yX5_load ∈ WW := mm_in 725 (by decide +kernel) rfl
theorem mw_I_X5_load : Cond.instanceMethod yX5_load ∈ WW := mm_in 726 (by decide +kernel) rfl
theorem mw_S_X5_load : Cond.selects RX5 yX5_load yX5_load ∈ WW := mm_in 727 (by decide +kernel) rfl
theorem mw_C_X5_load : Cond.code yX5_load cX5_load 4 (some .int) ∈ WW := mm_in 728 (by decide +kernel) rfl
theorem mw_M_L_31 : Cond.methodLink RL 31 yX5_days ∈ WW := mm_in 729 (by decide +kernel) rfl
theorem mw_I_X5_days : Cond.instanceMethod yX5_days ∈ WW := mm_in 730 (by decide +kernel) rfl
theorem mw_S_X5_days : Cond.selects RX5 yX5_days yX5_days ∈ WW := mm_in 731 (by decide +kernel) rfl
theorem mw_C_X5_days : Cond.code yX5_days cX5_days 4 (some .int) ∈ WW := mm_in 732 (by decide +kernel) rfl
theorem mw_M_X5_97 : Cond.methodLink RX5 97 yX5_pass ∈ WW := mm_in 733 (by decide +kernel) rfl
theorem mw_I_X5_pass : Cond.instanceMethod yX5_pass ∈ WW := mm_in 735 (by decide +kernel) rfl
theorem mw_C_X5_pass : Cond.code yX5_pass cX5_pass 2 (some .int) ∈ WW := mm_in 736 (by decide +kernel) rfl
theorem mw_M_X5_94 : Cond.methodLink RX5 94 yX5_loosened ∈ WW := mm_in 737 (by decide +kernel) rfl
theorem mw_I_X5_loosened : Cond.instanceMethod yX5_loosened ∈ WW := mm_in 739 (by decide +kernel) rfl
theorem mw_C_X5_loosened : Cond.code yX5_loosened cX5_loosened 2 (some .int) ∈ WW := mm_in 740 (by decide +kernel) rfl
theorem mw_M_L_35 : Cond.methodLink RL 35 yX5_walk ∈ WW := mm_in 741 (by decide +kernel) rfl
theorem mw_I_X5_walk : Cond.instanceMethod yX5_walk ∈ WW := mm_in 742 (by decide +kernel) rfl
theorem mw_S_X5_walk : Cond.selects RX5 yX5_walk yX5_walk ∈ WW := mm_in 743 (by decide +kernel) rfl
theorem mw_C_X5_walk : Cond.code yX5_walk cX5_walk 3 (some .int) ∈ WW := mm_in 744 (by decide +kernel) rfl
theorem mw_M_L_40 : Cond.methodLink RL 40 yX5_hear ∈ WW := mm_in 745 (by decide +kernel) rfl
theorem mw_I_X5_hear : Cond.instanceMethod yX5_hear ∈ WW := mm_in 746 (by decide +kernel) rfl
theorem mw_S_X5_hear : Cond.selects RX5 yX5_hear yX5_hear ∈ WW := mm_in 747 (by decide +kernel) rfl
theorem mw_C_X5_hear : Cond.code yX5_hear cX5_hear 5 (some .int) ∈ WW := mm_in 748 (by decide +kernel) rfl
theorem mw_M_X5_100 : Cond.methodLink RX5 100 yX5_know ∈ WW := mm_in 749 (by decide +kernel) rfl
theorem mw_I_X5_know : Cond.instanceMethod yX5_know ∈ WW := mm_in 751 (by decide +kernel) rfl
theorem mw_C_X5_know : Cond.code yX5_know cX5_know 4 none ∈ WW := mm_in 752 (by decide +kernel) rfl
theorem mw_M_X5_103 : Cond.methodLink RX5 103 yX5_pitch ∈ WW := mm_in 753 (by decide +kernel) rfl
theorem mw_I_X5_pitch : Cond.instanceMethod yX5_pitch ∈ WW := mm_in 755 (by decide +kernel) rfl
theorem mw_C_X5_pitch : Cond.code yX5_pitch cX5_pitch 7 (some .int) ∈ WW := mm_in 756 (by decide +kernel) rfl
theorem mw_L_X5_51 : Cond.constantLong RX5 51 (1000000) ∈ WW := mm_in 757 (by decide +kernel) rfl
theorem mw_M_X5_53 : Cond.methodLink RX5 53 yX5_weight ∈ WW := mm_in 758 (by decide +kernel) rfl
theorem mw_I_X5_weight : Cond.instanceMethod yX5_weight ∈ WW := mm_in 760 (by decide +kernel) rfl
theorem mw_C_X5_weight : Cond.code yX5_weight cX5_weight 2 (some .long) ∈ WW := mm_in 761 (by decide +kernel) rfl
theorem mw_M_X5_106 : Cond.methodLink RX5 106 yX5_leastFor ∈ WW := mm_in 762 (by decide +kernel) rfl
theorem mw_I_X5_leastFor : Cond.instanceMethod yX5_leastFor ∈ WW := mm_in 764 (by decide +kernel) rfl
theorem mw_C_X5_leastFor : Cond.code yX5_leastFor cX5_leastFor 3 (some .long) ∈ WW := mm_in 765 (by decide +kernel) rfl
theorem mw_L_X5_110 : Cond.constantLong RX5 110 (50000) ∈ WW := mm_in 766 (by decide +kernel) rfl
theorem mw_M_L_44 : Cond.methodLink RL 44 yX5_tighten ∈ WW := mm_in 767 (by decide +kernel) rfl
theorem mw_I_X5_tighten : Cond.instanceMethod yX5_tighten ∈ WW := mm_in 768 (by decide +kernel) rfl
theorem mw_S_X5_tighten : Cond.selects RX5 yX5_tighten yX5_tighten ∈ WW := mm_in 769 (by decide +kernel) rfl
theorem mw_C_X5_tighten : Cond.code yX5_tighten cX5_tighten 4 (some .int) ∈ WW := mm_in 770 (by decide +kernel) rfl
theorem mw_M_L_48 : Cond.methodLink RL 48 yX5_ofWire ∈ WW := mm_in 771 (by decide +kernel) rfl
theorem mw_I_X5_ofWire : Cond.instanceMethod yX5_ofWire ∈ WW := mm_in 772 (by decide +kernel) rfl
theorem mw_S_X5_ofWire : Cond.selects RX5 yX5_ofWire yX5_ofWire ∈ WW := mm_in 773 (by decide +kernel) rfl
theorem mw_C_X5_ofWire : Cond.code yX5_ofWire cX5_ofWire 3 (some .int) ∈ WW := mm_in 774 (by decide +kernel) rfl
theorem mw_M_X5_112 : Cond.methodLink RX5 112 yX5_isWire ∈ WW := mm_in 775 (by decide +kernel) rfl
theorem mw_I_X5_isWire : Cond.instanceMethod yX5_isWire ∈ WW := mm_in 777 (by decide +kernel) rfl
theorem mw_C_X5_isWire : Cond.code yX5_isWire cX5_isWire 2 (some .boolean) ∈ WW := mm_in 778 (by decide +kernel) rfl
theorem mw_M_X5_115 : Cond.methodLink RX5 115 yX5_isSlack ∈ WW := mm_in 779 (by decide +kernel) rfl
theorem mw_I_X5_isSlack : Cond.instanceMethod yX5_isSlack ∈ WW := mm_in 781 (by decide +kernel) rfl
theorem mw_C_X5_isSlack : Cond.code yX5_isSlack cX5_isSlack 2 (some .boolean) ∈ WW := mm_in 782 (by decide +kernel) rfl
theorem mw_M_X5_118 : Cond.methodLink RX5 118 yX5_isTight ∈ WW := mm_in 783 (by decide +kernel) rfl
theorem mw_I_X5_isTight : Cond.instanceMethod yX5_isTight ∈ WW := mm_in 785 (by decide +kernel) rfl
theorem mw_C_X5_isTight : Cond.code yX5_isTight cX5_isTight 3 (some .boolean) ∈ WW := mm_in 786 (by decide +kernel) rfl
theorem mw_M_L_52 : Cond.methodLink RL 52 yX5_known ∈ WW := mm_in 787 (by decide +kernel) rfl
theorem mw_I_X5_known : Cond.instanceMethod yX5_known ∈ WW := mm_in 788 (by decide +kernel) rfl
theorem mw_S_X5_known : Cond.selects RX5 yX5_known yX5_known ∈ WW := mm_in 789 (by decide +kernel) rfl
theorem mw_C_X5_known : Cond.code yX5_known cX5_known 3 (some .int) ∈ WW := mm_in 790 (by decide +kernel) rfl
theorem mw_M_X5_121 : Cond.methodLink RX5 121 yX5_isSurely ∈ WW := mm_in 791 (by decide +kernel) rfl
theorem mw_I_X5_isSurely : Cond.instanceMethod yX5_isSurely ∈ WW := mm_in 793 (by decide +kernel) rfl
theorem mw_C_X5_isSurely : Cond.code yX5_isSurely cX5_isSurely 2 (some .boolean) ∈ WW := mm_in 794 (by decide +kernel) rfl
theorem mw_M_X5_124 : Cond.methodLink RX5 124 yX5_mayBe ∈ WW := mm_in 795 (by decide +kernel) rfl
theorem mw_I_X5_mayBe : Cond.instanceMethod yX5_mayBe ∈ WW := mm_in 797 (by decide +kernel) rfl
theorem mw_C_X5_mayBe : Cond.code yX5_mayBe cX5_mayBe 2 (some .boolean) ∈ WW := mm_in 798 (by decide +kernel) rfl
theorem mw_M_L_56 : Cond.methodLink RL 56 yX5_count ∈ WW := mm_in 799 (by decide +kernel) rfl
theorem mw_I_X5_count : Cond.instanceMethod yX5_count ∈ WW := mm_in 800 (by decide +kernel) rfl
theorem mw_S_X5_count : Cond.selects RX5 yX5_count yX5_count ∈ WW := mm_in 801 (by decide +kernel) rfl
theorem mw_C_X5_count : Cond.code yX5_count cX5_count 2 (some .int) ∈ WW := mm_in 802 (by decide +kernel) rfl
theorem mw_M_X5_127 : Cond.methodLink RX5 127 yX5_wiresWith ∈ WW := mm_in 803 (by decide +kernel) rfl
theorem mw_I_X5_wiresWith : Cond.instanceMethod yX5_wiresWith ∈ WW := mm_in 805 (by decide +kernel) rfl
theorem mw_C_X5_wiresWith : Cond.code yX5_wiresWith cX5_wiresWith 5 (some .int) ∈ WW := mm_in 806 (by decide +kernel) rfl
theorem mw_M_X5_130 : Cond.methodLink RX5 130 yX5_loads ∈ WW := mm_in 807 (by decide +kernel) rfl
theorem mw_I_X5_loads : Cond.instanceMethod yX5_loads ∈ WW := mm_in 809 (by decide +kernel) rfl
theorem mw_C_X5_loads : Cond.code yX5_loads cX5_loads 3 (some .int) ∈ WW := mm_in 810 (by decide +kernel) rfl
theorem mw_M_L_60 : Cond.methodLink RL 60 yX5_pitchAt ∈ WW := mm_in 811 (by decide +kernel) rfl
theorem mw_I_X5_pitchAt : Cond.instanceMethod yX5_pitchAt ∈ WW := mm_in 812 (by decide +kernel) rfl
theorem mw_S_X5_pitchAt : Cond.selects RX5 yX5_pitchAt yX5_pitchAt ∈ WW := mm_in 813 (by decide +kernel) rfl
theorem mw_C_X5_pitchAt : Cond.code yX5_pitchAt cX5_pitchAt 3 (some .int) ∈ WW := mm_in 814 (by decide +kernel) rfl
theorem mw_M_L_64 : Cond.methodLink RL 64 yX5_tensionFor ∈ WW := mm_in 815 (by decide +kernel) rfl
theorem mw_I_X5_tensionFor : Cond.instanceMethod yX5_tensionFor ∈ WW := mm_in 816 (by decide +kernel) rfl
theorem mw_S_X5_tensionFor : Cond.selects RX5 yX5_tensionFor yX5_tensionFor ∈ WW := mm_in 817 (by decide +kernel) rfl
theorem mw_C_X5_tensionFor : Cond.code yX5_tensionFor cX5_tensionFor 5 (some .int) ∈ WW := mm_in 818 (by decide +kernel) rfl
theorem mw_K_X5_136 : Cond.constant RX5 136 (100000) ∈ WW := mm_in 819 (by decide +kernel) rfl
theorem mw_M_L_68 : Cond.methodLink RL 68 yX5_fallsWith ∈ WW := mm_in 820 (by decide +kernel) rfl
theorem mw_I_X5_fallsWith : Cond.instanceMethod yX5_fallsWith ∈ WW := mm_in 821 (by decide +kernel) rfl
theorem mw_S_X5_fallsWith : Cond.selects RX5 yX5_fallsWith yX5_fallsWith ∈ WW := mm_in 822 (by decide +kernel) rfl
theorem mw_C_X5_fallsWith : Cond.code yX5_fallsWith cX5_fallsWith 2 (some .int) ∈ WW := mm_in 823 (by decide +kernel) rfl
theorem mw_M_X5_143 : Cond.methodLink RX5 143 yX5_fallen ∈ WW := mm_in 824 (by decide +kernel) rfl
theorem mw_I_X5_fallen : Cond.instanceMethod yX5_fallen ∈ WW := mm_in 826 (by decide +kernel) rfl
theorem mw_C_X5_fallen : Cond.code yX5_fallen cX5_fallen 4 (some .int) ∈ WW := mm_in 827 (by decide +kernel) rfl
theorem mw_M_X5_137 : Cond.methodLink RX5 137 yX5_keep ∈ WW := mm_in 828 (by decide +kernel) rfl
theorem mw_I_X5_keep : Cond.instanceMethod yX5_keep ∈ WW := mm_in 830 (by decide +kernel) rfl
theorem mw_C_X5_keep : Cond.code yX5_keep cX5_keep 2 none ∈ WW := mm_in 831 (by decide +kernel) rfl
theorem mw_M_X5_140 : Cond.methodLink RX5 140 yX5_comeBack ∈ WW := mm_in 832 (by decide +kernel) rfl
theorem mw_I_X5_comeBack : Cond.instanceMethod yX5_comeBack ∈ WW := mm_in 834 (by decide +kernel) rfl
theorem mw_C_X5_comeBack : Cond.code yX5_comeBack cX5_comeBack 2 none ∈ WW := mm_in 835 (by decide +kernel) rfl
theorem mw_M_L_72 : Cond.methodLink RL 72 yX5_mostAt ∈ WW := mm_in 836 (by decide +kernel) rfl
theorem mw_I_X5_mostAt : Cond.instanceMethod yX5_mostAt ∈ WW := mm_in 837 (by decide +kernel) rfl
theorem mw_S_X5_mostAt : Cond.selects RX5 yX5_mostAt yX5_mostAt ∈ WW := mm_in 838 (by decide +kernel) rfl
theorem mw_C_X5_mostAt : Cond.code yX5_mostAt cX5_mostAt 4 (some .int) ∈ WW := mm_in 839 (by decide +kernel) rfl
theorem mw_M_L_76 : Cond.methodLink RL 76 yX5_slackIn ∈ WW := mm_in 840 (by decide +kernel) rfl
theorem mw_I_X5_slackIn : Cond.instanceMethod yX5_slackIn ∈ WW := mm_in 841 (by decide +kernel) rfl
theorem mw_S_X5_slackIn : Cond.selects RX5 yX5_slackIn yX5_slackIn ∈ WW := mm_in 842 (by decide +kernel) rfl
theorem mw_C_X5_slackIn : Cond.code yX5_slackIn cX5_slackIn 4 (some .int) ∈ WW := mm_in 843 (by decide +kernel) rfl
theorem mw_M_L_80 : Cond.methodLink RL 80 yX5_round ∈ WW := mm_in 844 (by decide +kernel) rfl
theorem mw_I_X5_round : Cond.instanceMethod yX5_round ∈ WW := mm_in 845 (by decide +kernel) rfl
theorem mw_S_X5_round : Cond.selects RX5 yX5_round yX5_round ∈ WW := mm_in 846 (by decide +kernel) rfl
theorem mw_C_X5_round : Cond.code yX5_round cX5_round 5 (some .int) ∈ WW := mm_in 847 (by decide +kernel) rfl
theorem mw_M_L_84 : Cond.methodLink RL 84 yX5_weakest ∈ WW := mm_in 848 (by decide +kernel) rfl
theorem mw_I_X5_weakest : Cond.instanceMethod yX5_weakest ∈ WW := mm_in 849 (by decide +kernel) rfl
theorem mw_S_X5_weakest : Cond.selects RX5 yX5_weakest yX5_weakest ∈ WW := mm_in 850 (by decide +kernel) rfl
theorem mw_C_X5_weakest : Cond.code yX5_weakest cX5_weakest 6 (some .int) ∈ WW := mm_in 851 (by decide +kernel) rfl
theorem mw_M_X5_146 : Cond.methodLink RX5 146 yX5_size ∈ WW := mm_in 852 (by decide +kernel) rfl
theorem mw_T_X5_size : Cond.static yX5_size ∈ WW := mm_in 853 (by decide +kernel) rfl
theorem mw_C_X5_size : Cond.code yX5_size cX5_size 3 (some .int) ∈ WW := mm_in 854 (by decide +kernel) rfl
theorem mw_M_L_91 : Cond.methodLink RL 91 yX5_put ∈ WW := mm_in 855 (by decide +kernel) rfl
theorem mw_I_X5_put : Cond.instanceMethod yX5_put ∈ WW := mm_in 856 (by decide +kernel) rfl
theorem mw_S_X5_put : Cond.selects RX5 yX5_put yX5_put ∈ WW := mm_in 857 (by decide +kernel) rfl
theorem mw_C_X5_put : Cond.code yX5_put cX5_put 7 (some .int) ∈ WW := mm_in 858 (by decide +kernel) rfl
theorem mw_L_X5_168 : Cond.constantLong RX5 168 (255) ∈ WW := mm_in 859 (by decide +kernel) rfl
theorem mw_M_L_95 : Cond.methodLink RL 95 yX5_wipe ∈ WW := mm_in 860 (by decide +kernel) rfl
theorem mw_I_X5_wipe : Cond.instanceMethod yX5_wipe ∈ WW := mm_in 861 (by decide +kernel) rfl
theorem mw_S_X5_wipe : Cond.selects RX5 yX5_wipe yX5_wipe ∈ WW := mm_in 862 (by decide +kernel) rfl
theorem mw_C_X5_wipe : Cond.code yX5_wipe cX5_wipe 2 (some .int) ∈ WW := mm_in 863 (by decide +kernel) rfl
theorem mw_M_L_99 : Cond.methodLink RL 99 yX5_fault ∈ WW := mm_in 864 (by decide +kernel) rfl
theorem mw_I_X5_fault : Cond.instanceMethod yX5_fault ∈ WW := mm_in 865 (by decide +kernel) rfl
theorem mw_S_X5_fault : Cond.selects RX5 yX5_fault yX5_fault ∈ WW := mm_in 866 (by decide +kernel) rfl
theorem mw_C_X5_fault : Cond.code yX5_fault cX5_fault 1 (some .int) ∈ WW := mm_in 867 (by decide +kernel) rfl
theorem mw_M_X5_170 : Cond.methodLink RX5 170 yX5_faultOf ∈ WW := mm_in 868 (by decide +kernel) rfl
theorem mw_I_X5_faultOf : Cond.instanceMethod yX5_faultOf ∈ WW := mm_in 870 (by decide +kernel) rfl
theorem mw_C_X5_faultOf : Cond.code yX5_faultOf cX5_faultOf 1 (some .int) ∈ WW := mm_in 871 (by decide +kernel) rfl
theorem mw_M_X5_165 : Cond.methodLink RX5 165 yX5_readOne ∈ WW := mm_in 872 (by decide +kernel) rfl
theorem mw_I_X5_readOne : Cond.instanceMethod yX5_readOne ∈ WW := mm_in 874 (by decide +kernel) rfl
theorem mw_C_X5_readOne : Cond.code yX5_readOne cX5_readOne 3 none ∈ WW := mm_in 875 (by decide +kernel) rfl
theorem mw_M_X5_152 : Cond.methodLink RX5 152 yX5_sign ∈ WW := mm_in 876 (by decide +kernel) rfl
theorem mw_I_X5_sign : Cond.instanceMethod yX5_sign ∈ WW := mm_in 878 (by decide +kernel) rfl
theorem mw_C_X5_sign : Cond.code yX5_sign cX5_sign 1 (some .int) ∈ WW := mm_in 879 (by decide +kernel) rfl
theorem mw_M_X5_162 : Cond.methodLink RX5 162 yX5_number ∈ WW := mm_in 880 (by decide +kernel) rfl
theorem mw_I_X5_number : Cond.instanceMethod yX5_number ∈ WW := mm_in 882 (by decide +kernel) rfl
theorem mw_C_X5_number : Cond.code yX5_number cX5_number 2 (some .int) ∈ WW := mm_in 883 (by decide +kernel) rfl
theorem mw_K_X5_158 : Cond.constant RX5 158 (99999) ∈ WW := mm_in 884 (by decide +kernel) rfl
theorem mw_M_L_103 : Cond.methodLink RL 103 yX5_carryOut ∈ WW := mm_in 885 (by decide +kernel) rfl
theorem mw_I_X5_carryOut : Cond.instanceMethod yX5_carryOut ∈ WW := mm_in 886 (by decide +kernel) rfl
theorem mw_S_X5_carryOut : Cond.selects RX5 yX5_carryOut yX5_carryOut ∈ WW := mm_in 887 (by decide +kernel) rfl
theorem mw_C_X5_carryOut : Cond.code yX5_carryOut cX5_carryOut 4 (some .int) ∈ WW := mm_in 888 (by decide +kernel) rfl
theorem mw_M_X5_188 : Cond.methodLink RX5 188 yX5_carry ∈ WW := mm_in 889 (by decide +kernel) rfl
theorem mw_I_X5_carry : Cond.instanceMethod yX5_carry ∈ WW := mm_in 891 (by decide +kernel) rfl
theorem mw_C_X5_carry : Cond.code yX5_carry cX5_carry 3 (some .int) ∈ WW := mm_in 892 (by decide +kernel) rfl
theorem mw_M_X5_173 : Cond.methodLink RX5 173 yX5_walk ∈ WW := mm_in 893 (by decide +kernel) rfl
theorem mw_M_X5_176 : Cond.methodLink RX5 176 yX5_hear ∈ WW := mm_in 894 (by decide +kernel) rfl
theorem mw_M_X5_179 : Cond.methodLink RX5 179 yX5_tighten ∈ WW := mm_in 895 (by decide +kernel) rfl
theorem mw_M_X5_182 : Cond.methodLink RX5 182 yX5_load ∈ WW := mm_in 896 (by decide +kernel) rfl
theorem mw_M_X5_185 : Cond.methodLink RX5 185 yX5_days ∈ WW := mm_in 897 (by decide +kernel) rfl
theorem mw_M_L_107 : Cond.methodLink RL 107 yX5_undo ∈ WW := mm_in 898 (by decide +kernel) rfl
theorem mw_I_X5_undo : Cond.instanceMethod yX5_undo ∈ WW := mm_in 899 (by decide +kernel) rfl
theorem mw_S_X5_undo : Cond.selects RX5 yX5_undo yX5_undo ∈ WW := mm_in 900 (by decide +kernel) rfl
theorem mw_C_X5_undo : Cond.code yX5_undo cX5_undo 2 (some .int) ∈ WW := mm_in 901 (by decide +kernel) rfl
theorem mw_M_L_111 : Cond.methodLink RL 111 yX5_save ∈ WW := mm_in 902 (by decide +kernel) rfl
theorem mw_I_X5_save : Cond.instanceMethod yX5_save ∈ WW := mm_in 903 (by decide +kernel) rfl
theorem mw_S_X5_save : Cond.selects RX5 yX5_save yX5_save ∈ WW := mm_in 904 (by decide +kernel) rfl
theorem mw_C_X5_save : Cond.code yX5_save cX5_save 3 (some .int) ∈ WW := mm_in 905 (by decide +kernel) rfl
theorem mw_M_L_115 : Cond.methodLink RL 115 yX5_restore ∈ WW := mm_in 906 (by decide +kernel) rfl
theorem mw_I_X5_restore : Cond.instanceMethod yX5_restore ∈ WW := mm_in 907 (by decide +kernel) rfl
theorem mw_S_X5_restore : Cond.selects RX5 yX5_restore yX5_restore ∈ WW := mm_in 908 (by decide +kernel) rfl
theorem mw_C_X5_restore : Cond.code yX5_restore cX5_restore 3 (some .int) ∈ WW := mm_in 909 (by decide +kernel) rfl
theorem mw_L_L_85 : Cond.constantLong RL 85 (4294967295) ∈ WW := mm_in 910 (by decide +kernel) rfl
theorem mw_C_object : Cond.code objectInit ⟨#[0xb1]⟩ 1 none ∈ WW := mm_in 52 (by decide +kernel) rfl
theorem mw_X_X0_24 : Cond.methodLinkNest RX0 24 yX3_init RX4 ∈ lw_tbl := List.mem_of_getElem? (i := 62) (by decide +kernel)
theorem mw_X_X1_22 : Cond.methodLinkNest RX1 22 yX4_within RX4 ∈ lw_tbl := List.mem_of_getElem? (i := 240) (by decide +kernel)
theorem mw_X_X0_67 : Cond.methodLinkNest RX0 67 yX4_within RX4 ∈ lw_tbl := List.mem_of_getElem? (i := 258) (by decide +kernel)
theorem mw_X_X1_30 : Cond.methodLinkNest RX1 30 yX4_isError RX4 ∈ lw_tbl := List.mem_of_getElem? (i := 263) (by decide +kernel)
theorem mw_X_X3_75 : Cond.methodLinkNest RX3 75 yX4_crept RX4 ∈ lw_tbl := List.mem_of_getElem? (i := 327) (by decide +kernel)
theorem mw_X_X0_147 : Cond.methodLinkNest RX0 147 yX4_oneIf RX4 ∈ lw_tbl := List.mem_of_getElem? (i := 446) (by decide +kernel)
theorem mw_X_X2_27 : Cond.methodLinkNest RX2 27 yX4_within RX4 ∈ lw_tbl := List.mem_of_getElem? (i := 534) (by decide +kernel)
theorem mw_W_X0 : ∀ w ∈ wsX00, w ∈ WW := by
  intro w hw
  refine List.mem_filter.mpr ⟨?_, List.all_eq_true.mp (show wsX00.all goodWord = true by decide +kernel) w hw⟩
  rw [show wsX00 = [137, 139, 141, 143, 145, 147, 149, 151, 153].filterMap (fun i => lw_tbl[i]?) by decide +kernel] at hw
  obtain ⟨i, -, hi⟩ := List.mem_filterMap.mp hw
  exact List.mem_of_getElem? hi
theorem mw_W_X1 : ∀ w ∈ wsX10, w ∈ WW := by
  intro w hw
  refine List.mem_filter.mpr ⟨?_, List.all_eq_true.mp (show wsX10.all goodWord = true by decide +kernel) w hw⟩
  rw [show wsX10 = [168, 170].filterMap (fun i => lw_tbl[i]?) by decide +kernel] at hw
  obtain ⟨i, -, hi⟩ := List.mem_filterMap.mp hw
  exact List.mem_of_getElem? hi
theorem mw_W_X2 : ∀ w ∈ wsX20, w ∈ WW := by
  intro w hw
  refine List.mem_filter.mpr ⟨?_, List.all_eq_true.mp (show wsX20.all goodWord = true by decide +kernel) w hw⟩
  rw [show wsX20 = [192, 194, 196, 198, 200, 202, 204, 206, 208].filterMap (fun i => lw_tbl[i]?) by decide +kernel] at hw
  obtain ⟨i, -, hi⟩ := List.mem_filterMap.mp hw
  exact List.mem_of_getElem? hi
theorem mw_W_X3 : ∀ w ∈ wsX30, w ∈ WW := by
  intro w hw
  refine List.mem_filter.mpr ⟨?_, List.all_eq_true.mp (show wsX30.all goodWord = true by decide +kernel) w hw⟩
  rw [show wsX30 = [96, 98, 100, 102, 104, 106, 108, 110, 112, 114, 116, 118].filterMap (fun i => lw_tbl[i]?) by decide +kernel] at hw
  obtain ⟨i, -, hi⟩ := List.mem_filterMap.mp hw
  exact List.mem_of_getElem? hi
theorem mw_W_X4 : ∀ w ∈ wsX40, w ∈ WW := by
  intro w hw
  refine List.mem_filter.mpr ⟨?_, List.all_eq_true.mp (show wsX40.all goodWord = true by decide +kernel) w hw⟩
  rw [show wsX40 = [219, 221, 223, 225, 227, 229].filterMap (fun i => lw_tbl[i]?) by decide +kernel] at hw
  obtain ⟨i, -, hi⟩ := List.mem_filterMap.mp hw
  exact List.mem_of_getElem? hi
theorem mw_W_X5 : ∀ w ∈ wsX50, w ∈ WW := by
  intro w hw
  refine List.mem_filter.mpr ⟨?_, List.all_eq_true.mp (show wsX50.all goodWord = true by decide +kernel) w hw⟩
  rw [show wsX50 = [640, 642, 644, 646, 648, 650, 652, 654, 656, 658, 660, 662, 664, 666].filterMap (fun i => lw_tbl[i]?) by decide +kernel] at hw
  obtain ⟨i, -, hi⟩ := List.mem_filterMap.mp hw
  exact List.mem_of_getElem? hi
end
section
/-! THE MEMORY: every cell of the system is a row of ints; the references never change (but for the history's row of states, that holds numbers of bridges) -/
abbrev Mem : Type := Nat → Nat → Int32
abbrev gG : Type := va_G × (Nat → Nat) × (Nat → ClassId)
abbrev gad (G : gG) (j : Nat) : Nat := G.2.1 j
/-- cells of bridge b: the object, loads, wireAt, the row of wires, its wires -/
def mm_B (b : Nat) : Nat := 16 + 12 * b
def mm_L (b : Nat) : Nat := 17 + 12 * b
def mm_A (b : Nat) : Nat := 18 + 12 * b
def mm_R (b : Nat) : Nat := 19 + 12 * b
def mm_W (b k : Nat) : Nat := 20 + 12 * b + k
def mm_wr (S : Mem) (j k : Nat) (x : Int32) : Mem := fun j' => if j' = j then upd (S j) k x else S j'
theorem mm_wr_eq (S : Mem) (j k : Nat) (x : Int32) (a b : Nat) : mm_wr S j k x a b = if a = j ∧ b = k then x else S a b := by
  unfold mm_wr upd
  by_cases h : a = j
  · subst h
    by_cases h2 : b = k
    · simp [h2]
    · simp [h2]
  · simp [h]
theorem mm_wr_s (S : Mem) (j k : Nat) (x : Int32) : mm_wr S j k x j k = x := by rw [mm_wr_eq]; simp
theorem mm_wr_n (S : Mem) {j k a b : Nat} (x : Int32) (h : a ≠ j ∨ b ≠ k) : mm_wr S j k x a b = S a b := by
  rw [mm_wr_eq, if_neg]
  rintro ⟨rfl, rfl⟩
  rcases h with h | h <;> exact h rfl
theorem mm_wr_row (S : Mem) (j k : Nat) (x : Int32) : mm_wr S j k x j = upd (S j) k x := by simp [mm_wr]
theorem mm_wr_orow (S : Mem) {j k a : Nat} (x : Int32) (h : a ≠ j) : mm_wr S j k x a = S a := by simp [mm_wr, h]
def mm_q (f : Nat → Option Nat) : (Nat → Int32) ⊕ (Nat → Int64) ⊕ (Nat → UInt32) ⊕ (Nat → UInt64) ⊕ (Nat → Option Nat) := .inr (.inr (.inr (.inr f)))
/-- what the cell j holds, when its row is r -/
def mm_enc (G : gG) (j : Nat) (r : Nat → Int32) : va_E :=
  if j = 0 then .inr (4, [.ref (gad G 16), .ref (gad G 28), .ref (gad G 3), .ref (gad G 1), .ref (gad G 2), .ref (gad G 5)]) else
  if j = 1 then .inl (G.2.2 4, 2, .inr (.inr (.inr (.inr (fun i => some (gad G (mm_B (2 + i)))))))) else
  if j = 2 then .inl (G.2.2 1, 2, .inl r) else
  if j = 3 then .inr (1, [.ref (gad G 4), .int (r 1)]) else
  if j = 4 then .inl (G.2.2 4, 7, .inr (.inr (.inr (.inr (fun i => some (gad G (mm_B (r i).toNatClampNeg))))))) else
  if j = 5 then .inr (2, [.ref (gad G 6), .int (r 1), .int (r 2), .int (r 3), .int (r 4), .int (r 5), .int (r 6), .int (r 7), .int (r 8)]) else
  if j = 6 then .inl (G.2.2 2, 60, .inl r) else
  if j = 7 then .inr (5, [.ref (gad G 8), .ref (gad G 9), .ref (gad G 10), .int (r 3), .ref (gad G 11), .ref (gad G 12), .ref (gad G 13), .int (r 7), .int (r 8), .ref (gad G 14), .ref (gad G 15), .int (r 11), .int (r 12), .int (r 13)]) else
  if j = 8 then .inl (G.2.2 0, 150, .inl r) else
  if j = 9 then .inl (G.2.2 0, 150, .inl r) else
  if j = 10 then .inl (G.2.2 0, 900, .inl r) else
  if j = 11 then .inl (G.2.2 0, 300, .inl r) else
  if j = 12 then .inl (G.2.2 1, 2, .inl r) else
  if j = 13 then .inl (G.2.2 0, 60, .inl r) else
  if j = 14 then .inl (G.2.2 0, 8, .inl r) else
  if j = 15 then .inl (G.2.2 0, 180, .inl r) else
  if (j - 16) % 12 = 0 then .inr (0, [.ref (gad G (j + 1)), .ref (gad G (j + 2)), .ref (gad G (j + 3)), .int (r 3), .int (r 4), .int (r 5), .int (r 6), .int (r 7), .int (r 8)]) else
  if (j - 16) % 12 = 1 then .inl (G.2.2 0, 20, .inl r) else
  if (j - 16) % 12 = 2 then .inl (G.2.2 0, 20, .inl r) else
  if (j - 16) % 12 = 3 then .inl (G.2.2 3, 8, .inr (.inr (.inr (.inr (fun i => some (gad G (j + 1 + i))))))) else
  .inr (3, [.int (r 0), .int (r 1), .int (r 2), .int (r 3), .int (r 4), .int (r 5), .int (r 6), .int (r 7), .int (r 8), .int (r 9), .int (r 10), .int (r 11)])
theorem mm_enc_B (G : gG) (b : Nat) (r : Nat → Int32) : mm_enc G (mm_B b) r = .inr (0, [.ref (gad G (mm_L b)), .ref (gad G (mm_A b)), .ref (gad G (mm_R b)), .int (r 3), .int (r 4), .int (r 5), .int (r 6), .int (r 7), .int (r 8)]) := by
  unfold mm_enc mm_B mm_L mm_A mm_R
  have e0 : (16 + 12 * b - 16) % 12 = 0 := by omega
  simp only [e0, show ∀ k, k < 16 → (16 + 12 * b = k) = False from fun k h => by simp; omega, if_true, if_false, show 16 + 12 * b + 1 = 17 + 12 * b by omega, show 16 + 12 * b + 2 = 18 + 12 * b by omega, show 16 + 12 * b + 3 = 19 + 12 * b by omega, Nat.reduceLT]
theorem mm_enc_hi (G : gG) {j : Nat} (h : 16 ≤ j) (r : Nat → Int32) : mm_enc G j r = if (j - 16) % 12 = 0 then .inr (0, [.ref (gad G (j + 1)), .ref (gad G (j + 2)), .ref (gad G (j + 3)), .int (r 3), .int (r 4), .int (r 5), .int (r 6), .int (r 7), .int (r 8)]) else
  if (j - 16) % 12 = 1 then .inl (G.2.2 0, 20, .inl r) else
  if (j - 16) % 12 = 2 then .inl (G.2.2 0, 20, .inl r) else
  if (j - 16) % 12 = 3 then .inl (G.2.2 3, 8, .inr (.inr (.inr (.inr (fun i => some (gad G (j + 1 + i))))))) else
  .inr (3, [.int (r 0), .int (r 1), .int (r 2), .int (r 3), .int (r 4), .int (r 5), .int (r 6), .int (r 7), .int (r 8), .int (r 9), .int (r 10), .int (r 11)]) := by
  unfold mm_enc
  simp only [show ∀ k, k < 16 → (j = k) = False from fun k h => by simp; omega, if_false, Nat.reduceLT]
theorem mm_enc_L (G : gG) (b : Nat) (r : Nat → Int32) : mm_enc G (mm_L b) r = .inl (G.2.2 0, 20, .inl r) := by
  unfold mm_L
  rw [mm_enc_hi G (by omega), if_neg (by omega), if_pos (by omega)]
theorem mm_enc_A (G : gG) (b : Nat) (r : Nat → Int32) : mm_enc G (mm_A b) r = .inl (G.2.2 0, 20, .inl r) := by
  unfold mm_A
  rw [mm_enc_hi G (by omega), if_neg (by omega), if_neg (by omega), if_pos (by omega)]
theorem mm_enc_R (G : gG) (b : Nat) (r : Nat → Int32) : mm_enc G (mm_R b) r = .inl (G.2.2 3, 8, .inr (.inr (.inr (.inr (fun i => some (gad G (mm_W b i))))))) := by
  unfold mm_R mm_W
  rw [mm_enc_hi G (by omega), if_neg (by omega), if_neg (by omega), if_neg (by omega), if_pos (by omega)]
  simp only [show ∀ i, 19 + 12 * b + 1 + i = 20 + 12 * b + i from fun i => by omega]
theorem mm_enc_W (G : gG) (b : Nat) {k : Nat} (hk : k < 8) (r : Nat → Int32) : mm_enc G (mm_W b k) r = .inr (3, [.int (r 0), .int (r 1), .int (r 2), .int (r 3), .int (r 4), .int (r 5), .int (r 6), .int (r 7), .int (r 8), .int (r 9), .int (r 10), .int (r 11)]) := by
  unfold mm_W
  rw [mm_enc_hi G (by omega), if_neg (by omega), if_neg (by omega), if_neg (by omega), if_neg (by omega)]
/-- the type of a place -/
def mm_ty (j k : Nat) : FieldType :=
  if j = 2 ∨ j = 12 then .boolean else if j = 6 then .char else if j = 5 then (if k = 3 then .char else if k = 7 then .boolean else .int) else
  if j = 7 then (if k = 8 ∨ k = 13 then .boolean else .int) else if 20 ≤ j ∧ 4 ≤ (j - 16) % 12 ∧ (k = 6 ∨ k = 11) then .boolean else .int
def mm_ok (ty : FieldType) (x : Int32) : Prop := narrow ty (.int x) = .int x ∧ fits ty (.int x) = true
def mm_okS (S : Mem) : Prop := ∀ j k, mm_ok (mm_ty j k) (S j k)
theorem mm_ok_int (x : Int32) : mm_ok .int x := ⟨rfl, rfl⟩
theorem mm_ok_b (x : Int32) (h : x = 0 ∨ x = 1) : mm_ok .boolean x := by
  rcases h with rfl | rfl <;> exact ⟨by decide +kernel, by decide +kernel⟩
theorem mm_okS_wr {S : Mem} {j k : Nat} {x : Int32} (h : mm_okS S) (hx : mm_ok (mm_ty j k) x) : mm_okS (mm_wr S j k x) := by
  intro a b
  rw [mm_wr_eq]
  by_cases c : a = j ∧ b = k
  · rw [if_pos c, c.1, c.2]; exact hx
  · rw [if_neg c]; exact h a b
def mm_H (G : gG) (S : Mem) (H : Heap) : Prop := mm_okS S ∧ ∀ j, j < 148 → va_at G.1 vwCl (gad G j, mm_enc G j (S j)) H
def mm_tys (G : gG) : List (ClassId × FieldType) := [(G.2.2 0, .int), (G.2.2 1, .boolean), (G.2.2 2, .char), (G.2.2 3, .object RX3), (G.2.2 4, .object RX0)]
/-- the links to private members of nest mates -/
def mm_nest : List (String × Nat × MethodName × String) := [(RX0, 147, yX4_oneIf, RX4), (RX0, 24, yX3_init, RX4), (RX0, 67, yX4_within, RX4), (RX1, 22, yX4_within, RX4), (RX1, 30, yX4_isError, RX4), (RX2, 27, yX4_within, RX4), (RX3, 75, yX4_crept, RX4)]
def mm_N (U : State) : Prop := ∀ q ∈ mm_nest, va_Nw (.methodLinkNest q.1 q.2.1 q.2.2.1 q.2.2.2) U
theorem mm_N_warm {s U : State} (hW : s.WarmedH U.vm) (h : mm_N s) : mm_N U := fun q hq => va_Nw.warmM hW (h q hq)
theorem mm_N_same {u U : State} (hvm : u.vm = U.vm) (h : mm_N u) : mm_N U := fun q hq => va_Nw.same rfl hvm (h q hq)
def mm_inj (G : gG) : Prop := ∀ i j, i < 148 → j < 148 → gad G i = gad G j → i = j
def mm_St (G : gG) (U : State) : Prop := mm_inj G ∧ va_K G.1 vwCl (mm_tys G) U ∧ mm_N U
theorem mm_St_warm {G : gG} {s U : State} (hW : s.WarmedH U.vm) (h : mm_St G s) : mm_St G U := ⟨h.1, va_K.moved hW.alike h.2.1, mm_N_warm hW h.2.2⟩
theorem mm_St_same {G : gG} {u U : State} (hvm : u.vm = U.vm) (h : mm_St G u) : mm_St G U := ⟨h.1, va_K.moved (by rw [hvm]; exact Vm.Alike.refl _) h.2.1, mm_N_same hvm h.2.2⟩
/-- the cells of the system -/
def mm_F (G : gG) : Nat → Prop := fun q => ∃ j, j < 148 ∧ q = gad G j
def mm_l (G : gG) (S : Mem) : va_W := (List.range 148).map (fun j => (gad G j, mm_enc G j (S j)))
theorem mm_l_at (G : gG) (S : Mem) {j : Nat} (h : j < 148) : (mm_l G S)[j]? = some (gad G j, mm_enc G j (S j)) := by
  unfold mm_l
  rw [List.getElem?_map, List.getElem?_range h]
  rfl
theorem mm_l_inv {G : gG} {S : Mem} {j : Nat} {q : Nat × va_E} (h : (mm_l G S)[j]? = some q) : j < 148 ∧ q = (gad G j, mm_enc G j (S j)) := by
  have hl := (List.getElem?_eq_some_iff.mp h).1
  have h1 : j < 148 := by unfold mm_l at hl; rw [List.length_map, List.length_range] at hl; exact hl
  rw [mm_l_at G S h1] at h
  exact ⟨h1, (Option.some.inj h).symm⟩
theorem mm_P {G : gG} {S : Mem} {H : Heap} (h : mm_H G S H) : va_P G.1 vwCl (mm_l G S) H := by
  intro k q hq
  obtain ⟨h1, rfl⟩ := mm_l_inv hq
  exact h.2 k h1
theorem mm_D {G : gG} (S : Mem) (h : mm_inj G) : va_D (mm_F G) (mm_l G S) := by
  refine ⟨fun i j p q hi hj hpq => ?_, fun k q hq => ?_⟩
  · obtain ⟨h1, rfl⟩ := mm_l_inv hi
    obtain ⟨h2, rfl⟩ := mm_l_inv hj
    exact h i j h1 h2 hpq
  · obtain ⟨h1, rfl⟩ := mm_l_inv hq
    exact ⟨k, h1, rfl⟩
theorem mm_set {G : gG} {S S' : Mem} {H1 : Heap} {j : Nat} {e : va_E} (hj : j < 148) (hok : mm_okS S') (ho : ∀ a, a ≠ j → S' a = S a) (he : mm_enc G j (S' j) = e) (h : va_P G.1 vwCl ((mm_l G S).set j (gad G j, e)) H1) : mm_H G S' H1 := by
  refine ⟨hok, fun a ha => ?_⟩
  have hl : j < (mm_l G S).length := by unfold mm_l; rw [List.length_map, List.length_range]; exact hj
  by_cases c : a = j
  · subst c
    rw [he]
    exact h a _ (List.getElem?_set_self hl)
  · rw [ho a c]
    exact h a _ (by rw [List.getElem?_set_ne (Ne.symm c)]; exact mm_l_at G S ha)
theorem mm_lt_B {b : Nat} (h : b < 11) : mm_B b < 148 := by unfold mm_B; omega
theorem mm_lt_L {b : Nat} (h : b < 11) : mm_L b < 148 := by unfold mm_L; omega
theorem mm_lt_A {b : Nat} (h : b < 11) : mm_A b < 148 := by unfold mm_A; omega
theorem mm_lt_R {b : Nat} (h : b < 11) : mm_R b < 148 := by unfold mm_R; omega
theorem mm_lt_W {b k : Nat} (h : b < 11) (hk : k < 8) : mm_W b k < 148 := by unfold mm_W; omega
/-! THE JUDGEMENT: a state of a method's walk, in the memory's words -/
def mm_X (G : gG) (own : String) (cc : ByteArray) (nL : Nat) (rt : Option FieldType) (R : Room) (kc ns : Nat) (Xt : State → Prop) (A : State → Nat → Prop) (p : Program) (s : State) (m : MethodId) (args : Array Value) (meth : Method) (c : Code) : Prop :=
  p.tables.exec = Jvm.exec ∧ c.code = cc ∧ meth.sig.returnType = rt ∧ c.maxLocals = nL ∧ s.vm.findClass own = some m.cls ∧ (∀ w ∈ WW, w.before args s = true) ∧ meth.locks = false ∧ mm_St G s ∧ kc ≤ R.cells ∧ ns ≤ R.slots ∧ Xt s ∧ ∀ q, mm_F G q → A s q
def mm_V (l : Launch) (G : gG) (own : String) (cc : ByteArray) (nL : Nat) (rt : Option FieldType) (R : Room) (kc ns : Nat) (Xt : State → Prop) (A : State → Nat → Prop) (Qf : List Frame → Array Value → State → State → Prop) (S : Mem) (pc : Nat) (ls : List (Nat × Value)) (st : List Value) : Prop :=
  ∀ (p : Program) (e : Env) (s : State) (m : MethodId) (args : Array Value) (below : List Frame) (meth : Method) (c : Code), mm_X G own cc nL rt R kc ns Xt A p s m args meth c → ∀ (H : Heap) (locs : List Loc) (la : Array Slot), mm_H G S H → va_S (A s) s.heap H locs → lv_has la nL ls → W p l e R s m args below meth c H locs kc ns (Qf below args s) (F0 m pc la st)
/-- contracts: int, void, long, reference -/
abbrev mm_Pc (G : gG) (av : List Value) (S : Mem) : Array Value → State → Prop := va_Pc av (fun U => mm_St G U ∧ mm_H G S U.heap)
abbrev mm_Qi (G : gG) (P : Int32 → Mem → Prop) : Array Value → State → Outcome → State → Prop := va_Qi P (fun u t => mm_H G u t.heap) (mm_F G)
abbrev mm_Ql (G : gG) (P : Int64 → Mem → Prop) : Array Value → State → Outcome → State → Prop := va_Ql P (fun u t => mm_H G u t.heap) (mm_F G)
abbrev mm_Qv (G : gG) (P : Mem → Prop) : Array Value → State → Outcome → State → Prop := va_Qv P (fun u t => mm_H G u t.heap) (mm_F G)
abbrev mm_Qq (G : gG) (P : Option Nat → Mem → Prop) : Array Value → State → Outcome → State → Prop := va_Qq P (fun u t => mm_H G u t.heap) (mm_F G)
abbrev mm_Qf (G : gG) (Qc : Array Value → State → Outcome → State → Prop) : List Frame → Array Value → State → State → Prop := fun below args s => MQ below Qc args s 0 0 (mm_F G)
def mm_C (l : Launch) (G : gG) (y : MethodName) (cy : ByteArray) (ny : Nat) (rt : Option FieldType) (rm : Room) (av : List Value) (S : Mem) (Qc : Array Value → State → Outcome → State → Prop) : Prop := Met l y (Cond.code y cy ny rt :: WW) rm (mm_Pc G av S) Qc 0 0 (mm_F G)
/-- a method's contract out of the walk from its entry -/
theorem mm_ofV {l : Launch} {G : gG} {y : MethodName} {rm : Room} {av : List Value} {S : Mem} {Qc : Array Value → State → Outcome → State → Prop} {cc : ByteArray} {nL : Nat} {rt : Option FieldType} {own : String} (hy : plainName y.cls = true) (hown : y.cls = own) (hl : (lg_sl av).length ≤ nL) {ls0 : List (Nat × Value)} (hls : lv_args 0 av = ls0)
    (k : mm_V l G own cc nL rt rm 0 0 (fun _ => True) (fun _ => mm_F G) (mm_Qf G Qc) S 0 ls0 []) : mm_C l G y cc nL rt rm av S Qc := by
  refine Met.ofW (cc := cc) (maxL := nL) (ret := rt) hy rfl ?_
  intro p e s m args below meth c s₁ B hml hv
  obtain ⟨rfl, hSt, hH⟩ := hv
  rw [lg_entry_eq]
  subst hown
  exact k p e s m av.toArray below meth c ⟨B.exec, B.bytes, B.returns, hml, findClass_of_methodNamed B.named, fun w hw => atoms_spec (ws := Cond.code y cc nL rt :: WW) B.pre w (List.mem_cons_of_mem _ hw), B.notSynchronized, hSt, Nat.zero_le _, Nat.zero_le _, trivial, fun _ h => h⟩ s.heap [] _ hH va_S.rf (by rw [← hls]; exact lv_entry av hl)
end
section
section VR
variable {l : Launch} {G : gG} {own : String} {cc : ByteArray} {nL : Nat} {rt : Option FieldType} {R : Room} {kc ns : Nat} {Xt : State → Prop} {A : State → Nat → Prop} {Qf : List Frame → Array Value → State → State → Prop} {S : Mem} {pc : Nat} {ls ls' : List (Nat × Value)} {st : List Value}
theorem vv_topi {x : Int32} (k : ∀ y : Int32, y = x → mm_V l G own cc nL rt R kc ns Xt A Qf S pc ls (.int y :: st)) : mm_V l G own cc nL rt R kc ns Xt A Qf S pc ls (.int x :: st) := k x rfl
theorem vv_topl {x : Int64} (k : ∀ y : Int64, y = x → mm_V l G own cc nL rt R kc ns Xt A Qf S pc ls (.long y :: st)) : mm_V l G own cc nL rt R kc ns Xt A Qf S pc ls (.long x :: st) := k x rfl
theorem vv_mem (k : ∀ S1 : Mem, S1 = S → mm_V l G own cc nL rt R kc ns Xt A Qf S1 pc ls st) : mm_V l G own cc nL rt R kc ns Xt A Qf S pc ls st := k S rfl
theorem vv_eqi {x y : Int32} (h : x = y) (k : mm_V l G own cc nL rt R kc ns Xt A Qf S pc ls (.int y :: st)) : mm_V l G own cc nL rt R kc ns Xt A Qf S pc ls (.int x :: st) := h ▸ k
theorem vv_eql {x y : Int64} (h : x = y) (k : mm_V l G own cc nL rt R kc ns Xt A Qf S pc ls (.long y :: st)) : mm_V l G own cc nL rt R kc ns Xt A Qf S pc ls (.long x :: st) := h ▸ k
theorem vv_eqS {S1 : Mem} (h : S = S1) (k : mm_V l G own cc nL rt R kc ns Xt A Qf S1 pc ls st) : mm_V l G own cc nL rt R kc ns Xt A Qf S pc ls st := h ▸ k
theorem vv_pc {pc1 : Nat} (h : pc = pc1) (k : mm_V l G own cc nL rt R kc ns Xt A Qf S pc1 ls st) : mm_V l G own cc nL rt R kc ns Xt A Qf S pc ls st := h ▸ k
theorem vv_okS (k : mm_okS S → mm_V l G own cc nL rt R kc ns Xt A Qf S pc ls st) : mm_V l G own cc nL rt R kc ns Xt A Qf S pc ls st := by
  intro p e s m args below meth c hC H locs la h1 h2 h3
  exact k h1.1 p e s m args below meth c hC H locs la h1 h2 h3
theorem vv_sub (ks : List Nat) (hl : lv_pick ls ks = ls') (k : mm_V l G own cc nL rt R kc ns Xt A Qf S pc ls' st) : mm_V l G own cc nL rt R kc ns Xt A Qf S pc ls st := by
  intro p e s m args below meth c hC H locs la h1 h2 h3
  exact k p e s m args below meth c hC H locs la h1 h2 (lv_sub h3 ks hl)
theorem vv_iconst {n : Int} {v : Int32} (hd : decode cc pc = .ok (.iconst n, 1)) (hv : Int32.ofInt n = v) (k : mm_V l G own cc nL rt R kc ns Xt A Qf S (pc + 1) ls (.int v :: st)) : mm_V l G own cc nL rt R kc ns Xt A Qf S pc ls (st) := by
  intro p e s m args below meth c hC H locs la h1 h2 h3
  exact lv_iconst hC.1 hC.2.1 hd hv (k p e s m args below meth c hC H locs la h1 h2 h3)
theorem vv_bipush {n : Int} {v : Int32} (hd : decode cc pc = .ok (.bipush n, 2)) (hv : (Int8.ofInt n).toInt32 = v) (k : mm_V l G own cc nL rt R kc ns Xt A Qf S (pc + 2) ls (.int v :: st)) : mm_V l G own cc nL rt R kc ns Xt A Qf S pc ls (st) := by
  intro p e s m args below meth c hC H locs la h1 h2 h3
  exact lv_bipush hC.1 hC.2.1 hd hv (k p e s m args below meth c hC H locs la h1 h2 h3)
theorem vv_sipush {n : Int} {v : Int32} (hd : decode cc pc = .ok (.sipush n, 3)) (hv : (Int16.ofInt n).toInt32 = v) (k : mm_V l G own cc nL rt R kc ns Xt A Qf S (pc + 3) ls (.int v :: st)) : mm_V l G own cc nL rt R kc ns Xt A Qf S pc ls (st) := by
  intro p e s m args below meth c hC H locs la h1 h2 h3
  exact lv_sipush hC.1 hC.2.1 hd hv (k p e s m args below meth c hC H locs la h1 h2 h3)
theorem vv_lconst {n : Fin 2} {v : Int64} (hd : decode cc pc = .ok (.lconst n, 1)) (hv : Int64.ofNat (n : Nat) = v) (k : mm_V l G own cc nL rt R kc ns Xt A Qf S (pc + 1) ls (.long v :: st)) : mm_V l G own cc nL rt R kc ns Xt A Qf S pc ls (st) := by
  intro p e s m args below meth c hC H locs la h1 h2 h3
  exact lv_lconst hC.1 hC.2.1 hd hv (k p e s m args below meth c hC H locs la h1 h2 h3)
theorem vv_iload_n {kf : Fin 4} {i : Nat} {x : Int32} (q : Nat) (hd : decode cc pc = .ok (.iload_n kf, 1)) (hi : (kf : Nat) = i) (hl : ls[q]? = some (i, .int x)) (k : mm_V l G own cc nL rt R kc ns Xt A Qf S (pc + 1) ls (.int x :: st)) : mm_V l G own cc nL rt R kc ns Xt A Qf S pc ls (st) := by
  intro p e s m args below meth c hC H locs la h1 h2 h3
  exact lv_iload_n hC.1 hC.2.1 hd hi (lv_at h3 q hl) (k p e s m args below meth c hC H locs la h1 h2 h3)
theorem vv_iload {i : Nat} {x : Int32} (q : Nat) (hd : decode cc pc = .ok (.iload i, 2)) (hl : ls[q]? = some (i, .int x)) (k : mm_V l G own cc nL rt R kc ns Xt A Qf S (pc + 2) ls (.int x :: st)) : mm_V l G own cc nL rt R kc ns Xt A Qf S pc ls (st) := by
  intro p e s m args below meth c hC H locs la h1 h2 h3
  exact lv_iload hC.1 hC.2.1 hd (lv_at h3 q hl) (k p e s m args below meth c hC H locs la h1 h2 h3)
theorem vv_lload_n {kf : Fin 4} {i : Nat} {x : Int64} (q : Nat) (hd : decode cc pc = .ok (.lload_n kf, 1)) (hi : (kf : Nat) = i) (hl : ls[q]? = some (i, .long x)) (k : mm_V l G own cc nL rt R kc ns Xt A Qf S (pc + 1) ls (.long x :: st)) : mm_V l G own cc nL rt R kc ns Xt A Qf S pc ls (st) := by
  intro p e s m args below meth c hC H locs la h1 h2 h3
  exact lv_lload_n hC.1 hC.2.1 hd hi (lv_at h3 q hl) (k p e s m args below meth c hC H locs la h1 h2 h3)
theorem vv_lload {i : Nat} {x : Int64} (q : Nat) (hd : decode cc pc = .ok (.lload i, 2)) (hl : ls[q]? = some (i, .long x)) (k : mm_V l G own cc nL rt R kc ns Xt A Qf S (pc + 2) ls (.long x :: st)) : mm_V l G own cc nL rt R kc ns Xt A Qf S pc ls (st) := by
  intro p e s m args below meth c hC H locs la h1 h2 h3
  exact lv_lload hC.1 hC.2.1 hd (lv_at h3 q hl) (k p e s m args below meth c hC H locs la h1 h2 h3)
theorem vv_aload_n {kf : Fin 4} {i : Nat} {x : Nat} (q : Nat) (hd : decode cc pc = .ok (.aload_n kf, 1)) (hi : (kf : Nat) = i) (hl : ls[q]? = some (i, .ref x)) (k : mm_V l G own cc nL rt R kc ns Xt A Qf S (pc + 1) ls (.ref x :: st)) : mm_V l G own cc nL rt R kc ns Xt A Qf S pc ls (st) := by
  intro p e s m args below meth c hC H locs la h1 h2 h3
  exact lv_aload_n hC.1 hC.2.1 hd hi (lv_at h3 q hl) (k p e s m args below meth c hC H locs la h1 h2 h3)
theorem vv_aload {i : Nat} {x : Nat} (q : Nat) (hd : decode cc pc = .ok (.aload i, 2)) (hl : ls[q]? = some (i, .ref x)) (k : mm_V l G own cc nL rt R kc ns Xt A Qf S (pc + 2) ls (.ref x :: st)) : mm_V l G own cc nL rt R kc ns Xt A Qf S pc ls (st) := by
  intro p e s m args below meth c hC H locs la h1 h2 h3
  exact lv_aload hC.1 hC.2.1 hd (lv_at h3 q hl) (k p e s m args below meth c hC H locs la h1 h2 h3)
theorem vv_aload_nN {kf : Fin 4} {i : Nat} (q : Nat) (hd : decode cc pc = .ok (.aload_n kf, 1)) (hi : (kf : Nat) = i) (hl : ls[q]? = some (i, .null)) (k : mm_V l G own cc nL rt R kc ns Xt A Qf S (pc + 1) ls (.null :: st)) : mm_V l G own cc nL rt R kc ns Xt A Qf S pc ls (st) := by
  intro p e s m args below meth c hC H locs la h1 h2 h3
  exact lv_aload_nN hC.1 hC.2.1 hd hi (lv_at h3 q hl) (k p e s m args below meth c hC H locs la h1 h2 h3)
theorem vv_istore_n {kf : Fin 4} {i : Nat} {x : Int32} (hd : decode cc pc = .ok (.istore_n kf, 1)) (hi : (kf : Nat) = i) (hn : i < nL) (hl : (i, Value.int x) :: ls.filter (fun q => !(q.1 == i) && !(q.1 + 1 == i && q.2.category == 2)) = ls') (k : mm_V l G own cc nL rt R kc ns Xt A Qf S (pc + 1) ls' st) : mm_V l G own cc nL rt R kc ns Xt A Qf S pc ls (Value.int x :: st) := by
  intro p e s m args below meth c hC H locs la h1 h2 h3
  exact lv_istore_n hC.1 hC.2.1 hd hi h3 hn hl (fun la' h3' => k p e s m args below meth c hC H locs la' h1 h2 h3')
theorem vv_istore {i : Nat} {x : Int32} (hd : decode cc pc = .ok (.istore i, 2)) (hn : i < nL) (hl : (i, Value.int x) :: ls.filter (fun q => !(q.1 == i) && !(q.1 + 1 == i && q.2.category == 2)) = ls') (k : mm_V l G own cc nL rt R kc ns Xt A Qf S (pc + 2) ls' st) : mm_V l G own cc nL rt R kc ns Xt A Qf S pc ls (Value.int x :: st) := by
  intro p e s m args below meth c hC H locs la h1 h2 h3
  exact lv_istore hC.1 hC.2.1 hd h3 hn hl (fun la' h3' => k p e s m args below meth c hC H locs la' h1 h2 h3')
theorem vv_lstore_n {kf : Fin 4} {i : Nat} {x : Int64} (hd : decode cc pc = .ok (.lstore_n kf, 1)) (hi : (kf : Nat) = i) (hn : i + 1 < nL) (hl : (i, Value.long x) :: ls.filter (fun q => !(q.1 == i) && (!(q.1 == i + 1) && !(q.1 + 1 == i && q.2.category == 2))) = ls') (k : mm_V l G own cc nL rt R kc ns Xt A Qf S (pc + 1) ls' st) : mm_V l G own cc nL rt R kc ns Xt A Qf S pc ls (Value.long x :: st) := by
  intro p e s m args below meth c hC H locs la h1 h2 h3
  exact lv_lstore_n hC.1 hC.2.1 hd hi h3 hn hl (fun la' h3' => k p e s m args below meth c hC H locs la' h1 h2 h3')
theorem vv_lstore {i : Nat} {x : Int64} (hd : decode cc pc = .ok (.lstore i, 2)) (hn : i + 1 < nL) (hl : (i, Value.long x) :: ls.filter (fun q => !(q.1 == i) && (!(q.1 == i + 1) && !(q.1 + 1 == i && q.2.category == 2))) = ls') (k : mm_V l G own cc nL rt R kc ns Xt A Qf S (pc + 2) ls' st) : mm_V l G own cc nL rt R kc ns Xt A Qf S pc ls (Value.long x :: st) := by
  intro p e s m args below meth c hC H locs la h1 h2 h3
  exact lv_lstore hC.1 hC.2.1 hd h3 hn hl (fun la' h3' => k p e s m args below meth c hC H locs la' h1 h2 h3')
theorem vv_astore_n {kf : Fin 4} {i : Nat} {x : Nat} (hd : decode cc pc = .ok (.astore_n kf, 1)) (hi : (kf : Nat) = i) (hn : i < nL) (hl : (i, Value.ref x) :: ls.filter (fun q => !(q.1 == i) && !(q.1 + 1 == i && q.2.category == 2)) = ls') (k : mm_V l G own cc nL rt R kc ns Xt A Qf S (pc + 1) ls' st) : mm_V l G own cc nL rt R kc ns Xt A Qf S pc ls (Value.ref x :: st) := by
  intro p e s m args below meth c hC H locs la h1 h2 h3
  exact lv_astore_n hC.1 hC.2.1 hd hi h3 hn hl (fun la' h3' => k p e s m args below meth c hC H locs la' h1 h2 h3')
theorem vv_astore {i : Nat} {x : Nat} (hd : decode cc pc = .ok (.astore i, 2)) (hn : i < nL) (hl : (i, Value.ref x) :: ls.filter (fun q => !(q.1 == i) && !(q.1 + 1 == i && q.2.category == 2)) = ls') (k : mm_V l G own cc nL rt R kc ns Xt A Qf S (pc + 2) ls' st) : mm_V l G own cc nL rt R kc ns Xt A Qf S pc ls (Value.ref x :: st) := by
  intro p e s m args below meth c hC H locs la h1 h2 h3
  exact lv_astore hC.1 hC.2.1 hd h3 hn hl (fun la' h3' => k p e s m args below meth c hC H locs la' h1 h2 h3')
theorem vv_astore_nN {kf : Fin 4} {i : Nat} (hd : decode cc pc = .ok (.astore_n kf, 1)) (hi : (kf : Nat) = i) (hn : i < nL) (hl : (i, Value.null) :: ls.filter (fun q => !(q.1 == i) && !(q.1 + 1 == i && q.2.category == 2)) = ls') (k : mm_V l G own cc nL rt R kc ns Xt A Qf S (pc + 1) ls' st) : mm_V l G own cc nL rt R kc ns Xt A Qf S pc ls (Value.null :: st) := by
  intro p e s m args below meth c hC H locs la h1 h2 h3
  exact lv_astore_nN hC.1 hC.2.1 hd hi h3 hn hl (fun la' h3' => k p e s m args below meth c hC H locs la' h1 h2 h3')
theorem vv_iinc {i q : Nat} {n : Int} {x v : Int32} (hd : decode cc pc = .ok (.iinc i n, 3)) (hq : ls[q]? = some (i, .int x)) (hv : x + Int32.ofInt n = v) (hn : i < nL) (hl : (i, Value.int v) :: ls.filter (fun q => !(q.1 == i) && !(q.1 + 1 == i && q.2.category == 2)) = ls') (k : mm_V l G own cc nL rt R kc ns Xt A Qf S (pc + 3) ls' st) : mm_V l G own cc nL rt R kc ns Xt A Qf S pc ls st := by
  intro p e s m args below meth c hC H locs la h1 h2 h3
  exact lv_iinc hC.1 hC.2.1 hd h3 hq hv hn hl (fun la' h3' => k p e s m args below meth c hC H locs la' h1 h2 h3')
theorem vv_iadd {x y : Int32} (hd : decode cc pc = .ok (.iadd, 1)) (k : mm_V l G own cc nL rt R kc ns Xt A Qf S (pc + 1) ls (.int (x + y) :: st)) : mm_V l G own cc nL rt R kc ns Xt A Qf S pc ls (.int y :: .int x :: st) := by
  intro p e s m args below meth c hC H locs la h1 h2 h3
  exact lv_iadd hC.1 hC.2.1 hd (k p e s m args below meth c hC H locs la h1 h2 h3)
theorem vv_isub {x y : Int32} (hd : decode cc pc = .ok (.isub, 1)) (k : mm_V l G own cc nL rt R kc ns Xt A Qf S (pc + 1) ls (.int (x - y) :: st)) : mm_V l G own cc nL rt R kc ns Xt A Qf S pc ls (.int y :: .int x :: st) := by
  intro p e s m args below meth c hC H locs la h1 h2 h3
  exact lv_isub hC.1 hC.2.1 hd (k p e s m args below meth c hC H locs la h1 h2 h3)
theorem vv_imul {x y : Int32} (hd : decode cc pc = .ok (.imul, 1)) (k : mm_V l G own cc nL rt R kc ns Xt A Qf S (pc + 1) ls (.int (x * y) :: st)) : mm_V l G own cc nL rt R kc ns Xt A Qf S pc ls (.int y :: .int x :: st) := by
  intro p e s m args below meth c hC H locs la h1 h2 h3
  exact lv_imul hC.1 hC.2.1 hd (k p e s m args below meth c hC H locs la h1 h2 h3)
theorem vv_iand {x y : Int32} (hd : decode cc pc = .ok (.iand, 1)) (k : mm_V l G own cc nL rt R kc ns Xt A Qf S (pc + 1) ls (.int (x &&& y) :: st)) : mm_V l G own cc nL rt R kc ns Xt A Qf S pc ls (.int y :: .int x :: st) := by
  intro p e s m args below meth c hC H locs la h1 h2 h3
  exact lv_iand hC.1 hC.2.1 hd (k p e s m args below meth c hC H locs la h1 h2 h3)
theorem vv_ior {x y : Int32} (hd : decode cc pc = .ok (.ior, 1)) (k : mm_V l G own cc nL rt R kc ns Xt A Qf S (pc + 1) ls (.int (x ||| y) :: st)) : mm_V l G own cc nL rt R kc ns Xt A Qf S pc ls (.int y :: .int x :: st) := by
  intro p e s m args below meth c hC H locs la h1 h2 h3
  exact lv_ior hC.1 hC.2.1 hd (k p e s m args below meth c hC H locs la h1 h2 h3)
theorem vv_ixor {x y : Int32} (hd : decode cc pc = .ok (.ixor, 1)) (k : mm_V l G own cc nL rt R kc ns Xt A Qf S (pc + 1) ls (.int (x ^^^ y) :: st)) : mm_V l G own cc nL rt R kc ns Xt A Qf S pc ls (.int y :: .int x :: st) := by
  intro p e s m args below meth c hC H locs la h1 h2 h3
  exact lv_ixor hC.1 hC.2.1 hd (k p e s m args below meth c hC H locs la h1 h2 h3)
theorem vv_ladd {x y : Int64} (hd : decode cc pc = .ok (.ladd, 1)) (k : mm_V l G own cc nL rt R kc ns Xt A Qf S (pc + 1) ls (.long (x + y) :: st)) : mm_V l G own cc nL rt R kc ns Xt A Qf S pc ls (.long y :: .long x :: st) := by
  intro p e s m args below meth c hC H locs la h1 h2 h3
  exact lv_ladd hC.1 hC.2.1 hd (k p e s m args below meth c hC H locs la h1 h2 h3)
theorem vv_lsub {x y : Int64} (hd : decode cc pc = .ok (.lsub, 1)) (k : mm_V l G own cc nL rt R kc ns Xt A Qf S (pc + 1) ls (.long (x - y) :: st)) : mm_V l G own cc nL rt R kc ns Xt A Qf S pc ls (.long y :: .long x :: st) := by
  intro p e s m args below meth c hC H locs la h1 h2 h3
  exact lv_lsub hC.1 hC.2.1 hd (k p e s m args below meth c hC H locs la h1 h2 h3)
theorem vv_lmul {x y : Int64} (hd : decode cc pc = .ok (.lmul, 1)) (k : mm_V l G own cc nL rt R kc ns Xt A Qf S (pc + 1) ls (.long (x * y) :: st)) : mm_V l G own cc nL rt R kc ns Xt A Qf S pc ls (.long y :: .long x :: st) := by
  intro p e s m args below meth c hC H locs la h1 h2 h3
  exact lv_lmul hC.1 hC.2.1 hd (k p e s m args below meth c hC H locs la h1 h2 h3)
theorem vv_land {x y : Int64} (hd : decode cc pc = .ok (.land, 1)) (k : mm_V l G own cc nL rt R kc ns Xt A Qf S (pc + 1) ls (.long (x &&& y) :: st)) : mm_V l G own cc nL rt R kc ns Xt A Qf S pc ls (.long y :: .long x :: st) := by
  intro p e s m args below meth c hC H locs la h1 h2 h3
  exact lv_land hC.1 hC.2.1 hd (k p e s m args below meth c hC H locs la h1 h2 h3)
theorem vv_lor {x y : Int64} (hd : decode cc pc = .ok (.lor, 1)) (k : mm_V l G own cc nL rt R kc ns Xt A Qf S (pc + 1) ls (.long (x ||| y) :: st)) : mm_V l G own cc nL rt R kc ns Xt A Qf S pc ls (.long y :: .long x :: st) := by
  intro p e s m args below meth c hC H locs la h1 h2 h3
  exact lv_lor hC.1 hC.2.1 hd (k p e s m args below meth c hC H locs la h1 h2 h3)
theorem vv_idiv {x y : Int32} (hd : decode cc pc = .ok (.idiv, 1)) (hne : ¬ y = 0) (k : mm_V l G own cc nL rt R kc ns Xt A Qf S (pc + 1) ls (.int (x / y) :: st)) : mm_V l G own cc nL rt R kc ns Xt A Qf S pc ls (.int y :: .int x :: st) := by
  intro p e s m args below meth c hC H locs la h1 h2 h3
  exact lv_idiv hC.1 hC.2.1 hd hne (k p e s m args below meth c hC H locs la h1 h2 h3)
theorem vv_ldiv {x y : Int64} (hd : decode cc pc = .ok (.ldiv, 1)) (hne : ¬ y = 0) (k : mm_V l G own cc nL rt R kc ns Xt A Qf S (pc + 1) ls (.long (x / y) :: st)) : mm_V l G own cc nL rt R kc ns Xt A Qf S pc ls (.long y :: .long x :: st) := by
  intro p e s m args below meth c hC H locs la h1 h2 h3
  exact lv_ldiv hC.1 hC.2.1 hd hne (k p e s m args below meth c hC H locs la h1 h2 h3)
theorem vv_ineg {x : Int32} (hd : decode cc pc = .ok (.ineg, 1)) (k : mm_V l G own cc nL rt R kc ns Xt A Qf S (pc + 1) ls (.int (-x) :: st)) : mm_V l G own cc nL rt R kc ns Xt A Qf S pc ls (.int x :: st) := by
  intro p e s m args below meth c hC H locs la h1 h2 h3
  exact lv_ineg hC.1 hC.2.1 hd (k p e s m args below meth c hC H locs la h1 h2 h3)
theorem vv_ishl {x y : Int32} (hd : decode cc pc = .ok (.ishl, 1)) (k : mm_V l G own cc nL rt R kc ns Xt A Qf S (pc + 1) ls (.int (x <<< (y &&& 31)) :: st)) : mm_V l G own cc nL rt R kc ns Xt A Qf S pc ls (.int y :: .int x :: st) := by
  intro p e s m args below meth c hC H locs la h1 h2 h3
  exact lv_ishl hC.1 hC.2.1 hd (k p e s m args below meth c hC H locs la h1 h2 h3)
theorem vv_ishr {x y : Int32} (hd : decode cc pc = .ok (.ishr, 1)) (k : mm_V l G own cc nL rt R kc ns Xt A Qf S (pc + 1) ls (.int (x >>> (y &&& 31)) :: st)) : mm_V l G own cc nL rt R kc ns Xt A Qf S pc ls (.int y :: .int x :: st) := by
  intro p e s m args below meth c hC H locs la h1 h2 h3
  exact lv_ishr hC.1 hC.2.1 hd (k p e s m args below meth c hC H locs la h1 h2 h3)
theorem vv_iushr {x y v : Int32} (hd : decode cc pc = .ok (.iushr, 1)) (hv : (x.toUInt32 >>> (y.toUInt32 &&& Int32.toUInt32 31)).toInt32 = v) (k : mm_V l G own cc nL rt R kc ns Xt A Qf S (pc + 1) ls (.int v :: st)) : mm_V l G own cc nL rt R kc ns Xt A Qf S pc ls (.int y :: .int x :: st) := by
  intro p e s m args below meth c hC H locs la h1 h2 h3
  exact lv_iushr hC.1 hC.2.1 hd hv (k p e s m args below meth c hC H locs la h1 h2 h3)
theorem vv_lushr {x v : Int64} {y : Int32} (hd : decode cc pc = .ok (.lushr, 1)) (hv : (x.toUInt64 >>> (y.toInt64.toUInt64 &&& Int64.toUInt64 63)).toInt64 = v) (k : mm_V l G own cc nL rt R kc ns Xt A Qf S (pc + 1) ls (.long v :: st)) : mm_V l G own cc nL rt R kc ns Xt A Qf S pc ls (.int y :: .long x :: st) := by
  intro p e s m args below meth c hC H locs la h1 h2 h3
  exact lv_lushr hC.1 hC.2.1 hd hv (k p e s m args below meth c hC H locs la h1 h2 h3)
theorem vv_lshl {x v : Int64} {y : Int32} (hd : decode cc pc = .ok (.lshl, 1)) (hv : x <<< (y.toInt64 &&& 63) = v) (k : mm_V l G own cc nL rt R kc ns Xt A Qf S (pc + 1) ls (.long v :: st)) : mm_V l G own cc nL rt R kc ns Xt A Qf S pc ls (.int y :: .long x :: st) := by
  intro p e s m args below meth c hC H locs la h1 h2 h3
  exact lv_lshl hC.1 hC.2.1 hd hv (k p e s m args below meth c hC H locs la h1 h2 h3)
theorem vv_i2l {x : Int32} (hd : decode cc pc = .ok (.i2l, 1)) (k : mm_V l G own cc nL rt R kc ns Xt A Qf S (pc + 1) ls (.long x.toInt64 :: st)) : mm_V l G own cc nL rt R kc ns Xt A Qf S pc ls (.int x :: st) := by
  intro p e s m args below meth c hC H locs la h1 h2 h3
  exact lv_i2l hC.1 hC.2.1 hd rfl (k p e s m args below meth c hC H locs la h1 h2 h3)
theorem vv_l2i {x : Int64} (hd : decode cc pc = .ok (.l2i, 1)) (k : mm_V l G own cc nL rt R kc ns Xt A Qf S (pc + 1) ls (.int x.toInt32 :: st)) : mm_V l G own cc nL rt R kc ns Xt A Qf S pc ls (.long x :: st) := by
  intro p e s m args below meth c hC H locs la h1 h2 h3
  exact lv_l2i hC.1 hC.2.1 hd rfl (k p e s m args below meth c hC H locs la h1 h2 h3)
theorem vv_i2c {x : Int32} (hd : decode cc pc = .ok (.i2c, 1)) (k : mm_V l G own cc nL rt R kc ns Xt A Qf S (pc + 1) ls (.int (x.toUInt32 % 65536).toInt32 :: st)) : mm_V l G own cc nL rt R kc ns Xt A Qf S pc ls (.int x :: st) := by
  intro p e s m args below meth c hC H locs la h1 h2 h3
  exact lv_i2c hC.1 hC.2.1 hd rfl (k p e s m args below meth c hC H locs la h1 h2 h3)
theorem vv_dup {va : Value} (hd : decode cc pc = .ok (.dup, 1)) (hva : va.category = 1) (k : mm_V l G own cc nL rt R kc ns Xt A Qf S (pc + 1) ls (va :: va :: st)) : mm_V l G own cc nL rt R kc ns Xt A Qf S pc ls (va :: st) := by
  intro p e s m args below meth c hC H locs la h1 h2 h3
  exact lv_dup hC.1 hC.2.1 hd hva (k p e s m args below meth c hC H locs la h1 h2 h3)
theorem vv_pop {va : Value} (hd : decode cc pc = .ok (.pop, 1)) (hva : va.category = 1) (k : mm_V l G own cc nL rt R kc ns Xt A Qf S (pc + 1) ls (st)) : mm_V l G own cc nL rt R kc ns Xt A Qf S pc ls (va :: st) := by
  intro p e s m args below meth c hC H locs la h1 h2 h3
  exact lv_pop hC.1 hC.2.1 hd hva (k p e s m args below meth c hC H locs la h1 h2 h3)
theorem vv_dup2 {va vb : Value} (hd : decode cc pc = .ok (.dup2, 1)) (hva : va.category = 1) (hvb : vb.category = 1) (k : mm_V l G own cc nL rt R kc ns Xt A Qf S (pc + 1) ls (va :: vb :: va :: vb :: st)) : mm_V l G own cc nL rt R kc ns Xt A Qf S pc ls (va :: vb :: st) := by
  intro p e s m args below meth c hC H locs la h1 h2 h3
  exact lv_dup2_11 hC.1 hC.2.1 hd hva hvb (k p e s m args below meth c hC H locs la h1 h2 h3)
theorem vv_lcmp {x y : Int64} (hd : decode cc pc = .ok (.lcmp, 1)) (k : mm_V l G own cc nL rt R kc ns Xt A Qf S (pc + 1) ls (.int (lg_cmp x y) :: st)) : mm_V l G own cc nL rt R kc ns Xt A Qf S pc ls (.long y :: .long x :: st) := by
  intro p e s m args below meth c hC H locs la h1 h2 h3
  exact W.lcmp hC.1 hC.2.1 hd (k p e s m args below meth c hC H locs la h1 h2 h3)
theorem vv_null  (hd : decode cc pc = .ok (.aconst_null, 1)) (k : mm_V l G own cc nL rt R kc ns Xt A Qf S (pc + 1) ls (.null :: st)) : mm_V l G own cc nL rt R kc ns Xt A Qf S pc ls (st) := by
  intro p e s m args below meth c hC H locs la h1 h2 h3
  exact lv_null hC.1 hC.2.1 hd (k p e s m args below meth c hC H locs la h1 h2 h3)
theorem vv_if_eq {x : Int32} {off : Int} {tgt : Nat} (hd : decode cc pc = .ok (.ifCond .eq off, 3)) (ht : (pc : Int) + off = (tgt : Int)) (kt : x = 0 → mm_V l G own cc nL rt R kc ns Xt A Qf S tgt ls st) (kf : ¬ x = 0 → mm_V l G own cc nL rt R kc ns Xt A Qf S (pc + 3) ls st) : mm_V l G own cc nL rt R kc ns Xt A Qf S pc ls (.int x :: st) := by
  intro p e s m args below meth c hC H locs la h1 h2 h3
  exact lv_if_eq hC.1 hC.2.1 hd ht (fun q => kt q p e s m args below meth c hC H locs la h1 h2 h3) (fun q => kf q p e s m args below meth c hC H locs la h1 h2 h3)
theorem vv_icmp_eq {x y : Int32} {off : Int} {tgt : Nat} (hd : decode cc pc = .ok (.if_icmp .eq off, 3)) (ht : (pc : Int) + off = (tgt : Int)) (kt : x = y → mm_V l G own cc nL rt R kc ns Xt A Qf S tgt ls st) (kf : ¬ x = y → mm_V l G own cc nL rt R kc ns Xt A Qf S (pc + 3) ls st) : mm_V l G own cc nL rt R kc ns Xt A Qf S pc ls (.int y :: .int x :: st) := by
  intro p e s m args below meth c hC H locs la h1 h2 h3
  exact lv_icmp_eq hC.1 hC.2.1 hd ht (fun q => kt q p e s m args below meth c hC H locs la h1 h2 h3) (fun q => kf q p e s m args below meth c hC H locs la h1 h2 h3)
theorem vv_if_ne {x : Int32} {off : Int} {tgt : Nat} (hd : decode cc pc = .ok (.ifCond .ne off, 3)) (ht : (pc : Int) + off = (tgt : Int)) (kt : ¬ x = 0 → mm_V l G own cc nL rt R kc ns Xt A Qf S tgt ls st) (kf : x = 0 → mm_V l G own cc nL rt R kc ns Xt A Qf S (pc + 3) ls st) : mm_V l G own cc nL rt R kc ns Xt A Qf S pc ls (.int x :: st) := by
  intro p e s m args below meth c hC H locs la h1 h2 h3
  exact lv_if_ne hC.1 hC.2.1 hd ht (fun q => kt q p e s m args below meth c hC H locs la h1 h2 h3) (fun q => kf q p e s m args below meth c hC H locs la h1 h2 h3)
theorem vv_icmp_ne {x y : Int32} {off : Int} {tgt : Nat} (hd : decode cc pc = .ok (.if_icmp .ne off, 3)) (ht : (pc : Int) + off = (tgt : Int)) (kt : ¬ x = y → mm_V l G own cc nL rt R kc ns Xt A Qf S tgt ls st) (kf : x = y → mm_V l G own cc nL rt R kc ns Xt A Qf S (pc + 3) ls st) : mm_V l G own cc nL rt R kc ns Xt A Qf S pc ls (.int y :: .int x :: st) := by
  intro p e s m args below meth c hC H locs la h1 h2 h3
  exact lv_icmp_ne hC.1 hC.2.1 hd ht (fun q => kt q p e s m args below meth c hC H locs la h1 h2 h3) (fun q => kf q p e s m args below meth c hC H locs la h1 h2 h3)
theorem vv_if_lt {x : Int32} {off : Int} {tgt : Nat} (hd : decode cc pc = .ok (.ifCond .lt off, 3)) (ht : (pc : Int) + off = (tgt : Int)) (kt : x < 0 → mm_V l G own cc nL rt R kc ns Xt A Qf S tgt ls st) (kf : ¬ x < 0 → mm_V l G own cc nL rt R kc ns Xt A Qf S (pc + 3) ls st) : mm_V l G own cc nL rt R kc ns Xt A Qf S pc ls (.int x :: st) := by
  intro p e s m args below meth c hC H locs la h1 h2 h3
  exact lv_if_lt hC.1 hC.2.1 hd ht (fun q => kt q p e s m args below meth c hC H locs la h1 h2 h3) (fun q => kf q p e s m args below meth c hC H locs la h1 h2 h3)
theorem vv_icmp_lt {x y : Int32} {off : Int} {tgt : Nat} (hd : decode cc pc = .ok (.if_icmp .lt off, 3)) (ht : (pc : Int) + off = (tgt : Int)) (kt : x < y → mm_V l G own cc nL rt R kc ns Xt A Qf S tgt ls st) (kf : ¬ x < y → mm_V l G own cc nL rt R kc ns Xt A Qf S (pc + 3) ls st) : mm_V l G own cc nL rt R kc ns Xt A Qf S pc ls (.int y :: .int x :: st) := by
  intro p e s m args below meth c hC H locs la h1 h2 h3
  exact lv_icmp_lt hC.1 hC.2.1 hd ht (fun q => kt q p e s m args below meth c hC H locs la h1 h2 h3) (fun q => kf q p e s m args below meth c hC H locs la h1 h2 h3)
theorem vv_if_ge {x : Int32} {off : Int} {tgt : Nat} (hd : decode cc pc = .ok (.ifCond .ge off, 3)) (ht : (pc : Int) + off = (tgt : Int)) (kt : 0 ≤ x → mm_V l G own cc nL rt R kc ns Xt A Qf S tgt ls st) (kf : ¬ 0 ≤ x → mm_V l G own cc nL rt R kc ns Xt A Qf S (pc + 3) ls st) : mm_V l G own cc nL rt R kc ns Xt A Qf S pc ls (.int x :: st) := by
  intro p e s m args below meth c hC H locs la h1 h2 h3
  exact lv_if_ge hC.1 hC.2.1 hd ht (fun q => kt q p e s m args below meth c hC H locs la h1 h2 h3) (fun q => kf q p e s m args below meth c hC H locs la h1 h2 h3)
theorem vv_icmp_ge {x y : Int32} {off : Int} {tgt : Nat} (hd : decode cc pc = .ok (.if_icmp .ge off, 3)) (ht : (pc : Int) + off = (tgt : Int)) (kt : y ≤ x → mm_V l G own cc nL rt R kc ns Xt A Qf S tgt ls st) (kf : ¬ y ≤ x → mm_V l G own cc nL rt R kc ns Xt A Qf S (pc + 3) ls st) : mm_V l G own cc nL rt R kc ns Xt A Qf S pc ls (.int y :: .int x :: st) := by
  intro p e s m args below meth c hC H locs la h1 h2 h3
  exact lv_icmp_ge hC.1 hC.2.1 hd ht (fun q => kt q p e s m args below meth c hC H locs la h1 h2 h3) (fun q => kf q p e s m args below meth c hC H locs la h1 h2 h3)
theorem vv_if_gt {x : Int32} {off : Int} {tgt : Nat} (hd : decode cc pc = .ok (.ifCond .gt off, 3)) (ht : (pc : Int) + off = (tgt : Int)) (kt : 0 < x → mm_V l G own cc nL rt R kc ns Xt A Qf S tgt ls st) (kf : ¬ 0 < x → mm_V l G own cc nL rt R kc ns Xt A Qf S (pc + 3) ls st) : mm_V l G own cc nL rt R kc ns Xt A Qf S pc ls (.int x :: st) := by
  intro p e s m args below meth c hC H locs la h1 h2 h3
  exact lv_if_gt hC.1 hC.2.1 hd ht (fun q => kt q p e s m args below meth c hC H locs la h1 h2 h3) (fun q => kf q p e s m args below meth c hC H locs la h1 h2 h3)
theorem vv_icmp_gt {x y : Int32} {off : Int} {tgt : Nat} (hd : decode cc pc = .ok (.if_icmp .gt off, 3)) (ht : (pc : Int) + off = (tgt : Int)) (kt : y < x → mm_V l G own cc nL rt R kc ns Xt A Qf S tgt ls st) (kf : ¬ y < x → mm_V l G own cc nL rt R kc ns Xt A Qf S (pc + 3) ls st) : mm_V l G own cc nL rt R kc ns Xt A Qf S pc ls (.int y :: .int x :: st) := by
  intro p e s m args below meth c hC H locs la h1 h2 h3
  exact lv_icmp_gt hC.1 hC.2.1 hd ht (fun q => kt q p e s m args below meth c hC H locs la h1 h2 h3) (fun q => kf q p e s m args below meth c hC H locs la h1 h2 h3)
theorem vv_if_le {x : Int32} {off : Int} {tgt : Nat} (hd : decode cc pc = .ok (.ifCond .le off, 3)) (ht : (pc : Int) + off = (tgt : Int)) (kt : x ≤ 0 → mm_V l G own cc nL rt R kc ns Xt A Qf S tgt ls st) (kf : ¬ x ≤ 0 → mm_V l G own cc nL rt R kc ns Xt A Qf S (pc + 3) ls st) : mm_V l G own cc nL rt R kc ns Xt A Qf S pc ls (.int x :: st) := by
  intro p e s m args below meth c hC H locs la h1 h2 h3
  exact lv_if_le hC.1 hC.2.1 hd ht (fun q => kt q p e s m args below meth c hC H locs la h1 h2 h3) (fun q => kf q p e s m args below meth c hC H locs la h1 h2 h3)
theorem vv_icmp_le {x y : Int32} {off : Int} {tgt : Nat} (hd : decode cc pc = .ok (.if_icmp .le off, 3)) (ht : (pc : Int) + off = (tgt : Int)) (kt : x ≤ y → mm_V l G own cc nL rt R kc ns Xt A Qf S tgt ls st) (kf : ¬ x ≤ y → mm_V l G own cc nL rt R kc ns Xt A Qf S (pc + 3) ls st) : mm_V l G own cc nL rt R kc ns Xt A Qf S pc ls (.int y :: .int x :: st) := by
  intro p e s m args below meth c hC H locs la h1 h2 h3
  exact lv_icmp_le hC.1 hC.2.1 hd ht (fun q => kt q p e s m args below meth c hC H locs la h1 h2 h3) (fun q => kf q p e s m args below meth c hC H locs la h1 h2 h3)
theorem vv_goto {off : Int} {tgt : Nat} (hd : decode cc pc = .ok (.goto off, 3)) (ht : (pc : Int) + off = (tgt : Int)) (k : mm_V l G own cc nL rt R kc ns Xt A Qf S tgt ls st) : mm_V l G own cc nL rt R kc ns Xt A Qf S pc ls st := by
  intro p e s m args below meth c hC H locs la h1 h2 h3
  exact lv_goto hC.1 hC.2.1 hd ht (k p e s m args below meth c hC H locs la h1 h2 h3)
theorem vv_ifnonnull {x : Nat} {off : Int} {tgt : Nat} (hd : decode cc pc = .ok (.ifnonnull off, 3)) (ht : (pc : Int) + off = (tgt : Int)) (k : mm_V l G own cc nL rt R kc ns Xt A Qf S tgt ls st) : mm_V l G own cc nL rt R kc ns Xt A Qf S pc ls (.ref x :: st) := by
  intro p e s m args below meth c hC H locs la h1 h2 h3
  exact lv_ifnonnull hC.1 hC.2.1 hd ht (k p e s m args below meth c hC H locs la h1 h2 h3)
theorem vv_ifnonnullN {off : Int} (hd : decode cc pc = .ok (.ifnonnull off, 3)) (k : mm_V l G own cc nL rt R kc ns Xt A Qf S (pc + 3) ls st) : mm_V l G own cc nL rt R kc ns Xt A Qf S pc ls (.null :: st) := by
  intro p e s m args below meth c hC H locs la h1 h2 h3
  exact lv_ifnonnullN hC.1 hC.2.1 hd (k p e s m args below meth c hC H locs la h1 h2 h3)
theorem vv_ifnull {x : Nat} {off : Int} (hd : decode cc pc = .ok (.ifnull off, 3)) (k : mm_V l G own cc nL rt R kc ns Xt A Qf S (pc + 3) ls st) : mm_V l G own cc nL rt R kc ns Xt A Qf S pc ls (.ref x :: st) := by
  intro p e s m args below meth c hC H locs la h1 h2 h3
  exact lv_ifnull hC.1 hC.2.1 hd (k p e s m args below meth c hC H locs la h1 h2 h3)
theorem vv_ifnullN {off : Int} {tgt : Nat} (hd : decode cc pc = .ok (.ifnull off, 3)) (ht : (pc : Int) + off = (tgt : Int)) (k : mm_V l G own cc nL rt R kc ns Xt A Qf S tgt ls st) : mm_V l G own cc nL rt R kc ns Xt A Qf S pc ls (.null :: st) := by
  intro p e s m args below meth c hC H locs la h1 h2 h3
  exact lv_ifnullN hC.1 hC.2.1 hd ht (k p e s m args below meth c hC H locs la h1 h2 h3)
theorem vv_ldc {index : Nat} {v : Int32} (hc : Jvm.Cond.constant own index v ∈ WW) (hd : decode cc pc = .ok (.ldc index, 2)) (k : mm_V l G own cc nL rt R kc ns Xt A Qf S (pc + 2) ls (.int v :: st)) : mm_V l G own cc nL rt R kc ns Xt A Qf S pc ls st := by
  intro p e s m args below meth c hC H locs la h1 h2 h3
  exact lv_ldc hC.1 hC.2.1 hC.2.2.2.2.1 (hC.2.2.2.2.2.1 _ hc) hd (k p e s m args below meth c hC H locs la h1 h2 h3)
theorem vv_ldcw {index : Nat} {v : Int32} (hc : Jvm.Cond.constant own index v ∈ WW) (hd : decode cc pc = .ok (.ldc_w index, 3)) (k : mm_V l G own cc nL rt R kc ns Xt A Qf S (pc + 3) ls (.int v :: st)) : mm_V l G own cc nL rt R kc ns Xt A Qf S pc ls st := by
  intro p e s m args below meth c hC H locs la h1 h2 h3
  exact lv_ldcw hC.1 hC.2.1 hC.2.2.2.2.1 (hC.2.2.2.2.2.1 _ hc) hd (k p e s m args below meth c hC H locs la h1 h2 h3)
theorem vv_ldc2 {index : Nat} {v : Int64} (hc : Jvm.Cond.constantLong own index v ∈ WW) (hd : decode cc pc = .ok (.ldc2_w index, 3)) (k : mm_V l G own cc nL rt R kc ns Xt A Qf S (pc + 3) ls (.long v :: st)) : mm_V l G own cc nL rt R kc ns Xt A Qf S pc ls st := by
  intro p e s m args below meth c hC H locs la h1 h2 h3
  exact lv_ldc2 hC.1 hC.2.1 hC.2.2.2.2.1 (hC.2.2.2.2.2.1 _ hc) hd (k p e s m args below meth c hC H locs la h1 h2 h3)
theorem vv_lookup {dflt : Int} {ps : Array (Int × Int)} {len : Nat} {x : Int32} {off : Int} {tgt : Nat} (hd : decode cc pc = .ok (.lookupswitch dflt ps, len)) (hp : (ps.toList.zip (ps.toList.drop 1)).all (fun (a, next) => a.1 < next.1) = true) (ho : Op.lookupswitch.offset ps.toList dflt x.toInt = off) (ht : (pc : Int) + off = (tgt : Int)) (k : mm_V l G own cc nL rt R kc ns Xt A Qf S tgt ls st) : mm_V l G own cc nL rt R kc ns Xt A Qf S pc ls (.int x :: st) := by
  intro p e s m args below meth c hC H locs la h1 h2 h3
  exact lv_lookup hC.1 hC.2.1 hd hp ho ht (k p e s m args below meth c hC H locs la h1 h2 h3)
theorem vv_tableOut {dflt lo hi : Int} {offs : Array Int} {len : Nat} {x : Int32} {tgt : Nat} (hd : decode cc pc = .ok (.tableswitch dflt lo hi offs, len)) (h : x.toInt < lo ∨ hi < x.toInt) (ht : (pc : Int) + dflt = (tgt : Int)) (k : mm_V l G own cc nL rt R kc ns Xt A Qf S tgt ls st) : mm_V l G own cc nL rt R kc ns Xt A Qf S pc ls (.int x :: st) := by
  intro p e s m args below meth c hC H locs la h1 h2 h3
  exact lv_tableOut hC.1 hC.2.1 hd h ht (k p e s m args below meth c hC H locs la h1 h2 h3)
theorem vv_tableIn {dflt lo hi : Int} {offs : Array Int} {len : Nat} {x : Int32} {off : Int} {tgt : Nat} (hd : decode cc pc = .ok (.tableswitch dflt lo hi offs, len)) (q1 : ¬ x.toInt < lo) (q2 : ¬ hi < x.toInt) (ho : offs[(x.toInt - lo).toNat]? = some off) (ht : (pc : Int) + off = (tgt : Int)) (k : mm_V l G own cc nL rt R kc ns Xt A Qf S tgt ls st) : mm_V l G own cc nL rt R kc ns Xt A Qf S pc ls (.int x :: st) := by
  intro p e s m args below meth c hC H locs la h1 h2 h3
  exact lv_tableIn hC.1 hC.2.1 hd q1 q2 ho ht (k p e s m args below meth c hC H locs la h1 h2 h3)
end VR
end
section
section VH
variable {l : Launch} {G : gG} {own : String} {cc : ByteArray} {nL : Nat} {rt : Option FieldType} {R : Room} {kc ns : Nat} {Xt : State → Prop} {A : State → Nat → Prop} {Qf : List Frame → Array Value → State → State → Prop} {S : Mem} {pc : Nat} {ls ls' : List (Nat × Value)} {st : List Value}
theorem mm_ty_B (b k : Nat) : mm_ty (mm_B b) k = .int := by
  unfold mm_ty mm_B
  rw [if_neg (by omega), if_neg (by omega), if_neg (by omega), if_neg (by omega), if_neg (by omega)]
theorem mm_ty_L (b k : Nat) : mm_ty (mm_L b) k = .int := by
  unfold mm_ty mm_L
  rw [if_neg (by omega), if_neg (by omega), if_neg (by omega), if_neg (by omega), if_neg (by omega)]
theorem mm_ty_A (b k : Nat) : mm_ty (mm_A b) k = .int := by
  unfold mm_ty mm_A
  rw [if_neg (by omega), if_neg (by omega), if_neg (by omega), if_neg (by omega), if_neg (by omega)]
theorem mm_ty_W (b w k : Nat) (hw : w < 8) : mm_ty (mm_W b w) k = if k = 6 ∨ k = 11 then .boolean else .int := by
  unfold mm_ty mm_W
  rw [if_neg (by omega), if_neg (by omega), if_neg (by omega), if_neg (by omega)]
  by_cases c : k = 6 ∨ k = 11
  · rw [if_pos ⟨by omega, by omega, c⟩, if_pos c]
  · rw [if_neg (fun h => c h.2.2), if_neg c]
theorem vv_get {j ci f : Nat} {C : String} {T : u_T} {N : Nat} {fs : List Value} {v : Value} {index : Nat} (hW : ∀ w ∈ u_ws C T N, w ∈ WW) (hc : vwCl[ci]? = some (C, T, N)) (hf : f < N) (hj : j < 148) (he : mm_enc G j (S j) = .inr (ci, fs)) (hv : fs[f]? = some v) (hl : Cond.fieldLink own index (T f).1 (T f).2.1 (T f).2.2.1 ∈ WW) (hd : decode cc pc = .ok (.getfield index, 3)) (k : mm_V l G own cc nL rt R kc ns Xt A Qf S (pc + 3) ls (v :: st)) : mm_V l G own cc nL rt R kc ns Xt A Qf S pc ls (.ref (gad G j) :: st) := by
  intro p e s m args below meth c hC H locs la h1 h2 h3
  obtain ⟨hx, hb, hr, hml, hown, hts, hlk, hSt, hkc, hns, hXt, hA⟩ := id hC
  exact va_get (D := G.1) (cl := vwCl) (tys := mm_tys G) (ws := mm_l G S) (Ts := WW) hx hb hts hW hown hSt.2.1 (mm_P h1) j (by rw [mm_l_at G S hj, he]) hc f hf (hts _ hl) (fun _ h => h) hv hd (k p e s m args below meth c hC H locs la h1 h2 h3)
theorem vv_put {j ci f : Nat} {C : String} {T : u_T} {N : Nat} {fs : List Value} {x : Int32} {index : Nat} {ty : FieldType} (hW : ∀ w ∈ u_ws C T N, w ∈ WW) (ty0 : Nat → FieldType) (hty0 : ∀ k, k < N → parseFieldDescriptor (T k).2.2.1 = some (ty0 k)) (hnm : ∀ a, a < N → ∀ b, b < N → a ≠ b → (T a).2.1 ≠ (T b).2.1) (hc : vwCl[ci]? = some (C, T, N)) (hf : f < N) (hj : j < 148) (he : mm_enc G j (S j) = .inr (ci, fs)) (hlen : f < fs.length) (he2 : mm_enc G j (upd (S j) f x) = .inr (ci, fs.set f (.int x))) (hfin : (T f).2.2.2 = false) (hpt : parseFieldDescriptor (T f).2.2.1 = some ty) (hty : mm_ty j f = ty) (hok : mm_ok ty x) (hl : Cond.fieldLink own index (T f).1 (T f).2.1 (T f).2.2.1 ∈ WW) (hd : decode cc pc = .ok (.putfield index, 3)) (k : mm_V l G own cc nL rt R kc ns Xt A Qf (mm_wr S j f x) (pc + 3) ls st) : mm_V l G own cc nL rt R kc ns Xt A Qf S pc ls (.int x :: .ref (gad G j) :: st) := by
  intro p e s m args below meth c hC H locs la h1 h2 h3
  obtain ⟨hx, hb, hr, hml, hown, hts, hlk, hSt, hkc, hns, hXt, hA⟩ := id hC
  refine va_put (D := G.1) (cl := vwCl) (tys := mm_tys G) (ws := mm_l G S) (Ts := WW) (A := A s) (H0 := s.heap) hx hb hts hW ty0 hty0 hnm hown hSt.2.1 (mm_P h1) ((mm_D S hSt.1).weaken (fun _ q _ h => hA q.1 h)) h2 j (by rw [mm_l_at G S hj, he]) hc f hf (hts _ hl) (fun _ h => h) hfin hpt hok.1 hok.2 hlen hd (fun H1 locs1 hP hD hS => ?_)
  refine k p e s m args below meth c hC H1 locs1 la (mm_set hj (mm_okS_wr h1.1 (by rw [hty]; exact hok)) (fun a ha => mm_wr_orow S x ha) (by rw [mm_wr_row]; exact he2) hP) hS h3
theorem vg_X0_loads {b : Nat} (hb : b < 11) {index : Nat} (hl : Cond.fieldLink own index "SingingWires$Bridge" "loads" "[I" ∈ WW) (hd : decode cc pc = .ok (.getfield index, 3)) (k : mm_V l G own cc nL rt R kc ns Xt A Qf S (pc + 3) ls (.ref (gad G (mm_L b)) :: st)) : mm_V l G own cc nL rt R kc ns Xt A Qf S pc ls (.ref (gad G (mm_B b)) :: st) := vv_get (ci := 0) (f := 0) (C := RX0) (T := TX0) (N := 9) mw_W_X0 rfl (by decide) (mm_lt_B hb) (mm_enc_B G b _) rfl hl hd k
theorem vg_X0_wireAt {b : Nat} (hb : b < 11) {index : Nat} (hl : Cond.fieldLink own index "SingingWires$Bridge" "wireAt" "[I" ∈ WW) (hd : decode cc pc = .ok (.getfield index, 3)) (k : mm_V l G own cc nL rt R kc ns Xt A Qf S (pc + 3) ls (.ref (gad G (mm_A b)) :: st)) : mm_V l G own cc nL rt R kc ns Xt A Qf S pc ls (.ref (gad G (mm_B b)) :: st) := vv_get (ci := 0) (f := 1) (C := RX0) (T := TX0) (N := 9) mw_W_X0 rfl (by decide) (mm_lt_B hb) (mm_enc_B G b _) rfl hl hd k
theorem vg_X0_wires {b : Nat} (hb : b < 11) {index : Nat} (hl : Cond.fieldLink own index "SingingWires$Bridge" "wires" "[LSingingWires$Wire;" ∈ WW) (hd : decode cc pc = .ok (.getfield index, 3)) (k : mm_V l G own cc nL rt R kc ns Xt A Qf S (pc + 3) ls (.ref (gad G (mm_R b)) :: st)) : mm_V l G own cc nL rt R kc ns Xt A Qf S pc ls (.ref (gad G (mm_B b)) :: st) := vv_get (ci := 0) (f := 2) (C := RX0) (T := TX0) (N := 9) mw_W_X0 rfl (by decide) (mm_lt_B hb) (mm_enc_B G b _) rfl hl hd k
theorem vg_X0_wireCount {b : Nat} (hb : b < 11) {index : Nat} (hl : Cond.fieldLink own index "SingingWires$Bridge" "wireCount" "I" ∈ WW) (hd : decode cc pc = .ok (.getfield index, 3)) (k : mm_V l G own cc nL rt R kc ns Xt A Qf S (pc + 3) ls (.int (S (mm_B b) 3) :: st)) : mm_V l G own cc nL rt R kc ns Xt A Qf S pc ls (.ref (gad G (mm_B b)) :: st) := vv_get (ci := 0) (f := 3) (C := RX0) (T := TX0) (N := 9) mw_W_X0 rfl (by decide) (mm_lt_B hb) (mm_enc_B G b _) rfl hl hd k
theorem vp_X0_wireCount {b : Nat} (hb : b < 11) {index : Nat} {x : Int32} (hl : Cond.fieldLink own index "SingingWires$Bridge" "wireCount" "I" ∈ WW) (hd : decode cc pc = .ok (.putfield index, 3)) (k : mm_V l G own cc nL rt R kc ns Xt A Qf (mm_wr S (mm_B b) 3 x) (pc + 3) ls st) : mm_V l G own cc nL rt R kc ns Xt A Qf S pc ls (.int x :: .ref (gad G (mm_B b)) :: st) := vv_put (ci := 0) (f := 3) (C := RX0) (T := TX0) (N := 9) (ty := .int) mw_W_X0 tyX0 tyX0_ok nmX0 rfl (by decide) (mm_lt_B hb) (mm_enc_B G b _) (by simp) (by rw [mm_enc_B]; rfl) rfl (by decide +kernel) (mm_ty_B b _) (mm_ok_int _) hl hd k
theorem vg_X0_creep {b : Nat} (hb : b < 11) {index : Nat} (hl : Cond.fieldLink own index "SingingWires$Bridge" "creep" "I" ∈ WW) (hd : decode cc pc = .ok (.getfield index, 3)) (k : mm_V l G own cc nL rt R kc ns Xt A Qf S (pc + 3) ls (.int (S (mm_B b) 4) :: st)) : mm_V l G own cc nL rt R kc ns Xt A Qf S pc ls (.ref (gad G (mm_B b)) :: st) := vv_get (ci := 0) (f := 4) (C := RX0) (T := TX0) (N := 9) mw_W_X0 rfl (by decide) (mm_lt_B hb) (mm_enc_B G b _) rfl hl hd k
theorem vp_X0_creep {b : Nat} (hb : b < 11) {index : Nat} {x : Int32} (hl : Cond.fieldLink own index "SingingWires$Bridge" "creep" "I" ∈ WW) (hd : decode cc pc = .ok (.putfield index, 3)) (k : mm_V l G own cc nL rt R kc ns Xt A Qf (mm_wr S (mm_B b) 4 x) (pc + 3) ls st) : mm_V l G own cc nL rt R kc ns Xt A Qf S pc ls (.int x :: .ref (gad G (mm_B b)) :: st) := vv_put (ci := 0) (f := 4) (C := RX0) (T := TX0) (N := 9) (ty := .int) mw_W_X0 tyX0 tyX0_ok nmX0 rfl (by decide) (mm_lt_B hb) (mm_enc_B G b _) (by simp) (by rw [mm_enc_B]; rfl) rfl (by decide +kernel) (mm_ty_B b _) (mm_ok_int _) hl hd k
theorem vg_X0_spare {b : Nat} (hb : b < 11) {index : Nat} (hl : Cond.fieldLink own index "SingingWires$Bridge" "spare" "I" ∈ WW) (hd : decode cc pc = .ok (.getfield index, 3)) (k : mm_V l G own cc nL rt R kc ns Xt A Qf S (pc + 3) ls (.int (S (mm_B b) 5) :: st)) : mm_V l G own cc nL rt R kc ns Xt A Qf S pc ls (.ref (gad G (mm_B b)) :: st) := vv_get (ci := 0) (f := 5) (C := RX0) (T := TX0) (N := 9) mw_W_X0 rfl (by decide) (mm_lt_B hb) (mm_enc_B G b _) rfl hl hd k
theorem vp_X0_spare {b : Nat} (hb : b < 11) {index : Nat} {x : Int32} (hl : Cond.fieldLink own index "SingingWires$Bridge" "spare" "I" ∈ WW) (hd : decode cc pc = .ok (.putfield index, 3)) (k : mm_V l G own cc nL rt R kc ns Xt A Qf (mm_wr S (mm_B b) 5 x) (pc + 3) ls st) : mm_V l G own cc nL rt R kc ns Xt A Qf S pc ls (.int x :: .ref (gad G (mm_B b)) :: st) := vv_put (ci := 0) (f := 5) (C := RX0) (T := TX0) (N := 9) (ty := .int) mw_W_X0 tyX0 tyX0_ok nmX0 rfl (by decide) (mm_lt_B hb) (mm_enc_B G b _) (by simp) (by rw [mm_enc_B]; rfl) rfl (by decide +kernel) (mm_ty_B b _) (mm_ok_int _) hl hd k
theorem vg_X0_day {b : Nat} (hb : b < 11) {index : Nat} (hl : Cond.fieldLink own index "SingingWires$Bridge" "day" "I" ∈ WW) (hd : decode cc pc = .ok (.getfield index, 3)) (k : mm_V l G own cc nL rt R kc ns Xt A Qf S (pc + 3) ls (.int (S (mm_B b) 6) :: st)) : mm_V l G own cc nL rt R kc ns Xt A Qf S pc ls (.ref (gad G (mm_B b)) :: st) := vv_get (ci := 0) (f := 6) (C := RX0) (T := TX0) (N := 9) mw_W_X0 rfl (by decide) (mm_lt_B hb) (mm_enc_B G b _) rfl hl hd k
theorem vp_X0_day {b : Nat} (hb : b < 11) {index : Nat} {x : Int32} (hl : Cond.fieldLink own index "SingingWires$Bridge" "day" "I" ∈ WW) (hd : decode cc pc = .ok (.putfield index, 3)) (k : mm_V l G own cc nL rt R kc ns Xt A Qf (mm_wr S (mm_B b) 6 x) (pc + 3) ls st) : mm_V l G own cc nL rt R kc ns Xt A Qf S pc ls (.int x :: .ref (gad G (mm_B b)) :: st) := vv_put (ci := 0) (f := 6) (C := RX0) (T := TX0) (N := 9) (ty := .int) mw_W_X0 tyX0 tyX0_ok nmX0 rfl (by decide) (mm_lt_B hb) (mm_enc_B G b _) (by simp) (by rw [mm_enc_B]; rfl) rfl (by decide +kernel) (mm_ty_B b _) (mm_ok_int _) hl hd k
theorem vg_X0_place {b : Nat} (hb : b < 11) {index : Nat} (hl : Cond.fieldLink own index "SingingWires$Bridge" "place" "I" ∈ WW) (hd : decode cc pc = .ok (.getfield index, 3)) (k : mm_V l G own cc nL rt R kc ns Xt A Qf S (pc + 3) ls (.int (S (mm_B b) 7) :: st)) : mm_V l G own cc nL rt R kc ns Xt A Qf S pc ls (.ref (gad G (mm_B b)) :: st) := vv_get (ci := 0) (f := 7) (C := RX0) (T := TX0) (N := 9) mw_W_X0 rfl (by decide) (mm_lt_B hb) (mm_enc_B G b _) rfl hl hd k
theorem vp_X0_place {b : Nat} (hb : b < 11) {index : Nat} {x : Int32} (hl : Cond.fieldLink own index "SingingWires$Bridge" "place" "I" ∈ WW) (hd : decode cc pc = .ok (.putfield index, 3)) (k : mm_V l G own cc nL rt R kc ns Xt A Qf (mm_wr S (mm_B b) 7 x) (pc + 3) ls st) : mm_V l G own cc nL rt R kc ns Xt A Qf S pc ls (.int x :: .ref (gad G (mm_B b)) :: st) := vv_put (ci := 0) (f := 7) (C := RX0) (T := TX0) (N := 9) (ty := .int) mw_W_X0 tyX0 tyX0_ok nmX0 rfl (by decide) (mm_lt_B hb) (mm_enc_B G b _) (by simp) (by rw [mm_enc_B]; rfl) rfl (by decide +kernel) (mm_ty_B b _) (mm_ok_int _) hl hd k
theorem vg_X0_walked {b : Nat} (hb : b < 11) {index : Nat} (hl : Cond.fieldLink own index "SingingWires$Bridge" "walked" "I" ∈ WW) (hd : decode cc pc = .ok (.getfield index, 3)) (k : mm_V l G own cc nL rt R kc ns Xt A Qf S (pc + 3) ls (.int (S (mm_B b) 8) :: st)) : mm_V l G own cc nL rt R kc ns Xt A Qf S pc ls (.ref (gad G (mm_B b)) :: st) := vv_get (ci := 0) (f := 8) (C := RX0) (T := TX0) (N := 9) mw_W_X0 rfl (by decide) (mm_lt_B hb) (mm_enc_B G b _) rfl hl hd k
theorem vp_X0_walked {b : Nat} (hb : b < 11) {index : Nat} {x : Int32} (hl : Cond.fieldLink own index "SingingWires$Bridge" "walked" "I" ∈ WW) (hd : decode cc pc = .ok (.putfield index, 3)) (k : mm_V l G own cc nL rt R kc ns Xt A Qf (mm_wr S (mm_B b) 8 x) (pc + 3) ls st) : mm_V l G own cc nL rt R kc ns Xt A Qf S pc ls (.int x :: .ref (gad G (mm_B b)) :: st) := vv_put (ci := 0) (f := 8) (C := RX0) (T := TX0) (N := 9) (ty := .int) mw_W_X0 tyX0 tyX0_ok nmX0 rfl (by decide) (mm_lt_B hb) (mm_enc_B G b _) (by simp) (by rw [mm_enc_B]; rfl) rfl (by decide +kernel) (mm_ty_B b _) (mm_ok_int _) hl hd k
theorem vg_X1_states {index : Nat} (hl : Cond.fieldLink own index "SingingWires$History" "states" "[LSingingWires$Bridge;" ∈ WW) (hd : decode cc pc = .ok (.getfield index, 3)) (k : mm_V l G own cc nL rt R kc ns Xt A Qf S (pc + 3) ls (.ref (gad G (4)) :: st)) : mm_V l G own cc nL rt R kc ns Xt A Qf S pc ls (.ref (gad G (3)) :: st) := vv_get (ci := 1) (f := 0) (C := RX1) (T := TX1) (N := 2) mw_W_X1 rfl (by decide) (by decide) rfl rfl hl hd k
theorem vg_X1_kept {index : Nat} (hl : Cond.fieldLink own index "SingingWires$History" "kept" "I" ∈ WW) (hd : decode cc pc = .ok (.getfield index, 3)) (k : mm_V l G own cc nL rt R kc ns Xt A Qf S (pc + 3) ls (.int (S (3) 1) :: st)) : mm_V l G own cc nL rt R kc ns Xt A Qf S pc ls (.ref (gad G (3)) :: st) := vv_get (ci := 1) (f := 1) (C := RX1) (T := TX1) (N := 2) mw_W_X1 rfl (by decide) (by decide) rfl rfl hl hd k
theorem vp_X1_kept {index : Nat} {x : Int32} (hl : Cond.fieldLink own index "SingingWires$History" "kept" "I" ∈ WW) (hd : decode cc pc = .ok (.putfield index, 3)) (k : mm_V l G own cc nL rt R kc ns Xt A Qf (mm_wr S (3) 1 x) (pc + 3) ls st) : mm_V l G own cc nL rt R kc ns Xt A Qf S pc ls (.int x :: .ref (gad G (3)) :: st) := vv_put (ci := 1) (f := 1) (C := RX1) (T := TX1) (N := 2) (ty := .int) mw_W_X1 tyX1 tyX1_ok nmX1 rfl (by decide) (by decide) rfl (by simp) rfl rfl (by decide +kernel) rfl (mm_ok_int _) hl hd k
theorem vg_X2_signs {index : Nat} (hl : Cond.fieldLink own index "SingingWires$Pad" "signs" "[C" ∈ WW) (hd : decode cc pc = .ok (.getfield index, 3)) (k : mm_V l G own cc nL rt R kc ns Xt A Qf S (pc + 3) ls (.ref (gad G (6)) :: st)) : mm_V l G own cc nL rt R kc ns Xt A Qf S pc ls (.ref (gad G (5)) :: st) := vv_get (ci := 2) (f := 0) (C := RX2) (T := TX2) (N := 9) mw_W_X2 rfl (by decide) (by decide) rfl rfl hl hd k
theorem vg_X2_length {index : Nat} (hl : Cond.fieldLink own index "SingingWires$Pad" "length" "I" ∈ WW) (hd : decode cc pc = .ok (.getfield index, 3)) (k : mm_V l G own cc nL rt R kc ns Xt A Qf S (pc + 3) ls (.int (S (5) 1) :: st)) : mm_V l G own cc nL rt R kc ns Xt A Qf S pc ls (.ref (gad G (5)) :: st) := vv_get (ci := 2) (f := 1) (C := RX2) (T := TX2) (N := 9) mw_W_X2 rfl (by decide) (by decide) rfl rfl hl hd k
theorem vp_X2_length {index : Nat} {x : Int32} (hl : Cond.fieldLink own index "SingingWires$Pad" "length" "I" ∈ WW) (hd : decode cc pc = .ok (.putfield index, 3)) (k : mm_V l G own cc nL rt R kc ns Xt A Qf (mm_wr S (5) 1 x) (pc + 3) ls st) : mm_V l G own cc nL rt R kc ns Xt A Qf S pc ls (.int x :: .ref (gad G (5)) :: st) := vv_put (ci := 2) (f := 1) (C := RX2) (T := TX2) (N := 9) (ty := .int) mw_W_X2 tyX2 tyX2_ok nmX2 rfl (by decide) (by decide) rfl (by simp) rfl rfl (by decide +kernel) rfl (mm_ok_int _) hl hd k
theorem vg_X2_at {index : Nat} (hl : Cond.fieldLink own index "SingingWires$Pad" "at" "I" ∈ WW) (hd : decode cc pc = .ok (.getfield index, 3)) (k : mm_V l G own cc nL rt R kc ns Xt A Qf S (pc + 3) ls (.int (S (5) 2) :: st)) : mm_V l G own cc nL rt R kc ns Xt A Qf S pc ls (.ref (gad G (5)) :: st) := vv_get (ci := 2) (f := 2) (C := RX2) (T := TX2) (N := 9) mw_W_X2 rfl (by decide) (by decide) rfl rfl hl hd k
theorem vp_X2_at {index : Nat} {x : Int32} (hl : Cond.fieldLink own index "SingingWires$Pad" "at" "I" ∈ WW) (hd : decode cc pc = .ok (.putfield index, 3)) (k : mm_V l G own cc nL rt R kc ns Xt A Qf (mm_wr S (5) 2 x) (pc + 3) ls st) : mm_V l G own cc nL rt R kc ns Xt A Qf S pc ls (.int x :: .ref (gad G (5)) :: st) := vv_put (ci := 2) (f := 2) (C := RX2) (T := TX2) (N := 9) (ty := .int) mw_W_X2 tyX2 tyX2_ok nmX2 rfl (by decide) (by decide) rfl (by simp) rfl rfl (by decide +kernel) rfl (mm_ok_int _) hl hd k
theorem vg_X2_letter {index : Nat} (hl : Cond.fieldLink own index "SingingWires$Pad" "letter" "C" ∈ WW) (hd : decode cc pc = .ok (.getfield index, 3)) (k : mm_V l G own cc nL rt R kc ns Xt A Qf S (pc + 3) ls (.int (S (5) 3) :: st)) : mm_V l G own cc nL rt R kc ns Xt A Qf S pc ls (.ref (gad G (5)) :: st) := vv_get (ci := 2) (f := 3) (C := RX2) (T := TX2) (N := 9) mw_W_X2 rfl (by decide) (by decide) rfl rfl hl hd k
theorem vp_X2_letter {index : Nat} {x : Int32} (hok : mm_ok .char x) (hl : Cond.fieldLink own index "SingingWires$Pad" "letter" "C" ∈ WW) (hd : decode cc pc = .ok (.putfield index, 3)) (k : mm_V l G own cc nL rt R kc ns Xt A Qf (mm_wr S (5) 3 x) (pc + 3) ls st) : mm_V l G own cc nL rt R kc ns Xt A Qf S pc ls (.int x :: .ref (gad G (5)) :: st) := vv_put (ci := 2) (f := 3) (C := RX2) (T := TX2) (N := 9) (ty := .char) mw_W_X2 tyX2 tyX2_ok nmX2 rfl (by decide) (by decide) rfl (by simp) rfl rfl (by decide +kernel) rfl hok hl hd k
theorem vg_X2_first {index : Nat} (hl : Cond.fieldLink own index "SingingWires$Pad" "first" "I" ∈ WW) (hd : decode cc pc = .ok (.getfield index, 3)) (k : mm_V l G own cc nL rt R kc ns Xt A Qf S (pc + 3) ls (.int (S (5) 4) :: st)) : mm_V l G own cc nL rt R kc ns Xt A Qf S pc ls (.ref (gad G (5)) :: st) := vv_get (ci := 2) (f := 4) (C := RX2) (T := TX2) (N := 9) mw_W_X2 rfl (by decide) (by decide) rfl rfl hl hd k
theorem vp_X2_first {index : Nat} {x : Int32} (hl : Cond.fieldLink own index "SingingWires$Pad" "first" "I" ∈ WW) (hd : decode cc pc = .ok (.putfield index, 3)) (k : mm_V l G own cc nL rt R kc ns Xt A Qf (mm_wr S (5) 4 x) (pc + 3) ls st) : mm_V l G own cc nL rt R kc ns Xt A Qf S pc ls (.int x :: .ref (gad G (5)) :: st) := vv_put (ci := 2) (f := 4) (C := RX2) (T := TX2) (N := 9) (ty := .int) mw_W_X2 tyX2 tyX2_ok nmX2 rfl (by decide) (by decide) rfl (by simp) rfl rfl (by decide +kernel) rfl (mm_ok_int _) hl hd k
theorem vg_X2_second {index : Nat} (hl : Cond.fieldLink own index "SingingWires$Pad" "second" "I" ∈ WW) (hd : decode cc pc = .ok (.getfield index, 3)) (k : mm_V l G own cc nL rt R kc ns Xt A Qf S (pc + 3) ls (.int (S (5) 5) :: st)) : mm_V l G own cc nL rt R kc ns Xt A Qf S pc ls (.ref (gad G (5)) :: st) := vv_get (ci := 2) (f := 5) (C := RX2) (T := TX2) (N := 9) mw_W_X2 rfl (by decide) (by decide) rfl rfl hl hd k
theorem vp_X2_second {index : Nat} {x : Int32} (hl : Cond.fieldLink own index "SingingWires$Pad" "second" "I" ∈ WW) (hd : decode cc pc = .ok (.putfield index, 3)) (k : mm_V l G own cc nL rt R kc ns Xt A Qf (mm_wr S (5) 5 x) (pc + 3) ls st) : mm_V l G own cc nL rt R kc ns Xt A Qf S pc ls (.int x :: .ref (gad G (5)) :: st) := vv_put (ci := 2) (f := 5) (C := RX2) (T := TX2) (N := 9) (ty := .int) mw_W_X2 tyX2 tyX2_ok nmX2 rfl (by decide) (by decide) rfl (by simp) rfl rfl (by decide +kernel) rfl (mm_ok_int _) hl hd k
theorem vg_X2_due {index : Nat} (hl : Cond.fieldLink own index "SingingWires$Pad" "due" "I" ∈ WW) (hd : decode cc pc = .ok (.getfield index, 3)) (k : mm_V l G own cc nL rt R kc ns Xt A Qf S (pc + 3) ls (.int (S (5) 6) :: st)) : mm_V l G own cc nL rt R kc ns Xt A Qf S pc ls (.ref (gad G (5)) :: st) := vv_get (ci := 2) (f := 6) (C := RX2) (T := TX2) (N := 9) mw_W_X2 rfl (by decide) (by decide) rfl rfl hl hd k
theorem vp_X2_due {index : Nat} {x : Int32} (hl : Cond.fieldLink own index "SingingWires$Pad" "due" "I" ∈ WW) (hd : decode cc pc = .ok (.putfield index, 3)) (k : mm_V l G own cc nL rt R kc ns Xt A Qf (mm_wr S (5) 6 x) (pc + 3) ls st) : mm_V l G own cc nL rt R kc ns Xt A Qf S pc ls (.int x :: .ref (gad G (5)) :: st) := vv_put (ci := 2) (f := 6) (C := RX2) (T := TX2) (N := 9) (ty := .int) mw_W_X2 tyX2 tyX2_ok nmX2 rfl (by decide) (by decide) rfl (by simp) rfl rfl (by decide +kernel) rfl (mm_ok_int _) hl hd k
theorem vg_X2_equalsDue {index : Nat} (hl : Cond.fieldLink own index "SingingWires$Pad" "equalsDue" "Z" ∈ WW) (hd : decode cc pc = .ok (.getfield index, 3)) (k : mm_V l G own cc nL rt R kc ns Xt A Qf S (pc + 3) ls (.int (S (5) 7) :: st)) : mm_V l G own cc nL rt R kc ns Xt A Qf S pc ls (.ref (gad G (5)) :: st) := vv_get (ci := 2) (f := 7) (C := RX2) (T := TX2) (N := 9) mw_W_X2 rfl (by decide) (by decide) rfl rfl hl hd k
theorem vp_X2_equalsDue {index : Nat} {x : Int32} (hok : x = 0 ∨ x = 1) (hl : Cond.fieldLink own index "SingingWires$Pad" "equalsDue" "Z" ∈ WW) (hd : decode cc pc = .ok (.putfield index, 3)) (k : mm_V l G own cc nL rt R kc ns Xt A Qf (mm_wr S (5) 7 x) (pc + 3) ls st) : mm_V l G own cc nL rt R kc ns Xt A Qf S pc ls (.int x :: .ref (gad G (5)) :: st) := vv_put (ci := 2) (f := 7) (C := RX2) (T := TX2) (N := 9) (ty := .boolean) mw_W_X2 tyX2 tyX2_ok nmX2 rfl (by decide) (by decide) rfl (by simp) rfl rfl (by decide +kernel) rfl (mm_ok_b _ hok) hl hd k
theorem vg_X2_number {index : Nat} (hl : Cond.fieldLink own index "SingingWires$Pad" "number" "I" ∈ WW) (hd : decode cc pc = .ok (.getfield index, 3)) (k : mm_V l G own cc nL rt R kc ns Xt A Qf S (pc + 3) ls (.int (S (5) 8) :: st)) : mm_V l G own cc nL rt R kc ns Xt A Qf S pc ls (.ref (gad G (5)) :: st) := vv_get (ci := 2) (f := 8) (C := RX2) (T := TX2) (N := 9) mw_W_X2 rfl (by decide) (by decide) rfl rfl hl hd k
theorem vp_X2_number {index : Nat} {x : Int32} (hl : Cond.fieldLink own index "SingingWires$Pad" "number" "I" ∈ WW) (hd : decode cc pc = .ok (.putfield index, 3)) (k : mm_V l G own cc nL rt R kc ns Xt A Qf (mm_wr S (5) 8 x) (pc + 3) ls st) : mm_V l G own cc nL rt R kc ns Xt A Qf S pc ls (.int x :: .ref (gad G (5)) :: st) := vv_put (ci := 2) (f := 8) (C := RX2) (T := TX2) (N := 9) (ty := .int) mw_W_X2 tyX2 tyX2_ok nmX2 rfl (by decide) (by decide) rfl (by simp) rfl rfl (by decide +kernel) rfl (mm_ok_int _) hl hd k
theorem vg_X3_place {b w : Nat} (hb : b < 11) (hw : w < 8) {index : Nat} (hl : Cond.fieldLink own index "SingingWires$Wire" "place" "I" ∈ WW) (hd : decode cc pc = .ok (.getfield index, 3)) (k : mm_V l G own cc nL rt R kc ns Xt A Qf S (pc + 3) ls (.int (S (mm_W b w) 0) :: st)) : mm_V l G own cc nL rt R kc ns Xt A Qf S pc ls (.ref (gad G (mm_W b w)) :: st) := vv_get (ci := 3) (f := 0) (C := RX3) (T := TX3) (N := 12) mw_W_X3 rfl (by decide) (mm_lt_W hb hw) (mm_enc_W G b hw _) rfl hl hd k
theorem vp_X3_place {b w : Nat} (hb : b < 11) (hw : w < 8) {index : Nat} {x : Int32} (hl : Cond.fieldLink own index "SingingWires$Wire" "place" "I" ∈ WW) (hd : decode cc pc = .ok (.putfield index, 3)) (k : mm_V l G own cc nL rt R kc ns Xt A Qf (mm_wr S (mm_W b w) 0 x) (pc + 3) ls st) : mm_V l G own cc nL rt R kc ns Xt A Qf S pc ls (.int x :: .ref (gad G (mm_W b w)) :: st) := vv_put (ci := 3) (f := 0) (C := RX3) (T := TX3) (N := 12) (ty := .int) mw_W_X3 tyX3 tyX3_ok nmX3 rfl (by decide) (mm_lt_W hb hw) (mm_enc_W G b hw _) (by simp) (by rw [mm_enc_W G b hw]; rfl) rfl (by decide +kernel) (mm_ty_W b w _ hw) (mm_ok_int _) hl hd k
theorem vg_X3_length {b w : Nat} (hb : b < 11) (hw : w < 8) {index : Nat} (hl : Cond.fieldLink own index "SingingWires$Wire" "length" "I" ∈ WW) (hd : decode cc pc = .ok (.getfield index, 3)) (k : mm_V l G own cc nL rt R kc ns Xt A Qf S (pc + 3) ls (.int (S (mm_W b w) 1) :: st)) : mm_V l G own cc nL rt R kc ns Xt A Qf S pc ls (.ref (gad G (mm_W b w)) :: st) := vv_get (ci := 3) (f := 1) (C := RX3) (T := TX3) (N := 12) mw_W_X3 rfl (by decide) (mm_lt_W hb hw) (mm_enc_W G b hw _) rfl hl hd k
theorem vp_X3_length {b w : Nat} (hb : b < 11) (hw : w < 8) {index : Nat} {x : Int32} (hl : Cond.fieldLink own index "SingingWires$Wire" "length" "I" ∈ WW) (hd : decode cc pc = .ok (.putfield index, 3)) (k : mm_V l G own cc nL rt R kc ns Xt A Qf (mm_wr S (mm_W b w) 1 x) (pc + 3) ls st) : mm_V l G own cc nL rt R kc ns Xt A Qf S pc ls (.int x :: .ref (gad G (mm_W b w)) :: st) := vv_put (ci := 3) (f := 1) (C := RX3) (T := TX3) (N := 12) (ty := .int) mw_W_X3 tyX3 tyX3_ok nmX3 rfl (by decide) (mm_lt_W hb hw) (mm_enc_W G b hw _) (by simp) (by rw [mm_enc_W G b hw]; rfl) rfl (by decide +kernel) (mm_ty_W b w _ hw) (mm_ok_int _) hl hd k
theorem vg_X3_mass {b w : Nat} (hb : b < 11) (hw : w < 8) {index : Nat} (hl : Cond.fieldLink own index "SingingWires$Wire" "mass" "I" ∈ WW) (hd : decode cc pc = .ok (.getfield index, 3)) (k : mm_V l G own cc nL rt R kc ns Xt A Qf S (pc + 3) ls (.int (S (mm_W b w) 2) :: st)) : mm_V l G own cc nL rt R kc ns Xt A Qf S pc ls (.ref (gad G (mm_W b w)) :: st) := vv_get (ci := 3) (f := 2) (C := RX3) (T := TX3) (N := 12) mw_W_X3 rfl (by decide) (mm_lt_W hb hw) (mm_enc_W G b hw _) rfl hl hd k
theorem vp_X3_mass {b w : Nat} (hb : b < 11) (hw : w < 8) {index : Nat} {x : Int32} (hl : Cond.fieldLink own index "SingingWires$Wire" "mass" "I" ∈ WW) (hd : decode cc pc = .ok (.putfield index, 3)) (k : mm_V l G own cc nL rt R kc ns Xt A Qf (mm_wr S (mm_W b w) 2 x) (pc + 3) ls st) : mm_V l G own cc nL rt R kc ns Xt A Qf S pc ls (.int x :: .ref (gad G (mm_W b w)) :: st) := vv_put (ci := 3) (f := 2) (C := RX3) (T := TX3) (N := 12) (ty := .int) mw_W_X3 tyX3 tyX3_ok nmX3 rfl (by decide) (mm_lt_W hb hw) (mm_enc_W G b hw _) (by simp) (by rw [mm_enc_W G b hw]; rfl) rfl (by decide +kernel) (mm_ty_W b w _ hw) (mm_ok_int _) hl hd k
theorem vg_X3_strength {b w : Nat} (hb : b < 11) (hw : w < 8) {index : Nat} (hl : Cond.fieldLink own index "SingingWires$Wire" "strength" "I" ∈ WW) (hd : decode cc pc = .ok (.getfield index, 3)) (k : mm_V l G own cc nL rt R kc ns Xt A Qf S (pc + 3) ls (.int (S (mm_W b w) 3) :: st)) : mm_V l G own cc nL rt R kc ns Xt A Qf S pc ls (.ref (gad G (mm_W b w)) :: st) := vv_get (ci := 3) (f := 3) (C := RX3) (T := TX3) (N := 12) mw_W_X3 rfl (by decide) (mm_lt_W hb hw) (mm_enc_W G b hw _) rfl hl hd k
theorem vp_X3_strength {b w : Nat} (hb : b < 11) (hw : w < 8) {index : Nat} {x : Int32} (hl : Cond.fieldLink own index "SingingWires$Wire" "strength" "I" ∈ WW) (hd : decode cc pc = .ok (.putfield index, 3)) (k : mm_V l G own cc nL rt R kc ns Xt A Qf (mm_wr S (mm_W b w) 3 x) (pc + 3) ls st) : mm_V l G own cc nL rt R kc ns Xt A Qf S pc ls (.int x :: .ref (gad G (mm_W b w)) :: st) := vv_put (ci := 3) (f := 3) (C := RX3) (T := TX3) (N := 12) (ty := .int) mw_W_X3 tyX3 tyX3_ok nmX3 rfl (by decide) (mm_lt_W hb hw) (mm_enc_W G b hw _) (by simp) (by rw [mm_enc_W G b hw]; rfl) rfl (by decide +kernel) (mm_ty_W b w _ hw) (mm_ok_int _) hl hd k
theorem vg_X3_tension {b w : Nat} (hb : b < 11) (hw : w < 8) {index : Nat} (hl : Cond.fieldLink own index "SingingWires$Wire" "tension" "I" ∈ WW) (hd : decode cc pc = .ok (.getfield index, 3)) (k : mm_V l G own cc nL rt R kc ns Xt A Qf S (pc + 3) ls (.int (S (mm_W b w) 4) :: st)) : mm_V l G own cc nL rt R kc ns Xt A Qf S pc ls (.ref (gad G (mm_W b w)) :: st) := vv_get (ci := 3) (f := 4) (C := RX3) (T := TX3) (N := 12) mw_W_X3 rfl (by decide) (mm_lt_W hb hw) (mm_enc_W G b hw _) rfl hl hd k
theorem vp_X3_tension {b w : Nat} (hb : b < 11) (hw : w < 8) {index : Nat} {x : Int32} (hl : Cond.fieldLink own index "SingingWires$Wire" "tension" "I" ∈ WW) (hd : decode cc pc = .ok (.putfield index, 3)) (k : mm_V l G own cc nL rt R kc ns Xt A Qf (mm_wr S (mm_W b w) 4 x) (pc + 3) ls st) : mm_V l G own cc nL rt R kc ns Xt A Qf S pc ls (.int x :: .ref (gad G (mm_W b w)) :: st) := vv_put (ci := 3) (f := 4) (C := RX3) (T := TX3) (N := 12) (ty := .int) mw_W_X3 tyX3 tyX3_ok nmX3 rfl (by decide) (mm_lt_W hb hw) (mm_enc_W G b hw _) (by simp) (by rw [mm_enc_W G b hw]; rfl) rfl (by decide +kernel) (mm_ty_W b w _ hw) (mm_ok_int _) hl hd k
theorem vg_X3_task {b w : Nat} (hb : b < 11) (hw : w < 8) {index : Nat} (hl : Cond.fieldLink own index "SingingWires$Wire" "task" "I" ∈ WW) (hd : decode cc pc = .ok (.getfield index, 3)) (k : mm_V l G own cc nL rt R kc ns Xt A Qf S (pc + 3) ls (.int (S (mm_W b w) 5) :: st)) : mm_V l G own cc nL rt R kc ns Xt A Qf S pc ls (.ref (gad G (mm_W b w)) :: st) := vv_get (ci := 3) (f := 5) (C := RX3) (T := TX3) (N := 12) mw_W_X3 rfl (by decide) (mm_lt_W hb hw) (mm_enc_W G b hw _) rfl hl hd k
theorem vp_X3_task {b w : Nat} (hb : b < 11) (hw : w < 8) {index : Nat} {x : Int32} (hl : Cond.fieldLink own index "SingingWires$Wire" "task" "I" ∈ WW) (hd : decode cc pc = .ok (.putfield index, 3)) (k : mm_V l G own cc nL rt R kc ns Xt A Qf (mm_wr S (mm_W b w) 5 x) (pc + 3) ls st) : mm_V l G own cc nL rt R kc ns Xt A Qf S pc ls (.int x :: .ref (gad G (mm_W b w)) :: st) := vv_put (ci := 3) (f := 5) (C := RX3) (T := TX3) (N := 12) (ty := .int) mw_W_X3 tyX3 tyX3_ok nmX3 rfl (by decide) (mm_lt_W hb hw) (mm_enc_W G b hw _) (by simp) (by rw [mm_enc_W G b hw]; rfl) rfl (by decide +kernel) (mm_ty_W b w _ hw) (mm_ok_int _) hl hd k
theorem vg_X3_broken {b w : Nat} (hb : b < 11) (hw : w < 8) {index : Nat} (hl : Cond.fieldLink own index "SingingWires$Wire" "broken" "Z" ∈ WW) (hd : decode cc pc = .ok (.getfield index, 3)) (k : mm_V l G own cc nL rt R kc ns Xt A Qf S (pc + 3) ls (.int (S (mm_W b w) 6) :: st)) : mm_V l G own cc nL rt R kc ns Xt A Qf S pc ls (.ref (gad G (mm_W b w)) :: st) := vv_get (ci := 3) (f := 6) (C := RX3) (T := TX3) (N := 12) mw_W_X3 rfl (by decide) (mm_lt_W hb hw) (mm_enc_W G b hw _) rfl hl hd k
theorem vp_X3_broken {b w : Nat} (hb : b < 11) (hw : w < 8) {index : Nat} {x : Int32} (hok : x = 0 ∨ x = 1) (hl : Cond.fieldLink own index "SingingWires$Wire" "broken" "Z" ∈ WW) (hd : decode cc pc = .ok (.putfield index, 3)) (k : mm_V l G own cc nL rt R kc ns Xt A Qf (mm_wr S (mm_W b w) 6 x) (pc + 3) ls st) : mm_V l G own cc nL rt R kc ns Xt A Qf S pc ls (.int x :: .ref (gad G (mm_W b w)) :: st) := vv_put (ci := 3) (f := 6) (C := RX3) (T := TX3) (N := 12) (ty := .boolean) mw_W_X3 tyX3 tyX3_ok nmX3 rfl (by decide) (mm_lt_W hb hw) (mm_enc_W G b hw _) (by simp) (by rw [mm_enc_W G b hw]; rfl) rfl (by decide +kernel) (mm_ty_W b w _ hw) (mm_ok_b _ hok) hl hd k
theorem vg_X3_brokeOn {b w : Nat} (hb : b < 11) (hw : w < 8) {index : Nat} (hl : Cond.fieldLink own index "SingingWires$Wire" "brokeOn" "I" ∈ WW) (hd : decode cc pc = .ok (.getfield index, 3)) (k : mm_V l G own cc nL rt R kc ns Xt A Qf S (pc + 3) ls (.int (S (mm_W b w) 7) :: st)) : mm_V l G own cc nL rt R kc ns Xt A Qf S pc ls (.ref (gad G (mm_W b w)) :: st) := vv_get (ci := 3) (f := 7) (C := RX3) (T := TX3) (N := 12) mw_W_X3 rfl (by decide) (mm_lt_W hb hw) (mm_enc_W G b hw _) rfl hl hd k
theorem vp_X3_brokeOn {b w : Nat} (hb : b < 11) (hw : w < 8) {index : Nat} {x : Int32} (hl : Cond.fieldLink own index "SingingWires$Wire" "brokeOn" "I" ∈ WW) (hd : decode cc pc = .ok (.putfield index, 3)) (k : mm_V l G own cc nL rt R kc ns Xt A Qf (mm_wr S (mm_W b w) 7 x) (pc + 3) ls st) : mm_V l G own cc nL rt R kc ns Xt A Qf S pc ls (.int x :: .ref (gad G (mm_W b w)) :: st) := vv_put (ci := 3) (f := 7) (C := RX3) (T := TX3) (N := 12) (ty := .int) mw_W_X3 tyX3 tyX3_ok nmX3 rfl (by decide) (mm_lt_W hb hw) (mm_enc_W G b hw _) (by simp) (by rw [mm_enc_W G b hw]; rfl) rfl (by decide +kernel) (mm_ty_W b w _ hw) (mm_ok_int _) hl hd k
theorem vg_X3_heardOn {b w : Nat} (hb : b < 11) (hw : w < 8) {index : Nat} (hl : Cond.fieldLink own index "SingingWires$Wire" "heardOn" "I" ∈ WW) (hd : decode cc pc = .ok (.getfield index, 3)) (k : mm_V l G own cc nL rt R kc ns Xt A Qf S (pc + 3) ls (.int (S (mm_W b w) 8) :: st)) : mm_V l G own cc nL rt R kc ns Xt A Qf S pc ls (.ref (gad G (mm_W b w)) :: st) := vv_get (ci := 3) (f := 8) (C := RX3) (T := TX3) (N := 12) mw_W_X3 rfl (by decide) (mm_lt_W hb hw) (mm_enc_W G b hw _) rfl hl hd k
theorem vp_X3_heardOn {b w : Nat} (hb : b < 11) (hw : w < 8) {index : Nat} {x : Int32} (hl : Cond.fieldLink own index "SingingWires$Wire" "heardOn" "I" ∈ WW) (hd : decode cc pc = .ok (.putfield index, 3)) (k : mm_V l G own cc nL rt R kc ns Xt A Qf (mm_wr S (mm_W b w) 8 x) (pc + 3) ls st) : mm_V l G own cc nL rt R kc ns Xt A Qf S pc ls (.int x :: .ref (gad G (mm_W b w)) :: st) := vv_put (ci := 3) (f := 8) (C := RX3) (T := TX3) (N := 12) (ty := .int) mw_W_X3 tyX3 tyX3_ok nmX3 rfl (by decide) (mm_lt_W hb hw) (mm_enc_W G b hw _) (by simp) (by rw [mm_enc_W G b hw]; rfl) rfl (by decide +kernel) (mm_ty_W b w _ hw) (mm_ok_int _) hl hd k
theorem vg_X3_low {b w : Nat} (hb : b < 11) (hw : w < 8) {index : Nat} (hl : Cond.fieldLink own index "SingingWires$Wire" "low" "I" ∈ WW) (hd : decode cc pc = .ok (.getfield index, 3)) (k : mm_V l G own cc nL rt R kc ns Xt A Qf S (pc + 3) ls (.int (S (mm_W b w) 9) :: st)) : mm_V l G own cc nL rt R kc ns Xt A Qf S pc ls (.ref (gad G (mm_W b w)) :: st) := vv_get (ci := 3) (f := 9) (C := RX3) (T := TX3) (N := 12) mw_W_X3 rfl (by decide) (mm_lt_W hb hw) (mm_enc_W G b hw _) rfl hl hd k
theorem vp_X3_low {b w : Nat} (hb : b < 11) (hw : w < 8) {index : Nat} {x : Int32} (hl : Cond.fieldLink own index "SingingWires$Wire" "low" "I" ∈ WW) (hd : decode cc pc = .ok (.putfield index, 3)) (k : mm_V l G own cc nL rt R kc ns Xt A Qf (mm_wr S (mm_W b w) 9 x) (pc + 3) ls st) : mm_V l G own cc nL rt R kc ns Xt A Qf S pc ls (.int x :: .ref (gad G (mm_W b w)) :: st) := vv_put (ci := 3) (f := 9) (C := RX3) (T := TX3) (N := 12) (ty := .int) mw_W_X3 tyX3 tyX3_ok nmX3 rfl (by decide) (mm_lt_W hb hw) (mm_enc_W G b hw _) (by simp) (by rw [mm_enc_W G b hw]; rfl) rfl (by decide +kernel) (mm_ty_W b w _ hw) (mm_ok_int _) hl hd k
theorem vg_X3_high {b w : Nat} (hb : b < 11) (hw : w < 8) {index : Nat} (hl : Cond.fieldLink own index "SingingWires$Wire" "high" "I" ∈ WW) (hd : decode cc pc = .ok (.getfield index, 3)) (k : mm_V l G own cc nL rt R kc ns Xt A Qf S (pc + 3) ls (.int (S (mm_W b w) 10) :: st)) : mm_V l G own cc nL rt R kc ns Xt A Qf S pc ls (.ref (gad G (mm_W b w)) :: st) := vv_get (ci := 3) (f := 10) (C := RX3) (T := TX3) (N := 12) mw_W_X3 rfl (by decide) (mm_lt_W hb hw) (mm_enc_W G b hw _) rfl hl hd k
theorem vp_X3_high {b w : Nat} (hb : b < 11) (hw : w < 8) {index : Nat} {x : Int32} (hl : Cond.fieldLink own index "SingingWires$Wire" "high" "I" ∈ WW) (hd : decode cc pc = .ok (.putfield index, 3)) (k : mm_V l G own cc nL rt R kc ns Xt A Qf (mm_wr S (mm_W b w) 10 x) (pc + 3) ls st) : mm_V l G own cc nL rt R kc ns Xt A Qf S pc ls (.int x :: .ref (gad G (mm_W b w)) :: st) := vv_put (ci := 3) (f := 10) (C := RX3) (T := TX3) (N := 12) (ty := .int) mw_W_X3 tyX3 tyX3_ok nmX3 rfl (by decide) (mm_lt_W hb hw) (mm_enc_W G b hw _) (by simp) (by rw [mm_enc_W G b hw]; rfl) rfl (by decide +kernel) (mm_ty_W b w _ hw) (mm_ok_int _) hl hd k
theorem vg_X3_heardBroken {b w : Nat} (hb : b < 11) (hw : w < 8) {index : Nat} (hl : Cond.fieldLink own index "SingingWires$Wire" "heardBroken" "Z" ∈ WW) (hd : decode cc pc = .ok (.getfield index, 3)) (k : mm_V l G own cc nL rt R kc ns Xt A Qf S (pc + 3) ls (.int (S (mm_W b w) 11) :: st)) : mm_V l G own cc nL rt R kc ns Xt A Qf S pc ls (.ref (gad G (mm_W b w)) :: st) := vv_get (ci := 3) (f := 11) (C := RX3) (T := TX3) (N := 12) mw_W_X3 rfl (by decide) (mm_lt_W hb hw) (mm_enc_W G b hw _) rfl hl hd k
theorem vp_X3_heardBroken {b w : Nat} (hb : b < 11) (hw : w < 8) {index : Nat} {x : Int32} (hok : x = 0 ∨ x = 1) (hl : Cond.fieldLink own index "SingingWires$Wire" "heardBroken" "Z" ∈ WW) (hd : decode cc pc = .ok (.putfield index, 3)) (k : mm_V l G own cc nL rt R kc ns Xt A Qf (mm_wr S (mm_W b w) 11 x) (pc + 3) ls st) : mm_V l G own cc nL rt R kc ns Xt A Qf S pc ls (.int x :: .ref (gad G (mm_W b w)) :: st) := vv_put (ci := 3) (f := 11) (C := RX3) (T := TX3) (N := 12) (ty := .boolean) mw_W_X3 tyX3 tyX3_ok nmX3 rfl (by decide) (mm_lt_W hb hw) (mm_enc_W G b hw _) (by simp) (by rw [mm_enc_W G b hw]; rfl) rfl (by decide +kernel) (mm_ty_W b w _ hw) (mm_ok_b _ hok) hl hd k
theorem vg_X4_bridge {index : Nat} (hl : Cond.fieldLink own index "SingingWires" "bridge" "LSingingWires$Bridge;" ∈ WW) (hd : decode cc pc = .ok (.getfield index, 3)) (k : mm_V l G own cc nL rt R kc ns Xt A Qf S (pc + 3) ls (.ref (gad G ((mm_B 0))) :: st)) : mm_V l G own cc nL rt R kc ns Xt A Qf S pc ls (.ref (gad G (0)) :: st) := vv_get (ci := 4) (f := 0) (C := RX4) (T := TX4) (N := 6) mw_W_X4 rfl (by decide) (by decide) rfl rfl hl hd k
theorem vg_X4_trial {index : Nat} (hl : Cond.fieldLink own index "SingingWires" "trial" "LSingingWires$Bridge;" ∈ WW) (hd : decode cc pc = .ok (.getfield index, 3)) (k : mm_V l G own cc nL rt R kc ns Xt A Qf S (pc + 3) ls (.ref (gad G ((mm_B 1))) :: st)) : mm_V l G own cc nL rt R kc ns Xt A Qf S pc ls (.ref (gad G (0)) :: st) := vv_get (ci := 4) (f := 1) (C := RX4) (T := TX4) (N := 6) mw_W_X4 rfl (by decide) (by decide) rfl rfl hl hd k
theorem vg_X4_history {index : Nat} (hl : Cond.fieldLink own index "SingingWires" "history" "LSingingWires$History;" ∈ WW) (hd : decode cc pc = .ok (.getfield index, 3)) (k : mm_V l G own cc nL rt R kc ns Xt A Qf S (pc + 3) ls (.ref (gad G (3)) :: st)) : mm_V l G own cc nL rt R kc ns Xt A Qf S pc ls (.ref (gad G (0)) :: st) := vv_get (ci := 4) (f := 2) (C := RX4) (T := TX4) (N := 6) mw_W_X4 rfl (by decide) (by decide) rfl rfl hl hd k
theorem vg_X4_slots {index : Nat} (hl : Cond.fieldLink own index "SingingWires" "slots" "[LSingingWires$Bridge;" ∈ WW) (hd : decode cc pc = .ok (.getfield index, 3)) (k : mm_V l G own cc nL rt R kc ns Xt A Qf S (pc + 3) ls (.ref (gad G (1)) :: st)) : mm_V l G own cc nL rt R kc ns Xt A Qf S pc ls (.ref (gad G (0)) :: st) := vv_get (ci := 4) (f := 3) (C := RX4) (T := TX4) (N := 6) mw_W_X4 rfl (by decide) (by decide) rfl rfl hl hd k
theorem vg_X4_saved {index : Nat} (hl : Cond.fieldLink own index "SingingWires" "saved" "[Z" ∈ WW) (hd : decode cc pc = .ok (.getfield index, 3)) (k : mm_V l G own cc nL rt R kc ns Xt A Qf S (pc + 3) ls (.ref (gad G (2)) :: st)) : mm_V l G own cc nL rt R kc ns Xt A Qf S pc ls (.ref (gad G (0)) :: st) := vv_get (ci := 4) (f := 4) (C := RX4) (T := TX4) (N := 6) mw_W_X4 rfl (by decide) (by decide) rfl rfl hl hd k
theorem vg_X4_pad {index : Nat} (hl : Cond.fieldLink own index "SingingWires" "pad" "LSingingWires$Pad;" ∈ WW) (hd : decode cc pc = .ok (.getfield index, 3)) (k : mm_V l G own cc nL rt R kc ns Xt A Qf S (pc + 3) ls (.ref (gad G (5)) :: st)) : mm_V l G own cc nL rt R kc ns Xt A Qf S pc ls (.ref (gad G (0)) :: st) := vv_get (ci := 4) (f := 5) (C := RX4) (T := TX4) (N := 6) mw_W_X4 rfl (by decide) (by decide) rfl rfl hl hd k
theorem vg_X5_now {index : Nat} (hl : Cond.fieldLink own index "SingingWiresModel" "now" "[I" ∈ WW) (hd : decode cc pc = .ok (.getfield index, 3)) (k : mm_V l G own cc nL rt R kc ns Xt A Qf S (pc + 3) ls (.ref (gad G (8)) :: st)) : mm_V l G own cc nL rt R kc ns Xt A Qf S pc ls (.ref (gad G (7)) :: st) := vv_get (ci := 5) (f := 0) (C := RX5) (T := TX5) (N := 14) mw_W_X5 rfl (by decide) (by decide) rfl rfl hl hd k
theorem vg_X5_kept {index : Nat} (hl : Cond.fieldLink own index "SingingWiresModel" "kept" "[I" ∈ WW) (hd : decode cc pc = .ok (.getfield index, 3)) (k : mm_V l G own cc nL rt R kc ns Xt A Qf S (pc + 3) ls (.ref (gad G (9)) :: st)) : mm_V l G own cc nL rt R kc ns Xt A Qf S pc ls (.ref (gad G (7)) :: st) := vv_get (ci := 5) (f := 1) (C := RX5) (T := TX5) (N := 14) mw_W_X5 rfl (by decide) (by decide) rfl rfl hl hd k
theorem vg_X5_history {index : Nat} (hl : Cond.fieldLink own index "SingingWiresModel" "history" "[I" ∈ WW) (hd : decode cc pc = .ok (.getfield index, 3)) (k : mm_V l G own cc nL rt R kc ns Xt A Qf S (pc + 3) ls (.ref (gad G (10)) :: st)) : mm_V l G own cc nL rt R kc ns Xt A Qf S pc ls (.ref (gad G (7)) :: st) := vv_get (ci := 5) (f := 2) (C := RX5) (T := TX5) (N := 14) mw_W_X5 rfl (by decide) (by decide) rfl rfl hl hd k
theorem vg_X5_undos {index : Nat} (hl : Cond.fieldLink own index "SingingWiresModel" "undos" "I" ∈ WW) (hd : decode cc pc = .ok (.getfield index, 3)) (k : mm_V l G own cc nL rt R kc ns Xt A Qf S (pc + 3) ls (.int (S (7) 3) :: st)) : mm_V l G own cc nL rt R kc ns Xt A Qf S pc ls (.ref (gad G (7)) :: st) := vv_get (ci := 5) (f := 3) (C := RX5) (T := TX5) (N := 14) mw_W_X5 rfl (by decide) (by decide) rfl rfl hl hd k
theorem vp_X5_undos {index : Nat} {x : Int32} (hl : Cond.fieldLink own index "SingingWiresModel" "undos" "I" ∈ WW) (hd : decode cc pc = .ok (.putfield index, 3)) (k : mm_V l G own cc nL rt R kc ns Xt A Qf (mm_wr S (7) 3 x) (pc + 3) ls st) : mm_V l G own cc nL rt R kc ns Xt A Qf S pc ls (.int x :: .ref (gad G (7)) :: st) := vv_put (ci := 5) (f := 3) (C := RX5) (T := TX5) (N := 14) (ty := .int) mw_W_X5 tyX5 tyX5_ok nmX5 rfl (by decide) (by decide) rfl (by simp) rfl rfl (by decide +kernel) rfl (mm_ok_int _) hl hd k
theorem vg_X5_saved {index : Nat} (hl : Cond.fieldLink own index "SingingWiresModel" "saved" "[I" ∈ WW) (hd : decode cc pc = .ok (.getfield index, 3)) (k : mm_V l G own cc nL rt R kc ns Xt A Qf S (pc + 3) ls (.ref (gad G (11)) :: st)) : mm_V l G own cc nL rt R kc ns Xt A Qf S pc ls (.ref (gad G (7)) :: st) := vv_get (ci := 5) (f := 4) (C := RX5) (T := TX5) (N := 14) mw_W_X5 rfl (by decide) (by decide) rfl rfl hl hd k
theorem vg_X5_isSaved {index : Nat} (hl : Cond.fieldLink own index "SingingWiresModel" "isSaved" "[Z" ∈ WW) (hd : decode cc pc = .ok (.getfield index, 3)) (k : mm_V l G own cc nL rt R kc ns Xt A Qf S (pc + 3) ls (.ref (gad G (12)) :: st)) : mm_V l G own cc nL rt R kc ns Xt A Qf S pc ls (.ref (gad G (7)) :: st) := vv_get (ci := 5) (f := 5) (C := RX5) (T := TX5) (N := 14) mw_W_X5 rfl (by decide) (by decide) rfl rfl hl hd k
theorem vg_X5_pad {index : Nat} (hl : Cond.fieldLink own index "SingingWiresModel" "pad" "[I" ∈ WW) (hd : decode cc pc = .ok (.getfield index, 3)) (k : mm_V l G own cc nL rt R kc ns Xt A Qf S (pc + 3) ls (.ref (gad G (13)) :: st)) : mm_V l G own cc nL rt R kc ns Xt A Qf S pc ls (.ref (gad G (7)) :: st) := vv_get (ci := 5) (f := 6) (C := RX5) (T := TX5) (N := 14) mw_W_X5 rfl (by decide) (by decide) rfl rfl hl hd k
theorem vg_X5_signs {index : Nat} (hl : Cond.fieldLink own index "SingingWiresModel" "signs" "I" ∈ WW) (hd : decode cc pc = .ok (.getfield index, 3)) (k : mm_V l G own cc nL rt R kc ns Xt A Qf S (pc + 3) ls (.int (S (7) 7) :: st)) : mm_V l G own cc nL rt R kc ns Xt A Qf S pc ls (.ref (gad G (7)) :: st) := vv_get (ci := 5) (f := 7) (C := RX5) (T := TX5) (N := 14) mw_W_X5 rfl (by decide) (by decide) rfl rfl hl hd k
theorem vp_X5_signs {index : Nat} {x : Int32} (hl : Cond.fieldLink own index "SingingWiresModel" "signs" "I" ∈ WW) (hd : decode cc pc = .ok (.putfield index, 3)) (k : mm_V l G own cc nL rt R kc ns Xt A Qf (mm_wr S (7) 7 x) (pc + 3) ls st) : mm_V l G own cc nL rt R kc ns Xt A Qf S pc ls (.int x :: .ref (gad G (7)) :: st) := vv_put (ci := 5) (f := 7) (C := RX5) (T := TX5) (N := 14) (ty := .int) mw_W_X5 tyX5 tyX5_ok nmX5 rfl (by decide) (by decide) rfl (by simp) rfl rfl (by decide +kernel) rfl (mm_ok_int _) hl hd k
theorem vg_X5_isInText {index : Nat} (hl : Cond.fieldLink own index "SingingWiresModel" "isInText" "Z" ∈ WW) (hd : decode cc pc = .ok (.getfield index, 3)) (k : mm_V l G own cc nL rt R kc ns Xt A Qf S (pc + 3) ls (.int (S (7) 8) :: st)) : mm_V l G own cc nL rt R kc ns Xt A Qf S pc ls (.ref (gad G (7)) :: st) := vv_get (ci := 5) (f := 8) (C := RX5) (T := TX5) (N := 14) mw_W_X5 rfl (by decide) (by decide) rfl rfl hl hd k
theorem vp_X5_isInText {index : Nat} {x : Int32} (hok : x = 0 ∨ x = 1) (hl : Cond.fieldLink own index "SingingWiresModel" "isInText" "Z" ∈ WW) (hd : decode cc pc = .ok (.putfield index, 3)) (k : mm_V l G own cc nL rt R kc ns Xt A Qf (mm_wr S (7) 8 x) (pc + 3) ls st) : mm_V l G own cc nL rt R kc ns Xt A Qf S pc ls (.int x :: .ref (gad G (7)) :: st) := vv_put (ci := 5) (f := 8) (C := RX5) (T := TX5) (N := 14) (ty := .boolean) mw_W_X5 tyX5 tyX5_ok nmX5 rfl (by decide) (by decide) rfl (by simp) rfl rfl (by decide +kernel) rfl (mm_ok_b _ hok) hl hd k
theorem vg_X5_task {index : Nat} (hl : Cond.fieldLink own index "SingingWiresModel" "task" "[I" ∈ WW) (hd : decode cc pc = .ok (.getfield index, 3)) (k : mm_V l G own cc nL rt R kc ns Xt A Qf S (pc + 3) ls (.ref (gad G (14)) :: st)) : mm_V l G own cc nL rt R kc ns Xt A Qf S pc ls (.ref (gad G (7)) :: st) := vv_get (ci := 5) (f := 9) (C := RX5) (T := TX5) (N := 14) mw_W_X5 rfl (by decide) (by decide) rfl rfl hl hd k
theorem vg_X5_orders {index : Nat} (hl : Cond.fieldLink own index "SingingWiresModel" "orders" "[I" ∈ WW) (hd : decode cc pc = .ok (.getfield index, 3)) (k : mm_V l G own cc nL rt R kc ns Xt A Qf S (pc + 3) ls (.ref (gad G (15)) :: st)) : mm_V l G own cc nL rt R kc ns Xt A Qf S pc ls (.ref (gad G (7)) :: st) := vv_get (ci := 5) (f := 10) (C := RX5) (T := TX5) (N := 14) mw_W_X5 rfl (by decide) (by decide) rfl rfl hl hd k
theorem vg_X5_read {index : Nat} (hl : Cond.fieldLink own index "SingingWiresModel" "read" "I" ∈ WW) (hd : decode cc pc = .ok (.getfield index, 3)) (k : mm_V l G own cc nL rt R kc ns Xt A Qf S (pc + 3) ls (.int (S (7) 11) :: st)) : mm_V l G own cc nL rt R kc ns Xt A Qf S pc ls (.ref (gad G (7)) :: st) := vv_get (ci := 5) (f := 11) (C := RX5) (T := TX5) (N := 14) mw_W_X5 rfl (by decide) (by decide) rfl rfl hl hd k
theorem vp_X5_read {index : Nat} {x : Int32} (hl : Cond.fieldLink own index "SingingWiresModel" "read" "I" ∈ WW) (hd : decode cc pc = .ok (.putfield index, 3)) (k : mm_V l G own cc nL rt R kc ns Xt A Qf (mm_wr S (7) 11 x) (pc + 3) ls st) : mm_V l G own cc nL rt R kc ns Xt A Qf S pc ls (.int x :: .ref (gad G (7)) :: st) := vv_put (ci := 5) (f := 11) (C := RX5) (T := TX5) (N := 14) (ty := .int) mw_W_X5 tyX5 tyX5_ok nmX5 rfl (by decide) (by decide) rfl (by simp) rfl rfl (by decide +kernel) rfl (mm_ok_int _) hl hd k
theorem vg_X5_at {index : Nat} (hl : Cond.fieldLink own index "SingingWiresModel" "at" "I" ∈ WW) (hd : decode cc pc = .ok (.getfield index, 3)) (k : mm_V l G own cc nL rt R kc ns Xt A Qf S (pc + 3) ls (.int (S (7) 12) :: st)) : mm_V l G own cc nL rt R kc ns Xt A Qf S pc ls (.ref (gad G (7)) :: st) := vv_get (ci := 5) (f := 12) (C := RX5) (T := TX5) (N := 14) mw_W_X5 rfl (by decide) (by decide) rfl rfl hl hd k
theorem vp_X5_at {index : Nat} {x : Int32} (hl : Cond.fieldLink own index "SingingWiresModel" "at" "I" ∈ WW) (hd : decode cc pc = .ok (.putfield index, 3)) (k : mm_V l G own cc nL rt R kc ns Xt A Qf (mm_wr S (7) 12 x) (pc + 3) ls st) : mm_V l G own cc nL rt R kc ns Xt A Qf S pc ls (.int x :: .ref (gad G (7)) :: st) := vv_put (ci := 5) (f := 12) (C := RX5) (T := TX5) (N := 14) (ty := .int) mw_W_X5 tyX5 tyX5_ok nmX5 rfl (by decide) (by decide) rfl (by simp) rfl rfl (by decide +kernel) rfl (mm_ok_int _) hl hd k
theorem vg_X5_isWrong {index : Nat} (hl : Cond.fieldLink own index "SingingWiresModel" "isWrong" "Z" ∈ WW) (hd : decode cc pc = .ok (.getfield index, 3)) (k : mm_V l G own cc nL rt R kc ns Xt A Qf S (pc + 3) ls (.int (S (7) 13) :: st)) : mm_V l G own cc nL rt R kc ns Xt A Qf S pc ls (.ref (gad G (7)) :: st) := vv_get (ci := 5) (f := 13) (C := RX5) (T := TX5) (N := 14) mw_W_X5 rfl (by decide) (by decide) rfl rfl hl hd k
theorem vp_X5_isWrong {index : Nat} {x : Int32} (hok : x = 0 ∨ x = 1) (hl : Cond.fieldLink own index "SingingWiresModel" "isWrong" "Z" ∈ WW) (hd : decode cc pc = .ok (.putfield index, 3)) (k : mm_V l G own cc nL rt R kc ns Xt A Qf (mm_wr S (7) 13 x) (pc + 3) ls st) : mm_V l G own cc nL rt R kc ns Xt A Qf S pc ls (.int x :: .ref (gad G (7)) :: st) := vv_put (ci := 5) (f := 13) (C := RX5) (T := TX5) (N := 14) (ty := .boolean) mw_W_X5 tyX5 tyX5_ok nmX5 rfl (by decide) (by decide) rfl (by simp) rfl rfl (by decide +kernel) rfl (mm_ok_b _ hok) hl hd k
theorem vv_iald {j n t0 : Nat} {i : Int32} (hj : j < 148) (he : mm_enc G j (S j) = .inl (G.2.2 0, n, .inl (S j))) (hin : vp_in i n) (hd : decode cc pc = .ok (.iaload, 1)) (k : mm_V l G own cc nL rt R kc ns Xt A Qf S (pc + 1) ls (.int (S j i.toNatClampNeg) :: st)) : mm_V l G own cc nL rt R kc ns Xt A Qf S pc ls (.int i :: .ref (gad G j) :: st) := by
  intro p e s m args below meth c hC H locs la h1 h2 h3
  obtain ⟨hx, hb, hr, hml, hown, hts, hlk, hSt, hkc, hns, hXt, hA⟩ := id hC
  exact va_iald (D := G.1) (cl := vwCl) (tys := mm_tys G) (ws := mm_l G S) hx hb hSt.2.1 (mm_P h1) j 0 (by rw [mm_l_at G S hj, he]) rfl hin hd (k p e s m args below meth c hC H locs la h1 h2 h3)
theorem vv_iast {j n : Nat} {i x : Int32} (hj : j < 148) (he : ∀ r, mm_enc G j r = .inl (G.2.2 0, n, .inl r)) (hty : mm_ty j i.toNatClampNeg = .int) (hin : vp_in i n) (hd : decode cc pc = .ok (.iastore, 1)) (k : mm_V l G own cc nL rt R kc ns Xt A Qf (mm_wr S j i.toNatClampNeg x) (pc + 1) ls st) : mm_V l G own cc nL rt R kc ns Xt A Qf S pc ls (.int x :: .int i :: .ref (gad G j) :: st) := by
  intro p e s m args below meth c hC H locs la h1 h2 h3
  obtain ⟨hx, hb, hr, hml, hown, hts, hlk, hSt, hkc, hns, hXt, hA⟩ := id hC
  refine va_iast (D := G.1) (cl := vwCl) (tys := mm_tys G) (ws := mm_l G S) (A := A s) (H0 := s.heap) hx hb hSt.2.1 (mm_P h1) ((mm_D S hSt.1).weaken (fun _ q _ h => hA q.1 h)) h2 j 0 (by rw [mm_l_at G S hj, he]) rfl hin hd (fun H1 locs1 hP hD hS => ?_)
  exact k p e s m args below meth c hC H1 locs1 la (mm_set hj (mm_okS_wr h1.1 (by rw [hty]; exact mm_ok_int _)) (fun a ha => mm_wr_orow S x ha) (by rw [mm_wr_row]; exact he _) hP) hS h3
theorem mm_narb {x : Int32} (h : x = 0 ∨ x = 1) : vp_nar .boolean x = x := by rcases h with rfl | rfl <;> decide +kernel
theorem mm_narc {x : Int32} (h : mm_ok .char x) : vp_nar .char x = x := by unfold vp_nar; rw [h.1]
theorem vv_zald {j n : Nat} {i : Int32} (hj : j < 148) (he : mm_enc G j (S j) = .inl (G.2.2 1, n, .inl (S j))) (hin : vp_in i n) (hd : decode cc pc = .ok (.baload, 1)) (k : mm_V l G own cc nL rt R kc ns Xt A Qf S (pc + 1) ls (.int (S j i.toNatClampNeg) :: st)) : mm_V l G own cc nL rt R kc ns Xt A Qf S pc ls (.int i :: .ref (gad G j) :: st) := by
  intro p e s m args below meth c hC H locs la h1 h2 h3
  obtain ⟨hx, hb, hr, hml, hown, hts, hlk, hSt, hkc, hns, hXt, hA⟩ := id hC
  exact va_zald (D := G.1) (cl := vwCl) (tys := mm_tys G) (ws := mm_l G S) hx hb hSt.2.1 (mm_P h1) j 1 (by rw [mm_l_at G S hj, he]) rfl hin hd (k p e s m args below meth c hC H locs la h1 h2 h3)
theorem vv_zast {j n : Nat} {i x : Int32} (hj : j < 148) (he : ∀ r, mm_enc G j r = .inl (G.2.2 1, n, .inl r)) (hty : mm_ty j i.toNatClampNeg = .boolean) (hok : x = 0 ∨ x = 1) (hin : vp_in i n) (hd : decode cc pc = .ok (.bastore, 1)) (k : mm_V l G own cc nL rt R kc ns Xt A Qf (mm_wr S j i.toNatClampNeg x) (pc + 1) ls st) : mm_V l G own cc nL rt R kc ns Xt A Qf S pc ls (.int x :: .int i :: .ref (gad G j) :: st) := by
  intro p e s m args below meth c hC H locs la h1 h2 h3
  obtain ⟨hx, hb, hr, hml, hown, hts, hlk, hSt, hkc, hns, hXt, hA⟩ := id hC
  refine va_zast (D := G.1) (cl := vwCl) (tys := mm_tys G) (ws := mm_l G S) (A := A s) (H0 := s.heap) hx hb hSt.2.1 (mm_P h1) ((mm_D S hSt.1).weaken (fun _ q _ h => hA q.1 h)) h2 j 1 (by rw [mm_l_at G S hj, he]) rfl hin hd (fun H1 locs1 hP hD hS => ?_)
  rw [mm_narb hok] at hP
  exact k p e s m args below meth c hC H1 locs1 la (mm_set hj (mm_okS_wr h1.1 (by rw [hty]; exact mm_ok_b _ hok)) (fun a ha => mm_wr_orow S x ha) (by rw [mm_wr_row]; exact he _) hP) hS h3
theorem vv_cald {j n : Nat} {i : Int32} (hj : j < 148) (he : mm_enc G j (S j) = .inl (G.2.2 2, n, .inl (S j))) (hin : vp_in i n) (hd : decode cc pc = .ok (.caload, 1)) (k : mm_V l G own cc nL rt R kc ns Xt A Qf S (pc + 1) ls (.int (S j i.toNatClampNeg) :: st)) : mm_V l G own cc nL rt R kc ns Xt A Qf S pc ls (.int i :: .ref (gad G j) :: st) := by
  intro p e s m args below meth c hC H locs la h1 h2 h3
  obtain ⟨hx, hb, hr, hml, hown, hts, hlk, hSt, hkc, hns, hXt, hA⟩ := id hC
  exact va_cald (D := G.1) (cl := vwCl) (tys := mm_tys G) (ws := mm_l G S) hx hb hSt.2.1 (mm_P h1) j 2 (by rw [mm_l_at G S hj, he]) rfl hin hd (k p e s m args below meth c hC H locs la h1 h2 h3)
theorem vv_cast {j n : Nat} {i x : Int32} (hj : j < 148) (he : ∀ r, mm_enc G j r = .inl (G.2.2 2, n, .inl r)) (hty : mm_ty j i.toNatClampNeg = .char) (hok : mm_ok .char x) (hin : vp_in i n) (hd : decode cc pc = .ok (.castore, 1)) (k : mm_V l G own cc nL rt R kc ns Xt A Qf (mm_wr S j i.toNatClampNeg x) (pc + 1) ls st) : mm_V l G own cc nL rt R kc ns Xt A Qf S pc ls (.int x :: .int i :: .ref (gad G j) :: st) := by
  intro p e s m args below meth c hC H locs la h1 h2 h3
  obtain ⟨hx, hb, hr, hml, hown, hts, hlk, hSt, hkc, hns, hXt, hA⟩ := id hC
  refine va_cast (D := G.1) (cl := vwCl) (tys := mm_tys G) (ws := mm_l G S) (A := A s) (H0 := s.heap) hx hb hSt.2.1 (mm_P h1) ((mm_D S hSt.1).weaken (fun _ q _ h => hA q.1 h)) h2 j 2 (by rw [mm_l_at G S hj, he]) rfl hin hd (fun H1 locs1 hP hD hS => ?_)
  rw [mm_narc hok] at hP
  exact k p e s m args below meth c hC H1 locs1 la (mm_set hj (mm_okS_wr h1.1 (by rw [hty]; exact hok)) (fun a ha => mm_wr_orow S x ha) (by rw [mm_wr_row]; exact he _) hP) hS h3
theorem vv_aald {j n t0 a : Nat} {C : String} {f : Nat → Option Nat} {i : Int32} (hj : j < 148) (he : mm_enc G j (S j) = .inl (G.2.2 t0, n, .inr (.inr (.inr (.inr f))))) (ht : (mm_tys G)[t0]? = some (G.2.2 t0, .object C)) (hf : f i.toNatClampNeg = some a) (hin : vp_in i n) (hd : decode cc pc = .ok (.aaload, 1)) (k : mm_V l G own cc nL rt R kc ns Xt A Qf S (pc + 1) ls (.ref a :: st)) : mm_V l G own cc nL rt R kc ns Xt A Qf S pc ls (.int i :: .ref (gad G j) :: st) := by
  intro p e s m args below meth c hC H locs la h1 h2 h3
  obtain ⟨hx, hb, hr, hml, hown, hts, hlk, hSt, hkc, hns, hXt, hA⟩ := id hC
  refine va_aldq (D := G.1) (cl := vwCl) (tys := mm_tys G) (ws := mm_l G S) hx hb hSt.2.1 (mm_P h1) j t0 (by rw [mm_l_at G S hj, he]) ht hin hd ?_
  rw [hf]
  exact k p e s m args below meth c hC H locs la h1 h2 h3
theorem vl_L {b : Nat} (hb : b < 11) {i : Int32} (hin : vp_in i 20) (hd : decode cc pc = .ok (.iaload, 1)) (k : mm_V l G own cc nL rt R kc ns Xt A Qf S (pc + 1) ls (.int (S (mm_L b) i.toNatClampNeg) :: st)) : mm_V l G own cc nL rt R kc ns Xt A Qf S pc ls (.int i :: .ref (gad G (mm_L b)) :: st) := vv_iald (n := 20) (t0 := 0) (mm_lt_L hb) (mm_enc_L G b _) hin hd k
theorem vs_L {b : Nat} (hb : b < 11) {i x : Int32} (hin : vp_in i 20) (hd : decode cc pc = .ok (.iastore, 1)) (k : mm_V l G own cc nL rt R kc ns Xt A Qf (mm_wr S (mm_L b) i.toNatClampNeg x) (pc + 1) ls st) : mm_V l G own cc nL rt R kc ns Xt A Qf S pc ls (.int x :: .int i :: .ref (gad G (mm_L b)) :: st) := vv_iast (n := 20) (mm_lt_L hb) (fun r => mm_enc_L G b r) (mm_ty_L b _) hin hd k
theorem vl_A {b : Nat} (hb : b < 11) {i : Int32} (hin : vp_in i 20) (hd : decode cc pc = .ok (.iaload, 1)) (k : mm_V l G own cc nL rt R kc ns Xt A Qf S (pc + 1) ls (.int (S (mm_A b) i.toNatClampNeg) :: st)) : mm_V l G own cc nL rt R kc ns Xt A Qf S pc ls (.int i :: .ref (gad G (mm_A b)) :: st) := vv_iald (n := 20) (t0 := 0) (mm_lt_A hb) (mm_enc_A G b _) hin hd k
theorem vs_A {b : Nat} (hb : b < 11) {i x : Int32} (hin : vp_in i 20) (hd : decode cc pc = .ok (.iastore, 1)) (k : mm_V l G own cc nL rt R kc ns Xt A Qf (mm_wr S (mm_A b) i.toNatClampNeg x) (pc + 1) ls st) : mm_V l G own cc nL rt R kc ns Xt A Qf S pc ls (.int x :: .int i :: .ref (gad G (mm_A b)) :: st) := vv_iast (n := 20) (mm_lt_A hb) (fun r => mm_enc_A G b r) (mm_ty_A b _) hin hd k
theorem vl_8 {i : Int32} (hin : vp_in i 150) (hd : decode cc pc = .ok (.iaload, 1)) (k : mm_V l G own cc nL rt R kc ns Xt A Qf S (pc + 1) ls (.int (S (8) i.toNatClampNeg) :: st)) : mm_V l G own cc nL rt R kc ns Xt A Qf S pc ls (.int i :: .ref (gad G (8)) :: st) := vv_iald (n := 150) (t0 := 0) (by decide) rfl hin hd k
theorem vs_8 {i x : Int32} (hin : vp_in i 150) (hd : decode cc pc = .ok (.iastore, 1)) (k : mm_V l G own cc nL rt R kc ns Xt A Qf (mm_wr S (8) i.toNatClampNeg x) (pc + 1) ls st) : mm_V l G own cc nL rt R kc ns Xt A Qf S pc ls (.int x :: .int i :: .ref (gad G (8)) :: st) := vv_iast (n := 150) (by decide) (fun r => rfl) (by simp [mm_ty]) hin hd k
theorem vl_9 {i : Int32} (hin : vp_in i 150) (hd : decode cc pc = .ok (.iaload, 1)) (k : mm_V l G own cc nL rt R kc ns Xt A Qf S (pc + 1) ls (.int (S (9) i.toNatClampNeg) :: st)) : mm_V l G own cc nL rt R kc ns Xt A Qf S pc ls (.int i :: .ref (gad G (9)) :: st) := vv_iald (n := 150) (t0 := 0) (by decide) rfl hin hd k
theorem vs_9 {i x : Int32} (hin : vp_in i 150) (hd : decode cc pc = .ok (.iastore, 1)) (k : mm_V l G own cc nL rt R kc ns Xt A Qf (mm_wr S (9) i.toNatClampNeg x) (pc + 1) ls st) : mm_V l G own cc nL rt R kc ns Xt A Qf S pc ls (.int x :: .int i :: .ref (gad G (9)) :: st) := vv_iast (n := 150) (by decide) (fun r => rfl) (by simp [mm_ty]) hin hd k
theorem vl_10 {i : Int32} (hin : vp_in i 900) (hd : decode cc pc = .ok (.iaload, 1)) (k : mm_V l G own cc nL rt R kc ns Xt A Qf S (pc + 1) ls (.int (S (10) i.toNatClampNeg) :: st)) : mm_V l G own cc nL rt R kc ns Xt A Qf S pc ls (.int i :: .ref (gad G (10)) :: st) := vv_iald (n := 900) (t0 := 0) (by decide) rfl hin hd k
theorem vs_10 {i x : Int32} (hin : vp_in i 900) (hd : decode cc pc = .ok (.iastore, 1)) (k : mm_V l G own cc nL rt R kc ns Xt A Qf (mm_wr S (10) i.toNatClampNeg x) (pc + 1) ls st) : mm_V l G own cc nL rt R kc ns Xt A Qf S pc ls (.int x :: .int i :: .ref (gad G (10)) :: st) := vv_iast (n := 900) (by decide) (fun r => rfl) (by simp [mm_ty]) hin hd k
theorem vl_11 {i : Int32} (hin : vp_in i 300) (hd : decode cc pc = .ok (.iaload, 1)) (k : mm_V l G own cc nL rt R kc ns Xt A Qf S (pc + 1) ls (.int (S (11) i.toNatClampNeg) :: st)) : mm_V l G own cc nL rt R kc ns Xt A Qf S pc ls (.int i :: .ref (gad G (11)) :: st) := vv_iald (n := 300) (t0 := 0) (by decide) rfl hin hd k
theorem vs_11 {i x : Int32} (hin : vp_in i 300) (hd : decode cc pc = .ok (.iastore, 1)) (k : mm_V l G own cc nL rt R kc ns Xt A Qf (mm_wr S (11) i.toNatClampNeg x) (pc + 1) ls st) : mm_V l G own cc nL rt R kc ns Xt A Qf S pc ls (.int x :: .int i :: .ref (gad G (11)) :: st) := vv_iast (n := 300) (by decide) (fun r => rfl) (by simp [mm_ty]) hin hd k
theorem vl_13 {i : Int32} (hin : vp_in i 60) (hd : decode cc pc = .ok (.iaload, 1)) (k : mm_V l G own cc nL rt R kc ns Xt A Qf S (pc + 1) ls (.int (S (13) i.toNatClampNeg) :: st)) : mm_V l G own cc nL rt R kc ns Xt A Qf S pc ls (.int i :: .ref (gad G (13)) :: st) := vv_iald (n := 60) (t0 := 0) (by decide) rfl hin hd k
theorem vs_13 {i x : Int32} (hin : vp_in i 60) (hd : decode cc pc = .ok (.iastore, 1)) (k : mm_V l G own cc nL rt R kc ns Xt A Qf (mm_wr S (13) i.toNatClampNeg x) (pc + 1) ls st) : mm_V l G own cc nL rt R kc ns Xt A Qf S pc ls (.int x :: .int i :: .ref (gad G (13)) :: st) := vv_iast (n := 60) (by decide) (fun r => rfl) (by simp [mm_ty]) hin hd k
theorem vl_14 {i : Int32} (hin : vp_in i 8) (hd : decode cc pc = .ok (.iaload, 1)) (k : mm_V l G own cc nL rt R kc ns Xt A Qf S (pc + 1) ls (.int (S (14) i.toNatClampNeg) :: st)) : mm_V l G own cc nL rt R kc ns Xt A Qf S pc ls (.int i :: .ref (gad G (14)) :: st) := vv_iald (n := 8) (t0 := 0) (by decide) rfl hin hd k
theorem vs_14 {i x : Int32} (hin : vp_in i 8) (hd : decode cc pc = .ok (.iastore, 1)) (k : mm_V l G own cc nL rt R kc ns Xt A Qf (mm_wr S (14) i.toNatClampNeg x) (pc + 1) ls st) : mm_V l G own cc nL rt R kc ns Xt A Qf S pc ls (.int x :: .int i :: .ref (gad G (14)) :: st) := vv_iast (n := 8) (by decide) (fun r => rfl) (by simp [mm_ty]) hin hd k
theorem vl_15 {i : Int32} (hin : vp_in i 180) (hd : decode cc pc = .ok (.iaload, 1)) (k : mm_V l G own cc nL rt R kc ns Xt A Qf S (pc + 1) ls (.int (S (15) i.toNatClampNeg) :: st)) : mm_V l G own cc nL rt R kc ns Xt A Qf S pc ls (.int i :: .ref (gad G (15)) :: st) := vv_iald (n := 180) (t0 := 0) (by decide) rfl hin hd k
theorem vs_15 {i x : Int32} (hin : vp_in i 180) (hd : decode cc pc = .ok (.iastore, 1)) (k : mm_V l G own cc nL rt R kc ns Xt A Qf (mm_wr S (15) i.toNatClampNeg x) (pc + 1) ls st) : mm_V l G own cc nL rt R kc ns Xt A Qf S pc ls (.int x :: .int i :: .ref (gad G (15)) :: st) := vv_iast (n := 180) (by decide) (fun r => rfl) (by simp [mm_ty]) hin hd k
theorem vl_2 {i : Int32} (hin : vp_in i 2) (hd : decode cc pc = .ok (.baload, 1)) (k : mm_V l G own cc nL rt R kc ns Xt A Qf S (pc + 1) ls (.int (S 2 i.toNatClampNeg) :: st)) : mm_V l G own cc nL rt R kc ns Xt A Qf S pc ls (.int i :: .ref (gad G 2) :: st) := vv_zald (n := 2) (by decide) rfl hin hd k
theorem vs_2 {i x : Int32} (hok : x = 0 ∨ x = 1) (hin : vp_in i 2) (hd : decode cc pc = .ok (.bastore, 1)) (k : mm_V l G own cc nL rt R kc ns Xt A Qf (mm_wr S 2 i.toNatClampNeg x) (pc + 1) ls st) : mm_V l G own cc nL rt R kc ns Xt A Qf S pc ls (.int x :: .int i :: .ref (gad G 2) :: st) := vv_zast (n := 2) (by decide) (fun r => rfl) (by simp [mm_ty]) hok hin hd k
theorem vl_12 {i : Int32} (hin : vp_in i 2) (hd : decode cc pc = .ok (.baload, 1)) (k : mm_V l G own cc nL rt R kc ns Xt A Qf S (pc + 1) ls (.int (S 12 i.toNatClampNeg) :: st)) : mm_V l G own cc nL rt R kc ns Xt A Qf S pc ls (.int i :: .ref (gad G 12) :: st) := vv_zald (n := 2) (by decide) rfl hin hd k
theorem vs_12 {i x : Int32} (hok : x = 0 ∨ x = 1) (hin : vp_in i 2) (hd : decode cc pc = .ok (.bastore, 1)) (k : mm_V l G own cc nL rt R kc ns Xt A Qf (mm_wr S 12 i.toNatClampNeg x) (pc + 1) ls st) : mm_V l G own cc nL rt R kc ns Xt A Qf S pc ls (.int x :: .int i :: .ref (gad G 12) :: st) := vv_zast (n := 2) (by decide) (fun r => rfl) (by simp [mm_ty]) hok hin hd k
theorem vl_6 {i : Int32} (hin : vp_in i 60) (hd : decode cc pc = .ok (.caload, 1)) (k : mm_V l G own cc nL rt R kc ns Xt A Qf S (pc + 1) ls (.int (S 6 i.toNatClampNeg) :: st)) : mm_V l G own cc nL rt R kc ns Xt A Qf S pc ls (.int i :: .ref (gad G 6) :: st) := vv_cald (n := 60) (by decide) rfl hin hd k
theorem vs_6 {i x : Int32} (hok : mm_ok .char x) (hin : vp_in i 60) (hd : decode cc pc = .ok (.castore, 1)) (k : mm_V l G own cc nL rt R kc ns Xt A Qf (mm_wr S 6 i.toNatClampNeg x) (pc + 1) ls st) : mm_V l G own cc nL rt R kc ns Xt A Qf S pc ls (.int x :: .int i :: .ref (gad G 6) :: st) := vv_cast (n := 60) (by decide) (fun r => rfl) (by simp [mm_ty]) hok hin hd k
theorem vl_R {b : Nat} (hb : b < 11) {i : Int32} (hin : vp_in i 8) (hd : decode cc pc = .ok (.aaload, 1)) (k : mm_V l G own cc nL rt R kc ns Xt A Qf S (pc + 1) ls (.ref (gad G (mm_W b i.toNatClampNeg)) :: st)) : mm_V l G own cc nL rt R kc ns Xt A Qf S pc ls (.int i :: .ref (gad G (mm_R b)) :: st) := vv_aald (n := 8) (t0 := 3) (C := RX3) (mm_lt_R hb) (mm_enc_R G b _) rfl rfl hin hd k
theorem vl_1 {i : Int32} (hin : vp_in i 2) (hd : decode cc pc = .ok (.aaload, 1)) (k : mm_V l G own cc nL rt R kc ns Xt A Qf S (pc + 1) ls (.ref (gad G (mm_B (2 + i.toNatClampNeg))) :: st)) : mm_V l G own cc nL rt R kc ns Xt A Qf S pc ls (.int i :: .ref (gad G 1) :: st) := vv_aald (n := 2) (t0 := 4) (C := RX0) (by decide) rfl rfl rfl hin hd k
theorem vl_4 {i : Int32} (hin : vp_in i 7) (hd : decode cc pc = .ok (.aaload, 1)) (k : mm_V l G own cc nL rt R kc ns Xt A Qf S (pc + 1) ls (.ref (gad G (mm_B (S 4 i.toNatClampNeg).toNatClampNeg)) :: st)) : mm_V l G own cc nL rt R kc ns Xt A Qf S pc ls (.int i :: .ref (gad G 4) :: st) := vv_aald (n := 7) (t0 := 4) (C := RX0) (by decide) rfl rfl rfl hin hd k
theorem vs_4 {i : Int32} {q : Nat} (hq : q < 11) (hin : vp_in i 7) (hd : decode cc pc = .ok (.aastore, 1)) (k : mm_V l G own cc nL rt R kc ns Xt A Qf (mm_wr S 4 i.toNatClampNeg (nI q)) (pc + 1) ls st) : mm_V l G own cc nL rt R kc ns Xt A Qf S pc ls (.ref (gad G (mm_B q)) :: .int i :: .ref (gad G 4) :: st) := by
  intro p e s m args below meth c hC H locs la h1 h2 h3
  obtain ⟨hx, hb, hr, hml, hown, hts, hlk, hSt, hkc, hns, hXt, hA⟩ := id hC
  refine va_astq (D := G.1) (cl := vwCl) (tys := mm_tys G) (ws := mm_l G S) (A := A s) (H0 := s.heap) (r := (RX0, TX0, 9)) hx hb hSt.2.1 (mm_P h1) ((mm_D S hSt.1).weaken (fun _ q _ h => hA q.1 h)) h2 4 4 (mm_B q) 0 (by rw [mm_l_at G S (by decide)]; rfl) rfl (by rw [mm_l_at G S (mm_lt_B hq), mm_enc_B]) rfl hin hd (fun H1 locs1 hP hD hS => ?_)
  refine k p e s m args below meth c hC H1 locs1 la (mm_set (j := 4) (by decide) (mm_okS_wr h1.1 (by simp [mm_ty]; exact mm_ok_int _)) (fun a ha => mm_wr_orow S _ ha) ?_ hP) hS h3
  rw [mm_wr_row]
  refine congrArg (fun f => (Sum.inl (G.2.2 4, 7, .inr (.inr (.inr (.inr f)))) : va_E)) (funext fun i' => ?_)
  unfold va_up upd
  by_cases c : i' = i.toNatClampNeg
  · simp only [c, if_true]
    rw [nI_clamp (by omega)]
  · simp only [c, if_false]
def mm_cp (S : Mem) (j0 j1 n : Nat) : Mem := fun j => if j = j1 then (fun k => if k < n then S j0 k else S j1 k) else S j
theorem mm_cp_in (S : Mem) {j0 j1 n k : Nat} (h : k < n) : mm_cp S j0 j1 n j1 k = S j0 k := by simp [mm_cp, h]
theorem mm_cp_o (S : Mem) {j0 j1 n j : Nat} (h : j ≠ j1) : mm_cp S j0 j1 n j = S j := by simp [mm_cp, h]
theorem vv_copy20 {j0 j1 index : Nat} (hj0 : j0 < 148) (hj1 : j1 < 148) (he0 : ∀ r, mm_enc G j0 r = .inl (G.2.2 0, 20, .inl r)) (he1 : ∀ r, mm_enc G j1 r = .inl (G.2.2 0, 20, .inl r)) (ht : ∀ k, mm_ty j1 k = .int) (hl : Cond.methodLink own index arraycopyName ∈ WW) (hfr : 1 ≤ R.frames) (hlo : (st.map fun v => v.category).sum + (nativeFrameWords "java/lang/System" "arraycopy" 5 + 11) ≤ R.locals) (hd : decode cc pc = .ok (.invokestatic index, 3)) (k : mm_V l G own cc nL rt R kc ns Xt A Qf (mm_cp S j0 j1 20) (pc + 3) ls st) : mm_V l G own cc nL rt R kc ns Xt A Qf S pc ls (.int 20 :: .int 0 :: .ref (gad G j1) :: .int 0 :: .ref (gad G j0) :: st) := by
  intro p e s m args below meth c hC H locs la h1 h2 h3
  obtain ⟨hx, hb, hr, hml, hown, hts, hlk, hSt, hkc, hns, hXt, hA⟩ := id hC
  refine va_copyi (D := G.1) (cl := vwCl) (tys := mm_tys G) (ws := mm_l G S) (A := A s) (H0 := s.heap) (ty := .int) hx hb (hml.trans h3.1.symm) hown (hts _ hl) (hts _ mw_U_arraycopy) (hts _ mw_T_arraycopy) (hts _ mw_N_J10) hSt.2.1 (mm_P h1) ((mm_D S hSt.1).weaken (fun _ q _ h => hA q.1 h)) h2 j0 j1 0 0 (by rw [mm_l_at G S hj0, he0]) (by rw [mm_l_at G S hj1, he1]) rfl rfl rfl (by decide) (by decide) (by decide) (by decide) (by decide) (fun _ _ => rfl) hfr hlo hd (fun H1 locs1 hP hD hS => ?_)
  refine k p e s m args below meth c hC H1 locs1 la (mm_set hj1 ?_ (fun a ha => mm_cp_o S ha) ?_ hP) hS h3
  · intro a b
    unfold mm_cp
    by_cases c : a = j1
    · subst c; simp only [if_true]; rw [ht]; exact mm_ok_int _
    · simp only [c, if_false]; exact h1.1 a b
  · rw [he1]
    refine congrArg (fun f => (Sum.inl (G.2.2 0, 20, .inl f) : va_E)) (funext fun k' => ?_)
    simp only [mm_cp, if_true, va_cpy]
    have e0 : (0 : Int32).toNatClampNeg = 0 := by decide
    have e20 : (20 : Int32).toNatClampNeg = 20 := by decide
    rw [e0, e20]
    by_cases c : k' < 20 <;> simp [c]
theorem vv_abs {index : Nat} {x : Int32} (hl : Cond.methodLink own index Lib.Math.abs.name ∈ WW) (hstat : Cond.static Lib.Math.abs.name ∈ WW) (hcode : Cond.code Lib.Math.abs.name Lib.Math.abs.code 1 (some .int) ∈ WW) (hfr : 1 ≤ R.frames) (hlo : (st.map fun v => v.category).sum + 13 ≤ R.locals) (hd : decode cc pc = .ok (.invokestatic index, 3)) (k : mm_V l G own cc nL rt R kc ns Xt A Qf S (pc + 3) ls (.int (if 0 ≤ x then x else 0 - x) :: st)) : mm_V l G own cc nL rt R kc ns Xt A Qf S pc ls (.int x :: st) := by
  intro p e s m args below meth c hC H locs la h1 h2 h3
  obtain ⟨hx, hb, hr, hml, hown, hts, hlk, hSt, hkc, hns, hXt, hA⟩ := id hC
  exact va_mabs hx hb (hml.trans h3.1.symm) hown (hts _ hl) (hts _ hstat) (hts _ mw_N_J9) (hts _ hcode) hfr hlo hkc hns hd (k p e s m args below meth c hC H locs la h1 h2 h3)
theorem vv_max {index : Nat} {x y : Int32} (hl : Cond.methodLink own index Lib.Math.max.name ∈ WW) (hstat : Cond.static Lib.Math.max.name ∈ WW) (hcode : Cond.code Lib.Math.max.name Lib.Math.max.code 2 (some .int) ∈ WW) (hfr : 1 ≤ R.frames) (hlo : (st.map fun v => v.category).sum + 13 ≤ R.locals) (hd : decode cc pc = .ok (.invokestatic index, 3)) (k : mm_V l G own cc nL rt R kc ns Xt A Qf S (pc + 3) ls (.int (if x < y then y else x) :: st)) : mm_V l G own cc nL rt R kc ns Xt A Qf S pc ls (.int y :: .int x :: st) := by
  intro p e s m args below meth c hC H locs la h1 h2 h3
  obtain ⟨hx, hb, hr, hml, hown, hts, hlk, hSt, hkc, hns, hXt, hA⟩ := id hC
  exact va_mmax hx hb (hml.trans h3.1.symm) hown (hts _ hl) (hts _ hstat) (hts _ mw_N_J9) (hts _ hcode) hfr hlo hkc hns hd (k p e s m args below meth c hC H locs la h1 h2 h3)
theorem vv_min {index : Nat} {x y : Int32} (hl : Cond.methodLink own index Lib.Math.min.name ∈ WW) (hstat : Cond.static Lib.Math.min.name ∈ WW) (hcode : Cond.code Lib.Math.min.name Lib.Math.min.code 2 (some .int) ∈ WW) (hfr : 1 ≤ R.frames) (hlo : (st.map fun v => v.category).sum + 13 ≤ R.locals) (hd : decode cc pc = .ok (.invokestatic index, 3)) (k : mm_V l G own cc nL rt R kc ns Xt A Qf S (pc + 3) ls (.int (if y < x then y else x) :: st)) : mm_V l G own cc nL rt R kc ns Xt A Qf S pc ls (.int y :: .int x :: st) := by
  intro p e s m args below meth c hC H locs la h1 h2 h3
  obtain ⟨hx, hb, hr, hml, hown, hts, hlk, hSt, hkc, hns, hXt, hA⟩ := id hC
  exact va_mmin hx hb (hml.trans h3.1.symm) hown (hts _ hl) (hts _ hstat) (hts _ mw_N_J9) (hts _ hcode) hfr hlo hkc hns hd (k p e s m args below meth c hC H locs la h1 h2 h3)
theorem vv_lmin {index : Nat} {x y : Int64} (hl : Cond.methodLink own index Lib.MathLoose.min_long.x ∈ WW) (hstat : Cond.static Lib.MathLoose.min_long.x ∈ WW) (hcode : Cond.code Lib.MathLoose.min_long.x Lib.MathLoose.min_long.code 4 (some .long) ∈ WW) (hfr : 1 ≤ R.frames) (hlo : (st.map fun v => v.category).sum + 15 ≤ R.locals) (hd : decode cc pc = .ok (.invokestatic index, 3)) (k : mm_V l G own cc nL rt R kc ns Xt A Qf S (pc + 3) ls (.long (if y < x then y else x) :: st)) : mm_V l G own cc nL rt R kc ns Xt A Qf S pc ls (.long y :: .long x :: st) := by
  intro p e s m args below meth c hC H locs la h1 h2 h3
  obtain ⟨hx, hb, hr, hml, hown, hts, hlk, hSt, hkc, hns, hXt, hA⟩ := id hC
  exact va_mmin_long hx hb (hml.trans h3.1.symm) hown (hts _ hl) (hts _ hstat) (hts _ mw_N_J9) (hts _ hcode) hfr hlo hkc hns hd (k p e s m args below meth c hC H locs la h1 h2 h3)
end VH
end
section
/-- what a call of an instance method needs of the tables -/
def mm_y (C : String) (y : MethodName) (cy : ByteArray) (ny : Nat) (rty : Option FieldType) (n : Nat) : Prop := Cond.instanceMethod y ∈ WW ∧ Cond.selects C y y ∈ WW ∧ Cond.initialized C ∈ WW ∧ Cond.code y cy ny rty ∈ WW ∧ y.cls = C ∧ y.cls ≠ "java/lang/invoke/MethodHandle" ∧ y.cls ≠ "java/lang/invoke/VarHandle" ∧ (parseMethodDescriptor y.desc).map (fun d => d.parameters.length) = some n
def mm_ys (y : MethodName) (cy : ByteArray) (ny : Nat) (rty : Option FieldType) (n : Nat) : Prop := Cond.static y ∈ WW ∧ Cond.initialized y.cls ∈ WW ∧ Cond.code y cy ny rty ∈ WW ∧ y.cls ≠ "java/lang/invoke/MethodHandle" ∧ y.cls ≠ "java/lang/invoke/VarHandle" ∧ (parseMethodDescriptor y.desc).map (fun d => d.parameters.length) = some n
def mm_rv (G : gG) (S : Mem) (j : Nat) (C : String) : Prop := j < 148 ∧ ∃ (ci : Nat) (T : u_T) (N : Nat) (fs : List Value), vwCl[ci]? = some (C, T, N) ∧ mm_enc G j (S j) = .inr (ci, fs)
theorem mm_rv_B {G : gG} {S : Mem} {b : Nat} (hb : b < 11) : mm_rv G S (mm_B b) RX0 := ⟨mm_lt_B hb, 0, _, _, _, rfl, mm_enc_B G b _⟩
theorem mm_rv_W {G : gG} {S : Mem} {b w : Nat} (hb : b < 11) (hw : w < 8) : mm_rv G S (mm_W b w) RX3 := ⟨mm_lt_W hb hw, 3, _, _, _, rfl, mm_enc_W G b hw _⟩
theorem mm_rv_X1 {G : gG} {S : Mem} : mm_rv G S 3 RX1 := ⟨by decide, 1, _, _, _, rfl, rfl⟩
theorem mm_rv_X2 {G : gG} {S : Mem} : mm_rv G S 5 RX2 := ⟨by decide, 2, _, _, _, rfl, rfl⟩
theorem mm_rv_X4 {G : gG} {S : Mem} : mm_rv G S 0 RX4 := ⟨by decide, 4, _, _, _, rfl, rfl⟩
theorem mm_rv_X5 {G : gG} {S : Mem} : mm_rv G S 7 RX5 := ⟨by decide, 5, _, _, _, rfl, rfl⟩
theorem mm_blind {G : gG} {av : List Value} {S : Mem} : FrameBlind (mm_Pc G av S) := fun a U g mk h => ⟨h.1, mm_St_same (u := U) (U := U.calling g mk a) rfl h.2.1, h.2.2⟩
def mm_rm (f lo : Nat) : Room := { frames := f, cells := 0, slots := 0, locals := lo }
section VC
variable {l : Launch} {G : gG} {own : String} {cc : ByteArray} {nL : Nat} {rt : Option FieldType} {R : Room} {kc ns : Nat} {Xt : State → Prop} {A : State → Nat → Prop} {Qf : List Frame → Array Value → State → State → Prop} {S : Mem} {pc : Nat} {ls ls' : List (Nat × Value)} {st : List Value}
variable {y : MethodName} {cy : ByteArray} {ny n index : Nat} {rty : Option FieldType} {fr lo : Nat} {C : String} {j : Nat} {As st0 : List Value}
theorem vc_Vi {P : Int32 → Mem → Prop} (hM : mm_C l G y cy ny rty (mm_rm fr lo) (.ref (gad G j) :: As) S (mm_Qi G P)) (hlk2 : Cond.methodLink own index y ∈ WW) (hy : mm_y C y cy ny rty n) (hv : mm_rv G S j C) (hrm : fr + 1 ≤ R.frames ∧ 8 + (ny + 11) + lo ≤ R.locals) (hn : As.length = n) (hst : st0 = As.reverse ++ .ref (gad G j) :: st) (hcat : (st.map fun v => v.category).sum ≤ 8) (hd : decode cc pc = .ok (.invokevirtual index, 3)) (k : ∀ (r : Int32) (S1 : Mem), P r S1 → mm_V l G own cc nL rt R kc ns Xt A Qf S1 (pc + 3) ls (.int r :: st)) : mm_V l G own cc nL rt R kc ns Xt A Qf S pc ls st0 := by
  intro p e s m args below meth c hC H locs la h1 h2 h3
  obtain ⟨hx, hb, hr, hml, hown, hts, hlk, hSt, hkc, hns, hXt, hA⟩ := id hC
  subst hst
  obtain ⟨hj, ci, T, N, fs, hc, he⟩ := hv
  refine va_calli (va_runV (Ts := WW) (C := C) (As := As) (rest := st) ⟨hx, hb, hml, hown, hts⟩ hM (cwV n hts (mm_good (ws := wsV own index C y (Cond.code y cy ny rty :: WW)) (fun w hw => by
    rcases List.mem_append.mp hw with h | h
    · simp only [List.mem_cons, List.not_mem_nil, or_false] at h
      rcases h with rfl | rfl | rfl | rfl
      · exact hlk2
      · exact hy.1
      · exact hy.2.1
      · exact hy.2.2.1
    · rcases List.mem_cons.mp h with rfl | h
      · exact hy.2.2.2.1
      · exact h)) rfl rfl rfl hy.2.2.2.2 hrm) ⟨mm_blind, va_recv hSt.2.1 (mm_P h1) (ci := ci) (q0 := j) hc (by rw [mm_l_at G S hj, he]), fun U hU hW => ⟨rfl, mm_St_warm hW hSt, by rw [hU]; exact h1⟩⟩ rfl hn h3.1 rfl (lv_room hcat) hd ⟨hkc, hns⟩) h2 (fun q _ h => hA q h) (fun q h => hA q h) (fun r u t H1 locs1 ht hvm hp hB hz hk hS => ?_)
  rw [ht] at hB
  exact k r u hp p e s m args below meth c hC H1 locs1 la hB hS h3
theorem vc_Si {P : Int32 → Mem → Prop} (hM : mm_C l G y cy ny rty (mm_rm fr lo) As S (mm_Qi G P)) (hlk2 : Cond.methodLink own index y ∈ WW) (hy : mm_ys y cy ny rty n) (hrm : fr + 1 ≤ R.frames ∧ 8 + (ny + 11) + lo ≤ R.locals) (hn : As.length = n) (hst : st0 = As.reverse ++ st) (hcat : (st.map fun v => v.category).sum ≤ 8) (hd : decode cc pc = .ok (.invokestatic index, 3)) (k : ∀ (r : Int32) (S1 : Mem), P r S1 → mm_V l G own cc nL rt R kc ns Xt A Qf S1 (pc + 3) ls (.int r :: st)) : mm_V l G own cc nL rt R kc ns Xt A Qf S pc ls st0 := by
  intro p e s m args below meth c hC H locs la h1 h2 h3
  obtain ⟨hx, hb, hr, hml, hown, hts, hlk, hSt, hkc, hns, hXt, hA⟩ := id hC
  subst hst
  refine va_calli (va_runS (Ts := WW) (As := As) (rest := st) ⟨hx, hb, hml, hown, hts⟩ hM (va_cwS n hts (mm_good (ws := va_wsS own index y (Cond.code y cy ny rty :: WW)) (fun w hw => by
    rcases List.mem_append.mp hw with h | h
    · simp only [List.mem_cons, List.not_mem_nil, or_false] at h
      rcases h with rfl | rfl | rfl
      · exact hlk2
      · exact hy.1
      · exact hy.2.1
    · rcases List.mem_cons.mp h with rfl | h
      · exact hy.2.2.1
      · exact h)) rfl rfl rfl hy.2.2.2 hrm) ⟨mm_blind, fun U hU hW => ⟨rfl, mm_St_warm hW hSt, by rw [hU]; exact h1⟩⟩ rfl hn h3.1 rfl (lv_room hcat) hd ⟨hkc, hns⟩) h2 (fun q _ h => hA q h) (fun q h => hA q h) (fun r u t H1 locs1 ht hvm hp hB hz hk hS => ?_)
  rw [ht] at hB
  exact k r u hp p e s m args below meth c hC H1 locs1 la hB hS h3
theorem vc_Ni {host : String} {P : Int32 → Mem → Prop} (hM : mm_C l G y cy ny rty (mm_rm fr lo) As S (mm_Qi G P)) (hnest : (own, index, y, host) ∈ mm_nest) (hy : mm_ys y cy ny rty n) (hrm : fr + 1 ≤ R.frames ∧ 8 + (ny + 11) + lo ≤ R.locals) (hn : As.length = n) (hst : st0 = As.reverse ++ st) (hcat : (st.map fun v => v.category).sum ≤ 8) (hd : decode cc pc = .ok (.invokestatic index, 3)) (k : ∀ (r : Int32) (S1 : Mem), P r S1 → mm_V l G own cc nL rt R kc ns Xt A Qf S1 (pc + 3) ls (.int r :: st)) : mm_V l G own cc nL rt R kc ns Xt A Qf S pc ls st0 := by
  intro p e s m args below meth c hC H locs la h1 h2 h3
  obtain ⟨hx, hb, hr, hml, hown, hts, hlk, hSt, hkc, hns, hXt, hA⟩ := id hC
  subst hst
  refine va_calli (va_runSN (Ts := WW) (As := As) (rest := st) ⟨hx, hb, hml, hown, hts⟩ hM ⟨va_cnB (host := host) n hts (mm_good (ws := Cond.code y cy ny rty :: WW) (fun w hw => by
    rcases List.mem_cons.mp hw with rfl | h
    · exact hy.2.2.1
    · exact h)) rfl rfl rfl (hSt.2.2 _ hnest) (hts _ hy.2.1) hy.2.2.2 hrm, hts _ hy.1, trivial⟩ ⟨mm_blind, fun U hU hW => ⟨rfl, mm_St_warm hW hSt, by rw [hU]; exact h1⟩⟩ rfl hn h3.1 rfl (lv_room hcat) hd ⟨hkc, hns⟩) h2 (fun q _ h => hA q h) (fun q h => hA q h) (fun r u t H1 locs1 ht hvm hp hB hz hk hS => ?_)
  rw [ht] at hB
  exact k r u hp p e s m args below meth c hC H1 locs1 la hB hS h3
theorem vc_Vl {P : Int64 → Mem → Prop} (hM : mm_C l G y cy ny rty (mm_rm fr lo) (.ref (gad G j) :: As) S (mm_Ql G P)) (hlk2 : Cond.methodLink own index y ∈ WW) (hy : mm_y C y cy ny rty n) (hv : mm_rv G S j C) (hrm : fr + 1 ≤ R.frames ∧ 8 + (ny + 11) + lo ≤ R.locals) (hn : As.length = n) (hst : st0 = As.reverse ++ .ref (gad G j) :: st) (hcat : (st.map fun v => v.category).sum ≤ 8) (hd : decode cc pc = .ok (.invokevirtual index, 3)) (k : ∀ (r : Int64) (S1 : Mem), P r S1 → mm_V l G own cc nL rt R kc ns Xt A Qf S1 (pc + 3) ls (.long r :: st)) : mm_V l G own cc nL rt R kc ns Xt A Qf S pc ls st0 := by
  intro p e s m args below meth c hC H locs la h1 h2 h3
  obtain ⟨hx, hb, hr, hml, hown, hts, hlk, hSt, hkc, hns, hXt, hA⟩ := id hC
  subst hst
  obtain ⟨hj, ci, T, N, fs, hc, he⟩ := hv
  refine va_calll (va_runV (Ts := WW) (C := C) (As := As) (rest := st) ⟨hx, hb, hml, hown, hts⟩ hM (cwV n hts (mm_good (ws := wsV own index C y (Cond.code y cy ny rty :: WW)) (fun w hw => by
    rcases List.mem_append.mp hw with h | h
    · simp only [List.mem_cons, List.not_mem_nil, or_false] at h
      rcases h with rfl | rfl | rfl | rfl
      · exact hlk2
      · exact hy.1
      · exact hy.2.1
      · exact hy.2.2.1
    · rcases List.mem_cons.mp h with rfl | h
      · exact hy.2.2.2.1
      · exact h)) rfl rfl rfl hy.2.2.2.2 hrm) ⟨mm_blind, va_recv hSt.2.1 (mm_P h1) (ci := ci) (q0 := j) hc (by rw [mm_l_at G S hj, he]), fun U hU hW => ⟨rfl, mm_St_warm hW hSt, by rw [hU]; exact h1⟩⟩ rfl hn h3.1 rfl (lv_room hcat) hd ⟨hkc, hns⟩) h2 (fun q _ h => hA q h) (fun q h => hA q h) (fun r u t H1 locs1 ht hvm hp hB hz hk hS => ?_)
  rw [ht] at hB
  exact k r u hp p e s m args below meth c hC H1 locs1 la hB hS h3
theorem vc_Sl {P : Int64 → Mem → Prop} (hM : mm_C l G y cy ny rty (mm_rm fr lo) As S (mm_Ql G P)) (hlk2 : Cond.methodLink own index y ∈ WW) (hy : mm_ys y cy ny rty n) (hrm : fr + 1 ≤ R.frames ∧ 8 + (ny + 11) + lo ≤ R.locals) (hn : As.length = n) (hst : st0 = As.reverse ++ st) (hcat : (st.map fun v => v.category).sum ≤ 8) (hd : decode cc pc = .ok (.invokestatic index, 3)) (k : ∀ (r : Int64) (S1 : Mem), P r S1 → mm_V l G own cc nL rt R kc ns Xt A Qf S1 (pc + 3) ls (.long r :: st)) : mm_V l G own cc nL rt R kc ns Xt A Qf S pc ls st0 := by
  intro p e s m args below meth c hC H locs la h1 h2 h3
  obtain ⟨hx, hb, hr, hml, hown, hts, hlk, hSt, hkc, hns, hXt, hA⟩ := id hC
  subst hst
  refine va_calll (va_runS (Ts := WW) (As := As) (rest := st) ⟨hx, hb, hml, hown, hts⟩ hM (va_cwS n hts (mm_good (ws := va_wsS own index y (Cond.code y cy ny rty :: WW)) (fun w hw => by
    rcases List.mem_append.mp hw with h | h
    · simp only [List.mem_cons, List.not_mem_nil, or_false] at h
      rcases h with rfl | rfl | rfl
      · exact hlk2
      · exact hy.1
      · exact hy.2.1
    · rcases List.mem_cons.mp h with rfl | h
      · exact hy.2.2.1
      · exact h)) rfl rfl rfl hy.2.2.2 hrm) ⟨mm_blind, fun U hU hW => ⟨rfl, mm_St_warm hW hSt, by rw [hU]; exact h1⟩⟩ rfl hn h3.1 rfl (lv_room hcat) hd ⟨hkc, hns⟩) h2 (fun q _ h => hA q h) (fun q h => hA q h) (fun r u t H1 locs1 ht hvm hp hB hz hk hS => ?_)
  rw [ht] at hB
  exact k r u hp p e s m args below meth c hC H1 locs1 la hB hS h3
theorem vc_Nl {host : String} {P : Int64 → Mem → Prop} (hM : mm_C l G y cy ny rty (mm_rm fr lo) As S (mm_Ql G P)) (hnest : (own, index, y, host) ∈ mm_nest) (hy : mm_ys y cy ny rty n) (hrm : fr + 1 ≤ R.frames ∧ 8 + (ny + 11) + lo ≤ R.locals) (hn : As.length = n) (hst : st0 = As.reverse ++ st) (hcat : (st.map fun v => v.category).sum ≤ 8) (hd : decode cc pc = .ok (.invokestatic index, 3)) (k : ∀ (r : Int64) (S1 : Mem), P r S1 → mm_V l G own cc nL rt R kc ns Xt A Qf S1 (pc + 3) ls (.long r :: st)) : mm_V l G own cc nL rt R kc ns Xt A Qf S pc ls st0 := by
  intro p e s m args below meth c hC H locs la h1 h2 h3
  obtain ⟨hx, hb, hr, hml, hown, hts, hlk, hSt, hkc, hns, hXt, hA⟩ := id hC
  subst hst
  refine va_calll (va_runSN (Ts := WW) (As := As) (rest := st) ⟨hx, hb, hml, hown, hts⟩ hM ⟨va_cnB (host := host) n hts (mm_good (ws := Cond.code y cy ny rty :: WW) (fun w hw => by
    rcases List.mem_cons.mp hw with rfl | h
    · exact hy.2.2.1
    · exact h)) rfl rfl rfl (hSt.2.2 _ hnest) (hts _ hy.2.1) hy.2.2.2 hrm, hts _ hy.1, trivial⟩ ⟨mm_blind, fun U hU hW => ⟨rfl, mm_St_warm hW hSt, by rw [hU]; exact h1⟩⟩ rfl hn h3.1 rfl (lv_room hcat) hd ⟨hkc, hns⟩) h2 (fun q _ h => hA q h) (fun q h => hA q h) (fun r u t H1 locs1 ht hvm hp hB hz hk hS => ?_)
  rw [ht] at hB
  exact k r u hp p e s m args below meth c hC H1 locs1 la hB hS h3
theorem vc_Vq {P : Option Nat → Mem → Prop} (hM : mm_C l G y cy ny rty (mm_rm fr lo) (.ref (gad G j) :: As) S (mm_Qq G P)) (hlk2 : Cond.methodLink own index y ∈ WW) (hy : mm_y C y cy ny rty n) (hv : mm_rv G S j C) (hrm : fr + 1 ≤ R.frames ∧ 8 + (ny + 11) + lo ≤ R.locals) (hn : As.length = n) (hst : st0 = As.reverse ++ .ref (gad G j) :: st) (hcat : (st.map fun v => v.category).sum ≤ 8) (hd : decode cc pc = .ok (.invokevirtual index, 3)) (k : ∀ (r : Option Nat) (S1 : Mem), P r S1 → mm_V l G own cc nL rt R kc ns Xt A Qf S1 (pc + 3) ls (va_rf r :: st)) : mm_V l G own cc nL rt R kc ns Xt A Qf S pc ls st0 := by
  intro p e s m args below meth c hC H locs la h1 h2 h3
  obtain ⟨hx, hb, hr, hml, hown, hts, hlk, hSt, hkc, hns, hXt, hA⟩ := id hC
  subst hst
  obtain ⟨hj, ci, T, N, fs, hc, he⟩ := hv
  refine va_callq (va_runV (Ts := WW) (C := C) (As := As) (rest := st) ⟨hx, hb, hml, hown, hts⟩ hM (cwV n hts (mm_good (ws := wsV own index C y (Cond.code y cy ny rty :: WW)) (fun w hw => by
    rcases List.mem_append.mp hw with h | h
    · simp only [List.mem_cons, List.not_mem_nil, or_false] at h
      rcases h with rfl | rfl | rfl | rfl
      · exact hlk2
      · exact hy.1
      · exact hy.2.1
      · exact hy.2.2.1
    · rcases List.mem_cons.mp h with rfl | h
      · exact hy.2.2.2.1
      · exact h)) rfl rfl rfl hy.2.2.2.2 hrm) ⟨mm_blind, va_recv hSt.2.1 (mm_P h1) (ci := ci) (q0 := j) hc (by rw [mm_l_at G S hj, he]), fun U hU hW => ⟨rfl, mm_St_warm hW hSt, by rw [hU]; exact h1⟩⟩ rfl hn h3.1 rfl (lv_room hcat) hd ⟨hkc, hns⟩) h2 (fun q _ h => hA q h) (fun q h => hA q h) (fun r u t H1 locs1 ht hvm hp hB hz hk hS => ?_)
  rw [ht] at hB
  exact k r u hp p e s m args below meth c hC H1 locs1 la hB hS h3
theorem vc_Sq {P : Option Nat → Mem → Prop} (hM : mm_C l G y cy ny rty (mm_rm fr lo) As S (mm_Qq G P)) (hlk2 : Cond.methodLink own index y ∈ WW) (hy : mm_ys y cy ny rty n) (hrm : fr + 1 ≤ R.frames ∧ 8 + (ny + 11) + lo ≤ R.locals) (hn : As.length = n) (hst : st0 = As.reverse ++ st) (hcat : (st.map fun v => v.category).sum ≤ 8) (hd : decode cc pc = .ok (.invokestatic index, 3)) (k : ∀ (r : Option Nat) (S1 : Mem), P r S1 → mm_V l G own cc nL rt R kc ns Xt A Qf S1 (pc + 3) ls (va_rf r :: st)) : mm_V l G own cc nL rt R kc ns Xt A Qf S pc ls st0 := by
  intro p e s m args below meth c hC H locs la h1 h2 h3
  obtain ⟨hx, hb, hr, hml, hown, hts, hlk, hSt, hkc, hns, hXt, hA⟩ := id hC
  subst hst
  refine va_callq (va_runS (Ts := WW) (As := As) (rest := st) ⟨hx, hb, hml, hown, hts⟩ hM (va_cwS n hts (mm_good (ws := va_wsS own index y (Cond.code y cy ny rty :: WW)) (fun w hw => by
    rcases List.mem_append.mp hw with h | h
    · simp only [List.mem_cons, List.not_mem_nil, or_false] at h
      rcases h with rfl | rfl | rfl
      · exact hlk2
      · exact hy.1
      · exact hy.2.1
    · rcases List.mem_cons.mp h with rfl | h
      · exact hy.2.2.1
      · exact h)) rfl rfl rfl hy.2.2.2 hrm) ⟨mm_blind, fun U hU hW => ⟨rfl, mm_St_warm hW hSt, by rw [hU]; exact h1⟩⟩ rfl hn h3.1 rfl (lv_room hcat) hd ⟨hkc, hns⟩) h2 (fun q _ h => hA q h) (fun q h => hA q h) (fun r u t H1 locs1 ht hvm hp hB hz hk hS => ?_)
  rw [ht] at hB
  exact k r u hp p e s m args below meth c hC H1 locs1 la hB hS h3
theorem vc_Nq {host : String} {P : Option Nat → Mem → Prop} (hM : mm_C l G y cy ny rty (mm_rm fr lo) As S (mm_Qq G P)) (hnest : (own, index, y, host) ∈ mm_nest) (hy : mm_ys y cy ny rty n) (hrm : fr + 1 ≤ R.frames ∧ 8 + (ny + 11) + lo ≤ R.locals) (hn : As.length = n) (hst : st0 = As.reverse ++ st) (hcat : (st.map fun v => v.category).sum ≤ 8) (hd : decode cc pc = .ok (.invokestatic index, 3)) (k : ∀ (r : Option Nat) (S1 : Mem), P r S1 → mm_V l G own cc nL rt R kc ns Xt A Qf S1 (pc + 3) ls (va_rf r :: st)) : mm_V l G own cc nL rt R kc ns Xt A Qf S pc ls st0 := by
  intro p e s m args below meth c hC H locs la h1 h2 h3
  obtain ⟨hx, hb, hr, hml, hown, hts, hlk, hSt, hkc, hns, hXt, hA⟩ := id hC
  subst hst
  refine va_callq (va_runSN (Ts := WW) (As := As) (rest := st) ⟨hx, hb, hml, hown, hts⟩ hM ⟨va_cnB (host := host) n hts (mm_good (ws := Cond.code y cy ny rty :: WW) (fun w hw => by
    rcases List.mem_cons.mp hw with rfl | h
    · exact hy.2.2.1
    · exact h)) rfl rfl rfl (hSt.2.2 _ hnest) (hts _ hy.2.1) hy.2.2.2 hrm, hts _ hy.1, trivial⟩ ⟨mm_blind, fun U hU hW => ⟨rfl, mm_St_warm hW hSt, by rw [hU]; exact h1⟩⟩ rfl hn h3.1 rfl (lv_room hcat) hd ⟨hkc, hns⟩) h2 (fun q _ h => hA q h) (fun q h => hA q h) (fun r u t H1 locs1 ht hvm hp hB hz hk hS => ?_)
  rw [ht] at hB
  exact k r u hp p e s m args below meth c hC H1 locs1 la hB hS h3
theorem vc_Vv {P : Mem → Prop} (hM : mm_C l G y cy ny rty (mm_rm fr lo) (.ref (gad G j) :: As) S (mm_Qv G P)) (hlk2 : Cond.methodLink own index y ∈ WW) (hy : mm_y C y cy ny rty n) (hv : mm_rv G S j C) (hrm : fr + 1 ≤ R.frames ∧ 8 + (ny + 11) + lo ≤ R.locals) (hn : As.length = n) (hst : st0 = As.reverse ++ .ref (gad G j) :: st) (hcat : (st.map fun v => v.category).sum ≤ 8) (hd : decode cc pc = .ok (.invokevirtual index, 3)) (k : ∀ S1 : Mem, P S1 → mm_V l G own cc nL rt R kc ns Xt A Qf S1 (pc + 3) ls (st)) : mm_V l G own cc nL rt R kc ns Xt A Qf S pc ls st0 := by
  intro p e s m args below meth c hC H locs la h1 h2 h3
  obtain ⟨hx, hb, hr, hml, hown, hts, hlk, hSt, hkc, hns, hXt, hA⟩ := id hC
  subst hst
  obtain ⟨hj, ci, T, N, fs, hc, he⟩ := hv
  refine va_callv (va_runV (Ts := WW) (C := C) (As := As) (rest := st) ⟨hx, hb, hml, hown, hts⟩ hM (cwV n hts (mm_good (ws := wsV own index C y (Cond.code y cy ny rty :: WW)) (fun w hw => by
    rcases List.mem_append.mp hw with h | h
    · simp only [List.mem_cons, List.not_mem_nil, or_false] at h
      rcases h with rfl | rfl | rfl | rfl
      · exact hlk2
      · exact hy.1
      · exact hy.2.1
      · exact hy.2.2.1
    · rcases List.mem_cons.mp h with rfl | h
      · exact hy.2.2.2.1
      · exact h)) rfl rfl rfl hy.2.2.2.2 hrm) ⟨mm_blind, va_recv hSt.2.1 (mm_P h1) (ci := ci) (q0 := j) hc (by rw [mm_l_at G S hj, he]), fun U hU hW => ⟨rfl, mm_St_warm hW hSt, by rw [hU]; exact h1⟩⟩ rfl hn h3.1 rfl (lv_room hcat) hd ⟨hkc, hns⟩) h2 (fun q _ h => hA q h) (fun q h => hA q h) (fun u t H1 locs1 ht hvm hp hB hz hk hS => ?_)
  rw [ht] at hB
  exact k u hp p e s m args below meth c hC H1 locs1 la hB hS h3
theorem vc_Sv {P : Mem → Prop} (hM : mm_C l G y cy ny rty (mm_rm fr lo) As S (mm_Qv G P)) (hlk2 : Cond.methodLink own index y ∈ WW) (hy : mm_ys y cy ny rty n) (hrm : fr + 1 ≤ R.frames ∧ 8 + (ny + 11) + lo ≤ R.locals) (hn : As.length = n) (hst : st0 = As.reverse ++ st) (hcat : (st.map fun v => v.category).sum ≤ 8) (hd : decode cc pc = .ok (.invokestatic index, 3)) (k : ∀ S1 : Mem, P S1 → mm_V l G own cc nL rt R kc ns Xt A Qf S1 (pc + 3) ls (st)) : mm_V l G own cc nL rt R kc ns Xt A Qf S pc ls st0 := by
  intro p e s m args below meth c hC H locs la h1 h2 h3
  obtain ⟨hx, hb, hr, hml, hown, hts, hlk, hSt, hkc, hns, hXt, hA⟩ := id hC
  subst hst
  refine va_callv (va_runS (Ts := WW) (As := As) (rest := st) ⟨hx, hb, hml, hown, hts⟩ hM (va_cwS n hts (mm_good (ws := va_wsS own index y (Cond.code y cy ny rty :: WW)) (fun w hw => by
    rcases List.mem_append.mp hw with h | h
    · simp only [List.mem_cons, List.not_mem_nil, or_false] at h
      rcases h with rfl | rfl | rfl
      · exact hlk2
      · exact hy.1
      · exact hy.2.1
    · rcases List.mem_cons.mp h with rfl | h
      · exact hy.2.2.1
      · exact h)) rfl rfl rfl hy.2.2.2 hrm) ⟨mm_blind, fun U hU hW => ⟨rfl, mm_St_warm hW hSt, by rw [hU]; exact h1⟩⟩ rfl hn h3.1 rfl (lv_room hcat) hd ⟨hkc, hns⟩) h2 (fun q _ h => hA q h) (fun q h => hA q h) (fun u t H1 locs1 ht hvm hp hB hz hk hS => ?_)
  rw [ht] at hB
  exact k u hp p e s m args below meth c hC H1 locs1 la hB hS h3
theorem vc_Nv {host : String} {P : Mem → Prop} (hM : mm_C l G y cy ny rty (mm_rm fr lo) As S (mm_Qv G P)) (hnest : (own, index, y, host) ∈ mm_nest) (hy : mm_ys y cy ny rty n) (hrm : fr + 1 ≤ R.frames ∧ 8 + (ny + 11) + lo ≤ R.locals) (hn : As.length = n) (hst : st0 = As.reverse ++ st) (hcat : (st.map fun v => v.category).sum ≤ 8) (hd : decode cc pc = .ok (.invokestatic index, 3)) (k : ∀ S1 : Mem, P S1 → mm_V l G own cc nL rt R kc ns Xt A Qf S1 (pc + 3) ls (st)) : mm_V l G own cc nL rt R kc ns Xt A Qf S pc ls st0 := by
  intro p e s m args below meth c hC H locs la h1 h2 h3
  obtain ⟨hx, hb, hr, hml, hown, hts, hlk, hSt, hkc, hns, hXt, hA⟩ := id hC
  subst hst
  refine va_callv (va_runSN (Ts := WW) (As := As) (rest := st) ⟨hx, hb, hml, hown, hts⟩ hM ⟨va_cnB (host := host) n hts (mm_good (ws := Cond.code y cy ny rty :: WW) (fun w hw => by
    rcases List.mem_cons.mp hw with rfl | h
    · exact hy.2.2.1
    · exact h)) rfl rfl rfl (hSt.2.2 _ hnest) (hts _ hy.2.1) hy.2.2.2 hrm, hts _ hy.1, trivial⟩ ⟨mm_blind, fun U hU hW => ⟨rfl, mm_St_warm hW hSt, by rw [hU]; exact h1⟩⟩ rfl hn h3.1 rfl (lv_room hcat) hd ⟨hkc, hns⟩) h2 (fun q _ h => hA q h) (fun q h => hA q h) (fun u t H1 locs1 ht hvm hp hB hz hk hS => ?_)
  rw [ht] at hB
  exact k u hp p e s m args below meth c hC H1 locs1 la hB hS h3
end VC
section VT
variable {l : Launch} {G : gG} {own : String} {cc : ByteArray} {nL : Nat} {R : Room} {Xt : State → Prop} {S : Mem} {pc : Nat} {ls ls' : List (Nat × Value)} {st : List Value}
theorem vr_i {P : Int32 → Mem → Prop} {v : Int32} (hd : decode cc pc = .ok (.ireturn, 1)) (h : P v S) : mm_V l G own cc nL (some .int) R 0 0 Xt (fun _ => mm_F G) (mm_Qf G (mm_Qi G P)) S pc ls [.int v] := by
  intro p e s m args below meth c hC H locs la h1 h2 h3
  obtain ⟨hx, hb, hr, hml, hown, hts, hlocks, hSt, hkc, hns, hXt, hA⟩ := id hC
  exact W.iret hx hb hr (fun t ht hW => ⟨⟨v, S, rfl, h, by show mm_H G S t.heap; rw [ht]; exact h1⟩, va_S.F h2 ht⟩) h2.2.2 hd hlocks
theorem vr_z {P : Int32 → Mem → Prop} {v : Int32} (hd : decode cc pc = .ok (.ireturn, 1)) (hv : v = 0 ∨ v = 1) (h : P v S) : mm_V l G own cc nL (some .boolean) R 0 0 Xt (fun _ => mm_F G) (mm_Qf G (mm_Qi G P)) S pc ls [.int v] := by
  intro p e s m args below meth c hC H locs la h1 h2 h3
  obtain ⟨hx, hb, hr, hml, hown, hts, hlocks, hSt, hkc, hns, hXt, hA⟩ := id hC
  exact W.zret hx hb hr (mm_ok_b v hv).1 (fun t ht hW => ⟨⟨v, S, rfl, h, by show mm_H G S t.heap; rw [ht]; exact h1⟩, va_S.F h2 ht⟩) h2.2.2 hd hlocks
theorem vr_l {P : Int64 → Mem → Prop} {v : Int64} (hd : decode cc pc = .ok (.lreturn, 1)) (h : P v S) : mm_V l G own cc nL (some .long) R 0 0 Xt (fun _ => mm_F G) (mm_Qf G (mm_Ql G P)) S pc ls [.long v] := by
  intro p e s m args below meth c hC H locs la h1 h2 h3
  obtain ⟨hx, hb, hr, hml, hown, hts, hlocks, hSt, hkc, hns, hXt, hA⟩ := id hC
  exact W.lret hx hb hr (fun t ht hW => ⟨⟨v, S, rfl, h, by show mm_H G S t.heap; rw [ht]; exact h1⟩, va_S.F h2 ht⟩) h2.2.2 hd hlocks
theorem vr_v {P : Mem → Prop} (hd : decode cc pc = .ok (.return_, 1)) (h : P S) : mm_V l G own cc nL none R 0 0 Xt (fun _ => mm_F G) (mm_Qf G (mm_Qv G P)) S pc ls [] := by
  intro p e s m args below meth c hC H locs la h1 h2 h3
  obtain ⟨hx, hb, hr, hml, hown, hts, hlocks, hSt, hkc, hns, hXt, hA⟩ := id hC
  exact W.vret hx hb hr (fun t ht hW => ⟨⟨S, rfl, h, by show mm_H G S t.heap; rw [ht]; exact h1⟩, va_S.F h2 ht⟩) h2.2.2 hd hlocks
theorem vr_q {C : String} {P : Option Nat → Mem → Prop} {a : Nat} (hd : decode cc pc = .ok (.areturn, 1)) (h : P (some a) S) : mm_V l G own cc nL (some (.object C)) R 0 0 Xt (fun _ => mm_F G) (mm_Qf G (mm_Qq G P)) S pc ls [.ref a] := by
  intro p e s m args below meth c hC H locs la h1 h2 h3
  obtain ⟨hx, hb, hr, hml, hown, hts, hlocks, hSt, hkc, hns, hXt, hA⟩ := id hC
  exact W.aret hx hb hr (Or.inl ⟨_, rfl⟩) (Or.inr ⟨_, rfl⟩) (fun t ht hW => ⟨⟨some a, S, rfl, h, by show mm_H G S t.heap; rw [ht]; exact h1⟩, va_S.F h2 ht⟩) h2.2.2 hd hlocks
theorem vr_qN {C : String} {P : Option Nat → Mem → Prop} (hd : decode cc pc = .ok (.areturn, 1)) (h : P none S) : mm_V l G own cc nL (some (.object C)) R 0 0 Xt (fun _ => mm_F G) (mm_Qf G (mm_Qq G P)) S pc ls [.null] := by
  intro p e s m args below meth c hC H locs la h1 h2 h3
  obtain ⟨hx, hb, hr, hml, hown, hts, hlocks, hSt, hkc, hns, hXt, hA⟩ := id hC
  exact W.aret hx hb hr (Or.inl ⟨_, rfl⟩) (Or.inl rfl) (fun t ht hW => ⟨⟨none, S, rfl, h, by show mm_H G S t.heap; rw [ht]; exact h1⟩, va_S.F h2 ht⟩) h2.2.2 hd hlocks
end VT
end
section
theorem my_X0_takeFrom : mm_y RX0 yX0_takeFrom cX0_takeFrom 3 (none) 1 := ⟨mw_I_X0_takeFrom, mw_S_X0_takeFrom, mw_N_X0, mw_C_X0_takeFrom, rfl, by decide +kernel, by decide +kernel, by decide +kernel⟩
theorem my_X0_takeAsHeard : mm_y RX0 yX0_takeAsHeard cX0_takeAsHeard 3 (none) 1 := ⟨mw_I_X0_takeAsHeard, mw_S_X0_takeAsHeard, mw_N_X0, mw_C_X0_takeAsHeard, rfl, by decide +kernel, by decide +kernel, by decide +kernel⟩
theorem my_X0_wireNumbered : mm_y RX0 yX0_wireNumbered cX0_wireNumbered 2 (some (.object "SingingWires$Wire")) 1 := ⟨mw_I_X0_wireNumbered, mw_S_X0_wireNumbered, mw_N_X0, mw_C_X0_wireNumbered, rfl, by decide +kernel, by decide +kernel, by decide +kernel⟩
theorem my_X0_changeSetting : mm_y RX0 yX0_changeSetting cX0_changeSetting 4 (some .int) 2 := ⟨mw_I_X0_changeSetting, mw_S_X0_changeSetting, mw_N_X0, mw_C_X0_changeSetting, rfl, by decide +kernel, by decide +kernel, by decide +kernel⟩
theorem my_X0_hang : mm_y RX0 yX0_hang cX0_hang 7 (some .int) 5 := ⟨mw_I_X0_hang, mw_S_X0_hang, mw_N_X0, mw_C_X0_hang, rfl, by decide +kernel, by decide +kernel, by decide +kernel⟩
theorem my_X0_changeLoad : mm_y RX0 yX0_changeLoad cX0_changeLoad 4 (some .int) 2 := ⟨mw_I_X0_changeLoad, mw_S_X0_changeLoad, mw_N_X0, mw_C_X0_changeLoad, rfl, by decide +kernel, by decide +kernel, by decide +kernel⟩
theorem my_X0_letPass : mm_y RX0 yX0_letPass cX0_letPass 5 (some .int) 1 := ⟨mw_I_X0_letPass, mw_S_X0_letPass, mw_N_X0, mw_C_X0_letPass, rfl, by decide +kernel, by decide +kernel, by decide +kernel⟩
theorem my_X0_goTo : mm_y RX0 yX0_goTo cX0_goTo 3 (some .int) 1 := ⟨mw_I_X0_goTo, mw_S_X0_goTo, mw_N_X0, mw_C_X0_goTo, rfl, by decide +kernel, by decide +kernel, by decide +kernel⟩
theorem my_X0_wireHere : mm_y RX0 yX0_wireHere cX0_wireHere 1 (some (.object "SingingWires$Wire")) 0 := ⟨mw_I_X0_wireHere, mw_S_X0_wireHere, mw_N_X0, mw_C_X0_wireHere, rfl, by decide +kernel, by decide +kernel, by decide +kernel⟩
theorem my_X0_listen : mm_y RX0 yX0_listen cX0_listen 2 (some .int) 0 := ⟨mw_I_X0_listen, mw_S_X0_listen, mw_N_X0, mw_C_X0_listen, rfl, by decide +kernel, by decide +kernel, by decide +kernel⟩
theorem my_X0_changeTension : mm_y RX0 yX0_changeTension cX0_changeTension 4 (some .int) 1 := ⟨mw_I_X0_changeTension, mw_S_X0_changeTension, mw_N_X0, mw_C_X0_changeTension, rfl, by decide +kernel, by decide +kernel, by decide +kernel⟩
theorem my_X0_settle : mm_y RX0 yX0_settle cX0_settle 4 (some .int) 0 := ⟨mw_I_X0_settle, mw_S_X0_settle, mw_N_X0, mw_C_X0_settle, rfl, by decide +kernel, by decide +kernel, by decide +kernel⟩
theorem my_X0_worstBursting : mm_y RX0 yX0_worstBursting cX0_worstBursting 5 (some .int) 0 := ⟨mw_I_X0_worstBursting, mw_S_X0_worstBursting, mw_N_X0, mw_C_X0_worstBursting, rfl, by decide +kernel, by decide +kernel, by decide +kernel⟩
theorem my_X0_standsWith : mm_y RX0 yX0_standsWith cX0_standsWith 3 (some .boolean) 2 := ⟨mw_I_X0_standsWith, mw_S_X0_standsWith, mw_N_X0, mw_C_X0_standsWith, rfl, by decide +kernel, by decide +kernel, by decide +kernel⟩
theorem my_X0_reckon : mm_y RX0 yX0_reckon cX0_reckon 4 (none) 0 := ⟨mw_I_X0_reckon, mw_S_X0_reckon, mw_N_X0, mw_C_X0_reckon, rfl, by decide +kernel, by decide +kernel, by decide +kernel⟩
theorem my_X0_nextWhole : mm_y RX0 yX0_nextWhole cX0_nextWhole 4 (some (.object "SingingWires$Wire")) 1 := ⟨mw_I_X0_nextWhole, mw_S_X0_nextWhole, mw_N_X0, mw_C_X0_nextWhole, rfl, by decide +kernel, by decide +kernel, by decide +kernel⟩
theorem my_X0_share : mm_y RX0 yX0_share cX0_share 7 (none) 3 := ⟨mw_I_X0_share, mw_S_X0_share, mw_N_X0, mw_C_X0_share, rfl, by decide +kernel, by decide +kernel, by decide +kernel⟩
theorem my_X0_walkToDoubtful : mm_y RX0 yX0_walkToDoubtful cX0_walkToDoubtful 5 (some .int) 0 := ⟨mw_I_X0_walkToDoubtful, mw_S_X0_walkToDoubtful, mw_N_X0, mw_C_X0_walkToDoubtful, rfl, by decide +kernel, by decide +kernel, by decide +kernel⟩
theorem my_X0_allLoads : mm_y RX0 yX0_allLoads cX0_allLoads 3 (some .int) 0 := ⟨mw_I_X0_allLoads, mw_S_X0_allLoads, mw_N_X0, mw_C_X0_allLoads, rfl, by decide +kernel, by decide +kernel, by decide +kernel⟩
theorem my_X0_wholeWires : mm_y RX0 yX0_wholeWires cX0_wholeWires 3 (some .int) 0 := ⟨mw_I_X0_wholeWires, mw_S_X0_wholeWires, mw_N_X0, mw_C_X0_wholeWires, rfl, by decide +kernel, by decide +kernel, by decide +kernel⟩
theorem my_X0_slackWires : mm_y RX0 yX0_slackWires cX0_slackWires 3 (some .int) 0 := ⟨mw_I_X0_slackWires, mw_S_X0_slackWires, mw_N_X0, mw_C_X0_slackWires, rfl, by decide +kernel, by decide +kernel, by decide +kernel⟩
theorem my_X0_tooTightWires : mm_y RX0 yX0_tooTightWires cX0_tooTightWires 3 (some .int) 0 := ⟨mw_I_X0_tooTightWires, mw_S_X0_tooTightWires, mw_N_X0, mw_C_X0_tooTightWires, rfl, by decide +kernel, by decide +kernel, by decide +kernel⟩
theorem my_X1_note : mm_y RX1 yX1_note cX1_note 2 (none) 1 := ⟨mw_I_X1_note, mw_S_X1_note, mw_N_X1, mw_C_X1_note, rfl, by decide +kernel, by decide +kernel, by decide +kernel⟩
theorem my_X1_keepUnlessError : mm_y RX1 yX1_keepUnlessError cX1_keepUnlessError 2 (some .int) 1 := ⟨mw_I_X1_keepUnlessError, mw_S_X1_keepUnlessError, mw_N_X1, mw_C_X1_keepUnlessError, rfl, by decide +kernel, by decide +kernel, by decide +kernel⟩
theorem my_X1_dropOldest : mm_y RX1 yX1_dropOldest cX1_dropOldest 3 (none) 0 := ⟨mw_I_X1_dropOldest, mw_S_X1_dropOldest, mw_N_X1, mw_C_X1_dropOldest, rfl, by decide +kernel, by decide +kernel, by decide +kernel⟩
theorem my_X1_giveBack : mm_y RX1 yX1_giveBack cX1_giveBack 2 (some .int) 1 := ⟨mw_I_X1_giveBack, mw_S_X1_giveBack, mw_N_X1, mw_C_X1_giveBack, rfl, by decide +kernel, by decide +kernel, by decide +kernel⟩
theorem my_X2_append : mm_y RX2 yX2_append cX2_append 5 (some .int) 1 := ⟨mw_I_X2_append, mw_S_X2_append, mw_N_X2, mw_C_X2_append, rfl, by decide +kernel, by decide +kernel, by decide +kernel⟩
theorem my_X2_charactersIn : mm_ys yX2_charactersIn cX2_charactersIn 4 (some .int) 1 := ⟨mw_T_X2_charactersIn, mw_N_X2, mw_C_X2_charactersIn, by decide +kernel, by decide +kernel, by decide +kernel⟩
theorem my_X2_codeAt : mm_ys yX2_codeAt cX2_codeAt 3 (some .int) 2 := ⟨mw_T_X2_codeAt, mw_N_X2, mw_C_X2_codeAt, by decide +kernel, by decide +kernel, by decide +kernel⟩
theorem my_X2_empty : mm_y RX2 yX2_empty cX2_empty 2 (some .int) 0 := ⟨mw_I_X2_empty, mw_S_X2_empty, mw_N_X2, mw_C_X2_empty, rfl, by decide +kernel, by decide +kernel, by decide +kernel⟩
theorem my_X2_firstFault : mm_y RX2 yX2_firstFault cX2_firstFault 2 (some .int) 0 := ⟨mw_I_X2_firstFault, mw_S_X2_firstFault, mw_N_X2, mw_C_X2_firstFault, rfl, by decide +kernel, by decide +kernel, by decide +kernel⟩
theorem my_X2_canStand : mm_y RX2 yX2_canStand cX2_canStand 2 (some .boolean) 1 := ⟨mw_I_X2_canStand, mw_S_X2_canStand, mw_N_X2, mw_C_X2_canStand, rfl, by decide +kernel, by decide +kernel, by decide +kernel⟩
theorem my_X2_startsOrder : mm_y RX2 yX2_startsOrder cX2_startsOrder 2 (some .boolean) 1 := ⟨mw_I_X2_startsOrder, mw_S_X2_startsOrder, mw_N_X2, mw_C_X2_startsOrder, rfl, by decide +kernel, by decide +kernel, by decide +kernel⟩
theorem my_X2_startsNumber : mm_y RX2 yX2_startsNumber cX2_startsNumber 2 (some .boolean) 1 := ⟨mw_I_X2_startsNumber, mw_S_X2_startsNumber, mw_N_X2, mw_C_X2_startsNumber, rfl, by decide +kernel, by decide +kernel, by decide +kernel⟩
theorem my_X2_growsNumber : mm_y RX2 yX2_growsNumber cX2_growsNumber 2 (some .boolean) 1 := ⟨mw_I_X2_growsNumber, mw_S_X2_growsNumber, mw_N_X2, mw_C_X2_growsNumber, rfl, by decide +kernel, by decide +kernel, by decide +kernel⟩
theorem my_X2_endsNumber : mm_y RX2 yX2_endsNumber cX2_endsNumber 2 (some .boolean) 1 := ⟨mw_I_X2_endsNumber, mw_S_X2_endsNumber, mw_N_X2, mw_C_X2_endsNumber, rfl, by decide +kernel, by decide +kernel, by decide +kernel⟩
theorem my_X2_endsOrder : mm_y RX2 yX2_endsOrder cX2_endsOrder 2 (some .boolean) 1 := ⟨mw_I_X2_endsOrder, mw_S_X2_endsOrder, mw_N_X2, mw_C_X2_endsOrder, rfl, by decide +kernel, by decide +kernel, by decide +kernel⟩
theorem my_X2_isDigit : mm_ys yX2_isDigit cX2_isDigit 1 (some .boolean) 1 := ⟨mw_T_X2_isDigit, mw_N_X2, mw_C_X2_isDigit, by decide +kernel, by decide +kernel, by decide +kernel⟩
theorem my_X2_startReading : mm_y RX2 yX2_startReading cX2_startReading 1 (none) 0 := ⟨mw_I_X2_startReading, mw_S_X2_startReading, mw_N_X2, mw_C_X2_startReading, rfl, by decide +kernel, by decide +kernel, by decide +kernel⟩
theorem my_X2_readOrder : mm_y RX2 yX2_readOrder cX2_readOrder 1 (some .boolean) 0 := ⟨mw_I_X2_readOrder, mw_S_X2_readOrder, mw_N_X2, mw_C_X2_readOrder, rfl, by decide +kernel, by decide +kernel, by decide +kernel⟩
theorem my_X2_readNumber : mm_y RX2 yX2_readNumber cX2_readNumber 2 (some .int) 0 := ⟨mw_I_X2_readNumber, mw_S_X2_readNumber, mw_N_X2, mw_C_X2_readNumber, rfl, by decide +kernel, by decide +kernel, by decide +kernel⟩
theorem my_X3_makeNew : mm_y RX3 yX3_makeNew cX3_makeNew 6 (none) 5 := ⟨mw_I_X3_makeNew, mw_S_X3_makeNew, mw_N_X3, mw_C_X3_makeNew, rfl, by decide +kernel, by decide +kernel, by decide +kernel⟩
theorem my_X3_takeFrom : mm_y RX3 yX3_takeFrom cX3_takeFrom 2 (none) 1 := ⟨mw_I_X3_takeFrom, mw_S_X3_takeFrom, mw_N_X3, mw_C_X3_takeFrom, rfl, by decide +kernel, by decide +kernel, by decide +kernel⟩
theorem my_X3_weight : mm_y RX3 yX3_weight cX3_weight 1 (some .long) 0 := ⟨mw_I_X3_weight, mw_S_X3_weight, mw_N_X3, mw_C_X3_weight, rfl, by decide +kernel, by decide +kernel, by decide +kernel⟩
theorem my_X3_pitchWith : mm_y RX3 yX3_pitchWith cX3_pitchWith 10 (some .int) 1 := ⟨mw_I_X3_pitchWith, mw_S_X3_pitchWith, mw_N_X3, mw_C_X3_pitchWith, rfl, by decide +kernel, by decide +kernel, by decide +kernel⟩
theorem my_X3_leastTension : mm_y RX3 yX3_leastTension cX3_leastTension 3 (some .long) 1 := ⟨mw_I_X3_leastTension, mw_S_X3_leastTension, mw_N_X3, mw_C_X3_leastTension, rfl, by decide +kernel, by decide +kernel, by decide +kernel⟩
theorem my_X3_snap : mm_y RX3 yX3_snap cX3_snap 2 (none) 1 := ⟨mw_I_X3_snap, mw_S_X3_snap, mw_N_X3, mw_C_X3_snap, rfl, by decide +kernel, by decide +kernel, by decide +kernel⟩
theorem my_X3_pull : mm_y RX3 yX3_pull cX3_pull 3 (none) 2 := ⟨mw_I_X3_pull, mw_S_X3_pull, mw_N_X3, mw_C_X3_pull, rfl, by decide +kernel, by decide +kernel, by decide +kernel⟩
theorem my_X3_sing : mm_y RX3 yX3_sing cX3_sing 3 (some .int) 1 := ⟨mw_I_X3_sing, mw_S_X3_sing, mw_N_X3, mw_C_X3_sing, rfl, by decide +kernel, by decide +kernel, by decide +kernel⟩
theorem my_X3_loosen : mm_y RX3 yX3_loosen cX3_loosen 2 (none) 1 := ⟨mw_I_X3_loosen, mw_S_X3_loosen, mw_N_X3, mw_C_X3_loosen, rfl, by decide +kernel, by decide +kernel, by decide +kernel⟩
theorem my_X3_isSlack : mm_y RX3 yX3_isSlack cX3_isSlack 1 (some .boolean) 0 := ⟨mw_I_X3_isSlack, mw_S_X3_isSlack, mw_N_X3, mw_C_X3_isSlack, rfl, by decide +kernel, by decide +kernel, by decide +kernel⟩
theorem my_X3_isTooTight : mm_y RX3 yX3_isTooTight cX3_isTooTight 2 (some .boolean) 1 := ⟨mw_I_X3_isTooTight, mw_S_X3_isTooTight, mw_N_X3, mw_C_X3_isTooTight, rfl, by decide +kernel, by decide +kernel, by decide +kernel⟩
theorem my_X3_isKnown : mm_y RX3 yX3_isKnown cX3_isKnown 1 (some .boolean) 0 := ⟨mw_I_X3_isKnown, mw_S_X3_isKnown, mw_N_X3, mw_C_X3_isKnown, rfl, by decide +kernel, by decide +kernel, by decide +kernel⟩
theorem my_X3_isSurelySlack : mm_y RX3 yX3_isSurelySlack cX3_isSurelySlack 1 (some .boolean) 0 := ⟨mw_I_X3_isSurelySlack, mw_S_X3_isSurelySlack, mw_N_X3, mw_C_X3_isSurelySlack, rfl, by decide +kernel, by decide +kernel, by decide +kernel⟩
theorem my_X3_maybeSlack : mm_y RX3 yX3_maybeSlack cX3_maybeSlack 1 (some .boolean) 0 := ⟨mw_I_X3_maybeSlack, mw_S_X3_maybeSlack, mw_N_X3, mw_C_X3_maybeSlack, rfl, by decide +kernel, by decide +kernel, by decide +kernel⟩
theorem my_X4_set : mm_y RX4 yX4_set cX4_set 3 (some .int) 2 := ⟨mw_I_X4_set, mw_S_X4_set, mw_N_X4, mw_C_X4_set, rfl, by decide +kernel, by decide +kernel, by decide +kernel⟩
theorem my_X4_wire : mm_y RX4 yX4_wire cX4_wire 6 (some .int) 5 := ⟨mw_I_X4_wire, mw_S_X4_wire, mw_N_X4, mw_C_X4_wire, rfl, by decide +kernel, by decide +kernel, by decide +kernel⟩
theorem my_X4_load : mm_y RX4 yX4_load cX4_load 3 (some .int) 2 := ⟨mw_I_X4_load, mw_S_X4_load, mw_N_X4, mw_C_X4_load, rfl, by decide +kernel, by decide +kernel, by decide +kernel⟩
theorem my_X4_days : mm_y RX4 yX4_days cX4_days 2 (some .int) 1 := ⟨mw_I_X4_days, mw_S_X4_days, mw_N_X4, mw_C_X4_days, rfl, by decide +kernel, by decide +kernel, by decide +kernel⟩
theorem my_X4_walk : mm_y RX4 yX4_walk cX4_walk 2 (some .int) 1 := ⟨mw_I_X4_walk, mw_S_X4_walk, mw_N_X4, mw_C_X4_walk, rfl, by decide +kernel, by decide +kernel, by decide +kernel⟩
theorem my_X4_hear : mm_y RX4 yX4_hear cX4_hear 1 (some .int) 0 := ⟨mw_I_X4_hear, mw_S_X4_hear, mw_N_X4, mw_C_X4_hear, rfl, by decide +kernel, by decide +kernel, by decide +kernel⟩
theorem my_X4_tighten : mm_y RX4 yX4_tighten cX4_tighten 2 (some .int) 1 := ⟨mw_I_X4_tighten, mw_S_X4_tighten, mw_N_X4, mw_C_X4_tighten, rfl, by decide +kernel, by decide +kernel, by decide +kernel⟩
theorem my_X4_ofWire : mm_y RX4 yX4_ofWire cX4_ofWire 4 (some .int) 2 := ⟨mw_I_X4_ofWire, mw_S_X4_ofWire, mw_N_X4, mw_C_X4_ofWire, rfl, by decide +kernel, by decide +kernel, by decide +kernel⟩
theorem my_X4_known : mm_y RX4 yX4_known cX4_known 4 (some .int) 2 := ⟨mw_I_X4_known, mw_S_X4_known, mw_N_X4, mw_C_X4_known, rfl, by decide +kernel, by decide +kernel, by decide +kernel⟩
theorem my_X4_count : mm_y RX4 yX4_count cX4_count 2 (some .int) 1 := ⟨mw_I_X4_count, mw_S_X4_count, mw_N_X4, mw_C_X4_count, rfl, by decide +kernel, by decide +kernel, by decide +kernel⟩
theorem my_X4_pitchAt : mm_y RX4 yX4_pitchAt cX4_pitchAt 4 (some .int) 2 := ⟨mw_I_X4_pitchAt, mw_S_X4_pitchAt, mw_N_X4, mw_C_X4_pitchAt, rfl, by decide +kernel, by decide +kernel, by decide +kernel⟩
theorem my_X4_tensionFor : mm_y RX4 yX4_tensionFor cX4_tensionFor 6 (some .int) 2 := ⟨mw_I_X4_tensionFor, mw_S_X4_tensionFor, mw_N_X4, mw_C_X4_tensionFor, rfl, by decide +kernel, by decide +kernel, by decide +kernel⟩
theorem my_X4_fallsWith : mm_y RX4 yX4_fallsWith cX4_fallsWith 3 (some .int) 1 := ⟨mw_I_X4_fallsWith, mw_S_X4_fallsWith, mw_N_X4, mw_C_X4_fallsWith, rfl, by decide +kernel, by decide +kernel, by decide +kernel⟩
theorem my_X4_mostAt : mm_y RX4 yX4_mostAt cX4_mostAt 4 (some .int) 1 := ⟨mw_I_X4_mostAt, mw_S_X4_mostAt, mw_N_X4, mw_C_X4_mostAt, rfl, by decide +kernel, by decide +kernel, by decide +kernel⟩
theorem my_X4_slackIn : mm_y RX4 yX4_slackIn cX4_slackIn 5 (some .int) 1 := ⟨mw_I_X4_slackIn, mw_S_X4_slackIn, mw_N_X4, mw_C_X4_slackIn, rfl, by decide +kernel, by decide +kernel, by decide +kernel⟩
theorem my_X4_round : mm_y RX4 yX4_round cX4_round 1 (some .int) 0 := ⟨mw_I_X4_round, mw_S_X4_round, mw_N_X4, mw_C_X4_round, rfl, by decide +kernel, by decide +kernel, by decide +kernel⟩
theorem my_X4_weakest : mm_y RX4 yX4_weakest cX4_weakest 7 (some .int) 1 := ⟨mw_I_X4_weakest, mw_S_X4_weakest, mw_N_X4, mw_C_X4_weakest, rfl, by decide +kernel, by decide +kernel, by decide +kernel⟩
theorem my_X4_put : mm_y RX4 yX4_put cX4_put 3 (some .int) 1 := ⟨mw_I_X4_put, mw_S_X4_put, mw_N_X4, mw_C_X4_put, rfl, by decide +kernel, by decide +kernel, by decide +kernel⟩
theorem my_X4_wipe : mm_y RX4 yX4_wipe cX4_wipe 1 (some .int) 0 := ⟨mw_I_X4_wipe, mw_S_X4_wipe, mw_N_X4, mw_C_X4_wipe, rfl, by decide +kernel, by decide +kernel, by decide +kernel⟩
theorem my_X4_fault : mm_y RX4 yX4_fault cX4_fault 1 (some .int) 0 := ⟨mw_I_X4_fault, mw_S_X4_fault, mw_N_X4, mw_C_X4_fault, rfl, by decide +kernel, by decide +kernel, by decide +kernel⟩
theorem my_X4_carryOut : mm_y RX4 yX4_carryOut cX4_carryOut 2 (some .int) 0 := ⟨mw_I_X4_carryOut, mw_S_X4_carryOut, mw_N_X4, mw_C_X4_carryOut, rfl, by decide +kernel, by decide +kernel, by decide +kernel⟩
theorem my_X4_undo : mm_y RX4 yX4_undo cX4_undo 1 (some .int) 0 := ⟨mw_I_X4_undo, mw_S_X4_undo, mw_N_X4, mw_C_X4_undo, rfl, by decide +kernel, by decide +kernel, by decide +kernel⟩
theorem my_X4_save : mm_y RX4 yX4_save cX4_save 2 (some .int) 1 := ⟨mw_I_X4_save, mw_S_X4_save, mw_N_X4, mw_C_X4_save, rfl, by decide +kernel, by decide +kernel, by decide +kernel⟩
theorem my_X4_restore : mm_y RX4 yX4_restore cX4_restore 2 (some .int) 1 := ⟨mw_I_X4_restore, mw_S_X4_restore, mw_N_X4, mw_C_X4_restore, rfl, by decide +kernel, by decide +kernel, by decide +kernel⟩
theorem my_X4_fallenWith : mm_y RX4 yX4_fallenWith cX4_fallenWith 3 (some .int) 1 := ⟨mw_I_X4_fallenWith, mw_S_X4_fallenWith, mw_N_X4, mw_C_X4_fallenWith, rfl, by decide +kernel, by decide +kernel, by decide +kernel⟩
theorem my_X4_ordersCarriedOut : mm_y RX4 yX4_ordersCarriedOut cX4_ordersCarriedOut 3 (some .int) 0 := ⟨mw_I_X4_ordersCarriedOut, mw_S_X4_ordersCarriedOut, mw_N_X4, mw_C_X4_ordersCarriedOut, rfl, by decide +kernel, by decide +kernel, by decide +kernel⟩
theorem my_X4_answerTo : mm_y RX4 yX4_answerTo cX4_answerTo 4 (some .int) 3 := ⟨mw_I_X4_answerTo, mw_S_X4_answerTo, mw_N_X4, mw_C_X4_answerTo, rfl, by decide +kernel, by decide +kernel, by decide +kernel⟩
theorem my_X4_isError : mm_ys yX4_isError cX4_isError 1 (some .boolean) 1 := ⟨mw_T_X4_isError, mw_N_X4, mw_C_X4_isError, by decide +kernel, by decide +kernel, by decide +kernel⟩
theorem my_X4_within : mm_ys yX4_within cX4_within 3 (some .boolean) 3 := ⟨mw_T_X4_within, mw_N_X4, mw_C_X4_within, by decide +kernel, by decide +kernel, by decide +kernel⟩
theorem my_X4_oneIf : mm_ys yX4_oneIf cX4_oneIf 1 (some .int) 1 := ⟨mw_T_X4_oneIf, mw_N_X4, mw_C_X4_oneIf, by decide +kernel, by decide +kernel, by decide +kernel⟩
theorem my_X4_crept : mm_ys yX4_crept cX4_crept 2 (some .int) 2 := ⟨mw_T_X4_crept, mw_N_X4, mw_C_X4_crept, by decide +kernel, by decide +kernel, by decide +kernel⟩
theorem my_X5_in : mm_ys yX5_in cX5_in 3 (some .boolean) 3 := ⟨mw_T_X5_in, mw_N_X5, mw_C_X5_in, by decide +kernel, by decide +kernel, by decide +kernel⟩
theorem my_X5_record : mm_y RX5 yX5_record cX5_record 2 (none) 0 := ⟨mw_I_X5_record, mw_S_X5_record, mw_N_X5, mw_C_X5_record, rfl, by decide +kernel, by decide +kernel, by decide +kernel⟩
theorem my_X5_keep : mm_y RX5 yX5_keep cX5_keep 2 (none) 0 := ⟨mw_I_X5_keep, mw_S_X5_keep, mw_N_X5, mw_C_X5_keep, rfl, by decide +kernel, by decide +kernel, by decide +kernel⟩
theorem my_X5_comeBack : mm_y RX5 yX5_comeBack cX5_comeBack 2 (none) 0 := ⟨mw_I_X5_comeBack, mw_S_X5_comeBack, mw_N_X5, mw_C_X5_comeBack, rfl, by decide +kernel, by decide +kernel, by decide +kernel⟩
theorem my_X5_of : mm_y RX5 yX5_of cX5_of 3 (some .int) 2 := ⟨mw_I_X5_of, mw_S_X5_of, mw_N_X5, mw_C_X5_of, rfl, by decide +kernel, by decide +kernel, by decide +kernel⟩
theorem my_X5_book : mm_y RX5 yX5_book cX5_book 4 (none) 3 := ⟨mw_I_X5_book, mw_S_X5_book, mw_N_X5, mw_C_X5_book, rfl, by decide +kernel, by decide +kernel, by decide +kernel⟩
theorem my_X5_isWire : mm_y RX5 yX5_isWire cX5_isWire 2 (some .boolean) 1 := ⟨mw_I_X5_isWire, mw_S_X5_isWire, mw_N_X5, mw_C_X5_isWire, rfl, by decide +kernel, by decide +kernel, by decide +kernel⟩
theorem my_X5_isWhole : mm_y RX5 yX5_isWhole cX5_isWhole 2 (some .boolean) 1 := ⟨mw_I_X5_isWhole, mw_S_X5_isWhole, mw_N_X5, mw_C_X5_isWhole, rfl, by decide +kernel, by decide +kernel, by decide +kernel⟩
theorem my_X5_wholeBy : mm_y RX5 yX5_wholeBy cX5_wholeBy 4 (some .int) 1 := ⟨mw_I_X5_wholeBy, mw_S_X5_wholeBy, mw_N_X5, mw_C_X5_wholeBy, rfl, by decide +kernel, by decide +kernel, by decide +kernel⟩
theorem my_X5_weight : mm_y RX5 yX5_weight cX5_weight 2 (some .long) 1 := ⟨mw_I_X5_weight, mw_S_X5_weight, mw_N_X5, mw_C_X5_weight, rfl, by decide +kernel, by decide +kernel, by decide +kernel⟩
theorem my_X5_pitch : mm_y RX5 yX5_pitch cX5_pitch 7 (some .int) 2 := ⟨mw_I_X5_pitch, mw_S_X5_pitch, mw_N_X5, mw_C_X5_pitch, rfl, by decide +kernel, by decide +kernel, by decide +kernel⟩
theorem my_X5_leastFor : mm_y RX5 yX5_leastFor cX5_leastFor 3 (some .long) 2 := ⟨mw_I_X5_leastFor, mw_S_X5_leastFor, mw_N_X5, mw_C_X5_leastFor, rfl, by decide +kernel, by decide +kernel, by decide +kernel⟩
theorem my_X5_nearest : mm_y RX5 yX5_nearest cX5_nearest 7 (some .int) 3 := ⟨mw_I_X5_nearest, mw_S_X5_nearest, mw_N_X5, mw_C_X5_nearest, rfl, by decide +kernel, by decide +kernel, by decide +kernel⟩
theorem my_X5_layTasks : mm_y RX5 yX5_layTasks cX5_layTasks 8 (none) 1 := ⟨mw_I_X5_layTasks, mw_S_X5_layTasks, mw_N_X5, mw_C_X5_layTasks, rfl, by decide +kernel, by decide +kernel, by decide +kernel⟩
theorem my_X5_burst : mm_y RX5 yX5_burst cX5_burst 5 (some .int) 0 := ⟨mw_I_X5_burst, mw_S_X5_burst, mw_N_X5, mw_C_X5_burst, rfl, by decide +kernel, by decide +kernel, by decide +kernel⟩
theorem my_X5_breakWire : mm_y RX5 yX5_breakWire cX5_breakWire 2 (none) 1 := ⟨mw_I_X5_breakWire, mw_S_X5_breakWire, mw_N_X5, mw_C_X5_breakWire, rfl, by decide +kernel, by decide +kernel, by decide +kernel⟩
theorem my_X5_settle : mm_y RX5 yX5_settle cX5_settle 3 (some .int) 0 := ⟨mw_I_X5_settle, mw_S_X5_settle, mw_N_X5, mw_C_X5_settle, rfl, by decide +kernel, by decide +kernel, by decide +kernel⟩
theorem my_X5_set : mm_y RX5 yX5_set cX5_set 4 (some .int) 2 := ⟨mw_I_X5_set, mw_S_X5_set, mw_N_X5, mw_C_X5_set, rfl, by decide +kernel, by decide +kernel, by decide +kernel⟩
theorem my_X5_wireAt : mm_y RX5 yX5_wireAt cX5_wireAt 4 (some .int) 1 := ⟨mw_I_X5_wireAt, mw_S_X5_wireAt, mw_N_X5, mw_C_X5_wireAt, rfl, by decide +kernel, by decide +kernel, by decide +kernel⟩
theorem my_X5_wire : mm_y RX5 yX5_wire cX5_wire 7 (some .int) 5 := ⟨mw_I_X5_wire, mw_S_X5_wire, mw_N_X5, mw_C_X5_wire, rfl, by decide +kernel, by decide +kernel, by decide +kernel⟩
theorem my_X5_load : mm_y RX5 yX5_load cX5_load 4 (some .int) 2 := ⟨mw_I_X5_load, mw_S_X5_load, mw_N_X5, mw_C_X5_load, rfl, by decide +kernel, by decide +kernel, by decide +kernel⟩
theorem my_X5_loosened : mm_y RX5 yX5_loosened cX5_loosened 2 (some .int) 1 := ⟨mw_I_X5_loosened, mw_S_X5_loosened, mw_N_X5, mw_C_X5_loosened, rfl, by decide +kernel, by decide +kernel, by decide +kernel⟩
theorem my_X5_pass : mm_y RX5 yX5_pass cX5_pass 2 (some .int) 0 := ⟨mw_I_X5_pass, mw_S_X5_pass, mw_N_X5, mw_C_X5_pass, rfl, by decide +kernel, by decide +kernel, by decide +kernel⟩
theorem my_X5_days : mm_y RX5 yX5_days cX5_days 4 (some .int) 1 := ⟨mw_I_X5_days, mw_S_X5_days, mw_N_X5, mw_C_X5_days, rfl, by decide +kernel, by decide +kernel, by decide +kernel⟩
theorem my_X5_walk : mm_y RX5 yX5_walk cX5_walk 3 (some .int) 1 := ⟨mw_I_X5_walk, mw_S_X5_walk, mw_N_X5, mw_C_X5_walk, rfl, by decide +kernel, by decide +kernel, by decide +kernel⟩
theorem my_X5_know : mm_y RX5 yX5_know cX5_know 4 (none) 3 := ⟨mw_I_X5_know, mw_S_X5_know, mw_N_X5, mw_C_X5_know, rfl, by decide +kernel, by decide +kernel, by decide +kernel⟩
theorem my_X5_hear : mm_y RX5 yX5_hear cX5_hear 5 (some .int) 0 := ⟨mw_I_X5_hear, mw_S_X5_hear, mw_N_X5, mw_C_X5_hear, rfl, by decide +kernel, by decide +kernel, by decide +kernel⟩
theorem my_X5_tighten : mm_y RX5 yX5_tighten cX5_tighten 4 (some .int) 1 := ⟨mw_I_X5_tighten, mw_S_X5_tighten, mw_N_X5, mw_C_X5_tighten, rfl, by decide +kernel, by decide +kernel, by decide +kernel⟩
theorem my_X5_isSlack : mm_y RX5 yX5_isSlack cX5_isSlack 2 (some .boolean) 1 := ⟨mw_I_X5_isSlack, mw_S_X5_isSlack, mw_N_X5, mw_C_X5_isSlack, rfl, by decide +kernel, by decide +kernel, by decide +kernel⟩
theorem my_X5_isTight : mm_y RX5 yX5_isTight cX5_isTight 3 (some .boolean) 1 := ⟨mw_I_X5_isTight, mw_S_X5_isTight, mw_N_X5, mw_C_X5_isTight, rfl, by decide +kernel, by decide +kernel, by decide +kernel⟩
theorem my_X5_ofWire : mm_y RX5 yX5_ofWire cX5_ofWire 3 (some .int) 2 := ⟨mw_I_X5_ofWire, mw_S_X5_ofWire, mw_N_X5, mw_C_X5_ofWire, rfl, by decide +kernel, by decide +kernel, by decide +kernel⟩
theorem my_X5_isSurely : mm_y RX5 yX5_isSurely cX5_isSurely 2 (some .boolean) 1 := ⟨mw_I_X5_isSurely, mw_S_X5_isSurely, mw_N_X5, mw_C_X5_isSurely, rfl, by decide +kernel, by decide +kernel, by decide +kernel⟩
theorem my_X5_mayBe : mm_y RX5 yX5_mayBe cX5_mayBe 2 (some .boolean) 1 := ⟨mw_I_X5_mayBe, mw_S_X5_mayBe, mw_N_X5, mw_C_X5_mayBe, rfl, by decide +kernel, by decide +kernel, by decide +kernel⟩
theorem my_X5_known : mm_y RX5 yX5_known cX5_known 3 (some .int) 2 := ⟨mw_I_X5_known, mw_S_X5_known, mw_N_X5, mw_C_X5_known, rfl, by decide +kernel, by decide +kernel, by decide +kernel⟩
theorem my_X5_loads : mm_y RX5 yX5_loads cX5_loads 3 (some .int) 0 := ⟨mw_I_X5_loads, mw_S_X5_loads, mw_N_X5, mw_C_X5_loads, rfl, by decide +kernel, by decide +kernel, by decide +kernel⟩
theorem my_X5_wiresWith : mm_y RX5 yX5_wiresWith cX5_wiresWith 5 (some .int) 1 := ⟨mw_I_X5_wiresWith, mw_S_X5_wiresWith, mw_N_X5, mw_C_X5_wiresWith, rfl, by decide +kernel, by decide +kernel, by decide +kernel⟩
theorem my_X5_count : mm_y RX5 yX5_count cX5_count 2 (some .int) 1 := ⟨mw_I_X5_count, mw_S_X5_count, mw_N_X5, mw_C_X5_count, rfl, by decide +kernel, by decide +kernel, by decide +kernel⟩
theorem my_X5_pitchAt : mm_y RX5 yX5_pitchAt cX5_pitchAt 3 (some .int) 2 := ⟨mw_I_X5_pitchAt, mw_S_X5_pitchAt, mw_N_X5, mw_C_X5_pitchAt, rfl, by decide +kernel, by decide +kernel, by decide +kernel⟩
theorem my_X5_tensionFor : mm_y RX5 yX5_tensionFor cX5_tensionFor 5 (some .int) 2 := ⟨mw_I_X5_tensionFor, mw_S_X5_tensionFor, mw_N_X5, mw_C_X5_tensionFor, rfl, by decide +kernel, by decide +kernel, by decide +kernel⟩
theorem my_X5_fallen : mm_y RX5 yX5_fallen cX5_fallen 4 (some .int) 1 := ⟨mw_I_X5_fallen, mw_S_X5_fallen, mw_N_X5, mw_C_X5_fallen, rfl, by decide +kernel, by decide +kernel, by decide +kernel⟩
theorem my_X5_fallsWith : mm_y RX5 yX5_fallsWith cX5_fallsWith 2 (some .int) 1 := ⟨mw_I_X5_fallsWith, mw_S_X5_fallsWith, mw_N_X5, mw_C_X5_fallsWith, rfl, by decide +kernel, by decide +kernel, by decide +kernel⟩
theorem my_X5_mostAt : mm_y RX5 yX5_mostAt cX5_mostAt 4 (some .int) 1 := ⟨mw_I_X5_mostAt, mw_S_X5_mostAt, mw_N_X5, mw_C_X5_mostAt, rfl, by decide +kernel, by decide +kernel, by decide +kernel⟩
theorem my_X5_slackIn : mm_y RX5 yX5_slackIn cX5_slackIn 4 (some .int) 1 := ⟨mw_I_X5_slackIn, mw_S_X5_slackIn, mw_N_X5, mw_C_X5_slackIn, rfl, by decide +kernel, by decide +kernel, by decide +kernel⟩
theorem my_X5_round : mm_y RX5 yX5_round cX5_round 5 (some .int) 0 := ⟨mw_I_X5_round, mw_S_X5_round, mw_N_X5, mw_C_X5_round, rfl, by decide +kernel, by decide +kernel, by decide +kernel⟩
theorem my_X5_size : mm_ys yX5_size cX5_size 3 (some .int) 1 := ⟨mw_T_X5_size, mw_N_X5, mw_C_X5_size, by decide +kernel, by decide +kernel, by decide +kernel⟩
theorem my_X5_weakest : mm_y RX5 yX5_weakest cX5_weakest 6 (some .int) 1 := ⟨mw_I_X5_weakest, mw_S_X5_weakest, mw_N_X5, mw_C_X5_weakest, rfl, by decide +kernel, by decide +kernel, by decide +kernel⟩
theorem my_X5_sign : mm_y RX5 yX5_sign cX5_sign 1 (some .int) 0 := ⟨mw_I_X5_sign, mw_S_X5_sign, mw_N_X5, mw_C_X5_sign, rfl, by decide +kernel, by decide +kernel, by decide +kernel⟩
theorem my_X5_number : mm_y RX5 yX5_number cX5_number 2 (some .int) 0 := ⟨mw_I_X5_number, mw_S_X5_number, mw_N_X5, mw_C_X5_number, rfl, by decide +kernel, by decide +kernel, by decide +kernel⟩
theorem my_X5_readOne : mm_y RX5 yX5_readOne cX5_readOne 3 (none) 0 := ⟨mw_I_X5_readOne, mw_S_X5_readOne, mw_N_X5, mw_C_X5_readOne, rfl, by decide +kernel, by decide +kernel, by decide +kernel⟩
theorem my_X5_faultOf : mm_y RX5 yX5_faultOf cX5_faultOf 1 (some .int) 0 := ⟨mw_I_X5_faultOf, mw_S_X5_faultOf, mw_N_X5, mw_C_X5_faultOf, rfl, by decide +kernel, by decide +kernel, by decide +kernel⟩
theorem my_X5_put : mm_y RX5 yX5_put cX5_put 7 (some .int) 1 := ⟨mw_I_X5_put, mw_S_X5_put, mw_N_X5, mw_C_X5_put, rfl, by decide +kernel, by decide +kernel, by decide +kernel⟩
theorem my_X5_wipe : mm_y RX5 yX5_wipe cX5_wipe 2 (some .int) 0 := ⟨mw_I_X5_wipe, mw_S_X5_wipe, mw_N_X5, mw_C_X5_wipe, rfl, by decide +kernel, by decide +kernel, by decide +kernel⟩
theorem my_X5_fault : mm_y RX5 yX5_fault cX5_fault 1 (some .int) 0 := ⟨mw_I_X5_fault, mw_S_X5_fault, mw_N_X5, mw_C_X5_fault, rfl, by decide +kernel, by decide +kernel, by decide +kernel⟩
theorem my_X5_carry : mm_y RX5 yX5_carry cX5_carry 3 (some .int) 1 := ⟨mw_I_X5_carry, mw_S_X5_carry, mw_N_X5, mw_C_X5_carry, rfl, by decide +kernel, by decide +kernel, by decide +kernel⟩
theorem my_X5_carryOut : mm_y RX5 yX5_carryOut cX5_carryOut 4 (some .int) 0 := ⟨mw_I_X5_carryOut, mw_S_X5_carryOut, mw_N_X5, mw_C_X5_carryOut, rfl, by decide +kernel, by decide +kernel, by decide +kernel⟩
theorem my_X5_undo : mm_y RX5 yX5_undo cX5_undo 2 (some .int) 0 := ⟨mw_I_X5_undo, mw_S_X5_undo, mw_N_X5, mw_C_X5_undo, rfl, by decide +kernel, by decide +kernel, by decide +kernel⟩
theorem my_X5_save : mm_y RX5 yX5_save cX5_save 3 (some .int) 1 := ⟨mw_I_X5_save, mw_S_X5_save, mw_N_X5, mw_C_X5_save, rfl, by decide +kernel, by decide +kernel, by decide +kernel⟩
theorem my_X5_restore : mm_y RX5 yX5_restore cX5_restore 3 (some .int) 1 := ⟨mw_I_X5_restore, mw_S_X5_restore, mw_N_X5, mw_C_X5_restore, rfl, by decide +kernel, by decide +kernel, by decide +kernel⟩
theorem my_J6_bitCount_0f7a4 : mm_ys yJ6_bitCount_0f7a4 cJ6_bitCount_0f7a4 1 (some .int) 1 := ⟨mw_T_J6_bitCount_0f7a4, mw_N_J6, mw_C_J6_bitCount_0f7a4, by decide +kernel, by decide +kernel, by decide +kernel⟩
end
section
section VO
variable {l : Launch} {G : gG} {own : String} {cc : ByteArray} {nL : Nat} {rt : Option FieldType} {R : Room} {kc ns : Nat} {Xt : State → Prop} {A : State → Nat → Prop} {Qf : List Frame → Array Value → State → State → Prop} {S : Mem} {pc : Nat} {ls ls' : List (Nat × Value)} {st : List Value}
theorem vv_astore_nQ {kf : Fin 4} {i : Nat} {o : Option Nat} (hd : decode cc pc = .ok (.astore_n kf, 1)) (hi : (kf : Nat) = i) (hn : i < nL) (hl : (i, va_rf o) :: ls.filter (fun q => !(q.1 == i) && !(q.1 + 1 == i && q.2.category == 2)) = ls') (k : mm_V l G own cc nL rt R kc ns Xt A Qf S (pc + 1) ls' st) : mm_V l G own cc nL rt R kc ns Xt A Qf S pc ls (va_rf o :: st) := by
  cases o with
  | none => exact vv_astore_nN hd hi hn hl k
  | some a => exact vv_astore_n hd hi hn hl k
theorem vv_aload_nQ {kf : Fin 4} {i : Nat} {o : Option Nat} (q : Nat) (hd : decode cc pc = .ok (.aload_n kf, 1)) (hi : (kf : Nat) = i) (hl : ls[q]? = some (i, va_rf o)) (k : mm_V l G own cc nL rt R kc ns Xt A Qf S (pc + 1) ls (va_rf o :: st)) : mm_V l G own cc nL rt R kc ns Xt A Qf S pc ls st := by
  cases o with
  | none => exact vv_aload_nN q hd hi hl k
  | some a => exact vv_aload_n q hd hi hl k
end VO
theorem mm_rfcat (o : Option Nat) : (va_rf o).category = 1 := by cases o <;> rfl
theorem vr_qo {l : Launch} {G : gG} {own : String} {cc : ByteArray} {nL : Nat} {R : Room} {Xt : State → Prop} {S : Mem} {pc : Nat} {ls : List (Nat × Value)} {C : String} {P : Option Nat → Mem → Prop} {o : Option Nat} (hd : decode cc pc = .ok (.areturn, 1)) (h : P o S) : mm_V l G own cc nL (some (.object C)) R 0 0 Xt (fun _ => mm_F G) (mm_Qf G (mm_Qq G P)) S pc ls [va_rf o] := by
  cases o with
  | none => exact vr_qN hd h
  | some a => exact vr_q hd h
end
section
/-! THE NUMBERS OF BOTH SIDES: pure functions -/
def sp_in (x a b : Int32) : Int32 := if a ≤ x ∧ x ≤ b then 1 else 0
def sp_err (x : Int32) : Int32 := if x < 0 ∧ x ≠ -6 then 1 else 0
def sp_one (x : Int32) : Int32 := if x = 0 then 0 else 1
def sp_crept (t c : Int32) : Int32 := t - (t * c + 999) / 1000
def sp_wt (len mass : Int32) : Int64 := len.toInt64 * len.toInt64 * mass.toInt64
def sp_ls (p : Int64) (len mass : Int32) : Int64 := (p * p * sp_wt len mass + 1000000 - 1) / 1000000
/-- the greatest number p below 2^k over p0 with p * p * w at most m, by halving steps -/
def sp_pf (m w : Nat) : Nat → Nat → Nat
  | 0, p => p
  | k + 1, p => sp_pf m w k (if (p + 2 ^ k) * (p + 2 ^ k) * w ≤ m then p + 2 ^ k else p)
/-- the pitch -/
def sp_pt (len mass t : Int32) : Int32 := nI (sp_pf (t.toNatClampNeg * 1000000) (len.toNatClampNeg * len.toNatClampNeg * mass.toNatClampNeg) 15 0)
def sp_hi (p len mass : Int32) : Int32 := if 50000 < sp_ls (p + 1).toInt64 len mass - 1 then 50000 else (sp_ls (p + 1).toInt64 len mass - 1).toInt32
def mm_mk (S : Mem) (j : Nat) (a b c d e : Int32) : Mem := fun i => if i = j then (fun k => if k = 0 then a else if k = 1 then b else if k = 2 then c else if k = 3 then d else if k = 4 then e else if k = 5 then 0 else if k = 6 then 0 else if k = 7 then -6 else if k = 8 then -6 else if k = 9 then 0 else if k = 10 then 0 else if k = 11 then 0 else S j k) else S i
theorem mm_W_ne {b b' w w' : Nat} (hb : b ≠ b') (hw : w < 8) (hw' : w' < 8) : mm_W b w ≠ mm_W b' w' := by unfold mm_W; omega
theorem mm_W_ne2 {b w w' : Nat} (h : w ≠ w') : mm_W b w ≠ mm_W b w' := by unfold mm_W; omega
theorem mm_bool {x : Int32} (h : mm_ok .boolean x) : x = 0 ∨ x = 1 := by
  have h1 : narrow .boolean (.int x) = .int x := h.1
  have h2 : x &&& 1 = x := by
    have := h1
    simp only [narrow] at this
    exact Value.int.inj this
  obtain ⟨j, hj, e⟩ := pk_andE x (m := 1) 1 (by decide)
  rw [h2] at e
  rcases (by omega : j = 0 ∨ j = 1) with rfl | rfl
  · exact Or.inl e
  · exact Or.inr e
theorem mm_bW6 {S : Mem} (h : mm_okS S) (b : Nat) {w : Nat} (hw : w < 8) : S (mm_W b w) 6 = 0 ∨ S (mm_W b w) 6 = 1 := mm_bool (by have := h (mm_W b w) 6; rwa [mm_ty_W b w 6 hw] at this)
theorem mm_bW11 {S : Mem} (h : mm_okS S) (b : Nat) {w : Nat} (hw : w < 8) : S (mm_W b w) 11 = 0 ∨ S (mm_W b w) 11 = 1 := mm_bool (by have := h (mm_W b w) 11; rwa [mm_ty_W b w 11 hw] at this)
def sp_wSl (r : Nat → Int32) : Int32 := if r 6 = 0 ∧ r 4 < r 5 then 1 else 0
def sp_wTt (r : Nat → Int32) (sp : Int32) : Int32 := if r 6 = 0 ∧ 1000 < r 4 ∧ r 5 + r 5 * sp / 100 < r 4 then 1 else 0
def sp_wKn (r : Nat → Int32) : Int32 := if r 8 = -6 then 0 else 1
def sp_wSs (r : Nat → Int32) : Int32 := if r 8 ≠ -6 ∧ r 10 < r 5 then 1 else 0
def sp_wMs (r : Nat → Int32) : Int32 := if r 11 = 0 ∧ ¬ (r 8 ≠ -6 ∧ r 10 < r 5) ∧ (r 8 = -6 ∨ r 9 < r 5) then 1 else 0
/-- the ranges that the pitch needs -/
def sp_rg (len mass t : Int32) : Prop := 10 ≤ len.toInt ∧ len.toInt ≤ 200 ∧ 1 ≤ mass.toInt ∧ mass.toInt ≤ 20 ∧ 0 ≤ t.toInt ∧ t.toInt ≤ 50000
theorem sp_nI {x : Int32} (h : 0 ≤ x.toInt) : x = nI x.toNatClampNeg := by
  obtain ⟨j, hj, rfl⟩ := nI_of (x := x) (by rw [Int32.lt_iff_toInt_lt]; have h0 : (0 : Int32).toInt = 0 := (by decide); omega)
  rw [nI_clamp hj]
theorem sp_cl {x : Int32} (h : 0 ≤ x.toInt) : (x.toNatClampNeg : Int) = x.toInt := by
  show ((x.toInt.toNat : Nat) : Int) = x.toInt
  omega
theorem sp_toL {x : Int32} (h : 0 ≤ x.toInt) : x.toInt64 = lN x.toNatClampNeg := by
  have h1 := sp_nI h
  have h2 : x.toNatClampNeg < 2 ^ 31 := by
    have := x.toInt_lt
    have := sp_cl h
    omega
  rw [h1, nI_l h2, nI_clamp h2]
theorem sp_wtN {len mass : Int32} (h1 : 0 ≤ len.toInt) (h2 : 0 ≤ mass.toInt) : sp_wt len mass = lN (len.toNatClampNeg * len.toNatClampNeg * mass.toNatClampNeg) := by
  unfold sp_wt
  rw [sp_toL h1, sp_toL h2, lN_mul, lN_mul]
end
section
set_option maxRecDepth 100000 in
set_option maxHeartbeats 4000000 in
theorem c_X4_within (l : Launch) (G : gG) (S : Mem) (x a b : Int32) : mm_C l G yX4_within cX4_within 3 (some .boolean) (mm_rm 0 0) [.int x, .int a, .int b] S (mm_Qi G (fun r S2 => S2 = S ∧ r = sp_in x a b)) := by
  refine mm_ofV (own := RX4) (by decide +kernel) rfl (Nat.le_of_ble_eq_true rfl) (ls0 := [(0, .int x), (1, .int a), (2, .int b)]) rfl ?_
  refine vv_iload_n (pc := 0) 0 dX4_within_0 rfl rfl ?_
  refine vv_iload_n (pc := 1) 1 dX4_within_1 rfl rfl ?_
  refine vv_icmp_lt (pc := 2) (tgt := 14) dX4_within_2 (by decide) (fun c2 => ?_) (fun c2 => ?_)
  -- t@2 path t
  · refine vv_iconst (pc := 14) (v := 0) dX4_within_14 (by decide) ?_
    refine vr_z (pc := 15) dX4_within_15 (by first | exact Or.inl rfl | exact Or.inr rfl | assumption) ?_
    refine ⟨rfl, ?_⟩
    unfold sp_in
    split <;> first | rfl | (exfalso; simp only [Int32.lt_iff_toInt_lt, Int32.le_iff_toInt_le, ← Int32.toInt_inj, ne_eq] at *; omega)
  -- f@2 path f
  · refine vv_iload_n (pc := 5) 0 dX4_within_5 rfl rfl ?_
    refine vv_iload_n (pc := 6) 2 dX4_within_6 rfl rfl ?_
    refine vv_icmp_gt (pc := 7) (tgt := 14) dX4_within_7 (by decide) (fun c7 => ?_) (fun c7 => ?_)
    -- t@7 path ft
    · refine vv_iconst (pc := 14) (v := 0) dX4_within_14 (by decide) ?_
      refine vr_z (pc := 15) dX4_within_15 (by first | exact Or.inl rfl | exact Or.inr rfl | assumption) ?_
      refine ⟨rfl, ?_⟩
      unfold sp_in
      split <;> first | rfl | (exfalso; simp only [Int32.lt_iff_toInt_lt, Int32.le_iff_toInt_le, ← Int32.toInt_inj, ne_eq] at *; omega)
    -- f@7 path ff
    · refine vv_iconst (pc := 10) (v := 1) dX4_within_10 (by decide) ?_
      refine vv_goto (pc := 11) (tgt := 15) dX4_within_11 (by decide) ?_
      refine vr_z (pc := 15) dX4_within_15 (by first | exact Or.inl rfl | exact Or.inr rfl | assumption) ?_
      refine ⟨rfl, ?_⟩
      unfold sp_in
      split <;> first | rfl | (exfalso; simp only [Int32.lt_iff_toInt_lt, Int32.le_iff_toInt_le, ← Int32.toInt_inj, ne_eq] at *; omega)
set_option maxRecDepth 100000 in
set_option maxHeartbeats 4000000 in
theorem c_X4_isError (l : Launch) (G : gG) (S : Mem) (x : Int32) : mm_C l G yX4_isError cX4_isError 1 (some .boolean) (mm_rm 0 0) [.int x] S (mm_Qi G (fun r S2 => S2 = S ∧ r = sp_err x)) := by
  refine mm_ofV (own := RX4) (by decide +kernel) rfl (Nat.le_of_ble_eq_true rfl) (ls0 := [(0, .int x)]) rfl ?_
  refine vv_iload_n (pc := 0) 0 dX4_isError_0 rfl rfl ?_
  refine vv_if_ge (pc := 1) (tgt := 14) dX4_isError_1 (by decide) (fun c1 => ?_) (fun c1 => ?_)
  -- t@1 path t
  · refine vv_iconst (pc := 14) (v := 0) dX4_isError_14 (by decide) ?_
    refine vr_z (pc := 15) dX4_isError_15 (by first | exact Or.inl rfl | exact Or.inr rfl | assumption) ?_
    refine ⟨rfl, ?_⟩
    unfold sp_err
    split <;> first | rfl | (exfalso; simp only [Int32.lt_iff_toInt_lt, Int32.le_iff_toInt_le, ← Int32.toInt_inj, ne_eq] at *; omega)
  -- f@1 path f
  · refine vv_iload_n (pc := 4) 0 dX4_isError_4 rfl rfl ?_
    refine vv_bipush (pc := 5) (v := (-6)) dX4_isError_5 (by decide) ?_
    refine vv_icmp_eq (pc := 7) (tgt := 14) dX4_isError_7 (by decide) (fun c7 => ?_) (fun c7 => ?_)
    -- t@7 path ft
    · refine vv_iconst (pc := 14) (v := 0) dX4_isError_14 (by decide) ?_
      refine vr_z (pc := 15) dX4_isError_15 (by first | exact Or.inl rfl | exact Or.inr rfl | assumption) ?_
      refine ⟨rfl, ?_⟩
      unfold sp_err
      split <;> first | rfl | (exfalso; simp only [Int32.lt_iff_toInt_lt, Int32.le_iff_toInt_le, ← Int32.toInt_inj, ne_eq] at *; omega)
    -- f@7 path ff
    · refine vv_iconst (pc := 10) (v := 1) dX4_isError_10 (by decide) ?_
      refine vv_goto (pc := 11) (tgt := 15) dX4_isError_11 (by decide) ?_
      refine vr_z (pc := 15) dX4_isError_15 (by first | exact Or.inl rfl | exact Or.inr rfl | assumption) ?_
      refine ⟨rfl, ?_⟩
      unfold sp_err
      split <;> first | rfl | (exfalso; simp only [Int32.lt_iff_toInt_lt, Int32.le_iff_toInt_le, ← Int32.toInt_inj, ne_eq] at *; omega)
set_option maxRecDepth 100000 in
set_option maxHeartbeats 4000000 in
theorem c_X4_oneIf (l : Launch) (G : gG) (S : Mem) (x : Int32) : mm_C l G yX4_oneIf cX4_oneIf 1 (some .int) (mm_rm 0 0) [.int x] S (mm_Qi G (fun r S2 => S2 = S ∧ r = sp_one x)) := by
  refine mm_ofV (own := RX4) (by decide +kernel) rfl (Nat.le_of_ble_eq_true rfl) (ls0 := [(0, .int x)]) rfl ?_
  refine vv_iload_n (pc := 0) 0 dX4_oneIf_0 rfl rfl ?_
  refine vv_if_eq (pc := 1) (tgt := 8) dX4_oneIf_1 (by decide) (fun c1 => ?_) (fun c1 => ?_)
  -- t@1 path t
  · refine vv_iconst (pc := 8) (v := 0) dX4_oneIf_8 (by decide) ?_
    refine vr_i (pc := 9) dX4_oneIf_9 ?_
    exact ⟨rfl, by unfold sp_one; simp_all⟩
  -- f@1 path f
  · refine vv_iconst (pc := 4) (v := 1) dX4_oneIf_4 (by decide) ?_
    refine vv_goto (pc := 5) (tgt := 9) dX4_oneIf_5 (by decide) ?_
    refine vr_i (pc := 9) dX4_oneIf_9 ?_
    exact ⟨rfl, by unfold sp_one; simp_all⟩
set_option maxRecDepth 100000 in
set_option maxHeartbeats 4000000 in
theorem c_X4_crept (l : Launch) (G : gG) (S : Mem) (t c : Int32) : mm_C l G yX4_crept cX4_crept 2 (some .int) (mm_rm 0 0) [.int t, .int c] S (mm_Qi G (fun r S2 => S2 = S ∧ r = sp_crept t c)) := by
  refine mm_ofV (own := RX4) (by decide +kernel) rfl (Nat.le_of_ble_eq_true rfl) (ls0 := [(0, .int t), (1, .int c)]) rfl ?_
  refine vv_iload_n (pc := 0) 0 dX4_crept_0 rfl rfl ?_
  refine vv_iload_n (pc := 1) 0 dX4_crept_1 rfl rfl ?_
  refine vv_iload_n (pc := 2) 1 dX4_crept_2 rfl rfl ?_
  refine vv_imul (pc := 3) dX4_crept_3 ?_
  refine vv_sipush (pc := 4) (v := 999) dX4_crept_4 (by decide) ?_
  refine vv_iadd (pc := 7) dX4_crept_7 ?_
  refine vv_sipush (pc := 8) (v := 1000) dX4_crept_8 (by decide) ?_
  refine vv_idiv (pc := 11) dX4_crept_11 (by decide) ?_
  refine vv_isub (pc := 12) dX4_crept_12 ?_
  refine vr_i (pc := 13) dX4_crept_13 ?_
  exact ⟨rfl, rfl⟩
set_option maxRecDepth 100000 in
set_option maxHeartbeats 4000000 in
theorem c_X3_weight (l : Launch) (G : gG) {b w : Nat} (hb : b < 11) (hw : w < 8) (S : Mem) : mm_C l G yX3_weight cX3_weight 1 (some .long) (mm_rm 0 0) [.ref (gad G (mm_W b w))] S (mm_Ql G (fun r S2 => S2 = S ∧ r = sp_wt (S (mm_W b w) 1) (S (mm_W b w) 2))) := by
  refine mm_ofV (own := RX3) (by decide +kernel) rfl (Nat.le_of_ble_eq_true rfl) (ls0 := [(0, .ref (gad G (mm_W b w)))]) rfl ?_
  refine vv_aload_n (pc := 0) 0 dX3_weight_0 rfl rfl ?_
  refine vg_X3_length (pc := 1) (by assumption) (by assumption) mw_F_X3_15 dX3_weight_1 ?_
  refine vv_i2l (pc := 4) dX3_weight_4 ?_
  refine vv_aload_n (pc := 5) 0 dX3_weight_5 rfl rfl ?_
  refine vg_X3_length (pc := 6) (by assumption) (by assumption) mw_F_X3_15 dX3_weight_6 ?_
  refine vv_i2l (pc := 9) dX3_weight_9 ?_
  refine vv_lmul (pc := 10) dX3_weight_10 ?_
  refine vv_aload_n (pc := 11) 0 dX3_weight_11 rfl rfl ?_
  refine vg_X3_mass (pc := 12) (by assumption) (by assumption) mw_F_X3_18 dX3_weight_12 ?_
  refine vv_i2l (pc := 15) dX3_weight_15 ?_
  refine vv_lmul (pc := 16) dX3_weight_16 ?_
  refine vr_l (pc := 17) dX3_weight_17 ?_
  exact ⟨rfl, rfl⟩
set_option maxRecDepth 100000 in
set_option maxHeartbeats 4000000 in
theorem c_X3_snap (l : Launch) (G : gG) {b w : Nat} (hb : b < 11) (hw : w < 8) (S : Mem) (x1 : Int32) : mm_C l G yX3_snap cX3_snap 2 (none) (mm_rm 0 0) [.ref (gad G (mm_W b w)), .int x1] S (mm_Qv G (fun S2 => S2 = mm_wr (mm_wr (mm_wr S (mm_W b w) 6 1) (mm_W b w) 7 x1) (mm_W b w) 4 0)) := by
  refine mm_ofV (own := RX3) (by decide +kernel) rfl (Nat.le_of_ble_eq_true rfl) (ls0 := [(0, .ref (gad G (mm_W b w))), (1, .int x1)]) rfl ?_
  refine vv_aload_n (pc := 0) 0 dX3_snap_0 rfl rfl ?_
  refine vv_iconst (pc := 1) (v := 1) dX3_snap_1 (by decide) ?_
  refine vp_X3_broken (pc := 2) (by assumption) (by assumption) (by first | exact Or.inl rfl | exact Or.inr rfl | assumption) mw_F_X3_30 dX3_snap_2 ?_
  refine vv_aload_n (pc := 5) 0 dX3_snap_5 rfl rfl ?_
  refine vv_iload_n (pc := 6) 1 dX3_snap_6 rfl rfl ?_
  refine vp_X3_brokeOn (pc := 7) (by assumption) (by assumption) mw_F_X3_34 dX3_snap_7 ?_
  refine vv_aload_n (pc := 10) 0 dX3_snap_10 rfl rfl ?_
  refine vv_iconst (pc := 11) (v := 0) dX3_snap_11 (by decide) ?_
  refine vp_X3_tension (pc := 12) (by assumption) (by assumption) mw_F_X3_24 dX3_snap_12 ?_
  refine vr_v (pc := 15) dX3_snap_15 ?_
  rfl
set_option maxRecDepth 100000 in
set_option maxHeartbeats 4000000 in
theorem c_X3_pull (l : Launch) (G : gG) {b w : Nat} (hb : b < 11) (hw : w < 8) (S : Mem) (x1 x2 : Int32) : mm_C l G yX3_pull cX3_pull 3 (none) (mm_rm 0 0) [.ref (gad G (mm_W b w)), .int x1, .int x2] S (mm_Qv G (fun S2 => S2 = mm_wr (mm_wr (mm_wr (mm_wr S (mm_W b w) 4 x1) (mm_W b w) 9 x1) (mm_W b w) 10 x1) (mm_W b w) 8 x2)) := by
  refine mm_ofV (own := RX3) (by decide +kernel) rfl (Nat.le_of_ble_eq_true rfl) (ls0 := [(0, .ref (gad G (mm_W b w))), (1, .int x1), (2, .int x2)]) rfl ?_
  refine vv_aload_n (pc := 0) 0 dX3_pull_0 rfl rfl ?_
  refine vv_iload_n (pc := 1) 1 dX3_pull_1 rfl rfl ?_
  refine vp_X3_tension (pc := 2) (by assumption) (by assumption) mw_F_X3_24 dX3_pull_2 ?_
  refine vv_aload_n (pc := 5) 0 dX3_pull_5 rfl rfl ?_
  refine vv_iload_n (pc := 6) 1 dX3_pull_6 rfl rfl ?_
  refine vp_X3_low (pc := 7) (by assumption) (by assumption) mw_F_X3_40 dX3_pull_7 ?_
  refine vv_aload_n (pc := 10) 0 dX3_pull_10 rfl rfl ?_
  refine vv_iload_n (pc := 11) 1 dX3_pull_11 rfl rfl ?_
  refine vp_X3_high (pc := 12) (by assumption) (by assumption) mw_F_X3_43 dX3_pull_12 ?_
  refine vv_aload_n (pc := 15) 0 dX3_pull_15 rfl rfl ?_
  refine vv_iload_n (pc := 16) 2 dX3_pull_16 rfl rfl ?_
  refine vp_X3_heardOn (pc := 17) (by assumption) (by assumption) mw_F_X3_37 dX3_pull_17 ?_
  refine vr_v (pc := 20) dX3_pull_20 ?_
  rfl
set_option maxRecDepth 100000 in
set_option maxHeartbeats 4000000 in
theorem c_X3_isKnown (l : Launch) (G : gG) {b w : Nat} (hb : b < 11) (hw : w < 8) (S : Mem) : mm_C l G yX3_isKnown cX3_isKnown 1 (some .boolean) (mm_rm 0 0) [.ref (gad G (mm_W b w))] S (mm_Qi G (fun r S2 => S2 = S ∧ r = sp_wKn (S (mm_W b w)))) := by
  refine mm_ofV (own := RX3) (by decide +kernel) rfl (Nat.le_of_ble_eq_true rfl) (ls0 := [(0, .ref (gad G (mm_W b w)))]) rfl ?_
  refine vv_aload_n (pc := 0) 0 dX3_isKnown_0 rfl rfl ?_
  refine vg_X3_heardOn (pc := 1) (by assumption) (by assumption) mw_F_X3_37 dX3_isKnown_1 ?_
  refine vv_bipush (pc := 4) (v := (-6)) dX3_isKnown_4 (by decide) ?_
  refine vv_icmp_eq (pc := 6) (tgt := 13) dX3_isKnown_6 (by decide) (fun c6 => ?_) (fun c6 => ?_)
  -- t@6 path t
  · refine vv_iconst (pc := 13) (v := 0) dX3_isKnown_13 (by decide) ?_
    refine vr_z (pc := 14) dX3_isKnown_14 (by first | exact Or.inl rfl | exact Or.inr rfl | assumption) ?_
    refine ⟨rfl, ?_⟩
    unfold sp_wKn
    split <;> first | rfl | (exfalso; simp_all; done) | (exfalso; simp only [Int32.lt_iff_toInt_lt, Int32.le_iff_toInt_le, ← Int32.toInt_inj, ne_eq] at *; omega)
  -- f@6 path f
  · refine vv_iconst (pc := 9) (v := 1) dX3_isKnown_9 (by decide) ?_
    refine vv_goto (pc := 10) (tgt := 14) dX3_isKnown_10 (by decide) ?_
    refine vr_z (pc := 14) dX3_isKnown_14 (by first | exact Or.inl rfl | exact Or.inr rfl | assumption) ?_
    refine ⟨rfl, ?_⟩
    unfold sp_wKn
    split <;> first | rfl | (exfalso; simp_all; done) | (exfalso; simp only [Int32.lt_iff_toInt_lt, Int32.le_iff_toInt_le, ← Int32.toInt_inj, ne_eq] at *; omega)
set_option maxRecDepth 100000 in
set_option maxHeartbeats 4000000 in
theorem c_X3_isSlack (l : Launch) (G : gG) {b w : Nat} (hb : b < 11) (hw : w < 8) (S : Mem) : mm_C l G yX3_isSlack cX3_isSlack 1 (some .boolean) (mm_rm 0 0) [.ref (gad G (mm_W b w))] S (mm_Qi G (fun r S2 => S2 = S ∧ r = sp_wSl (S (mm_W b w)))) := by
  refine mm_ofV (own := RX3) (by decide +kernel) rfl (Nat.le_of_ble_eq_true rfl) (ls0 := [(0, .ref (gad G (mm_W b w)))]) rfl ?_
  refine vv_aload_n (pc := 0) 0 dX3_isSlack_0 rfl rfl ?_
  refine vg_X3_broken (pc := 1) (by assumption) (by assumption) mw_F_X3_30 dX3_isSlack_1 ?_
  refine vv_if_ne (pc := 4) (tgt := 22) dX3_isSlack_4 (by decide) (fun c4 => ?_) (fun c4 => ?_)
  -- t@4 path t
  · refine vv_iconst (pc := 22) (v := 0) dX3_isSlack_22 (by decide) ?_
    refine vr_z (pc := 23) dX3_isSlack_23 (by first | exact Or.inl rfl | exact Or.inr rfl | assumption) ?_
    refine ⟨rfl, ?_⟩
    unfold sp_wSl
    split <;> first | rfl | (exfalso; simp_all; done) | (exfalso; simp only [Int32.lt_iff_toInt_lt, Int32.le_iff_toInt_le, ← Int32.toInt_inj, ne_eq] at *; omega)
  -- f@4 path f
  · refine vv_aload_n (pc := 7) 0 dX3_isSlack_7 rfl rfl ?_
    refine vg_X3_tension (pc := 8) (by assumption) (by assumption) mw_F_X3_24 dX3_isSlack_8 ?_
    refine vv_aload_n (pc := 11) 0 dX3_isSlack_11 rfl rfl ?_
    refine vg_X3_task (pc := 12) (by assumption) (by assumption) mw_F_X3_27 dX3_isSlack_12 ?_
    refine vv_icmp_ge (pc := 15) (tgt := 22) dX3_isSlack_15 (by decide) (fun c15 => ?_) (fun c15 => ?_)
    -- t@15 path ft
    · refine vv_iconst (pc := 22) (v := 0) dX3_isSlack_22 (by decide) ?_
      refine vr_z (pc := 23) dX3_isSlack_23 (by first | exact Or.inl rfl | exact Or.inr rfl | assumption) ?_
      refine ⟨rfl, ?_⟩
      unfold sp_wSl
      split <;> first | rfl | (exfalso; simp_all; done) | (exfalso; simp only [Int32.lt_iff_toInt_lt, Int32.le_iff_toInt_le, ← Int32.toInt_inj, ne_eq] at *; omega)
    -- f@15 path ff
    · refine vv_iconst (pc := 18) (v := 1) dX3_isSlack_18 (by decide) ?_
      refine vv_goto (pc := 19) (tgt := 23) dX3_isSlack_19 (by decide) ?_
      refine vr_z (pc := 23) dX3_isSlack_23 (by first | exact Or.inl rfl | exact Or.inr rfl | assumption) ?_
      refine ⟨rfl, ?_⟩
      unfold sp_wSl
      split <;> first | rfl | (exfalso; simp_all; done) | (exfalso; simp only [Int32.lt_iff_toInt_lt, Int32.le_iff_toInt_le, ← Int32.toInt_inj, ne_eq] at *; omega)
set_option maxRecDepth 100000 in
set_option maxHeartbeats 4000000 in
theorem c_X3_leastTension (l : Launch) (G : gG) {b w : Nat} (hb : b < 11) (hw : w < 8) (S : Mem) (x1 : Int64) : mm_C l G yX3_leastTension cX3_leastTension 3 (some .long) (mm_rm 1 20) [.ref (gad G (mm_W b w)), .long x1] S (mm_Ql G (fun r S2 => S2 = S ∧ r = sp_ls x1 (S (mm_W b w) 1) (S (mm_W b w) 2))) := by
  refine mm_ofV (own := RX3) (by decide +kernel) rfl (Nat.le_of_ble_eq_true rfl) (ls0 := [(0, .ref (gad G (mm_W b w))), (1, .long x1)]) rfl ?_
  refine vv_lload_n (pc := 0) 1 dX3_leastTension_0 rfl rfl ?_
  refine vv_lload_n (pc := 1) 1 dX3_leastTension_1 rfl rfl ?_
  refine vv_lmul (pc := 2) dX3_leastTension_2 ?_
  refine vv_aload_n (pc := 3) 0 dX3_leastTension_3 rfl rfl ?_
  refine vc_Vl (pc := 4) (c_X3_weight l G (by assumption) (by assumption) _) mw_M_X3_51 my_X3_weight (mm_rv_W (by assumption) (by assumption)) ⟨by decide, by decide⟩ rfl rfl (Nat.le_of_ble_eq_true rfl) dX3_leastTension_4 (fun r4 S4 h4 => ?_)
  obtain ⟨qS4, h4⟩ := h4
  replace qS4 := qS4.symm
  subst qS4
  subst h4
  refine vv_lmul (pc := 7) dX3_leastTension_7 ?_
  refine vv_ldc2 (pc := 8) mw_L_X3_49 dX3_leastTension_8 ?_
  refine vv_ladd (pc := 11) dX3_leastTension_11 ?_
  refine vv_lconst (pc := 12) (v := 1) dX3_leastTension_12 (by decide) ?_
  refine vv_lsub (pc := 13) dX3_leastTension_13 ?_
  refine vv_ldc2 (pc := 14) mw_L_X3_49 dX3_leastTension_14 ?_
  refine vv_ldiv (pc := 17) dX3_leastTension_17 (by decide) ?_
  refine vr_l (pc := 18) dX3_leastTension_18 ?_
  exact ⟨rfl, rfl⟩
set_option maxRecDepth 100000 in
set_option maxHeartbeats 4000000 in
theorem c_X3_isTooTight (l : Launch) (G : gG) {b w : Nat} (hb : b < 11) (hw : w < 8) (S : Mem) (x1 : Int32) : mm_C l G yX3_isTooTight cX3_isTooTight 2 (some .boolean) (mm_rm 0 0) [.ref (gad G (mm_W b w)), .int x1] S (mm_Qi G (fun r S2 => S2 = S ∧ r = sp_wTt (S (mm_W b w)) x1)) := by
  refine mm_ofV (own := RX3) (by decide +kernel) rfl (Nat.le_of_ble_eq_true rfl) (ls0 := [(0, .ref (gad G (mm_W b w))), (1, .int x1)]) rfl ?_
  refine vv_aload_n (pc := 0) 0 dX3_isTooTight_0 rfl rfl ?_
  refine vg_X3_broken (pc := 1) (by assumption) (by assumption) mw_F_X3_30 dX3_isTooTight_1 ?_
  refine vv_if_ne (pc := 4) (tgt := 42) dX3_isTooTight_4 (by decide) (fun c4 => ?_) (fun c4 => ?_)
  -- t@4 path t
  · refine vv_iconst (pc := 42) (v := 0) dX3_isTooTight_42 (by decide) ?_
    refine vr_z (pc := 43) dX3_isTooTight_43 (by first | exact Or.inl rfl | exact Or.inr rfl | assumption) ?_
    refine ⟨rfl, ?_⟩
    unfold sp_wTt
    split <;> first | rfl | (exfalso; simp_all; done) | (exfalso; simp only [Int32.lt_iff_toInt_lt, Int32.le_iff_toInt_le, ← Int32.toInt_inj, ne_eq] at *; omega)
  -- f@4 path f
  · refine vv_aload_n (pc := 7) 0 dX3_isTooTight_7 rfl rfl ?_
    refine vg_X3_tension (pc := 8) (by assumption) (by assumption) mw_F_X3_24 dX3_isTooTight_8 ?_
    refine vv_sipush (pc := 11) (v := 1000) dX3_isTooTight_11 (by decide) ?_
    refine vv_icmp_le (pc := 14) (tgt := 42) dX3_isTooTight_14 (by decide) (fun c14 => ?_) (fun c14 => ?_)
    -- t@14 path ft
    · refine vv_iconst (pc := 42) (v := 0) dX3_isTooTight_42 (by decide) ?_
      refine vr_z (pc := 43) dX3_isTooTight_43 (by first | exact Or.inl rfl | exact Or.inr rfl | assumption) ?_
      refine ⟨rfl, ?_⟩
      unfold sp_wTt
      split <;> first | rfl | (exfalso; simp_all; done) | (exfalso; simp only [Int32.lt_iff_toInt_lt, Int32.le_iff_toInt_le, ← Int32.toInt_inj, ne_eq] at *; omega)
    -- f@14 path ff
    · refine vv_aload_n (pc := 17) 0 dX3_isTooTight_17 rfl rfl ?_
      refine vg_X3_tension (pc := 18) (by assumption) (by assumption) mw_F_X3_24 dX3_isTooTight_18 ?_
      refine vv_aload_n (pc := 21) 0 dX3_isTooTight_21 rfl rfl ?_
      refine vg_X3_task (pc := 22) (by assumption) (by assumption) mw_F_X3_27 dX3_isTooTight_22 ?_
      refine vv_aload_n (pc := 25) 0 dX3_isTooTight_25 rfl rfl ?_
      refine vg_X3_task (pc := 26) (by assumption) (by assumption) mw_F_X3_27 dX3_isTooTight_26 ?_
      refine vv_iload_n (pc := 29) 1 dX3_isTooTight_29 rfl rfl ?_
      refine vv_imul (pc := 30) dX3_isTooTight_30 ?_
      refine vv_bipush (pc := 31) (v := 100) dX3_isTooTight_31 (by decide) ?_
      refine vv_idiv (pc := 33) dX3_isTooTight_33 (by decide) ?_
      refine vv_iadd (pc := 34) dX3_isTooTight_34 ?_
      refine vv_icmp_le (pc := 35) (tgt := 42) dX3_isTooTight_35 (by decide) (fun c35 => ?_) (fun c35 => ?_)
      -- t@35 path fft
      · refine vv_iconst (pc := 42) (v := 0) dX3_isTooTight_42 (by decide) ?_
        refine vr_z (pc := 43) dX3_isTooTight_43 (by first | exact Or.inl rfl | exact Or.inr rfl | assumption) ?_
        refine ⟨rfl, ?_⟩
        unfold sp_wTt
        split <;> first | rfl | (exfalso; simp_all; done) | (exfalso; simp only [Int32.lt_iff_toInt_lt, Int32.le_iff_toInt_le, ← Int32.toInt_inj, ne_eq] at *; omega)
      -- f@35 path fff
      · refine vv_iconst (pc := 38) (v := 1) dX3_isTooTight_38 (by decide) ?_
        refine vv_goto (pc := 39) (tgt := 43) dX3_isTooTight_39 (by decide) ?_
        refine vr_z (pc := 43) dX3_isTooTight_43 (by first | exact Or.inl rfl | exact Or.inr rfl | assumption) ?_
        refine ⟨rfl, ?_⟩
        unfold sp_wTt
        split <;> first | rfl | (exfalso; simp_all; done) | (exfalso; simp only [Int32.lt_iff_toInt_lt, Int32.le_iff_toInt_le, ← Int32.toInt_inj, ne_eq] at *; omega)
set_option maxRecDepth 100000 in
set_option maxHeartbeats 4000000 in
theorem c_X3_isSurelySlack (l : Launch) (G : gG) {b w : Nat} (hb : b < 11) (hw : w < 8) (S : Mem) : mm_C l G yX3_isSurelySlack cX3_isSurelySlack 1 (some .boolean) (mm_rm 1 20) [.ref (gad G (mm_W b w))] S (mm_Qi G (fun r S2 => S2 = S ∧ r = sp_wSs (S (mm_W b w)))) := by
  refine mm_ofV (own := RX3) (by decide +kernel) rfl (Nat.le_of_ble_eq_true rfl) (ls0 := [(0, .ref (gad G (mm_W b w)))]) rfl ?_
  refine vv_aload_n (pc := 0) 0 dX3_isSurelySlack_0 rfl rfl ?_
  refine vc_Vi (pc := 1) (c_X3_isKnown l G (by assumption) (by assumption) _) mw_M_X3_79 my_X3_isKnown (mm_rv_W (by assumption) (by assumption)) ⟨by decide, by decide⟩ rfl rfl (Nat.le_of_ble_eq_true rfl) dX3_isSurelySlack_1 (fun r1 S1 h1 => ?_)
  obtain ⟨qS1, h1⟩ := h1
  replace qS1 := qS1.symm
  subst qS1
  refine vv_if_eq (pc := 4) (tgt := 22) dX3_isSurelySlack_4 (by decide) (fun c4 => ?_) (fun c4 => ?_)
  -- t@4 path t
  · refine vv_iconst (pc := 22) (v := 0) dX3_isSurelySlack_22 (by decide) ?_
    refine vr_z (pc := 23) dX3_isSurelySlack_23 (by first | exact Or.inl rfl | exact Or.inr rfl | assumption) ?_
    unfold sp_wKn at h1
    refine ⟨rfl, ?_⟩
    unfold sp_wSs
    split <;> first | rfl | (exfalso; simp_all; done) | (exfalso; simp only [Int32.lt_iff_toInt_lt, Int32.le_iff_toInt_le, ← Int32.toInt_inj, ne_eq] at *; omega)
  -- f@4 path f
  · refine vv_aload_n (pc := 7) 0 dX3_isSurelySlack_7 rfl rfl ?_
    refine vg_X3_high (pc := 8) (by assumption) (by assumption) mw_F_X3_43 dX3_isSurelySlack_8 ?_
    refine vv_aload_n (pc := 11) 0 dX3_isSurelySlack_11 rfl rfl ?_
    refine vg_X3_task (pc := 12) (by assumption) (by assumption) mw_F_X3_27 dX3_isSurelySlack_12 ?_
    refine vv_icmp_ge (pc := 15) (tgt := 22) dX3_isSurelySlack_15 (by decide) (fun c15 => ?_) (fun c15 => ?_)
    -- t@15 path ft
    · refine vv_iconst (pc := 22) (v := 0) dX3_isSurelySlack_22 (by decide) ?_
      refine vr_z (pc := 23) dX3_isSurelySlack_23 (by first | exact Or.inl rfl | exact Or.inr rfl | assumption) ?_
      unfold sp_wKn at h1
      refine ⟨rfl, ?_⟩
      unfold sp_wSs
      split <;> first | rfl | (exfalso; simp_all; done) | (exfalso; simp only [Int32.lt_iff_toInt_lt, Int32.le_iff_toInt_le, ← Int32.toInt_inj, ne_eq] at *; omega)
    -- f@15 path ff
    · refine vv_iconst (pc := 18) (v := 1) dX3_isSurelySlack_18 (by decide) ?_
      refine vv_goto (pc := 19) (tgt := 23) dX3_isSurelySlack_19 (by decide) ?_
      refine vr_z (pc := 23) dX3_isSurelySlack_23 (by first | exact Or.inl rfl | exact Or.inr rfl | assumption) ?_
      unfold sp_wKn at h1
      refine ⟨rfl, ?_⟩
      unfold sp_wSs
      split <;> first | rfl | (exfalso; simp_all; done) | (exfalso; simp only [Int32.lt_iff_toInt_lt, Int32.le_iff_toInt_le, ← Int32.toInt_inj, ne_eq] at *; omega)
set_option maxRecDepth 100000 in
set_option maxHeartbeats 4000000 in
theorem c_X3_maybeSlack (l : Launch) (G : gG) {b w : Nat} (hb : b < 11) (hw : w < 8) (S : Mem) : mm_C l G yX3_maybeSlack cX3_maybeSlack 1 (some .boolean) (mm_rm 2 40) [.ref (gad G (mm_W b w))] S (mm_Qi G (fun r S2 => S2 = S ∧ r = sp_wMs (S (mm_W b w)))) := by
  refine mm_ofV (own := RX3) (by decide +kernel) rfl (Nat.le_of_ble_eq_true rfl) (ls0 := [(0, .ref (gad G (mm_W b w)))]) rfl ?_
  refine vv_aload_n (pc := 0) 0 dX3_maybeSlack_0 rfl rfl ?_
  refine vg_X3_heardBroken (pc := 1) (by assumption) (by assumption) mw_F_X3_46 dX3_maybeSlack_1 ?_
  refine vv_if_ne (pc := 4) (tgt := 36) dX3_maybeSlack_4 (by decide) (fun c4 => ?_) (fun c4 => ?_)
  -- t@4 path t
  · refine vv_iconst (pc := 36) (v := 0) dX3_maybeSlack_36 (by decide) ?_
    refine vr_z (pc := 37) dX3_maybeSlack_37 (by first | exact Or.inl rfl | exact Or.inr rfl | assumption) ?_
    try unfold sp_wSs at h8
    try unfold sp_wKn at h15
    refine ⟨rfl, ?_⟩
    unfold sp_wMs
    try simp only [← Int32.not_lt] at *
    by_cases g1 : S (mm_W b w) 8 = -6 <;> by_cases g2 : S (mm_W b w) 10 < S (mm_W b w) 5 <;> by_cases g3 : S (mm_W b w) 9 < S (mm_W b w) 5 <;> simp_all
  -- f@4 path f
  · refine vv_aload_n (pc := 7) 0 dX3_maybeSlack_7 rfl rfl ?_
    refine vc_Vi (pc := 8) (c_X3_isSurelySlack l G (by assumption) (by assumption) _) mw_M_X3_83 my_X3_isSurelySlack (mm_rv_W (by assumption) (by assumption)) ⟨by decide, by decide⟩ rfl rfl (Nat.le_of_ble_eq_true rfl) dX3_maybeSlack_8 (fun r8 S8 h8 => ?_)
    obtain ⟨qS8, h8⟩ := h8
    replace qS8 := qS8.symm
    subst qS8
    refine vv_if_ne (pc := 11) (tgt := 36) dX3_maybeSlack_11 (by decide) (fun c11 => ?_) (fun c11 => ?_)
    -- t@11 path ft
    · refine vv_iconst (pc := 36) (v := 0) dX3_maybeSlack_36 (by decide) ?_
      refine vr_z (pc := 37) dX3_maybeSlack_37 (by first | exact Or.inl rfl | exact Or.inr rfl | assumption) ?_
      try unfold sp_wSs at h8
      try unfold sp_wKn at h15
      refine ⟨rfl, ?_⟩
      unfold sp_wMs
      try simp only [← Int32.not_lt] at *
      by_cases g1 : S (mm_W b w) 8 = -6 <;> by_cases g2 : S (mm_W b w) 10 < S (mm_W b w) 5 <;> by_cases g3 : S (mm_W b w) 9 < S (mm_W b w) 5 <;> simp_all
    -- f@11 path ff
    · refine vv_aload_n (pc := 14) 0 dX3_maybeSlack_14 rfl rfl ?_
      refine vc_Vi (pc := 15) (c_X3_isKnown l G (by assumption) (by assumption) _) mw_M_X3_79 my_X3_isKnown (mm_rv_W (by assumption) (by assumption)) ⟨by decide, by decide⟩ rfl rfl (Nat.le_of_ble_eq_true rfl) dX3_maybeSlack_15 (fun r15 S15 h15 => ?_)
      obtain ⟨qS15, h15⟩ := h15
      replace qS15 := qS15.symm
      subst qS15
      refine vv_if_eq (pc := 18) (tgt := 32) dX3_maybeSlack_18 (by decide) (fun c18 => ?_) (fun c18 => ?_)
      -- t@18 path fft
      · refine vv_iconst (pc := 32) (v := 1) dX3_maybeSlack_32 (by decide) ?_
        refine vv_goto (pc := 33) (tgt := 37) dX3_maybeSlack_33 (by decide) ?_
        refine vr_z (pc := 37) dX3_maybeSlack_37 (by first | exact Or.inl rfl | exact Or.inr rfl | assumption) ?_
        try unfold sp_wSs at h8
        try unfold sp_wKn at h15
        refine ⟨rfl, ?_⟩
        unfold sp_wMs
        try simp only [← Int32.not_lt] at *
        by_cases g1 : S (mm_W b w) 8 = -6 <;> by_cases g2 : S (mm_W b w) 10 < S (mm_W b w) 5 <;> by_cases g3 : S (mm_W b w) 9 < S (mm_W b w) 5 <;> simp_all
      -- f@18 path fff
      · refine vv_aload_n (pc := 21) 0 dX3_maybeSlack_21 rfl rfl ?_
        refine vg_X3_low (pc := 22) (by assumption) (by assumption) mw_F_X3_40 dX3_maybeSlack_22 ?_
        refine vv_aload_n (pc := 25) 0 dX3_maybeSlack_25 rfl rfl ?_
        refine vg_X3_task (pc := 26) (by assumption) (by assumption) mw_F_X3_27 dX3_maybeSlack_26 ?_
        refine vv_icmp_ge (pc := 29) (tgt := 36) dX3_maybeSlack_29 (by decide) (fun c29 => ?_) (fun c29 => ?_)
        -- t@29 path ffft
        · refine vv_iconst (pc := 36) (v := 0) dX3_maybeSlack_36 (by decide) ?_
          refine vr_z (pc := 37) dX3_maybeSlack_37 (by first | exact Or.inl rfl | exact Or.inr rfl | assumption) ?_
          try unfold sp_wSs at h8
          try unfold sp_wKn at h15
          refine ⟨rfl, ?_⟩
          unfold sp_wMs
          try simp only [← Int32.not_lt] at *
          by_cases g1 : S (mm_W b w) 8 = -6 <;> by_cases g2 : S (mm_W b w) 10 < S (mm_W b w) 5 <;> by_cases g3 : S (mm_W b w) 9 < S (mm_W b w) 5 <;> simp_all
        -- f@29 path ffff
        · refine vv_iconst (pc := 32) (v := 1) dX3_maybeSlack_32 (by decide) ?_
          refine vv_goto (pc := 33) (tgt := 37) dX3_maybeSlack_33 (by decide) ?_
          refine vr_z (pc := 37) dX3_maybeSlack_37 (by first | exact Or.inl rfl | exact Or.inr rfl | assumption) ?_
          try unfold sp_wSs at h8
          try unfold sp_wKn at h15
          refine ⟨rfl, ?_⟩
          unfold sp_wMs
          try simp only [← Int32.not_lt] at *
          by_cases g1 : S (mm_W b w) 8 = -6 <;> by_cases g2 : S (mm_W b w) 10 < S (mm_W b w) 5 <;> by_cases g3 : S (mm_W b w) 9 < S (mm_W b w) 5 <;> simp_all
set_option maxRecDepth 100000 in
set_option maxHeartbeats 4000000 in
theorem c_X3_makeNew (l : Launch) (G : gG) {b w : Nat} (hb : b < 11) (hw : w < 8) (S : Mem) (x1 x2 x3 x4 x5 : Int32) : mm_C l G yX3_makeNew cX3_makeNew 6 (none) (mm_rm 0 0) [.ref (gad G (mm_W b w)), .int x1, .int x2, .int x3, .int x4, .int x5] S (mm_Qv G (fun S2 => S2 = mm_mk S (mm_W b w) x1 x2 x3 x4 x5)) := by
  refine mm_ofV (own := RX3) (by decide +kernel) rfl (Nat.le_of_ble_eq_true rfl) (ls0 := [(0, .ref (gad G (mm_W b w))), (1, .int x1), (2, .int x2), (3, .int x3), (4, .int x4), (5, .int x5)]) rfl ?_
  refine vv_aload_n (pc := 0) 0 dX3_makeNew_0 rfl rfl ?_
  refine vv_iload_n (pc := 1) 1 dX3_makeNew_1 rfl rfl ?_
  refine vp_X3_place (pc := 2) (by assumption) (by assumption) mw_F_X3_9 dX3_makeNew_2 ?_
  refine vv_aload_n (pc := 5) 0 dX3_makeNew_5 rfl rfl ?_
  refine vv_iload_n (pc := 6) 2 dX3_makeNew_6 rfl rfl ?_
  refine vp_X3_length (pc := 7) (by assumption) (by assumption) mw_F_X3_15 dX3_makeNew_7 ?_
  refine vv_aload_n (pc := 10) 0 dX3_makeNew_10 rfl rfl ?_
  refine vv_iload_n (pc := 11) 3 dX3_makeNew_11 rfl rfl ?_
  refine vp_X3_mass (pc := 12) (by assumption) (by assumption) mw_F_X3_18 dX3_makeNew_12 ?_
  refine vv_aload_n (pc := 15) 0 dX3_makeNew_15 rfl rfl ?_
  refine vv_iload (pc := 16) 4 dX3_makeNew_16 rfl ?_
  refine vp_X3_strength (pc := 18) (by assumption) (by assumption) mw_F_X3_21 dX3_makeNew_18 ?_
  refine vv_aload_n (pc := 21) 0 dX3_makeNew_21 rfl rfl ?_
  refine vv_iload (pc := 22) 5 dX3_makeNew_22 rfl ?_
  refine vp_X3_tension (pc := 24) (by assumption) (by assumption) mw_F_X3_24 dX3_makeNew_24 ?_
  refine vv_aload_n (pc := 27) 0 dX3_makeNew_27 rfl rfl ?_
  refine vv_iconst (pc := 28) (v := 0) dX3_makeNew_28 (by decide) ?_
  refine vp_X3_task (pc := 29) (by assumption) (by assumption) mw_F_X3_27 dX3_makeNew_29 ?_
  refine vv_aload_n (pc := 32) 0 dX3_makeNew_32 rfl rfl ?_
  refine vv_iconst (pc := 33) (v := 0) dX3_makeNew_33 (by decide) ?_
  refine vp_X3_broken (pc := 34) (by assumption) (by assumption) (by first | exact Or.inl rfl | exact Or.inr rfl | assumption) mw_F_X3_30 dX3_makeNew_34 ?_
  refine vv_aload_n (pc := 37) 0 dX3_makeNew_37 rfl rfl ?_
  refine vv_bipush (pc := 38) (v := (-6)) dX3_makeNew_38 (by decide) ?_
  refine vp_X3_brokeOn (pc := 40) (by assumption) (by assumption) mw_F_X3_34 dX3_makeNew_40 ?_
  refine vv_aload_n (pc := 43) 0 dX3_makeNew_43 rfl rfl ?_
  refine vv_bipush (pc := 44) (v := (-6)) dX3_makeNew_44 (by decide) ?_
  refine vp_X3_heardOn (pc := 46) (by assumption) (by assumption) mw_F_X3_37 dX3_makeNew_46 ?_
  refine vv_aload_n (pc := 49) 0 dX3_makeNew_49 rfl rfl ?_
  refine vv_iconst (pc := 50) (v := 0) dX3_makeNew_50 (by decide) ?_
  refine vp_X3_low (pc := 51) (by assumption) (by assumption) mw_F_X3_40 dX3_makeNew_51 ?_
  refine vv_aload_n (pc := 54) 0 dX3_makeNew_54 rfl rfl ?_
  refine vv_iconst (pc := 55) (v := 0) dX3_makeNew_55 (by decide) ?_
  refine vp_X3_high (pc := 56) (by assumption) (by assumption) mw_F_X3_43 dX3_makeNew_56 ?_
  refine vv_aload_n (pc := 59) 0 dX3_makeNew_59 rfl rfl ?_
  refine vv_iconst (pc := 60) (v := 0) dX3_makeNew_60 (by decide) ?_
  refine vp_X3_heardBroken (pc := 61) (by assumption) (by assumption) (by first | exact Or.inl rfl | exact Or.inr rfl | assumption) mw_F_X3_46 dX3_makeNew_61 ?_
  refine vr_v (pc := 64) dX3_makeNew_64 ?_
  funext i k
  simp only [mm_wr_eq, mm_mk]
  by_cases hi : i = mm_W b w
  · subst hi
    simp only [true_and, if_true]
    by_cases hk : k < 12
    · rcases (by omega : k = 0 ∨ k = 1 ∨ k = 2 ∨ k = 3 ∨ k = 4 ∨ k = 5 ∨ k = 6 ∨ k = 7 ∨ k = 8 ∨ k = 9 ∨ k = 10 ∨ k = 11) with rfl | rfl | rfl | rfl | rfl | rfl | rfl | rfl | rfl | rfl | rfl | rfl <;> simp
    · repeat rw [if_neg (by omega : ¬ k = _)]
  · simp [hi]
set_option maxRecDepth 100000 in
set_option maxHeartbeats 4000000 in
theorem c_X3_loosen (l : Launch) (G : gG) {b w : Nat} (hb : b < 11) (hw : w < 8) (S : Mem) (x1 : Int32) : mm_C l G yX3_loosen cX3_loosen 2 (none) (mm_rm 1 21) [.ref (gad G (mm_W b w)), .int x1] S (mm_Qv G (fun S2 => S2 = mm_wr (mm_wr (mm_wr S (mm_W b w) 4 (sp_crept (S (mm_W b w) 4) x1)) (mm_W b w) 9 (sp_crept (S (mm_W b w) 9) x1)) (mm_W b w) 10 (sp_crept (S (mm_W b w) 10) x1))) := by
  refine mm_ofV (own := RX3) (by decide +kernel) rfl (Nat.le_of_ble_eq_true rfl) (ls0 := [(0, .ref (gad G (mm_W b w))), (1, .int x1)]) rfl ?_
  refine vv_aload_n (pc := 0) 0 dX3_loosen_0 rfl rfl ?_
  refine vv_aload_n (pc := 1) 0 dX3_loosen_1 rfl rfl ?_
  refine vg_X3_tension (pc := 2) (by assumption) (by assumption) mw_F_X3_24 dX3_loosen_2 ?_
  refine vv_iload_n (pc := 5) 1 dX3_loosen_5 rfl rfl ?_
  refine vc_Ni (pc := 6) (c_X4_crept l G _ _ _) (host := RX4) (by decide +kernel) my_X4_crept ⟨by decide, by decide⟩ rfl rfl (Nat.le_of_ble_eq_true rfl) dX3_loosen_6 (fun r6 S6 h6 => ?_)
  obtain ⟨qS6, h6⟩ := h6
  replace qS6 := qS6.symm
  subst qS6
  refine vp_X3_tension (pc := 9) (by assumption) (by assumption) mw_F_X3_24 dX3_loosen_9 ?_
  refine vv_aload_n (pc := 12) 0 dX3_loosen_12 rfl rfl ?_
  refine vv_aload_n (pc := 13) 0 dX3_loosen_13 rfl rfl ?_
  refine vg_X3_low (pc := 14) (by assumption) (by assumption) mw_F_X3_40 dX3_loosen_14 ?_
  refine vv_iload_n (pc := 17) 1 dX3_loosen_17 rfl rfl ?_
  refine vc_Ni (pc := 18) (c_X4_crept l G _ _ _) (host := RX4) (by decide +kernel) my_X4_crept ⟨by decide, by decide⟩ rfl rfl (Nat.le_of_ble_eq_true rfl) dX3_loosen_18 (fun r18 S18 h18 => ?_)
  obtain ⟨qS18, h18⟩ := h18
  replace qS18 := qS18.symm
  subst qS18
  refine vp_X3_low (pc := 21) (by assumption) (by assumption) mw_F_X3_40 dX3_loosen_21 ?_
  refine vv_aload_n (pc := 24) 0 dX3_loosen_24 rfl rfl ?_
  refine vv_aload_n (pc := 25) 0 dX3_loosen_25 rfl rfl ?_
  refine vg_X3_high (pc := 26) (by assumption) (by assumption) mw_F_X3_43 dX3_loosen_26 ?_
  refine vv_iload_n (pc := 29) 1 dX3_loosen_29 rfl rfl ?_
  refine vc_Ni (pc := 30) (c_X4_crept l G _ _ _) (host := RX4) (by decide +kernel) my_X4_crept ⟨by decide, by decide⟩ rfl rfl (Nat.le_of_ble_eq_true rfl) dX3_loosen_30 (fun r30 S30 h30 => ?_)
  obtain ⟨qS30, h30⟩ := h30
  replace qS30 := qS30.symm
  subst qS30
  refine vp_X3_high (pc := 33) (by assumption) (by assumption) mw_F_X3_43 dX3_loosen_33 ?_
  refine vr_v (pc := 36) dX3_loosen_36 ?_
  rw [h6, h18, h30]
  simp [mm_wr_eq]
set_option maxRecDepth 100000 in
set_option maxHeartbeats 4000000 in
theorem c_X3_takeFrom (l : Launch) (G : gG) {b w b2 w2 : Nat} (hb : b < 11) (hw : w < 8) (hb2 : b2 < 11) (hw2 : w2 < 8) (hne : b ≠ b2) (S : Mem) : mm_C l G yX3_takeFrom cX3_takeFrom 2 (none) (mm_rm 0 0) [.ref (gad G (mm_W b w)), .ref (gad G (mm_W b2 w2))] S (mm_Qv G (fun S2 => S2 = mm_cp S (mm_W b2 w2) (mm_W b w) 12)) := by
  have hne2 : mm_W b2 w2 ≠ mm_W b w := fun q => mm_W_ne hne hw hw2 q.symm
  refine mm_ofV (own := RX3) (by decide +kernel) rfl (Nat.le_of_ble_eq_true rfl) (ls0 := [(0, .ref (gad G (mm_W b w))), (1, .ref (gad G (mm_W b2 w2)))]) rfl ?_
  refine vv_okS (fun hok => ?_)
  have hok6 := mm_bW6 hok b2 hw2
  have hok11 := mm_bW11 hok b2 hw2
  refine vv_aload_n (pc := 0) 0 dX3_takeFrom_0 rfl rfl ?_
  refine vv_aload_n (pc := 1) 1 dX3_takeFrom_1 rfl rfl ?_
  refine vg_X3_place (pc := 2) (by assumption) (by assumption) mw_F_X3_9 dX3_takeFrom_2 ?_
  refine vp_X3_place (pc := 5) (by assumption) (by assumption) mw_F_X3_9 dX3_takeFrom_5 ?_
  refine vv_aload_n (pc := 8) 0 dX3_takeFrom_8 rfl rfl ?_
  refine vv_aload_n (pc := 9) 1 dX3_takeFrom_9 rfl rfl ?_
  refine vg_X3_length (pc := 10) (by assumption) (by assumption) mw_F_X3_15 dX3_takeFrom_10 ?_
  refine vp_X3_length (pc := 13) (by assumption) (by assumption) mw_F_X3_15 dX3_takeFrom_13 ?_
  refine vv_aload_n (pc := 16) 0 dX3_takeFrom_16 rfl rfl ?_
  refine vv_aload_n (pc := 17) 1 dX3_takeFrom_17 rfl rfl ?_
  refine vg_X3_mass (pc := 18) (by assumption) (by assumption) mw_F_X3_18 dX3_takeFrom_18 ?_
  refine vp_X3_mass (pc := 21) (by assumption) (by assumption) mw_F_X3_18 dX3_takeFrom_21 ?_
  refine vv_aload_n (pc := 24) 0 dX3_takeFrom_24 rfl rfl ?_
  refine vv_aload_n (pc := 25) 1 dX3_takeFrom_25 rfl rfl ?_
  refine vg_X3_strength (pc := 26) (by assumption) (by assumption) mw_F_X3_21 dX3_takeFrom_26 ?_
  refine vp_X3_strength (pc := 29) (by assumption) (by assumption) mw_F_X3_21 dX3_takeFrom_29 ?_
  refine vv_aload_n (pc := 32) 0 dX3_takeFrom_32 rfl rfl ?_
  refine vv_aload_n (pc := 33) 1 dX3_takeFrom_33 rfl rfl ?_
  refine vg_X3_tension (pc := 34) (by assumption) (by assumption) mw_F_X3_24 dX3_takeFrom_34 ?_
  refine vp_X3_tension (pc := 37) (by assumption) (by assumption) mw_F_X3_24 dX3_takeFrom_37 ?_
  refine vv_aload_n (pc := 40) 0 dX3_takeFrom_40 rfl rfl ?_
  refine vv_aload_n (pc := 41) 1 dX3_takeFrom_41 rfl rfl ?_
  refine vg_X3_task (pc := 42) (by assumption) (by assumption) mw_F_X3_27 dX3_takeFrom_42 ?_
  refine vp_X3_task (pc := 45) (by assumption) (by assumption) mw_F_X3_27 dX3_takeFrom_45 ?_
  refine vv_aload_n (pc := 48) 0 dX3_takeFrom_48 rfl rfl ?_
  refine vv_aload_n (pc := 49) 1 dX3_takeFrom_49 rfl rfl ?_
  refine vg_X3_broken (pc := 50) (by assumption) (by assumption) mw_F_X3_30 dX3_takeFrom_50 ?_
  refine vp_X3_broken (pc := 53) (by assumption) (by assumption) (by simpa [mm_wr_eq, hne2] using hok6) mw_F_X3_30 dX3_takeFrom_53 ?_
  refine vv_aload_n (pc := 56) 0 dX3_takeFrom_56 rfl rfl ?_
  refine vv_aload_n (pc := 57) 1 dX3_takeFrom_57 rfl rfl ?_
  refine vg_X3_brokeOn (pc := 58) (by assumption) (by assumption) mw_F_X3_34 dX3_takeFrom_58 ?_
  refine vp_X3_brokeOn (pc := 61) (by assumption) (by assumption) mw_F_X3_34 dX3_takeFrom_61 ?_
  refine vv_aload_n (pc := 64) 0 dX3_takeFrom_64 rfl rfl ?_
  refine vv_aload_n (pc := 65) 1 dX3_takeFrom_65 rfl rfl ?_
  refine vg_X3_heardOn (pc := 66) (by assumption) (by assumption) mw_F_X3_37 dX3_takeFrom_66 ?_
  refine vp_X3_heardOn (pc := 69) (by assumption) (by assumption) mw_F_X3_37 dX3_takeFrom_69 ?_
  refine vv_aload_n (pc := 72) 0 dX3_takeFrom_72 rfl rfl ?_
  refine vv_aload_n (pc := 73) 1 dX3_takeFrom_73 rfl rfl ?_
  refine vg_X3_low (pc := 74) (by assumption) (by assumption) mw_F_X3_40 dX3_takeFrom_74 ?_
  refine vp_X3_low (pc := 77) (by assumption) (by assumption) mw_F_X3_40 dX3_takeFrom_77 ?_
  refine vv_aload_n (pc := 80) 0 dX3_takeFrom_80 rfl rfl ?_
  refine vv_aload_n (pc := 81) 1 dX3_takeFrom_81 rfl rfl ?_
  refine vg_X3_high (pc := 82) (by assumption) (by assumption) mw_F_X3_43 dX3_takeFrom_82 ?_
  refine vp_X3_high (pc := 85) (by assumption) (by assumption) mw_F_X3_43 dX3_takeFrom_85 ?_
  refine vv_aload_n (pc := 88) 0 dX3_takeFrom_88 rfl rfl ?_
  refine vv_aload_n (pc := 89) 1 dX3_takeFrom_89 rfl rfl ?_
  refine vg_X3_heardBroken (pc := 90) (by assumption) (by assumption) mw_F_X3_46 dX3_takeFrom_90 ?_
  refine vp_X3_heardBroken (pc := 93) (by assumption) (by assumption) (by simpa [mm_wr_eq, hne2] using hok11) mw_F_X3_46 dX3_takeFrom_93 ?_
  refine vr_v (pc := 96) dX3_takeFrom_96 ?_
  funext i k
  simp only [mm_wr_eq, mm_cp]
  by_cases hi : i = mm_W b w
  · subst hi
    simp only [true_and, if_true, hne2, false_and, if_false]
    by_cases hk : k < 12
    · rcases (by omega : k = 0 ∨ k = 1 ∨ k = 2 ∨ k = 3 ∨ k = 4 ∨ k = 5 ∨ k = 6 ∨ k = 7 ∨ k = 8 ∨ k = 9 ∨ k = 10 ∨ k = 11) with rfl | rfl | rfl | rfl | rfl | rfl | rfl | rfl | rfl | rfl | rfl | rfl <;> simp
    · simp only [hk, if_false]
      repeat rw [if_neg (by omega)]
  · simp [hi]
set_option maxRecDepth 100000 in
set_option maxHeartbeats 4000000 in
theorem c_X3_pitchWith (l : Launch) (G : gG) {b w : Nat} (hb : b < 11) (hw : w < 8) (S : Mem) (t : Int32) (hr : sp_rg (S (mm_W b w) 1) (S (mm_W b w) 2) t) : mm_C l G yX3_pitchWith cX3_pitchWith 10 (some .int) (mm_rm 1 20) [.ref (gad G (mm_W b w)), .int t] S (mm_Qi G (fun r S2 => S2 = S ∧ r = sp_pt (S (mm_W b w) 1) (S (mm_W b w) 2) t)) := by
  refine mm_ofV (own := RX3) (by decide +kernel) rfl (Nat.le_of_ble_eq_true rfl) (ls0 := [(0, .ref (gad G (mm_W b w))), (1, .int t)]) rfl ?_
  refine vv_iload_n (pc := 0) 1 dX3_pitchWith_0 rfl rfl ?_
  refine vv_i2l (pc := 1) dX3_pitchWith_1 ?_
  refine vv_ldc2 (pc := 2) mw_L_X3_49 dX3_pitchWith_2 ?_
  refine vv_lmul (pc := 5) dX3_pitchWith_5 ?_
  refine vv_topl (fun x2p6 e2p6 => ?_)
  refine vv_lstore_n (pc := 6) (i := 2) (ls' := [(2, .long x2p6), (0, .ref (gad G (mm_W b w))), (1, .int t)]) dX3_pitchWith_6 rfl (by decide) rfl ?_
  refine vv_aload_n (pc := 7) 1 dX3_pitchWith_7 rfl rfl ?_
  refine vc_Vl (pc := 8) (c_X3_weight l G (by assumption) (by assumption) _) mw_M_X3_51 my_X3_weight (mm_rv_W (by assumption) (by assumption)) ⟨by decide, by decide⟩ rfl rfl (Nat.le_of_ble_eq_true rfl) dX3_pitchWith_8 (fun r8 S8 h8 => ?_)
  obtain ⟨qS8, h8⟩ := h8
  replace qS8 := qS8.symm
  subst qS8
  refine vv_topl (fun x4p11 e4p11 => ?_)
  refine vv_lstore (pc := 11) (i := 4) (ls' := [(4, .long x4p11), (2, .long x2p6), (0, .ref (gad G (mm_W b w))), (1, .int t)]) dX3_pitchWith_11 (by decide) rfl ?_
  refine vv_lconst (pc := 13) (v := 0) dX3_pitchWith_13 (by decide) ?_
  refine vv_topl (fun x6p14 e6p14 => ?_)
  refine vv_lstore (pc := 14) (i := 6) (ls' := [(6, .long x6p14), (4, .long x4p11), (2, .long x2p6), (0, .ref (gad G (mm_W b w))), (1, .int t)]) dX3_pitchWith_14 (by decide) rfl ?_
  refine vv_ldc2 (pc := 16) mw_L_X3_55 dX3_pitchWith_16 ?_
  refine vv_topl (fun x8p19 e8p19 => ?_)
  refine vv_lstore (pc := 19) (i := 8) (ls' := [(8, .long x8p19), (6, .long x6p14), (4, .long x4p11), (2, .long x2p6), (0, .ref (gad G (mm_W b w))), (1, .int t)]) dX3_pitchWith_19 (by decide) rfl ?_
  obtain ⟨hr1, hr2, hr3, hr4, hr5, hr6⟩ := hr
  obtain ⟨F, eF⟩ : ∃ z, z = sp_pf (t.toNatClampNeg * 1000000) ((S (mm_W b w) 1).toNatClampNeg * (S (mm_W b w) 1).toNatClampNeg * (S (mm_W b w) 2).toNatClampNeg) 15 0 := ⟨_, rfl⟩
  obtain ⟨m0, em⟩ : ∃ z, z = t.toNatClampNeg * 1000000 := ⟨_, rfl⟩
  obtain ⟨w0, ew⟩ : ∃ z, z = (S (mm_W b w) 1).toNatClampNeg * (S (mm_W b w) 1).toNatClampNeg * (S (mm_W b w) 2).toNatClampNeg := ⟨_, rfl⟩
  have hl1 := sp_cl (x := S (mm_W b w) 1) (by omega)
  have hl2 := sp_cl (x := S (mm_W b w) 2) (by omega)
  have hl3 := sp_cl (x := t) (by omega)
  have em2 : x2p6 = lN m0 := by rw [e2p6, sp_toL (by omega), em]; exact lN_mul _ 1000000
  have ew2 : x4p11 = lN w0 := by rw [e4p11, h8, sp_wtN (by omega) (by omega), ew]
  have hm0 : m0 ≤ 50000000000 := by rw [em]; omega
  have hw0 : w0 ≤ 800000 := by rw [ew]; exact Nat.mul_le_mul (Nat.mul_le_mul (by omega : _ ≤ 200) (by omega : _ ≤ 200)) (by omega : _ ≤ 20)
  rw [← em, ← ew] at eF
  have lp21 : ∀ (n : Nat) (kk q : Nat) (x6 x8 : Int64), kk + 1 ≤ n → kk ≤ 15 → q + 2 ^ kk ≤ 32768 → x6 = lN q → x8 = lN (2 ^ kk / 2) → sp_pf m0 w0 kk q = F → mm_V l G RX3 cX3_pitchWith 10 (some .int) (mm_rm 1 20) 0 0 (fun _ => True) (fun _ => mm_F G) (mm_Qf G (mm_Qi G (fun r S2 => S2 = S ∧ r = sp_pt (S (mm_W b w) 1) (S (mm_W b w) 2) t))) S 21 [(0, .ref (gad G (mm_W b w))), (1, .int t), (2, .long x2p6), (4, .long x4p11), (6, .long x6), (8, .long x8)] [] := by
    intro n
    induction n with
    | zero =>
      intro kk q x6 x8 hn hk hq e6 e8 hF
      exact absurd hn (by omega)
    | succ n ih =>
      intro kk q x6 x8 hn hk hq e6 e8 hF
      refine vv_lload (pc := 21) 5 dX3_pitchWith_21 rfl ?_
      refine vv_lconst (pc := 23) (v := 0) dX3_pitchWith_23 (by decide) ?_
      refine vv_lcmp (pc := 24) dX3_pitchWith_24 ?_
      refine vv_if_le (pc := 25) (tgt := 65) dX3_pitchWith_25 (by decide) (fun c25 => ?_) (fun c25 => ?_)
      -- t@25 path L21t
      · refine vv_lload (pc := 65) 4 dX3_pitchWith_65 rfl ?_
        refine vv_l2i (pc := 67) dX3_pitchWith_67 ?_
        refine vr_i (pc := 68) dX3_pitchWith_68 ?_
        have hk0 : kk = 0 := by
          rcases kk with _ | k1
          · rfl
          · exfalso
            rw [lg_cmp_le, e8, Nat.pow_succ, Nat.mul_div_cancel _ (by decide)] at c25
            have h9 : (2 : Nat) ^ k1 ≤ 2 ^ 14 := Nat.pow_le_pow_right (by decide) (by omega)
            have h10 : 0 < (2 : Nat) ^ k1 := Nat.pow_pos (by decide)
            have := (pk_lLE (a := 2 ^ k1) (b := 0) (by omega) (by decide)).mp c25
            omega
        subst hk0
        refine ⟨rfl, ?_⟩
        unfold sp_pt
        rw [← em, ← ew, ← eF, ← hF, sp_pf, e6, lN_i]
      -- f@25 path L21f
      · obtain ⟨k1, rfl⟩ : ∃ k1, kk = k1 + 1 := by
          rcases kk with _ | k1
          · exact absurd ((lg_cmp_le _ _).mpr (by rw [e8]; decide)) c25
          · exact ⟨k1, rfl⟩
        have e81 : x8 = lN (2 ^ k1) := by rw [e8, Nat.pow_succ, Nat.mul_div_cancel _ (by decide)]
        have hk2 : 2 ^ (k1 + 1) = 2 * 2 ^ k1 := by rw [Nat.pow_succ]; omega
        have hcmp : (0 < lg_cmp ((x6 + x8) * (x6 + x8) * x4p11) x2p6) ↔ ¬ ((q + 2 ^ k1) * (q + 2 ^ k1) * w0 ≤ m0) := by
          rw [lg_cmp_gt, e6, e81, ew2, em2, lN_add, lN_mul, lN_mul, pk_lLT (by omega) ?_]
          · omega
          · have h9 : (q + 2 ^ k1) * (q + 2 ^ k1) * w0 ≤ 32768 * 32768 * 800000 := Nat.mul_le_mul (Nat.mul_le_mul (by omega) (by omega)) hw0
            omega
        refine vv_lload (pc := 28) 4 dX3_pitchWith_28 rfl ?_
        refine vv_lload (pc := 30) 5 dX3_pitchWith_30 rfl ?_
        refine vv_ladd (pc := 32) dX3_pitchWith_32 ?_
        refine vv_lload (pc := 33) 4 dX3_pitchWith_33 rfl ?_
        refine vv_lload (pc := 35) 5 dX3_pitchWith_35 rfl ?_
        refine vv_ladd (pc := 37) dX3_pitchWith_37 ?_
        refine vv_lmul (pc := 38) dX3_pitchWith_38 ?_
        refine vv_lload (pc := 39) 3 dX3_pitchWith_39 rfl ?_
        refine vv_lmul (pc := 41) dX3_pitchWith_41 ?_
        refine vv_lload_n (pc := 42) 2 dX3_pitchWith_42 rfl rfl ?_
        refine vv_lcmp (pc := 43) dX3_pitchWith_43 ?_
        refine vv_if_gt (pc := 44) (tgt := 54) dX3_pitchWith_44 (by decide) (fun c44 => ?_) (fun c44 => ?_)
        -- t@44 path L21ft
        · refine vv_lload (pc := 54) 5 dX3_pitchWith_54 rfl ?_
          refine vv_ldc2 (pc := 56) mw_L_X3_57 dX3_pitchWith_56 ?_
          refine vv_ldiv (pc := 59) dX3_pitchWith_59 (by decide) ?_
          refine vv_topl (fun x8p60 e8p60 => ?_)
          refine vv_lstore (pc := 60) (i := 8) (ls' := [(8, .long x8p60), (0, .ref (gad G (mm_W b w))), (1, .int t), (2, .long x2p6), (4, .long x4p11), (6, .long x6)]) dX3_pitchWith_60 (by decide) rfl ?_
          refine vv_goto (pc := 62) (tgt := 21) dX3_pitchWith_62 (by decide) ?_
          have e8n : x8p60 = lN (2 ^ k1 / 2) := by rw [e8p60, e81]; exact pk_lDiv (by omega) (by decide) (by decide)
          rw [sp_pf, if_neg (hcmp.mp c44)] at hF
          refine vv_sub [1, 2, 3, 4, 5, 0] (ls' := [(0, _), (1, _), (2, _), (4, _), (6, _), (8, _)]) rfl ?_
          exact ih k1 q x6 x8p60 (by omega) (by omega) (by omega) e6 e8n hF
        -- f@44 path L21ff
        · refine vv_lload (pc := 47) 4 dX3_pitchWith_47 rfl ?_
          refine vv_lload (pc := 49) 5 dX3_pitchWith_49 rfl ?_
          refine vv_ladd (pc := 51) dX3_pitchWith_51 ?_
          refine vv_topl (fun x6p52 e6p52 => ?_)
          refine vv_lstore (pc := 52) (i := 6) (ls' := [(6, .long x6p52), (0, .ref (gad G (mm_W b w))), (1, .int t), (2, .long x2p6), (4, .long x4p11), (8, .long x8)]) dX3_pitchWith_52 (by decide) rfl ?_
          refine vv_lload (pc := 54) 5 dX3_pitchWith_54 rfl ?_
          refine vv_ldc2 (pc := 56) mw_L_X3_57 dX3_pitchWith_56 ?_
          refine vv_ldiv (pc := 59) dX3_pitchWith_59 (by decide) ?_
          refine vv_topl (fun x8p60 e8p60 => ?_)
          refine vv_lstore (pc := 60) (i := 8) (ls' := [(8, .long x8p60), (6, .long x6p52), (0, .ref (gad G (mm_W b w))), (1, .int t), (2, .long x2p6), (4, .long x4p11)]) dX3_pitchWith_60 (by decide) rfl ?_
          refine vv_goto (pc := 62) (tgt := 21) dX3_pitchWith_62 (by decide) ?_
          have e8n : x8p60 = lN (2 ^ k1 / 2) := by rw [e8p60, e81]; exact pk_lDiv (by omega) (by decide) (by decide)
          rw [sp_pf, if_pos (Decidable.not_not.mp (fun h => c44 (hcmp.mpr h)))] at hF
          refine vv_sub [2, 3, 4, 5, 1, 0] (ls' := [(0, _), (1, _), (2, _), (4, _), (6, _), (8, _)]) rfl ?_
          exact ih k1 (q + 2 ^ k1) x6p52 x8p60 (by omega) (by omega) (by omega) (by rw [e6p52, e6, e81, lN_add]) e8n hF
  refine vv_sub [4, 5, 3, 2, 1, 0] (ls' := [(0, _), (1, _), (2, _), (4, _), (6, _), (8, _)]) rfl ?_
  exact lp21 16 15 0 x6p14 x8p19 (by omega) (by omega) (by decide) e6p14 (by rw [e8p19]; rfl) eF.symm
set_option maxRecDepth 100000 in
set_option maxHeartbeats 4000000 in
theorem c_X3_sing (l : Launch) (G : gG) {b w : Nat} (hb : b < 11) (hw : w < 8) (S : Mem) (x1 : Int32) (hr : sp_rg (S (mm_W b w) 1) (S (mm_W b w) 2) (S (mm_W b w) 4)) : mm_C l G yX3_sing cX3_sing 3 (some .int) (mm_rm 2 49) [.ref (gad G (mm_W b w)), .int x1] S (mm_Qi G (fun r S2 => if S (mm_W b w) 6 = 0 then r = sp_pt (S (mm_W b w) 1) (S (mm_W b w) 2) (S (mm_W b w) 4) ∧ S2 = mm_wr (mm_wr (mm_wr S (mm_W b w) 8 x1) (mm_W b w) 9 (sp_ls r.toInt64 (S (mm_W b w) 1) (S (mm_W b w) 2)).toInt32) (mm_W b w) 10 (sp_hi r (S (mm_W b w) 1) (S (mm_W b w) 2)) else r = -6 ∧ S2 = mm_wr (mm_wr (mm_wr (mm_wr S (mm_W b w) 8 x1) (mm_W b w) 11 1) (mm_W b w) 9 0) (mm_W b w) 10 0)) := by
  refine mm_ofV (own := RX3) (by decide +kernel) rfl (Nat.le_of_ble_eq_true rfl) (ls0 := [(0, .ref (gad G (mm_W b w))), (1, .int x1)]) rfl ?_
  refine vv_aload_n (pc := 0) 0 dX3_sing_0 rfl rfl ?_
  refine vv_iload_n (pc := 1) 1 dX3_sing_1 rfl rfl ?_
  refine vp_X3_heardOn (pc := 2) (by assumption) (by assumption) mw_F_X3_37 dX3_sing_2 ?_
  refine vv_mem (fun S2 eS2 => ?_)
  refine vv_aload_n (pc := 5) 0 dX3_sing_5 rfl rfl ?_
  refine vg_X3_broken (pc := 6) (by assumption) (by assumption) mw_F_X3_30 dX3_sing_6 ?_
  have c0 : S2 (mm_W b w) 6 = S (mm_W b w) 6 := by subst eS2; simp [mm_wr_eq]
  refine vv_if_eq (pc := 9) (tgt := 30) dX3_sing_9 (by decide) (fun c9 => ?_) (fun c9 => ?_)
  -- t@9 path t
  · refine vv_aload_n (pc := 30) 0 dX3_sing_30 rfl rfl ?_
    refine vv_aload_n (pc := 31) 0 dX3_sing_31 rfl rfl ?_
    refine vg_X3_tension (pc := 32) (by assumption) (by assumption) mw_F_X3_24 dX3_sing_32 ?_
    refine vc_Vi (pc := 35) (c_X3_pitchWith l G (by assumption) (by assumption) _ _ (by subst eS2; simpa [mm_wr_eq] using hr)) mw_M_X3_59 my_X3_pitchWith (mm_rv_W (by assumption) (by assumption)) ⟨by decide, by decide⟩ rfl rfl (Nat.le_of_ble_eq_true rfl) dX3_sing_35 (fun r35 S35 h35 => ?_)
    obtain ⟨qS35, h35⟩ := h35
    replace qS35 := qS35.symm
    subst qS35
    refine vv_topi (fun x2p38 e2p38 => ?_)
    refine vv_istore_n (pc := 38) (i := 2) (ls' := [(2, .int x2p38), (0, .ref (gad G (mm_W b w))), (1, .int x1)]) dX3_sing_38 rfl (by decide) rfl ?_
    refine vv_aload_n (pc := 39) 1 dX3_sing_39 rfl rfl ?_
    refine vv_aload_n (pc := 40) 1 dX3_sing_40 rfl rfl ?_
    refine vv_iload_n (pc := 41) 0 dX3_sing_41 rfl rfl ?_
    refine vv_i2l (pc := 42) dX3_sing_42 ?_
    refine vc_Vl (pc := 43) (c_X3_leastTension l G (by assumption) (by assumption) _ _) mw_M_X3_63 my_X3_leastTension (mm_rv_W (by assumption) (by assumption)) ⟨by decide, by decide⟩ rfl rfl (Nat.le_of_ble_eq_true rfl) dX3_sing_43 (fun r43 S43 h43 => ?_)
    obtain ⟨qS43, h43⟩ := h43
    replace qS43 := qS43.symm
    subst qS43
    refine vv_l2i (pc := 46) dX3_sing_46 ?_
    refine vp_X3_low (pc := 47) (by assumption) (by assumption) mw_F_X3_40 dX3_sing_47 ?_
    refine vv_mem (fun S47 eS47 => ?_)
    refine vv_aload_n (pc := 50) 1 dX3_sing_50 rfl rfl ?_
    refine vv_aload_n (pc := 51) 1 dX3_sing_51 rfl rfl ?_
    refine vv_iload_n (pc := 52) 0 dX3_sing_52 rfl rfl ?_
    refine vv_iconst (pc := 53) (v := 1) dX3_sing_53 (by decide) ?_
    refine vv_iadd (pc := 54) dX3_sing_54 ?_
    refine vv_i2l (pc := 55) dX3_sing_55 ?_
    refine vc_Vl (pc := 56) (c_X3_leastTension l G (by assumption) (by assumption) _ _) mw_M_X3_63 my_X3_leastTension (mm_rv_W (by assumption) (by assumption)) ⟨by decide, by decide⟩ rfl rfl (Nat.le_of_ble_eq_true rfl) dX3_sing_56 (fun r56 S56 h56 => ?_)
    obtain ⟨qS56, h56⟩ := h56
    replace qS56 := qS56.symm
    subst qS56
    refine vv_lconst (pc := 59) (v := 1) dX3_sing_59 (by decide) ?_
    refine vv_lsub (pc := 60) dX3_sing_60 ?_
    refine vv_ldc2 (pc := 61) mw_L_X3_67 dX3_sing_61 ?_
    refine vv_lmin (pc := 64) mw_M_X3_69 mw_T_J9_min_f86c9 mw_C_J9_min_f86c9 (Nat.le_of_ble_eq_true rfl) (Nat.le_of_ble_eq_true rfl) dX3_sing_64 ?_
    refine vv_l2i (pc := 67) dX3_sing_67 ?_
    refine vp_X3_high (pc := 68) (by assumption) (by assumption) mw_F_X3_43 dX3_sing_68 ?_
    refine vv_mem (fun S68 eS68 => ?_)
    refine vv_iload_n (pc := 71) 0 dX3_sing_71 rfl rfl ?_
    refine vr_i (pc := 72) dX3_sing_72 ?_
    rw [if_pos (by rw [← c0]; exact c9)]
    have g1 : S2 (mm_W b w) 1 = S (mm_W b w) 1 := by subst eS2; simp [mm_wr_eq]
    have g2 : S2 (mm_W b w) 2 = S (mm_W b w) 2 := by subst eS2; simp [mm_wr_eq]
    have g4 : S2 (mm_W b w) 4 = S (mm_W b w) 4 := by subst eS2; simp [mm_wr_eq]
    have k1 : S47 (mm_W b w) 1 = S (mm_W b w) 1 := by subst eS47; simp [mm_wr_eq, g1]
    have k2 : S47 (mm_W b w) 2 = S (mm_W b w) 2 := by subst eS47; simp [mm_wr_eq, g2]
    subst e2p38
    refine ⟨by rw [h35, g1, g2, g4], ?_⟩
    rw [eS68, eS47, h43, h56, eS2]
    rw [eS2] at g1 g2
    rw [g1, g2, k1, k2]
    congr 1
    unfold sp_hi
    split <;> rfl
  -- f@9 path f
  · refine vv_aload_n (pc := 12) 0 dX3_sing_12 rfl rfl ?_
    refine vv_iconst (pc := 13) (v := 1) dX3_sing_13 (by decide) ?_
    refine vp_X3_heardBroken (pc := 14) (by assumption) (by assumption) (by first | exact Or.inl rfl | exact Or.inr rfl | assumption) mw_F_X3_46 dX3_sing_14 ?_
    refine vv_mem (fun S14 eS14 => ?_)
    refine vv_aload_n (pc := 17) 0 dX3_sing_17 rfl rfl ?_
    refine vv_iconst (pc := 18) (v := 0) dX3_sing_18 (by decide) ?_
    refine vp_X3_low (pc := 19) (by assumption) (by assumption) mw_F_X3_40 dX3_sing_19 ?_
    refine vv_mem (fun S19 eS19 => ?_)
    refine vv_aload_n (pc := 22) 0 dX3_sing_22 rfl rfl ?_
    refine vv_iconst (pc := 23) (v := 0) dX3_sing_23 (by decide) ?_
    refine vp_X3_high (pc := 24) (by assumption) (by assumption) mw_F_X3_43 dX3_sing_24 ?_
    refine vv_mem (fun S24 eS24 => ?_)
    refine vv_bipush (pc := 27) (v := (-6)) dX3_sing_27 (by decide) ?_
    refine vr_i (pc := 29) dX3_sing_29 ?_
    rw [if_neg (by rw [← c0]; exact c9)]
    refine ⟨rfl, ?_⟩
    subst eS2 eS14 eS19 eS24
    rfl
end
section
/-! THE STATE AS ONE ROW OF NUMBERS (n): settings 0, 1; day 2; wires 3; place 4; walked 5; loads 10..29; wire w's number f at 30 + 14 * w + f -/
def sp_f (n : Nat → Int32) (w f : Nat) : Int32 := n (30 + 14 * w + f)
def sp_at (n : Nat → Int32) (k : Nat) : Nat := (sp_f n k 0).toNatClampNeg
/-- what the places of wires are -/
def sp_ws (C : Nat) (n : Nat → Int32) : Prop := C ≤ 8 ∧ n 3 = nI C ∧ (∀ k, k < C → sp_f n k 0 = nI (sp_at n k) ∧ sp_at n k < 20) ∧ ∀ i j, i < C → j < C → sp_at n i = sp_at n j → i = j
/-- the nearest wire to the left (right) of place p that has 0 at f; 99: none -/
def sp_lf (n : Nat → Int32) (f p : Nat) : Nat → Nat
  | 0 => 99
  | c + 1 => if sp_f n c f = 0 ∧ sp_at n c ≤ p ∧ (sp_lf n f p c = 99 ∨ sp_at n (sp_lf n f p c) < sp_at n c) then c else sp_lf n f p c
def sp_rt (n : Nat → Int32) (f p : Nat) : Nat → Nat
  | 0 => 99
  | c + 1 => if sp_f n c f = 0 ∧ p ≤ sp_at n c ∧ (sp_rt n f p c = 99 ∨ sp_at n c < sp_at n (sp_rt n f p c)) then c else sp_rt n f p c
/-- the wire at a place; -1: none -/
def sp_wa (n : Nat → Int32) (p : Nat) : Nat → Int32
  | 0 => -1
  | c + 1 => if sp_at n c = p then nI c else sp_wa n p c
def sp_ctb (n : Nat → Int32) (f C p w : Nat) : Int32 :=
  if sp_lf n f p C ≠ 99 ∧ sp_rt n f p C ≠ 99 ∧ sp_lf n f p C ≠ sp_rt n f p C then
    (if w = sp_rt n f p C then 10 * (n (10 + p) * (nI p - sp_f n (sp_lf n f p C) 0) / (sp_f n (sp_rt n f p C) 0 - sp_f n (sp_lf n f p C) 0))
     else if w = sp_lf n f p C then 10 * (n (10 + p) - n (10 + p) * (nI p - sp_f n (sp_lf n f p C) 0) / (sp_f n (sp_rt n f p C) 0 - sp_f n (sp_lf n f p C) 0)) else 0)
  else if sp_lf n f p C ≠ 99 then (if w = sp_lf n f p C then 10 * n (10 + p) else 0)
  else if sp_rt n f p C ≠ 99 then (if w = sp_rt n f p C then 10 * n (10 + p) else 0) else 0
def sp_T (n : Nat → Int32) (f C w : Nat) : Nat → Int32
  | 0 => 0
  | p + 1 => sp_T n f C w p + sp_ctb n f C p w
/-- the task of wire w -/
def sp_tk (n : Nat → Int32) (f C w : Nat) : Int32 := sp_T n f C w 20
theorem sp_lf_spec (n : Nat → Int32) (f p : Nat) : ∀ c, c ≤ 8 → (sp_lf n f p c = 99 ∧ ∀ k, k < c → sp_f n k f = 0 → ¬ sp_at n k ≤ p) ∨ (sp_lf n f p c < c ∧ sp_f n (sp_lf n f p c) f = 0 ∧ sp_at n (sp_lf n f p c) ≤ p ∧ ∀ k, k < c → sp_f n k f = 0 → sp_at n k ≤ p → sp_at n k ≤ sp_at n (sp_lf n f p c))
  | 0, _ => Or.inl ⟨rfl, fun k h => absurd h (Nat.not_lt_zero k)⟩
  | c + 1, h8 => by
    have ih := sp_lf_spec n f p c (by omega)
    unfold sp_lf
    by_cases h : sp_f n c f = 0 ∧ sp_at n c ≤ p ∧ (sp_lf n f p c = 99 ∨ sp_at n (sp_lf n f p c) < sp_at n c)
    · rw [if_pos h]
      refine Or.inr ⟨Nat.lt_succ_self c, h.1, h.2.1, fun k hk h0 h1 => ?_⟩
      rcases Nat.lt_or_eq_of_le (Nat.le_of_lt_succ hk) with hk | rfl
      · rcases ih with ⟨e, g⟩ | ⟨e1, e2, e3, g⟩
        · exact absurd h1 (g k hk h0)
        · have := g k hk h0 h1
          rcases h.2.2 with h9 | h9
          · omega
          · omega
      · exact Nat.le_refl _
    · rw [if_neg h]
      rcases ih with ⟨e, g⟩ | ⟨e1, e2, e3, g⟩
      · refine Or.inl ⟨e, fun k hk h0 h1 => ?_⟩
        rcases Nat.lt_or_eq_of_le (Nat.le_of_lt_succ hk) with hk | rfl
        · exact g k hk h0 h1
        · exact h ⟨h0, h1, Or.inl e⟩
      · refine Or.inr ⟨by omega, e2, e3, fun k hk h0 h1 => ?_⟩
        rcases Nat.lt_or_eq_of_le (Nat.le_of_lt_succ hk) with hk | rfl
        · exact g k hk h0 h1
        · rcases Nat.lt_or_ge (sp_at n (sp_lf n f p k)) (sp_at n k) with q | q
          · exact absurd ⟨h0, h1, Or.inr q⟩ h
          · exact q
theorem sp_rt_spec (n : Nat → Int32) (f p : Nat) : ∀ c, c ≤ 8 → (sp_rt n f p c = 99 ∧ ∀ k, k < c → sp_f n k f = 0 → ¬ p ≤ sp_at n k) ∨ (sp_rt n f p c < c ∧ sp_f n (sp_rt n f p c) f = 0 ∧ p ≤ sp_at n (sp_rt n f p c) ∧ ∀ k, k < c → sp_f n k f = 0 → p ≤ sp_at n k → sp_at n (sp_rt n f p c) ≤ sp_at n k)
  | 0, _ => Or.inl ⟨rfl, fun k h => absurd h (Nat.not_lt_zero k)⟩
  | c + 1, h8 => by
    have ih := sp_rt_spec n f p c (by omega)
    unfold sp_rt
    by_cases h : sp_f n c f = 0 ∧ p ≤ sp_at n c ∧ (sp_rt n f p c = 99 ∨ sp_at n c < sp_at n (sp_rt n f p c))
    · rw [if_pos h]
      refine Or.inr ⟨Nat.lt_succ_self c, h.1, h.2.1, fun k hk h0 h1 => ?_⟩
      rcases Nat.lt_or_eq_of_le (Nat.le_of_lt_succ hk) with hk | rfl
      · rcases ih with ⟨e, g⟩ | ⟨e1, e2, e3, g⟩
        · exact absurd h1 (g k hk h0)
        · have := g k hk h0 h1
          rcases h.2.2 with h9 | h9
          · omega
          · omega
      · exact Nat.le_refl _
    · rw [if_neg h]
      rcases ih with ⟨e, g⟩ | ⟨e1, e2, e3, g⟩
      · refine Or.inl ⟨e, fun k hk h0 h1 => ?_⟩
        rcases Nat.lt_or_eq_of_le (Nat.le_of_lt_succ hk) with hk | rfl
        · exact g k hk h0 h1
        · exact h ⟨h0, h1, Or.inl e⟩
      · refine Or.inr ⟨by omega, e2, e3, fun k hk h0 h1 => ?_⟩
        rcases Nat.lt_or_eq_of_le (Nat.le_of_lt_succ hk) with hk | rfl
        · exact g k hk h0 h1
        · rcases Nat.lt_or_ge (sp_at n k) (sp_at n (sp_rt n f p k)) with q | q
          · exact absurd ⟨h0, h1, Or.inr q⟩ h
          · exact q
theorem sp_wa_spec {C : Nat} {n : Nat → Int32} (p : Nat) : ∀ c, c ≤ C → (sp_wa n p c = -1 ∧ ∀ k, k < c → sp_at n k ≠ p) ∨ ∃ k, k < c ∧ sp_wa n p c = nI k ∧ sp_at n k = p
  | 0, _ => Or.inl ⟨rfl, fun k h => absurd h (Nat.not_lt_zero k)⟩
  | c + 1, h => by
    unfold sp_wa
    by_cases e : sp_at n c = p
    · rw [if_pos e]
      exact Or.inr ⟨c, Nat.lt_succ_self c, rfl, e⟩
    · rw [if_neg e]
      rcases sp_wa_spec (C := C) p c (by omega) with ⟨h1, h2⟩ | ⟨k, h1, h2, h3⟩
      · refine Or.inl ⟨h1, fun k hk => ?_⟩
        rcases Nat.lt_or_eq_of_le (Nat.le_of_lt_succ hk) with hk | rfl
        · exact h2 k hk
        · exact e
      · exact Or.inr ⟨k, by omega, h2, h3⟩
/-- the wire at a place is one -/
theorem sp_wa_at {C : Nat} {n : Nat → Int32} (h : sp_ws C n) {k : Nat} (hk : k < C) : sp_wa n (sp_at n k) C = nI k := by
  rcases sp_wa_spec (n := n) (sp_at n k) C (Nat.le_refl _) with ⟨-, h2⟩ | ⟨k', h1, h2, h3⟩
  · exact absurd rfl (h2 k hk)
  · rw [h2, h.2.2.2 k' k h1 hk h3]
theorem sp_rt_of {C : Nat} {n : Nat → Int32} (h : sp_ws C n) {f p k : Nat} (hk : k < C) (h0 : sp_f n k f = 0) (h1 : p ≤ sp_at n k) (hm : ∀ i, i < C → sp_f n i f = 0 → p ≤ sp_at n i → sp_at n k ≤ sp_at n i) : sp_rt n f p C = k := by
  rcases sp_rt_spec n f p C h.1 with ⟨-, g⟩ | ⟨e1, e2, e3, g⟩
  · exact absurd h1 (g k hk h0)
  · exact h.2.2.2 _ _ e1 hk (Nat.le_antisymm (g k hk h0 h1) (hm _ e1 e2 e3))
theorem sp_lf_of {C : Nat} {n : Nat → Int32} (h : sp_ws C n) {f p k : Nat} (hk : k < C) (h0 : sp_f n k f = 0) (h1 : sp_at n k ≤ p) (hm : ∀ i, i < C → sp_f n i f = 0 → sp_at n i ≤ p → sp_at n i ≤ sp_at n k) : sp_lf n f p C = k := by
  rcases sp_lf_spec n f p C h.1 with ⟨-, g⟩ | ⟨e1, e2, e3, g⟩
  · exact absurd h1 (g k hk h0)
  · exact h.2.2.2 _ _ e1 hk (Nat.le_antisymm (hm _ e1 e2 e3) (g k hk h0 h1))
theorem sp_rt_no {C : Nat} {n : Nat → Int32} (hC : C ≤ 8) {f p : Nat} (hm : ∀ i, i < C → sp_f n i f = 0 → ¬ p ≤ sp_at n i) : sp_rt n f p C = 99 := by
  rcases sp_rt_spec n f p C hC with ⟨g, -⟩ | ⟨e1, e2, e3, g⟩
  · exact g
  · exact absurd e3 (hm _ e1 e2)
theorem sp_lf_no {C : Nat} {n : Nat → Int32} (hC : C ≤ 8) {f p : Nat} (hm : ∀ i, i < C → sp_f n i f = 0 → ¬ sp_at n i ≤ p) : sp_lf n f p C = 99 := by
  rcases sp_lf_spec n f p C hC with ⟨g, -⟩ | ⟨e1, e2, e3, g⟩
  · exact g
  · exact absurd e3 (hm _ e1 e2)
/-- going on one place to the right -/
theorem sp_rt_no1 {C : Nat} {n : Nat → Int32} (hC : C ≤ 8) {f p : Nat} (h : sp_rt n f p C = 99) : sp_rt n f (p + 1) C = 99 := by
  refine sp_rt_no hC (fun i hi h0 h1 => ?_)
  rcases sp_rt_spec n f p C hC with ⟨-, g⟩ | ⟨e1, -⟩
  · exact g i hi h0 (by omega)
  · omega
theorem sp_rt_k1 {C : Nat} {n : Nat → Int32} (hw : sp_ws C n) {f p : Nat} (h : sp_rt n f p C ≠ 99) (h1 : p + 1 ≤ sp_at n (sp_rt n f p C)) : sp_rt n f (p + 1) C = sp_rt n f p C := by
  rcases sp_rt_spec n f p C hw.1 with ⟨g, -⟩ | ⟨e1, e2, e3, g⟩
  · exact absurd g h
  · exact sp_rt_of hw e1 e2 h1 (fun i hi h0 h9 => g i hi h0 (by omega))
theorem sp_lf_here {C : Nat} {n : Nat → Int32} (hw : sp_ws C n) {f p : Nat} (h : sp_rt n f p C ≠ 99) (h1 : sp_at n (sp_rt n f p C) = p) : sp_lf n f p C = sp_rt n f p C := by
  rcases sp_rt_spec n f p C hw.1 with ⟨g, -⟩ | ⟨e1, e2, e3, g⟩
  · exact absurd g h
  · exact sp_lf_of hw e1 e2 (by omega) (fun i hi h0 h9 => by omega)
theorem sp_lf_on {C : Nat} {n : Nat → Int32} (hw : sp_ws C n) {f p : Nat} (h : sp_rt n f (p + 1) C = 99 ∨ sp_at n (sp_rt n f (p + 1) C) ≠ p + 1) : sp_lf n f (p + 1) C = sp_lf n f p C := by
  have hC8 := hw.1
  have key : ∀ i, i < C → sp_f n i f = 0 → sp_at n i ≠ p + 1 := by
    intro i hi h0 h9
    rcases sp_rt_spec n f (p + 1) C hw.1 with ⟨-, g⟩ | ⟨e1, e2, e3, g⟩
    · exact g i hi h0 (by omega)
    · have := g i hi h0 (by omega)
      rcases h with h | h
      · omega
      · omega
  rcases sp_lf_spec n f p C hw.1 with ⟨g, g2⟩ | ⟨e1, e2, e3, g⟩
  · rw [g]
    exact sp_lf_no hw.1 (fun i hi h0 h9 => g2 i hi h0 (by have := key i hi h0; omega))
  · exact sp_lf_of hw e1 e2 (by omega) (fun i hi h0 h9 => g i hi h0 (by have := key i hi h0; omega))
theorem sp_lf_0 {C : Nat} {n : Nat → Int32} (hw : sp_ws C n) {f : Nat} (h : sp_rt n f 0 C = 99 ∨ sp_at n (sp_rt n f 0 C) ≠ 0) : sp_lf n f 0 C = 99 := by
  have hC8 := hw.1
  refine sp_lf_no hw.1 (fun i hi h0 h9 => ?_)
  rcases sp_rt_spec n f 0 C hw.1 with ⟨-, g⟩ | ⟨e1, e2, e3, g⟩
  · exact g i hi h0 (Nat.zero_le _)
  · have := g i hi h0 (Nat.zero_le _)
    rcases h with h | h
    · omega
    · omega
/-! BRIDGES -/
/-- bridge b of the memory is the row n with C wires (its tasks aside) -/
def sp_lw (n : Nat → Int32) (k f : Nat) : Int32 := if sp_f n k 7 = -6 then 0 else sp_f n k f
def rb (C : Nat) (S : Mem) (b : Nat) (n : Nat → Int32) : Prop :=
  S (mm_B b) 3 = n 3 ∧ S (mm_B b) 4 = n 0 ∧ S (mm_B b) 5 = n 1 ∧ S (mm_B b) 6 = n 2 ∧ S (mm_B b) 7 = n 4 ∧ S (mm_B b) 8 = n 5 ∧
  (∀ p, p < 20 → S (mm_L b) p = n (10 + p)) ∧ (∀ p, p < 20 → S (mm_A b) p = sp_wa n p C) ∧
  ∀ k, k < C → S (mm_W b k) 0 = sp_f n k 0 ∧ S (mm_W b k) 1 = sp_f n k 1 ∧ S (mm_W b k) 2 = sp_f n k 2 ∧ S (mm_W b k) 3 = sp_f n k 3 ∧ S (mm_W b k) 4 = sp_f n k 4 ∧ S (mm_W b k) 6 = sp_f n k 5 ∧ S (mm_W b k) 7 = sp_f n k 6 ∧ S (mm_W b k) 8 = sp_f n k 7 ∧ S (mm_W b k) 9 = sp_lw n k 8 ∧ S (mm_W b k) 10 = sp_lw n k 9 ∧ S (mm_W b k) 11 = sp_f n k 10
/-- its tasks are current -/
def rt_ (C : Nat) (S : Mem) (b : Nat) (n : Nat → Int32) : Prop := ∀ k, k < C → S (mm_W b k) 5 = sp_tk n 5 C k
/-- nothing but bridge b has changed -/
def fr_ (b : Nat) (S S' : Mem) : Prop := ∀ j, (j < mm_B b ∨ mm_B b + 12 ≤ j) → S' j = S j
theorem fr_refl (b : Nat) (S : Mem) : fr_ b S S := fun _ _ => rfl
theorem fr_trans {b : Nat} {S S1 S2 : Mem} (h : fr_ b S S1) (h2 : fr_ b S1 S2) : fr_ b S S2 := fun j hj => (h2 j hj).trans (h j hj)
theorem fr_wr {b j k : Nat} {S : Mem} {x : Int32} (h : mm_B b ≤ j) (h2 : j < mm_B b + 12) : fr_ b S (mm_wr S j k x) := fun a ha => mm_wr_orow S x (by omega)
/-- another bridge stands as it stood -/
theorem rb_fr {C b b' : Nat} {S S' : Mem} {n : Nat → Int32} (hb : b ≠ b') (hC : C ≤ 8) (h : fr_ b S S') (hr : rb C S b' n) : rb C S' b' n := by
  have e : ∀ j, mm_B b' ≤ j → j < mm_B b' + 12 → S' j = S j := fun j h1 h2 => h j (by unfold mm_B at *; omega)
  have e0 := e (mm_B b') (by unfold mm_B; omega) (by unfold mm_B; omega)
  have e1 := e (mm_L b') (by unfold mm_B mm_L; omega) (by unfold mm_B mm_L; omega)
  have e2 := e (mm_A b') (by unfold mm_B mm_A; omega) (by unfold mm_B mm_A; omega)
  unfold rb
  rw [e0, e1, e2]
  obtain ⟨h1, h2, h3, h4, h5, h6, h7, h8, h9⟩ := hr
  refine ⟨h1, h2, h3, h4, h5, h6, h7, h8, fun k hk => ?_⟩
  rw [e (mm_W b' k) (by unfold mm_B mm_W; omega) (by unfold mm_B mm_W; omega)]
  exact h9 k hk
theorem rt_fr {C b b' : Nat} {S S' : Mem} {n : Nat → Int32} (hb : b ≠ b') (hC : C ≤ 8) (h : fr_ b S S') (hr : rt_ C S b' n) : rt_ C S' b' n := by
  intro k hk
  rw [h (mm_W b' k) (by unfold mm_B mm_W; omega)]
  exact hr k hk
def sp_rf (G : gG) (b k : Nat) : Option Nat := if k = 99 then none else some (gad G (mm_W b k))
theorem sp_rf_cases (G : gG) (b k : Nat) : (k = 99 ∧ sp_rf G b k = none) ∨ (k ≠ 99 ∧ sp_rf G b k = some (gad G (mm_W b k))) := by
  by_cases h : k = 99
  · exact Or.inl ⟨h, by simp [sp_rf, h]⟩
  · exact Or.inr ⟨h, by simp [sp_rf, h]⟩
theorem sp_rt_lt {C : Nat} {z : Nat → Int32} (hC : C ≤ 8) {f p : Nat} (h : sp_rt z f p C ≠ 99) : sp_rt z f p C < C := by
  rcases sp_rt_spec z f p C hC with ⟨g, -⟩ | ⟨e1, -⟩
  · exact absurd g h
  · exact e1
theorem sp_lf_lt {C : Nat} {z : Nat → Int32} (hC : C ≤ 8) {f p : Nat} (h : sp_lf z f p C ≠ 99) : sp_lf z f p C < C := by
  rcases sp_lf_spec z f p C hC with ⟨g, -⟩ | ⟨e1, -⟩
  · exact absurd g h
  · exact e1
theorem sp_lf_le {C : Nat} {z : Nat → Int32} (hC : C ≤ 8) {f p : Nat} (h : sp_lf z f p C ≠ 99) : sp_at z (sp_lf z f p C) ≤ p := by
  rcases sp_lf_spec z f p C hC with ⟨g, -⟩ | ⟨e1, e2, e3, -⟩
  · exact absurd g h
  · exact e3
theorem sp_rt_ge {C : Nat} {z : Nat → Int32} (hC : C ≤ 8) {f p : Nat} (h : sp_rt z f p C ≠ 99) : p ≤ sp_at z (sp_rt z f p C) := by
  rcases sp_rt_spec z f p C hC with ⟨g, -⟩ | ⟨e1, e2, e3, -⟩
  · exact absurd g h
  · exact e3
/-- only tasks of bridge b have changed -/
def f5_ (C b : Nat) (S S' : Mem) : Prop := ∀ j k, (∀ w, w < C → ¬ (j = mm_W b w ∧ k = 5)) → S' j k = S j k
theorem f5_refl (C b : Nat) (S : Mem) : f5_ C b S S := fun _ _ _ => rfl
theorem f5_wr {C b w : Nat} {S S' : Mem} (h : f5_ C b S S') (hw : w < C) (x : Int32) : f5_ C b S (mm_wr S' (mm_W b w) 5 x) := by
  intro j k hj
  have := hj w hw
  rw [mm_wr_eq, if_neg this]
  exact h j k hj
theorem f5_fr {C b : Nat} {S S' : Mem} (hC : C ≤ 8) (h : f5_ C b S S') : fr_ b S S' := by
  intro j hj
  funext k
  refine h j k (fun w hw e => ?_)
  have := e.1
  unfold mm_W mm_B at *
  omega
theorem f5_rb {C b : Nat} {S S' : Mem} {z : Nat → Int32} (hC : C ≤ 8) (h : f5_ C b S S') (hr : rb C S b z) : rb C S' b z := by
  have e : ∀ j k, k ≠ 5 → S' j k = S j k := fun j k hk => h j k (fun w hw e => hk e.2)
  have e2 : ∀ j k, (j < mm_W b 0) → S' j k = S j k := fun j k hj => h j k (fun w hw e => by have := e.1; unfold mm_W at *; omega)
  obtain ⟨h1, h2, h3, h4, h5, h6, h7, h8, h9⟩ := hr
  refine ⟨(e2 _ _ (by unfold mm_B mm_W; omega)).trans h1, (e2 _ _ (by unfold mm_B mm_W; omega)).trans h2, (e2 _ _ (by unfold mm_B mm_W; omega)).trans h3, (e2 _ _ (by unfold mm_B mm_W; omega)).trans h4, (e2 _ _ (by unfold mm_B mm_W; omega)).trans h5, (e2 _ _ (by unfold mm_B mm_W; omega)).trans h6, fun p hp => (e2 _ _ (by unfold mm_L mm_W; omega)).trans (h7 p hp), fun p hp => (e2 _ _ (by unfold mm_A mm_W; omega)).trans (h8 p hp), fun k hk => ?_⟩
  obtain ⟨g1, g2, g3, g4, g5, g6, g7, g8, g9, g10, g11⟩ := h9 k hk
  exact ⟨(e _ _ (by decide)).trans g1, (e _ _ (by decide)).trans g2, (e _ _ (by decide)).trans g3, (e _ _ (by decide)).trans g4, (e _ _ (by decide)).trans g5, (e _ _ (by decide)).trans g6, (e _ _ (by decide)).trans g7, (e _ _ (by decide)).trans g8, (e _ _ (by decide)).trans g9, (e _ _ (by decide)).trans g10, (e _ _ (by decide)).trans g11⟩
theorem sp_T0 (z : Nat → Int32) (f C w : Nat) : sp_T z f C w 0 = 0 := rfl
theorem vp_20 {p : Nat} (h : p < 20) : vp_in (nI p) 20 := vp_in_nI h (by decide)
theorem vp_8 {p : Nat} (h : p < 8) : vp_in (nI p) 8 := vp_in_nI h (by decide)
theorem cl_n {p : Nat} (h : p < 1000) : (nI p).toNatClampNeg = p := nI_clamp (by omega)
theorem sp_ltN {N q : Nat} {x : Int32} (hN : N < 2 ^ 31) (hq : q ≤ N) (e : x = nI q) (c : ¬ nI N ≤ x) : q < N := by
  rcases Nat.lt_or_ge q N with h | h
  · exact h
  · exact absurd (by rw [e]; exact nI_le h (by omega)) c
theorem sp_geN {N q : Nat} {x : Int32} (hN : N < 2 ^ 31) (hq : q ≤ N) (e : x = nI q) (c : nI N ≤ x) : q = N := by
  rcases Nat.lt_or_ge q N with h | h
  · exact absurd (e ▸ c) (nI_ge h hN)
  · omega
def sp_wi (C : Nat) (x : Int32) : Nat := if 0 ≤ x ∧ x < nI C then x.toNatClampNeg else 99
theorem sp_wi_in {C : Nat} {x : Int32} (hC : C ≤ 8) (h0 : ¬ x < 0) (h1 : ¬ nI C ≤ x) : sp_wi C x = x.toNatClampNeg ∧ x.toNatClampNeg < C ∧ x = nI x.toNatClampNeg := by
  have h2 : 0 ≤ x := Int32.not_lt.mp h0
  have h3 : x < nI C := Int32.not_le.mp h1
  refine ⟨by unfold sp_wi; rw [if_pos ⟨h2, h3⟩], ?_, ?_⟩
  · have h4 := Int32.le_iff_toInt_le.mp h2
    have h5 := Int32.lt_iff_toInt_lt.mp h3
    rw [nI_toInt (by omega)] at h5
    have h6 : (0 : Int32).toInt = 0 := (by decide)
    have h7 := sp_cl (x := x) (by omega)
    omega
  · have h4 := Int32.le_iff_toInt_le.mp h2
    have h6 : (0 : Int32).toInt = 0 := (by decide)
    exact sp_nI (by omega)
theorem sp_wi_lo {C : Nat} {x : Int32} (h0 : x < 0) : sp_wi C x = 99 := by
  unfold sp_wi
  rw [if_neg (fun h => Int32.not_lt.mpr h.1 h0)]
theorem sp_wi_hi {C : Nat} {x : Int32} (h0 : nI C ≤ x) : sp_wi C x = 99 := by
  unfold sp_wi
  rw [if_neg (fun h => Int32.not_le.mpr h.2 h0)]
theorem sp_vin {x : Int32} {N : Nat} (h : x = nI x.toNatClampNeg) (h2 : x.toNatClampNeg < N) (hN : N < 2 ^ 31) : vp_in x N := by
  rw [h]; exact vp_in_nI h2 hN
/-- the search to the right goes on one place -/
theorem sp_nw {C : Nat} {z : Nat → Int32} {f p q : Nat} (h : ∀ k, k < C → sp_f z k f = 0 → p ≤ sp_at z k → ¬ sp_at z k < q) (h2 : ∀ k, k < C → sp_f z k f = 0 → p ≤ sp_at z k → sp_at z k ≠ q) : ∀ k, k < C → sp_f z k f = 0 → p ≤ sp_at z k → ¬ sp_at z k < q + 1 := by
  intro k hk h0 h1 h3
  have := h k hk h0 h1
  have := h2 k hk h0 h1
  omega
theorem sp_ctb_nn {z : Nat → Int32} {f C p w : Nat} (hL : sp_lf z f p C = 99) (hR : sp_rt z f p C = 99) : sp_ctb z f C p w = 0 := by
  unfold sp_ctb; simp [hL, hR]
theorem sp_ctb_nr {z : Nat → Int32} {f C p w : Nat} (hL : sp_lf z f p C = 99) (hR : sp_rt z f p C ≠ 99) : sp_ctb z f C p w = if w = sp_rt z f p C then 10 * z (10 + p) else 0 := by
  unfold sp_ctb; simp [hL, hR]
theorem sp_ctb_rn {z : Nat → Int32} {f C p w : Nat} (hL : sp_lf z f p C ≠ 99) (hR : sp_rt z f p C = 99) : sp_ctb z f C p w = if w = sp_lf z f p C then 10 * z (10 + p) else 0 := by
  unfold sp_ctb; simp [hL, hR]
theorem sp_ctb_eq {z : Nat → Int32} {f C p w : Nat} (hL : sp_lf z f p C ≠ 99) (he : sp_lf z f p C = sp_rt z f p C) : sp_ctb z f C p w = if w = sp_lf z f p C then 10 * z (10 + p) else 0 := by
  unfold sp_ctb; rw [if_neg (fun h => h.2.2 he), if_pos hL]
theorem sp_ctb_ne {z : Nat → Int32} {f C p w : Nat} (hL : sp_lf z f p C ≠ 99) (hR : sp_rt z f p C ≠ 99) (he : sp_lf z f p C ≠ sp_rt z f p C) : sp_ctb z f C p w = (if w = sp_rt z f p C then 10 * (z (10 + p) * (nI p - sp_f z (sp_lf z f p C) 0) / (sp_f z (sp_rt z f p C) 0 - sp_f z (sp_lf z f p C) 0))
     else if w = sp_lf z f p C then 10 * (z (10 + p) - z (10 + p) * (nI p - sp_f z (sp_lf z f p C) 0) / (sp_f z (sp_rt z f p C) 0 - sp_f z (sp_lf z f p C) 0)) else 0) := by
  unfold sp_ctb; rw [if_pos ⟨hL, hR, he⟩]
theorem sp_mulsub (a b c : Int32) : a * b - a * c = a * (b - c) := by grind
/-- what 'share' does to the tasks, in its four cases -/
def sp_sh1 (S : Mem) (b p k : Nat) : Mem := mm_wr S (mm_W b k) 5 (S (mm_W b k) 5 + 10 * S (mm_L b) p)
def sp_pt2 (S : Mem) (b p kl kr : Nat) : Int32 := if S (mm_W b kr) 0 - S (mm_W b kl) 0 ≤ 0 then 0 else S (mm_L b) p * (nI p - S (mm_W b kl) 0) / (S (mm_W b kr) 0 - S (mm_W b kl) 0)
def sp_sh2 (S : Mem) (b p kl kr : Nat) : Mem := mm_wr (mm_wr S (mm_W b kr) 5 (S (mm_W b kr) 5 + 10 * sp_pt2 S b p kl kr)) (mm_W b kl) 5 (mm_wr S (mm_W b kr) 5 (S (mm_W b kr) 5 + 10 * sp_pt2 S b p kl kr) (mm_W b kl) 5 + (10 * S (mm_L b) p - 10 * sp_pt2 S b p kl kr))
theorem sp_sh1_T {C b p k : Nat} {z : Nat → Int32} {S : Mem} (hk : k < C) (hl : S (mm_L b) p = z (10 + p)) (hT : ∀ w, w < C → S (mm_W b w) 5 = sp_T z 5 C w p) (hc : ∀ w, w < C → sp_ctb z 5 C p w = if w = k then 10 * z (10 + p) else 0) : ∀ w, w < C → sp_sh1 S b p k (mm_W b w) 5 = sp_T z 5 C w (p + 1) := by
  intro w hw
  unfold sp_sh1
  rw [sp_T, hc w hw, ← hT w hw]
  by_cases e : w = k
  · subst e
    rw [mm_wr_s, if_pos rfl, hl]
  · rw [mm_wr_n _ _ (Or.inl (mm_W_ne2 e)), if_neg e, Int32.add_zero]
theorem sp_sh2_eq {C b p k : Nat} {z : Nat → Int32} {S : Mem} (hk : k < C) (hl : S (mm_L b) p = z (10 + p)) (hT : ∀ w, w < C → S (mm_W b w) 5 = sp_T z 5 C w p) (hc : ∀ w, w < C → sp_ctb z 5 C p w = if w = k then 10 * z (10 + p) else 0) : ∀ w, w < C → sp_sh2 S b p k k (mm_W b w) 5 = sp_T z 5 C w (p + 1) := by
  intro w hw
  have e0 : sp_pt2 S b p k k = 0 := by unfold sp_pt2; rw [Int32.sub_self, if_pos (by decide)]
  unfold sp_sh2
  rw [e0, sp_T, hc w hw, ← hT w hw]
  by_cases e : w = k
  · subst e
    rw [mm_wr_s, mm_wr_s, if_pos rfl, hl]
    grind
  · rw [mm_wr_n _ _ (Or.inl (mm_W_ne2 e)), mm_wr_n _ _ (Or.inl (mm_W_ne2 e)), if_neg e, Int32.add_zero]
theorem sp_sh2_ne {C b p kl kr : Nat} {z : Nat → Int32} {S : Mem} (hne : kl ≠ kr) (hl : S (mm_L b) p = z (10 + p)) (h1 : S (mm_W b kl) 0 = sp_f z kl 0) (h2 : S (mm_W b kr) 0 = sp_f z kr 0) (hpos : ¬ sp_f z kr 0 - sp_f z kl 0 ≤ 0) (hT : ∀ w, w < C → S (mm_W b w) 5 = sp_T z 5 C w p)
    (hc : ∀ w, w < C → sp_ctb z 5 C p w = (if w = kr then 10 * (z (10 + p) * (nI p - sp_f z kl 0) / (sp_f z kr 0 - sp_f z kl 0)) else if w = kl then 10 * (z (10 + p) - z (10 + p) * (nI p - sp_f z kl 0) / (sp_f z kr 0 - sp_f z kl 0)) else 0)) : ∀ w, w < C → sp_sh2 S b p kl kr (mm_W b w) 5 = sp_T z 5 C w (p + 1) := by
  intro w hw
  have e0 : sp_pt2 S b p kl kr = z (10 + p) * (nI p - sp_f z kl 0) / (sp_f z kr 0 - sp_f z kl 0) := by unfold sp_pt2; rw [h1, h2, if_neg hpos, hl]
  unfold sp_sh2
  rw [e0, sp_T, hc w hw, ← hT w hw, hl]
  by_cases e : w = kr
  · subst e
    rw [mm_wr_n _ _ (Or.inl (mm_W_ne2 (fun h => hne h.symm))), mm_wr_s, if_pos rfl]
  · rw [if_neg e]
    by_cases e2 : w = kl
    · subst e2
      rw [mm_wr_s, mm_wr_n _ _ (Or.inl (mm_W_ne2 e)), if_pos rfl, sp_mulsub]
    · rw [mm_wr_n _ _ (Or.inl (mm_W_ne2 e2)), mm_wr_n _ _ (Or.inl (mm_W_ne2 e)), if_neg e2, Int32.add_zero]
theorem sp_sh1_f5 {C b p k : Nat} {S S' : Mem} (h : f5_ C b S S') (hk : k < C) : f5_ C b S (sp_sh1 S' b p k) := f5_wr h hk _
theorem sp_sh2_f5 {C b p kl kr : Nat} {S S' : Mem} (h : f5_ C b S S') (hk : kl < C) (hk2 : kr < C) : f5_ C b S (sp_sh2 S' b p kl kr) := f5_wr (f5_wr h hk2 _) hk _
theorem sp_pos {a b : Nat} (ha : a < 1000) (hb : b < 1000) (h : a < b) : ¬ nI b - nI a ≤ 0 := by
  rw [Int32.le_iff_toInt_le, pk_sub_toInt (by omega) (by omega)]
  have h6 : (0 : Int32).toInt = 0 := (by decide)
  omega
end
section
set_option maxRecDepth 100000 in
set_option maxHeartbeats 4000000 in
theorem c_X0_wireNumbered (l : Launch) (G : gG) {C b : Nat} (hb : b < 11) (S : Mem) (hC : C ≤ 8) (h3 : S (mm_B b) 3 = nI C) (x : Int32) : mm_C l G yX0_wireNumbered cX0_wireNumbered 2 (some (.object "SingingWires$Wire")) (mm_rm 0 0) [.ref (gad G (mm_B b)), .int x] S (mm_Qq G (fun r S2 => S2 = S ∧ r = sp_rf G b (sp_wi C x))) := by
  refine mm_ofV (own := RX0) (by decide +kernel) rfl (Nat.le_of_ble_eq_true rfl) (ls0 := [(0, .ref (gad G (mm_B b))), (1, .int x)]) rfl ?_
  refine vv_iload_n (pc := 0) 1 dX0_wireNumbered_0 rfl rfl ?_
  refine vv_if_lt (pc := 1) (tgt := 21) dX0_wireNumbered_1 (by decide) (fun c1 => ?_) (fun c1 => ?_)
  -- t@1 path t
  · refine vv_null (pc := 21) dX0_wireNumbered_21 ?_
    refine vr_qN (pc := 22) dX0_wireNumbered_22 ?_
    exact ⟨rfl, by rw [sp_wi_lo c1]; rfl⟩
  -- f@1 path f
  · refine vv_iload_n (pc := 4) 1 dX0_wireNumbered_4 rfl rfl ?_
    refine vv_aload_n (pc := 5) 0 dX0_wireNumbered_5 rfl rfl ?_
    refine vg_X0_wireCount (pc := 6) (by assumption) mw_F_X0_38 dX0_wireNumbered_6 ?_
    refine vv_icmp_ge (pc := 9) (tgt := 21) dX0_wireNumbered_9 (by decide) (fun c9 => ?_) (fun c9 => ?_)
    -- t@9 path ft
    · refine vv_null (pc := 21) dX0_wireNumbered_21 ?_
      refine vr_qN (pc := 22) dX0_wireNumbered_22 ?_
      exact ⟨rfl, by rw [h3] at c9; rw [sp_wi_hi c9]; rfl⟩
    -- f@9 path ff
    · rw [h3] at c9
      obtain ⟨w1, w2, w3⟩ := sp_wi_in hC c1 c9
      refine vv_aload_n (pc := 12) 0 dX0_wireNumbered_12 rfl rfl ?_
      refine vg_X0_wires (pc := 13) (by assumption) mw_F_X0_20 dX0_wireNumbered_13 ?_
      refine vv_iload_n (pc := 16) 1 dX0_wireNumbered_16 rfl rfl ?_
      refine vl_R (pc := 17) (by assumption) (sp_vin w3 (by omega) (by decide)) dX0_wireNumbered_17 ?_
      refine vv_goto (pc := 18) (tgt := 22) dX0_wireNumbered_18 (by decide) ?_
      refine vr_q (pc := 22) dX0_wireNumbered_22 ?_
      exact ⟨rfl, by rw [w1]; simp [sp_rf]; omega⟩
set_option maxRecDepth 100000 in
set_option maxHeartbeats 4000000 in
theorem c_X0_nextWhole (l : Launch) (G : gG) {C b : Nat} {z : Nat → Int32} (hb : b < 11) (S : Mem) (hw : sp_ws C z) (hr : rb C S b z) {p : Nat} {x : Int32} (hx : x = nI p) (hp : p < 1000) : mm_C l G yX0_nextWhole cX0_nextWhole 4 (some (.object "SingingWires$Wire")) (mm_rm 0 0) [.ref (gad G (mm_B b)), .int x] S (mm_Qq G (fun r S2 => S2 = S ∧ r = sp_rf G b (sp_rt z 5 p C))) := by
  subst hx
  obtain ⟨g1, g2, g3, g4, g5, g6, g7, g8, g9⟩ := id hr
  have hC := hw.1
  refine mm_ofV (own := RX0) (by decide +kernel) rfl (Nat.le_of_ble_eq_true rfl) (ls0 := [(0, .ref (gad G (mm_B b))), (1, .int (nI p))]) rfl ?_
  refine vv_iconst (pc := 0) (v := 0) dX0_nextWhole_0 (by decide) ?_
  refine vv_topi (fun x2p1 e2p1 => ?_)
  refine vv_istore_n (pc := 1) (i := 2) (ls' := [(2, .int x2p1), (0, .ref (gad G (mm_B b))), (1, .int (nI p))]) dX0_nextWhole_1 rfl (by decide) rfl ?_
  have lp2 : ∀ (n : Nat) (q : Nat) (x2 : Int32), 21 ≤ n + q → q ≤ 20 → x2 = nI q → (∀ k, k < C → sp_f z k 5 = 0 → p ≤ sp_at z k → ¬ sp_at z k < q) → mm_V l G RX0 cX0_nextWhole 4 (some (.object "SingingWires$Wire")) (mm_rm 0 0) 0 0 (fun _ => True) (fun _ => mm_F G) (mm_Qf G (mm_Qq G (fun r S2 => S2 = S ∧ r = sp_rf G b (sp_rt z 5 p C)))) S 2 [(0, .ref (gad G (mm_B b))), (1, .int (nI p)), (2, .int x2)] [] := by
    intro n
    induction n with
    | zero =>
      intro q x2 hn hq e2 hi
      exact absurd hn (by omega)
    | succ n ih =>
      intro q x2 hn hq e2 hi
      refine vv_iload_n (pc := 2) 2 dX0_nextWhole_2 rfl rfl ?_
      refine vv_bipush (pc := 3) (v := 20) dX0_nextWhole_3 (by decide) ?_
      refine vv_icmp_ge (pc := 5) (tgt := 57) dX0_nextWhole_5 (by decide) (fun c5 => ?_) (fun c5 => ?_)
      -- t@5 path L2t
      · refine vv_null (pc := 57) dX0_nextWhole_57 ?_
        refine vr_qN (pc := 58) dX0_nextWhole_58 ?_
        refine ⟨rfl, ?_⟩
        have hq20 := sp_geN (N := 20) (by decide) hq e2 c5
        rw [sp_rt_no hC (fun i hi2 h0 h1 => hi i hi2 h0 h1 (by have := (hw.2.2.1 i hi2).2; omega))]
        rfl
      -- f@5 path L2f
      · have hq2 : q < 20 := sp_ltN (N := 20) (by decide) hq e2 c5
        refine vv_aload_n (pc := 8) 0 dX0_nextWhole_8 rfl rfl ?_
        refine vg_X0_wireAt (pc := 9) (by assumption) mw_F_X0_15 dX0_nextWhole_9 ?_
        refine vv_iload_n (pc := 12) 2 dX0_nextWhole_12 rfl rfl ?_
        refine vl_A (pc := 13) (by assumption) (by rw [e2]; exact vp_20 hq2) dX0_nextWhole_13 ?_
        refine vv_topi (fun x3p14 e3p14 => ?_)
        refine vv_istore_n (pc := 14) (i := 3) (ls' := [(3, .int x3p14), (0, .ref (gad G (mm_B b))), (1, .int (nI p)), (2, .int x2)]) dX0_nextWhole_14 rfl (by decide) rfl ?_
        have hw3 : x3p14 = sp_wa z q C := by rw [e3p14, e2, cl_n (by omega)]; exact g8 q hq2
        have hwa := sp_wa_spec (n := z) q C (Nat.le_refl _)
        refine vv_iload_n (pc := 15) 3 dX0_nextWhole_15 rfl rfl ?_
        refine vv_iload_n (pc := 16) 2 dX0_nextWhole_16 rfl rfl ?_
        refine vv_icmp_lt (pc := 17) (tgt := 51) dX0_nextWhole_17 (by decide) (fun c17 => ?_) (fun c17 => ?_)
        -- t@17 path L2ft
        · obtain ⟨x2p51, e2p51⟩ : ∃ y : Int32, y = x2 + 1 := ⟨_, rfl⟩
          refine vv_iinc (pc := 51) (q := 3) (v := x2p51) (ls' := [(2, .int x2p51), (3, .int x3p14), (0, .ref (gad G (mm_B b))), (1, .int (nI p))]) dX0_nextWhole_51 rfl (by rw [e2p51]; rfl) (by decide) rfl ?_
          refine vv_goto (pc := 54) (tgt := 2) dX0_nextWhole_54 (by decide) ?_
          have hne : ∀ k, k < C → sp_f z k 5 = 0 → p ≤ sp_at z k → sp_at z k ≠ q := by
            intro k hk h0 h1 h9
            rw [e2, nI_ltI (by omega) (by omega)] at c17
            omega
          refine vv_sub [2, 3, 0] (ls' := [(0, _), (1, _), (2, _)]) rfl ?_
          exact ih (q + 1) x2p51 (by omega) (by omega) (by rw [e2p51, e2]; exact nI_1 q) (sp_nw hi hne)
        -- f@17 path L2ff
        · refine vv_iload_n (pc := 20) 0 dX0_nextWhole_20 rfl rfl ?_
          refine vv_if_lt (pc := 21) (tgt := 51) dX0_nextWhole_21 (by decide) (fun c21 => ?_) (fun c21 => ?_)
          -- t@21 path L2fft
          · obtain ⟨x2p51, e2p51⟩ : ∃ y : Int32, y = x2 + 1 := ⟨_, rfl⟩
            refine vv_iinc (pc := 51) (q := 3) (v := x2p51) (ls' := [(2, .int x2p51), (3, .int x3p14), (0, .ref (gad G (mm_B b))), (1, .int (nI p))]) dX0_nextWhole_51 rfl (by rw [e2p51]; rfl) (by decide) rfl ?_
            refine vv_goto (pc := 54) (tgt := 2) dX0_nextWhole_54 (by decide) ?_
            have hne : ∀ k, k < C → sp_f z k 5 = 0 → p ≤ sp_at z k → sp_at z k ≠ q := by
              intro k hk h0 h1 h9
              rcases hwa with ⟨-, h⟩ | ⟨k1, h8, h7, h6⟩
              · exact h k hk h9
              · rw [hw3, h7] at c21
                exact nI_pos (by omega) c21
            refine vv_sub [2, 3, 0] (ls' := [(0, _), (1, _), (2, _)]) rfl ?_
            exact ih (q + 1) x2p51 (by omega) (by omega) (by rw [e2p51, e2]; exact nI_1 q) (sp_nw hi hne)
          -- f@21 path L2fff
          · refine vv_iload_n (pc := 24) 0 dX0_nextWhole_24 rfl rfl ?_
            refine vv_aload_n (pc := 25) 1 dX0_nextWhole_25 rfl rfl ?_
            refine vg_X0_wireCount (pc := 26) (by assumption) mw_F_X0_38 dX0_nextWhole_26 ?_
            refine vv_icmp_ge (pc := 29) (tgt := 51) dX0_nextWhole_29 (by decide) (fun c29 => ?_) (fun c29 => ?_)
            -- t@29 path L2ffft
            · obtain ⟨x2p51, e2p51⟩ : ∃ y : Int32, y = x2 + 1 := ⟨_, rfl⟩
              refine vv_iinc (pc := 51) (q := 3) (v := x2p51) (ls' := [(2, .int x2p51), (3, .int x3p14), (0, .ref (gad G (mm_B b))), (1, .int (nI p))]) dX0_nextWhole_51 rfl (by rw [e2p51]; rfl) (by decide) rfl ?_
              refine vv_goto (pc := 54) (tgt := 2) dX0_nextWhole_54 (by decide) ?_
              have hne : ∀ k, k < C → sp_f z k 5 = 0 → p ≤ sp_at z k → sp_at z k ≠ q := by
                intro k hk h0 h1 h9
                rcases hwa with ⟨-, h⟩ | ⟨k1, h8, h7, h6⟩
                · exact h k hk h9
                · rw [hw3, h7, g1, hw.2.1] at c29
                  exact nI_ge h8 (by omega) c29
              refine vv_sub [2, 3, 0] (ls' := [(0, _), (1, _), (2, _)]) rfl ?_
              exact ih (q + 1) x2p51 (by omega) (by omega) (by rw [e2p51, e2]; exact nI_1 q) (sp_nw hi hne)
            -- f@29 path L2ffff
            · rw [g1, hw.2.1] at c29
              obtain ⟨w1, w2, w3⟩ := sp_wi_in hC c21 c29
              have w8 : x3p14.toNatClampNeg < 8 := by omega
              refine vv_aload_n (pc := 32) 1 dX0_nextWhole_32 rfl rfl ?_
              refine vg_X0_wires (pc := 33) (by assumption) mw_F_X0_20 dX0_nextWhole_33 ?_
              refine vv_iload_n (pc := 36) 0 dX0_nextWhole_36 rfl rfl ?_
              refine vl_R (pc := 37) (by assumption) (sp_vin w3 w8 (by decide)) dX0_nextWhole_37 ?_
              refine vg_X3_broken (pc := 38) (by assumption) (by assumption) mw_F_X0_61 dX0_nextWhole_38 ?_
              refine vv_if_ne (pc := 41) (tgt := 51) dX0_nextWhole_41 (by decide) (fun c41 => ?_) (fun c41 => ?_)
              -- t@41 path L2fffft
              · obtain ⟨x2p51, e2p51⟩ : ∃ y : Int32, y = x2 + 1 := ⟨_, rfl⟩
                refine vv_iinc (pc := 51) (q := 3) (v := x2p51) (ls' := [(2, .int x2p51), (3, .int x3p14), (0, .ref (gad G (mm_B b))), (1, .int (nI p))]) dX0_nextWhole_51 rfl (by rw [e2p51]; rfl) (by decide) rfl ?_
                refine vv_goto (pc := 54) (tgt := 2) dX0_nextWhole_54 (by decide) ?_
                have hne : ∀ k, k < C → sp_f z k 5 = 0 → p ≤ sp_at z k → sp_at z k ≠ q := by
                  intro k hk h0 h1 h9
                  rcases hwa with ⟨-, h⟩ | ⟨k1, h8, h7, h6⟩
                  · exact h k hk h9
                  · have e := hw.2.2.2 k k1 hk h8 (by omega)
                    subst e
                    rw [hw3, h7, cl_n (by omega)] at c41
                    exact c41 ((g9 k hk).2.2.2.2.2.1.trans h0)
                refine vv_sub [2, 3, 0] (ls' := [(0, _), (1, _), (2, _)]) rfl ?_
                exact ih (q + 1) x2p51 (by omega) (by omega) (by rw [e2p51, e2]; exact nI_1 q) (sp_nw hi hne)
              -- f@41 path L2fffff
              · refine vv_aload_n (pc := 44) 1 dX0_nextWhole_44 rfl rfl ?_
                refine vg_X0_wires (pc := 45) (by assumption) mw_F_X0_20 dX0_nextWhole_45 ?_
                refine vv_iload_n (pc := 48) 0 dX0_nextWhole_48 rfl rfl ?_
                refine vl_R (pc := 49) (by assumption) (sp_vin w3 w8 (by decide)) dX0_nextWhole_49 ?_
                refine vr_q (pc := 50) dX0_nextWhole_50 ?_
                refine ⟨rfl, ?_⟩
                rcases hwa with ⟨h7, -⟩ | ⟨k, h8, h7, h6⟩
                · rw [hw3, h7] at c21; exact absurd (by decide) c21
                · have hx3 : x3p14.toNatClampNeg = k := by rw [hw3, h7, cl_n (by omega)]
                  rw [hx3] at c41 ⊢
                  rw [e2, nI_ltI (by omega) (by omega)] at c17
                  rw [sp_rt_of hw h8 ((g9 k h8).2.2.2.2.2.1.symm.trans c41) (by omega) (fun i hi2 h0 h1 => by have := hi i hi2 h0 h1; omega)]
                  simp [sp_rf]; omega
  refine vv_sub [1, 2, 0] (ls' := [(0, _), (1, _), (2, _)]) rfl ?_
  exact lp2 21 0 x2p1 (by omega) (by omega) e2p1 (fun k _ _ _ h => absurd h (Nat.not_lt_zero _))
set_option maxRecDepth 100000 in
set_option maxHeartbeats 4000000 in
theorem c_X0_share_nn (l : Launch) (G : gG) {b : Nat} (hb : b < 11) (S : Mem) {p : Nat} {x : Int32} (hx : x = nI p) (hp : p < 20) : mm_C l G yX0_share cX0_share 7 (none) (mm_rm 0 0) [.ref (gad G (mm_B b)), .int x, .null, .null] S (mm_Qv G (fun S2 => S2 = S)) := by
  subst hx
  refine mm_ofV (own := RX0) (by decide +kernel) rfl (Nat.le_of_ble_eq_true rfl) (ls0 := [(0, .ref (gad G (mm_B b))), (1, .int (nI p)), (2, .null), (3, .null)]) rfl ?_
  refine vv_bipush (pc := 0) (v := 10) dX0_share_0 (by decide) ?_
  refine vv_aload_n (pc := 2) 0 dX0_share_2 rfl rfl ?_
  refine vg_X0_loads (pc := 3) (by assumption) mw_F_X0_9 dX0_share_3 ?_
  refine vv_iload_n (pc := 6) 1 dX0_share_6 rfl rfl ?_
  refine vl_L (pc := 7) (by assumption) (vp_20 hp) dX0_share_7 ?_
  refine vv_imul (pc := 8) dX0_share_8 ?_
  refine vv_topi (fun x4p9 e4p9 => ?_)
  refine vv_istore (pc := 9) (i := 4) (ls' := [(4, .int x4p9), (0, .ref (gad G (mm_B b))), (1, .int (nI p)), (2, .null), (3, .null)]) dX0_share_9 (by decide) rfl ?_
  refine vv_aload_nN (pc := 11) 3 dX0_share_11 rfl rfl ?_
  refine vv_ifnonnullN (pc := 12) dX0_share_12 ?_
  refine vv_aload_nN (pc := 15) 4 dX0_share_15 rfl rfl ?_
  refine vv_ifnullN (pc := 16) (tgt := 30) dX0_share_16 (by decide) ?_
  refine vr_v (pc := 30) dX0_share_30 ?_
  rfl
set_option maxRecDepth 100000 in
set_option maxHeartbeats 4000000 in
theorem c_X0_share_nr (l : Launch) (G : gG) {b : Nat} (hb : b < 11) (S : Mem) {p : Nat} {x : Int32} (hx : x = nI p) (hp : p < 20) {kr : Nat} (hkr : kr < 8) : mm_C l G yX0_share cX0_share 7 (none) (mm_rm 0 0) [.ref (gad G (mm_B b)), .int x, .null, .ref (gad G (mm_W b kr))] S (mm_Qv G (fun S2 => S2 = sp_sh1 S b p kr)) := by
  subst hx
  refine mm_ofV (own := RX0) (by decide +kernel) rfl (Nat.le_of_ble_eq_true rfl) (ls0 := [(0, .ref (gad G (mm_B b))), (1, .int (nI p)), (2, .null), (3, .ref (gad G (mm_W b kr)))]) rfl ?_
  refine vv_bipush (pc := 0) (v := 10) dX0_share_0 (by decide) ?_
  refine vv_aload_n (pc := 2) 0 dX0_share_2 rfl rfl ?_
  refine vg_X0_loads (pc := 3) (by assumption) mw_F_X0_9 dX0_share_3 ?_
  refine vv_iload_n (pc := 6) 1 dX0_share_6 rfl rfl ?_
  refine vl_L (pc := 7) (by assumption) (vp_20 hp) dX0_share_7 ?_
  refine vv_imul (pc := 8) dX0_share_8 ?_
  refine vv_topi (fun x4p9 e4p9 => ?_)
  refine vv_istore (pc := 9) (i := 4) (ls' := [(4, .int x4p9), (0, .ref (gad G (mm_B b))), (1, .int (nI p)), (2, .null), (3, .ref (gad G (mm_W b kr)))]) dX0_share_9 (by decide) rfl ?_
  refine vv_aload_nN (pc := 11) 3 dX0_share_11 rfl rfl ?_
  refine vv_ifnonnullN (pc := 12) dX0_share_12 ?_
  refine vv_aload_n (pc := 15) 4 dX0_share_15 rfl rfl ?_
  refine vv_ifnull (pc := 16) dX0_share_16 ?_
  refine vv_aload_n (pc := 19) 4 dX0_share_19 rfl rfl ?_
  refine vv_dup (pc := 20) dX0_share_20 rfl ?_
  refine vg_X3_task (pc := 21) (by assumption) (by assumption) mw_F_X0_122 dX0_share_21 ?_
  refine vv_iload (pc := 24) 0 dX0_share_24 rfl ?_
  refine vv_iadd (pc := 26) dX0_share_26 ?_
  refine vp_X3_task (pc := 27) (by assumption) (by assumption) mw_F_X0_122 dX0_share_27 ?_
  refine vr_v (pc := 30) dX0_share_30 ?_
  rw [e4p9, cl_n (by omega)]
  rfl
set_option maxRecDepth 100000 in
set_option maxHeartbeats 4000000 in
theorem c_X0_share_rn (l : Launch) (G : gG) {b : Nat} (hb : b < 11) (S : Mem) {p : Nat} {x : Int32} (hx : x = nI p) (hp : p < 20) {kl : Nat} (hkl : kl < 8) : mm_C l G yX0_share cX0_share 7 (none) (mm_rm 0 0) [.ref (gad G (mm_B b)), .int x, .ref (gad G (mm_W b kl)), .null] S (mm_Qv G (fun S2 => S2 = sp_sh1 S b p kl)) := by
  subst hx
  refine mm_ofV (own := RX0) (by decide +kernel) rfl (Nat.le_of_ble_eq_true rfl) (ls0 := [(0, .ref (gad G (mm_B b))), (1, .int (nI p)), (2, .ref (gad G (mm_W b kl))), (3, .null)]) rfl ?_
  refine vv_bipush (pc := 0) (v := 10) dX0_share_0 (by decide) ?_
  refine vv_aload_n (pc := 2) 0 dX0_share_2 rfl rfl ?_
  refine vg_X0_loads (pc := 3) (by assumption) mw_F_X0_9 dX0_share_3 ?_
  refine vv_iload_n (pc := 6) 1 dX0_share_6 rfl rfl ?_
  refine vl_L (pc := 7) (by assumption) (vp_20 hp) dX0_share_7 ?_
  refine vv_imul (pc := 8) dX0_share_8 ?_
  refine vv_topi (fun x4p9 e4p9 => ?_)
  refine vv_istore (pc := 9) (i := 4) (ls' := [(4, .int x4p9), (0, .ref (gad G (mm_B b))), (1, .int (nI p)), (2, .ref (gad G (mm_W b kl))), (3, .null)]) dX0_share_9 (by decide) rfl ?_
  refine vv_aload_n (pc := 11) 3 dX0_share_11 rfl rfl ?_
  refine vv_ifnonnull (pc := 12) (tgt := 31) dX0_share_12 (by decide) ?_
  refine vv_aload_nN (pc := 31) 4 dX0_share_31 rfl rfl ?_
  refine vv_ifnonnullN (pc := 32) dX0_share_32 ?_
  refine vv_aload_n (pc := 35) 3 dX0_share_35 rfl rfl ?_
  refine vv_dup (pc := 36) dX0_share_36 rfl ?_
  refine vg_X3_task (pc := 37) (by assumption) (by assumption) mw_F_X0_122 dX0_share_37 ?_
  refine vv_iload (pc := 40) 0 dX0_share_40 rfl ?_
  refine vv_iadd (pc := 42) dX0_share_42 ?_
  refine vp_X3_task (pc := 43) (by assumption) (by assumption) mw_F_X0_122 dX0_share_43 ?_
  refine vr_v (pc := 46) dX0_share_46 ?_
  rw [e4p9, cl_n (by omega)]
  rfl
set_option maxRecDepth 100000 in
set_option maxHeartbeats 4000000 in
theorem c_X0_share_rr (l : Launch) (G : gG) {b : Nat} (hb : b < 11) (S : Mem) {p : Nat} {x : Int32} (hx : x = nI p) (hp : p < 20) {kl kr : Nat} (hkl : kl < 8) (hkr : kr < 8) : mm_C l G yX0_share cX0_share 7 (none) (mm_rm 0 0) [.ref (gad G (mm_B b)), .int x, .ref (gad G (mm_W b kl)), .ref (gad G (mm_W b kr))] S (mm_Qv G (fun S2 => S2 = sp_sh2 S b p kl kr)) := by
  subst hx
  refine mm_ofV (own := RX0) (by decide +kernel) rfl (Nat.le_of_ble_eq_true rfl) (ls0 := [(0, .ref (gad G (mm_B b))), (1, .int (nI p)), (2, .ref (gad G (mm_W b kl))), (3, .ref (gad G (mm_W b kr)))]) rfl ?_
  refine vv_bipush (pc := 0) (v := 10) dX0_share_0 (by decide) ?_
  refine vv_aload_n (pc := 2) 0 dX0_share_2 rfl rfl ?_
  refine vg_X0_loads (pc := 3) (by assumption) mw_F_X0_9 dX0_share_3 ?_
  refine vv_iload_n (pc := 6) 1 dX0_share_6 rfl rfl ?_
  refine vl_L (pc := 7) (by assumption) (vp_20 hp) dX0_share_7 ?_
  refine vv_imul (pc := 8) dX0_share_8 ?_
  refine vv_topi (fun x4p9 e4p9 => ?_)
  refine vv_istore (pc := 9) (i := 4) (ls' := [(4, .int x4p9), (0, .ref (gad G (mm_B b))), (1, .int (nI p)), (2, .ref (gad G (mm_W b kl))), (3, .ref (gad G (mm_W b kr)))]) dX0_share_9 (by decide) rfl ?_
  refine vv_aload_n (pc := 11) 3 dX0_share_11 rfl rfl ?_
  refine vv_ifnonnull (pc := 12) (tgt := 31) dX0_share_12 (by decide) ?_
  refine vv_aload_n (pc := 31) 4 dX0_share_31 rfl rfl ?_
  refine vv_ifnonnull (pc := 32) (tgt := 47) dX0_share_32 (by decide) ?_
  refine vv_aload_n (pc := 47) 4 dX0_share_47 rfl rfl ?_
  refine vg_X3_place (pc := 48) (by assumption) (by assumption) mw_F_X0_128 dX0_share_48 ?_
  refine vv_aload_n (pc := 51) 3 dX0_share_51 rfl rfl ?_
  refine vg_X3_place (pc := 52) (by assumption) (by assumption) mw_F_X0_128 dX0_share_52 ?_
  refine vv_isub (pc := 55) dX0_share_55 ?_
  refine vv_topi (fun x5p56 e5p56 => ?_)
  refine vv_istore (pc := 56) (i := 5) (ls' := [(5, .int x5p56), (4, .int x4p9), (0, .ref (gad G (mm_B b))), (1, .int (nI p)), (2, .ref (gad G (mm_W b kl))), (3, .ref (gad G (mm_W b kr)))]) dX0_share_56 (by decide) rfl ?_
  refine vv_iload (pc := 58) 0 dX0_share_58 rfl ?_
  refine vv_if_gt (pc := 60) (tgt := 67) dX0_share_60 (by decide) (fun c60 => ?_) (fun c60 => ?_)
  -- t@60 path t
  · refine vv_aload_n (pc := 67) 2 dX0_share_67 rfl rfl ?_
    refine vg_X0_loads (pc := 68) (by assumption) mw_F_X0_9 dX0_share_68 ?_
    refine vv_iload_n (pc := 71) 3 dX0_share_71 rfl rfl ?_
    refine vl_L (pc := 72) (by assumption) (vp_20 hp) dX0_share_72 ?_
    refine vv_iload_n (pc := 73) 3 dX0_share_73 rfl rfl ?_
    refine vv_aload_n (pc := 74) 4 dX0_share_74 rfl rfl ?_
    refine vg_X3_place (pc := 75) (by assumption) (by assumption) mw_F_X0_128 dX0_share_75 ?_
    refine vv_isub (pc := 78) dX0_share_78 ?_
    refine vv_imul (pc := 79) dX0_share_79 ?_
    refine vv_iload (pc := 80) 0 dX0_share_80 rfl ?_
    refine vv_idiv (pc := 82) dX0_share_82 (fun h => by rw [h] at c60; exact absurd c60 (by decide)) ?_
    refine vv_topi (fun x6p83 e6p83 => ?_)
    refine vv_istore (pc := 83) (i := 6) (ls' := [(6, .int x6p83), (5, .int x5p56), (4, .int x4p9), (0, .ref (gad G (mm_B b))), (1, .int (nI p)), (2, .ref (gad G (mm_W b kl))), (3, .ref (gad G (mm_W b kr)))]) dX0_share_83 (by decide) rfl ?_
    refine vv_aload_n (pc := 85) 6 dX0_share_85 rfl rfl ?_
    refine vv_dup (pc := 86) dX0_share_86 rfl ?_
    refine vg_X3_task (pc := 87) (by assumption) (by assumption) mw_F_X0_122 dX0_share_87 ?_
    refine vv_bipush (pc := 90) (v := 10) dX0_share_90 (by decide) ?_
    refine vv_iload (pc := 92) 0 dX0_share_92 rfl ?_
    refine vv_imul (pc := 94) dX0_share_94 ?_
    refine vv_iadd (pc := 95) dX0_share_95 ?_
    refine vp_X3_task (pc := 96) (by assumption) (by assumption) mw_F_X0_122 dX0_share_96 ?_
    refine vv_aload_n (pc := 99) 5 dX0_share_99 rfl rfl ?_
    refine vv_dup (pc := 100) dX0_share_100 rfl ?_
    refine vg_X3_task (pc := 101) (by assumption) (by assumption) mw_F_X0_122 dX0_share_101 ?_
    refine vv_iload (pc := 104) 2 dX0_share_104 rfl ?_
    refine vv_bipush (pc := 106) (v := 10) dX0_share_106 (by decide) ?_
    refine vv_iload (pc := 108) 0 dX0_share_108 rfl ?_
    refine vv_imul (pc := 110) dX0_share_110 ?_
    refine vv_isub (pc := 111) dX0_share_111 ?_
    refine vv_iadd (pc := 112) dX0_share_112 ?_
    refine vp_X3_task (pc := 113) (by assumption) (by assumption) mw_F_X0_122 dX0_share_113 ?_
    refine vr_v (pc := 116) dX0_share_116 ?_
    have e6 : x6p83 = sp_pt2 S b p kl kr := by unfold sp_pt2; rw [← e5p56, if_neg (Int32.not_le.mpr c60), e6p83, cl_n (by omega)]
    rw [e4p9, cl_n (by omega), e6]
    rfl
  -- f@60 path f
  · refine vv_iconst (pc := 63) (v := 0) dX0_share_63 (by decide) ?_
    refine vv_goto (pc := 64) (tgt := 83) dX0_share_64 (by decide) ?_
    refine vv_topi (fun x6p83 e6p83 => ?_)
    refine vv_istore (pc := 83) (i := 6) (ls' := [(6, .int x6p83), (5, .int x5p56), (4, .int x4p9), (0, .ref (gad G (mm_B b))), (1, .int (nI p)), (2, .ref (gad G (mm_W b kl))), (3, .ref (gad G (mm_W b kr)))]) dX0_share_83 (by decide) rfl ?_
    refine vv_aload_n (pc := 85) 6 dX0_share_85 rfl rfl ?_
    refine vv_dup (pc := 86) dX0_share_86 rfl ?_
    refine vg_X3_task (pc := 87) (by assumption) (by assumption) mw_F_X0_122 dX0_share_87 ?_
    refine vv_bipush (pc := 90) (v := 10) dX0_share_90 (by decide) ?_
    refine vv_iload (pc := 92) 0 dX0_share_92 rfl ?_
    refine vv_imul (pc := 94) dX0_share_94 ?_
    refine vv_iadd (pc := 95) dX0_share_95 ?_
    refine vp_X3_task (pc := 96) (by assumption) (by assumption) mw_F_X0_122 dX0_share_96 ?_
    refine vv_aload_n (pc := 99) 5 dX0_share_99 rfl rfl ?_
    refine vv_dup (pc := 100) dX0_share_100 rfl ?_
    refine vg_X3_task (pc := 101) (by assumption) (by assumption) mw_F_X0_122 dX0_share_101 ?_
    refine vv_iload (pc := 104) 2 dX0_share_104 rfl ?_
    refine vv_bipush (pc := 106) (v := 10) dX0_share_106 (by decide) ?_
    refine vv_iload (pc := 108) 0 dX0_share_108 rfl ?_
    refine vv_imul (pc := 110) dX0_share_110 ?_
    refine vv_isub (pc := 111) dX0_share_111 ?_
    refine vv_iadd (pc := 112) dX0_share_112 ?_
    refine vp_X3_task (pc := 113) (by assumption) (by assumption) mw_F_X0_122 dX0_share_113 ?_
    refine vr_v (pc := 116) dX0_share_116 ?_
    have e6 : x6p83 = sp_pt2 S b p kl kr := by unfold sp_pt2; rw [← e5p56, if_pos (Int32.not_lt.mp c60), e6p83]
    rw [e4p9, cl_n (by omega), e6]
    rfl
end
section
set_option maxRecDepth 100000 in
set_option maxHeartbeats 4000000 in
theorem c_X0_reckon (l : Launch) (G : gG) {C b : Nat} {z : Nat → Int32} (hb : b < 11) (S : Mem) (hw : sp_ws C z) (hr : rb C S b z) : mm_C l G yX0_reckon cX0_reckon 4 (none) (mm_rm 1 26) [.ref (gad G (mm_B b))] S (mm_Qv G (fun S2 => f5_ C b S S2 ∧ rt_ C S2 b z)) := by
  obtain ⟨g1, g2, g3, g4, g5, g6, g7, g8, g9⟩ := id hr
  have hC := hw.1
  refine mm_ofV (own := RX0) (by decide +kernel) rfl (Nat.le_of_ble_eq_true rfl) (ls0 := [(0, .ref (gad G (mm_B b)))]) rfl ?_
  refine vv_iconst (pc := 0) (v := 0) dX0_reckon_0 (by decide) ?_
  refine vv_topi (fun x1p1 e1p1 => ?_)
  refine vv_istore_n (pc := 1) (i := 1) (ls' := [(1, .int x1p1), (0, .ref (gad G (mm_B b)))]) dX0_reckon_1 rfl (by decide) rfl ?_
  have lp2 : ∀ (n : Nat) (q : Nat) (x1 : Int32) (S1 : Mem), 9 ≤ n + q → q ≤ C → x1 = nI q → f5_ C b S S1 → (∀ k, k < q → S1 (mm_W b k) 5 = 0) → mm_V l G RX0 cX0_reckon 4 (none) (mm_rm 1 26) 0 0 (fun _ => True) (fun _ => mm_F G) (mm_Qf G (mm_Qv G (fun S2 => f5_ C b S S2 ∧ rt_ C S2 b z))) S1 2 [(0, .ref (gad G (mm_B b))), (1, .int x1)] [] := by
    intro n
    induction n with
    | zero =>
      intro q x1 S1 hn hq e1 hf h0
      exact absurd hn (by omega)
    | succ n ih =>
      intro q x1 S1 hn hq e1 hf h0
      have hr1 := f5_rb hC hf hr
      have hB3 : S1 (mm_B b) 3 = nI C := hr1.1.trans hw.2.1
      refine vv_iload_n (pc := 2) 1 dX0_reckon_2 rfl rfl ?_
      refine vv_aload_n (pc := 3) 0 dX0_reckon_3 rfl rfl ?_
      refine vg_X0_wireCount (pc := 4) (by assumption) mw_F_X0_38 dX0_reckon_4 ?_
      refine vv_icmp_ge (pc := 7) (tgt := 26) dX0_reckon_7 (by decide) (fun c7 => ?_) (fun c7 => ?_)
      -- t@7 path L2t
      · rw [hB3] at c7
        have hqC := sp_geN (N := C) (by omega) hq e1 c7
        refine vv_null (pc := 26) dX0_reckon_26 ?_
        refine vv_astore_nN (pc := 27) (i := 1) (ls' := [(1, .null), (0, .ref (gad G (mm_B b)))]) dX0_reckon_27 rfl (by decide) rfl ?_
        refine vv_aload_n (pc := 28) 1 dX0_reckon_28 rfl rfl ?_
        refine vv_iconst (pc := 29) (v := 0) dX0_reckon_29 (by decide) ?_
        refine vc_Vq (pc := 30) (c_X0_nextWhole l G (by assumption) _ (by assumption) hr1 (p := 0) rfl (by decide)) mw_M_X0_125 my_X0_nextWhole (mm_rv_B (by assumption)) ⟨by decide, by decide⟩ rfl rfl (Nat.le_of_ble_eq_true rfl) dX0_reckon_30 (fun r30 S30 h30 => ?_)
        obtain ⟨qS30, h30⟩ := h30
        replace qS30 := qS30.symm
        subst qS30
        refine vv_astore_nQ (pc := 33) (i := 2) (ls' := [(2, va_rf r30), (1, .null), (0, .ref (gad G (mm_B b)))]) dX0_reckon_33 rfl (by decide) rfl ?_
        refine vv_iconst (pc := 34) (v := 0) dX0_reckon_34 (by decide) ?_
        refine vv_topi (fun x3p35 e3p35 => ?_)
        refine vv_istore_n (pc := 35) (i := 3) (ls' := [(3, .int x3p35), (2, va_rf r30), (1, .null), (0, .ref (gad G (mm_B b)))]) dX0_reckon_35 rfl (by decide) (by simp only [List.filter, mm_rfcat]; rfl) ?_
        have lp36 : ∀ (n : Nat) (p kL kR : Nat) (x3 : Int32) (S2 : Mem), 21 ≤ n + p → p ≤ 20 → x3 = nI p → (p = 0 → kL = 99) → (∀ p1, p = p1 + 1 → kL = sp_lf z 5 p1 C) → (p = 0 → kR = sp_rt z 5 0 C) → (∀ p1, p = p1 + 1 → kR = sp_rt z 5 p1 C) → f5_ C b S S2 → (∀ w, w < C → S2 (mm_W b w) 5 = sp_T z 5 C w p) → mm_V l G RX0 cX0_reckon 4 (none) (mm_rm 1 26) 0 0 (fun _ => True) (fun _ => mm_F G) (mm_Qf G (mm_Qv G (fun S2 => f5_ C b S S2 ∧ rt_ C S2 b z))) S2 36 [(0, .ref (gad G (mm_B b))), (1, va_rf (sp_rf G b kL)), (2, va_rf (sp_rf G b kR)), (3, .int x3)] [] := by
          intro n
          induction n with
          | zero =>
            intro p kL kR x3 S2 hn hp e3 hL0 hL1 hR0 hR1 hf2 hT
            exact absurd hn (by omega)
          | succ n ih =>
            intro p kL kR x3 S2 hn hp e3 hL0 hL1 hR0 hR1 hf2 hT
            have hr2 := f5_rb hC hf2 hr
            obtain ⟨k1, k2, k3, k4, k5, k6, k7, k8, k9⟩ := id hr2
            have cut74 : ∀ (hp20 : p < 20), mm_V l G RX0 cX0_reckon 4 (none) (mm_rm 1 26) 0 0 (fun _ => True) (fun _ => mm_F G) (mm_Qf G (mm_Qv G (fun S2 => f5_ C b S S2 ∧ rt_ C S2 b z))) S2 74 [(0, .ref (gad G (mm_B b))), (1, va_rf (sp_rf G b (sp_lf z 5 p C))), (2, va_rf (sp_rf G b (sp_rt z 5 p C))), (3, .int x3)] [] := by
              intro hp20
              have hld : S2 (mm_L b) p = z (10 + p) := k7 p hp20
              rcases sp_rf_cases G b (sp_lf z 5 p C) with ⟨gL, eL⟩ | ⟨gL, eL⟩ <;> rcases sp_rf_cases G b (sp_rt z 5 p C) with ⟨gR, eR⟩ | ⟨gR, eR⟩ <;> rw [eL, eR]
              · refine vv_sub [0, 1, 2, 3] (ls' := [(0, .ref (gad G (mm_B b))), (1, .null), (2, .null), (3, .int x3)]) rfl ?_
                refine vv_aload_n (pc := 74) 0 dX0_reckon_74 rfl rfl ?_
                refine vv_iload_n (pc := 75) 3 dX0_reckon_75 rfl rfl ?_
                refine vv_aload_nN (pc := 76) 1 dX0_reckon_76 rfl rfl ?_
                refine vv_aload_nN (pc := 77) 2 dX0_reckon_77 rfl rfl ?_
                refine vc_Vv (pc := 78) (c_X0_share_nn l G (by assumption) _ e3 hp20) mw_M_X0_129 my_X0_share (mm_rv_B (by assumption)) ⟨by decide, by decide⟩ rfl rfl (Nat.le_of_ble_eq_true rfl) dX0_reckon_78 (fun S78 h78 => ?_)
                obtain ⟨x3p81, e3p81⟩ : ∃ y : Int32, y = x3 + 1 := ⟨_, rfl⟩
                refine vv_iinc (pc := 81) (q := 3) (v := x3p81) (ls' := [(3, .int x3p81), (0, .ref (gad G (mm_B b))), (1, .null), (2, .null)]) dX0_reckon_81 rfl (by rw [e3p81]; rfl) (by decide) rfl ?_
                refine vv_goto (pc := 84) (tgt := 36) dX0_reckon_84 (by decide) ?_
                refine vv_sub [1, 2, 3, 0] (ls' := [(0, _), (1, _), (2, _), (3, _)]) rfl ?_
                have hT3 : ∀ w, w < C → S78 (mm_W b w) 5 = sp_T z 5 C w (p + 1) := by
                  intro w hw2
                  rw [h78, sp_T, sp_ctb_nn gL gR, Int32.add_zero]
                  exact hT w hw2
                have hf3 : f5_ C b S S78 := by rw [h78]; exact hf2
                have hh := ih (p + 1) (sp_lf z 5 p C) (sp_rt z 5 p C) x3p81 _ (by omega) (by omega) (by rw [e3p81, e3]; exact nI_1 p) (fun h => absurd h (by omega)) (fun p1 h => by obtain rfl : p1 = p := (by omega); rfl) (fun h => absurd h (by omega)) (fun p1 h => by obtain rfl : p1 = p := (by omega); rfl) hf3 hT3
                rw [eL, eR] at hh
                exact hh
              · refine vv_sub [0, 1, 2, 3] (ls' := [(0, .ref (gad G (mm_B b))), (1, .null), (2, .ref (gad G (mm_W b (sp_rt z 5 p C)))), (3, .int x3)]) rfl ?_
                have hltR := sp_rt_lt (f := 5) (p := p) hC gR
                refine vv_aload_n (pc := 74) 0 dX0_reckon_74 rfl rfl ?_
                refine vv_iload_n (pc := 75) 3 dX0_reckon_75 rfl rfl ?_
                refine vv_aload_nN (pc := 76) 1 dX0_reckon_76 rfl rfl ?_
                refine vv_aload_n (pc := 77) 2 dX0_reckon_77 rfl rfl ?_
                refine vc_Vv (pc := 78) (c_X0_share_nr l G (by assumption) _ e3 hp20 (by omega)) mw_M_X0_129 my_X0_share (mm_rv_B (by assumption)) ⟨by decide, by decide⟩ rfl rfl (Nat.le_of_ble_eq_true rfl) dX0_reckon_78 (fun S78 h78 => ?_)
                obtain ⟨x3p81, e3p81⟩ : ∃ y : Int32, y = x3 + 1 := ⟨_, rfl⟩
                refine vv_iinc (pc := 81) (q := 3) (v := x3p81) (ls' := [(3, .int x3p81), (0, .ref (gad G (mm_B b))), (1, .null), (2, .ref (gad G (mm_W b (sp_rt z 5 p C))))]) dX0_reckon_81 rfl (by rw [e3p81]; rfl) (by decide) rfl ?_
                refine vv_goto (pc := 84) (tgt := 36) dX0_reckon_84 (by decide) ?_
                refine vv_sub [1, 2, 3, 0] (ls' := [(0, _), (1, _), (2, _), (3, _)]) rfl ?_
                have hT3 : ∀ w, w < C → S78 (mm_W b w) 5 = sp_T z 5 C w (p + 1) := by
                  rw [h78]
                  exact sp_sh1_T hltR hld hT (fun w _ => sp_ctb_nr gL gR)
                have hf3 : f5_ C b S S78 := by rw [h78]; exact sp_sh1_f5 hf2 hltR
                have hh := ih (p + 1) (sp_lf z 5 p C) (sp_rt z 5 p C) x3p81 _ (by omega) (by omega) (by rw [e3p81, e3]; exact nI_1 p) (fun h => absurd h (by omega)) (fun p1 h => by obtain rfl : p1 = p := (by omega); rfl) (fun h => absurd h (by omega)) (fun p1 h => by obtain rfl : p1 = p := (by omega); rfl) hf3 hT3
                rw [eL, eR] at hh
                exact hh
              · refine vv_sub [0, 1, 2, 3] (ls' := [(0, .ref (gad G (mm_B b))), (1, .ref (gad G (mm_W b (sp_lf z 5 p C)))), (2, .null), (3, .int x3)]) rfl ?_
                have hltL := sp_lf_lt (f := 5) (p := p) hC gL
                refine vv_aload_n (pc := 74) 0 dX0_reckon_74 rfl rfl ?_
                refine vv_iload_n (pc := 75) 3 dX0_reckon_75 rfl rfl ?_
                refine vv_aload_n (pc := 76) 1 dX0_reckon_76 rfl rfl ?_
                refine vv_aload_nN (pc := 77) 2 dX0_reckon_77 rfl rfl ?_
                refine vc_Vv (pc := 78) (c_X0_share_rn l G (by assumption) _ e3 hp20 (by omega)) mw_M_X0_129 my_X0_share (mm_rv_B (by assumption)) ⟨by decide, by decide⟩ rfl rfl (Nat.le_of_ble_eq_true rfl) dX0_reckon_78 (fun S78 h78 => ?_)
                obtain ⟨x3p81, e3p81⟩ : ∃ y : Int32, y = x3 + 1 := ⟨_, rfl⟩
                refine vv_iinc (pc := 81) (q := 3) (v := x3p81) (ls' := [(3, .int x3p81), (0, .ref (gad G (mm_B b))), (1, .ref (gad G (mm_W b (sp_lf z 5 p C)))), (2, .null)]) dX0_reckon_81 rfl (by rw [e3p81]; rfl) (by decide) rfl ?_
                refine vv_goto (pc := 84) (tgt := 36) dX0_reckon_84 (by decide) ?_
                refine vv_sub [1, 2, 3, 0] (ls' := [(0, _), (1, _), (2, _), (3, _)]) rfl ?_
                have hT3 : ∀ w, w < C → S78 (mm_W b w) 5 = sp_T z 5 C w (p + 1) := by
                  rw [h78]
                  exact sp_sh1_T hltL hld hT (fun w _ => sp_ctb_rn gL gR)
                have hf3 : f5_ C b S S78 := by rw [h78]; exact sp_sh1_f5 hf2 hltL
                have hh := ih (p + 1) (sp_lf z 5 p C) (sp_rt z 5 p C) x3p81 _ (by omega) (by omega) (by rw [e3p81, e3]; exact nI_1 p) (fun h => absurd h (by omega)) (fun p1 h => by obtain rfl : p1 = p := (by omega); rfl) (fun h => absurd h (by omega)) (fun p1 h => by obtain rfl : p1 = p := (by omega); rfl) hf3 hT3
                rw [eL, eR] at hh
                exact hh
              · refine vv_sub [0, 1, 2, 3] (ls' := [(0, .ref (gad G (mm_B b))), (1, .ref (gad G (mm_W b (sp_lf z 5 p C)))), (2, .ref (gad G (mm_W b (sp_rt z 5 p C)))), (3, .int x3)]) rfl ?_
                have hltL := sp_lf_lt (f := 5) (p := p) hC gL
                have hltR := sp_rt_lt (f := 5) (p := p) hC gR
                refine vv_aload_n (pc := 74) 0 dX0_reckon_74 rfl rfl ?_
                refine vv_iload_n (pc := 75) 3 dX0_reckon_75 rfl rfl ?_
                refine vv_aload_n (pc := 76) 1 dX0_reckon_76 rfl rfl ?_
                refine vv_aload_n (pc := 77) 2 dX0_reckon_77 rfl rfl ?_
                refine vc_Vv (pc := 78) (c_X0_share_rr l G (by assumption) _ e3 hp20 (by omega) (by omega)) mw_M_X0_129 my_X0_share (mm_rv_B (by assumption)) ⟨by decide, by decide⟩ rfl rfl (Nat.le_of_ble_eq_true rfl) dX0_reckon_78 (fun S78 h78 => ?_)
                obtain ⟨x3p81, e3p81⟩ : ∃ y : Int32, y = x3 + 1 := ⟨_, rfl⟩
                refine vv_iinc (pc := 81) (q := 3) (v := x3p81) (ls' := [(3, .int x3p81), (0, .ref (gad G (mm_B b))), (1, .ref (gad G (mm_W b (sp_lf z 5 p C)))), (2, .ref (gad G (mm_W b (sp_rt z 5 p C))))]) dX0_reckon_81 rfl (by rw [e3p81]; rfl) (by decide) rfl ?_
                refine vv_goto (pc := 84) (tgt := 36) dX0_reckon_84 (by decide) ?_
                refine vv_sub [1, 2, 3, 0] (ls' := [(0, _), (1, _), (2, _), (3, _)]) rfl ?_
                have hT3 : ∀ w, w < C → S78 (mm_W b w) 5 = sp_T z 5 C w (p + 1) := by
                  rw [h78]
                  by_cases he : sp_lf z 5 p C = sp_rt z 5 p C
                  · rw [he]
                    exact sp_sh2_eq hltR hld hT (fun w _ => by rw [sp_ctb_eq gL he, he])
                  · refine sp_sh2_ne he hld (k9 _ hltL).1 (k9 _ hltR).1 ?_ hT (fun w _ => sp_ctb_ne gL gR he)
                    have g1 := sp_lf_le hC gL
                    have g2 := sp_rt_ge hC gR
                    have g3 := (hw.2.2.1 _ hltL).2
                    have g4 := (hw.2.2.1 _ hltR).2
                    rw [(hw.2.2.1 _ hltL).1, (hw.2.2.1 _ hltR).1]
                    refine sp_pos (by omega) (by omega) ?_
                    rcases Nat.lt_or_ge (sp_at z (sp_lf z 5 p C)) (sp_at z (sp_rt z 5 p C)) with h | h
                    · exact h
                    · exact absurd (hw.2.2.2 _ _ hltL hltR (by omega)) he
                have hf3 : f5_ C b S S78 := by rw [h78]; exact sp_sh2_f5 hf2 hltL hltR
                have hh := ih (p + 1) (sp_lf z 5 p C) (sp_rt z 5 p C) x3p81 _ (by omega) (by omega) (by rw [e3p81, e3]; exact nI_1 p) (fun h => absurd h (by omega)) (fun p1 h => by obtain rfl : p1 = p := (by omega); rfl) (fun h => absurd h (by omega)) (fun p1 h => by obtain rfl : p1 = p := (by omega); rfl) hf3 hT3
                rw [eL, eR] at hh
                exact hh
            have cut60 : ∀ (hp20 : p < 20), mm_V l G RX0 cX0_reckon 4 (none) (mm_rm 1 26) 0 0 (fun _ => True) (fun _ => mm_F G) (mm_Qf G (mm_Qv G (fun S2 => f5_ C b S S2 ∧ rt_ C S2 b z))) S2 60 [(0, .ref (gad G (mm_B b))), (1, va_rf (sp_rf G b kL)), (2, va_rf (sp_rf G b (sp_rt z 5 p C))), (3, .int x3)] [] := by
              intro hp20
              have cut := cut74 hp20
              rcases sp_rf_cases G b (sp_rt z 5 p C) with ⟨gR, eR⟩ | ⟨gR, eR⟩ <;> rw [eR]
              · refine vv_sub [0, 1, 2, 3] (ls' := [(0, .ref (gad G (mm_B b))), (1, va_rf (sp_rf G b kL)), (2, .null), (3, .int x3)]) rfl ?_
                refine vv_aload_nN (pc := 60) 2 dX0_reckon_60 rfl rfl ?_
                refine vv_ifnullN (pc := 61) (tgt := 74) dX0_reckon_61 (by decide) ?_
                have hlf : sp_lf z 5 p C = kL := by
                  rcases p with _ | p1
                  · rw [hL0 rfl]; exact sp_lf_0 hw (Or.inl gR)
                  · rw [hL1 p1 rfl]; exact sp_lf_on hw (Or.inl gR)
                rw [hlf, eR] at cut
                refine vv_sub [0, 1, 2, 3] (ls' := [(0, _), (1, _), (2, _), (3, _)]) rfl ?_
                exact cut
              · refine vv_sub [0, 1, 2, 3] (ls' := [(0, .ref (gad G (mm_B b))), (1, va_rf (sp_rf G b kL)), (2, .ref (gad G (mm_W b (sp_rt z 5 p C)))), (3, .int x3)]) rfl ?_
                refine vv_aload_n (pc := 60) 2 dX0_reckon_60 rfl rfl ?_
                refine vv_ifnull (pc := 61) dX0_reckon_61 ?_
                have hlt := sp_rt_lt (f := 5) (p := p) hC gR
                have hlt8 : sp_rt z 5 p C < 8 := by omega
                refine vv_aload_n (pc := 64) 2 dX0_reckon_64 rfl rfl ?_
                refine vg_X3_place (pc := 65) (by assumption) (by assumption) mw_F_X0_128 dX0_reckon_65 ?_
                refine vv_iload_n (pc := 68) 3 dX0_reckon_68 rfl rfl ?_
                refine vv_icmp_ne (pc := 69) (tgt := 74) dX0_reckon_69 (by decide) (fun c69 => ?_) (fun c69 => ?_)
                -- t@69 path L2tL36C60Rt
                · have hne : sp_at z (sp_rt z 5 p C) ≠ p := fun h => c69 (by rw [(k9 _ hlt).1, (hw.2.2.1 _ hlt).1, h, e3])
                  have hlf : sp_lf z 5 p C = kL := by
                    rcases p with _ | p1
                    · rw [hL0 rfl]; exact sp_lf_0 hw (Or.inr hne)
                    · rw [hL1 p1 rfl]; exact sp_lf_on hw (Or.inr hne)
                  rw [hlf, eR] at cut
                  refine vv_sub [0, 1, 2, 3] (ls' := [(0, _), (1, _), (2, _), (3, _)]) rfl ?_
                  exact cut
                -- f@69 path L2tL36C60Rf
                · refine vv_aload_n (pc := 72) 2 dX0_reckon_72 rfl rfl ?_
                  refine vv_astore_n (pc := 73) (i := 1) (ls' := [(1, .ref (gad G (mm_W b (sp_rt z 5 p C)))), (0, .ref (gad G (mm_B b))), (2, .ref (gad G (mm_W b (sp_rt z 5 p C)))), (3, .int x3)]) dX0_reckon_73 rfl (by decide) (by simp only [List.filter, mm_rfcat]; rfl) ?_
                  have hat : sp_at z (sp_rt z 5 p C) = p := by
                    rw [(k9 _ hlt).1, (hw.2.2.1 _ hlt).1, e3] at c69
                    exact (nI_eq (by have := (hw.2.2.1 _ hlt).2; omega) (by omega)).mp c69
                  rw [sp_lf_here hw gR hat, eR] at cut
                  refine vv_sub [1, 0, 2, 3] (ls' := [(0, _), (1, _), (2, _), (3, _)]) rfl ?_
                  exact cut
            rcases sp_rf_cases G b kR with ⟨gR, eR⟩ | ⟨gR, eR⟩ <;> rw [eR]
            · refine vv_sub [0, 1, 2, 3] (ls' := [(0, .ref (gad G (mm_B b))), (1, va_rf (sp_rf G b kL)), (2, .null), (3, .int x3)]) rfl ?_
              refine vv_iload_n (pc := 36) 3 dX0_reckon_36 rfl rfl ?_
              refine vv_bipush (pc := 37) (v := 20) dX0_reckon_37 (by decide) ?_
              refine vv_icmp_ge (pc := 39) (tgt := 87) dX0_reckon_39 (by decide) (fun c39 => ?_) (fun c39 => ?_)
              -- t@39 path L2tL36Nt
              · refine vr_v (pc := 87) dX0_reckon_87 ?_
                have hp20 := sp_geN (N := 20) (by decide) hp e3 c39
                subst hp20
                exact ⟨hf2, fun k hk => hT k hk⟩
              -- f@39 path L2tL36Nf
              · have hp20 : p < 20 := sp_ltN (N := 20) (by decide) hp e3 c39
                refine vv_aload_nN (pc := 42) 2 dX0_reckon_42 rfl rfl ?_
                refine vv_ifnullN (pc := 43) (tgt := 60) dX0_reckon_43 (by decide) ?_
                have cut := cut60 hp20
                have hrt : sp_rt z 5 p C = kR := by
                  rcases p with _ | p1
                  · rw [hR0 rfl]
                  · rw [gR]; exact sp_rt_no1 hC ((hR1 p1 rfl).symm.trans gR)
                rw [hrt, eR] at cut
                refine vv_sub [0, 1, 2, 3] (ls' := [(0, _), (1, _), (2, _), (3, _)]) rfl ?_
                exact cut
            · refine vv_sub [0, 1, 2, 3] (ls' := [(0, .ref (gad G (mm_B b))), (1, va_rf (sp_rf G b kL)), (2, .ref (gad G (mm_W b kR))), (3, .int x3)]) rfl ?_
              refine vv_iload_n (pc := 36) 3 dX0_reckon_36 rfl rfl ?_
              refine vv_bipush (pc := 37) (v := 20) dX0_reckon_37 (by decide) ?_
              refine vv_icmp_ge (pc := 39) (tgt := 87) dX0_reckon_39 (by decide) (fun c39 => ?_) (fun c39 => ?_)
              -- t@39 path L2tL36Rt
              · refine vr_v (pc := 87) dX0_reckon_87 ?_
                have hp20 := sp_geN (N := 20) (by decide) hp e3 c39
                subst hp20
                exact ⟨hf2, fun k hk => hT k hk⟩
              -- f@39 path L2tL36Rf
              · have hp20 : p < 20 := sp_ltN (N := 20) (by decide) hp e3 c39
                refine vv_aload_n (pc := 42) 2 dX0_reckon_42 rfl rfl ?_
                refine vv_ifnull (pc := 43) dX0_reckon_43 ?_
                have hkR : kR < C := by
                  rcases p with _ | p1
                  · rw [hR0 rfl] at gR ⊢; exact sp_rt_lt hC gR
                  · rw [hR1 p1 rfl] at gR ⊢; exact sp_rt_lt hC gR
                have hkR8 : kR < 8 := by omega
                refine vv_aload_n (pc := 46) 2 dX0_reckon_46 rfl rfl ?_
                refine vg_X3_place (pc := 47) (by assumption) (by assumption) mw_F_X0_128 dX0_reckon_47 ?_
                refine vv_iload_n (pc := 50) 3 dX0_reckon_50 rfl rfl ?_
                refine vv_icmp_ge (pc := 51) (tgt := 60) dX0_reckon_51 (by decide) (fun c51 => ?_) (fun c51 => ?_)
                -- t@51 path L2tL36Rft
                · have cut := cut60 hp20
                  rw [(k9 _ hkR).1, (hw.2.2.1 _ hkR).1, e3, nI_leI (by omega) (by have := (hw.2.2.1 _ hkR).2; omega)] at c51
                  have hrt : sp_rt z 5 p C = kR := by
                    rcases p with _ | p1
                    · rw [hR0 rfl]
                    · have h9 := hR1 p1 rfl
                      rw [h9] at gR c51 ⊢
                      exact sp_rt_k1 hw gR c51
                  rw [hrt, eR] at cut
                  refine vv_sub [0, 1, 2, 3] (ls' := [(0, _), (1, _), (2, _), (3, _)]) rfl ?_
                  exact cut
                -- f@51 path L2tL36Rff
                · refine vv_aload_n (pc := 54) 0 dX0_reckon_54 rfl rfl ?_
                  refine vv_iload_n (pc := 55) 3 dX0_reckon_55 rfl rfl ?_
                  refine vc_Vq (pc := 56) (c_X0_nextWhole l G (by assumption) _ (by assumption) (by assumption) (p := _) (by assumption) (by omega)) mw_M_X0_125 my_X0_nextWhole (mm_rv_B (by assumption)) ⟨by decide, by decide⟩ rfl rfl (Nat.le_of_ble_eq_true rfl) dX0_reckon_56 (fun r56 S56 h56 => ?_)
                  obtain ⟨qS56, h56⟩ := h56
                  replace qS56 := qS56.symm
                  subst qS56
                  refine vv_astore_nQ (pc := 59) (i := 2) (ls' := [(2, va_rf r56), (0, .ref (gad G (mm_B b))), (1, va_rf (sp_rf G b kL)), (3, .int x3)]) dX0_reckon_59 rfl (by decide) (by simp only [List.filter, mm_rfcat]; rfl) ?_
                  have cut := cut60 hp20
                  rw [h56]
                  refine vv_sub [1, 2, 0, 3] (ls' := [(0, _), (1, _), (2, _), (3, _)]) rfl ?_
                  exact cut
        refine vv_sub [3, 2, 1, 0] (ls' := [(0, _), (1, _), (2, _), (3, _)]) rfl ?_
        rw [h30]
        exact lp36 21 0 99 (sp_rt z 5 0 C) x3p35 S1 (by omega) (by omega) e3p35 (fun _ => rfl) (fun p1 h => absurd h (by omega)) (fun _ => rfl) (fun p1 h => absurd h (by omega)) hf (fun w hw2 => by rw [sp_T0]; exact h0 w (by omega))
      -- f@7 path L2f
      · rw [hB3] at c7
        have hqC : q < C := sp_ltN (N := C) (by omega) hq e1 c7
        have hx1 : x1.toNatClampNeg = q := by rw [e1, cl_n (by omega)]
        refine vv_aload_n (pc := 10) 0 dX0_reckon_10 rfl rfl ?_
        refine vg_X0_wires (pc := 11) (by assumption) mw_F_X0_20 dX0_reckon_11 ?_
        refine vv_iload_n (pc := 14) 1 dX0_reckon_14 rfl rfl ?_
        refine vl_R (pc := 15) (by assumption) (by rw [e1]; exact vp_8 (by omega)) dX0_reckon_15 ?_
        rw [hx1]
        refine vv_iconst (pc := 16) (v := 0) dX0_reckon_16 (by decide) ?_
        refine vp_X3_task (pc := 17) (by assumption) (by omega) mw_F_X0_122 dX0_reckon_17 ?_
        obtain ⟨x1p20, e1p20⟩ : ∃ y : Int32, y = x1 + 1 := ⟨_, rfl⟩
        refine vv_iinc (pc := 20) (q := 1) (v := x1p20) (ls' := [(1, .int x1p20), (0, .ref (gad G (mm_B b)))]) dX0_reckon_20 rfl (by rw [e1p20]; rfl) (by decide) rfl ?_
        refine vv_goto (pc := 23) (tgt := 2) dX0_reckon_23 (by decide) ?_
        have h0n : ∀ k, k < q + 1 → mm_wr S1 (mm_W b q) 5 0 (mm_W b k) 5 = 0 := by
          intro k hk
          by_cases e : k = q
          · subst e; rw [mm_wr_s]
          · rw [mm_wr_n _ _ (Or.inl (mm_W_ne2 e))]; exact h0 k (by omega)
        refine vv_sub [1, 0] (ls' := [(0, _), (1, _)]) rfl ?_
        exact ih (q + 1) x1p20 _ (by omega) (by omega) (by rw [e1p20, e1]; exact nI_1 q) (f5_wr hf hqC 0) h0n
  refine vv_sub [1, 0] (ls' := [(0, _), (1, _)]) rfl ?_
  exact lp2 9 0 x1p1 S (by omega) (by omega) e1p1 (f5_refl C b S) (fun k h => absurd h (Nat.not_lt_zero k))
end
section
/-! WHAT HOLDS OF EVERY STATE -/
def sp_ww (z : Nat → Int32) (k : Nat) : Prop :=
  0 ≤ (sp_f z k 0).toInt ∧ (sp_f z k 0).toInt < 20 ∧ 10 ≤ (sp_f z k 1).toInt ∧ (sp_f z k 1).toInt ≤ 200 ∧ 1 ≤ (sp_f z k 2).toInt ∧ (sp_f z k 2).toInt ≤ 20 ∧
  100 ≤ (sp_f z k 3).toInt ∧ (sp_f z k 3).toInt ≤ 50000 ∧ 0 ≤ (sp_f z k 4).toInt ∧ (sp_f z k 4).toInt ≤ 50000 ∧
  (sp_f z k 5 = 0 ∨ sp_f z k 5 = 1) ∧ (sp_f z k 10 = 0 ∨ sp_f z k 10 = 1) ∧ (sp_f z k 5 = 1 → sp_f z k 4 = 0) ∧ (sp_f z k 10 = 1 → sp_f z k 5 = 1 ∧ sp_f z k 8 = 0 ∧ sp_f z k 9 = 0 ∧ sp_f z k 7 ≠ -6) ∧
  ((sp_f z k 7 = -6 ∧ sp_f z k 8 = -6 ∧ sp_f z k 9 = -6) ∨ (0 ≤ (sp_f z k 7).toInt ∧ 0 ≤ (sp_f z k 8).toInt ∧ (sp_f z k 8).toInt ≤ 50000 ∧ 0 ≤ (sp_f z k 9).toInt ∧ (sp_f z k 9).toInt ≤ 50000))
def sp_wf (C : Nat) (z : Nat → Int32) : Prop :=
  sp_ws C z ∧ (∀ k, k < C → sp_ww z k) ∧ (∀ p, p < 20 → 0 ≤ (z (10 + p)).toInt ∧ (z (10 + p)).toInt ≤ 1000) ∧ (0 ≤ (z 4).toInt ∧ (z 4).toInt < 20) ∧
  (0 ≤ (z 0).toInt ∧ (z 0).toInt ≤ 100) ∧ (0 ≤ (z 1).toInt ∧ (z 1).toInt ≤ 100) ∧ 0 ≤ (z 2).toInt ∧ ∀ k f, C ≤ k → k < 8 → f < 14 → sp_f z k f = 0
/-- one row of the state anew -/
def sp_up (z : Nat → Int32) (k f : Nat) (x : Int32) : Nat → Int32 := fun i => if i = 30 + 14 * k + f then x else z i
theorem sp_up_f (z : Nat → Int32) {k f : Nat} (x : Int32) {k' f' : Nat} (hf : f < 14) (hf' : f' < 14) : sp_f (sp_up z k f x) k' f' = if k' = k ∧ f' = f then x else sp_f z k' f' := by
  unfold sp_f sp_up
  by_cases h : k' = k ∧ f' = f
  · rw [if_pos h, h.1, h.2, if_pos rfl]
  · rw [if_neg h, if_neg (by omega)]
theorem sp_up_lo (z : Nat → Int32) (k f : Nat) (x : Int32) {i : Nat} (hi : i < 30) : sp_up z k f x i = z i := by
  unfold sp_up
  rw [if_neg (by omega)]
def sp_brk (z : Nat → Int32) (k : Nat) : Nat → Int32 := sp_up (sp_up (sp_up z k 5 1) k 4 0) k 6 (z 2)
theorem sp_brk_lo (z : Nat → Int32) (k : Nat) {i : Nat} (hi : i < 30) : sp_brk z k i = z i := by
  unfold sp_brk
  rw [sp_up_lo _ _ _ _ hi, sp_up_lo _ _ _ _ hi, sp_up_lo _ _ _ _ hi]
theorem sp_brk_f (z : Nat → Int32) (k : Nat) {k' f' : Nat} (hf : f' < 14) : sp_f (sp_brk z k) k' f' = if k' = k ∧ f' = 6 then z 2 else if k' = k ∧ f' = 4 then 0 else if k' = k ∧ f' = 5 then 1 else sp_f z k' f' := by
  unfold sp_brk
  rw [sp_up_f _ _ (by decide) hf, sp_up_f _ _ (by decide) hf, sp_up_f _ _ (by decide) hf]
theorem sp_brk_at (z : Nat → Int32) (k k' : Nat) : sp_at (sp_brk z k) k' = sp_at z k' := by
  unfold sp_at
  rw [sp_brk_f z k (by decide)]
  simp
theorem sp_wa_congr {z z' : Nat → Int32} {p : Nat} : ∀ {c : Nat}, (∀ k, k < c → sp_at z' k = sp_at z k) → sp_wa z' p c = sp_wa z p c
  | 0, _ => rfl
  | c + 1, h => by
    unfold sp_wa
    rw [h c (Nat.lt_succ_self c), sp_wa_congr (fun k hk => h k (by omega))]
theorem sp_lf_congr {z z' : Nat → Int32} {f f' p : Nat} : ∀ {c : Nat}, c ≤ 8 → (∀ k, k < c → sp_at z' k = sp_at z k ∧ (sp_f z' k f' = 0 ↔ sp_f z k f = 0)) → sp_lf z' f' p c = sp_lf z f p c
  | 0, _, _ => rfl
  | c + 1, hc, h => by
    unfold sp_lf
    have ih := sp_lf_congr (z := z) (z' := z') (f := f) (f' := f') (p := p) (c := c) (by omega) (fun k hk => h k (by omega))
    rw [ih]
    have h1 := h c (Nat.lt_succ_self c)
    have h2 : (sp_lf z f p c = 99 ∨ sp_at z' (sp_lf z f p c) < sp_at z' c) ↔ (sp_lf z f p c = 99 ∨ sp_at z (sp_lf z f p c) < sp_at z c) := by
      by_cases e : sp_lf z f p c = 99
      · simp [e]
      · rw [h1.1, (h _ (by have := sp_lf_lt (z := z) (f := f) (p := p) (C := c) (by omega) e; omega)).1]
    rw [h1.1] at h2 ⊢
    simp only [h1.2, h2]
theorem sp_rt_congr {z z' : Nat → Int32} {f f' p : Nat} : ∀ {c : Nat}, c ≤ 8 → (∀ k, k < c → sp_at z' k = sp_at z k ∧ (sp_f z' k f' = 0 ↔ sp_f z k f = 0)) → sp_rt z' f' p c = sp_rt z f p c
  | 0, _, _ => rfl
  | c + 1, hc, h => by
    unfold sp_rt
    have ih := sp_rt_congr (z := z) (z' := z') (f := f) (f' := f') (p := p) (c := c) (by omega) (fun k hk => h k (by omega))
    rw [ih]
    have h1 := h c (Nat.lt_succ_self c)
    have h2 : (sp_rt z f p c = 99 ∨ sp_at z' c < sp_at z' (sp_rt z f p c)) ↔ (sp_rt z f p c = 99 ∨ sp_at z c < sp_at z (sp_rt z f p c)) := by
      by_cases e : sp_rt z f p c = 99
      · simp [e]
      · rw [h1.1, (h _ (by have := sp_rt_lt (z := z) (f := f) (p := p) (C := c) (by omega) e; omega)).1]
    rw [h1.1] at h2 ⊢
    simp only [h1.2, h2]
/-- tasks hang on loads, places and whole wires alone -/
theorem sp_tk_congr {C : Nat} {z z' : Nat → Int32} {f f' w : Nat} (hC : C ≤ 8) (h : ∀ k, k < C → sp_f z' k 0 = sp_f z k 0 ∧ (sp_f z' k f' = 0 ↔ sp_f z k f = 0)) (hl : ∀ p, p < 20 → z' (10 + p) = z (10 + p)) : sp_tk z' f' C w = sp_tk z f C w := by
  have h2 : ∀ k, k < C → sp_at z' k = sp_at z k ∧ (sp_f z' k f' = 0 ↔ sp_f z k f = 0) := fun k hk => ⟨by unfold sp_at; rw [(h k hk).1], (h k hk).2⟩
  have key : ∀ p, p ≤ 20 → sp_T z' f' C w p = sp_T z f C w p := by
    intro p
    induction p with
    | zero => intro _; rfl
    | succ p ih =>
      intro hp
      unfold sp_T
      rw [ih (by omega)]
      congr 1
      unfold sp_ctb
      have eL := sp_lf_congr (p := p) hC h2
      have eR := sp_rt_congr (p := p) hC h2
      rw [eL, eR, hl p (by omega)]
      by_cases cL : sp_lf z f p C = 99
      · by_cases cR : sp_rt z f p C = 99
        · simp [cL, cR]
        · simp [cL, cR]
      · by_cases cR : sp_rt z f p C = 99
        · simp [cL, cR]
        · rw [(h _ (sp_lf_lt hC cL)).1, (h _ (sp_rt_lt hC cR)).1]
  exact key 20 (Nat.le_refl _)
/-- a wire that carries nothing -/
theorem sp_tk_off {C : Nat} {z : Nat → Int32} {f w : Nat} (hC : C ≤ 8) (h : sp_f z w f ≠ 0) : sp_tk z f C w = 0 := by
  have key : ∀ p, sp_T z f C w p = 0 := by
    intro p
    induction p with
    | zero => rfl
    | succ p ih =>
      unfold sp_T
      rw [ih]
      have hL : w ≠ sp_lf z f p C ∨ sp_lf z f p C = 99 := by
        rcases sp_lf_spec z f p C hC with ⟨g, -⟩ | ⟨e1, e2, -⟩
        · exact Or.inr g
        · exact Or.inl (fun e => h (by rw [e]; exact e2))
      have hR : w ≠ sp_rt z f p C ∨ sp_rt z f p C = 99 := by
        rcases sp_rt_spec z f p C hC with ⟨g, -⟩ | ⟨e1, e2, -⟩
        · exact Or.inr g
        · exact Or.inl (fun e => h (by rw [e]; exact e2))
      have : sp_ctb z f C p w = 0 := by
        unfold sp_ctb
        rcases hL with hL | hL <;> rcases hR with hR | hR <;> simp [hL, hR]
      rw [this]
      rfl
  exact key 20
/-- by how much a wire's task is above its strength -/
def sp_ov (z : Nat → Int32) (C c : Nat) : Int32 := if sp_f z c 5 = 0 then sp_tk z 5 C c - sp_f z c 3 else 0
/-- the wire that bursts first, and by how much: the first with the greatest excess (99: none) -/
def sp_bs (z : Nat → Int32) (C : Nat) : Nat → Nat × Int32
  | 0 => (99, 0)
  | c + 1 => if (sp_bs z C c).2 < sp_ov z C c then (c, sp_ov z C c) else sp_bs z C c
def sp_bu (z : Nat → Int32) (C : Nat) : Nat := (sp_bs z C C).1
theorem sp_bs_pos (z : Nat → Int32) (C : Nat) : ∀ c, 0 ≤ (sp_bs z C c).2
  | 0 => Int32.le_refl 0
  | c + 1 => by
    unfold sp_bs
    have ih := sp_bs_pos z C c
    by_cases h : (sp_bs z C c).2 < sp_ov z C c
    · rw [if_pos h]
      exact Int32.le_of_lt (Int32.lt_of_le_of_lt ih h)
    · rw [if_neg h]
      exact ih
theorem sp_bs_lt (z : Nat → Int32) (C : Nat) : ∀ c, (sp_bs z C c).1 = 99 ∨ ((sp_bs z C c).1 < c ∧ sp_f z (sp_bs z C c).1 5 = 0)
  | 0 => Or.inl rfl
  | c + 1 => by
    have ih := sp_bs_lt z C c
    have ihp := sp_bs_pos z C c
    unfold sp_bs
    by_cases h : (sp_bs z C c).2 < sp_ov z C c
    · rw [if_pos h]
      refine Or.inr ⟨Nat.lt_succ_self c, ?_⟩
      by_cases e : sp_f z c 5 = 0
      · exact e
      · unfold sp_ov at h
        rw [if_neg e] at h
        exact absurd ihp (Int32.not_le.mpr h)
    · rw [if_neg h]
      rcases ih with g | g
      · exact Or.inl g
      · exact Or.inr ⟨by omega, g.2⟩
theorem sp_bu_lt {z : Nat → Int32} {C : Nat} (h : sp_bu z C ≠ 99) : sp_bu z C < C ∧ sp_f z (sp_bu z C) 5 = 0 := by
  rcases sp_bs_lt z C C with g | g
  · exact absurd g h
  · exact g
def sp_stl (C : Nat) : Nat → (Nat → Int32) → Nat → Int32
  | 0, z => z
  | k + 1, z => if sp_bu z C = 99 then z else sp_stl C k (sp_brk z (sp_bu z C))
def sp_sto (C : Nat) : Nat → (Nat → Int32) → Int32 → Int32
  | 0, _, m => m
  | k + 1, z, m => if sp_bu z C = 99 then m else sp_sto C k (sp_brk z (sp_bu z C)) (m ||| (1 <<< (nI (sp_bu z C) &&& 31)))
/-- what a break keeps -/
theorem sp_brk_ws {C : Nat} {z : Nat → Int32} (h : sp_ws C z) (k : Nat) : sp_ws C (sp_brk z k) := by
  refine ⟨h.1, (sp_brk_lo z k (by decide)).trans h.2.1, fun i hi => ?_, fun i j hi hj e => h.2.2.2 i j hi hj (by rw [sp_brk_at, sp_brk_at] at e; exact e)⟩
  rw [sp_brk_at, sp_brk_f z k (by decide)]
  simpa using h.2.2.1 i hi
theorem sp_brk_wf {C : Nat} {z : Nat → Int32} (h : sp_wf C z) {k : Nat} (hk : k < C) : sp_wf C (sp_brk z k) := by
  obtain ⟨h1, h2, h3, h4, h5, h6, h7, h8⟩ := h
  refine ⟨sp_brk_ws h1 k, fun i hi => ?_, fun p hp => by rw [sp_brk_lo z k (by omega)]; exact h3 p hp, by rw [sp_brk_lo z k (by decide)]; exact h4, by rw [sp_brk_lo z k (by decide)]; exact h5, by rw [sp_brk_lo z k (by decide)]; exact h6, by rw [sp_brk_lo z k (by decide)]; exact h7, fun i f hi hi8 hf => ?_⟩
  · have g := h2 i hi
    unfold sp_ww at g ⊢
    by_cases e : i = k
    · subst e
      obtain ⟨a1, a2, a3, a4, a5, a6, a7, a8, a9, a10, a11, a12, a13, a14, a15⟩ := g
      have e4 : sp_f (sp_brk z i) i 4 = 0 := by rw [sp_brk_f z i (by decide)]; simp
      have e5 : sp_f (sp_brk z i) i 5 = 1 := by rw [sp_brk_f z i (by decide)]; simp
      have e2 : ∀ f, f < 14 → f ≠ 4 → f ≠ 5 → f ≠ 6 → sp_f (sp_brk z i) i f = sp_f z i f := fun f hf h4 h5 h6 => by rw [sp_brk_f z i hf]; simp [h4, h5, h6]
      rw [e2 0 (by decide) (by decide) (by decide) (by decide), e2 1 (by decide) (by decide) (by decide) (by decide), e2 2 (by decide) (by decide) (by decide) (by decide), e2 3 (by decide) (by decide) (by decide) (by decide), e4, e5, e2 7 (by decide) (by decide) (by decide) (by decide), e2 8 (by decide) (by decide) (by decide) (by decide), e2 9 (by decide) (by decide) (by decide) (by decide), e2 10 (by decide) (by decide) (by decide) (by decide)]
      exact ⟨a1, a2, a3, a4, a5, a6, a7, a8, by decide, by decide, Or.inr rfl, a12, fun _ => rfl, fun q => ⟨rfl, (a14 q).2⟩, a15⟩
    · have e2 : ∀ f, f < 14 → sp_f (sp_brk z k) i f = sp_f z i f := fun f hf => by rw [sp_brk_f z k hf]; simp [e]
      rw [e2 0 (by decide), e2 1 (by decide), e2 2 (by decide), e2 3 (by decide), e2 4 (by decide), e2 5 (by decide), e2 7 (by decide), e2 8 (by decide), e2 9 (by decide), e2 10 (by decide)]
      exact g
  · rw [sp_brk_f z k hf]
    have e : ¬ i = k := by omega
    simp only [e, false_and, if_false]
    exact h8 i f hi hi8 hf
end
section
theorem rb_wire {C b k : Nat} {S S' : Mem} {z z' : Nat → Int32} (h : rb C S b z) (hC : C ≤ 8) (hk : k < C) (hS : ∀ j, j ≠ mm_W b k → S' j = S j) (hz : ∀ i, i < 30 → z' i = z i) (hzf : ∀ i f, i ≠ k → f < 14 → sp_f z' i f = sp_f z i f) (h0 : sp_f z' k 0 = sp_f z k 0)
    (hr : S' (mm_W b k) 0 = sp_f z' k 0 ∧ S' (mm_W b k) 1 = sp_f z' k 1 ∧ S' (mm_W b k) 2 = sp_f z' k 2 ∧ S' (mm_W b k) 3 = sp_f z' k 3 ∧ S' (mm_W b k) 4 = sp_f z' k 4 ∧ S' (mm_W b k) 6 = sp_f z' k 5 ∧ S' (mm_W b k) 7 = sp_f z' k 6 ∧ S' (mm_W b k) 8 = sp_f z' k 7 ∧ S' (mm_W b k) 9 = sp_lw z' k 8 ∧ S' (mm_W b k) 10 = sp_lw z' k 9 ∧ S' (mm_W b k) 11 = sp_f z' k 10) : rb C S' b z' := by
  obtain ⟨h1, h2, h3, h4, h5, h6, h7, h8, h9⟩ := h
  have eB := hS (mm_B b) (by unfold mm_B mm_W; omega)
  have eL := hS (mm_L b) (by unfold mm_L mm_W; omega)
  have eA := hS (mm_A b) (by unfold mm_A mm_W; omega)
  have ea : ∀ i, sp_at z' i = sp_at z i := by
    intro i
    unfold sp_at
    by_cases e : i = k
    · rw [e, h0]
    · rw [hzf i 0 e (by decide)]
  unfold rb
  rw [eB, eL, eA, hz 3 (by decide), hz 0 (by decide), hz 1 (by decide), hz 2 (by decide), hz 4 (by decide), hz 5 (by decide)]
  refine ⟨h1, h2, h3, h4, h5, h6, fun p hp => by rw [hz _ (by omega)]; exact h7 p hp, fun p hp => by rw [sp_wa_congr (fun i _ => ea i)]; exact h8 p hp, fun i hi => ?_⟩
  by_cases e : i = k
  · subst e; exact hr
  · rw [hS (mm_W b i) (mm_W_ne2 e)]
    unfold sp_lw
    rw [hzf i 0 e (by decide), hzf i 1 e (by decide), hzf i 2 e (by decide), hzf i 3 e (by decide), hzf i 4 e (by decide), hzf i 5 e (by decide), hzf i 6 e (by decide), hzf i 7 e (by decide), hzf i 8 e (by decide), hzf i 9 e (by decide), hzf i 10 e (by decide)]
    exact h9 i hi
theorem rt_wire {C b k : Nat} {S S' : Mem} {z z' : Nat → Int32} (h : rt_ C S b z) (hC : C ≤ 8) (hS : ∀ j, j ≠ mm_W b k → S' j = S j) (h5 : S' (mm_W b k) 5 = S (mm_W b k) 5) (hz : ∀ i, i < 30 → z' i = z i) (hzf : ∀ i, i < C → sp_f z' i 0 = sp_f z i 0 ∧ (sp_f z' i 5 = 0 ↔ sp_f z i 5 = 0)) : rt_ C S' b z' := by
  intro i hi
  rw [sp_tk_congr hC hzf (fun p hp => hz _ (by omega)), ← h i hi]
  by_cases e : i = k
  · rw [e, h5]
  · rw [hS (mm_W b i) (mm_W_ne2 e)]
theorem mm_wr3_o {S : Mem} {j k1 k2 k3 : Nat} {x1 x2 x3 : Int32} (i : Nat) (h : i ≠ j) : mm_wr (mm_wr (mm_wr S j k1 x1) j k2 x2) j k3 x3 i = S i := by
  rw [mm_wr_orow _ _ h, mm_wr_orow _ _ h, mm_wr_orow _ _ h]
/-- a wire of the class breaks -/
theorem rb_snap {C b k : Nat} {S : Mem} {z : Nat → Int32} {d : Int32} (h : rb C S b z) (hC : C ≤ 8) (hk : k < C) (hd : d = z 2) : rb C (mm_wr (mm_wr (mm_wr S (mm_W b k) 6 1) (mm_W b k) 7 d) (mm_W b k) 4 0) b (sp_brk z k) := by
  obtain ⟨a1, a2, a3, a4, a5, a6, a7, a8, a9, a10, a11⟩ := h.2.2.2.2.2.2.2.2 k hk
  have e2 : ∀ f, f < 14 → f ≠ 4 → f ≠ 5 → f ≠ 6 → sp_f (sp_brk z k) k f = sp_f z k f := fun f hf h4 h5 h6 => by rw [sp_brk_f z k hf]; simp [h4, h5, h6]
  refine rb_wire h hC hk (fun j hj => mm_wr3_o j hj) (fun i hi => sp_brk_lo z k hi) (fun i f hi hf => by rw [sp_brk_f z k hf]; simp [hi]) (e2 0 (by decide) (by decide) (by decide) (by decide)) ?_
  unfold sp_lw
  rw [e2 0 (by decide) (by decide) (by decide) (by decide), e2 1 (by decide) (by decide) (by decide) (by decide), e2 2 (by decide) (by decide) (by decide) (by decide), e2 3 (by decide) (by decide) (by decide) (by decide), e2 7 (by decide) (by decide) (by decide) (by decide), e2 8 (by decide) (by decide) (by decide) (by decide), e2 9 (by decide) (by decide) (by decide) (by decide), e2 10 (by decide) (by decide) (by decide) (by decide), sp_brk_f z k (show 4 < 14 by decide), sp_brk_f z k (show 5 < 14 by decide), sp_brk_f z k (show 6 < 14 by decide)]
  simp only [mm_wr_eq]
  unfold sp_lw at a9 a10
  simp [a1, a2, a3, a4, a8, a9, a10, a11, hd]
theorem fr_snap {b k : Nat} {S : Mem} {d : Int32} (hk : k < 8) : fr_ b S (mm_wr (mm_wr (mm_wr S (mm_W b k) 6 1) (mm_W b k) 7 d) (mm_W b k) 4 0) := fun j hj => mm_wr3_o j (by unfold mm_B mm_W at *; omega)
def sp_ixm (k : Nat) : Int32 := if k = 99 then -1 else nI k
theorem sp_bs_stp {z : Nat → Int32} {C q : Nat} {x2 x4 : Int32} (e2 : x2 = (sp_bs z C q).2) (hon : sp_f z q 5 = 0 → x4 = sp_ov z C q) (hoff : sp_f z q 5 ≠ 0 → x4 < 0) : (x4 ≤ x2 → sp_bs z C (q + 1) = sp_bs z C q) ∧ (¬ x4 ≤ x2 → sp_bs z C (q + 1) = (q, x4)) := by
  have hp := sp_bs_pos z C q
  by_cases e : sp_f z q 5 = 0
  · have h := hon e
    refine ⟨fun g => ?_, fun g => ?_⟩
    · rw [sp_bs, if_neg (by rw [← h, ← e2]; exact Int32.not_lt.mpr g)]
    · rw [sp_bs, if_pos (by rw [← h, ← e2]; exact Int32.not_le.mp g), ← h]
  · have h := hoff e
    have h0 : sp_ov z C q = 0 := by unfold sp_ov; rw [if_neg e]
    refine ⟨fun g => ?_, fun g => ?_⟩
    · rw [sp_bs, if_neg (by rw [h0]; exact Int32.not_lt.mpr hp)]
    · exact absurd (Int32.le_of_lt (Int32.lt_of_lt_of_le h (by rw [e2]; exact hp))) g
theorem sp_stl_wf {C : Nat} : ∀ (k : Nat) {z : Nat → Int32}, sp_wf C z → sp_wf C (sp_stl C k z)
  | 0, _, h => h
  | k + 1, z, h => by
    unfold sp_stl
    by_cases e : sp_bu z C = 99
    · rw [if_pos e]; exact h
    · rw [if_neg e]; exact sp_stl_wf k (sp_brk_wf h (sp_bu_lt e).1)
theorem sp_neg {x : Int32} (h : 100 ≤ x.toInt) : (0 : Int32) - x < 0 := by
  have h1 : x.toInt ≤ 2147483647 := by have := x.toInt_lt; omega
  rw [Int32.lt_iff_toInt_lt, Int32.toInt_sub]
  have h0 : (0 : Int32).toInt = 0 := (by decide)
  rw [h0, Int.bmod_eq_of_le (by omega) (by omega)]
  omega
end
section
set_option maxRecDepth 100000 in
set_option maxHeartbeats 4000000 in
theorem c_X0_worstBursting (l : Launch) (G : gG) {C b : Nat} {z : Nat → Int32} (hb : b < 11) (S : Mem) (hwf : sp_wf C z) (hr : rb C S b z) (ht : rt_ C S b z) : mm_C l G yX0_worstBursting cX0_worstBursting 5 (some .int) (mm_rm 0 0) [.ref (gad G (mm_B b))] S (mm_Qi G (fun r S2 => S2 = S ∧ r = sp_ixm (sp_bu z C))) := by
  obtain ⟨g1, g2, g3, g4, g5, g6, g7, g8, g9⟩ := id hr
  have hw := hwf.1
  have hC := hw.1
  refine mm_ofV (own := RX0) (by decide +kernel) rfl (Nat.le_of_ble_eq_true rfl) (ls0 := [(0, .ref (gad G (mm_B b)))]) rfl ?_
  refine vv_iconst (pc := 0) (v := (-1)) dX0_worstBursting_0 (by decide) ?_
  refine vv_topi (fun x1p1 e1p1 => ?_)
  refine vv_istore_n (pc := 1) (i := 1) (ls' := [(1, .int x1p1), (0, .ref (gad G (mm_B b)))]) dX0_worstBursting_1 rfl (by decide) rfl ?_
  refine vv_iconst (pc := 2) (v := 0) dX0_worstBursting_2 (by decide) ?_
  refine vv_topi (fun x2p3 e2p3 => ?_)
  refine vv_istore_n (pc := 3) (i := 2) (ls' := [(2, .int x2p3), (1, .int x1p1), (0, .ref (gad G (mm_B b)))]) dX0_worstBursting_3 rfl (by decide) rfl ?_
  refine vv_iconst (pc := 4) (v := 0) dX0_worstBursting_4 (by decide) ?_
  refine vv_topi (fun x3p5 e3p5 => ?_)
  refine vv_istore_n (pc := 5) (i := 3) (ls' := [(3, .int x3p5), (2, .int x2p3), (1, .int x1p1), (0, .ref (gad G (mm_B b)))]) dX0_worstBursting_5 rfl (by decide) rfl ?_
  have lp6 : ∀ (n : Nat) (q : Nat) (x1 x2 x3 : Int32), 9 ≤ n + q → q ≤ C → x3 = nI q → x1 = sp_ixm (sp_bs z C q).1 → x2 = (sp_bs z C q).2 → mm_V l G RX0 cX0_worstBursting 5 (some .int) (mm_rm 0 0) 0 0 (fun _ => True) (fun _ => mm_F G) (mm_Qf G (mm_Qi G (fun r S2 => S2 = S ∧ r = sp_ixm (sp_bu z C)))) S 6 [(0, .ref (gad G (mm_B b))), (1, .int x1), (2, .int x2), (3, .int x3)] [] := by
    intro n
    induction n with
    | zero =>
      intro q x1 x2 x3 hn hq e3 e1 e2
      exact absurd hn (by omega)
    | succ n ih =>
      intro q x1 x2 x3 hn hq e3 e1 e2
      refine vv_iload_n (pc := 6) 3 dX0_worstBursting_6 rfl rfl ?_
      refine vv_aload_n (pc := 7) 0 dX0_worstBursting_7 rfl rfl ?_
      refine vg_X0_wireCount (pc := 8) (by assumption) mw_F_X0_38 dX0_worstBursting_8 ?_
      refine vv_icmp_ge (pc := 11) (tgt := 52) dX0_worstBursting_11 (by decide) (fun c11 => ?_) (fun c11 => ?_)
      -- t@11 path L6t
      · refine vv_iload_n (pc := 52) 1 dX0_worstBursting_52 rfl rfl ?_
        refine vr_i (pc := 53) dX0_worstBursting_53 ?_
        rw [g1, hw.2.1] at c11
        have hqC := sp_geN (N := C) (by omega) hq e3 c11
        subst hqC
        exact ⟨rfl, e1⟩
      -- f@11 path L6f
      · rw [g1, hw.2.1] at c11
        have hqC : q < C := sp_ltN (N := C) (by omega) hq e3 c11
        have hx3 : x3.toNatClampNeg = q := by rw [e3, cl_n (by omega)]
        have hq8 : q < 8 := by omega
        refine vv_aload_n (pc := 14) 0 dX0_worstBursting_14 rfl rfl ?_
        refine vg_X0_wires (pc := 15) (by assumption) mw_F_X0_20 dX0_worstBursting_15 ?_
        refine vv_iload_n (pc := 18) 3 dX0_worstBursting_18 rfl rfl ?_
        refine vl_R (pc := 19) (by assumption) (by rw [e3]; exact vp_8 (by omega)) dX0_worstBursting_19 ?_
        rw [hx3]
        refine vg_X3_task (pc := 20) (by assumption) (by assumption) mw_F_X0_122 dX0_worstBursting_20 ?_
        refine vv_aload_n (pc := 23) 0 dX0_worstBursting_23 rfl rfl ?_
        refine vg_X0_wires (pc := 24) (by assumption) mw_F_X0_20 dX0_worstBursting_24 ?_
        refine vv_iload_n (pc := 27) 3 dX0_worstBursting_27 rfl rfl ?_
        refine vl_R (pc := 28) (by assumption) (by rw [e3]; exact vp_8 (by omega)) dX0_worstBursting_28 ?_
        rw [hx3]
        refine vg_X3_strength (pc := 29) (by assumption) (by assumption) mw_F_X0_106 dX0_worstBursting_29 ?_
        refine vv_isub (pc := 32) dX0_worstBursting_32 ?_
        refine vv_topi (fun x4p33 e4p33 => ?_)
        refine vv_istore (pc := 33) (i := 4) (ls' := [(4, .int x4p33), (0, .ref (gad G (mm_B b))), (1, .int x1), (2, .int x2), (3, .int x3)]) dX0_worstBursting_33 (by decide) rfl ?_
        have hst := sp_bs_stp (C := C) (q := q) (x4 := x4p33) e2 (fun h => by rw [e4p33, ht q hqC, (g9 q hqC).2.2.2.1]; unfold sp_ov; rw [if_pos h]) (fun h => by rw [e4p33, ht q hqC, sp_tk_off hC h, (g9 q hqC).2.2.2.1]; exact sp_neg (hwf.2.1 q hqC).2.2.2.2.2.2.1)
        refine vv_iload (pc := 35) 0 dX0_worstBursting_35 rfl ?_
        refine vv_iload_n (pc := 37) 3 dX0_worstBursting_37 rfl rfl ?_
        refine vv_icmp_le (pc := 38) (tgt := 46) dX0_worstBursting_38 (by decide) (fun c38 => ?_) (fun c38 => ?_)
        -- t@38 path L6ft
        · obtain ⟨x3p46, e3p46⟩ : ∃ y : Int32, y = x3 + 1 := ⟨_, rfl⟩
          refine vv_iinc (pc := 46) (q := 4) (v := x3p46) (ls' := [(3, .int x3p46), (4, .int x4p33), (0, .ref (gad G (mm_B b))), (1, .int x1), (2, .int x2)]) dX0_worstBursting_46 rfl (by rw [e3p46]; rfl) (by decide) rfl ?_
          refine vv_goto (pc := 49) (tgt := 6) dX0_worstBursting_49 (by decide) ?_
          refine vv_sub [2, 3, 4, 0] (ls' := [(0, _), (1, _), (2, _), (3, _)]) rfl ?_
          exact ih (q + 1) x1 x2 x3p46 (by omega) (by omega) (by rw [e3p46, e3]; exact nI_1 q) (by rw [hst.1 c38]; exact e1) (by rw [hst.1 c38]; exact e2)
        -- f@38 path L6ff
        · refine vv_iload_n (pc := 41) 4 dX0_worstBursting_41 rfl rfl ?_
          refine vv_topi (fun x1p42 e1p42 => ?_)
          refine vv_istore_n (pc := 42) (i := 1) (ls' := [(1, .int x1p42), (4, .int x4p33), (0, .ref (gad G (mm_B b))), (2, .int x2), (3, .int x3)]) dX0_worstBursting_42 rfl (by decide) rfl ?_
          refine vv_iload (pc := 43) 1 dX0_worstBursting_43 rfl ?_
          refine vv_topi (fun x2p45 e2p45 => ?_)
          refine vv_istore_n (pc := 45) (i := 2) (ls' := [(2, .int x2p45), (1, .int x1p42), (4, .int x4p33), (0, .ref (gad G (mm_B b))), (3, .int x3)]) dX0_worstBursting_45 rfl (by decide) rfl ?_
          obtain ⟨x3p46, e3p46⟩ : ∃ y : Int32, y = x3 + 1 := ⟨_, rfl⟩
          refine vv_iinc (pc := 46) (q := 4) (v := x3p46) (ls' := [(3, .int x3p46), (2, .int x2p45), (1, .int x1p42), (4, .int x4p33), (0, .ref (gad G (mm_B b)))]) dX0_worstBursting_46 rfl (by rw [e3p46]; rfl) (by decide) rfl ?_
          refine vv_goto (pc := 49) (tgt := 6) dX0_worstBursting_49 (by decide) ?_
          refine vv_sub [4, 2, 1, 0] (ls' := [(0, _), (1, _), (2, _), (3, _)]) rfl ?_
          exact ih (q + 1) x1p42 x2p45 x3p46 (by omega) (by omega) (by rw [e3p46, e3]; exact nI_1 q) (by rw [hst.2 c38, e1p42, e3]; unfold sp_ixm; rw [if_neg (by omega)]) (by rw [hst.2 c38, e2p45])
  refine vv_sub [3, 2, 1, 0] (ls' := [(0, _), (1, _), (2, _), (3, _)]) rfl ?_
  exact lp6 9 0 x1p1 x2p3 x3p5 (by omega) (by omega) e3p5 e1p1 e2p3
set_option maxRecDepth 100000 in
set_option maxHeartbeats 4000000 in
theorem c_X0_settle (l : Launch) (G : gG) {C b : Nat} {z : Nat → Int32} (hb : b < 11) (S : Mem) (hwf : sp_wf C z) (hr : rb C S b z) (ht : rt_ C S b z) : mm_C l G yX0_settle cX0_settle 4 (some .int) (mm_rm 2 49) [.ref (gad G (mm_B b))] S (mm_Qi G (fun r S2 => r = sp_sto C 8 z 0 ∧ rb C S2 b (sp_stl C 8 z) ∧ rt_ C S2 b (sp_stl C 8 z) ∧ fr_ b S S2)) := by
  have hC := hwf.1.1
  refine mm_ofV (own := RX0) (by decide +kernel) rfl (Nat.le_of_ble_eq_true rfl) (ls0 := [(0, .ref (gad G (mm_B b)))]) rfl ?_
  refine vv_iconst (pc := 0) (v := 0) dX0_settle_0 (by decide) ?_
  refine vv_topi (fun x1p1 e1p1 => ?_)
  refine vv_istore_n (pc := 1) (i := 1) (ls' := [(1, .int x1p1), (0, .ref (gad G (mm_B b)))]) dX0_settle_1 rfl (by decide) rfl ?_
  refine vv_iconst (pc := 2) (v := 0) dX0_settle_2 (by decide) ?_
  refine vv_topi (fun x2p3 e2p3 => ?_)
  refine vv_istore_n (pc := 3) (i := 2) (ls' := [(2, .int x2p3), (1, .int x1p1), (0, .ref (gad G (mm_B b)))]) dX0_settle_3 rfl (by decide) rfl ?_
  obtain ⟨F, eF⟩ : ∃ F, F = sp_stl C 8 z := ⟨_, rfl⟩
  obtain ⟨M0, eM⟩ : ∃ F, F = sp_sto C 8 z 0 := ⟨_, rfl⟩
  have lp4 : ∀ (n : Nat) (q kk : Nat) (x1 x2 : Int32) (S1 : Mem) (z1 : Nat → Int32), 9 ≤ n + q → q + kk = 8 → x2 = nI q → sp_wf C z1 → rb C S1 b z1 → rt_ C S1 b z1 → fr_ b S S1 → sp_stl C kk z1 = F → sp_sto C kk z1 x1 = M0 → mm_V l G RX0 cX0_settle 4 (some .int) (mm_rm 2 49) 0 0 (fun _ => True) (fun _ => mm_F G) (mm_Qf G (mm_Qi G (fun r S2 => r = sp_sto C 8 z 0 ∧ rb C S2 b (sp_stl C 8 z) ∧ rt_ C S2 b (sp_stl C 8 z) ∧ fr_ b S S2))) S1 4 [(0, .ref (gad G (mm_B b))), (1, .int x1), (2, .int x2)] [] := by
    intro n
    induction n with
    | zero =>
      intro q kk x1 x2 S1 z1 hn hq e2 hwf1 hr1 ht1 hfr hsl hso
      exact absurd hn (by omega)
    | succ n ih =>
      intro q kk x1 x2 S1 z1 hn hq e2 hwf1 hr1 ht1 hfr hsl hso
      obtain ⟨g1, g2, g3, g4, g5, g6, g7, g8, g9⟩ := id hr1
      refine vv_iload_n (pc := 4) 2 dX0_settle_4 rfl rfl ?_
      refine vv_bipush (pc := 5) (v := 8) dX0_settle_5 (by decide) ?_
      refine vv_icmp_ge (pc := 7) (tgt := 51) dX0_settle_7 (by decide) (fun c7 => ?_) (fun c7 => ?_)
      -- t@7 path L4t
      · refine vv_iload_n (pc := 51) 1 dX0_settle_51 rfl rfl ?_
        refine vr_i (pc := 52) dX0_settle_52 ?_
        have hq8 := sp_geN (N := 8) (by decide) (by omega) e2 c7
        obtain rfl : kk = 0 := by omega
        unfold sp_stl at hsl
        unfold sp_sto at hso
        rw [← eF, ← eM, ← hsl]
        exact ⟨hso, hr1, ht1, hfr⟩
      -- f@7 path L4f
      · have hq8 : q < 8 := sp_ltN (N := 8) (by decide) (by omega) e2 c7
        refine vv_aload_n (pc := 10) 0 dX0_settle_10 rfl rfl ?_
        refine vc_Vi (pc := 11) (c_X0_worstBursting l G (by assumption) _ hwf1 hr1 ht1) mw_M_X0_116 my_X0_worstBursting (mm_rv_B (by assumption)) ⟨by decide, by decide⟩ rfl rfl (Nat.le_of_ble_eq_true rfl) dX0_settle_11 (fun r11 S11 h11 => ?_)
        obtain ⟨qS11, h11⟩ := h11
        replace qS11 := qS11.symm
        subst qS11
        refine vv_topi (fun x3p14 e3p14 => ?_)
        refine vv_istore_n (pc := 14) (i := 3) (ls' := [(3, .int x3p14), (0, .ref (gad G (mm_B b))), (1, .int x1), (2, .int x2)]) dX0_settle_14 rfl (by decide) rfl ?_
        rw [h11] at e3p14
        obtain ⟨k1, rfl⟩ : ∃ k1, kk = k1 + 1 := ⟨kk - 1, by omega⟩
        unfold sp_stl at hsl
        unfold sp_sto at hso
        refine vv_iload_n (pc := 15) 0 dX0_settle_15 rfl rfl ?_
        refine vv_iconst (pc := 16) (v := (-1)) dX0_settle_16 (by decide) ?_
        refine vv_icmp_ne (pc := 17) (tgt := 22) dX0_settle_17 (by decide) (fun c17 => ?_) (fun c17 => ?_)
        -- t@17 path L4ft
        · have hne : sp_bu z1 C ≠ 99 := fun h => c17 (by rw [e3p14, h]; rfl)
          have hbu := sp_bu_lt hne
          rw [if_neg hne] at hsl hso
          have hb8 : sp_bu z1 C < 8 := by omega
          have e3n : x3p14 = nI (sp_bu z1 C) := by rw [e3p14]; unfold sp_ixm; rw [if_neg hne]
          rw [← e3n] at hso
          have hx3 : x3p14.toNatClampNeg = sp_bu z1 C := by rw [e3n, cl_n (by omega)]
          refine vv_aload_n (pc := 22) 1 dX0_settle_22 rfl rfl ?_
          refine vg_X0_wires (pc := 23) (by assumption) mw_F_X0_20 dX0_settle_23 ?_
          refine vv_iload_n (pc := 26) 0 dX0_settle_26 rfl rfl ?_
          refine vl_R (pc := 27) (by assumption) (by rw [e3n]; exact vp_8 hb8) dX0_settle_27 ?_
          rw [hx3]
          refine vv_aload_n (pc := 28) 1 dX0_settle_28 rfl rfl ?_
          refine vg_X0_day (pc := 29) (by assumption) mw_F_X0_45 dX0_settle_29 ?_
          refine vc_Vv (pc := 32) (c_X3_snap l G (by assumption) (by assumption) _ _) mw_M_X0_119 my_X3_snap (mm_rv_W (by assumption) (by assumption)) ⟨by decide, by decide⟩ rfl rfl (Nat.le_of_ble_eq_true rfl) dX0_settle_32 (fun S32 h32 => ?_)
          have hr3 : rb C S32 b (sp_brk z1 (sp_bu z1 C)) := by rw [h32]; exact rb_snap hr1 hC hbu.1 g4
          have hfr3 : fr_ b S1 S32 := by rw [h32]; exact fr_snap hb8
          refine vv_iload_n (pc := 35) 2 dX0_settle_35 rfl rfl ?_
          refine vv_iconst (pc := 36) (v := 1) dX0_settle_36 (by decide) ?_
          refine vv_iload_n (pc := 37) 0 dX0_settle_37 rfl rfl ?_
          refine vv_ishl (pc := 38) dX0_settle_38 ?_
          refine vv_ior (pc := 39) dX0_settle_39 ?_
          refine vv_topi (fun x1p40 e1p40 => ?_)
          refine vv_istore_n (pc := 40) (i := 1) (ls' := [(1, .int x1p40), (3, .int x3p14), (0, .ref (gad G (mm_B b))), (2, .int x2)]) dX0_settle_40 rfl (by decide) rfl ?_
          rw [← e1p40] at hso
          refine vv_aload_n (pc := 41) 2 dX0_settle_41 rfl rfl ?_
          refine vc_Vv (pc := 42) (c_X0_reckon l G (by assumption) _ (sp_brk_ws hwf1.1 _) hr3) mw_M_X0_64 my_X0_reckon (mm_rv_B (by assumption)) ⟨by decide, by decide⟩ rfl rfl (Nat.le_of_ble_eq_true rfl) dX0_settle_42 (fun S42 h42 => ?_)
          obtain ⟨x2p45, e2p45⟩ : ∃ y : Int32, y = x2 + 1 := ⟨_, rfl⟩
          refine vv_iinc (pc := 45) (q := 3) (v := x2p45) (ls' := [(2, .int x2p45), (1, .int x1p40), (3, .int x3p14), (0, .ref (gad G (mm_B b)))]) dX0_settle_45 rfl (by rw [e2p45]; rfl) (by decide) rfl ?_
          refine vv_goto (pc := 48) (tgt := 4) dX0_settle_48 (by decide) ?_
          refine vv_sub [3, 1, 0] (ls' := [(0, _), (1, _), (2, _)]) rfl ?_
          exact ih (q + 1) k1 x1p40 x2p45 S42 (sp_brk z1 (sp_bu z1 C)) (by omega) (by omega) (by rw [e2p45, e2]; exact nI_1 q) (sp_brk_wf hwf1 hbu.1) (f5_rb hC h42.1 hr3) h42.2 (fr_trans hfr (fr_trans hfr3 (f5_fr hC h42.1))) hsl hso
        -- f@17 path L4ff
        · refine vv_iload_n (pc := 20) 2 dX0_settle_20 rfl rfl ?_
          refine vr_i (pc := 21) dX0_settle_21 ?_
          have h99 : sp_bu z1 C = 99 := by
            rcases Nat.decEq (sp_bu z1 C) 99 with h | h
            · exfalso
              rw [e3p14] at c17
              unfold sp_ixm at c17
              rw [if_neg h] at c17
              have := (sp_bu_lt h).1
              have h2 := congrArg Int32.toInt c17
              rw [nI_toInt (by omega)] at h2
              have h3 : (-1 : Int32).toInt = -1 := (by decide)
              omega
            · exact h
          rw [if_pos h99] at hsl hso
          rw [← eF, ← eM, ← hsl]
          exact ⟨hso, hr1, ht1, hfr⟩
  refine vv_sub [2, 1, 0] (ls' := [(0, _), (1, _), (2, _)]) rfl ?_
  exact lp4 9 0 8 x1p1 x2p3 S z (by omega) (by omega) e2p3 hwf hr ht (fr_refl b S) eF.symm (by rw [e1p1]; exact eM.symm)
end
section
/-! WHAT THE CALLS DO TO THE STATE -/
def op_set (z : Nat → Int32) (s v : Int32) : Int32 × (Nat → Int32) := if sp_in v 0 100 = 0 then (-2, z) else if s = 0 then (z 0, upd z 0 v) else if s = 1 then (z 1, upd z 1 v) else (-2, z)
def sp_far (p q : Int32) : Int32 := if 0 ≤ p - q then p - q else 0 - (p - q)
def op_walk (z : Nat → Int32) (p : Int32) : Int32 × (Nat → Int32) := if sp_in p 0 19 = 0 then (-1, z) else (sp_far p (z 4), upd (upd z 4 p) 5 (z 5 + sp_far p (z 4)))
def op_load (C : Nat) (z : Nat → Int32) (p v : Int32) : Int32 × (Nat → Int32) := if sp_in p 0 19 = 0 then (-1, z) else if sp_in v 0 1000 = 0 then (-2, z) else (z (10 + p.toNatClampNeg), sp_stl C 8 (upd z (10 + p.toNatClampNeg) v))
def sp_lz (t c : Int32) : Int32 := if t < 0 then t else sp_crept t c
def sp_lo (C : Nat) (z : Nat → Int32) : Nat → Int32 := fun i => if 30 ≤ i ∧ (i - 30) / 14 < C ∧ ((i - 30) % 14 = 4 ∨ (i - 30) % 14 = 8 ∨ (i - 30) % 14 = 9) then sp_lz (z i) (z 0) else z i
def sp_day (C : Nat) (z : Nat → Int32) : Nat → Int32 := upd (sp_lo C z) 2 (z 2 + 1)
def sp_dz (C : Nat) : Nat → (Nat → Int32) → Nat → Int32
  | 0, z => z
  | k + 1, z => sp_dz C k (sp_day C z)
def op_days (C : Nat) (z : Nat → Int32) (d : Int32) : Int32 × (Nat → Int32) := if sp_in d 1 100 = 0 then (-2, z) else (0, sp_dz C d.toNatClampNeg z)
/-- the wire where the listener is (99: none) -/
def sp_hw (z : Nat → Int32) (C : Nat) : Nat := sp_wi C (sp_wa z (z 4).toNatClampNeg C)
def sp_kn (z : Nat → Int32) (k : Nat) (lo hi : Int32) : Nat → Int32 := sp_up (sp_up (sp_up z k 7 (z 2)) k 8 lo) k 9 hi
def op_hear (C : Nat) (z : Nat → Int32) : Int32 × (Nat → Int32) :=
  if sp_hw z C = 99 then (-5, z) else
  if sp_f z (sp_hw z C) 5 = 0 then
    (sp_pt (sp_f z (sp_hw z C) 1) (sp_f z (sp_hw z C) 2) (sp_f z (sp_hw z C) 4), sp_kn z (sp_hw z C) (sp_ls (sp_pt (sp_f z (sp_hw z C) 1) (sp_f z (sp_hw z C) 2) (sp_f z (sp_hw z C) 4)).toInt64 (sp_f z (sp_hw z C) 1) (sp_f z (sp_hw z C) 2)).toInt32 (sp_hi (sp_pt (sp_f z (sp_hw z C) 1) (sp_f z (sp_hw z C) 2) (sp_f z (sp_hw z C) 4)) (sp_f z (sp_hw z C) 1) (sp_f z (sp_hw z C) 2)))
  else (-6, sp_kn (sp_up z (sp_hw z C) 10 1) (sp_hw z C) 0 0)
def op_tight (C : Nat) (z : Nat → Int32) (t : Int32) : Int32 × (Nat → Int32) :=
  if sp_in t 0 50000 = 0 then (-2, z) else
  if sp_hw z C = 99 then (-5, z) else
  if sp_f z (sp_hw z C) 5 = 0 ∧ t ≤ sp_f z (sp_hw z C) 3 then (sp_f z (sp_hw z C) 4, sp_kn (sp_up z (sp_hw z C) 4 t) (sp_hw z C) t t) else (-5, z)
def sp_new (C : Nat) (z : Nat → Int32) (a b c d e : Int32) : Nat → Int32 := sp_up (sp_up (sp_up (sp_up (sp_up (sp_up (sp_up (sp_up (sp_up (upd z 3 (nI (C + 1))) C 0 a) C 1 b) C 2 c) C 3 d) C 4 e) C 6 (-6)) C 7 (-6)) C 8 (-6)) C 9 (-6)
def op_wbad (C : Nat) (z : Nat → Int32) (a b c d e : Int32) : Int32 :=
  if sp_in a 0 19 = 0 ∨ sp_in b 10 200 = 0 ∨ sp_in c 1 20 = 0 ∨ sp_in d 100 50000 = 0 ∨ sp_in e 0 50000 = 0 then -2 else if C = 8 then -4 else if sp_wi C (sp_wa z a.toNatClampNeg C) ≠ 99 ∨ d < e then -5 else 0
/-- the outcome of a bridge's method -/
def sp_res (C b : Nat) (S S2 : Mem) (r : Int32) (o : Int32 × (Nat → Int32)) : Prop := r = o.1 ∧ rb C S2 b o.2 ∧ rt_ C S2 b o.2 ∧ fr_ b S S2
theorem sp_f_upd (z : Nat → Int32) {i : Nat} (hi : i < 30) (x : Int32) (k f : Nat) : sp_f (upd z i x) k f = sp_f z k f := by
  unfold sp_f upd
  rw [if_neg (by omega)]
theorem upd_s (z : Nat → Int32) (i : Nat) (x : Int32) : upd z i x i = x := by simp [upd]
theorem upd_n (z : Nat → Int32) {i j : Nat} (x : Int32) (h : j ≠ i) : upd z i x j = z j := by simp [upd, h]
theorem rb_low {C b : Nat} {S S' : Mem} {z z' : Nat → Int32} (h : rb C S b z) (hC : C ≤ 8) (hf : ∀ k f, sp_f z' k f = sp_f z k f) (hW : ∀ w, w < 8 → S' (mm_W b w) = S (mm_W b w)) (hA : S' (mm_A b) = S (mm_A b)) (hB : S' (mm_B b) 3 = z' 3 ∧ S' (mm_B b) 4 = z' 0 ∧ S' (mm_B b) 5 = z' 1 ∧ S' (mm_B b) 6 = z' 2 ∧ S' (mm_B b) 7 = z' 4 ∧ S' (mm_B b) 8 = z' 5) (hL : ∀ p, p < 20 → S' (mm_L b) p = z' (10 + p)) : rb C S' b z' := by
  obtain ⟨-, -, -, -, -, -, -, h8, h9⟩ := h
  refine ⟨hB.1, hB.2.1, hB.2.2.1, hB.2.2.2.1, hB.2.2.2.2.1, hB.2.2.2.2.2, hL, fun p hp => ?_, fun k hk => ?_⟩
  · rw [hA, sp_wa_congr (z := z) (fun i _ => by unfold sp_at; rw [hf])]
    exact h8 p hp
  · rw [hW k (by omega)]
    unfold sp_lw
    simp only [hf]
    exact h9 k hk
theorem rt_low {C b : Nat} {S S' : Mem} {z z' : Nat → Int32} (h : rt_ C S b z) (hC : C ≤ 8) (hf : ∀ k f, sp_f z' k f = sp_f z k f) (hW : ∀ w, w < 8 → S' (mm_W b w) = S (mm_W b w)) (hL : ∀ p, p < 20 → z' (10 + p) = z (10 + p)) : rt_ C S' b z' := by
  intro k hk
  rw [hW k (by omega), sp_tk_congr hC (fun i _ => ⟨hf i 0, by rw [hf]⟩) hL]
  exact h k hk
theorem mm_BW (b w : Nat) : mm_B b ≠ mm_W b w := by unfold mm_B mm_W; omega
theorem mm_BL (b : Nat) : mm_B b ≠ mm_L b := by unfold mm_B mm_L; omega
theorem mm_BA (b : Nat) : mm_B b ≠ mm_A b := by unfold mm_B mm_A; omega
theorem mm_LW (b w : Nat) : mm_L b ≠ mm_W b w := by unfold mm_L mm_W; omega
theorem mm_LA (b : Nat) : mm_L b ≠ mm_A b := by unfold mm_L mm_A; omega
theorem mm_AW (b w : Nat) : mm_A b ≠ mm_W b w := by unfold mm_A mm_W; omega
/-- one number of a bridge's own -/
theorem rb_hd {C b : Nat} {S : Mem} {z : Nat → Int32} {x : Int32} (h : rb C S b z) (hC : C ≤ 8) (i f : Nat) (hi : (i = 0 ∧ f = 4) ∨ (i = 1 ∧ f = 5) ∨ (i = 2 ∧ f = 6) ∨ (i = 4 ∧ f = 7) ∨ (i = 5 ∧ f = 8)) : rb C (mm_wr S (mm_B b) f x) b (upd z i x) := by
  obtain ⟨g1, g2, g3, g4, g5, g6, g7, g8, g9⟩ := id h
  refine rb_low h hC (fun k f' => sp_f_upd z (by omega) x k f') (fun w _ => mm_wr_orow S x (Ne.symm (mm_BW b w))) (mm_wr_orow S x (Ne.symm (mm_BA b))) ?_ (fun p hp => by rw [mm_wr_orow S x (Ne.symm (mm_BL b)), upd_n z x (by omega)]; exact g7 p hp)
  rcases hi with ⟨rfl, rfl⟩ | ⟨rfl, rfl⟩ | ⟨rfl, rfl⟩ | ⟨rfl, rfl⟩ | ⟨rfl, rfl⟩ <;> simp [mm_wr_eq, upd, g1, g2, g3, g4, g5, g6]
theorem rt_hd {C b : Nat} {S : Mem} {z : Nat → Int32} {x : Int32} (h : rt_ C S b z) (hC : C ≤ 8) (i f : Nat) (hi : i < 6) : rt_ C (mm_wr S (mm_B b) f x) b (upd z i x) :=
  rt_low h hC (fun k f' => sp_f_upd z (by omega) x k f') (fun w _ => mm_wr_orow S x (Ne.symm (mm_BW b w))) (fun p hp => upd_n z x (by omega))
theorem fr_B {b f : Nat} {S : Mem} {x : Int32} : fr_ b S (mm_wr S (mm_B b) f x) := fr_wr (Nat.le_refl _) (by omega)
/-- a load -/
theorem rb_ld {C b p : Nat} {S : Mem} {z : Nat → Int32} {x : Int32} (h : rb C S b z) (hC : C ≤ 8) (hp : p < 20) : rb C (mm_wr S (mm_L b) p x) b (upd z (10 + p) x) := by
  obtain ⟨g1, g2, g3, g4, g5, g6, g7, g8, g9⟩ := id h
  refine rb_low h hC (fun k f' => sp_f_upd z (by omega) x k f') (fun w _ => mm_wr_orow S x (Ne.symm (mm_LW b w))) (mm_wr_orow S x (Ne.symm (mm_LA b))) ?_ (fun q hq => ?_)
  · rw [mm_wr_orow S x (mm_BL b), upd_n z x (by omega), upd_n z x (by omega), upd_n z x (by omega), upd_n z x (by omega), upd_n z x (by omega), upd_n z x (by omega)]
    exact ⟨g1, g2, g3, g4, g5, g6⟩
  · by_cases e : q = p
    · subst e; rw [mm_wr_s, upd_s]
    · rw [mm_wr_n S x (Or.inr e), upd_n z x (by omega)]; exact g7 q hq
theorem fr_L {b p : Nat} {S : Mem} {x : Int32} : fr_ b S (mm_wr S (mm_L b) p x) := fr_wr (by unfold mm_B mm_L; omega) (by unfold mm_B mm_L; omega)
theorem sp_up_ws {C : Nat} {z z' : Nat → Int32} (h : sp_ws C z) (h3 : z' 3 = z 3) (h0 : ∀ k, k < C → sp_f z' k 0 = sp_f z k 0) : sp_ws C z' := by
  have ea : ∀ k, k < C → sp_at z' k = sp_at z k := fun k hk => by unfold sp_at; rw [h0 k hk]
  exact ⟨h.1, h3.trans h.2.1, fun k hk => by rw [ea k hk, h0 k hk]; exact h.2.2.1 k hk, fun i j hi hj e => h.2.2.2 i j hi hj (by rw [ea i hi, ea j hj] at e; exact e)⟩
/-- a row of numbers below the wires, within the ranges -/
theorem sp_wf_low {C : Nat} {z z' : Nat → Int32} (h : sp_wf C z) (hf : ∀ k f, sp_f z' k f = sp_f z k f) (h3 : z' 3 = z 3) (hl : ∀ p, p < 20 → 0 ≤ (z' (10 + p)).toInt ∧ (z' (10 + p)).toInt ≤ 1000) (h4 : 0 ≤ (z' 4).toInt ∧ (z' 4).toInt < 20) (h0 : 0 ≤ (z' 0).toInt ∧ (z' 0).toInt ≤ 100) (h1 : 0 ≤ (z' 1).toInt ∧ (z' 1).toInt ≤ 100) (h2 : 0 ≤ (z' 2).toInt) : sp_wf C z' := by
  refine ⟨sp_up_ws h.1 h3 (fun k _ => hf k 0), fun k hk => ?_, hl, h4, h0, h1, h2, fun k f hk hk8 hf' => by rw [hf]; exact h.2.2.2.2.2.2.2 k f hk hk8 hf'⟩
  have := h.2.1 k hk
  unfold sp_ww at *
  simp only [hf]
  exact this
theorem sp_in_iff {x a b : Int32} : sp_in x a b = 0 ↔ ¬ (a.toInt ≤ x.toInt ∧ x.toInt ≤ b.toInt) := by
  unfold sp_in
  simp only [Int32.le_iff_toInt_le]
  by_cases h : a.toInt ≤ x.toInt ∧ x.toInt ≤ b.toInt
  · rw [if_pos h]; simp [h]
  · rw [if_neg h]; simp [h]
theorem sp_in_01 (x a b : Int32) : sp_in x a b = 0 ∨ sp_in x a b = 1 := by
  unfold sp_in
  split
  · exact Or.inr rfl
  · exact Or.inl rfl
theorem sp_hw_lt {z : Nat → Int32} {C : Nat} (hC : C ≤ 8) (h : sp_hw z C ≠ 99) : sp_hw z C < C ∧ sp_wa z (z 4).toNatClampNeg C = nI (sp_hw z C) := by
  have hs := sp_wa_spec (n := z) (z 4).toNatClampNeg C (Nat.le_refl _)
  rcases hs with ⟨h1, -⟩ | ⟨k, h1, h2, h3⟩
  · exact absurd (show sp_hw z C = 99 by unfold sp_hw; rw [h1]; exact sp_wi_lo (by decide)) h
  · have e : sp_hw z C = k := by
      unfold sp_hw
      rw [h2]
      have := sp_wi_in (C := C) (x := nI k) hC (nI_pos (by omega)) (nI_ge h1 (by omega))
      rw [this.1, cl_n (by omega)]
    rw [e]
    exact ⟨h1, h2⟩
/-- how many bits are 1, as the library reckons it -/
def sp_us (x y : Int32) : Int32 := (x.toUInt32 >>> (y.toUInt32 &&& Int32.toUInt32 31)).toInt32
def sp_b1 (x : Int32) : Int32 := x - (sp_us x 1 &&& 1431655765)
def sp_b2 (x : Int32) : Int32 := (x &&& 858993459) + (sp_us x 2 &&& 858993459)
def sp_b3 (x : Int32) : Int32 := (x + sp_us x 4) &&& 252645135
def sp_b4 (x : Int32) : Int32 := x + sp_us x 8
def sp_b5 (x : Int32) : Int32 := x + sp_us x 16
def sp_bc (x : Int32) : Int32 := sp_b5 (sp_b4 (sp_b3 (sp_b2 (sp_b1 x)))) &&& 63
end
section
set_option maxRecDepth 100000 in
set_option maxHeartbeats 4000000 in
theorem c_J6_bitCount_0f7a4 (l : Launch) (G : gG) (S : Mem) (x : Int32) : mm_C l G yJ6_bitCount_0f7a4 cJ6_bitCount_0f7a4 1 (some .int) (mm_rm 0 0) [.int x] S (mm_Qi G (fun r S2 => S2 = S ∧ r = sp_bc x)) := by
  refine mm_ofV (own := RJ6) (by decide +kernel) rfl (Nat.le_of_ble_eq_true rfl) (ls0 := [(0, .int x)]) rfl ?_
  refine vv_iload_n (pc := 0) 0 dJ6_bitCount_0f7a4_0 rfl rfl ?_
  refine vv_iload_n (pc := 1) 0 dJ6_bitCount_0f7a4_1 rfl rfl ?_
  refine vv_iconst (pc := 2) (v := 1) dJ6_bitCount_0f7a4_2 (by decide) ?_
  refine vv_iushr (pc := 3) dJ6_bitCount_0f7a4_3 rfl ?_
  refine vv_ldcw (pc := 4) mw_K_J6_265 dJ6_bitCount_0f7a4_4 ?_
  refine vv_iand (pc := 7) dJ6_bitCount_0f7a4_7 ?_
  refine vv_isub (pc := 8) dJ6_bitCount_0f7a4_8 ?_
  refine vv_topi (fun x0p9 e0p9 => ?_)
  refine vv_istore_n (pc := 9) (i := 0) (ls' := [(0, .int x0p9)]) dJ6_bitCount_0f7a4_9 rfl (by decide) rfl ?_
  refine vv_iload_n (pc := 10) 0 dJ6_bitCount_0f7a4_10 rfl rfl ?_
  refine vv_ldcw (pc := 11) mw_K_J6_266 dJ6_bitCount_0f7a4_11 ?_
  refine vv_iand (pc := 14) dJ6_bitCount_0f7a4_14 ?_
  refine vv_iload_n (pc := 15) 0 dJ6_bitCount_0f7a4_15 rfl rfl ?_
  refine vv_iconst (pc := 16) (v := 2) dJ6_bitCount_0f7a4_16 (by decide) ?_
  refine vv_iushr (pc := 17) dJ6_bitCount_0f7a4_17 rfl ?_
  refine vv_ldcw (pc := 18) mw_K_J6_266 dJ6_bitCount_0f7a4_18 ?_
  refine vv_iand (pc := 21) dJ6_bitCount_0f7a4_21 ?_
  refine vv_iadd (pc := 22) dJ6_bitCount_0f7a4_22 ?_
  refine vv_topi (fun x0p23 e0p23 => ?_)
  refine vv_istore_n (pc := 23) (i := 0) (ls' := [(0, .int x0p23)]) dJ6_bitCount_0f7a4_23 rfl (by decide) rfl ?_
  refine vv_iload_n (pc := 24) 0 dJ6_bitCount_0f7a4_24 rfl rfl ?_
  refine vv_iload_n (pc := 25) 0 dJ6_bitCount_0f7a4_25 rfl rfl ?_
  refine vv_iconst (pc := 26) (v := 4) dJ6_bitCount_0f7a4_26 (by decide) ?_
  refine vv_iushr (pc := 27) dJ6_bitCount_0f7a4_27 rfl ?_
  refine vv_iadd (pc := 28) dJ6_bitCount_0f7a4_28 ?_
  refine vv_ldcw (pc := 29) mw_K_J6_267 dJ6_bitCount_0f7a4_29 ?_
  refine vv_iand (pc := 32) dJ6_bitCount_0f7a4_32 ?_
  refine vv_topi (fun x0p33 e0p33 => ?_)
  refine vv_istore_n (pc := 33) (i := 0) (ls' := [(0, .int x0p33)]) dJ6_bitCount_0f7a4_33 rfl (by decide) rfl ?_
  refine vv_iload_n (pc := 34) 0 dJ6_bitCount_0f7a4_34 rfl rfl ?_
  refine vv_iload_n (pc := 35) 0 dJ6_bitCount_0f7a4_35 rfl rfl ?_
  refine vv_bipush (pc := 36) (v := 8) dJ6_bitCount_0f7a4_36 (by decide) ?_
  refine vv_iushr (pc := 38) dJ6_bitCount_0f7a4_38 rfl ?_
  refine vv_iadd (pc := 39) dJ6_bitCount_0f7a4_39 ?_
  refine vv_topi (fun x0p40 e0p40 => ?_)
  refine vv_istore_n (pc := 40) (i := 0) (ls' := [(0, .int x0p40)]) dJ6_bitCount_0f7a4_40 rfl (by decide) rfl ?_
  refine vv_iload_n (pc := 41) 0 dJ6_bitCount_0f7a4_41 rfl rfl ?_
  refine vv_iload_n (pc := 42) 0 dJ6_bitCount_0f7a4_42 rfl rfl ?_
  refine vv_bipush (pc := 43) (v := 16) dJ6_bitCount_0f7a4_43 (by decide) ?_
  refine vv_iushr (pc := 45) dJ6_bitCount_0f7a4_45 rfl ?_
  refine vv_iadd (pc := 46) dJ6_bitCount_0f7a4_46 ?_
  refine vv_topi (fun x0p47 e0p47 => ?_)
  refine vv_istore_n (pc := 47) (i := 0) (ls' := [(0, .int x0p47)]) dJ6_bitCount_0f7a4_47 rfl (by decide) rfl ?_
  refine vv_iload_n (pc := 48) 0 dJ6_bitCount_0f7a4_48 rfl rfl ?_
  refine vv_bipush (pc := 49) (v := 63) dJ6_bitCount_0f7a4_49 (by decide) ?_
  refine vv_iand (pc := 51) dJ6_bitCount_0f7a4_51 ?_
  refine vr_i (pc := 52) dJ6_bitCount_0f7a4_52 ?_
  refine ⟨rfl, ?_⟩
  subst e0p9 e0p23 e0p33 e0p40 e0p47
  rfl
set_option maxRecDepth 100000 in
set_option maxHeartbeats 4000000 in
theorem c_X0_goTo (l : Launch) (G : gG) {C b : Nat} {z : Nat → Int32} (hb : b < 11) (S : Mem) (hwf : sp_wf C z) (hr : rb C S b z) (ht : rt_ C S b z) (x : Int32) : mm_C l G yX0_goTo cX0_goTo 3 (some .int) (mm_rm 1 23) [.ref (gad G (mm_B b)), .int x] S (mm_Qi G (fun r S2 => sp_res C b S S2 r (op_walk z x))) := by
  obtain ⟨g1, g2, g3, g4, g5, g6, g7, g8, g9⟩ := id hr
  have hw := hwf.1
  have hC := hw.1
  refine mm_ofV (own := RX0) (by decide +kernel) rfl (Nat.le_of_ble_eq_true rfl) (ls0 := [(0, .ref (gad G (mm_B b))), (1, .int x)]) rfl ?_
  refine vv_iload_n (pc := 0) 1 dX0_goTo_0 rfl rfl ?_
  refine vv_iconst (pc := 1) (v := 0) dX0_goTo_1 (by decide) ?_
  refine vv_bipush (pc := 2) (v := 19) dX0_goTo_2 (by decide) ?_
  refine vc_Ni (pc := 4) (c_X4_within l G _ _ _ _) (host := RX4) (by decide +kernel) my_X4_within ⟨by decide, by decide⟩ rfl rfl (Nat.le_of_ble_eq_true rfl) dX0_goTo_4 (fun r4 S4 h4 => ?_)
  obtain ⟨qS4, h4⟩ := h4
  replace qS4 := qS4.symm
  subst qS4
  refine vv_if_ne (pc := 7) (tgt := 12) dX0_goTo_7 (by decide) (fun c7 => ?_) (fun c7 => ?_)
  -- t@7 path t
  · refine vv_iload_n (pc := 12) 1 dX0_goTo_12 rfl rfl ?_
    refine vv_aload_n (pc := 13) 0 dX0_goTo_13 rfl rfl ?_
    refine vg_X0_place (pc := 14) (by assumption) mw_F_X0_48 dX0_goTo_14 ?_
    refine vv_isub (pc := 17) dX0_goTo_17 ?_
    refine vv_abs (pc := 18) mw_M_X0_90 mw_T_J9_abs_0f7a4 mw_C_J9_abs_0f7a4 (Nat.le_of_ble_eq_true rfl) (Nat.le_of_ble_eq_true rfl) dX0_goTo_18 ?_
    refine vv_topi (fun x2p21 e2p21 => ?_)
    refine vv_istore_n (pc := 21) (i := 2) (ls' := [(2, .int x2p21), (0, .ref (gad G (mm_B b))), (1, .int x)]) dX0_goTo_21 rfl (by decide) rfl ?_
    refine vv_aload_n (pc := 22) 1 dX0_goTo_22 rfl rfl ?_
    refine vv_iload_n (pc := 23) 2 dX0_goTo_23 rfl rfl ?_
    refine vp_X0_place (pc := 24) (by assumption) mw_F_X0_48 dX0_goTo_24 ?_
    refine vv_aload_n (pc := 27) 1 dX0_goTo_27 rfl rfl ?_
    refine vv_dup (pc := 28) dX0_goTo_28 rfl ?_
    refine vg_X0_walked (pc := 29) (by assumption) mw_F_X0_51 dX0_goTo_29 ?_
    refine vv_iload_n (pc := 32) 0 dX0_goTo_32 rfl rfl ?_
    refine vv_iadd (pc := 33) dX0_goTo_33 ?_
    refine vp_X0_walked (pc := 34) (by assumption) mw_F_X0_51 dX0_goTo_34 ?_
    refine vv_iload_n (pc := 37) 0 dX0_goTo_37 rfl rfl ?_
    refine vr_i (pc := 38) dX0_goTo_38 ?_
    unfold sp_res op_walk
    rw [← h4, if_neg c7]
    have e2 : x2p21 = sp_far x (z 4) := by rw [e2p21, g5]; rfl
    have hr1 := rb_hd (x := x) hr hC 4 7 (by omega)
    have ht1 := rt_hd (b := b) (x := x) ht hC 4 7 (by omega)
    have e3 : mm_wr S (mm_B b) 7 x (mm_B b) 8 + x2p21 = z 5 + sp_far x (z 4) := by rw [mm_wr_n S x (Or.inr (by decide)), g6, e2]
    rw [e3]
    exact ⟨e2, rb_hd hr1 hC 5 8 (by omega), rt_hd ht1 hC 5 8 (by omega), fr_trans fr_B fr_B⟩
  -- f@7 path f
  · refine vv_iconst (pc := 10) (v := (-1)) dX0_goTo_10 (by decide) ?_
    refine vr_i (pc := 11) dX0_goTo_11 ?_
    exact ⟨by unfold op_walk; rw [← h4, if_pos c7], by unfold op_walk; rw [← h4, if_pos c7]; exact hr, by unfold op_walk; rw [← h4, if_pos c7]; exact ht, fr_refl b S⟩
set_option maxRecDepth 100000 in
set_option maxHeartbeats 4000000 in
theorem c_X0_changeSetting (l : Launch) (G : gG) {C b : Nat} {z : Nat → Int32} (hb : b < 11) (S : Mem) (hwf : sp_wf C z) (hr : rb C S b z) (ht : rt_ C S b z) (x v : Int32) : mm_C l G yX0_changeSetting cX0_changeSetting 4 (some .int) (mm_rm 1 22) [.ref (gad G (mm_B b)), .int x, .int v] S (mm_Qi G (fun r S2 => sp_res C b S S2 r (op_set z x v))) := by
  obtain ⟨g1, g2, g3, g4, g5, g6, g7, g8, g9⟩ := id hr
  have hw := hwf.1
  have hC := hw.1
  refine mm_ofV (own := RX0) (by decide +kernel) rfl (Nat.le_of_ble_eq_true rfl) (ls0 := [(0, .ref (gad G (mm_B b))), (1, .int x), (2, .int v)]) rfl ?_
  refine vv_iload_n (pc := 0) 2 dX0_changeSetting_0 rfl rfl ?_
  refine vv_iconst (pc := 1) (v := 0) dX0_changeSetting_1 (by decide) ?_
  refine vv_bipush (pc := 2) (v := 100) dX0_changeSetting_2 (by decide) ?_
  refine vc_Ni (pc := 4) (c_X4_within l G _ _ _ _) (host := RX4) (by decide +kernel) my_X4_within ⟨by decide, by decide⟩ rfl rfl (Nat.le_of_ble_eq_true rfl) dX0_changeSetting_4 (fun r4 S4 h4 => ?_)
  obtain ⟨qS4, h4⟩ := h4
  replace qS4 := qS4.symm
  subst qS4
  refine vv_if_ne (pc := 7) (tgt := 13) dX0_changeSetting_7 (by decide) (fun c7 => ?_) (fun c7 => ?_)
  -- t@7 path t
  · refine vv_iload_n (pc := 13) 1 dX0_changeSetting_13 rfl rfl ?_
    refine vv_if_ne (pc := 14) (tgt := 29) dX0_changeSetting_14 (by decide) (fun c14 => ?_) (fun c14 => ?_)
    -- t@14 path tt
    · refine vv_iload_n (pc := 29) 1 dX0_changeSetting_29 rfl rfl ?_
      refine vv_iconst (pc := 30) (v := 1) dX0_changeSetting_30 (by decide) ?_
      refine vv_icmp_ne (pc := 31) (tgt := 46) dX0_changeSetting_31 (by decide) (fun c31 => ?_) (fun c31 => ?_)
      -- t@31 path ttt
      · refine vv_bipush (pc := 46) (v := (-2)) dX0_changeSetting_46 (by decide) ?_
        refine vr_i (pc := 48) dX0_changeSetting_48 ?_
        unfold sp_res op_set
        rw [← h4, if_neg c7, if_neg c14, if_neg c31]
        exact ⟨rfl, hr, ht, fr_refl b S⟩
      -- f@31 path ttf
      · refine vv_aload_n (pc := 34) 0 dX0_changeSetting_34 rfl rfl ?_
        refine vg_X0_spare (pc := 35) (by assumption) mw_F_X0_29 dX0_changeSetting_35 ?_
        refine vv_topi (fun x3p38 e3p38 => ?_)
        refine vv_istore_n (pc := 38) (i := 3) (ls' := [(3, .int x3p38), (0, .ref (gad G (mm_B b))), (1, .int x), (2, .int v)]) dX0_changeSetting_38 rfl (by decide) rfl ?_
        refine vv_aload_n (pc := 39) 1 dX0_changeSetting_39 rfl rfl ?_
        refine vv_iload_n (pc := 40) 3 dX0_changeSetting_40 rfl rfl ?_
        refine vp_X0_spare (pc := 41) (by assumption) mw_F_X0_29 dX0_changeSetting_41 ?_
        refine vv_iload_n (pc := 44) 0 dX0_changeSetting_44 rfl rfl ?_
        refine vr_i (pc := 45) dX0_changeSetting_45 ?_
        unfold sp_res op_set
        rw [← h4, if_neg c7, if_neg c14, if_pos c31]
        exact ⟨e3p38.trans g3, rb_hd hr hC 1 5 (by omega), rt_hd ht hC 1 5 (by omega), fr_B⟩
    -- f@14 path tf
    · refine vv_aload_n (pc := 17) 0 dX0_changeSetting_17 rfl rfl ?_
      refine vg_X0_creep (pc := 18) (by assumption) mw_F_X0_25 dX0_changeSetting_18 ?_
      refine vv_topi (fun x3p21 e3p21 => ?_)
      refine vv_istore_n (pc := 21) (i := 3) (ls' := [(3, .int x3p21), (0, .ref (gad G (mm_B b))), (1, .int x), (2, .int v)]) dX0_changeSetting_21 rfl (by decide) rfl ?_
      refine vv_aload_n (pc := 22) 1 dX0_changeSetting_22 rfl rfl ?_
      refine vv_iload_n (pc := 23) 3 dX0_changeSetting_23 rfl rfl ?_
      refine vp_X0_creep (pc := 24) (by assumption) mw_F_X0_25 dX0_changeSetting_24 ?_
      refine vv_iload_n (pc := 27) 0 dX0_changeSetting_27 rfl rfl ?_
      refine vr_i (pc := 28) dX0_changeSetting_28 ?_
      unfold sp_res op_set
      rw [← h4, if_neg c7, if_pos c14]
      exact ⟨e3p21.trans g2, rb_hd hr hC 0 4 (by omega), rt_hd ht hC 0 4 (by omega), fr_B⟩
  -- f@7 path f
  · refine vv_bipush (pc := 10) (v := (-2)) dX0_changeSetting_10 (by decide) ?_
    refine vr_i (pc := 12) dX0_changeSetting_12 ?_
    unfold sp_res op_set
    rw [← h4, if_pos c7]
    exact ⟨rfl, hr, ht, fr_refl b S⟩
set_option maxRecDepth 100000 in
set_option maxHeartbeats 4000000 in
theorem c_X0_changeLoad (l : Launch) (G : gG) {C b : Nat} {z : Nat → Int32} (hb : b < 11) (S : Mem) (hwf : sp_wf C z) (hr : rb C S b z) (ht : rt_ C S b z) (x v : Int32) : mm_C l G yX0_changeLoad cX0_changeLoad 4 (some .int) (mm_rm 3 72) [.ref (gad G (mm_B b)), .int x, .int v] S (mm_Qi G (fun r S2 => sp_res C b S S2 r (op_load C z x v))) := by
  obtain ⟨g1, g2, g3, g4, g5, g6, g7, g8, g9⟩ := id hr
  have hw := hwf.1
  have hC := hw.1
  refine mm_ofV (own := RX0) (by decide +kernel) rfl (Nat.le_of_ble_eq_true rfl) (ls0 := [(0, .ref (gad G (mm_B b))), (1, .int x), (2, .int v)]) rfl ?_
  refine vv_iload_n (pc := 0) 1 dX0_changeLoad_0 rfl rfl ?_
  refine vv_iconst (pc := 1) (v := 0) dX0_changeLoad_1 (by decide) ?_
  refine vv_bipush (pc := 2) (v := 19) dX0_changeLoad_2 (by decide) ?_
  refine vc_Ni (pc := 4) (c_X4_within l G _ _ _ _) (host := RX4) (by decide +kernel) my_X4_within ⟨by decide, by decide⟩ rfl rfl (Nat.le_of_ble_eq_true rfl) dX0_changeLoad_4 (fun r4 S4 h4 => ?_)
  obtain ⟨qS4, h4⟩ := h4
  replace qS4 := qS4.symm
  subst qS4
  refine vv_if_ne (pc := 7) (tgt := 12) dX0_changeLoad_7 (by decide) (fun c7 => ?_) (fun c7 => ?_)
  -- t@7 path t
  · refine vv_iload_n (pc := 12) 2 dX0_changeLoad_12 rfl rfl ?_
    refine vv_iconst (pc := 13) (v := 0) dX0_changeLoad_13 (by decide) ?_
    refine vv_sipush (pc := 14) (v := 1000) dX0_changeLoad_14 (by decide) ?_
    refine vc_Ni (pc := 17) (c_X4_within l G _ _ _ _) (host := RX4) (by decide +kernel) my_X4_within ⟨by decide, by decide⟩ rfl rfl (Nat.le_of_ble_eq_true rfl) dX0_changeLoad_17 (fun r17 S17 h17 => ?_)
    obtain ⟨qS17, h17⟩ := h17
    replace qS17 := qS17.symm
    subst qS17
    refine vv_if_ne (pc := 20) (tgt := 26) dX0_changeLoad_20 (by decide) (fun c20 => ?_) (fun c20 => ?_)
    -- t@20 path tt
    · rw [h4, sp_in_iff] at c7
      rw [h17, sp_in_iff] at c20
      have i0 : (0 : Int32).toInt = 0 := (by decide)
      have i19 : (19 : Int32).toInt = 19 := (by decide)
      have i1000 : (1000 : Int32).toInt = 1000 := (by decide)
      have hx : x = nI x.toNatClampNeg := sp_nI (by omega)
      have hx2 := sp_cl (x := x) (by omega)
      have hx20 : x.toNatClampNeg < 20 := by omega
      have hwf1 : sp_wf C (upd z (10 + x.toNatClampNeg) v) := sp_wf_low hwf (fun k f => sp_f_upd z (by omega) v k f) (upd_n z v (by omega)) (fun p hp => if e : p = x.toNatClampNeg then (by rw [e, upd_s]; omega) else (by rw [upd_n z v (by omega)]; exact hwf.2.2.1 p hp)) (by rw [upd_n z v (by omega)]; exact hwf.2.2.2.1) (by rw [upd_n z v (by omega)]; exact hwf.2.2.2.2.1) (by rw [upd_n z v (by omega)]; exact hwf.2.2.2.2.2.1) (by rw [upd_n z v (by omega)]; exact hwf.2.2.2.2.2.2.1)
      refine vv_aload_n (pc := 26) 0 dX0_changeLoad_26 rfl rfl ?_
      refine vg_X0_loads (pc := 27) (by assumption) mw_F_X0_9 dX0_changeLoad_27 ?_
      refine vv_iload_n (pc := 30) 1 dX0_changeLoad_30 rfl rfl ?_
      refine vl_L (pc := 31) (by assumption) (sp_vin hx hx20 (by decide)) dX0_changeLoad_31 ?_
      refine vv_topi (fun x3p32 e3p32 => ?_)
      refine vv_istore_n (pc := 32) (i := 3) (ls' := [(3, .int x3p32), (0, .ref (gad G (mm_B b))), (1, .int x), (2, .int v)]) dX0_changeLoad_32 rfl (by decide) rfl ?_
      refine vv_aload_n (pc := 33) 1 dX0_changeLoad_33 rfl rfl ?_
      refine vg_X0_loads (pc := 34) (by assumption) mw_F_X0_9 dX0_changeLoad_34 ?_
      refine vv_iload_n (pc := 37) 2 dX0_changeLoad_37 rfl rfl ?_
      refine vv_iload_n (pc := 38) 3 dX0_changeLoad_38 rfl rfl ?_
      refine vs_L (pc := 39) (by assumption) (sp_vin hx hx20 (by decide)) dX0_changeLoad_39 ?_
      have hr1 := rb_ld (p := x.toNatClampNeg) (x := v) hr hC hx20
      refine vv_aload_n (pc := 40) 1 dX0_changeLoad_40 rfl rfl ?_
      refine vc_Vv (pc := 41) (c_X0_reckon l G (by assumption) _ hwf1.1 hr1) mw_M_X0_64 my_X0_reckon (mm_rv_B (by assumption)) ⟨by decide, by decide⟩ rfl rfl (Nat.le_of_ble_eq_true rfl) dX0_changeLoad_41 (fun S41 h41 => ?_)
      refine vv_aload_n (pc := 44) 1 dX0_changeLoad_44 rfl rfl ?_
      refine vc_Vi (pc := 45) (c_X0_settle l G (by assumption) _ hwf1 (f5_rb hC h41.1 hr1) h41.2) mw_M_X0_76 my_X0_settle (mm_rv_B (by assumption)) ⟨by decide, by decide⟩ rfl rfl (Nat.le_of_ble_eq_true rfl) dX0_changeLoad_45 (fun r45 S45 h45 => ?_)
      refine vv_pop (pc := 48) dX0_changeLoad_48 rfl ?_
      refine vv_iload_n (pc := 49) 0 dX0_changeLoad_49 rfl rfl ?_
      refine vr_i (pc := 50) dX0_changeLoad_50 ?_
      unfold sp_res op_load
      rw [← sp_in_iff] at c7 c20
      rw [if_neg c7, if_neg c20]
      exact ⟨by rw [e3p32]; exact g7 _ hx20, h45.2.1, h45.2.2.1, fr_trans fr_L (fr_trans (f5_fr hC h41.1) h45.2.2.2)⟩
    -- f@20 path tf
    · refine vv_bipush (pc := 23) (v := (-2)) dX0_changeLoad_23 (by decide) ?_
      refine vr_i (pc := 25) dX0_changeLoad_25 ?_
      unfold sp_res op_load
      rw [← h4, ← h17, if_neg c7, if_pos c20]
      exact ⟨rfl, hr, ht, fr_refl b S⟩
  -- f@7 path f
  · refine vv_iconst (pc := 10) (v := (-1)) dX0_changeLoad_10 (by decide) ?_
    refine vr_i (pc := 11) dX0_changeLoad_11 ?_
    unfold sp_res op_load
    rw [← h4, if_pos c7]
    exact ⟨rfl, hr, ht, fr_refl b S⟩
set_option maxRecDepth 100000 in
set_option maxHeartbeats 4000000 in
theorem c_X0_wireHere (l : Launch) (G : gG) {C b : Nat} {z : Nat → Int32} (hb : b < 11) (S : Mem) (hwf : sp_wf C z) (hr : rb C S b z) (ht : rt_ C S b z) : mm_C l G yX0_wireHere cX0_wireHere 1 (some (.object "SingingWires$Wire")) (mm_rm 1 22) [.ref (gad G (mm_B b))] S (mm_Qq G (fun r S2 => S2 = S ∧ r = sp_rf G b (sp_hw z C))) := by
  obtain ⟨g1, g2, g3, g4, g5, g6, g7, g8, g9⟩ := id hr
  have hw := hwf.1
  have hC := hw.1
  have h4r := hwf.2.2.2.1
  have hx2 := sp_cl (x := z 4) (by omega)
  have hx : z 4 = nI (z 4).toNatClampNeg := sp_nI (by omega)
  have hx20 : (z 4).toNatClampNeg < 20 := by omega
  refine mm_ofV (own := RX0) (by decide +kernel) rfl (Nat.le_of_ble_eq_true rfl) (ls0 := [(0, .ref (gad G (mm_B b)))]) rfl ?_
  refine vv_aload_n (pc := 0) 0 dX0_wireHere_0 rfl rfl ?_
  refine vg_X0_place (pc := 1) (by assumption) mw_F_X0_48 dX0_wireHere_1 ?_
  rw [g5]
  refine vv_iconst (pc := 4) (v := 0) dX0_wireHere_4 (by decide) ?_
  refine vv_bipush (pc := 5) (v := 19) dX0_wireHere_5 (by decide) ?_
  refine vc_Ni (pc := 7) (c_X4_within l G _ _ _ _) (host := RX4) (by decide +kernel) my_X4_within ⟨by decide, by decide⟩ rfl rfl (Nat.le_of_ble_eq_true rfl) dX0_wireHere_7 (fun r7 S7 h7 => ?_)
  obtain ⟨qS7, h7⟩ := h7
  replace qS7 := qS7.symm
  subst qS7
  refine vv_if_eq (pc := 10) (tgt := 29) dX0_wireHere_10 (by decide) (fun c10 => ?_) (fun c10 => ?_)
  -- t@10 path t
  · exact absurd (c10.symm.trans h7).symm (by rw [sp_in_iff, show (0 : Int32).toInt = 0 by decide, show (19 : Int32).toInt = 19 by decide]; omega)
  -- f@10 path f
  · refine vv_aload_n (pc := 13) 0 dX0_wireHere_13 rfl rfl ?_
    refine vv_aload_n (pc := 14) 0 dX0_wireHere_14 rfl rfl ?_
    refine vg_X0_wireAt (pc := 15) (by assumption) mw_F_X0_15 dX0_wireHere_15 ?_
    refine vv_aload_n (pc := 18) 0 dX0_wireHere_18 rfl rfl ?_
    refine vg_X0_place (pc := 19) (by assumption) mw_F_X0_48 dX0_wireHere_19 ?_
    rw [g5]
    refine vl_A (pc := 22) (by assumption) (sp_vin hx hx20 (by decide)) dX0_wireHere_22 ?_
    refine vc_Vq (pc := 23) (c_X0_wireNumbered l G (by assumption) _ hC (g1.trans hw.2.1) _) mw_M_X0_95 my_X0_wireNumbered (mm_rv_B (by assumption)) ⟨by decide, by decide⟩ rfl rfl (Nat.le_of_ble_eq_true rfl) dX0_wireHere_23 (fun r23 S23 h23 => ?_)
    obtain ⟨qS23, h23⟩ := h23
    replace qS23 := qS23.symm
    subst qS23
    refine vv_goto (pc := 26) (tgt := 30) dX0_wireHere_26 (by decide) ?_
    refine vr_qo (pc := 30) dX0_wireHere_30 ?_
    exact ⟨rfl, by rw [h23, g8 _ hx20]; rfl⟩
set_option maxRecDepth 100000 in
set_option maxHeartbeats 4000000 in
theorem c_X0_takeFrom (l : Launch) (G : gG) {C b b2 : Nat} {z : Nat → Int32} (hb : b < 11) (hb2 : b2 < 11) (hne : b ≠ b2) (S : Mem) (hC : C ≤ 8) (h3 : z 3 = nI C) (hr : rb C S b2 z) : mm_C l G yX0_takeFrom cX0_takeFrom 3 (none) (mm_rm 1 40) [.ref (gad G (mm_B b)), .ref (gad G (mm_B b2))] S (mm_Qv G (fun S2 => rb C S2 b z ∧ (∀ k, k < C → S2 (mm_W b k) 5 = S (mm_W b2 k) 5) ∧ fr_ b S S2)) := by
  refine mm_ofV (own := RX0) (by decide +kernel) rfl (Nat.le_of_ble_eq_true rfl) (ls0 := [(0, .ref (gad G (mm_B b))), (1, .ref (gad G (mm_B b2)))]) rfl ?_
  refine vv_aload_n (pc := 0) 1 dX0_takeFrom_0 rfl rfl ?_
  refine vg_X0_loads (pc := 1) (by assumption) mw_F_X0_9 dX0_takeFrom_1 ?_
  refine vv_iconst (pc := 4) (v := 0) dX0_takeFrom_4 (by decide) ?_
  refine vv_aload_n (pc := 5) 0 dX0_takeFrom_5 rfl rfl ?_
  refine vg_X0_loads (pc := 6) (by assumption) mw_F_X0_9 dX0_takeFrom_6 ?_
  refine vv_iconst (pc := 9) (v := 0) dX0_takeFrom_9 (by decide) ?_
  refine vv_bipush (pc := 10) (v := 20) dX0_takeFrom_10 (by decide) ?_
  refine vv_copy20 (pc := 12) (mm_lt_L hb2) (mm_lt_L hb) (fun r => mm_enc_L G b2 r) (fun r => mm_enc_L G b r) (fun k => mm_ty_L b k) mw_M_X0_32 (Nat.le_of_ble_eq_true rfl) (Nat.le_of_ble_eq_true rfl) dX0_takeFrom_12 ?_
  refine vv_mem (fun Sa eSa => ?_)
  have hfa : fr_ b S Sa := by intro j hj; rw [eSa, mm_cp_o S (by unfold mm_L mm_B at *; omega)]
  refine vv_aload_n (pc := 15) 1 dX0_takeFrom_15 rfl rfl ?_
  refine vg_X0_wireAt (pc := 16) (by assumption) mw_F_X0_15 dX0_takeFrom_16 ?_
  refine vv_iconst (pc := 19) (v := 0) dX0_takeFrom_19 (by decide) ?_
  refine vv_aload_n (pc := 20) 0 dX0_takeFrom_20 rfl rfl ?_
  refine vg_X0_wireAt (pc := 21) (by assumption) mw_F_X0_15 dX0_takeFrom_21 ?_
  refine vv_iconst (pc := 24) (v := 0) dX0_takeFrom_24 (by decide) ?_
  refine vv_bipush (pc := 25) (v := 20) dX0_takeFrom_25 (by decide) ?_
  refine vv_copy20 (pc := 27) (mm_lt_A hb2) (mm_lt_A hb) (fun r => mm_enc_A G b2 r) (fun r => mm_enc_A G b r) (fun k => mm_ty_A b k) mw_M_X0_32 (Nat.le_of_ble_eq_true rfl) (Nat.le_of_ble_eq_true rfl) dX0_takeFrom_27 ?_
  refine vv_mem (fun Sb eSb => ?_)
  have hfb : fr_ b S Sb := by intro j hj; rw [eSb, mm_cp_o Sa (by unfold mm_A mm_B at *; omega)]; exact hfa j hj
  refine vv_aload_n (pc := 30) 0 dX0_takeFrom_30 rfl rfl ?_
  refine vv_aload_n (pc := 31) 1 dX0_takeFrom_31 rfl rfl ?_
  refine vg_X0_wireCount (pc := 32) (by assumption) mw_F_X0_38 dX0_takeFrom_32 ?_
  refine vp_X0_wireCount (pc := 35) (by assumption) mw_F_X0_38 dX0_takeFrom_35 ?_
  refine vv_mem (fun Sc eSc => ?_)
  have hfc : fr_ b S Sc := by intro j hj; rw [eSc, mm_wr_orow _ _ (by omega)]; exact hfb j hj
  have eB3 : Sc (mm_B b) 3 = nI C := by rw [eSc, mm_wr_s, hfb (mm_B b2) (by unfold mm_B; omega)]; exact hr.1.trans h3
  have eL : ∀ p, p < 20 → Sc (mm_L b) p = z (10 + p) := by intro p hp; rw [eSc, mm_wr_orow _ _ (Ne.symm (mm_BL b)), eSb, mm_cp_o Sa (mm_LA b), eSa, mm_cp_in S hp]; exact hr.2.2.2.2.2.2.1 p hp
  have eA : ∀ p, p < 20 → Sc (mm_A b) p = sp_wa z p C := by intro p hp; rw [eSc, mm_wr_orow _ _ (Ne.symm (mm_BA b)), eSb, mm_cp_in Sa hp, hfa (mm_A b2) (by unfold mm_A mm_B; omega)]; exact hr.2.2.2.2.2.2.2.1 p hp
  refine vv_iconst (pc := 38) (v := 0) dX0_takeFrom_38 (by decide) ?_
  refine vv_topi (fun x2p39 e2p39 => ?_)
  refine vv_istore_n (pc := 39) (i := 2) (ls' := [(2, .int x2p39), (0, .ref (gad G (mm_B b))), (1, .ref (gad G (mm_B b2)))]) dX0_takeFrom_39 rfl (by decide) rfl ?_
  have lp40 : ∀ (n : Nat) (q : Nat) (x2 : Int32) (S1 : Mem), 9 ≤ n + q → q ≤ C → x2 = nI q → (∀ j, (∀ w, w < 8 → j ≠ mm_W b w) → S1 j = Sc j) → (∀ k, k < q → ∀ f, f < 12 → S1 (mm_W b k) f = S (mm_W b2 k) f) → mm_V l G RX0 cX0_takeFrom 3 (none) (mm_rm 1 40) 0 0 (fun _ => True) (fun _ => mm_F G) (mm_Qf G (mm_Qv G (fun S2 => rb C S2 b z ∧ (∀ k, k < C → S2 (mm_W b k) 5 = S (mm_W b2 k) 5) ∧ fr_ b S S2))) S1 40 [(0, .ref (gad G (mm_B b))), (1, .ref (gad G (mm_B b2))), (2, .int x2)] [] := by
    intro n
    induction n with
    | zero =>
      intro q x2 S1 hn hq e2 hfd hrow
      exact absurd hn (by omega)
    | succ n ih =>
      intro q x2 S1 hn hq e2 hfd hrow
      refine vv_iload_n (pc := 40) 2 dX0_takeFrom_40 rfl rfl ?_
      refine vv_aload_n (pc := 41) 0 dX0_takeFrom_41 rfl rfl ?_
      refine vg_X0_wireCount (pc := 42) (by assumption) mw_F_X0_38 dX0_takeFrom_42 ?_
      refine vv_icmp_ge (pc := 45) (tgt := 69) dX0_takeFrom_45 (by decide) (fun c45 => ?_) (fun c45 => ?_)
      -- t@45 path L40t
      · rw [hfd (mm_B b) (by intro w hw; exact mm_BW b w), eB3] at c45
        have hqC := sp_geN (N := C) (by omega) hq e2 c45
        subst hqC
        refine vv_aload_n (pc := 69) 0 dX0_takeFrom_69 rfl rfl ?_
        refine vv_aload_n (pc := 70) 1 dX0_takeFrom_70 rfl rfl ?_
        refine vg_X0_creep (pc := 71) (by assumption) mw_F_X0_25 dX0_takeFrom_71 ?_
        refine vp_X0_creep (pc := 74) (by assumption) mw_F_X0_25 dX0_takeFrom_74 ?_
        refine vv_aload_n (pc := 77) 0 dX0_takeFrom_77 rfl rfl ?_
        refine vv_aload_n (pc := 78) 1 dX0_takeFrom_78 rfl rfl ?_
        refine vg_X0_spare (pc := 79) (by assumption) mw_F_X0_29 dX0_takeFrom_79 ?_
        refine vp_X0_spare (pc := 82) (by assumption) mw_F_X0_29 dX0_takeFrom_82 ?_
        refine vv_aload_n (pc := 85) 0 dX0_takeFrom_85 rfl rfl ?_
        refine vv_aload_n (pc := 86) 1 dX0_takeFrom_86 rfl rfl ?_
        refine vg_X0_day (pc := 87) (by assumption) mw_F_X0_45 dX0_takeFrom_87 ?_
        refine vp_X0_day (pc := 90) (by assumption) mw_F_X0_45 dX0_takeFrom_90 ?_
        refine vv_aload_n (pc := 93) 0 dX0_takeFrom_93 rfl rfl ?_
        refine vv_aload_n (pc := 94) 1 dX0_takeFrom_94 rfl rfl ?_
        refine vg_X0_place (pc := 95) (by assumption) mw_F_X0_48 dX0_takeFrom_95 ?_
        refine vp_X0_place (pc := 98) (by assumption) mw_F_X0_48 dX0_takeFrom_98 ?_
        refine vv_aload_n (pc := 101) 0 dX0_takeFrom_101 rfl rfl ?_
        refine vv_aload_n (pc := 102) 1 dX0_takeFrom_102 rfl rfl ?_
        refine vg_X0_walked (pc := 103) (by assumption) mw_F_X0_51 dX0_takeFrom_103 ?_
        refine vp_X0_walked (pc := 106) (by assumption) mw_F_X0_51 dX0_takeFrom_106 ?_
        refine vr_v (pc := 109) dX0_takeFrom_109 ?_
        have hB2 : ∀ f, S1 (mm_B b2) f = S (mm_B b2) f := fun f => by rw [hfd (mm_B b2) (fun w hw => by unfold mm_B mm_W; omega), hfc (mm_B b2) (by unfold mm_B; omega)]
        have hBB : mm_B b2 ≠ mm_B b := by unfold mm_B; omega
        simp only [mm_wr_n _ _ (Or.inl hBB), hB2]
        obtain ⟨g1, g2, g3, g4, g5, g6, g7, g8, g9⟩ := id hr
        have hO : ∀ j, j ≠ mm_B b → mm_wr (mm_wr (mm_wr (mm_wr (mm_wr S1 (mm_B b) 4 (S (mm_B b2) 4)) (mm_B b) 5 (S (mm_B b2) 5)) (mm_B b) 6 (S (mm_B b2) 6)) (mm_B b) 7 (S (mm_B b2) 7)) (mm_B b) 8 (S (mm_B b2) 8) j = S1 j := fun j hj => by rw [mm_wr_orow _ _ hj, mm_wr_orow _ _ hj, mm_wr_orow _ _ hj, mm_wr_orow _ _ hj, mm_wr_orow _ _ hj]
        refine ⟨⟨?_, ?_, ?_, ?_, ?_, ?_, fun p hp => ?_, fun p hp => ?_, fun k hk => ?_⟩, fun k hk => ?_, fun j hj => ?_⟩
        · simp only [mm_wr_eq]; simp; rw [hfd (mm_B b) (by intro w hw; exact mm_BW b w), eB3, h3]
        · simp only [mm_wr_eq]; simp [g2]
        · simp only [mm_wr_eq]; simp [g3]
        · simp only [mm_wr_eq]; simp [g4]
        · simp only [mm_wr_eq]; simp [g5]
        · simp only [mm_wr_eq]; simp [g6]
        · rw [hO _ (Ne.symm (mm_BL b)), hfd (mm_L b) (fun w hw => mm_LW b w)]; exact eL p hp
        · rw [hO _ (Ne.symm (mm_BA b)), hfd (mm_A b) (fun w hw => mm_AW b w)]; exact eA p hp
        · rw [hO _ (Ne.symm (mm_BW b k))]
          rw [hrow k hk 0 (by decide), hrow k hk 1 (by decide), hrow k hk 2 (by decide), hrow k hk 3 (by decide), hrow k hk 4 (by decide), hrow k hk 6 (by decide), hrow k hk 7 (by decide), hrow k hk 8 (by decide), hrow k hk 9 (by decide), hrow k hk 10 (by decide), hrow k hk 11 (by decide)]
          exact g9 k hk
        · rw [hO _ (Ne.symm (mm_BW b k))]; exact hrow k hk 5 (by decide)
        · rw [hO _ (by unfold mm_B at *; omega), hfd j (fun w hw => by unfold mm_B mm_W at *; omega)]; exact hfc j hj
      -- f@45 path L40f
      · rw [hfd (mm_B b) (by intro w hw; exact mm_BW b w), eB3] at c45
        have hqC : q < C := sp_ltN (N := C) (by omega) hq e2 c45
        have hx2 : x2.toNatClampNeg = q := by rw [e2, cl_n (by omega)]
        refine vv_aload_n (pc := 48) 0 dX0_takeFrom_48 rfl rfl ?_
        refine vg_X0_wires (pc := 49) (by assumption) mw_F_X0_20 dX0_takeFrom_49 ?_
        refine vv_iload_n (pc := 52) 2 dX0_takeFrom_52 rfl rfl ?_
        refine vl_R (pc := 53) (by assumption) (by rw [e2]; exact vp_8 (by omega)) dX0_takeFrom_53 ?_
        rw [hx2]
        refine vv_aload_n (pc := 54) 1 dX0_takeFrom_54 rfl rfl ?_
        refine vg_X0_wires (pc := 55) (by assumption) mw_F_X0_20 dX0_takeFrom_55 ?_
        refine vv_iload_n (pc := 58) 2 dX0_takeFrom_58 rfl rfl ?_
        refine vl_R (pc := 59) (by assumption) (by rw [e2]; exact vp_8 (by omega)) dX0_takeFrom_59 ?_
        rw [hx2]
        refine vc_Vv (pc := 60) (c_X3_takeFrom l G (by assumption) (by omega) (by assumption) (by omega) hne _) mw_M_X0_41 my_X3_takeFrom (mm_rv_W (by assumption) (by omega)) ⟨by decide, by decide⟩ rfl rfl (Nat.le_of_ble_eq_true rfl) dX0_takeFrom_60 (fun S60 h60 => ?_)
        obtain ⟨x2p63, e2p63⟩ : ∃ y : Int32, y = x2 + 1 := ⟨_, rfl⟩
        refine vv_iinc (pc := 63) (q := 2) (v := x2p63) (ls' := [(2, .int x2p63), (0, .ref (gad G (mm_B b))), (1, .ref (gad G (mm_B b2)))]) dX0_takeFrom_63 rfl (by rw [e2p63]; rfl) (by decide) rfl ?_
        refine vv_goto (pc := 66) (tgt := 40) dX0_takeFrom_66 (by decide) ?_
        have hW2 : ∀ w, w < 8 → S1 (mm_W b2 w) = S (mm_W b2 w) := fun w hw => by rw [hfd (mm_W b2 w) (fun w2 hw2 => mm_W_ne (fun h => hne h.symm) hw hw2)]; exact hfc _ (by unfold mm_W mm_B; omega)
        refine vv_sub [1, 2, 0] (ls' := [(0, _), (1, _), (2, _)]) rfl ?_
        exact ih (q + 1) x2p63 S60 (by omega) (by omega) (by rw [e2p63, e2]; exact nI_1 q) (fun j hj => by rw [h60, mm_cp_o S1 (hj q (by omega))]; exact hfd j hj) (fun k hk f hf => if e : k = q then (by subst e; rw [h60, mm_cp_in S1 hf, hW2 k (by omega)]) else (by rw [h60, mm_cp_o S1 (mm_W_ne2 e)]; exact hrow k (by omega) f hf))
  refine vv_sub [1, 2, 0] (ls' := [(0, _), (1, _), (2, _)]) rfl ?_
  exact lp40 9 0 x2p39 Sc (by omega) (by omega) e2p39 (fun _ _ => rfl) (fun k h => absurd h (Nat.not_lt_zero k))
end
section
theorem sp_lo_low (C : Nat) (z : Nat → Int32) {i : Nat} (hi : i < 30) : sp_lo C z i = z i := by
  unfold sp_lo
  rw [if_neg (by omega)]
theorem sp_lo_f (C : Nat) (z : Nat → Int32) {k f : Nat} (hf : f < 14) : sp_f (sp_lo C z) k f = if k < C ∧ (f = 4 ∨ f = 8 ∨ f = 9) then sp_lz (sp_f z k f) (z 0) else sp_f z k f := by
  unfold sp_f sp_lo
  have e1 : (30 + 14 * k + f - 30) / 14 = k := by omega
  have e2 : (30 + 14 * k + f - 30) % 14 = f := by omega
  rw [e1, e2]
  by_cases h : k < C ∧ (f = 4 ∨ f = 8 ∨ f = 9)
  · rw [if_pos h, if_pos ⟨by omega, h⟩]
  · rw [if_neg h, if_neg (fun g => h g.2)]
theorem i32_add {a b : Int32} (h1 : -2147483648 ≤ a.toInt + b.toInt) (h2 : a.toInt + b.toInt < 2147483648) : (a + b).toInt = a.toInt + b.toInt := by
  rw [Int32.toInt_add, Int.bmod_eq_of_le (by omega) (by omega)]
theorem i32_sub {a b : Int32} (h1 : -2147483648 ≤ a.toInt - b.toInt) (h2 : a.toInt - b.toInt < 2147483648) : (a - b).toInt = a.toInt - b.toInt := by
  rw [Int32.toInt_sub, Int.bmod_eq_of_le (by omega) (by omega)]
theorem i32_mul {a b : Int32} (h1 : -2147483648 ≤ a.toInt * b.toInt) (h2 : a.toInt * b.toInt < 2147483648) : (a * b).toInt = a.toInt * b.toInt := by
  rw [Int32.toInt_mul, Int.bmod_eq_of_le (by omega) (by omega)]
theorem sp_crept_N {t c : Nat} (ht : t ≤ 50000) (hc : c ≤ 100) : sp_crept (nI t) (nI c) = nI (t - (t * c + 999) / 1000) ∧ (t * c + 999) / 1000 ≤ t := by
  have h1 : t * c ≤ t * 100 := Nat.mul_le_mul_left t hc
  have h2 : (t * c + 999) / 1000 ≤ t := by omega
  refine ⟨?_, h2⟩
  unfold sp_crept
  rw [pk_mul]
  show nI t - (nI (t * c) + nI 999) / nI 1000 = _
  rw [nI_add, pk_div (by omega) (by decide) (by decide), pk_sub h2]
theorem sp_crept_rng {t c : Int32} (h1 : 0 ≤ t.toInt) (h2 : t.toInt ≤ 50000) (h3 : 0 ≤ c.toInt) (h4 : c.toInt ≤ 100) : 0 ≤ (sp_crept t c).toInt ∧ (sp_crept t c).toInt ≤ t.toInt := by
  have e1 := sp_cl h1
  have e2 := sp_cl h3
  have h := sp_crept_N (t := t.toNatClampNeg) (c := c.toNatClampNeg) (by omega) (by omega)
  rw [← sp_nI h1, ← sp_nI h3] at h
  rw [h.1, nI_toInt (by omega)]
  omega
theorem sp_crept_0 (c : Int32) : sp_crept 0 c = 0 := by
  unfold sp_crept
  rw [Int32.zero_mul]
  decide
theorem sp_lz_pos {t c : Int32} (h1 : 0 ≤ t.toInt) : sp_lz t c = sp_crept t c := by
  unfold sp_lz
  rw [if_neg (by rw [Int32.lt_iff_toInt_lt]; have : (0 : Int32).toInt = 0 := (by decide); omega)]
theorem sp_lo_ww {C : Nat} {z : Nat → Int32} {k : Nat} (hk : k < C) (h : sp_ww z k) (h0 : 0 ≤ (z 0).toInt ∧ (z 0).toInt ≤ 100) : sp_ww (sp_lo C z) k := by
  unfold sp_ww at h ⊢
  obtain ⟨a1, a2, a3, a4, a5, a6, a7, a8, a9, a10, a11, a12, a13, a14, a15⟩ := h
  rw [sp_lo_f C z (show 0 < 14 by decide), sp_lo_f C z (show 1 < 14 by decide), sp_lo_f C z (show 2 < 14 by decide), sp_lo_f C z (show 3 < 14 by decide), sp_lo_f C z (show 4 < 14 by decide), sp_lo_f C z (show 5 < 14 by decide), sp_lo_f C z (show 7 < 14 by decide), sp_lo_f C z (show 8 < 14 by decide), sp_lo_f C z (show 9 < 14 by decide), sp_lo_f C z (show 10 < 14 by decide)]
  have c4 := sp_crept_rng a9 a10 h0.1 h0.2
  simp only [hk, true_and, true_or, or_true, if_true, show (0 : Nat) = 4 ↔ False by decide, show (0 : Nat) = 8 ↔ False by decide, show (0 : Nat) = 9 ↔ False by decide, show (1 : Nat) = 4 ↔ False by decide, show (1 : Nat) = 8 ↔ False by decide, show (1 : Nat) = 9 ↔ False by decide, show (2 : Nat) = 4 ↔ False by decide, show (2 : Nat) = 8 ↔ False by decide, show (2 : Nat) = 9 ↔ False by decide, show (3 : Nat) = 4 ↔ False by decide, show (3 : Nat) = 8 ↔ False by decide, show (3 : Nat) = 9 ↔ False by decide, show (5 : Nat) = 4 ↔ False by decide, show (5 : Nat) = 8 ↔ False by decide, show (5 : Nat) = 9 ↔ False by decide, show (7 : Nat) = 4 ↔ False by decide, show (7 : Nat) = 8 ↔ False by decide, show (7 : Nat) = 9 ↔ False by decide, show (10 : Nat) = 4 ↔ False by decide, show (10 : Nat) = 8 ↔ False by decide, show (10 : Nat) = 9 ↔ False by decide, or_false, if_false]
  rw [sp_lz_pos a9]
  refine ⟨a1, a2, a3, a4, a5, a6, a7, a8, c4.1, by omega, a11, a12, fun q => by rw [a13 q]; exact sp_crept_0 _, fun q => ?_, ?_⟩
  · obtain ⟨q1, q2, q3, q4⟩ := a14 q
    refine ⟨q1, ?_, ?_, q4⟩
    · rw [q2, sp_lz_pos (by decide)]; exact sp_crept_0 _
    · rw [q3, sp_lz_pos (by decide)]; exact sp_crept_0 _
  · rcases a15 with ⟨q1, q2, q3⟩ | ⟨q1, q2, q3, q4, q5⟩
    · refine Or.inl ⟨q1, ?_, ?_⟩
      · rw [q2]; unfold sp_lz; rw [if_pos (by decide)]
      · rw [q3]; unfold sp_lz; rw [if_pos (by decide)]
    · have c8 := sp_crept_rng q2 q3 h0.1 h0.2
      have c9 := sp_crept_rng q4 q5 h0.1 h0.2
      rw [sp_lz_pos q2, sp_lz_pos q4]
      exact Or.inr ⟨q1, c8.1, by omega, c9.1, by omega⟩
theorem sp_lo_0 (C : Nat) (z : Nat → Int32) (k : Nat) {f : Nat} (hf : f < 14) (h4 : f ≠ 4) (h8 : f ≠ 8) (h9 : f ≠ 9) : sp_f (sp_lo C z) k f = sp_f z k f := by
  rw [sp_lo_f C z hf, if_neg (by omega)]
theorem sp_lo_wf {C : Nat} {z : Nat → Int32} (h : sp_wf C z) : sp_wf C (sp_lo C z) := by
  obtain ⟨h1, h2, h3, h4, h5, h6, h7, h8⟩ := h
  refine ⟨sp_up_ws h1 (sp_lo_low C z (by decide)) (fun k _ => sp_lo_0 C z k (by decide) (by decide) (by decide) (by decide)), fun k hk => sp_lo_ww hk (h2 k hk) h5, fun p hp => by rw [sp_lo_low C z (by omega)]; exact h3 p hp, by rw [sp_lo_low C z (by decide)]; exact h4, by rw [sp_lo_low C z (by decide)]; exact h5, by rw [sp_lo_low C z (by decide)]; exact h6, by rw [sp_lo_low C z (by decide)]; exact h7, fun k f hk hk8 hf => ?_⟩
  rw [sp_lo_f C z hf, if_neg (by omega)]
  exact h8 k f hk hk8 hf
theorem sp_bs_congr {C : Nat} {z z' : Nat → Int32} (hC : C ≤ 8) (h : ∀ k, k < C → sp_f z' k 0 = sp_f z k 0 ∧ sp_f z' k 5 = sp_f z k 5 ∧ sp_f z' k 3 = sp_f z k 3) (hl : ∀ p, p < 20 → z' (10 + p) = z (10 + p)) : ∀ c, c ≤ C → sp_bs z' C c = sp_bs z C c
  | 0, _ => rfl
  | c + 1, hc => by
    have e : sp_ov z' C c = sp_ov z C c := by
      unfold sp_ov
      rw [(h c (by omega)).2.1, (h c (by omega)).2.2, sp_tk_congr hC (fun k hk => ⟨(h k hk).1, by rw [(h k hk).2.1]⟩) hl]
    unfold sp_bs
    rw [sp_bs_congr hC h hl c (by omega), e]
theorem sp_bu_congr {C : Nat} {z z' : Nat → Int32} (hC : C ≤ 8) (h : ∀ k, k < C → sp_f z' k 0 = sp_f z k 0 ∧ sp_f z' k 5 = sp_f z k 5 ∧ sp_f z' k 3 = sp_f z k 3) (hl : ∀ p, p < 20 → z' (10 + p) = z (10 + p)) : sp_bu z' C = sp_bu z C := by
  unfold sp_bu
  rw [sp_bs_congr hC h hl C (Nat.le_refl C)]
theorem sp_lo_bu {C : Nat} {z : Nat → Int32} (hC : C ≤ 8) : sp_bu (sp_lo C z) C = sp_bu z C :=
  sp_bu_congr hC (fun k _ => ⟨sp_lo_0 C z k (by decide) (by decide) (by decide) (by decide), sp_lo_0 C z k (by decide) (by decide) (by decide) (by decide), sp_lo_0 C z k (by decide) (by decide) (by decide) (by decide)⟩) (fun p hp => sp_lo_low C z (by omega))
theorem sp_stl_calm {C : Nat} {z : Nat → Int32} (h : sp_bu z C = 99) : ∀ k, sp_stl C k z = z
  | 0 => rfl
  | k + 1 => by unfold sp_stl; rw [if_pos h]
theorem sp_sto_calm {C : Nat} {z : Nat → Int32} (h : sp_bu z C = 99) (m : Int32) : ∀ k, sp_sto C k z m = m
  | 0 => rfl
  | k + 1 => by unfold sp_sto; rw [if_pos h]
theorem sp_day_wf {C : Nat} {z : Nat → Int32} (h : sp_wf C z) (h2 : (z 2).toInt < 2147483647) : sp_wf C (sp_day C z) := by
  have h1 := sp_lo_wf h
  have hd : (z 2 + 1).toInt = (z 2).toInt + 1 := by
    have e1 : (1 : Int32).toInt = 1 := (by decide)
    have e2 := h.2.2.2.2.2.2.1
    rw [i32_add (by omega) (by omega), e1]
  unfold sp_day
  refine sp_wf_low h1 (fun k f => sp_f_upd _ (by decide) _ k f) (upd_n _ _ (by decide)) (fun p hp => by rw [upd_n _ _ (by omega)]; exact h1.2.2.1 p hp) (by rw [upd_n _ _ (by decide)]; exact h1.2.2.2.1) (by rw [upd_n _ _ (by decide)]; exact h1.2.2.2.2.1) (by rw [upd_n _ _ (by decide)]; exact h1.2.2.2.2.2.1) ?_
  rw [upd_s, hd]
  have := h.2.2.2.2.2.2.1
  omega
theorem sp_day_bu {C : Nat} {z : Nat → Int32} (hC : C ≤ 8) : sp_bu (sp_day C z) C = sp_bu z C := by
  rw [← sp_lo_bu hC (z := z)]
  exact sp_bu_congr hC (fun k _ => ⟨sp_f_upd _ (by decide) _ k _, sp_f_upd _ (by decide) _ k _, sp_f_upd _ (by decide) _ k _⟩) (fun p hp => upd_n _ _ (by omega))
theorem sp_day_2 {C : Nat} {z : Nat → Int32} (h0 : 0 ≤ (z 2).toInt) (h2 : (z 2).toInt < 2147483647) : (sp_day C z 2).toInt = (z 2).toInt + 1 := by
  unfold sp_day
  rw [upd_s]
  have e1 : (1 : Int32).toInt = 1 := (by decide)
  rw [i32_add (by omega) (by omega), e1]
/-- one wire loosens -/
theorem rb_loose {C b w : Nat} {S : Mem} {z : Nat → Int32} {c : Int32} (h : rb C S b (sp_lo w z)) (hC : C ≤ 8) (hw : w < C) (hww : sp_ww z w) (hc : c = z 0) : rb C (mm_wr (mm_wr (mm_wr S (mm_W b w) 4 (sp_crept (S (mm_W b w) 4) c)) (mm_W b w) 9 (sp_crept (S (mm_W b w) 9) c)) (mm_W b w) 10 (sp_crept (S (mm_W b w) 10) c)) b (sp_lo (w + 1) z) := by
  obtain ⟨a1, a2, a3, a4, a5, a6, a7, a8, a9, a10, a11⟩ := h.2.2.2.2.2.2.2.2 w hw
  have e0 : ∀ f, f < 14 → sp_f (sp_lo w z) w f = sp_f z w f := fun f hf => by rw [sp_lo_f w z hf, if_neg (by omega)]
  have e1 : ∀ f, f < 14 → f ≠ 4 → f ≠ 8 → f ≠ 9 → sp_f (sp_lo (w + 1) z) w f = sp_f z w f := fun f hf h4 h8 h9 => sp_lo_0 (w + 1) z w hf h4 h8 h9
  have e2 : ∀ f, f < 14 → (f = 4 ∨ f = 8 ∨ f = 9) → sp_f (sp_lo (w + 1) z) w f = sp_lz (sp_f z w f) (z 0) := fun f hf h4 => by rw [sp_lo_f (w + 1) z hf, if_pos ⟨by omega, h4⟩]
  have p4 := hww.2.2.2.2.2.2.2.2.1
  have p15 := hww.2.2.2.2.2.2.2.2.2.2.2.2.2.2
  unfold sp_lw at a9 a10
  simp only [e0 0 (by decide), e0 1 (by decide), e0 2 (by decide), e0 3 (by decide), e0 4 (by decide), e0 5 (by decide), e0 6 (by decide), e0 7 (by decide), e0 8 (by decide), e0 9 (by decide), e0 10 (by decide)] at a1 a2 a3 a4 a5 a6 a7 a8 a9 a10 a11
  refine rb_wire h hC hw (fun j hj => mm_wr3_o j hj) (fun i hi => by rw [sp_lo_low _ _ hi, sp_lo_low _ _ hi]) (fun i f hi hf => ?_) (by rw [e1 0 (by decide) (by decide) (by decide) (by decide), e0 0 (by decide)]) ?_
  · rw [sp_lo_f _ z hf, sp_lo_f _ z hf]
    by_cases g : i < w
    · have g2 : i < w + 1 := by omega
      simp only [g, g2]
    · have g2 : ¬ i < w + 1 := by omega
      simp only [g, g2]
  · unfold sp_lw
    rw [e1 0 (by decide) (by decide) (by decide) (by decide), e1 1 (by decide) (by decide) (by decide) (by decide), e1 2 (by decide) (by decide) (by decide) (by decide), e1 3 (by decide) (by decide) (by decide) (by decide), e1 5 (by decide) (by decide) (by decide) (by decide), e1 6 (by decide) (by decide) (by decide) (by decide), e1 7 (by decide) (by decide) (by decide) (by decide), e1 10 (by decide) (by decide) (by decide) (by decide), e2 4 (by decide) (by decide), e2 8 (by decide) (by decide), e2 9 (by decide) (by decide), sp_lz_pos p4]
    simp only [mm_wr_eq]
    have f9 : sp_crept (S (mm_W b w) 9) c = if sp_f z w 7 = -6 then 0 else sp_lz (sp_f z w 8) (z 0) := by
      rw [a9]
      by_cases g : sp_f z w 7 = -6
      · rw [if_pos g, if_pos g, sp_crept_0]
      · rw [if_neg g, if_neg g, hc]
        rcases p15 with q | q
        · exact absurd q.1 g
        · rw [sp_lz_pos q.2.1]
    have f10 : sp_crept (S (mm_W b w) 10) c = if sp_f z w 7 = -6 then 0 else sp_lz (sp_f z w 9) (z 0) := by
      rw [a10]
      by_cases g : sp_f z w 7 = -6
      · rw [if_pos g, if_pos g, sp_crept_0]
      · rw [if_neg g, if_neg g, hc]
        rcases p15 with q | q
        · exact absurd q.1 g
        · rw [sp_lz_pos q.2.2.2.1]
    rw [← f9, ← f10]
    simp [a1, a2, a3, a4, a5, a6, a7, a8, a11, hc]
theorem sp_lo_z (z : Nat → Int32) : sp_lo 0 z = z := by
  funext i
  unfold sp_lo
  rw [if_neg (fun h => absurd h.2.1 (Nat.not_lt_zero _))]
/-- the bridge as the listener believes it: broken are those that were heard to be -/
def sp_hd (C : Nat) (z : Nat → Int32) : Nat → Int32 := fun i => if 30 ≤ i ∧ (i - 30) / 14 < C ∧ (i - 30) % 14 = 5 then z (i + 5) else z i
theorem sp_hd_low (C : Nat) (z : Nat → Int32) {i : Nat} (hi : i < 30) : sp_hd C z i = z i := by
  unfold sp_hd
  rw [if_neg (by omega)]
theorem sp_hd_f (C : Nat) (z : Nat → Int32) {k f : Nat} (hf : f < 14) : sp_f (sp_hd C z) k f = if k < C ∧ f = 5 then sp_f z k 10 else sp_f z k f := by
  unfold sp_f sp_hd
  have e1 : (30 + 14 * k + f - 30) / 14 = k := by omega
  have e2 : (30 + 14 * k + f - 30) % 14 = f := by omega
  rw [e1, e2]
  by_cases h : k < C ∧ f = 5
  · rw [if_pos h, if_pos ⟨by omega, h⟩, show 30 + 14 * k + f + 5 = 30 + 14 * k + 10 by omega]
  · rw [if_neg h, if_neg (fun g => h g.2)]
theorem sp_hd_z (z : Nat → Int32) : sp_hd 0 z = z := by
  funext i
  unfold sp_hd
  rw [if_neg (fun h => absurd h.2.1 (Nat.not_lt_zero _))]
theorem sp_hd_ws {C q : Nat} {z : Nat → Int32} (h : sp_ws C z) : sp_ws C (sp_hd q z) := sp_up_ws h (sp_hd_low q z (by decide)) (fun k _ => by rw [sp_hd_f q z (by decide), if_neg (by omega)])
theorem sp_hd_wf {C : Nat} {z : Nat → Int32} (h : sp_wf C z) : sp_wf C (sp_hd C z) := by
  obtain ⟨h1, h2, h3, h4, h5, h6, h7, h8⟩ := h
  refine ⟨sp_hd_ws h1, fun k hk => ?_, fun p hp => by rw [sp_hd_low C z (by omega)]; exact h3 p hp, by rw [sp_hd_low C z (by decide)]; exact h4, by rw [sp_hd_low C z (by decide)]; exact h5, by rw [sp_hd_low C z (by decide)]; exact h6, by rw [sp_hd_low C z (by decide)]; exact h7, fun k f hk hk8 hf => ?_⟩
  · have e : ∀ f, f < 14 → f ≠ 5 → sp_f (sp_hd C z) k f = sp_f z k f := fun f hf h5 => by rw [sp_hd_f C z hf, if_neg (fun g => h5 g.2)]
    have e5 : sp_f (sp_hd C z) k 5 = sp_f z k 10 := by rw [sp_hd_f C z (by decide), if_pos ⟨hk, rfl⟩]
    have g := h2 k hk
    unfold sp_ww at g ⊢
    rw [e 0 (by decide) (by decide), e 1 (by decide) (by decide), e 2 (by decide) (by decide), e 3 (by decide) (by decide), e 4 (by decide) (by decide), e5, e 7 (by decide) (by decide), e 8 (by decide) (by decide), e 9 (by decide) (by decide), e 10 (by decide) (by decide)]
    obtain ⟨a1, a2, a3, a4, a5, a6, a7, a8, a9, a10, a11, a12, a13, a14, a15⟩ := g
    exact ⟨a1, a2, a3, a4, a5, a6, a7, a8, a9, a10, a12, a12, fun q => a13 (a14 q).1, fun q => ⟨q, (a14 q).2⟩, a15⟩
  · rw [sp_hd_f C z hf, if_neg (by omega)]
    exact h8 k f hk hk8 hf
theorem sp_hd_tk {C : Nat} {z : Nat → Int32} {w : Nat} (hC : C ≤ 8) : sp_tk (sp_hd C z) 5 C w = sp_tk z 10 C w :=
  sp_tk_congr hC (fun k hk => ⟨by rw [sp_hd_f C z (by decide), if_neg (by omega)], by rw [sp_hd_f C z (by decide), if_pos ⟨hk, rfl⟩]⟩) (fun p hp => sp_hd_low C z (by omega))
theorem rb_heard {C b w : Nat} {S : Mem} {z : Nat → Int32} (h : rb C S b (sp_hd w z)) (hC : C ≤ 8) (hw : w < C) : rb C (mm_wr S (mm_W b w) 6 (S (mm_W b w) 11)) b (sp_hd (w + 1) z) := by
  obtain ⟨a1, a2, a3, a4, a5, a6, a7, a8, a9, a10, a11⟩ := h.2.2.2.2.2.2.2.2 w hw
  have e0 : ∀ f, f < 14 → sp_f (sp_hd w z) w f = sp_f z w f := fun f hf => by rw [sp_hd_f w z hf, if_neg (by omega)]
  have e1 : ∀ f, f < 14 → f ≠ 5 → sp_f (sp_hd (w + 1) z) w f = sp_f z w f := fun f hf h5 => by rw [sp_hd_f (w + 1) z hf, if_neg (by omega)]
  have e5 : sp_f (sp_hd (w + 1) z) w 5 = sp_f z w 10 := by rw [sp_hd_f (w + 1) z (by decide), if_pos ⟨by omega, rfl⟩]
  unfold sp_lw at a9 a10
  simp only [e0 0 (by decide), e0 1 (by decide), e0 2 (by decide), e0 3 (by decide), e0 4 (by decide), e0 6 (by decide), e0 7 (by decide), e0 8 (by decide), e0 9 (by decide), e0 10 (by decide)] at a1 a2 a3 a4 a5 a7 a8 a9 a10 a11
  refine rb_wire h hC hw (fun j hj => mm_wr_orow S _ hj) (fun i hi => by rw [sp_hd_low _ _ hi, sp_hd_low _ _ hi]) (fun i f hi hf => ?_) (by rw [e1 0 (by decide) (by decide), e0 0 (by decide)]) ?_
  · rw [sp_hd_f _ z hf, sp_hd_f _ z hf]
    by_cases g : i < w
    · have g2 : i < w + 1 := by omega
      simp only [g, g2]
    · have g2 : ¬ i < w + 1 := by omega
      simp only [g, g2]
  · unfold sp_lw
    rw [e1 0 (by decide) (by decide), e1 1 (by decide) (by decide), e1 2 (by decide) (by decide), e1 3 (by decide) (by decide), e1 4 (by decide) (by decide), e5, e1 6 (by decide) (by decide), e1 7 (by decide) (by decide), e1 8 (by decide) (by decide), e1 9 (by decide) (by decide), e1 10 (by decide) (by decide)]
    simp only [mm_wr_eq]
    simp [a1, a2, a3, a4, a5, a7, a8, a9, a10, a11]
end
section
theorem sp_kn_low (z : Nat → Int32) (k : Nat) (lo hi : Int32) {i : Nat} (h : i < 30) : sp_kn z k lo hi i = z i := by
  unfold sp_kn
  rw [sp_up_lo _ _ _ _ h, sp_up_lo _ _ _ _ h, sp_up_lo _ _ _ _ h]
theorem sp_kn_f (z : Nat → Int32) (k : Nat) (lo hi : Int32) {k' f' : Nat} (hf : f' < 14) : sp_f (sp_kn z k lo hi) k' f' = if k' = k ∧ f' = 9 then hi else if k' = k ∧ f' = 8 then lo else if k' = k ∧ f' = 7 then z 2 else sp_f z k' f' := by
  unfold sp_kn
  rw [sp_up_f _ _ (by decide) hf, sp_up_f _ _ (by decide) hf, sp_up_f _ _ (by decide) hf]
theorem sp_kn_o (z : Nat → Int32) {k : Nat} (lo hi : Int32) {k' f' : Nat} (hf : f' < 14) (h : k' ≠ k ∨ (f' ≠ 7 ∧ f' ≠ 8 ∧ f' ≠ 9)) : sp_f (sp_kn z k lo hi) k' f' = sp_f z k' f' := by
  rw [sp_kn_f z k lo hi hf, if_neg (by omega), if_neg (by omega), if_neg (by omega)]
/-- what is known of a wire is put down, with one more number of the wire anew (g: its place in the class's wire, f: in the row) -/
theorem rb_know {C b k : Nat} {S S' : Mem} {z z1 : Nat → Int32} {lo hi d : Int32} (h : rb C S b z) (hC : C ≤ 8) (hk : k < C) (hS : ∀ j, j ≠ mm_W b k → S' j = S j) (hd : d = z 2) (hd2 : 0 ≤ (z 2).toInt) (h1l : ∀ i, i < 30 → z1 i = z i) (h1o : ∀ i f, i ≠ k → f < 14 → sp_f z1 i f = sp_f z i f) (h10 : sp_f z1 k 0 = sp_f z k 0)
    (hr : S' (mm_W b k) 0 = sp_f z1 k 0 ∧ S' (mm_W b k) 1 = sp_f z1 k 1 ∧ S' (mm_W b k) 2 = sp_f z1 k 2 ∧ S' (mm_W b k) 3 = sp_f z1 k 3 ∧ S' (mm_W b k) 4 = sp_f z1 k 4 ∧ S' (mm_W b k) 6 = sp_f z1 k 5 ∧ S' (mm_W b k) 7 = sp_f z1 k 6 ∧ S' (mm_W b k) 8 = d ∧ S' (mm_W b k) 9 = lo ∧ S' (mm_W b k) 10 = hi ∧ S' (mm_W b k) 11 = sp_f z1 k 10) : rb C S' b (sp_kn z1 k lo hi) := by
  obtain ⟨a1, a2, a3, a4, a5, a6, a7, a8, a9, a10, a11⟩ := hr
  have e7 : sp_f (sp_kn z1 k lo hi) k 7 = z 2 := by rw [sp_kn_f _ _ _ _ (by decide), h1l 2 (by decide)]; simp
  have e8 : sp_f (sp_kn z1 k lo hi) k 8 = lo := by rw [sp_kn_f _ _ _ _ (by decide)]; simp
  have e9 : sp_f (sp_kn z1 k lo hi) k 9 = hi := by rw [sp_kn_f _ _ _ _ (by decide)]; simp
  have hne : z 2 ≠ -6 := fun e => by rw [e] at hd2; exact absurd hd2 (by decide)
  refine rb_wire h hC hk hS (fun i hi2 => by rw [sp_kn_low _ _ _ _ hi2, h1l i hi2]) (fun i f hi2 hf => by rw [sp_kn_o _ _ _ hf (Or.inl hi2), h1o i f hi2 hf]) (by rw [sp_kn_o _ _ _ (by decide) (Or.inr (by decide)), h10]) ?_
  unfold sp_lw
  rw [e7, e8, e9, sp_kn_o _ _ _ (show 0 < 14 by decide) (Or.inr (by decide)), sp_kn_o _ _ _ (show 1 < 14 by decide) (Or.inr (by decide)), sp_kn_o _ _ _ (show 2 < 14 by decide) (Or.inr (by decide)), sp_kn_o _ _ _ (show 3 < 14 by decide) (Or.inr (by decide)), sp_kn_o _ _ _ (show 4 < 14 by decide) (Or.inr (by decide)), sp_kn_o _ _ _ (show 5 < 14 by decide) (Or.inr (by decide)), sp_kn_o _ _ _ (show 6 < 14 by decide) (Or.inr (by decide)), sp_kn_o _ _ _ (show 10 < 14 by decide) (Or.inr (by decide)), if_neg hne, if_neg hne]
  exact ⟨a1, a2, a3, a4, a5, a6, a7, a8.trans hd, a9, a10, a11⟩
theorem rt_know {C b k : Nat} {S S' : Mem} {z z1 : Nat → Int32} {lo hi : Int32} (h : rt_ C S b z) (hC : C ≤ 8) (hS : ∀ j, j ≠ mm_W b k → S' j = S j) (h5 : S' (mm_W b k) 5 = S (mm_W b k) 5) (h1l : ∀ i, i < 30 → z1 i = z i) (h1 : ∀ i, i < C → sp_f z1 i 0 = sp_f z i 0 ∧ sp_f z1 i 5 = sp_f z i 5) : rt_ C S' b (sp_kn z1 k lo hi) :=
  rt_wire h hC hS h5 (fun i hi2 => by rw [sp_kn_low _ _ _ _ hi2, h1l i hi2]) (fun i hi2 => ⟨by rw [sp_kn_o _ _ _ (by decide) (Or.inr (by decide)), (h1 i hi2).1], by rw [sp_kn_o _ _ _ (by decide) (Or.inr (by decide)), (h1 i hi2).2]⟩)
theorem fr_W {b k : Nat} {S S' : Mem} (hk : k < 8) (hS : ∀ j, j ≠ mm_W b k → S' j = S j) : fr_ b S S' := fun j hj => hS j (by unfold mm_B mm_W at *; omega)
def sp_sum (z : Nat → Int32) : Nat → Int32
  | 0 => 0
  | p + 1 => sp_sum z p + z (10 + p)
def sp_cnt (g : Nat → Int32) : Nat → Int32
  | 0 => 0
  | c + 1 => sp_cnt g c + g c
def sp_g0 (z : Nat → Int32) (k : Nat) : Int32 := if sp_f z k 5 = 0 then 1 else 0
def sp_g1 (z : Nat → Int32) (C k : Nat) : Int32 := if sp_f z k 5 = 0 ∧ sp_f z k 4 < sp_tk z 5 C k then 1 else 0
def sp_g2 (z : Nat → Int32) (C k : Nat) : Int32 := if sp_f z k 5 = 0 ∧ 1000 < sp_f z k 4 ∧ sp_tk z 5 C k + sp_tk z 5 C k * z 1 / 100 < sp_f z k 4 then 1 else 0
abbrev sp_db (z : Nat → Int32) (C k : Nat) : Prop := sp_f z k 10 = 0 ∧ (sp_f z k 7 = -6 ∨ sp_f z k 9 < sp_tk z 5 C k ∨ sp_f z k 8 < sp_tk z 5 C k)
def sp_wk (z : Nat → Int32) (C : Nat) : Nat → Int32 × Int32
  | 0 => (20, -1)
  | c + 1 => if sp_db z C c then (if sp_f z c 0 < (sp_wk z C c).1 then sp_f z c 0 else (sp_wk z C c).1, if (sp_wk z C c).2 < sp_f z c 0 then sp_f z c 0 else (sp_wk z C c).2) else sp_wk z C c
def sp_abs (x : Int32) : Int32 := if 0 ≤ x then x else 0 - x
def sp_rnd (fi la pl : Int32) : Int32 := if la < fi then 0 else la - fi + (if sp_abs (pl - la) < sp_abs (pl - fi) then sp_abs (pl - la) else sp_abs (pl - fi))
theorem sp_one_if (c : Prop) [Decidable c] : sp_one (if c then 1 else 0) = if c then 1 else 0 := by
  by_cases h : c
  · simp only [h, if_true]; decide
  · simp only [h, if_false]; decide
end
section
set_option maxRecDepth 100000 in
set_option maxHeartbeats 4000000 in
theorem c_X0_letPass (l : Launch) (G : gG) {C b : Nat} {z : Nat → Int32} (hb : b < 11) (S : Mem) (hwf : sp_wf C z) (hr : rb C S b z) (ht : rt_ C S b z) (hcalm : sp_bu z C = 99) (hday : (z 2).toInt ≤ 1000000000) (x : Int32) : mm_C l G yX0_letPass cX0_letPass 5 (some .int) (mm_rm 3 72) [.ref (gad G (mm_B b)), .int x] S (mm_Qi G (fun r S2 => sp_res C b S S2 r (op_days C z x))) := by
  have hC := hwf.1.1
  refine mm_ofV (own := RX0) (by decide +kernel) rfl (Nat.le_of_ble_eq_true rfl) (ls0 := [(0, .ref (gad G (mm_B b))), (1, .int x)]) rfl ?_
  refine vv_iload_n (pc := 0) 1 dX0_letPass_0 rfl rfl ?_
  refine vv_iconst (pc := 1) (v := 1) dX0_letPass_1 (by decide) ?_
  refine vv_bipush (pc := 2) (v := 100) dX0_letPass_2 (by decide) ?_
  refine vc_Ni (pc := 4) (c_X4_within l G _ _ _ _) (host := RX4) (by decide +kernel) my_X4_within ⟨by decide, by decide⟩ rfl rfl (Nat.le_of_ble_eq_true rfl) dX0_letPass_4 (fun r4 S4 h4 => ?_)
  obtain ⟨qS4, h4⟩ := h4
  replace qS4 := qS4.symm
  subst qS4
  refine vv_if_ne (pc := 7) (tgt := 13) dX0_letPass_7 (by decide) (fun c7 => ?_) (fun c7 => ?_)
  -- t@7 path t
  · rw [h4, sp_in_iff, show (1 : Int32).toInt = 1 by decide, show (100 : Int32).toInt = 100 by decide] at c7
    have hx : x = nI x.toNatClampNeg := sp_nI (by omega)
    have hx2 := sp_cl (x := x) (by omega)
    have hx100 : x.toNatClampNeg ≤ 100 := by omega
    refine vv_iconst (pc := 13) (v := 0) dX0_letPass_13 (by decide) ?_
    refine vv_topi (fun x2p14 e2p14 => ?_)
    refine vv_istore_n (pc := 14) (i := 2) (ls' := [(2, .int x2p14), (0, .ref (gad G (mm_B b))), (1, .int x)]) dX0_letPass_14 rfl (by decide) rfl ?_
    refine vv_iconst (pc := 15) (v := 0) dX0_letPass_15 (by decide) ?_
    refine vv_topi (fun x3p16 e3p16 => ?_)
    refine vv_istore_n (pc := 16) (i := 3) (ls' := [(3, .int x3p16), (2, .int x2p14), (0, .ref (gad G (mm_B b))), (1, .int x)]) dX0_letPass_16 rfl (by decide) rfl ?_
    obtain ⟨F, eF⟩ : ∃ F, F = sp_dz C x.toNatClampNeg z := ⟨_, rfl⟩
    have lp17 : ∀ (n : Nat) (q kk : Nat) (x2 x3 : Int32) (S1 : Mem) (z1 : Nat → Int32), 102 ≤ n + q → q + kk = x.toNatClampNeg → x3 = nI q → x2 = 0 → sp_wf C z1 → sp_bu z1 C = 99 → (z1 2).toInt + (kk : Int) ≤ 1000000100 → rb C S1 b z1 → rt_ C S1 b z1 → fr_ b S S1 → sp_dz C kk z1 = F → mm_V l G RX0 cX0_letPass 5 (some .int) (mm_rm 3 72) 0 0 (fun _ => True) (fun _ => mm_F G) (mm_Qf G (mm_Qi G (fun r S2 => sp_res C b S S2 r (op_days C z x)))) S1 17 [(0, .ref (gad G (mm_B b))), (1, .int x), (2, .int x2), (3, .int x3)] [] := by
      intro n
      induction n with
      | zero =>
        intro q kk x2 x3 S1 z1 hn hq e3 e2 hwf1 hcalm1 hdd hr1 ht1 hfr hF
        exact absurd hn (by omega)
      | succ n ih =>
        intro q kk x2 x3 S1 z1 hn hq e3 e2 hwf1 hcalm1 hdd hr1 ht1 hfr hF
        refine vv_iload_n (pc := 17) 3 dX0_letPass_17 rfl rfl ?_
        refine vv_iload_n (pc := 18) 1 dX0_letPass_18 rfl rfl ?_
        refine vv_icmp_ge (pc := 19) (tgt := 80) dX0_letPass_19 (by decide) (fun c19 => ?_) (fun c19 => ?_)
        -- t@19 path tL17t
        · refine vv_iload_n (pc := 80) 2 dX0_letPass_80 rfl rfl ?_
          refine vr_i (pc := 81) dX0_letPass_81 ?_
          have hqd : q = x.toNatClampNeg := by
            rw [hx] at c19
            exact sp_geN (N := x.toNatClampNeg) (by omega) (by omega) e3 c19
          obtain rfl : kk = 0 := by omega
          have hz : z1 = F := hF
          unfold sp_res op_days
          rw [if_neg (by rw [sp_in_iff, show (1 : Int32).toInt = 1 by decide, show (100 : Int32).toInt = 100 by decide]; exact c7), ← eF, ← hz]
          exact ⟨e2, hr1, ht1, hfr⟩
        -- f@19 path tL17f
        · have hqd : q < x.toNatClampNeg := by
            rw [hx] at c19
            exact sp_ltN (N := x.toNatClampNeg) (by omega) (by omega) e3 c19
          obtain ⟨k1, rfl⟩ : ∃ k1, kk = k1 + 1 := ⟨kk - 1, by omega⟩
          unfold sp_dz at hF
          refine vv_iconst (pc := 22) (v := 0) dX0_letPass_22 (by decide) ?_
          refine vv_topi (fun x4p23 e4p23 => ?_)
          refine vv_istore (pc := 23) (i := 4) (ls' := [(4, .int x4p23), (0, .ref (gad G (mm_B b))), (1, .int x), (2, .int x2), (3, .int x3)]) dX0_letPass_23 (by decide) rfl ?_
          have lp25 : ∀ (n2 : Nat) (w : Nat) (x4 : Int32) (Sw : Mem), 9 ≤ n2 + w → w ≤ C → x4 = nI w → rb C Sw b (sp_lo w z1) → rt_ C Sw b z1 → fr_ b S1 Sw → mm_V l G RX0 cX0_letPass 5 (some .int) (mm_rm 3 72) 0 0 (fun _ => True) (fun _ => mm_F G) (mm_Qf G (mm_Qi G (fun r S2 => sp_res C b S S2 r (op_days C z x)))) Sw 25 [(0, .ref (gad G (mm_B b))), (1, .int x), (2, .int x2), (3, .int x3), (4, .int x4)] [] := by
            intro n2
            induction n2 with
            | zero =>
              intro w x4 Sw hn2 hwq e4 hrw hrt hfw
              exact absurd hn2 (by omega)
            | succ n2 ih2 =>
              intro w x4 Sw hn2 hwq e4 hrw hrt hfw
              refine vv_iload (pc := 25) 4 dX0_letPass_25 rfl ?_
              refine vv_aload_n (pc := 27) 0 dX0_letPass_27 rfl rfl ?_
              refine vg_X0_wireCount (pc := 28) (by assumption) mw_F_X0_38 dX0_letPass_28 ?_
              refine vv_icmp_ge (pc := 31) (tgt := 54) dX0_letPass_31 (by decide) (fun c31 => ?_) (fun c31 => ?_)
              -- t@31 path tL17fL25t
              · rw [hrw.1, sp_lo_low w z1 (by decide), hwf1.1.2.1] at c31
                have hwC := sp_geN (N := C) (by omega) hwq e4 c31
                subst hwC
                have hbl : sp_bu (sp_lo w z1) w = 99 := (sp_lo_bu hC).trans hcalm1
                have htw : rt_ w Sw b (sp_lo w z1) := fun k hk => by rw [sp_tk_congr hC (fun i hi => ⟨sp_lo_0 w z1 i (by decide) (by decide) (by decide) (by decide), by rw [sp_lo_0 w z1 i (by decide) (by decide) (by decide) (by decide)]⟩) (fun p hp => sp_lo_low w z1 (by omega))]; exact hrt k hk
                refine vv_iload_n (pc := 54) 2 dX0_letPass_54 rfl rfl ?_
                refine vv_aload_n (pc := 55) 0 dX0_letPass_55 rfl rfl ?_
                refine vc_Vi (pc := 56) (c_X0_settle l G (by assumption) _ (sp_lo_wf hwf1) hrw htw) mw_M_X0_76 my_X0_settle (mm_rv_B (by assumption)) ⟨by decide, by decide⟩ rfl rfl (Nat.le_of_ble_eq_true rfl) dX0_letPass_56 (fun r56 S56 h56 => ?_)
                rw [sp_sto_calm hbl, sp_stl_calm hbl] at h56
                rw [h56.1]
                refine vc_Si (pc := 59) (c_J6_bitCount_0f7a4 l G _ _) mw_M_X0_84 my_J6_bitCount_0f7a4 ⟨by decide, by decide⟩ rfl rfl (Nat.le_of_ble_eq_true rfl) dX0_letPass_59 (fun r59 S59 h59 => ?_)
                obtain ⟨qS59, h59⟩ := h59
                replace qS59 := qS59.symm
                subst qS59
                refine vv_iadd (pc := 62) dX0_letPass_62 ?_
                refine vv_topi (fun x2p63 e2p63 => ?_)
                refine vv_istore_n (pc := 63) (i := 2) (ls' := [(2, .int x2p63), (0, .ref (gad G (mm_B b))), (1, .int x), (3, .int x3), (4, .int x4)]) dX0_letPass_63 rfl (by decide) rfl ?_
                have e2n : x2p63 = 0 := by rw [e2p63, h59, e2]; decide
                refine vv_aload_n (pc := 64) 1 dX0_letPass_64 rfl rfl ?_
                refine vv_dup (pc := 65) dX0_letPass_65 rfl ?_
                refine vg_X0_day (pc := 66) (by assumption) mw_F_X0_45 dX0_letPass_66 ?_
                refine vv_iconst (pc := 69) (v := 1) dX0_letPass_69 (by decide) ?_
                refine vv_iadd (pc := 70) dX0_letPass_70 ?_
                refine vp_X0_day (pc := 71) (by assumption) mw_F_X0_45 dX0_letPass_71 ?_
                have hrd := rb_hd (x := S56 (mm_B b) 6 + 1) h56.2.1 hC 2 6 (by omega)
                have htd := rt_hd (b := b) (x := S56 (mm_B b) 6 + 1) h56.2.2.1 hC 2 6 (by omega)
                have ed : S56 (mm_B b) 6 = z1 2 := h56.2.1.2.2.2.1.trans (sp_lo_low _ z1 (by decide))
                rw [ed] at hrd htd ⊢
                have hd0 := hwf1.2.2.2.2.2.2.1
                obtain ⟨x3p74, e3p74⟩ : ∃ y : Int32, y = x3 + 1 := ⟨_, rfl⟩
                refine vv_iinc (pc := 74) (q := 3) (v := x3p74) (ls' := [(3, .int x3p74), (2, .int x2p63), (0, .ref (gad G (mm_B b))), (1, .int x), (4, .int x4)]) dX0_letPass_74 rfl (by rw [e3p74]; rfl) (by decide) rfl ?_
                refine vv_goto (pc := 77) (tgt := 17) dX0_letPass_77 (by decide) ?_
                refine vv_sub [2, 3, 1, 0] (ls' := [(0, _), (1, _), (2, _), (3, _)]) rfl ?_
                exact ih (q + 1) k1 x2p63 x3p74 _ (sp_day _ z1) (by omega) (by omega) (by rw [e3p74, e3]; exact nI_1 q) e2n (sp_day_wf hwf1 (by omega)) ((sp_day_bu hC).trans hcalm1) (by rw [sp_day_2 hd0 (by omega)]; omega) hrd htd (fr_trans hfr (fr_trans hfw (fr_trans h56.2.2.2 fr_B))) hF
              -- f@31 path tL17fL25f
              · rw [hrw.1, sp_lo_low w z1 (by decide), hwf1.1.2.1] at c31
                have hwC : w < C := sp_ltN (N := C) (by omega) hwq e4 c31
                have hx4 : x4.toNatClampNeg = w := by rw [e4, cl_n (by omega)]
                refine vv_aload_n (pc := 34) 0 dX0_letPass_34 rfl rfl ?_
                refine vg_X0_wires (pc := 35) (by assumption) mw_F_X0_20 dX0_letPass_35 ?_
                refine vv_iload (pc := 38) 4 dX0_letPass_38 rfl ?_
                refine vl_R (pc := 40) (by assumption) (by rw [e4]; exact vp_8 (by omega)) dX0_letPass_40 ?_
                rw [hx4]
                refine vv_aload_n (pc := 41) 0 dX0_letPass_41 rfl rfl ?_
                refine vg_X0_creep (pc := 42) (by assumption) mw_F_X0_25 dX0_letPass_42 ?_
                refine vc_Vv (pc := 45) (c_X3_loosen l G (by assumption) (by omega) _ _) mw_M_X0_80 my_X3_loosen (mm_rv_W (by assumption) (by omega)) ⟨by decide, by decide⟩ rfl rfl (Nat.le_of_ble_eq_true rfl) dX0_letPass_45 (fun S45 h45 => ?_)
                obtain ⟨x4p48, e4p48⟩ : ∃ y : Int32, y = x4 + 1 := ⟨_, rfl⟩
                refine vv_iinc (pc := 48) (q := 4) (v := x4p48) (ls' := [(4, .int x4p48), (0, .ref (gad G (mm_B b))), (1, .int x), (2, .int x2), (3, .int x3)]) dX0_letPass_48 rfl (by rw [e4p48]; rfl) (by decide) rfl ?_
                refine vv_goto (pc := 51) (tgt := 25) dX0_letPass_51 (by decide) ?_
                have hw8 : w < 8 := by omega
                have ec : Sw (mm_B b) 4 = z1 0 := hrw.2.1.trans (sp_lo_low w z1 (by decide))
                have hS45 : ∀ j, j ≠ mm_W b w → S45 j = Sw j := fun j hj => by rw [h45]; exact mm_wr3_o j hj
                have h5 : S45 (mm_W b w) 5 = Sw (mm_W b w) 5 := by rw [h45]; simp [mm_wr_eq]
                refine vv_sub [1, 2, 3, 4, 0] (ls' := [(0, _), (1, _), (2, _), (3, _), (4, _)]) rfl ?_
                exact ih2 (w + 1) x4p48 S45 (by omega) (by omega) (by rw [e4p48, e4]; exact nI_1 w) (by rw [h45]; exact rb_loose hrw hC hwC (hwf1.2.1 w hwC) ec) (rt_wire hrt hC hS45 h5 (fun _ _ => rfl) (fun _ _ => ⟨rfl, Iff.rfl⟩)) (fr_trans hfw (fr_W hw8 hS45))
          refine vv_sub [1, 2, 3, 4, 0] (ls' := [(0, _), (1, _), (2, _), (3, _), (4, _)]) rfl ?_
          exact lp25 9 0 x4p23 S1 (by omega) (by omega) e4p23 (by rw [sp_lo_z]; exact hr1) ht1 (fr_refl b S1)
    refine vv_sub [2, 3, 1, 0] (ls' := [(0, _), (1, _), (2, _), (3, _)]) rfl ?_
    exact lp17 102 0 x.toNatClampNeg x2p14 x3p16 S z (by omega) (by omega) e3p16 e2p14 hwf hcalm (by omega) hr ht (fr_refl b S) eF.symm
  -- f@7 path f
  · refine vv_bipush (pc := 10) (v := (-2)) dX0_letPass_10 (by decide) ?_
    refine vr_i (pc := 12) dX0_letPass_12 ?_
    unfold sp_res op_days
    rw [← h4, if_pos c7]
    exact ⟨rfl, hr, ht, fr_refl b S⟩
set_option maxRecDepth 100000 in
set_option maxHeartbeats 4000000 in
theorem c_X0_takeAsHeard (l : Launch) (G : gG) {C b b2 : Nat} {z : Nat → Int32} (hb : b < 11) (hb2 : b2 < 11) (hne : b ≠ b2) (S : Mem) (hwf : sp_wf C z) (hr : rb C S b2 z) : mm_C l G yX0_takeAsHeard cX0_takeAsHeard 3 (none) (mm_rm 2 62) [.ref (gad G (mm_B b)), .ref (gad G (mm_B b2))] S (mm_Qv G (fun S2 => rb C S2 b (sp_hd C z) ∧ rt_ C S2 b (sp_hd C z) ∧ fr_ b S S2)) := by
  have hw := hwf.1
  have hC := hw.1
  refine mm_ofV (own := RX0) (by decide +kernel) rfl (Nat.le_of_ble_eq_true rfl) (ls0 := [(0, .ref (gad G (mm_B b))), (1, .ref (gad G (mm_B b2)))]) rfl ?_
  refine vv_aload_n (pc := 0) 0 dX0_takeAsHeard_0 rfl rfl ?_
  refine vv_aload_n (pc := 1) 1 dX0_takeAsHeard_1 rfl rfl ?_
  refine vc_Vv (pc := 2) (c_X0_takeFrom l G (by assumption) (by assumption) hne _ hC hw.2.1 hr) mw_M_X0_54 my_X0_takeFrom (mm_rv_B (by assumption)) ⟨by decide, by decide⟩ rfl rfl (Nat.le_of_ble_eq_true rfl) dX0_takeAsHeard_2 (fun S2 h2 => ?_)
  refine vv_iconst (pc := 5) (v := 0) dX0_takeAsHeard_5 (by decide) ?_
  refine vv_topi (fun x2p6 e2p6 => ?_)
  refine vv_istore_n (pc := 6) (i := 2) (ls' := [(2, .int x2p6), (0, .ref (gad G (mm_B b))), (1, .ref (gad G (mm_B b2)))]) dX0_takeAsHeard_6 rfl (by decide) rfl ?_
  have lp7 : ∀ (n : Nat) (q : Nat) (x2 : Int32) (S1 : Mem), 9 ≤ n + q → q ≤ C → x2 = nI q → rb C S1 b (sp_hd q z) → fr_ b S S1 → mm_V l G RX0 cX0_takeAsHeard 3 (none) (mm_rm 2 62) 0 0 (fun _ => True) (fun _ => mm_F G) (mm_Qf G (mm_Qv G (fun S2 => rb C S2 b (sp_hd C z) ∧ rt_ C S2 b (sp_hd C z) ∧ fr_ b S S2))) S1 7 [(0, .ref (gad G (mm_B b))), (1, .ref (gad G (mm_B b2))), (2, .int x2)] [] := by
    intro n
    induction n with
    | zero =>
      intro q x2 S1 hn hq e2 hr1 hfr
      exact absurd hn (by omega)
    | succ n ih =>
      intro q x2 S1 hn hq e2 hr1 hfr
      refine vv_iload_n (pc := 7) 2 dX0_takeAsHeard_7 rfl rfl ?_
      refine vv_aload_n (pc := 8) 0 dX0_takeAsHeard_8 rfl rfl ?_
      refine vg_X0_wireCount (pc := 9) (by assumption) mw_F_X0_38 dX0_takeAsHeard_9 ?_
      refine vv_icmp_ge (pc := 12) (tgt := 39) dX0_takeAsHeard_12 (by decide) (fun c12 => ?_) (fun c12 => ?_)
      -- t@12 path L7t
      · rw [hr1.1, sp_hd_low q z (by decide), hw.2.1] at c12
        have hqC := sp_geN (N := C) (by omega) hq e2 c12
        subst hqC
        refine vv_aload_n (pc := 39) 0 dX0_takeAsHeard_39 rfl rfl ?_
        refine vc_Vv (pc := 40) (c_X0_reckon l G (by assumption) _ (sp_hd_ws hw) hr1) mw_M_X0_64 my_X0_reckon (mm_rv_B (by assumption)) ⟨by decide, by decide⟩ rfl rfl (Nat.le_of_ble_eq_true rfl) dX0_takeAsHeard_40 (fun S40 h40 => ?_)
        refine vr_v (pc := 43) dX0_takeAsHeard_43 ?_
        exact ⟨f5_rb hC h40.1 hr1, h40.2, fr_trans hfr (f5_fr hC h40.1)⟩
      -- f@12 path L7f
      · rw [hr1.1, sp_hd_low q z (by decide), hw.2.1] at c12
        have hqC : q < C := sp_ltN (N := C) (by omega) hq e2 c12
        have hx2 : x2.toNatClampNeg = q := by rw [e2, cl_n (by omega)]
        refine vv_okS (fun hok => ?_)
        refine vv_aload_n (pc := 15) 0 dX0_takeAsHeard_15 rfl rfl ?_
        refine vg_X0_wires (pc := 16) (by assumption) mw_F_X0_20 dX0_takeAsHeard_16 ?_
        refine vv_iload_n (pc := 19) 2 dX0_takeAsHeard_19 rfl rfl ?_
        refine vl_R (pc := 20) (by assumption) (by rw [e2]; exact vp_8 (by omega)) dX0_takeAsHeard_20 ?_
        rw [hx2]
        refine vv_aload_n (pc := 21) 0 dX0_takeAsHeard_21 rfl rfl ?_
        refine vg_X0_wires (pc := 22) (by assumption) mw_F_X0_20 dX0_takeAsHeard_22 ?_
        refine vv_iload_n (pc := 25) 2 dX0_takeAsHeard_25 rfl rfl ?_
        refine vl_R (pc := 26) (by assumption) (by rw [e2]; exact vp_8 (by omega)) dX0_takeAsHeard_26 ?_
        rw [hx2]
        refine vg_X3_heardBroken (pc := 27) (by assumption) (by omega) mw_F_X0_57 dX0_takeAsHeard_27 ?_
        refine vp_X3_broken (pc := 30) (by assumption) (by omega) (mm_bW11 hok b (by omega)) mw_F_X0_61 dX0_takeAsHeard_30 ?_
        obtain ⟨x2p33, e2p33⟩ : ∃ y : Int32, y = x2 + 1 := ⟨_, rfl⟩
        refine vv_iinc (pc := 33) (q := 2) (v := x2p33) (ls' := [(2, .int x2p33), (0, .ref (gad G (mm_B b))), (1, .ref (gad G (mm_B b2)))]) dX0_takeAsHeard_33 rfl (by rw [e2p33]; rfl) (by decide) rfl ?_
        refine vv_goto (pc := 36) (tgt := 7) dX0_takeAsHeard_36 (by decide) ?_
        refine vv_sub [1, 2, 0] (ls' := [(0, _), (1, _), (2, _)]) rfl ?_
        exact ih (q + 1) x2p33 _ (by omega) (by omega) (by rw [e2p33, e2]; exact nI_1 q) (rb_heard hr1 hC hqC) (fr_trans hfr (fr_W (k := q) (by omega) (fun j hj => mm_wr_orow S1 _ hj)))
  refine vv_sub [1, 2, 0] (ls' := [(0, _), (1, _), (2, _)]) rfl ?_
  exact lp7 9 0 x2p6 S2 (by omega) (by omega) e2p6 (by rw [sp_hd_z]; exact h2.1) h2.2.2
set_option maxRecDepth 100000 in
set_option maxHeartbeats 4000000 in
theorem c_X0_listen (l : Launch) (G : gG) {C b : Nat} {z : Nat → Int32} (hb : b < 11) (S : Mem) (hwf : sp_wf C z) (hr : rb C S b z) (ht : rt_ C S b z) : mm_C l G yX0_listen cX0_listen 2 (some .int) (mm_rm 3 71) [.ref (gad G (mm_B b))] S (mm_Qi G (fun r S2 => sp_res C b S S2 r (op_hear C z))) := by
  obtain ⟨g1, g2, g3, g4, g5, g6, g7, g8, g9⟩ := id hr
  have hw := hwf.1
  have hC := hw.1
  refine mm_ofV (own := RX0) (by decide +kernel) rfl (Nat.le_of_ble_eq_true rfl) (ls0 := [(0, .ref (gad G (mm_B b)))]) rfl ?_
  refine vv_aload_n (pc := 0) 0 dX0_listen_0 rfl rfl ?_
  refine vc_Vq (pc := 1) (c_X0_wireHere l G (by assumption) _ (by assumption) (by assumption) (by assumption)) mw_M_X0_99 my_X0_wireHere (mm_rv_B (by assumption)) ⟨by decide, by decide⟩ rfl rfl (Nat.le_of_ble_eq_true rfl) dX0_listen_1 (fun r1 S1 h1 => ?_)
  obtain ⟨qS1, h1⟩ := h1
  replace qS1 := qS1.symm
  subst qS1
  rcases sp_rf_cases G b (sp_hw z C) with ⟨gH, eH⟩ | ⟨gH, eH⟩ <;> rw [eH] at h1 <;> subst h1
  -- null@1 path n
  · refine vv_astore_nN (pc := 4) (i := 1) (ls' := [(1, .null), (0, .ref (gad G (mm_B b)))]) dX0_listen_4 rfl (by decide) rfl ?_
    refine vv_aload_nN (pc := 5) 0 dX0_listen_5 rfl rfl ?_
    refine vv_ifnonnullN (pc := 6) dX0_listen_6 ?_
    refine vv_bipush (pc := 9) (v := (-5)) dX0_listen_9 (by decide) ?_
    refine vv_goto (pc := 11) (tgt := 22) dX0_listen_11 (by decide) ?_
    refine vr_i (pc := 22) dX0_listen_22 ?_
    unfold sp_res op_hear
    rw [if_pos gH]
    exact ⟨rfl, hr, ht, fr_refl b S⟩
  -- ref@1 path r
  · obtain ⟨hk, -⟩ := sp_hw_lt hC gH
    have hk8 : sp_hw z C < 8 := by omega
    have hww := hwf.2.1 _ hk
    obtain ⟨a1, a2, a3, a4, a5, a6, a7, a8, a9, a10, a11⟩ := g9 _ hk
    have hrg : sp_rg (S (mm_W b (sp_hw z C)) 1) (S (mm_W b (sp_hw z C)) 2) (S (mm_W b (sp_hw z C)) 4) := by rw [a2, a3, a5]; exact ⟨hww.2.2.1, hww.2.2.2.1, hww.2.2.2.2.1, hww.2.2.2.2.2.1, hww.2.2.2.2.2.2.2.2.1, hww.2.2.2.2.2.2.2.2.2.1⟩
    refine vv_astore_n (pc := 4) (i := 1) (ls' := [(1, _), (0, .ref (gad G (mm_B b)))]) dX0_listen_4 rfl (by decide) rfl ?_
    refine vv_aload_n (pc := 5) 0 dX0_listen_5 rfl rfl ?_
    refine vv_ifnonnull (pc := 6) (tgt := 14) dX0_listen_6 (by decide) ?_
    refine vv_aload_n (pc := 14) 0 dX0_listen_14 rfl rfl ?_
    refine vv_aload_n (pc := 15) 1 dX0_listen_15 rfl rfl ?_
    refine vg_X0_day (pc := 16) (by assumption) mw_F_X0_45 dX0_listen_16 ?_
    refine vc_Vi (pc := 19) (c_X3_sing l G (by assumption) (by assumption) _ _ hrg) mw_M_X0_103 my_X3_sing (mm_rv_W (by assumption) (by assumption)) ⟨by decide, by decide⟩ rfl rfl (Nat.le_of_ble_eq_true rfl) dX0_listen_19 (fun r19 S19 h19 => ?_)
    refine vr_i (pc := 22) dX0_listen_22 ?_
    have hd := hwf.2.2.2.2.2.2.1
    unfold sp_res op_hear
    rw [if_neg gH]
    rw [a6] at h19
    by_cases e : sp_f z (sp_hw z C) 5 = 0
    · rw [if_pos e] at h19 ⊢
      obtain ⟨hp, h19⟩ := h19
      rw [a2, a3, a5] at hp
      rw [a2, a3, hp] at h19
      have hS : ∀ j, j ≠ mm_W b (sp_hw z C) → S19 j = S j := fun j hj => by rw [h19]; exact mm_wr3_o j hj
      refine ⟨hp, rb_know hr hC hk hS g4 hd (fun _ _ => rfl) (fun _ _ _ _ => rfl) rfl ?_, rt_know ht hC hS (by rw [h19]; simp [mm_wr_eq]) (fun _ _ => rfl) (fun _ _ => ⟨rfl, rfl⟩), fr_W hk8 hS⟩
      rw [h19]
      simp only [mm_wr_eq]
      simp [a1, a2, a3, a4, a5, a6, a7, a11]
    · rw [if_neg e] at h19 ⊢
      obtain ⟨hp, h19⟩ := h19
      have hS : ∀ j, j ≠ mm_W b (sp_hw z C) → S19 j = S j := fun j hj => by rw [h19, mm_wr_orow _ _ hj]; exact mm_wr3_o j hj
      refine ⟨hp, rb_know hr hC hk hS g4 hd (fun i hi => sp_up_lo _ _ _ _ hi) (fun i f hi hf => by rw [sp_up_f _ _ (by decide) hf, if_neg (by omega)]) (by rw [sp_up_f _ _ (by decide) (by decide), if_neg (by omega)]) ?_, rt_know ht hC hS (by rw [h19]; simp [mm_wr_eq]) (fun i hi => sp_up_lo _ _ _ _ hi) (fun i hi => ⟨by rw [sp_up_f _ _ (by decide) (by decide), if_neg (by omega)], by rw [sp_up_f _ _ (by decide) (by decide), if_neg (by omega)]⟩), fr_W hk8 hS⟩
      rw [h19]
      simp only [sp_up_f z _ (show 10 < 14 by decide) (show 0 < 14 by decide), sp_up_f z _ (show 10 < 14 by decide) (show 1 < 14 by decide), sp_up_f z _ (show 10 < 14 by decide) (show 2 < 14 by decide), sp_up_f z _ (show 10 < 14 by decide) (show 3 < 14 by decide), sp_up_f z _ (show 10 < 14 by decide) (show 4 < 14 by decide), sp_up_f z _ (show 10 < 14 by decide) (show 5 < 14 by decide), sp_up_f z _ (show 10 < 14 by decide) (show 6 < 14 by decide), sp_up_f z _ (show 10 < 14 by decide) (show 10 < 14 by decide), mm_wr_eq]
      simp [a1, a2, a3, a4, a5, a6, a7, a11]
end
