section
-- ===== PART A: goes FIRST, ahead of the names: the tables' words, and 'selects' of the private methods out of them =====
/-- a private method of a class that the tables say can be made, by its rows of tables_1 -/
def lw_okq (q : MethodName × Nat) : Prop := (q.1.cls ≠ "java/lang/invoke/MethodHandle" ∧ q.1.cls ≠ "java/lang/invoke/VarHandle") ∧ Cond.instantiable q.1.cls q.2 ∈ tables_1 ∧ Cond.privateMethod q.1 ∈ tables_1 ∧ Cond.instanceMethod q.1 ∈ tables_1
theorem lw_p0 : lw_okq (⟨"SingingWires", "fallenWith", "(I)I"⟩, 6) := ⟨⟨by decide +kernel, by decide +kernel⟩, List.mem_of_getElem? (i := 11) (by decide +kernel), List.mem_of_getElem? (i := 444) (by decide +kernel), List.mem_of_getElem? (i := 445) (by decide +kernel)⟩
theorem lw_p1 : lw_okq (⟨"SingingWires", "ordersCarriedOut", "()I"⟩, 6) := ⟨⟨by decide +kernel, by decide +kernel⟩, List.mem_of_getElem? (i := 11) (by decide +kernel), List.mem_of_getElem? (i := 549) (by decide +kernel), List.mem_of_getElem? (i := 550) (by decide +kernel)⟩
theorem lw_p2 : lw_okq (⟨"SingingWires", "answerTo", "(CII)I"⟩, 6) := ⟨⟨by decide +kernel, by decide +kernel⟩, List.mem_of_getElem? (i := 11) (by decide +kernel), List.mem_of_getElem? (i := 565) (by decide +kernel), List.mem_of_getElem? (i := 566) (by decide +kernel)⟩
theorem lw_p3 : lw_okq (⟨"SingingWiresModel", "record", "()V"⟩, 14) := ⟨⟨by decide +kernel, by decide +kernel⟩, List.mem_of_getElem? (i := 586) (by decide +kernel), List.mem_of_getElem? (i := 642) (by decide +kernel), List.mem_of_getElem? (i := 643) (by decide +kernel)⟩
theorem lw_p4 : lw_okq (⟨"SingingWiresModel", "wireAt", "(I)I"⟩, 14) := ⟨⟨by decide +kernel, by decide +kernel⟩, List.mem_of_getElem? (i := 586) (by decide +kernel), List.mem_of_getElem? (i := 651) (by decide +kernel), List.mem_of_getElem? (i := 652) (by decide +kernel)⟩
theorem lw_p5 : lw_okq (⟨"SingingWiresModel", "of", "(II)I"⟩, 14) := ⟨⟨by decide +kernel, by decide +kernel⟩, List.mem_of_getElem? (i := 586) (by decide +kernel), List.mem_of_getElem? (i := 655) (by decide +kernel), List.mem_of_getElem? (i := 656) (by decide +kernel)⟩
theorem lw_p6 : lw_okq (⟨"SingingWiresModel", "book", "(III)V"⟩, 14) := ⟨⟨by decide +kernel, by decide +kernel⟩, List.mem_of_getElem? (i := 586) (by decide +kernel), List.mem_of_getElem? (i := 659) (by decide +kernel), List.mem_of_getElem? (i := 660) (by decide +kernel)⟩
theorem lw_p7 : lw_okq (⟨"SingingWiresModel", "settle", "()I"⟩, 14) := ⟨⟨by decide +kernel, by decide +kernel⟩, List.mem_of_getElem? (i := 586) (by decide +kernel), List.mem_of_getElem? (i := 663) (by decide +kernel), List.mem_of_getElem? (i := 664) (by decide +kernel)⟩
theorem lw_p8 : lw_okq (⟨"SingingWiresModel", "burst", "()I"⟩, 14) := ⟨⟨by decide +kernel, by decide +kernel⟩, List.mem_of_getElem? (i := 586) (by decide +kernel), List.mem_of_getElem? (i := 667) (by decide +kernel), List.mem_of_getElem? (i := 668) (by decide +kernel)⟩
theorem lw_p9 : lw_okq (⟨"SingingWiresModel", "wholeBy", "(I)I"⟩, 14) := ⟨⟨by decide +kernel, by decide +kernel⟩, List.mem_of_getElem? (i := 586) (by decide +kernel), List.mem_of_getElem? (i := 671) (by decide +kernel), List.mem_of_getElem? (i := 672) (by decide +kernel)⟩
theorem lw_p10 : lw_okq (⟨"SingingWiresModel", "layTasks", "(I)V"⟩, 14) := ⟨⟨by decide +kernel, by decide +kernel⟩, List.mem_of_getElem? (i := 586) (by decide +kernel), List.mem_of_getElem? (i := 675) (by decide +kernel), List.mem_of_getElem? (i := 676) (by decide +kernel)⟩
theorem lw_p11 : lw_okq (⟨"SingingWiresModel", "nearest", "(III)I"⟩, 14) := ⟨⟨by decide +kernel, by decide +kernel⟩, List.mem_of_getElem? (i := 586) (by decide +kernel), List.mem_of_getElem? (i := 679) (by decide +kernel), List.mem_of_getElem? (i := 680) (by decide +kernel)⟩
theorem lw_p12 : lw_okq (⟨"SingingWiresModel", "isWhole", "(I)Z"⟩, 14) := ⟨⟨by decide +kernel, by decide +kernel⟩, List.mem_of_getElem? (i := 586) (by decide +kernel), List.mem_of_getElem? (i := 683) (by decide +kernel), List.mem_of_getElem? (i := 684) (by decide +kernel)⟩
theorem lw_p13 : lw_okq (⟨"SingingWiresModel", "breakWire", "(I)V"⟩, 14) := ⟨⟨by decide +kernel, by decide +kernel⟩, List.mem_of_getElem? (i := 586) (by decide +kernel), List.mem_of_getElem? (i := 687) (by decide +kernel), List.mem_of_getElem? (i := 688) (by decide +kernel)⟩
theorem lw_p14 : lw_okq (⟨"SingingWiresModel", "pass", "()I"⟩, 14) := ⟨⟨by decide +kernel, by decide +kernel⟩, List.mem_of_getElem? (i := 586) (by decide +kernel), List.mem_of_getElem? (i := 699) (by decide +kernel), List.mem_of_getElem? (i := 700) (by decide +kernel)⟩
theorem lw_p15 : lw_okq (⟨"SingingWiresModel", "loosened", "(I)I"⟩, 14) := ⟨⟨by decide +kernel, by decide +kernel⟩, List.mem_of_getElem? (i := 586) (by decide +kernel), List.mem_of_getElem? (i := 703) (by decide +kernel), List.mem_of_getElem? (i := 704) (by decide +kernel)⟩
def lw_privs_1 : List (MethodName × Nat) := [(⟨"SingingWires", "fallenWith", "(I)I"⟩, 6), (⟨"SingingWires", "ordersCarriedOut", "()I"⟩, 6), (⟨"SingingWires", "answerTo", "(CII)I"⟩, 6), (⟨"SingingWiresModel", "record", "()V"⟩, 14), (⟨"SingingWiresModel", "wireAt", "(I)I"⟩, 14), (⟨"SingingWiresModel", "of", "(II)I"⟩, 14), (⟨"SingingWiresModel", "book", "(III)V"⟩, 14), (⟨"SingingWiresModel", "settle", "()I"⟩, 14), (⟨"SingingWiresModel", "burst", "()I"⟩, 14), (⟨"SingingWiresModel", "wholeBy", "(I)I"⟩, 14), (⟨"SingingWiresModel", "layTasks", "(I)V"⟩, 14), (⟨"SingingWiresModel", "nearest", "(III)I"⟩, 14), (⟨"SingingWiresModel", "isWhole", "(I)Z"⟩, 14), (⟨"SingingWiresModel", "breakWire", "(I)V"⟩, 14), (⟨"SingingWiresModel", "pass", "()I"⟩, 14), (⟨"SingingWiresModel", "loosened", "(I)I"⟩, 14)]
theorem lw_r1 : ∀ q ∈ lw_privs_1, lw_okq q := List.forall_mem_cons.mpr ⟨lw_p0, List.forall_mem_cons.mpr ⟨lw_p1, List.forall_mem_cons.mpr ⟨lw_p2, List.forall_mem_cons.mpr ⟨lw_p3, List.forall_mem_cons.mpr ⟨lw_p4, List.forall_mem_cons.mpr ⟨lw_p5, List.forall_mem_cons.mpr ⟨lw_p6, List.forall_mem_cons.mpr ⟨lw_p7, List.forall_mem_cons.mpr ⟨lw_p8, List.forall_mem_cons.mpr ⟨lw_p9, List.forall_mem_cons.mpr ⟨lw_p10, List.forall_mem_cons.mpr ⟨lw_p11, List.forall_mem_cons.mpr ⟨lw_p12, List.forall_mem_cons.mpr ⟨lw_p13, List.forall_mem_cons.mpr ⟨lw_p14, List.forall_mem_cons.mpr ⟨lw_p15, fun _ h => absurd h List.not_mem_nil⟩⟩⟩⟩⟩⟩⟩⟩⟩⟩⟩⟩⟩⟩⟩⟩
theorem lw_p16 : lw_okq (⟨"SingingWiresModel", "know", "(III)V"⟩, 14) := ⟨⟨by decide +kernel, by decide +kernel⟩, List.mem_of_getElem? (i := 586) (by decide +kernel), List.mem_of_getElem? (i := 715) (by decide +kernel), List.mem_of_getElem? (i := 716) (by decide +kernel)⟩
theorem lw_p17 : lw_okq (⟨"SingingWiresModel", "pitch", "(II)I"⟩, 14) := ⟨⟨by decide +kernel, by decide +kernel⟩, List.mem_of_getElem? (i := 586) (by decide +kernel), List.mem_of_getElem? (i := 719) (by decide +kernel), List.mem_of_getElem? (i := 720) (by decide +kernel)⟩
theorem lw_p18 : lw_okq (⟨"SingingWiresModel", "weight", "(I)J"⟩, 14) := ⟨⟨by decide +kernel, by decide +kernel⟩, List.mem_of_getElem? (i := 586) (by decide +kernel), List.mem_of_getElem? (i := 724) (by decide +kernel), List.mem_of_getElem? (i := 725) (by decide +kernel)⟩
theorem lw_p19 : lw_okq (⟨"SingingWiresModel", "leastFor", "(II)J"⟩, 14) := ⟨⟨by decide +kernel, by decide +kernel⟩, List.mem_of_getElem? (i := 586) (by decide +kernel), List.mem_of_getElem? (i := 728) (by decide +kernel), List.mem_of_getElem? (i := 729) (by decide +kernel)⟩
theorem lw_p20 : lw_okq (⟨"SingingWiresModel", "isWire", "(I)Z"⟩, 14) := ⟨⟨by decide +kernel, by decide +kernel⟩, List.mem_of_getElem? (i := 586) (by decide +kernel), List.mem_of_getElem? (i := 741) (by decide +kernel), List.mem_of_getElem? (i := 742) (by decide +kernel)⟩
theorem lw_p21 : lw_okq (⟨"SingingWiresModel", "isSlack", "(I)Z"⟩, 14) := ⟨⟨by decide +kernel, by decide +kernel⟩, List.mem_of_getElem? (i := 586) (by decide +kernel), List.mem_of_getElem? (i := 745) (by decide +kernel), List.mem_of_getElem? (i := 746) (by decide +kernel)⟩
theorem lw_p22 : lw_okq (⟨"SingingWiresModel", "isTight", "(I)Z"⟩, 14) := ⟨⟨by decide +kernel, by decide +kernel⟩, List.mem_of_getElem? (i := 586) (by decide +kernel), List.mem_of_getElem? (i := 749) (by decide +kernel), List.mem_of_getElem? (i := 750) (by decide +kernel)⟩
theorem lw_p23 : lw_okq (⟨"SingingWiresModel", "isSurely", "(I)Z"⟩, 14) := ⟨⟨by decide +kernel, by decide +kernel⟩, List.mem_of_getElem? (i := 586) (by decide +kernel), List.mem_of_getElem? (i := 757) (by decide +kernel), List.mem_of_getElem? (i := 758) (by decide +kernel)⟩
theorem lw_p24 : lw_okq (⟨"SingingWiresModel", "mayBe", "(I)Z"⟩, 14) := ⟨⟨by decide +kernel, by decide +kernel⟩, List.mem_of_getElem? (i := 586) (by decide +kernel), List.mem_of_getElem? (i := 761) (by decide +kernel), List.mem_of_getElem? (i := 762) (by decide +kernel)⟩
theorem lw_p25 : lw_okq (⟨"SingingWiresModel", "wiresWith", "(I)I"⟩, 14) := ⟨⟨by decide +kernel, by decide +kernel⟩, List.mem_of_getElem? (i := 586) (by decide +kernel), List.mem_of_getElem? (i := 769) (by decide +kernel), List.mem_of_getElem? (i := 770) (by decide +kernel)⟩
theorem lw_p26 : lw_okq (⟨"SingingWiresModel", "loads", "()I"⟩, 14) := ⟨⟨by decide +kernel, by decide +kernel⟩, List.mem_of_getElem? (i := 586) (by decide +kernel), List.mem_of_getElem? (i := 773) (by decide +kernel), List.mem_of_getElem? (i := 774) (by decide +kernel)⟩
theorem lw_p27 : lw_okq (⟨"SingingWiresModel", "fallen", "(I)I"⟩, 14) := ⟨⟨by decide +kernel, by decide +kernel⟩, List.mem_of_getElem? (i := 586) (by decide +kernel), List.mem_of_getElem? (i := 790) (by decide +kernel), List.mem_of_getElem? (i := 791) (by decide +kernel)⟩
theorem lw_p28 : lw_okq (⟨"SingingWiresModel", "keep", "()V"⟩, 14) := ⟨⟨by decide +kernel, by decide +kernel⟩, List.mem_of_getElem? (i := 586) (by decide +kernel), List.mem_of_getElem? (i := 794) (by decide +kernel), List.mem_of_getElem? (i := 795) (by decide +kernel)⟩
theorem lw_p29 : lw_okq (⟨"SingingWiresModel", "comeBack", "()V"⟩, 14) := ⟨⟨by decide +kernel, by decide +kernel⟩, List.mem_of_getElem? (i := 586) (by decide +kernel), List.mem_of_getElem? (i := 798) (by decide +kernel), List.mem_of_getElem? (i := 799) (by decide +kernel)⟩
theorem lw_p30 : lw_okq (⟨"SingingWiresModel", "faultOf", "()I"⟩, 14) := ⟨⟨by decide +kernel, by decide +kernel⟩, List.mem_of_getElem? (i := 586) (by decide +kernel), List.mem_of_getElem? (i := 834) (by decide +kernel), List.mem_of_getElem? (i := 835) (by decide +kernel)⟩
theorem lw_p31 : lw_okq (⟨"SingingWiresModel", "readOne", "()V"⟩, 14) := ⟨⟨by decide +kernel, by decide +kernel⟩, List.mem_of_getElem? (i := 586) (by decide +kernel), List.mem_of_getElem? (i := 838) (by decide +kernel), List.mem_of_getElem? (i := 839) (by decide +kernel)⟩
def lw_privs_2 : List (MethodName × Nat) := [(⟨"SingingWiresModel", "know", "(III)V"⟩, 14), (⟨"SingingWiresModel", "pitch", "(II)I"⟩, 14), (⟨"SingingWiresModel", "weight", "(I)J"⟩, 14), (⟨"SingingWiresModel", "leastFor", "(II)J"⟩, 14), (⟨"SingingWiresModel", "isWire", "(I)Z"⟩, 14), (⟨"SingingWiresModel", "isSlack", "(I)Z"⟩, 14), (⟨"SingingWiresModel", "isTight", "(I)Z"⟩, 14), (⟨"SingingWiresModel", "isSurely", "(I)Z"⟩, 14), (⟨"SingingWiresModel", "mayBe", "(I)Z"⟩, 14), (⟨"SingingWiresModel", "wiresWith", "(I)I"⟩, 14), (⟨"SingingWiresModel", "loads", "()I"⟩, 14), (⟨"SingingWiresModel", "fallen", "(I)I"⟩, 14), (⟨"SingingWiresModel", "keep", "()V"⟩, 14), (⟨"SingingWiresModel", "comeBack", "()V"⟩, 14), (⟨"SingingWiresModel", "faultOf", "()I"⟩, 14), (⟨"SingingWiresModel", "readOne", "()V"⟩, 14)]
theorem lw_r2 : ∀ q ∈ lw_privs_2, lw_okq q := List.forall_mem_cons.mpr ⟨lw_p16, List.forall_mem_cons.mpr ⟨lw_p17, List.forall_mem_cons.mpr ⟨lw_p18, List.forall_mem_cons.mpr ⟨lw_p19, List.forall_mem_cons.mpr ⟨lw_p20, List.forall_mem_cons.mpr ⟨lw_p21, List.forall_mem_cons.mpr ⟨lw_p22, List.forall_mem_cons.mpr ⟨lw_p23, List.forall_mem_cons.mpr ⟨lw_p24, List.forall_mem_cons.mpr ⟨lw_p25, List.forall_mem_cons.mpr ⟨lw_p26, List.forall_mem_cons.mpr ⟨lw_p27, List.forall_mem_cons.mpr ⟨lw_p28, List.forall_mem_cons.mpr ⟨lw_p29, List.forall_mem_cons.mpr ⟨lw_p30, List.forall_mem_cons.mpr ⟨lw_p31, fun _ h => absurd h List.not_mem_nil⟩⟩⟩⟩⟩⟩⟩⟩⟩⟩⟩⟩⟩⟩⟩⟩
theorem lw_p32 : lw_okq (⟨"SingingWiresModel", "sign", "()I"⟩, 14) := ⟨⟨by decide +kernel, by decide +kernel⟩, List.mem_of_getElem? (i := 586) (by decide +kernel), List.mem_of_getElem? (i := 842) (by decide +kernel), List.mem_of_getElem? (i := 843) (by decide +kernel)⟩
theorem lw_p33 : lw_okq (⟨"SingingWiresModel", "number", "()I"⟩, 14) := ⟨⟨by decide +kernel, by decide +kernel⟩, List.mem_of_getElem? (i := 586) (by decide +kernel), List.mem_of_getElem? (i := 846) (by decide +kernel), List.mem_of_getElem? (i := 847) (by decide +kernel)⟩
theorem lw_p34 : lw_okq (⟨"SingingWiresModel", "carry", "(I)I"⟩, 14) := ⟨⟨by decide +kernel, by decide +kernel⟩, List.mem_of_getElem? (i := 586) (by decide +kernel), List.mem_of_getElem? (i := 855) (by decide +kernel), List.mem_of_getElem? (i := 856) (by decide +kernel)⟩
def lw_privs_3 : List (MethodName × Nat) := [(⟨"SingingWiresModel", "sign", "()I"⟩, 14), (⟨"SingingWiresModel", "number", "()I"⟩, 14), (⟨"SingingWiresModel", "carry", "(I)I"⟩, 14)]
theorem lw_r3 : ∀ q ∈ lw_privs_3, lw_okq q := List.forall_mem_cons.mpr ⟨lw_p32, List.forall_mem_cons.mpr ⟨lw_p33, List.forall_mem_cons.mpr ⟨lw_p34, fun _ h => absurd h List.not_mem_nil⟩⟩⟩
def lw_privs : List (MethodName × Nat) := lw_privs_1 ++ (lw_privs_2 ++ (lw_privs_3))
def lw_tbl : List Cond := k2_sels lw_privs ++ tables_1
theorem lw_privs_ok : ∀ q ∈ lw_privs, lw_okq q := by
  show ∀ q ∈ lw_privs_1 ++ (lw_privs_2 ++ (lw_privs_3)), lw_okq q
  exact List.forall_mem_append.mpr ⟨lw_r1, List.forall_mem_append.mpr ⟨lw_r2, lw_r3⟩⟩
end
section
def RX0 : String := "SingingWires$Bridge"
def TX0 : u_T := fun k => match k with
  | 0 => ("SingingWires$Bridge", "loads", "[I", true)
  | 1 => ("SingingWires$Bridge", "wireAt", "[I", true)
  | 2 => ("SingingWires$Bridge", "wires", "[LSingingWires$Wire;", true)
  | 3 => ("SingingWires$Bridge", "wireCount", "I", false)
  | 4 => ("SingingWires$Bridge", "creep", "I", false)
  | 5 => ("SingingWires$Bridge", "spare", "I", false)
  | 6 => ("SingingWires$Bridge", "day", "I", false)
  | 7 => ("SingingWires$Bridge", "place", "I", false)
  | _ => ("SingingWires$Bridge", "walked", "I", false)
def tyX0 : Nat → FieldType := fun k => match k with
  | 0 => .array .int
  | 1 => .array .int
  | 2 => .array (.object "SingingWires$Wire")
  | 3 => .int
  | 4 => .int
  | 5 => .int
  | 6 => .int
  | 7 => .int
  | _ => .int
abbrev wsX00 : List Cond := u_ws RX0 TX0 9
theorem nmX0 : ∀ a, a < 9 → ∀ b, b < 9 → a ≠ b → (TX0 a).2.1 ≠ (TX0 b).2.1 := by decide +kernel
theorem tyX0_ok : ∀ k, k < 9 → parseFieldDescriptor (TX0 k).2.2.1 = some (tyX0 k) := by decide +kernel
abbrev cX0_init : ByteArray := prog_2_method_1_code
def yX0_init : MethodName := ⟨RX0, "<init>", "()V"⟩
abbrev cX0_takeFrom : ByteArray := prog_2_method_2_code
def yX0_takeFrom : MethodName := ⟨RX0, "takeFrom", "(LSingingWires$Bridge;)V"⟩
abbrev cX0_takeAsHeard : ByteArray := prog_2_method_3_code
def yX0_takeAsHeard : MethodName := ⟨RX0, "takeAsHeard", "(LSingingWires$Bridge;)V"⟩
abbrev cX0_wireNumbered : ByteArray := prog_2_method_4_code
def yX0_wireNumbered : MethodName := ⟨RX0, "wireNumbered", "(I)LSingingWires$Wire;"⟩
abbrev cX0_changeSetting : ByteArray := prog_2_method_5_code
def yX0_changeSetting : MethodName := ⟨RX0, "changeSetting", "(II)I"⟩
abbrev cX0_hang : ByteArray := prog_2_method_6_code
def yX0_hang : MethodName := ⟨RX0, "hang", "(IIIII)I"⟩
abbrev cX0_changeLoad : ByteArray := prog_2_method_7_code
def yX0_changeLoad : MethodName := ⟨RX0, "changeLoad", "(II)I"⟩
abbrev cX0_letPass : ByteArray := prog_2_method_8_code
def yX0_letPass : MethodName := ⟨RX0, "letPass", "(I)I"⟩
abbrev cX0_goTo : ByteArray := prog_2_method_9_code
def yX0_goTo : MethodName := ⟨RX0, "goTo", "(I)I"⟩
abbrev cX0_wireHere : ByteArray := prog_2_method_10_code
def yX0_wireHere : MethodName := ⟨RX0, "wireHere", "()LSingingWires$Wire;"⟩
abbrev cX0_listen : ByteArray := prog_2_method_11_code
def yX0_listen : MethodName := ⟨RX0, "listen", "()I"⟩
abbrev cX0_changeTension : ByteArray := prog_2_method_12_code
def yX0_changeTension : MethodName := ⟨RX0, "changeTension", "(I)I"⟩
abbrev cX0_settle : ByteArray := prog_2_method_13_code
def yX0_settle : MethodName := ⟨RX0, "settle", "()I"⟩
abbrev cX0_worstBursting : ByteArray := prog_2_method_14_code
def yX0_worstBursting : MethodName := ⟨RX0, "worstBursting", "()I"⟩
abbrev cX0_standsWith : ByteArray := prog_2_method_15_code
def yX0_standsWith : MethodName := ⟨RX0, "standsWith", "(II)Z"⟩
abbrev cX0_reckon : ByteArray := prog_2_method_16_code
def yX0_reckon : MethodName := ⟨RX0, "reckon", "()V"⟩
abbrev cX0_nextWhole : ByteArray := prog_2_method_17_code
def yX0_nextWhole : MethodName := ⟨RX0, "nextWhole", "(I)LSingingWires$Wire;"⟩
abbrev cX0_share : ByteArray := prog_2_method_18_code
def yX0_share : MethodName := ⟨RX0, "share", "(ILSingingWires$Wire;LSingingWires$Wire;)V"⟩
abbrev cX0_walkToDoubtful : ByteArray := prog_2_method_19_code
def yX0_walkToDoubtful : MethodName := ⟨RX0, "walkToDoubtful", "()I"⟩
abbrev cX0_allLoads : ByteArray := prog_2_method_20_code
def yX0_allLoads : MethodName := ⟨RX0, "allLoads", "()I"⟩
abbrev cX0_wholeWires : ByteArray := prog_2_method_21_code
def yX0_wholeWires : MethodName := ⟨RX0, "wholeWires", "()I"⟩
abbrev cX0_slackWires : ByteArray := prog_2_method_22_code
def yX0_slackWires : MethodName := ⟨RX0, "slackWires", "()I"⟩
abbrev cX0_tooTightWires : ByteArray := prog_2_method_23_code
def yX0_tooTightWires : MethodName := ⟨RX0, "tooTightWires", "()I"⟩
def RX1 : String := "SingingWires$History"
def TX1 : u_T := fun k => match k with
  | 0 => ("SingingWires$History", "states", "[LSingingWires$Bridge;", true)
  | _ => ("SingingWires$History", "kept", "I", false)
def tyX1 : Nat → FieldType := fun k => match k with
  | 0 => .array (.object "SingingWires$Bridge")
  | _ => .int
abbrev wsX10 : List Cond := u_ws RX1 TX1 2
theorem nmX1 : ∀ a, a < 2 → ∀ b, b < 2 → a ≠ b → (TX1 a).2.1 ≠ (TX1 b).2.1 := by decide +kernel
theorem tyX1_ok : ∀ k, k < 2 → parseFieldDescriptor (TX1 k).2.2.1 = some (tyX1 k) := by decide +kernel
abbrev cX1_init : ByteArray := prog_3_method_1_code
def yX1_init : MethodName := ⟨RX1, "<init>", "()V"⟩
abbrev cX1_note : ByteArray := prog_3_method_2_code
def yX1_note : MethodName := ⟨RX1, "note", "(LSingingWires$Bridge;)V"⟩
abbrev cX1_keepUnlessError : ByteArray := prog_3_method_3_code
def yX1_keepUnlessError : MethodName := ⟨RX1, "keepUnlessError", "(I)I"⟩
abbrev cX1_dropOldest : ByteArray := prog_3_method_4_code
def yX1_dropOldest : MethodName := ⟨RX1, "dropOldest", "()V"⟩
abbrev cX1_giveBack : ByteArray := prog_3_method_5_code
def yX1_giveBack : MethodName := ⟨RX1, "giveBack", "(LSingingWires$Bridge;)I"⟩
def RX2 : String := "SingingWires$Pad"
def TX2 : u_T := fun k => match k with
  | 0 => ("SingingWires$Pad", "signs", "[C", true)
  | 1 => ("SingingWires$Pad", "length", "I", false)
  | 2 => ("SingingWires$Pad", "at", "I", false)
  | 3 => ("SingingWires$Pad", "letter", "C", false)
  | 4 => ("SingingWires$Pad", "first", "I", false)
  | 5 => ("SingingWires$Pad", "second", "I", false)
  | 6 => ("SingingWires$Pad", "due", "I", false)
  | 7 => ("SingingWires$Pad", "equalsDue", "Z", false)
  | _ => ("SingingWires$Pad", "number", "I", false)
def tyX2 : Nat → FieldType := fun k => match k with
  | 0 => .array .char
  | 1 => .int
  | 2 => .int
  | 3 => .char
  | 4 => .int
  | 5 => .int
  | 6 => .int
  | 7 => .boolean
  | _ => .int
abbrev wsX20 : List Cond := u_ws RX2 TX2 9
theorem nmX2 : ∀ a, a < 9 → ∀ b, b < 9 → a ≠ b → (TX2 a).2.1 ≠ (TX2 b).2.1 := by decide +kernel
theorem tyX2_ok : ∀ k, k < 9 → parseFieldDescriptor (TX2 k).2.2.1 = some (tyX2 k) := by decide +kernel
abbrev cX2_init : ByteArray := prog_4_method_1_code
def yX2_init : MethodName := ⟨RX2, "<init>", "()V"⟩
abbrev cX2_append : ByteArray := prog_4_method_2_code
def yX2_append : MethodName := ⟨RX2, "append", "(J)I"⟩
abbrev cX2_charactersIn : ByteArray := prog_4_method_3_code
def yX2_charactersIn : MethodName := ⟨RX2, "charactersIn", "(J)I"⟩
abbrev cX2_codeAt : ByteArray := prog_4_method_4_code
def yX2_codeAt : MethodName := ⟨RX2, "codeAt", "(JI)I"⟩
abbrev cX2_empty : ByteArray := prog_4_method_5_code
def yX2_empty : MethodName := ⟨RX2, "empty", "()I"⟩
abbrev cX2_firstFault : ByteArray := prog_4_method_6_code
def yX2_firstFault : MethodName := ⟨RX2, "firstFault", "()I"⟩
abbrev cX2_canStand : ByteArray := prog_4_method_7_code
def yX2_canStand : MethodName := ⟨RX2, "canStand", "(C)Z"⟩
abbrev cX2_startsOrder : ByteArray := prog_4_method_8_code
def yX2_startsOrder : MethodName := ⟨RX2, "startsOrder", "(C)Z"⟩
abbrev cX2_startsNumber : ByteArray := prog_4_method_9_code
def yX2_startsNumber : MethodName := ⟨RX2, "startsNumber", "(C)Z"⟩
abbrev cX2_growsNumber : ByteArray := prog_4_method_10_code
def yX2_growsNumber : MethodName := ⟨RX2, "growsNumber", "(C)Z"⟩
abbrev cX2_endsNumber : ByteArray := prog_4_method_11_code
def yX2_endsNumber : MethodName := ⟨RX2, "endsNumber", "(C)Z"⟩
abbrev cX2_endsOrder : ByteArray := prog_4_method_12_code
def yX2_endsOrder : MethodName := ⟨RX2, "endsOrder", "(C)Z"⟩
abbrev cX2_isDigit : ByteArray := prog_4_method_13_code
def yX2_isDigit : MethodName := ⟨RX2, "isDigit", "(C)Z"⟩
abbrev cX2_startReading : ByteArray := prog_4_method_14_code
def yX2_startReading : MethodName := ⟨RX2, "startReading", "()V"⟩
abbrev cX2_readOrder : ByteArray := prog_4_method_15_code
def yX2_readOrder : MethodName := ⟨RX2, "readOrder", "()Z"⟩
abbrev cX2_readNumber : ByteArray := prog_4_method_16_code
def yX2_readNumber : MethodName := ⟨RX2, "readNumber", "()I"⟩
def RX3 : String := "SingingWires$Wire"
def TX3 : u_T := fun k => match k with
  | 0 => ("SingingWires$Wire", "place", "I", false)
  | 1 => ("SingingWires$Wire", "length", "I", false)
  | 2 => ("SingingWires$Wire", "mass", "I", false)
  | 3 => ("SingingWires$Wire", "strength", "I", false)
  | 4 => ("SingingWires$Wire", "tension", "I", false)
  | 5 => ("SingingWires$Wire", "task", "I", false)
  | 6 => ("SingingWires$Wire", "broken", "Z", false)
  | 7 => ("SingingWires$Wire", "brokeOn", "I", false)
  | 8 => ("SingingWires$Wire", "heardOn", "I", false)
  | 9 => ("SingingWires$Wire", "low", "I", false)
  | 10 => ("SingingWires$Wire", "high", "I", false)
  | _ => ("SingingWires$Wire", "heardBroken", "Z", false)
def tyX3 : Nat → FieldType := fun k => match k with
  | 0 => .int
  | 1 => .int
  | 2 => .int
  | 3 => .int
  | 4 => .int
  | 5 => .int
  | 6 => .boolean
  | 7 => .int
  | 8 => .int
  | 9 => .int
  | 10 => .int
  | _ => .boolean
abbrev wsX30 : List Cond := u_ws RX3 TX3 12
theorem nmX3 : ∀ a, a < 12 → ∀ b, b < 12 → a ≠ b → (TX3 a).2.1 ≠ (TX3 b).2.1 := by decide +kernel
theorem tyX3_ok : ∀ k, k < 12 → parseFieldDescriptor (TX3 k).2.2.1 = some (tyX3 k) := by decide +kernel
abbrev cX3_init : ByteArray := prog_5_method_1_code
def yX3_init : MethodName := ⟨RX3, "<init>", "()V"⟩
abbrev cX3_makeNew : ByteArray := prog_5_method_2_code
def yX3_makeNew : MethodName := ⟨RX3, "makeNew", "(IIIII)V"⟩
abbrev cX3_takeFrom : ByteArray := prog_5_method_3_code
def yX3_takeFrom : MethodName := ⟨RX3, "takeFrom", "(LSingingWires$Wire;)V"⟩
abbrev cX3_weight : ByteArray := prog_5_method_4_code
def yX3_weight : MethodName := ⟨RX3, "weight", "()J"⟩
abbrev cX3_pitchWith : ByteArray := prog_5_method_5_code
def yX3_pitchWith : MethodName := ⟨RX3, "pitchWith", "(I)I"⟩
abbrev cX3_leastTension : ByteArray := prog_5_method_6_code
def yX3_leastTension : MethodName := ⟨RX3, "leastTension", "(J)J"⟩
abbrev cX3_snap : ByteArray := prog_5_method_7_code
def yX3_snap : MethodName := ⟨RX3, "snap", "(I)V"⟩
abbrev cX3_pull : ByteArray := prog_5_method_8_code
def yX3_pull : MethodName := ⟨RX3, "pull", "(II)V"⟩
abbrev cX3_sing : ByteArray := prog_5_method_9_code
def yX3_sing : MethodName := ⟨RX3, "sing", "(I)I"⟩
abbrev cX3_loosen : ByteArray := prog_5_method_10_code
def yX3_loosen : MethodName := ⟨RX3, "loosen", "(I)V"⟩
abbrev cX3_isSlack : ByteArray := prog_5_method_11_code
def yX3_isSlack : MethodName := ⟨RX3, "isSlack", "()Z"⟩
abbrev cX3_isTooTight : ByteArray := prog_5_method_12_code
def yX3_isTooTight : MethodName := ⟨RX3, "isTooTight", "(I)Z"⟩
abbrev cX3_isKnown : ByteArray := prog_5_method_13_code
def yX3_isKnown : MethodName := ⟨RX3, "isKnown", "()Z"⟩
abbrev cX3_isSurelySlack : ByteArray := prog_5_method_14_code
def yX3_isSurelySlack : MethodName := ⟨RX3, "isSurelySlack", "()Z"⟩
abbrev cX3_maybeSlack : ByteArray := prog_5_method_15_code
def yX3_maybeSlack : MethodName := ⟨RX3, "maybeSlack", "()Z"⟩
def RX4 : String := "SingingWires"
def TX4 : u_T := fun k => match k with
  | 0 => ("SingingWires", "bridge", "LSingingWires$Bridge;", true)
  | 1 => ("SingingWires", "trial", "LSingingWires$Bridge;", true)
  | 2 => ("SingingWires", "history", "LSingingWires$History;", true)
  | 3 => ("SingingWires", "slots", "[LSingingWires$Bridge;", true)
  | 4 => ("SingingWires", "saved", "[Z", true)
  | _ => ("SingingWires", "pad", "LSingingWires$Pad;", true)
def tyX4 : Nat → FieldType := fun k => match k with
  | 0 => .object "SingingWires$Bridge"
  | 1 => .object "SingingWires$Bridge"
  | 2 => .object "SingingWires$History"
  | 3 => .array (.object "SingingWires$Bridge")
  | 4 => .array .boolean
  | _ => .object "SingingWires$Pad"
abbrev wsX40 : List Cond := u_ws RX4 TX4 6
theorem nmX4 : ∀ a, a < 6 → ∀ b, b < 6 → a ≠ b → (TX4 a).2.1 ≠ (TX4 b).2.1 := by decide +kernel
theorem tyX4_ok : ∀ k, k < 6 → parseFieldDescriptor (TX4 k).2.2.1 = some (tyX4 k) := by decide +kernel
abbrev cX4_init : ByteArray := prog_1_method_1_code
def yX4_init : MethodName := ⟨RX4, "<init>", "()V"⟩
abbrev cX4_set : ByteArray := prog_1_method_2_code
def yX4_set : MethodName := ⟨RX4, "set", "(II)I"⟩
abbrev cX4_wire : ByteArray := prog_1_method_3_code
def yX4_wire : MethodName := ⟨RX4, "wire", "(IIIII)I"⟩
abbrev cX4_load : ByteArray := prog_1_method_4_code
def yX4_load : MethodName := ⟨RX4, "load", "(II)I"⟩
abbrev cX4_days : ByteArray := prog_1_method_5_code
def yX4_days : MethodName := ⟨RX4, "days", "(I)I"⟩
abbrev cX4_walk : ByteArray := prog_1_method_6_code
def yX4_walk : MethodName := ⟨RX4, "walk", "(I)I"⟩
abbrev cX4_hear : ByteArray := prog_1_method_7_code
def yX4_hear : MethodName := ⟨RX4, "hear", "()I"⟩
abbrev cX4_tighten : ByteArray := prog_1_method_8_code
def yX4_tighten : MethodName := ⟨RX4, "tighten", "(I)I"⟩
abbrev cX4_ofWire : ByteArray := prog_1_method_9_code
def yX4_ofWire : MethodName := ⟨RX4, "ofWire", "(II)I"⟩
abbrev cX4_known : ByteArray := prog_1_method_10_code
def yX4_known : MethodName := ⟨RX4, "known", "(II)I"⟩
abbrev cX4_count : ByteArray := prog_1_method_11_code
def yX4_count : MethodName := ⟨RX4, "count", "(I)I"⟩
abbrev cX4_pitchAt : ByteArray := prog_1_method_12_code
def yX4_pitchAt : MethodName := ⟨RX4, "pitchAt", "(II)I"⟩
abbrev cX4_tensionFor : ByteArray := prog_1_method_13_code
def yX4_tensionFor : MethodName := ⟨RX4, "tensionFor", "(II)I"⟩
abbrev cX4_fallsWith : ByteArray := prog_1_method_14_code
def yX4_fallsWith : MethodName := ⟨RX4, "fallsWith", "(I)I"⟩
abbrev cX4_mostAt : ByteArray := prog_1_method_15_code
def yX4_mostAt : MethodName := ⟨RX4, "mostAt", "(I)I"⟩
abbrev cX4_slackIn : ByteArray := prog_1_method_16_code
def yX4_slackIn : MethodName := ⟨RX4, "slackIn", "(I)I"⟩
abbrev cX4_round : ByteArray := prog_1_method_17_code
def yX4_round : MethodName := ⟨RX4, "round", "()I"⟩
abbrev cX4_weakest : ByteArray := prog_1_method_18_code
def yX4_weakest : MethodName := ⟨RX4, "weakest", "(I)I"⟩
abbrev cX4_put : ByteArray := prog_1_method_19_code
def yX4_put : MethodName := ⟨RX4, "put", "(J)I"⟩
abbrev cX4_wipe : ByteArray := prog_1_method_20_code
def yX4_wipe : MethodName := ⟨RX4, "wipe", "()I"⟩
abbrev cX4_fault : ByteArray := prog_1_method_21_code
def yX4_fault : MethodName := ⟨RX4, "fault", "()I"⟩
abbrev cX4_carryOut : ByteArray := prog_1_method_22_code
def yX4_carryOut : MethodName := ⟨RX4, "carryOut", "()I"⟩
abbrev cX4_undo : ByteArray := prog_1_method_23_code
def yX4_undo : MethodName := ⟨RX4, "undo", "()I"⟩
abbrev cX4_save : ByteArray := prog_1_method_24_code
def yX4_save : MethodName := ⟨RX4, "save", "(I)I"⟩
abbrev cX4_restore : ByteArray := prog_1_method_25_code
def yX4_restore : MethodName := ⟨RX4, "restore", "(I)I"⟩
abbrev cX4_fallenWith : ByteArray := prog_1_method_26_code
def yX4_fallenWith : MethodName := ⟨RX4, "fallenWith", "(I)I"⟩
abbrev cX4_ordersCarriedOut : ByteArray := prog_1_method_27_code
def yX4_ordersCarriedOut : MethodName := ⟨RX4, "ordersCarriedOut", "()I"⟩
abbrev cX4_answerTo : ByteArray := prog_1_method_28_code
def yX4_answerTo : MethodName := ⟨RX4, "answerTo", "(CII)I"⟩
abbrev cX4_isError : ByteArray := prog_1_method_29_code
def yX4_isError : MethodName := ⟨RX4, "isError", "(I)Z"⟩
abbrev cX4_within : ByteArray := prog_1_method_30_code
def yX4_within : MethodName := ⟨RX4, "within", "(III)Z"⟩
abbrev cX4_oneIf : ByteArray := prog_1_method_31_code
def yX4_oneIf : MethodName := ⟨RX4, "oneIf", "(Z)I"⟩
abbrev cX4_crept : ByteArray := prog_1_method_32_code
def yX4_crept : MethodName := ⟨RX4, "crept", "(II)I"⟩
def RX5 : String := "SingingWiresModel"
def TX5 : u_T := fun k => match k with
  | 0 => ("SingingWiresModel", "now", "[I", true)
  | 1 => ("SingingWiresModel", "kept", "[I", true)
  | 2 => ("SingingWiresModel", "history", "[I", true)
  | 3 => ("SingingWiresModel", "undos", "I", false)
  | 4 => ("SingingWiresModel", "saved", "[I", true)
  | 5 => ("SingingWiresModel", "isSaved", "[Z", true)
  | 6 => ("SingingWiresModel", "pad", "[I", true)
  | 7 => ("SingingWiresModel", "signs", "I", false)
  | 8 => ("SingingWiresModel", "isInText", "Z", false)
  | 9 => ("SingingWiresModel", "task", "[I", true)
  | 10 => ("SingingWiresModel", "orders", "[I", true)
  | 11 => ("SingingWiresModel", "read", "I", false)
  | 12 => ("SingingWiresModel", "at", "I", false)
  | _ => ("SingingWiresModel", "isWrong", "Z", false)
def tyX5 : Nat → FieldType := fun k => match k with
  | 0 => .array .int
  | 1 => .array .int
  | 2 => .array .int
  | 3 => .int
  | 4 => .array .int
  | 5 => .array .boolean
  | 6 => .array .int
  | 7 => .int
  | 8 => .boolean
  | 9 => .array .int
  | 10 => .array .int
  | 11 => .int
  | 12 => .int
  | _ => .boolean
abbrev wsX50 : List Cond := u_ws RX5 TX5 14
theorem nmX5 : ∀ a, a < 14 → ∀ b, b < 14 → a ≠ b → (TX5 a).2.1 ≠ (TX5 b).2.1 := by decide +kernel
theorem tyX5_ok : ∀ k, k < 14 → parseFieldDescriptor (TX5 k).2.2.1 = some (tyX5 k) := by decide +kernel
abbrev cX5_init : ByteArray := prog_7_method_1_code
def yX5_init : MethodName := ⟨RX5, "<init>", "()V"⟩
abbrev cX5_in : ByteArray := prog_7_method_2_code
def yX5_in : MethodName := ⟨RX5, "in", "(III)Z"⟩
abbrev cX5_record : ByteArray := prog_7_method_3_code
def yX5_record : MethodName := ⟨RX5, "record", "()V"⟩
abbrev cX5_keep : ByteArray := prog_7_method_4_code
def yX5_keep : MethodName := ⟨RX5, "keep", "()V"⟩
abbrev cX5_comeBack : ByteArray := prog_7_method_5_code
def yX5_comeBack : MethodName := ⟨RX5, "comeBack", "()V"⟩
abbrev cX5_of : ByteArray := prog_7_method_6_code
def yX5_of : MethodName := ⟨RX5, "of", "(II)I"⟩
abbrev cX5_book : ByteArray := prog_7_method_7_code
def yX5_book : MethodName := ⟨RX5, "book", "(III)V"⟩
abbrev cX5_isWire : ByteArray := prog_7_method_8_code
def yX5_isWire : MethodName := ⟨RX5, "isWire", "(I)Z"⟩
abbrev cX5_isWhole : ByteArray := prog_7_method_9_code
def yX5_isWhole : MethodName := ⟨RX5, "isWhole", "(I)Z"⟩
abbrev cX5_wholeBy : ByteArray := prog_7_method_10_code
def yX5_wholeBy : MethodName := ⟨RX5, "wholeBy", "(I)I"⟩
abbrev cX5_weight : ByteArray := prog_7_method_11_code
def yX5_weight : MethodName := ⟨RX5, "weight", "(I)J"⟩
abbrev cX5_pitch : ByteArray := prog_7_method_12_code
def yX5_pitch : MethodName := ⟨RX5, "pitch", "(II)I"⟩
abbrev cX5_leastFor : ByteArray := prog_7_method_13_code
def yX5_leastFor : MethodName := ⟨RX5, "leastFor", "(II)J"⟩
abbrev cX5_nearest : ByteArray := prog_7_method_14_code
def yX5_nearest : MethodName := ⟨RX5, "nearest", "(III)I"⟩
abbrev cX5_layTasks : ByteArray := prog_7_method_15_code
def yX5_layTasks : MethodName := ⟨RX5, "layTasks", "(I)V"⟩
abbrev cX5_burst : ByteArray := prog_7_method_16_code
def yX5_burst : MethodName := ⟨RX5, "burst", "()I"⟩
abbrev cX5_breakWire : ByteArray := prog_7_method_17_code
def yX5_breakWire : MethodName := ⟨RX5, "breakWire", "(I)V"⟩
abbrev cX5_settle : ByteArray := prog_7_method_18_code
def yX5_settle : MethodName := ⟨RX5, "settle", "()I"⟩
abbrev cX5_set : ByteArray := prog_7_method_19_code
def yX5_set : MethodName := ⟨RX5, "set", "(II)I"⟩
abbrev cX5_wireAt : ByteArray := prog_7_method_20_code
def yX5_wireAt : MethodName := ⟨RX5, "wireAt", "(I)I"⟩
abbrev cX5_wire : ByteArray := prog_7_method_21_code
def yX5_wire : MethodName := ⟨RX5, "wire", "(IIIII)I"⟩
abbrev cX5_load : ByteArray := prog_7_method_22_code
def yX5_load : MethodName := ⟨RX5, "load", "(II)I"⟩
abbrev cX5_loosened : ByteArray := prog_7_method_23_code
def yX5_loosened : MethodName := ⟨RX5, "loosened", "(I)I"⟩
abbrev cX5_pass : ByteArray := prog_7_method_24_code
def yX5_pass : MethodName := ⟨RX5, "pass", "()I"⟩
abbrev cX5_days : ByteArray := prog_7_method_25_code
def yX5_days : MethodName := ⟨RX5, "days", "(I)I"⟩
abbrev cX5_walk : ByteArray := prog_7_method_26_code
def yX5_walk : MethodName := ⟨RX5, "walk", "(I)I"⟩
abbrev cX5_know : ByteArray := prog_7_method_27_code
def yX5_know : MethodName := ⟨RX5, "know", "(III)V"⟩
abbrev cX5_hear : ByteArray := prog_7_method_28_code
def yX5_hear : MethodName := ⟨RX5, "hear", "()I"⟩
abbrev cX5_tighten : ByteArray := prog_7_method_29_code
def yX5_tighten : MethodName := ⟨RX5, "tighten", "(I)I"⟩
abbrev cX5_isSlack : ByteArray := prog_7_method_30_code
def yX5_isSlack : MethodName := ⟨RX5, "isSlack", "(I)Z"⟩
abbrev cX5_isTight : ByteArray := prog_7_method_31_code
def yX5_isTight : MethodName := ⟨RX5, "isTight", "(I)Z"⟩
abbrev cX5_ofWire : ByteArray := prog_7_method_32_code
def yX5_ofWire : MethodName := ⟨RX5, "ofWire", "(II)I"⟩
abbrev cX5_isSurely : ByteArray := prog_7_method_33_code
def yX5_isSurely : MethodName := ⟨RX5, "isSurely", "(I)Z"⟩
abbrev cX5_mayBe : ByteArray := prog_7_method_34_code
def yX5_mayBe : MethodName := ⟨RX5, "mayBe", "(I)Z"⟩
abbrev cX5_known : ByteArray := prog_7_method_35_code
def yX5_known : MethodName := ⟨RX5, "known", "(II)I"⟩
abbrev cX5_loads : ByteArray := prog_7_method_36_code
def yX5_loads : MethodName := ⟨RX5, "loads", "()I"⟩
abbrev cX5_wiresWith : ByteArray := prog_7_method_37_code
def yX5_wiresWith : MethodName := ⟨RX5, "wiresWith", "(I)I"⟩
abbrev cX5_count : ByteArray := prog_7_method_38_code
def yX5_count : MethodName := ⟨RX5, "count", "(I)I"⟩
abbrev cX5_pitchAt : ByteArray := prog_7_method_39_code
def yX5_pitchAt : MethodName := ⟨RX5, "pitchAt", "(II)I"⟩
abbrev cX5_tensionFor : ByteArray := prog_7_method_40_code
def yX5_tensionFor : MethodName := ⟨RX5, "tensionFor", "(II)I"⟩
abbrev cX5_fallen : ByteArray := prog_7_method_41_code
def yX5_fallen : MethodName := ⟨RX5, "fallen", "(I)I"⟩
abbrev cX5_fallsWith : ByteArray := prog_7_method_42_code
def yX5_fallsWith : MethodName := ⟨RX5, "fallsWith", "(I)I"⟩
abbrev cX5_mostAt : ByteArray := prog_7_method_43_code
def yX5_mostAt : MethodName := ⟨RX5, "mostAt", "(I)I"⟩
abbrev cX5_slackIn : ByteArray := prog_7_method_44_code
def yX5_slackIn : MethodName := ⟨RX5, "slackIn", "(I)I"⟩
abbrev cX5_round : ByteArray := prog_7_method_45_code
def yX5_round : MethodName := ⟨RX5, "round", "()I"⟩
abbrev cX5_size : ByteArray := prog_7_method_46_code
def yX5_size : MethodName := ⟨RX5, "size", "(I)I"⟩
abbrev cX5_weakest : ByteArray := prog_7_method_47_code
def yX5_weakest : MethodName := ⟨RX5, "weakest", "(I)I"⟩
abbrev cX5_sign : ByteArray := prog_7_method_48_code
def yX5_sign : MethodName := ⟨RX5, "sign", "()I"⟩
abbrev cX5_number : ByteArray := prog_7_method_49_code
def yX5_number : MethodName := ⟨RX5, "number", "()I"⟩
abbrev cX5_readOne : ByteArray := prog_7_method_50_code
def yX5_readOne : MethodName := ⟨RX5, "readOne", "()V"⟩
abbrev cX5_faultOf : ByteArray := prog_7_method_51_code
def yX5_faultOf : MethodName := ⟨RX5, "faultOf", "()I"⟩
abbrev cX5_put : ByteArray := prog_7_method_52_code
def yX5_put : MethodName := ⟨RX5, "put", "(J)I"⟩
abbrev cX5_wipe : ByteArray := prog_7_method_53_code
def yX5_wipe : MethodName := ⟨RX5, "wipe", "()I"⟩
abbrev cX5_fault : ByteArray := prog_7_method_54_code
def yX5_fault : MethodName := ⟨RX5, "fault", "()I"⟩
abbrev cX5_carry : ByteArray := prog_7_method_55_code
def yX5_carry : MethodName := ⟨RX5, "carry", "(I)I"⟩
abbrev cX5_carryOut : ByteArray := prog_7_method_56_code
def yX5_carryOut : MethodName := ⟨RX5, "carryOut", "()I"⟩
abbrev cX5_undo : ByteArray := prog_7_method_57_code
def yX5_undo : MethodName := ⟨RX5, "undo", "()I"⟩
abbrev cX5_save : ByteArray := prog_7_method_58_code
def yX5_save : MethodName := ⟨RX5, "save", "(I)I"⟩
abbrev cX5_restore : ByteArray := prog_7_method_59_code
def yX5_restore : MethodName := ⟨RX5, "restore", "(I)I"⟩
def RJ6 : String := "java/lang/Integer"
def TJ6 : u_T := fun k => match k with
  | _ => ("", "", "", false)
def tyJ6 : Nat → FieldType := fun k => match k with
  | _ => .int
abbrev wsJ60 : List Cond := u_ws RJ6 TJ6 0
theorem nmJ6 : ∀ a, a < 0 → ∀ b, b < 0 → a ≠ b → (TJ6 a).2.1 ≠ (TJ6 b).2.1 := by decide +kernel
theorem tyJ6_ok : ∀ k, k < 0 → parseFieldDescriptor (TJ6 k).2.2.1 = some (tyJ6 k) := by decide +kernel
abbrev cJ6_bitCount_0f7a4 : ByteArray := prog_8_method_49_code
def yJ6_bitCount_0f7a4 : MethodName := ⟨RJ6, "bitCount", "(I)I"⟩
def RJ9 : String := "java/lang/Math"
def TJ9 : u_T := fun k => match k with
  | _ => ("", "", "", false)
def tyJ9 : Nat → FieldType := fun k => match k with
  | _ => .int
abbrev wsJ90 : List Cond := u_ws RJ9 TJ9 0
theorem nmJ9 : ∀ a, a < 0 → ∀ b, b < 0 → a ≠ b → (TJ9 a).2.1 ≠ (TJ9 b).2.1 := by decide +kernel
theorem tyJ9_ok : ∀ k, k < 0 → parseFieldDescriptor (TJ9 k).2.2.1 = some (tyJ9 k) := by decide +kernel
abbrev cJ9_abs_0f7a4 : ByteArray := prog_9_method_59_code
def yJ9_abs_0f7a4 : MethodName := ⟨RJ9, "abs", "(I)I"⟩
abbrev cJ9_max_7cf53 : ByteArray := prog_9_method_65_code
def yJ9_max_7cf53 : MethodName := ⟨RJ9, "max", "(II)I"⟩
abbrev cJ9_min_7cf53 : ByteArray := prog_9_method_69_code
def yJ9_min_7cf53 : MethodName := ⟨RJ9, "min", "(II)I"⟩
abbrev cJ9_min_f86c9 : ByteArray := prog_9_method_70_code
def yJ9_min_f86c9 : MethodName := ⟨RJ9, "min", "(JJ)J"⟩
def RJ10 : String := "java/lang/System"
def TJ10 : u_T := fun k => match k with
  | _ => ("", "", "", false)
def tyJ10 : Nat → FieldType := fun k => match k with
  | _ => .int
abbrev wsJ100 : List Cond := u_ws RJ10 TJ10 0
theorem nmJ10 : ∀ a, a < 0 → ∀ b, b < 0 → a ≠ b → (TJ10 a).2.1 ≠ (TJ10 b).2.1 := by decide +kernel
theorem tyJ10_ok : ∀ k, k < 0 → parseFieldDescriptor (TJ10 k).2.2.1 = some (tyJ10 k) := by decide +kernel
def RL : String := "SingingWiresLaw"
abbrev cL_law : ByteArray := code
def yL_law : MethodName := ⟨RL, "law", "([I)Z"⟩
abbrev vwCl : List vw_C := [(RX0, TX0, 9), (RX1, TX1, 2), (RX2, TX2, 9), (RX3, TX3, 12), (RX4, TX4, 6), (RX5, TX5, 14)]
end
section
theorem dX0_init_0 : decode cX0_init 0 = .ok (.aload_n 0, 1) := by decide +kernel
theorem dX0_init_1 : decode cX0_init 1 = .ok (.invokespecial 3, 3) := by decide +kernel
theorem dX0_init_4 : decode cX0_init 4 = .ok (.aload_n 0, 1) := by decide +kernel
theorem dX0_init_5 : decode cX0_init 5 = .ok (.bipush 20, 2) := by decide +kernel
theorem dX0_init_7 : decode cX0_init 7 = .ok (.newarray .int, 2) := by decide +kernel
theorem dX0_init_9 : decode cX0_init 9 = .ok (.putfield 9, 3) := by decide +kernel
theorem dX0_init_12 : decode cX0_init 12 = .ok (.aload_n 0, 1) := by decide +kernel
theorem dX0_init_13 : decode cX0_init 13 = .ok (.bipush 20, 2) := by decide +kernel
theorem dX0_init_15 : decode cX0_init 15 = .ok (.newarray .int, 2) := by decide +kernel
theorem dX0_init_17 : decode cX0_init 17 = .ok (.putfield 15, 3) := by decide +kernel
theorem dX0_init_20 : decode cX0_init 20 = .ok (.iconst 0, 1) := by decide +kernel
theorem dX0_init_21 : decode cX0_init 21 = .ok (.istore_n 1, 1) := by decide +kernel
theorem dX0_init_22 : decode cX0_init 22 = .ok (.iload_n 1, 1) := by decide +kernel
theorem dX0_init_23 : decode cX0_init 23 = .ok (.bipush 20, 2) := by decide +kernel
theorem dX0_init_25 : decode cX0_init 25 = .ok (.if_icmp .ge 16, 3) := by decide +kernel
theorem dX0_init_28 : decode cX0_init 28 = .ok (.aload_n 0, 1) := by decide +kernel
theorem dX0_init_29 : decode cX0_init 29 = .ok (.getfield 15, 3) := by decide +kernel
theorem dX0_init_32 : decode cX0_init 32 = .ok (.iload_n 1, 1) := by decide +kernel
theorem dX0_init_33 : decode cX0_init 33 = .ok (.iconst (-1), 1) := by decide +kernel
theorem dX0_init_34 : decode cX0_init 34 = .ok (.iastore, 1) := by decide +kernel
theorem dX0_init_35 : decode cX0_init 35 = .ok (.iinc 1 1, 3) := by decide +kernel
theorem dX0_init_38 : decode cX0_init 38 = .ok (.goto (-16), 3) := by decide +kernel
theorem dX0_init_41 : decode cX0_init 41 = .ok (.aload_n 0, 1) := by decide +kernel
theorem dX0_init_42 : decode cX0_init 42 = .ok (.bipush 8, 2) := by decide +kernel
theorem dX0_init_44 : decode cX0_init 44 = .ok (.anewarray 18, 3) := by decide +kernel
theorem dX0_init_47 : decode cX0_init 47 = .ok (.putfield 20, 3) := by decide +kernel
theorem dX0_init_50 : decode cX0_init 50 = .ok (.iconst 0, 1) := by decide +kernel
theorem dX0_init_51 : decode cX0_init 51 = .ok (.istore_n 1, 1) := by decide +kernel
theorem dX0_init_52 : decode cX0_init 52 = .ok (.iload_n 1, 1) := by decide +kernel
theorem dX0_init_53 : decode cX0_init 53 = .ok (.bipush 8, 2) := by decide +kernel
theorem dX0_init_55 : decode cX0_init 55 = .ok (.if_icmp .ge 22, 3) := by decide +kernel
theorem dX0_init_58 : decode cX0_init 58 = .ok (.aload_n 0, 1) := by decide +kernel
theorem dX0_init_59 : decode cX0_init 59 = .ok (.getfield 20, 3) := by decide +kernel
theorem dX0_init_62 : decode cX0_init 62 = .ok (.iload_n 1, 1) := by decide +kernel
theorem dX0_init_63 : decode cX0_init 63 = .ok (.new 18, 3) := by decide +kernel
theorem dX0_init_66 : decode cX0_init 66 = .ok (.dup, 1) := by decide +kernel
theorem dX0_init_67 : decode cX0_init 67 = .ok (.invokespecial 24, 3) := by decide +kernel
theorem dX0_init_70 : decode cX0_init 70 = .ok (.aastore, 1) := by decide +kernel
theorem dX0_init_71 : decode cX0_init 71 = .ok (.iinc 1 1, 3) := by decide +kernel
theorem dX0_init_74 : decode cX0_init 74 = .ok (.goto (-22), 3) := by decide +kernel
theorem dX0_init_77 : decode cX0_init 77 = .ok (.aload_n 0, 1) := by decide +kernel
theorem dX0_init_78 : decode cX0_init 78 = .ok (.bipush 10, 2) := by decide +kernel
theorem dX0_init_80 : decode cX0_init 80 = .ok (.putfield 25, 3) := by decide +kernel
theorem dX0_init_83 : decode cX0_init 83 = .ok (.aload_n 0, 1) := by decide +kernel
theorem dX0_init_84 : decode cX0_init 84 = .ok (.bipush 20, 2) := by decide +kernel
theorem dX0_init_86 : decode cX0_init 86 = .ok (.putfield 29, 3) := by decide +kernel
theorem dX0_init_89 : decode cX0_init 89 = .ok (.return_, 1) := by decide +kernel
theorem dX0_takeFrom_0 : decode cX0_takeFrom 0 = .ok (.aload_n 1, 1) := by decide +kernel
theorem dX0_takeFrom_1 : decode cX0_takeFrom 1 = .ok (.getfield 9, 3) := by decide +kernel
theorem dX0_takeFrom_4 : decode cX0_takeFrom 4 = .ok (.iconst 0, 1) := by decide +kernel
theorem dX0_takeFrom_5 : decode cX0_takeFrom 5 = .ok (.aload_n 0, 1) := by decide +kernel
theorem dX0_takeFrom_6 : decode cX0_takeFrom 6 = .ok (.getfield 9, 3) := by decide +kernel
theorem dX0_takeFrom_9 : decode cX0_takeFrom 9 = .ok (.iconst 0, 1) := by decide +kernel
theorem dX0_takeFrom_10 : decode cX0_takeFrom 10 = .ok (.bipush 20, 2) := by decide +kernel
theorem dX0_takeFrom_12 : decode cX0_takeFrom 12 = .ok (.invokestatic 32, 3) := by decide +kernel
theorem dX0_takeFrom_15 : decode cX0_takeFrom 15 = .ok (.aload_n 1, 1) := by decide +kernel
theorem dX0_takeFrom_16 : decode cX0_takeFrom 16 = .ok (.getfield 15, 3) := by decide +kernel
theorem dX0_takeFrom_19 : decode cX0_takeFrom 19 = .ok (.iconst 0, 1) := by decide +kernel
theorem dX0_takeFrom_20 : decode cX0_takeFrom 20 = .ok (.aload_n 0, 1) := by decide +kernel
theorem dX0_takeFrom_21 : decode cX0_takeFrom 21 = .ok (.getfield 15, 3) := by decide +kernel
theorem dX0_takeFrom_24 : decode cX0_takeFrom 24 = .ok (.iconst 0, 1) := by decide +kernel
theorem dX0_takeFrom_25 : decode cX0_takeFrom 25 = .ok (.bipush 20, 2) := by decide +kernel
theorem dX0_takeFrom_27 : decode cX0_takeFrom 27 = .ok (.invokestatic 32, 3) := by decide +kernel
theorem dX0_takeFrom_30 : decode cX0_takeFrom 30 = .ok (.aload_n 0, 1) := by decide +kernel
theorem dX0_takeFrom_31 : decode cX0_takeFrom 31 = .ok (.aload_n 1, 1) := by decide +kernel
theorem dX0_takeFrom_32 : decode cX0_takeFrom 32 = .ok (.getfield 38, 3) := by decide +kernel
theorem dX0_takeFrom_35 : decode cX0_takeFrom 35 = .ok (.putfield 38, 3) := by decide +kernel
theorem dX0_takeFrom_38 : decode cX0_takeFrom 38 = .ok (.iconst 0, 1) := by decide +kernel
theorem dX0_takeFrom_39 : decode cX0_takeFrom 39 = .ok (.istore_n 2, 1) := by decide +kernel
theorem dX0_takeFrom_40 : decode cX0_takeFrom 40 = .ok (.iload_n 2, 1) := by decide +kernel
theorem dX0_takeFrom_41 : decode cX0_takeFrom 41 = .ok (.aload_n 0, 1) := by decide +kernel
theorem dX0_takeFrom_42 : decode cX0_takeFrom 42 = .ok (.getfield 38, 3) := by decide +kernel
theorem dX0_takeFrom_45 : decode cX0_takeFrom 45 = .ok (.if_icmp .ge 24, 3) := by decide +kernel
theorem dX0_takeFrom_48 : decode cX0_takeFrom 48 = .ok (.aload_n 0, 1) := by decide +kernel
theorem dX0_takeFrom_49 : decode cX0_takeFrom 49 = .ok (.getfield 20, 3) := by decide +kernel
theorem dX0_takeFrom_52 : decode cX0_takeFrom 52 = .ok (.iload_n 2, 1) := by decide +kernel
theorem dX0_takeFrom_53 : decode cX0_takeFrom 53 = .ok (.aaload, 1) := by decide +kernel
theorem dX0_takeFrom_54 : decode cX0_takeFrom 54 = .ok (.aload_n 1, 1) := by decide +kernel
theorem dX0_takeFrom_55 : decode cX0_takeFrom 55 = .ok (.getfield 20, 3) := by decide +kernel
theorem dX0_takeFrom_58 : decode cX0_takeFrom 58 = .ok (.iload_n 2, 1) := by decide +kernel
theorem dX0_takeFrom_59 : decode cX0_takeFrom 59 = .ok (.aaload, 1) := by decide +kernel
theorem dX0_takeFrom_60 : decode cX0_takeFrom 60 = .ok (.invokevirtual 41, 3) := by decide +kernel
theorem dX0_takeFrom_63 : decode cX0_takeFrom 63 = .ok (.iinc 2 1, 3) := by decide +kernel
theorem dX0_takeFrom_66 : decode cX0_takeFrom 66 = .ok (.goto (-26), 3) := by decide +kernel
theorem dX0_takeFrom_69 : decode cX0_takeFrom 69 = .ok (.aload_n 0, 1) := by decide +kernel
theorem dX0_takeFrom_70 : decode cX0_takeFrom 70 = .ok (.aload_n 1, 1) := by decide +kernel
theorem dX0_takeFrom_71 : decode cX0_takeFrom 71 = .ok (.getfield 25, 3) := by decide +kernel
theorem dX0_takeFrom_74 : decode cX0_takeFrom 74 = .ok (.putfield 25, 3) := by decide +kernel
theorem dX0_takeFrom_77 : decode cX0_takeFrom 77 = .ok (.aload_n 0, 1) := by decide +kernel
theorem dX0_takeFrom_78 : decode cX0_takeFrom 78 = .ok (.aload_n 1, 1) := by decide +kernel
theorem dX0_takeFrom_79 : decode cX0_takeFrom 79 = .ok (.getfield 29, 3) := by decide +kernel
theorem dX0_takeFrom_82 : decode cX0_takeFrom 82 = .ok (.putfield 29, 3) := by decide +kernel
theorem dX0_takeFrom_85 : decode cX0_takeFrom 85 = .ok (.aload_n 0, 1) := by decide +kernel
theorem dX0_takeFrom_86 : decode cX0_takeFrom 86 = .ok (.aload_n 1, 1) := by decide +kernel
theorem dX0_takeFrom_87 : decode cX0_takeFrom 87 = .ok (.getfield 45, 3) := by decide +kernel
theorem dX0_takeFrom_90 : decode cX0_takeFrom 90 = .ok (.putfield 45, 3) := by decide +kernel
theorem dX0_takeFrom_93 : decode cX0_takeFrom 93 = .ok (.aload_n 0, 1) := by decide +kernel
theorem dX0_takeFrom_94 : decode cX0_takeFrom 94 = .ok (.aload_n 1, 1) := by decide +kernel
theorem dX0_takeFrom_95 : decode cX0_takeFrom 95 = .ok (.getfield 48, 3) := by decide +kernel
theorem dX0_takeFrom_98 : decode cX0_takeFrom 98 = .ok (.putfield 48, 3) := by decide +kernel
theorem dX0_takeFrom_101 : decode cX0_takeFrom 101 = .ok (.aload_n 0, 1) := by decide +kernel
theorem dX0_takeFrom_102 : decode cX0_takeFrom 102 = .ok (.aload_n 1, 1) := by decide +kernel
theorem dX0_takeFrom_103 : decode cX0_takeFrom 103 = .ok (.getfield 51, 3) := by decide +kernel
theorem dX0_takeFrom_106 : decode cX0_takeFrom 106 = .ok (.putfield 51, 3) := by decide +kernel
theorem dX0_takeFrom_109 : decode cX0_takeFrom 109 = .ok (.return_, 1) := by decide +kernel
theorem dX0_takeAsHeard_0 : decode cX0_takeAsHeard 0 = .ok (.aload_n 0, 1) := by decide +kernel
theorem dX0_takeAsHeard_1 : decode cX0_takeAsHeard 1 = .ok (.aload_n 1, 1) := by decide +kernel
theorem dX0_takeAsHeard_2 : decode cX0_takeAsHeard 2 = .ok (.invokevirtual 54, 3) := by decide +kernel
theorem dX0_takeAsHeard_5 : decode cX0_takeAsHeard 5 = .ok (.iconst 0, 1) := by decide +kernel
theorem dX0_takeAsHeard_6 : decode cX0_takeAsHeard 6 = .ok (.istore_n 2, 1) := by decide +kernel
theorem dX0_takeAsHeard_7 : decode cX0_takeAsHeard 7 = .ok (.iload_n 2, 1) := by decide +kernel
theorem dX0_takeAsHeard_8 : decode cX0_takeAsHeard 8 = .ok (.aload_n 0, 1) := by decide +kernel
theorem dX0_takeAsHeard_9 : decode cX0_takeAsHeard 9 = .ok (.getfield 38, 3) := by decide +kernel
theorem dX0_takeAsHeard_12 : decode cX0_takeAsHeard 12 = .ok (.if_icmp .ge 27, 3) := by decide +kernel
theorem dX0_takeAsHeard_15 : decode cX0_takeAsHeard 15 = .ok (.aload_n 0, 1) := by decide +kernel
theorem dX0_takeAsHeard_16 : decode cX0_takeAsHeard 16 = .ok (.getfield 20, 3) := by decide +kernel
theorem dX0_takeAsHeard_19 : decode cX0_takeAsHeard 19 = .ok (.iload_n 2, 1) := by decide +kernel
theorem dX0_takeAsHeard_20 : decode cX0_takeAsHeard 20 = .ok (.aaload, 1) := by decide +kernel
theorem dX0_takeAsHeard_21 : decode cX0_takeAsHeard 21 = .ok (.aload_n 0, 1) := by decide +kernel
theorem dX0_takeAsHeard_22 : decode cX0_takeAsHeard 22 = .ok (.getfield 20, 3) := by decide +kernel
theorem dX0_takeAsHeard_25 : decode cX0_takeAsHeard 25 = .ok (.iload_n 2, 1) := by decide +kernel
theorem dX0_takeAsHeard_26 : decode cX0_takeAsHeard 26 = .ok (.aaload, 1) := by decide +kernel
theorem dX0_takeAsHeard_27 : decode cX0_takeAsHeard 27 = .ok (.getfield 57, 3) := by decide +kernel
theorem dX0_takeAsHeard_30 : decode cX0_takeAsHeard 30 = .ok (.putfield 61, 3) := by decide +kernel
theorem dX0_takeAsHeard_33 : decode cX0_takeAsHeard 33 = .ok (.iinc 2 1, 3) := by decide +kernel
theorem dX0_takeAsHeard_36 : decode cX0_takeAsHeard 36 = .ok (.goto (-29), 3) := by decide +kernel
theorem dX0_takeAsHeard_39 : decode cX0_takeAsHeard 39 = .ok (.aload_n 0, 1) := by decide +kernel
theorem dX0_takeAsHeard_40 : decode cX0_takeAsHeard 40 = .ok (.invokevirtual 64, 3) := by decide +kernel
theorem dX0_takeAsHeard_43 : decode cX0_takeAsHeard 43 = .ok (.return_, 1) := by decide +kernel
theorem dX0_wireNumbered_0 : decode cX0_wireNumbered 0 = .ok (.iload_n 1, 1) := by decide +kernel
theorem dX0_wireNumbered_1 : decode cX0_wireNumbered 1 = .ok (.ifCond .lt 20, 3) := by decide +kernel
theorem dX0_wireNumbered_4 : decode cX0_wireNumbered 4 = .ok (.iload_n 1, 1) := by decide +kernel
theorem dX0_wireNumbered_5 : decode cX0_wireNumbered 5 = .ok (.aload_n 0, 1) := by decide +kernel
theorem dX0_wireNumbered_6 : decode cX0_wireNumbered 6 = .ok (.getfield 38, 3) := by decide +kernel
theorem dX0_wireNumbered_9 : decode cX0_wireNumbered 9 = .ok (.if_icmp .ge 12, 3) := by decide +kernel
theorem dX0_wireNumbered_12 : decode cX0_wireNumbered 12 = .ok (.aload_n 0, 1) := by decide +kernel
theorem dX0_wireNumbered_13 : decode cX0_wireNumbered 13 = .ok (.getfield 20, 3) := by decide +kernel
theorem dX0_wireNumbered_16 : decode cX0_wireNumbered 16 = .ok (.iload_n 1, 1) := by decide +kernel
theorem dX0_wireNumbered_17 : decode cX0_wireNumbered 17 = .ok (.aaload, 1) := by decide +kernel
theorem dX0_wireNumbered_18 : decode cX0_wireNumbered 18 = .ok (.goto 4, 3) := by decide +kernel
theorem dX0_wireNumbered_21 : decode cX0_wireNumbered 21 = .ok (.aconst_null, 1) := by decide +kernel
theorem dX0_wireNumbered_22 : decode cX0_wireNumbered 22 = .ok (.areturn, 1) := by decide +kernel
theorem dX0_changeSetting_0 : decode cX0_changeSetting 0 = .ok (.iload_n 2, 1) := by decide +kernel
theorem dX0_changeSetting_1 : decode cX0_changeSetting 1 = .ok (.iconst 0, 1) := by decide +kernel
theorem dX0_changeSetting_2 : decode cX0_changeSetting 2 = .ok (.bipush 100, 2) := by decide +kernel
theorem dX0_changeSetting_4 : decode cX0_changeSetting 4 = .ok (.invokestatic 67, 3) := by decide +kernel
theorem dX0_changeSetting_7 : decode cX0_changeSetting 7 = .ok (.ifCond .ne 6, 3) := by decide +kernel
theorem dX0_changeSetting_10 : decode cX0_changeSetting 10 = .ok (.bipush (-2), 2) := by decide +kernel
theorem dX0_changeSetting_12 : decode cX0_changeSetting 12 = .ok (.ireturn, 1) := by decide +kernel
theorem dX0_changeSetting_13 : decode cX0_changeSetting 13 = .ok (.iload_n 1, 1) := by decide +kernel
theorem dX0_changeSetting_14 : decode cX0_changeSetting 14 = .ok (.ifCond .ne 15, 3) := by decide +kernel
theorem dX0_changeSetting_17 : decode cX0_changeSetting 17 = .ok (.aload_n 0, 1) := by decide +kernel
theorem dX0_changeSetting_18 : decode cX0_changeSetting 18 = .ok (.getfield 25, 3) := by decide +kernel
theorem dX0_changeSetting_21 : decode cX0_changeSetting 21 = .ok (.istore_n 3, 1) := by decide +kernel
theorem dX0_changeSetting_22 : decode cX0_changeSetting 22 = .ok (.aload_n 0, 1) := by decide +kernel
theorem dX0_changeSetting_23 : decode cX0_changeSetting 23 = .ok (.iload_n 2, 1) := by decide +kernel
theorem dX0_changeSetting_24 : decode cX0_changeSetting 24 = .ok (.putfield 25, 3) := by decide +kernel
theorem dX0_changeSetting_27 : decode cX0_changeSetting 27 = .ok (.iload_n 3, 1) := by decide +kernel
theorem dX0_changeSetting_28 : decode cX0_changeSetting 28 = .ok (.ireturn, 1) := by decide +kernel
theorem dX0_changeSetting_29 : decode cX0_changeSetting 29 = .ok (.iload_n 1, 1) := by decide +kernel
theorem dX0_changeSetting_30 : decode cX0_changeSetting 30 = .ok (.iconst 1, 1) := by decide +kernel
theorem dX0_changeSetting_31 : decode cX0_changeSetting 31 = .ok (.if_icmp .ne 15, 3) := by decide +kernel
theorem dX0_changeSetting_34 : decode cX0_changeSetting 34 = .ok (.aload_n 0, 1) := by decide +kernel
theorem dX0_changeSetting_35 : decode cX0_changeSetting 35 = .ok (.getfield 29, 3) := by decide +kernel
theorem dX0_changeSetting_38 : decode cX0_changeSetting 38 = .ok (.istore_n 3, 1) := by decide +kernel
theorem dX0_changeSetting_39 : decode cX0_changeSetting 39 = .ok (.aload_n 0, 1) := by decide +kernel
theorem dX0_changeSetting_40 : decode cX0_changeSetting 40 = .ok (.iload_n 2, 1) := by decide +kernel
theorem dX0_changeSetting_41 : decode cX0_changeSetting 41 = .ok (.putfield 29, 3) := by decide +kernel
theorem dX0_changeSetting_44 : decode cX0_changeSetting 44 = .ok (.iload_n 3, 1) := by decide +kernel
theorem dX0_changeSetting_45 : decode cX0_changeSetting 45 = .ok (.ireturn, 1) := by decide +kernel
theorem dX0_changeSetting_46 : decode cX0_changeSetting 46 = .ok (.bipush (-2), 2) := by decide +kernel
theorem dX0_changeSetting_48 : decode cX0_changeSetting 48 = .ok (.ireturn, 1) := by decide +kernel
theorem dX0_hang_0 : decode cX0_hang 0 = .ok (.iload_n 1, 1) := by decide +kernel
theorem dX0_hang_1 : decode cX0_hang 1 = .ok (.iconst 0, 1) := by decide +kernel
theorem dX0_hang_2 : decode cX0_hang 2 = .ok (.bipush 19, 2) := by decide +kernel
theorem dX0_hang_4 : decode cX0_hang 4 = .ok (.invokestatic 67, 3) := by decide +kernel
theorem dX0_hang_7 : decode cX0_hang 7 = .ok (.ifCond .eq 48, 3) := by decide +kernel
theorem dX0_hang_10 : decode cX0_hang 10 = .ok (.iload_n 2, 1) := by decide +kernel
theorem dX0_hang_11 : decode cX0_hang 11 = .ok (.bipush 10, 2) := by decide +kernel
theorem dX0_hang_13 : decode cX0_hang 13 = .ok (.sipush 200, 3) := by decide +kernel
theorem dX0_hang_16 : decode cX0_hang 16 = .ok (.invokestatic 67, 3) := by decide +kernel
theorem dX0_hang_19 : decode cX0_hang 19 = .ok (.ifCond .eq 36, 3) := by decide +kernel
theorem dX0_hang_22 : decode cX0_hang 22 = .ok (.iload_n 3, 1) := by decide +kernel
theorem dX0_hang_23 : decode cX0_hang 23 = .ok (.iconst 1, 1) := by decide +kernel
theorem dX0_hang_24 : decode cX0_hang 24 = .ok (.bipush 20, 2) := by decide +kernel
theorem dX0_hang_26 : decode cX0_hang 26 = .ok (.invokestatic 67, 3) := by decide +kernel
theorem dX0_hang_29 : decode cX0_hang 29 = .ok (.ifCond .eq 26, 3) := by decide +kernel
theorem dX0_hang_32 : decode cX0_hang 32 = .ok (.iload 4, 2) := by decide +kernel
theorem dX0_hang_34 : decode cX0_hang 34 = .ok (.bipush 100, 2) := by decide +kernel
theorem dX0_hang_36 : decode cX0_hang 36 = .ok (.ldc 71, 2) := by decide +kernel
theorem dX0_hang_38 : decode cX0_hang 38 = .ok (.invokestatic 67, 3) := by decide +kernel
theorem dX0_hang_41 : decode cX0_hang 41 = .ok (.ifCond .eq 14, 3) := by decide +kernel
theorem dX0_hang_44 : decode cX0_hang 44 = .ok (.iload 5, 2) := by decide +kernel
theorem dX0_hang_46 : decode cX0_hang 46 = .ok (.iconst 0, 1) := by decide +kernel
theorem dX0_hang_47 : decode cX0_hang 47 = .ok (.ldc 71, 2) := by decide +kernel
theorem dX0_hang_49 : decode cX0_hang 49 = .ok (.invokestatic 67, 3) := by decide +kernel
theorem dX0_hang_52 : decode cX0_hang 52 = .ok (.ifCond .ne 6, 3) := by decide +kernel
theorem dX0_hang_55 : decode cX0_hang 55 = .ok (.bipush (-2), 2) := by decide +kernel
theorem dX0_hang_57 : decode cX0_hang 57 = .ok (.ireturn, 1) := by decide +kernel
theorem dX0_hang_58 : decode cX0_hang 58 = .ok (.aload_n 0, 1) := by decide +kernel
theorem dX0_hang_59 : decode cX0_hang 59 = .ok (.getfield 38, 3) := by decide +kernel
theorem dX0_hang_62 : decode cX0_hang 62 = .ok (.bipush 8, 2) := by decide +kernel
theorem dX0_hang_64 : decode cX0_hang 64 = .ok (.if_icmp .lt 6, 3) := by decide +kernel
theorem dX0_hang_67 : decode cX0_hang 67 = .ok (.bipush (-4), 2) := by decide +kernel
theorem dX0_hang_69 : decode cX0_hang 69 = .ok (.ireturn, 1) := by decide +kernel
theorem dX0_hang_70 : decode cX0_hang 70 = .ok (.aload_n 0, 1) := by decide +kernel
theorem dX0_hang_71 : decode cX0_hang 71 = .ok (.getfield 15, 3) := by decide +kernel
theorem dX0_hang_74 : decode cX0_hang 74 = .ok (.iload_n 1, 1) := by decide +kernel
theorem dX0_hang_75 : decode cX0_hang 75 = .ok (.iaload, 1) := by decide +kernel
theorem dX0_hang_76 : decode cX0_hang 76 = .ok (.iconst (-1), 1) := by decide +kernel
theorem dX0_hang_77 : decode cX0_hang 77 = .ok (.if_icmp .ne 10, 3) := by decide +kernel
theorem dX0_hang_80 : decode cX0_hang 80 = .ok (.iload 5, 2) := by decide +kernel
theorem dX0_hang_82 : decode cX0_hang 82 = .ok (.iload 4, 2) := by decide +kernel
theorem dX0_hang_84 : decode cX0_hang 84 = .ok (.if_icmp .le 6, 3) := by decide +kernel
theorem dX0_hang_87 : decode cX0_hang 87 = .ok (.bipush (-5), 2) := by decide +kernel
theorem dX0_hang_89 : decode cX0_hang 89 = .ok (.ireturn, 1) := by decide +kernel
theorem dX0_hang_90 : decode cX0_hang 90 = .ok (.aload_n 0, 1) := by decide +kernel
theorem dX0_hang_91 : decode cX0_hang 91 = .ok (.getfield 38, 3) := by decide +kernel
theorem dX0_hang_94 : decode cX0_hang 94 = .ok (.istore 6, 2) := by decide +kernel
theorem dX0_hang_96 : decode cX0_hang 96 = .ok (.aload_n 0, 1) := by decide +kernel
theorem dX0_hang_97 : decode cX0_hang 97 = .ok (.getfield 20, 3) := by decide +kernel
theorem dX0_hang_100 : decode cX0_hang 100 = .ok (.iload 6, 2) := by decide +kernel
theorem dX0_hang_102 : decode cX0_hang 102 = .ok (.aaload, 1) := by decide +kernel
theorem dX0_hang_103 : decode cX0_hang 103 = .ok (.iload_n 1, 1) := by decide +kernel
theorem dX0_hang_104 : decode cX0_hang 104 = .ok (.iload_n 2, 1) := by decide +kernel
theorem dX0_hang_105 : decode cX0_hang 105 = .ok (.iload_n 3, 1) := by decide +kernel
theorem dX0_hang_106 : decode cX0_hang 106 = .ok (.iload 4, 2) := by decide +kernel
theorem dX0_hang_108 : decode cX0_hang 108 = .ok (.iload 5, 2) := by decide +kernel
theorem dX0_hang_110 : decode cX0_hang 110 = .ok (.invokevirtual 72, 3) := by decide +kernel
theorem dX0_hang_113 : decode cX0_hang 113 = .ok (.aload_n 0, 1) := by decide +kernel
theorem dX0_hang_114 : decode cX0_hang 114 = .ok (.getfield 15, 3) := by decide +kernel
theorem dX0_hang_117 : decode cX0_hang 117 = .ok (.iload_n 1, 1) := by decide +kernel
theorem dX0_hang_118 : decode cX0_hang 118 = .ok (.iload 6, 2) := by decide +kernel
theorem dX0_hang_120 : decode cX0_hang 120 = .ok (.iastore, 1) := by decide +kernel
theorem dX0_hang_121 : decode cX0_hang 121 = .ok (.aload_n 0, 1) := by decide +kernel
theorem dX0_hang_122 : decode cX0_hang 122 = .ok (.dup, 1) := by decide +kernel
theorem dX0_hang_123 : decode cX0_hang 123 = .ok (.getfield 38, 3) := by decide +kernel
theorem dX0_hang_126 : decode cX0_hang 126 = .ok (.iconst 1, 1) := by decide +kernel
theorem dX0_hang_127 : decode cX0_hang 127 = .ok (.iadd, 1) := by decide +kernel
theorem dX0_hang_128 : decode cX0_hang 128 = .ok (.putfield 38, 3) := by decide +kernel
theorem dX0_hang_131 : decode cX0_hang 131 = .ok (.aload_n 0, 1) := by decide +kernel
theorem dX0_hang_132 : decode cX0_hang 132 = .ok (.invokevirtual 64, 3) := by decide +kernel
theorem dX0_hang_135 : decode cX0_hang 135 = .ok (.aload_n 0, 1) := by decide +kernel
theorem dX0_hang_136 : decode cX0_hang 136 = .ok (.invokevirtual 76, 3) := by decide +kernel
theorem dX0_hang_139 : decode cX0_hang 139 = .ok (.pop, 1) := by decide +kernel
theorem dX0_hang_140 : decode cX0_hang 140 = .ok (.iload 6, 2) := by decide +kernel
theorem dX0_hang_142 : decode cX0_hang 142 = .ok (.ireturn, 1) := by decide +kernel
theorem dX0_changeLoad_0 : decode cX0_changeLoad 0 = .ok (.iload_n 1, 1) := by decide +kernel
theorem dX0_changeLoad_1 : decode cX0_changeLoad 1 = .ok (.iconst 0, 1) := by decide +kernel
theorem dX0_changeLoad_2 : decode cX0_changeLoad 2 = .ok (.bipush 19, 2) := by decide +kernel
theorem dX0_changeLoad_4 : decode cX0_changeLoad 4 = .ok (.invokestatic 67, 3) := by decide +kernel
theorem dX0_changeLoad_7 : decode cX0_changeLoad 7 = .ok (.ifCond .ne 5, 3) := by decide +kernel
theorem dX0_changeLoad_10 : decode cX0_changeLoad 10 = .ok (.iconst (-1), 1) := by decide +kernel
theorem dX0_changeLoad_11 : decode cX0_changeLoad 11 = .ok (.ireturn, 1) := by decide +kernel
theorem dX0_changeLoad_12 : decode cX0_changeLoad 12 = .ok (.iload_n 2, 1) := by decide +kernel
theorem dX0_changeLoad_13 : decode cX0_changeLoad 13 = .ok (.iconst 0, 1) := by decide +kernel
theorem dX0_changeLoad_14 : decode cX0_changeLoad 14 = .ok (.sipush 1000, 3) := by decide +kernel
theorem dX0_changeLoad_17 : decode cX0_changeLoad 17 = .ok (.invokestatic 67, 3) := by decide +kernel
theorem dX0_changeLoad_20 : decode cX0_changeLoad 20 = .ok (.ifCond .ne 6, 3) := by decide +kernel
theorem dX0_changeLoad_23 : decode cX0_changeLoad 23 = .ok (.bipush (-2), 2) := by decide +kernel
theorem dX0_changeLoad_25 : decode cX0_changeLoad 25 = .ok (.ireturn, 1) := by decide +kernel
theorem dX0_changeLoad_26 : decode cX0_changeLoad 26 = .ok (.aload_n 0, 1) := by decide +kernel
theorem dX0_changeLoad_27 : decode cX0_changeLoad 27 = .ok (.getfield 9, 3) := by decide +kernel
theorem dX0_changeLoad_30 : decode cX0_changeLoad 30 = .ok (.iload_n 1, 1) := by decide +kernel
theorem dX0_changeLoad_31 : decode cX0_changeLoad 31 = .ok (.iaload, 1) := by decide +kernel
theorem dX0_changeLoad_32 : decode cX0_changeLoad 32 = .ok (.istore_n 3, 1) := by decide +kernel
theorem dX0_changeLoad_33 : decode cX0_changeLoad 33 = .ok (.aload_n 0, 1) := by decide +kernel
theorem dX0_changeLoad_34 : decode cX0_changeLoad 34 = .ok (.getfield 9, 3) := by decide +kernel
theorem dX0_changeLoad_37 : decode cX0_changeLoad 37 = .ok (.iload_n 1, 1) := by decide +kernel
theorem dX0_changeLoad_38 : decode cX0_changeLoad 38 = .ok (.iload_n 2, 1) := by decide +kernel
theorem dX0_changeLoad_39 : decode cX0_changeLoad 39 = .ok (.iastore, 1) := by decide +kernel
theorem dX0_changeLoad_40 : decode cX0_changeLoad 40 = .ok (.aload_n 0, 1) := by decide +kernel
theorem dX0_changeLoad_41 : decode cX0_changeLoad 41 = .ok (.invokevirtual 64, 3) := by decide +kernel
theorem dX0_changeLoad_44 : decode cX0_changeLoad 44 = .ok (.aload_n 0, 1) := by decide +kernel
theorem dX0_changeLoad_45 : decode cX0_changeLoad 45 = .ok (.invokevirtual 76, 3) := by decide +kernel
theorem dX0_changeLoad_48 : decode cX0_changeLoad 48 = .ok (.pop, 1) := by decide +kernel
theorem dX0_changeLoad_49 : decode cX0_changeLoad 49 = .ok (.iload_n 3, 1) := by decide +kernel
theorem dX0_changeLoad_50 : decode cX0_changeLoad 50 = .ok (.ireturn, 1) := by decide +kernel
theorem dX0_letPass_0 : decode cX0_letPass 0 = .ok (.iload_n 1, 1) := by decide +kernel
theorem dX0_letPass_1 : decode cX0_letPass 1 = .ok (.iconst 1, 1) := by decide +kernel
theorem dX0_letPass_2 : decode cX0_letPass 2 = .ok (.bipush 100, 2) := by decide +kernel
theorem dX0_letPass_4 : decode cX0_letPass 4 = .ok (.invokestatic 67, 3) := by decide +kernel
theorem dX0_letPass_7 : decode cX0_letPass 7 = .ok (.ifCond .ne 6, 3) := by decide +kernel
theorem dX0_letPass_10 : decode cX0_letPass 10 = .ok (.bipush (-2), 2) := by decide +kernel
theorem dX0_letPass_12 : decode cX0_letPass 12 = .ok (.ireturn, 1) := by decide +kernel
theorem dX0_letPass_13 : decode cX0_letPass 13 = .ok (.iconst 0, 1) := by decide +kernel
theorem dX0_letPass_14 : decode cX0_letPass 14 = .ok (.istore_n 2, 1) := by decide +kernel
theorem dX0_letPass_15 : decode cX0_letPass 15 = .ok (.iconst 0, 1) := by decide +kernel
theorem dX0_letPass_16 : decode cX0_letPass 16 = .ok (.istore_n 3, 1) := by decide +kernel
theorem dX0_letPass_17 : decode cX0_letPass 17 = .ok (.iload_n 3, 1) := by decide +kernel
theorem dX0_letPass_18 : decode cX0_letPass 18 = .ok (.iload_n 1, 1) := by decide +kernel
theorem dX0_letPass_19 : decode cX0_letPass 19 = .ok (.if_icmp .ge 61, 3) := by decide +kernel
theorem dX0_letPass_22 : decode cX0_letPass 22 = .ok (.iconst 0, 1) := by decide +kernel
theorem dX0_letPass_23 : decode cX0_letPass 23 = .ok (.istore 4, 2) := by decide +kernel
theorem dX0_letPass_25 : decode cX0_letPass 25 = .ok (.iload 4, 2) := by decide +kernel
theorem dX0_letPass_27 : decode cX0_letPass 27 = .ok (.aload_n 0, 1) := by decide +kernel
theorem dX0_letPass_28 : decode cX0_letPass 28 = .ok (.getfield 38, 3) := by decide +kernel
theorem dX0_letPass_31 : decode cX0_letPass 31 = .ok (.if_icmp .ge 23, 3) := by decide +kernel
theorem dX0_letPass_34 : decode cX0_letPass 34 = .ok (.aload_n 0, 1) := by decide +kernel
theorem dX0_letPass_35 : decode cX0_letPass 35 = .ok (.getfield 20, 3) := by decide +kernel
theorem dX0_letPass_38 : decode cX0_letPass 38 = .ok (.iload 4, 2) := by decide +kernel
theorem dX0_letPass_40 : decode cX0_letPass 40 = .ok (.aaload, 1) := by decide +kernel
theorem dX0_letPass_41 : decode cX0_letPass 41 = .ok (.aload_n 0, 1) := by decide +kernel
theorem dX0_letPass_42 : decode cX0_letPass 42 = .ok (.getfield 25, 3) := by decide +kernel
theorem dX0_letPass_45 : decode cX0_letPass 45 = .ok (.invokevirtual 80, 3) := by decide +kernel
theorem dX0_letPass_48 : decode cX0_letPass 48 = .ok (.iinc 4 1, 3) := by decide +kernel
theorem dX0_letPass_51 : decode cX0_letPass 51 = .ok (.goto (-26), 3) := by decide +kernel
theorem dX0_letPass_54 : decode cX0_letPass 54 = .ok (.iload_n 2, 1) := by decide +kernel
theorem dX0_letPass_55 : decode cX0_letPass 55 = .ok (.aload_n 0, 1) := by decide +kernel
theorem dX0_letPass_56 : decode cX0_letPass 56 = .ok (.invokevirtual 76, 3) := by decide +kernel
theorem dX0_letPass_59 : decode cX0_letPass 59 = .ok (.invokestatic 84, 3) := by decide +kernel
theorem dX0_letPass_62 : decode cX0_letPass 62 = .ok (.iadd, 1) := by decide +kernel
theorem dX0_letPass_63 : decode cX0_letPass 63 = .ok (.istore_n 2, 1) := by decide +kernel
theorem dX0_letPass_64 : decode cX0_letPass 64 = .ok (.aload_n 0, 1) := by decide +kernel
theorem dX0_letPass_65 : decode cX0_letPass 65 = .ok (.dup, 1) := by decide +kernel
theorem dX0_letPass_66 : decode cX0_letPass 66 = .ok (.getfield 45, 3) := by decide +kernel
theorem dX0_letPass_69 : decode cX0_letPass 69 = .ok (.iconst 1, 1) := by decide +kernel
theorem dX0_letPass_70 : decode cX0_letPass 70 = .ok (.iadd, 1) := by decide +kernel
theorem dX0_letPass_71 : decode cX0_letPass 71 = .ok (.putfield 45, 3) := by decide +kernel
theorem dX0_letPass_74 : decode cX0_letPass 74 = .ok (.iinc 3 1, 3) := by decide +kernel
theorem dX0_letPass_77 : decode cX0_letPass 77 = .ok (.goto (-60), 3) := by decide +kernel
theorem dX0_letPass_80 : decode cX0_letPass 80 = .ok (.iload_n 2, 1) := by decide +kernel
theorem dX0_letPass_81 : decode cX0_letPass 81 = .ok (.ireturn, 1) := by decide +kernel
theorem dX0_goTo_0 : decode cX0_goTo 0 = .ok (.iload_n 1, 1) := by decide +kernel
theorem dX0_goTo_1 : decode cX0_goTo 1 = .ok (.iconst 0, 1) := by decide +kernel
theorem dX0_goTo_2 : decode cX0_goTo 2 = .ok (.bipush 19, 2) := by decide +kernel
theorem dX0_goTo_4 : decode cX0_goTo 4 = .ok (.invokestatic 67, 3) := by decide +kernel
theorem dX0_goTo_7 : decode cX0_goTo 7 = .ok (.ifCond .ne 5, 3) := by decide +kernel
theorem dX0_goTo_10 : decode cX0_goTo 10 = .ok (.iconst (-1), 1) := by decide +kernel
theorem dX0_goTo_11 : decode cX0_goTo 11 = .ok (.ireturn, 1) := by decide +kernel
theorem dX0_goTo_12 : decode cX0_goTo 12 = .ok (.iload_n 1, 1) := by decide +kernel
theorem dX0_goTo_13 : decode cX0_goTo 13 = .ok (.aload_n 0, 1) := by decide +kernel
theorem dX0_goTo_14 : decode cX0_goTo 14 = .ok (.getfield 48, 3) := by decide +kernel
theorem dX0_goTo_17 : decode cX0_goTo 17 = .ok (.isub, 1) := by decide +kernel
theorem dX0_goTo_18 : decode cX0_goTo 18 = .ok (.invokestatic 90, 3) := by decide +kernel
theorem dX0_goTo_21 : decode cX0_goTo 21 = .ok (.istore_n 2, 1) := by decide +kernel
theorem dX0_goTo_22 : decode cX0_goTo 22 = .ok (.aload_n 0, 1) := by decide +kernel
theorem dX0_goTo_23 : decode cX0_goTo 23 = .ok (.iload_n 1, 1) := by decide +kernel
theorem dX0_goTo_24 : decode cX0_goTo 24 = .ok (.putfield 48, 3) := by decide +kernel
theorem dX0_goTo_27 : decode cX0_goTo 27 = .ok (.aload_n 0, 1) := by decide +kernel
theorem dX0_goTo_28 : decode cX0_goTo 28 = .ok (.dup, 1) := by decide +kernel
theorem dX0_goTo_29 : decode cX0_goTo 29 = .ok (.getfield 51, 3) := by decide +kernel
theorem dX0_goTo_32 : decode cX0_goTo 32 = .ok (.iload_n 2, 1) := by decide +kernel
theorem dX0_goTo_33 : decode cX0_goTo 33 = .ok (.iadd, 1) := by decide +kernel
theorem dX0_goTo_34 : decode cX0_goTo 34 = .ok (.putfield 51, 3) := by decide +kernel
theorem dX0_goTo_37 : decode cX0_goTo 37 = .ok (.iload_n 2, 1) := by decide +kernel
theorem dX0_goTo_38 : decode cX0_goTo 38 = .ok (.ireturn, 1) := by decide +kernel
theorem dX0_wireHere_0 : decode cX0_wireHere 0 = .ok (.aload_n 0, 1) := by decide +kernel
theorem dX0_wireHere_1 : decode cX0_wireHere 1 = .ok (.getfield 48, 3) := by decide +kernel
theorem dX0_wireHere_4 : decode cX0_wireHere 4 = .ok (.iconst 0, 1) := by decide +kernel
theorem dX0_wireHere_5 : decode cX0_wireHere 5 = .ok (.bipush 19, 2) := by decide +kernel
theorem dX0_wireHere_7 : decode cX0_wireHere 7 = .ok (.invokestatic 67, 3) := by decide +kernel
theorem dX0_wireHere_10 : decode cX0_wireHere 10 = .ok (.ifCond .eq 19, 3) := by decide +kernel
theorem dX0_wireHere_13 : decode cX0_wireHere 13 = .ok (.aload_n 0, 1) := by decide +kernel
theorem dX0_wireHere_14 : decode cX0_wireHere 14 = .ok (.aload_n 0, 1) := by decide +kernel
theorem dX0_wireHere_15 : decode cX0_wireHere 15 = .ok (.getfield 15, 3) := by decide +kernel
theorem dX0_wireHere_18 : decode cX0_wireHere 18 = .ok (.aload_n 0, 1) := by decide +kernel
theorem dX0_wireHere_19 : decode cX0_wireHere 19 = .ok (.getfield 48, 3) := by decide +kernel
theorem dX0_wireHere_22 : decode cX0_wireHere 22 = .ok (.iaload, 1) := by decide +kernel
theorem dX0_wireHere_23 : decode cX0_wireHere 23 = .ok (.invokevirtual 95, 3) := by decide +kernel
theorem dX0_wireHere_26 : decode cX0_wireHere 26 = .ok (.goto 4, 3) := by decide +kernel
theorem dX0_wireHere_29 : decode cX0_wireHere 29 = .ok (.aconst_null, 1) := by decide +kernel
theorem dX0_wireHere_30 : decode cX0_wireHere 30 = .ok (.areturn, 1) := by decide +kernel
theorem dX0_listen_0 : decode cX0_listen 0 = .ok (.aload_n 0, 1) := by decide +kernel
theorem dX0_listen_1 : decode cX0_listen 1 = .ok (.invokevirtual 99, 3) := by decide +kernel
theorem dX0_listen_4 : decode cX0_listen 4 = .ok (.astore_n 1, 1) := by decide +kernel
theorem dX0_listen_5 : decode cX0_listen 5 = .ok (.aload_n 1, 1) := by decide +kernel
theorem dX0_listen_6 : decode cX0_listen 6 = .ok (.ifnonnull 8, 3) := by decide +kernel
theorem dX0_listen_9 : decode cX0_listen 9 = .ok (.bipush (-5), 2) := by decide +kernel
theorem dX0_listen_11 : decode cX0_listen 11 = .ok (.goto 11, 3) := by decide +kernel
theorem dX0_listen_14 : decode cX0_listen 14 = .ok (.aload_n 1, 1) := by decide +kernel
theorem dX0_listen_15 : decode cX0_listen 15 = .ok (.aload_n 0, 1) := by decide +kernel
theorem dX0_listen_16 : decode cX0_listen 16 = .ok (.getfield 45, 3) := by decide +kernel
theorem dX0_listen_19 : decode cX0_listen 19 = .ok (.invokevirtual 103, 3) := by decide +kernel
theorem dX0_listen_22 : decode cX0_listen 22 = .ok (.ireturn, 1) := by decide +kernel
theorem dX0_changeTension_0 : decode cX0_changeTension 0 = .ok (.iload_n 1, 1) := by decide +kernel
theorem dX0_changeTension_1 : decode cX0_changeTension 1 = .ok (.iconst 0, 1) := by decide +kernel
theorem dX0_changeTension_2 : decode cX0_changeTension 2 = .ok (.ldc 71, 2) := by decide +kernel
theorem dX0_changeTension_4 : decode cX0_changeTension 4 = .ok (.invokestatic 67, 3) := by decide +kernel
theorem dX0_changeTension_7 : decode cX0_changeTension 7 = .ok (.ifCond .ne 6, 3) := by decide +kernel
theorem dX0_changeTension_10 : decode cX0_changeTension 10 = .ok (.bipush (-2), 2) := by decide +kernel
theorem dX0_changeTension_12 : decode cX0_changeTension 12 = .ok (.ireturn, 1) := by decide +kernel
theorem dX0_changeTension_13 : decode cX0_changeTension 13 = .ok (.aload_n 0, 1) := by decide +kernel
theorem dX0_changeTension_14 : decode cX0_changeTension 14 = .ok (.invokevirtual 99, 3) := by decide +kernel
theorem dX0_changeTension_17 : decode cX0_changeTension 17 = .ok (.astore_n 2, 1) := by decide +kernel
theorem dX0_changeTension_18 : decode cX0_changeTension 18 = .ok (.aload_n 2, 1) := by decide +kernel
theorem dX0_changeTension_19 : decode cX0_changeTension 19 = .ok (.ifnull 18, 3) := by decide +kernel
theorem dX0_changeTension_22 : decode cX0_changeTension 22 = .ok (.aload_n 2, 1) := by decide +kernel
theorem dX0_changeTension_23 : decode cX0_changeTension 23 = .ok (.getfield 61, 3) := by decide +kernel
theorem dX0_changeTension_26 : decode cX0_changeTension 26 = .ok (.ifCond .ne 11, 3) := by decide +kernel
theorem dX0_changeTension_29 : decode cX0_changeTension 29 = .ok (.iload_n 1, 1) := by decide +kernel
theorem dX0_changeTension_30 : decode cX0_changeTension 30 = .ok (.aload_n 2, 1) := by decide +kernel
theorem dX0_changeTension_31 : decode cX0_changeTension 31 = .ok (.getfield 106, 3) := by decide +kernel
theorem dX0_changeTension_34 : decode cX0_changeTension 34 = .ok (.if_icmp .le 6, 3) := by decide +kernel
theorem dX0_changeTension_37 : decode cX0_changeTension 37 = .ok (.bipush (-5), 2) := by decide +kernel
theorem dX0_changeTension_39 : decode cX0_changeTension 39 = .ok (.ireturn, 1) := by decide +kernel
theorem dX0_changeTension_40 : decode cX0_changeTension 40 = .ok (.aload_n 2, 1) := by decide +kernel
theorem dX0_changeTension_41 : decode cX0_changeTension 41 = .ok (.getfield 109, 3) := by decide +kernel
theorem dX0_changeTension_44 : decode cX0_changeTension 44 = .ok (.istore_n 3, 1) := by decide +kernel
theorem dX0_changeTension_45 : decode cX0_changeTension 45 = .ok (.aload_n 2, 1) := by decide +kernel
theorem dX0_changeTension_46 : decode cX0_changeTension 46 = .ok (.iload_n 1, 1) := by decide +kernel
theorem dX0_changeTension_47 : decode cX0_changeTension 47 = .ok (.aload_n 0, 1) := by decide +kernel
theorem dX0_changeTension_48 : decode cX0_changeTension 48 = .ok (.getfield 45, 3) := by decide +kernel
theorem dX0_changeTension_51 : decode cX0_changeTension 51 = .ok (.invokevirtual 112, 3) := by decide +kernel
theorem dX0_changeTension_54 : decode cX0_changeTension 54 = .ok (.iload_n 3, 1) := by decide +kernel
theorem dX0_changeTension_55 : decode cX0_changeTension 55 = .ok (.ireturn, 1) := by decide +kernel
theorem dX0_settle_0 : decode cX0_settle 0 = .ok (.iconst 0, 1) := by decide +kernel
theorem dX0_settle_1 : decode cX0_settle 1 = .ok (.istore_n 1, 1) := by decide +kernel
theorem dX0_settle_2 : decode cX0_settle 2 = .ok (.iconst 0, 1) := by decide +kernel
theorem dX0_settle_3 : decode cX0_settle 3 = .ok (.istore_n 2, 1) := by decide +kernel
theorem dX0_settle_4 : decode cX0_settle 4 = .ok (.iload_n 2, 1) := by decide +kernel
theorem dX0_settle_5 : decode cX0_settle 5 = .ok (.bipush 8, 2) := by decide +kernel
theorem dX0_settle_7 : decode cX0_settle 7 = .ok (.if_icmp .ge 44, 3) := by decide +kernel
theorem dX0_settle_10 : decode cX0_settle 10 = .ok (.aload_n 0, 1) := by decide +kernel
theorem dX0_settle_11 : decode cX0_settle 11 = .ok (.invokevirtual 116, 3) := by decide +kernel
theorem dX0_settle_14 : decode cX0_settle 14 = .ok (.istore_n 3, 1) := by decide +kernel
theorem dX0_settle_15 : decode cX0_settle 15 = .ok (.iload_n 3, 1) := by decide +kernel
theorem dX0_settle_16 : decode cX0_settle 16 = .ok (.iconst (-1), 1) := by decide +kernel
theorem dX0_settle_17 : decode cX0_settle 17 = .ok (.if_icmp .ne 5, 3) := by decide +kernel
theorem dX0_settle_20 : decode cX0_settle 20 = .ok (.iload_n 1, 1) := by decide +kernel
theorem dX0_settle_21 : decode cX0_settle 21 = .ok (.ireturn, 1) := by decide +kernel
theorem dX0_settle_22 : decode cX0_settle 22 = .ok (.aload_n 0, 1) := by decide +kernel
theorem dX0_settle_23 : decode cX0_settle 23 = .ok (.getfield 20, 3) := by decide +kernel
theorem dX0_settle_26 : decode cX0_settle 26 = .ok (.iload_n 3, 1) := by decide +kernel
theorem dX0_settle_27 : decode cX0_settle 27 = .ok (.aaload, 1) := by decide +kernel
theorem dX0_settle_28 : decode cX0_settle 28 = .ok (.aload_n 0, 1) := by decide +kernel
theorem dX0_settle_29 : decode cX0_settle 29 = .ok (.getfield 45, 3) := by decide +kernel
theorem dX0_settle_32 : decode cX0_settle 32 = .ok (.invokevirtual 119, 3) := by decide +kernel
theorem dX0_settle_35 : decode cX0_settle 35 = .ok (.iload_n 1, 1) := by decide +kernel
theorem dX0_settle_36 : decode cX0_settle 36 = .ok (.iconst 1, 1) := by decide +kernel
theorem dX0_settle_37 : decode cX0_settle 37 = .ok (.iload_n 3, 1) := by decide +kernel
theorem dX0_settle_38 : decode cX0_settle 38 = .ok (.ishl, 1) := by decide +kernel
theorem dX0_settle_39 : decode cX0_settle 39 = .ok (.ior, 1) := by decide +kernel
theorem dX0_settle_40 : decode cX0_settle 40 = .ok (.istore_n 1, 1) := by decide +kernel
theorem dX0_settle_41 : decode cX0_settle 41 = .ok (.aload_n 0, 1) := by decide +kernel
theorem dX0_settle_42 : decode cX0_settle 42 = .ok (.invokevirtual 64, 3) := by decide +kernel
theorem dX0_settle_45 : decode cX0_settle 45 = .ok (.iinc 2 1, 3) := by decide +kernel
theorem dX0_settle_48 : decode cX0_settle 48 = .ok (.goto (-44), 3) := by decide +kernel
theorem dX0_settle_51 : decode cX0_settle 51 = .ok (.iload_n 1, 1) := by decide +kernel
theorem dX0_settle_52 : decode cX0_settle 52 = .ok (.ireturn, 1) := by decide +kernel
theorem dX0_worstBursting_0 : decode cX0_worstBursting 0 = .ok (.iconst (-1), 1) := by decide +kernel
theorem dX0_worstBursting_1 : decode cX0_worstBursting 1 = .ok (.istore_n 1, 1) := by decide +kernel
theorem dX0_worstBursting_2 : decode cX0_worstBursting 2 = .ok (.iconst 0, 1) := by decide +kernel
theorem dX0_worstBursting_3 : decode cX0_worstBursting 3 = .ok (.istore_n 2, 1) := by decide +kernel
theorem dX0_worstBursting_4 : decode cX0_worstBursting 4 = .ok (.iconst 0, 1) := by decide +kernel
theorem dX0_worstBursting_5 : decode cX0_worstBursting 5 = .ok (.istore_n 3, 1) := by decide +kernel
theorem dX0_worstBursting_6 : decode cX0_worstBursting 6 = .ok (.iload_n 3, 1) := by decide +kernel
theorem dX0_worstBursting_7 : decode cX0_worstBursting 7 = .ok (.aload_n 0, 1) := by decide +kernel
theorem dX0_worstBursting_8 : decode cX0_worstBursting 8 = .ok (.getfield 38, 3) := by decide +kernel
theorem dX0_worstBursting_11 : decode cX0_worstBursting 11 = .ok (.if_icmp .ge 41, 3) := by decide +kernel
theorem dX0_worstBursting_14 : decode cX0_worstBursting 14 = .ok (.aload_n 0, 1) := by decide +kernel
theorem dX0_worstBursting_15 : decode cX0_worstBursting 15 = .ok (.getfield 20, 3) := by decide +kernel
theorem dX0_worstBursting_18 : decode cX0_worstBursting 18 = .ok (.iload_n 3, 1) := by decide +kernel
theorem dX0_worstBursting_19 : decode cX0_worstBursting 19 = .ok (.aaload, 1) := by decide +kernel
theorem dX0_worstBursting_20 : decode cX0_worstBursting 20 = .ok (.getfield 122, 3) := by decide +kernel
theorem dX0_worstBursting_23 : decode cX0_worstBursting 23 = .ok (.aload_n 0, 1) := by decide +kernel
theorem dX0_worstBursting_24 : decode cX0_worstBursting 24 = .ok (.getfield 20, 3) := by decide +kernel
theorem dX0_worstBursting_27 : decode cX0_worstBursting 27 = .ok (.iload_n 3, 1) := by decide +kernel
theorem dX0_worstBursting_28 : decode cX0_worstBursting 28 = .ok (.aaload, 1) := by decide +kernel
theorem dX0_worstBursting_29 : decode cX0_worstBursting 29 = .ok (.getfield 106, 3) := by decide +kernel
theorem dX0_worstBursting_32 : decode cX0_worstBursting 32 = .ok (.isub, 1) := by decide +kernel
theorem dX0_worstBursting_33 : decode cX0_worstBursting 33 = .ok (.istore 4, 2) := by decide +kernel
theorem dX0_worstBursting_35 : decode cX0_worstBursting 35 = .ok (.iload 4, 2) := by decide +kernel
theorem dX0_worstBursting_37 : decode cX0_worstBursting 37 = .ok (.iload_n 2, 1) := by decide +kernel
theorem dX0_worstBursting_38 : decode cX0_worstBursting 38 = .ok (.if_icmp .le 8, 3) := by decide +kernel
theorem dX0_worstBursting_41 : decode cX0_worstBursting 41 = .ok (.iload_n 3, 1) := by decide +kernel
theorem dX0_worstBursting_42 : decode cX0_worstBursting 42 = .ok (.istore_n 1, 1) := by decide +kernel
theorem dX0_worstBursting_43 : decode cX0_worstBursting 43 = .ok (.iload 4, 2) := by decide +kernel
theorem dX0_worstBursting_45 : decode cX0_worstBursting 45 = .ok (.istore_n 2, 1) := by decide +kernel
theorem dX0_worstBursting_46 : decode cX0_worstBursting 46 = .ok (.iinc 3 1, 3) := by decide +kernel
theorem dX0_worstBursting_49 : decode cX0_worstBursting 49 = .ok (.goto (-43), 3) := by decide +kernel
theorem dX0_worstBursting_52 : decode cX0_worstBursting 52 = .ok (.iload_n 1, 1) := by decide +kernel
theorem dX0_worstBursting_53 : decode cX0_worstBursting 53 = .ok (.ireturn, 1) := by decide +kernel
theorem dX0_standsWith_0 : decode cX0_standsWith 0 = .ok (.iload_n 1, 1) := by decide +kernel
theorem dX0_standsWith_1 : decode cX0_standsWith 1 = .ok (.iconst 0, 1) := by decide +kernel
theorem dX0_standsWith_2 : decode cX0_standsWith 2 = .ok (.bipush 19, 2) := by decide +kernel
theorem dX0_standsWith_4 : decode cX0_standsWith 4 = .ok (.invokestatic 67, 3) := by decide +kernel
theorem dX0_standsWith_7 : decode cX0_standsWith 7 = .ok (.ifCond .ne 5, 3) := by decide +kernel
theorem dX0_standsWith_10 : decode cX0_standsWith 10 = .ok (.iconst 0, 1) := by decide +kernel
theorem dX0_standsWith_11 : decode cX0_standsWith 11 = .ok (.ireturn, 1) := by decide +kernel
theorem dX0_standsWith_12 : decode cX0_standsWith 12 = .ok (.aload_n 0, 1) := by decide +kernel
theorem dX0_standsWith_13 : decode cX0_standsWith 13 = .ok (.getfield 9, 3) := by decide +kernel
theorem dX0_standsWith_16 : decode cX0_standsWith 16 = .ok (.iload_n 1, 1) := by decide +kernel
theorem dX0_standsWith_17 : decode cX0_standsWith 17 = .ok (.iload_n 2, 1) := by decide +kernel
theorem dX0_standsWith_18 : decode cX0_standsWith 18 = .ok (.iastore, 1) := by decide +kernel
theorem dX0_standsWith_19 : decode cX0_standsWith 19 = .ok (.aload_n 0, 1) := by decide +kernel
theorem dX0_standsWith_20 : decode cX0_standsWith 20 = .ok (.invokevirtual 64, 3) := by decide +kernel
theorem dX0_standsWith_23 : decode cX0_standsWith 23 = .ok (.aload_n 0, 1) := by decide +kernel
theorem dX0_standsWith_24 : decode cX0_standsWith 24 = .ok (.invokevirtual 116, 3) := by decide +kernel
theorem dX0_standsWith_27 : decode cX0_standsWith 27 = .ok (.iconst (-1), 1) := by decide +kernel
theorem dX0_standsWith_28 : decode cX0_standsWith 28 = .ok (.if_icmp .ne 7, 3) := by decide +kernel
theorem dX0_standsWith_31 : decode cX0_standsWith 31 = .ok (.iconst 1, 1) := by decide +kernel
theorem dX0_standsWith_32 : decode cX0_standsWith 32 = .ok (.goto 4, 3) := by decide +kernel
theorem dX0_standsWith_35 : decode cX0_standsWith 35 = .ok (.iconst 0, 1) := by decide +kernel
theorem dX0_standsWith_36 : decode cX0_standsWith 36 = .ok (.ireturn, 1) := by decide +kernel
theorem dX0_reckon_0 : decode cX0_reckon 0 = .ok (.iconst 0, 1) := by decide +kernel
theorem dX0_reckon_1 : decode cX0_reckon 1 = .ok (.istore_n 1, 1) := by decide +kernel
theorem dX0_reckon_2 : decode cX0_reckon 2 = .ok (.iload_n 1, 1) := by decide +kernel
theorem dX0_reckon_3 : decode cX0_reckon 3 = .ok (.aload_n 0, 1) := by decide +kernel
theorem dX0_reckon_4 : decode cX0_reckon 4 = .ok (.getfield 38, 3) := by decide +kernel
theorem dX0_reckon_7 : decode cX0_reckon 7 = .ok (.if_icmp .ge 19, 3) := by decide +kernel
theorem dX0_reckon_10 : decode cX0_reckon 10 = .ok (.aload_n 0, 1) := by decide +kernel
theorem dX0_reckon_11 : decode cX0_reckon 11 = .ok (.getfield 20, 3) := by decide +kernel
theorem dX0_reckon_14 : decode cX0_reckon 14 = .ok (.iload_n 1, 1) := by decide +kernel
theorem dX0_reckon_15 : decode cX0_reckon 15 = .ok (.aaload, 1) := by decide +kernel
theorem dX0_reckon_16 : decode cX0_reckon 16 = .ok (.iconst 0, 1) := by decide +kernel
theorem dX0_reckon_17 : decode cX0_reckon 17 = .ok (.putfield 122, 3) := by decide +kernel
theorem dX0_reckon_20 : decode cX0_reckon 20 = .ok (.iinc 1 1, 3) := by decide +kernel
theorem dX0_reckon_23 : decode cX0_reckon 23 = .ok (.goto (-21), 3) := by decide +kernel
theorem dX0_reckon_26 : decode cX0_reckon 26 = .ok (.aconst_null, 1) := by decide +kernel
theorem dX0_reckon_27 : decode cX0_reckon 27 = .ok (.astore_n 1, 1) := by decide +kernel
theorem dX0_reckon_28 : decode cX0_reckon 28 = .ok (.aload_n 0, 1) := by decide +kernel
theorem dX0_reckon_29 : decode cX0_reckon 29 = .ok (.iconst 0, 1) := by decide +kernel
theorem dX0_reckon_30 : decode cX0_reckon 30 = .ok (.invokevirtual 125, 3) := by decide +kernel
theorem dX0_reckon_33 : decode cX0_reckon 33 = .ok (.astore_n 2, 1) := by decide +kernel
theorem dX0_reckon_34 : decode cX0_reckon 34 = .ok (.iconst 0, 1) := by decide +kernel
theorem dX0_reckon_35 : decode cX0_reckon 35 = .ok (.istore_n 3, 1) := by decide +kernel
theorem dX0_reckon_36 : decode cX0_reckon 36 = .ok (.iload_n 3, 1) := by decide +kernel
theorem dX0_reckon_37 : decode cX0_reckon 37 = .ok (.bipush 20, 2) := by decide +kernel
theorem dX0_reckon_39 : decode cX0_reckon 39 = .ok (.if_icmp .ge 48, 3) := by decide +kernel
theorem dX0_reckon_42 : decode cX0_reckon 42 = .ok (.aload_n 2, 1) := by decide +kernel
theorem dX0_reckon_43 : decode cX0_reckon 43 = .ok (.ifnull 17, 3) := by decide +kernel
theorem dX0_reckon_46 : decode cX0_reckon 46 = .ok (.aload_n 2, 1) := by decide +kernel
theorem dX0_reckon_47 : decode cX0_reckon 47 = .ok (.getfield 128, 3) := by decide +kernel
theorem dX0_reckon_50 : decode cX0_reckon 50 = .ok (.iload_n 3, 1) := by decide +kernel
theorem dX0_reckon_51 : decode cX0_reckon 51 = .ok (.if_icmp .ge 9, 3) := by decide +kernel
theorem dX0_reckon_54 : decode cX0_reckon 54 = .ok (.aload_n 0, 1) := by decide +kernel
theorem dX0_reckon_55 : decode cX0_reckon 55 = .ok (.iload_n 3, 1) := by decide +kernel
theorem dX0_reckon_56 : decode cX0_reckon 56 = .ok (.invokevirtual 125, 3) := by decide +kernel
theorem dX0_reckon_59 : decode cX0_reckon 59 = .ok (.astore_n 2, 1) := by decide +kernel
theorem dX0_reckon_60 : decode cX0_reckon 60 = .ok (.aload_n 2, 1) := by decide +kernel
theorem dX0_reckon_61 : decode cX0_reckon 61 = .ok (.ifnull 13, 3) := by decide +kernel
theorem dX0_reckon_64 : decode cX0_reckon 64 = .ok (.aload_n 2, 1) := by decide +kernel
theorem dX0_reckon_65 : decode cX0_reckon 65 = .ok (.getfield 128, 3) := by decide +kernel
theorem dX0_reckon_68 : decode cX0_reckon 68 = .ok (.iload_n 3, 1) := by decide +kernel
theorem dX0_reckon_69 : decode cX0_reckon 69 = .ok (.if_icmp .ne 5, 3) := by decide +kernel
theorem dX0_reckon_72 : decode cX0_reckon 72 = .ok (.aload_n 2, 1) := by decide +kernel
theorem dX0_reckon_73 : decode cX0_reckon 73 = .ok (.astore_n 1, 1) := by decide +kernel
theorem dX0_reckon_74 : decode cX0_reckon 74 = .ok (.aload_n 0, 1) := by decide +kernel
theorem dX0_reckon_75 : decode cX0_reckon 75 = .ok (.iload_n 3, 1) := by decide +kernel
theorem dX0_reckon_76 : decode cX0_reckon 76 = .ok (.aload_n 1, 1) := by decide +kernel
theorem dX0_reckon_77 : decode cX0_reckon 77 = .ok (.aload_n 2, 1) := by decide +kernel
theorem dX0_reckon_78 : decode cX0_reckon 78 = .ok (.invokevirtual 129, 3) := by decide +kernel
theorem dX0_reckon_81 : decode cX0_reckon 81 = .ok (.iinc 3 1, 3) := by decide +kernel
theorem dX0_reckon_84 : decode cX0_reckon 84 = .ok (.goto (-48), 3) := by decide +kernel
theorem dX0_reckon_87 : decode cX0_reckon 87 = .ok (.return_, 1) := by decide +kernel
theorem dX0_nextWhole_0 : decode cX0_nextWhole 0 = .ok (.iconst 0, 1) := by decide +kernel
theorem dX0_nextWhole_1 : decode cX0_nextWhole 1 = .ok (.istore_n 2, 1) := by decide +kernel
theorem dX0_nextWhole_2 : decode cX0_nextWhole 2 = .ok (.iload_n 2, 1) := by decide +kernel
theorem dX0_nextWhole_3 : decode cX0_nextWhole 3 = .ok (.bipush 20, 2) := by decide +kernel
theorem dX0_nextWhole_5 : decode cX0_nextWhole 5 = .ok (.if_icmp .ge 52, 3) := by decide +kernel
theorem dX0_nextWhole_8 : decode cX0_nextWhole 8 = .ok (.aload_n 0, 1) := by decide +kernel
theorem dX0_nextWhole_9 : decode cX0_nextWhole 9 = .ok (.getfield 15, 3) := by decide +kernel
theorem dX0_nextWhole_12 : decode cX0_nextWhole 12 = .ok (.iload_n 2, 1) := by decide +kernel
theorem dX0_nextWhole_13 : decode cX0_nextWhole 13 = .ok (.iaload, 1) := by decide +kernel
theorem dX0_nextWhole_14 : decode cX0_nextWhole 14 = .ok (.istore_n 3, 1) := by decide +kernel
theorem dX0_nextWhole_15 : decode cX0_nextWhole 15 = .ok (.iload_n 2, 1) := by decide +kernel
theorem dX0_nextWhole_16 : decode cX0_nextWhole 16 = .ok (.iload_n 1, 1) := by decide +kernel
theorem dX0_nextWhole_17 : decode cX0_nextWhole 17 = .ok (.if_icmp .lt 34, 3) := by decide +kernel
theorem dX0_nextWhole_20 : decode cX0_nextWhole 20 = .ok (.iload_n 3, 1) := by decide +kernel
theorem dX0_nextWhole_21 : decode cX0_nextWhole 21 = .ok (.ifCond .lt 30, 3) := by decide +kernel
theorem dX0_nextWhole_24 : decode cX0_nextWhole 24 = .ok (.iload_n 3, 1) := by decide +kernel
theorem dX0_nextWhole_25 : decode cX0_nextWhole 25 = .ok (.aload_n 0, 1) := by decide +kernel
theorem dX0_nextWhole_26 : decode cX0_nextWhole 26 = .ok (.getfield 38, 3) := by decide +kernel
theorem dX0_nextWhole_29 : decode cX0_nextWhole 29 = .ok (.if_icmp .ge 22, 3) := by decide +kernel
theorem dX0_nextWhole_32 : decode cX0_nextWhole 32 = .ok (.aload_n 0, 1) := by decide +kernel
theorem dX0_nextWhole_33 : decode cX0_nextWhole 33 = .ok (.getfield 20, 3) := by decide +kernel
theorem dX0_nextWhole_36 : decode cX0_nextWhole 36 = .ok (.iload_n 3, 1) := by decide +kernel
theorem dX0_nextWhole_37 : decode cX0_nextWhole 37 = .ok (.aaload, 1) := by decide +kernel
theorem dX0_nextWhole_38 : decode cX0_nextWhole 38 = .ok (.getfield 61, 3) := by decide +kernel
theorem dX0_nextWhole_41 : decode cX0_nextWhole 41 = .ok (.ifCond .ne 10, 3) := by decide +kernel
theorem dX0_nextWhole_44 : decode cX0_nextWhole 44 = .ok (.aload_n 0, 1) := by decide +kernel
theorem dX0_nextWhole_45 : decode cX0_nextWhole 45 = .ok (.getfield 20, 3) := by decide +kernel
theorem dX0_nextWhole_48 : decode cX0_nextWhole 48 = .ok (.iload_n 3, 1) := by decide +kernel
theorem dX0_nextWhole_49 : decode cX0_nextWhole 49 = .ok (.aaload, 1) := by decide +kernel
theorem dX0_nextWhole_50 : decode cX0_nextWhole 50 = .ok (.areturn, 1) := by decide +kernel
theorem dX0_nextWhole_51 : decode cX0_nextWhole 51 = .ok (.iinc 2 1, 3) := by decide +kernel
theorem dX0_nextWhole_54 : decode cX0_nextWhole 54 = .ok (.goto (-52), 3) := by decide +kernel
theorem dX0_nextWhole_57 : decode cX0_nextWhole 57 = .ok (.aconst_null, 1) := by decide +kernel
theorem dX0_nextWhole_58 : decode cX0_nextWhole 58 = .ok (.areturn, 1) := by decide +kernel
theorem dX0_share_0 : decode cX0_share 0 = .ok (.bipush 10, 2) := by decide +kernel
theorem dX0_share_2 : decode cX0_share 2 = .ok (.aload_n 0, 1) := by decide +kernel
theorem dX0_share_3 : decode cX0_share 3 = .ok (.getfield 9, 3) := by decide +kernel
theorem dX0_share_6 : decode cX0_share 6 = .ok (.iload_n 1, 1) := by decide +kernel
theorem dX0_share_7 : decode cX0_share 7 = .ok (.iaload, 1) := by decide +kernel
theorem dX0_share_8 : decode cX0_share 8 = .ok (.imul, 1) := by decide +kernel
theorem dX0_share_9 : decode cX0_share 9 = .ok (.istore 4, 2) := by decide +kernel
theorem dX0_share_11 : decode cX0_share 11 = .ok (.aload_n 2, 1) := by decide +kernel
theorem dX0_share_12 : decode cX0_share 12 = .ok (.ifnonnull 19, 3) := by decide +kernel
theorem dX0_share_15 : decode cX0_share 15 = .ok (.aload_n 3, 1) := by decide +kernel
theorem dX0_share_16 : decode cX0_share 16 = .ok (.ifnull 14, 3) := by decide +kernel
theorem dX0_share_19 : decode cX0_share 19 = .ok (.aload_n 3, 1) := by decide +kernel
theorem dX0_share_20 : decode cX0_share 20 = .ok (.dup, 1) := by decide +kernel
theorem dX0_share_21 : decode cX0_share 21 = .ok (.getfield 122, 3) := by decide +kernel
theorem dX0_share_24 : decode cX0_share 24 = .ok (.iload 4, 2) := by decide +kernel
theorem dX0_share_26 : decode cX0_share 26 = .ok (.iadd, 1) := by decide +kernel
theorem dX0_share_27 : decode cX0_share 27 = .ok (.putfield 122, 3) := by decide +kernel
theorem dX0_share_30 : decode cX0_share 30 = .ok (.return_, 1) := by decide +kernel
theorem dX0_share_31 : decode cX0_share 31 = .ok (.aload_n 3, 1) := by decide +kernel
theorem dX0_share_32 : decode cX0_share 32 = .ok (.ifnonnull 15, 3) := by decide +kernel
theorem dX0_share_35 : decode cX0_share 35 = .ok (.aload_n 2, 1) := by decide +kernel
theorem dX0_share_36 : decode cX0_share 36 = .ok (.dup, 1) := by decide +kernel
theorem dX0_share_37 : decode cX0_share 37 = .ok (.getfield 122, 3) := by decide +kernel
theorem dX0_share_40 : decode cX0_share 40 = .ok (.iload 4, 2) := by decide +kernel
theorem dX0_share_42 : decode cX0_share 42 = .ok (.iadd, 1) := by decide +kernel
theorem dX0_share_43 : decode cX0_share 43 = .ok (.putfield 122, 3) := by decide +kernel
theorem dX0_share_46 : decode cX0_share 46 = .ok (.return_, 1) := by decide +kernel
theorem dX0_share_47 : decode cX0_share 47 = .ok (.aload_n 3, 1) := by decide +kernel
theorem dX0_share_48 : decode cX0_share 48 = .ok (.getfield 128, 3) := by decide +kernel
theorem dX0_share_51 : decode cX0_share 51 = .ok (.aload_n 2, 1) := by decide +kernel
theorem dX0_share_52 : decode cX0_share 52 = .ok (.getfield 128, 3) := by decide +kernel
theorem dX0_share_55 : decode cX0_share 55 = .ok (.isub, 1) := by decide +kernel
theorem dX0_share_56 : decode cX0_share 56 = .ok (.istore 5, 2) := by decide +kernel
theorem dX0_share_58 : decode cX0_share 58 = .ok (.iload 5, 2) := by decide +kernel
theorem dX0_share_60 : decode cX0_share 60 = .ok (.ifCond .gt 7, 3) := by decide +kernel
theorem dX0_share_63 : decode cX0_share 63 = .ok (.iconst 0, 1) := by decide +kernel
theorem dX0_share_64 : decode cX0_share 64 = .ok (.goto 19, 3) := by decide +kernel
theorem dX0_share_67 : decode cX0_share 67 = .ok (.aload_n 0, 1) := by decide +kernel
theorem dX0_share_68 : decode cX0_share 68 = .ok (.getfield 9, 3) := by decide +kernel
theorem dX0_share_71 : decode cX0_share 71 = .ok (.iload_n 1, 1) := by decide +kernel
theorem dX0_share_72 : decode cX0_share 72 = .ok (.iaload, 1) := by decide +kernel
theorem dX0_share_73 : decode cX0_share 73 = .ok (.iload_n 1, 1) := by decide +kernel
theorem dX0_share_74 : decode cX0_share 74 = .ok (.aload_n 2, 1) := by decide +kernel
theorem dX0_share_75 : decode cX0_share 75 = .ok (.getfield 128, 3) := by decide +kernel
theorem dX0_share_78 : decode cX0_share 78 = .ok (.isub, 1) := by decide +kernel
theorem dX0_share_79 : decode cX0_share 79 = .ok (.imul, 1) := by decide +kernel
theorem dX0_share_80 : decode cX0_share 80 = .ok (.iload 5, 2) := by decide +kernel
theorem dX0_share_82 : decode cX0_share 82 = .ok (.idiv, 1) := by decide +kernel
theorem dX0_share_83 : decode cX0_share 83 = .ok (.istore 6, 2) := by decide +kernel
theorem dX0_share_85 : decode cX0_share 85 = .ok (.aload_n 3, 1) := by decide +kernel
theorem dX0_share_86 : decode cX0_share 86 = .ok (.dup, 1) := by decide +kernel
theorem dX0_share_87 : decode cX0_share 87 = .ok (.getfield 122, 3) := by decide +kernel
theorem dX0_share_90 : decode cX0_share 90 = .ok (.bipush 10, 2) := by decide +kernel
theorem dX0_share_92 : decode cX0_share 92 = .ok (.iload 6, 2) := by decide +kernel
theorem dX0_share_94 : decode cX0_share 94 = .ok (.imul, 1) := by decide +kernel
theorem dX0_share_95 : decode cX0_share 95 = .ok (.iadd, 1) := by decide +kernel
theorem dX0_share_96 : decode cX0_share 96 = .ok (.putfield 122, 3) := by decide +kernel
theorem dX0_share_99 : decode cX0_share 99 = .ok (.aload_n 2, 1) := by decide +kernel
theorem dX0_share_100 : decode cX0_share 100 = .ok (.dup, 1) := by decide +kernel
theorem dX0_share_101 : decode cX0_share 101 = .ok (.getfield 122, 3) := by decide +kernel
theorem dX0_share_104 : decode cX0_share 104 = .ok (.iload 4, 2) := by decide +kernel
theorem dX0_share_106 : decode cX0_share 106 = .ok (.bipush 10, 2) := by decide +kernel
theorem dX0_share_108 : decode cX0_share 108 = .ok (.iload 6, 2) := by decide +kernel
theorem dX0_share_110 : decode cX0_share 110 = .ok (.imul, 1) := by decide +kernel
theorem dX0_share_111 : decode cX0_share 111 = .ok (.isub, 1) := by decide +kernel
theorem dX0_share_112 : decode cX0_share 112 = .ok (.iadd, 1) := by decide +kernel
theorem dX0_share_113 : decode cX0_share 113 = .ok (.putfield 122, 3) := by decide +kernel
theorem dX0_share_116 : decode cX0_share 116 = .ok (.return_, 1) := by decide +kernel
theorem dX0_walkToDoubtful_0 : decode cX0_walkToDoubtful 0 = .ok (.bipush 20, 2) := by decide +kernel
theorem dX0_walkToDoubtful_2 : decode cX0_walkToDoubtful 2 = .ok (.istore_n 1, 1) := by decide +kernel
theorem dX0_walkToDoubtful_3 : decode cX0_walkToDoubtful 3 = .ok (.iconst (-1), 1) := by decide +kernel
theorem dX0_walkToDoubtful_4 : decode cX0_walkToDoubtful 4 = .ok (.istore_n 2, 1) := by decide +kernel
theorem dX0_walkToDoubtful_5 : decode cX0_walkToDoubtful 5 = .ok (.iconst 0, 1) := by decide +kernel
theorem dX0_walkToDoubtful_6 : decode cX0_walkToDoubtful 6 = .ok (.istore_n 3, 1) := by decide +kernel
theorem dX0_walkToDoubtful_7 : decode cX0_walkToDoubtful 7 = .ok (.iload_n 3, 1) := by decide +kernel
theorem dX0_walkToDoubtful_8 : decode cX0_walkToDoubtful 8 = .ok (.aload_n 0, 1) := by decide +kernel
theorem dX0_walkToDoubtful_9 : decode cX0_walkToDoubtful 9 = .ok (.getfield 38, 3) := by decide +kernel
theorem dX0_walkToDoubtful_12 : decode cX0_walkToDoubtful 12 = .ok (.if_icmp .ge 61, 3) := by decide +kernel
theorem dX0_walkToDoubtful_15 : decode cX0_walkToDoubtful 15 = .ok (.aload_n 0, 1) := by decide +kernel
theorem dX0_walkToDoubtful_16 : decode cX0_walkToDoubtful 16 = .ok (.getfield 20, 3) := by decide +kernel
theorem dX0_walkToDoubtful_19 : decode cX0_walkToDoubtful 19 = .ok (.iload_n 3, 1) := by decide +kernel
theorem dX0_walkToDoubtful_20 : decode cX0_walkToDoubtful 20 = .ok (.aaload, 1) := by decide +kernel
theorem dX0_walkToDoubtful_21 : decode cX0_walkToDoubtful 21 = .ok (.astore 4, 2) := by decide +kernel
theorem dX0_walkToDoubtful_23 : decode cX0_walkToDoubtful 23 = .ok (.aload 4, 2) := by decide +kernel
theorem dX0_walkToDoubtful_25 : decode cX0_walkToDoubtful 25 = .ok (.getfield 57, 3) := by decide +kernel
theorem dX0_walkToDoubtful_28 : decode cX0_walkToDoubtful 28 = .ok (.ifCond .ne 39, 3) := by decide +kernel
theorem dX0_walkToDoubtful_31 : decode cX0_walkToDoubtful 31 = .ok (.aload 4, 2) := by decide +kernel
theorem dX0_walkToDoubtful_33 : decode cX0_walkToDoubtful 33 = .ok (.invokevirtual 133, 3) := by decide +kernel
theorem dX0_walkToDoubtful_36 : decode cX0_walkToDoubtful 36 = .ok (.ifCond .ne 11, 3) := by decide +kernel
theorem dX0_walkToDoubtful_39 : decode cX0_walkToDoubtful 39 = .ok (.aload 4, 2) := by decide +kernel
theorem dX0_walkToDoubtful_41 : decode cX0_walkToDoubtful 41 = .ok (.invokevirtual 137, 3) := by decide +kernel
theorem dX0_walkToDoubtful_44 : decode cX0_walkToDoubtful 44 = .ok (.ifCond .eq 23, 3) := by decide +kernel
theorem dX0_walkToDoubtful_47 : decode cX0_walkToDoubtful 47 = .ok (.iload_n 1, 1) := by decide +kernel
theorem dX0_walkToDoubtful_48 : decode cX0_walkToDoubtful 48 = .ok (.aload 4, 2) := by decide +kernel
theorem dX0_walkToDoubtful_50 : decode cX0_walkToDoubtful 50 = .ok (.getfield 128, 3) := by decide +kernel
theorem dX0_walkToDoubtful_53 : decode cX0_walkToDoubtful 53 = .ok (.invokestatic 140, 3) := by decide +kernel
theorem dX0_walkToDoubtful_56 : decode cX0_walkToDoubtful 56 = .ok (.istore_n 1, 1) := by decide +kernel
theorem dX0_walkToDoubtful_57 : decode cX0_walkToDoubtful 57 = .ok (.iload_n 2, 1) := by decide +kernel
theorem dX0_walkToDoubtful_58 : decode cX0_walkToDoubtful 58 = .ok (.aload 4, 2) := by decide +kernel
theorem dX0_walkToDoubtful_60 : decode cX0_walkToDoubtful 60 = .ok (.getfield 128, 3) := by decide +kernel
theorem dX0_walkToDoubtful_63 : decode cX0_walkToDoubtful 63 = .ok (.invokestatic 144, 3) := by decide +kernel
theorem dX0_walkToDoubtful_66 : decode cX0_walkToDoubtful 66 = .ok (.istore_n 2, 1) := by decide +kernel
theorem dX0_walkToDoubtful_67 : decode cX0_walkToDoubtful 67 = .ok (.iinc 3 1, 3) := by decide +kernel
theorem dX0_walkToDoubtful_70 : decode cX0_walkToDoubtful 70 = .ok (.goto (-63), 3) := by decide +kernel
theorem dX0_walkToDoubtful_73 : decode cX0_walkToDoubtful 73 = .ok (.iload_n 2, 1) := by decide +kernel
theorem dX0_walkToDoubtful_74 : decode cX0_walkToDoubtful 74 = .ok (.iload_n 1, 1) := by decide +kernel
theorem dX0_walkToDoubtful_75 : decode cX0_walkToDoubtful 75 = .ok (.if_icmp .ge 5, 3) := by decide +kernel
theorem dX0_walkToDoubtful_78 : decode cX0_walkToDoubtful 78 = .ok (.iconst 0, 1) := by decide +kernel
theorem dX0_walkToDoubtful_79 : decode cX0_walkToDoubtful 79 = .ok (.ireturn, 1) := by decide +kernel
theorem dX0_walkToDoubtful_80 : decode cX0_walkToDoubtful 80 = .ok (.iload_n 2, 1) := by decide +kernel
theorem dX0_walkToDoubtful_81 : decode cX0_walkToDoubtful 81 = .ok (.iload_n 1, 1) := by decide +kernel
theorem dX0_walkToDoubtful_82 : decode cX0_walkToDoubtful 82 = .ok (.isub, 1) := by decide +kernel
theorem dX0_walkToDoubtful_83 : decode cX0_walkToDoubtful 83 = .ok (.aload_n 0, 1) := by decide +kernel
theorem dX0_walkToDoubtful_84 : decode cX0_walkToDoubtful 84 = .ok (.getfield 48, 3) := by decide +kernel
theorem dX0_walkToDoubtful_87 : decode cX0_walkToDoubtful 87 = .ok (.iload_n 1, 1) := by decide +kernel
theorem dX0_walkToDoubtful_88 : decode cX0_walkToDoubtful 88 = .ok (.isub, 1) := by decide +kernel
theorem dX0_walkToDoubtful_89 : decode cX0_walkToDoubtful 89 = .ok (.invokestatic 90, 3) := by decide +kernel
theorem dX0_walkToDoubtful_92 : decode cX0_walkToDoubtful 92 = .ok (.aload_n 0, 1) := by decide +kernel
theorem dX0_walkToDoubtful_93 : decode cX0_walkToDoubtful 93 = .ok (.getfield 48, 3) := by decide +kernel
theorem dX0_walkToDoubtful_96 : decode cX0_walkToDoubtful 96 = .ok (.iload_n 2, 1) := by decide +kernel
theorem dX0_walkToDoubtful_97 : decode cX0_walkToDoubtful 97 = .ok (.isub, 1) := by decide +kernel
theorem dX0_walkToDoubtful_98 : decode cX0_walkToDoubtful 98 = .ok (.invokestatic 90, 3) := by decide +kernel
theorem dX0_walkToDoubtful_101 : decode cX0_walkToDoubtful 101 = .ok (.invokestatic 140, 3) := by decide +kernel
theorem dX0_walkToDoubtful_104 : decode cX0_walkToDoubtful 104 = .ok (.iadd, 1) := by decide +kernel
theorem dX0_walkToDoubtful_105 : decode cX0_walkToDoubtful 105 = .ok (.ireturn, 1) := by decide +kernel
theorem dX0_allLoads_0 : decode cX0_allLoads 0 = .ok (.iconst 0, 1) := by decide +kernel
theorem dX0_allLoads_1 : decode cX0_allLoads 1 = .ok (.istore_n 1, 1) := by decide +kernel
theorem dX0_allLoads_2 : decode cX0_allLoads 2 = .ok (.iconst 0, 1) := by decide +kernel
theorem dX0_allLoads_3 : decode cX0_allLoads 3 = .ok (.istore_n 2, 1) := by decide +kernel
theorem dX0_allLoads_4 : decode cX0_allLoads 4 = .ok (.iload_n 2, 1) := by decide +kernel
theorem dX0_allLoads_5 : decode cX0_allLoads 5 = .ok (.bipush 20, 2) := by decide +kernel
theorem dX0_allLoads_7 : decode cX0_allLoads 7 = .ok (.if_icmp .ge 18, 3) := by decide +kernel
theorem dX0_allLoads_10 : decode cX0_allLoads 10 = .ok (.iload_n 1, 1) := by decide +kernel
theorem dX0_allLoads_11 : decode cX0_allLoads 11 = .ok (.aload_n 0, 1) := by decide +kernel
theorem dX0_allLoads_12 : decode cX0_allLoads 12 = .ok (.getfield 9, 3) := by decide +kernel
theorem dX0_allLoads_15 : decode cX0_allLoads 15 = .ok (.iload_n 2, 1) := by decide +kernel
theorem dX0_allLoads_16 : decode cX0_allLoads 16 = .ok (.iaload, 1) := by decide +kernel
theorem dX0_allLoads_17 : decode cX0_allLoads 17 = .ok (.iadd, 1) := by decide +kernel
theorem dX0_allLoads_18 : decode cX0_allLoads 18 = .ok (.istore_n 1, 1) := by decide +kernel
theorem dX0_allLoads_19 : decode cX0_allLoads 19 = .ok (.iinc 2 1, 3) := by decide +kernel
theorem dX0_allLoads_22 : decode cX0_allLoads 22 = .ok (.goto (-18), 3) := by decide +kernel
theorem dX0_allLoads_25 : decode cX0_allLoads 25 = .ok (.iload_n 1, 1) := by decide +kernel
theorem dX0_allLoads_26 : decode cX0_allLoads 26 = .ok (.ireturn, 1) := by decide +kernel
theorem dX0_wholeWires_0 : decode cX0_wholeWires 0 = .ok (.iconst 0, 1) := by decide +kernel
theorem dX0_wholeWires_1 : decode cX0_wholeWires 1 = .ok (.istore_n 1, 1) := by decide +kernel
theorem dX0_wholeWires_2 : decode cX0_wholeWires 2 = .ok (.iconst 0, 1) := by decide +kernel
theorem dX0_wholeWires_3 : decode cX0_wholeWires 3 = .ok (.istore_n 2, 1) := by decide +kernel
theorem dX0_wholeWires_4 : decode cX0_wholeWires 4 = .ok (.iload_n 2, 1) := by decide +kernel
theorem dX0_wholeWires_5 : decode cX0_wholeWires 5 = .ok (.aload_n 0, 1) := by decide +kernel
theorem dX0_wholeWires_6 : decode cX0_wholeWires 6 = .ok (.getfield 38, 3) := by decide +kernel
theorem dX0_wholeWires_9 : decode cX0_wholeWires 9 = .ok (.if_icmp .ge 32, 3) := by decide +kernel
theorem dX0_wholeWires_12 : decode cX0_wholeWires 12 = .ok (.iload_n 1, 1) := by decide +kernel
theorem dX0_wholeWires_13 : decode cX0_wholeWires 13 = .ok (.aload_n 0, 1) := by decide +kernel
theorem dX0_wholeWires_14 : decode cX0_wholeWires 14 = .ok (.getfield 20, 3) := by decide +kernel
theorem dX0_wholeWires_17 : decode cX0_wholeWires 17 = .ok (.iload_n 2, 1) := by decide +kernel
theorem dX0_wholeWires_18 : decode cX0_wholeWires 18 = .ok (.aaload, 1) := by decide +kernel
theorem dX0_wholeWires_19 : decode cX0_wholeWires 19 = .ok (.getfield 61, 3) := by decide +kernel
theorem dX0_wholeWires_22 : decode cX0_wholeWires 22 = .ok (.ifCond .ne 7, 3) := by decide +kernel
theorem dX0_wholeWires_25 : decode cX0_wholeWires 25 = .ok (.iconst 1, 1) := by decide +kernel
theorem dX0_wholeWires_26 : decode cX0_wholeWires 26 = .ok (.goto 4, 3) := by decide +kernel
theorem dX0_wholeWires_29 : decode cX0_wholeWires 29 = .ok (.iconst 0, 1) := by decide +kernel
theorem dX0_wholeWires_30 : decode cX0_wholeWires 30 = .ok (.invokestatic 147, 3) := by decide +kernel
theorem dX0_wholeWires_33 : decode cX0_wholeWires 33 = .ok (.iadd, 1) := by decide +kernel
theorem dX0_wholeWires_34 : decode cX0_wholeWires 34 = .ok (.istore_n 1, 1) := by decide +kernel
theorem dX0_wholeWires_35 : decode cX0_wholeWires 35 = .ok (.iinc 2 1, 3) := by decide +kernel
theorem dX0_wholeWires_38 : decode cX0_wholeWires 38 = .ok (.goto (-34), 3) := by decide +kernel
theorem dX0_wholeWires_41 : decode cX0_wholeWires 41 = .ok (.iload_n 1, 1) := by decide +kernel
theorem dX0_wholeWires_42 : decode cX0_wholeWires 42 = .ok (.ireturn, 1) := by decide +kernel
theorem dX0_slackWires_0 : decode cX0_slackWires 0 = .ok (.iconst 0, 1) := by decide +kernel
theorem dX0_slackWires_1 : decode cX0_slackWires 1 = .ok (.istore_n 1, 1) := by decide +kernel
theorem dX0_slackWires_2 : decode cX0_slackWires 2 = .ok (.iconst 0, 1) := by decide +kernel
theorem dX0_slackWires_3 : decode cX0_slackWires 3 = .ok (.istore_n 2, 1) := by decide +kernel
theorem dX0_slackWires_4 : decode cX0_slackWires 4 = .ok (.iload_n 2, 1) := by decide +kernel
theorem dX0_slackWires_5 : decode cX0_slackWires 5 = .ok (.aload_n 0, 1) := by decide +kernel
theorem dX0_slackWires_6 : decode cX0_slackWires 6 = .ok (.getfield 38, 3) := by decide +kernel
theorem dX0_slackWires_9 : decode cX0_slackWires 9 = .ok (.if_icmp .ge 24, 3) := by decide +kernel
theorem dX0_slackWires_12 : decode cX0_slackWires 12 = .ok (.iload_n 1, 1) := by decide +kernel
theorem dX0_slackWires_13 : decode cX0_slackWires 13 = .ok (.aload_n 0, 1) := by decide +kernel
theorem dX0_slackWires_14 : decode cX0_slackWires 14 = .ok (.getfield 20, 3) := by decide +kernel
theorem dX0_slackWires_17 : decode cX0_slackWires 17 = .ok (.iload_n 2, 1) := by decide +kernel
theorem dX0_slackWires_18 : decode cX0_slackWires 18 = .ok (.aaload, 1) := by decide +kernel
theorem dX0_slackWires_19 : decode cX0_slackWires 19 = .ok (.invokevirtual 151, 3) := by decide +kernel
theorem dX0_slackWires_22 : decode cX0_slackWires 22 = .ok (.invokestatic 147, 3) := by decide +kernel
theorem dX0_slackWires_25 : decode cX0_slackWires 25 = .ok (.iadd, 1) := by decide +kernel
theorem dX0_slackWires_26 : decode cX0_slackWires 26 = .ok (.istore_n 1, 1) := by decide +kernel
theorem dX0_slackWires_27 : decode cX0_slackWires 27 = .ok (.iinc 2 1, 3) := by decide +kernel
theorem dX0_slackWires_30 : decode cX0_slackWires 30 = .ok (.goto (-26), 3) := by decide +kernel
theorem dX0_slackWires_33 : decode cX0_slackWires 33 = .ok (.iload_n 1, 1) := by decide +kernel
theorem dX0_slackWires_34 : decode cX0_slackWires 34 = .ok (.ireturn, 1) := by decide +kernel
theorem dX0_tooTightWires_0 : decode cX0_tooTightWires 0 = .ok (.iconst 0, 1) := by decide +kernel
theorem dX0_tooTightWires_1 : decode cX0_tooTightWires 1 = .ok (.istore_n 1, 1) := by decide +kernel
theorem dX0_tooTightWires_2 : decode cX0_tooTightWires 2 = .ok (.iconst 0, 1) := by decide +kernel
theorem dX0_tooTightWires_3 : decode cX0_tooTightWires 3 = .ok (.istore_n 2, 1) := by decide +kernel
theorem dX0_tooTightWires_4 : decode cX0_tooTightWires 4 = .ok (.iload_n 2, 1) := by decide +kernel
theorem dX0_tooTightWires_5 : decode cX0_tooTightWires 5 = .ok (.aload_n 0, 1) := by decide +kernel
theorem dX0_tooTightWires_6 : decode cX0_tooTightWires 6 = .ok (.getfield 38, 3) := by decide +kernel
theorem dX0_tooTightWires_9 : decode cX0_tooTightWires 9 = .ok (.if_icmp .ge 28, 3) := by decide +kernel
theorem dX0_tooTightWires_12 : decode cX0_tooTightWires 12 = .ok (.iload_n 1, 1) := by decide +kernel
theorem dX0_tooTightWires_13 : decode cX0_tooTightWires 13 = .ok (.aload_n 0, 1) := by decide +kernel
theorem dX0_tooTightWires_14 : decode cX0_tooTightWires 14 = .ok (.getfield 20, 3) := by decide +kernel
theorem dX0_tooTightWires_17 : decode cX0_tooTightWires 17 = .ok (.iload_n 2, 1) := by decide +kernel
theorem dX0_tooTightWires_18 : decode cX0_tooTightWires 18 = .ok (.aaload, 1) := by decide +kernel
theorem dX0_tooTightWires_19 : decode cX0_tooTightWires 19 = .ok (.aload_n 0, 1) := by decide +kernel
theorem dX0_tooTightWires_20 : decode cX0_tooTightWires 20 = .ok (.getfield 29, 3) := by decide +kernel
theorem dX0_tooTightWires_23 : decode cX0_tooTightWires 23 = .ok (.invokevirtual 154, 3) := by decide +kernel
theorem dX0_tooTightWires_26 : decode cX0_tooTightWires 26 = .ok (.invokestatic 147, 3) := by decide +kernel
theorem dX0_tooTightWires_29 : decode cX0_tooTightWires 29 = .ok (.iadd, 1) := by decide +kernel
theorem dX0_tooTightWires_30 : decode cX0_tooTightWires 30 = .ok (.istore_n 1, 1) := by decide +kernel
theorem dX0_tooTightWires_31 : decode cX0_tooTightWires 31 = .ok (.iinc 2 1, 3) := by decide +kernel
theorem dX0_tooTightWires_34 : decode cX0_tooTightWires 34 = .ok (.goto (-30), 3) := by decide +kernel
theorem dX0_tooTightWires_37 : decode cX0_tooTightWires 37 = .ok (.iload_n 1, 1) := by decide +kernel
theorem dX0_tooTightWires_38 : decode cX0_tooTightWires 38 = .ok (.ireturn, 1) := by decide +kernel
theorem dX1_init_0 : decode cX1_init 0 = .ok (.aload_n 0, 1) := by decide +kernel
theorem dX1_init_1 : decode cX1_init 1 = .ok (.invokespecial 3, 3) := by decide +kernel
theorem dX1_init_4 : decode cX1_init 4 = .ok (.aload_n 0, 1) := by decide +kernel
theorem dX1_init_5 : decode cX1_init 5 = .ok (.bipush 7, 2) := by decide +kernel
theorem dX1_init_7 : decode cX1_init 7 = .ok (.anewarray 9, 3) := by decide +kernel
theorem dX1_init_10 : decode cX1_init 10 = .ok (.putfield 11, 3) := by decide +kernel
theorem dX1_init_13 : decode cX1_init 13 = .ok (.iconst 0, 1) := by decide +kernel
theorem dX1_init_14 : decode cX1_init 14 = .ok (.istore_n 1, 1) := by decide +kernel
theorem dX1_init_15 : decode cX1_init 15 = .ok (.iload_n 1, 1) := by decide +kernel
theorem dX1_init_16 : decode cX1_init 16 = .ok (.bipush 6, 2) := by decide +kernel
theorem dX1_init_18 : decode cX1_init 18 = .ok (.if_icmp .gt 22, 3) := by decide +kernel
theorem dX1_init_21 : decode cX1_init 21 = .ok (.aload_n 0, 1) := by decide +kernel
theorem dX1_init_22 : decode cX1_init 22 = .ok (.getfield 11, 3) := by decide +kernel
theorem dX1_init_25 : decode cX1_init 25 = .ok (.iload_n 1, 1) := by decide +kernel
theorem dX1_init_26 : decode cX1_init 26 = .ok (.new 9, 3) := by decide +kernel
theorem dX1_init_29 : decode cX1_init 29 = .ok (.dup, 1) := by decide +kernel
theorem dX1_init_30 : decode cX1_init 30 = .ok (.invokespecial 17, 3) := by decide +kernel
theorem dX1_init_33 : decode cX1_init 33 = .ok (.aastore, 1) := by decide +kernel
theorem dX1_init_34 : decode cX1_init 34 = .ok (.iinc 1 1, 3) := by decide +kernel
theorem dX1_init_37 : decode cX1_init 37 = .ok (.goto (-22), 3) := by decide +kernel
theorem dX1_init_40 : decode cX1_init 40 = .ok (.return_, 1) := by decide +kernel
theorem dX1_note_0 : decode cX1_note 0 = .ok (.aload_n 0, 1) := by decide +kernel
theorem dX1_note_1 : decode cX1_note 1 = .ok (.getfield 18, 3) := by decide +kernel
theorem dX1_note_4 : decode cX1_note 4 = .ok (.iconst 0, 1) := by decide +kernel
theorem dX1_note_5 : decode cX1_note 5 = .ok (.bipush 6, 2) := by decide +kernel
theorem dX1_note_7 : decode cX1_note 7 = .ok (.invokestatic 22, 3) := by decide +kernel
theorem dX1_note_10 : decode cX1_note 10 = .ok (.ifCond .eq 16, 3) := by decide +kernel
theorem dX1_note_13 : decode cX1_note 13 = .ok (.aload_n 0, 1) := by decide +kernel
theorem dX1_note_14 : decode cX1_note 14 = .ok (.getfield 11, 3) := by decide +kernel
theorem dX1_note_17 : decode cX1_note 17 = .ok (.aload_n 0, 1) := by decide +kernel
theorem dX1_note_18 : decode cX1_note 18 = .ok (.getfield 18, 3) := by decide +kernel
theorem dX1_note_21 : decode cX1_note 21 = .ok (.aaload, 1) := by decide +kernel
theorem dX1_note_22 : decode cX1_note 22 = .ok (.aload_n 1, 1) := by decide +kernel
theorem dX1_note_23 : decode cX1_note 23 = .ok (.invokevirtual 26, 3) := by decide +kernel
theorem dX1_note_26 : decode cX1_note 26 = .ok (.return_, 1) := by decide +kernel
theorem dX1_keepUnlessError_0 : decode cX1_keepUnlessError 0 = .ok (.iload_n 1, 1) := by decide +kernel
theorem dX1_keepUnlessError_1 : decode cX1_keepUnlessError 1 = .ok (.invokestatic 30, 3) := by decide +kernel
theorem dX1_keepUnlessError_4 : decode cX1_keepUnlessError 4 = .ok (.ifCond .eq 5, 3) := by decide +kernel
theorem dX1_keepUnlessError_7 : decode cX1_keepUnlessError 7 = .ok (.iload_n 1, 1) := by decide +kernel
theorem dX1_keepUnlessError_8 : decode cX1_keepUnlessError 8 = .ok (.ireturn, 1) := by decide +kernel
theorem dX1_keepUnlessError_9 : decode cX1_keepUnlessError 9 = .ok (.aload_n 0, 1) := by decide +kernel
theorem dX1_keepUnlessError_10 : decode cX1_keepUnlessError 10 = .ok (.getfield 18, 3) := by decide +kernel
theorem dX1_keepUnlessError_13 : decode cX1_keepUnlessError 13 = .ok (.bipush 6, 2) := by decide +kernel
theorem dX1_keepUnlessError_15 : decode cX1_keepUnlessError 15 = .ok (.if_icmp .ge 16, 3) := by decide +kernel
theorem dX1_keepUnlessError_18 : decode cX1_keepUnlessError 18 = .ok (.aload_n 0, 1) := by decide +kernel
theorem dX1_keepUnlessError_19 : decode cX1_keepUnlessError 19 = .ok (.dup, 1) := by decide +kernel
theorem dX1_keepUnlessError_20 : decode cX1_keepUnlessError 20 = .ok (.getfield 18, 3) := by decide +kernel
theorem dX1_keepUnlessError_23 : decode cX1_keepUnlessError 23 = .ok (.iconst 1, 1) := by decide +kernel
theorem dX1_keepUnlessError_24 : decode cX1_keepUnlessError 24 = .ok (.iadd, 1) := by decide +kernel
theorem dX1_keepUnlessError_25 : decode cX1_keepUnlessError 25 = .ok (.putfield 18, 3) := by decide +kernel
theorem dX1_keepUnlessError_28 : decode cX1_keepUnlessError 28 = .ok (.goto 7, 3) := by decide +kernel
theorem dX1_keepUnlessError_31 : decode cX1_keepUnlessError 31 = .ok (.aload_n 0, 1) := by decide +kernel
theorem dX1_keepUnlessError_32 : decode cX1_keepUnlessError 32 = .ok (.invokevirtual 34, 3) := by decide +kernel
theorem dX1_keepUnlessError_35 : decode cX1_keepUnlessError 35 = .ok (.iload_n 1, 1) := by decide +kernel
theorem dX1_keepUnlessError_36 : decode cX1_keepUnlessError 36 = .ok (.ireturn, 1) := by decide +kernel
theorem dX1_dropOldest_0 : decode cX1_dropOldest 0 = .ok (.aload_n 0, 1) := by decide +kernel
theorem dX1_dropOldest_1 : decode cX1_dropOldest 1 = .ok (.getfield 11, 3) := by decide +kernel
theorem dX1_dropOldest_4 : decode cX1_dropOldest 4 = .ok (.iconst 0, 1) := by decide +kernel
theorem dX1_dropOldest_5 : decode cX1_dropOldest 5 = .ok (.aaload, 1) := by decide +kernel
theorem dX1_dropOldest_6 : decode cX1_dropOldest 6 = .ok (.astore_n 1, 1) := by decide +kernel
theorem dX1_dropOldest_7 : decode cX1_dropOldest 7 = .ok (.iconst 0, 1) := by decide +kernel
theorem dX1_dropOldest_8 : decode cX1_dropOldest 8 = .ok (.istore_n 2, 1) := by decide +kernel
theorem dX1_dropOldest_9 : decode cX1_dropOldest 9 = .ok (.iload_n 2, 1) := by decide +kernel
theorem dX1_dropOldest_10 : decode cX1_dropOldest 10 = .ok (.bipush 6, 2) := by decide +kernel
theorem dX1_dropOldest_12 : decode cX1_dropOldest 12 = .ok (.if_icmp .ge 23, 3) := by decide +kernel
theorem dX1_dropOldest_15 : decode cX1_dropOldest 15 = .ok (.aload_n 0, 1) := by decide +kernel
theorem dX1_dropOldest_16 : decode cX1_dropOldest 16 = .ok (.getfield 11, 3) := by decide +kernel
theorem dX1_dropOldest_19 : decode cX1_dropOldest 19 = .ok (.iload_n 2, 1) := by decide +kernel
theorem dX1_dropOldest_20 : decode cX1_dropOldest 20 = .ok (.aload_n 0, 1) := by decide +kernel
theorem dX1_dropOldest_21 : decode cX1_dropOldest 21 = .ok (.getfield 11, 3) := by decide +kernel
theorem dX1_dropOldest_24 : decode cX1_dropOldest 24 = .ok (.iload_n 2, 1) := by decide +kernel
theorem dX1_dropOldest_25 : decode cX1_dropOldest 25 = .ok (.iconst 1, 1) := by decide +kernel
theorem dX1_dropOldest_26 : decode cX1_dropOldest 26 = .ok (.iadd, 1) := by decide +kernel
theorem dX1_dropOldest_27 : decode cX1_dropOldest 27 = .ok (.aaload, 1) := by decide +kernel
theorem dX1_dropOldest_28 : decode cX1_dropOldest 28 = .ok (.aastore, 1) := by decide +kernel
theorem dX1_dropOldest_29 : decode cX1_dropOldest 29 = .ok (.iinc 2 1, 3) := by decide +kernel
theorem dX1_dropOldest_32 : decode cX1_dropOldest 32 = .ok (.goto (-23), 3) := by decide +kernel
theorem dX1_dropOldest_35 : decode cX1_dropOldest 35 = .ok (.aload_n 0, 1) := by decide +kernel
theorem dX1_dropOldest_36 : decode cX1_dropOldest 36 = .ok (.getfield 11, 3) := by decide +kernel
theorem dX1_dropOldest_39 : decode cX1_dropOldest 39 = .ok (.bipush 6, 2) := by decide +kernel
theorem dX1_dropOldest_41 : decode cX1_dropOldest 41 = .ok (.aload_n 1, 1) := by decide +kernel
theorem dX1_dropOldest_42 : decode cX1_dropOldest 42 = .ok (.aastore, 1) := by decide +kernel
theorem dX1_dropOldest_43 : decode cX1_dropOldest 43 = .ok (.return_, 1) := by decide +kernel
theorem dX1_giveBack_0 : decode cX1_giveBack 0 = .ok (.aload_n 0, 1) := by decide +kernel
theorem dX1_giveBack_1 : decode cX1_giveBack 1 = .ok (.getfield 18, 3) := by decide +kernel
theorem dX1_giveBack_4 : decode cX1_giveBack 4 = .ok (.ifCond .gt 6, 3) := by decide +kernel
theorem dX1_giveBack_7 : decode cX1_giveBack 7 = .ok (.bipush (-5), 2) := by decide +kernel
theorem dX1_giveBack_9 : decode cX1_giveBack 9 = .ok (.ireturn, 1) := by decide +kernel
theorem dX1_giveBack_10 : decode cX1_giveBack 10 = .ok (.aload_n 0, 1) := by decide +kernel
theorem dX1_giveBack_11 : decode cX1_giveBack 11 = .ok (.dup, 1) := by decide +kernel
theorem dX1_giveBack_12 : decode cX1_giveBack 12 = .ok (.getfield 18, 3) := by decide +kernel
theorem dX1_giveBack_15 : decode cX1_giveBack 15 = .ok (.iconst 1, 1) := by decide +kernel
theorem dX1_giveBack_16 : decode cX1_giveBack 16 = .ok (.isub, 1) := by decide +kernel
theorem dX1_giveBack_17 : decode cX1_giveBack 17 = .ok (.putfield 18, 3) := by decide +kernel
theorem dX1_giveBack_20 : decode cX1_giveBack 20 = .ok (.aload_n 1, 1) := by decide +kernel
theorem dX1_giveBack_21 : decode cX1_giveBack 21 = .ok (.aload_n 0, 1) := by decide +kernel
theorem dX1_giveBack_22 : decode cX1_giveBack 22 = .ok (.getfield 11, 3) := by decide +kernel
theorem dX1_giveBack_25 : decode cX1_giveBack 25 = .ok (.aload_n 0, 1) := by decide +kernel
theorem dX1_giveBack_26 : decode cX1_giveBack 26 = .ok (.getfield 18, 3) := by decide +kernel
theorem dX1_giveBack_29 : decode cX1_giveBack 29 = .ok (.aaload, 1) := by decide +kernel
theorem dX1_giveBack_30 : decode cX1_giveBack 30 = .ok (.invokevirtual 26, 3) := by decide +kernel
theorem dX1_giveBack_33 : decode cX1_giveBack 33 = .ok (.aload_n 0, 1) := by decide +kernel
theorem dX1_giveBack_34 : decode cX1_giveBack 34 = .ok (.getfield 18, 3) := by decide +kernel
theorem dX1_giveBack_37 : decode cX1_giveBack 37 = .ok (.ireturn, 1) := by decide +kernel
theorem dX2_init_0 : decode cX2_init 0 = .ok (.aload_n 0, 1) := by decide +kernel
theorem dX2_init_1 : decode cX2_init 1 = .ok (.invokespecial 3, 3) := by decide +kernel
theorem dX2_init_4 : decode cX2_init 4 = .ok (.aload_n 0, 1) := by decide +kernel
theorem dX2_init_5 : decode cX2_init 5 = .ok (.bipush 60, 2) := by decide +kernel
theorem dX2_init_7 : decode cX2_init 7 = .ok (.newarray .char, 2) := by decide +kernel
theorem dX2_init_9 : decode cX2_init 9 = .ok (.putfield 9, 3) := by decide +kernel
theorem dX2_init_12 : decode cX2_init 12 = .ok (.return_, 1) := by decide +kernel
theorem dX2_append_0 : decode cX2_append 0 = .ok (.lload_n 1, 1) := by decide +kernel
theorem dX2_append_1 : decode cX2_append 1 = .ok (.invokestatic 15, 3) := by decide +kernel
theorem dX2_append_4 : decode cX2_append 4 = .ok (.istore_n 3, 1) := by decide +kernel
theorem dX2_append_5 : decode cX2_append 5 = .ok (.iload_n 3, 1) := by decide +kernel
theorem dX2_append_6 : decode cX2_append 6 = .ok (.ifCond .gt 6, 3) := by decide +kernel
theorem dX2_append_9 : decode cX2_append 9 = .ok (.bipush (-2), 2) := by decide +kernel
theorem dX2_append_11 : decode cX2_append 11 = .ok (.ireturn, 1) := by decide +kernel
theorem dX2_append_12 : decode cX2_append 12 = .ok (.aload_n 0, 1) := by decide +kernel
theorem dX2_append_13 : decode cX2_append 13 = .ok (.getfield 19, 3) := by decide +kernel
theorem dX2_append_16 : decode cX2_append 16 = .ok (.iload_n 3, 1) := by decide +kernel
theorem dX2_append_17 : decode cX2_append 17 = .ok (.iadd, 1) := by decide +kernel
theorem dX2_append_18 : decode cX2_append 18 = .ok (.bipush 60, 2) := by decide +kernel
theorem dX2_append_20 : decode cX2_append 20 = .ok (.if_icmp .le 6, 3) := by decide +kernel
theorem dX2_append_23 : decode cX2_append 23 = .ok (.bipush (-4), 2) := by decide +kernel
theorem dX2_append_25 : decode cX2_append 25 = .ok (.ireturn, 1) := by decide +kernel
theorem dX2_append_26 : decode cX2_append 26 = .ok (.iload_n 3, 1) := by decide +kernel
theorem dX2_append_27 : decode cX2_append 27 = .ok (.iconst 1, 1) := by decide +kernel
theorem dX2_append_28 : decode cX2_append 28 = .ok (.isub, 1) := by decide +kernel
theorem dX2_append_29 : decode cX2_append 29 = .ok (.istore 4, 2) := by decide +kernel
theorem dX2_append_31 : decode cX2_append 31 = .ok (.iload 4, 2) := by decide +kernel
theorem dX2_append_33 : decode cX2_append 33 = .ok (.ifCond .lt 35, 3) := by decide +kernel
theorem dX2_append_36 : decode cX2_append 36 = .ok (.aload_n 0, 1) := by decide +kernel
theorem dX2_append_37 : decode cX2_append 37 = .ok (.getfield 9, 3) := by decide +kernel
theorem dX2_append_40 : decode cX2_append 40 = .ok (.aload_n 0, 1) := by decide +kernel
theorem dX2_append_41 : decode cX2_append 41 = .ok (.getfield 19, 3) := by decide +kernel
theorem dX2_append_44 : decode cX2_append 44 = .ok (.lload_n 1, 1) := by decide +kernel
theorem dX2_append_45 : decode cX2_append 45 = .ok (.iload 4, 2) := by decide +kernel
theorem dX2_append_47 : decode cX2_append 47 = .ok (.invokestatic 23, 3) := by decide +kernel
theorem dX2_append_50 : decode cX2_append 50 = .ok (.i2c, 1) := by decide +kernel
theorem dX2_append_51 : decode cX2_append 51 = .ok (.castore, 1) := by decide +kernel
theorem dX2_append_52 : decode cX2_append 52 = .ok (.aload_n 0, 1) := by decide +kernel
theorem dX2_append_53 : decode cX2_append 53 = .ok (.dup, 1) := by decide +kernel
theorem dX2_append_54 : decode cX2_append 54 = .ok (.getfield 19, 3) := by decide +kernel
theorem dX2_append_57 : decode cX2_append 57 = .ok (.iconst 1, 1) := by decide +kernel
theorem dX2_append_58 : decode cX2_append 58 = .ok (.iadd, 1) := by decide +kernel
theorem dX2_append_59 : decode cX2_append 59 = .ok (.putfield 19, 3) := by decide +kernel
theorem dX2_append_62 : decode cX2_append 62 = .ok (.iinc 4 (-1), 3) := by decide +kernel
theorem dX2_append_65 : decode cX2_append 65 = .ok (.goto (-34), 3) := by decide +kernel
theorem dX2_append_68 : decode cX2_append 68 = .ok (.aload_n 0, 1) := by decide +kernel
theorem dX2_append_69 : decode cX2_append 69 = .ok (.getfield 19, 3) := by decide +kernel
theorem dX2_append_72 : decode cX2_append 72 = .ok (.ireturn, 1) := by decide +kernel
theorem dX2_charactersIn_0 : decode cX2_charactersIn 0 = .ok (.iconst 0, 1) := by decide +kernel
theorem dX2_charactersIn_1 : decode cX2_charactersIn 1 = .ok (.istore_n 2, 1) := by decide +kernel
theorem dX2_charactersIn_2 : decode cX2_charactersIn 2 = .ok (.iload_n 2, 1) := by decide +kernel
theorem dX2_charactersIn_3 : decode cX2_charactersIn 3 = .ok (.bipush 8, 2) := by decide +kernel
theorem dX2_charactersIn_5 : decode cX2_charactersIn 5 = .ok (.if_icmp .ge 49, 3) := by decide +kernel
theorem dX2_charactersIn_8 : decode cX2_charactersIn 8 = .ok (.lload_n 0, 1) := by decide +kernel
theorem dX2_charactersIn_9 : decode cX2_charactersIn 9 = .ok (.iload_n 2, 1) := by decide +kernel
theorem dX2_charactersIn_10 : decode cX2_charactersIn 10 = .ok (.invokestatic 23, 3) := by decide +kernel
theorem dX2_charactersIn_13 : decode cX2_charactersIn 13 = .ok (.istore_n 3, 1) := by decide +kernel
theorem dX2_charactersIn_14 : decode cX2_charactersIn 14 = .ok (.iload_n 3, 1) := by decide +kernel
theorem dX2_charactersIn_15 : decode cX2_charactersIn 15 = .ok (.ifCond .ne 20, 3) := by decide +kernel
theorem dX2_charactersIn_18 : decode cX2_charactersIn 18 = .ok (.lload_n 0, 1) := by decide +kernel
theorem dX2_charactersIn_19 : decode cX2_charactersIn 19 = .ok (.bipush 8, 2) := by decide +kernel
theorem dX2_charactersIn_21 : decode cX2_charactersIn 21 = .ok (.iload_n 2, 1) := by decide +kernel
theorem dX2_charactersIn_22 : decode cX2_charactersIn 22 = .ok (.imul, 1) := by decide +kernel
theorem dX2_charactersIn_23 : decode cX2_charactersIn 23 = .ok (.lushr, 1) := by decide +kernel
theorem dX2_charactersIn_24 : decode cX2_charactersIn 24 = .ok (.lconst 0, 1) := by decide +kernel
theorem dX2_charactersIn_25 : decode cX2_charactersIn 25 = .ok (.lcmp, 1) := by decide +kernel
theorem dX2_charactersIn_26 : decode cX2_charactersIn 26 = .ok (.ifCond .ne 7, 3) := by decide +kernel
theorem dX2_charactersIn_29 : decode cX2_charactersIn 29 = .ok (.iload_n 2, 1) := by decide +kernel
theorem dX2_charactersIn_30 : decode cX2_charactersIn 30 = .ok (.goto 4, 3) := by decide +kernel
theorem dX2_charactersIn_33 : decode cX2_charactersIn 33 = .ok (.iconst 0, 1) := by decide +kernel
theorem dX2_charactersIn_34 : decode cX2_charactersIn 34 = .ok (.ireturn, 1) := by decide +kernel
theorem dX2_charactersIn_35 : decode cX2_charactersIn 35 = .ok (.iload_n 3, 1) := by decide +kernel
theorem dX2_charactersIn_36 : decode cX2_charactersIn 36 = .ok (.bipush 33, 2) := by decide +kernel
theorem dX2_charactersIn_38 : decode cX2_charactersIn 38 = .ok (.bipush 126, 2) := by decide +kernel
theorem dX2_charactersIn_40 : decode cX2_charactersIn 40 = .ok (.invokestatic 27, 3) := by decide +kernel
theorem dX2_charactersIn_43 : decode cX2_charactersIn 43 = .ok (.ifCond .ne 5, 3) := by decide +kernel
theorem dX2_charactersIn_46 : decode cX2_charactersIn 46 = .ok (.iconst 0, 1) := by decide +kernel
theorem dX2_charactersIn_47 : decode cX2_charactersIn 47 = .ok (.ireturn, 1) := by decide +kernel
theorem dX2_charactersIn_48 : decode cX2_charactersIn 48 = .ok (.iinc 2 1, 3) := by decide +kernel
theorem dX2_charactersIn_51 : decode cX2_charactersIn 51 = .ok (.goto (-49), 3) := by decide +kernel
theorem dX2_charactersIn_54 : decode cX2_charactersIn 54 = .ok (.bipush 8, 2) := by decide +kernel
theorem dX2_charactersIn_56 : decode cX2_charactersIn 56 = .ok (.ireturn, 1) := by decide +kernel
theorem dX2_codeAt_0 : decode cX2_codeAt 0 = .ok (.lload_n 0, 1) := by decide +kernel
theorem dX2_codeAt_1 : decode cX2_codeAt 1 = .ok (.bipush 8, 2) := by decide +kernel
theorem dX2_codeAt_3 : decode cX2_codeAt 3 = .ok (.iload_n 2, 1) := by decide +kernel
theorem dX2_codeAt_4 : decode cX2_codeAt 4 = .ok (.imul, 1) := by decide +kernel
theorem dX2_codeAt_5 : decode cX2_codeAt 5 = .ok (.lushr, 1) := by decide +kernel
theorem dX2_codeAt_6 : decode cX2_codeAt 6 = .ok (.l2i, 1) := by decide +kernel
theorem dX2_codeAt_7 : decode cX2_codeAt 7 = .ok (.sipush 255, 3) := by decide +kernel
theorem dX2_codeAt_10 : decode cX2_codeAt 10 = .ok (.iand, 1) := by decide +kernel
theorem dX2_codeAt_11 : decode cX2_codeAt 11 = .ok (.ireturn, 1) := by decide +kernel
theorem dX2_empty_0 : decode cX2_empty 0 = .ok (.aload_n 0, 1) := by decide +kernel
theorem dX2_empty_1 : decode cX2_empty 1 = .ok (.getfield 19, 3) := by decide +kernel
theorem dX2_empty_4 : decode cX2_empty 4 = .ok (.istore_n 1, 1) := by decide +kernel
theorem dX2_empty_5 : decode cX2_empty 5 = .ok (.aload_n 0, 1) := by decide +kernel
theorem dX2_empty_6 : decode cX2_empty 6 = .ok (.iconst 0, 1) := by decide +kernel
theorem dX2_empty_7 : decode cX2_empty 7 = .ok (.putfield 19, 3) := by decide +kernel
theorem dX2_empty_10 : decode cX2_empty 10 = .ok (.iload_n 1, 1) := by decide +kernel
theorem dX2_empty_11 : decode cX2_empty 11 = .ok (.ireturn, 1) := by decide +kernel
theorem dX2_firstFault_0 : decode cX2_firstFault 0 = .ok (.aload_n 0, 1) := by decide +kernel
theorem dX2_firstFault_1 : decode cX2_firstFault 1 = .ok (.iconst 0, 1) := by decide +kernel
theorem dX2_firstFault_2 : decode cX2_firstFault 2 = .ok (.putfield 31, 3) := by decide +kernel
theorem dX2_firstFault_5 : decode cX2_firstFault 5 = .ok (.aload_n 0, 1) := by decide +kernel
theorem dX2_firstFault_6 : decode cX2_firstFault 6 = .ok (.iconst 0, 1) := by decide +kernel
theorem dX2_firstFault_7 : decode cX2_firstFault 7 = .ok (.putfield 34, 3) := by decide +kernel
theorem dX2_firstFault_10 : decode cX2_firstFault 10 = .ok (.iconst 0, 1) := by decide +kernel
theorem dX2_firstFault_11 : decode cX2_firstFault 11 = .ok (.istore_n 1, 1) := by decide +kernel
theorem dX2_firstFault_12 : decode cX2_firstFault 12 = .ok (.iload_n 1, 1) := by decide +kernel
theorem dX2_firstFault_13 : decode cX2_firstFault 13 = .ok (.aload_n 0, 1) := by decide +kernel
theorem dX2_firstFault_14 : decode cX2_firstFault 14 = .ok (.getfield 19, 3) := by decide +kernel
theorem dX2_firstFault_17 : decode cX2_firstFault 17 = .ok (.if_icmp .ge 24, 3) := by decide +kernel
theorem dX2_firstFault_20 : decode cX2_firstFault 20 = .ok (.aload_n 0, 1) := by decide +kernel
theorem dX2_firstFault_21 : decode cX2_firstFault 21 = .ok (.aload_n 0, 1) := by decide +kernel
theorem dX2_firstFault_22 : decode cX2_firstFault 22 = .ok (.getfield 9, 3) := by decide +kernel
theorem dX2_firstFault_25 : decode cX2_firstFault 25 = .ok (.iload_n 1, 1) := by decide +kernel
theorem dX2_firstFault_26 : decode cX2_firstFault 26 = .ok (.caload, 1) := by decide +kernel
theorem dX2_firstFault_27 : decode cX2_firstFault 27 = .ok (.invokevirtual 38, 3) := by decide +kernel
theorem dX2_firstFault_30 : decode cX2_firstFault 30 = .ok (.ifCond .ne 5, 3) := by decide +kernel
theorem dX2_firstFault_33 : decode cX2_firstFault 33 = .ok (.iload_n 1, 1) := by decide +kernel
theorem dX2_firstFault_34 : decode cX2_firstFault 34 = .ok (.ireturn, 1) := by decide +kernel
theorem dX2_firstFault_35 : decode cX2_firstFault 35 = .ok (.iinc 1 1, 3) := by decide +kernel
theorem dX2_firstFault_38 : decode cX2_firstFault 38 = .ok (.goto (-26), 3) := by decide +kernel
theorem dX2_firstFault_41 : decode cX2_firstFault 41 = .ok (.aload_n 0, 1) := by decide +kernel
theorem dX2_firstFault_42 : decode cX2_firstFault 42 = .ok (.getfield 31, 3) := by decide +kernel
theorem dX2_firstFault_45 : decode cX2_firstFault 45 = .ok (.iconst 3, 1) := by decide +kernel
theorem dX2_firstFault_46 : decode cX2_firstFault 46 = .ok (.if_icmp .eq 18, 3) := by decide +kernel
theorem dX2_firstFault_49 : decode cX2_firstFault 49 = .ok (.aload_n 0, 1) := by decide +kernel
theorem dX2_firstFault_50 : decode cX2_firstFault 50 = .ok (.getfield 31, 3) := by decide +kernel
theorem dX2_firstFault_53 : decode cX2_firstFault 53 = .ok (.iconst 2, 1) := by decide +kernel
theorem dX2_firstFault_54 : decode cX2_firstFault 54 = .ok (.if_icmp .ne 14, 3) := by decide +kernel
theorem dX2_firstFault_57 : decode cX2_firstFault 57 = .ok (.aload_n 0, 1) := by decide +kernel
theorem dX2_firstFault_58 : decode cX2_firstFault 58 = .ok (.getfield 34, 3) := by decide +kernel
theorem dX2_firstFault_61 : decode cX2_firstFault 61 = .ok (.ifCond .ne 7, 3) := by decide +kernel
theorem dX2_firstFault_64 : decode cX2_firstFault 64 = .ok (.iconst 1, 1) := by decide +kernel
theorem dX2_firstFault_65 : decode cX2_firstFault 65 = .ok (.goto 4, 3) := by decide +kernel
theorem dX2_firstFault_68 : decode cX2_firstFault 68 = .ok (.iconst 0, 1) := by decide +kernel
theorem dX2_firstFault_69 : decode cX2_firstFault 69 = .ok (.istore_n 1, 1) := by decide +kernel
theorem dX2_firstFault_70 : decode cX2_firstFault 70 = .ok (.iload_n 1, 1) := by decide +kernel
theorem dX2_firstFault_71 : decode cX2_firstFault 71 = .ok (.ifCond .eq 8, 3) := by decide +kernel
theorem dX2_firstFault_74 : decode cX2_firstFault 74 = .ok (.bipush (-6), 2) := by decide +kernel
theorem dX2_firstFault_76 : decode cX2_firstFault 76 = .ok (.goto 7, 3) := by decide +kernel
theorem dX2_firstFault_79 : decode cX2_firstFault 79 = .ok (.aload_n 0, 1) := by decide +kernel
theorem dX2_firstFault_80 : decode cX2_firstFault 80 = .ok (.getfield 19, 3) := by decide +kernel
theorem dX2_firstFault_83 : decode cX2_firstFault 83 = .ok (.ireturn, 1) := by decide +kernel
theorem dX2_canStand_0 : decode cX2_canStand 0 = .ok (.aload_n 0, 1) := by decide +kernel
theorem dX2_canStand_1 : decode cX2_canStand 1 = .ok (.getfield 31, 3) := by decide +kernel
theorem dX2_canStand_4 : decode cX2_canStand 4 = .ok (.tableswitch 61 0 2 #[28, 34, 40], 28) := by decide +kernel
theorem dX2_canStand_32 : decode cX2_canStand 32 = .ok (.aload_n 0, 1) := by decide +kernel
theorem dX2_canStand_33 : decode cX2_canStand 33 = .ok (.iload_n 1, 1) := by decide +kernel
theorem dX2_canStand_34 : decode cX2_canStand 34 = .ok (.invokevirtual 42, 3) := by decide +kernel
theorem dX2_canStand_37 : decode cX2_canStand 37 = .ok (.ireturn, 1) := by decide +kernel
theorem dX2_canStand_38 : decode cX2_canStand 38 = .ok (.aload_n 0, 1) := by decide +kernel
theorem dX2_canStand_39 : decode cX2_canStand 39 = .ok (.iload_n 1, 1) := by decide +kernel
theorem dX2_canStand_40 : decode cX2_canStand 40 = .ok (.invokevirtual 45, 3) := by decide +kernel
theorem dX2_canStand_43 : decode cX2_canStand 43 = .ok (.ireturn, 1) := by decide +kernel
theorem dX2_canStand_44 : decode cX2_canStand 44 = .ok (.iload_n 1, 1) := by decide +kernel
theorem dX2_canStand_45 : decode cX2_canStand 45 = .ok (.invokestatic 48, 3) := by decide +kernel
theorem dX2_canStand_48 : decode cX2_canStand 48 = .ok (.ifCond .eq 11, 3) := by decide +kernel
theorem dX2_canStand_51 : decode cX2_canStand 51 = .ok (.aload_n 0, 1) := by decide +kernel
theorem dX2_canStand_52 : decode cX2_canStand 52 = .ok (.iload_n 1, 1) := by decide +kernel
theorem dX2_canStand_53 : decode cX2_canStand 53 = .ok (.invokevirtual 51, 3) := by decide +kernel
theorem dX2_canStand_56 : decode cX2_canStand 56 = .ok (.goto 8, 3) := by decide +kernel
theorem dX2_canStand_59 : decode cX2_canStand 59 = .ok (.aload_n 0, 1) := by decide +kernel
theorem dX2_canStand_60 : decode cX2_canStand 60 = .ok (.iload_n 1, 1) := by decide +kernel
theorem dX2_canStand_61 : decode cX2_canStand 61 = .ok (.invokevirtual 54, 3) := by decide +kernel
theorem dX2_canStand_64 : decode cX2_canStand 64 = .ok (.ireturn, 1) := by decide +kernel
theorem dX2_canStand_65 : decode cX2_canStand 65 = .ok (.aload_n 0, 1) := by decide +kernel
theorem dX2_canStand_66 : decode cX2_canStand 66 = .ok (.iload_n 1, 1) := by decide +kernel
theorem dX2_canStand_67 : decode cX2_canStand 67 = .ok (.invokevirtual 57, 3) := by decide +kernel
theorem dX2_canStand_70 : decode cX2_canStand 70 = .ok (.ireturn, 1) := by decide +kernel
theorem dX2_startsOrder_0 : decode cX2_startsOrder 0 = .ok (.aload_n 0, 1) := by decide +kernel
theorem dX2_startsOrder_1 : decode cX2_startsOrder 1 = .ok (.iload_n 1, 1) := by decide +kernel
theorem dX2_startsOrder_2 : decode cX2_startsOrder 2 = .ok (.bipush 104, 2) := by decide +kernel
theorem dX2_startsOrder_4 : decode cX2_startsOrder 4 = .ok (.if_icmp .ne 7, 3) := by decide +kernel
theorem dX2_startsOrder_7 : decode cX2_startsOrder 7 = .ok (.iconst 3, 1) := by decide +kernel
theorem dX2_startsOrder_8 : decode cX2_startsOrder 8 = .ok (.goto 4, 3) := by decide +kernel
theorem dX2_startsOrder_11 : decode cX2_startsOrder 11 = .ok (.iconst 1, 1) := by decide +kernel
theorem dX2_startsOrder_12 : decode cX2_startsOrder 12 = .ok (.putfield 31, 3) := by decide +kernel
theorem dX2_startsOrder_15 : decode cX2_startsOrder 15 = .ok (.aload_n 0, 1) := by decide +kernel
theorem dX2_startsOrder_16 : decode cX2_startsOrder 16 = .ok (.iload_n 1, 1) := by decide +kernel
theorem dX2_startsOrder_17 : decode cX2_startsOrder 17 = .ok (.bipush 112, 2) := by decide +kernel
theorem dX2_startsOrder_19 : decode cX2_startsOrder 19 = .ok (.if_icmp .ne 7, 3) := by decide +kernel
theorem dX2_startsOrder_22 : decode cX2_startsOrder 22 = .ok (.iconst 1, 1) := by decide +kernel
theorem dX2_startsOrder_23 : decode cX2_startsOrder 23 = .ok (.goto 4, 3) := by decide +kernel
theorem dX2_startsOrder_26 : decode cX2_startsOrder 26 = .ok (.iconst 0, 1) := by decide +kernel
theorem dX2_startsOrder_27 : decode cX2_startsOrder 27 = .ok (.putfield 34, 3) := by decide +kernel
theorem dX2_startsOrder_30 : decode cX2_startsOrder 30 = .ok (.iload_n 1, 1) := by decide +kernel
theorem dX2_startsOrder_31 : decode cX2_startsOrder 31 = .ok (.bipush 103, 2) := by decide +kernel
theorem dX2_startsOrder_33 : decode cX2_startsOrder 33 = .ok (.if_icmp .eq 27, 3) := by decide +kernel
theorem dX2_startsOrder_36 : decode cX2_startsOrder 36 = .ok (.iload_n 1, 1) := by decide +kernel
theorem dX2_startsOrder_37 : decode cX2_startsOrder 37 = .ok (.bipush 104, 2) := by decide +kernel
theorem dX2_startsOrder_39 : decode cX2_startsOrder 39 = .ok (.if_icmp .eq 21, 3) := by decide +kernel
theorem dX2_startsOrder_42 : decode cX2_startsOrder 42 = .ok (.iload_n 1, 1) := by decide +kernel
theorem dX2_startsOrder_43 : decode cX2_startsOrder 43 = .ok (.bipush 116, 2) := by decide +kernel
theorem dX2_startsOrder_45 : decode cX2_startsOrder 45 = .ok (.if_icmp .eq 15, 3) := by decide +kernel
theorem dX2_startsOrder_48 : decode cX2_startsOrder 48 = .ok (.iload_n 1, 1) := by decide +kernel
theorem dX2_startsOrder_49 : decode cX2_startsOrder 49 = .ok (.bipush 112, 2) := by decide +kernel
theorem dX2_startsOrder_51 : decode cX2_startsOrder 51 = .ok (.if_icmp .eq 9, 3) := by decide +kernel
theorem dX2_startsOrder_54 : decode cX2_startsOrder 54 = .ok (.iload_n 1, 1) := by decide +kernel
theorem dX2_startsOrder_55 : decode cX2_startsOrder 55 = .ok (.bipush 100, 2) := by decide +kernel
theorem dX2_startsOrder_57 : decode cX2_startsOrder 57 = .ok (.if_icmp .ne 7, 3) := by decide +kernel
theorem dX2_startsOrder_60 : decode cX2_startsOrder 60 = .ok (.iconst 1, 1) := by decide +kernel
theorem dX2_startsOrder_61 : decode cX2_startsOrder 61 = .ok (.goto 4, 3) := by decide +kernel
theorem dX2_startsOrder_64 : decode cX2_startsOrder 64 = .ok (.iconst 0, 1) := by decide +kernel
theorem dX2_startsOrder_65 : decode cX2_startsOrder 65 = .ok (.ireturn, 1) := by decide +kernel
theorem dX2_startsNumber_0 : decode cX2_startsNumber 0 = .ok (.aload_n 0, 1) := by decide +kernel
theorem dX2_startsNumber_1 : decode cX2_startsNumber 1 = .ok (.iload_n 1, 1) := by decide +kernel
theorem dX2_startsNumber_2 : decode cX2_startsNumber 2 = .ok (.bipush 48, 2) := by decide +kernel
theorem dX2_startsNumber_4 : decode cX2_startsNumber 4 = .ok (.isub, 1) := by decide +kernel
theorem dX2_startsNumber_5 : decode cX2_startsNumber 5 = .ok (.putfield 60, 3) := by decide +kernel
theorem dX2_startsNumber_8 : decode cX2_startsNumber 8 = .ok (.aload_n 0, 1) := by decide +kernel
theorem dX2_startsNumber_9 : decode cX2_startsNumber 9 = .ok (.iconst 2, 1) := by decide +kernel
theorem dX2_startsNumber_10 : decode cX2_startsNumber 10 = .ok (.putfield 31, 3) := by decide +kernel
theorem dX2_startsNumber_13 : decode cX2_startsNumber 13 = .ok (.iload_n 1, 1) := by decide +kernel
theorem dX2_startsNumber_14 : decode cX2_startsNumber 14 = .ok (.invokestatic 48, 3) := by decide +kernel
theorem dX2_startsNumber_17 : decode cX2_startsNumber 17 = .ok (.ireturn, 1) := by decide +kernel
theorem dX2_growsNumber_0 : decode cX2_growsNumber 0 = .ok (.aload_n 0, 1) := by decide +kernel
theorem dX2_growsNumber_1 : decode cX2_growsNumber 1 = .ok (.getfield 60, 3) := by decide +kernel
theorem dX2_growsNumber_4 : decode cX2_growsNumber 4 = .ok (.ifCond .ne 5, 3) := by decide +kernel
theorem dX2_growsNumber_7 : decode cX2_growsNumber 7 = .ok (.iconst 0, 1) := by decide +kernel
theorem dX2_growsNumber_8 : decode cX2_growsNumber 8 = .ok (.ireturn, 1) := by decide +kernel
theorem dX2_growsNumber_9 : decode cX2_growsNumber 9 = .ok (.aload_n 0, 1) := by decide +kernel
theorem dX2_growsNumber_10 : decode cX2_growsNumber 10 = .ok (.bipush 10, 2) := by decide +kernel
theorem dX2_growsNumber_12 : decode cX2_growsNumber 12 = .ok (.aload_n 0, 1) := by decide +kernel
theorem dX2_growsNumber_13 : decode cX2_growsNumber 13 = .ok (.getfield 60, 3) := by decide +kernel
theorem dX2_growsNumber_16 : decode cX2_growsNumber 16 = .ok (.imul, 1) := by decide +kernel
theorem dX2_growsNumber_17 : decode cX2_growsNumber 17 = .ok (.iload_n 1, 1) := by decide +kernel
theorem dX2_growsNumber_18 : decode cX2_growsNumber 18 = .ok (.bipush 48, 2) := by decide +kernel
theorem dX2_growsNumber_20 : decode cX2_growsNumber 20 = .ok (.isub, 1) := by decide +kernel
theorem dX2_growsNumber_21 : decode cX2_growsNumber 21 = .ok (.iadd, 1) := by decide +kernel
theorem dX2_growsNumber_22 : decode cX2_growsNumber 22 = .ok (.putfield 60, 3) := by decide +kernel
theorem dX2_growsNumber_25 : decode cX2_growsNumber 25 = .ok (.aload_n 0, 1) := by decide +kernel
theorem dX2_growsNumber_26 : decode cX2_growsNumber 26 = .ok (.getfield 60, 3) := by decide +kernel
theorem dX2_growsNumber_29 : decode cX2_growsNumber 29 = .ok (.ldc 63, 2) := by decide +kernel
theorem dX2_growsNumber_31 : decode cX2_growsNumber 31 = .ok (.if_icmp .gt 7, 3) := by decide +kernel
theorem dX2_growsNumber_34 : decode cX2_growsNumber 34 = .ok (.iconst 1, 1) := by decide +kernel
theorem dX2_growsNumber_35 : decode cX2_growsNumber 35 = .ok (.goto 4, 3) := by decide +kernel
theorem dX2_growsNumber_38 : decode cX2_growsNumber 38 = .ok (.iconst 0, 1) := by decide +kernel
theorem dX2_growsNumber_39 : decode cX2_growsNumber 39 = .ok (.ireturn, 1) := by decide +kernel
theorem dX2_endsNumber_0 : decode cX2_endsNumber 0 = .ok (.aload_n 0, 1) := by decide +kernel
theorem dX2_endsNumber_1 : decode cX2_endsNumber 1 = .ok (.getfield 34, 3) := by decide +kernel
theorem dX2_endsNumber_4 : decode cX2_endsNumber 4 = .ok (.ifCond .eq 25, 3) := by decide +kernel
theorem dX2_endsNumber_7 : decode cX2_endsNumber 7 = .ok (.aload_n 0, 1) := by decide +kernel
theorem dX2_endsNumber_8 : decode cX2_endsNumber 8 = .ok (.iconst 0, 1) := by decide +kernel
theorem dX2_endsNumber_9 : decode cX2_endsNumber 9 = .ok (.putfield 34, 3) := by decide +kernel
theorem dX2_endsNumber_12 : decode cX2_endsNumber 12 = .ok (.aload_n 0, 1) := by decide +kernel
theorem dX2_endsNumber_13 : decode cX2_endsNumber 13 = .ok (.iconst 1, 1) := by decide +kernel
theorem dX2_endsNumber_14 : decode cX2_endsNumber 14 = .ok (.putfield 31, 3) := by decide +kernel
theorem dX2_endsNumber_17 : decode cX2_endsNumber 17 = .ok (.iload_n 1, 1) := by decide +kernel
theorem dX2_endsNumber_18 : decode cX2_endsNumber 18 = .ok (.bipush 61, 2) := by decide +kernel
theorem dX2_endsNumber_20 : decode cX2_endsNumber 20 = .ok (.if_icmp .ne 7, 3) := by decide +kernel
theorem dX2_endsNumber_23 : decode cX2_endsNumber 23 = .ok (.iconst 1, 1) := by decide +kernel
theorem dX2_endsNumber_24 : decode cX2_endsNumber 24 = .ok (.goto 4, 3) := by decide +kernel
theorem dX2_endsNumber_27 : decode cX2_endsNumber 27 = .ok (.iconst 0, 1) := by decide +kernel
theorem dX2_endsNumber_28 : decode cX2_endsNumber 28 = .ok (.ireturn, 1) := by decide +kernel
theorem dX2_endsNumber_29 : decode cX2_endsNumber 29 = .ok (.aload_n 0, 1) := by decide +kernel
theorem dX2_endsNumber_30 : decode cX2_endsNumber 30 = .ok (.iload_n 1, 1) := by decide +kernel
theorem dX2_endsNumber_31 : decode cX2_endsNumber 31 = .ok (.invokevirtual 57, 3) := by decide +kernel
theorem dX2_endsNumber_34 : decode cX2_endsNumber 34 = .ok (.ireturn, 1) := by decide +kernel
theorem dX2_endsOrder_0 : decode cX2_endsOrder 0 = .ok (.aload_n 0, 1) := by decide +kernel
theorem dX2_endsOrder_1 : decode cX2_endsOrder 1 = .ok (.iconst 0, 1) := by decide +kernel
theorem dX2_endsOrder_2 : decode cX2_endsOrder 2 = .ok (.putfield 31, 3) := by decide +kernel
theorem dX2_endsOrder_5 : decode cX2_endsOrder 5 = .ok (.iload_n 1, 1) := by decide +kernel
theorem dX2_endsOrder_6 : decode cX2_endsOrder 6 = .ok (.bipush 59, 2) := by decide +kernel
theorem dX2_endsOrder_8 : decode cX2_endsOrder 8 = .ok (.if_icmp .ne 7, 3) := by decide +kernel
theorem dX2_endsOrder_11 : decode cX2_endsOrder 11 = .ok (.iconst 1, 1) := by decide +kernel
theorem dX2_endsOrder_12 : decode cX2_endsOrder 12 = .ok (.goto 4, 3) := by decide +kernel
theorem dX2_endsOrder_15 : decode cX2_endsOrder 15 = .ok (.iconst 0, 1) := by decide +kernel
theorem dX2_endsOrder_16 : decode cX2_endsOrder 16 = .ok (.ireturn, 1) := by decide +kernel
theorem dX2_isDigit_0 : decode cX2_isDigit 0 = .ok (.iload_n 0, 1) := by decide +kernel
theorem dX2_isDigit_1 : decode cX2_isDigit 1 = .ok (.bipush 48, 2) := by decide +kernel
theorem dX2_isDigit_3 : decode cX2_isDigit 3 = .ok (.if_icmp .lt 13, 3) := by decide +kernel
theorem dX2_isDigit_6 : decode cX2_isDigit 6 = .ok (.iload_n 0, 1) := by decide +kernel
theorem dX2_isDigit_7 : decode cX2_isDigit 7 = .ok (.bipush 57, 2) := by decide +kernel
theorem dX2_isDigit_9 : decode cX2_isDigit 9 = .ok (.if_icmp .gt 7, 3) := by decide +kernel
theorem dX2_isDigit_12 : decode cX2_isDigit 12 = .ok (.iconst 1, 1) := by decide +kernel
theorem dX2_isDigit_13 : decode cX2_isDigit 13 = .ok (.goto 4, 3) := by decide +kernel
theorem dX2_isDigit_16 : decode cX2_isDigit 16 = .ok (.iconst 0, 1) := by decide +kernel
theorem dX2_isDigit_17 : decode cX2_isDigit 17 = .ok (.ireturn, 1) := by decide +kernel
theorem dX2_startReading_0 : decode cX2_startReading 0 = .ok (.aload_n 0, 1) := by decide +kernel
theorem dX2_startReading_1 : decode cX2_startReading 1 = .ok (.iconst 0, 1) := by decide +kernel
theorem dX2_startReading_2 : decode cX2_startReading 2 = .ok (.putfield 64, 3) := by decide +kernel
theorem dX2_startReading_5 : decode cX2_startReading 5 = .ok (.return_, 1) := by decide +kernel
theorem dX2_readOrder_0 : decode cX2_readOrder 0 = .ok (.aload_n 0, 1) := by decide +kernel
theorem dX2_readOrder_1 : decode cX2_readOrder 1 = .ok (.getfield 64, 3) := by decide +kernel
theorem dX2_readOrder_4 : decode cX2_readOrder 4 = .ok (.aload_n 0, 1) := by decide +kernel
theorem dX2_readOrder_5 : decode cX2_readOrder 5 = .ok (.getfield 19, 3) := by decide +kernel
theorem dX2_readOrder_8 : decode cX2_readOrder 8 = .ok (.if_icmp .lt 5, 3) := by decide +kernel
theorem dX2_readOrder_11 : decode cX2_readOrder 11 = .ok (.iconst 0, 1) := by decide +kernel
theorem dX2_readOrder_12 : decode cX2_readOrder 12 = .ok (.ireturn, 1) := by decide +kernel
theorem dX2_readOrder_13 : decode cX2_readOrder 13 = .ok (.aload_n 0, 1) := by decide +kernel
theorem dX2_readOrder_14 : decode cX2_readOrder 14 = .ok (.aload_n 0, 1) := by decide +kernel
theorem dX2_readOrder_15 : decode cX2_readOrder 15 = .ok (.getfield 9, 3) := by decide +kernel
theorem dX2_readOrder_18 : decode cX2_readOrder 18 = .ok (.aload_n 0, 1) := by decide +kernel
theorem dX2_readOrder_19 : decode cX2_readOrder 19 = .ok (.getfield 64, 3) := by decide +kernel
theorem dX2_readOrder_22 : decode cX2_readOrder 22 = .ok (.caload, 1) := by decide +kernel
theorem dX2_readOrder_23 : decode cX2_readOrder 23 = .ok (.putfield 67, 3) := by decide +kernel
theorem dX2_readOrder_26 : decode cX2_readOrder 26 = .ok (.aload_n 0, 1) := by decide +kernel
theorem dX2_readOrder_27 : decode cX2_readOrder 27 = .ok (.dup, 1) := by decide +kernel
theorem dX2_readOrder_28 : decode cX2_readOrder 28 = .ok (.getfield 64, 3) := by decide +kernel
theorem dX2_readOrder_31 : decode cX2_readOrder 31 = .ok (.iconst 1, 1) := by decide +kernel
theorem dX2_readOrder_32 : decode cX2_readOrder 32 = .ok (.iadd, 1) := by decide +kernel
theorem dX2_readOrder_33 : decode cX2_readOrder 33 = .ok (.putfield 64, 3) := by decide +kernel
theorem dX2_readOrder_36 : decode cX2_readOrder 36 = .ok (.aload_n 0, 1) := by decide +kernel
theorem dX2_readOrder_37 : decode cX2_readOrder 37 = .ok (.aload_n 0, 1) := by decide +kernel
theorem dX2_readOrder_38 : decode cX2_readOrder 38 = .ok (.invokevirtual 71, 3) := by decide +kernel
theorem dX2_readOrder_41 : decode cX2_readOrder 41 = .ok (.putfield 75, 3) := by decide +kernel
theorem dX2_readOrder_44 : decode cX2_readOrder 44 = .ok (.aload_n 0, 1) := by decide +kernel
theorem dX2_readOrder_45 : decode cX2_readOrder 45 = .ok (.iconst 0, 1) := by decide +kernel
theorem dX2_readOrder_46 : decode cX2_readOrder 46 = .ok (.putfield 78, 3) := by decide +kernel
theorem dX2_readOrder_49 : decode cX2_readOrder 49 = .ok (.aload_n 0, 1) := by decide +kernel
theorem dX2_readOrder_50 : decode cX2_readOrder 50 = .ok (.getfield 64, 3) := by decide +kernel
theorem dX2_readOrder_53 : decode cX2_readOrder 53 = .ok (.aload_n 0, 1) := by decide +kernel
theorem dX2_readOrder_54 : decode cX2_readOrder 54 = .ok (.getfield 19, 3) := by decide +kernel
theorem dX2_readOrder_57 : decode cX2_readOrder 57 = .ok (.if_icmp .ge 35, 3) := by decide +kernel
theorem dX2_readOrder_60 : decode cX2_readOrder 60 = .ok (.aload_n 0, 1) := by decide +kernel
theorem dX2_readOrder_61 : decode cX2_readOrder 61 = .ok (.getfield 9, 3) := by decide +kernel
theorem dX2_readOrder_64 : decode cX2_readOrder 64 = .ok (.aload_n 0, 1) := by decide +kernel
theorem dX2_readOrder_65 : decode cX2_readOrder 65 = .ok (.getfield 64, 3) := by decide +kernel
theorem dX2_readOrder_68 : decode cX2_readOrder 68 = .ok (.caload, 1) := by decide +kernel
theorem dX2_readOrder_69 : decode cX2_readOrder 69 = .ok (.bipush 61, 2) := by decide +kernel
theorem dX2_readOrder_71 : decode cX2_readOrder 71 = .ok (.if_icmp .ne 21, 3) := by decide +kernel
theorem dX2_readOrder_74 : decode cX2_readOrder 74 = .ok (.aload_n 0, 1) := by decide +kernel
theorem dX2_readOrder_75 : decode cX2_readOrder 75 = .ok (.dup, 1) := by decide +kernel
theorem dX2_readOrder_76 : decode cX2_readOrder 76 = .ok (.getfield 64, 3) := by decide +kernel
theorem dX2_readOrder_79 : decode cX2_readOrder 79 = .ok (.iconst 1, 1) := by decide +kernel
theorem dX2_readOrder_80 : decode cX2_readOrder 80 = .ok (.iadd, 1) := by decide +kernel
theorem dX2_readOrder_81 : decode cX2_readOrder 81 = .ok (.putfield 64, 3) := by decide +kernel
theorem dX2_readOrder_84 : decode cX2_readOrder 84 = .ok (.aload_n 0, 1) := by decide +kernel
theorem dX2_readOrder_85 : decode cX2_readOrder 85 = .ok (.aload_n 0, 1) := by decide +kernel
theorem dX2_readOrder_86 : decode cX2_readOrder 86 = .ok (.invokevirtual 71, 3) := by decide +kernel
theorem dX2_readOrder_89 : decode cX2_readOrder 89 = .ok (.putfield 78, 3) := by decide +kernel
theorem dX2_readOrder_92 : decode cX2_readOrder 92 = .ok (.aload_n 0, 1) := by decide +kernel
theorem dX2_readOrder_93 : decode cX2_readOrder 93 = .ok (.dup, 1) := by decide +kernel
theorem dX2_readOrder_94 : decode cX2_readOrder 94 = .ok (.getfield 64, 3) := by decide +kernel
theorem dX2_readOrder_97 : decode cX2_readOrder 97 = .ok (.iconst 1, 1) := by decide +kernel
theorem dX2_readOrder_98 : decode cX2_readOrder 98 = .ok (.iadd, 1) := by decide +kernel
theorem dX2_readOrder_99 : decode cX2_readOrder 99 = .ok (.putfield 64, 3) := by decide +kernel
theorem dX2_readOrder_102 : decode cX2_readOrder 102 = .ok (.iconst 1, 1) := by decide +kernel
theorem dX2_readOrder_103 : decode cX2_readOrder 103 = .ok (.ireturn, 1) := by decide +kernel
theorem dX2_readNumber_0 : decode cX2_readNumber 0 = .ok (.iconst 0, 1) := by decide +kernel
theorem dX2_readNumber_1 : decode cX2_readNumber 1 = .ok (.istore_n 1, 1) := by decide +kernel
theorem dX2_readNumber_2 : decode cX2_readNumber 2 = .ok (.aload_n 0, 1) := by decide +kernel
theorem dX2_readNumber_3 : decode cX2_readNumber 3 = .ok (.getfield 64, 3) := by decide +kernel
theorem dX2_readNumber_6 : decode cX2_readNumber 6 = .ok (.aload_n 0, 1) := by decide +kernel
theorem dX2_readNumber_7 : decode cX2_readNumber 7 = .ok (.getfield 19, 3) := by decide +kernel
theorem dX2_readNumber_10 : decode cX2_readNumber 10 = .ok (.if_icmp .ge 49, 3) := by decide +kernel
theorem dX2_readNumber_13 : decode cX2_readNumber 13 = .ok (.aload_n 0, 1) := by decide +kernel
theorem dX2_readNumber_14 : decode cX2_readNumber 14 = .ok (.getfield 9, 3) := by decide +kernel
theorem dX2_readNumber_17 : decode cX2_readNumber 17 = .ok (.aload_n 0, 1) := by decide +kernel
theorem dX2_readNumber_18 : decode cX2_readNumber 18 = .ok (.getfield 64, 3) := by decide +kernel
theorem dX2_readNumber_21 : decode cX2_readNumber 21 = .ok (.caload, 1) := by decide +kernel
theorem dX2_readNumber_22 : decode cX2_readNumber 22 = .ok (.invokestatic 48, 3) := by decide +kernel
theorem dX2_readNumber_25 : decode cX2_readNumber 25 = .ok (.ifCond .eq 34, 3) := by decide +kernel
theorem dX2_readNumber_28 : decode cX2_readNumber 28 = .ok (.bipush 10, 2) := by decide +kernel
theorem dX2_readNumber_30 : decode cX2_readNumber 30 = .ok (.iload_n 1, 1) := by decide +kernel
theorem dX2_readNumber_31 : decode cX2_readNumber 31 = .ok (.imul, 1) := by decide +kernel
theorem dX2_readNumber_32 : decode cX2_readNumber 32 = .ok (.aload_n 0, 1) := by decide +kernel
theorem dX2_readNumber_33 : decode cX2_readNumber 33 = .ok (.getfield 9, 3) := by decide +kernel
theorem dX2_readNumber_36 : decode cX2_readNumber 36 = .ok (.aload_n 0, 1) := by decide +kernel
theorem dX2_readNumber_37 : decode cX2_readNumber 37 = .ok (.getfield 64, 3) := by decide +kernel
theorem dX2_readNumber_40 : decode cX2_readNumber 40 = .ok (.caload, 1) := by decide +kernel
theorem dX2_readNumber_41 : decode cX2_readNumber 41 = .ok (.bipush 48, 2) := by decide +kernel
theorem dX2_readNumber_43 : decode cX2_readNumber 43 = .ok (.isub, 1) := by decide +kernel
theorem dX2_readNumber_44 : decode cX2_readNumber 44 = .ok (.iadd, 1) := by decide +kernel
theorem dX2_readNumber_45 : decode cX2_readNumber 45 = .ok (.istore_n 1, 1) := by decide +kernel
theorem dX2_readNumber_46 : decode cX2_readNumber 46 = .ok (.aload_n 0, 1) := by decide +kernel
theorem dX2_readNumber_47 : decode cX2_readNumber 47 = .ok (.dup, 1) := by decide +kernel
theorem dX2_readNumber_48 : decode cX2_readNumber 48 = .ok (.getfield 64, 3) := by decide +kernel
theorem dX2_readNumber_51 : decode cX2_readNumber 51 = .ok (.iconst 1, 1) := by decide +kernel
theorem dX2_readNumber_52 : decode cX2_readNumber 52 = .ok (.iadd, 1) := by decide +kernel
theorem dX2_readNumber_53 : decode cX2_readNumber 53 = .ok (.putfield 64, 3) := by decide +kernel
theorem dX2_readNumber_56 : decode cX2_readNumber 56 = .ok (.goto (-54), 3) := by decide +kernel
theorem dX2_readNumber_59 : decode cX2_readNumber 59 = .ok (.iload_n 1, 1) := by decide +kernel
theorem dX2_readNumber_60 : decode cX2_readNumber 60 = .ok (.ireturn, 1) := by decide +kernel
theorem dX3_init_0 : decode cX3_init 0 = .ok (.aload_n 0, 1) := by decide +kernel
theorem dX3_init_1 : decode cX3_init 1 = .ok (.invokespecial 3, 3) := by decide +kernel
theorem dX3_init_4 : decode cX3_init 4 = .ok (.return_, 1) := by decide +kernel
theorem dX3_makeNew_0 : decode cX3_makeNew 0 = .ok (.aload_n 0, 1) := by decide +kernel
theorem dX3_makeNew_1 : decode cX3_makeNew 1 = .ok (.iload_n 1, 1) := by decide +kernel
theorem dX3_makeNew_2 : decode cX3_makeNew 2 = .ok (.putfield 9, 3) := by decide +kernel
theorem dX3_makeNew_5 : decode cX3_makeNew 5 = .ok (.aload_n 0, 1) := by decide +kernel
theorem dX3_makeNew_6 : decode cX3_makeNew 6 = .ok (.iload_n 2, 1) := by decide +kernel
theorem dX3_makeNew_7 : decode cX3_makeNew 7 = .ok (.putfield 15, 3) := by decide +kernel
theorem dX3_makeNew_10 : decode cX3_makeNew 10 = .ok (.aload_n 0, 1) := by decide +kernel
theorem dX3_makeNew_11 : decode cX3_makeNew 11 = .ok (.iload_n 3, 1) := by decide +kernel
theorem dX3_makeNew_12 : decode cX3_makeNew 12 = .ok (.putfield 18, 3) := by decide +kernel
theorem dX3_makeNew_15 : decode cX3_makeNew 15 = .ok (.aload_n 0, 1) := by decide +kernel
theorem dX3_makeNew_16 : decode cX3_makeNew 16 = .ok (.iload 4, 2) := by decide +kernel
theorem dX3_makeNew_18 : decode cX3_makeNew 18 = .ok (.putfield 21, 3) := by decide +kernel
theorem dX3_makeNew_21 : decode cX3_makeNew 21 = .ok (.aload_n 0, 1) := by decide +kernel
theorem dX3_makeNew_22 : decode cX3_makeNew 22 = .ok (.iload 5, 2) := by decide +kernel
theorem dX3_makeNew_24 : decode cX3_makeNew 24 = .ok (.putfield 24, 3) := by decide +kernel
theorem dX3_makeNew_27 : decode cX3_makeNew 27 = .ok (.aload_n 0, 1) := by decide +kernel
theorem dX3_makeNew_28 : decode cX3_makeNew 28 = .ok (.iconst 0, 1) := by decide +kernel
theorem dX3_makeNew_29 : decode cX3_makeNew 29 = .ok (.putfield 27, 3) := by decide +kernel
theorem dX3_makeNew_32 : decode cX3_makeNew 32 = .ok (.aload_n 0, 1) := by decide +kernel
theorem dX3_makeNew_33 : decode cX3_makeNew 33 = .ok (.iconst 0, 1) := by decide +kernel
theorem dX3_makeNew_34 : decode cX3_makeNew 34 = .ok (.putfield 30, 3) := by decide +kernel
theorem dX3_makeNew_37 : decode cX3_makeNew 37 = .ok (.aload_n 0, 1) := by decide +kernel
theorem dX3_makeNew_38 : decode cX3_makeNew 38 = .ok (.bipush (-6), 2) := by decide +kernel
theorem dX3_makeNew_40 : decode cX3_makeNew 40 = .ok (.putfield 34, 3) := by decide +kernel
theorem dX3_makeNew_43 : decode cX3_makeNew 43 = .ok (.aload_n 0, 1) := by decide +kernel
theorem dX3_makeNew_44 : decode cX3_makeNew 44 = .ok (.bipush (-6), 2) := by decide +kernel
theorem dX3_makeNew_46 : decode cX3_makeNew 46 = .ok (.putfield 37, 3) := by decide +kernel
theorem dX3_makeNew_49 : decode cX3_makeNew 49 = .ok (.aload_n 0, 1) := by decide +kernel
theorem dX3_makeNew_50 : decode cX3_makeNew 50 = .ok (.iconst 0, 1) := by decide +kernel
theorem dX3_makeNew_51 : decode cX3_makeNew 51 = .ok (.putfield 40, 3) := by decide +kernel
theorem dX3_makeNew_54 : decode cX3_makeNew 54 = .ok (.aload_n 0, 1) := by decide +kernel
theorem dX3_makeNew_55 : decode cX3_makeNew 55 = .ok (.iconst 0, 1) := by decide +kernel
theorem dX3_makeNew_56 : decode cX3_makeNew 56 = .ok (.putfield 43, 3) := by decide +kernel
theorem dX3_makeNew_59 : decode cX3_makeNew 59 = .ok (.aload_n 0, 1) := by decide +kernel
theorem dX3_makeNew_60 : decode cX3_makeNew 60 = .ok (.iconst 0, 1) := by decide +kernel
theorem dX3_makeNew_61 : decode cX3_makeNew 61 = .ok (.putfield 46, 3) := by decide +kernel
theorem dX3_makeNew_64 : decode cX3_makeNew 64 = .ok (.return_, 1) := by decide +kernel
theorem dX3_takeFrom_0 : decode cX3_takeFrom 0 = .ok (.aload_n 0, 1) := by decide +kernel
theorem dX3_takeFrom_1 : decode cX3_takeFrom 1 = .ok (.aload_n 1, 1) := by decide +kernel
theorem dX3_takeFrom_2 : decode cX3_takeFrom 2 = .ok (.getfield 9, 3) := by decide +kernel
theorem dX3_takeFrom_5 : decode cX3_takeFrom 5 = .ok (.putfield 9, 3) := by decide +kernel
theorem dX3_takeFrom_8 : decode cX3_takeFrom 8 = .ok (.aload_n 0, 1) := by decide +kernel
theorem dX3_takeFrom_9 : decode cX3_takeFrom 9 = .ok (.aload_n 1, 1) := by decide +kernel
theorem dX3_takeFrom_10 : decode cX3_takeFrom 10 = .ok (.getfield 15, 3) := by decide +kernel
theorem dX3_takeFrom_13 : decode cX3_takeFrom 13 = .ok (.putfield 15, 3) := by decide +kernel
theorem dX3_takeFrom_16 : decode cX3_takeFrom 16 = .ok (.aload_n 0, 1) := by decide +kernel
theorem dX3_takeFrom_17 : decode cX3_takeFrom 17 = .ok (.aload_n 1, 1) := by decide +kernel
theorem dX3_takeFrom_18 : decode cX3_takeFrom 18 = .ok (.getfield 18, 3) := by decide +kernel
theorem dX3_takeFrom_21 : decode cX3_takeFrom 21 = .ok (.putfield 18, 3) := by decide +kernel
theorem dX3_takeFrom_24 : decode cX3_takeFrom 24 = .ok (.aload_n 0, 1) := by decide +kernel
theorem dX3_takeFrom_25 : decode cX3_takeFrom 25 = .ok (.aload_n 1, 1) := by decide +kernel
theorem dX3_takeFrom_26 : decode cX3_takeFrom 26 = .ok (.getfield 21, 3) := by decide +kernel
theorem dX3_takeFrom_29 : decode cX3_takeFrom 29 = .ok (.putfield 21, 3) := by decide +kernel
theorem dX3_takeFrom_32 : decode cX3_takeFrom 32 = .ok (.aload_n 0, 1) := by decide +kernel
theorem dX3_takeFrom_33 : decode cX3_takeFrom 33 = .ok (.aload_n 1, 1) := by decide +kernel
theorem dX3_takeFrom_34 : decode cX3_takeFrom 34 = .ok (.getfield 24, 3) := by decide +kernel
theorem dX3_takeFrom_37 : decode cX3_takeFrom 37 = .ok (.putfield 24, 3) := by decide +kernel
theorem dX3_takeFrom_40 : decode cX3_takeFrom 40 = .ok (.aload_n 0, 1) := by decide +kernel
theorem dX3_takeFrom_41 : decode cX3_takeFrom 41 = .ok (.aload_n 1, 1) := by decide +kernel
theorem dX3_takeFrom_42 : decode cX3_takeFrom 42 = .ok (.getfield 27, 3) := by decide +kernel
theorem dX3_takeFrom_45 : decode cX3_takeFrom 45 = .ok (.putfield 27, 3) := by decide +kernel
theorem dX3_takeFrom_48 : decode cX3_takeFrom 48 = .ok (.aload_n 0, 1) := by decide +kernel
theorem dX3_takeFrom_49 : decode cX3_takeFrom 49 = .ok (.aload_n 1, 1) := by decide +kernel
theorem dX3_takeFrom_50 : decode cX3_takeFrom 50 = .ok (.getfield 30, 3) := by decide +kernel
theorem dX3_takeFrom_53 : decode cX3_takeFrom 53 = .ok (.putfield 30, 3) := by decide +kernel
theorem dX3_takeFrom_56 : decode cX3_takeFrom 56 = .ok (.aload_n 0, 1) := by decide +kernel
theorem dX3_takeFrom_57 : decode cX3_takeFrom 57 = .ok (.aload_n 1, 1) := by decide +kernel
theorem dX3_takeFrom_58 : decode cX3_takeFrom 58 = .ok (.getfield 34, 3) := by decide +kernel
theorem dX3_takeFrom_61 : decode cX3_takeFrom 61 = .ok (.putfield 34, 3) := by decide +kernel
theorem dX3_takeFrom_64 : decode cX3_takeFrom 64 = .ok (.aload_n 0, 1) := by decide +kernel
theorem dX3_takeFrom_65 : decode cX3_takeFrom 65 = .ok (.aload_n 1, 1) := by decide +kernel
theorem dX3_takeFrom_66 : decode cX3_takeFrom 66 = .ok (.getfield 37, 3) := by decide +kernel
theorem dX3_takeFrom_69 : decode cX3_takeFrom 69 = .ok (.putfield 37, 3) := by decide +kernel
theorem dX3_takeFrom_72 : decode cX3_takeFrom 72 = .ok (.aload_n 0, 1) := by decide +kernel
theorem dX3_takeFrom_73 : decode cX3_takeFrom 73 = .ok (.aload_n 1, 1) := by decide +kernel
theorem dX3_takeFrom_74 : decode cX3_takeFrom 74 = .ok (.getfield 40, 3) := by decide +kernel
theorem dX3_takeFrom_77 : decode cX3_takeFrom 77 = .ok (.putfield 40, 3) := by decide +kernel
theorem dX3_takeFrom_80 : decode cX3_takeFrom 80 = .ok (.aload_n 0, 1) := by decide +kernel
theorem dX3_takeFrom_81 : decode cX3_takeFrom 81 = .ok (.aload_n 1, 1) := by decide +kernel
theorem dX3_takeFrom_82 : decode cX3_takeFrom 82 = .ok (.getfield 43, 3) := by decide +kernel
theorem dX3_takeFrom_85 : decode cX3_takeFrom 85 = .ok (.putfield 43, 3) := by decide +kernel
theorem dX3_takeFrom_88 : decode cX3_takeFrom 88 = .ok (.aload_n 0, 1) := by decide +kernel
theorem dX3_takeFrom_89 : decode cX3_takeFrom 89 = .ok (.aload_n 1, 1) := by decide +kernel
theorem dX3_takeFrom_90 : decode cX3_takeFrom 90 = .ok (.getfield 46, 3) := by decide +kernel
theorem dX3_takeFrom_93 : decode cX3_takeFrom 93 = .ok (.putfield 46, 3) := by decide +kernel
theorem dX3_takeFrom_96 : decode cX3_takeFrom 96 = .ok (.return_, 1) := by decide +kernel
theorem dX3_weight_0 : decode cX3_weight 0 = .ok (.aload_n 0, 1) := by decide +kernel
theorem dX3_weight_1 : decode cX3_weight 1 = .ok (.getfield 15, 3) := by decide +kernel
theorem dX3_weight_4 : decode cX3_weight 4 = .ok (.i2l, 1) := by decide +kernel
theorem dX3_weight_5 : decode cX3_weight 5 = .ok (.aload_n 0, 1) := by decide +kernel
theorem dX3_weight_6 : decode cX3_weight 6 = .ok (.getfield 15, 3) := by decide +kernel
theorem dX3_weight_9 : decode cX3_weight 9 = .ok (.i2l, 1) := by decide +kernel
theorem dX3_weight_10 : decode cX3_weight 10 = .ok (.lmul, 1) := by decide +kernel
theorem dX3_weight_11 : decode cX3_weight 11 = .ok (.aload_n 0, 1) := by decide +kernel
theorem dX3_weight_12 : decode cX3_weight 12 = .ok (.getfield 18, 3) := by decide +kernel
theorem dX3_weight_15 : decode cX3_weight 15 = .ok (.i2l, 1) := by decide +kernel
theorem dX3_weight_16 : decode cX3_weight 16 = .ok (.lmul, 1) := by decide +kernel
theorem dX3_weight_17 : decode cX3_weight 17 = .ok (.lreturn, 1) := by decide +kernel
theorem dX3_pitchWith_0 : decode cX3_pitchWith 0 = .ok (.iload_n 1, 1) := by decide +kernel
theorem dX3_pitchWith_1 : decode cX3_pitchWith 1 = .ok (.i2l, 1) := by decide +kernel
theorem dX3_pitchWith_2 : decode cX3_pitchWith 2 = .ok (.ldc2_w 49, 3) := by decide +kernel
theorem dX3_pitchWith_5 : decode cX3_pitchWith 5 = .ok (.lmul, 1) := by decide +kernel
theorem dX3_pitchWith_6 : decode cX3_pitchWith 6 = .ok (.lstore_n 2, 1) := by decide +kernel
theorem dX3_pitchWith_7 : decode cX3_pitchWith 7 = .ok (.aload_n 0, 1) := by decide +kernel
theorem dX3_pitchWith_8 : decode cX3_pitchWith 8 = .ok (.invokevirtual 51, 3) := by decide +kernel
theorem dX3_pitchWith_11 : decode cX3_pitchWith 11 = .ok (.lstore 4, 2) := by decide +kernel
theorem dX3_pitchWith_13 : decode cX3_pitchWith 13 = .ok (.lconst 0, 1) := by decide +kernel
theorem dX3_pitchWith_14 : decode cX3_pitchWith 14 = .ok (.lstore 6, 2) := by decide +kernel
theorem dX3_pitchWith_16 : decode cX3_pitchWith 16 = .ok (.ldc2_w 55, 3) := by decide +kernel
theorem dX3_pitchWith_19 : decode cX3_pitchWith 19 = .ok (.lstore 8, 2) := by decide +kernel
theorem dX3_pitchWith_21 : decode cX3_pitchWith 21 = .ok (.lload 8, 2) := by decide +kernel
theorem dX3_pitchWith_23 : decode cX3_pitchWith 23 = .ok (.lconst 0, 1) := by decide +kernel
theorem dX3_pitchWith_24 : decode cX3_pitchWith 24 = .ok (.lcmp, 1) := by decide +kernel
theorem dX3_pitchWith_25 : decode cX3_pitchWith 25 = .ok (.ifCond .le 40, 3) := by decide +kernel
theorem dX3_pitchWith_28 : decode cX3_pitchWith 28 = .ok (.lload 6, 2) := by decide +kernel
theorem dX3_pitchWith_30 : decode cX3_pitchWith 30 = .ok (.lload 8, 2) := by decide +kernel
theorem dX3_pitchWith_32 : decode cX3_pitchWith 32 = .ok (.ladd, 1) := by decide +kernel
theorem dX3_pitchWith_33 : decode cX3_pitchWith 33 = .ok (.lload 6, 2) := by decide +kernel
theorem dX3_pitchWith_35 : decode cX3_pitchWith 35 = .ok (.lload 8, 2) := by decide +kernel
theorem dX3_pitchWith_37 : decode cX3_pitchWith 37 = .ok (.ladd, 1) := by decide +kernel
theorem dX3_pitchWith_38 : decode cX3_pitchWith 38 = .ok (.lmul, 1) := by decide +kernel
theorem dX3_pitchWith_39 : decode cX3_pitchWith 39 = .ok (.lload 4, 2) := by decide +kernel
theorem dX3_pitchWith_41 : decode cX3_pitchWith 41 = .ok (.lmul, 1) := by decide +kernel
theorem dX3_pitchWith_42 : decode cX3_pitchWith 42 = .ok (.lload_n 2, 1) := by decide +kernel
theorem dX3_pitchWith_43 : decode cX3_pitchWith 43 = .ok (.lcmp, 1) := by decide +kernel
theorem dX3_pitchWith_44 : decode cX3_pitchWith 44 = .ok (.ifCond .gt 10, 3) := by decide +kernel
theorem dX3_pitchWith_47 : decode cX3_pitchWith 47 = .ok (.lload 6, 2) := by decide +kernel
theorem dX3_pitchWith_49 : decode cX3_pitchWith 49 = .ok (.lload 8, 2) := by decide +kernel
theorem dX3_pitchWith_51 : decode cX3_pitchWith 51 = .ok (.ladd, 1) := by decide +kernel
theorem dX3_pitchWith_52 : decode cX3_pitchWith 52 = .ok (.lstore 6, 2) := by decide +kernel
theorem dX3_pitchWith_54 : decode cX3_pitchWith 54 = .ok (.lload 8, 2) := by decide +kernel
theorem dX3_pitchWith_56 : decode cX3_pitchWith 56 = .ok (.ldc2_w 57, 3) := by decide +kernel
theorem dX3_pitchWith_59 : decode cX3_pitchWith 59 = .ok (.ldiv, 1) := by decide +kernel
theorem dX3_pitchWith_60 : decode cX3_pitchWith 60 = .ok (.lstore 8, 2) := by decide +kernel
theorem dX3_pitchWith_62 : decode cX3_pitchWith 62 = .ok (.goto (-41), 3) := by decide +kernel
theorem dX3_pitchWith_65 : decode cX3_pitchWith 65 = .ok (.lload 6, 2) := by decide +kernel
theorem dX3_pitchWith_67 : decode cX3_pitchWith 67 = .ok (.l2i, 1) := by decide +kernel
theorem dX3_pitchWith_68 : decode cX3_pitchWith 68 = .ok (.ireturn, 1) := by decide +kernel
theorem dX3_leastTension_0 : decode cX3_leastTension 0 = .ok (.lload_n 1, 1) := by decide +kernel
theorem dX3_leastTension_1 : decode cX3_leastTension 1 = .ok (.lload_n 1, 1) := by decide +kernel
theorem dX3_leastTension_2 : decode cX3_leastTension 2 = .ok (.lmul, 1) := by decide +kernel
theorem dX3_leastTension_3 : decode cX3_leastTension 3 = .ok (.aload_n 0, 1) := by decide +kernel
theorem dX3_leastTension_4 : decode cX3_leastTension 4 = .ok (.invokevirtual 51, 3) := by decide +kernel
theorem dX3_leastTension_7 : decode cX3_leastTension 7 = .ok (.lmul, 1) := by decide +kernel
theorem dX3_leastTension_8 : decode cX3_leastTension 8 = .ok (.ldc2_w 49, 3) := by decide +kernel
theorem dX3_leastTension_11 : decode cX3_leastTension 11 = .ok (.ladd, 1) := by decide +kernel
theorem dX3_leastTension_12 : decode cX3_leastTension 12 = .ok (.lconst 1, 1) := by decide +kernel
theorem dX3_leastTension_13 : decode cX3_leastTension 13 = .ok (.lsub, 1) := by decide +kernel
theorem dX3_leastTension_14 : decode cX3_leastTension 14 = .ok (.ldc2_w 49, 3) := by decide +kernel
theorem dX3_leastTension_17 : decode cX3_leastTension 17 = .ok (.ldiv, 1) := by decide +kernel
theorem dX3_leastTension_18 : decode cX3_leastTension 18 = .ok (.lreturn, 1) := by decide +kernel
theorem dX3_snap_0 : decode cX3_snap 0 = .ok (.aload_n 0, 1) := by decide +kernel
theorem dX3_snap_1 : decode cX3_snap 1 = .ok (.iconst 1, 1) := by decide +kernel
theorem dX3_snap_2 : decode cX3_snap 2 = .ok (.putfield 30, 3) := by decide +kernel
theorem dX3_snap_5 : decode cX3_snap 5 = .ok (.aload_n 0, 1) := by decide +kernel
theorem dX3_snap_6 : decode cX3_snap 6 = .ok (.iload_n 1, 1) := by decide +kernel
theorem dX3_snap_7 : decode cX3_snap 7 = .ok (.putfield 34, 3) := by decide +kernel
theorem dX3_snap_10 : decode cX3_snap 10 = .ok (.aload_n 0, 1) := by decide +kernel
theorem dX3_snap_11 : decode cX3_snap 11 = .ok (.iconst 0, 1) := by decide +kernel
theorem dX3_snap_12 : decode cX3_snap 12 = .ok (.putfield 24, 3) := by decide +kernel
theorem dX3_snap_15 : decode cX3_snap 15 = .ok (.return_, 1) := by decide +kernel
theorem dX3_pull_0 : decode cX3_pull 0 = .ok (.aload_n 0, 1) := by decide +kernel
theorem dX3_pull_1 : decode cX3_pull 1 = .ok (.iload_n 1, 1) := by decide +kernel
theorem dX3_pull_2 : decode cX3_pull 2 = .ok (.putfield 24, 3) := by decide +kernel
theorem dX3_pull_5 : decode cX3_pull 5 = .ok (.aload_n 0, 1) := by decide +kernel
theorem dX3_pull_6 : decode cX3_pull 6 = .ok (.iload_n 1, 1) := by decide +kernel
theorem dX3_pull_7 : decode cX3_pull 7 = .ok (.putfield 40, 3) := by decide +kernel
theorem dX3_pull_10 : decode cX3_pull 10 = .ok (.aload_n 0, 1) := by decide +kernel
theorem dX3_pull_11 : decode cX3_pull 11 = .ok (.iload_n 1, 1) := by decide +kernel
theorem dX3_pull_12 : decode cX3_pull 12 = .ok (.putfield 43, 3) := by decide +kernel
theorem dX3_pull_15 : decode cX3_pull 15 = .ok (.aload_n 0, 1) := by decide +kernel
theorem dX3_pull_16 : decode cX3_pull 16 = .ok (.iload_n 2, 1) := by decide +kernel
theorem dX3_pull_17 : decode cX3_pull 17 = .ok (.putfield 37, 3) := by decide +kernel
theorem dX3_pull_20 : decode cX3_pull 20 = .ok (.return_, 1) := by decide +kernel
theorem dX3_sing_0 : decode cX3_sing 0 = .ok (.aload_n 0, 1) := by decide +kernel
theorem dX3_sing_1 : decode cX3_sing 1 = .ok (.iload_n 1, 1) := by decide +kernel
theorem dX3_sing_2 : decode cX3_sing 2 = .ok (.putfield 37, 3) := by decide +kernel
theorem dX3_sing_5 : decode cX3_sing 5 = .ok (.aload_n 0, 1) := by decide +kernel
theorem dX3_sing_6 : decode cX3_sing 6 = .ok (.getfield 30, 3) := by decide +kernel
theorem dX3_sing_9 : decode cX3_sing 9 = .ok (.ifCond .eq 21, 3) := by decide +kernel
theorem dX3_sing_12 : decode cX3_sing 12 = .ok (.aload_n 0, 1) := by decide +kernel
theorem dX3_sing_13 : decode cX3_sing 13 = .ok (.iconst 1, 1) := by decide +kernel
theorem dX3_sing_14 : decode cX3_sing 14 = .ok (.putfield 46, 3) := by decide +kernel
theorem dX3_sing_17 : decode cX3_sing 17 = .ok (.aload_n 0, 1) := by decide +kernel
theorem dX3_sing_18 : decode cX3_sing 18 = .ok (.iconst 0, 1) := by decide +kernel
theorem dX3_sing_19 : decode cX3_sing 19 = .ok (.putfield 40, 3) := by decide +kernel
theorem dX3_sing_22 : decode cX3_sing 22 = .ok (.aload_n 0, 1) := by decide +kernel
theorem dX3_sing_23 : decode cX3_sing 23 = .ok (.iconst 0, 1) := by decide +kernel
theorem dX3_sing_24 : decode cX3_sing 24 = .ok (.putfield 43, 3) := by decide +kernel
theorem dX3_sing_27 : decode cX3_sing 27 = .ok (.bipush (-6), 2) := by decide +kernel
theorem dX3_sing_29 : decode cX3_sing 29 = .ok (.ireturn, 1) := by decide +kernel
theorem dX3_sing_30 : decode cX3_sing 30 = .ok (.aload_n 0, 1) := by decide +kernel
theorem dX3_sing_31 : decode cX3_sing 31 = .ok (.aload_n 0, 1) := by decide +kernel
theorem dX3_sing_32 : decode cX3_sing 32 = .ok (.getfield 24, 3) := by decide +kernel
theorem dX3_sing_35 : decode cX3_sing 35 = .ok (.invokevirtual 59, 3) := by decide +kernel
theorem dX3_sing_38 : decode cX3_sing 38 = .ok (.istore_n 2, 1) := by decide +kernel
theorem dX3_sing_39 : decode cX3_sing 39 = .ok (.aload_n 0, 1) := by decide +kernel
theorem dX3_sing_40 : decode cX3_sing 40 = .ok (.aload_n 0, 1) := by decide +kernel
theorem dX3_sing_41 : decode cX3_sing 41 = .ok (.iload_n 2, 1) := by decide +kernel
theorem dX3_sing_42 : decode cX3_sing 42 = .ok (.i2l, 1) := by decide +kernel
theorem dX3_sing_43 : decode cX3_sing 43 = .ok (.invokevirtual 63, 3) := by decide +kernel
theorem dX3_sing_46 : decode cX3_sing 46 = .ok (.l2i, 1) := by decide +kernel
theorem dX3_sing_47 : decode cX3_sing 47 = .ok (.putfield 40, 3) := by decide +kernel
theorem dX3_sing_50 : decode cX3_sing 50 = .ok (.aload_n 0, 1) := by decide +kernel
theorem dX3_sing_51 : decode cX3_sing 51 = .ok (.aload_n 0, 1) := by decide +kernel
theorem dX3_sing_52 : decode cX3_sing 52 = .ok (.iload_n 2, 1) := by decide +kernel
theorem dX3_sing_53 : decode cX3_sing 53 = .ok (.iconst 1, 1) := by decide +kernel
theorem dX3_sing_54 : decode cX3_sing 54 = .ok (.iadd, 1) := by decide +kernel
theorem dX3_sing_55 : decode cX3_sing 55 = .ok (.i2l, 1) := by decide +kernel
theorem dX3_sing_56 : decode cX3_sing 56 = .ok (.invokevirtual 63, 3) := by decide +kernel
theorem dX3_sing_59 : decode cX3_sing 59 = .ok (.lconst 1, 1) := by decide +kernel
theorem dX3_sing_60 : decode cX3_sing 60 = .ok (.lsub, 1) := by decide +kernel
theorem dX3_sing_61 : decode cX3_sing 61 = .ok (.ldc2_w 67, 3) := by decide +kernel
theorem dX3_sing_64 : decode cX3_sing 64 = .ok (.invokestatic 69, 3) := by decide +kernel
theorem dX3_sing_67 : decode cX3_sing 67 = .ok (.l2i, 1) := by decide +kernel
theorem dX3_sing_68 : decode cX3_sing 68 = .ok (.putfield 43, 3) := by decide +kernel
theorem dX3_sing_71 : decode cX3_sing 71 = .ok (.iload_n 2, 1) := by decide +kernel
theorem dX3_sing_72 : decode cX3_sing 72 = .ok (.ireturn, 1) := by decide +kernel
theorem dX3_loosen_0 : decode cX3_loosen 0 = .ok (.aload_n 0, 1) := by decide +kernel
theorem dX3_loosen_1 : decode cX3_loosen 1 = .ok (.aload_n 0, 1) := by decide +kernel
theorem dX3_loosen_2 : decode cX3_loosen 2 = .ok (.getfield 24, 3) := by decide +kernel
theorem dX3_loosen_5 : decode cX3_loosen 5 = .ok (.iload_n 1, 1) := by decide +kernel
theorem dX3_loosen_6 : decode cX3_loosen 6 = .ok (.invokestatic 75, 3) := by decide +kernel
theorem dX3_loosen_9 : decode cX3_loosen 9 = .ok (.putfield 24, 3) := by decide +kernel
theorem dX3_loosen_12 : decode cX3_loosen 12 = .ok (.aload_n 0, 1) := by decide +kernel
theorem dX3_loosen_13 : decode cX3_loosen 13 = .ok (.aload_n 0, 1) := by decide +kernel
theorem dX3_loosen_14 : decode cX3_loosen 14 = .ok (.getfield 40, 3) := by decide +kernel
theorem dX3_loosen_17 : decode cX3_loosen 17 = .ok (.iload_n 1, 1) := by decide +kernel
theorem dX3_loosen_18 : decode cX3_loosen 18 = .ok (.invokestatic 75, 3) := by decide +kernel
theorem dX3_loosen_21 : decode cX3_loosen 21 = .ok (.putfield 40, 3) := by decide +kernel
theorem dX3_loosen_24 : decode cX3_loosen 24 = .ok (.aload_n 0, 1) := by decide +kernel
theorem dX3_loosen_25 : decode cX3_loosen 25 = .ok (.aload_n 0, 1) := by decide +kernel
theorem dX3_loosen_26 : decode cX3_loosen 26 = .ok (.getfield 43, 3) := by decide +kernel
theorem dX3_loosen_29 : decode cX3_loosen 29 = .ok (.iload_n 1, 1) := by decide +kernel
theorem dX3_loosen_30 : decode cX3_loosen 30 = .ok (.invokestatic 75, 3) := by decide +kernel
theorem dX3_loosen_33 : decode cX3_loosen 33 = .ok (.putfield 43, 3) := by decide +kernel
theorem dX3_loosen_36 : decode cX3_loosen 36 = .ok (.return_, 1) := by decide +kernel
theorem dX3_isSlack_0 : decode cX3_isSlack 0 = .ok (.aload_n 0, 1) := by decide +kernel
theorem dX3_isSlack_1 : decode cX3_isSlack 1 = .ok (.getfield 30, 3) := by decide +kernel
theorem dX3_isSlack_4 : decode cX3_isSlack 4 = .ok (.ifCond .ne 18, 3) := by decide +kernel
theorem dX3_isSlack_7 : decode cX3_isSlack 7 = .ok (.aload_n 0, 1) := by decide +kernel
theorem dX3_isSlack_8 : decode cX3_isSlack 8 = .ok (.getfield 24, 3) := by decide +kernel
theorem dX3_isSlack_11 : decode cX3_isSlack 11 = .ok (.aload_n 0, 1) := by decide +kernel
theorem dX3_isSlack_12 : decode cX3_isSlack 12 = .ok (.getfield 27, 3) := by decide +kernel
theorem dX3_isSlack_15 : decode cX3_isSlack 15 = .ok (.if_icmp .ge 7, 3) := by decide +kernel
theorem dX3_isSlack_18 : decode cX3_isSlack 18 = .ok (.iconst 1, 1) := by decide +kernel
theorem dX3_isSlack_19 : decode cX3_isSlack 19 = .ok (.goto 4, 3) := by decide +kernel
theorem dX3_isSlack_22 : decode cX3_isSlack 22 = .ok (.iconst 0, 1) := by decide +kernel
theorem dX3_isSlack_23 : decode cX3_isSlack 23 = .ok (.ireturn, 1) := by decide +kernel
theorem dX3_isTooTight_0 : decode cX3_isTooTight 0 = .ok (.aload_n 0, 1) := by decide +kernel
theorem dX3_isTooTight_1 : decode cX3_isTooTight 1 = .ok (.getfield 30, 3) := by decide +kernel
theorem dX3_isTooTight_4 : decode cX3_isTooTight 4 = .ok (.ifCond .ne 38, 3) := by decide +kernel
theorem dX3_isTooTight_7 : decode cX3_isTooTight 7 = .ok (.aload_n 0, 1) := by decide +kernel
theorem dX3_isTooTight_8 : decode cX3_isTooTight 8 = .ok (.getfield 24, 3) := by decide +kernel
theorem dX3_isTooTight_11 : decode cX3_isTooTight 11 = .ok (.sipush 1000, 3) := by decide +kernel
theorem dX3_isTooTight_14 : decode cX3_isTooTight 14 = .ok (.if_icmp .le 28, 3) := by decide +kernel
theorem dX3_isTooTight_17 : decode cX3_isTooTight 17 = .ok (.aload_n 0, 1) := by decide +kernel
theorem dX3_isTooTight_18 : decode cX3_isTooTight 18 = .ok (.getfield 24, 3) := by decide +kernel
theorem dX3_isTooTight_21 : decode cX3_isTooTight 21 = .ok (.aload_n 0, 1) := by decide +kernel
theorem dX3_isTooTight_22 : decode cX3_isTooTight 22 = .ok (.getfield 27, 3) := by decide +kernel
theorem dX3_isTooTight_25 : decode cX3_isTooTight 25 = .ok (.aload_n 0, 1) := by decide +kernel
theorem dX3_isTooTight_26 : decode cX3_isTooTight 26 = .ok (.getfield 27, 3) := by decide +kernel
theorem dX3_isTooTight_29 : decode cX3_isTooTight 29 = .ok (.iload_n 1, 1) := by decide +kernel
theorem dX3_isTooTight_30 : decode cX3_isTooTight 30 = .ok (.imul, 1) := by decide +kernel
theorem dX3_isTooTight_31 : decode cX3_isTooTight 31 = .ok (.bipush 100, 2) := by decide +kernel
theorem dX3_isTooTight_33 : decode cX3_isTooTight 33 = .ok (.idiv, 1) := by decide +kernel
theorem dX3_isTooTight_34 : decode cX3_isTooTight 34 = .ok (.iadd, 1) := by decide +kernel
theorem dX3_isTooTight_35 : decode cX3_isTooTight 35 = .ok (.if_icmp .le 7, 3) := by decide +kernel
theorem dX3_isTooTight_38 : decode cX3_isTooTight 38 = .ok (.iconst 1, 1) := by decide +kernel
theorem dX3_isTooTight_39 : decode cX3_isTooTight 39 = .ok (.goto 4, 3) := by decide +kernel
theorem dX3_isTooTight_42 : decode cX3_isTooTight 42 = .ok (.iconst 0, 1) := by decide +kernel
theorem dX3_isTooTight_43 : decode cX3_isTooTight 43 = .ok (.ireturn, 1) := by decide +kernel
theorem dX3_isKnown_0 : decode cX3_isKnown 0 = .ok (.aload_n 0, 1) := by decide +kernel
theorem dX3_isKnown_1 : decode cX3_isKnown 1 = .ok (.getfield 37, 3) := by decide +kernel
theorem dX3_isKnown_4 : decode cX3_isKnown 4 = .ok (.bipush (-6), 2) := by decide +kernel
theorem dX3_isKnown_6 : decode cX3_isKnown 6 = .ok (.if_icmp .eq 7, 3) := by decide +kernel
theorem dX3_isKnown_9 : decode cX3_isKnown 9 = .ok (.iconst 1, 1) := by decide +kernel
theorem dX3_isKnown_10 : decode cX3_isKnown 10 = .ok (.goto 4, 3) := by decide +kernel
theorem dX3_isKnown_13 : decode cX3_isKnown 13 = .ok (.iconst 0, 1) := by decide +kernel
theorem dX3_isKnown_14 : decode cX3_isKnown 14 = .ok (.ireturn, 1) := by decide +kernel
theorem dX3_isSurelySlack_0 : decode cX3_isSurelySlack 0 = .ok (.aload_n 0, 1) := by decide +kernel
theorem dX3_isSurelySlack_1 : decode cX3_isSurelySlack 1 = .ok (.invokevirtual 79, 3) := by decide +kernel
theorem dX3_isSurelySlack_4 : decode cX3_isSurelySlack 4 = .ok (.ifCond .eq 18, 3) := by decide +kernel
theorem dX3_isSurelySlack_7 : decode cX3_isSurelySlack 7 = .ok (.aload_n 0, 1) := by decide +kernel
theorem dX3_isSurelySlack_8 : decode cX3_isSurelySlack 8 = .ok (.getfield 43, 3) := by decide +kernel
theorem dX3_isSurelySlack_11 : decode cX3_isSurelySlack 11 = .ok (.aload_n 0, 1) := by decide +kernel
theorem dX3_isSurelySlack_12 : decode cX3_isSurelySlack 12 = .ok (.getfield 27, 3) := by decide +kernel
theorem dX3_isSurelySlack_15 : decode cX3_isSurelySlack 15 = .ok (.if_icmp .ge 7, 3) := by decide +kernel
theorem dX3_isSurelySlack_18 : decode cX3_isSurelySlack 18 = .ok (.iconst 1, 1) := by decide +kernel
theorem dX3_isSurelySlack_19 : decode cX3_isSurelySlack 19 = .ok (.goto 4, 3) := by decide +kernel
theorem dX3_isSurelySlack_22 : decode cX3_isSurelySlack 22 = .ok (.iconst 0, 1) := by decide +kernel
theorem dX3_isSurelySlack_23 : decode cX3_isSurelySlack 23 = .ok (.ireturn, 1) := by decide +kernel
theorem dX3_maybeSlack_0 : decode cX3_maybeSlack 0 = .ok (.aload_n 0, 1) := by decide +kernel
theorem dX3_maybeSlack_1 : decode cX3_maybeSlack 1 = .ok (.getfield 46, 3) := by decide +kernel
theorem dX3_maybeSlack_4 : decode cX3_maybeSlack 4 = .ok (.ifCond .ne 32, 3) := by decide +kernel
theorem dX3_maybeSlack_7 : decode cX3_maybeSlack 7 = .ok (.aload_n 0, 1) := by decide +kernel
theorem dX3_maybeSlack_8 : decode cX3_maybeSlack 8 = .ok (.invokevirtual 83, 3) := by decide +kernel
theorem dX3_maybeSlack_11 : decode cX3_maybeSlack 11 = .ok (.ifCond .ne 25, 3) := by decide +kernel
theorem dX3_maybeSlack_14 : decode cX3_maybeSlack 14 = .ok (.aload_n 0, 1) := by decide +kernel
theorem dX3_maybeSlack_15 : decode cX3_maybeSlack 15 = .ok (.invokevirtual 79, 3) := by decide +kernel
theorem dX3_maybeSlack_18 : decode cX3_maybeSlack 18 = .ok (.ifCond .eq 14, 3) := by decide +kernel
theorem dX3_maybeSlack_21 : decode cX3_maybeSlack 21 = .ok (.aload_n 0, 1) := by decide +kernel
theorem dX3_maybeSlack_22 : decode cX3_maybeSlack 22 = .ok (.getfield 40, 3) := by decide +kernel
theorem dX3_maybeSlack_25 : decode cX3_maybeSlack 25 = .ok (.aload_n 0, 1) := by decide +kernel
theorem dX3_maybeSlack_26 : decode cX3_maybeSlack 26 = .ok (.getfield 27, 3) := by decide +kernel
theorem dX3_maybeSlack_29 : decode cX3_maybeSlack 29 = .ok (.if_icmp .ge 7, 3) := by decide +kernel
theorem dX3_maybeSlack_32 : decode cX3_maybeSlack 32 = .ok (.iconst 1, 1) := by decide +kernel
theorem dX3_maybeSlack_33 : decode cX3_maybeSlack 33 = .ok (.goto 4, 3) := by decide +kernel
theorem dX3_maybeSlack_36 : decode cX3_maybeSlack 36 = .ok (.iconst 0, 1) := by decide +kernel
theorem dX3_maybeSlack_37 : decode cX3_maybeSlack 37 = .ok (.ireturn, 1) := by decide +kernel
end
section
theorem dX4_init_0 : decode cX4_init 0 = .ok (.aload_n 0, 1) := by decide +kernel
theorem dX4_init_1 : decode cX4_init 1 = .ok (.invokespecial 1, 3) := by decide +kernel
theorem dX4_init_4 : decode cX4_init 4 = .ok (.aload_n 0, 1) := by decide +kernel
theorem dX4_init_5 : decode cX4_init 5 = .ok (.new 7, 3) := by decide +kernel
theorem dX4_init_8 : decode cX4_init 8 = .ok (.dup, 1) := by decide +kernel
theorem dX4_init_9 : decode cX4_init 9 = .ok (.invokespecial 9, 3) := by decide +kernel
theorem dX4_init_12 : decode cX4_init 12 = .ok (.putfield 10, 3) := by decide +kernel
theorem dX4_init_15 : decode cX4_init 15 = .ok (.aload_n 0, 1) := by decide +kernel
theorem dX4_init_16 : decode cX4_init 16 = .ok (.new 7, 3) := by decide +kernel
theorem dX4_init_19 : decode cX4_init 19 = .ok (.dup, 1) := by decide +kernel
theorem dX4_init_20 : decode cX4_init 20 = .ok (.invokespecial 9, 3) := by decide +kernel
theorem dX4_init_23 : decode cX4_init 23 = .ok (.putfield 16, 3) := by decide +kernel
theorem dX4_init_26 : decode cX4_init 26 = .ok (.aload_n 0, 1) := by decide +kernel
theorem dX4_init_27 : decode cX4_init 27 = .ok (.new 19, 3) := by decide +kernel
theorem dX4_init_30 : decode cX4_init 30 = .ok (.dup, 1) := by decide +kernel
theorem dX4_init_31 : decode cX4_init 31 = .ok (.invokespecial 21, 3) := by decide +kernel
theorem dX4_init_34 : decode cX4_init 34 = .ok (.putfield 22, 3) := by decide +kernel
theorem dX4_init_37 : decode cX4_init 37 = .ok (.aload_n 0, 1) := by decide +kernel
theorem dX4_init_38 : decode cX4_init 38 = .ok (.iconst 2, 1) := by decide +kernel
theorem dX4_init_39 : decode cX4_init 39 = .ok (.anewarray 7, 3) := by decide +kernel
theorem dX4_init_42 : decode cX4_init 42 = .ok (.putfield 26, 3) := by decide +kernel
theorem dX4_init_45 : decode cX4_init 45 = .ok (.iconst 0, 1) := by decide +kernel
theorem dX4_init_46 : decode cX4_init 46 = .ok (.istore_n 1, 1) := by decide +kernel
theorem dX4_init_47 : decode cX4_init 47 = .ok (.iload_n 1, 1) := by decide +kernel
theorem dX4_init_48 : decode cX4_init 48 = .ok (.iconst 2, 1) := by decide +kernel
theorem dX4_init_49 : decode cX4_init 49 = .ok (.if_icmp .ge 22, 3) := by decide +kernel
theorem dX4_init_52 : decode cX4_init 52 = .ok (.aload_n 0, 1) := by decide +kernel
theorem dX4_init_53 : decode cX4_init 53 = .ok (.getfield 26, 3) := by decide +kernel
theorem dX4_init_56 : decode cX4_init 56 = .ok (.iload_n 1, 1) := by decide +kernel
theorem dX4_init_57 : decode cX4_init 57 = .ok (.new 7, 3) := by decide +kernel
theorem dX4_init_60 : decode cX4_init 60 = .ok (.dup, 1) := by decide +kernel
theorem dX4_init_61 : decode cX4_init 61 = .ok (.invokespecial 9, 3) := by decide +kernel
theorem dX4_init_64 : decode cX4_init 64 = .ok (.aastore, 1) := by decide +kernel
theorem dX4_init_65 : decode cX4_init 65 = .ok (.iinc 1 1, 3) := by decide +kernel
theorem dX4_init_68 : decode cX4_init 68 = .ok (.goto (-21), 3) := by decide +kernel
theorem dX4_init_71 : decode cX4_init 71 = .ok (.aload_n 0, 1) := by decide +kernel
theorem dX4_init_72 : decode cX4_init 72 = .ok (.iconst 2, 1) := by decide +kernel
theorem dX4_init_73 : decode cX4_init 73 = .ok (.newarray .boolean, 2) := by decide +kernel
theorem dX4_init_75 : decode cX4_init 75 = .ok (.putfield 30, 3) := by decide +kernel
theorem dX4_init_78 : decode cX4_init 78 = .ok (.aload_n 0, 1) := by decide +kernel
theorem dX4_init_79 : decode cX4_init 79 = .ok (.new 34, 3) := by decide +kernel
theorem dX4_init_82 : decode cX4_init 82 = .ok (.dup, 1) := by decide +kernel
theorem dX4_init_83 : decode cX4_init 83 = .ok (.invokespecial 36, 3) := by decide +kernel
theorem dX4_init_86 : decode cX4_init 86 = .ok (.putfield 37, 3) := by decide +kernel
theorem dX4_init_89 : decode cX4_init 89 = .ok (.return_, 1) := by decide +kernel
theorem dX4_set_0 : decode cX4_set 0 = .ok (.aload_n 0, 1) := by decide +kernel
theorem dX4_set_1 : decode cX4_set 1 = .ok (.getfield 22, 3) := by decide +kernel
theorem dX4_set_4 : decode cX4_set 4 = .ok (.aload_n 0, 1) := by decide +kernel
theorem dX4_set_5 : decode cX4_set 5 = .ok (.getfield 10, 3) := by decide +kernel
theorem dX4_set_8 : decode cX4_set 8 = .ok (.invokevirtual 41, 3) := by decide +kernel
theorem dX4_set_11 : decode cX4_set 11 = .ok (.aload_n 0, 1) := by decide +kernel
theorem dX4_set_12 : decode cX4_set 12 = .ok (.getfield 22, 3) := by decide +kernel
theorem dX4_set_15 : decode cX4_set 15 = .ok (.aload_n 0, 1) := by decide +kernel
theorem dX4_set_16 : decode cX4_set 16 = .ok (.getfield 10, 3) := by decide +kernel
theorem dX4_set_19 : decode cX4_set 19 = .ok (.iload_n 1, 1) := by decide +kernel
theorem dX4_set_20 : decode cX4_set 20 = .ok (.iload_n 2, 1) := by decide +kernel
theorem dX4_set_21 : decode cX4_set 21 = .ok (.invokevirtual 45, 3) := by decide +kernel
theorem dX4_set_24 : decode cX4_set 24 = .ok (.invokevirtual 49, 3) := by decide +kernel
theorem dX4_set_27 : decode cX4_set 27 = .ok (.ireturn, 1) := by decide +kernel
theorem dX4_wire_0 : decode cX4_wire 0 = .ok (.aload_n 0, 1) := by decide +kernel
theorem dX4_wire_1 : decode cX4_wire 1 = .ok (.getfield 22, 3) := by decide +kernel
theorem dX4_wire_4 : decode cX4_wire 4 = .ok (.aload_n 0, 1) := by decide +kernel
theorem dX4_wire_5 : decode cX4_wire 5 = .ok (.getfield 10, 3) := by decide +kernel
theorem dX4_wire_8 : decode cX4_wire 8 = .ok (.invokevirtual 41, 3) := by decide +kernel
theorem dX4_wire_11 : decode cX4_wire 11 = .ok (.aload_n 0, 1) := by decide +kernel
theorem dX4_wire_12 : decode cX4_wire 12 = .ok (.getfield 22, 3) := by decide +kernel
theorem dX4_wire_15 : decode cX4_wire 15 = .ok (.aload_n 0, 1) := by decide +kernel
theorem dX4_wire_16 : decode cX4_wire 16 = .ok (.getfield 10, 3) := by decide +kernel
theorem dX4_wire_19 : decode cX4_wire 19 = .ok (.iload_n 1, 1) := by decide +kernel
theorem dX4_wire_20 : decode cX4_wire 20 = .ok (.iload_n 2, 1) := by decide +kernel
theorem dX4_wire_21 : decode cX4_wire 21 = .ok (.iload_n 3, 1) := by decide +kernel
theorem dX4_wire_22 : decode cX4_wire 22 = .ok (.iload 4, 2) := by decide +kernel
theorem dX4_wire_24 : decode cX4_wire 24 = .ok (.iload 5, 2) := by decide +kernel
theorem dX4_wire_26 : decode cX4_wire 26 = .ok (.invokevirtual 53, 3) := by decide +kernel
theorem dX4_wire_29 : decode cX4_wire 29 = .ok (.invokevirtual 49, 3) := by decide +kernel
theorem dX4_wire_32 : decode cX4_wire 32 = .ok (.ireturn, 1) := by decide +kernel
theorem dX4_load_0 : decode cX4_load 0 = .ok (.aload_n 0, 1) := by decide +kernel
theorem dX4_load_1 : decode cX4_load 1 = .ok (.getfield 22, 3) := by decide +kernel
theorem dX4_load_4 : decode cX4_load 4 = .ok (.aload_n 0, 1) := by decide +kernel
theorem dX4_load_5 : decode cX4_load 5 = .ok (.getfield 10, 3) := by decide +kernel
theorem dX4_load_8 : decode cX4_load 8 = .ok (.invokevirtual 41, 3) := by decide +kernel
theorem dX4_load_11 : decode cX4_load 11 = .ok (.aload_n 0, 1) := by decide +kernel
theorem dX4_load_12 : decode cX4_load 12 = .ok (.getfield 22, 3) := by decide +kernel
theorem dX4_load_15 : decode cX4_load 15 = .ok (.aload_n 0, 1) := by decide +kernel
theorem dX4_load_16 : decode cX4_load 16 = .ok (.getfield 10, 3) := by decide +kernel
theorem dX4_load_19 : decode cX4_load 19 = .ok (.iload_n 1, 1) := by decide +kernel
theorem dX4_load_20 : decode cX4_load 20 = .ok (.iload_n 2, 1) := by decide +kernel
theorem dX4_load_21 : decode cX4_load 21 = .ok (.invokevirtual 57, 3) := by decide +kernel
theorem dX4_load_24 : decode cX4_load 24 = .ok (.invokevirtual 49, 3) := by decide +kernel
theorem dX4_load_27 : decode cX4_load 27 = .ok (.ireturn, 1) := by decide +kernel
theorem dX4_days_0 : decode cX4_days 0 = .ok (.aload_n 0, 1) := by decide +kernel
theorem dX4_days_1 : decode cX4_days 1 = .ok (.getfield 22, 3) := by decide +kernel
theorem dX4_days_4 : decode cX4_days 4 = .ok (.aload_n 0, 1) := by decide +kernel
theorem dX4_days_5 : decode cX4_days 5 = .ok (.getfield 10, 3) := by decide +kernel
theorem dX4_days_8 : decode cX4_days 8 = .ok (.invokevirtual 41, 3) := by decide +kernel
theorem dX4_days_11 : decode cX4_days 11 = .ok (.aload_n 0, 1) := by decide +kernel
theorem dX4_days_12 : decode cX4_days 12 = .ok (.getfield 22, 3) := by decide +kernel
theorem dX4_days_15 : decode cX4_days 15 = .ok (.aload_n 0, 1) := by decide +kernel
theorem dX4_days_16 : decode cX4_days 16 = .ok (.getfield 10, 3) := by decide +kernel
theorem dX4_days_19 : decode cX4_days 19 = .ok (.iload_n 1, 1) := by decide +kernel
theorem dX4_days_20 : decode cX4_days 20 = .ok (.invokevirtual 60, 3) := by decide +kernel
theorem dX4_days_23 : decode cX4_days 23 = .ok (.invokevirtual 49, 3) := by decide +kernel
theorem dX4_days_26 : decode cX4_days 26 = .ok (.ireturn, 1) := by decide +kernel
theorem dX4_walk_0 : decode cX4_walk 0 = .ok (.aload_n 0, 1) := by decide +kernel
theorem dX4_walk_1 : decode cX4_walk 1 = .ok (.getfield 22, 3) := by decide +kernel
theorem dX4_walk_4 : decode cX4_walk 4 = .ok (.aload_n 0, 1) := by decide +kernel
theorem dX4_walk_5 : decode cX4_walk 5 = .ok (.getfield 10, 3) := by decide +kernel
theorem dX4_walk_8 : decode cX4_walk 8 = .ok (.invokevirtual 41, 3) := by decide +kernel
theorem dX4_walk_11 : decode cX4_walk 11 = .ok (.aload_n 0, 1) := by decide +kernel
theorem dX4_walk_12 : decode cX4_walk 12 = .ok (.getfield 22, 3) := by decide +kernel
theorem dX4_walk_15 : decode cX4_walk 15 = .ok (.aload_n 0, 1) := by decide +kernel
theorem dX4_walk_16 : decode cX4_walk 16 = .ok (.getfield 10, 3) := by decide +kernel
theorem dX4_walk_19 : decode cX4_walk 19 = .ok (.iload_n 1, 1) := by decide +kernel
theorem dX4_walk_20 : decode cX4_walk 20 = .ok (.invokevirtual 63, 3) := by decide +kernel
theorem dX4_walk_23 : decode cX4_walk 23 = .ok (.invokevirtual 49, 3) := by decide +kernel
theorem dX4_walk_26 : decode cX4_walk 26 = .ok (.ireturn, 1) := by decide +kernel
theorem dX4_hear_0 : decode cX4_hear 0 = .ok (.aload_n 0, 1) := by decide +kernel
theorem dX4_hear_1 : decode cX4_hear 1 = .ok (.getfield 22, 3) := by decide +kernel
theorem dX4_hear_4 : decode cX4_hear 4 = .ok (.aload_n 0, 1) := by decide +kernel
theorem dX4_hear_5 : decode cX4_hear 5 = .ok (.getfield 10, 3) := by decide +kernel
theorem dX4_hear_8 : decode cX4_hear 8 = .ok (.invokevirtual 41, 3) := by decide +kernel
theorem dX4_hear_11 : decode cX4_hear 11 = .ok (.aload_n 0, 1) := by decide +kernel
theorem dX4_hear_12 : decode cX4_hear 12 = .ok (.getfield 22, 3) := by decide +kernel
theorem dX4_hear_15 : decode cX4_hear 15 = .ok (.aload_n 0, 1) := by decide +kernel
theorem dX4_hear_16 : decode cX4_hear 16 = .ok (.getfield 10, 3) := by decide +kernel
theorem dX4_hear_19 : decode cX4_hear 19 = .ok (.invokevirtual 66, 3) := by decide +kernel
theorem dX4_hear_22 : decode cX4_hear 22 = .ok (.invokevirtual 49, 3) := by decide +kernel
theorem dX4_hear_25 : decode cX4_hear 25 = .ok (.ireturn, 1) := by decide +kernel
theorem dX4_tighten_0 : decode cX4_tighten 0 = .ok (.aload_n 0, 1) := by decide +kernel
theorem dX4_tighten_1 : decode cX4_tighten 1 = .ok (.getfield 22, 3) := by decide +kernel
theorem dX4_tighten_4 : decode cX4_tighten 4 = .ok (.aload_n 0, 1) := by decide +kernel
theorem dX4_tighten_5 : decode cX4_tighten 5 = .ok (.getfield 10, 3) := by decide +kernel
theorem dX4_tighten_8 : decode cX4_tighten 8 = .ok (.invokevirtual 41, 3) := by decide +kernel
theorem dX4_tighten_11 : decode cX4_tighten 11 = .ok (.aload_n 0, 1) := by decide +kernel
theorem dX4_tighten_12 : decode cX4_tighten 12 = .ok (.getfield 22, 3) := by decide +kernel
theorem dX4_tighten_15 : decode cX4_tighten 15 = .ok (.aload_n 0, 1) := by decide +kernel
theorem dX4_tighten_16 : decode cX4_tighten 16 = .ok (.getfield 10, 3) := by decide +kernel
theorem dX4_tighten_19 : decode cX4_tighten 19 = .ok (.iload_n 1, 1) := by decide +kernel
theorem dX4_tighten_20 : decode cX4_tighten 20 = .ok (.invokevirtual 70, 3) := by decide +kernel
theorem dX4_tighten_23 : decode cX4_tighten 23 = .ok (.invokevirtual 49, 3) := by decide +kernel
theorem dX4_tighten_26 : decode cX4_tighten 26 = .ok (.ireturn, 1) := by decide +kernel
theorem dX4_ofWire_0 : decode cX4_ofWire 0 = .ok (.aload_n 0, 1) := by decide +kernel
theorem dX4_ofWire_1 : decode cX4_ofWire 1 = .ok (.getfield 10, 3) := by decide +kernel
theorem dX4_ofWire_4 : decode cX4_ofWire 4 = .ok (.iload_n 1, 1) := by decide +kernel
theorem dX4_ofWire_5 : decode cX4_ofWire 5 = .ok (.invokevirtual 73, 3) := by decide +kernel
theorem dX4_ofWire_8 : decode cX4_ofWire 8 = .ok (.astore_n 3, 1) := by decide +kernel
theorem dX4_ofWire_9 : decode cX4_ofWire 9 = .ok (.aload_n 3, 1) := by decide +kernel
theorem dX4_ofWire_10 : decode cX4_ofWire 10 = .ok (.ifnonnull 5, 3) := by decide +kernel
theorem dX4_ofWire_13 : decode cX4_ofWire 13 = .ok (.iconst (-1), 1) := by decide +kernel
theorem dX4_ofWire_14 : decode cX4_ofWire 14 = .ok (.ireturn, 1) := by decide +kernel
theorem dX4_ofWire_15 : decode cX4_ofWire 15 = .ok (.iload_n 2, 1) := by decide +kernel
theorem dX4_ofWire_16 : decode cX4_ofWire 16 = .ok (.tableswitch 135 0 10 #[60, 65, 70, 75, 80, 85, 93, 102, 107, 115, 130], 60) := by decide +kernel
theorem dX4_ofWire_76 : decode cX4_ofWire 76 = .ok (.aload_n 3, 1) := by decide +kernel
theorem dX4_ofWire_77 : decode cX4_ofWire 77 = .ok (.getfield 77, 3) := by decide +kernel
theorem dX4_ofWire_80 : decode cX4_ofWire 80 = .ok (.ireturn, 1) := by decide +kernel
theorem dX4_ofWire_81 : decode cX4_ofWire 81 = .ok (.aload_n 3, 1) := by decide +kernel
theorem dX4_ofWire_82 : decode cX4_ofWire 82 = .ok (.getfield 83, 3) := by decide +kernel
theorem dX4_ofWire_85 : decode cX4_ofWire 85 = .ok (.ireturn, 1) := by decide +kernel
theorem dX4_ofWire_86 : decode cX4_ofWire 86 = .ok (.aload_n 3, 1) := by decide +kernel
theorem dX4_ofWire_87 : decode cX4_ofWire 87 = .ok (.getfield 86, 3) := by decide +kernel
theorem dX4_ofWire_90 : decode cX4_ofWire 90 = .ok (.ireturn, 1) := by decide +kernel
theorem dX4_ofWire_91 : decode cX4_ofWire 91 = .ok (.aload_n 3, 1) := by decide +kernel
theorem dX4_ofWire_92 : decode cX4_ofWire 92 = .ok (.getfield 89, 3) := by decide +kernel
theorem dX4_ofWire_95 : decode cX4_ofWire 95 = .ok (.ireturn, 1) := by decide +kernel
theorem dX4_ofWire_96 : decode cX4_ofWire 96 = .ok (.aload_n 3, 1) := by decide +kernel
theorem dX4_ofWire_97 : decode cX4_ofWire 97 = .ok (.getfield 92, 3) := by decide +kernel
theorem dX4_ofWire_100 : decode cX4_ofWire 100 = .ok (.ireturn, 1) := by decide +kernel
theorem dX4_ofWire_101 : decode cX4_ofWire 101 = .ok (.aload_n 3, 1) := by decide +kernel
theorem dX4_ofWire_102 : decode cX4_ofWire 102 = .ok (.getfield 95, 3) := by decide +kernel
theorem dX4_ofWire_105 : decode cX4_ofWire 105 = .ok (.invokestatic 99, 3) := by decide +kernel
theorem dX4_ofWire_108 : decode cX4_ofWire 108 = .ok (.ireturn, 1) := by decide +kernel
theorem dX4_ofWire_109 : decode cX4_ofWire 109 = .ok (.aload_n 3, 1) := by decide +kernel
theorem dX4_ofWire_110 : decode cX4_ofWire 110 = .ok (.aload_n 3, 1) := by decide +kernel
theorem dX4_ofWire_111 : decode cX4_ofWire 111 = .ok (.getfield 92, 3) := by decide +kernel
theorem dX4_ofWire_114 : decode cX4_ofWire 114 = .ok (.invokevirtual 103, 3) := by decide +kernel
theorem dX4_ofWire_117 : decode cX4_ofWire 117 = .ok (.ireturn, 1) := by decide +kernel
theorem dX4_ofWire_118 : decode cX4_ofWire 118 = .ok (.aload_n 3, 1) := by decide +kernel
theorem dX4_ofWire_119 : decode cX4_ofWire 119 = .ok (.getfield 106, 3) := by decide +kernel
theorem dX4_ofWire_122 : decode cX4_ofWire 122 = .ok (.ireturn, 1) := by decide +kernel
theorem dX4_ofWire_123 : decode cX4_ofWire 123 = .ok (.aload_n 3, 1) := by decide +kernel
theorem dX4_ofWire_124 : decode cX4_ofWire 124 = .ok (.invokevirtual 109, 3) := by decide +kernel
theorem dX4_ofWire_127 : decode cX4_ofWire 127 = .ok (.invokestatic 99, 3) := by decide +kernel
theorem dX4_ofWire_130 : decode cX4_ofWire 130 = .ok (.ireturn, 1) := by decide +kernel
theorem dX4_ofWire_131 : decode cX4_ofWire 131 = .ok (.aload_n 3, 1) := by decide +kernel
theorem dX4_ofWire_132 : decode cX4_ofWire 132 = .ok (.aload_n 0, 1) := by decide +kernel
theorem dX4_ofWire_133 : decode cX4_ofWire 133 = .ok (.getfield 10, 3) := by decide +kernel
theorem dX4_ofWire_136 : decode cX4_ofWire 136 = .ok (.getfield 113, 3) := by decide +kernel
theorem dX4_ofWire_139 : decode cX4_ofWire 139 = .ok (.invokevirtual 116, 3) := by decide +kernel
theorem dX4_ofWire_142 : decode cX4_ofWire 142 = .ok (.invokestatic 99, 3) := by decide +kernel
theorem dX4_ofWire_145 : decode cX4_ofWire 145 = .ok (.ireturn, 1) := by decide +kernel
theorem dX4_ofWire_146 : decode cX4_ofWire 146 = .ok (.aload_n 3, 1) := by decide +kernel
theorem dX4_ofWire_147 : decode cX4_ofWire 147 = .ok (.getfield 120, 3) := by decide +kernel
theorem dX4_ofWire_150 : decode cX4_ofWire 150 = .ok (.ireturn, 1) := by decide +kernel
theorem dX4_ofWire_151 : decode cX4_ofWire 151 = .ok (.bipush (-2), 2) := by decide +kernel
theorem dX4_ofWire_153 : decode cX4_ofWire 153 = .ok (.ireturn, 1) := by decide +kernel
theorem dX4_known_0 : decode cX4_known 0 = .ok (.aload_n 0, 1) := by decide +kernel
theorem dX4_known_1 : decode cX4_known 1 = .ok (.getfield 16, 3) := by decide +kernel
theorem dX4_known_4 : decode cX4_known 4 = .ok (.aload_n 0, 1) := by decide +kernel
theorem dX4_known_5 : decode cX4_known 5 = .ok (.getfield 10, 3) := by decide +kernel
theorem dX4_known_8 : decode cX4_known 8 = .ok (.invokevirtual 123, 3) := by decide +kernel
theorem dX4_known_11 : decode cX4_known 11 = .ok (.aload_n 0, 1) := by decide +kernel
theorem dX4_known_12 : decode cX4_known 12 = .ok (.getfield 16, 3) := by decide +kernel
theorem dX4_known_15 : decode cX4_known 15 = .ok (.iload_n 1, 1) := by decide +kernel
theorem dX4_known_16 : decode cX4_known 16 = .ok (.invokevirtual 73, 3) := by decide +kernel
theorem dX4_known_19 : decode cX4_known 19 = .ok (.astore_n 3, 1) := by decide +kernel
theorem dX4_known_20 : decode cX4_known 20 = .ok (.aload_n 3, 1) := by decide +kernel
theorem dX4_known_21 : decode cX4_known 21 = .ok (.ifnonnull 5, 3) := by decide +kernel
theorem dX4_known_24 : decode cX4_known 24 = .ok (.iconst (-1), 1) := by decide +kernel
theorem dX4_known_25 : decode cX4_known 25 = .ok (.ireturn, 1) := by decide +kernel
theorem dX4_known_26 : decode cX4_known 26 = .ok (.iload_n 2, 1) := by decide +kernel
theorem dX4_known_27 : decode cX4_known 27 = .ok (.tableswitch 109 0 6 #[41, 46, 63, 80, 88, 93, 101], 41) := by decide +kernel
theorem dX4_known_68 : decode cX4_known 68 = .ok (.aload_n 3, 1) := by decide +kernel
theorem dX4_known_69 : decode cX4_known 69 = .ok (.getfield 126, 3) := by decide +kernel
theorem dX4_known_72 : decode cX4_known 72 = .ok (.ireturn, 1) := by decide +kernel
theorem dX4_known_73 : decode cX4_known 73 = .ok (.aload_n 3, 1) := by decide +kernel
theorem dX4_known_74 : decode cX4_known 74 = .ok (.invokevirtual 129, 3) := by decide +kernel
theorem dX4_known_77 : decode cX4_known 77 = .ok (.ifCond .eq 10, 3) := by decide +kernel
theorem dX4_known_80 : decode cX4_known 80 = .ok (.aload_n 3, 1) := by decide +kernel
theorem dX4_known_81 : decode cX4_known 81 = .ok (.getfield 132, 3) := by decide +kernel
theorem dX4_known_84 : decode cX4_known 84 = .ok (.goto 5, 3) := by decide +kernel
theorem dX4_known_87 : decode cX4_known 87 = .ok (.bipush (-6), 2) := by decide +kernel
theorem dX4_known_89 : decode cX4_known 89 = .ok (.ireturn, 1) := by decide +kernel
theorem dX4_known_90 : decode cX4_known 90 = .ok (.aload_n 3, 1) := by decide +kernel
theorem dX4_known_91 : decode cX4_known 91 = .ok (.invokevirtual 129, 3) := by decide +kernel
theorem dX4_known_94 : decode cX4_known 94 = .ok (.ifCond .eq 10, 3) := by decide +kernel
theorem dX4_known_97 : decode cX4_known 97 = .ok (.aload_n 3, 1) := by decide +kernel
theorem dX4_known_98 : decode cX4_known 98 = .ok (.getfield 135, 3) := by decide +kernel
theorem dX4_known_101 : decode cX4_known 101 = .ok (.goto 5, 3) := by decide +kernel
theorem dX4_known_104 : decode cX4_known 104 = .ok (.bipush (-6), 2) := by decide +kernel
theorem dX4_known_106 : decode cX4_known 106 = .ok (.ireturn, 1) := by decide +kernel
theorem dX4_known_107 : decode cX4_known 107 = .ok (.aload_n 3, 1) := by decide +kernel
theorem dX4_known_108 : decode cX4_known 108 = .ok (.getfield 138, 3) := by decide +kernel
theorem dX4_known_111 : decode cX4_known 111 = .ok (.invokestatic 99, 3) := by decide +kernel
theorem dX4_known_114 : decode cX4_known 114 = .ok (.ireturn, 1) := by decide +kernel
theorem dX4_known_115 : decode cX4_known 115 = .ok (.aload_n 3, 1) := by decide +kernel
theorem dX4_known_116 : decode cX4_known 116 = .ok (.getfield 106, 3) := by decide +kernel
theorem dX4_known_119 : decode cX4_known 119 = .ok (.ireturn, 1) := by decide +kernel
theorem dX4_known_120 : decode cX4_known 120 = .ok (.aload_n 3, 1) := by decide +kernel
theorem dX4_known_121 : decode cX4_known 121 = .ok (.invokevirtual 141, 3) := by decide +kernel
theorem dX4_known_124 : decode cX4_known 124 = .ok (.invokestatic 99, 3) := by decide +kernel
theorem dX4_known_127 : decode cX4_known 127 = .ok (.ireturn, 1) := by decide +kernel
theorem dX4_known_128 : decode cX4_known 128 = .ok (.aload_n 3, 1) := by decide +kernel
theorem dX4_known_129 : decode cX4_known 129 = .ok (.invokevirtual 144, 3) := by decide +kernel
theorem dX4_known_132 : decode cX4_known 132 = .ok (.invokestatic 99, 3) := by decide +kernel
theorem dX4_known_135 : decode cX4_known 135 = .ok (.ireturn, 1) := by decide +kernel
theorem dX4_known_136 : decode cX4_known 136 = .ok (.bipush (-2), 2) := by decide +kernel
theorem dX4_known_138 : decode cX4_known 138 = .ok (.ireturn, 1) := by decide +kernel
theorem dX4_count_0 : decode cX4_count 0 = .ok (.iload_n 1, 1) := by decide +kernel
theorem dX4_count_1 : decode cX4_count 1 = .ok (.tableswitch 193 0 12 #[67, 75, 83, 99, 107, 115, 123, 145, 153, 161, 169, 177, 185], 67) := by decide +kernel
theorem dX4_count_68 : decode cX4_count 68 = .ok (.aload_n 0, 1) := by decide +kernel
theorem dX4_count_69 : decode cX4_count 69 = .ok (.getfield 10, 3) := by decide +kernel
theorem dX4_count_72 : decode cX4_count 72 = .ok (.getfield 147, 3) := by decide +kernel
theorem dX4_count_75 : decode cX4_count 75 = .ok (.ireturn, 1) := by decide +kernel
theorem dX4_count_76 : decode cX4_count 76 = .ok (.aload_n 0, 1) := by decide +kernel
theorem dX4_count_77 : decode cX4_count 77 = .ok (.getfield 10, 3) := by decide +kernel
theorem dX4_count_80 : decode cX4_count 80 = .ok (.getfield 150, 3) := by decide +kernel
theorem dX4_count_83 : decode cX4_count 83 = .ok (.ireturn, 1) := by decide +kernel
theorem dX4_count_84 : decode cX4_count 84 = .ok (.aload_n 0, 1) := by decide +kernel
theorem dX4_count_85 : decode cX4_count 85 = .ok (.getfield 10, 3) := by decide +kernel
theorem dX4_count_88 : decode cX4_count 88 = .ok (.getfield 150, 3) := by decide +kernel
theorem dX4_count_91 : decode cX4_count 91 = .ok (.aload_n 0, 1) := by decide +kernel
theorem dX4_count_92 : decode cX4_count 92 = .ok (.getfield 10, 3) := by decide +kernel
theorem dX4_count_95 : decode cX4_count 95 = .ok (.invokevirtual 153, 3) := by decide +kernel
theorem dX4_count_98 : decode cX4_count 98 = .ok (.isub, 1) := by decide +kernel
theorem dX4_count_99 : decode cX4_count 99 = .ok (.ireturn, 1) := by decide +kernel
theorem dX4_count_100 : decode cX4_count 100 = .ok (.aload_n 0, 1) := by decide +kernel
theorem dX4_count_101 : decode cX4_count 101 = .ok (.getfield 10, 3) := by decide +kernel
theorem dX4_count_104 : decode cX4_count 104 = .ok (.getfield 156, 3) := by decide +kernel
theorem dX4_count_107 : decode cX4_count 107 = .ok (.ireturn, 1) := by decide +kernel
theorem dX4_count_108 : decode cX4_count 108 = .ok (.aload_n 0, 1) := by decide +kernel
theorem dX4_count_109 : decode cX4_count 109 = .ok (.getfield 10, 3) := by decide +kernel
theorem dX4_count_112 : decode cX4_count 112 = .ok (.getfield 157, 3) := by decide +kernel
theorem dX4_count_115 : decode cX4_count 115 = .ok (.ireturn, 1) := by decide +kernel
theorem dX4_count_116 : decode cX4_count 116 = .ok (.aload_n 0, 1) := by decide +kernel
theorem dX4_count_117 : decode cX4_count 117 = .ok (.getfield 10, 3) := by decide +kernel
theorem dX4_count_120 : decode cX4_count 120 = .ok (.invokevirtual 160, 3) := by decide +kernel
theorem dX4_count_123 : decode cX4_count 123 = .ok (.ireturn, 1) := by decide +kernel
theorem dX4_count_124 : decode cX4_count 124 = .ok (.aload_n 0, 1) := by decide +kernel
theorem dX4_count_125 : decode cX4_count 125 = .ok (.getfield 10, 3) := by decide +kernel
theorem dX4_count_128 : decode cX4_count 128 = .ok (.invokevirtual 153, 3) := by decide +kernel
theorem dX4_count_131 : decode cX4_count 131 = .ok (.ifCond .ne 13, 3) := by decide +kernel
theorem dX4_count_134 : decode cX4_count 134 = .ok (.aload_n 0, 1) := by decide +kernel
theorem dX4_count_135 : decode cX4_count 135 = .ok (.getfield 10, 3) := by decide +kernel
theorem dX4_count_138 : decode cX4_count 138 = .ok (.invokevirtual 160, 3) := by decide +kernel
theorem dX4_count_141 : decode cX4_count 141 = .ok (.goto 4, 3) := by decide +kernel
theorem dX4_count_144 : decode cX4_count 144 = .ok (.iconst 0, 1) := by decide +kernel
theorem dX4_count_145 : decode cX4_count 145 = .ok (.ireturn, 1) := by decide +kernel
theorem dX4_count_146 : decode cX4_count 146 = .ok (.aload_n 0, 1) := by decide +kernel
theorem dX4_count_147 : decode cX4_count 147 = .ok (.getfield 10, 3) := by decide +kernel
theorem dX4_count_150 : decode cX4_count 150 = .ok (.invokevirtual 163, 3) := by decide +kernel
theorem dX4_count_153 : decode cX4_count 153 = .ok (.ireturn, 1) := by decide +kernel
theorem dX4_count_154 : decode cX4_count 154 = .ok (.aload_n 0, 1) := by decide +kernel
theorem dX4_count_155 : decode cX4_count 155 = .ok (.getfield 10, 3) := by decide +kernel
theorem dX4_count_158 : decode cX4_count 158 = .ok (.invokevirtual 166, 3) := by decide +kernel
theorem dX4_count_161 : decode cX4_count 161 = .ok (.ireturn, 1) := by decide +kernel
theorem dX4_count_162 : decode cX4_count 162 = .ok (.aload_n 0, 1) := by decide +kernel
theorem dX4_count_163 : decode cX4_count 163 = .ok (.getfield 37, 3) := by decide +kernel
theorem dX4_count_166 : decode cX4_count 166 = .ok (.getfield 169, 3) := by decide +kernel
theorem dX4_count_169 : decode cX4_count 169 = .ok (.ireturn, 1) := by decide +kernel
theorem dX4_count_170 : decode cX4_count 170 = .ok (.aload_n 0, 1) := by decide +kernel
theorem dX4_count_171 : decode cX4_count 171 = .ok (.getfield 22, 3) := by decide +kernel
theorem dX4_count_174 : decode cX4_count 174 = .ok (.getfield 170, 3) := by decide +kernel
theorem dX4_count_177 : decode cX4_count 177 = .ok (.ireturn, 1) := by decide +kernel
theorem dX4_count_178 : decode cX4_count 178 = .ok (.aload_n 0, 1) := by decide +kernel
theorem dX4_count_179 : decode cX4_count 179 = .ok (.getfield 10, 3) := by decide +kernel
theorem dX4_count_182 : decode cX4_count 182 = .ok (.getfield 173, 3) := by decide +kernel
theorem dX4_count_185 : decode cX4_count 185 = .ok (.ireturn, 1) := by decide +kernel
theorem dX4_count_186 : decode cX4_count 186 = .ok (.aload_n 0, 1) := by decide +kernel
theorem dX4_count_187 : decode cX4_count 187 = .ok (.getfield 10, 3) := by decide +kernel
theorem dX4_count_190 : decode cX4_count 190 = .ok (.getfield 113, 3) := by decide +kernel
theorem dX4_count_193 : decode cX4_count 193 = .ok (.ireturn, 1) := by decide +kernel
theorem dX4_count_194 : decode cX4_count 194 = .ok (.bipush (-2), 2) := by decide +kernel
theorem dX4_count_196 : decode cX4_count 196 = .ok (.ireturn, 1) := by decide +kernel
theorem dX4_pitchAt_0 : decode cX4_pitchAt 0 = .ok (.aload_n 0, 1) := by decide +kernel
theorem dX4_pitchAt_1 : decode cX4_pitchAt 1 = .ok (.getfield 10, 3) := by decide +kernel
theorem dX4_pitchAt_4 : decode cX4_pitchAt 4 = .ok (.iload_n 1, 1) := by decide +kernel
theorem dX4_pitchAt_5 : decode cX4_pitchAt 5 = .ok (.invokevirtual 73, 3) := by decide +kernel
theorem dX4_pitchAt_8 : decode cX4_pitchAt 8 = .ok (.astore_n 3, 1) := by decide +kernel
theorem dX4_pitchAt_9 : decode cX4_pitchAt 9 = .ok (.aload_n 3, 1) := by decide +kernel
theorem dX4_pitchAt_10 : decode cX4_pitchAt 10 = .ok (.ifnonnull 5, 3) := by decide +kernel
theorem dX4_pitchAt_13 : decode cX4_pitchAt 13 = .ok (.iconst (-1), 1) := by decide +kernel
theorem dX4_pitchAt_14 : decode cX4_pitchAt 14 = .ok (.ireturn, 1) := by decide +kernel
theorem dX4_pitchAt_15 : decode cX4_pitchAt 15 = .ok (.iload_n 2, 1) := by decide +kernel
theorem dX4_pitchAt_16 : decode cX4_pitchAt 16 = .ok (.iconst 0, 1) := by decide +kernel
theorem dX4_pitchAt_17 : decode cX4_pitchAt 17 = .ok (.ldc 176, 2) := by decide +kernel
theorem dX4_pitchAt_19 : decode cX4_pitchAt 19 = .ok (.invokestatic 177, 3) := by decide +kernel
theorem dX4_pitchAt_22 : decode cX4_pitchAt 22 = .ok (.ifCond .ne 6, 3) := by decide +kernel
theorem dX4_pitchAt_25 : decode cX4_pitchAt 25 = .ok (.bipush (-2), 2) := by decide +kernel
theorem dX4_pitchAt_27 : decode cX4_pitchAt 27 = .ok (.ireturn, 1) := by decide +kernel
theorem dX4_pitchAt_28 : decode cX4_pitchAt 28 = .ok (.aload_n 3, 1) := by decide +kernel
theorem dX4_pitchAt_29 : decode cX4_pitchAt 29 = .ok (.iload_n 2, 1) := by decide +kernel
theorem dX4_pitchAt_30 : decode cX4_pitchAt 30 = .ok (.invokevirtual 103, 3) := by decide +kernel
theorem dX4_pitchAt_33 : decode cX4_pitchAt 33 = .ok (.ireturn, 1) := by decide +kernel
theorem dX4_tensionFor_0 : decode cX4_tensionFor 0 = .ok (.aload_n 0, 1) := by decide +kernel
theorem dX4_tensionFor_1 : decode cX4_tensionFor 1 = .ok (.getfield 10, 3) := by decide +kernel
theorem dX4_tensionFor_4 : decode cX4_tensionFor 4 = .ok (.iload_n 1, 1) := by decide +kernel
theorem dX4_tensionFor_5 : decode cX4_tensionFor 5 = .ok (.invokevirtual 73, 3) := by decide +kernel
theorem dX4_tensionFor_8 : decode cX4_tensionFor 8 = .ok (.astore_n 3, 1) := by decide +kernel
theorem dX4_tensionFor_9 : decode cX4_tensionFor 9 = .ok (.aload_n 3, 1) := by decide +kernel
theorem dX4_tensionFor_10 : decode cX4_tensionFor 10 = .ok (.ifnonnull 5, 3) := by decide +kernel
theorem dX4_tensionFor_13 : decode cX4_tensionFor 13 = .ok (.iconst (-1), 1) := by decide +kernel
theorem dX4_tensionFor_14 : decode cX4_tensionFor 14 = .ok (.ireturn, 1) := by decide +kernel
theorem dX4_tensionFor_15 : decode cX4_tensionFor 15 = .ok (.iload_n 2, 1) := by decide +kernel
theorem dX4_tensionFor_16 : decode cX4_tensionFor 16 = .ok (.iconst 0, 1) := by decide +kernel
theorem dX4_tensionFor_17 : decode cX4_tensionFor 17 = .ok (.ldc 181, 2) := by decide +kernel
theorem dX4_tensionFor_19 : decode cX4_tensionFor 19 = .ok (.invokestatic 177, 3) := by decide +kernel
theorem dX4_tensionFor_22 : decode cX4_tensionFor 22 = .ok (.ifCond .ne 6, 3) := by decide +kernel
theorem dX4_tensionFor_25 : decode cX4_tensionFor 25 = .ok (.bipush (-2), 2) := by decide +kernel
theorem dX4_tensionFor_27 : decode cX4_tensionFor 27 = .ok (.ireturn, 1) := by decide +kernel
theorem dX4_tensionFor_28 : decode cX4_tensionFor 28 = .ok (.aload_n 3, 1) := by decide +kernel
theorem dX4_tensionFor_29 : decode cX4_tensionFor 29 = .ok (.iload_n 2, 1) := by decide +kernel
theorem dX4_tensionFor_30 : decode cX4_tensionFor 30 = .ok (.i2l, 1) := by decide +kernel
theorem dX4_tensionFor_31 : decode cX4_tensionFor 31 = .ok (.invokevirtual 182, 3) := by decide +kernel
theorem dX4_tensionFor_34 : decode cX4_tensionFor 34 = .ok (.lstore 4, 2) := by decide +kernel
theorem dX4_tensionFor_36 : decode cX4_tensionFor 36 = .ok (.lload 4, 2) := by decide +kernel
theorem dX4_tensionFor_38 : decode cX4_tensionFor 38 = .ok (.ldc2_w 186, 3) := by decide +kernel
theorem dX4_tensionFor_41 : decode cX4_tensionFor 41 = .ok (.lcmp, 1) := by decide +kernel
theorem dX4_tensionFor_42 : decode cX4_tensionFor 42 = .ok (.ifCond .le 8, 3) := by decide +kernel
theorem dX4_tensionFor_45 : decode cX4_tensionFor 45 = .ok (.bipush (-6), 2) := by decide +kernel
theorem dX4_tensionFor_47 : decode cX4_tensionFor 47 = .ok (.goto 6, 3) := by decide +kernel
theorem dX4_tensionFor_50 : decode cX4_tensionFor 50 = .ok (.lload 4, 2) := by decide +kernel
theorem dX4_tensionFor_52 : decode cX4_tensionFor 52 = .ok (.l2i, 1) := by decide +kernel
theorem dX4_tensionFor_53 : decode cX4_tensionFor 53 = .ok (.ireturn, 1) := by decide +kernel
theorem dX4_fallsWith_0 : decode cX4_fallsWith 0 = .ok (.aload_n 0, 1) := by decide +kernel
theorem dX4_fallsWith_1 : decode cX4_fallsWith 1 = .ok (.getfield 10, 3) := by decide +kernel
theorem dX4_fallsWith_4 : decode cX4_fallsWith 4 = .ok (.iload_n 1, 1) := by decide +kernel
theorem dX4_fallsWith_5 : decode cX4_fallsWith 5 = .ok (.invokevirtual 73, 3) := by decide +kernel
theorem dX4_fallsWith_8 : decode cX4_fallsWith 8 = .ok (.astore_n 2, 1) := by decide +kernel
theorem dX4_fallsWith_9 : decode cX4_fallsWith 9 = .ok (.aload_n 2, 1) := by decide +kernel
theorem dX4_fallsWith_10 : decode cX4_fallsWith 10 = .ok (.ifnonnull 5, 3) := by decide +kernel
theorem dX4_fallsWith_13 : decode cX4_fallsWith 13 = .ok (.iconst (-1), 1) := by decide +kernel
theorem dX4_fallsWith_14 : decode cX4_fallsWith 14 = .ok (.ireturn, 1) := by decide +kernel
theorem dX4_fallsWith_15 : decode cX4_fallsWith 15 = .ok (.aload_n 2, 1) := by decide +kernel
theorem dX4_fallsWith_16 : decode cX4_fallsWith 16 = .ok (.getfield 95, 3) := by decide +kernel
theorem dX4_fallsWith_19 : decode cX4_fallsWith 19 = .ok (.ifCond .eq 6, 3) := by decide +kernel
theorem dX4_fallsWith_22 : decode cX4_fallsWith 22 = .ok (.bipush (-5), 2) := by decide +kernel
theorem dX4_fallsWith_24 : decode cX4_fallsWith 24 = .ok (.ireturn, 1) := by decide +kernel
theorem dX4_fallsWith_25 : decode cX4_fallsWith 25 = .ok (.aload_n 0, 1) := by decide +kernel
theorem dX4_fallsWith_26 : decode cX4_fallsWith 26 = .ok (.iload_n 1, 1) := by decide +kernel
theorem dX4_fallsWith_27 : decode cX4_fallsWith 27 = .ok (.invokevirtual 188, 3) := by decide +kernel
theorem dX4_fallsWith_30 : decode cX4_fallsWith 30 = .ok (.ireturn, 1) := by decide +kernel
theorem dX4_mostAt_0 : decode cX4_mostAt 0 = .ok (.iload_n 1, 1) := by decide +kernel
theorem dX4_mostAt_1 : decode cX4_mostAt 1 = .ok (.iconst 0, 1) := by decide +kernel
theorem dX4_mostAt_2 : decode cX4_mostAt 2 = .ok (.bipush 19, 2) := by decide +kernel
theorem dX4_mostAt_4 : decode cX4_mostAt 4 = .ok (.invokestatic 177, 3) := by decide +kernel
theorem dX4_mostAt_7 : decode cX4_mostAt 7 = .ok (.ifCond .ne 5, 3) := by decide +kernel
theorem dX4_mostAt_10 : decode cX4_mostAt 10 = .ok (.iconst (-1), 1) := by decide +kernel
theorem dX4_mostAt_11 : decode cX4_mostAt 11 = .ok (.ireturn, 1) := by decide +kernel
theorem dX4_mostAt_12 : decode cX4_mostAt 12 = .ok (.aload_n 0, 1) := by decide +kernel
theorem dX4_mostAt_13 : decode cX4_mostAt 13 = .ok (.getfield 16, 3) := by decide +kernel
theorem dX4_mostAt_16 : decode cX4_mostAt 16 = .ok (.aload_n 0, 1) := by decide +kernel
theorem dX4_mostAt_17 : decode cX4_mostAt 17 = .ok (.getfield 10, 3) := by decide +kernel
theorem dX4_mostAt_20 : decode cX4_mostAt 20 = .ok (.invokevirtual 191, 3) := by decide +kernel
theorem dX4_mostAt_23 : decode cX4_mostAt 23 = .ok (.aload_n 0, 1) := by decide +kernel
theorem dX4_mostAt_24 : decode cX4_mostAt 24 = .ok (.getfield 16, 3) := by decide +kernel
theorem dX4_mostAt_27 : decode cX4_mostAt 27 = .ok (.iload_n 1, 1) := by decide +kernel
theorem dX4_mostAt_28 : decode cX4_mostAt 28 = .ok (.iconst 0, 1) := by decide +kernel
theorem dX4_mostAt_29 : decode cX4_mostAt 29 = .ok (.invokevirtual 194, 3) := by decide +kernel
theorem dX4_mostAt_32 : decode cX4_mostAt 32 = .ok (.ifCond .ne 6, 3) := by decide +kernel
theorem dX4_mostAt_35 : decode cX4_mostAt 35 = .ok (.bipush (-6), 2) := by decide +kernel
theorem dX4_mostAt_37 : decode cX4_mostAt 37 = .ok (.ireturn, 1) := by decide +kernel
theorem dX4_mostAt_38 : decode cX4_mostAt 38 = .ok (.iconst 0, 1) := by decide +kernel
theorem dX4_mostAt_39 : decode cX4_mostAt 39 = .ok (.istore_n 2, 1) := by decide +kernel
theorem dX4_mostAt_40 : decode cX4_mostAt 40 = .ok (.sipush 512, 3) := by decide +kernel
theorem dX4_mostAt_43 : decode cX4_mostAt 43 = .ok (.istore_n 3, 1) := by decide +kernel
theorem dX4_mostAt_44 : decode cX4_mostAt 44 = .ok (.iload_n 3, 1) := by decide +kernel
theorem dX4_mostAt_45 : decode cX4_mostAt 45 = .ok (.ifCond .le 37, 3) := by decide +kernel
theorem dX4_mostAt_48 : decode cX4_mostAt 48 = .ok (.iload_n 2, 1) := by decide +kernel
theorem dX4_mostAt_49 : decode cX4_mostAt 49 = .ok (.iload_n 3, 1) := by decide +kernel
theorem dX4_mostAt_50 : decode cX4_mostAt 50 = .ok (.iadd, 1) := by decide +kernel
theorem dX4_mostAt_51 : decode cX4_mostAt 51 = .ok (.sipush 1000, 3) := by decide +kernel
theorem dX4_mostAt_54 : decode cX4_mostAt 54 = .ok (.if_icmp .gt 21, 3) := by decide +kernel
theorem dX4_mostAt_57 : decode cX4_mostAt 57 = .ok (.aload_n 0, 1) := by decide +kernel
theorem dX4_mostAt_58 : decode cX4_mostAt 58 = .ok (.getfield 16, 3) := by decide +kernel
theorem dX4_mostAt_61 : decode cX4_mostAt 61 = .ok (.iload_n 1, 1) := by decide +kernel
theorem dX4_mostAt_62 : decode cX4_mostAt 62 = .ok (.iload_n 2, 1) := by decide +kernel
theorem dX4_mostAt_63 : decode cX4_mostAt 63 = .ok (.iload_n 3, 1) := by decide +kernel
theorem dX4_mostAt_64 : decode cX4_mostAt 64 = .ok (.iadd, 1) := by decide +kernel
theorem dX4_mostAt_65 : decode cX4_mostAt 65 = .ok (.invokevirtual 194, 3) := by decide +kernel
theorem dX4_mostAt_68 : decode cX4_mostAt 68 = .ok (.ifCond .eq 7, 3) := by decide +kernel
theorem dX4_mostAt_71 : decode cX4_mostAt 71 = .ok (.iload_n 2, 1) := by decide +kernel
theorem dX4_mostAt_72 : decode cX4_mostAt 72 = .ok (.iload_n 3, 1) := by decide +kernel
theorem dX4_mostAt_73 : decode cX4_mostAt 73 = .ok (.iadd, 1) := by decide +kernel
theorem dX4_mostAt_74 : decode cX4_mostAt 74 = .ok (.istore_n 2, 1) := by decide +kernel
theorem dX4_mostAt_75 : decode cX4_mostAt 75 = .ok (.iload_n 3, 1) := by decide +kernel
theorem dX4_mostAt_76 : decode cX4_mostAt 76 = .ok (.iconst 2, 1) := by decide +kernel
theorem dX4_mostAt_77 : decode cX4_mostAt 77 = .ok (.idiv, 1) := by decide +kernel
theorem dX4_mostAt_78 : decode cX4_mostAt 78 = .ok (.istore_n 3, 1) := by decide +kernel
theorem dX4_mostAt_79 : decode cX4_mostAt 79 = .ok (.goto (-35), 3) := by decide +kernel
theorem dX4_mostAt_82 : decode cX4_mostAt 82 = .ok (.iload_n 2, 1) := by decide +kernel
theorem dX4_mostAt_83 : decode cX4_mostAt 83 = .ok (.ireturn, 1) := by decide +kernel
theorem dX4_slackIn_0 : decode cX4_slackIn 0 = .ok (.aload_n 0, 1) := by decide +kernel
theorem dX4_slackIn_1 : decode cX4_slackIn 1 = .ok (.getfield 10, 3) := by decide +kernel
theorem dX4_slackIn_4 : decode cX4_slackIn 4 = .ok (.iload_n 1, 1) := by decide +kernel
theorem dX4_slackIn_5 : decode cX4_slackIn 5 = .ok (.invokevirtual 73, 3) := by decide +kernel
theorem dX4_slackIn_8 : decode cX4_slackIn 8 = .ok (.astore_n 2, 1) := by decide +kernel
theorem dX4_slackIn_9 : decode cX4_slackIn 9 = .ok (.aload_n 2, 1) := by decide +kernel
theorem dX4_slackIn_10 : decode cX4_slackIn 10 = .ok (.ifnonnull 5, 3) := by decide +kernel
theorem dX4_slackIn_13 : decode cX4_slackIn 13 = .ok (.iconst (-1), 1) := by decide +kernel
theorem dX4_slackIn_14 : decode cX4_slackIn 14 = .ok (.ireturn, 1) := by decide +kernel
theorem dX4_slackIn_15 : decode cX4_slackIn 15 = .ok (.aload_n 2, 1) := by decide +kernel
theorem dX4_slackIn_16 : decode cX4_slackIn 16 = .ok (.getfield 95, 3) := by decide +kernel
theorem dX4_slackIn_19 : decode cX4_slackIn 19 = .ok (.ifCond .eq 6, 3) := by decide +kernel
theorem dX4_slackIn_22 : decode cX4_slackIn 22 = .ok (.bipush (-6), 2) := by decide +kernel
theorem dX4_slackIn_24 : decode cX4_slackIn 24 = .ok (.ireturn, 1) := by decide +kernel
theorem dX4_slackIn_25 : decode cX4_slackIn 25 = .ok (.aload_n 2, 1) := by decide +kernel
theorem dX4_slackIn_26 : decode cX4_slackIn 26 = .ok (.getfield 92, 3) := by decide +kernel
theorem dX4_slackIn_29 : decode cX4_slackIn 29 = .ok (.istore_n 3, 1) := by decide +kernel
theorem dX4_slackIn_30 : decode cX4_slackIn 30 = .ok (.iconst 0, 1) := by decide +kernel
theorem dX4_slackIn_31 : decode cX4_slackIn 31 = .ok (.istore 4, 2) := by decide +kernel
theorem dX4_slackIn_33 : decode cX4_slackIn 33 = .ok (.iload 4, 2) := by decide +kernel
theorem dX4_slackIn_35 : decode cX4_slackIn 35 = .ok (.sipush 300, 3) := by decide +kernel
theorem dX4_slackIn_38 : decode cX4_slackIn 38 = .ok (.if_icmp .gt 32, 3) := by decide +kernel
theorem dX4_slackIn_41 : decode cX4_slackIn 41 = .ok (.iload_n 3, 1) := by decide +kernel
theorem dX4_slackIn_42 : decode cX4_slackIn 42 = .ok (.aload_n 2, 1) := by decide +kernel
theorem dX4_slackIn_43 : decode cX4_slackIn 43 = .ok (.getfield 106, 3) := by decide +kernel
theorem dX4_slackIn_46 : decode cX4_slackIn 46 = .ok (.if_icmp .ge 6, 3) := by decide +kernel
theorem dX4_slackIn_49 : decode cX4_slackIn 49 = .ok (.iload 4, 2) := by decide +kernel
theorem dX4_slackIn_51 : decode cX4_slackIn 51 = .ok (.ireturn, 1) := by decide +kernel
theorem dX4_slackIn_52 : decode cX4_slackIn 52 = .ok (.iload_n 3, 1) := by decide +kernel
theorem dX4_slackIn_53 : decode cX4_slackIn 53 = .ok (.aload_n 0, 1) := by decide +kernel
theorem dX4_slackIn_54 : decode cX4_slackIn 54 = .ok (.getfield 10, 3) := by decide +kernel
theorem dX4_slackIn_57 : decode cX4_slackIn 57 = .ok (.getfield 173, 3) := by decide +kernel
theorem dX4_slackIn_60 : decode cX4_slackIn 60 = .ok (.invokestatic 198, 3) := by decide +kernel
theorem dX4_slackIn_63 : decode cX4_slackIn 63 = .ok (.istore_n 3, 1) := by decide +kernel
theorem dX4_slackIn_64 : decode cX4_slackIn 64 = .ok (.iinc 4 1, 3) := by decide +kernel
theorem dX4_slackIn_67 : decode cX4_slackIn 67 = .ok (.goto (-34), 3) := by decide +kernel
theorem dX4_slackIn_70 : decode cX4_slackIn 70 = .ok (.bipush (-6), 2) := by decide +kernel
theorem dX4_slackIn_72 : decode cX4_slackIn 72 = .ok (.ireturn, 1) := by decide +kernel
theorem dX4_round_0 : decode cX4_round 0 = .ok (.aload_n 0, 1) := by decide +kernel
theorem dX4_round_1 : decode cX4_round 1 = .ok (.getfield 16, 3) := by decide +kernel
theorem dX4_round_4 : decode cX4_round 4 = .ok (.aload_n 0, 1) := by decide +kernel
theorem dX4_round_5 : decode cX4_round 5 = .ok (.getfield 10, 3) := by decide +kernel
theorem dX4_round_8 : decode cX4_round 8 = .ok (.invokevirtual 123, 3) := by decide +kernel
theorem dX4_round_11 : decode cX4_round 11 = .ok (.aload_n 0, 1) := by decide +kernel
theorem dX4_round_12 : decode cX4_round 12 = .ok (.getfield 16, 3) := by decide +kernel
theorem dX4_round_15 : decode cX4_round 15 = .ok (.invokevirtual 201, 3) := by decide +kernel
theorem dX4_round_18 : decode cX4_round 18 = .ok (.ireturn, 1) := by decide +kernel
theorem dX4_weakest_0 : decode cX4_weakest 0 = .ok (.iload_n 1, 1) := by decide +kernel
theorem dX4_weakest_1 : decode cX4_weakest 1 = .ok (.ifCond .eq 11, 3) := by decide +kernel
theorem dX4_weakest_4 : decode cX4_weakest 4 = .ok (.iload_n 1, 1) := by decide +kernel
theorem dX4_weakest_5 : decode cX4_weakest 5 = .ok (.iconst 1, 1) := by decide +kernel
theorem dX4_weakest_6 : decode cX4_weakest 6 = .ok (.if_icmp .eq 6, 3) := by decide +kernel
theorem dX4_weakest_9 : decode cX4_weakest 9 = .ok (.bipush (-2), 2) := by decide +kernel
theorem dX4_weakest_11 : decode cX4_weakest 11 = .ok (.ireturn, 1) := by decide +kernel
theorem dX4_weakest_12 : decode cX4_weakest 12 = .ok (.bipush (-6), 2) := by decide +kernel
theorem dX4_weakest_14 : decode cX4_weakest 14 = .ok (.istore_n 2, 1) := by decide +kernel
theorem dX4_weakest_15 : decode cX4_weakest 15 = .ok (.bipush (-6), 2) := by decide +kernel
theorem dX4_weakest_17 : decode cX4_weakest 17 = .ok (.istore_n 3, 1) := by decide +kernel
theorem dX4_weakest_18 : decode cX4_weakest 18 = .ok (.iconst 0, 1) := by decide +kernel
theorem dX4_weakest_19 : decode cX4_weakest 19 = .ok (.istore 4, 2) := by decide +kernel
theorem dX4_weakest_21 : decode cX4_weakest 21 = .ok (.iload 4, 2) := by decide +kernel
theorem dX4_weakest_23 : decode cX4_weakest 23 = .ok (.aload_n 0, 1) := by decide +kernel
theorem dX4_weakest_24 : decode cX4_weakest 24 = .ok (.getfield 10, 3) := by decide +kernel
theorem dX4_weakest_27 : decode cX4_weakest 27 = .ok (.getfield 150, 3) := by decide +kernel
theorem dX4_weakest_30 : decode cX4_weakest 30 = .ok (.if_icmp .ge 56, 3) := by decide +kernel
theorem dX4_weakest_33 : decode cX4_weakest 33 = .ok (.aload_n 0, 1) := by decide +kernel
theorem dX4_weakest_34 : decode cX4_weakest 34 = .ok (.getfield 10, 3) := by decide +kernel
theorem dX4_weakest_37 : decode cX4_weakest 37 = .ok (.iload 4, 2) := by decide +kernel
theorem dX4_weakest_39 : decode cX4_weakest 39 = .ok (.invokevirtual 73, 3) := by decide +kernel
theorem dX4_weakest_42 : decode cX4_weakest 42 = .ok (.astore 5, 2) := by decide +kernel
theorem dX4_weakest_44 : decode cX4_weakest 44 = .ok (.aload 5, 2) := by decide +kernel
theorem dX4_weakest_46 : decode cX4_weakest 46 = .ok (.ifnull 34, 3) := by decide +kernel
theorem dX4_weakest_49 : decode cX4_weakest 49 = .ok (.aload 5, 2) := by decide +kernel
theorem dX4_weakest_51 : decode cX4_weakest 51 = .ok (.getfield 95, 3) := by decide +kernel
theorem dX4_weakest_54 : decode cX4_weakest 54 = .ok (.ifCond .ne 26, 3) := by decide +kernel
theorem dX4_weakest_57 : decode cX4_weakest 57 = .ok (.aload_n 0, 1) := by decide +kernel
theorem dX4_weakest_58 : decode cX4_weakest 58 = .ok (.iload 4, 2) := by decide +kernel
theorem dX4_weakest_60 : decode cX4_weakest 60 = .ok (.invokevirtual 188, 3) := by decide +kernel
theorem dX4_weakest_63 : decode cX4_weakest 63 = .ok (.invokestatic 204, 3) := by decide +kernel
theorem dX4_weakest_66 : decode cX4_weakest 66 = .ok (.istore 6, 2) := by decide +kernel
theorem dX4_weakest_68 : decode cX4_weakest 68 = .ok (.iload 6, 2) := by decide +kernel
theorem dX4_weakest_70 : decode cX4_weakest 70 = .ok (.iload_n 3, 1) := by decide +kernel
theorem dX4_weakest_71 : decode cX4_weakest 71 = .ok (.if_icmp .le 9, 3) := by decide +kernel
theorem dX4_weakest_74 : decode cX4_weakest 74 = .ok (.iload 6, 2) := by decide +kernel
theorem dX4_weakest_76 : decode cX4_weakest 76 = .ok (.istore_n 3, 1) := by decide +kernel
theorem dX4_weakest_77 : decode cX4_weakest 77 = .ok (.iload 4, 2) := by decide +kernel
theorem dX4_weakest_79 : decode cX4_weakest 79 = .ok (.istore_n 2, 1) := by decide +kernel
theorem dX4_weakest_80 : decode cX4_weakest 80 = .ok (.iinc 4 1, 3) := by decide +kernel
theorem dX4_weakest_83 : decode cX4_weakest 83 = .ok (.goto (-62), 3) := by decide +kernel
theorem dX4_weakest_86 : decode cX4_weakest 86 = .ok (.iload_n 1, 1) := by decide +kernel
theorem dX4_weakest_87 : decode cX4_weakest 87 = .ok (.ifCond .ne 7, 3) := by decide +kernel
theorem dX4_weakest_90 : decode cX4_weakest 90 = .ok (.iload_n 2, 1) := by decide +kernel
theorem dX4_weakest_91 : decode cX4_weakest 91 = .ok (.goto 4, 3) := by decide +kernel
theorem dX4_weakest_94 : decode cX4_weakest 94 = .ok (.iload_n 3, 1) := by decide +kernel
theorem dX4_weakest_95 : decode cX4_weakest 95 = .ok (.ireturn, 1) := by decide +kernel
theorem dX4_put_0 : decode cX4_put 0 = .ok (.aload_n 0, 1) := by decide +kernel
theorem dX4_put_1 : decode cX4_put 1 = .ok (.getfield 37, 3) := by decide +kernel
theorem dX4_put_4 : decode cX4_put 4 = .ok (.lload_n 1, 1) := by decide +kernel
theorem dX4_put_5 : decode cX4_put 5 = .ok (.invokevirtual 209, 3) := by decide +kernel
theorem dX4_put_8 : decode cX4_put 8 = .ok (.ireturn, 1) := by decide +kernel
theorem dX4_wipe_0 : decode cX4_wipe 0 = .ok (.aload_n 0, 1) := by decide +kernel
theorem dX4_wipe_1 : decode cX4_wipe 1 = .ok (.getfield 37, 3) := by decide +kernel
theorem dX4_wipe_4 : decode cX4_wipe 4 = .ok (.invokevirtual 213, 3) := by decide +kernel
theorem dX4_wipe_7 : decode cX4_wipe 7 = .ok (.ireturn, 1) := by decide +kernel
theorem dX4_fault_0 : decode cX4_fault 0 = .ok (.aload_n 0, 1) := by decide +kernel
theorem dX4_fault_1 : decode cX4_fault 1 = .ok (.getfield 37, 3) := by decide +kernel
theorem dX4_fault_4 : decode cX4_fault 4 = .ok (.invokevirtual 216, 3) := by decide +kernel
theorem dX4_fault_7 : decode cX4_fault 7 = .ok (.ireturn, 1) := by decide +kernel
theorem dX4_carryOut_0 : decode cX4_carryOut 0 = .ok (.aload_n 0, 1) := by decide +kernel
theorem dX4_carryOut_1 : decode cX4_carryOut 1 = .ok (.getfield 37, 3) := by decide +kernel
theorem dX4_carryOut_4 : decode cX4_carryOut 4 = .ok (.invokevirtual 216, 3) := by decide +kernel
theorem dX4_carryOut_7 : decode cX4_carryOut 7 = .ok (.bipush (-6), 2) := by decide +kernel
theorem dX4_carryOut_9 : decode cX4_carryOut 9 = .ok (.if_icmp .eq 6, 3) := by decide +kernel
theorem dX4_carryOut_12 : decode cX4_carryOut 12 = .ok (.bipush (-3), 2) := by decide +kernel
theorem dX4_carryOut_14 : decode cX4_carryOut 14 = .ok (.ireturn, 1) := by decide +kernel
theorem dX4_carryOut_15 : decode cX4_carryOut 15 = .ok (.aload_n 0, 1) := by decide +kernel
theorem dX4_carryOut_16 : decode cX4_carryOut 16 = .ok (.getfield 22, 3) := by decide +kernel
theorem dX4_carryOut_19 : decode cX4_carryOut 19 = .ok (.aload_n 0, 1) := by decide +kernel
theorem dX4_carryOut_20 : decode cX4_carryOut 20 = .ok (.getfield 10, 3) := by decide +kernel
theorem dX4_carryOut_23 : decode cX4_carryOut 23 = .ok (.invokevirtual 41, 3) := by decide +kernel
theorem dX4_carryOut_26 : decode cX4_carryOut 26 = .ok (.aload_n 0, 1) := by decide +kernel
theorem dX4_carryOut_27 : decode cX4_carryOut 27 = .ok (.getfield 22, 3) := by decide +kernel
theorem dX4_carryOut_30 : decode cX4_carryOut 30 = .ok (.aload_n 0, 1) := by decide +kernel
theorem dX4_carryOut_31 : decode cX4_carryOut 31 = .ok (.invokevirtual 219, 3) := by decide +kernel
theorem dX4_carryOut_34 : decode cX4_carryOut 34 = .ok (.invokevirtual 49, 3) := by decide +kernel
theorem dX4_carryOut_37 : decode cX4_carryOut 37 = .ok (.istore_n 1, 1) := by decide +kernel
theorem dX4_carryOut_38 : decode cX4_carryOut 38 = .ok (.aload_n 0, 1) := by decide +kernel
theorem dX4_carryOut_39 : decode cX4_carryOut 39 = .ok (.getfield 37, 3) := by decide +kernel
theorem dX4_carryOut_42 : decode cX4_carryOut 42 = .ok (.invokevirtual 213, 3) := by decide +kernel
theorem dX4_carryOut_45 : decode cX4_carryOut 45 = .ok (.pop, 1) := by decide +kernel
theorem dX4_carryOut_46 : decode cX4_carryOut 46 = .ok (.iload_n 1, 1) := by decide +kernel
theorem dX4_carryOut_47 : decode cX4_carryOut 47 = .ok (.ireturn, 1) := by decide +kernel
theorem dX4_undo_0 : decode cX4_undo 0 = .ok (.aload_n 0, 1) := by decide +kernel
theorem dX4_undo_1 : decode cX4_undo 1 = .ok (.getfield 22, 3) := by decide +kernel
theorem dX4_undo_4 : decode cX4_undo 4 = .ok (.aload_n 0, 1) := by decide +kernel
theorem dX4_undo_5 : decode cX4_undo 5 = .ok (.getfield 10, 3) := by decide +kernel
theorem dX4_undo_8 : decode cX4_undo 8 = .ok (.invokevirtual 222, 3) := by decide +kernel
theorem dX4_undo_11 : decode cX4_undo 11 = .ok (.ireturn, 1) := by decide +kernel
theorem dX4_save_0 : decode cX4_save 0 = .ok (.iload_n 1, 1) := by decide +kernel
theorem dX4_save_1 : decode cX4_save 1 = .ok (.iconst 0, 1) := by decide +kernel
theorem dX4_save_2 : decode cX4_save 2 = .ok (.iconst 1, 1) := by decide +kernel
theorem dX4_save_3 : decode cX4_save 3 = .ok (.invokestatic 177, 3) := by decide +kernel
theorem dX4_save_6 : decode cX4_save 6 = .ok (.ifCond .ne 6, 3) := by decide +kernel
theorem dX4_save_9 : decode cX4_save 9 = .ok (.bipush (-2), 2) := by decide +kernel
theorem dX4_save_11 : decode cX4_save 11 = .ok (.ireturn, 1) := by decide +kernel
theorem dX4_save_12 : decode cX4_save 12 = .ok (.aload_n 0, 1) := by decide +kernel
theorem dX4_save_13 : decode cX4_save 13 = .ok (.getfield 26, 3) := by decide +kernel
theorem dX4_save_16 : decode cX4_save 16 = .ok (.iload_n 1, 1) := by decide +kernel
theorem dX4_save_17 : decode cX4_save 17 = .ok (.aaload, 1) := by decide +kernel
theorem dX4_save_18 : decode cX4_save 18 = .ok (.aload_n 0, 1) := by decide +kernel
theorem dX4_save_19 : decode cX4_save 19 = .ok (.getfield 10, 3) := by decide +kernel
theorem dX4_save_22 : decode cX4_save 22 = .ok (.invokevirtual 191, 3) := by decide +kernel
theorem dX4_save_25 : decode cX4_save 25 = .ok (.aload_n 0, 1) := by decide +kernel
theorem dX4_save_26 : decode cX4_save 26 = .ok (.getfield 30, 3) := by decide +kernel
theorem dX4_save_29 : decode cX4_save 29 = .ok (.iload_n 1, 1) := by decide +kernel
theorem dX4_save_30 : decode cX4_save 30 = .ok (.iconst 1, 1) := by decide +kernel
theorem dX4_save_31 : decode cX4_save 31 = .ok (.bastore, 1) := by decide +kernel
theorem dX4_save_32 : decode cX4_save 32 = .ok (.aload_n 0, 1) := by decide +kernel
theorem dX4_save_33 : decode cX4_save 33 = .ok (.getfield 10, 3) := by decide +kernel
theorem dX4_save_36 : decode cX4_save 36 = .ok (.getfield 147, 3) := by decide +kernel
theorem dX4_save_39 : decode cX4_save 39 = .ok (.ireturn, 1) := by decide +kernel
theorem dX4_restore_0 : decode cX4_restore 0 = .ok (.iload_n 1, 1) := by decide +kernel
theorem dX4_restore_1 : decode cX4_restore 1 = .ok (.iconst 0, 1) := by decide +kernel
theorem dX4_restore_2 : decode cX4_restore 2 = .ok (.iconst 1, 1) := by decide +kernel
theorem dX4_restore_3 : decode cX4_restore 3 = .ok (.invokestatic 177, 3) := by decide +kernel
theorem dX4_restore_6 : decode cX4_restore 6 = .ok (.ifCond .ne 6, 3) := by decide +kernel
theorem dX4_restore_9 : decode cX4_restore 9 = .ok (.bipush (-2), 2) := by decide +kernel
theorem dX4_restore_11 : decode cX4_restore 11 = .ok (.ireturn, 1) := by decide +kernel
theorem dX4_restore_12 : decode cX4_restore 12 = .ok (.aload_n 0, 1) := by decide +kernel
theorem dX4_restore_13 : decode cX4_restore 13 = .ok (.getfield 30, 3) := by decide +kernel
theorem dX4_restore_16 : decode cX4_restore 16 = .ok (.iload_n 1, 1) := by decide +kernel
theorem dX4_restore_17 : decode cX4_restore 17 = .ok (.baload, 1) := by decide +kernel
theorem dX4_restore_18 : decode cX4_restore 18 = .ok (.ifCond .ne 6, 3) := by decide +kernel
theorem dX4_restore_21 : decode cX4_restore 21 = .ok (.bipush (-5), 2) := by decide +kernel
theorem dX4_restore_23 : decode cX4_restore 23 = .ok (.ireturn, 1) := by decide +kernel
theorem dX4_restore_24 : decode cX4_restore 24 = .ok (.aload_n 0, 1) := by decide +kernel
theorem dX4_restore_25 : decode cX4_restore 25 = .ok (.getfield 22, 3) := by decide +kernel
theorem dX4_restore_28 : decode cX4_restore 28 = .ok (.aload_n 0, 1) := by decide +kernel
theorem dX4_restore_29 : decode cX4_restore 29 = .ok (.getfield 10, 3) := by decide +kernel
theorem dX4_restore_32 : decode cX4_restore 32 = .ok (.invokevirtual 41, 3) := by decide +kernel
theorem dX4_restore_35 : decode cX4_restore 35 = .ok (.aload_n 0, 1) := by decide +kernel
theorem dX4_restore_36 : decode cX4_restore 36 = .ok (.getfield 10, 3) := by decide +kernel
theorem dX4_restore_39 : decode cX4_restore 39 = .ok (.aload_n 0, 1) := by decide +kernel
theorem dX4_restore_40 : decode cX4_restore 40 = .ok (.getfield 26, 3) := by decide +kernel
theorem dX4_restore_43 : decode cX4_restore 43 = .ok (.iload_n 1, 1) := by decide +kernel
theorem dX4_restore_44 : decode cX4_restore 44 = .ok (.aaload, 1) := by decide +kernel
theorem dX4_restore_45 : decode cX4_restore 45 = .ok (.invokevirtual 191, 3) := by decide +kernel
theorem dX4_restore_48 : decode cX4_restore 48 = .ok (.aload_n 0, 1) := by decide +kernel
theorem dX4_restore_49 : decode cX4_restore 49 = .ok (.getfield 22, 3) := by decide +kernel
theorem dX4_restore_52 : decode cX4_restore 52 = .ok (.aload_n 0, 1) := by decide +kernel
theorem dX4_restore_53 : decode cX4_restore 53 = .ok (.getfield 10, 3) := by decide +kernel
theorem dX4_restore_56 : decode cX4_restore 56 = .ok (.getfield 147, 3) := by decide +kernel
theorem dX4_restore_59 : decode cX4_restore 59 = .ok (.invokevirtual 49, 3) := by decide +kernel
theorem dX4_restore_62 : decode cX4_restore 62 = .ok (.ireturn, 1) := by decide +kernel
theorem dX4_fallenWith_0 : decode cX4_fallenWith 0 = .ok (.aload_n 0, 1) := by decide +kernel
theorem dX4_fallenWith_1 : decode cX4_fallenWith 1 = .ok (.getfield 16, 3) := by decide +kernel
theorem dX4_fallenWith_4 : decode cX4_fallenWith 4 = .ok (.aload_n 0, 1) := by decide +kernel
theorem dX4_fallenWith_5 : decode cX4_fallenWith 5 = .ok (.getfield 10, 3) := by decide +kernel
theorem dX4_fallenWith_8 : decode cX4_fallenWith 8 = .ok (.invokevirtual 191, 3) := by decide +kernel
theorem dX4_fallenWith_11 : decode cX4_fallenWith 11 = .ok (.aload_n 0, 1) := by decide +kernel
theorem dX4_fallenWith_12 : decode cX4_fallenWith 12 = .ok (.getfield 16, 3) := by decide +kernel
theorem dX4_fallenWith_15 : decode cX4_fallenWith 15 = .ok (.iload_n 1, 1) := by decide +kernel
theorem dX4_fallenWith_16 : decode cX4_fallenWith 16 = .ok (.invokevirtual 73, 3) := by decide +kernel
theorem dX4_fallenWith_19 : decode cX4_fallenWith 19 = .ok (.astore_n 2, 1) := by decide +kernel
theorem dX4_fallenWith_20 : decode cX4_fallenWith 20 = .ok (.aload_n 2, 1) := by decide +kernel
theorem dX4_fallenWith_21 : decode cX4_fallenWith 21 = .ok (.ifnonnull 5, 3) := by decide +kernel
theorem dX4_fallenWith_24 : decode cX4_fallenWith 24 = .ok (.iconst 0, 1) := by decide +kernel
theorem dX4_fallenWith_25 : decode cX4_fallenWith 25 = .ok (.ireturn, 1) := by decide +kernel
theorem dX4_fallenWith_26 : decode cX4_fallenWith 26 = .ok (.aload_n 2, 1) := by decide +kernel
theorem dX4_fallenWith_27 : decode cX4_fallenWith 27 = .ok (.aload_n 0, 1) := by decide +kernel
theorem dX4_fallenWith_28 : decode cX4_fallenWith 28 = .ok (.getfield 16, 3) := by decide +kernel
theorem dX4_fallenWith_31 : decode cX4_fallenWith 31 = .ok (.getfield 147, 3) := by decide +kernel
theorem dX4_fallenWith_34 : decode cX4_fallenWith 34 = .ok (.invokevirtual 226, 3) := by decide +kernel
theorem dX4_fallenWith_37 : decode cX4_fallenWith 37 = .ok (.aload_n 0, 1) := by decide +kernel
theorem dX4_fallenWith_38 : decode cX4_fallenWith 38 = .ok (.getfield 16, 3) := by decide +kernel
theorem dX4_fallenWith_41 : decode cX4_fallenWith 41 = .ok (.invokevirtual 230, 3) := by decide +kernel
theorem dX4_fallenWith_44 : decode cX4_fallenWith 44 = .ok (.iconst 1, 1) := by decide +kernel
theorem dX4_fallenWith_45 : decode cX4_fallenWith 45 = .ok (.iload_n 1, 1) := by decide +kernel
theorem dX4_fallenWith_46 : decode cX4_fallenWith 46 = .ok (.ishl, 1) := by decide +kernel
theorem dX4_fallenWith_47 : decode cX4_fallenWith 47 = .ok (.aload_n 0, 1) := by decide +kernel
theorem dX4_fallenWith_48 : decode cX4_fallenWith 48 = .ok (.getfield 16, 3) := by decide +kernel
theorem dX4_fallenWith_51 : decode cX4_fallenWith 51 = .ok (.invokevirtual 233, 3) := by decide +kernel
theorem dX4_fallenWith_54 : decode cX4_fallenWith 54 = .ok (.ior, 1) := by decide +kernel
theorem dX4_fallenWith_55 : decode cX4_fallenWith 55 = .ok (.ireturn, 1) := by decide +kernel
theorem dX4_ordersCarriedOut_0 : decode cX4_ordersCarriedOut 0 = .ok (.iconst 0, 1) := by decide +kernel
theorem dX4_ordersCarriedOut_1 : decode cX4_ordersCarriedOut 1 = .ok (.istore_n 1, 1) := by decide +kernel
theorem dX4_ordersCarriedOut_2 : decode cX4_ordersCarriedOut 2 = .ok (.aload_n 0, 1) := by decide +kernel
theorem dX4_ordersCarriedOut_3 : decode cX4_ordersCarriedOut 3 = .ok (.getfield 37, 3) := by decide +kernel
theorem dX4_ordersCarriedOut_6 : decode cX4_ordersCarriedOut 6 = .ok (.invokevirtual 236, 3) := by decide +kernel
theorem dX4_ordersCarriedOut_9 : decode cX4_ordersCarriedOut 9 = .ok (.iconst 0, 1) := by decide +kernel
theorem dX4_ordersCarriedOut_10 : decode cX4_ordersCarriedOut 10 = .ok (.istore_n 2, 1) := by decide +kernel
theorem dX4_ordersCarriedOut_11 : decode cX4_ordersCarriedOut 11 = .ok (.iload_n 2, 1) := by decide +kernel
theorem dX4_ordersCarriedOut_12 : decode cX4_ordersCarriedOut 12 = .ok (.bipush 60, 2) := by decide +kernel
theorem dX4_ordersCarriedOut_14 : decode cX4_ordersCarriedOut 14 = .ok (.if_icmp .ge 55, 3) := by decide +kernel
theorem dX4_ordersCarriedOut_17 : decode cX4_ordersCarriedOut 17 = .ok (.aload_n 0, 1) := by decide +kernel
theorem dX4_ordersCarriedOut_18 : decode cX4_ordersCarriedOut 18 = .ok (.getfield 37, 3) := by decide +kernel
theorem dX4_ordersCarriedOut_21 : decode cX4_ordersCarriedOut 21 = .ok (.invokevirtual 239, 3) := by decide +kernel
theorem dX4_ordersCarriedOut_24 : decode cX4_ordersCarriedOut 24 = .ok (.ifCond .eq 45, 3) := by decide +kernel
theorem dX4_ordersCarriedOut_27 : decode cX4_ordersCarriedOut 27 = .ok (.aload_n 0, 1) := by decide +kernel
theorem dX4_ordersCarriedOut_28 : decode cX4_ordersCarriedOut 28 = .ok (.aload_n 0, 1) := by decide +kernel
theorem dX4_ordersCarriedOut_29 : decode cX4_ordersCarriedOut 29 = .ok (.getfield 37, 3) := by decide +kernel
theorem dX4_ordersCarriedOut_32 : decode cX4_ordersCarriedOut 32 = .ok (.getfield 242, 3) := by decide +kernel
theorem dX4_ordersCarriedOut_35 : decode cX4_ordersCarriedOut 35 = .ok (.aload_n 0, 1) := by decide +kernel
theorem dX4_ordersCarriedOut_36 : decode cX4_ordersCarriedOut 36 = .ok (.getfield 37, 3) := by decide +kernel
theorem dX4_ordersCarriedOut_39 : decode cX4_ordersCarriedOut 39 = .ok (.getfield 246, 3) := by decide +kernel
theorem dX4_ordersCarriedOut_42 : decode cX4_ordersCarriedOut 42 = .ok (.aload_n 0, 1) := by decide +kernel
theorem dX4_ordersCarriedOut_43 : decode cX4_ordersCarriedOut 43 = .ok (.getfield 37, 3) := by decide +kernel
theorem dX4_ordersCarriedOut_46 : decode cX4_ordersCarriedOut 46 = .ok (.getfield 249, 3) := by decide +kernel
theorem dX4_ordersCarriedOut_49 : decode cX4_ordersCarriedOut 49 = .ok (.invokevirtual 252, 3) := by decide +kernel
theorem dX4_ordersCarriedOut_52 : decode cX4_ordersCarriedOut 52 = .ok (.invokestatic 256, 3) := by decide +kernel
theorem dX4_ordersCarriedOut_55 : decode cX4_ordersCarriedOut 55 = .ok (.ifCond .eq 5, 3) := by decide +kernel
theorem dX4_ordersCarriedOut_58 : decode cX4_ordersCarriedOut 58 = .ok (.iload_n 1, 1) := by decide +kernel
theorem dX4_ordersCarriedOut_59 : decode cX4_ordersCarriedOut 59 = .ok (.ireturn, 1) := by decide +kernel
theorem dX4_ordersCarriedOut_60 : decode cX4_ordersCarriedOut 60 = .ok (.iinc 1 1, 3) := by decide +kernel
theorem dX4_ordersCarriedOut_63 : decode cX4_ordersCarriedOut 63 = .ok (.iinc 2 1, 3) := by decide +kernel
theorem dX4_ordersCarriedOut_66 : decode cX4_ordersCarriedOut 66 = .ok (.goto (-55), 3) := by decide +kernel
theorem dX4_ordersCarriedOut_69 : decode cX4_ordersCarriedOut 69 = .ok (.iload_n 1, 1) := by decide +kernel
theorem dX4_ordersCarriedOut_70 : decode cX4_ordersCarriedOut 70 = .ok (.ireturn, 1) := by decide +kernel
theorem dX4_answerTo_0 : decode cX4_answerTo 0 = .ok (.iload_n 1, 1) := by decide +kernel
theorem dX4_answerTo_1 : decode cX4_answerTo 1 = .ok (.lookupswitch 96 #[(100, 87), (103, 51), (104, 60), (112, 77), (116, 68)], 51) := by decide +kernel
theorem dX4_answerTo_52 : decode cX4_answerTo 52 = .ok (.aload_n 0, 1) := by decide +kernel
theorem dX4_answerTo_53 : decode cX4_answerTo 53 = .ok (.getfield 10, 3) := by decide +kernel
theorem dX4_answerTo_56 : decode cX4_answerTo 56 = .ok (.iload_n 2, 1) := by decide +kernel
theorem dX4_answerTo_57 : decode cX4_answerTo 57 = .ok (.invokevirtual 63, 3) := by decide +kernel
theorem dX4_answerTo_60 : decode cX4_answerTo 60 = .ok (.ireturn, 1) := by decide +kernel
theorem dX4_answerTo_61 : decode cX4_answerTo 61 = .ok (.aload_n 0, 1) := by decide +kernel
theorem dX4_answerTo_62 : decode cX4_answerTo 62 = .ok (.getfield 10, 3) := by decide +kernel
theorem dX4_answerTo_65 : decode cX4_answerTo 65 = .ok (.invokevirtual 66, 3) := by decide +kernel
theorem dX4_answerTo_68 : decode cX4_answerTo 68 = .ok (.ireturn, 1) := by decide +kernel
theorem dX4_answerTo_69 : decode cX4_answerTo 69 = .ok (.aload_n 0, 1) := by decide +kernel
theorem dX4_answerTo_70 : decode cX4_answerTo 70 = .ok (.getfield 10, 3) := by decide +kernel
theorem dX4_answerTo_73 : decode cX4_answerTo 73 = .ok (.iload_n 2, 1) := by decide +kernel
theorem dX4_answerTo_74 : decode cX4_answerTo 74 = .ok (.invokevirtual 70, 3) := by decide +kernel
theorem dX4_answerTo_77 : decode cX4_answerTo 77 = .ok (.ireturn, 1) := by decide +kernel
theorem dX4_answerTo_78 : decode cX4_answerTo 78 = .ok (.aload_n 0, 1) := by decide +kernel
theorem dX4_answerTo_79 : decode cX4_answerTo 79 = .ok (.getfield 10, 3) := by decide +kernel
theorem dX4_answerTo_82 : decode cX4_answerTo 82 = .ok (.iload_n 2, 1) := by decide +kernel
theorem dX4_answerTo_83 : decode cX4_answerTo 83 = .ok (.iload_n 3, 1) := by decide +kernel
theorem dX4_answerTo_84 : decode cX4_answerTo 84 = .ok (.invokevirtual 57, 3) := by decide +kernel
theorem dX4_answerTo_87 : decode cX4_answerTo 87 = .ok (.ireturn, 1) := by decide +kernel
theorem dX4_answerTo_88 : decode cX4_answerTo 88 = .ok (.aload_n 0, 1) := by decide +kernel
theorem dX4_answerTo_89 : decode cX4_answerTo 89 = .ok (.getfield 10, 3) := by decide +kernel
theorem dX4_answerTo_92 : decode cX4_answerTo 92 = .ok (.iload_n 2, 1) := by decide +kernel
theorem dX4_answerTo_93 : decode cX4_answerTo 93 = .ok (.invokevirtual 60, 3) := by decide +kernel
theorem dX4_answerTo_96 : decode cX4_answerTo 96 = .ok (.ireturn, 1) := by decide +kernel
theorem dX4_answerTo_97 : decode cX4_answerTo 97 = .ok (.bipush (-3), 2) := by decide +kernel
theorem dX4_answerTo_99 : decode cX4_answerTo 99 = .ok (.ireturn, 1) := by decide +kernel
theorem dX4_isError_0 : decode cX4_isError 0 = .ok (.iload_n 0, 1) := by decide +kernel
theorem dX4_isError_1 : decode cX4_isError 1 = .ok (.ifCond .ge 13, 3) := by decide +kernel
theorem dX4_isError_4 : decode cX4_isError 4 = .ok (.iload_n 0, 1) := by decide +kernel
theorem dX4_isError_5 : decode cX4_isError 5 = .ok (.bipush (-6), 2) := by decide +kernel
theorem dX4_isError_7 : decode cX4_isError 7 = .ok (.if_icmp .eq 7, 3) := by decide +kernel
theorem dX4_isError_10 : decode cX4_isError 10 = .ok (.iconst 1, 1) := by decide +kernel
theorem dX4_isError_11 : decode cX4_isError 11 = .ok (.goto 4, 3) := by decide +kernel
theorem dX4_isError_14 : decode cX4_isError 14 = .ok (.iconst 0, 1) := by decide +kernel
theorem dX4_isError_15 : decode cX4_isError 15 = .ok (.ireturn, 1) := by decide +kernel
theorem dX4_within_0 : decode cX4_within 0 = .ok (.iload_n 0, 1) := by decide +kernel
theorem dX4_within_1 : decode cX4_within 1 = .ok (.iload_n 1, 1) := by decide +kernel
theorem dX4_within_2 : decode cX4_within 2 = .ok (.if_icmp .lt 12, 3) := by decide +kernel
theorem dX4_within_5 : decode cX4_within 5 = .ok (.iload_n 0, 1) := by decide +kernel
theorem dX4_within_6 : decode cX4_within 6 = .ok (.iload_n 2, 1) := by decide +kernel
theorem dX4_within_7 : decode cX4_within 7 = .ok (.if_icmp .gt 7, 3) := by decide +kernel
theorem dX4_within_10 : decode cX4_within 10 = .ok (.iconst 1, 1) := by decide +kernel
theorem dX4_within_11 : decode cX4_within 11 = .ok (.goto 4, 3) := by decide +kernel
theorem dX4_within_14 : decode cX4_within 14 = .ok (.iconst 0, 1) := by decide +kernel
theorem dX4_within_15 : decode cX4_within 15 = .ok (.ireturn, 1) := by decide +kernel
theorem dX4_oneIf_0 : decode cX4_oneIf 0 = .ok (.iload_n 0, 1) := by decide +kernel
theorem dX4_oneIf_1 : decode cX4_oneIf 1 = .ok (.ifCond .eq 7, 3) := by decide +kernel
theorem dX4_oneIf_4 : decode cX4_oneIf 4 = .ok (.iconst 1, 1) := by decide +kernel
theorem dX4_oneIf_5 : decode cX4_oneIf 5 = .ok (.goto 4, 3) := by decide +kernel
theorem dX4_oneIf_8 : decode cX4_oneIf 8 = .ok (.iconst 0, 1) := by decide +kernel
theorem dX4_oneIf_9 : decode cX4_oneIf 9 = .ok (.ireturn, 1) := by decide +kernel
theorem dX4_crept_0 : decode cX4_crept 0 = .ok (.iload_n 0, 1) := by decide +kernel
theorem dX4_crept_1 : decode cX4_crept 1 = .ok (.iload_n 0, 1) := by decide +kernel
theorem dX4_crept_2 : decode cX4_crept 2 = .ok (.iload_n 1, 1) := by decide +kernel
theorem dX4_crept_3 : decode cX4_crept 3 = .ok (.imul, 1) := by decide +kernel
theorem dX4_crept_4 : decode cX4_crept 4 = .ok (.sipush 999, 3) := by decide +kernel
theorem dX4_crept_7 : decode cX4_crept 7 = .ok (.iadd, 1) := by decide +kernel
theorem dX4_crept_8 : decode cX4_crept 8 = .ok (.sipush 1000, 3) := by decide +kernel
theorem dX4_crept_11 : decode cX4_crept 11 = .ok (.idiv, 1) := by decide +kernel
theorem dX4_crept_12 : decode cX4_crept 12 = .ok (.isub, 1) := by decide +kernel
theorem dX4_crept_13 : decode cX4_crept 13 = .ok (.ireturn, 1) := by decide +kernel
theorem dJ6_bitCount_0f7a4_0 : decode cJ6_bitCount_0f7a4 0 = .ok (.iload_n 0, 1) := by decide +kernel
theorem dJ6_bitCount_0f7a4_1 : decode cJ6_bitCount_0f7a4 1 = .ok (.iload_n 0, 1) := by decide +kernel
theorem dJ6_bitCount_0f7a4_2 : decode cJ6_bitCount_0f7a4 2 = .ok (.iconst 1, 1) := by decide +kernel
theorem dJ6_bitCount_0f7a4_3 : decode cJ6_bitCount_0f7a4 3 = .ok (.iushr, 1) := by decide +kernel
theorem dJ6_bitCount_0f7a4_4 : decode cJ6_bitCount_0f7a4 4 = .ok (.ldc_w 265, 3) := by decide +kernel
theorem dJ6_bitCount_0f7a4_7 : decode cJ6_bitCount_0f7a4 7 = .ok (.iand, 1) := by decide +kernel
theorem dJ6_bitCount_0f7a4_8 : decode cJ6_bitCount_0f7a4 8 = .ok (.isub, 1) := by decide +kernel
theorem dJ6_bitCount_0f7a4_9 : decode cJ6_bitCount_0f7a4 9 = .ok (.istore_n 0, 1) := by decide +kernel
theorem dJ6_bitCount_0f7a4_10 : decode cJ6_bitCount_0f7a4 10 = .ok (.iload_n 0, 1) := by decide +kernel
theorem dJ6_bitCount_0f7a4_11 : decode cJ6_bitCount_0f7a4 11 = .ok (.ldc_w 266, 3) := by decide +kernel
theorem dJ6_bitCount_0f7a4_14 : decode cJ6_bitCount_0f7a4 14 = .ok (.iand, 1) := by decide +kernel
theorem dJ6_bitCount_0f7a4_15 : decode cJ6_bitCount_0f7a4 15 = .ok (.iload_n 0, 1) := by decide +kernel
theorem dJ6_bitCount_0f7a4_16 : decode cJ6_bitCount_0f7a4 16 = .ok (.iconst 2, 1) := by decide +kernel
theorem dJ6_bitCount_0f7a4_17 : decode cJ6_bitCount_0f7a4 17 = .ok (.iushr, 1) := by decide +kernel
theorem dJ6_bitCount_0f7a4_18 : decode cJ6_bitCount_0f7a4 18 = .ok (.ldc_w 266, 3) := by decide +kernel
theorem dJ6_bitCount_0f7a4_21 : decode cJ6_bitCount_0f7a4 21 = .ok (.iand, 1) := by decide +kernel
theorem dJ6_bitCount_0f7a4_22 : decode cJ6_bitCount_0f7a4 22 = .ok (.iadd, 1) := by decide +kernel
theorem dJ6_bitCount_0f7a4_23 : decode cJ6_bitCount_0f7a4 23 = .ok (.istore_n 0, 1) := by decide +kernel
theorem dJ6_bitCount_0f7a4_24 : decode cJ6_bitCount_0f7a4 24 = .ok (.iload_n 0, 1) := by decide +kernel
theorem dJ6_bitCount_0f7a4_25 : decode cJ6_bitCount_0f7a4 25 = .ok (.iload_n 0, 1) := by decide +kernel
theorem dJ6_bitCount_0f7a4_26 : decode cJ6_bitCount_0f7a4 26 = .ok (.iconst 4, 1) := by decide +kernel
theorem dJ6_bitCount_0f7a4_27 : decode cJ6_bitCount_0f7a4 27 = .ok (.iushr, 1) := by decide +kernel
theorem dJ6_bitCount_0f7a4_28 : decode cJ6_bitCount_0f7a4 28 = .ok (.iadd, 1) := by decide +kernel
theorem dJ6_bitCount_0f7a4_29 : decode cJ6_bitCount_0f7a4 29 = .ok (.ldc_w 267, 3) := by decide +kernel
theorem dJ6_bitCount_0f7a4_32 : decode cJ6_bitCount_0f7a4 32 = .ok (.iand, 1) := by decide +kernel
theorem dJ6_bitCount_0f7a4_33 : decode cJ6_bitCount_0f7a4 33 = .ok (.istore_n 0, 1) := by decide +kernel
theorem dJ6_bitCount_0f7a4_34 : decode cJ6_bitCount_0f7a4 34 = .ok (.iload_n 0, 1) := by decide +kernel
theorem dJ6_bitCount_0f7a4_35 : decode cJ6_bitCount_0f7a4 35 = .ok (.iload_n 0, 1) := by decide +kernel
theorem dJ6_bitCount_0f7a4_36 : decode cJ6_bitCount_0f7a4 36 = .ok (.bipush 8, 2) := by decide +kernel
theorem dJ6_bitCount_0f7a4_38 : decode cJ6_bitCount_0f7a4 38 = .ok (.iushr, 1) := by decide +kernel
theorem dJ6_bitCount_0f7a4_39 : decode cJ6_bitCount_0f7a4 39 = .ok (.iadd, 1) := by decide +kernel
theorem dJ6_bitCount_0f7a4_40 : decode cJ6_bitCount_0f7a4 40 = .ok (.istore_n 0, 1) := by decide +kernel
theorem dJ6_bitCount_0f7a4_41 : decode cJ6_bitCount_0f7a4 41 = .ok (.iload_n 0, 1) := by decide +kernel
theorem dJ6_bitCount_0f7a4_42 : decode cJ6_bitCount_0f7a4 42 = .ok (.iload_n 0, 1) := by decide +kernel
theorem dJ6_bitCount_0f7a4_43 : decode cJ6_bitCount_0f7a4 43 = .ok (.bipush 16, 2) := by decide +kernel
theorem dJ6_bitCount_0f7a4_45 : decode cJ6_bitCount_0f7a4 45 = .ok (.iushr, 1) := by decide +kernel
theorem dJ6_bitCount_0f7a4_46 : decode cJ6_bitCount_0f7a4 46 = .ok (.iadd, 1) := by decide +kernel
theorem dJ6_bitCount_0f7a4_47 : decode cJ6_bitCount_0f7a4 47 = .ok (.istore_n 0, 1) := by decide +kernel
theorem dJ6_bitCount_0f7a4_48 : decode cJ6_bitCount_0f7a4 48 = .ok (.iload_n 0, 1) := by decide +kernel
theorem dJ6_bitCount_0f7a4_49 : decode cJ6_bitCount_0f7a4 49 = .ok (.bipush 63, 2) := by decide +kernel
theorem dJ6_bitCount_0f7a4_51 : decode cJ6_bitCount_0f7a4 51 = .ok (.iand, 1) := by decide +kernel
theorem dJ6_bitCount_0f7a4_52 : decode cJ6_bitCount_0f7a4 52 = .ok (.ireturn, 1) := by decide +kernel
theorem dJ9_abs_0f7a4_0 : decode cJ9_abs_0f7a4 0 = .ok (.iload_n 0, 1) := by decide +kernel
theorem dJ9_abs_0f7a4_1 : decode cJ9_abs_0f7a4 1 = .ok (.ifCond .ge 8, 3) := by decide +kernel
theorem dJ9_abs_0f7a4_4 : decode cJ9_abs_0f7a4 4 = .ok (.iload_n 0, 1) := by decide +kernel
theorem dJ9_abs_0f7a4_5 : decode cJ9_abs_0f7a4 5 = .ok (.ineg, 1) := by decide +kernel
theorem dJ9_abs_0f7a4_6 : decode cJ9_abs_0f7a4 6 = .ok (.goto 4, 3) := by decide +kernel
theorem dJ9_abs_0f7a4_9 : decode cJ9_abs_0f7a4 9 = .ok (.iload_n 0, 1) := by decide +kernel
theorem dJ9_abs_0f7a4_10 : decode cJ9_abs_0f7a4 10 = .ok (.ireturn, 1) := by decide +kernel
theorem dJ9_max_7cf53_0 : decode cJ9_max_7cf53 0 = .ok (.iload_n 0, 1) := by decide +kernel
theorem dJ9_max_7cf53_1 : decode cJ9_max_7cf53 1 = .ok (.iload_n 1, 1) := by decide +kernel
theorem dJ9_max_7cf53_2 : decode cJ9_max_7cf53 2 = .ok (.if_icmp .lt 7, 3) := by decide +kernel
theorem dJ9_max_7cf53_5 : decode cJ9_max_7cf53 5 = .ok (.iload_n 0, 1) := by decide +kernel
theorem dJ9_max_7cf53_6 : decode cJ9_max_7cf53 6 = .ok (.goto 4, 3) := by decide +kernel
theorem dJ9_max_7cf53_9 : decode cJ9_max_7cf53 9 = .ok (.iload_n 1, 1) := by decide +kernel
theorem dJ9_max_7cf53_10 : decode cJ9_max_7cf53 10 = .ok (.ireturn, 1) := by decide +kernel
theorem dJ9_min_7cf53_0 : decode cJ9_min_7cf53 0 = .ok (.iload_n 0, 1) := by decide +kernel
theorem dJ9_min_7cf53_1 : decode cJ9_min_7cf53 1 = .ok (.iload_n 1, 1) := by decide +kernel
theorem dJ9_min_7cf53_2 : decode cJ9_min_7cf53 2 = .ok (.if_icmp .gt 7, 3) := by decide +kernel
theorem dJ9_min_7cf53_5 : decode cJ9_min_7cf53 5 = .ok (.iload_n 0, 1) := by decide +kernel
theorem dJ9_min_7cf53_6 : decode cJ9_min_7cf53 6 = .ok (.goto 4, 3) := by decide +kernel
theorem dJ9_min_7cf53_9 : decode cJ9_min_7cf53 9 = .ok (.iload_n 1, 1) := by decide +kernel
theorem dJ9_min_7cf53_10 : decode cJ9_min_7cf53 10 = .ok (.ireturn, 1) := by decide +kernel
theorem dJ9_min_f86c9_0 : decode cJ9_min_f86c9 0 = .ok (.lload_n 0, 1) := by decide +kernel
theorem dJ9_min_f86c9_1 : decode cJ9_min_f86c9 1 = .ok (.lload_n 2, 1) := by decide +kernel
theorem dJ9_min_f86c9_2 : decode cJ9_min_f86c9 2 = .ok (.lcmp, 1) := by decide +kernel
theorem dJ9_min_f86c9_3 : decode cJ9_min_f86c9 3 = .ok (.ifCond .gt 7, 3) := by decide +kernel
theorem dJ9_min_f86c9_6 : decode cJ9_min_f86c9 6 = .ok (.lload_n 0, 1) := by decide +kernel
theorem dJ9_min_f86c9_7 : decode cJ9_min_f86c9 7 = .ok (.goto 4, 3) := by decide +kernel
theorem dJ9_min_f86c9_10 : decode cJ9_min_f86c9 10 = .ok (.lload_n 2, 1) := by decide +kernel
theorem dJ9_min_f86c9_11 : decode cJ9_min_f86c9 11 = .ok (.lreturn, 1) := by decide +kernel
theorem dL_law_0 : decode cL_law 0 = .ok (.new 7, 3) := by decide +kernel
theorem dL_law_3 : decode cL_law 3 = .ok (.dup, 1) := by decide +kernel
theorem dL_law_4 : decode cL_law 4 = .ok (.invokespecial 9, 3) := by decide +kernel
theorem dL_law_7 : decode cL_law 7 = .ok (.astore_n 1, 1) := by decide +kernel
theorem dL_law_8 : decode cL_law 8 = .ok (.new 10, 3) := by decide +kernel
theorem dL_law_11 : decode cL_law 11 = .ok (.dup, 1) := by decide +kernel
theorem dL_law_12 : decode cL_law 12 = .ok (.invokespecial 12, 3) := by decide +kernel
theorem dL_law_15 : decode cL_law 15 = .ok (.astore_n 2, 1) := by decide +kernel
theorem dL_law_16 : decode cL_law 16 = .ok (.iconst 0, 1) := by decide +kernel
theorem dL_law_17 : decode cL_law 17 = .ok (.istore_n 3, 1) := by decide +kernel
theorem dL_law_18 : decode cL_law 18 = .ok (.iload_n 3, 1) := by decide +kernel
theorem dL_law_19 : decode cL_law 19 = .ok (.aload_n 0, 1) := by decide +kernel
theorem dL_law_20 : decode cL_law 20 = .ok (.arraylength, 1) := by decide +kernel
theorem dL_law_21 : decode cL_law 21 = .ok (.bipush 6, 2) := by decide +kernel
theorem dL_law_23 : decode cL_law 23 = .ok (.isub, 1) := by decide +kernel
theorem dL_law_24 : decode cL_law 24 = .ok (.if_icmp .gt 748, 3) := by decide +kernel
theorem dL_law_27 : decode cL_law 27 = .ok (.aload_n 0, 1) := by decide +kernel
theorem dL_law_28 : decode cL_law 28 = .ok (.iload_n 3, 1) := by decide +kernel
theorem dL_law_29 : decode cL_law 29 = .ok (.iaload, 1) := by decide +kernel
theorem dL_law_30 : decode cL_law 30 = .ok (.bipush 31, 2) := by decide +kernel
theorem dL_law_32 : decode cL_law 32 = .ok (.iand, 1) := by decide +kernel
theorem dL_law_33 : decode cL_law 33 = .ok (.tableswitch 733 0 23 #[111, 144, 207, 240, 263, 286, 299, 322, 355, 388, 411, 444, 477, 500, 523, 546, 559, 582, 635, 648, 661, 674, 687, 710], 111) := by decide +kernel
theorem dL_law_144 : decode cL_law 144 = .ok (.aload_n 1, 1) := by decide +kernel
theorem dL_law_145 : decode cL_law 145 = .ok (.aload_n 0, 1) := by decide +kernel
theorem dL_law_146 : decode cL_law 146 = .ok (.iload_n 3, 1) := by decide +kernel
theorem dL_law_147 : decode cL_law 147 = .ok (.iconst 1, 1) := by decide +kernel
theorem dL_law_148 : decode cL_law 148 = .ok (.iadd, 1) := by decide +kernel
theorem dL_law_149 : decode cL_law 149 = .ok (.iaload, 1) := by decide +kernel
theorem dL_law_150 : decode cL_law 150 = .ok (.aload_n 0, 1) := by decide +kernel
theorem dL_law_151 : decode cL_law 151 = .ok (.iload_n 3, 1) := by decide +kernel
theorem dL_law_152 : decode cL_law 152 = .ok (.iconst 2, 1) := by decide +kernel
theorem dL_law_153 : decode cL_law 153 = .ok (.iadd, 1) := by decide +kernel
theorem dL_law_154 : decode cL_law 154 = .ok (.iaload, 1) := by decide +kernel
theorem dL_law_155 : decode cL_law 155 = .ok (.invokevirtual 13, 3) := by decide +kernel
theorem dL_law_158 : decode cL_law 158 = .ok (.aload_n 2, 1) := by decide +kernel
theorem dL_law_159 : decode cL_law 159 = .ok (.aload_n 0, 1) := by decide +kernel
theorem dL_law_160 : decode cL_law 160 = .ok (.iload_n 3, 1) := by decide +kernel
theorem dL_law_161 : decode cL_law 161 = .ok (.iconst 1, 1) := by decide +kernel
theorem dL_law_162 : decode cL_law 162 = .ok (.iadd, 1) := by decide +kernel
theorem dL_law_163 : decode cL_law 163 = .ok (.iaload, 1) := by decide +kernel
theorem dL_law_164 : decode cL_law 164 = .ok (.aload_n 0, 1) := by decide +kernel
theorem dL_law_165 : decode cL_law 165 = .ok (.iload_n 3, 1) := by decide +kernel
theorem dL_law_166 : decode cL_law 166 = .ok (.iconst 2, 1) := by decide +kernel
theorem dL_law_167 : decode cL_law 167 = .ok (.iadd, 1) := by decide +kernel
theorem dL_law_168 : decode cL_law 168 = .ok (.iaload, 1) := by decide +kernel
theorem dL_law_169 : decode cL_law 169 = .ok (.invokevirtual 17, 3) := by decide +kernel
theorem dL_law_172 : decode cL_law 172 = .ok (.if_icmp .eq 594, 3) := by decide +kernel
theorem dL_law_175 : decode cL_law 175 = .ok (.iconst 0, 1) := by decide +kernel
theorem dL_law_176 : decode cL_law 176 = .ok (.ireturn, 1) := by decide +kernel
theorem dL_law_177 : decode cL_law 177 = .ok (.aload_n 1, 1) := by decide +kernel
theorem dL_law_178 : decode cL_law 178 = .ok (.aload_n 0, 1) := by decide +kernel
theorem dL_law_179 : decode cL_law 179 = .ok (.iload_n 3, 1) := by decide +kernel
theorem dL_law_180 : decode cL_law 180 = .ok (.iconst 1, 1) := by decide +kernel
theorem dL_law_181 : decode cL_law 181 = .ok (.iadd, 1) := by decide +kernel
theorem dL_law_182 : decode cL_law 182 = .ok (.iaload, 1) := by decide +kernel
theorem dL_law_183 : decode cL_law 183 = .ok (.aload_n 0, 1) := by decide +kernel
theorem dL_law_184 : decode cL_law 184 = .ok (.iload_n 3, 1) := by decide +kernel
theorem dL_law_185 : decode cL_law 185 = .ok (.iconst 2, 1) := by decide +kernel
theorem dL_law_186 : decode cL_law 186 = .ok (.iadd, 1) := by decide +kernel
theorem dL_law_187 : decode cL_law 187 = .ok (.iaload, 1) := by decide +kernel
theorem dL_law_188 : decode cL_law 188 = .ok (.aload_n 0, 1) := by decide +kernel
theorem dL_law_189 : decode cL_law 189 = .ok (.iload_n 3, 1) := by decide +kernel
theorem dL_law_190 : decode cL_law 190 = .ok (.iconst 3, 1) := by decide +kernel
theorem dL_law_191 : decode cL_law 191 = .ok (.iadd, 1) := by decide +kernel
theorem dL_law_192 : decode cL_law 192 = .ok (.iaload, 1) := by decide +kernel
theorem dL_law_193 : decode cL_law 193 = .ok (.aload_n 0, 1) := by decide +kernel
theorem dL_law_194 : decode cL_law 194 = .ok (.iload_n 3, 1) := by decide +kernel
theorem dL_law_195 : decode cL_law 195 = .ok (.iconst 4, 1) := by decide +kernel
theorem dL_law_196 : decode cL_law 196 = .ok (.iadd, 1) := by decide +kernel
theorem dL_law_197 : decode cL_law 197 = .ok (.iaload, 1) := by decide +kernel
theorem dL_law_198 : decode cL_law 198 = .ok (.aload_n 0, 1) := by decide +kernel
theorem dL_law_199 : decode cL_law 199 = .ok (.iload_n 3, 1) := by decide +kernel
theorem dL_law_200 : decode cL_law 200 = .ok (.iconst 5, 1) := by decide +kernel
theorem dL_law_201 : decode cL_law 201 = .ok (.iadd, 1) := by decide +kernel
theorem dL_law_202 : decode cL_law 202 = .ok (.iaload, 1) := by decide +kernel
theorem dL_law_203 : decode cL_law 203 = .ok (.invokevirtual 18, 3) := by decide +kernel
theorem dL_law_206 : decode cL_law 206 = .ok (.aload_n 2, 1) := by decide +kernel
theorem dL_law_207 : decode cL_law 207 = .ok (.aload_n 0, 1) := by decide +kernel
theorem dL_law_208 : decode cL_law 208 = .ok (.iload_n 3, 1) := by decide +kernel
theorem dL_law_209 : decode cL_law 209 = .ok (.iconst 1, 1) := by decide +kernel
theorem dL_law_210 : decode cL_law 210 = .ok (.iadd, 1) := by decide +kernel
theorem dL_law_211 : decode cL_law 211 = .ok (.iaload, 1) := by decide +kernel
theorem dL_law_212 : decode cL_law 212 = .ok (.aload_n 0, 1) := by decide +kernel
theorem dL_law_213 : decode cL_law 213 = .ok (.iload_n 3, 1) := by decide +kernel
theorem dL_law_214 : decode cL_law 214 = .ok (.iconst 2, 1) := by decide +kernel
theorem dL_law_215 : decode cL_law 215 = .ok (.iadd, 1) := by decide +kernel
theorem dL_law_216 : decode cL_law 216 = .ok (.iaload, 1) := by decide +kernel
theorem dL_law_217 : decode cL_law 217 = .ok (.aload_n 0, 1) := by decide +kernel
theorem dL_law_218 : decode cL_law 218 = .ok (.iload_n 3, 1) := by decide +kernel
theorem dL_law_219 : decode cL_law 219 = .ok (.iconst 3, 1) := by decide +kernel
theorem dL_law_220 : decode cL_law 220 = .ok (.iadd, 1) := by decide +kernel
theorem dL_law_221 : decode cL_law 221 = .ok (.iaload, 1) := by decide +kernel
theorem dL_law_222 : decode cL_law 222 = .ok (.aload_n 0, 1) := by decide +kernel
theorem dL_law_223 : decode cL_law 223 = .ok (.iload_n 3, 1) := by decide +kernel
theorem dL_law_224 : decode cL_law 224 = .ok (.iconst 4, 1) := by decide +kernel
theorem dL_law_225 : decode cL_law 225 = .ok (.iadd, 1) := by decide +kernel
theorem dL_law_226 : decode cL_law 226 = .ok (.iaload, 1) := by decide +kernel
theorem dL_law_227 : decode cL_law 227 = .ok (.aload_n 0, 1) := by decide +kernel
theorem dL_law_228 : decode cL_law 228 = .ok (.iload_n 3, 1) := by decide +kernel
theorem dL_law_229 : decode cL_law 229 = .ok (.iconst 5, 1) := by decide +kernel
theorem dL_law_230 : decode cL_law 230 = .ok (.iadd, 1) := by decide +kernel
theorem dL_law_231 : decode cL_law 231 = .ok (.iaload, 1) := by decide +kernel
theorem dL_law_232 : decode cL_law 232 = .ok (.invokevirtual 22, 3) := by decide +kernel
theorem dL_law_235 : decode cL_law 235 = .ok (.if_icmp .eq 531, 3) := by decide +kernel
theorem dL_law_238 : decode cL_law 238 = .ok (.iconst 0, 1) := by decide +kernel
theorem dL_law_239 : decode cL_law 239 = .ok (.ireturn, 1) := by decide +kernel
theorem dL_law_240 : decode cL_law 240 = .ok (.aload_n 1, 1) := by decide +kernel
theorem dL_law_241 : decode cL_law 241 = .ok (.aload_n 0, 1) := by decide +kernel
theorem dL_law_242 : decode cL_law 242 = .ok (.iload_n 3, 1) := by decide +kernel
theorem dL_law_243 : decode cL_law 243 = .ok (.iconst 1, 1) := by decide +kernel
theorem dL_law_244 : decode cL_law 244 = .ok (.iadd, 1) := by decide +kernel
theorem dL_law_245 : decode cL_law 245 = .ok (.iaload, 1) := by decide +kernel
theorem dL_law_246 : decode cL_law 246 = .ok (.aload_n 0, 1) := by decide +kernel
theorem dL_law_247 : decode cL_law 247 = .ok (.iload_n 3, 1) := by decide +kernel
theorem dL_law_248 : decode cL_law 248 = .ok (.iconst 2, 1) := by decide +kernel
theorem dL_law_249 : decode cL_law 249 = .ok (.iadd, 1) := by decide +kernel
theorem dL_law_250 : decode cL_law 250 = .ok (.iaload, 1) := by decide +kernel
theorem dL_law_251 : decode cL_law 251 = .ok (.invokevirtual 23, 3) := by decide +kernel
theorem dL_law_254 : decode cL_law 254 = .ok (.aload_n 2, 1) := by decide +kernel
theorem dL_law_255 : decode cL_law 255 = .ok (.aload_n 0, 1) := by decide +kernel
theorem dL_law_256 : decode cL_law 256 = .ok (.iload_n 3, 1) := by decide +kernel
theorem dL_law_257 : decode cL_law 257 = .ok (.iconst 1, 1) := by decide +kernel
theorem dL_law_258 : decode cL_law 258 = .ok (.iadd, 1) := by decide +kernel
theorem dL_law_259 : decode cL_law 259 = .ok (.iaload, 1) := by decide +kernel
theorem dL_law_260 : decode cL_law 260 = .ok (.aload_n 0, 1) := by decide +kernel
theorem dL_law_261 : decode cL_law 261 = .ok (.iload_n 3, 1) := by decide +kernel
theorem dL_law_262 : decode cL_law 262 = .ok (.iconst 2, 1) := by decide +kernel
theorem dL_law_263 : decode cL_law 263 = .ok (.iadd, 1) := by decide +kernel
theorem dL_law_264 : decode cL_law 264 = .ok (.iaload, 1) := by decide +kernel
theorem dL_law_265 : decode cL_law 265 = .ok (.invokevirtual 26, 3) := by decide +kernel
theorem dL_law_268 : decode cL_law 268 = .ok (.if_icmp .eq 498, 3) := by decide +kernel
theorem dL_law_271 : decode cL_law 271 = .ok (.iconst 0, 1) := by decide +kernel
theorem dL_law_272 : decode cL_law 272 = .ok (.ireturn, 1) := by decide +kernel
theorem dL_law_273 : decode cL_law 273 = .ok (.aload_n 1, 1) := by decide +kernel
theorem dL_law_274 : decode cL_law 274 = .ok (.aload_n 0, 1) := by decide +kernel
theorem dL_law_275 : decode cL_law 275 = .ok (.iload_n 3, 1) := by decide +kernel
theorem dL_law_276 : decode cL_law 276 = .ok (.iconst 1, 1) := by decide +kernel
theorem dL_law_277 : decode cL_law 277 = .ok (.iadd, 1) := by decide +kernel
theorem dL_law_278 : decode cL_law 278 = .ok (.iaload, 1) := by decide +kernel
theorem dL_law_279 : decode cL_law 279 = .ok (.invokevirtual 27, 3) := by decide +kernel
theorem dL_law_282 : decode cL_law 282 = .ok (.aload_n 2, 1) := by decide +kernel
theorem dL_law_283 : decode cL_law 283 = .ok (.aload_n 0, 1) := by decide +kernel
theorem dL_law_284 : decode cL_law 284 = .ok (.iload_n 3, 1) := by decide +kernel
theorem dL_law_285 : decode cL_law 285 = .ok (.iconst 1, 1) := by decide +kernel
theorem dL_law_286 : decode cL_law 286 = .ok (.iadd, 1) := by decide +kernel
theorem dL_law_287 : decode cL_law 287 = .ok (.iaload, 1) := by decide +kernel
theorem dL_law_288 : decode cL_law 288 = .ok (.invokevirtual 31, 3) := by decide +kernel
theorem dL_law_291 : decode cL_law 291 = .ok (.if_icmp .eq 475, 3) := by decide +kernel
theorem dL_law_294 : decode cL_law 294 = .ok (.iconst 0, 1) := by decide +kernel
theorem dL_law_295 : decode cL_law 295 = .ok (.ireturn, 1) := by decide +kernel
theorem dL_law_296 : decode cL_law 296 = .ok (.aload_n 1, 1) := by decide +kernel
theorem dL_law_297 : decode cL_law 297 = .ok (.aload_n 0, 1) := by decide +kernel
theorem dL_law_298 : decode cL_law 298 = .ok (.iload_n 3, 1) := by decide +kernel
theorem dL_law_299 : decode cL_law 299 = .ok (.iconst 1, 1) := by decide +kernel
theorem dL_law_300 : decode cL_law 300 = .ok (.iadd, 1) := by decide +kernel
theorem dL_law_301 : decode cL_law 301 = .ok (.iaload, 1) := by decide +kernel
theorem dL_law_302 : decode cL_law 302 = .ok (.invokevirtual 32, 3) := by decide +kernel
theorem dL_law_305 : decode cL_law 305 = .ok (.aload_n 2, 1) := by decide +kernel
theorem dL_law_306 : decode cL_law 306 = .ok (.aload_n 0, 1) := by decide +kernel
theorem dL_law_307 : decode cL_law 307 = .ok (.iload_n 3, 1) := by decide +kernel
theorem dL_law_308 : decode cL_law 308 = .ok (.iconst 1, 1) := by decide +kernel
theorem dL_law_309 : decode cL_law 309 = .ok (.iadd, 1) := by decide +kernel
theorem dL_law_310 : decode cL_law 310 = .ok (.iaload, 1) := by decide +kernel
theorem dL_law_311 : decode cL_law 311 = .ok (.invokevirtual 35, 3) := by decide +kernel
theorem dL_law_314 : decode cL_law 314 = .ok (.if_icmp .eq 452, 3) := by decide +kernel
theorem dL_law_317 : decode cL_law 317 = .ok (.iconst 0, 1) := by decide +kernel
theorem dL_law_318 : decode cL_law 318 = .ok (.ireturn, 1) := by decide +kernel
theorem dL_law_319 : decode cL_law 319 = .ok (.aload_n 1, 1) := by decide +kernel
theorem dL_law_320 : decode cL_law 320 = .ok (.invokevirtual 36, 3) := by decide +kernel
theorem dL_law_323 : decode cL_law 323 = .ok (.aload_n 2, 1) := by decide +kernel
theorem dL_law_324 : decode cL_law 324 = .ok (.invokevirtual 40, 3) := by decide +kernel
theorem dL_law_327 : decode cL_law 327 = .ok (.if_icmp .eq 439, 3) := by decide +kernel
theorem dL_law_330 : decode cL_law 330 = .ok (.iconst 0, 1) := by decide +kernel
theorem dL_law_331 : decode cL_law 331 = .ok (.ireturn, 1) := by decide +kernel
theorem dL_law_332 : decode cL_law 332 = .ok (.aload_n 1, 1) := by decide +kernel
theorem dL_law_333 : decode cL_law 333 = .ok (.aload_n 0, 1) := by decide +kernel
theorem dL_law_334 : decode cL_law 334 = .ok (.iload_n 3, 1) := by decide +kernel
theorem dL_law_335 : decode cL_law 335 = .ok (.iconst 1, 1) := by decide +kernel
theorem dL_law_336 : decode cL_law 336 = .ok (.iadd, 1) := by decide +kernel
theorem dL_law_337 : decode cL_law 337 = .ok (.iaload, 1) := by decide +kernel
theorem dL_law_338 : decode cL_law 338 = .ok (.invokevirtual 41, 3) := by decide +kernel
theorem dL_law_341 : decode cL_law 341 = .ok (.aload_n 2, 1) := by decide +kernel
theorem dL_law_342 : decode cL_law 342 = .ok (.aload_n 0, 1) := by decide +kernel
theorem dL_law_343 : decode cL_law 343 = .ok (.iload_n 3, 1) := by decide +kernel
theorem dL_law_344 : decode cL_law 344 = .ok (.iconst 1, 1) := by decide +kernel
theorem dL_law_345 : decode cL_law 345 = .ok (.iadd, 1) := by decide +kernel
theorem dL_law_346 : decode cL_law 346 = .ok (.iaload, 1) := by decide +kernel
theorem dL_law_347 : decode cL_law 347 = .ok (.invokevirtual 44, 3) := by decide +kernel
theorem dL_law_350 : decode cL_law 350 = .ok (.if_icmp .eq 416, 3) := by decide +kernel
theorem dL_law_353 : decode cL_law 353 = .ok (.iconst 0, 1) := by decide +kernel
theorem dL_law_354 : decode cL_law 354 = .ok (.ireturn, 1) := by decide +kernel
theorem dL_law_355 : decode cL_law 355 = .ok (.aload_n 1, 1) := by decide +kernel
theorem dL_law_356 : decode cL_law 356 = .ok (.aload_n 0, 1) := by decide +kernel
theorem dL_law_357 : decode cL_law 357 = .ok (.iload_n 3, 1) := by decide +kernel
theorem dL_law_358 : decode cL_law 358 = .ok (.iconst 1, 1) := by decide +kernel
theorem dL_law_359 : decode cL_law 359 = .ok (.iadd, 1) := by decide +kernel
theorem dL_law_360 : decode cL_law 360 = .ok (.iaload, 1) := by decide +kernel
theorem dL_law_361 : decode cL_law 361 = .ok (.aload_n 0, 1) := by decide +kernel
theorem dL_law_362 : decode cL_law 362 = .ok (.iload_n 3, 1) := by decide +kernel
theorem dL_law_363 : decode cL_law 363 = .ok (.iconst 2, 1) := by decide +kernel
theorem dL_law_364 : decode cL_law 364 = .ok (.iadd, 1) := by decide +kernel
theorem dL_law_365 : decode cL_law 365 = .ok (.iaload, 1) := by decide +kernel
theorem dL_law_366 : decode cL_law 366 = .ok (.invokevirtual 45, 3) := by decide +kernel
theorem dL_law_369 : decode cL_law 369 = .ok (.aload_n 2, 1) := by decide +kernel
theorem dL_law_370 : decode cL_law 370 = .ok (.aload_n 0, 1) := by decide +kernel
theorem dL_law_371 : decode cL_law 371 = .ok (.iload_n 3, 1) := by decide +kernel
theorem dL_law_372 : decode cL_law 372 = .ok (.iconst 1, 1) := by decide +kernel
theorem dL_law_373 : decode cL_law 373 = .ok (.iadd, 1) := by decide +kernel
theorem dL_law_374 : decode cL_law 374 = .ok (.iaload, 1) := by decide +kernel
theorem dL_law_375 : decode cL_law 375 = .ok (.aload_n 0, 1) := by decide +kernel
theorem dL_law_376 : decode cL_law 376 = .ok (.iload_n 3, 1) := by decide +kernel
theorem dL_law_377 : decode cL_law 377 = .ok (.iconst 2, 1) := by decide +kernel
theorem dL_law_378 : decode cL_law 378 = .ok (.iadd, 1) := by decide +kernel
theorem dL_law_379 : decode cL_law 379 = .ok (.iaload, 1) := by decide +kernel
theorem dL_law_380 : decode cL_law 380 = .ok (.invokevirtual 48, 3) := by decide +kernel
theorem dL_law_383 : decode cL_law 383 = .ok (.if_icmp .eq 383, 3) := by decide +kernel
theorem dL_law_386 : decode cL_law 386 = .ok (.iconst 0, 1) := by decide +kernel
theorem dL_law_387 : decode cL_law 387 = .ok (.ireturn, 1) := by decide +kernel
theorem dL_law_388 : decode cL_law 388 = .ok (.aload_n 1, 1) := by decide +kernel
theorem dL_law_389 : decode cL_law 389 = .ok (.aload_n 0, 1) := by decide +kernel
theorem dL_law_390 : decode cL_law 390 = .ok (.iload_n 3, 1) := by decide +kernel
theorem dL_law_391 : decode cL_law 391 = .ok (.iconst 1, 1) := by decide +kernel
theorem dL_law_392 : decode cL_law 392 = .ok (.iadd, 1) := by decide +kernel
theorem dL_law_393 : decode cL_law 393 = .ok (.iaload, 1) := by decide +kernel
theorem dL_law_394 : decode cL_law 394 = .ok (.aload_n 0, 1) := by decide +kernel
theorem dL_law_395 : decode cL_law 395 = .ok (.iload_n 3, 1) := by decide +kernel
theorem dL_law_396 : decode cL_law 396 = .ok (.iconst 2, 1) := by decide +kernel
theorem dL_law_397 : decode cL_law 397 = .ok (.iadd, 1) := by decide +kernel
theorem dL_law_398 : decode cL_law 398 = .ok (.iaload, 1) := by decide +kernel
theorem dL_law_399 : decode cL_law 399 = .ok (.invokevirtual 49, 3) := by decide +kernel
theorem dL_law_402 : decode cL_law 402 = .ok (.aload_n 2, 1) := by decide +kernel
theorem dL_law_403 : decode cL_law 403 = .ok (.aload_n 0, 1) := by decide +kernel
theorem dL_law_404 : decode cL_law 404 = .ok (.iload_n 3, 1) := by decide +kernel
theorem dL_law_405 : decode cL_law 405 = .ok (.iconst 1, 1) := by decide +kernel
theorem dL_law_406 : decode cL_law 406 = .ok (.iadd, 1) := by decide +kernel
theorem dL_law_407 : decode cL_law 407 = .ok (.iaload, 1) := by decide +kernel
theorem dL_law_408 : decode cL_law 408 = .ok (.aload_n 0, 1) := by decide +kernel
theorem dL_law_409 : decode cL_law 409 = .ok (.iload_n 3, 1) := by decide +kernel
theorem dL_law_410 : decode cL_law 410 = .ok (.iconst 2, 1) := by decide +kernel
theorem dL_law_411 : decode cL_law 411 = .ok (.iadd, 1) := by decide +kernel
theorem dL_law_412 : decode cL_law 412 = .ok (.iaload, 1) := by decide +kernel
theorem dL_law_413 : decode cL_law 413 = .ok (.invokevirtual 52, 3) := by decide +kernel
theorem dL_law_416 : decode cL_law 416 = .ok (.if_icmp .eq 350, 3) := by decide +kernel
theorem dL_law_419 : decode cL_law 419 = .ok (.iconst 0, 1) := by decide +kernel
theorem dL_law_420 : decode cL_law 420 = .ok (.ireturn, 1) := by decide +kernel
theorem dL_law_421 : decode cL_law 421 = .ok (.aload_n 1, 1) := by decide +kernel
theorem dL_law_422 : decode cL_law 422 = .ok (.aload_n 0, 1) := by decide +kernel
theorem dL_law_423 : decode cL_law 423 = .ok (.iload_n 3, 1) := by decide +kernel
theorem dL_law_424 : decode cL_law 424 = .ok (.iconst 1, 1) := by decide +kernel
theorem dL_law_425 : decode cL_law 425 = .ok (.iadd, 1) := by decide +kernel
theorem dL_law_426 : decode cL_law 426 = .ok (.iaload, 1) := by decide +kernel
theorem dL_law_427 : decode cL_law 427 = .ok (.invokevirtual 53, 3) := by decide +kernel
theorem dL_law_430 : decode cL_law 430 = .ok (.aload_n 2, 1) := by decide +kernel
theorem dL_law_431 : decode cL_law 431 = .ok (.aload_n 0, 1) := by decide +kernel
theorem dL_law_432 : decode cL_law 432 = .ok (.iload_n 3, 1) := by decide +kernel
theorem dL_law_433 : decode cL_law 433 = .ok (.iconst 1, 1) := by decide +kernel
theorem dL_law_434 : decode cL_law 434 = .ok (.iadd, 1) := by decide +kernel
theorem dL_law_435 : decode cL_law 435 = .ok (.iaload, 1) := by decide +kernel
theorem dL_law_436 : decode cL_law 436 = .ok (.invokevirtual 56, 3) := by decide +kernel
theorem dL_law_439 : decode cL_law 439 = .ok (.if_icmp .eq 327, 3) := by decide +kernel
theorem dL_law_442 : decode cL_law 442 = .ok (.iconst 0, 1) := by decide +kernel
theorem dL_law_443 : decode cL_law 443 = .ok (.ireturn, 1) := by decide +kernel
theorem dL_law_444 : decode cL_law 444 = .ok (.aload_n 1, 1) := by decide +kernel
theorem dL_law_445 : decode cL_law 445 = .ok (.aload_n 0, 1) := by decide +kernel
theorem dL_law_446 : decode cL_law 446 = .ok (.iload_n 3, 1) := by decide +kernel
theorem dL_law_447 : decode cL_law 447 = .ok (.iconst 1, 1) := by decide +kernel
theorem dL_law_448 : decode cL_law 448 = .ok (.iadd, 1) := by decide +kernel
theorem dL_law_449 : decode cL_law 449 = .ok (.iaload, 1) := by decide +kernel
theorem dL_law_450 : decode cL_law 450 = .ok (.aload_n 0, 1) := by decide +kernel
theorem dL_law_451 : decode cL_law 451 = .ok (.iload_n 3, 1) := by decide +kernel
theorem dL_law_452 : decode cL_law 452 = .ok (.iconst 2, 1) := by decide +kernel
theorem dL_law_453 : decode cL_law 453 = .ok (.iadd, 1) := by decide +kernel
theorem dL_law_454 : decode cL_law 454 = .ok (.iaload, 1) := by decide +kernel
theorem dL_law_455 : decode cL_law 455 = .ok (.invokevirtual 57, 3) := by decide +kernel
theorem dL_law_458 : decode cL_law 458 = .ok (.aload_n 2, 1) := by decide +kernel
theorem dL_law_459 : decode cL_law 459 = .ok (.aload_n 0, 1) := by decide +kernel
theorem dL_law_460 : decode cL_law 460 = .ok (.iload_n 3, 1) := by decide +kernel
theorem dL_law_461 : decode cL_law 461 = .ok (.iconst 1, 1) := by decide +kernel
theorem dL_law_462 : decode cL_law 462 = .ok (.iadd, 1) := by decide +kernel
theorem dL_law_463 : decode cL_law 463 = .ok (.iaload, 1) := by decide +kernel
theorem dL_law_464 : decode cL_law 464 = .ok (.aload_n 0, 1) := by decide +kernel
theorem dL_law_465 : decode cL_law 465 = .ok (.iload_n 3, 1) := by decide +kernel
theorem dL_law_466 : decode cL_law 466 = .ok (.iconst 2, 1) := by decide +kernel
theorem dL_law_467 : decode cL_law 467 = .ok (.iadd, 1) := by decide +kernel
theorem dL_law_468 : decode cL_law 468 = .ok (.iaload, 1) := by decide +kernel
theorem dL_law_469 : decode cL_law 469 = .ok (.invokevirtual 60, 3) := by decide +kernel
theorem dL_law_472 : decode cL_law 472 = .ok (.if_icmp .eq 294, 3) := by decide +kernel
theorem dL_law_475 : decode cL_law 475 = .ok (.iconst 0, 1) := by decide +kernel
theorem dL_law_476 : decode cL_law 476 = .ok (.ireturn, 1) := by decide +kernel
theorem dL_law_477 : decode cL_law 477 = .ok (.aload_n 1, 1) := by decide +kernel
theorem dL_law_478 : decode cL_law 478 = .ok (.aload_n 0, 1) := by decide +kernel
theorem dL_law_479 : decode cL_law 479 = .ok (.iload_n 3, 1) := by decide +kernel
theorem dL_law_480 : decode cL_law 480 = .ok (.iconst 1, 1) := by decide +kernel
theorem dL_law_481 : decode cL_law 481 = .ok (.iadd, 1) := by decide +kernel
theorem dL_law_482 : decode cL_law 482 = .ok (.iaload, 1) := by decide +kernel
theorem dL_law_483 : decode cL_law 483 = .ok (.aload_n 0, 1) := by decide +kernel
theorem dL_law_484 : decode cL_law 484 = .ok (.iload_n 3, 1) := by decide +kernel
theorem dL_law_485 : decode cL_law 485 = .ok (.iconst 2, 1) := by decide +kernel
theorem dL_law_486 : decode cL_law 486 = .ok (.iadd, 1) := by decide +kernel
theorem dL_law_487 : decode cL_law 487 = .ok (.iaload, 1) := by decide +kernel
theorem dL_law_488 : decode cL_law 488 = .ok (.invokevirtual 61, 3) := by decide +kernel
theorem dL_law_491 : decode cL_law 491 = .ok (.aload_n 2, 1) := by decide +kernel
theorem dL_law_492 : decode cL_law 492 = .ok (.aload_n 0, 1) := by decide +kernel
theorem dL_law_493 : decode cL_law 493 = .ok (.iload_n 3, 1) := by decide +kernel
theorem dL_law_494 : decode cL_law 494 = .ok (.iconst 1, 1) := by decide +kernel
theorem dL_law_495 : decode cL_law 495 = .ok (.iadd, 1) := by decide +kernel
theorem dL_law_496 : decode cL_law 496 = .ok (.iaload, 1) := by decide +kernel
theorem dL_law_497 : decode cL_law 497 = .ok (.aload_n 0, 1) := by decide +kernel
theorem dL_law_498 : decode cL_law 498 = .ok (.iload_n 3, 1) := by decide +kernel
theorem dL_law_499 : decode cL_law 499 = .ok (.iconst 2, 1) := by decide +kernel
theorem dL_law_500 : decode cL_law 500 = .ok (.iadd, 1) := by decide +kernel
theorem dL_law_501 : decode cL_law 501 = .ok (.iaload, 1) := by decide +kernel
theorem dL_law_502 : decode cL_law 502 = .ok (.invokevirtual 64, 3) := by decide +kernel
theorem dL_law_505 : decode cL_law 505 = .ok (.if_icmp .eq 261, 3) := by decide +kernel
theorem dL_law_508 : decode cL_law 508 = .ok (.iconst 0, 1) := by decide +kernel
theorem dL_law_509 : decode cL_law 509 = .ok (.ireturn, 1) := by decide +kernel
theorem dL_law_510 : decode cL_law 510 = .ok (.aload_n 1, 1) := by decide +kernel
theorem dL_law_511 : decode cL_law 511 = .ok (.aload_n 0, 1) := by decide +kernel
theorem dL_law_512 : decode cL_law 512 = .ok (.iload_n 3, 1) := by decide +kernel
theorem dL_law_513 : decode cL_law 513 = .ok (.iconst 1, 1) := by decide +kernel
theorem dL_law_514 : decode cL_law 514 = .ok (.iadd, 1) := by decide +kernel
theorem dL_law_515 : decode cL_law 515 = .ok (.iaload, 1) := by decide +kernel
theorem dL_law_516 : decode cL_law 516 = .ok (.invokevirtual 65, 3) := by decide +kernel
theorem dL_law_519 : decode cL_law 519 = .ok (.aload_n 2, 1) := by decide +kernel
theorem dL_law_520 : decode cL_law 520 = .ok (.aload_n 0, 1) := by decide +kernel
theorem dL_law_521 : decode cL_law 521 = .ok (.iload_n 3, 1) := by decide +kernel
theorem dL_law_522 : decode cL_law 522 = .ok (.iconst 1, 1) := by decide +kernel
theorem dL_law_523 : decode cL_law 523 = .ok (.iadd, 1) := by decide +kernel
theorem dL_law_524 : decode cL_law 524 = .ok (.iaload, 1) := by decide +kernel
theorem dL_law_525 : decode cL_law 525 = .ok (.invokevirtual 68, 3) := by decide +kernel
theorem dL_law_528 : decode cL_law 528 = .ok (.if_icmp .eq 238, 3) := by decide +kernel
theorem dL_law_531 : decode cL_law 531 = .ok (.iconst 0, 1) := by decide +kernel
theorem dL_law_532 : decode cL_law 532 = .ok (.ireturn, 1) := by decide +kernel
theorem dL_law_533 : decode cL_law 533 = .ok (.aload_n 1, 1) := by decide +kernel
theorem dL_law_534 : decode cL_law 534 = .ok (.aload_n 0, 1) := by decide +kernel
theorem dL_law_535 : decode cL_law 535 = .ok (.iload_n 3, 1) := by decide +kernel
theorem dL_law_536 : decode cL_law 536 = .ok (.iconst 1, 1) := by decide +kernel
theorem dL_law_537 : decode cL_law 537 = .ok (.iadd, 1) := by decide +kernel
theorem dL_law_538 : decode cL_law 538 = .ok (.iaload, 1) := by decide +kernel
theorem dL_law_539 : decode cL_law 539 = .ok (.invokevirtual 69, 3) := by decide +kernel
theorem dL_law_542 : decode cL_law 542 = .ok (.aload_n 2, 1) := by decide +kernel
theorem dL_law_543 : decode cL_law 543 = .ok (.aload_n 0, 1) := by decide +kernel
theorem dL_law_544 : decode cL_law 544 = .ok (.iload_n 3, 1) := by decide +kernel
theorem dL_law_545 : decode cL_law 545 = .ok (.iconst 1, 1) := by decide +kernel
theorem dL_law_546 : decode cL_law 546 = .ok (.iadd, 1) := by decide +kernel
theorem dL_law_547 : decode cL_law 547 = .ok (.iaload, 1) := by decide +kernel
theorem dL_law_548 : decode cL_law 548 = .ok (.invokevirtual 72, 3) := by decide +kernel
theorem dL_law_551 : decode cL_law 551 = .ok (.if_icmp .eq 215, 3) := by decide +kernel
theorem dL_law_554 : decode cL_law 554 = .ok (.iconst 0, 1) := by decide +kernel
theorem dL_law_555 : decode cL_law 555 = .ok (.ireturn, 1) := by decide +kernel
theorem dL_law_556 : decode cL_law 556 = .ok (.aload_n 1, 1) := by decide +kernel
theorem dL_law_557 : decode cL_law 557 = .ok (.aload_n 0, 1) := by decide +kernel
theorem dL_law_558 : decode cL_law 558 = .ok (.iload_n 3, 1) := by decide +kernel
theorem dL_law_559 : decode cL_law 559 = .ok (.iconst 1, 1) := by decide +kernel
theorem dL_law_560 : decode cL_law 560 = .ok (.iadd, 1) := by decide +kernel
theorem dL_law_561 : decode cL_law 561 = .ok (.iaload, 1) := by decide +kernel
theorem dL_law_562 : decode cL_law 562 = .ok (.invokevirtual 73, 3) := by decide +kernel
theorem dL_law_565 : decode cL_law 565 = .ok (.aload_n 2, 1) := by decide +kernel
theorem dL_law_566 : decode cL_law 566 = .ok (.aload_n 0, 1) := by decide +kernel
theorem dL_law_567 : decode cL_law 567 = .ok (.iload_n 3, 1) := by decide +kernel
theorem dL_law_568 : decode cL_law 568 = .ok (.iconst 1, 1) := by decide +kernel
theorem dL_law_569 : decode cL_law 569 = .ok (.iadd, 1) := by decide +kernel
theorem dL_law_570 : decode cL_law 570 = .ok (.iaload, 1) := by decide +kernel
theorem dL_law_571 : decode cL_law 571 = .ok (.invokevirtual 76, 3) := by decide +kernel
theorem dL_law_574 : decode cL_law 574 = .ok (.if_icmp .eq 192, 3) := by decide +kernel
theorem dL_law_577 : decode cL_law 577 = .ok (.iconst 0, 1) := by decide +kernel
theorem dL_law_578 : decode cL_law 578 = .ok (.ireturn, 1) := by decide +kernel
theorem dL_law_579 : decode cL_law 579 = .ok (.aload_n 1, 1) := by decide +kernel
theorem dL_law_580 : decode cL_law 580 = .ok (.invokevirtual 77, 3) := by decide +kernel
theorem dL_law_583 : decode cL_law 583 = .ok (.aload_n 2, 1) := by decide +kernel
theorem dL_law_584 : decode cL_law 584 = .ok (.invokevirtual 80, 3) := by decide +kernel
theorem dL_law_587 : decode cL_law 587 = .ok (.if_icmp .eq 179, 3) := by decide +kernel
theorem dL_law_590 : decode cL_law 590 = .ok (.iconst 0, 1) := by decide +kernel
theorem dL_law_591 : decode cL_law 591 = .ok (.ireturn, 1) := by decide +kernel
theorem dL_law_592 : decode cL_law 592 = .ok (.aload_n 1, 1) := by decide +kernel
theorem dL_law_593 : decode cL_law 593 = .ok (.aload_n 0, 1) := by decide +kernel
theorem dL_law_594 : decode cL_law 594 = .ok (.iload_n 3, 1) := by decide +kernel
theorem dL_law_595 : decode cL_law 595 = .ok (.iconst 1, 1) := by decide +kernel
theorem dL_law_596 : decode cL_law 596 = .ok (.iadd, 1) := by decide +kernel
theorem dL_law_597 : decode cL_law 597 = .ok (.iaload, 1) := by decide +kernel
theorem dL_law_598 : decode cL_law 598 = .ok (.invokevirtual 81, 3) := by decide +kernel
theorem dL_law_601 : decode cL_law 601 = .ok (.aload_n 2, 1) := by decide +kernel
theorem dL_law_602 : decode cL_law 602 = .ok (.aload_n 0, 1) := by decide +kernel
theorem dL_law_603 : decode cL_law 603 = .ok (.iload_n 3, 1) := by decide +kernel
theorem dL_law_604 : decode cL_law 604 = .ok (.iconst 1, 1) := by decide +kernel
theorem dL_law_605 : decode cL_law 605 = .ok (.iadd, 1) := by decide +kernel
theorem dL_law_606 : decode cL_law 606 = .ok (.iaload, 1) := by decide +kernel
theorem dL_law_607 : decode cL_law 607 = .ok (.invokevirtual 84, 3) := by decide +kernel
theorem dL_law_610 : decode cL_law 610 = .ok (.if_icmp .eq 156, 3) := by decide +kernel
theorem dL_law_613 : decode cL_law 613 = .ok (.iconst 0, 1) := by decide +kernel
theorem dL_law_614 : decode cL_law 614 = .ok (.ireturn, 1) := by decide +kernel
theorem dL_law_615 : decode cL_law 615 = .ok (.aload_n 1, 1) := by decide +kernel
theorem dL_law_616 : decode cL_law 616 = .ok (.aload_n 0, 1) := by decide +kernel
theorem dL_law_617 : decode cL_law 617 = .ok (.iload_n 3, 1) := by decide +kernel
theorem dL_law_618 : decode cL_law 618 = .ok (.iconst 1, 1) := by decide +kernel
theorem dL_law_619 : decode cL_law 619 = .ok (.iadd, 1) := by decide +kernel
theorem dL_law_620 : decode cL_law 620 = .ok (.iaload, 1) := by decide +kernel
theorem dL_law_621 : decode cL_law 621 = .ok (.i2l, 1) := by decide +kernel
theorem dL_law_622 : decode cL_law 622 = .ok (.bipush 32, 2) := by decide +kernel
theorem dL_law_624 : decode cL_law 624 = .ok (.lshl, 1) := by decide +kernel
theorem dL_law_625 : decode cL_law 625 = .ok (.aload_n 0, 1) := by decide +kernel
theorem dL_law_626 : decode cL_law 626 = .ok (.iload_n 3, 1) := by decide +kernel
theorem dL_law_627 : decode cL_law 627 = .ok (.iconst 2, 1) := by decide +kernel
theorem dL_law_628 : decode cL_law 628 = .ok (.iadd, 1) := by decide +kernel
theorem dL_law_629 : decode cL_law 629 = .ok (.iaload, 1) := by decide +kernel
theorem dL_law_630 : decode cL_law 630 = .ok (.i2l, 1) := by decide +kernel
theorem dL_law_631 : decode cL_law 631 = .ok (.ldc2_w 85, 3) := by decide +kernel
theorem dL_law_634 : decode cL_law 634 = .ok (.land, 1) := by decide +kernel
theorem dL_law_635 : decode cL_law 635 = .ok (.lor, 1) := by decide +kernel
theorem dL_law_636 : decode cL_law 636 = .ok (.invokevirtual 87, 3) := by decide +kernel
theorem dL_law_639 : decode cL_law 639 = .ok (.aload_n 2, 1) := by decide +kernel
theorem dL_law_640 : decode cL_law 640 = .ok (.aload_n 0, 1) := by decide +kernel
theorem dL_law_641 : decode cL_law 641 = .ok (.iload_n 3, 1) := by decide +kernel
theorem dL_law_642 : decode cL_law 642 = .ok (.iconst 1, 1) := by decide +kernel
theorem dL_law_643 : decode cL_law 643 = .ok (.iadd, 1) := by decide +kernel
theorem dL_law_644 : decode cL_law 644 = .ok (.iaload, 1) := by decide +kernel
theorem dL_law_645 : decode cL_law 645 = .ok (.i2l, 1) := by decide +kernel
theorem dL_law_646 : decode cL_law 646 = .ok (.bipush 32, 2) := by decide +kernel
theorem dL_law_648 : decode cL_law 648 = .ok (.lshl, 1) := by decide +kernel
theorem dL_law_649 : decode cL_law 649 = .ok (.aload_n 0, 1) := by decide +kernel
theorem dL_law_650 : decode cL_law 650 = .ok (.iload_n 3, 1) := by decide +kernel
theorem dL_law_651 : decode cL_law 651 = .ok (.iconst 2, 1) := by decide +kernel
theorem dL_law_652 : decode cL_law 652 = .ok (.iadd, 1) := by decide +kernel
theorem dL_law_653 : decode cL_law 653 = .ok (.iaload, 1) := by decide +kernel
theorem dL_law_654 : decode cL_law 654 = .ok (.i2l, 1) := by decide +kernel
theorem dL_law_655 : decode cL_law 655 = .ok (.ldc2_w 85, 3) := by decide +kernel
theorem dL_law_658 : decode cL_law 658 = .ok (.land, 1) := by decide +kernel
theorem dL_law_659 : decode cL_law 659 = .ok (.lor, 1) := by decide +kernel
theorem dL_law_660 : decode cL_law 660 = .ok (.invokevirtual 91, 3) := by decide +kernel
theorem dL_law_663 : decode cL_law 663 = .ok (.if_icmp .eq 103, 3) := by decide +kernel
theorem dL_law_666 : decode cL_law 666 = .ok (.iconst 0, 1) := by decide +kernel
theorem dL_law_667 : decode cL_law 667 = .ok (.ireturn, 1) := by decide +kernel
theorem dL_law_668 : decode cL_law 668 = .ok (.aload_n 1, 1) := by decide +kernel
theorem dL_law_669 : decode cL_law 669 = .ok (.invokevirtual 92, 3) := by decide +kernel
theorem dL_law_672 : decode cL_law 672 = .ok (.aload_n 2, 1) := by decide +kernel
theorem dL_law_673 : decode cL_law 673 = .ok (.invokevirtual 95, 3) := by decide +kernel
theorem dL_law_676 : decode cL_law 676 = .ok (.if_icmp .eq 90, 3) := by decide +kernel
theorem dL_law_679 : decode cL_law 679 = .ok (.iconst 0, 1) := by decide +kernel
theorem dL_law_680 : decode cL_law 680 = .ok (.ireturn, 1) := by decide +kernel
theorem dL_law_681 : decode cL_law 681 = .ok (.aload_n 1, 1) := by decide +kernel
theorem dL_law_682 : decode cL_law 682 = .ok (.invokevirtual 96, 3) := by decide +kernel
theorem dL_law_685 : decode cL_law 685 = .ok (.aload_n 2, 1) := by decide +kernel
theorem dL_law_686 : decode cL_law 686 = .ok (.invokevirtual 99, 3) := by decide +kernel
theorem dL_law_689 : decode cL_law 689 = .ok (.if_icmp .eq 77, 3) := by decide +kernel
theorem dL_law_692 : decode cL_law 692 = .ok (.iconst 0, 1) := by decide +kernel
theorem dL_law_693 : decode cL_law 693 = .ok (.ireturn, 1) := by decide +kernel
theorem dL_law_694 : decode cL_law 694 = .ok (.aload_n 1, 1) := by decide +kernel
theorem dL_law_695 : decode cL_law 695 = .ok (.invokevirtual 100, 3) := by decide +kernel
theorem dL_law_698 : decode cL_law 698 = .ok (.aload_n 2, 1) := by decide +kernel
theorem dL_law_699 : decode cL_law 699 = .ok (.invokevirtual 103, 3) := by decide +kernel
theorem dL_law_702 : decode cL_law 702 = .ok (.if_icmp .eq 64, 3) := by decide +kernel
theorem dL_law_705 : decode cL_law 705 = .ok (.iconst 0, 1) := by decide +kernel
theorem dL_law_706 : decode cL_law 706 = .ok (.ireturn, 1) := by decide +kernel
theorem dL_law_707 : decode cL_law 707 = .ok (.aload_n 1, 1) := by decide +kernel
theorem dL_law_708 : decode cL_law 708 = .ok (.invokevirtual 104, 3) := by decide +kernel
theorem dL_law_711 : decode cL_law 711 = .ok (.aload_n 2, 1) := by decide +kernel
theorem dL_law_712 : decode cL_law 712 = .ok (.invokevirtual 107, 3) := by decide +kernel
theorem dL_law_715 : decode cL_law 715 = .ok (.if_icmp .eq 51, 3) := by decide +kernel
theorem dL_law_718 : decode cL_law 718 = .ok (.iconst 0, 1) := by decide +kernel
theorem dL_law_719 : decode cL_law 719 = .ok (.ireturn, 1) := by decide +kernel
theorem dL_law_720 : decode cL_law 720 = .ok (.aload_n 1, 1) := by decide +kernel
theorem dL_law_721 : decode cL_law 721 = .ok (.aload_n 0, 1) := by decide +kernel
theorem dL_law_722 : decode cL_law 722 = .ok (.iload_n 3, 1) := by decide +kernel
theorem dL_law_723 : decode cL_law 723 = .ok (.iconst 1, 1) := by decide +kernel
theorem dL_law_724 : decode cL_law 724 = .ok (.iadd, 1) := by decide +kernel
theorem dL_law_725 : decode cL_law 725 = .ok (.iaload, 1) := by decide +kernel
theorem dL_law_726 : decode cL_law 726 = .ok (.invokevirtual 108, 3) := by decide +kernel
theorem dL_law_729 : decode cL_law 729 = .ok (.aload_n 2, 1) := by decide +kernel
theorem dL_law_730 : decode cL_law 730 = .ok (.aload_n 0, 1) := by decide +kernel
theorem dL_law_731 : decode cL_law 731 = .ok (.iload_n 3, 1) := by decide +kernel
theorem dL_law_732 : decode cL_law 732 = .ok (.iconst 1, 1) := by decide +kernel
theorem dL_law_733 : decode cL_law 733 = .ok (.iadd, 1) := by decide +kernel
theorem dL_law_734 : decode cL_law 734 = .ok (.iaload, 1) := by decide +kernel
theorem dL_law_735 : decode cL_law 735 = .ok (.invokevirtual 111, 3) := by decide +kernel
theorem dL_law_738 : decode cL_law 738 = .ok (.if_icmp .eq 28, 3) := by decide +kernel
theorem dL_law_741 : decode cL_law 741 = .ok (.iconst 0, 1) := by decide +kernel
theorem dL_law_742 : decode cL_law 742 = .ok (.ireturn, 1) := by decide +kernel
theorem dL_law_743 : decode cL_law 743 = .ok (.aload_n 1, 1) := by decide +kernel
theorem dL_law_744 : decode cL_law 744 = .ok (.aload_n 0, 1) := by decide +kernel
theorem dL_law_745 : decode cL_law 745 = .ok (.iload_n 3, 1) := by decide +kernel
theorem dL_law_746 : decode cL_law 746 = .ok (.iconst 1, 1) := by decide +kernel
theorem dL_law_747 : decode cL_law 747 = .ok (.iadd, 1) := by decide +kernel
theorem dL_law_748 : decode cL_law 748 = .ok (.iaload, 1) := by decide +kernel
theorem dL_law_749 : decode cL_law 749 = .ok (.invokevirtual 112, 3) := by decide +kernel
theorem dL_law_752 : decode cL_law 752 = .ok (.aload_n 2, 1) := by decide +kernel
theorem dL_law_753 : decode cL_law 753 = .ok (.aload_n 0, 1) := by decide +kernel
theorem dL_law_754 : decode cL_law 754 = .ok (.iload_n 3, 1) := by decide +kernel
theorem dL_law_755 : decode cL_law 755 = .ok (.iconst 1, 1) := by decide +kernel
theorem dL_law_756 : decode cL_law 756 = .ok (.iadd, 1) := by decide +kernel
theorem dL_law_757 : decode cL_law 757 = .ok (.iaload, 1) := by decide +kernel
theorem dL_law_758 : decode cL_law 758 = .ok (.invokevirtual 115, 3) := by decide +kernel
theorem dL_law_761 : decode cL_law 761 = .ok (.if_icmp .eq 5, 3) := by decide +kernel
theorem dL_law_764 : decode cL_law 764 = .ok (.iconst 0, 1) := by decide +kernel
theorem dL_law_765 : decode cL_law 765 = .ok (.ireturn, 1) := by decide +kernel
theorem dL_law_766 : decode cL_law 766 = .ok (.iinc 3 6, 3) := by decide +kernel
theorem dL_law_769 : decode cL_law 769 = .ok (.goto (-751), 3) := by decide +kernel
theorem dL_law_772 : decode cL_law 772 = .ok (.iconst 1, 1) := by decide +kernel
theorem dL_law_773 : decode cL_law 773 = .ok (.ireturn, 1) := by decide +kernel
end
section
theorem dX5_init_0 : decode cX5_init 0 = .ok (.aload_n 0, 1) := by decide +kernel
theorem dX5_init_1 : decode cX5_init 1 = .ok (.invokespecial 1, 3) := by decide +kernel
theorem dX5_init_4 : decode cX5_init 4 = .ok (.aload_n 0, 1) := by decide +kernel
theorem dX5_init_5 : decode cX5_init 5 = .ok (.sipush 150, 3) := by decide +kernel
theorem dX5_init_8 : decode cX5_init 8 = .ok (.newarray .int, 2) := by decide +kernel
theorem dX5_init_10 : decode cX5_init 10 = .ok (.putfield 7, 3) := by decide +kernel
theorem dX5_init_13 : decode cX5_init 13 = .ok (.aload_n 0, 1) := by decide +kernel
theorem dX5_init_14 : decode cX5_init 14 = .ok (.sipush 150, 3) := by decide +kernel
theorem dX5_init_17 : decode cX5_init 17 = .ok (.newarray .int, 2) := by decide +kernel
theorem dX5_init_19 : decode cX5_init 19 = .ok (.putfield 13, 3) := by decide +kernel
theorem dX5_init_22 : decode cX5_init 22 = .ok (.aload_n 0, 1) := by decide +kernel
theorem dX5_init_23 : decode cX5_init 23 = .ok (.sipush 900, 3) := by decide +kernel
theorem dX5_init_26 : decode cX5_init 26 = .ok (.newarray .int, 2) := by decide +kernel
theorem dX5_init_28 : decode cX5_init 28 = .ok (.putfield 16, 3) := by decide +kernel
theorem dX5_init_31 : decode cX5_init 31 = .ok (.aload_n 0, 1) := by decide +kernel
theorem dX5_init_32 : decode cX5_init 32 = .ok (.sipush 300, 3) := by decide +kernel
theorem dX5_init_35 : decode cX5_init 35 = .ok (.newarray .int, 2) := by decide +kernel
theorem dX5_init_37 : decode cX5_init 37 = .ok (.putfield 19, 3) := by decide +kernel
theorem dX5_init_40 : decode cX5_init 40 = .ok (.aload_n 0, 1) := by decide +kernel
theorem dX5_init_41 : decode cX5_init 41 = .ok (.iconst 2, 1) := by decide +kernel
theorem dX5_init_42 : decode cX5_init 42 = .ok (.newarray .boolean, 2) := by decide +kernel
theorem dX5_init_44 : decode cX5_init 44 = .ok (.putfield 22, 3) := by decide +kernel
theorem dX5_init_47 : decode cX5_init 47 = .ok (.aload_n 0, 1) := by decide +kernel
theorem dX5_init_48 : decode cX5_init 48 = .ok (.bipush 60, 2) := by decide +kernel
theorem dX5_init_50 : decode cX5_init 50 = .ok (.newarray .int, 2) := by decide +kernel
theorem dX5_init_52 : decode cX5_init 52 = .ok (.putfield 26, 3) := by decide +kernel
theorem dX5_init_55 : decode cX5_init 55 = .ok (.aload_n 0, 1) := by decide +kernel
theorem dX5_init_56 : decode cX5_init 56 = .ok (.bipush 8, 2) := by decide +kernel
theorem dX5_init_58 : decode cX5_init 58 = .ok (.newarray .int, 2) := by decide +kernel
theorem dX5_init_60 : decode cX5_init 60 = .ok (.putfield 29, 3) := by decide +kernel
theorem dX5_init_63 : decode cX5_init 63 = .ok (.aload_n 0, 1) := by decide +kernel
theorem dX5_init_64 : decode cX5_init 64 = .ok (.sipush 180, 3) := by decide +kernel
theorem dX5_init_67 : decode cX5_init 67 = .ok (.newarray .int, 2) := by decide +kernel
theorem dX5_init_69 : decode cX5_init 69 = .ok (.putfield 32, 3) := by decide +kernel
theorem dX5_init_72 : decode cX5_init 72 = .ok (.aload_n 0, 1) := by decide +kernel
theorem dX5_init_73 : decode cX5_init 73 = .ok (.getfield 7, 3) := by decide +kernel
theorem dX5_init_76 : decode cX5_init 76 = .ok (.iconst 0, 1) := by decide +kernel
theorem dX5_init_77 : decode cX5_init 77 = .ok (.bipush 10, 2) := by decide +kernel
theorem dX5_init_79 : decode cX5_init 79 = .ok (.iastore, 1) := by decide +kernel
theorem dX5_init_80 : decode cX5_init 80 = .ok (.aload_n 0, 1) := by decide +kernel
theorem dX5_init_81 : decode cX5_init 81 = .ok (.getfield 7, 3) := by decide +kernel
theorem dX5_init_84 : decode cX5_init 84 = .ok (.iconst 1, 1) := by decide +kernel
theorem dX5_init_85 : decode cX5_init 85 = .ok (.bipush 20, 2) := by decide +kernel
theorem dX5_init_87 : decode cX5_init 87 = .ok (.iastore, 1) := by decide +kernel
theorem dX5_init_88 : decode cX5_init 88 = .ok (.return_, 1) := by decide +kernel
theorem dX5_in_0 : decode cX5_in 0 = .ok (.iload_n 0, 1) := by decide +kernel
theorem dX5_in_1 : decode cX5_in 1 = .ok (.iload_n 1, 1) := by decide +kernel
theorem dX5_in_2 : decode cX5_in 2 = .ok (.if_icmp .lt 12, 3) := by decide +kernel
theorem dX5_in_5 : decode cX5_in 5 = .ok (.iload_n 0, 1) := by decide +kernel
theorem dX5_in_6 : decode cX5_in 6 = .ok (.iload_n 2, 1) := by decide +kernel
theorem dX5_in_7 : decode cX5_in 7 = .ok (.if_icmp .gt 7, 3) := by decide +kernel
theorem dX5_in_10 : decode cX5_in 10 = .ok (.iconst 1, 1) := by decide +kernel
theorem dX5_in_11 : decode cX5_in 11 = .ok (.goto 4, 3) := by decide +kernel
theorem dX5_in_14 : decode cX5_in 14 = .ok (.iconst 0, 1) := by decide +kernel
theorem dX5_in_15 : decode cX5_in 15 = .ok (.ireturn, 1) := by decide +kernel
theorem dX5_record_0 : decode cX5_record 0 = .ok (.aload_n 0, 1) := by decide +kernel
theorem dX5_record_1 : decode cX5_record 1 = .ok (.getfield 35, 3) := by decide +kernel
theorem dX5_record_4 : decode cX5_record 4 = .ok (.ifCond .eq 4, 3) := by decide +kernel
theorem dX5_record_7 : decode cX5_record 7 = .ok (.return_, 1) := by decide +kernel
theorem dX5_record_8 : decode cX5_record 8 = .ok (.aload_n 0, 1) := by decide +kernel
theorem dX5_record_9 : decode cX5_record 9 = .ok (.getfield 39, 3) := by decide +kernel
theorem dX5_record_12 : decode cX5_record 12 = .ok (.bipush 6, 2) := by decide +kernel
theorem dX5_record_14 : decode cX5_record 14 = .ok (.if_icmp .ne 39, 3) := by decide +kernel
theorem dX5_record_17 : decode cX5_record 17 = .ok (.iconst 0, 1) := by decide +kernel
theorem dX5_record_18 : decode cX5_record 18 = .ok (.istore_n 1, 1) := by decide +kernel
theorem dX5_record_19 : decode cX5_record 19 = .ok (.iload_n 1, 1) := by decide +kernel
theorem dX5_record_20 : decode cX5_record 20 = .ok (.sipush 750, 3) := by decide +kernel
theorem dX5_record_23 : decode cX5_record 23 = .ok (.if_icmp .ge 25, 3) := by decide +kernel
theorem dX5_record_26 : decode cX5_record 26 = .ok (.aload_n 0, 1) := by decide +kernel
theorem dX5_record_27 : decode cX5_record 27 = .ok (.getfield 16, 3) := by decide +kernel
theorem dX5_record_30 : decode cX5_record 30 = .ok (.iload_n 1, 1) := by decide +kernel
theorem dX5_record_31 : decode cX5_record 31 = .ok (.aload_n 0, 1) := by decide +kernel
theorem dX5_record_32 : decode cX5_record 32 = .ok (.getfield 16, 3) := by decide +kernel
theorem dX5_record_35 : decode cX5_record 35 = .ok (.iload_n 1, 1) := by decide +kernel
theorem dX5_record_36 : decode cX5_record 36 = .ok (.sipush 150, 3) := by decide +kernel
theorem dX5_record_39 : decode cX5_record 39 = .ok (.iadd, 1) := by decide +kernel
theorem dX5_record_40 : decode cX5_record 40 = .ok (.iaload, 1) := by decide +kernel
theorem dX5_record_41 : decode cX5_record 41 = .ok (.iastore, 1) := by decide +kernel
theorem dX5_record_42 : decode cX5_record 42 = .ok (.iinc 1 1, 3) := by decide +kernel
theorem dX5_record_45 : decode cX5_record 45 = .ok (.goto (-26), 3) := by decide +kernel
theorem dX5_record_48 : decode cX5_record 48 = .ok (.aload_n 0, 1) := by decide +kernel
theorem dX5_record_49 : decode cX5_record 49 = .ok (.iconst 5, 1) := by decide +kernel
theorem dX5_record_50 : decode cX5_record 50 = .ok (.putfield 39, 3) := by decide +kernel
theorem dX5_record_53 : decode cX5_record 53 = .ok (.iconst 0, 1) := by decide +kernel
theorem dX5_record_54 : decode cX5_record 54 = .ok (.istore_n 1, 1) := by decide +kernel
theorem dX5_record_55 : decode cX5_record 55 = .ok (.iload_n 1, 1) := by decide +kernel
theorem dX5_record_56 : decode cX5_record 56 = .ok (.sipush 150, 3) := by decide +kernel
theorem dX5_record_59 : decode cX5_record 59 = .ok (.if_icmp .ge 30, 3) := by decide +kernel
theorem dX5_record_62 : decode cX5_record 62 = .ok (.aload_n 0, 1) := by decide +kernel
theorem dX5_record_63 : decode cX5_record 63 = .ok (.getfield 16, 3) := by decide +kernel
theorem dX5_record_66 : decode cX5_record 66 = .ok (.aload_n 0, 1) := by decide +kernel
theorem dX5_record_67 : decode cX5_record 67 = .ok (.getfield 39, 3) := by decide +kernel
theorem dX5_record_70 : decode cX5_record 70 = .ok (.sipush 150, 3) := by decide +kernel
theorem dX5_record_73 : decode cX5_record 73 = .ok (.imul, 1) := by decide +kernel
theorem dX5_record_74 : decode cX5_record 74 = .ok (.iload_n 1, 1) := by decide +kernel
theorem dX5_record_75 : decode cX5_record 75 = .ok (.iadd, 1) := by decide +kernel
theorem dX5_record_76 : decode cX5_record 76 = .ok (.aload_n 0, 1) := by decide +kernel
theorem dX5_record_77 : decode cX5_record 77 = .ok (.getfield 7, 3) := by decide +kernel
theorem dX5_record_80 : decode cX5_record 80 = .ok (.iload_n 1, 1) := by decide +kernel
theorem dX5_record_81 : decode cX5_record 81 = .ok (.iaload, 1) := by decide +kernel
theorem dX5_record_82 : decode cX5_record 82 = .ok (.iastore, 1) := by decide +kernel
theorem dX5_record_83 : decode cX5_record 83 = .ok (.iinc 1 1, 3) := by decide +kernel
theorem dX5_record_86 : decode cX5_record 86 = .ok (.goto (-31), 3) := by decide +kernel
theorem dX5_record_89 : decode cX5_record 89 = .ok (.aload_n 0, 1) := by decide +kernel
theorem dX5_record_90 : decode cX5_record 90 = .ok (.dup, 1) := by decide +kernel
theorem dX5_record_91 : decode cX5_record 91 = .ok (.getfield 39, 3) := by decide +kernel
theorem dX5_record_94 : decode cX5_record 94 = .ok (.iconst 1, 1) := by decide +kernel
theorem dX5_record_95 : decode cX5_record 95 = .ok (.iadd, 1) := by decide +kernel
theorem dX5_record_96 : decode cX5_record 96 = .ok (.putfield 39, 3) := by decide +kernel
theorem dX5_record_99 : decode cX5_record 99 = .ok (.return_, 1) := by decide +kernel
theorem dX5_keep_0 : decode cX5_keep 0 = .ok (.iconst 0, 1) := by decide +kernel
theorem dX5_keep_1 : decode cX5_keep 1 = .ok (.istore_n 1, 1) := by decide +kernel
theorem dX5_keep_2 : decode cX5_keep 2 = .ok (.iload_n 1, 1) := by decide +kernel
theorem dX5_keep_3 : decode cX5_keep 3 = .ok (.sipush 150, 3) := by decide +kernel
theorem dX5_keep_6 : decode cX5_keep 6 = .ok (.if_icmp .ge 21, 3) := by decide +kernel
theorem dX5_keep_9 : decode cX5_keep 9 = .ok (.aload_n 0, 1) := by decide +kernel
theorem dX5_keep_10 : decode cX5_keep 10 = .ok (.getfield 13, 3) := by decide +kernel
theorem dX5_keep_13 : decode cX5_keep 13 = .ok (.iload_n 1, 1) := by decide +kernel
theorem dX5_keep_14 : decode cX5_keep 14 = .ok (.aload_n 0, 1) := by decide +kernel
theorem dX5_keep_15 : decode cX5_keep 15 = .ok (.getfield 7, 3) := by decide +kernel
theorem dX5_keep_18 : decode cX5_keep 18 = .ok (.iload_n 1, 1) := by decide +kernel
theorem dX5_keep_19 : decode cX5_keep 19 = .ok (.iaload, 1) := by decide +kernel
theorem dX5_keep_20 : decode cX5_keep 20 = .ok (.iastore, 1) := by decide +kernel
theorem dX5_keep_21 : decode cX5_keep 21 = .ok (.iinc 1 1, 3) := by decide +kernel
theorem dX5_keep_24 : decode cX5_keep 24 = .ok (.goto (-22), 3) := by decide +kernel
theorem dX5_keep_27 : decode cX5_keep 27 = .ok (.return_, 1) := by decide +kernel
theorem dX5_comeBack_0 : decode cX5_comeBack 0 = .ok (.iconst 0, 1) := by decide +kernel
theorem dX5_comeBack_1 : decode cX5_comeBack 1 = .ok (.istore_n 1, 1) := by decide +kernel
theorem dX5_comeBack_2 : decode cX5_comeBack 2 = .ok (.iload_n 1, 1) := by decide +kernel
theorem dX5_comeBack_3 : decode cX5_comeBack 3 = .ok (.sipush 150, 3) := by decide +kernel
theorem dX5_comeBack_6 : decode cX5_comeBack 6 = .ok (.if_icmp .ge 21, 3) := by decide +kernel
theorem dX5_comeBack_9 : decode cX5_comeBack 9 = .ok (.aload_n 0, 1) := by decide +kernel
theorem dX5_comeBack_10 : decode cX5_comeBack 10 = .ok (.getfield 7, 3) := by decide +kernel
theorem dX5_comeBack_13 : decode cX5_comeBack 13 = .ok (.iload_n 1, 1) := by decide +kernel
theorem dX5_comeBack_14 : decode cX5_comeBack 14 = .ok (.aload_n 0, 1) := by decide +kernel
theorem dX5_comeBack_15 : decode cX5_comeBack 15 = .ok (.getfield 13, 3) := by decide +kernel
theorem dX5_comeBack_18 : decode cX5_comeBack 18 = .ok (.iload_n 1, 1) := by decide +kernel
theorem dX5_comeBack_19 : decode cX5_comeBack 19 = .ok (.iaload, 1) := by decide +kernel
theorem dX5_comeBack_20 : decode cX5_comeBack 20 = .ok (.iastore, 1) := by decide +kernel
theorem dX5_comeBack_21 : decode cX5_comeBack 21 = .ok (.iinc 1 1, 3) := by decide +kernel
theorem dX5_comeBack_24 : decode cX5_comeBack 24 = .ok (.goto (-22), 3) := by decide +kernel
theorem dX5_comeBack_27 : decode cX5_comeBack 27 = .ok (.return_, 1) := by decide +kernel
theorem dX5_of_0 : decode cX5_of 0 = .ok (.aload_n 0, 1) := by decide +kernel
theorem dX5_of_1 : decode cX5_of 1 = .ok (.getfield 7, 3) := by decide +kernel
theorem dX5_of_4 : decode cX5_of 4 = .ok (.bipush 30, 2) := by decide +kernel
theorem dX5_of_6 : decode cX5_of 6 = .ok (.bipush 14, 2) := by decide +kernel
theorem dX5_of_8 : decode cX5_of 8 = .ok (.iload_n 1, 1) := by decide +kernel
theorem dX5_of_9 : decode cX5_of 9 = .ok (.imul, 1) := by decide +kernel
theorem dX5_of_10 : decode cX5_of 10 = .ok (.iadd, 1) := by decide +kernel
theorem dX5_of_11 : decode cX5_of 11 = .ok (.iload_n 2, 1) := by decide +kernel
theorem dX5_of_12 : decode cX5_of 12 = .ok (.iadd, 1) := by decide +kernel
theorem dX5_of_13 : decode cX5_of 13 = .ok (.iaload, 1) := by decide +kernel
theorem dX5_of_14 : decode cX5_of 14 = .ok (.ireturn, 1) := by decide +kernel
theorem dX5_book_0 : decode cX5_book 0 = .ok (.aload_n 0, 1) := by decide +kernel
theorem dX5_book_1 : decode cX5_book 1 = .ok (.getfield 7, 3) := by decide +kernel
theorem dX5_book_4 : decode cX5_book 4 = .ok (.bipush 30, 2) := by decide +kernel
theorem dX5_book_6 : decode cX5_book 6 = .ok (.bipush 14, 2) := by decide +kernel
theorem dX5_book_8 : decode cX5_book 8 = .ok (.iload_n 1, 1) := by decide +kernel
theorem dX5_book_9 : decode cX5_book 9 = .ok (.imul, 1) := by decide +kernel
theorem dX5_book_10 : decode cX5_book 10 = .ok (.iadd, 1) := by decide +kernel
theorem dX5_book_11 : decode cX5_book 11 = .ok (.iload_n 2, 1) := by decide +kernel
theorem dX5_book_12 : decode cX5_book 12 = .ok (.iadd, 1) := by decide +kernel
theorem dX5_book_13 : decode cX5_book 13 = .ok (.iload_n 3, 1) := by decide +kernel
theorem dX5_book_14 : decode cX5_book 14 = .ok (.iastore, 1) := by decide +kernel
theorem dX5_book_15 : decode cX5_book 15 = .ok (.return_, 1) := by decide +kernel
theorem dX5_isWire_0 : decode cX5_isWire 0 = .ok (.iload_n 1, 1) := by decide +kernel
theorem dX5_isWire_1 : decode cX5_isWire 1 = .ok (.iconst 0, 1) := by decide +kernel
theorem dX5_isWire_2 : decode cX5_isWire 2 = .ok (.aload_n 0, 1) := by decide +kernel
theorem dX5_isWire_3 : decode cX5_isWire 3 = .ok (.getfield 7, 3) := by decide +kernel
theorem dX5_isWire_6 : decode cX5_isWire 6 = .ok (.iconst 3, 1) := by decide +kernel
theorem dX5_isWire_7 : decode cX5_isWire 7 = .ok (.iaload, 1) := by decide +kernel
theorem dX5_isWire_8 : decode cX5_isWire 8 = .ok (.iconst 1, 1) := by decide +kernel
theorem dX5_isWire_9 : decode cX5_isWire 9 = .ok (.isub, 1) := by decide +kernel
theorem dX5_isWire_10 : decode cX5_isWire 10 = .ok (.invokestatic 43, 3) := by decide +kernel
theorem dX5_isWire_13 : decode cX5_isWire 13 = .ok (.ireturn, 1) := by decide +kernel
theorem dX5_isWhole_0 : decode cX5_isWhole 0 = .ok (.aload_n 0, 1) := by decide +kernel
theorem dX5_isWhole_1 : decode cX5_isWhole 1 = .ok (.iload_n 1, 1) := by decide +kernel
theorem dX5_isWhole_2 : decode cX5_isWhole 2 = .ok (.iconst 5, 1) := by decide +kernel
theorem dX5_isWhole_3 : decode cX5_isWhole 3 = .ok (.invokevirtual 47, 3) := by decide +kernel
theorem dX5_isWhole_6 : decode cX5_isWhole 6 = .ok (.ifCond .ne 7, 3) := by decide +kernel
theorem dX5_isWhole_9 : decode cX5_isWhole 9 = .ok (.iconst 1, 1) := by decide +kernel
theorem dX5_isWhole_10 : decode cX5_isWhole 10 = .ok (.goto 4, 3) := by decide +kernel
theorem dX5_isWhole_13 : decode cX5_isWhole 13 = .ok (.iconst 0, 1) := by decide +kernel
theorem dX5_isWhole_14 : decode cX5_isWhole 14 = .ok (.ireturn, 1) := by decide +kernel
theorem dX5_wholeBy_0 : decode cX5_wholeBy 0 = .ok (.iconst 0, 1) := by decide +kernel
theorem dX5_wholeBy_1 : decode cX5_wholeBy 1 = .ok (.istore_n 2, 1) := by decide +kernel
theorem dX5_wholeBy_2 : decode cX5_wholeBy 2 = .ok (.iconst 0, 1) := by decide +kernel
theorem dX5_wholeBy_3 : decode cX5_wholeBy 3 = .ok (.istore_n 3, 1) := by decide +kernel
theorem dX5_wholeBy_4 : decode cX5_wholeBy 4 = .ok (.iload_n 3, 1) := by decide +kernel
theorem dX5_wholeBy_5 : decode cX5_wholeBy 5 = .ok (.aload_n 0, 1) := by decide +kernel
theorem dX5_wholeBy_6 : decode cX5_wholeBy 6 = .ok (.getfield 7, 3) := by decide +kernel
theorem dX5_wholeBy_9 : decode cX5_wholeBy 9 = .ok (.iconst 3, 1) := by decide +kernel
theorem dX5_wholeBy_10 : decode cX5_wholeBy 10 = .ok (.iaload, 1) := by decide +kernel
theorem dX5_wholeBy_11 : decode cX5_wholeBy 11 = .ok (.if_icmp .ge 37, 3) := by decide +kernel
theorem dX5_wholeBy_14 : decode cX5_wholeBy 14 = .ok (.iload_n 2, 1) := by decide +kernel
theorem dX5_wholeBy_15 : decode cX5_wholeBy 15 = .ok (.aload_n 0, 1) := by decide +kernel
theorem dX5_wholeBy_16 : decode cX5_wholeBy 16 = .ok (.iload_n 3, 1) := by decide +kernel
theorem dX5_wholeBy_17 : decode cX5_wholeBy 17 = .ok (.iload_n 1, 1) := by decide +kernel
theorem dX5_wholeBy_18 : decode cX5_wholeBy 18 = .ok (.ifCond .ne 7, 3) := by decide +kernel
theorem dX5_wholeBy_21 : decode cX5_wholeBy 21 = .ok (.iconst 5, 1) := by decide +kernel
theorem dX5_wholeBy_22 : decode cX5_wholeBy 22 = .ok (.goto 5, 3) := by decide +kernel
theorem dX5_wholeBy_25 : decode cX5_wholeBy 25 = .ok (.bipush 10, 2) := by decide +kernel
theorem dX5_wholeBy_27 : decode cX5_wholeBy 27 = .ok (.invokevirtual 47, 3) := by decide +kernel
theorem dX5_wholeBy_30 : decode cX5_wholeBy 30 = .ok (.ifCond .ne 9, 3) := by decide +kernel
theorem dX5_wholeBy_33 : decode cX5_wholeBy 33 = .ok (.iconst 1, 1) := by decide +kernel
theorem dX5_wholeBy_34 : decode cX5_wholeBy 34 = .ok (.iload_n 3, 1) := by decide +kernel
theorem dX5_wholeBy_35 : decode cX5_wholeBy 35 = .ok (.ishl, 1) := by decide +kernel
theorem dX5_wholeBy_36 : decode cX5_wholeBy 36 = .ok (.goto 4, 3) := by decide +kernel
theorem dX5_wholeBy_39 : decode cX5_wholeBy 39 = .ok (.iconst 0, 1) := by decide +kernel
theorem dX5_wholeBy_40 : decode cX5_wholeBy 40 = .ok (.ior, 1) := by decide +kernel
theorem dX5_wholeBy_41 : decode cX5_wholeBy 41 = .ok (.istore_n 2, 1) := by decide +kernel
theorem dX5_wholeBy_42 : decode cX5_wholeBy 42 = .ok (.iinc 3 1, 3) := by decide +kernel
theorem dX5_wholeBy_45 : decode cX5_wholeBy 45 = .ok (.goto (-41), 3) := by decide +kernel
theorem dX5_wholeBy_48 : decode cX5_wholeBy 48 = .ok (.iload_n 2, 1) := by decide +kernel
theorem dX5_wholeBy_49 : decode cX5_wholeBy 49 = .ok (.ireturn, 1) := by decide +kernel
theorem dX5_weight_0 : decode cX5_weight 0 = .ok (.aload_n 0, 1) := by decide +kernel
theorem dX5_weight_1 : decode cX5_weight 1 = .ok (.iload_n 1, 1) := by decide +kernel
theorem dX5_weight_2 : decode cX5_weight 2 = .ok (.iconst 1, 1) := by decide +kernel
theorem dX5_weight_3 : decode cX5_weight 3 = .ok (.invokevirtual 47, 3) := by decide +kernel
theorem dX5_weight_6 : decode cX5_weight 6 = .ok (.i2l, 1) := by decide +kernel
theorem dX5_weight_7 : decode cX5_weight 7 = .ok (.aload_n 0, 1) := by decide +kernel
theorem dX5_weight_8 : decode cX5_weight 8 = .ok (.iload_n 1, 1) := by decide +kernel
theorem dX5_weight_9 : decode cX5_weight 9 = .ok (.iconst 1, 1) := by decide +kernel
theorem dX5_weight_10 : decode cX5_weight 10 = .ok (.invokevirtual 47, 3) := by decide +kernel
theorem dX5_weight_13 : decode cX5_weight 13 = .ok (.i2l, 1) := by decide +kernel
theorem dX5_weight_14 : decode cX5_weight 14 = .ok (.lmul, 1) := by decide +kernel
theorem dX5_weight_15 : decode cX5_weight 15 = .ok (.aload_n 0, 1) := by decide +kernel
theorem dX5_weight_16 : decode cX5_weight 16 = .ok (.iload_n 1, 1) := by decide +kernel
theorem dX5_weight_17 : decode cX5_weight 17 = .ok (.iconst 2, 1) := by decide +kernel
theorem dX5_weight_18 : decode cX5_weight 18 = .ok (.invokevirtual 47, 3) := by decide +kernel
theorem dX5_weight_21 : decode cX5_weight 21 = .ok (.i2l, 1) := by decide +kernel
theorem dX5_weight_22 : decode cX5_weight 22 = .ok (.lmul, 1) := by decide +kernel
theorem dX5_weight_23 : decode cX5_weight 23 = .ok (.lreturn, 1) := by decide +kernel
theorem dX5_pitch_0 : decode cX5_pitch 0 = .ok (.iload_n 2, 1) := by decide +kernel
theorem dX5_pitch_1 : decode cX5_pitch 1 = .ok (.i2l, 1) := by decide +kernel
theorem dX5_pitch_2 : decode cX5_pitch 2 = .ok (.ldc2_w 51, 3) := by decide +kernel
theorem dX5_pitch_5 : decode cX5_pitch 5 = .ok (.lmul, 1) := by decide +kernel
theorem dX5_pitch_6 : decode cX5_pitch 6 = .ok (.aload_n 0, 1) := by decide +kernel
theorem dX5_pitch_7 : decode cX5_pitch 7 = .ok (.iload_n 1, 1) := by decide +kernel
theorem dX5_pitch_8 : decode cX5_pitch 8 = .ok (.invokevirtual 53, 3) := by decide +kernel
theorem dX5_pitch_11 : decode cX5_pitch 11 = .ok (.ldiv, 1) := by decide +kernel
theorem dX5_pitch_12 : decode cX5_pitch 12 = .ok (.lstore_n 3, 1) := by decide +kernel
theorem dX5_pitch_13 : decode cX5_pitch 13 = .ok (.iconst 0, 1) := by decide +kernel
theorem dX5_pitch_14 : decode cX5_pitch 14 = .ok (.istore 5, 2) := by decide +kernel
theorem dX5_pitch_16 : decode cX5_pitch 16 = .ok (.sipush 16384, 3) := by decide +kernel
theorem dX5_pitch_19 : decode cX5_pitch 19 = .ok (.istore 6, 2) := by decide +kernel
theorem dX5_pitch_21 : decode cX5_pitch 21 = .ok (.iload 6, 2) := by decide +kernel
theorem dX5_pitch_23 : decode cX5_pitch 23 = .ok (.ifCond .le 41, 3) := by decide +kernel
theorem dX5_pitch_26 : decode cX5_pitch 26 = .ok (.iload 5, 2) := by decide +kernel
theorem dX5_pitch_28 : decode cX5_pitch 28 = .ok (.iload 5, 2) := by decide +kernel
theorem dX5_pitch_30 : decode cX5_pitch 30 = .ok (.iload 6, 2) := by decide +kernel
theorem dX5_pitch_32 : decode cX5_pitch 32 = .ok (.iadd, 1) := by decide +kernel
theorem dX5_pitch_33 : decode cX5_pitch 33 = .ok (.i2l, 1) := by decide +kernel
theorem dX5_pitch_34 : decode cX5_pitch 34 = .ok (.iload 5, 2) := by decide +kernel
theorem dX5_pitch_36 : decode cX5_pitch 36 = .ok (.iload 6, 2) := by decide +kernel
theorem dX5_pitch_38 : decode cX5_pitch 38 = .ok (.iadd, 1) := by decide +kernel
theorem dX5_pitch_39 : decode cX5_pitch 39 = .ok (.i2l, 1) := by decide +kernel
theorem dX5_pitch_40 : decode cX5_pitch 40 = .ok (.lmul, 1) := by decide +kernel
theorem dX5_pitch_41 : decode cX5_pitch 41 = .ok (.lload_n 3, 1) := by decide +kernel
theorem dX5_pitch_42 : decode cX5_pitch 42 = .ok (.lcmp, 1) := by decide +kernel
theorem dX5_pitch_43 : decode cX5_pitch 43 = .ok (.ifCond .gt 8, 3) := by decide +kernel
theorem dX5_pitch_46 : decode cX5_pitch 46 = .ok (.iload 6, 2) := by decide +kernel
theorem dX5_pitch_48 : decode cX5_pitch 48 = .ok (.goto 4, 3) := by decide +kernel
theorem dX5_pitch_51 : decode cX5_pitch 51 = .ok (.iconst 0, 1) := by decide +kernel
theorem dX5_pitch_52 : decode cX5_pitch 52 = .ok (.iadd, 1) := by decide +kernel
theorem dX5_pitch_53 : decode cX5_pitch 53 = .ok (.istore 5, 2) := by decide +kernel
theorem dX5_pitch_55 : decode cX5_pitch 55 = .ok (.iload 6, 2) := by decide +kernel
theorem dX5_pitch_57 : decode cX5_pitch 57 = .ok (.iconst 2, 1) := by decide +kernel
theorem dX5_pitch_58 : decode cX5_pitch 58 = .ok (.idiv, 1) := by decide +kernel
theorem dX5_pitch_59 : decode cX5_pitch 59 = .ok (.istore 6, 2) := by decide +kernel
theorem dX5_pitch_61 : decode cX5_pitch 61 = .ok (.goto (-40), 3) := by decide +kernel
theorem dX5_pitch_64 : decode cX5_pitch 64 = .ok (.iload 5, 2) := by decide +kernel
theorem dX5_pitch_66 : decode cX5_pitch 66 = .ok (.ireturn, 1) := by decide +kernel
theorem dX5_leastFor_0 : decode cX5_leastFor 0 = .ok (.iload_n 2, 1) := by decide +kernel
theorem dX5_leastFor_1 : decode cX5_leastFor 1 = .ok (.i2l, 1) := by decide +kernel
theorem dX5_leastFor_2 : decode cX5_leastFor 2 = .ok (.iload_n 2, 1) := by decide +kernel
theorem dX5_leastFor_3 : decode cX5_leastFor 3 = .ok (.i2l, 1) := by decide +kernel
theorem dX5_leastFor_4 : decode cX5_leastFor 4 = .ok (.lmul, 1) := by decide +kernel
theorem dX5_leastFor_5 : decode cX5_leastFor 5 = .ok (.aload_n 0, 1) := by decide +kernel
theorem dX5_leastFor_6 : decode cX5_leastFor 6 = .ok (.iload_n 1, 1) := by decide +kernel
theorem dX5_leastFor_7 : decode cX5_leastFor 7 = .ok (.invokevirtual 53, 3) := by decide +kernel
theorem dX5_leastFor_10 : decode cX5_leastFor 10 = .ok (.lmul, 1) := by decide +kernel
theorem dX5_leastFor_11 : decode cX5_leastFor 11 = .ok (.ldc2_w 51, 3) := by decide +kernel
theorem dX5_leastFor_14 : decode cX5_leastFor 14 = .ok (.ladd, 1) := by decide +kernel
theorem dX5_leastFor_15 : decode cX5_leastFor 15 = .ok (.lconst 1, 1) := by decide +kernel
theorem dX5_leastFor_16 : decode cX5_leastFor 16 = .ok (.lsub, 1) := by decide +kernel
theorem dX5_leastFor_17 : decode cX5_leastFor 17 = .ok (.ldc2_w 51, 3) := by decide +kernel
theorem dX5_leastFor_20 : decode cX5_leastFor 20 = .ok (.ldiv, 1) := by decide +kernel
theorem dX5_leastFor_21 : decode cX5_leastFor 21 = .ok (.lreturn, 1) := by decide +kernel
theorem dX5_nearest_0 : decode cX5_nearest 0 = .ok (.bipush (-6), 2) := by decide +kernel
theorem dX5_nearest_2 : decode cX5_nearest 2 = .ok (.istore 4, 2) := by decide +kernel
theorem dX5_nearest_4 : decode cX5_nearest 4 = .ok (.iconst 0, 1) := by decide +kernel
theorem dX5_nearest_5 : decode cX5_nearest 5 = .ok (.istore 5, 2) := by decide +kernel
theorem dX5_nearest_7 : decode cX5_nearest 7 = .ok (.iload 5, 2) := by decide +kernel
theorem dX5_nearest_9 : decode cX5_nearest 9 = .ok (.aload_n 0, 1) := by decide +kernel
theorem dX5_nearest_10 : decode cX5_nearest 10 = .ok (.getfield 7, 3) := by decide +kernel
theorem dX5_nearest_13 : decode cX5_nearest 13 = .ok (.iconst 3, 1) := by decide +kernel
theorem dX5_nearest_14 : decode cX5_nearest 14 = .ok (.iaload, 1) := by decide +kernel
theorem dX5_nearest_15 : decode cX5_nearest 15 = .ok (.if_icmp .ge 79, 3) := by decide +kernel
theorem dX5_nearest_18 : decode cX5_nearest 18 = .ok (.iload_n 1, 1) := by decide +kernel
theorem dX5_nearest_19 : decode cX5_nearest 19 = .ok (.iload 5, 2) := by decide +kernel
theorem dX5_nearest_21 : decode cX5_nearest 21 = .ok (.ishr, 1) := by decide +kernel
theorem dX5_nearest_22 : decode cX5_nearest 22 = .ok (.iconst 1, 1) := by decide +kernel
theorem dX5_nearest_23 : decode cX5_nearest 23 = .ok (.iand, 1) := by decide +kernel
theorem dX5_nearest_24 : decode cX5_nearest 24 = .ok (.iconst 1, 1) := by decide +kernel
theorem dX5_nearest_25 : decode cX5_nearest 25 = .ok (.if_icmp .ne 21, 3) := by decide +kernel
theorem dX5_nearest_28 : decode cX5_nearest 28 = .ok (.aload_n 0, 1) := by decide +kernel
theorem dX5_nearest_29 : decode cX5_nearest 29 = .ok (.iload 5, 2) := by decide +kernel
theorem dX5_nearest_31 : decode cX5_nearest 31 = .ok (.iconst 0, 1) := by decide +kernel
theorem dX5_nearest_32 : decode cX5_nearest 32 = .ok (.invokevirtual 47, 3) := by decide +kernel
theorem dX5_nearest_35 : decode cX5_nearest 35 = .ok (.iload_n 2, 1) := by decide +kernel
theorem dX5_nearest_36 : decode cX5_nearest 36 = .ok (.isub, 1) := by decide +kernel
theorem dX5_nearest_37 : decode cX5_nearest 37 = .ok (.iload_n 3, 1) := by decide +kernel
theorem dX5_nearest_38 : decode cX5_nearest 38 = .ok (.imul, 1) := by decide +kernel
theorem dX5_nearest_39 : decode cX5_nearest 39 = .ok (.ifCond .lt 7, 3) := by decide +kernel
theorem dX5_nearest_42 : decode cX5_nearest 42 = .ok (.iconst 1, 1) := by decide +kernel
theorem dX5_nearest_43 : decode cX5_nearest 43 = .ok (.goto 4, 3) := by decide +kernel
theorem dX5_nearest_46 : decode cX5_nearest 46 = .ok (.iconst 0, 1) := by decide +kernel
theorem dX5_nearest_47 : decode cX5_nearest 47 = .ok (.istore 6, 2) := by decide +kernel
theorem dX5_nearest_49 : decode cX5_nearest 49 = .ok (.iload 6, 2) := by decide +kernel
theorem dX5_nearest_51 : decode cX5_nearest 51 = .ok (.ifCond .eq 33, 3) := by decide +kernel
theorem dX5_nearest_54 : decode cX5_nearest 54 = .ok (.iload 4, 2) := by decide +kernel
theorem dX5_nearest_56 : decode cX5_nearest 56 = .ok (.ifCond .lt 23, 3) := by decide +kernel
theorem dX5_nearest_59 : decode cX5_nearest 59 = .ok (.aload_n 0, 1) := by decide +kernel
theorem dX5_nearest_60 : decode cX5_nearest 60 = .ok (.iload 5, 2) := by decide +kernel
theorem dX5_nearest_62 : decode cX5_nearest 62 = .ok (.iconst 0, 1) := by decide +kernel
theorem dX5_nearest_63 : decode cX5_nearest 63 = .ok (.invokevirtual 47, 3) := by decide +kernel
theorem dX5_nearest_66 : decode cX5_nearest 66 = .ok (.aload_n 0, 1) := by decide +kernel
theorem dX5_nearest_67 : decode cX5_nearest 67 = .ok (.iload 4, 2) := by decide +kernel
theorem dX5_nearest_69 : decode cX5_nearest 69 = .ok (.iconst 0, 1) := by decide +kernel
theorem dX5_nearest_70 : decode cX5_nearest 70 = .ok (.invokevirtual 47, 3) := by decide +kernel
theorem dX5_nearest_73 : decode cX5_nearest 73 = .ok (.isub, 1) := by decide +kernel
theorem dX5_nearest_74 : decode cX5_nearest 74 = .ok (.iload_n 3, 1) := by decide +kernel
theorem dX5_nearest_75 : decode cX5_nearest 75 = .ok (.imul, 1) := by decide +kernel
theorem dX5_nearest_76 : decode cX5_nearest 76 = .ok (.ifCond .ge 8, 3) := by decide +kernel
theorem dX5_nearest_79 : decode cX5_nearest 79 = .ok (.iload 5, 2) := by decide +kernel
theorem dX5_nearest_81 : decode cX5_nearest 81 = .ok (.goto 5, 3) := by decide +kernel
theorem dX5_nearest_84 : decode cX5_nearest 84 = .ok (.iload 4, 2) := by decide +kernel
theorem dX5_nearest_86 : decode cX5_nearest 86 = .ok (.istore 4, 2) := by decide +kernel
theorem dX5_nearest_88 : decode cX5_nearest 88 = .ok (.iinc 5 1, 3) := by decide +kernel
theorem dX5_nearest_91 : decode cX5_nearest 91 = .ok (.goto (-84), 3) := by decide +kernel
theorem dX5_nearest_94 : decode cX5_nearest 94 = .ok (.iload 4, 2) := by decide +kernel
theorem dX5_nearest_96 : decode cX5_nearest 96 = .ok (.ireturn, 1) := by decide +kernel
theorem dX5_layTasks_0 : decode cX5_layTasks 0 = .ok (.iconst 0, 1) := by decide +kernel
theorem dX5_layTasks_1 : decode cX5_layTasks 1 = .ok (.istore_n 2, 1) := by decide +kernel
theorem dX5_layTasks_2 : decode cX5_layTasks 2 = .ok (.iload_n 2, 1) := by decide +kernel
theorem dX5_layTasks_3 : decode cX5_layTasks 3 = .ok (.bipush 8, 2) := by decide +kernel
theorem dX5_layTasks_5 : decode cX5_layTasks 5 = .ok (.if_icmp .ge 16, 3) := by decide +kernel
theorem dX5_layTasks_8 : decode cX5_layTasks 8 = .ok (.aload_n 0, 1) := by decide +kernel
theorem dX5_layTasks_9 : decode cX5_layTasks 9 = .ok (.getfield 29, 3) := by decide +kernel
theorem dX5_layTasks_12 : decode cX5_layTasks 12 = .ok (.iload_n 2, 1) := by decide +kernel
theorem dX5_layTasks_13 : decode cX5_layTasks 13 = .ok (.iconst 0, 1) := by decide +kernel
theorem dX5_layTasks_14 : decode cX5_layTasks 14 = .ok (.iastore, 1) := by decide +kernel
theorem dX5_layTasks_15 : decode cX5_layTasks 15 = .ok (.iinc 2 1, 3) := by decide +kernel
theorem dX5_layTasks_18 : decode cX5_layTasks 18 = .ok (.goto (-16), 3) := by decide +kernel
theorem dX5_layTasks_21 : decode cX5_layTasks 21 = .ok (.iconst 0, 1) := by decide +kernel
theorem dX5_layTasks_22 : decode cX5_layTasks 22 = .ok (.istore_n 2, 1) := by decide +kernel
theorem dX5_layTasks_23 : decode cX5_layTasks 23 = .ok (.iload_n 2, 1) := by decide +kernel
theorem dX5_layTasks_24 : decode cX5_layTasks 24 = .ok (.bipush 20, 2) := by decide +kernel
theorem dX5_layTasks_26 : decode cX5_layTasks 26 = .ok (.if_icmp .ge 156, 3) := by decide +kernel
theorem dX5_layTasks_29 : decode cX5_layTasks 29 = .ok (.aload_n 0, 1) := by decide +kernel
theorem dX5_layTasks_30 : decode cX5_layTasks 30 = .ok (.getfield 7, 3) := by decide +kernel
theorem dX5_layTasks_33 : decode cX5_layTasks 33 = .ok (.bipush 10, 2) := by decide +kernel
theorem dX5_layTasks_35 : decode cX5_layTasks 35 = .ok (.iload_n 2, 1) := by decide +kernel
theorem dX5_layTasks_36 : decode cX5_layTasks 36 = .ok (.iadd, 1) := by decide +kernel
theorem dX5_layTasks_37 : decode cX5_layTasks 37 = .ok (.iaload, 1) := by decide +kernel
theorem dX5_layTasks_38 : decode cX5_layTasks 38 = .ok (.istore_n 3, 1) := by decide +kernel
theorem dX5_layTasks_39 : decode cX5_layTasks 39 = .ok (.aload_n 0, 1) := by decide +kernel
theorem dX5_layTasks_40 : decode cX5_layTasks 40 = .ok (.iload_n 1, 1) := by decide +kernel
theorem dX5_layTasks_41 : decode cX5_layTasks 41 = .ok (.iload_n 2, 1) := by decide +kernel
theorem dX5_layTasks_42 : decode cX5_layTasks 42 = .ok (.iconst (-1), 1) := by decide +kernel
theorem dX5_layTasks_43 : decode cX5_layTasks 43 = .ok (.invokevirtual 57, 3) := by decide +kernel
theorem dX5_layTasks_46 : decode cX5_layTasks 46 = .ok (.istore 4, 2) := by decide +kernel
theorem dX5_layTasks_48 : decode cX5_layTasks 48 = .ok (.aload_n 0, 1) := by decide +kernel
theorem dX5_layTasks_49 : decode cX5_layTasks 49 = .ok (.iload_n 1, 1) := by decide +kernel
theorem dX5_layTasks_50 : decode cX5_layTasks 50 = .ok (.iload_n 2, 1) := by decide +kernel
theorem dX5_layTasks_51 : decode cX5_layTasks 51 = .ok (.iconst 1, 1) := by decide +kernel
theorem dX5_layTasks_52 : decode cX5_layTasks 52 = .ok (.invokevirtual 57, 3) := by decide +kernel
theorem dX5_layTasks_55 : decode cX5_layTasks 55 = .ok (.istore 5, 2) := by decide +kernel
theorem dX5_layTasks_57 : decode cX5_layTasks 57 = .ok (.iload 4, 2) := by decide +kernel
theorem dX5_layTasks_59 : decode cX5_layTasks 59 = .ok (.ifCond .lt 83, 3) := by decide +kernel
theorem dX5_layTasks_62 : decode cX5_layTasks 62 = .ok (.iload 5, 2) := by decide +kernel
theorem dX5_layTasks_64 : decode cX5_layTasks 64 = .ok (.ifCond .lt 78, 3) := by decide +kernel
theorem dX5_layTasks_67 : decode cX5_layTasks 67 = .ok (.iload 4, 2) := by decide +kernel
theorem dX5_layTasks_69 : decode cX5_layTasks 69 = .ok (.iload 5, 2) := by decide +kernel
theorem dX5_layTasks_71 : decode cX5_layTasks 71 = .ok (.if_icmp .eq 71, 3) := by decide +kernel
theorem dX5_layTasks_74 : decode cX5_layTasks 74 = .ok (.iload_n 2, 1) := by decide +kernel
theorem dX5_layTasks_75 : decode cX5_layTasks 75 = .ok (.aload_n 0, 1) := by decide +kernel
theorem dX5_layTasks_76 : decode cX5_layTasks 76 = .ok (.iload 4, 2) := by decide +kernel
theorem dX5_layTasks_78 : decode cX5_layTasks 78 = .ok (.iconst 0, 1) := by decide +kernel
theorem dX5_layTasks_79 : decode cX5_layTasks 79 = .ok (.invokevirtual 47, 3) := by decide +kernel
theorem dX5_layTasks_82 : decode cX5_layTasks 82 = .ok (.isub, 1) := by decide +kernel
theorem dX5_layTasks_83 : decode cX5_layTasks 83 = .ok (.istore 6, 2) := by decide +kernel
theorem dX5_layTasks_85 : decode cX5_layTasks 85 = .ok (.iload_n 3, 1) := by decide +kernel
theorem dX5_layTasks_86 : decode cX5_layTasks 86 = .ok (.iload 6, 2) := by decide +kernel
theorem dX5_layTasks_88 : decode cX5_layTasks 88 = .ok (.imul, 1) := by decide +kernel
theorem dX5_layTasks_89 : decode cX5_layTasks 89 = .ok (.aload_n 0, 1) := by decide +kernel
theorem dX5_layTasks_90 : decode cX5_layTasks 90 = .ok (.iload 5, 2) := by decide +kernel
theorem dX5_layTasks_92 : decode cX5_layTasks 92 = .ok (.iconst 0, 1) := by decide +kernel
theorem dX5_layTasks_93 : decode cX5_layTasks 93 = .ok (.invokevirtual 47, 3) := by decide +kernel
theorem dX5_layTasks_96 : decode cX5_layTasks 96 = .ok (.aload_n 0, 1) := by decide +kernel
theorem dX5_layTasks_97 : decode cX5_layTasks 97 = .ok (.iload 4, 2) := by decide +kernel
theorem dX5_layTasks_99 : decode cX5_layTasks 99 = .ok (.iconst 0, 1) := by decide +kernel
theorem dX5_layTasks_100 : decode cX5_layTasks 100 = .ok (.invokevirtual 47, 3) := by decide +kernel
theorem dX5_layTasks_103 : decode cX5_layTasks 103 = .ok (.isub, 1) := by decide +kernel
theorem dX5_layTasks_104 : decode cX5_layTasks 104 = .ok (.idiv, 1) := by decide +kernel
theorem dX5_layTasks_105 : decode cX5_layTasks 105 = .ok (.istore 7, 2) := by decide +kernel
theorem dX5_layTasks_107 : decode cX5_layTasks 107 = .ok (.aload_n 0, 1) := by decide +kernel
theorem dX5_layTasks_108 : decode cX5_layTasks 108 = .ok (.getfield 29, 3) := by decide +kernel
theorem dX5_layTasks_111 : decode cX5_layTasks 111 = .ok (.iload 5, 2) := by decide +kernel
theorem dX5_layTasks_113 : decode cX5_layTasks 113 = .ok (.dup2, 1) := by decide +kernel
theorem dX5_layTasks_114 : decode cX5_layTasks 114 = .ok (.iaload, 1) := by decide +kernel
theorem dX5_layTasks_115 : decode cX5_layTasks 115 = .ok (.bipush 10, 2) := by decide +kernel
theorem dX5_layTasks_117 : decode cX5_layTasks 117 = .ok (.iload 7, 2) := by decide +kernel
theorem dX5_layTasks_119 : decode cX5_layTasks 119 = .ok (.imul, 1) := by decide +kernel
theorem dX5_layTasks_120 : decode cX5_layTasks 120 = .ok (.iadd, 1) := by decide +kernel
theorem dX5_layTasks_121 : decode cX5_layTasks 121 = .ok (.iastore, 1) := by decide +kernel
theorem dX5_layTasks_122 : decode cX5_layTasks 122 = .ok (.aload_n 0, 1) := by decide +kernel
theorem dX5_layTasks_123 : decode cX5_layTasks 123 = .ok (.getfield 29, 3) := by decide +kernel
theorem dX5_layTasks_126 : decode cX5_layTasks 126 = .ok (.iload 4, 2) := by decide +kernel
theorem dX5_layTasks_128 : decode cX5_layTasks 128 = .ok (.dup2, 1) := by decide +kernel
theorem dX5_layTasks_129 : decode cX5_layTasks 129 = .ok (.iaload, 1) := by decide +kernel
theorem dX5_layTasks_130 : decode cX5_layTasks 130 = .ok (.bipush 10, 2) := by decide +kernel
theorem dX5_layTasks_132 : decode cX5_layTasks 132 = .ok (.iload_n 3, 1) := by decide +kernel
theorem dX5_layTasks_133 : decode cX5_layTasks 133 = .ok (.iload 7, 2) := by decide +kernel
theorem dX5_layTasks_135 : decode cX5_layTasks 135 = .ok (.isub, 1) := by decide +kernel
theorem dX5_layTasks_136 : decode cX5_layTasks 136 = .ok (.imul, 1) := by decide +kernel
theorem dX5_layTasks_137 : decode cX5_layTasks 137 = .ok (.iadd, 1) := by decide +kernel
theorem dX5_layTasks_138 : decode cX5_layTasks 138 = .ok (.iastore, 1) := by decide +kernel
theorem dX5_layTasks_139 : decode cX5_layTasks 139 = .ok (.goto 37, 3) := by decide +kernel
theorem dX5_layTasks_142 : decode cX5_layTasks 142 = .ok (.iload 4, 2) := by decide +kernel
theorem dX5_layTasks_144 : decode cX5_layTasks 144 = .ok (.ifCond .ge 8, 3) := by decide +kernel
theorem dX5_layTasks_147 : decode cX5_layTasks 147 = .ok (.iload 5, 2) := by decide +kernel
theorem dX5_layTasks_149 : decode cX5_layTasks 149 = .ok (.ifCond .lt 27, 3) := by decide +kernel
theorem dX5_layTasks_152 : decode cX5_layTasks 152 = .ok (.aload_n 0, 1) := by decide +kernel
theorem dX5_layTasks_153 : decode cX5_layTasks 153 = .ok (.getfield 29, 3) := by decide +kernel
theorem dX5_layTasks_156 : decode cX5_layTasks 156 = .ok (.iload 4, 2) := by decide +kernel
theorem dX5_layTasks_158 : decode cX5_layTasks 158 = .ok (.ifCond .lt 8, 3) := by decide +kernel
theorem dX5_layTasks_161 : decode cX5_layTasks 161 = .ok (.iload 4, 2) := by decide +kernel
theorem dX5_layTasks_163 : decode cX5_layTasks 163 = .ok (.goto 5, 3) := by decide +kernel
theorem dX5_layTasks_166 : decode cX5_layTasks 166 = .ok (.iload 5, 2) := by decide +kernel
theorem dX5_layTasks_168 : decode cX5_layTasks 168 = .ok (.dup2, 1) := by decide +kernel
theorem dX5_layTasks_169 : decode cX5_layTasks 169 = .ok (.iaload, 1) := by decide +kernel
theorem dX5_layTasks_170 : decode cX5_layTasks 170 = .ok (.bipush 10, 2) := by decide +kernel
theorem dX5_layTasks_172 : decode cX5_layTasks 172 = .ok (.iload_n 3, 1) := by decide +kernel
theorem dX5_layTasks_173 : decode cX5_layTasks 173 = .ok (.imul, 1) := by decide +kernel
theorem dX5_layTasks_174 : decode cX5_layTasks 174 = .ok (.iadd, 1) := by decide +kernel
theorem dX5_layTasks_175 : decode cX5_layTasks 175 = .ok (.iastore, 1) := by decide +kernel
theorem dX5_layTasks_176 : decode cX5_layTasks 176 = .ok (.iinc 2 1, 3) := by decide +kernel
theorem dX5_layTasks_179 : decode cX5_layTasks 179 = .ok (.goto (-156), 3) := by decide +kernel
theorem dX5_layTasks_182 : decode cX5_layTasks 182 = .ok (.return_, 1) := by decide +kernel
theorem dX5_burst_0 : decode cX5_burst 0 = .ok (.aload_n 0, 1) := by decide +kernel
theorem dX5_burst_1 : decode cX5_burst 1 = .ok (.aload_n 0, 1) := by decide +kernel
theorem dX5_burst_2 : decode cX5_burst 2 = .ok (.iconst 0, 1) := by decide +kernel
theorem dX5_burst_3 : decode cX5_burst 3 = .ok (.invokevirtual 61, 3) := by decide +kernel
theorem dX5_burst_6 : decode cX5_burst 6 = .ok (.invokevirtual 65, 3) := by decide +kernel
theorem dX5_burst_9 : decode cX5_burst 9 = .ok (.bipush (-6), 2) := by decide +kernel
theorem dX5_burst_11 : decode cX5_burst 11 = .ok (.istore_n 1, 1) := by decide +kernel
theorem dX5_burst_12 : decode cX5_burst 12 = .ok (.iconst 0, 1) := by decide +kernel
theorem dX5_burst_13 : decode cX5_burst 13 = .ok (.istore_n 2, 1) := by decide +kernel
theorem dX5_burst_14 : decode cX5_burst 14 = .ok (.iconst 0, 1) := by decide +kernel
theorem dX5_burst_15 : decode cX5_burst 15 = .ok (.istore_n 3, 1) := by decide +kernel
theorem dX5_burst_16 : decode cX5_burst 16 = .ok (.iload_n 3, 1) := by decide +kernel
theorem dX5_burst_17 : decode cX5_burst 17 = .ok (.aload_n 0, 1) := by decide +kernel
theorem dX5_burst_18 : decode cX5_burst 18 = .ok (.getfield 7, 3) := by decide +kernel
theorem dX5_burst_21 : decode cX5_burst 21 = .ok (.iconst 3, 1) := by decide +kernel
theorem dX5_burst_22 : decode cX5_burst 22 = .ok (.iaload, 1) := by decide +kernel
theorem dX5_burst_23 : decode cX5_burst 23 = .ok (.if_icmp .ge 47, 3) := by decide +kernel
theorem dX5_burst_26 : decode cX5_burst 26 = .ok (.aload_n 0, 1) := by decide +kernel
theorem dX5_burst_27 : decode cX5_burst 27 = .ok (.iload_n 3, 1) := by decide +kernel
theorem dX5_burst_28 : decode cX5_burst 28 = .ok (.invokevirtual 69, 3) := by decide +kernel
theorem dX5_burst_31 : decode cX5_burst 31 = .ok (.ifCond .eq 19, 3) := by decide +kernel
theorem dX5_burst_34 : decode cX5_burst 34 = .ok (.aload_n 0, 1) := by decide +kernel
theorem dX5_burst_35 : decode cX5_burst 35 = .ok (.getfield 29, 3) := by decide +kernel
theorem dX5_burst_38 : decode cX5_burst 38 = .ok (.iload_n 3, 1) := by decide +kernel
theorem dX5_burst_39 : decode cX5_burst 39 = .ok (.iaload, 1) := by decide +kernel
theorem dX5_burst_40 : decode cX5_burst 40 = .ok (.aload_n 0, 1) := by decide +kernel
theorem dX5_burst_41 : decode cX5_burst 41 = .ok (.iload_n 3, 1) := by decide +kernel
theorem dX5_burst_42 : decode cX5_burst 42 = .ok (.iconst 3, 1) := by decide +kernel
theorem dX5_burst_43 : decode cX5_burst 43 = .ok (.invokevirtual 47, 3) := by decide +kernel
theorem dX5_burst_46 : decode cX5_burst 46 = .ok (.isub, 1) := by decide +kernel
theorem dX5_burst_47 : decode cX5_burst 47 = .ok (.goto 4, 3) := by decide +kernel
theorem dX5_burst_50 : decode cX5_burst 50 = .ok (.iconst 0, 1) := by decide +kernel
theorem dX5_burst_51 : decode cX5_burst 51 = .ok (.istore 4, 2) := by decide +kernel
theorem dX5_burst_53 : decode cX5_burst 53 = .ok (.iload 4, 2) := by decide +kernel
theorem dX5_burst_55 : decode cX5_burst 55 = .ok (.iload_n 2, 1) := by decide +kernel
theorem dX5_burst_56 : decode cX5_burst 56 = .ok (.if_icmp .le 8, 3) := by decide +kernel
theorem dX5_burst_59 : decode cX5_burst 59 = .ok (.iload_n 3, 1) := by decide +kernel
theorem dX5_burst_60 : decode cX5_burst 60 = .ok (.istore_n 1, 1) := by decide +kernel
theorem dX5_burst_61 : decode cX5_burst 61 = .ok (.iload 4, 2) := by decide +kernel
theorem dX5_burst_63 : decode cX5_burst 63 = .ok (.istore_n 2, 1) := by decide +kernel
theorem dX5_burst_64 : decode cX5_burst 64 = .ok (.iinc 3 1, 3) := by decide +kernel
theorem dX5_burst_67 : decode cX5_burst 67 = .ok (.goto (-51), 3) := by decide +kernel
theorem dX5_burst_70 : decode cX5_burst 70 = .ok (.iload_n 1, 1) := by decide +kernel
theorem dX5_burst_71 : decode cX5_burst 71 = .ok (.ireturn, 1) := by decide +kernel
theorem dX5_breakWire_0 : decode cX5_breakWire 0 = .ok (.aload_n 0, 1) := by decide +kernel
theorem dX5_breakWire_1 : decode cX5_breakWire 1 = .ok (.iload_n 1, 1) := by decide +kernel
theorem dX5_breakWire_2 : decode cX5_breakWire 2 = .ok (.iconst 5, 1) := by decide +kernel
theorem dX5_breakWire_3 : decode cX5_breakWire 3 = .ok (.iconst 1, 1) := by decide +kernel
theorem dX5_breakWire_4 : decode cX5_breakWire 4 = .ok (.invokevirtual 73, 3) := by decide +kernel
theorem dX5_breakWire_7 : decode cX5_breakWire 7 = .ok (.aload_n 0, 1) := by decide +kernel
theorem dX5_breakWire_8 : decode cX5_breakWire 8 = .ok (.iload_n 1, 1) := by decide +kernel
theorem dX5_breakWire_9 : decode cX5_breakWire 9 = .ok (.iconst 4, 1) := by decide +kernel
theorem dX5_breakWire_10 : decode cX5_breakWire 10 = .ok (.iconst 0, 1) := by decide +kernel
theorem dX5_breakWire_11 : decode cX5_breakWire 11 = .ok (.invokevirtual 73, 3) := by decide +kernel
theorem dX5_breakWire_14 : decode cX5_breakWire 14 = .ok (.aload_n 0, 1) := by decide +kernel
theorem dX5_breakWire_15 : decode cX5_breakWire 15 = .ok (.iload_n 1, 1) := by decide +kernel
theorem dX5_breakWire_16 : decode cX5_breakWire 16 = .ok (.bipush 6, 2) := by decide +kernel
theorem dX5_breakWire_18 : decode cX5_breakWire 18 = .ok (.aload_n 0, 1) := by decide +kernel
theorem dX5_breakWire_19 : decode cX5_breakWire 19 = .ok (.getfield 7, 3) := by decide +kernel
theorem dX5_breakWire_22 : decode cX5_breakWire 22 = .ok (.iconst 2, 1) := by decide +kernel
theorem dX5_breakWire_23 : decode cX5_breakWire 23 = .ok (.iaload, 1) := by decide +kernel
theorem dX5_breakWire_24 : decode cX5_breakWire 24 = .ok (.invokevirtual 73, 3) := by decide +kernel
theorem dX5_breakWire_27 : decode cX5_breakWire 27 = .ok (.return_, 1) := by decide +kernel
theorem dX5_settle_0 : decode cX5_settle 0 = .ok (.iconst 0, 1) := by decide +kernel
theorem dX5_settle_1 : decode cX5_settle 1 = .ok (.istore_n 1, 1) := by decide +kernel
theorem dX5_settle_2 : decode cX5_settle 2 = .ok (.aload_n 0, 1) := by decide +kernel
theorem dX5_settle_3 : decode cX5_settle 3 = .ok (.invokevirtual 77, 3) := by decide +kernel
theorem dX5_settle_6 : decode cX5_settle 6 = .ok (.istore_n 2, 1) := by decide +kernel
theorem dX5_settle_7 : decode cX5_settle 7 = .ok (.iload_n 2, 1) := by decide +kernel
theorem dX5_settle_8 : decode cX5_settle 8 = .ok (.ifCond .lt 19, 3) := by decide +kernel
theorem dX5_settle_11 : decode cX5_settle 11 = .ok (.aload_n 0, 1) := by decide +kernel
theorem dX5_settle_12 : decode cX5_settle 12 = .ok (.iload_n 2, 1) := by decide +kernel
theorem dX5_settle_13 : decode cX5_settle 13 = .ok (.invokevirtual 81, 3) := by decide +kernel
theorem dX5_settle_16 : decode cX5_settle 16 = .ok (.iinc 1 1, 3) := by decide +kernel
theorem dX5_settle_19 : decode cX5_settle 19 = .ok (.aload_n 0, 1) := by decide +kernel
theorem dX5_settle_20 : decode cX5_settle 20 = .ok (.invokevirtual 77, 3) := by decide +kernel
theorem dX5_settle_23 : decode cX5_settle 23 = .ok (.istore_n 2, 1) := by decide +kernel
theorem dX5_settle_24 : decode cX5_settle 24 = .ok (.goto (-17), 3) := by decide +kernel
theorem dX5_settle_27 : decode cX5_settle 27 = .ok (.iload_n 1, 1) := by decide +kernel
theorem dX5_settle_28 : decode cX5_settle 28 = .ok (.ireturn, 1) := by decide +kernel
theorem dX5_set_0 : decode cX5_set 0 = .ok (.iload_n 1, 1) := by decide +kernel
theorem dX5_set_1 : decode cX5_set 1 = .ok (.iconst 0, 1) := by decide +kernel
theorem dX5_set_2 : decode cX5_set 2 = .ok (.iconst 1, 1) := by decide +kernel
theorem dX5_set_3 : decode cX5_set 3 = .ok (.invokestatic 43, 3) := by decide +kernel
theorem dX5_set_6 : decode cX5_set 6 = .ok (.ifCond .eq 13, 3) := by decide +kernel
theorem dX5_set_9 : decode cX5_set 9 = .ok (.iload_n 2, 1) := by decide +kernel
theorem dX5_set_10 : decode cX5_set 10 = .ok (.iconst 0, 1) := by decide +kernel
theorem dX5_set_11 : decode cX5_set 11 = .ok (.bipush 100, 2) := by decide +kernel
theorem dX5_set_13 : decode cX5_set 13 = .ok (.invokestatic 43, 3) := by decide +kernel
theorem dX5_set_16 : decode cX5_set 16 = .ok (.ifCond .ne 6, 3) := by decide +kernel
theorem dX5_set_19 : decode cX5_set 19 = .ok (.bipush (-2), 2) := by decide +kernel
theorem dX5_set_21 : decode cX5_set 21 = .ok (.ireturn, 1) := by decide +kernel
theorem dX5_set_22 : decode cX5_set 22 = .ok (.aload_n 0, 1) := by decide +kernel
theorem dX5_set_23 : decode cX5_set 23 = .ok (.invokevirtual 84, 3) := by decide +kernel
theorem dX5_set_26 : decode cX5_set 26 = .ok (.aload_n 0, 1) := by decide +kernel
theorem dX5_set_27 : decode cX5_set 27 = .ok (.getfield 7, 3) := by decide +kernel
theorem dX5_set_30 : decode cX5_set 30 = .ok (.iload_n 1, 1) := by decide +kernel
theorem dX5_set_31 : decode cX5_set 31 = .ok (.iaload, 1) := by decide +kernel
theorem dX5_set_32 : decode cX5_set 32 = .ok (.istore_n 3, 1) := by decide +kernel
theorem dX5_set_33 : decode cX5_set 33 = .ok (.aload_n 0, 1) := by decide +kernel
theorem dX5_set_34 : decode cX5_set 34 = .ok (.getfield 7, 3) := by decide +kernel
theorem dX5_set_37 : decode cX5_set 37 = .ok (.iload_n 1, 1) := by decide +kernel
theorem dX5_set_38 : decode cX5_set 38 = .ok (.iload_n 2, 1) := by decide +kernel
theorem dX5_set_39 : decode cX5_set 39 = .ok (.iastore, 1) := by decide +kernel
theorem dX5_set_40 : decode cX5_set 40 = .ok (.iload_n 3, 1) := by decide +kernel
theorem dX5_set_41 : decode cX5_set 41 = .ok (.ireturn, 1) := by decide +kernel
theorem dX5_wireAt_0 : decode cX5_wireAt 0 = .ok (.bipush (-6), 2) := by decide +kernel
theorem dX5_wireAt_2 : decode cX5_wireAt 2 = .ok (.istore_n 2, 1) := by decide +kernel
theorem dX5_wireAt_3 : decode cX5_wireAt 3 = .ok (.iconst 0, 1) := by decide +kernel
theorem dX5_wireAt_4 : decode cX5_wireAt 4 = .ok (.istore_n 3, 1) := by decide +kernel
theorem dX5_wireAt_5 : decode cX5_wireAt 5 = .ok (.iload_n 3, 1) := by decide +kernel
theorem dX5_wireAt_6 : decode cX5_wireAt 6 = .ok (.aload_n 0, 1) := by decide +kernel
theorem dX5_wireAt_7 : decode cX5_wireAt 7 = .ok (.getfield 7, 3) := by decide +kernel
theorem dX5_wireAt_10 : decode cX5_wireAt 10 = .ok (.iconst 3, 1) := by decide +kernel
theorem dX5_wireAt_11 : decode cX5_wireAt 11 = .ok (.iaload, 1) := by decide +kernel
theorem dX5_wireAt_12 : decode cX5_wireAt 12 = .ok (.if_icmp .ge 25, 3) := by decide +kernel
theorem dX5_wireAt_15 : decode cX5_wireAt 15 = .ok (.aload_n 0, 1) := by decide +kernel
theorem dX5_wireAt_16 : decode cX5_wireAt 16 = .ok (.iload_n 3, 1) := by decide +kernel
theorem dX5_wireAt_17 : decode cX5_wireAt 17 = .ok (.iconst 0, 1) := by decide +kernel
theorem dX5_wireAt_18 : decode cX5_wireAt 18 = .ok (.invokevirtual 47, 3) := by decide +kernel
theorem dX5_wireAt_21 : decode cX5_wireAt 21 = .ok (.iload_n 1, 1) := by decide +kernel
theorem dX5_wireAt_22 : decode cX5_wireAt 22 = .ok (.if_icmp .ne 7, 3) := by decide +kernel
theorem dX5_wireAt_25 : decode cX5_wireAt 25 = .ok (.iload_n 3, 1) := by decide +kernel
theorem dX5_wireAt_26 : decode cX5_wireAt 26 = .ok (.goto 4, 3) := by decide +kernel
theorem dX5_wireAt_29 : decode cX5_wireAt 29 = .ok (.iload_n 2, 1) := by decide +kernel
theorem dX5_wireAt_30 : decode cX5_wireAt 30 = .ok (.istore_n 2, 1) := by decide +kernel
theorem dX5_wireAt_31 : decode cX5_wireAt 31 = .ok (.iinc 3 1, 3) := by decide +kernel
theorem dX5_wireAt_34 : decode cX5_wireAt 34 = .ok (.goto (-29), 3) := by decide +kernel
theorem dX5_wireAt_37 : decode cX5_wireAt 37 = .ok (.iload_n 2, 1) := by decide +kernel
theorem dX5_wireAt_38 : decode cX5_wireAt 38 = .ok (.ireturn, 1) := by decide +kernel
theorem dX5_wire_0 : decode cX5_wire 0 = .ok (.iload_n 1, 1) := by decide +kernel
theorem dX5_wire_1 : decode cX5_wire 1 = .ok (.iconst 0, 1) := by decide +kernel
theorem dX5_wire_2 : decode cX5_wire 2 = .ok (.bipush 19, 2) := by decide +kernel
theorem dX5_wire_4 : decode cX5_wire 4 = .ok (.invokestatic 43, 3) := by decide +kernel
theorem dX5_wire_7 : decode cX5_wire 7 = .ok (.ifCond .eq 48, 3) := by decide +kernel
theorem dX5_wire_10 : decode cX5_wire 10 = .ok (.iload_n 2, 1) := by decide +kernel
theorem dX5_wire_11 : decode cX5_wire 11 = .ok (.bipush 10, 2) := by decide +kernel
theorem dX5_wire_13 : decode cX5_wire 13 = .ok (.sipush 200, 3) := by decide +kernel
theorem dX5_wire_16 : decode cX5_wire 16 = .ok (.invokestatic 43, 3) := by decide +kernel
theorem dX5_wire_19 : decode cX5_wire 19 = .ok (.ifCond .eq 36, 3) := by decide +kernel
theorem dX5_wire_22 : decode cX5_wire 22 = .ok (.iload_n 3, 1) := by decide +kernel
theorem dX5_wire_23 : decode cX5_wire 23 = .ok (.iconst 1, 1) := by decide +kernel
theorem dX5_wire_24 : decode cX5_wire 24 = .ok (.bipush 20, 2) := by decide +kernel
theorem dX5_wire_26 : decode cX5_wire 26 = .ok (.invokestatic 43, 3) := by decide +kernel
theorem dX5_wire_29 : decode cX5_wire 29 = .ok (.ifCond .eq 26, 3) := by decide +kernel
theorem dX5_wire_32 : decode cX5_wire 32 = .ok (.iload 4, 2) := by decide +kernel
theorem dX5_wire_34 : decode cX5_wire 34 = .ok (.bipush 100, 2) := by decide +kernel
theorem dX5_wire_36 : decode cX5_wire 36 = .ok (.ldc 87, 2) := by decide +kernel
theorem dX5_wire_38 : decode cX5_wire 38 = .ok (.invokestatic 43, 3) := by decide +kernel
theorem dX5_wire_41 : decode cX5_wire 41 = .ok (.ifCond .eq 14, 3) := by decide +kernel
theorem dX5_wire_44 : decode cX5_wire 44 = .ok (.iload 5, 2) := by decide +kernel
theorem dX5_wire_46 : decode cX5_wire 46 = .ok (.iconst 0, 1) := by decide +kernel
theorem dX5_wire_47 : decode cX5_wire 47 = .ok (.ldc 87, 2) := by decide +kernel
theorem dX5_wire_49 : decode cX5_wire 49 = .ok (.invokestatic 43, 3) := by decide +kernel
theorem dX5_wire_52 : decode cX5_wire 52 = .ok (.ifCond .ne 6, 3) := by decide +kernel
theorem dX5_wire_55 : decode cX5_wire 55 = .ok (.bipush (-2), 2) := by decide +kernel
theorem dX5_wire_57 : decode cX5_wire 57 = .ok (.ireturn, 1) := by decide +kernel
theorem dX5_wire_58 : decode cX5_wire 58 = .ok (.aload_n 0, 1) := by decide +kernel
theorem dX5_wire_59 : decode cX5_wire 59 = .ok (.getfield 7, 3) := by decide +kernel
theorem dX5_wire_62 : decode cX5_wire 62 = .ok (.iconst 3, 1) := by decide +kernel
theorem dX5_wire_63 : decode cX5_wire 63 = .ok (.iaload, 1) := by decide +kernel
theorem dX5_wire_64 : decode cX5_wire 64 = .ok (.bipush 8, 2) := by decide +kernel
theorem dX5_wire_66 : decode cX5_wire 66 = .ok (.if_icmp .ne 6, 3) := by decide +kernel
theorem dX5_wire_69 : decode cX5_wire 69 = .ok (.bipush (-4), 2) := by decide +kernel
theorem dX5_wire_71 : decode cX5_wire 71 = .ok (.ireturn, 1) := by decide +kernel
theorem dX5_wire_72 : decode cX5_wire 72 = .ok (.aload_n 0, 1) := by decide +kernel
theorem dX5_wire_73 : decode cX5_wire 73 = .ok (.iload_n 1, 1) := by decide +kernel
theorem dX5_wire_74 : decode cX5_wire 74 = .ok (.invokevirtual 88, 3) := by decide +kernel
theorem dX5_wire_77 : decode cX5_wire 77 = .ok (.ifCond .ge 10, 3) := by decide +kernel
theorem dX5_wire_80 : decode cX5_wire 80 = .ok (.iload 5, 2) := by decide +kernel
theorem dX5_wire_82 : decode cX5_wire 82 = .ok (.iload 4, 2) := by decide +kernel
theorem dX5_wire_84 : decode cX5_wire 84 = .ok (.if_icmp .le 6, 3) := by decide +kernel
theorem dX5_wire_87 : decode cX5_wire 87 = .ok (.bipush (-5), 2) := by decide +kernel
theorem dX5_wire_89 : decode cX5_wire 89 = .ok (.ireturn, 1) := by decide +kernel
theorem dX5_wire_90 : decode cX5_wire 90 = .ok (.aload_n 0, 1) := by decide +kernel
theorem dX5_wire_91 : decode cX5_wire 91 = .ok (.invokevirtual 84, 3) := by decide +kernel
theorem dX5_wire_94 : decode cX5_wire 94 = .ok (.aload_n 0, 1) := by decide +kernel
theorem dX5_wire_95 : decode cX5_wire 95 = .ok (.getfield 7, 3) := by decide +kernel
theorem dX5_wire_98 : decode cX5_wire 98 = .ok (.iconst 3, 1) := by decide +kernel
theorem dX5_wire_99 : decode cX5_wire 99 = .ok (.iaload, 1) := by decide +kernel
theorem dX5_wire_100 : decode cX5_wire 100 = .ok (.istore 6, 2) := by decide +kernel
theorem dX5_wire_102 : decode cX5_wire 102 = .ok (.aload_n 0, 1) := by decide +kernel
theorem dX5_wire_103 : decode cX5_wire 103 = .ok (.getfield 7, 3) := by decide +kernel
theorem dX5_wire_106 : decode cX5_wire 106 = .ok (.iconst 3, 1) := by decide +kernel
theorem dX5_wire_107 : decode cX5_wire 107 = .ok (.dup2, 1) := by decide +kernel
theorem dX5_wire_108 : decode cX5_wire 108 = .ok (.iaload, 1) := by decide +kernel
theorem dX5_wire_109 : decode cX5_wire 109 = .ok (.iconst 1, 1) := by decide +kernel
theorem dX5_wire_110 : decode cX5_wire 110 = .ok (.iadd, 1) := by decide +kernel
theorem dX5_wire_111 : decode cX5_wire 111 = .ok (.iastore, 1) := by decide +kernel
theorem dX5_wire_112 : decode cX5_wire 112 = .ok (.aload_n 0, 1) := by decide +kernel
theorem dX5_wire_113 : decode cX5_wire 113 = .ok (.iload 6, 2) := by decide +kernel
theorem dX5_wire_115 : decode cX5_wire 115 = .ok (.iconst 0, 1) := by decide +kernel
theorem dX5_wire_116 : decode cX5_wire 116 = .ok (.iload_n 1, 1) := by decide +kernel
theorem dX5_wire_117 : decode cX5_wire 117 = .ok (.invokevirtual 73, 3) := by decide +kernel
theorem dX5_wire_120 : decode cX5_wire 120 = .ok (.aload_n 0, 1) := by decide +kernel
theorem dX5_wire_121 : decode cX5_wire 121 = .ok (.iload 6, 2) := by decide +kernel
theorem dX5_wire_123 : decode cX5_wire 123 = .ok (.iconst 1, 1) := by decide +kernel
theorem dX5_wire_124 : decode cX5_wire 124 = .ok (.iload_n 2, 1) := by decide +kernel
theorem dX5_wire_125 : decode cX5_wire 125 = .ok (.invokevirtual 73, 3) := by decide +kernel
theorem dX5_wire_128 : decode cX5_wire 128 = .ok (.aload_n 0, 1) := by decide +kernel
theorem dX5_wire_129 : decode cX5_wire 129 = .ok (.iload 6, 2) := by decide +kernel
theorem dX5_wire_131 : decode cX5_wire 131 = .ok (.iconst 2, 1) := by decide +kernel
theorem dX5_wire_132 : decode cX5_wire 132 = .ok (.iload_n 3, 1) := by decide +kernel
theorem dX5_wire_133 : decode cX5_wire 133 = .ok (.invokevirtual 73, 3) := by decide +kernel
theorem dX5_wire_136 : decode cX5_wire 136 = .ok (.aload_n 0, 1) := by decide +kernel
theorem dX5_wire_137 : decode cX5_wire 137 = .ok (.iload 6, 2) := by decide +kernel
theorem dX5_wire_139 : decode cX5_wire 139 = .ok (.iconst 3, 1) := by decide +kernel
theorem dX5_wire_140 : decode cX5_wire 140 = .ok (.iload 4, 2) := by decide +kernel
theorem dX5_wire_142 : decode cX5_wire 142 = .ok (.invokevirtual 73, 3) := by decide +kernel
theorem dX5_wire_145 : decode cX5_wire 145 = .ok (.aload_n 0, 1) := by decide +kernel
theorem dX5_wire_146 : decode cX5_wire 146 = .ok (.iload 6, 2) := by decide +kernel
theorem dX5_wire_148 : decode cX5_wire 148 = .ok (.iconst 4, 1) := by decide +kernel
theorem dX5_wire_149 : decode cX5_wire 149 = .ok (.iload 5, 2) := by decide +kernel
theorem dX5_wire_151 : decode cX5_wire 151 = .ok (.invokevirtual 73, 3) := by decide +kernel
theorem dX5_wire_154 : decode cX5_wire 154 = .ok (.aload_n 0, 1) := by decide +kernel
theorem dX5_wire_155 : decode cX5_wire 155 = .ok (.iload 6, 2) := by decide +kernel
theorem dX5_wire_157 : decode cX5_wire 157 = .ok (.bipush 6, 2) := by decide +kernel
theorem dX5_wire_159 : decode cX5_wire 159 = .ok (.bipush (-6), 2) := by decide +kernel
theorem dX5_wire_161 : decode cX5_wire 161 = .ok (.invokevirtual 73, 3) := by decide +kernel
theorem dX5_wire_164 : decode cX5_wire 164 = .ok (.aload_n 0, 1) := by decide +kernel
theorem dX5_wire_165 : decode cX5_wire 165 = .ok (.iload 6, 2) := by decide +kernel
theorem dX5_wire_167 : decode cX5_wire 167 = .ok (.bipush 7, 2) := by decide +kernel
theorem dX5_wire_169 : decode cX5_wire 169 = .ok (.bipush (-6), 2) := by decide +kernel
theorem dX5_wire_171 : decode cX5_wire 171 = .ok (.invokevirtual 73, 3) := by decide +kernel
theorem dX5_wire_174 : decode cX5_wire 174 = .ok (.aload_n 0, 1) := by decide +kernel
theorem dX5_wire_175 : decode cX5_wire 175 = .ok (.iload 6, 2) := by decide +kernel
theorem dX5_wire_177 : decode cX5_wire 177 = .ok (.bipush 8, 2) := by decide +kernel
theorem dX5_wire_179 : decode cX5_wire 179 = .ok (.bipush (-6), 2) := by decide +kernel
theorem dX5_wire_181 : decode cX5_wire 181 = .ok (.invokevirtual 73, 3) := by decide +kernel
theorem dX5_wire_184 : decode cX5_wire 184 = .ok (.aload_n 0, 1) := by decide +kernel
theorem dX5_wire_185 : decode cX5_wire 185 = .ok (.iload 6, 2) := by decide +kernel
theorem dX5_wire_187 : decode cX5_wire 187 = .ok (.bipush 9, 2) := by decide +kernel
theorem dX5_wire_189 : decode cX5_wire 189 = .ok (.bipush (-6), 2) := by decide +kernel
theorem dX5_wire_191 : decode cX5_wire 191 = .ok (.invokevirtual 73, 3) := by decide +kernel
theorem dX5_wire_194 : decode cX5_wire 194 = .ok (.aload_n 0, 1) := by decide +kernel
theorem dX5_wire_195 : decode cX5_wire 195 = .ok (.invokevirtual 91, 3) := by decide +kernel
theorem dX5_wire_198 : decode cX5_wire 198 = .ok (.pop, 1) := by decide +kernel
theorem dX5_wire_199 : decode cX5_wire 199 = .ok (.iload 6, 2) := by decide +kernel
theorem dX5_wire_201 : decode cX5_wire 201 = .ok (.ireturn, 1) := by decide +kernel
theorem dX5_load_0 : decode cX5_load 0 = .ok (.iload_n 1, 1) := by decide +kernel
theorem dX5_load_1 : decode cX5_load 1 = .ok (.iconst 0, 1) := by decide +kernel
theorem dX5_load_2 : decode cX5_load 2 = .ok (.bipush 19, 2) := by decide +kernel
theorem dX5_load_4 : decode cX5_load 4 = .ok (.invokestatic 43, 3) := by decide +kernel
theorem dX5_load_7 : decode cX5_load 7 = .ok (.ifCond .ne 5, 3) := by decide +kernel
theorem dX5_load_10 : decode cX5_load 10 = .ok (.iconst (-1), 1) := by decide +kernel
theorem dX5_load_11 : decode cX5_load 11 = .ok (.ireturn, 1) := by decide +kernel
theorem dX5_load_12 : decode cX5_load 12 = .ok (.iload_n 2, 1) := by decide +kernel
theorem dX5_load_13 : decode cX5_load 13 = .ok (.iconst 0, 1) := by decide +kernel
theorem dX5_load_14 : decode cX5_load 14 = .ok (.sipush 1000, 3) := by decide +kernel
theorem dX5_load_17 : decode cX5_load 17 = .ok (.invokestatic 43, 3) := by decide +kernel
theorem dX5_load_20 : decode cX5_load 20 = .ok (.ifCond .ne 6, 3) := by decide +kernel
theorem dX5_load_23 : decode cX5_load 23 = .ok (.bipush (-2), 2) := by decide +kernel
theorem dX5_load_25 : decode cX5_load 25 = .ok (.ireturn, 1) := by decide +kernel
theorem dX5_load_26 : decode cX5_load 26 = .ok (.aload_n 0, 1) := by decide +kernel
theorem dX5_load_27 : decode cX5_load 27 = .ok (.invokevirtual 84, 3) := by decide +kernel
theorem dX5_load_30 : decode cX5_load 30 = .ok (.aload_n 0, 1) := by decide +kernel
theorem dX5_load_31 : decode cX5_load 31 = .ok (.getfield 7, 3) := by decide +kernel
theorem dX5_load_34 : decode cX5_load 34 = .ok (.bipush 10, 2) := by decide +kernel
theorem dX5_load_36 : decode cX5_load 36 = .ok (.iload_n 1, 1) := by decide +kernel
theorem dX5_load_37 : decode cX5_load 37 = .ok (.iadd, 1) := by decide +kernel
theorem dX5_load_38 : decode cX5_load 38 = .ok (.iaload, 1) := by decide +kernel
theorem dX5_load_39 : decode cX5_load 39 = .ok (.istore_n 3, 1) := by decide +kernel
theorem dX5_load_40 : decode cX5_load 40 = .ok (.aload_n 0, 1) := by decide +kernel
theorem dX5_load_41 : decode cX5_load 41 = .ok (.getfield 7, 3) := by decide +kernel
theorem dX5_load_44 : decode cX5_load 44 = .ok (.bipush 10, 2) := by decide +kernel
theorem dX5_load_46 : decode cX5_load 46 = .ok (.iload_n 1, 1) := by decide +kernel
theorem dX5_load_47 : decode cX5_load 47 = .ok (.iadd, 1) := by decide +kernel
theorem dX5_load_48 : decode cX5_load 48 = .ok (.iload_n 2, 1) := by decide +kernel
theorem dX5_load_49 : decode cX5_load 49 = .ok (.iastore, 1) := by decide +kernel
theorem dX5_load_50 : decode cX5_load 50 = .ok (.aload_n 0, 1) := by decide +kernel
theorem dX5_load_51 : decode cX5_load 51 = .ok (.invokevirtual 91, 3) := by decide +kernel
theorem dX5_load_54 : decode cX5_load 54 = .ok (.pop, 1) := by decide +kernel
theorem dX5_load_55 : decode cX5_load 55 = .ok (.iload_n 3, 1) := by decide +kernel
theorem dX5_load_56 : decode cX5_load 56 = .ok (.ireturn, 1) := by decide +kernel
theorem dX5_loosened_0 : decode cX5_loosened 0 = .ok (.iload_n 1, 1) := by decide +kernel
theorem dX5_loosened_1 : decode cX5_loosened 1 = .ok (.ifCond .ge 7, 3) := by decide +kernel
theorem dX5_loosened_4 : decode cX5_loosened 4 = .ok (.iload_n 1, 1) := by decide +kernel
theorem dX5_loosened_5 : decode cX5_loosened 5 = .ok (.goto 21, 3) := by decide +kernel
theorem dX5_loosened_8 : decode cX5_loosened 8 = .ok (.iload_n 1, 1) := by decide +kernel
theorem dX5_loosened_9 : decode cX5_loosened 9 = .ok (.iload_n 1, 1) := by decide +kernel
theorem dX5_loosened_10 : decode cX5_loosened 10 = .ok (.aload_n 0, 1) := by decide +kernel
theorem dX5_loosened_11 : decode cX5_loosened 11 = .ok (.getfield 7, 3) := by decide +kernel
theorem dX5_loosened_14 : decode cX5_loosened 14 = .ok (.iconst 0, 1) := by decide +kernel
theorem dX5_loosened_15 : decode cX5_loosened 15 = .ok (.iaload, 1) := by decide +kernel
theorem dX5_loosened_16 : decode cX5_loosened 16 = .ok (.imul, 1) := by decide +kernel
theorem dX5_loosened_17 : decode cX5_loosened 17 = .ok (.sipush 999, 3) := by decide +kernel
theorem dX5_loosened_20 : decode cX5_loosened 20 = .ok (.iadd, 1) := by decide +kernel
theorem dX5_loosened_21 : decode cX5_loosened 21 = .ok (.sipush 1000, 3) := by decide +kernel
theorem dX5_loosened_24 : decode cX5_loosened 24 = .ok (.idiv, 1) := by decide +kernel
theorem dX5_loosened_25 : decode cX5_loosened 25 = .ok (.isub, 1) := by decide +kernel
theorem dX5_loosened_26 : decode cX5_loosened 26 = .ok (.ireturn, 1) := by decide +kernel
theorem dX5_pass_0 : decode cX5_pass 0 = .ok (.iconst 0, 1) := by decide +kernel
theorem dX5_pass_1 : decode cX5_pass 1 = .ok (.istore_n 1, 1) := by decide +kernel
theorem dX5_pass_2 : decode cX5_pass 2 = .ok (.iload_n 1, 1) := by decide +kernel
theorem dX5_pass_3 : decode cX5_pass 3 = .ok (.aload_n 0, 1) := by decide +kernel
theorem dX5_pass_4 : decode cX5_pass 4 = .ok (.getfield 7, 3) := by decide +kernel
theorem dX5_pass_7 : decode cX5_pass 7 = .ok (.iconst 3, 1) := by decide +kernel
theorem dX5_pass_8 : decode cX5_pass 8 = .ok (.iaload, 1) := by decide +kernel
theorem dX5_pass_9 : decode cX5_pass 9 = .ok (.if_icmp .ge 61, 3) := by decide +kernel
theorem dX5_pass_12 : decode cX5_pass 12 = .ok (.aload_n 0, 1) := by decide +kernel
theorem dX5_pass_13 : decode cX5_pass 13 = .ok (.iload_n 1, 1) := by decide +kernel
theorem dX5_pass_14 : decode cX5_pass 14 = .ok (.iconst 4, 1) := by decide +kernel
theorem dX5_pass_15 : decode cX5_pass 15 = .ok (.aload_n 0, 1) := by decide +kernel
theorem dX5_pass_16 : decode cX5_pass 16 = .ok (.aload_n 0, 1) := by decide +kernel
theorem dX5_pass_17 : decode cX5_pass 17 = .ok (.iload_n 1, 1) := by decide +kernel
theorem dX5_pass_18 : decode cX5_pass 18 = .ok (.iconst 4, 1) := by decide +kernel
theorem dX5_pass_19 : decode cX5_pass 19 = .ok (.invokevirtual 47, 3) := by decide +kernel
theorem dX5_pass_22 : decode cX5_pass 22 = .ok (.invokevirtual 94, 3) := by decide +kernel
theorem dX5_pass_25 : decode cX5_pass 25 = .ok (.invokevirtual 73, 3) := by decide +kernel
theorem dX5_pass_28 : decode cX5_pass 28 = .ok (.aload_n 0, 1) := by decide +kernel
theorem dX5_pass_29 : decode cX5_pass 29 = .ok (.iload_n 1, 1) := by decide +kernel
theorem dX5_pass_30 : decode cX5_pass 30 = .ok (.bipush 8, 2) := by decide +kernel
theorem dX5_pass_32 : decode cX5_pass 32 = .ok (.aload_n 0, 1) := by decide +kernel
theorem dX5_pass_33 : decode cX5_pass 33 = .ok (.aload_n 0, 1) := by decide +kernel
theorem dX5_pass_34 : decode cX5_pass 34 = .ok (.iload_n 1, 1) := by decide +kernel
theorem dX5_pass_35 : decode cX5_pass 35 = .ok (.bipush 8, 2) := by decide +kernel
theorem dX5_pass_37 : decode cX5_pass 37 = .ok (.invokevirtual 47, 3) := by decide +kernel
theorem dX5_pass_40 : decode cX5_pass 40 = .ok (.invokevirtual 94, 3) := by decide +kernel
theorem dX5_pass_43 : decode cX5_pass 43 = .ok (.invokevirtual 73, 3) := by decide +kernel
theorem dX5_pass_46 : decode cX5_pass 46 = .ok (.aload_n 0, 1) := by decide +kernel
theorem dX5_pass_47 : decode cX5_pass 47 = .ok (.iload_n 1, 1) := by decide +kernel
theorem dX5_pass_48 : decode cX5_pass 48 = .ok (.bipush 9, 2) := by decide +kernel
theorem dX5_pass_50 : decode cX5_pass 50 = .ok (.aload_n 0, 1) := by decide +kernel
theorem dX5_pass_51 : decode cX5_pass 51 = .ok (.aload_n 0, 1) := by decide +kernel
theorem dX5_pass_52 : decode cX5_pass 52 = .ok (.iload_n 1, 1) := by decide +kernel
theorem dX5_pass_53 : decode cX5_pass 53 = .ok (.bipush 9, 2) := by decide +kernel
theorem dX5_pass_55 : decode cX5_pass 55 = .ok (.invokevirtual 47, 3) := by decide +kernel
theorem dX5_pass_58 : decode cX5_pass 58 = .ok (.invokevirtual 94, 3) := by decide +kernel
theorem dX5_pass_61 : decode cX5_pass 61 = .ok (.invokevirtual 73, 3) := by decide +kernel
theorem dX5_pass_64 : decode cX5_pass 64 = .ok (.iinc 1 1, 3) := by decide +kernel
theorem dX5_pass_67 : decode cX5_pass 67 = .ok (.goto (-65), 3) := by decide +kernel
theorem dX5_pass_70 : decode cX5_pass 70 = .ok (.aload_n 0, 1) := by decide +kernel
theorem dX5_pass_71 : decode cX5_pass 71 = .ok (.invokevirtual 91, 3) := by decide +kernel
theorem dX5_pass_74 : decode cX5_pass 74 = .ok (.istore_n 1, 1) := by decide +kernel
theorem dX5_pass_75 : decode cX5_pass 75 = .ok (.aload_n 0, 1) := by decide +kernel
theorem dX5_pass_76 : decode cX5_pass 76 = .ok (.getfield 7, 3) := by decide +kernel
theorem dX5_pass_79 : decode cX5_pass 79 = .ok (.iconst 2, 1) := by decide +kernel
theorem dX5_pass_80 : decode cX5_pass 80 = .ok (.dup2, 1) := by decide +kernel
theorem dX5_pass_81 : decode cX5_pass 81 = .ok (.iaload, 1) := by decide +kernel
theorem dX5_pass_82 : decode cX5_pass 82 = .ok (.iconst 1, 1) := by decide +kernel
theorem dX5_pass_83 : decode cX5_pass 83 = .ok (.iadd, 1) := by decide +kernel
theorem dX5_pass_84 : decode cX5_pass 84 = .ok (.iastore, 1) := by decide +kernel
theorem dX5_pass_85 : decode cX5_pass 85 = .ok (.iload_n 1, 1) := by decide +kernel
theorem dX5_pass_86 : decode cX5_pass 86 = .ok (.ireturn, 1) := by decide +kernel
theorem dX5_days_0 : decode cX5_days 0 = .ok (.iload_n 1, 1) := by decide +kernel
theorem dX5_days_1 : decode cX5_days 1 = .ok (.iconst 1, 1) := by decide +kernel
theorem dX5_days_2 : decode cX5_days 2 = .ok (.bipush 100, 2) := by decide +kernel
theorem dX5_days_4 : decode cX5_days 4 = .ok (.invokestatic 43, 3) := by decide +kernel
theorem dX5_days_7 : decode cX5_days 7 = .ok (.ifCond .ne 6, 3) := by decide +kernel
theorem dX5_days_10 : decode cX5_days 10 = .ok (.bipush (-2), 2) := by decide +kernel
theorem dX5_days_12 : decode cX5_days 12 = .ok (.ireturn, 1) := by decide +kernel
theorem dX5_days_13 : decode cX5_days 13 = .ok (.aload_n 0, 1) := by decide +kernel
theorem dX5_days_14 : decode cX5_days 14 = .ok (.invokevirtual 84, 3) := by decide +kernel
theorem dX5_days_17 : decode cX5_days 17 = .ok (.iconst 0, 1) := by decide +kernel
theorem dX5_days_18 : decode cX5_days 18 = .ok (.istore_n 2, 1) := by decide +kernel
theorem dX5_days_19 : decode cX5_days 19 = .ok (.iconst 0, 1) := by decide +kernel
theorem dX5_days_20 : decode cX5_days 20 = .ok (.istore_n 3, 1) := by decide +kernel
theorem dX5_days_21 : decode cX5_days 21 = .ok (.iload_n 3, 1) := by decide +kernel
theorem dX5_days_22 : decode cX5_days 22 = .ok (.iload_n 1, 1) := by decide +kernel
theorem dX5_days_23 : decode cX5_days 23 = .ok (.if_icmp .ge 16, 3) := by decide +kernel
theorem dX5_days_26 : decode cX5_days 26 = .ok (.iload_n 2, 1) := by decide +kernel
theorem dX5_days_27 : decode cX5_days 27 = .ok (.aload_n 0, 1) := by decide +kernel
theorem dX5_days_28 : decode cX5_days 28 = .ok (.invokevirtual 97, 3) := by decide +kernel
theorem dX5_days_31 : decode cX5_days 31 = .ok (.iadd, 1) := by decide +kernel
theorem dX5_days_32 : decode cX5_days 32 = .ok (.istore_n 2, 1) := by decide +kernel
theorem dX5_days_33 : decode cX5_days 33 = .ok (.iinc 3 1, 3) := by decide +kernel
theorem dX5_days_36 : decode cX5_days 36 = .ok (.goto (-15), 3) := by decide +kernel
theorem dX5_days_39 : decode cX5_days 39 = .ok (.iload_n 2, 1) := by decide +kernel
theorem dX5_days_40 : decode cX5_days 40 = .ok (.ireturn, 1) := by decide +kernel
theorem dX5_walk_0 : decode cX5_walk 0 = .ok (.iload_n 1, 1) := by decide +kernel
theorem dX5_walk_1 : decode cX5_walk 1 = .ok (.iconst 0, 1) := by decide +kernel
theorem dX5_walk_2 : decode cX5_walk 2 = .ok (.bipush 19, 2) := by decide +kernel
theorem dX5_walk_4 : decode cX5_walk 4 = .ok (.invokestatic 43, 3) := by decide +kernel
theorem dX5_walk_7 : decode cX5_walk 7 = .ok (.ifCond .ne 5, 3) := by decide +kernel
theorem dX5_walk_10 : decode cX5_walk 10 = .ok (.iconst (-1), 1) := by decide +kernel
theorem dX5_walk_11 : decode cX5_walk 11 = .ok (.ireturn, 1) := by decide +kernel
theorem dX5_walk_12 : decode cX5_walk 12 = .ok (.aload_n 0, 1) := by decide +kernel
theorem dX5_walk_13 : decode cX5_walk 13 = .ok (.invokevirtual 84, 3) := by decide +kernel
theorem dX5_walk_16 : decode cX5_walk 16 = .ok (.iload_n 1, 1) := by decide +kernel
theorem dX5_walk_17 : decode cX5_walk 17 = .ok (.aload_n 0, 1) := by decide +kernel
theorem dX5_walk_18 : decode cX5_walk 18 = .ok (.getfield 7, 3) := by decide +kernel
theorem dX5_walk_21 : decode cX5_walk 21 = .ok (.iconst 4, 1) := by decide +kernel
theorem dX5_walk_22 : decode cX5_walk 22 = .ok (.iaload, 1) := by decide +kernel
theorem dX5_walk_23 : decode cX5_walk 23 = .ok (.if_icmp .ge 14, 3) := by decide +kernel
theorem dX5_walk_26 : decode cX5_walk 26 = .ok (.aload_n 0, 1) := by decide +kernel
theorem dX5_walk_27 : decode cX5_walk 27 = .ok (.getfield 7, 3) := by decide +kernel
theorem dX5_walk_30 : decode cX5_walk 30 = .ok (.iconst 4, 1) := by decide +kernel
theorem dX5_walk_31 : decode cX5_walk 31 = .ok (.iaload, 1) := by decide +kernel
theorem dX5_walk_32 : decode cX5_walk 32 = .ok (.iload_n 1, 1) := by decide +kernel
theorem dX5_walk_33 : decode cX5_walk 33 = .ok (.isub, 1) := by decide +kernel
theorem dX5_walk_34 : decode cX5_walk 34 = .ok (.goto 11, 3) := by decide +kernel
theorem dX5_walk_37 : decode cX5_walk 37 = .ok (.iload_n 1, 1) := by decide +kernel
theorem dX5_walk_38 : decode cX5_walk 38 = .ok (.aload_n 0, 1) := by decide +kernel
theorem dX5_walk_39 : decode cX5_walk 39 = .ok (.getfield 7, 3) := by decide +kernel
theorem dX5_walk_42 : decode cX5_walk 42 = .ok (.iconst 4, 1) := by decide +kernel
theorem dX5_walk_43 : decode cX5_walk 43 = .ok (.iaload, 1) := by decide +kernel
theorem dX5_walk_44 : decode cX5_walk 44 = .ok (.isub, 1) := by decide +kernel
theorem dX5_walk_45 : decode cX5_walk 45 = .ok (.istore_n 2, 1) := by decide +kernel
theorem dX5_walk_46 : decode cX5_walk 46 = .ok (.aload_n 0, 1) := by decide +kernel
theorem dX5_walk_47 : decode cX5_walk 47 = .ok (.getfield 7, 3) := by decide +kernel
theorem dX5_walk_50 : decode cX5_walk 50 = .ok (.iconst 4, 1) := by decide +kernel
theorem dX5_walk_51 : decode cX5_walk 51 = .ok (.iload_n 1, 1) := by decide +kernel
theorem dX5_walk_52 : decode cX5_walk 52 = .ok (.iastore, 1) := by decide +kernel
theorem dX5_walk_53 : decode cX5_walk 53 = .ok (.aload_n 0, 1) := by decide +kernel
theorem dX5_walk_54 : decode cX5_walk 54 = .ok (.getfield 7, 3) := by decide +kernel
theorem dX5_walk_57 : decode cX5_walk 57 = .ok (.iconst 5, 1) := by decide +kernel
theorem dX5_walk_58 : decode cX5_walk 58 = .ok (.dup2, 1) := by decide +kernel
theorem dX5_walk_59 : decode cX5_walk 59 = .ok (.iaload, 1) := by decide +kernel
theorem dX5_walk_60 : decode cX5_walk 60 = .ok (.iload_n 2, 1) := by decide +kernel
theorem dX5_walk_61 : decode cX5_walk 61 = .ok (.iadd, 1) := by decide +kernel
theorem dX5_walk_62 : decode cX5_walk 62 = .ok (.iastore, 1) := by decide +kernel
theorem dX5_walk_63 : decode cX5_walk 63 = .ok (.iload_n 2, 1) := by decide +kernel
theorem dX5_walk_64 : decode cX5_walk 64 = .ok (.ireturn, 1) := by decide +kernel
theorem dX5_know_0 : decode cX5_know 0 = .ok (.aload_n 0, 1) := by decide +kernel
theorem dX5_know_1 : decode cX5_know 1 = .ok (.iload_n 1, 1) := by decide +kernel
theorem dX5_know_2 : decode cX5_know 2 = .ok (.bipush 7, 2) := by decide +kernel
theorem dX5_know_4 : decode cX5_know 4 = .ok (.aload_n 0, 1) := by decide +kernel
theorem dX5_know_5 : decode cX5_know 5 = .ok (.getfield 7, 3) := by decide +kernel
theorem dX5_know_8 : decode cX5_know 8 = .ok (.iconst 2, 1) := by decide +kernel
theorem dX5_know_9 : decode cX5_know 9 = .ok (.iaload, 1) := by decide +kernel
theorem dX5_know_10 : decode cX5_know 10 = .ok (.invokevirtual 73, 3) := by decide +kernel
theorem dX5_know_13 : decode cX5_know 13 = .ok (.aload_n 0, 1) := by decide +kernel
theorem dX5_know_14 : decode cX5_know 14 = .ok (.iload_n 1, 1) := by decide +kernel
theorem dX5_know_15 : decode cX5_know 15 = .ok (.bipush 8, 2) := by decide +kernel
theorem dX5_know_17 : decode cX5_know 17 = .ok (.iload_n 2, 1) := by decide +kernel
theorem dX5_know_18 : decode cX5_know 18 = .ok (.invokevirtual 73, 3) := by decide +kernel
theorem dX5_know_21 : decode cX5_know 21 = .ok (.aload_n 0, 1) := by decide +kernel
theorem dX5_know_22 : decode cX5_know 22 = .ok (.iload_n 1, 1) := by decide +kernel
theorem dX5_know_23 : decode cX5_know 23 = .ok (.bipush 9, 2) := by decide +kernel
theorem dX5_know_25 : decode cX5_know 25 = .ok (.iload_n 3, 1) := by decide +kernel
theorem dX5_know_26 : decode cX5_know 26 = .ok (.invokevirtual 73, 3) := by decide +kernel
theorem dX5_know_29 : decode cX5_know 29 = .ok (.return_, 1) := by decide +kernel
theorem dX5_hear_0 : decode cX5_hear 0 = .ok (.aload_n 0, 1) := by decide +kernel
theorem dX5_hear_1 : decode cX5_hear 1 = .ok (.aload_n 0, 1) := by decide +kernel
theorem dX5_hear_2 : decode cX5_hear 2 = .ok (.getfield 7, 3) := by decide +kernel
theorem dX5_hear_5 : decode cX5_hear 5 = .ok (.iconst 4, 1) := by decide +kernel
theorem dX5_hear_6 : decode cX5_hear 6 = .ok (.iaload, 1) := by decide +kernel
theorem dX5_hear_7 : decode cX5_hear 7 = .ok (.invokevirtual 88, 3) := by decide +kernel
theorem dX5_hear_10 : decode cX5_hear 10 = .ok (.istore_n 1, 1) := by decide +kernel
theorem dX5_hear_11 : decode cX5_hear 11 = .ok (.iload_n 1, 1) := by decide +kernel
theorem dX5_hear_12 : decode cX5_hear 12 = .ok (.ifCond .ge 6, 3) := by decide +kernel
theorem dX5_hear_15 : decode cX5_hear 15 = .ok (.bipush (-5), 2) := by decide +kernel
theorem dX5_hear_17 : decode cX5_hear 17 = .ok (.ireturn, 1) := by decide +kernel
theorem dX5_hear_18 : decode cX5_hear 18 = .ok (.aload_n 0, 1) := by decide +kernel
theorem dX5_hear_19 : decode cX5_hear 19 = .ok (.invokevirtual 84, 3) := by decide +kernel
theorem dX5_hear_22 : decode cX5_hear 22 = .ok (.aload_n 0, 1) := by decide +kernel
theorem dX5_hear_23 : decode cX5_hear 23 = .ok (.iload_n 1, 1) := by decide +kernel
theorem dX5_hear_24 : decode cX5_hear 24 = .ok (.invokevirtual 69, 3) := by decide +kernel
theorem dX5_hear_27 : decode cX5_hear 27 = .ok (.ifCond .ne 21, 3) := by decide +kernel
theorem dX5_hear_30 : decode cX5_hear 30 = .ok (.aload_n 0, 1) := by decide +kernel
theorem dX5_hear_31 : decode cX5_hear 31 = .ok (.iload_n 1, 1) := by decide +kernel
theorem dX5_hear_32 : decode cX5_hear 32 = .ok (.bipush 10, 2) := by decide +kernel
theorem dX5_hear_34 : decode cX5_hear 34 = .ok (.iconst 1, 1) := by decide +kernel
theorem dX5_hear_35 : decode cX5_hear 35 = .ok (.invokevirtual 73, 3) := by decide +kernel
theorem dX5_hear_38 : decode cX5_hear 38 = .ok (.aload_n 0, 1) := by decide +kernel
theorem dX5_hear_39 : decode cX5_hear 39 = .ok (.iload_n 1, 1) := by decide +kernel
theorem dX5_hear_40 : decode cX5_hear 40 = .ok (.iconst 0, 1) := by decide +kernel
theorem dX5_hear_41 : decode cX5_hear 41 = .ok (.iconst 0, 1) := by decide +kernel
theorem dX5_hear_42 : decode cX5_hear 42 = .ok (.invokevirtual 100, 3) := by decide +kernel
theorem dX5_hear_45 : decode cX5_hear 45 = .ok (.bipush (-6), 2) := by decide +kernel
theorem dX5_hear_47 : decode cX5_hear 47 = .ok (.ireturn, 1) := by decide +kernel
theorem dX5_hear_48 : decode cX5_hear 48 = .ok (.aload_n 0, 1) := by decide +kernel
theorem dX5_hear_49 : decode cX5_hear 49 = .ok (.iload_n 1, 1) := by decide +kernel
theorem dX5_hear_50 : decode cX5_hear 50 = .ok (.aload_n 0, 1) := by decide +kernel
theorem dX5_hear_51 : decode cX5_hear 51 = .ok (.iload_n 1, 1) := by decide +kernel
theorem dX5_hear_52 : decode cX5_hear 52 = .ok (.iconst 4, 1) := by decide +kernel
theorem dX5_hear_53 : decode cX5_hear 53 = .ok (.invokevirtual 47, 3) := by decide +kernel
theorem dX5_hear_56 : decode cX5_hear 56 = .ok (.invokevirtual 103, 3) := by decide +kernel
theorem dX5_hear_59 : decode cX5_hear 59 = .ok (.istore_n 2, 1) := by decide +kernel
theorem dX5_hear_60 : decode cX5_hear 60 = .ok (.aload_n 0, 1) := by decide +kernel
theorem dX5_hear_61 : decode cX5_hear 61 = .ok (.iload_n 1, 1) := by decide +kernel
theorem dX5_hear_62 : decode cX5_hear 62 = .ok (.iload_n 2, 1) := by decide +kernel
theorem dX5_hear_63 : decode cX5_hear 63 = .ok (.iconst 1, 1) := by decide +kernel
theorem dX5_hear_64 : decode cX5_hear 64 = .ok (.iadd, 1) := by decide +kernel
theorem dX5_hear_65 : decode cX5_hear 65 = .ok (.invokevirtual 106, 3) := by decide +kernel
theorem dX5_hear_68 : decode cX5_hear 68 = .ok (.lconst 1, 1) := by decide +kernel
theorem dX5_hear_69 : decode cX5_hear 69 = .ok (.lsub, 1) := by decide +kernel
theorem dX5_hear_70 : decode cX5_hear 70 = .ok (.lstore_n 3, 1) := by decide +kernel
theorem dX5_hear_71 : decode cX5_hear 71 = .ok (.aload_n 0, 1) := by decide +kernel
theorem dX5_hear_72 : decode cX5_hear 72 = .ok (.iload_n 1, 1) := by decide +kernel
theorem dX5_hear_73 : decode cX5_hear 73 = .ok (.aload_n 0, 1) := by decide +kernel
theorem dX5_hear_74 : decode cX5_hear 74 = .ok (.iload_n 1, 1) := by decide +kernel
theorem dX5_hear_75 : decode cX5_hear 75 = .ok (.iload_n 2, 1) := by decide +kernel
theorem dX5_hear_76 : decode cX5_hear 76 = .ok (.invokevirtual 106, 3) := by decide +kernel
theorem dX5_hear_79 : decode cX5_hear 79 = .ok (.l2i, 1) := by decide +kernel
theorem dX5_hear_80 : decode cX5_hear 80 = .ok (.lload_n 3, 1) := by decide +kernel
theorem dX5_hear_81 : decode cX5_hear 81 = .ok (.ldc2_w 110, 3) := by decide +kernel
theorem dX5_hear_84 : decode cX5_hear 84 = .ok (.lcmp, 1) := by decide +kernel
theorem dX5_hear_85 : decode cX5_hear 85 = .ok (.ifCond .le 8, 3) := by decide +kernel
theorem dX5_hear_88 : decode cX5_hear 88 = .ok (.ldc 87, 2) := by decide +kernel
theorem dX5_hear_90 : decode cX5_hear 90 = .ok (.goto 5, 3) := by decide +kernel
theorem dX5_hear_93 : decode cX5_hear 93 = .ok (.lload_n 3, 1) := by decide +kernel
theorem dX5_hear_94 : decode cX5_hear 94 = .ok (.l2i, 1) := by decide +kernel
theorem dX5_hear_95 : decode cX5_hear 95 = .ok (.invokevirtual 100, 3) := by decide +kernel
theorem dX5_hear_98 : decode cX5_hear 98 = .ok (.iload_n 2, 1) := by decide +kernel
theorem dX5_hear_99 : decode cX5_hear 99 = .ok (.ireturn, 1) := by decide +kernel
theorem dX5_tighten_0 : decode cX5_tighten 0 = .ok (.iload_n 1, 1) := by decide +kernel
theorem dX5_tighten_1 : decode cX5_tighten 1 = .ok (.iconst 0, 1) := by decide +kernel
theorem dX5_tighten_2 : decode cX5_tighten 2 = .ok (.ldc 87, 2) := by decide +kernel
theorem dX5_tighten_4 : decode cX5_tighten 4 = .ok (.invokestatic 43, 3) := by decide +kernel
theorem dX5_tighten_7 : decode cX5_tighten 7 = .ok (.ifCond .ne 6, 3) := by decide +kernel
theorem dX5_tighten_10 : decode cX5_tighten 10 = .ok (.bipush (-2), 2) := by decide +kernel
theorem dX5_tighten_12 : decode cX5_tighten 12 = .ok (.ireturn, 1) := by decide +kernel
theorem dX5_tighten_13 : decode cX5_tighten 13 = .ok (.aload_n 0, 1) := by decide +kernel
theorem dX5_tighten_14 : decode cX5_tighten 14 = .ok (.aload_n 0, 1) := by decide +kernel
theorem dX5_tighten_15 : decode cX5_tighten 15 = .ok (.getfield 7, 3) := by decide +kernel
theorem dX5_tighten_18 : decode cX5_tighten 18 = .ok (.iconst 4, 1) := by decide +kernel
theorem dX5_tighten_19 : decode cX5_tighten 19 = .ok (.iaload, 1) := by decide +kernel
theorem dX5_tighten_20 : decode cX5_tighten 20 = .ok (.invokevirtual 88, 3) := by decide +kernel
theorem dX5_tighten_23 : decode cX5_tighten 23 = .ok (.istore_n 2, 1) := by decide +kernel
theorem dX5_tighten_24 : decode cX5_tighten 24 = .ok (.iload_n 2, 1) := by decide +kernel
theorem dX5_tighten_25 : decode cX5_tighten 25 = .ok (.ifCond .lt 21, 3) := by decide +kernel
theorem dX5_tighten_28 : decode cX5_tighten 28 = .ok (.aload_n 0, 1) := by decide +kernel
theorem dX5_tighten_29 : decode cX5_tighten 29 = .ok (.iload_n 2, 1) := by decide +kernel
theorem dX5_tighten_30 : decode cX5_tighten 30 = .ok (.invokevirtual 69, 3) := by decide +kernel
theorem dX5_tighten_33 : decode cX5_tighten 33 = .ok (.ifCond .eq 13, 3) := by decide +kernel
theorem dX5_tighten_36 : decode cX5_tighten 36 = .ok (.iload_n 1, 1) := by decide +kernel
theorem dX5_tighten_37 : decode cX5_tighten 37 = .ok (.aload_n 0, 1) := by decide +kernel
theorem dX5_tighten_38 : decode cX5_tighten 38 = .ok (.iload_n 2, 1) := by decide +kernel
theorem dX5_tighten_39 : decode cX5_tighten 39 = .ok (.iconst 3, 1) := by decide +kernel
theorem dX5_tighten_40 : decode cX5_tighten 40 = .ok (.invokevirtual 47, 3) := by decide +kernel
theorem dX5_tighten_43 : decode cX5_tighten 43 = .ok (.if_icmp .le 6, 3) := by decide +kernel
theorem dX5_tighten_46 : decode cX5_tighten 46 = .ok (.bipush (-5), 2) := by decide +kernel
theorem dX5_tighten_48 : decode cX5_tighten 48 = .ok (.ireturn, 1) := by decide +kernel
theorem dX5_tighten_49 : decode cX5_tighten 49 = .ok (.aload_n 0, 1) := by decide +kernel
theorem dX5_tighten_50 : decode cX5_tighten 50 = .ok (.invokevirtual 84, 3) := by decide +kernel
theorem dX5_tighten_53 : decode cX5_tighten 53 = .ok (.aload_n 0, 1) := by decide +kernel
theorem dX5_tighten_54 : decode cX5_tighten 54 = .ok (.iload_n 2, 1) := by decide +kernel
theorem dX5_tighten_55 : decode cX5_tighten 55 = .ok (.iconst 4, 1) := by decide +kernel
theorem dX5_tighten_56 : decode cX5_tighten 56 = .ok (.invokevirtual 47, 3) := by decide +kernel
theorem dX5_tighten_59 : decode cX5_tighten 59 = .ok (.istore_n 3, 1) := by decide +kernel
theorem dX5_tighten_60 : decode cX5_tighten 60 = .ok (.aload_n 0, 1) := by decide +kernel
theorem dX5_tighten_61 : decode cX5_tighten 61 = .ok (.iload_n 2, 1) := by decide +kernel
theorem dX5_tighten_62 : decode cX5_tighten 62 = .ok (.iconst 4, 1) := by decide +kernel
theorem dX5_tighten_63 : decode cX5_tighten 63 = .ok (.iload_n 1, 1) := by decide +kernel
theorem dX5_tighten_64 : decode cX5_tighten 64 = .ok (.invokevirtual 73, 3) := by decide +kernel
theorem dX5_tighten_67 : decode cX5_tighten 67 = .ok (.aload_n 0, 1) := by decide +kernel
theorem dX5_tighten_68 : decode cX5_tighten 68 = .ok (.iload_n 2, 1) := by decide +kernel
theorem dX5_tighten_69 : decode cX5_tighten 69 = .ok (.iload_n 1, 1) := by decide +kernel
theorem dX5_tighten_70 : decode cX5_tighten 70 = .ok (.iload_n 1, 1) := by decide +kernel
theorem dX5_tighten_71 : decode cX5_tighten 71 = .ok (.invokevirtual 100, 3) := by decide +kernel
theorem dX5_tighten_74 : decode cX5_tighten 74 = .ok (.iload_n 3, 1) := by decide +kernel
theorem dX5_tighten_75 : decode cX5_tighten 75 = .ok (.ireturn, 1) := by decide +kernel
theorem dX5_isSlack_0 : decode cX5_isSlack 0 = .ok (.aload_n 0, 1) := by decide +kernel
theorem dX5_isSlack_1 : decode cX5_isSlack 1 = .ok (.iload_n 1, 1) := by decide +kernel
theorem dX5_isSlack_2 : decode cX5_isSlack 2 = .ok (.invokevirtual 69, 3) := by decide +kernel
theorem dX5_isSlack_5 : decode cX5_isSlack 5 = .ok (.ifCond .eq 22, 3) := by decide +kernel
theorem dX5_isSlack_8 : decode cX5_isSlack 8 = .ok (.aload_n 0, 1) := by decide +kernel
theorem dX5_isSlack_9 : decode cX5_isSlack 9 = .ok (.iload_n 1, 1) := by decide +kernel
theorem dX5_isSlack_10 : decode cX5_isSlack 10 = .ok (.iconst 4, 1) := by decide +kernel
theorem dX5_isSlack_11 : decode cX5_isSlack 11 = .ok (.invokevirtual 47, 3) := by decide +kernel
theorem dX5_isSlack_14 : decode cX5_isSlack 14 = .ok (.aload_n 0, 1) := by decide +kernel
theorem dX5_isSlack_15 : decode cX5_isSlack 15 = .ok (.getfield 29, 3) := by decide +kernel
theorem dX5_isSlack_18 : decode cX5_isSlack 18 = .ok (.iload_n 1, 1) := by decide +kernel
theorem dX5_isSlack_19 : decode cX5_isSlack 19 = .ok (.iaload, 1) := by decide +kernel
theorem dX5_isSlack_20 : decode cX5_isSlack 20 = .ok (.if_icmp .ge 7, 3) := by decide +kernel
theorem dX5_isSlack_23 : decode cX5_isSlack 23 = .ok (.iconst 1, 1) := by decide +kernel
theorem dX5_isSlack_24 : decode cX5_isSlack 24 = .ok (.goto 4, 3) := by decide +kernel
theorem dX5_isSlack_27 : decode cX5_isSlack 27 = .ok (.iconst 0, 1) := by decide +kernel
theorem dX5_isSlack_28 : decode cX5_isSlack 28 = .ok (.ireturn, 1) := by decide +kernel
theorem dX5_isTight_0 : decode cX5_isTight 0 = .ok (.aload_n 0, 1) := by decide +kernel
theorem dX5_isTight_1 : decode cX5_isTight 1 = .ok (.getfield 29, 3) := by decide +kernel
theorem dX5_isTight_4 : decode cX5_isTight 4 = .ok (.iload_n 1, 1) := by decide +kernel
theorem dX5_isTight_5 : decode cX5_isTight 5 = .ok (.iaload, 1) := by decide +kernel
theorem dX5_isTight_6 : decode cX5_isTight 6 = .ok (.aload_n 0, 1) := by decide +kernel
theorem dX5_isTight_7 : decode cX5_isTight 7 = .ok (.getfield 29, 3) := by decide +kernel
theorem dX5_isTight_10 : decode cX5_isTight 10 = .ok (.iload_n 1, 1) := by decide +kernel
theorem dX5_isTight_11 : decode cX5_isTight 11 = .ok (.iaload, 1) := by decide +kernel
theorem dX5_isTight_12 : decode cX5_isTight 12 = .ok (.aload_n 0, 1) := by decide +kernel
theorem dX5_isTight_13 : decode cX5_isTight 13 = .ok (.getfield 7, 3) := by decide +kernel
theorem dX5_isTight_16 : decode cX5_isTight 16 = .ok (.iconst 1, 1) := by decide +kernel
theorem dX5_isTight_17 : decode cX5_isTight 17 = .ok (.iaload, 1) := by decide +kernel
theorem dX5_isTight_18 : decode cX5_isTight 18 = .ok (.imul, 1) := by decide +kernel
theorem dX5_isTight_19 : decode cX5_isTight 19 = .ok (.bipush 100, 2) := by decide +kernel
theorem dX5_isTight_21 : decode cX5_isTight 21 = .ok (.idiv, 1) := by decide +kernel
theorem dX5_isTight_22 : decode cX5_isTight 22 = .ok (.iadd, 1) := by decide +kernel
theorem dX5_isTight_23 : decode cX5_isTight 23 = .ok (.istore_n 2, 1) := by decide +kernel
theorem dX5_isTight_24 : decode cX5_isTight 24 = .ok (.aload_n 0, 1) := by decide +kernel
theorem dX5_isTight_25 : decode cX5_isTight 25 = .ok (.iload_n 1, 1) := by decide +kernel
theorem dX5_isTight_26 : decode cX5_isTight 26 = .ok (.invokevirtual 69, 3) := by decide +kernel
theorem dX5_isTight_29 : decode cX5_isTight 29 = .ok (.ifCond .eq 29, 3) := by decide +kernel
theorem dX5_isTight_32 : decode cX5_isTight 32 = .ok (.aload_n 0, 1) := by decide +kernel
theorem dX5_isTight_33 : decode cX5_isTight 33 = .ok (.iload_n 1, 1) := by decide +kernel
theorem dX5_isTight_34 : decode cX5_isTight 34 = .ok (.iconst 4, 1) := by decide +kernel
theorem dX5_isTight_35 : decode cX5_isTight 35 = .ok (.invokevirtual 47, 3) := by decide +kernel
theorem dX5_isTight_38 : decode cX5_isTight 38 = .ok (.iload_n 2, 1) := by decide +kernel
theorem dX5_isTight_39 : decode cX5_isTight 39 = .ok (.if_icmp .le 19, 3) := by decide +kernel
theorem dX5_isTight_42 : decode cX5_isTight 42 = .ok (.aload_n 0, 1) := by decide +kernel
theorem dX5_isTight_43 : decode cX5_isTight 43 = .ok (.iload_n 1, 1) := by decide +kernel
theorem dX5_isTight_44 : decode cX5_isTight 44 = .ok (.iconst 4, 1) := by decide +kernel
theorem dX5_isTight_45 : decode cX5_isTight 45 = .ok (.invokevirtual 47, 3) := by decide +kernel
theorem dX5_isTight_48 : decode cX5_isTight 48 = .ok (.sipush 1000, 3) := by decide +kernel
theorem dX5_isTight_51 : decode cX5_isTight 51 = .ok (.if_icmp .le 7, 3) := by decide +kernel
theorem dX5_isTight_54 : decode cX5_isTight 54 = .ok (.iconst 1, 1) := by decide +kernel
theorem dX5_isTight_55 : decode cX5_isTight 55 = .ok (.goto 4, 3) := by decide +kernel
theorem dX5_isTight_58 : decode cX5_isTight 58 = .ok (.iconst 0, 1) := by decide +kernel
theorem dX5_isTight_59 : decode cX5_isTight 59 = .ok (.ireturn, 1) := by decide +kernel
theorem dX5_ofWire_0 : decode cX5_ofWire 0 = .ok (.aload_n 0, 1) := by decide +kernel
theorem dX5_ofWire_1 : decode cX5_ofWire 1 = .ok (.iload_n 1, 1) := by decide +kernel
theorem dX5_ofWire_2 : decode cX5_ofWire 2 = .ok (.invokevirtual 112, 3) := by decide +kernel
theorem dX5_ofWire_5 : decode cX5_ofWire 5 = .ok (.ifCond .ne 5, 3) := by decide +kernel
theorem dX5_ofWire_8 : decode cX5_ofWire 8 = .ok (.iconst (-1), 1) := by decide +kernel
theorem dX5_ofWire_9 : decode cX5_ofWire 9 = .ok (.ireturn, 1) := by decide +kernel
theorem dX5_ofWire_10 : decode cX5_ofWire 10 = .ok (.aload_n 0, 1) := by decide +kernel
theorem dX5_ofWire_11 : decode cX5_ofWire 11 = .ok (.aload_n 0, 1) := by decide +kernel
theorem dX5_ofWire_12 : decode cX5_ofWire 12 = .ok (.iconst 0, 1) := by decide +kernel
theorem dX5_ofWire_13 : decode cX5_ofWire 13 = .ok (.invokevirtual 61, 3) := by decide +kernel
theorem dX5_ofWire_16 : decode cX5_ofWire 16 = .ok (.invokevirtual 65, 3) := by decide +kernel
theorem dX5_ofWire_19 : decode cX5_ofWire 19 = .ok (.iload_n 2, 1) := by decide +kernel
theorem dX5_ofWire_20 : decode cX5_ofWire 20 = .ok (.tableswitch 91 6 10 #[36, 48, 55, 69, 83], 36) := by decide +kernel
theorem dX5_ofWire_56 : decode cX5_ofWire 56 = .ok (.aload_n 0, 1) := by decide +kernel
theorem dX5_ofWire_57 : decode cX5_ofWire 57 = .ok (.iload_n 1, 1) := by decide +kernel
theorem dX5_ofWire_58 : decode cX5_ofWire 58 = .ok (.aload_n 0, 1) := by decide +kernel
theorem dX5_ofWire_59 : decode cX5_ofWire 59 = .ok (.iload_n 1, 1) := by decide +kernel
theorem dX5_ofWire_60 : decode cX5_ofWire 60 = .ok (.iconst 4, 1) := by decide +kernel
theorem dX5_ofWire_61 : decode cX5_ofWire 61 = .ok (.invokevirtual 47, 3) := by decide +kernel
theorem dX5_ofWire_64 : decode cX5_ofWire 64 = .ok (.invokevirtual 103, 3) := by decide +kernel
theorem dX5_ofWire_67 : decode cX5_ofWire 67 = .ok (.ireturn, 1) := by decide +kernel
theorem dX5_ofWire_68 : decode cX5_ofWire 68 = .ok (.aload_n 0, 1) := by decide +kernel
theorem dX5_ofWire_69 : decode cX5_ofWire 69 = .ok (.getfield 29, 3) := by decide +kernel
theorem dX5_ofWire_72 : decode cX5_ofWire 72 = .ok (.iload_n 1, 1) := by decide +kernel
theorem dX5_ofWire_73 : decode cX5_ofWire 73 = .ok (.iaload, 1) := by decide +kernel
theorem dX5_ofWire_74 : decode cX5_ofWire 74 = .ok (.ireturn, 1) := by decide +kernel
theorem dX5_ofWire_75 : decode cX5_ofWire 75 = .ok (.aload_n 0, 1) := by decide +kernel
theorem dX5_ofWire_76 : decode cX5_ofWire 76 = .ok (.iload_n 1, 1) := by decide +kernel
theorem dX5_ofWire_77 : decode cX5_ofWire 77 = .ok (.invokevirtual 115, 3) := by decide +kernel
theorem dX5_ofWire_80 : decode cX5_ofWire 80 = .ok (.ifCond .eq 7, 3) := by decide +kernel
theorem dX5_ofWire_83 : decode cX5_ofWire 83 = .ok (.iconst 1, 1) := by decide +kernel
theorem dX5_ofWire_84 : decode cX5_ofWire 84 = .ok (.goto 4, 3) := by decide +kernel
theorem dX5_ofWire_87 : decode cX5_ofWire 87 = .ok (.iconst 0, 1) := by decide +kernel
theorem dX5_ofWire_88 : decode cX5_ofWire 88 = .ok (.ireturn, 1) := by decide +kernel
theorem dX5_ofWire_89 : decode cX5_ofWire 89 = .ok (.aload_n 0, 1) := by decide +kernel
theorem dX5_ofWire_90 : decode cX5_ofWire 90 = .ok (.iload_n 1, 1) := by decide +kernel
theorem dX5_ofWire_91 : decode cX5_ofWire 91 = .ok (.invokevirtual 118, 3) := by decide +kernel
theorem dX5_ofWire_94 : decode cX5_ofWire 94 = .ok (.ifCond .eq 7, 3) := by decide +kernel
theorem dX5_ofWire_97 : decode cX5_ofWire 97 = .ok (.iconst 1, 1) := by decide +kernel
theorem dX5_ofWire_98 : decode cX5_ofWire 98 = .ok (.goto 4, 3) := by decide +kernel
theorem dX5_ofWire_101 : decode cX5_ofWire 101 = .ok (.iconst 0, 1) := by decide +kernel
theorem dX5_ofWire_102 : decode cX5_ofWire 102 = .ok (.ireturn, 1) := by decide +kernel
theorem dX5_ofWire_103 : decode cX5_ofWire 103 = .ok (.aload_n 0, 1) := by decide +kernel
theorem dX5_ofWire_104 : decode cX5_ofWire 104 = .ok (.iload_n 1, 1) := by decide +kernel
theorem dX5_ofWire_105 : decode cX5_ofWire 105 = .ok (.bipush 6, 2) := by decide +kernel
theorem dX5_ofWire_107 : decode cX5_ofWire 107 = .ok (.invokevirtual 47, 3) := by decide +kernel
theorem dX5_ofWire_110 : decode cX5_ofWire 110 = .ok (.ireturn, 1) := by decide +kernel
theorem dX5_ofWire_111 : decode cX5_ofWire 111 = .ok (.iload_n 2, 1) := by decide +kernel
theorem dX5_ofWire_112 : decode cX5_ofWire 112 = .ok (.iconst 0, 1) := by decide +kernel
theorem dX5_ofWire_113 : decode cX5_ofWire 113 = .ok (.iconst 5, 1) := by decide +kernel
theorem dX5_ofWire_114 : decode cX5_ofWire 114 = .ok (.invokestatic 43, 3) := by decide +kernel
theorem dX5_ofWire_117 : decode cX5_ofWire 117 = .ok (.ifCond .eq 12, 3) := by decide +kernel
theorem dX5_ofWire_120 : decode cX5_ofWire 120 = .ok (.aload_n 0, 1) := by decide +kernel
theorem dX5_ofWire_121 : decode cX5_ofWire 121 = .ok (.iload_n 1, 1) := by decide +kernel
theorem dX5_ofWire_122 : decode cX5_ofWire 122 = .ok (.iload_n 2, 1) := by decide +kernel
theorem dX5_ofWire_123 : decode cX5_ofWire 123 = .ok (.invokevirtual 47, 3) := by decide +kernel
theorem dX5_ofWire_126 : decode cX5_ofWire 126 = .ok (.goto 5, 3) := by decide +kernel
theorem dX5_ofWire_129 : decode cX5_ofWire 129 = .ok (.bipush (-2), 2) := by decide +kernel
theorem dX5_ofWire_131 : decode cX5_ofWire 131 = .ok (.ireturn, 1) := by decide +kernel
theorem dX5_isSurely_0 : decode cX5_isSurely 0 = .ok (.aload_n 0, 1) := by decide +kernel
theorem dX5_isSurely_1 : decode cX5_isSurely 1 = .ok (.iload_n 1, 1) := by decide +kernel
theorem dX5_isSurely_2 : decode cX5_isSurely 2 = .ok (.bipush 7, 2) := by decide +kernel
theorem dX5_isSurely_4 : decode cX5_isSurely 4 = .ok (.invokevirtual 47, 3) := by decide +kernel
theorem dX5_isSurely_7 : decode cX5_isSurely 7 = .ok (.ifCond .lt 23, 3) := by decide +kernel
theorem dX5_isSurely_10 : decode cX5_isSurely 10 = .ok (.aload_n 0, 1) := by decide +kernel
theorem dX5_isSurely_11 : decode cX5_isSurely 11 = .ok (.iload_n 1, 1) := by decide +kernel
theorem dX5_isSurely_12 : decode cX5_isSurely 12 = .ok (.bipush 9, 2) := by decide +kernel
theorem dX5_isSurely_14 : decode cX5_isSurely 14 = .ok (.invokevirtual 47, 3) := by decide +kernel
theorem dX5_isSurely_17 : decode cX5_isSurely 17 = .ok (.aload_n 0, 1) := by decide +kernel
theorem dX5_isSurely_18 : decode cX5_isSurely 18 = .ok (.getfield 29, 3) := by decide +kernel
theorem dX5_isSurely_21 : decode cX5_isSurely 21 = .ok (.iload_n 1, 1) := by decide +kernel
theorem dX5_isSurely_22 : decode cX5_isSurely 22 = .ok (.iaload, 1) := by decide +kernel
theorem dX5_isSurely_23 : decode cX5_isSurely 23 = .ok (.if_icmp .ge 7, 3) := by decide +kernel
theorem dX5_isSurely_26 : decode cX5_isSurely 26 = .ok (.iconst 1, 1) := by decide +kernel
theorem dX5_isSurely_27 : decode cX5_isSurely 27 = .ok (.goto 4, 3) := by decide +kernel
theorem dX5_isSurely_30 : decode cX5_isSurely 30 = .ok (.iconst 0, 1) := by decide +kernel
theorem dX5_isSurely_31 : decode cX5_isSurely 31 = .ok (.ireturn, 1) := by decide +kernel
theorem dX5_mayBe_0 : decode cX5_mayBe 0 = .ok (.aload_n 0, 1) := by decide +kernel
theorem dX5_mayBe_1 : decode cX5_mayBe 1 = .ok (.iload_n 1, 1) := by decide +kernel
theorem dX5_mayBe_2 : decode cX5_mayBe 2 = .ok (.invokevirtual 121, 3) := by decide +kernel
theorem dX5_mayBe_5 : decode cX5_mayBe 5 = .ok (.ifCond .ne 33, 3) := by decide +kernel
theorem dX5_mayBe_8 : decode cX5_mayBe 8 = .ok (.aload_n 0, 1) := by decide +kernel
theorem dX5_mayBe_9 : decode cX5_mayBe 9 = .ok (.iload_n 1, 1) := by decide +kernel
theorem dX5_mayBe_10 : decode cX5_mayBe 10 = .ok (.bipush 7, 2) := by decide +kernel
theorem dX5_mayBe_12 : decode cX5_mayBe 12 = .ok (.invokevirtual 47, 3) := by decide +kernel
theorem dX5_mayBe_15 : decode cX5_mayBe 15 = .ok (.ifCond .lt 19, 3) := by decide +kernel
theorem dX5_mayBe_18 : decode cX5_mayBe 18 = .ok (.aload_n 0, 1) := by decide +kernel
theorem dX5_mayBe_19 : decode cX5_mayBe 19 = .ok (.iload_n 1, 1) := by decide +kernel
theorem dX5_mayBe_20 : decode cX5_mayBe 20 = .ok (.bipush 8, 2) := by decide +kernel
theorem dX5_mayBe_22 : decode cX5_mayBe 22 = .ok (.invokevirtual 47, 3) := by decide +kernel
theorem dX5_mayBe_25 : decode cX5_mayBe 25 = .ok (.aload_n 0, 1) := by decide +kernel
theorem dX5_mayBe_26 : decode cX5_mayBe 26 = .ok (.getfield 29, 3) := by decide +kernel
theorem dX5_mayBe_29 : decode cX5_mayBe 29 = .ok (.iload_n 1, 1) := by decide +kernel
theorem dX5_mayBe_30 : decode cX5_mayBe 30 = .ok (.iaload, 1) := by decide +kernel
theorem dX5_mayBe_31 : decode cX5_mayBe 31 = .ok (.if_icmp .ge 7, 3) := by decide +kernel
theorem dX5_mayBe_34 : decode cX5_mayBe 34 = .ok (.iconst 1, 1) := by decide +kernel
theorem dX5_mayBe_35 : decode cX5_mayBe 35 = .ok (.goto 4, 3) := by decide +kernel
theorem dX5_mayBe_38 : decode cX5_mayBe 38 = .ok (.iconst 0, 1) := by decide +kernel
theorem dX5_mayBe_39 : decode cX5_mayBe 39 = .ok (.ireturn, 1) := by decide +kernel
theorem dX5_known_0 : decode cX5_known 0 = .ok (.aload_n 0, 1) := by decide +kernel
theorem dX5_known_1 : decode cX5_known 1 = .ok (.iload_n 1, 1) := by decide +kernel
theorem dX5_known_2 : decode cX5_known 2 = .ok (.invokevirtual 112, 3) := by decide +kernel
theorem dX5_known_5 : decode cX5_known 5 = .ok (.ifCond .ne 5, 3) := by decide +kernel
theorem dX5_known_8 : decode cX5_known 8 = .ok (.iconst (-1), 1) := by decide +kernel
theorem dX5_known_9 : decode cX5_known 9 = .ok (.ireturn, 1) := by decide +kernel
theorem dX5_known_10 : decode cX5_known 10 = .ok (.aload_n 0, 1) := by decide +kernel
theorem dX5_known_11 : decode cX5_known 11 = .ok (.aload_n 0, 1) := by decide +kernel
theorem dX5_known_12 : decode cX5_known 12 = .ok (.iconst 1, 1) := by decide +kernel
theorem dX5_known_13 : decode cX5_known 13 = .ok (.invokevirtual 61, 3) := by decide +kernel
theorem dX5_known_16 : decode cX5_known 16 = .ok (.invokevirtual 65, 3) := by decide +kernel
theorem dX5_known_19 : decode cX5_known 19 = .ok (.iload_n 2, 1) := by decide +kernel
theorem dX5_known_20 : decode cX5_known 20 = .ok (.tableswitch 71 0 5 #[40, 40, 40, 40, 50, 57], 40) := by decide +kernel
theorem dX5_known_60 : decode cX5_known 60 = .ok (.aload_n 0, 1) := by decide +kernel
theorem dX5_known_61 : decode cX5_known 61 = .ok (.iload_n 1, 1) := by decide +kernel
theorem dX5_known_62 : decode cX5_known 62 = .ok (.bipush 7, 2) := by decide +kernel
theorem dX5_known_64 : decode cX5_known 64 = .ok (.iload_n 2, 1) := by decide +kernel
theorem dX5_known_65 : decode cX5_known 65 = .ok (.iadd, 1) := by decide +kernel
theorem dX5_known_66 : decode cX5_known 66 = .ok (.invokevirtual 47, 3) := by decide +kernel
theorem dX5_known_69 : decode cX5_known 69 = .ok (.ireturn, 1) := by decide +kernel
theorem dX5_known_70 : decode cX5_known 70 = .ok (.aload_n 0, 1) := by decide +kernel
theorem dX5_known_71 : decode cX5_known 71 = .ok (.getfield 29, 3) := by decide +kernel
theorem dX5_known_74 : decode cX5_known 74 = .ok (.iload_n 1, 1) := by decide +kernel
theorem dX5_known_75 : decode cX5_known 75 = .ok (.iaload, 1) := by decide +kernel
theorem dX5_known_76 : decode cX5_known 76 = .ok (.ireturn, 1) := by decide +kernel
theorem dX5_known_77 : decode cX5_known 77 = .ok (.aload_n 0, 1) := by decide +kernel
theorem dX5_known_78 : decode cX5_known 78 = .ok (.iload_n 1, 1) := by decide +kernel
theorem dX5_known_79 : decode cX5_known 79 = .ok (.invokevirtual 121, 3) := by decide +kernel
theorem dX5_known_82 : decode cX5_known 82 = .ok (.ifCond .eq 7, 3) := by decide +kernel
theorem dX5_known_85 : decode cX5_known 85 = .ok (.iconst 1, 1) := by decide +kernel
theorem dX5_known_86 : decode cX5_known 86 = .ok (.goto 4, 3) := by decide +kernel
theorem dX5_known_89 : decode cX5_known 89 = .ok (.iconst 0, 1) := by decide +kernel
theorem dX5_known_90 : decode cX5_known 90 = .ok (.ireturn, 1) := by decide +kernel
theorem dX5_known_91 : decode cX5_known 91 = .ok (.iload_n 2, 1) := by decide +kernel
theorem dX5_known_92 : decode cX5_known 92 = .ok (.bipush 6, 2) := by decide +kernel
theorem dX5_known_94 : decode cX5_known 94 = .ok (.if_icmp .ne 19, 3) := by decide +kernel
theorem dX5_known_97 : decode cX5_known 97 = .ok (.aload_n 0, 1) := by decide +kernel
theorem dX5_known_98 : decode cX5_known 98 = .ok (.iload_n 1, 1) := by decide +kernel
theorem dX5_known_99 : decode cX5_known 99 = .ok (.invokevirtual 124, 3) := by decide +kernel
theorem dX5_known_102 : decode cX5_known 102 = .ok (.ifCond .eq 7, 3) := by decide +kernel
theorem dX5_known_105 : decode cX5_known 105 = .ok (.iconst 1, 1) := by decide +kernel
theorem dX5_known_106 : decode cX5_known 106 = .ok (.goto 9, 3) := by decide +kernel
theorem dX5_known_109 : decode cX5_known 109 = .ok (.iconst 0, 1) := by decide +kernel
theorem dX5_known_110 : decode cX5_known 110 = .ok (.goto 5, 3) := by decide +kernel
theorem dX5_known_113 : decode cX5_known 113 = .ok (.bipush (-2), 2) := by decide +kernel
theorem dX5_known_115 : decode cX5_known 115 = .ok (.ireturn, 1) := by decide +kernel
theorem dX5_loads_0 : decode cX5_loads 0 = .ok (.iconst 0, 1) := by decide +kernel
theorem dX5_loads_1 : decode cX5_loads 1 = .ok (.istore_n 1, 1) := by decide +kernel
theorem dX5_loads_2 : decode cX5_loads 2 = .ok (.iconst 0, 1) := by decide +kernel
theorem dX5_loads_3 : decode cX5_loads 3 = .ok (.istore_n 2, 1) := by decide +kernel
theorem dX5_loads_4 : decode cX5_loads 4 = .ok (.iload_n 2, 1) := by decide +kernel
theorem dX5_loads_5 : decode cX5_loads 5 = .ok (.bipush 20, 2) := by decide +kernel
theorem dX5_loads_7 : decode cX5_loads 7 = .ok (.if_icmp .ge 21, 3) := by decide +kernel
theorem dX5_loads_10 : decode cX5_loads 10 = .ok (.iload_n 1, 1) := by decide +kernel
theorem dX5_loads_11 : decode cX5_loads 11 = .ok (.aload_n 0, 1) := by decide +kernel
theorem dX5_loads_12 : decode cX5_loads 12 = .ok (.getfield 7, 3) := by decide +kernel
theorem dX5_loads_15 : decode cX5_loads 15 = .ok (.bipush 10, 2) := by decide +kernel
theorem dX5_loads_17 : decode cX5_loads 17 = .ok (.iload_n 2, 1) := by decide +kernel
theorem dX5_loads_18 : decode cX5_loads 18 = .ok (.iadd, 1) := by decide +kernel
theorem dX5_loads_19 : decode cX5_loads 19 = .ok (.iaload, 1) := by decide +kernel
theorem dX5_loads_20 : decode cX5_loads 20 = .ok (.iadd, 1) := by decide +kernel
theorem dX5_loads_21 : decode cX5_loads 21 = .ok (.istore_n 1, 1) := by decide +kernel
theorem dX5_loads_22 : decode cX5_loads 22 = .ok (.iinc 2 1, 3) := by decide +kernel
theorem dX5_loads_25 : decode cX5_loads 25 = .ok (.goto (-21), 3) := by decide +kernel
theorem dX5_loads_28 : decode cX5_loads 28 = .ok (.iload_n 1, 1) := by decide +kernel
theorem dX5_loads_29 : decode cX5_loads 29 = .ok (.ireturn, 1) := by decide +kernel
theorem dX5_wiresWith_0 : decode cX5_wiresWith 0 = .ok (.aload_n 0, 1) := by decide +kernel
theorem dX5_wiresWith_1 : decode cX5_wiresWith 1 = .ok (.aload_n 0, 1) := by decide +kernel
theorem dX5_wiresWith_2 : decode cX5_wiresWith 2 = .ok (.iconst 0, 1) := by decide +kernel
theorem dX5_wiresWith_3 : decode cX5_wiresWith 3 = .ok (.invokevirtual 61, 3) := by decide +kernel
theorem dX5_wiresWith_6 : decode cX5_wiresWith 6 = .ok (.invokevirtual 65, 3) := by decide +kernel
theorem dX5_wiresWith_9 : decode cX5_wiresWith 9 = .ok (.iconst 0, 1) := by decide +kernel
theorem dX5_wiresWith_10 : decode cX5_wiresWith 10 = .ok (.istore_n 2, 1) := by decide +kernel
theorem dX5_wiresWith_11 : decode cX5_wiresWith 11 = .ok (.iconst 0, 1) := by decide +kernel
theorem dX5_wiresWith_12 : decode cX5_wiresWith 12 = .ok (.istore_n 3, 1) := by decide +kernel
theorem dX5_wiresWith_13 : decode cX5_wiresWith 13 = .ok (.iload_n 3, 1) := by decide +kernel
theorem dX5_wiresWith_14 : decode cX5_wiresWith 14 = .ok (.aload_n 0, 1) := by decide +kernel
theorem dX5_wiresWith_15 : decode cX5_wiresWith 15 = .ok (.getfield 7, 3) := by decide +kernel
theorem dX5_wiresWith_18 : decode cX5_wiresWith 18 = .ok (.iconst 3, 1) := by decide +kernel
theorem dX5_wiresWith_19 : decode cX5_wiresWith 19 = .ok (.iaload, 1) := by decide +kernel
theorem dX5_wiresWith_20 : decode cX5_wiresWith 20 = .ok (.if_icmp .ge 62, 3) := by decide +kernel
theorem dX5_wiresWith_23 : decode cX5_wiresWith 23 = .ok (.iload_n 1, 1) := by decide +kernel
theorem dX5_wiresWith_24 : decode cX5_wiresWith 24 = .ok (.ifCond .ne 19, 3) := by decide +kernel
theorem dX5_wiresWith_27 : decode cX5_wiresWith 27 = .ok (.aload_n 0, 1) := by decide +kernel
theorem dX5_wiresWith_28 : decode cX5_wiresWith 28 = .ok (.iload_n 3, 1) := by decide +kernel
theorem dX5_wiresWith_29 : decode cX5_wiresWith 29 = .ok (.invokevirtual 69, 3) := by decide +kernel
theorem dX5_wiresWith_32 : decode cX5_wiresWith 32 = .ok (.ifCond .ne 7, 3) := by decide +kernel
theorem dX5_wiresWith_35 : decode cX5_wiresWith 35 = .ok (.iconst 1, 1) := by decide +kernel
theorem dX5_wiresWith_36 : decode cX5_wiresWith 36 = .ok (.goto 25, 3) := by decide +kernel
theorem dX5_wiresWith_39 : decode cX5_wiresWith 39 = .ok (.iconst 0, 1) := by decide +kernel
theorem dX5_wiresWith_40 : decode cX5_wiresWith 40 = .ok (.goto 21, 3) := by decide +kernel
theorem dX5_wiresWith_43 : decode cX5_wiresWith 43 = .ok (.iload_n 1, 1) := by decide +kernel
theorem dX5_wiresWith_44 : decode cX5_wiresWith 44 = .ok (.iconst 1, 1) := by decide +kernel
theorem dX5_wiresWith_45 : decode cX5_wiresWith 45 = .ok (.if_icmp .ne 11, 3) := by decide +kernel
theorem dX5_wiresWith_48 : decode cX5_wiresWith 48 = .ok (.aload_n 0, 1) := by decide +kernel
theorem dX5_wiresWith_49 : decode cX5_wiresWith 49 = .ok (.iload_n 3, 1) := by decide +kernel
theorem dX5_wiresWith_50 : decode cX5_wiresWith 50 = .ok (.invokevirtual 115, 3) := by decide +kernel
theorem dX5_wiresWith_53 : decode cX5_wiresWith 53 = .ok (.goto 8, 3) := by decide +kernel
theorem dX5_wiresWith_56 : decode cX5_wiresWith 56 = .ok (.aload_n 0, 1) := by decide +kernel
theorem dX5_wiresWith_57 : decode cX5_wiresWith 57 = .ok (.iload_n 3, 1) := by decide +kernel
theorem dX5_wiresWith_58 : decode cX5_wiresWith 58 = .ok (.invokevirtual 118, 3) := by decide +kernel
theorem dX5_wiresWith_61 : decode cX5_wiresWith 61 = .ok (.istore 4, 2) := by decide +kernel
theorem dX5_wiresWith_63 : decode cX5_wiresWith 63 = .ok (.iload_n 2, 1) := by decide +kernel
theorem dX5_wiresWith_64 : decode cX5_wiresWith 64 = .ok (.iload 4, 2) := by decide +kernel
theorem dX5_wiresWith_66 : decode cX5_wiresWith 66 = .ok (.ifCond .eq 7, 3) := by decide +kernel
theorem dX5_wiresWith_69 : decode cX5_wiresWith 69 = .ok (.iconst 1, 1) := by decide +kernel
theorem dX5_wiresWith_70 : decode cX5_wiresWith 70 = .ok (.goto 4, 3) := by decide +kernel
theorem dX5_wiresWith_73 : decode cX5_wiresWith 73 = .ok (.iconst 0, 1) := by decide +kernel
theorem dX5_wiresWith_74 : decode cX5_wiresWith 74 = .ok (.iadd, 1) := by decide +kernel
theorem dX5_wiresWith_75 : decode cX5_wiresWith 75 = .ok (.istore_n 2, 1) := by decide +kernel
theorem dX5_wiresWith_76 : decode cX5_wiresWith 76 = .ok (.iinc 3 1, 3) := by decide +kernel
theorem dX5_wiresWith_79 : decode cX5_wiresWith 79 = .ok (.goto (-66), 3) := by decide +kernel
theorem dX5_wiresWith_82 : decode cX5_wiresWith 82 = .ok (.iload_n 2, 1) := by decide +kernel
theorem dX5_wiresWith_83 : decode cX5_wiresWith 83 = .ok (.ireturn, 1) := by decide +kernel
theorem dX5_count_0 : decode cX5_count 0 = .ok (.iload_n 1, 1) := by decide +kernel
theorem dX5_count_1 : decode cX5_count 1 = .ok (.tableswitch 126 0 10 #[59, 59, 68, 74, 74, 85, 90, 107, 107, 116, 121], 59) := by decide +kernel
theorem dX5_count_60 : decode cX5_count 60 = .ok (.aload_n 0, 1) := by decide +kernel
theorem dX5_count_61 : decode cX5_count 61 = .ok (.getfield 7, 3) := by decide +kernel
theorem dX5_count_64 : decode cX5_count 64 = .ok (.iconst 2, 1) := by decide +kernel
theorem dX5_count_65 : decode cX5_count 65 = .ok (.iload_n 1, 1) := by decide +kernel
theorem dX5_count_66 : decode cX5_count 66 = .ok (.iadd, 1) := by decide +kernel
theorem dX5_count_67 : decode cX5_count 67 = .ok (.iaload, 1) := by decide +kernel
theorem dX5_count_68 : decode cX5_count 68 = .ok (.ireturn, 1) := by decide +kernel
theorem dX5_count_69 : decode cX5_count 69 = .ok (.aload_n 0, 1) := by decide +kernel
theorem dX5_count_70 : decode cX5_count 70 = .ok (.iconst 0, 1) := by decide +kernel
theorem dX5_count_71 : decode cX5_count 71 = .ok (.invokevirtual 127, 3) := by decide +kernel
theorem dX5_count_74 : decode cX5_count 74 = .ok (.ireturn, 1) := by decide +kernel
theorem dX5_count_75 : decode cX5_count 75 = .ok (.aload_n 0, 1) := by decide +kernel
theorem dX5_count_76 : decode cX5_count 76 = .ok (.getfield 7, 3) := by decide +kernel
theorem dX5_count_79 : decode cX5_count 79 = .ok (.iconst 4, 1) := by decide +kernel
theorem dX5_count_80 : decode cX5_count 80 = .ok (.iload_n 1, 1) := by decide +kernel
theorem dX5_count_81 : decode cX5_count 81 = .ok (.iadd, 1) := by decide +kernel
theorem dX5_count_82 : decode cX5_count 82 = .ok (.iconst 3, 1) := by decide +kernel
theorem dX5_count_83 : decode cX5_count 83 = .ok (.isub, 1) := by decide +kernel
theorem dX5_count_84 : decode cX5_count 84 = .ok (.iaload, 1) := by decide +kernel
theorem dX5_count_85 : decode cX5_count 85 = .ok (.ireturn, 1) := by decide +kernel
theorem dX5_count_86 : decode cX5_count 86 = .ok (.aload_n 0, 1) := by decide +kernel
theorem dX5_count_87 : decode cX5_count 87 = .ok (.invokevirtual 130, 3) := by decide +kernel
theorem dX5_count_90 : decode cX5_count 90 = .ok (.ireturn, 1) := by decide +kernel
theorem dX5_count_91 : decode cX5_count 91 = .ok (.aload_n 0, 1) := by decide +kernel
theorem dX5_count_92 : decode cX5_count 92 = .ok (.iconst 0, 1) := by decide +kernel
theorem dX5_count_93 : decode cX5_count 93 = .ok (.invokevirtual 61, 3) := by decide +kernel
theorem dX5_count_96 : decode cX5_count 96 = .ok (.ifCond .ne 10, 3) := by decide +kernel
theorem dX5_count_99 : decode cX5_count 99 = .ok (.aload_n 0, 1) := by decide +kernel
theorem dX5_count_100 : decode cX5_count 100 = .ok (.invokevirtual 130, 3) := by decide +kernel
theorem dX5_count_103 : decode cX5_count 103 = .ok (.goto 4, 3) := by decide +kernel
theorem dX5_count_106 : decode cX5_count 106 = .ok (.iconst 0, 1) := by decide +kernel
theorem dX5_count_107 : decode cX5_count 107 = .ok (.ireturn, 1) := by decide +kernel
theorem dX5_count_108 : decode cX5_count 108 = .ok (.aload_n 0, 1) := by decide +kernel
theorem dX5_count_109 : decode cX5_count 109 = .ok (.iload_n 1, 1) := by decide +kernel
theorem dX5_count_110 : decode cX5_count 110 = .ok (.bipush 6, 2) := by decide +kernel
theorem dX5_count_112 : decode cX5_count 112 = .ok (.isub, 1) := by decide +kernel
theorem dX5_count_113 : decode cX5_count 113 = .ok (.invokevirtual 127, 3) := by decide +kernel
theorem dX5_count_116 : decode cX5_count 116 = .ok (.ireturn, 1) := by decide +kernel
theorem dX5_count_117 : decode cX5_count 117 = .ok (.aload_n 0, 1) := by decide +kernel
theorem dX5_count_118 : decode cX5_count 118 = .ok (.getfield 133, 3) := by decide +kernel
theorem dX5_count_121 : decode cX5_count 121 = .ok (.ireturn, 1) := by decide +kernel
theorem dX5_count_122 : decode cX5_count 122 = .ok (.aload_n 0, 1) := by decide +kernel
theorem dX5_count_123 : decode cX5_count 123 = .ok (.getfield 39, 3) := by decide +kernel
theorem dX5_count_126 : decode cX5_count 126 = .ok (.ireturn, 1) := by decide +kernel
theorem dX5_count_127 : decode cX5_count 127 = .ok (.iload_n 1, 1) := by decide +kernel
theorem dX5_count_128 : decode cX5_count 128 = .ok (.bipush 11, 2) := by decide +kernel
theorem dX5_count_130 : decode cX5_count 130 = .ok (.bipush 12, 2) := by decide +kernel
theorem dX5_count_132 : decode cX5_count 132 = .ok (.invokestatic 43, 3) := by decide +kernel
theorem dX5_count_135 : decode cX5_count 135 = .ok (.ifCond .eq 15, 3) := by decide +kernel
theorem dX5_count_138 : decode cX5_count 138 = .ok (.aload_n 0, 1) := by decide +kernel
theorem dX5_count_139 : decode cX5_count 139 = .ok (.getfield 7, 3) := by decide +kernel
theorem dX5_count_142 : decode cX5_count 142 = .ok (.iload_n 1, 1) := by decide +kernel
theorem dX5_count_143 : decode cX5_count 143 = .ok (.bipush 11, 2) := by decide +kernel
theorem dX5_count_145 : decode cX5_count 145 = .ok (.isub, 1) := by decide +kernel
theorem dX5_count_146 : decode cX5_count 146 = .ok (.iaload, 1) := by decide +kernel
theorem dX5_count_147 : decode cX5_count 147 = .ok (.goto 5, 3) := by decide +kernel
theorem dX5_count_150 : decode cX5_count 150 = .ok (.bipush (-2), 2) := by decide +kernel
theorem dX5_count_152 : decode cX5_count 152 = .ok (.ireturn, 1) := by decide +kernel
theorem dX5_pitchAt_0 : decode cX5_pitchAt 0 = .ok (.aload_n 0, 1) := by decide +kernel
theorem dX5_pitchAt_1 : decode cX5_pitchAt 1 = .ok (.iload_n 1, 1) := by decide +kernel
theorem dX5_pitchAt_2 : decode cX5_pitchAt 2 = .ok (.invokevirtual 112, 3) := by decide +kernel
theorem dX5_pitchAt_5 : decode cX5_pitchAt 5 = .ok (.ifCond .ne 5, 3) := by decide +kernel
theorem dX5_pitchAt_8 : decode cX5_pitchAt 8 = .ok (.iconst (-1), 1) := by decide +kernel
theorem dX5_pitchAt_9 : decode cX5_pitchAt 9 = .ok (.ireturn, 1) := by decide +kernel
theorem dX5_pitchAt_10 : decode cX5_pitchAt 10 = .ok (.iload_n 2, 1) := by decide +kernel
theorem dX5_pitchAt_11 : decode cX5_pitchAt 11 = .ok (.iconst 0, 1) := by decide +kernel
theorem dX5_pitchAt_12 : decode cX5_pitchAt 12 = .ok (.ldc 87, 2) := by decide +kernel
theorem dX5_pitchAt_14 : decode cX5_pitchAt 14 = .ok (.invokestatic 43, 3) := by decide +kernel
theorem dX5_pitchAt_17 : decode cX5_pitchAt 17 = .ok (.ifCond .eq 12, 3) := by decide +kernel
theorem dX5_pitchAt_20 : decode cX5_pitchAt 20 = .ok (.aload_n 0, 1) := by decide +kernel
theorem dX5_pitchAt_21 : decode cX5_pitchAt 21 = .ok (.iload_n 1, 1) := by decide +kernel
theorem dX5_pitchAt_22 : decode cX5_pitchAt 22 = .ok (.iload_n 2, 1) := by decide +kernel
theorem dX5_pitchAt_23 : decode cX5_pitchAt 23 = .ok (.invokevirtual 103, 3) := by decide +kernel
theorem dX5_pitchAt_26 : decode cX5_pitchAt 26 = .ok (.goto 5, 3) := by decide +kernel
theorem dX5_pitchAt_29 : decode cX5_pitchAt 29 = .ok (.bipush (-2), 2) := by decide +kernel
theorem dX5_pitchAt_31 : decode cX5_pitchAt 31 = .ok (.ireturn, 1) := by decide +kernel
theorem dX5_tensionFor_0 : decode cX5_tensionFor 0 = .ok (.aload_n 0, 1) := by decide +kernel
theorem dX5_tensionFor_1 : decode cX5_tensionFor 1 = .ok (.iload_n 1, 1) := by decide +kernel
theorem dX5_tensionFor_2 : decode cX5_tensionFor 2 = .ok (.invokevirtual 112, 3) := by decide +kernel
theorem dX5_tensionFor_5 : decode cX5_tensionFor 5 = .ok (.ifCond .ne 5, 3) := by decide +kernel
theorem dX5_tensionFor_8 : decode cX5_tensionFor 8 = .ok (.iconst (-1), 1) := by decide +kernel
theorem dX5_tensionFor_9 : decode cX5_tensionFor 9 = .ok (.ireturn, 1) := by decide +kernel
theorem dX5_tensionFor_10 : decode cX5_tensionFor 10 = .ok (.iload_n 2, 1) := by decide +kernel
theorem dX5_tensionFor_11 : decode cX5_tensionFor 11 = .ok (.iconst 0, 1) := by decide +kernel
theorem dX5_tensionFor_12 : decode cX5_tensionFor 12 = .ok (.ldc 136, 2) := by decide +kernel
theorem dX5_tensionFor_14 : decode cX5_tensionFor 14 = .ok (.invokestatic 43, 3) := by decide +kernel
theorem dX5_tensionFor_17 : decode cX5_tensionFor 17 = .ok (.ifCond .ne 6, 3) := by decide +kernel
theorem dX5_tensionFor_20 : decode cX5_tensionFor 20 = .ok (.bipush (-2), 2) := by decide +kernel
theorem dX5_tensionFor_22 : decode cX5_tensionFor 22 = .ok (.ireturn, 1) := by decide +kernel
theorem dX5_tensionFor_23 : decode cX5_tensionFor 23 = .ok (.aload_n 0, 1) := by decide +kernel
theorem dX5_tensionFor_24 : decode cX5_tensionFor 24 = .ok (.iload_n 1, 1) := by decide +kernel
theorem dX5_tensionFor_25 : decode cX5_tensionFor 25 = .ok (.iload_n 2, 1) := by decide +kernel
theorem dX5_tensionFor_26 : decode cX5_tensionFor 26 = .ok (.invokevirtual 106, 3) := by decide +kernel
theorem dX5_tensionFor_29 : decode cX5_tensionFor 29 = .ok (.lstore_n 3, 1) := by decide +kernel
theorem dX5_tensionFor_30 : decode cX5_tensionFor 30 = .ok (.lload_n 3, 1) := by decide +kernel
theorem dX5_tensionFor_31 : decode cX5_tensionFor 31 = .ok (.ldc2_w 110, 3) := by decide +kernel
theorem dX5_tensionFor_34 : decode cX5_tensionFor 34 = .ok (.lcmp, 1) := by decide +kernel
theorem dX5_tensionFor_35 : decode cX5_tensionFor 35 = .ok (.ifCond .le 8, 3) := by decide +kernel
theorem dX5_tensionFor_38 : decode cX5_tensionFor 38 = .ok (.bipush (-6), 2) := by decide +kernel
theorem dX5_tensionFor_40 : decode cX5_tensionFor 40 = .ok (.goto 5, 3) := by decide +kernel
theorem dX5_tensionFor_43 : decode cX5_tensionFor 43 = .ok (.lload_n 3, 1) := by decide +kernel
theorem dX5_tensionFor_44 : decode cX5_tensionFor 44 = .ok (.l2i, 1) := by decide +kernel
theorem dX5_tensionFor_45 : decode cX5_tensionFor 45 = .ok (.ireturn, 1) := by decide +kernel
theorem dX5_fallen_0 : decode cX5_fallen 0 = .ok (.aload_n 0, 1) := by decide +kernel
theorem dX5_fallen_1 : decode cX5_fallen 1 = .ok (.iconst 0, 1) := by decide +kernel
theorem dX5_fallen_2 : decode cX5_fallen 2 = .ok (.invokevirtual 61, 3) := by decide +kernel
theorem dX5_fallen_5 : decode cX5_fallen 5 = .ok (.istore_n 2, 1) := by decide +kernel
theorem dX5_fallen_6 : decode cX5_fallen 6 = .ok (.aload_n 0, 1) := by decide +kernel
theorem dX5_fallen_7 : decode cX5_fallen 7 = .ok (.invokevirtual 137, 3) := by decide +kernel
theorem dX5_fallen_10 : decode cX5_fallen 10 = .ok (.aload_n 0, 1) := by decide +kernel
theorem dX5_fallen_11 : decode cX5_fallen 11 = .ok (.iload_n 1, 1) := by decide +kernel
theorem dX5_fallen_12 : decode cX5_fallen 12 = .ok (.invokevirtual 81, 3) := by decide +kernel
theorem dX5_fallen_15 : decode cX5_fallen 15 = .ok (.aload_n 0, 1) := by decide +kernel
theorem dX5_fallen_16 : decode cX5_fallen 16 = .ok (.invokevirtual 91, 3) := by decide +kernel
theorem dX5_fallen_19 : decode cX5_fallen 19 = .ok (.pop, 1) := by decide +kernel
theorem dX5_fallen_20 : decode cX5_fallen 20 = .ok (.iload_n 2, 1) := by decide +kernel
theorem dX5_fallen_21 : decode cX5_fallen 21 = .ok (.aload_n 0, 1) := by decide +kernel
theorem dX5_fallen_22 : decode cX5_fallen 22 = .ok (.iconst 0, 1) := by decide +kernel
theorem dX5_fallen_23 : decode cX5_fallen 23 = .ok (.invokevirtual 61, 3) := by decide +kernel
theorem dX5_fallen_26 : decode cX5_fallen 26 = .ok (.iconst (-1), 1) := by decide +kernel
theorem dX5_fallen_27 : decode cX5_fallen 27 = .ok (.ixor, 1) := by decide +kernel
theorem dX5_fallen_28 : decode cX5_fallen 28 = .ok (.iand, 1) := by decide +kernel
theorem dX5_fallen_29 : decode cX5_fallen 29 = .ok (.istore_n 3, 1) := by decide +kernel
theorem dX5_fallen_30 : decode cX5_fallen 30 = .ok (.aload_n 0, 1) := by decide +kernel
theorem dX5_fallen_31 : decode cX5_fallen 31 = .ok (.invokevirtual 140, 3) := by decide +kernel
theorem dX5_fallen_34 : decode cX5_fallen 34 = .ok (.iload_n 3, 1) := by decide +kernel
theorem dX5_fallen_35 : decode cX5_fallen 35 = .ok (.ireturn, 1) := by decide +kernel
theorem dX5_fallsWith_0 : decode cX5_fallsWith 0 = .ok (.aload_n 0, 1) := by decide +kernel
theorem dX5_fallsWith_1 : decode cX5_fallsWith 1 = .ok (.iload_n 1, 1) := by decide +kernel
theorem dX5_fallsWith_2 : decode cX5_fallsWith 2 = .ok (.invokevirtual 112, 3) := by decide +kernel
theorem dX5_fallsWith_5 : decode cX5_fallsWith 5 = .ok (.ifCond .ne 5, 3) := by decide +kernel
theorem dX5_fallsWith_8 : decode cX5_fallsWith 8 = .ok (.iconst (-1), 1) := by decide +kernel
theorem dX5_fallsWith_9 : decode cX5_fallsWith 9 = .ok (.ireturn, 1) := by decide +kernel
theorem dX5_fallsWith_10 : decode cX5_fallsWith 10 = .ok (.aload_n 0, 1) := by decide +kernel
theorem dX5_fallsWith_11 : decode cX5_fallsWith 11 = .ok (.iload_n 1, 1) := by decide +kernel
theorem dX5_fallsWith_12 : decode cX5_fallsWith 12 = .ok (.invokevirtual 69, 3) := by decide +kernel
theorem dX5_fallsWith_15 : decode cX5_fallsWith 15 = .ok (.ifCond .eq 11, 3) := by decide +kernel
theorem dX5_fallsWith_18 : decode cX5_fallsWith 18 = .ok (.aload_n 0, 1) := by decide +kernel
theorem dX5_fallsWith_19 : decode cX5_fallsWith 19 = .ok (.iload_n 1, 1) := by decide +kernel
theorem dX5_fallsWith_20 : decode cX5_fallsWith 20 = .ok (.invokevirtual 143, 3) := by decide +kernel
theorem dX5_fallsWith_23 : decode cX5_fallsWith 23 = .ok (.goto 5, 3) := by decide +kernel
theorem dX5_fallsWith_26 : decode cX5_fallsWith 26 = .ok (.bipush (-5), 2) := by decide +kernel
theorem dX5_fallsWith_28 : decode cX5_fallsWith 28 = .ok (.ireturn, 1) := by decide +kernel
theorem dX5_mostAt_0 : decode cX5_mostAt 0 = .ok (.iload_n 1, 1) := by decide +kernel
theorem dX5_mostAt_1 : decode cX5_mostAt 1 = .ok (.iconst 0, 1) := by decide +kernel
theorem dX5_mostAt_2 : decode cX5_mostAt 2 = .ok (.bipush 19, 2) := by decide +kernel
theorem dX5_mostAt_4 : decode cX5_mostAt 4 = .ok (.invokestatic 43, 3) := by decide +kernel
theorem dX5_mostAt_7 : decode cX5_mostAt 7 = .ok (.ifCond .ne 5, 3) := by decide +kernel
theorem dX5_mostAt_10 : decode cX5_mostAt 10 = .ok (.iconst (-1), 1) := by decide +kernel
theorem dX5_mostAt_11 : decode cX5_mostAt 11 = .ok (.ireturn, 1) := by decide +kernel
theorem dX5_mostAt_12 : decode cX5_mostAt 12 = .ok (.aload_n 0, 1) := by decide +kernel
theorem dX5_mostAt_13 : decode cX5_mostAt 13 = .ok (.getfield 7, 3) := by decide +kernel
theorem dX5_mostAt_16 : decode cX5_mostAt 16 = .ok (.bipush 10, 2) := by decide +kernel
theorem dX5_mostAt_18 : decode cX5_mostAt 18 = .ok (.iload_n 1, 1) := by decide +kernel
theorem dX5_mostAt_19 : decode cX5_mostAt 19 = .ok (.iadd, 1) := by decide +kernel
theorem dX5_mostAt_20 : decode cX5_mostAt 20 = .ok (.iaload, 1) := by decide +kernel
theorem dX5_mostAt_21 : decode cX5_mostAt 21 = .ok (.istore_n 2, 1) := by decide +kernel
theorem dX5_mostAt_22 : decode cX5_mostAt 22 = .ok (.sipush 1000, 3) := by decide +kernel
theorem dX5_mostAt_25 : decode cX5_mostAt 25 = .ok (.istore_n 3, 1) := by decide +kernel
theorem dX5_mostAt_26 : decode cX5_mostAt 26 = .ok (.aload_n 0, 1) := by decide +kernel
theorem dX5_mostAt_27 : decode cX5_mostAt 27 = .ok (.getfield 7, 3) := by decide +kernel
theorem dX5_mostAt_30 : decode cX5_mostAt 30 = .ok (.bipush 10, 2) := by decide +kernel
theorem dX5_mostAt_32 : decode cX5_mostAt 32 = .ok (.iload_n 1, 1) := by decide +kernel
theorem dX5_mostAt_33 : decode cX5_mostAt 33 = .ok (.iadd, 1) := by decide +kernel
theorem dX5_mostAt_34 : decode cX5_mostAt 34 = .ok (.iload_n 3, 1) := by decide +kernel
theorem dX5_mostAt_35 : decode cX5_mostAt 35 = .ok (.iastore, 1) := by decide +kernel
theorem dX5_mostAt_36 : decode cX5_mostAt 36 = .ok (.iload_n 3, 1) := by decide +kernel
theorem dX5_mostAt_37 : decode cX5_mostAt 37 = .ok (.ifCond .lt 26, 3) := by decide +kernel
theorem dX5_mostAt_40 : decode cX5_mostAt 40 = .ok (.aload_n 0, 1) := by decide +kernel
theorem dX5_mostAt_41 : decode cX5_mostAt 41 = .ok (.invokevirtual 77, 3) := by decide +kernel
theorem dX5_mostAt_44 : decode cX5_mostAt 44 = .ok (.ifCond .lt 19, 3) := by decide +kernel
theorem dX5_mostAt_47 : decode cX5_mostAt 47 = .ok (.iinc 3 (-1), 3) := by decide +kernel
theorem dX5_mostAt_50 : decode cX5_mostAt 50 = .ok (.aload_n 0, 1) := by decide +kernel
theorem dX5_mostAt_51 : decode cX5_mostAt 51 = .ok (.getfield 7, 3) := by decide +kernel
theorem dX5_mostAt_54 : decode cX5_mostAt 54 = .ok (.bipush 10, 2) := by decide +kernel
theorem dX5_mostAt_56 : decode cX5_mostAt 56 = .ok (.iload_n 1, 1) := by decide +kernel
theorem dX5_mostAt_57 : decode cX5_mostAt 57 = .ok (.iadd, 1) := by decide +kernel
theorem dX5_mostAt_58 : decode cX5_mostAt 58 = .ok (.iload_n 3, 1) := by decide +kernel
theorem dX5_mostAt_59 : decode cX5_mostAt 59 = .ok (.iastore, 1) := by decide +kernel
theorem dX5_mostAt_60 : decode cX5_mostAt 60 = .ok (.goto (-24), 3) := by decide +kernel
theorem dX5_mostAt_63 : decode cX5_mostAt 63 = .ok (.aload_n 0, 1) := by decide +kernel
theorem dX5_mostAt_64 : decode cX5_mostAt 64 = .ok (.getfield 7, 3) := by decide +kernel
theorem dX5_mostAt_67 : decode cX5_mostAt 67 = .ok (.bipush 10, 2) := by decide +kernel
theorem dX5_mostAt_69 : decode cX5_mostAt 69 = .ok (.iload_n 1, 1) := by decide +kernel
theorem dX5_mostAt_70 : decode cX5_mostAt 70 = .ok (.iadd, 1) := by decide +kernel
theorem dX5_mostAt_71 : decode cX5_mostAt 71 = .ok (.iload_n 2, 1) := by decide +kernel
theorem dX5_mostAt_72 : decode cX5_mostAt 72 = .ok (.iastore, 1) := by decide +kernel
theorem dX5_mostAt_73 : decode cX5_mostAt 73 = .ok (.iload_n 3, 1) := by decide +kernel
theorem dX5_mostAt_74 : decode cX5_mostAt 74 = .ok (.ifCond .ge 8, 3) := by decide +kernel
theorem dX5_mostAt_77 : decode cX5_mostAt 77 = .ok (.bipush (-6), 2) := by decide +kernel
theorem dX5_mostAt_79 : decode cX5_mostAt 79 = .ok (.goto 4, 3) := by decide +kernel
theorem dX5_mostAt_82 : decode cX5_mostAt 82 = .ok (.iload_n 3, 1) := by decide +kernel
theorem dX5_mostAt_83 : decode cX5_mostAt 83 = .ok (.ireturn, 1) := by decide +kernel
theorem dX5_slackIn_0 : decode cX5_slackIn 0 = .ok (.aload_n 0, 1) := by decide +kernel
theorem dX5_slackIn_1 : decode cX5_slackIn 1 = .ok (.iload_n 1, 1) := by decide +kernel
theorem dX5_slackIn_2 : decode cX5_slackIn 2 = .ok (.invokevirtual 112, 3) := by decide +kernel
theorem dX5_slackIn_5 : decode cX5_slackIn 5 = .ok (.ifCond .ne 5, 3) := by decide +kernel
theorem dX5_slackIn_8 : decode cX5_slackIn 8 = .ok (.iconst (-1), 1) := by decide +kernel
theorem dX5_slackIn_9 : decode cX5_slackIn 9 = .ok (.ireturn, 1) := by decide +kernel
theorem dX5_slackIn_10 : decode cX5_slackIn 10 = .ok (.aload_n 0, 1) := by decide +kernel
theorem dX5_slackIn_11 : decode cX5_slackIn 11 = .ok (.invokevirtual 137, 3) := by decide +kernel
theorem dX5_slackIn_14 : decode cX5_slackIn 14 = .ok (.iconst 0, 1) := by decide +kernel
theorem dX5_slackIn_15 : decode cX5_slackIn 15 = .ok (.istore_n 2, 1) := by decide +kernel
theorem dX5_slackIn_16 : decode cX5_slackIn 16 = .ok (.aload_n 0, 1) := by decide +kernel
theorem dX5_slackIn_17 : decode cX5_slackIn 17 = .ok (.aload_n 0, 1) := by decide +kernel
theorem dX5_slackIn_18 : decode cX5_slackIn 18 = .ok (.iconst 0, 1) := by decide +kernel
theorem dX5_slackIn_19 : decode cX5_slackIn 19 = .ok (.invokevirtual 61, 3) := by decide +kernel
theorem dX5_slackIn_22 : decode cX5_slackIn 22 = .ok (.invokevirtual 65, 3) := by decide +kernel
theorem dX5_slackIn_25 : decode cX5_slackIn 25 = .ok (.iload_n 2, 1) := by decide +kernel
theorem dX5_slackIn_26 : decode cX5_slackIn 26 = .ok (.sipush 300, 3) := by decide +kernel
theorem dX5_slackIn_29 : decode cX5_slackIn 29 = .ok (.if_icmp .ge 39, 3) := by decide +kernel
theorem dX5_slackIn_32 : decode cX5_slackIn 32 = .ok (.aload_n 0, 1) := by decide +kernel
theorem dX5_slackIn_33 : decode cX5_slackIn 33 = .ok (.iload_n 1, 1) := by decide +kernel
theorem dX5_slackIn_34 : decode cX5_slackIn 34 = .ok (.invokevirtual 69, 3) := by decide +kernel
theorem dX5_slackIn_37 : decode cX5_slackIn 37 = .ok (.ifCond .eq 31, 3) := by decide +kernel
theorem dX5_slackIn_40 : decode cX5_slackIn 40 = .ok (.aload_n 0, 1) := by decide +kernel
theorem dX5_slackIn_41 : decode cX5_slackIn 41 = .ok (.iload_n 1, 1) := by decide +kernel
theorem dX5_slackIn_42 : decode cX5_slackIn 42 = .ok (.invokevirtual 115, 3) := by decide +kernel
theorem dX5_slackIn_45 : decode cX5_slackIn 45 = .ok (.ifCond .ne 23, 3) := by decide +kernel
theorem dX5_slackIn_48 : decode cX5_slackIn 48 = .ok (.aload_n 0, 1) := by decide +kernel
theorem dX5_slackIn_49 : decode cX5_slackIn 49 = .ok (.invokevirtual 97, 3) := by decide +kernel
theorem dX5_slackIn_52 : decode cX5_slackIn 52 = .ok (.pop, 1) := by decide +kernel
theorem dX5_slackIn_53 : decode cX5_slackIn 53 = .ok (.iinc 2 1, 3) := by decide +kernel
theorem dX5_slackIn_56 : decode cX5_slackIn 56 = .ok (.aload_n 0, 1) := by decide +kernel
theorem dX5_slackIn_57 : decode cX5_slackIn 57 = .ok (.aload_n 0, 1) := by decide +kernel
theorem dX5_slackIn_58 : decode cX5_slackIn 58 = .ok (.iconst 0, 1) := by decide +kernel
theorem dX5_slackIn_59 : decode cX5_slackIn 59 = .ok (.invokevirtual 61, 3) := by decide +kernel
theorem dX5_slackIn_62 : decode cX5_slackIn 62 = .ok (.invokevirtual 65, 3) := by decide +kernel
theorem dX5_slackIn_65 : decode cX5_slackIn 65 = .ok (.goto (-40), 3) := by decide +kernel
theorem dX5_slackIn_68 : decode cX5_slackIn 68 = .ok (.aload_n 0, 1) := by decide +kernel
theorem dX5_slackIn_69 : decode cX5_slackIn 69 = .ok (.iload_n 1, 1) := by decide +kernel
theorem dX5_slackIn_70 : decode cX5_slackIn 70 = .ok (.invokevirtual 115, 3) := by decide +kernel
theorem dX5_slackIn_73 : decode cX5_slackIn 73 = .ok (.ifCond .eq 7, 3) := by decide +kernel
theorem dX5_slackIn_76 : decode cX5_slackIn 76 = .ok (.iload_n 2, 1) := by decide +kernel
theorem dX5_slackIn_77 : decode cX5_slackIn 77 = .ok (.goto 5, 3) := by decide +kernel
theorem dX5_slackIn_80 : decode cX5_slackIn 80 = .ok (.bipush (-6), 2) := by decide +kernel
theorem dX5_slackIn_82 : decode cX5_slackIn 82 = .ok (.istore_n 3, 1) := by decide +kernel
theorem dX5_slackIn_83 : decode cX5_slackIn 83 = .ok (.aload_n 0, 1) := by decide +kernel
theorem dX5_slackIn_84 : decode cX5_slackIn 84 = .ok (.invokevirtual 140, 3) := by decide +kernel
theorem dX5_slackIn_87 : decode cX5_slackIn 87 = .ok (.iload_n 3, 1) := by decide +kernel
theorem dX5_slackIn_88 : decode cX5_slackIn 88 = .ok (.ireturn, 1) := by decide +kernel
theorem dX5_round_0 : decode cX5_round 0 = .ok (.aload_n 0, 1) := by decide +kernel
theorem dX5_round_1 : decode cX5_round 1 = .ok (.aload_n 0, 1) := by decide +kernel
theorem dX5_round_2 : decode cX5_round 2 = .ok (.iconst 1, 1) := by decide +kernel
theorem dX5_round_3 : decode cX5_round 3 = .ok (.invokevirtual 61, 3) := by decide +kernel
theorem dX5_round_6 : decode cX5_round 6 = .ok (.invokevirtual 65, 3) := by decide +kernel
theorem dX5_round_9 : decode cX5_round 9 = .ok (.iconst 0, 1) := by decide +kernel
theorem dX5_round_10 : decode cX5_round 10 = .ok (.istore_n 1, 1) := by decide +kernel
theorem dX5_round_11 : decode cX5_round 11 = .ok (.iconst 0, 1) := by decide +kernel
theorem dX5_round_12 : decode cX5_round 12 = .ok (.istore_n 2, 1) := by decide +kernel
theorem dX5_round_13 : decode cX5_round 13 = .ok (.iconst 0, 1) := by decide +kernel
theorem dX5_round_14 : decode cX5_round 14 = .ok (.istore_n 3, 1) := by decide +kernel
theorem dX5_round_15 : decode cX5_round 15 = .ok (.iload_n 3, 1) := by decide +kernel
theorem dX5_round_16 : decode cX5_round 16 = .ok (.aload_n 0, 1) := by decide +kernel
theorem dX5_round_17 : decode cX5_round 17 = .ok (.getfield 7, 3) := by decide +kernel
theorem dX5_round_20 : decode cX5_round 20 = .ok (.iconst 3, 1) := by decide +kernel
theorem dX5_round_21 : decode cX5_round 21 = .ok (.iaload, 1) := by decide +kernel
theorem dX5_round_22 : decode cX5_round 22 = .ok (.if_icmp .ge 78, 3) := by decide +kernel
theorem dX5_round_25 : decode cX5_round 25 = .ok (.aload_n 0, 1) := by decide +kernel
theorem dX5_round_26 : decode cX5_round 26 = .ok (.iload_n 3, 1) := by decide +kernel
theorem dX5_round_27 : decode cX5_round 27 = .ok (.bipush 10, 2) := by decide +kernel
theorem dX5_round_29 : decode cX5_round 29 = .ok (.invokevirtual 47, 3) := by decide +kernel
theorem dX5_round_32 : decode cX5_round 32 = .ok (.ifCond .ne 62, 3) := by decide +kernel
theorem dX5_round_35 : decode cX5_round 35 = .ok (.aload_n 0, 1) := by decide +kernel
theorem dX5_round_36 : decode cX5_round 36 = .ok (.iload_n 3, 1) := by decide +kernel
theorem dX5_round_37 : decode cX5_round 37 = .ok (.invokevirtual 121, 3) := by decide +kernel
theorem dX5_round_40 : decode cX5_round 40 = .ok (.ifCond .ne 11, 3) := by decide +kernel
theorem dX5_round_43 : decode cX5_round 43 = .ok (.aload_n 0, 1) := by decide +kernel
theorem dX5_round_44 : decode cX5_round 44 = .ok (.iload_n 3, 1) := by decide +kernel
theorem dX5_round_45 : decode cX5_round 45 = .ok (.invokevirtual 124, 3) := by decide +kernel
theorem dX5_round_48 : decode cX5_round 48 = .ok (.ifCond .eq 46, 3) := by decide +kernel
theorem dX5_round_51 : decode cX5_round 51 = .ok (.aload_n 0, 1) := by decide +kernel
theorem dX5_round_52 : decode cX5_round 52 = .ok (.iload_n 3, 1) := by decide +kernel
theorem dX5_round_53 : decode cX5_round 53 = .ok (.iconst 0, 1) := by decide +kernel
theorem dX5_round_54 : decode cX5_round 54 = .ok (.invokevirtual 47, 3) := by decide +kernel
theorem dX5_round_57 : decode cX5_round 57 = .ok (.aload_n 0, 1) := by decide +kernel
theorem dX5_round_58 : decode cX5_round 58 = .ok (.getfield 7, 3) := by decide +kernel
theorem dX5_round_61 : decode cX5_round 61 = .ok (.iconst 4, 1) := by decide +kernel
theorem dX5_round_62 : decode cX5_round 62 = .ok (.iaload, 1) := by decide +kernel
theorem dX5_round_63 : decode cX5_round 63 = .ok (.isub, 1) := by decide +kernel
theorem dX5_round_64 : decode cX5_round 64 = .ok (.istore 4, 2) := by decide +kernel
theorem dX5_round_66 : decode cX5_round 66 = .ok (.iload 4, 2) := by decide +kernel
theorem dX5_round_68 : decode cX5_round 68 = .ok (.ineg, 1) := by decide +kernel
theorem dX5_round_69 : decode cX5_round 69 = .ok (.iload_n 1, 1) := by decide +kernel
theorem dX5_round_70 : decode cX5_round 70 = .ok (.if_icmp .le 9, 3) := by decide +kernel
theorem dX5_round_73 : decode cX5_round 73 = .ok (.iload 4, 2) := by decide +kernel
theorem dX5_round_75 : decode cX5_round 75 = .ok (.ineg, 1) := by decide +kernel
theorem dX5_round_76 : decode cX5_round 76 = .ok (.goto 4, 3) := by decide +kernel
theorem dX5_round_79 : decode cX5_round 79 = .ok (.iload_n 1, 1) := by decide +kernel
theorem dX5_round_80 : decode cX5_round 80 = .ok (.istore_n 1, 1) := by decide +kernel
theorem dX5_round_81 : decode cX5_round 81 = .ok (.iload 4, 2) := by decide +kernel
theorem dX5_round_83 : decode cX5_round 83 = .ok (.iload_n 2, 1) := by decide +kernel
theorem dX5_round_84 : decode cX5_round 84 = .ok (.if_icmp .le 8, 3) := by decide +kernel
theorem dX5_round_87 : decode cX5_round 87 = .ok (.iload 4, 2) := by decide +kernel
theorem dX5_round_89 : decode cX5_round 89 = .ok (.goto 4, 3) := by decide +kernel
theorem dX5_round_92 : decode cX5_round 92 = .ok (.iload_n 2, 1) := by decide +kernel
theorem dX5_round_93 : decode cX5_round 93 = .ok (.istore_n 2, 1) := by decide +kernel
theorem dX5_round_94 : decode cX5_round 94 = .ok (.iinc 3 1, 3) := by decide +kernel
theorem dX5_round_97 : decode cX5_round 97 = .ok (.goto (-82), 3) := by decide +kernel
theorem dX5_round_100 : decode cX5_round 100 = .ok (.iload_n 1, 1) := by decide +kernel
theorem dX5_round_101 : decode cX5_round 101 = .ok (.iload_n 2, 1) := by decide +kernel
theorem dX5_round_102 : decode cX5_round 102 = .ok (.iadd, 1) := by decide +kernel
theorem dX5_round_103 : decode cX5_round 103 = .ok (.iload_n 1, 1) := by decide +kernel
theorem dX5_round_104 : decode cX5_round 104 = .ok (.iload_n 2, 1) := by decide +kernel
theorem dX5_round_105 : decode cX5_round 105 = .ok (.if_icmp .ge 7, 3) := by decide +kernel
theorem dX5_round_108 : decode cX5_round 108 = .ok (.iload_n 1, 1) := by decide +kernel
theorem dX5_round_109 : decode cX5_round 109 = .ok (.goto 4, 3) := by decide +kernel
theorem dX5_round_112 : decode cX5_round 112 = .ok (.iload_n 2, 1) := by decide +kernel
theorem dX5_round_113 : decode cX5_round 113 = .ok (.iadd, 1) := by decide +kernel
theorem dX5_round_114 : decode cX5_round 114 = .ok (.ireturn, 1) := by decide +kernel
theorem dX5_size_0 : decode cX5_size 0 = .ok (.iconst 0, 1) := by decide +kernel
theorem dX5_size_1 : decode cX5_size 1 = .ok (.istore_n 1, 1) := by decide +kernel
theorem dX5_size_2 : decode cX5_size 2 = .ok (.iconst 0, 1) := by decide +kernel
theorem dX5_size_3 : decode cX5_size 3 = .ok (.istore_n 2, 1) := by decide +kernel
theorem dX5_size_4 : decode cX5_size 4 = .ok (.iload_n 2, 1) := by decide +kernel
theorem dX5_size_5 : decode cX5_size 5 = .ok (.bipush 8, 2) := by decide +kernel
theorem dX5_size_7 : decode cX5_size 7 = .ok (.if_icmp .ge 17, 3) := by decide +kernel
theorem dX5_size_10 : decode cX5_size 10 = .ok (.iload_n 1, 1) := by decide +kernel
theorem dX5_size_11 : decode cX5_size 11 = .ok (.iload_n 0, 1) := by decide +kernel
theorem dX5_size_12 : decode cX5_size 12 = .ok (.iload_n 2, 1) := by decide +kernel
theorem dX5_size_13 : decode cX5_size 13 = .ok (.ishr, 1) := by decide +kernel
theorem dX5_size_14 : decode cX5_size 14 = .ok (.iconst 1, 1) := by decide +kernel
theorem dX5_size_15 : decode cX5_size 15 = .ok (.iand, 1) := by decide +kernel
theorem dX5_size_16 : decode cX5_size 16 = .ok (.iadd, 1) := by decide +kernel
theorem dX5_size_17 : decode cX5_size 17 = .ok (.istore_n 1, 1) := by decide +kernel
theorem dX5_size_18 : decode cX5_size 18 = .ok (.iinc 2 1, 3) := by decide +kernel
theorem dX5_size_21 : decode cX5_size 21 = .ok (.goto (-17), 3) := by decide +kernel
theorem dX5_size_24 : decode cX5_size 24 = .ok (.iload_n 1, 1) := by decide +kernel
theorem dX5_size_25 : decode cX5_size 25 = .ok (.ireturn, 1) := by decide +kernel
theorem dX5_weakest_0 : decode cX5_weakest 0 = .ok (.iload_n 1, 1) := by decide +kernel
theorem dX5_weakest_1 : decode cX5_weakest 1 = .ok (.iconst 0, 1) := by decide +kernel
theorem dX5_weakest_2 : decode cX5_weakest 2 = .ok (.iconst 1, 1) := by decide +kernel
theorem dX5_weakest_3 : decode cX5_weakest 3 = .ok (.invokestatic 43, 3) := by decide +kernel
theorem dX5_weakest_6 : decode cX5_weakest 6 = .ok (.ifCond .ne 6, 3) := by decide +kernel
theorem dX5_weakest_9 : decode cX5_weakest 9 = .ok (.bipush (-2), 2) := by decide +kernel
theorem dX5_weakest_11 : decode cX5_weakest 11 = .ok (.ireturn, 1) := by decide +kernel
theorem dX5_weakest_12 : decode cX5_weakest 12 = .ok (.bipush (-6), 2) := by decide +kernel
theorem dX5_weakest_14 : decode cX5_weakest 14 = .ok (.istore_n 2, 1) := by decide +kernel
theorem dX5_weakest_15 : decode cX5_weakest 15 = .ok (.iconst 0, 1) := by decide +kernel
theorem dX5_weakest_16 : decode cX5_weakest 16 = .ok (.istore_n 3, 1) := by decide +kernel
theorem dX5_weakest_17 : decode cX5_weakest 17 = .ok (.iconst 0, 1) := by decide +kernel
theorem dX5_weakest_18 : decode cX5_weakest 18 = .ok (.istore 4, 2) := by decide +kernel
theorem dX5_weakest_20 : decode cX5_weakest 20 = .ok (.iload 4, 2) := by decide +kernel
theorem dX5_weakest_22 : decode cX5_weakest 22 = .ok (.aload_n 0, 1) := by decide +kernel
theorem dX5_weakest_23 : decode cX5_weakest 23 = .ok (.getfield 7, 3) := by decide +kernel
theorem dX5_weakest_26 : decode cX5_weakest 26 = .ok (.iconst 3, 1) := by decide +kernel
theorem dX5_weakest_27 : decode cX5_weakest 27 = .ok (.iaload, 1) := by decide +kernel
theorem dX5_weakest_28 : decode cX5_weakest 28 = .ok (.if_icmp .ge 45, 3) := by decide +kernel
theorem dX5_weakest_31 : decode cX5_weakest 31 = .ok (.aload_n 0, 1) := by decide +kernel
theorem dX5_weakest_32 : decode cX5_weakest 32 = .ok (.iload 4, 2) := by decide +kernel
theorem dX5_weakest_34 : decode cX5_weakest 34 = .ok (.invokevirtual 69, 3) := by decide +kernel
theorem dX5_weakest_37 : decode cX5_weakest 37 = .ok (.ifCond .eq 15, 3) := by decide +kernel
theorem dX5_weakest_40 : decode cX5_weakest 40 = .ok (.aload_n 0, 1) := by decide +kernel
theorem dX5_weakest_41 : decode cX5_weakest 41 = .ok (.iload 4, 2) := by decide +kernel
theorem dX5_weakest_43 : decode cX5_weakest 43 = .ok (.invokevirtual 143, 3) := by decide +kernel
theorem dX5_weakest_46 : decode cX5_weakest 46 = .ok (.invokestatic 146, 3) := by decide +kernel
theorem dX5_weakest_49 : decode cX5_weakest 49 = .ok (.goto 4, 3) := by decide +kernel
theorem dX5_weakest_52 : decode cX5_weakest 52 = .ok (.iconst 0, 1) := by decide +kernel
theorem dX5_weakest_53 : decode cX5_weakest 53 = .ok (.istore 5, 2) := by decide +kernel
theorem dX5_weakest_55 : decode cX5_weakest 55 = .ok (.iload 5, 2) := by decide +kernel
theorem dX5_weakest_57 : decode cX5_weakest 57 = .ok (.iload_n 3, 1) := by decide +kernel
theorem dX5_weakest_58 : decode cX5_weakest 58 = .ok (.if_icmp .le 9, 3) := by decide +kernel
theorem dX5_weakest_61 : decode cX5_weakest 61 = .ok (.iload 4, 2) := by decide +kernel
theorem dX5_weakest_63 : decode cX5_weakest 63 = .ok (.istore_n 2, 1) := by decide +kernel
theorem dX5_weakest_64 : decode cX5_weakest 64 = .ok (.iload 5, 2) := by decide +kernel
theorem dX5_weakest_66 : decode cX5_weakest 66 = .ok (.istore_n 3, 1) := by decide +kernel
theorem dX5_weakest_67 : decode cX5_weakest 67 = .ok (.iinc 4 1, 3) := by decide +kernel
theorem dX5_weakest_70 : decode cX5_weakest 70 = .ok (.goto (-50), 3) := by decide +kernel
theorem dX5_weakest_73 : decode cX5_weakest 73 = .ok (.iload_n 2, 1) := by decide +kernel
theorem dX5_weakest_74 : decode cX5_weakest 74 = .ok (.ifCond .lt 7, 3) := by decide +kernel
theorem dX5_weakest_77 : decode cX5_weakest 77 = .ok (.iload_n 1, 1) := by decide +kernel
theorem dX5_weakest_78 : decode cX5_weakest 78 = .ok (.ifCond .ne 7, 3) := by decide +kernel
theorem dX5_weakest_81 : decode cX5_weakest 81 = .ok (.iload_n 2, 1) := by decide +kernel
theorem dX5_weakest_82 : decode cX5_weakest 82 = .ok (.goto 4, 3) := by decide +kernel
theorem dX5_weakest_85 : decode cX5_weakest 85 = .ok (.iload_n 3, 1) := by decide +kernel
theorem dX5_weakest_86 : decode cX5_weakest 86 = .ok (.ireturn, 1) := by decide +kernel
theorem dX5_sign_0 : decode cX5_sign 0 = .ok (.aload_n 0, 1) := by decide +kernel
theorem dX5_sign_1 : decode cX5_sign 1 = .ok (.getfield 149, 3) := by decide +kernel
theorem dX5_sign_4 : decode cX5_sign 4 = .ok (.aload_n 0, 1) := by decide +kernel
theorem dX5_sign_5 : decode cX5_sign 5 = .ok (.getfield 133, 3) := by decide +kernel
theorem dX5_sign_8 : decode cX5_sign 8 = .ok (.if_icmp .ge 15, 3) := by decide +kernel
theorem dX5_sign_11 : decode cX5_sign 11 = .ok (.aload_n 0, 1) := by decide +kernel
theorem dX5_sign_12 : decode cX5_sign 12 = .ok (.getfield 26, 3) := by decide +kernel
theorem dX5_sign_15 : decode cX5_sign 15 = .ok (.aload_n 0, 1) := by decide +kernel
theorem dX5_sign_16 : decode cX5_sign 16 = .ok (.getfield 149, 3) := by decide +kernel
theorem dX5_sign_19 : decode cX5_sign 19 = .ok (.iaload, 1) := by decide +kernel
theorem dX5_sign_20 : decode cX5_sign 20 = .ok (.goto 4, 3) := by decide +kernel
theorem dX5_sign_23 : decode cX5_sign 23 = .ok (.iconst 0, 1) := by decide +kernel
theorem dX5_sign_24 : decode cX5_sign 24 = .ok (.ireturn, 1) := by decide +kernel
theorem dX5_number_0 : decode cX5_number 0 = .ok (.aload_n 0, 1) := by decide +kernel
theorem dX5_number_1 : decode cX5_number 1 = .ok (.invokevirtual 152, 3) := by decide +kernel
theorem dX5_number_4 : decode cX5_number 4 = .ok (.bipush 48, 2) := by decide +kernel
theorem dX5_number_6 : decode cX5_number 6 = .ok (.isub, 1) := by decide +kernel
theorem dX5_number_7 : decode cX5_number 7 = .ok (.istore_n 1, 1) := by decide +kernel
theorem dX5_number_8 : decode cX5_number 8 = .ok (.aload_n 0, 1) := by decide +kernel
theorem dX5_number_9 : decode cX5_number 9 = .ok (.aload_n 0, 1) := by decide +kernel
theorem dX5_number_10 : decode cX5_number 10 = .ok (.getfield 155, 3) := by decide +kernel
theorem dX5_number_13 : decode cX5_number 13 = .ok (.ifCond .ne 13, 3) := by decide +kernel
theorem dX5_number_16 : decode cX5_number 16 = .ok (.iload_n 1, 1) := by decide +kernel
theorem dX5_number_17 : decode cX5_number 17 = .ok (.iconst 0, 1) := by decide +kernel
theorem dX5_number_18 : decode cX5_number 18 = .ok (.bipush 9, 2) := by decide +kernel
theorem dX5_number_20 : decode cX5_number 20 = .ok (.invokestatic 43, 3) := by decide +kernel
theorem dX5_number_23 : decode cX5_number 23 = .ok (.ifCond .ne 7, 3) := by decide +kernel
theorem dX5_number_26 : decode cX5_number 26 = .ok (.iconst 1, 1) := by decide +kernel
theorem dX5_number_27 : decode cX5_number 27 = .ok (.goto 4, 3) := by decide +kernel
theorem dX5_number_30 : decode cX5_number 30 = .ok (.iconst 0, 1) := by decide +kernel
theorem dX5_number_31 : decode cX5_number 31 = .ok (.putfield 155, 3) := by decide +kernel
theorem dX5_number_34 : decode cX5_number 34 = .ok (.aload_n 0, 1) := by decide +kernel
theorem dX5_number_35 : decode cX5_number 35 = .ok (.dup, 1) := by decide +kernel
theorem dX5_number_36 : decode cX5_number 36 = .ok (.getfield 149, 3) := by decide +kernel
theorem dX5_number_39 : decode cX5_number 39 = .ok (.aload_n 0, 1) := by decide +kernel
theorem dX5_number_40 : decode cX5_number 40 = .ok (.getfield 155, 3) := by decide +kernel
theorem dX5_number_43 : decode cX5_number 43 = .ok (.ifCond .eq 7, 3) := by decide +kernel
theorem dX5_number_46 : decode cX5_number 46 = .ok (.iconst 0, 1) := by decide +kernel
theorem dX5_number_47 : decode cX5_number 47 = .ok (.goto 4, 3) := by decide +kernel
theorem dX5_number_50 : decode cX5_number 50 = .ok (.iconst 1, 1) := by decide +kernel
theorem dX5_number_51 : decode cX5_number 51 = .ok (.iadd, 1) := by decide +kernel
theorem dX5_number_52 : decode cX5_number 52 = .ok (.putfield 149, 3) := by decide +kernel
theorem dX5_number_55 : decode cX5_number 55 = .ok (.aload_n 0, 1) := by decide +kernel
theorem dX5_number_56 : decode cX5_number 56 = .ok (.getfield 155, 3) := by decide +kernel
theorem dX5_number_59 : decode cX5_number 59 = .ok (.ifCond .ne 64, 3) := by decide +kernel
theorem dX5_number_62 : decode cX5_number 62 = .ok (.iload_n 1, 1) := by decide +kernel
theorem dX5_number_63 : decode cX5_number 63 = .ok (.ifCond .le 60, 3) := by decide +kernel
theorem dX5_number_66 : decode cX5_number 66 = .ok (.aload_n 0, 1) := by decide +kernel
theorem dX5_number_67 : decode cX5_number 67 = .ok (.invokevirtual 152, 3) := by decide +kernel
theorem dX5_number_70 : decode cX5_number 70 = .ok (.bipush 48, 2) := by decide +kernel
theorem dX5_number_72 : decode cX5_number 72 = .ok (.bipush 57, 2) := by decide +kernel
theorem dX5_number_74 : decode cX5_number 74 = .ok (.invokestatic 43, 3) := by decide +kernel
theorem dX5_number_77 : decode cX5_number 77 = .ok (.ifCond .eq 46, 3) := by decide +kernel
theorem dX5_number_80 : decode cX5_number 80 = .ok (.bipush 10, 2) := by decide +kernel
theorem dX5_number_82 : decode cX5_number 82 = .ok (.iload_n 1, 1) := by decide +kernel
theorem dX5_number_83 : decode cX5_number 83 = .ok (.imul, 1) := by decide +kernel
theorem dX5_number_84 : decode cX5_number 84 = .ok (.aload_n 0, 1) := by decide +kernel
theorem dX5_number_85 : decode cX5_number 85 = .ok (.invokevirtual 152, 3) := by decide +kernel
theorem dX5_number_88 : decode cX5_number 88 = .ok (.iadd, 1) := by decide +kernel
theorem dX5_number_89 : decode cX5_number 89 = .ok (.bipush 48, 2) := by decide +kernel
theorem dX5_number_91 : decode cX5_number 91 = .ok (.isub, 1) := by decide +kernel
theorem dX5_number_92 : decode cX5_number 92 = .ok (.ldc 158, 2) := by decide +kernel
theorem dX5_number_94 : decode cX5_number 94 = .ok (.if_icmp .gt 29, 3) := by decide +kernel
theorem dX5_number_97 : decode cX5_number 97 = .ok (.bipush 10, 2) := by decide +kernel
theorem dX5_number_99 : decode cX5_number 99 = .ok (.iload_n 1, 1) := by decide +kernel
theorem dX5_number_100 : decode cX5_number 100 = .ok (.imul, 1) := by decide +kernel
theorem dX5_number_101 : decode cX5_number 101 = .ok (.aload_n 0, 1) := by decide +kernel
theorem dX5_number_102 : decode cX5_number 102 = .ok (.invokevirtual 152, 3) := by decide +kernel
theorem dX5_number_105 : decode cX5_number 105 = .ok (.iadd, 1) := by decide +kernel
theorem dX5_number_106 : decode cX5_number 106 = .ok (.bipush 48, 2) := by decide +kernel
theorem dX5_number_108 : decode cX5_number 108 = .ok (.isub, 1) := by decide +kernel
theorem dX5_number_109 : decode cX5_number 109 = .ok (.istore_n 1, 1) := by decide +kernel
theorem dX5_number_110 : decode cX5_number 110 = .ok (.aload_n 0, 1) := by decide +kernel
theorem dX5_number_111 : decode cX5_number 111 = .ok (.dup, 1) := by decide +kernel
theorem dX5_number_112 : decode cX5_number 112 = .ok (.getfield 149, 3) := by decide +kernel
theorem dX5_number_115 : decode cX5_number 115 = .ok (.iconst 1, 1) := by decide +kernel
theorem dX5_number_116 : decode cX5_number 116 = .ok (.iadd, 1) := by decide +kernel
theorem dX5_number_117 : decode cX5_number 117 = .ok (.putfield 149, 3) := by decide +kernel
theorem dX5_number_120 : decode cX5_number 120 = .ok (.goto (-65), 3) := by decide +kernel
theorem dX5_number_123 : decode cX5_number 123 = .ok (.iload_n 1, 1) := by decide +kernel
theorem dX5_number_124 : decode cX5_number 124 = .ok (.ireturn, 1) := by decide +kernel
theorem dX5_readOne_0 : decode cX5_readOne 0 = .ok (.iconst 3, 1) := by decide +kernel
theorem dX5_readOne_1 : decode cX5_readOne 1 = .ok (.aload_n 0, 1) := by decide +kernel
theorem dX5_readOne_2 : decode cX5_readOne 2 = .ok (.getfield 159, 3) := by decide +kernel
theorem dX5_readOne_5 : decode cX5_readOne 5 = .ok (.imul, 1) := by decide +kernel
theorem dX5_readOne_6 : decode cX5_readOne 6 = .ok (.istore_n 1, 1) := by decide +kernel
theorem dX5_readOne_7 : decode cX5_readOne 7 = .ok (.aload_n 0, 1) := by decide +kernel
theorem dX5_readOne_8 : decode cX5_readOne 8 = .ok (.invokevirtual 152, 3) := by decide +kernel
theorem dX5_readOne_11 : decode cX5_readOne 11 = .ok (.istore_n 2, 1) := by decide +kernel
theorem dX5_readOne_12 : decode cX5_readOne 12 = .ok (.aload_n 0, 1) := by decide +kernel
theorem dX5_readOne_13 : decode cX5_readOne 13 = .ok (.getfield 32, 3) := by decide +kernel
theorem dX5_readOne_16 : decode cX5_readOne 16 = .ok (.iload_n 1, 1) := by decide +kernel
theorem dX5_readOne_17 : decode cX5_readOne 17 = .ok (.iload_n 2, 1) := by decide +kernel
theorem dX5_readOne_18 : decode cX5_readOne 18 = .ok (.iastore, 1) := by decide +kernel
theorem dX5_readOne_19 : decode cX5_readOne 19 = .ok (.aload_n 0, 1) := by decide +kernel
theorem dX5_readOne_20 : decode cX5_readOne 20 = .ok (.iload_n 2, 1) := by decide +kernel
theorem dX5_readOne_21 : decode cX5_readOne 21 = .ok (.bipush 103, 2) := by decide +kernel
theorem dX5_readOne_23 : decode cX5_readOne 23 = .ok (.if_icmp .eq 31, 3) := by decide +kernel
theorem dX5_readOne_26 : decode cX5_readOne 26 = .ok (.iload_n 2, 1) := by decide +kernel
theorem dX5_readOne_27 : decode cX5_readOne 27 = .ok (.bipush 104, 2) := by decide +kernel
theorem dX5_readOne_29 : decode cX5_readOne 29 = .ok (.if_icmp .eq 25, 3) := by decide +kernel
theorem dX5_readOne_32 : decode cX5_readOne 32 = .ok (.iload_n 2, 1) := by decide +kernel
theorem dX5_readOne_33 : decode cX5_readOne 33 = .ok (.bipush 116, 2) := by decide +kernel
theorem dX5_readOne_35 : decode cX5_readOne 35 = .ok (.if_icmp .eq 19, 3) := by decide +kernel
theorem dX5_readOne_38 : decode cX5_readOne 38 = .ok (.iload_n 2, 1) := by decide +kernel
theorem dX5_readOne_39 : decode cX5_readOne 39 = .ok (.bipush 112, 2) := by decide +kernel
theorem dX5_readOne_41 : decode cX5_readOne 41 = .ok (.if_icmp .eq 13, 3) := by decide +kernel
theorem dX5_readOne_44 : decode cX5_readOne 44 = .ok (.iload_n 2, 1) := by decide +kernel
theorem dX5_readOne_45 : decode cX5_readOne 45 = .ok (.bipush 100, 2) := by decide +kernel
theorem dX5_readOne_47 : decode cX5_readOne 47 = .ok (.if_icmp .eq 7, 3) := by decide +kernel
theorem dX5_readOne_50 : decode cX5_readOne 50 = .ok (.iconst 1, 1) := by decide +kernel
theorem dX5_readOne_51 : decode cX5_readOne 51 = .ok (.goto 4, 3) := by decide +kernel
theorem dX5_readOne_54 : decode cX5_readOne 54 = .ok (.iconst 0, 1) := by decide +kernel
theorem dX5_readOne_55 : decode cX5_readOne 55 = .ok (.putfield 155, 3) := by decide +kernel
theorem dX5_readOne_58 : decode cX5_readOne 58 = .ok (.aload_n 0, 1) := by decide +kernel
theorem dX5_readOne_59 : decode cX5_readOne 59 = .ok (.getfield 155, 3) := by decide +kernel
theorem dX5_readOne_62 : decode cX5_readOne 62 = .ok (.ifCond .eq 4, 3) := by decide +kernel
theorem dX5_readOne_65 : decode cX5_readOne 65 = .ok (.return_, 1) := by decide +kernel
theorem dX5_readOne_66 : decode cX5_readOne 66 = .ok (.aload_n 0, 1) := by decide +kernel
theorem dX5_readOne_67 : decode cX5_readOne 67 = .ok (.dup, 1) := by decide +kernel
theorem dX5_readOne_68 : decode cX5_readOne 68 = .ok (.getfield 149, 3) := by decide +kernel
theorem dX5_readOne_71 : decode cX5_readOne 71 = .ok (.iconst 1, 1) := by decide +kernel
theorem dX5_readOne_72 : decode cX5_readOne 72 = .ok (.iadd, 1) := by decide +kernel
theorem dX5_readOne_73 : decode cX5_readOne 73 = .ok (.putfield 149, 3) := by decide +kernel
theorem dX5_readOne_76 : decode cX5_readOne 76 = .ok (.aload_n 0, 1) := by decide +kernel
theorem dX5_readOne_77 : decode cX5_readOne 77 = .ok (.getfield 32, 3) := by decide +kernel
theorem dX5_readOne_80 : decode cX5_readOne 80 = .ok (.iload_n 1, 1) := by decide +kernel
theorem dX5_readOne_81 : decode cX5_readOne 81 = .ok (.iconst 1, 1) := by decide +kernel
theorem dX5_readOne_82 : decode cX5_readOne 82 = .ok (.iadd, 1) := by decide +kernel
theorem dX5_readOne_83 : decode cX5_readOne 83 = .ok (.iload_n 2, 1) := by decide +kernel
theorem dX5_readOne_84 : decode cX5_readOne 84 = .ok (.bipush 104, 2) := by decide +kernel
theorem dX5_readOne_86 : decode cX5_readOne 86 = .ok (.if_icmp .ne 7, 3) := by decide +kernel
theorem dX5_readOne_89 : decode cX5_readOne 89 = .ok (.iconst 0, 1) := by decide +kernel
theorem dX5_readOne_90 : decode cX5_readOne 90 = .ok (.goto 7, 3) := by decide +kernel
theorem dX5_readOne_93 : decode cX5_readOne 93 = .ok (.aload_n 0, 1) := by decide +kernel
theorem dX5_readOne_94 : decode cX5_readOne 94 = .ok (.invokevirtual 162, 3) := by decide +kernel
theorem dX5_readOne_97 : decode cX5_readOne 97 = .ok (.iastore, 1) := by decide +kernel
theorem dX5_readOne_98 : decode cX5_readOne 98 = .ok (.iload_n 2, 1) := by decide +kernel
theorem dX5_readOne_99 : decode cX5_readOne 99 = .ok (.bipush 112, 2) := by decide +kernel
theorem dX5_readOne_101 : decode cX5_readOne 101 = .ok (.if_icmp .ne 72, 3) := by decide +kernel
theorem dX5_readOne_104 : decode cX5_readOne 104 = .ok (.aload_n 0, 1) := by decide +kernel
theorem dX5_readOne_105 : decode cX5_readOne 105 = .ok (.getfield 155, 3) := by decide +kernel
theorem dX5_readOne_108 : decode cX5_readOne 108 = .ok (.ifCond .ne 65, 3) := by decide +kernel
theorem dX5_readOne_111 : decode cX5_readOne 111 = .ok (.aload_n 0, 1) := by decide +kernel
theorem dX5_readOne_112 : decode cX5_readOne 112 = .ok (.aload_n 0, 1) := by decide +kernel
theorem dX5_readOne_113 : decode cX5_readOne 113 = .ok (.invokevirtual 152, 3) := by decide +kernel
theorem dX5_readOne_116 : decode cX5_readOne 116 = .ok (.bipush 61, 2) := by decide +kernel
theorem dX5_readOne_118 : decode cX5_readOne 118 = .ok (.if_icmp .eq 7, 3) := by decide +kernel
theorem dX5_readOne_121 : decode cX5_readOne 121 = .ok (.iconst 1, 1) := by decide +kernel
theorem dX5_readOne_122 : decode cX5_readOne 122 = .ok (.goto 4, 3) := by decide +kernel
theorem dX5_readOne_125 : decode cX5_readOne 125 = .ok (.iconst 0, 1) := by decide +kernel
theorem dX5_readOne_126 : decode cX5_readOne 126 = .ok (.putfield 155, 3) := by decide +kernel
theorem dX5_readOne_129 : decode cX5_readOne 129 = .ok (.aload_n 0, 1) := by decide +kernel
theorem dX5_readOne_130 : decode cX5_readOne 130 = .ok (.dup, 1) := by decide +kernel
theorem dX5_readOne_131 : decode cX5_readOne 131 = .ok (.getfield 149, 3) := by decide +kernel
theorem dX5_readOne_134 : decode cX5_readOne 134 = .ok (.aload_n 0, 1) := by decide +kernel
theorem dX5_readOne_135 : decode cX5_readOne 135 = .ok (.getfield 155, 3) := by decide +kernel
theorem dX5_readOne_138 : decode cX5_readOne 138 = .ok (.ifCond .eq 7, 3) := by decide +kernel
theorem dX5_readOne_141 : decode cX5_readOne 141 = .ok (.iconst 0, 1) := by decide +kernel
theorem dX5_readOne_142 : decode cX5_readOne 142 = .ok (.goto 4, 3) := by decide +kernel
theorem dX5_readOne_145 : decode cX5_readOne 145 = .ok (.iconst 1, 1) := by decide +kernel
theorem dX5_readOne_146 : decode cX5_readOne 146 = .ok (.iadd, 1) := by decide +kernel
theorem dX5_readOne_147 : decode cX5_readOne 147 = .ok (.putfield 149, 3) := by decide +kernel
theorem dX5_readOne_150 : decode cX5_readOne 150 = .ok (.aload_n 0, 1) := by decide +kernel
theorem dX5_readOne_151 : decode cX5_readOne 151 = .ok (.getfield 32, 3) := by decide +kernel
theorem dX5_readOne_154 : decode cX5_readOne 154 = .ok (.iload_n 1, 1) := by decide +kernel
theorem dX5_readOne_155 : decode cX5_readOne 155 = .ok (.iconst 2, 1) := by decide +kernel
theorem dX5_readOne_156 : decode cX5_readOne 156 = .ok (.iadd, 1) := by decide +kernel
theorem dX5_readOne_157 : decode cX5_readOne 157 = .ok (.aload_n 0, 1) := by decide +kernel
theorem dX5_readOne_158 : decode cX5_readOne 158 = .ok (.getfield 155, 3) := by decide +kernel
theorem dX5_readOne_161 : decode cX5_readOne 161 = .ok (.ifCond .eq 7, 3) := by decide +kernel
theorem dX5_readOne_164 : decode cX5_readOne 164 = .ok (.iconst 0, 1) := by decide +kernel
theorem dX5_readOne_165 : decode cX5_readOne 165 = .ok (.goto 7, 3) := by decide +kernel
theorem dX5_readOne_168 : decode cX5_readOne 168 = .ok (.aload_n 0, 1) := by decide +kernel
theorem dX5_readOne_169 : decode cX5_readOne 169 = .ok (.invokevirtual 162, 3) := by decide +kernel
theorem dX5_readOne_172 : decode cX5_readOne 172 = .ok (.iastore, 1) := by decide +kernel
theorem dX5_readOne_173 : decode cX5_readOne 173 = .ok (.aload_n 0, 1) := by decide +kernel
theorem dX5_readOne_174 : decode cX5_readOne 174 = .ok (.dup, 1) := by decide +kernel
theorem dX5_readOne_175 : decode cX5_readOne 175 = .ok (.getfield 159, 3) := by decide +kernel
theorem dX5_readOne_178 : decode cX5_readOne 178 = .ok (.iconst 1, 1) := by decide +kernel
theorem dX5_readOne_179 : decode cX5_readOne 179 = .ok (.iadd, 1) := by decide +kernel
theorem dX5_readOne_180 : decode cX5_readOne 180 = .ok (.putfield 159, 3) := by decide +kernel
theorem dX5_readOne_183 : decode cX5_readOne 183 = .ok (.return_, 1) := by decide +kernel
theorem dX5_faultOf_0 : decode cX5_faultOf 0 = .ok (.aload_n 0, 1) := by decide +kernel
theorem dX5_faultOf_1 : decode cX5_faultOf 1 = .ok (.iconst 0, 1) := by decide +kernel
theorem dX5_faultOf_2 : decode cX5_faultOf 2 = .ok (.putfield 149, 3) := by decide +kernel
theorem dX5_faultOf_5 : decode cX5_faultOf 5 = .ok (.aload_n 0, 1) := by decide +kernel
theorem dX5_faultOf_6 : decode cX5_faultOf 6 = .ok (.iconst 0, 1) := by decide +kernel
theorem dX5_faultOf_7 : decode cX5_faultOf 7 = .ok (.putfield 159, 3) := by decide +kernel
theorem dX5_faultOf_10 : decode cX5_faultOf 10 = .ok (.aload_n 0, 1) := by decide +kernel
theorem dX5_faultOf_11 : decode cX5_faultOf 11 = .ok (.iconst 0, 1) := by decide +kernel
theorem dX5_faultOf_12 : decode cX5_faultOf 12 = .ok (.putfield 155, 3) := by decide +kernel
theorem dX5_faultOf_15 : decode cX5_faultOf 15 = .ok (.aload_n 0, 1) := by decide +kernel
theorem dX5_faultOf_16 : decode cX5_faultOf 16 = .ok (.invokevirtual 165, 3) := by decide +kernel
theorem dX5_faultOf_19 : decode cX5_faultOf 19 = .ok (.aload_n 0, 1) := by decide +kernel
theorem dX5_faultOf_20 : decode cX5_faultOf 20 = .ok (.getfield 155, 3) := by decide +kernel
theorem dX5_faultOf_23 : decode cX5_faultOf 23 = .ok (.ifCond .ne 56, 3) := by decide +kernel
theorem dX5_faultOf_26 : decode cX5_faultOf 26 = .ok (.aload_n 0, 1) := by decide +kernel
theorem dX5_faultOf_27 : decode cX5_faultOf 27 = .ok (.getfield 149, 3) := by decide +kernel
theorem dX5_faultOf_30 : decode cX5_faultOf 30 = .ok (.aload_n 0, 1) := by decide +kernel
theorem dX5_faultOf_31 : decode cX5_faultOf 31 = .ok (.getfield 133, 3) := by decide +kernel
theorem dX5_faultOf_34 : decode cX5_faultOf 34 = .ok (.if_icmp .ge 45, 3) := by decide +kernel
theorem dX5_faultOf_37 : decode cX5_faultOf 37 = .ok (.aload_n 0, 1) := by decide +kernel
theorem dX5_faultOf_38 : decode cX5_faultOf 38 = .ok (.aload_n 0, 1) := by decide +kernel
theorem dX5_faultOf_39 : decode cX5_faultOf 39 = .ok (.invokevirtual 152, 3) := by decide +kernel
theorem dX5_faultOf_42 : decode cX5_faultOf 42 = .ok (.bipush 59, 2) := by decide +kernel
theorem dX5_faultOf_44 : decode cX5_faultOf 44 = .ok (.if_icmp .eq 7, 3) := by decide +kernel
theorem dX5_faultOf_47 : decode cX5_faultOf 47 = .ok (.iconst 1, 1) := by decide +kernel
theorem dX5_faultOf_48 : decode cX5_faultOf 48 = .ok (.goto 4, 3) := by decide +kernel
theorem dX5_faultOf_51 : decode cX5_faultOf 51 = .ok (.iconst 0, 1) := by decide +kernel
theorem dX5_faultOf_52 : decode cX5_faultOf 52 = .ok (.putfield 155, 3) := by decide +kernel
theorem dX5_faultOf_55 : decode cX5_faultOf 55 = .ok (.aload_n 0, 1) := by decide +kernel
theorem dX5_faultOf_56 : decode cX5_faultOf 56 = .ok (.getfield 155, 3) := by decide +kernel
theorem dX5_faultOf_59 : decode cX5_faultOf 59 = .ok (.ifCond .ne (-40), 3) := by decide +kernel
theorem dX5_faultOf_62 : decode cX5_faultOf 62 = .ok (.aload_n 0, 1) := by decide +kernel
theorem dX5_faultOf_63 : decode cX5_faultOf 63 = .ok (.dup, 1) := by decide +kernel
theorem dX5_faultOf_64 : decode cX5_faultOf 64 = .ok (.getfield 149, 3) := by decide +kernel
theorem dX5_faultOf_67 : decode cX5_faultOf 67 = .ok (.iconst 1, 1) := by decide +kernel
theorem dX5_faultOf_68 : decode cX5_faultOf 68 = .ok (.iadd, 1) := by decide +kernel
theorem dX5_faultOf_69 : decode cX5_faultOf 69 = .ok (.putfield 149, 3) := by decide +kernel
theorem dX5_faultOf_72 : decode cX5_faultOf 72 = .ok (.aload_n 0, 1) := by decide +kernel
theorem dX5_faultOf_73 : decode cX5_faultOf 73 = .ok (.invokevirtual 165, 3) := by decide +kernel
theorem dX5_faultOf_76 : decode cX5_faultOf 76 = .ok (.goto (-57), 3) := by decide +kernel
theorem dX5_faultOf_79 : decode cX5_faultOf 79 = .ok (.aload_n 0, 1) := by decide +kernel
theorem dX5_faultOf_80 : decode cX5_faultOf 80 = .ok (.getfield 155, 3) := by decide +kernel
theorem dX5_faultOf_83 : decode cX5_faultOf 83 = .ok (.ifCond .eq 10, 3) := by decide +kernel
theorem dX5_faultOf_86 : decode cX5_faultOf 86 = .ok (.aload_n 0, 1) := by decide +kernel
theorem dX5_faultOf_87 : decode cX5_faultOf 87 = .ok (.getfield 149, 3) := by decide +kernel
theorem dX5_faultOf_90 : decode cX5_faultOf 90 = .ok (.goto 5, 3) := by decide +kernel
theorem dX5_faultOf_93 : decode cX5_faultOf 93 = .ok (.bipush (-6), 2) := by decide +kernel
theorem dX5_faultOf_95 : decode cX5_faultOf 95 = .ok (.ireturn, 1) := by decide +kernel
theorem dX5_put_0 : decode cX5_put 0 = .ok (.iconst 0, 1) := by decide +kernel
theorem dX5_put_1 : decode cX5_put 1 = .ok (.istore_n 3, 1) := by decide +kernel
theorem dX5_put_2 : decode cX5_put 2 = .ok (.lload_n 1, 1) := by decide +kernel
theorem dX5_put_3 : decode cX5_put 3 = .ok (.lstore 4, 2) := by decide +kernel
theorem dX5_put_5 : decode cX5_put 5 = .ok (.lload 4, 2) := by decide +kernel
theorem dX5_put_7 : decode cX5_put 7 = .ok (.ldc2_w 168, 3) := by decide +kernel
theorem dX5_put_10 : decode cX5_put 10 = .ok (.land, 1) := by decide +kernel
theorem dX5_put_11 : decode cX5_put 11 = .ok (.lconst 0, 1) := by decide +kernel
theorem dX5_put_12 : decode cX5_put 12 = .ok (.lcmp, 1) := by decide +kernel
theorem dX5_put_13 : decode cX5_put 13 = .ok (.ifCond .eq 36, 3) := by decide +kernel
theorem dX5_put_16 : decode cX5_put 16 = .ok (.lload 4, 2) := by decide +kernel
theorem dX5_put_18 : decode cX5_put 18 = .ok (.ldc2_w 168, 3) := by decide +kernel
theorem dX5_put_21 : decode cX5_put 21 = .ok (.land, 1) := by decide +kernel
theorem dX5_put_22 : decode cX5_put 22 = .ok (.l2i, 1) := by decide +kernel
theorem dX5_put_23 : decode cX5_put 23 = .ok (.bipush 33, 2) := by decide +kernel
theorem dX5_put_25 : decode cX5_put 25 = .ok (.bipush 126, 2) := by decide +kernel
theorem dX5_put_27 : decode cX5_put 27 = .ok (.invokestatic 43, 3) := by decide +kernel
theorem dX5_put_30 : decode cX5_put 30 = .ok (.ifCond .ne 6, 3) := by decide +kernel
theorem dX5_put_33 : decode cX5_put 33 = .ok (.bipush (-2), 2) := by decide +kernel
theorem dX5_put_35 : decode cX5_put 35 = .ok (.ireturn, 1) := by decide +kernel
theorem dX5_put_36 : decode cX5_put 36 = .ok (.iinc 3 1, 3) := by decide +kernel
theorem dX5_put_39 : decode cX5_put 39 = .ok (.lload 4, 2) := by decide +kernel
theorem dX5_put_41 : decode cX5_put 41 = .ok (.bipush 8, 2) := by decide +kernel
theorem dX5_put_43 : decode cX5_put 43 = .ok (.lushr, 1) := by decide +kernel
theorem dX5_put_44 : decode cX5_put 44 = .ok (.lstore 4, 2) := by decide +kernel
theorem dX5_put_46 : decode cX5_put 46 = .ok (.goto (-41), 3) := by decide +kernel
theorem dX5_put_49 : decode cX5_put 49 = .ok (.lload 4, 2) := by decide +kernel
theorem dX5_put_51 : decode cX5_put 51 = .ok (.lconst 0, 1) := by decide +kernel
theorem dX5_put_52 : decode cX5_put 52 = .ok (.lcmp, 1) := by decide +kernel
theorem dX5_put_53 : decode cX5_put 53 = .ok (.ifCond .ne 7, 3) := by decide +kernel
theorem dX5_put_56 : decode cX5_put 56 = .ok (.iload_n 3, 1) := by decide +kernel
theorem dX5_put_57 : decode cX5_put 57 = .ok (.ifCond .ne 6, 3) := by decide +kernel
theorem dX5_put_60 : decode cX5_put 60 = .ok (.bipush (-2), 2) := by decide +kernel
theorem dX5_put_62 : decode cX5_put 62 = .ok (.ireturn, 1) := by decide +kernel
theorem dX5_put_63 : decode cX5_put 63 = .ok (.aload_n 0, 1) := by decide +kernel
theorem dX5_put_64 : decode cX5_put 64 = .ok (.getfield 133, 3) := by decide +kernel
theorem dX5_put_67 : decode cX5_put 67 = .ok (.iload_n 3, 1) := by decide +kernel
theorem dX5_put_68 : decode cX5_put 68 = .ok (.iadd, 1) := by decide +kernel
theorem dX5_put_69 : decode cX5_put 69 = .ok (.bipush 60, 2) := by decide +kernel
theorem dX5_put_71 : decode cX5_put 71 = .ok (.if_icmp .le 6, 3) := by decide +kernel
theorem dX5_put_74 : decode cX5_put 74 = .ok (.bipush (-4), 2) := by decide +kernel
theorem dX5_put_76 : decode cX5_put 76 = .ok (.ireturn, 1) := by decide +kernel
theorem dX5_put_77 : decode cX5_put 77 = .ok (.lload_n 1, 1) := by decide +kernel
theorem dX5_put_78 : decode cX5_put 78 = .ok (.lstore 4, 2) := by decide +kernel
theorem dX5_put_80 : decode cX5_put 80 = .ok (.iload_n 3, 1) := by decide +kernel
theorem dX5_put_81 : decode cX5_put 81 = .ok (.iconst 1, 1) := by decide +kernel
theorem dX5_put_82 : decode cX5_put 82 = .ok (.isub, 1) := by decide +kernel
theorem dX5_put_83 : decode cX5_put 83 = .ok (.istore 6, 2) := by decide +kernel
theorem dX5_put_85 : decode cX5_put 85 = .ok (.iload 6, 2) := by decide +kernel
theorem dX5_put_87 : decode cX5_put 87 = .ok (.ifCond .lt 35, 3) := by decide +kernel
theorem dX5_put_90 : decode cX5_put 90 = .ok (.aload_n 0, 1) := by decide +kernel
theorem dX5_put_91 : decode cX5_put 91 = .ok (.getfield 26, 3) := by decide +kernel
theorem dX5_put_94 : decode cX5_put 94 = .ok (.aload_n 0, 1) := by decide +kernel
theorem dX5_put_95 : decode cX5_put 95 = .ok (.getfield 133, 3) := by decide +kernel
theorem dX5_put_98 : decode cX5_put 98 = .ok (.iload 6, 2) := by decide +kernel
theorem dX5_put_100 : decode cX5_put 100 = .ok (.iadd, 1) := by decide +kernel
theorem dX5_put_101 : decode cX5_put 101 = .ok (.lload 4, 2) := by decide +kernel
theorem dX5_put_103 : decode cX5_put 103 = .ok (.ldc2_w 168, 3) := by decide +kernel
theorem dX5_put_106 : decode cX5_put 106 = .ok (.land, 1) := by decide +kernel
theorem dX5_put_107 : decode cX5_put 107 = .ok (.l2i, 1) := by decide +kernel
theorem dX5_put_108 : decode cX5_put 108 = .ok (.iastore, 1) := by decide +kernel
theorem dX5_put_109 : decode cX5_put 109 = .ok (.lload 4, 2) := by decide +kernel
theorem dX5_put_111 : decode cX5_put 111 = .ok (.bipush 8, 2) := by decide +kernel
theorem dX5_put_113 : decode cX5_put 113 = .ok (.lushr, 1) := by decide +kernel
theorem dX5_put_114 : decode cX5_put 114 = .ok (.lstore 4, 2) := by decide +kernel
theorem dX5_put_116 : decode cX5_put 116 = .ok (.iinc 6 (-1), 3) := by decide +kernel
theorem dX5_put_119 : decode cX5_put 119 = .ok (.goto (-34), 3) := by decide +kernel
theorem dX5_put_122 : decode cX5_put 122 = .ok (.aload_n 0, 1) := by decide +kernel
theorem dX5_put_123 : decode cX5_put 123 = .ok (.dup, 1) := by decide +kernel
theorem dX5_put_124 : decode cX5_put 124 = .ok (.getfield 133, 3) := by decide +kernel
theorem dX5_put_127 : decode cX5_put 127 = .ok (.iload_n 3, 1) := by decide +kernel
theorem dX5_put_128 : decode cX5_put 128 = .ok (.iadd, 1) := by decide +kernel
theorem dX5_put_129 : decode cX5_put 129 = .ok (.putfield 133, 3) := by decide +kernel
theorem dX5_put_132 : decode cX5_put 132 = .ok (.aload_n 0, 1) := by decide +kernel
theorem dX5_put_133 : decode cX5_put 133 = .ok (.getfield 133, 3) := by decide +kernel
theorem dX5_put_136 : decode cX5_put 136 = .ok (.ireturn, 1) := by decide +kernel
theorem dX5_wipe_0 : decode cX5_wipe 0 = .ok (.aload_n 0, 1) := by decide +kernel
theorem dX5_wipe_1 : decode cX5_wipe 1 = .ok (.getfield 133, 3) := by decide +kernel
theorem dX5_wipe_4 : decode cX5_wipe 4 = .ok (.istore_n 1, 1) := by decide +kernel
theorem dX5_wipe_5 : decode cX5_wipe 5 = .ok (.aload_n 0, 1) := by decide +kernel
theorem dX5_wipe_6 : decode cX5_wipe 6 = .ok (.iconst 0, 1) := by decide +kernel
theorem dX5_wipe_7 : decode cX5_wipe 7 = .ok (.putfield 133, 3) := by decide +kernel
theorem dX5_wipe_10 : decode cX5_wipe 10 = .ok (.iload_n 1, 1) := by decide +kernel
theorem dX5_wipe_11 : decode cX5_wipe 11 = .ok (.ireturn, 1) := by decide +kernel
theorem dX5_fault_0 : decode cX5_fault 0 = .ok (.aload_n 0, 1) := by decide +kernel
theorem dX5_fault_1 : decode cX5_fault 1 = .ok (.invokevirtual 170, 3) := by decide +kernel
theorem dX5_fault_4 : decode cX5_fault 4 = .ok (.ireturn, 1) := by decide +kernel
theorem dX5_carry_0 : decode cX5_carry 0 = .ok (.aload_n 0, 1) := by decide +kernel
theorem dX5_carry_1 : decode cX5_carry 1 = .ok (.getfield 32, 3) := by decide +kernel
theorem dX5_carry_4 : decode cX5_carry 4 = .ok (.iload_n 1, 1) := by decide +kernel
theorem dX5_carry_5 : decode cX5_carry 5 = .ok (.iconst 1, 1) := by decide +kernel
theorem dX5_carry_6 : decode cX5_carry 6 = .ok (.iadd, 1) := by decide +kernel
theorem dX5_carry_7 : decode cX5_carry 7 = .ok (.iaload, 1) := by decide +kernel
theorem dX5_carry_8 : decode cX5_carry 8 = .ok (.istore_n 2, 1) := by decide +kernel
theorem dX5_carry_9 : decode cX5_carry 9 = .ok (.aload_n 0, 1) := by decide +kernel
theorem dX5_carry_10 : decode cX5_carry 10 = .ok (.getfield 32, 3) := by decide +kernel
theorem dX5_carry_13 : decode cX5_carry 13 = .ok (.iload_n 1, 1) := by decide +kernel
theorem dX5_carry_14 : decode cX5_carry 14 = .ok (.iaload, 1) := by decide +kernel
theorem dX5_carry_15 : decode cX5_carry 15 = .ok (.lookupswitch 72 #[(103, 41), (104, 47), (112, 58), (116, 52)], 41) := by decide +kernel
theorem dX5_carry_56 : decode cX5_carry 56 = .ok (.aload_n 0, 1) := by decide +kernel
theorem dX5_carry_57 : decode cX5_carry 57 = .ok (.iload_n 2, 1) := by decide +kernel
theorem dX5_carry_58 : decode cX5_carry 58 = .ok (.invokevirtual 173, 3) := by decide +kernel
theorem dX5_carry_61 : decode cX5_carry 61 = .ok (.ireturn, 1) := by decide +kernel
theorem dX5_carry_62 : decode cX5_carry 62 = .ok (.aload_n 0, 1) := by decide +kernel
theorem dX5_carry_63 : decode cX5_carry 63 = .ok (.invokevirtual 176, 3) := by decide +kernel
theorem dX5_carry_66 : decode cX5_carry 66 = .ok (.ireturn, 1) := by decide +kernel
theorem dX5_carry_67 : decode cX5_carry 67 = .ok (.aload_n 0, 1) := by decide +kernel
theorem dX5_carry_68 : decode cX5_carry 68 = .ok (.iload_n 2, 1) := by decide +kernel
theorem dX5_carry_69 : decode cX5_carry 69 = .ok (.invokevirtual 179, 3) := by decide +kernel
theorem dX5_carry_72 : decode cX5_carry 72 = .ok (.ireturn, 1) := by decide +kernel
theorem dX5_carry_73 : decode cX5_carry 73 = .ok (.aload_n 0, 1) := by decide +kernel
theorem dX5_carry_74 : decode cX5_carry 74 = .ok (.iload_n 2, 1) := by decide +kernel
theorem dX5_carry_75 : decode cX5_carry 75 = .ok (.aload_n 0, 1) := by decide +kernel
theorem dX5_carry_76 : decode cX5_carry 76 = .ok (.getfield 32, 3) := by decide +kernel
theorem dX5_carry_79 : decode cX5_carry 79 = .ok (.iload_n 1, 1) := by decide +kernel
theorem dX5_carry_80 : decode cX5_carry 80 = .ok (.iconst 2, 1) := by decide +kernel
theorem dX5_carry_81 : decode cX5_carry 81 = .ok (.iadd, 1) := by decide +kernel
theorem dX5_carry_82 : decode cX5_carry 82 = .ok (.iaload, 1) := by decide +kernel
theorem dX5_carry_83 : decode cX5_carry 83 = .ok (.invokevirtual 182, 3) := by decide +kernel
theorem dX5_carry_86 : decode cX5_carry 86 = .ok (.ireturn, 1) := by decide +kernel
theorem dX5_carry_87 : decode cX5_carry 87 = .ok (.aload_n 0, 1) := by decide +kernel
theorem dX5_carry_88 : decode cX5_carry 88 = .ok (.iload_n 2, 1) := by decide +kernel
theorem dX5_carry_89 : decode cX5_carry 89 = .ok (.invokevirtual 185, 3) := by decide +kernel
theorem dX5_carry_92 : decode cX5_carry 92 = .ok (.ireturn, 1) := by decide +kernel
theorem dX5_carryOut_0 : decode cX5_carryOut 0 = .ok (.aload_n 0, 1) := by decide +kernel
theorem dX5_carryOut_1 : decode cX5_carryOut 1 = .ok (.invokevirtual 170, 3) := by decide +kernel
theorem dX5_carryOut_4 : decode cX5_carryOut 4 = .ok (.bipush (-6), 2) := by decide +kernel
theorem dX5_carryOut_6 : decode cX5_carryOut 6 = .ok (.if_icmp .eq 6, 3) := by decide +kernel
theorem dX5_carryOut_9 : decode cX5_carryOut 9 = .ok (.bipush (-3), 2) := by decide +kernel
theorem dX5_carryOut_11 : decode cX5_carryOut 11 = .ok (.ireturn, 1) := by decide +kernel
theorem dX5_carryOut_12 : decode cX5_carryOut 12 = .ok (.aload_n 0, 1) := by decide +kernel
theorem dX5_carryOut_13 : decode cX5_carryOut 13 = .ok (.invokevirtual 84, 3) := by decide +kernel
theorem dX5_carryOut_16 : decode cX5_carryOut 16 = .ok (.aload_n 0, 1) := by decide +kernel
theorem dX5_carryOut_17 : decode cX5_carryOut 17 = .ok (.iconst 1, 1) := by decide +kernel
theorem dX5_carryOut_18 : decode cX5_carryOut 18 = .ok (.putfield 35, 3) := by decide +kernel
theorem dX5_carryOut_21 : decode cX5_carryOut 21 = .ok (.iconst 0, 1) := by decide +kernel
theorem dX5_carryOut_22 : decode cX5_carryOut 22 = .ok (.istore_n 1, 1) := by decide +kernel
theorem dX5_carryOut_23 : decode cX5_carryOut 23 = .ok (.iconst 1, 1) := by decide +kernel
theorem dX5_carryOut_24 : decode cX5_carryOut 24 = .ok (.istore_n 2, 1) := by decide +kernel
theorem dX5_carryOut_25 : decode cX5_carryOut 25 = .ok (.iload_n 2, 1) := by decide +kernel
theorem dX5_carryOut_26 : decode cX5_carryOut 26 = .ok (.ifCond .eq 50, 3) := by decide +kernel
theorem dX5_carryOut_29 : decode cX5_carryOut 29 = .ok (.iload_n 1, 1) := by decide +kernel
theorem dX5_carryOut_30 : decode cX5_carryOut 30 = .ok (.aload_n 0, 1) := by decide +kernel
theorem dX5_carryOut_31 : decode cX5_carryOut 31 = .ok (.getfield 159, 3) := by decide +kernel
theorem dX5_carryOut_34 : decode cX5_carryOut 34 = .ok (.if_icmp .ge 42, 3) := by decide +kernel
theorem dX5_carryOut_37 : decode cX5_carryOut 37 = .ok (.aload_n 0, 1) := by decide +kernel
theorem dX5_carryOut_38 : decode cX5_carryOut 38 = .ok (.iconst 3, 1) := by decide +kernel
theorem dX5_carryOut_39 : decode cX5_carryOut 39 = .ok (.iload_n 1, 1) := by decide +kernel
theorem dX5_carryOut_40 : decode cX5_carryOut 40 = .ok (.imul, 1) := by decide +kernel
theorem dX5_carryOut_41 : decode cX5_carryOut 41 = .ok (.invokevirtual 188, 3) := by decide +kernel
theorem dX5_carryOut_44 : decode cX5_carryOut 44 = .ok (.istore_n 3, 1) := by decide +kernel
theorem dX5_carryOut_45 : decode cX5_carryOut 45 = .ok (.iload_n 3, 1) := by decide +kernel
theorem dX5_carryOut_46 : decode cX5_carryOut 46 = .ok (.ifCond .ge 9, 3) := by decide +kernel
theorem dX5_carryOut_49 : decode cX5_carryOut 49 = .ok (.iload_n 3, 1) := by decide +kernel
theorem dX5_carryOut_50 : decode cX5_carryOut 50 = .ok (.bipush (-6), 2) := by decide +kernel
theorem dX5_carryOut_52 : decode cX5_carryOut 52 = .ok (.if_icmp .ne 7, 3) := by decide +kernel
theorem dX5_carryOut_55 : decode cX5_carryOut 55 = .ok (.iconst 1, 1) := by decide +kernel
theorem dX5_carryOut_56 : decode cX5_carryOut 56 = .ok (.goto 4, 3) := by decide +kernel
theorem dX5_carryOut_59 : decode cX5_carryOut 59 = .ok (.iconst 0, 1) := by decide +kernel
theorem dX5_carryOut_60 : decode cX5_carryOut 60 = .ok (.istore_n 2, 1) := by decide +kernel
theorem dX5_carryOut_61 : decode cX5_carryOut 61 = .ok (.iload_n 1, 1) := by decide +kernel
theorem dX5_carryOut_62 : decode cX5_carryOut 62 = .ok (.iload_n 2, 1) := by decide +kernel
theorem dX5_carryOut_63 : decode cX5_carryOut 63 = .ok (.ifCond .eq 7, 3) := by decide +kernel
theorem dX5_carryOut_66 : decode cX5_carryOut 66 = .ok (.iconst 1, 1) := by decide +kernel
theorem dX5_carryOut_67 : decode cX5_carryOut 67 = .ok (.goto 4, 3) := by decide +kernel
theorem dX5_carryOut_70 : decode cX5_carryOut 70 = .ok (.iconst 0, 1) := by decide +kernel
theorem dX5_carryOut_71 : decode cX5_carryOut 71 = .ok (.iadd, 1) := by decide +kernel
theorem dX5_carryOut_72 : decode cX5_carryOut 72 = .ok (.istore_n 1, 1) := by decide +kernel
theorem dX5_carryOut_73 : decode cX5_carryOut 73 = .ok (.goto (-48), 3) := by decide +kernel
theorem dX5_carryOut_76 : decode cX5_carryOut 76 = .ok (.aload_n 0, 1) := by decide +kernel
theorem dX5_carryOut_77 : decode cX5_carryOut 77 = .ok (.iconst 0, 1) := by decide +kernel
theorem dX5_carryOut_78 : decode cX5_carryOut 78 = .ok (.putfield 35, 3) := by decide +kernel
theorem dX5_carryOut_81 : decode cX5_carryOut 81 = .ok (.aload_n 0, 1) := by decide +kernel
theorem dX5_carryOut_82 : decode cX5_carryOut 82 = .ok (.iconst 0, 1) := by decide +kernel
theorem dX5_carryOut_83 : decode cX5_carryOut 83 = .ok (.putfield 133, 3) := by decide +kernel
theorem dX5_carryOut_86 : decode cX5_carryOut 86 = .ok (.iload_n 1, 1) := by decide +kernel
theorem dX5_carryOut_87 : decode cX5_carryOut 87 = .ok (.ireturn, 1) := by decide +kernel
theorem dX5_undo_0 : decode cX5_undo 0 = .ok (.aload_n 0, 1) := by decide +kernel
theorem dX5_undo_1 : decode cX5_undo 1 = .ok (.getfield 39, 3) := by decide +kernel
theorem dX5_undo_4 : decode cX5_undo 4 = .ok (.ifCond .ne 6, 3) := by decide +kernel
theorem dX5_undo_7 : decode cX5_undo 7 = .ok (.bipush (-5), 2) := by decide +kernel
theorem dX5_undo_9 : decode cX5_undo 9 = .ok (.ireturn, 1) := by decide +kernel
theorem dX5_undo_10 : decode cX5_undo 10 = .ok (.aload_n 0, 1) := by decide +kernel
theorem dX5_undo_11 : decode cX5_undo 11 = .ok (.dup, 1) := by decide +kernel
theorem dX5_undo_12 : decode cX5_undo 12 = .ok (.getfield 39, 3) := by decide +kernel
theorem dX5_undo_15 : decode cX5_undo 15 = .ok (.iconst 1, 1) := by decide +kernel
theorem dX5_undo_16 : decode cX5_undo 16 = .ok (.isub, 1) := by decide +kernel
theorem dX5_undo_17 : decode cX5_undo 17 = .ok (.putfield 39, 3) := by decide +kernel
theorem dX5_undo_20 : decode cX5_undo 20 = .ok (.iconst 0, 1) := by decide +kernel
theorem dX5_undo_21 : decode cX5_undo 21 = .ok (.istore_n 1, 1) := by decide +kernel
theorem dX5_undo_22 : decode cX5_undo 22 = .ok (.iload_n 1, 1) := by decide +kernel
theorem dX5_undo_23 : decode cX5_undo 23 = .ok (.sipush 150, 3) := by decide +kernel
theorem dX5_undo_26 : decode cX5_undo 26 = .ok (.if_icmp .ge 30, 3) := by decide +kernel
theorem dX5_undo_29 : decode cX5_undo 29 = .ok (.aload_n 0, 1) := by decide +kernel
theorem dX5_undo_30 : decode cX5_undo 30 = .ok (.getfield 7, 3) := by decide +kernel
theorem dX5_undo_33 : decode cX5_undo 33 = .ok (.iload_n 1, 1) := by decide +kernel
theorem dX5_undo_34 : decode cX5_undo 34 = .ok (.aload_n 0, 1) := by decide +kernel
theorem dX5_undo_35 : decode cX5_undo 35 = .ok (.getfield 16, 3) := by decide +kernel
theorem dX5_undo_38 : decode cX5_undo 38 = .ok (.aload_n 0, 1) := by decide +kernel
theorem dX5_undo_39 : decode cX5_undo 39 = .ok (.getfield 39, 3) := by decide +kernel
theorem dX5_undo_42 : decode cX5_undo 42 = .ok (.sipush 150, 3) := by decide +kernel
theorem dX5_undo_45 : decode cX5_undo 45 = .ok (.imul, 1) := by decide +kernel
theorem dX5_undo_46 : decode cX5_undo 46 = .ok (.iload_n 1, 1) := by decide +kernel
theorem dX5_undo_47 : decode cX5_undo 47 = .ok (.iadd, 1) := by decide +kernel
theorem dX5_undo_48 : decode cX5_undo 48 = .ok (.iaload, 1) := by decide +kernel
theorem dX5_undo_49 : decode cX5_undo 49 = .ok (.iastore, 1) := by decide +kernel
theorem dX5_undo_50 : decode cX5_undo 50 = .ok (.iinc 1 1, 3) := by decide +kernel
theorem dX5_undo_53 : decode cX5_undo 53 = .ok (.goto (-31), 3) := by decide +kernel
theorem dX5_undo_56 : decode cX5_undo 56 = .ok (.aload_n 0, 1) := by decide +kernel
theorem dX5_undo_57 : decode cX5_undo 57 = .ok (.getfield 39, 3) := by decide +kernel
theorem dX5_undo_60 : decode cX5_undo 60 = .ok (.ireturn, 1) := by decide +kernel
theorem dX5_save_0 : decode cX5_save 0 = .ok (.iload_n 1, 1) := by decide +kernel
theorem dX5_save_1 : decode cX5_save 1 = .ok (.iconst 0, 1) := by decide +kernel
theorem dX5_save_2 : decode cX5_save 2 = .ok (.iconst 1, 1) := by decide +kernel
theorem dX5_save_3 : decode cX5_save 3 = .ok (.invokestatic 43, 3) := by decide +kernel
theorem dX5_save_6 : decode cX5_save 6 = .ok (.ifCond .ne 6, 3) := by decide +kernel
theorem dX5_save_9 : decode cX5_save 9 = .ok (.bipush (-2), 2) := by decide +kernel
theorem dX5_save_11 : decode cX5_save 11 = .ok (.ireturn, 1) := by decide +kernel
theorem dX5_save_12 : decode cX5_save 12 = .ok (.iconst 0, 1) := by decide +kernel
theorem dX5_save_13 : decode cX5_save 13 = .ok (.istore_n 2, 1) := by decide +kernel
theorem dX5_save_14 : decode cX5_save 14 = .ok (.iload_n 2, 1) := by decide +kernel
theorem dX5_save_15 : decode cX5_save 15 = .ok (.sipush 150, 3) := by decide +kernel
theorem dX5_save_18 : decode cX5_save 18 = .ok (.if_icmp .ge 27, 3) := by decide +kernel
theorem dX5_save_21 : decode cX5_save 21 = .ok (.aload_n 0, 1) := by decide +kernel
theorem dX5_save_22 : decode cX5_save 22 = .ok (.getfield 19, 3) := by decide +kernel
theorem dX5_save_25 : decode cX5_save 25 = .ok (.iload_n 1, 1) := by decide +kernel
theorem dX5_save_26 : decode cX5_save 26 = .ok (.sipush 150, 3) := by decide +kernel
theorem dX5_save_29 : decode cX5_save 29 = .ok (.imul, 1) := by decide +kernel
theorem dX5_save_30 : decode cX5_save 30 = .ok (.iload_n 2, 1) := by decide +kernel
theorem dX5_save_31 : decode cX5_save 31 = .ok (.iadd, 1) := by decide +kernel
theorem dX5_save_32 : decode cX5_save 32 = .ok (.aload_n 0, 1) := by decide +kernel
theorem dX5_save_33 : decode cX5_save 33 = .ok (.getfield 7, 3) := by decide +kernel
theorem dX5_save_36 : decode cX5_save 36 = .ok (.iload_n 2, 1) := by decide +kernel
theorem dX5_save_37 : decode cX5_save 37 = .ok (.iaload, 1) := by decide +kernel
theorem dX5_save_38 : decode cX5_save 38 = .ok (.iastore, 1) := by decide +kernel
theorem dX5_save_39 : decode cX5_save 39 = .ok (.iinc 2 1, 3) := by decide +kernel
theorem dX5_save_42 : decode cX5_save 42 = .ok (.goto (-28), 3) := by decide +kernel
theorem dX5_save_45 : decode cX5_save 45 = .ok (.aload_n 0, 1) := by decide +kernel
theorem dX5_save_46 : decode cX5_save 46 = .ok (.getfield 22, 3) := by decide +kernel
theorem dX5_save_49 : decode cX5_save 49 = .ok (.iload_n 1, 1) := by decide +kernel
theorem dX5_save_50 : decode cX5_save 50 = .ok (.iconst 1, 1) := by decide +kernel
theorem dX5_save_51 : decode cX5_save 51 = .ok (.bastore, 1) := by decide +kernel
theorem dX5_save_52 : decode cX5_save 52 = .ok (.aload_n 0, 1) := by decide +kernel
theorem dX5_save_53 : decode cX5_save 53 = .ok (.getfield 7, 3) := by decide +kernel
theorem dX5_save_56 : decode cX5_save 56 = .ok (.iconst 2, 1) := by decide +kernel
theorem dX5_save_57 : decode cX5_save 57 = .ok (.iaload, 1) := by decide +kernel
theorem dX5_save_58 : decode cX5_save 58 = .ok (.ireturn, 1) := by decide +kernel
theorem dX5_restore_0 : decode cX5_restore 0 = .ok (.iload_n 1, 1) := by decide +kernel
theorem dX5_restore_1 : decode cX5_restore 1 = .ok (.iconst 0, 1) := by decide +kernel
theorem dX5_restore_2 : decode cX5_restore 2 = .ok (.iconst 1, 1) := by decide +kernel
theorem dX5_restore_3 : decode cX5_restore 3 = .ok (.invokestatic 43, 3) := by decide +kernel
theorem dX5_restore_6 : decode cX5_restore 6 = .ok (.ifCond .ne 6, 3) := by decide +kernel
theorem dX5_restore_9 : decode cX5_restore 9 = .ok (.bipush (-2), 2) := by decide +kernel
theorem dX5_restore_11 : decode cX5_restore 11 = .ok (.ireturn, 1) := by decide +kernel
theorem dX5_restore_12 : decode cX5_restore 12 = .ok (.aload_n 0, 1) := by decide +kernel
theorem dX5_restore_13 : decode cX5_restore 13 = .ok (.getfield 22, 3) := by decide +kernel
theorem dX5_restore_16 : decode cX5_restore 16 = .ok (.iload_n 1, 1) := by decide +kernel
theorem dX5_restore_17 : decode cX5_restore 17 = .ok (.baload, 1) := by decide +kernel
theorem dX5_restore_18 : decode cX5_restore 18 = .ok (.ifCond .ne 6, 3) := by decide +kernel
theorem dX5_restore_21 : decode cX5_restore 21 = .ok (.bipush (-5), 2) := by decide +kernel
theorem dX5_restore_23 : decode cX5_restore 23 = .ok (.ireturn, 1) := by decide +kernel
theorem dX5_restore_24 : decode cX5_restore 24 = .ok (.aload_n 0, 1) := by decide +kernel
theorem dX5_restore_25 : decode cX5_restore 25 = .ok (.invokevirtual 84, 3) := by decide +kernel
theorem dX5_restore_28 : decode cX5_restore 28 = .ok (.iconst 0, 1) := by decide +kernel
theorem dX5_restore_29 : decode cX5_restore 29 = .ok (.istore_n 2, 1) := by decide +kernel
theorem dX5_restore_30 : decode cX5_restore 30 = .ok (.iload_n 2, 1) := by decide +kernel
theorem dX5_restore_31 : decode cX5_restore 31 = .ok (.sipush 150, 3) := by decide +kernel
theorem dX5_restore_34 : decode cX5_restore 34 = .ok (.if_icmp .ge 27, 3) := by decide +kernel
theorem dX5_restore_37 : decode cX5_restore 37 = .ok (.aload_n 0, 1) := by decide +kernel
theorem dX5_restore_38 : decode cX5_restore 38 = .ok (.getfield 7, 3) := by decide +kernel
theorem dX5_restore_41 : decode cX5_restore 41 = .ok (.iload_n 2, 1) := by decide +kernel
theorem dX5_restore_42 : decode cX5_restore 42 = .ok (.aload_n 0, 1) := by decide +kernel
theorem dX5_restore_43 : decode cX5_restore 43 = .ok (.getfield 19, 3) := by decide +kernel
theorem dX5_restore_46 : decode cX5_restore 46 = .ok (.iload_n 1, 1) := by decide +kernel
theorem dX5_restore_47 : decode cX5_restore 47 = .ok (.sipush 150, 3) := by decide +kernel
theorem dX5_restore_50 : decode cX5_restore 50 = .ok (.imul, 1) := by decide +kernel
theorem dX5_restore_51 : decode cX5_restore 51 = .ok (.iload_n 2, 1) := by decide +kernel
theorem dX5_restore_52 : decode cX5_restore 52 = .ok (.iadd, 1) := by decide +kernel
theorem dX5_restore_53 : decode cX5_restore 53 = .ok (.iaload, 1) := by decide +kernel
theorem dX5_restore_54 : decode cX5_restore 54 = .ok (.iastore, 1) := by decide +kernel
theorem dX5_restore_55 : decode cX5_restore 55 = .ok (.iinc 2 1, 3) := by decide +kernel
theorem dX5_restore_58 : decode cX5_restore 58 = .ok (.goto (-28), 3) := by decide +kernel
theorem dX5_restore_61 : decode cX5_restore 61 = .ok (.aload_n 0, 1) := by decide +kernel
theorem dX5_restore_62 : decode cX5_restore 62 = .ok (.getfield 7, 3) := by decide +kernel
theorem dX5_restore_65 : decode cX5_restore 65 = .ok (.iconst 2, 1) := by decide +kernel
theorem dX5_restore_66 : decode cX5_restore 66 = .ok (.iaload, 1) := by decide +kernel
theorem dX5_restore_67 : decode cX5_restore 67 = .ok (.ireturn, 1) := by decide +kernel
end
section
theorem zz_last : True := trivial
end
